/-! THE CLAIM OUT OF ONE WALK OF THE LAW'S BODY. Your part is whole_start (and what it stands on); all else here is the same for every law, but numbers. -/
def R_law : String := "LysimeterFieldLaw"
def lw_P (b : Addr) (xs : List Int32) (args : Array Value) (s : State) : Prop := args = #[.ref b] ∧ s.IntsAt b xs ∧ xs.length ≤ 5 ∧ (Jvm.Cond.and given_1 narrow_1).before args s = true
/-- what a walk over the start with the record d0 says of its end, said of the start itself -/
theorem lw_closed {s t : State} {o : Outcome} {d0 : Drawn} {L : List Loc} {k n : Nat} (hd0 : s.drawn.sameBut d0 lw_cs) (hv : ∃ v, o = .returned v) (hW : (s.setDrawn d0).WarmedH t.vm) (hs : (s.setDrawn d0).sameButNew ({ t with vm := s.vm } : State) L k n) : State.butDraws s t lw_cs (fun t1 => Framed s o t1 L k n) := by
  have h2 : t.drawn = d0 := congrArg State.drawn hs.1
  refine ⟨⟨hv, hW, State.sameButNew.setDrawn hs s.drawn⟩, ?_, by decide⟩
  rw [h2]
  exact hd0
def lw_Q (_ : Array Value) (s : State) (o : Outcome) (t : State) : Prop := o = .returned (some (.int 1)) ∧ State.butDraws s t lw_cs (fun t1 => Framed s o t1 [] 731620 6907171)
def lw_Z (below : List Frame) (a : Array Value) (s : State) : State → Prop := fun t => ∃ o, t.status = .running ∧ Ended t below o ∧ lw_Q a s o t
/-- the law's own end, with 1 on the stack, nothing written that was there before, its room as the claim has it; d0: the record of draws at this point (at the entry s.drawn: begin with 'refine W.base ?_' and 'have hd0 := Drawn.sameBut.refl s.drawn lw_cs') -/
theorem lw_ret {p : Program} {l : Launch} {e : Env} {s : State} {m : MethodId} {below : List Frame} {meth : Method} {c : Code} {b : Nat} {d0 : Drawn} (hd0 : s.drawn.sameBut d0 lw_cs) (hx : p.tables.exec = Jvm.exec) (hb : c.code = code) (hr : meth.sig.returnType = ret) (hlocks : meth.locks = false) {pc : Nat} {H : Heap} {ls : Array Slot} (hdg : decode code pc = .ok (.ireturn, 1)) : W p l e room_1 (s.setDrawn d0) m #[Value.ref b] below meth c H [] 731620 6907171 (lw_Z below #[Value.ref b] s) (F0 m pc ls [.int 1]) := by
  intro T hT X
  obtain ⟨fs, hret, hrun, hended, hW, hframe⟩ := X.leave (v := some (.int 1)) (hlocks := hlocks) (fun h => by rw [hr] at h; cases h)
  have hmeth' : T.vm.method? m = some meth := X.method'
  refine ⟨T.setFrames fs, ?_, .returned (some (.int 1)), hrun, hended, rfl, lw_closed hd0 ⟨_, rfl⟩ hW hframe⟩
  jvm_step X.here [X.here.top, hx, hb, hdg, hmeth', hr, ret, narrow_b1]
  (try refine ⟨rfl, ?_⟩); (try refine ⟨rfl, ?_⟩)
  first | (intro acts; rw [hret _ acts rfl rfl rfl]) | rw [hret _ _ rfl rfl rfl]
  exact Steps.refl _
/-- what holds at the law's entry: the machine, the code, the tables' words (any of lw_tbl by 'hts w (by decide +kernel)'), the script of L ints xs at the cell b, what the Statement gives of the start (any of its parts by flat_of_before) -/
def lw_At (p : Program) (s : State) (m : MethodId) (meth : Method) (c : Code) (b L : Nat) (xs : Nat → Int32) : Prop :=
  p.tables.exec = Jvm.exec ∧ c.code = code ∧ meth.sig.returnType = ret ∧ c.maxLocals = 9 ∧ s.vm.findClass R_law = some m.cls ∧ (∀ w ∈ lw_tbl, w.before #[Value.ref b] s = true) ∧ va_X b L xs s s.heap ∧ b < s.heap.size ∧ meth.locks = false ∧ (Jvm.Cond.and given_1 narrow_1).before #[Value.ref b] s = true

theorem dL_law__0 : decode cL_law_ 0 = .ok (.new 8, 3) := by decide +kernel
theorem dL_law__3 : decode cL_law_ 3 = .ok (.dup, 1) := by decide +kernel
theorem dL_law__4 : decode cL_law_ 4 = .ok (.invokespecial 151, 3) := by decide +kernel
theorem dL_law__7 : decode cL_law_ 7 = .ok (.astore_n 1, 1) := by decide +kernel
theorem dL_law__8 : decode cL_law_ 8 = .ok (.new 152, 3) := by decide +kernel
theorem dL_law__11 : decode cL_law_ 11 = .ok (.dup, 1) := by decide +kernel
theorem dL_law__12 : decode cL_law_ 12 = .ok (.invokespecial 154, 3) := by decide +kernel
theorem dL_law__15 : decode cL_law_ 15 = .ok (.astore_n 2, 1) := by decide +kernel
theorem dL_law__16 : decode cL_law_ 16 = .ok (.iconst 1, 1) := by decide +kernel
theorem dL_law__17 : decode cL_law_ 17 = .ok (.newarray .long, 2) := by decide +kernel
theorem dL_law__19 : decode cL_law_ 19 = .ok (.astore_n 3, 1) := by decide +kernel
theorem dL_law__20 : decode cL_law_ 20 = .ok (.iconst 1, 1) := by decide +kernel
theorem dL_law__21 : decode cL_law_ 21 = .ok (.newarray .double, 2) := by decide +kernel
theorem dL_law__23 : decode cL_law_ 23 = .ok (.astore 4, 2) := by decide +kernel
theorem dL_law__25 : decode cL_law_ 25 = .ok (.iconst 0, 1) := by decide +kernel
theorem dL_law__26 : decode cL_law_ 26 = .ok (.istore 5, 2) := by decide +kernel
theorem dL_law__28 : decode cL_law_ 28 = .ok (.iload 5, 2) := by decide +kernel
theorem dL_law__30 : decode cL_law_ 30 = .ok (.aload_n 0, 1) := by decide +kernel
theorem dL_law__31 : decode cL_law_ 31 = .ok (.arraylength, 1) := by decide +kernel
theorem dL_law__32 : decode cL_law_ 32 = .ok (.iconst 5, 1) := by decide +kernel
theorem dL_law__33 : decode cL_law_ 33 = .ok (.isub, 1) := by decide +kernel
theorem dL_law__34 : decode cL_law_ 34 = .ok (.if_icmp .gt 2822, 3) := by decide +kernel
theorem dL_law__37 : decode cL_law_ 37 = .ok (.aload_n 0, 1) := by decide +kernel
theorem dL_law__38 : decode cL_law_ 38 = .ok (.iload 5, 2) := by decide +kernel
theorem dL_law__40 : decode cL_law_ 40 = .ok (.iaload, 1) := by decide +kernel
theorem dL_law__41 : decode cL_law_ 41 = .ok (.bipush 63, 2) := by decide +kernel
theorem dL_law__43 : decode cL_law_ 43 = .ok (.iand, 1) := by decide +kernel
theorem dL_law__44 : decode cL_law_ 44 = .ok (.tableswitch 2806 0 40 #[180, 238, 320, 400, 468, 536, 604, 672, 752, 808, 876, 967, 1047, 1128, 1195, 1276, 1345, 1400, 1480, 1548, 1604, 1660, 1715, 1770, 1825, 1900, 1968, 2024, 2080, 2148, 2216, 2272, 2328, 2383, 2462, 2542, 2634, 2648, 2714, 2779, 2793], 180) := by decide +kernel
theorem dL_law__224 : decode cL_law_ 224 = .ok (.aload_n 1, 1) := by decide +kernel
theorem dL_law__225 : decode cL_law_ 225 = .ok (.aload_n 0, 1) := by decide +kernel
theorem dL_law__226 : decode cL_law_ 226 = .ok (.iload 5, 2) := by decide +kernel
theorem dL_law__228 : decode cL_law_ 228 = .ok (.iconst 1, 1) := by decide +kernel
theorem dL_law__229 : decode cL_law_ 229 = .ok (.iadd, 1) := by decide +kernel
theorem dL_law__230 : decode cL_law_ 230 = .ok (.iaload, 1) := by decide +kernel
theorem dL_law__231 : decode cL_law_ 231 = .ok (.i2c, 1) := by decide +kernel
theorem dL_law__232 : decode cL_law_ 232 = .ok (.aload_n 3, 1) := by decide +kernel
theorem dL_law__233 : decode cL_law_ 233 = .ok (.invokestatic 155, 3) := by decide +kernel
theorem dL_law__236 : decode cL_law_ 236 = .ok (.istore 6, 2) := by decide +kernel
theorem dL_law__238 : decode cL_law_ 238 = .ok (.aload_n 2, 1) := by decide +kernel
theorem dL_law__239 : decode cL_law_ 239 = .ok (.aload_n 0, 1) := by decide +kernel
theorem dL_law__240 : decode cL_law_ 240 = .ok (.iload 5, 2) := by decide +kernel
theorem dL_law__242 : decode cL_law_ 242 = .ok (.iconst 1, 1) := by decide +kernel
theorem dL_law__243 : decode cL_law_ 243 = .ok (.iadd, 1) := by decide +kernel
theorem dL_law__244 : decode cL_law_ 244 = .ok (.iaload, 1) := by decide +kernel
theorem dL_law__245 : decode cL_law_ 245 = .ok (.i2c, 1) := by decide +kernel
theorem dL_law__246 : decode cL_law_ 246 = .ok (.invokevirtual 160, 3) := by decide +kernel
theorem dL_law__249 : decode cL_law_ 249 = .ok (.istore 7, 2) := by decide +kernel
theorem dL_law__251 : decode cL_law_ 251 = .ok (.aload_n 2, 1) := by decide +kernel
theorem dL_law__252 : decode cL_law_ 252 = .ok (.invokevirtual 161, 3) := by decide +kernel
theorem dL_law__255 : decode cL_law_ 255 = .ok (.iload 6, 2) := by decide +kernel
theorem dL_law__257 : decode cL_law_ 257 = .ok (.if_icmp .eq 5, 3) := by decide +kernel
theorem dL_law__262 : decode cL_law_ 262 = .ok (.iload 6, 2) := by decide +kernel
theorem dL_law__264 : decode cL_law_ 264 = .ok (.ifCond .ne 15, 3) := by decide +kernel
theorem dL_law__267 : decode cL_law_ 267 = .ok (.aload_n 3, 1) := by decide +kernel
theorem dL_law__268 : decode cL_law_ 268 = .ok (.iconst 0, 1) := by decide +kernel
theorem dL_law__269 : decode cL_law_ 269 = .ok (.laload, 1) := by decide +kernel
theorem dL_law__270 : decode cL_law_ 270 = .ok (.iload 7, 2) := by decide +kernel
theorem dL_law__272 : decode cL_law_ 272 = .ok (.i2l, 1) := by decide +kernel
theorem dL_law__273 : decode cL_law_ 273 = .ok (.lcmp, 1) := by decide +kernel
theorem dL_law__274 : decode cL_law_ 274 = .ok (.ifCond .eq 5, 3) := by decide +kernel
theorem dL_law__279 : decode cL_law_ 279 = .ok (.goto 2571, 3) := by decide +kernel
theorem dL_law__282 : decode cL_law_ 282 = .ok (.aload_n 1, 1) := by decide +kernel
theorem dL_law__283 : decode cL_law_ 283 = .ok (.aload_n 0, 1) := by decide +kernel
theorem dL_law__284 : decode cL_law_ 284 = .ok (.iload 5, 2) := by decide +kernel
theorem dL_law__286 : decode cL_law_ 286 = .ok (.iconst 1, 1) := by decide +kernel
theorem dL_law__287 : decode cL_law_ 287 = .ok (.iadd, 1) := by decide +kernel
theorem dL_law__288 : decode cL_law_ 288 = .ok (.iaload, 1) := by decide +kernel
theorem dL_law__289 : decode cL_law_ 289 = .ok (.aload_n 0, 1) := by decide +kernel
theorem dL_law__290 : decode cL_law_ 290 = .ok (.iload 5, 2) := by decide +kernel
theorem dL_law__292 : decode cL_law_ 292 = .ok (.iconst 2, 1) := by decide +kernel
theorem dL_law__293 : decode cL_law_ 293 = .ok (.iadd, 1) := by decide +kernel
theorem dL_law__294 : decode cL_law_ 294 = .ok (.iaload, 1) := by decide +kernel
theorem dL_law__295 : decode cL_law_ 295 = .ok (.i2c, 1) := by decide +kernel
theorem dL_law__296 : decode cL_law_ 296 = .ok (.aload_n 0, 1) := by decide +kernel
theorem dL_law__297 : decode cL_law_ 297 = .ok (.iload 5, 2) := by decide +kernel
theorem dL_law__299 : decode cL_law_ 299 = .ok (.iconst 3, 1) := by decide +kernel
theorem dL_law__300 : decode cL_law_ 300 = .ok (.iadd, 1) := by decide +kernel
theorem dL_law__301 : decode cL_law_ 301 = .ok (.iaload, 1) := by decide +kernel
theorem dL_law__302 : decode cL_law_ 302 = .ok (.aload_n 3, 1) := by decide +kernel
theorem dL_law__303 : decode cL_law_ 303 = .ok (.invokestatic 165, 3) := by decide +kernel
theorem dL_law__306 : decode cL_law_ 306 = .ok (.istore 6, 2) := by decide +kernel
theorem dL_law__308 : decode cL_law_ 308 = .ok (.aload_n 2, 1) := by decide +kernel
theorem dL_law__309 : decode cL_law_ 309 = .ok (.aload_n 0, 1) := by decide +kernel
theorem dL_law__310 : decode cL_law_ 310 = .ok (.iload 5, 2) := by decide +kernel
theorem dL_law__312 : decode cL_law_ 312 = .ok (.iconst 1, 1) := by decide +kernel
theorem dL_law__313 : decode cL_law_ 313 = .ok (.iadd, 1) := by decide +kernel
theorem dL_law__314 : decode cL_law_ 314 = .ok (.iaload, 1) := by decide +kernel
theorem dL_law__315 : decode cL_law_ 315 = .ok (.aload_n 0, 1) := by decide +kernel
theorem dL_law__316 : decode cL_law_ 316 = .ok (.iload 5, 2) := by decide +kernel
theorem dL_law__318 : decode cL_law_ 318 = .ok (.iconst 2, 1) := by decide +kernel
theorem dL_law__319 : decode cL_law_ 319 = .ok (.iadd, 1) := by decide +kernel
theorem dL_law__320 : decode cL_law_ 320 = .ok (.iaload, 1) := by decide +kernel
theorem dL_law__321 : decode cL_law_ 321 = .ok (.i2c, 1) := by decide +kernel
theorem dL_law__322 : decode cL_law_ 322 = .ok (.aload_n 0, 1) := by decide +kernel
theorem dL_law__323 : decode cL_law_ 323 = .ok (.iload 5, 2) := by decide +kernel
theorem dL_law__325 : decode cL_law_ 325 = .ok (.iconst 3, 1) := by decide +kernel
theorem dL_law__326 : decode cL_law_ 326 = .ok (.iadd, 1) := by decide +kernel
theorem dL_law__327 : decode cL_law_ 327 = .ok (.iaload, 1) := by decide +kernel
theorem dL_law__328 : decode cL_law_ 328 = .ok (.invokevirtual 168, 3) := by decide +kernel
theorem dL_law__331 : decode cL_law_ 331 = .ok (.istore 7, 2) := by decide +kernel
theorem dL_law__333 : decode cL_law_ 333 = .ok (.aload_n 2, 1) := by decide +kernel
theorem dL_law__334 : decode cL_law_ 334 = .ok (.invokevirtual 161, 3) := by decide +kernel
theorem dL_law__337 : decode cL_law_ 337 = .ok (.iload 6, 2) := by decide +kernel
theorem dL_law__339 : decode cL_law_ 339 = .ok (.if_icmp .eq 5, 3) := by decide +kernel
theorem dL_law__344 : decode cL_law_ 344 = .ok (.iload 6, 2) := by decide +kernel
theorem dL_law__346 : decode cL_law_ 346 = .ok (.ifCond .ne 15, 3) := by decide +kernel
theorem dL_law__361 : decode cL_law_ 361 = .ok (.goto 2489, 3) := by decide +kernel
theorem dL_law__364 : decode cL_law_ 364 = .ok (.aload_n 1, 1) := by decide +kernel
theorem dL_law__365 : decode cL_law_ 365 = .ok (.aload_n 0, 1) := by decide +kernel
theorem dL_law__366 : decode cL_law_ 366 = .ok (.iload 5, 2) := by decide +kernel
theorem dL_law__368 : decode cL_law_ 368 = .ok (.iconst 1, 1) := by decide +kernel
theorem dL_law__369 : decode cL_law_ 369 = .ok (.iadd, 1) := by decide +kernel
theorem dL_law__370 : decode cL_law_ 370 = .ok (.iaload, 1) := by decide +kernel
theorem dL_law__371 : decode cL_law_ 371 = .ok (.aload_n 0, 1) := by decide +kernel
theorem dL_law__372 : decode cL_law_ 372 = .ok (.iload 5, 2) := by decide +kernel
theorem dL_law__374 : decode cL_law_ 374 = .ok (.iconst 2, 1) := by decide +kernel
theorem dL_law__375 : decode cL_law_ 375 = .ok (.iadd, 1) := by decide +kernel
theorem dL_law__376 : decode cL_law_ 376 = .ok (.iaload, 1) := by decide +kernel
theorem dL_law__377 : decode cL_law_ 377 = .ok (.aload_n 0, 1) := by decide +kernel
theorem dL_law__378 : decode cL_law_ 378 = .ok (.iload 5, 2) := by decide +kernel
theorem dL_law__380 : decode cL_law_ 380 = .ok (.iconst 3, 1) := by decide +kernel
theorem dL_law__381 : decode cL_law_ 381 = .ok (.iadd, 1) := by decide +kernel
theorem dL_law__382 : decode cL_law_ 382 = .ok (.iaload, 1) := by decide +kernel
theorem dL_law__383 : decode cL_law_ 383 = .ok (.aload_n 3, 1) := by decide +kernel
theorem dL_law__384 : decode cL_law_ 384 = .ok (.invokestatic 169, 3) := by decide +kernel
theorem dL_law__387 : decode cL_law_ 387 = .ok (.istore 6, 2) := by decide +kernel
theorem dL_law__389 : decode cL_law_ 389 = .ok (.aload_n 2, 1) := by decide +kernel
theorem dL_law__390 : decode cL_law_ 390 = .ok (.aload_n 0, 1) := by decide +kernel
theorem dL_law__391 : decode cL_law_ 391 = .ok (.iload 5, 2) := by decide +kernel
theorem dL_law__393 : decode cL_law_ 393 = .ok (.iconst 1, 1) := by decide +kernel
theorem dL_law__394 : decode cL_law_ 394 = .ok (.iadd, 1) := by decide +kernel
theorem dL_law__395 : decode cL_law_ 395 = .ok (.iaload, 1) := by decide +kernel
theorem dL_law__396 : decode cL_law_ 396 = .ok (.aload_n 0, 1) := by decide +kernel
theorem dL_law__397 : decode cL_law_ 397 = .ok (.iload 5, 2) := by decide +kernel
theorem dL_law__399 : decode cL_law_ 399 = .ok (.iconst 2, 1) := by decide +kernel
theorem dL_law__400 : decode cL_law_ 400 = .ok (.iadd, 1) := by decide +kernel
theorem dL_law__401 : decode cL_law_ 401 = .ok (.iaload, 1) := by decide +kernel
theorem dL_law__402 : decode cL_law_ 402 = .ok (.aload_n 0, 1) := by decide +kernel
theorem dL_law__403 : decode cL_law_ 403 = .ok (.iload 5, 2) := by decide +kernel
theorem dL_law__405 : decode cL_law_ 405 = .ok (.iconst 3, 1) := by decide +kernel
theorem dL_law__406 : decode cL_law_ 406 = .ok (.iadd, 1) := by decide +kernel
theorem dL_law__407 : decode cL_law_ 407 = .ok (.iaload, 1) := by decide +kernel
theorem dL_law__408 : decode cL_law_ 408 = .ok (.invokevirtual 172, 3) := by decide +kernel
theorem dL_law__411 : decode cL_law_ 411 = .ok (.istore 7, 2) := by decide +kernel
theorem dL_law__413 : decode cL_law_ 413 = .ok (.aload_n 2, 1) := by decide +kernel
theorem dL_law__414 : decode cL_law_ 414 = .ok (.invokevirtual 161, 3) := by decide +kernel
theorem dL_law__417 : decode cL_law_ 417 = .ok (.iload 6, 2) := by decide +kernel
theorem dL_law__419 : decode cL_law_ 419 = .ok (.if_icmp .eq 5, 3) := by decide +kernel
theorem dL_law__424 : decode cL_law_ 424 = .ok (.iload 6, 2) := by decide +kernel
theorem dL_law__426 : decode cL_law_ 426 = .ok (.ifCond .ne 15, 3) := by decide +kernel
theorem dL_law__441 : decode cL_law_ 441 = .ok (.goto 2409, 3) := by decide +kernel
theorem dL_law__444 : decode cL_law_ 444 = .ok (.aload_n 1, 1) := by decide +kernel
theorem dL_law__445 : decode cL_law_ 445 = .ok (.aload_n 0, 1) := by decide +kernel
theorem dL_law__446 : decode cL_law_ 446 = .ok (.iload 5, 2) := by decide +kernel
theorem dL_law__448 : decode cL_law_ 448 = .ok (.iconst 1, 1) := by decide +kernel
theorem dL_law__449 : decode cL_law_ 449 = .ok (.iadd, 1) := by decide +kernel
theorem dL_law__450 : decode cL_law_ 450 = .ok (.iaload, 1) := by decide +kernel
theorem dL_law__451 : decode cL_law_ 451 = .ok (.aload_n 0, 1) := by decide +kernel
theorem dL_law__452 : decode cL_law_ 452 = .ok (.iload 5, 2) := by decide +kernel
theorem dL_law__454 : decode cL_law_ 454 = .ok (.iconst 2, 1) := by decide +kernel
theorem dL_law__455 : decode cL_law_ 455 = .ok (.iadd, 1) := by decide +kernel
theorem dL_law__456 : decode cL_law_ 456 = .ok (.iaload, 1) := by decide +kernel
theorem dL_law__457 : decode cL_law_ 457 = .ok (.aload_n 3, 1) := by decide +kernel
theorem dL_law__458 : decode cL_law_ 458 = .ok (.invokestatic 173, 3) := by decide +kernel
theorem dL_law__461 : decode cL_law_ 461 = .ok (.istore 6, 2) := by decide +kernel
theorem dL_law__463 : decode cL_law_ 463 = .ok (.aload_n 2, 1) := by decide +kernel
theorem dL_law__464 : decode cL_law_ 464 = .ok (.aload_n 0, 1) := by decide +kernel
theorem dL_law__465 : decode cL_law_ 465 = .ok (.iload 5, 2) := by decide +kernel
theorem dL_law__467 : decode cL_law_ 467 = .ok (.iconst 1, 1) := by decide +kernel
theorem dL_law__468 : decode cL_law_ 468 = .ok (.iadd, 1) := by decide +kernel
theorem dL_law__469 : decode cL_law_ 469 = .ok (.iaload, 1) := by decide +kernel
theorem dL_law__470 : decode cL_law_ 470 = .ok (.aload_n 0, 1) := by decide +kernel
theorem dL_law__471 : decode cL_law_ 471 = .ok (.iload 5, 2) := by decide +kernel
theorem dL_law__473 : decode cL_law_ 473 = .ok (.iconst 2, 1) := by decide +kernel
theorem dL_law__474 : decode cL_law_ 474 = .ok (.iadd, 1) := by decide +kernel
theorem dL_law__475 : decode cL_law_ 475 = .ok (.iaload, 1) := by decide +kernel
theorem dL_law__476 : decode cL_law_ 476 = .ok (.invokevirtual 176, 3) := by decide +kernel
theorem dL_law__479 : decode cL_law_ 479 = .ok (.istore 7, 2) := by decide +kernel
theorem dL_law__481 : decode cL_law_ 481 = .ok (.aload_n 2, 1) := by decide +kernel
theorem dL_law__482 : decode cL_law_ 482 = .ok (.invokevirtual 161, 3) := by decide +kernel
theorem dL_law__485 : decode cL_law_ 485 = .ok (.iload 6, 2) := by decide +kernel
theorem dL_law__487 : decode cL_law_ 487 = .ok (.if_icmp .eq 5, 3) := by decide +kernel
theorem dL_law__492 : decode cL_law_ 492 = .ok (.iload 6, 2) := by decide +kernel
theorem dL_law__494 : decode cL_law_ 494 = .ok (.ifCond .ne 15, 3) := by decide +kernel
theorem dL_law__509 : decode cL_law_ 509 = .ok (.goto 2341, 3) := by decide +kernel
theorem dL_law__512 : decode cL_law_ 512 = .ok (.aload_n 1, 1) := by decide +kernel
theorem dL_law__513 : decode cL_law_ 513 = .ok (.aload_n 0, 1) := by decide +kernel
theorem dL_law__514 : decode cL_law_ 514 = .ok (.iload 5, 2) := by decide +kernel
theorem dL_law__516 : decode cL_law_ 516 = .ok (.iconst 1, 1) := by decide +kernel
theorem dL_law__517 : decode cL_law_ 517 = .ok (.iadd, 1) := by decide +kernel
theorem dL_law__518 : decode cL_law_ 518 = .ok (.iaload, 1) := by decide +kernel
theorem dL_law__519 : decode cL_law_ 519 = .ok (.aload_n 0, 1) := by decide +kernel
theorem dL_law__520 : decode cL_law_ 520 = .ok (.iload 5, 2) := by decide +kernel
theorem dL_law__522 : decode cL_law_ 522 = .ok (.iconst 2, 1) := by decide +kernel
theorem dL_law__523 : decode cL_law_ 523 = .ok (.iadd, 1) := by decide +kernel
theorem dL_law__524 : decode cL_law_ 524 = .ok (.iaload, 1) := by decide +kernel
theorem dL_law__525 : decode cL_law_ 525 = .ok (.aload_n 3, 1) := by decide +kernel
theorem dL_law__526 : decode cL_law_ 526 = .ok (.invokestatic 177, 3) := by decide +kernel
theorem dL_law__529 : decode cL_law_ 529 = .ok (.istore 6, 2) := by decide +kernel
theorem dL_law__531 : decode cL_law_ 531 = .ok (.aload_n 2, 1) := by decide +kernel
theorem dL_law__532 : decode cL_law_ 532 = .ok (.aload_n 0, 1) := by decide +kernel
theorem dL_law__533 : decode cL_law_ 533 = .ok (.iload 5, 2) := by decide +kernel
theorem dL_law__535 : decode cL_law_ 535 = .ok (.iconst 1, 1) := by decide +kernel
theorem dL_law__536 : decode cL_law_ 536 = .ok (.iadd, 1) := by decide +kernel
theorem dL_law__537 : decode cL_law_ 537 = .ok (.iaload, 1) := by decide +kernel
theorem dL_law__538 : decode cL_law_ 538 = .ok (.aload_n 0, 1) := by decide +kernel
theorem dL_law__539 : decode cL_law_ 539 = .ok (.iload 5, 2) := by decide +kernel
theorem dL_law__541 : decode cL_law_ 541 = .ok (.iconst 2, 1) := by decide +kernel
theorem dL_law__542 : decode cL_law_ 542 = .ok (.iadd, 1) := by decide +kernel
theorem dL_law__543 : decode cL_law_ 543 = .ok (.iaload, 1) := by decide +kernel
theorem dL_law__544 : decode cL_law_ 544 = .ok (.invokevirtual 179, 3) := by decide +kernel
theorem dL_law__547 : decode cL_law_ 547 = .ok (.istore 7, 2) := by decide +kernel
theorem dL_law__549 : decode cL_law_ 549 = .ok (.aload_n 2, 1) := by decide +kernel
theorem dL_law__550 : decode cL_law_ 550 = .ok (.invokevirtual 161, 3) := by decide +kernel
theorem dL_law__553 : decode cL_law_ 553 = .ok (.iload 6, 2) := by decide +kernel
theorem dL_law__555 : decode cL_law_ 555 = .ok (.if_icmp .eq 5, 3) := by decide +kernel
theorem dL_law__560 : decode cL_law_ 560 = .ok (.iload 6, 2) := by decide +kernel
theorem dL_law__562 : decode cL_law_ 562 = .ok (.ifCond .ne 15, 3) := by decide +kernel
theorem dL_law__577 : decode cL_law_ 577 = .ok (.goto 2273, 3) := by decide +kernel
theorem dL_law__580 : decode cL_law_ 580 = .ok (.aload_n 1, 1) := by decide +kernel
theorem dL_law__581 : decode cL_law_ 581 = .ok (.aload_n 0, 1) := by decide +kernel
theorem dL_law__582 : decode cL_law_ 582 = .ok (.iload 5, 2) := by decide +kernel
theorem dL_law__584 : decode cL_law_ 584 = .ok (.iconst 1, 1) := by decide +kernel
theorem dL_law__585 : decode cL_law_ 585 = .ok (.iadd, 1) := by decide +kernel
theorem dL_law__586 : decode cL_law_ 586 = .ok (.iaload, 1) := by decide +kernel
theorem dL_law__587 : decode cL_law_ 587 = .ok (.aload_n 0, 1) := by decide +kernel
theorem dL_law__588 : decode cL_law_ 588 = .ok (.iload 5, 2) := by decide +kernel
theorem dL_law__590 : decode cL_law_ 590 = .ok (.iconst 2, 1) := by decide +kernel
theorem dL_law__591 : decode cL_law_ 591 = .ok (.iadd, 1) := by decide +kernel
theorem dL_law__592 : decode cL_law_ 592 = .ok (.iaload, 1) := by decide +kernel
theorem dL_law__593 : decode cL_law_ 593 = .ok (.aload_n 3, 1) := by decide +kernel
theorem dL_law__594 : decode cL_law_ 594 = .ok (.invokestatic 180, 3) := by decide +kernel
theorem dL_law__597 : decode cL_law_ 597 = .ok (.istore 6, 2) := by decide +kernel
theorem dL_law__599 : decode cL_law_ 599 = .ok (.aload_n 2, 1) := by decide +kernel
theorem dL_law__600 : decode cL_law_ 600 = .ok (.aload_n 0, 1) := by decide +kernel
theorem dL_law__601 : decode cL_law_ 601 = .ok (.iload 5, 2) := by decide +kernel
theorem dL_law__603 : decode cL_law_ 603 = .ok (.iconst 1, 1) := by decide +kernel
theorem dL_law__604 : decode cL_law_ 604 = .ok (.iadd, 1) := by decide +kernel
theorem dL_law__605 : decode cL_law_ 605 = .ok (.iaload, 1) := by decide +kernel
theorem dL_law__606 : decode cL_law_ 606 = .ok (.aload_n 0, 1) := by decide +kernel
theorem dL_law__607 : decode cL_law_ 607 = .ok (.iload 5, 2) := by decide +kernel
theorem dL_law__609 : decode cL_law_ 609 = .ok (.iconst 2, 1) := by decide +kernel
theorem dL_law__610 : decode cL_law_ 610 = .ok (.iadd, 1) := by decide +kernel
theorem dL_law__611 : decode cL_law_ 611 = .ok (.iaload, 1) := by decide +kernel
theorem dL_law__612 : decode cL_law_ 612 = .ok (.invokevirtual 182, 3) := by decide +kernel
theorem dL_law__615 : decode cL_law_ 615 = .ok (.istore 7, 2) := by decide +kernel
theorem dL_law__617 : decode cL_law_ 617 = .ok (.aload_n 2, 1) := by decide +kernel
theorem dL_law__618 : decode cL_law_ 618 = .ok (.invokevirtual 161, 3) := by decide +kernel
theorem dL_law__621 : decode cL_law_ 621 = .ok (.iload 6, 2) := by decide +kernel
theorem dL_law__623 : decode cL_law_ 623 = .ok (.if_icmp .eq 5, 3) := by decide +kernel
theorem dL_law__628 : decode cL_law_ 628 = .ok (.iload 6, 2) := by decide +kernel
theorem dL_law__630 : decode cL_law_ 630 = .ok (.ifCond .ne 15, 3) := by decide +kernel
theorem dL_law__645 : decode cL_law_ 645 = .ok (.goto 2205, 3) := by decide +kernel
theorem dL_law__648 : decode cL_law_ 648 = .ok (.aload_n 1, 1) := by decide +kernel
theorem dL_law__649 : decode cL_law_ 649 = .ok (.aload_n 0, 1) := by decide +kernel
theorem dL_law__650 : decode cL_law_ 650 = .ok (.iload 5, 2) := by decide +kernel
theorem dL_law__652 : decode cL_law_ 652 = .ok (.iconst 1, 1) := by decide +kernel
theorem dL_law__653 : decode cL_law_ 653 = .ok (.iadd, 1) := by decide +kernel
theorem dL_law__654 : decode cL_law_ 654 = .ok (.iaload, 1) := by decide +kernel
theorem dL_law__655 : decode cL_law_ 655 = .ok (.aload_n 0, 1) := by decide +kernel
theorem dL_law__656 : decode cL_law_ 656 = .ok (.iload 5, 2) := by decide +kernel
theorem dL_law__658 : decode cL_law_ 658 = .ok (.iconst 2, 1) := by decide +kernel
theorem dL_law__659 : decode cL_law_ 659 = .ok (.iadd, 1) := by decide +kernel
theorem dL_law__660 : decode cL_law_ 660 = .ok (.iaload, 1) := by decide +kernel
theorem dL_law__661 : decode cL_law_ 661 = .ok (.aload_n 3, 1) := by decide +kernel
theorem dL_law__662 : decode cL_law_ 662 = .ok (.invokestatic 183, 3) := by decide +kernel
theorem dL_law__665 : decode cL_law_ 665 = .ok (.istore 6, 2) := by decide +kernel
theorem dL_law__667 : decode cL_law_ 667 = .ok (.aload_n 2, 1) := by decide +kernel
theorem dL_law__668 : decode cL_law_ 668 = .ok (.aload_n 0, 1) := by decide +kernel
theorem dL_law__669 : decode cL_law_ 669 = .ok (.iload 5, 2) := by decide +kernel
theorem dL_law__671 : decode cL_law_ 671 = .ok (.iconst 1, 1) := by decide +kernel
theorem dL_law__672 : decode cL_law_ 672 = .ok (.iadd, 1) := by decide +kernel
theorem dL_law__673 : decode cL_law_ 673 = .ok (.iaload, 1) := by decide +kernel
theorem dL_law__674 : decode cL_law_ 674 = .ok (.aload_n 0, 1) := by decide +kernel
theorem dL_law__675 : decode cL_law_ 675 = .ok (.iload 5, 2) := by decide +kernel
theorem dL_law__677 : decode cL_law_ 677 = .ok (.iconst 2, 1) := by decide +kernel
theorem dL_law__678 : decode cL_law_ 678 = .ok (.iadd, 1) := by decide +kernel
theorem dL_law__679 : decode cL_law_ 679 = .ok (.iaload, 1) := by decide +kernel
theorem dL_law__680 : decode cL_law_ 680 = .ok (.invokevirtual 185, 3) := by decide +kernel
theorem dL_law__683 : decode cL_law_ 683 = .ok (.istore 7, 2) := by decide +kernel
theorem dL_law__685 : decode cL_law_ 685 = .ok (.aload_n 2, 1) := by decide +kernel
theorem dL_law__686 : decode cL_law_ 686 = .ok (.invokevirtual 161, 3) := by decide +kernel
theorem dL_law__689 : decode cL_law_ 689 = .ok (.iload 6, 2) := by decide +kernel
theorem dL_law__691 : decode cL_law_ 691 = .ok (.if_icmp .eq 5, 3) := by decide +kernel
theorem dL_law__696 : decode cL_law_ 696 = .ok (.iload 6, 2) := by decide +kernel
theorem dL_law__698 : decode cL_law_ 698 = .ok (.ifCond .ne 15, 3) := by decide +kernel
theorem dL_law__713 : decode cL_law_ 713 = .ok (.goto 2137, 3) := by decide +kernel
theorem dL_law__716 : decode cL_law_ 716 = .ok (.aload_n 1, 1) := by decide +kernel
theorem dL_law__717 : decode cL_law_ 717 = .ok (.aload_n 0, 1) := by decide +kernel
theorem dL_law__718 : decode cL_law_ 718 = .ok (.iload 5, 2) := by decide +kernel
theorem dL_law__720 : decode cL_law_ 720 = .ok (.iconst 1, 1) := by decide +kernel
theorem dL_law__721 : decode cL_law_ 721 = .ok (.iadd, 1) := by decide +kernel
theorem dL_law__722 : decode cL_law_ 722 = .ok (.iaload, 1) := by decide +kernel
theorem dL_law__723 : decode cL_law_ 723 = .ok (.aload_n 0, 1) := by decide +kernel
theorem dL_law__724 : decode cL_law_ 724 = .ok (.iload 5, 2) := by decide +kernel
theorem dL_law__726 : decode cL_law_ 726 = .ok (.iconst 2, 1) := by decide +kernel
theorem dL_law__727 : decode cL_law_ 727 = .ok (.iadd, 1) := by decide +kernel
theorem dL_law__728 : decode cL_law_ 728 = .ok (.iaload, 1) := by decide +kernel
theorem dL_law__729 : decode cL_law_ 729 = .ok (.aload_n 0, 1) := by decide +kernel
theorem dL_law__730 : decode cL_law_ 730 = .ok (.iload 5, 2) := by decide +kernel
theorem dL_law__732 : decode cL_law_ 732 = .ok (.iconst 3, 1) := by decide +kernel
theorem dL_law__733 : decode cL_law_ 733 = .ok (.iadd, 1) := by decide +kernel
theorem dL_law__734 : decode cL_law_ 734 = .ok (.iaload, 1) := by decide +kernel
theorem dL_law__735 : decode cL_law_ 735 = .ok (.aload_n 3, 1) := by decide +kernel
theorem dL_law__736 : decode cL_law_ 736 = .ok (.invokestatic 186, 3) := by decide +kernel
theorem dL_law__739 : decode cL_law_ 739 = .ok (.istore 6, 2) := by decide +kernel
theorem dL_law__741 : decode cL_law_ 741 = .ok (.aload_n 2, 1) := by decide +kernel
theorem dL_law__742 : decode cL_law_ 742 = .ok (.aload_n 0, 1) := by decide +kernel
theorem dL_law__743 : decode cL_law_ 743 = .ok (.iload 5, 2) := by decide +kernel
theorem dL_law__745 : decode cL_law_ 745 = .ok (.iconst 1, 1) := by decide +kernel
theorem dL_law__746 : decode cL_law_ 746 = .ok (.iadd, 1) := by decide +kernel
theorem dL_law__747 : decode cL_law_ 747 = .ok (.iaload, 1) := by decide +kernel
theorem dL_law__748 : decode cL_law_ 748 = .ok (.aload_n 0, 1) := by decide +kernel
theorem dL_law__749 : decode cL_law_ 749 = .ok (.iload 5, 2) := by decide +kernel
theorem dL_law__751 : decode cL_law_ 751 = .ok (.iconst 2, 1) := by decide +kernel
theorem dL_law__752 : decode cL_law_ 752 = .ok (.iadd, 1) := by decide +kernel
theorem dL_law__753 : decode cL_law_ 753 = .ok (.iaload, 1) := by decide +kernel
theorem dL_law__754 : decode cL_law_ 754 = .ok (.aload_n 0, 1) := by decide +kernel
theorem dL_law__755 : decode cL_law_ 755 = .ok (.iload 5, 2) := by decide +kernel
theorem dL_law__757 : decode cL_law_ 757 = .ok (.iconst 3, 1) := by decide +kernel
theorem dL_law__758 : decode cL_law_ 758 = .ok (.iadd, 1) := by decide +kernel
theorem dL_law__759 : decode cL_law_ 759 = .ok (.iaload, 1) := by decide +kernel
theorem dL_law__760 : decode cL_law_ 760 = .ok (.invokevirtual 188, 3) := by decide +kernel
theorem dL_law__763 : decode cL_law_ 763 = .ok (.istore 7, 2) := by decide +kernel
theorem dL_law__765 : decode cL_law_ 765 = .ok (.aload_n 2, 1) := by decide +kernel
theorem dL_law__766 : decode cL_law_ 766 = .ok (.invokevirtual 161, 3) := by decide +kernel
theorem dL_law__769 : decode cL_law_ 769 = .ok (.iload 6, 2) := by decide +kernel
theorem dL_law__771 : decode cL_law_ 771 = .ok (.if_icmp .eq 5, 3) := by decide +kernel
theorem dL_law__776 : decode cL_law_ 776 = .ok (.iload 6, 2) := by decide +kernel
theorem dL_law__778 : decode cL_law_ 778 = .ok (.ifCond .ne 15, 3) := by decide +kernel
theorem dL_law__793 : decode cL_law_ 793 = .ok (.goto 2057, 3) := by decide +kernel
theorem dL_law__796 : decode cL_law_ 796 = .ok (.aload_n 1, 1) := by decide +kernel
theorem dL_law__797 : decode cL_law_ 797 = .ok (.aload_n 0, 1) := by decide +kernel
theorem dL_law__798 : decode cL_law_ 798 = .ok (.iload 5, 2) := by decide +kernel
theorem dL_law__800 : decode cL_law_ 800 = .ok (.iconst 1, 1) := by decide +kernel
theorem dL_law__801 : decode cL_law_ 801 = .ok (.iadd, 1) := by decide +kernel
theorem dL_law__802 : decode cL_law_ 802 = .ok (.iaload, 1) := by decide +kernel
theorem dL_law__803 : decode cL_law_ 803 = .ok (.aload_n 3, 1) := by decide +kernel
theorem dL_law__804 : decode cL_law_ 804 = .ok (.invokestatic 189, 3) := by decide +kernel
theorem dL_law__807 : decode cL_law_ 807 = .ok (.istore 6, 2) := by decide +kernel
theorem dL_law__809 : decode cL_law_ 809 = .ok (.aload_n 2, 1) := by decide +kernel
theorem dL_law__810 : decode cL_law_ 810 = .ok (.aload_n 0, 1) := by decide +kernel
theorem dL_law__811 : decode cL_law_ 811 = .ok (.iload 5, 2) := by decide +kernel
theorem dL_law__813 : decode cL_law_ 813 = .ok (.iconst 1, 1) := by decide +kernel
theorem dL_law__814 : decode cL_law_ 814 = .ok (.iadd, 1) := by decide +kernel
theorem dL_law__815 : decode cL_law_ 815 = .ok (.iaload, 1) := by decide +kernel
theorem dL_law__816 : decode cL_law_ 816 = .ok (.invokevirtual 192, 3) := by decide +kernel
theorem dL_law__819 : decode cL_law_ 819 = .ok (.istore 7, 2) := by decide +kernel
theorem dL_law__821 : decode cL_law_ 821 = .ok (.aload_n 2, 1) := by decide +kernel
theorem dL_law__822 : decode cL_law_ 822 = .ok (.invokevirtual 161, 3) := by decide +kernel
theorem dL_law__825 : decode cL_law_ 825 = .ok (.iload 6, 2) := by decide +kernel
theorem dL_law__827 : decode cL_law_ 827 = .ok (.if_icmp .eq 5, 3) := by decide +kernel
theorem dL_law__832 : decode cL_law_ 832 = .ok (.iload 6, 2) := by decide +kernel
theorem dL_law__834 : decode cL_law_ 834 = .ok (.ifCond .ne 15, 3) := by decide +kernel
theorem dL_law__849 : decode cL_law_ 849 = .ok (.goto 2001, 3) := by decide +kernel
theorem dL_law__852 : decode cL_law_ 852 = .ok (.aload_n 1, 1) := by decide +kernel
theorem dL_law__853 : decode cL_law_ 853 = .ok (.aload_n 0, 1) := by decide +kernel
theorem dL_law__854 : decode cL_law_ 854 = .ok (.iload 5, 2) := by decide +kernel
theorem dL_law__856 : decode cL_law_ 856 = .ok (.iconst 1, 1) := by decide +kernel
theorem dL_law__857 : decode cL_law_ 857 = .ok (.iadd, 1) := by decide +kernel
theorem dL_law__858 : decode cL_law_ 858 = .ok (.iaload, 1) := by decide +kernel
theorem dL_law__859 : decode cL_law_ 859 = .ok (.aload_n 0, 1) := by decide +kernel
theorem dL_law__860 : decode cL_law_ 860 = .ok (.iload 5, 2) := by decide +kernel
theorem dL_law__862 : decode cL_law_ 862 = .ok (.iconst 2, 1) := by decide +kernel
theorem dL_law__863 : decode cL_law_ 863 = .ok (.iadd, 1) := by decide +kernel
theorem dL_law__864 : decode cL_law_ 864 = .ok (.iaload, 1) := by decide +kernel
theorem dL_law__865 : decode cL_law_ 865 = .ok (.aload_n 3, 1) := by decide +kernel
theorem dL_law__866 : decode cL_law_ 866 = .ok (.invokestatic 193, 3) := by decide +kernel
theorem dL_law__869 : decode cL_law_ 869 = .ok (.istore 6, 2) := by decide +kernel
theorem dL_law__871 : decode cL_law_ 871 = .ok (.aload_n 2, 1) := by decide +kernel
theorem dL_law__872 : decode cL_law_ 872 = .ok (.aload_n 0, 1) := by decide +kernel
theorem dL_law__873 : decode cL_law_ 873 = .ok (.iload 5, 2) := by decide +kernel
theorem dL_law__875 : decode cL_law_ 875 = .ok (.iconst 1, 1) := by decide +kernel
theorem dL_law__876 : decode cL_law_ 876 = .ok (.iadd, 1) := by decide +kernel
theorem dL_law__877 : decode cL_law_ 877 = .ok (.iaload, 1) := by decide +kernel
theorem dL_law__878 : decode cL_law_ 878 = .ok (.aload_n 0, 1) := by decide +kernel
theorem dL_law__879 : decode cL_law_ 879 = .ok (.iload 5, 2) := by decide +kernel
theorem dL_law__881 : decode cL_law_ 881 = .ok (.iconst 2, 1) := by decide +kernel
theorem dL_law__882 : decode cL_law_ 882 = .ok (.iadd, 1) := by decide +kernel
theorem dL_law__883 : decode cL_law_ 883 = .ok (.iaload, 1) := by decide +kernel
theorem dL_law__884 : decode cL_law_ 884 = .ok (.invokevirtual 195, 3) := by decide +kernel
theorem dL_law__887 : decode cL_law_ 887 = .ok (.istore 7, 2) := by decide +kernel
theorem dL_law__889 : decode cL_law_ 889 = .ok (.aload_n 2, 1) := by decide +kernel
theorem dL_law__890 : decode cL_law_ 890 = .ok (.invokevirtual 161, 3) := by decide +kernel
theorem dL_law__893 : decode cL_law_ 893 = .ok (.iload 6, 2) := by decide +kernel
theorem dL_law__895 : decode cL_law_ 895 = .ok (.if_icmp .eq 5, 3) := by decide +kernel
theorem dL_law__900 : decode cL_law_ 900 = .ok (.iload 6, 2) := by decide +kernel
theorem dL_law__902 : decode cL_law_ 902 = .ok (.ifCond .ne 15, 3) := by decide +kernel
theorem dL_law__917 : decode cL_law_ 917 = .ok (.goto 1933, 3) := by decide +kernel
theorem dL_law__920 : decode cL_law_ 920 = .ok (.aload_n 1, 1) := by decide +kernel
theorem dL_law__921 : decode cL_law_ 921 = .ok (.aload_n 0, 1) := by decide +kernel
theorem dL_law__922 : decode cL_law_ 922 = .ok (.iload 5, 2) := by decide +kernel
theorem dL_law__924 : decode cL_law_ 924 = .ok (.iconst 1, 1) := by decide +kernel
theorem dL_law__925 : decode cL_law_ 925 = .ok (.iadd, 1) := by decide +kernel
theorem dL_law__926 : decode cL_law_ 926 = .ok (.iaload, 1) := by decide +kernel
theorem dL_law__927 : decode cL_law_ 927 = .ok (.aload_n 0, 1) := by decide +kernel
theorem dL_law__928 : decode cL_law_ 928 = .ok (.iload 5, 2) := by decide +kernel
theorem dL_law__930 : decode cL_law_ 930 = .ok (.iconst 2, 1) := by decide +kernel
theorem dL_law__931 : decode cL_law_ 931 = .ok (.iadd, 1) := by decide +kernel
theorem dL_law__932 : decode cL_law_ 932 = .ok (.iaload, 1) := by decide +kernel
theorem dL_law__933 : decode cL_law_ 933 = .ok (.ifCond .eq 7, 3) := by decide +kernel
theorem dL_law__936 : decode cL_law_ 936 = .ok (.iconst 1, 1) := by decide +kernel
theorem dL_law__937 : decode cL_law_ 937 = .ok (.goto 4, 3) := by decide +kernel
theorem dL_law__940 : decode cL_law_ 940 = .ok (.iconst 0, 1) := by decide +kernel
theorem dL_law__941 : decode cL_law_ 941 = .ok (.aload_n 3, 1) := by decide +kernel
theorem dL_law__942 : decode cL_law_ 942 = .ok (.invokestatic 196, 3) := by decide +kernel
theorem dL_law__945 : decode cL_law_ 945 = .ok (.istore 6, 2) := by decide +kernel
theorem dL_law__947 : decode cL_law_ 947 = .ok (.aload_n 2, 1) := by decide +kernel
theorem dL_law__948 : decode cL_law_ 948 = .ok (.aload_n 0, 1) := by decide +kernel
theorem dL_law__949 : decode cL_law_ 949 = .ok (.iload 5, 2) := by decide +kernel
theorem dL_law__951 : decode cL_law_ 951 = .ok (.iconst 1, 1) := by decide +kernel
theorem dL_law__952 : decode cL_law_ 952 = .ok (.iadd, 1) := by decide +kernel
theorem dL_law__953 : decode cL_law_ 953 = .ok (.iaload, 1) := by decide +kernel
theorem dL_law__954 : decode cL_law_ 954 = .ok (.aload_n 0, 1) := by decide +kernel
theorem dL_law__955 : decode cL_law_ 955 = .ok (.iload 5, 2) := by decide +kernel
theorem dL_law__957 : decode cL_law_ 957 = .ok (.iconst 2, 1) := by decide +kernel
theorem dL_law__958 : decode cL_law_ 958 = .ok (.iadd, 1) := by decide +kernel
theorem dL_law__959 : decode cL_law_ 959 = .ok (.iaload, 1) := by decide +kernel
theorem dL_law__960 : decode cL_law_ 960 = .ok (.ifCond .eq 7, 3) := by decide +kernel
theorem dL_law__963 : decode cL_law_ 963 = .ok (.iconst 1, 1) := by decide +kernel
theorem dL_law__964 : decode cL_law_ 964 = .ok (.goto 4, 3) := by decide +kernel
theorem dL_law__967 : decode cL_law_ 967 = .ok (.iconst 0, 1) := by decide +kernel
theorem dL_law__968 : decode cL_law_ 968 = .ok (.invokevirtual 199, 3) := by decide +kernel
theorem dL_law__971 : decode cL_law_ 971 = .ok (.istore 7, 2) := by decide +kernel
theorem dL_law__973 : decode cL_law_ 973 = .ok (.aload_n 2, 1) := by decide +kernel
theorem dL_law__974 : decode cL_law_ 974 = .ok (.invokevirtual 161, 3) := by decide +kernel
theorem dL_law__977 : decode cL_law_ 977 = .ok (.iload 6, 2) := by decide +kernel
theorem dL_law__979 : decode cL_law_ 979 = .ok (.if_icmp .eq 5, 3) := by decide +kernel
theorem dL_law__984 : decode cL_law_ 984 = .ok (.iload 6, 2) := by decide +kernel
theorem dL_law__986 : decode cL_law_ 986 = .ok (.ifCond .ne 22, 3) := by decide +kernel
theorem dL_law__1008 : decode cL_law_ 1008 = .ok (.goto 1842, 3) := by decide +kernel
theorem dL_law__1011 : decode cL_law_ 1011 = .ok (.aload_n 1, 1) := by decide +kernel
theorem dL_law__1012 : decode cL_law_ 1012 = .ok (.aload_n 0, 1) := by decide +kernel
theorem dL_law__1013 : decode cL_law_ 1013 = .ok (.iload 5, 2) := by decide +kernel
theorem dL_law__1015 : decode cL_law_ 1015 = .ok (.iconst 1, 1) := by decide +kernel
theorem dL_law__1016 : decode cL_law_ 1016 = .ok (.iadd, 1) := by decide +kernel
theorem dL_law__1017 : decode cL_law_ 1017 = .ok (.iaload, 1) := by decide +kernel
theorem dL_law__1018 : decode cL_law_ 1018 = .ok (.aload_n 0, 1) := by decide +kernel
theorem dL_law__1019 : decode cL_law_ 1019 = .ok (.iload 5, 2) := by decide +kernel
theorem dL_law__1021 : decode cL_law_ 1021 = .ok (.iconst 2, 1) := by decide +kernel
theorem dL_law__1022 : decode cL_law_ 1022 = .ok (.iadd, 1) := by decide +kernel
theorem dL_law__1023 : decode cL_law_ 1023 = .ok (.iaload, 1) := by decide +kernel
theorem dL_law__1024 : decode cL_law_ 1024 = .ok (.aload_n 0, 1) := by decide +kernel
theorem dL_law__1025 : decode cL_law_ 1025 = .ok (.iload 5, 2) := by decide +kernel
theorem dL_law__1027 : decode cL_law_ 1027 = .ok (.iconst 3, 1) := by decide +kernel
theorem dL_law__1028 : decode cL_law_ 1028 = .ok (.iadd, 1) := by decide +kernel
theorem dL_law__1029 : decode cL_law_ 1029 = .ok (.iaload, 1) := by decide +kernel
theorem dL_law__1030 : decode cL_law_ 1030 = .ok (.aload_n 3, 1) := by decide +kernel
theorem dL_law__1031 : decode cL_law_ 1031 = .ok (.invokestatic 200, 3) := by decide +kernel
theorem dL_law__1034 : decode cL_law_ 1034 = .ok (.istore 6, 2) := by decide +kernel
theorem dL_law__1036 : decode cL_law_ 1036 = .ok (.aload_n 2, 1) := by decide +kernel
theorem dL_law__1037 : decode cL_law_ 1037 = .ok (.aload_n 0, 1) := by decide +kernel
theorem dL_law__1038 : decode cL_law_ 1038 = .ok (.iload 5, 2) := by decide +kernel
theorem dL_law__1040 : decode cL_law_ 1040 = .ok (.iconst 1, 1) := by decide +kernel
theorem dL_law__1041 : decode cL_law_ 1041 = .ok (.iadd, 1) := by decide +kernel
theorem dL_law__1042 : decode cL_law_ 1042 = .ok (.iaload, 1) := by decide +kernel
theorem dL_law__1043 : decode cL_law_ 1043 = .ok (.aload_n 0, 1) := by decide +kernel
theorem dL_law__1044 : decode cL_law_ 1044 = .ok (.iload 5, 2) := by decide +kernel
theorem dL_law__1046 : decode cL_law_ 1046 = .ok (.iconst 2, 1) := by decide +kernel
theorem dL_law__1047 : decode cL_law_ 1047 = .ok (.iadd, 1) := by decide +kernel
theorem dL_law__1048 : decode cL_law_ 1048 = .ok (.iaload, 1) := by decide +kernel
theorem dL_law__1049 : decode cL_law_ 1049 = .ok (.aload_n 0, 1) := by decide +kernel
theorem dL_law__1050 : decode cL_law_ 1050 = .ok (.iload 5, 2) := by decide +kernel
theorem dL_law__1052 : decode cL_law_ 1052 = .ok (.iconst 3, 1) := by decide +kernel
theorem dL_law__1053 : decode cL_law_ 1053 = .ok (.iadd, 1) := by decide +kernel
theorem dL_law__1054 : decode cL_law_ 1054 = .ok (.iaload, 1) := by decide +kernel
theorem dL_law__1055 : decode cL_law_ 1055 = .ok (.invokevirtual 202, 3) := by decide +kernel
theorem dL_law__1058 : decode cL_law_ 1058 = .ok (.istore 7, 2) := by decide +kernel
theorem dL_law__1060 : decode cL_law_ 1060 = .ok (.aload_n 2, 1) := by decide +kernel
theorem dL_law__1061 : decode cL_law_ 1061 = .ok (.invokevirtual 161, 3) := by decide +kernel
theorem dL_law__1064 : decode cL_law_ 1064 = .ok (.iload 6, 2) := by decide +kernel
theorem dL_law__1066 : decode cL_law_ 1066 = .ok (.if_icmp .eq 5, 3) := by decide +kernel
theorem dL_law__1071 : decode cL_law_ 1071 = .ok (.iload 6, 2) := by decide +kernel
theorem dL_law__1073 : decode cL_law_ 1073 = .ok (.ifCond .ne 15, 3) := by decide +kernel
theorem dL_law__1088 : decode cL_law_ 1088 = .ok (.goto 1762, 3) := by decide +kernel
theorem dL_law__1091 : decode cL_law_ 1091 = .ok (.aload_n 1, 1) := by decide +kernel
theorem dL_law__1092 : decode cL_law_ 1092 = .ok (.aload_n 0, 1) := by decide +kernel
theorem dL_law__1093 : decode cL_law_ 1093 = .ok (.iload 5, 2) := by decide +kernel
theorem dL_law__1095 : decode cL_law_ 1095 = .ok (.iconst 1, 1) := by decide +kernel
theorem dL_law__1096 : decode cL_law_ 1096 = .ok (.iadd, 1) := by decide +kernel
theorem dL_law__1097 : decode cL_law_ 1097 = .ok (.iaload, 1) := by decide +kernel
theorem dL_law__1098 : decode cL_law_ 1098 = .ok (.aload_n 0, 1) := by decide +kernel
theorem dL_law__1099 : decode cL_law_ 1099 = .ok (.iload 5, 2) := by decide +kernel
theorem dL_law__1101 : decode cL_law_ 1101 = .ok (.iconst 2, 1) := by decide +kernel
theorem dL_law__1102 : decode cL_law_ 1102 = .ok (.iadd, 1) := by decide +kernel
theorem dL_law__1103 : decode cL_law_ 1103 = .ok (.iaload, 1) := by decide +kernel
theorem dL_law__1104 : decode cL_law_ 1104 = .ok (.i2c, 1) := by decide +kernel
theorem dL_law__1105 : decode cL_law_ 1105 = .ok (.aload_n 0, 1) := by decide +kernel
theorem dL_law__1106 : decode cL_law_ 1106 = .ok (.iload 5, 2) := by decide +kernel
theorem dL_law__1108 : decode cL_law_ 1108 = .ok (.iconst 3, 1) := by decide +kernel
theorem dL_law__1109 : decode cL_law_ 1109 = .ok (.iadd, 1) := by decide +kernel
theorem dL_law__1110 : decode cL_law_ 1110 = .ok (.iaload, 1) := by decide +kernel
theorem dL_law__1111 : decode cL_law_ 1111 = .ok (.aload_n 3, 1) := by decide +kernel
theorem dL_law__1112 : decode cL_law_ 1112 = .ok (.invokestatic 203, 3) := by decide +kernel
theorem dL_law__1115 : decode cL_law_ 1115 = .ok (.istore 6, 2) := by decide +kernel
theorem dL_law__1117 : decode cL_law_ 1117 = .ok (.aload_n 2, 1) := by decide +kernel
theorem dL_law__1118 : decode cL_law_ 1118 = .ok (.aload_n 0, 1) := by decide +kernel
theorem dL_law__1119 : decode cL_law_ 1119 = .ok (.iload 5, 2) := by decide +kernel
theorem dL_law__1121 : decode cL_law_ 1121 = .ok (.iconst 1, 1) := by decide +kernel
theorem dL_law__1122 : decode cL_law_ 1122 = .ok (.iadd, 1) := by decide +kernel
theorem dL_law__1123 : decode cL_law_ 1123 = .ok (.iaload, 1) := by decide +kernel
theorem dL_law__1124 : decode cL_law_ 1124 = .ok (.aload_n 0, 1) := by decide +kernel
theorem dL_law__1125 : decode cL_law_ 1125 = .ok (.iload 5, 2) := by decide +kernel
theorem dL_law__1127 : decode cL_law_ 1127 = .ok (.iconst 2, 1) := by decide +kernel
theorem dL_law__1128 : decode cL_law_ 1128 = .ok (.iadd, 1) := by decide +kernel
theorem dL_law__1129 : decode cL_law_ 1129 = .ok (.iaload, 1) := by decide +kernel
theorem dL_law__1130 : decode cL_law_ 1130 = .ok (.i2c, 1) := by decide +kernel
theorem dL_law__1131 : decode cL_law_ 1131 = .ok (.aload_n 0, 1) := by decide +kernel
theorem dL_law__1132 : decode cL_law_ 1132 = .ok (.iload 5, 2) := by decide +kernel
theorem dL_law__1134 : decode cL_law_ 1134 = .ok (.iconst 3, 1) := by decide +kernel
theorem dL_law__1135 : decode cL_law_ 1135 = .ok (.iadd, 1) := by decide +kernel
theorem dL_law__1136 : decode cL_law_ 1136 = .ok (.iaload, 1) := by decide +kernel
theorem dL_law__1137 : decode cL_law_ 1137 = .ok (.invokevirtual 205, 3) := by decide +kernel
theorem dL_law__1140 : decode cL_law_ 1140 = .ok (.lstore 7, 2) := by decide +kernel
theorem dL_law__1142 : decode cL_law_ 1142 = .ok (.aload_n 2, 1) := by decide +kernel
theorem dL_law__1143 : decode cL_law_ 1143 = .ok (.invokevirtual 161, 3) := by decide +kernel
theorem dL_law__1146 : decode cL_law_ 1146 = .ok (.iload 6, 2) := by decide +kernel
theorem dL_law__1148 : decode cL_law_ 1148 = .ok (.if_icmp .eq 5, 3) := by decide +kernel
theorem dL_law__1153 : decode cL_law_ 1153 = .ok (.iload 6, 2) := by decide +kernel
theorem dL_law__1155 : decode cL_law_ 1155 = .ok (.ifCond .ne 14, 3) := by decide +kernel
theorem dL_law__1169 : decode cL_law_ 1169 = .ok (.goto 1681, 3) := by decide +kernel
theorem dL_law__1172 : decode cL_law_ 1172 = .ok (.aload_n 1, 1) := by decide +kernel
theorem dL_law__1173 : decode cL_law_ 1173 = .ok (.aload_n 0, 1) := by decide +kernel
theorem dL_law__1174 : decode cL_law_ 1174 = .ok (.iload 5, 2) := by decide +kernel
theorem dL_law__1176 : decode cL_law_ 1176 = .ok (.iconst 1, 1) := by decide +kernel
theorem dL_law__1177 : decode cL_law_ 1177 = .ok (.iadd, 1) := by decide +kernel
theorem dL_law__1178 : decode cL_law_ 1178 = .ok (.iaload, 1) := by decide +kernel
theorem dL_law__1179 : decode cL_law_ 1179 = .ok (.aload_n 0, 1) := by decide +kernel
theorem dL_law__1180 : decode cL_law_ 1180 = .ok (.iload 5, 2) := by decide +kernel
theorem dL_law__1182 : decode cL_law_ 1182 = .ok (.iconst 2, 1) := by decide +kernel
theorem dL_law__1183 : decode cL_law_ 1183 = .ok (.iadd, 1) := by decide +kernel
theorem dL_law__1184 : decode cL_law_ 1184 = .ok (.iaload, 1) := by decide +kernel
theorem dL_law__1185 : decode cL_law_ 1185 = .ok (.aload_n 3, 1) := by decide +kernel
theorem dL_law__1186 : decode cL_law_ 1186 = .ok (.invokestatic 206, 3) := by decide +kernel
theorem dL_law__1189 : decode cL_law_ 1189 = .ok (.istore 6, 2) := by decide +kernel
theorem dL_law__1191 : decode cL_law_ 1191 = .ok (.aload_n 2, 1) := by decide +kernel
theorem dL_law__1192 : decode cL_law_ 1192 = .ok (.aload_n 0, 1) := by decide +kernel
theorem dL_law__1193 : decode cL_law_ 1193 = .ok (.iload 5, 2) := by decide +kernel
theorem dL_law__1195 : decode cL_law_ 1195 = .ok (.iconst 1, 1) := by decide +kernel
theorem dL_law__1196 : decode cL_law_ 1196 = .ok (.iadd, 1) := by decide +kernel
theorem dL_law__1197 : decode cL_law_ 1197 = .ok (.iaload, 1) := by decide +kernel
theorem dL_law__1198 : decode cL_law_ 1198 = .ok (.aload_n 0, 1) := by decide +kernel
theorem dL_law__1199 : decode cL_law_ 1199 = .ok (.iload 5, 2) := by decide +kernel
theorem dL_law__1201 : decode cL_law_ 1201 = .ok (.iconst 2, 1) := by decide +kernel
theorem dL_law__1202 : decode cL_law_ 1202 = .ok (.iadd, 1) := by decide +kernel
theorem dL_law__1203 : decode cL_law_ 1203 = .ok (.iaload, 1) := by decide +kernel
theorem dL_law__1204 : decode cL_law_ 1204 = .ok (.invokevirtual 208, 3) := by decide +kernel
theorem dL_law__1207 : decode cL_law_ 1207 = .ok (.lstore 7, 2) := by decide +kernel
theorem dL_law__1209 : decode cL_law_ 1209 = .ok (.aload_n 2, 1) := by decide +kernel
theorem dL_law__1210 : decode cL_law_ 1210 = .ok (.invokevirtual 161, 3) := by decide +kernel
theorem dL_law__1213 : decode cL_law_ 1213 = .ok (.iload 6, 2) := by decide +kernel
theorem dL_law__1215 : decode cL_law_ 1215 = .ok (.if_icmp .eq 5, 3) := by decide +kernel
theorem dL_law__1220 : decode cL_law_ 1220 = .ok (.iload 6, 2) := by decide +kernel
theorem dL_law__1222 : decode cL_law_ 1222 = .ok (.ifCond .ne 14, 3) := by decide +kernel
theorem dL_law__1236 : decode cL_law_ 1236 = .ok (.goto 1614, 3) := by decide +kernel
theorem dL_law__1239 : decode cL_law_ 1239 = .ok (.aload_n 1, 1) := by decide +kernel
theorem dL_law__1240 : decode cL_law_ 1240 = .ok (.aload_n 0, 1) := by decide +kernel
theorem dL_law__1241 : decode cL_law_ 1241 = .ok (.iload 5, 2) := by decide +kernel
theorem dL_law__1243 : decode cL_law_ 1243 = .ok (.iconst 1, 1) := by decide +kernel
theorem dL_law__1244 : decode cL_law_ 1244 = .ok (.iadd, 1) := by decide +kernel
theorem dL_law__1245 : decode cL_law_ 1245 = .ok (.iaload, 1) := by decide +kernel
theorem dL_law__1246 : decode cL_law_ 1246 = .ok (.aload_n 0, 1) := by decide +kernel
theorem dL_law__1247 : decode cL_law_ 1247 = .ok (.iload 5, 2) := by decide +kernel
theorem dL_law__1249 : decode cL_law_ 1249 = .ok (.iconst 2, 1) := by decide +kernel
theorem dL_law__1250 : decode cL_law_ 1250 = .ok (.iadd, 1) := by decide +kernel
theorem dL_law__1251 : decode cL_law_ 1251 = .ok (.iaload, 1) := by decide +kernel
theorem dL_law__1252 : decode cL_law_ 1252 = .ok (.aload_n 0, 1) := by decide +kernel
theorem dL_law__1253 : decode cL_law_ 1253 = .ok (.iload 5, 2) := by decide +kernel
theorem dL_law__1255 : decode cL_law_ 1255 = .ok (.iconst 3, 1) := by decide +kernel
theorem dL_law__1256 : decode cL_law_ 1256 = .ok (.iadd, 1) := by decide +kernel
theorem dL_law__1257 : decode cL_law_ 1257 = .ok (.iaload, 1) := by decide +kernel
theorem dL_law__1258 : decode cL_law_ 1258 = .ok (.i2c, 1) := by decide +kernel
theorem dL_law__1259 : decode cL_law_ 1259 = .ok (.aload_n 3, 1) := by decide +kernel
theorem dL_law__1260 : decode cL_law_ 1260 = .ok (.invokestatic 209, 3) := by decide +kernel
theorem dL_law__1263 : decode cL_law_ 1263 = .ok (.istore 6, 2) := by decide +kernel
theorem dL_law__1265 : decode cL_law_ 1265 = .ok (.aload_n 2, 1) := by decide +kernel
theorem dL_law__1266 : decode cL_law_ 1266 = .ok (.aload_n 0, 1) := by decide +kernel
theorem dL_law__1267 : decode cL_law_ 1267 = .ok (.iload 5, 2) := by decide +kernel
theorem dL_law__1269 : decode cL_law_ 1269 = .ok (.iconst 1, 1) := by decide +kernel
theorem dL_law__1270 : decode cL_law_ 1270 = .ok (.iadd, 1) := by decide +kernel
theorem dL_law__1271 : decode cL_law_ 1271 = .ok (.iaload, 1) := by decide +kernel
theorem dL_law__1272 : decode cL_law_ 1272 = .ok (.aload_n 0, 1) := by decide +kernel
theorem dL_law__1273 : decode cL_law_ 1273 = .ok (.iload 5, 2) := by decide +kernel
theorem dL_law__1275 : decode cL_law_ 1275 = .ok (.iconst 2, 1) := by decide +kernel
theorem dL_law__1276 : decode cL_law_ 1276 = .ok (.iadd, 1) := by decide +kernel
theorem dL_law__1277 : decode cL_law_ 1277 = .ok (.iaload, 1) := by decide +kernel
theorem dL_law__1278 : decode cL_law_ 1278 = .ok (.aload_n 0, 1) := by decide +kernel
theorem dL_law__1279 : decode cL_law_ 1279 = .ok (.iload 5, 2) := by decide +kernel
theorem dL_law__1281 : decode cL_law_ 1281 = .ok (.iconst 3, 1) := by decide +kernel
theorem dL_law__1282 : decode cL_law_ 1282 = .ok (.iadd, 1) := by decide +kernel
theorem dL_law__1283 : decode cL_law_ 1283 = .ok (.iaload, 1) := by decide +kernel
theorem dL_law__1284 : decode cL_law_ 1284 = .ok (.i2c, 1) := by decide +kernel
theorem dL_law__1285 : decode cL_law_ 1285 = .ok (.invokevirtual 212, 3) := by decide +kernel
theorem dL_law__1288 : decode cL_law_ 1288 = .ok (.lstore 7, 2) := by decide +kernel
theorem dL_law__1290 : decode cL_law_ 1290 = .ok (.aload_n 2, 1) := by decide +kernel
theorem dL_law__1291 : decode cL_law_ 1291 = .ok (.invokevirtual 161, 3) := by decide +kernel
theorem dL_law__1294 : decode cL_law_ 1294 = .ok (.iload 6, 2) := by decide +kernel
theorem dL_law__1296 : decode cL_law_ 1296 = .ok (.if_icmp .eq 5, 3) := by decide +kernel
theorem dL_law__1301 : decode cL_law_ 1301 = .ok (.iload 6, 2) := by decide +kernel
theorem dL_law__1303 : decode cL_law_ 1303 = .ok (.ifCond .ne 14, 3) := by decide +kernel
theorem dL_law__1317 : decode cL_law_ 1317 = .ok (.goto 1533, 3) := by decide +kernel
theorem dL_law__1320 : decode cL_law_ 1320 = .ok (.aload_n 1, 1) := by decide +kernel
theorem dL_law__1321 : decode cL_law_ 1321 = .ok (.aload_n 0, 1) := by decide +kernel
theorem dL_law__1322 : decode cL_law_ 1322 = .ok (.iload 5, 2) := by decide +kernel
theorem dL_law__1324 : decode cL_law_ 1324 = .ok (.iconst 1, 1) := by decide +kernel
theorem dL_law__1325 : decode cL_law_ 1325 = .ok (.iadd, 1) := by decide +kernel
theorem dL_law__1326 : decode cL_law_ 1326 = .ok (.iaload, 1) := by decide +kernel
theorem dL_law__1327 : decode cL_law_ 1327 = .ok (.aload_n 0, 1) := by decide +kernel
theorem dL_law__1328 : decode cL_law_ 1328 = .ok (.iload 5, 2) := by decide +kernel
theorem dL_law__1330 : decode cL_law_ 1330 = .ok (.iconst 2, 1) := by decide +kernel
theorem dL_law__1331 : decode cL_law_ 1331 = .ok (.iadd, 1) := by decide +kernel
theorem dL_law__1332 : decode cL_law_ 1332 = .ok (.iaload, 1) := by decide +kernel
theorem dL_law__1333 : decode cL_law_ 1333 = .ok (.i2c, 1) := by decide +kernel
theorem dL_law__1334 : decode cL_law_ 1334 = .ok (.aload_n 3, 1) := by decide +kernel
theorem dL_law__1335 : decode cL_law_ 1335 = .ok (.invokestatic 213, 3) := by decide +kernel
theorem dL_law__1338 : decode cL_law_ 1338 = .ok (.istore 6, 2) := by decide +kernel
theorem dL_law__1340 : decode cL_law_ 1340 = .ok (.aload_n 2, 1) := by decide +kernel
theorem dL_law__1341 : decode cL_law_ 1341 = .ok (.aload_n 0, 1) := by decide +kernel
theorem dL_law__1342 : decode cL_law_ 1342 = .ok (.iload 5, 2) := by decide +kernel
theorem dL_law__1344 : decode cL_law_ 1344 = .ok (.iconst 1, 1) := by decide +kernel
theorem dL_law__1345 : decode cL_law_ 1345 = .ok (.iadd, 1) := by decide +kernel
theorem dL_law__1346 : decode cL_law_ 1346 = .ok (.iaload, 1) := by decide +kernel
theorem dL_law__1347 : decode cL_law_ 1347 = .ok (.aload_n 0, 1) := by decide +kernel
theorem dL_law__1348 : decode cL_law_ 1348 = .ok (.iload 5, 2) := by decide +kernel
theorem dL_law__1350 : decode cL_law_ 1350 = .ok (.iconst 2, 1) := by decide +kernel
theorem dL_law__1351 : decode cL_law_ 1351 = .ok (.iadd, 1) := by decide +kernel
theorem dL_law__1352 : decode cL_law_ 1352 = .ok (.iaload, 1) := by decide +kernel
theorem dL_law__1353 : decode cL_law_ 1353 = .ok (.i2c, 1) := by decide +kernel
theorem dL_law__1354 : decode cL_law_ 1354 = .ok (.invokevirtual 216, 3) := by decide +kernel
theorem dL_law__1357 : decode cL_law_ 1357 = .ok (.lstore 7, 2) := by decide +kernel
theorem dL_law__1359 : decode cL_law_ 1359 = .ok (.aload_n 2, 1) := by decide +kernel
theorem dL_law__1360 : decode cL_law_ 1360 = .ok (.invokevirtual 161, 3) := by decide +kernel
theorem dL_law__1363 : decode cL_law_ 1363 = .ok (.iload 6, 2) := by decide +kernel
theorem dL_law__1365 : decode cL_law_ 1365 = .ok (.if_icmp .eq 5, 3) := by decide +kernel
theorem dL_law__1370 : decode cL_law_ 1370 = .ok (.iload 6, 2) := by decide +kernel
theorem dL_law__1372 : decode cL_law_ 1372 = .ok (.ifCond .ne 14, 3) := by decide +kernel
theorem dL_law__1386 : decode cL_law_ 1386 = .ok (.goto 1464, 3) := by decide +kernel
theorem dL_law__1389 : decode cL_law_ 1389 = .ok (.aload_n 1, 1) := by decide +kernel
theorem dL_law__1390 : decode cL_law_ 1390 = .ok (.aload_n 0, 1) := by decide +kernel
theorem dL_law__1391 : decode cL_law_ 1391 = .ok (.iload 5, 2) := by decide +kernel
theorem dL_law__1393 : decode cL_law_ 1393 = .ok (.iconst 1, 1) := by decide +kernel
theorem dL_law__1394 : decode cL_law_ 1394 = .ok (.iadd, 1) := by decide +kernel
theorem dL_law__1395 : decode cL_law_ 1395 = .ok (.iaload, 1) := by decide +kernel
theorem dL_law__1396 : decode cL_law_ 1396 = .ok (.aload_n 3, 1) := by decide +kernel
theorem dL_law__1397 : decode cL_law_ 1397 = .ok (.invokestatic 217, 3) := by decide +kernel
theorem dL_law__1400 : decode cL_law_ 1400 = .ok (.istore 6, 2) := by decide +kernel
theorem dL_law__1402 : decode cL_law_ 1402 = .ok (.aload_n 2, 1) := by decide +kernel
theorem dL_law__1403 : decode cL_law_ 1403 = .ok (.aload_n 0, 1) := by decide +kernel
theorem dL_law__1404 : decode cL_law_ 1404 = .ok (.iload 5, 2) := by decide +kernel
theorem dL_law__1406 : decode cL_law_ 1406 = .ok (.iconst 1, 1) := by decide +kernel
theorem dL_law__1407 : decode cL_law_ 1407 = .ok (.iadd, 1) := by decide +kernel
theorem dL_law__1408 : decode cL_law_ 1408 = .ok (.iaload, 1) := by decide +kernel
theorem dL_law__1409 : decode cL_law_ 1409 = .ok (.invokevirtual 219, 3) := by decide +kernel
theorem dL_law__1412 : decode cL_law_ 1412 = .ok (.lstore 7, 2) := by decide +kernel
theorem dL_law__1414 : decode cL_law_ 1414 = .ok (.aload_n 2, 1) := by decide +kernel
theorem dL_law__1415 : decode cL_law_ 1415 = .ok (.invokevirtual 161, 3) := by decide +kernel
theorem dL_law__1418 : decode cL_law_ 1418 = .ok (.iload 6, 2) := by decide +kernel
theorem dL_law__1420 : decode cL_law_ 1420 = .ok (.if_icmp .eq 5, 3) := by decide +kernel
theorem dL_law__1425 : decode cL_law_ 1425 = .ok (.iload 6, 2) := by decide +kernel
theorem dL_law__1427 : decode cL_law_ 1427 = .ok (.ifCond .ne 14, 3) := by decide +kernel
theorem dL_law__1441 : decode cL_law_ 1441 = .ok (.goto 1409, 3) := by decide +kernel
theorem dL_law__1444 : decode cL_law_ 1444 = .ok (.aload_n 1, 1) := by decide +kernel
theorem dL_law__1445 : decode cL_law_ 1445 = .ok (.aload_n 0, 1) := by decide +kernel
theorem dL_law__1446 : decode cL_law_ 1446 = .ok (.iload 5, 2) := by decide +kernel
theorem dL_law__1448 : decode cL_law_ 1448 = .ok (.iconst 1, 1) := by decide +kernel
theorem dL_law__1449 : decode cL_law_ 1449 = .ok (.iadd, 1) := by decide +kernel
theorem dL_law__1450 : decode cL_law_ 1450 = .ok (.iaload, 1) := by decide +kernel
theorem dL_law__1451 : decode cL_law_ 1451 = .ok (.aload_n 0, 1) := by decide +kernel
theorem dL_law__1452 : decode cL_law_ 1452 = .ok (.iload 5, 2) := by decide +kernel
theorem dL_law__1454 : decode cL_law_ 1454 = .ok (.iconst 2, 1) := by decide +kernel
theorem dL_law__1455 : decode cL_law_ 1455 = .ok (.iadd, 1) := by decide +kernel
theorem dL_law__1456 : decode cL_law_ 1456 = .ok (.iaload, 1) := by decide +kernel
theorem dL_law__1457 : decode cL_law_ 1457 = .ok (.aload_n 0, 1) := by decide +kernel
theorem dL_law__1458 : decode cL_law_ 1458 = .ok (.iload 5, 2) := by decide +kernel
theorem dL_law__1460 : decode cL_law_ 1460 = .ok (.iconst 3, 1) := by decide +kernel
theorem dL_law__1461 : decode cL_law_ 1461 = .ok (.iadd, 1) := by decide +kernel
theorem dL_law__1462 : decode cL_law_ 1462 = .ok (.iaload, 1) := by decide +kernel
theorem dL_law__1463 : decode cL_law_ 1463 = .ok (.aload_n 3, 1) := by decide +kernel
theorem dL_law__1464 : decode cL_law_ 1464 = .ok (.invokestatic 220, 3) := by decide +kernel
theorem dL_law__1467 : decode cL_law_ 1467 = .ok (.istore 6, 2) := by decide +kernel
theorem dL_law__1469 : decode cL_law_ 1469 = .ok (.aload_n 2, 1) := by decide +kernel
theorem dL_law__1470 : decode cL_law_ 1470 = .ok (.aload_n 0, 1) := by decide +kernel
theorem dL_law__1471 : decode cL_law_ 1471 = .ok (.iload 5, 2) := by decide +kernel
theorem dL_law__1473 : decode cL_law_ 1473 = .ok (.iconst 1, 1) := by decide +kernel
theorem dL_law__1474 : decode cL_law_ 1474 = .ok (.iadd, 1) := by decide +kernel
theorem dL_law__1475 : decode cL_law_ 1475 = .ok (.iaload, 1) := by decide +kernel
theorem dL_law__1476 : decode cL_law_ 1476 = .ok (.aload_n 0, 1) := by decide +kernel
theorem dL_law__1477 : decode cL_law_ 1477 = .ok (.iload 5, 2) := by decide +kernel
theorem dL_law__1479 : decode cL_law_ 1479 = .ok (.iconst 2, 1) := by decide +kernel
theorem dL_law__1480 : decode cL_law_ 1480 = .ok (.iadd, 1) := by decide +kernel
theorem dL_law__1481 : decode cL_law_ 1481 = .ok (.iaload, 1) := by decide +kernel
theorem dL_law__1482 : decode cL_law_ 1482 = .ok (.aload_n 0, 1) := by decide +kernel
theorem dL_law__1483 : decode cL_law_ 1483 = .ok (.iload 5, 2) := by decide +kernel
theorem dL_law__1485 : decode cL_law_ 1485 = .ok (.iconst 3, 1) := by decide +kernel
theorem dL_law__1486 : decode cL_law_ 1486 = .ok (.iadd, 1) := by decide +kernel
theorem dL_law__1487 : decode cL_law_ 1487 = .ok (.iaload, 1) := by decide +kernel
theorem dL_law__1488 : decode cL_law_ 1488 = .ok (.invokevirtual 222, 3) := by decide +kernel
theorem dL_law__1491 : decode cL_law_ 1491 = .ok (.istore 7, 2) := by decide +kernel
theorem dL_law__1493 : decode cL_law_ 1493 = .ok (.aload_n 2, 1) := by decide +kernel
theorem dL_law__1494 : decode cL_law_ 1494 = .ok (.invokevirtual 161, 3) := by decide +kernel
theorem dL_law__1497 : decode cL_law_ 1497 = .ok (.iload 6, 2) := by decide +kernel
theorem dL_law__1499 : decode cL_law_ 1499 = .ok (.if_icmp .eq 5, 3) := by decide +kernel
theorem dL_law__1504 : decode cL_law_ 1504 = .ok (.iload 6, 2) := by decide +kernel
theorem dL_law__1506 : decode cL_law_ 1506 = .ok (.ifCond .ne 15, 3) := by decide +kernel
theorem dL_law__1509 : decode cL_law_ 1509 = .ok (.aload_n 3, 1) := by decide +kernel
theorem dL_law__1510 : decode cL_law_ 1510 = .ok (.iconst 0, 1) := by decide +kernel
theorem dL_law__1511 : decode cL_law_ 1511 = .ok (.laload, 1) := by decide +kernel
theorem dL_law__1512 : decode cL_law_ 1512 = .ok (.iload 7, 2) := by decide +kernel
theorem dL_law__1514 : decode cL_law_ 1514 = .ok (.i2l, 1) := by decide +kernel
theorem dL_law__1515 : decode cL_law_ 1515 = .ok (.lcmp, 1) := by decide +kernel
theorem dL_law__1516 : decode cL_law_ 1516 = .ok (.ifCond .eq 5, 3) := by decide +kernel
theorem dL_law__1521 : decode cL_law_ 1521 = .ok (.goto 1329, 3) := by decide +kernel
theorem dL_law__1524 : decode cL_law_ 1524 = .ok (.aload_n 1, 1) := by decide +kernel
theorem dL_law__1525 : decode cL_law_ 1525 = .ok (.aload_n 0, 1) := by decide +kernel
theorem dL_law__1526 : decode cL_law_ 1526 = .ok (.iload 5, 2) := by decide +kernel
theorem dL_law__1528 : decode cL_law_ 1528 = .ok (.iconst 1, 1) := by decide +kernel
theorem dL_law__1529 : decode cL_law_ 1529 = .ok (.iadd, 1) := by decide +kernel
theorem dL_law__1530 : decode cL_law_ 1530 = .ok (.iaload, 1) := by decide +kernel
theorem dL_law__1531 : decode cL_law_ 1531 = .ok (.aload_n 0, 1) := by decide +kernel
theorem dL_law__1532 : decode cL_law_ 1532 = .ok (.iload 5, 2) := by decide +kernel
theorem dL_law__1534 : decode cL_law_ 1534 = .ok (.iconst 2, 1) := by decide +kernel
theorem dL_law__1535 : decode cL_law_ 1535 = .ok (.iadd, 1) := by decide +kernel
theorem dL_law__1536 : decode cL_law_ 1536 = .ok (.iaload, 1) := by decide +kernel
theorem dL_law__1537 : decode cL_law_ 1537 = .ok (.aload_n 3, 1) := by decide +kernel
theorem dL_law__1538 : decode cL_law_ 1538 = .ok (.invokestatic 223, 3) := by decide +kernel
theorem dL_law__1541 : decode cL_law_ 1541 = .ok (.istore 6, 2) := by decide +kernel
theorem dL_law__1543 : decode cL_law_ 1543 = .ok (.aload_n 2, 1) := by decide +kernel
theorem dL_law__1544 : decode cL_law_ 1544 = .ok (.aload_n 0, 1) := by decide +kernel
theorem dL_law__1545 : decode cL_law_ 1545 = .ok (.iload 5, 2) := by decide +kernel
theorem dL_law__1547 : decode cL_law_ 1547 = .ok (.iconst 1, 1) := by decide +kernel
theorem dL_law__1548 : decode cL_law_ 1548 = .ok (.iadd, 1) := by decide +kernel
theorem dL_law__1549 : decode cL_law_ 1549 = .ok (.iaload, 1) := by decide +kernel
theorem dL_law__1550 : decode cL_law_ 1550 = .ok (.aload_n 0, 1) := by decide +kernel
theorem dL_law__1551 : decode cL_law_ 1551 = .ok (.iload 5, 2) := by decide +kernel
theorem dL_law__1553 : decode cL_law_ 1553 = .ok (.iconst 2, 1) := by decide +kernel
theorem dL_law__1554 : decode cL_law_ 1554 = .ok (.iadd, 1) := by decide +kernel
theorem dL_law__1555 : decode cL_law_ 1555 = .ok (.iaload, 1) := by decide +kernel
theorem dL_law__1556 : decode cL_law_ 1556 = .ok (.invokevirtual 225, 3) := by decide +kernel
theorem dL_law__1559 : decode cL_law_ 1559 = .ok (.istore 7, 2) := by decide +kernel
theorem dL_law__1561 : decode cL_law_ 1561 = .ok (.aload_n 2, 1) := by decide +kernel
theorem dL_law__1562 : decode cL_law_ 1562 = .ok (.invokevirtual 161, 3) := by decide +kernel
theorem dL_law__1565 : decode cL_law_ 1565 = .ok (.iload 6, 2) := by decide +kernel
theorem dL_law__1567 : decode cL_law_ 1567 = .ok (.if_icmp .eq 5, 3) := by decide +kernel
theorem dL_law__1572 : decode cL_law_ 1572 = .ok (.iload 6, 2) := by decide +kernel
theorem dL_law__1574 : decode cL_law_ 1574 = .ok (.ifCond .ne 15, 3) := by decide +kernel
theorem dL_law__1577 : decode cL_law_ 1577 = .ok (.aload_n 3, 1) := by decide +kernel
theorem dL_law__1578 : decode cL_law_ 1578 = .ok (.iconst 0, 1) := by decide +kernel
theorem dL_law__1579 : decode cL_law_ 1579 = .ok (.laload, 1) := by decide +kernel
theorem dL_law__1580 : decode cL_law_ 1580 = .ok (.iload 7, 2) := by decide +kernel
theorem dL_law__1582 : decode cL_law_ 1582 = .ok (.i2l, 1) := by decide +kernel
theorem dL_law__1583 : decode cL_law_ 1583 = .ok (.lcmp, 1) := by decide +kernel
theorem dL_law__1584 : decode cL_law_ 1584 = .ok (.ifCond .eq 5, 3) := by decide +kernel
theorem dL_law__1589 : decode cL_law_ 1589 = .ok (.goto 1261, 3) := by decide +kernel
theorem dL_law__1592 : decode cL_law_ 1592 = .ok (.aload_n 1, 1) := by decide +kernel
theorem dL_law__1593 : decode cL_law_ 1593 = .ok (.aload_n 0, 1) := by decide +kernel
theorem dL_law__1594 : decode cL_law_ 1594 = .ok (.iload 5, 2) := by decide +kernel
theorem dL_law__1596 : decode cL_law_ 1596 = .ok (.iconst 1, 1) := by decide +kernel
theorem dL_law__1597 : decode cL_law_ 1597 = .ok (.iadd, 1) := by decide +kernel
theorem dL_law__1598 : decode cL_law_ 1598 = .ok (.iaload, 1) := by decide +kernel
theorem dL_law__1599 : decode cL_law_ 1599 = .ok (.aload_n 3, 1) := by decide +kernel
theorem dL_law__1600 : decode cL_law_ 1600 = .ok (.invokestatic 226, 3) := by decide +kernel
theorem dL_law__1603 : decode cL_law_ 1603 = .ok (.istore 6, 2) := by decide +kernel
theorem dL_law__1605 : decode cL_law_ 1605 = .ok (.aload_n 2, 1) := by decide +kernel
theorem dL_law__1606 : decode cL_law_ 1606 = .ok (.aload_n 0, 1) := by decide +kernel
theorem dL_law__1607 : decode cL_law_ 1607 = .ok (.iload 5, 2) := by decide +kernel
theorem dL_law__1609 : decode cL_law_ 1609 = .ok (.iconst 1, 1) := by decide +kernel
theorem dL_law__1610 : decode cL_law_ 1610 = .ok (.iadd, 1) := by decide +kernel
theorem dL_law__1611 : decode cL_law_ 1611 = .ok (.iaload, 1) := by decide +kernel
theorem dL_law__1612 : decode cL_law_ 1612 = .ok (.invokevirtual 228, 3) := by decide +kernel
theorem dL_law__1615 : decode cL_law_ 1615 = .ok (.istore 7, 2) := by decide +kernel
theorem dL_law__1617 : decode cL_law_ 1617 = .ok (.aload_n 2, 1) := by decide +kernel
theorem dL_law__1618 : decode cL_law_ 1618 = .ok (.invokevirtual 161, 3) := by decide +kernel
theorem dL_law__1621 : decode cL_law_ 1621 = .ok (.iload 6, 2) := by decide +kernel
theorem dL_law__1623 : decode cL_law_ 1623 = .ok (.if_icmp .eq 5, 3) := by decide +kernel
theorem dL_law__1628 : decode cL_law_ 1628 = .ok (.iload 6, 2) := by decide +kernel
theorem dL_law__1630 : decode cL_law_ 1630 = .ok (.ifCond .ne 15, 3) := by decide +kernel
theorem dL_law__1633 : decode cL_law_ 1633 = .ok (.aload_n 3, 1) := by decide +kernel
theorem dL_law__1634 : decode cL_law_ 1634 = .ok (.iconst 0, 1) := by decide +kernel
theorem dL_law__1635 : decode cL_law_ 1635 = .ok (.laload, 1) := by decide +kernel
theorem dL_law__1636 : decode cL_law_ 1636 = .ok (.iload 7, 2) := by decide +kernel
theorem dL_law__1638 : decode cL_law_ 1638 = .ok (.i2l, 1) := by decide +kernel
theorem dL_law__1639 : decode cL_law_ 1639 = .ok (.lcmp, 1) := by decide +kernel
theorem dL_law__1640 : decode cL_law_ 1640 = .ok (.ifCond .eq 5, 3) := by decide +kernel
theorem dL_law__1645 : decode cL_law_ 1645 = .ok (.goto 1205, 3) := by decide +kernel
theorem dL_law__1648 : decode cL_law_ 1648 = .ok (.aload_n 1, 1) := by decide +kernel
theorem dL_law__1649 : decode cL_law_ 1649 = .ok (.aload_n 0, 1) := by decide +kernel
theorem dL_law__1650 : decode cL_law_ 1650 = .ok (.iload 5, 2) := by decide +kernel
theorem dL_law__1652 : decode cL_law_ 1652 = .ok (.iconst 1, 1) := by decide +kernel
theorem dL_law__1653 : decode cL_law_ 1653 = .ok (.iadd, 1) := by decide +kernel
theorem dL_law__1654 : decode cL_law_ 1654 = .ok (.iaload, 1) := by decide +kernel
theorem dL_law__1655 : decode cL_law_ 1655 = .ok (.aload_n 3, 1) := by decide +kernel
theorem dL_law__1656 : decode cL_law_ 1656 = .ok (.invokestatic 229, 3) := by decide +kernel
theorem dL_law__1659 : decode cL_law_ 1659 = .ok (.istore 6, 2) := by decide +kernel
theorem dL_law__1661 : decode cL_law_ 1661 = .ok (.aload_n 2, 1) := by decide +kernel
theorem dL_law__1662 : decode cL_law_ 1662 = .ok (.aload_n 0, 1) := by decide +kernel
theorem dL_law__1663 : decode cL_law_ 1663 = .ok (.iload 5, 2) := by decide +kernel
theorem dL_law__1665 : decode cL_law_ 1665 = .ok (.iconst 1, 1) := by decide +kernel
theorem dL_law__1666 : decode cL_law_ 1666 = .ok (.iadd, 1) := by decide +kernel
theorem dL_law__1667 : decode cL_law_ 1667 = .ok (.iaload, 1) := by decide +kernel
theorem dL_law__1668 : decode cL_law_ 1668 = .ok (.invokevirtual 231, 3) := by decide +kernel
theorem dL_law__1671 : decode cL_law_ 1671 = .ok (.istore 7, 2) := by decide +kernel
theorem dL_law__1673 : decode cL_law_ 1673 = .ok (.aload_n 2, 1) := by decide +kernel
theorem dL_law__1674 : decode cL_law_ 1674 = .ok (.invokevirtual 161, 3) := by decide +kernel
theorem dL_law__1677 : decode cL_law_ 1677 = .ok (.iload 6, 2) := by decide +kernel
theorem dL_law__1679 : decode cL_law_ 1679 = .ok (.if_icmp .eq 5, 3) := by decide +kernel
theorem dL_law__1684 : decode cL_law_ 1684 = .ok (.iload 6, 2) := by decide +kernel
theorem dL_law__1686 : decode cL_law_ 1686 = .ok (.ifCond .ne 15, 3) := by decide +kernel
theorem dL_law__1701 : decode cL_law_ 1701 = .ok (.goto 1149, 3) := by decide +kernel
theorem dL_law__1704 : decode cL_law_ 1704 = .ok (.aload_n 1, 1) := by decide +kernel
theorem dL_law__1705 : decode cL_law_ 1705 = .ok (.aload_n 0, 1) := by decide +kernel
theorem dL_law__1706 : decode cL_law_ 1706 = .ok (.iload 5, 2) := by decide +kernel
theorem dL_law__1708 : decode cL_law_ 1708 = .ok (.iconst 1, 1) := by decide +kernel
theorem dL_law__1709 : decode cL_law_ 1709 = .ok (.iadd, 1) := by decide +kernel
theorem dL_law__1710 : decode cL_law_ 1710 = .ok (.iaload, 1) := by decide +kernel
theorem dL_law__1711 : decode cL_law_ 1711 = .ok (.aload_n 3, 1) := by decide +kernel
theorem dL_law__1712 : decode cL_law_ 1712 = .ok (.invokestatic 232, 3) := by decide +kernel
theorem dL_law__1715 : decode cL_law_ 1715 = .ok (.istore 6, 2) := by decide +kernel
theorem dL_law__1717 : decode cL_law_ 1717 = .ok (.aload_n 2, 1) := by decide +kernel
theorem dL_law__1718 : decode cL_law_ 1718 = .ok (.aload_n 0, 1) := by decide +kernel
theorem dL_law__1719 : decode cL_law_ 1719 = .ok (.iload 5, 2) := by decide +kernel
theorem dL_law__1721 : decode cL_law_ 1721 = .ok (.iconst 1, 1) := by decide +kernel
theorem dL_law__1722 : decode cL_law_ 1722 = .ok (.iadd, 1) := by decide +kernel
theorem dL_law__1723 : decode cL_law_ 1723 = .ok (.iaload, 1) := by decide +kernel
theorem dL_law__1724 : decode cL_law_ 1724 = .ok (.invokevirtual 234, 3) := by decide +kernel
theorem dL_law__1727 : decode cL_law_ 1727 = .ok (.lstore 7, 2) := by decide +kernel
theorem dL_law__1729 : decode cL_law_ 1729 = .ok (.aload_n 2, 1) := by decide +kernel
theorem dL_law__1730 : decode cL_law_ 1730 = .ok (.invokevirtual 161, 3) := by decide +kernel
theorem dL_law__1733 : decode cL_law_ 1733 = .ok (.iload 6, 2) := by decide +kernel
theorem dL_law__1735 : decode cL_law_ 1735 = .ok (.if_icmp .eq 5, 3) := by decide +kernel
theorem dL_law__1740 : decode cL_law_ 1740 = .ok (.iload 6, 2) := by decide +kernel
theorem dL_law__1742 : decode cL_law_ 1742 = .ok (.ifCond .ne 14, 3) := by decide +kernel
theorem dL_law__1756 : decode cL_law_ 1756 = .ok (.goto 1094, 3) := by decide +kernel
theorem dL_law__1759 : decode cL_law_ 1759 = .ok (.aload_n 1, 1) := by decide +kernel
theorem dL_law__1760 : decode cL_law_ 1760 = .ok (.aload_n 0, 1) := by decide +kernel
theorem dL_law__1761 : decode cL_law_ 1761 = .ok (.iload 5, 2) := by decide +kernel
theorem dL_law__1763 : decode cL_law_ 1763 = .ok (.iconst 1, 1) := by decide +kernel
theorem dL_law__1764 : decode cL_law_ 1764 = .ok (.iadd, 1) := by decide +kernel
theorem dL_law__1765 : decode cL_law_ 1765 = .ok (.iaload, 1) := by decide +kernel
theorem dL_law__1766 : decode cL_law_ 1766 = .ok (.aload_n 3, 1) := by decide +kernel
theorem dL_law__1767 : decode cL_law_ 1767 = .ok (.invokestatic 235, 3) := by decide +kernel
theorem dL_law__1770 : decode cL_law_ 1770 = .ok (.istore 6, 2) := by decide +kernel
theorem dL_law__1772 : decode cL_law_ 1772 = .ok (.aload_n 2, 1) := by decide +kernel
theorem dL_law__1773 : decode cL_law_ 1773 = .ok (.aload_n 0, 1) := by decide +kernel
theorem dL_law__1774 : decode cL_law_ 1774 = .ok (.iload 5, 2) := by decide +kernel
theorem dL_law__1776 : decode cL_law_ 1776 = .ok (.iconst 1, 1) := by decide +kernel
theorem dL_law__1777 : decode cL_law_ 1777 = .ok (.iadd, 1) := by decide +kernel
theorem dL_law__1778 : decode cL_law_ 1778 = .ok (.iaload, 1) := by decide +kernel
theorem dL_law__1779 : decode cL_law_ 1779 = .ok (.invokevirtual 237, 3) := by decide +kernel
theorem dL_law__1782 : decode cL_law_ 1782 = .ok (.lstore 7, 2) := by decide +kernel
theorem dL_law__1784 : decode cL_law_ 1784 = .ok (.aload_n 2, 1) := by decide +kernel
theorem dL_law__1785 : decode cL_law_ 1785 = .ok (.invokevirtual 161, 3) := by decide +kernel
theorem dL_law__1788 : decode cL_law_ 1788 = .ok (.iload 6, 2) := by decide +kernel
theorem dL_law__1790 : decode cL_law_ 1790 = .ok (.if_icmp .eq 5, 3) := by decide +kernel
theorem dL_law__1795 : decode cL_law_ 1795 = .ok (.iload 6, 2) := by decide +kernel
theorem dL_law__1797 : decode cL_law_ 1797 = .ok (.ifCond .ne 14, 3) := by decide +kernel
theorem dL_law__1811 : decode cL_law_ 1811 = .ok (.goto 1039, 3) := by decide +kernel
theorem dL_law__1814 : decode cL_law_ 1814 = .ok (.aload_n 1, 1) := by decide +kernel
theorem dL_law__1815 : decode cL_law_ 1815 = .ok (.aload_n 0, 1) := by decide +kernel
theorem dL_law__1816 : decode cL_law_ 1816 = .ok (.iload 5, 2) := by decide +kernel
theorem dL_law__1818 : decode cL_law_ 1818 = .ok (.iconst 1, 1) := by decide +kernel
theorem dL_law__1819 : decode cL_law_ 1819 = .ok (.iadd, 1) := by decide +kernel
theorem dL_law__1820 : decode cL_law_ 1820 = .ok (.iaload, 1) := by decide +kernel
theorem dL_law__1821 : decode cL_law_ 1821 = .ok (.aload_n 3, 1) := by decide +kernel
theorem dL_law__1822 : decode cL_law_ 1822 = .ok (.invokestatic 238, 3) := by decide +kernel
theorem dL_law__1825 : decode cL_law_ 1825 = .ok (.istore 6, 2) := by decide +kernel
theorem dL_law__1827 : decode cL_law_ 1827 = .ok (.aload_n 2, 1) := by decide +kernel
theorem dL_law__1828 : decode cL_law_ 1828 = .ok (.aload_n 0, 1) := by decide +kernel
theorem dL_law__1829 : decode cL_law_ 1829 = .ok (.iload 5, 2) := by decide +kernel
theorem dL_law__1831 : decode cL_law_ 1831 = .ok (.iconst 1, 1) := by decide +kernel
theorem dL_law__1832 : decode cL_law_ 1832 = .ok (.iadd, 1) := by decide +kernel
theorem dL_law__1833 : decode cL_law_ 1833 = .ok (.iaload, 1) := by decide +kernel
theorem dL_law__1834 : decode cL_law_ 1834 = .ok (.invokevirtual 240, 3) := by decide +kernel
theorem dL_law__1837 : decode cL_law_ 1837 = .ok (.lstore 7, 2) := by decide +kernel
theorem dL_law__1839 : decode cL_law_ 1839 = .ok (.aload_n 2, 1) := by decide +kernel
theorem dL_law__1840 : decode cL_law_ 1840 = .ok (.invokevirtual 161, 3) := by decide +kernel
theorem dL_law__1843 : decode cL_law_ 1843 = .ok (.iload 6, 2) := by decide +kernel
theorem dL_law__1845 : decode cL_law_ 1845 = .ok (.if_icmp .eq 5, 3) := by decide +kernel
theorem dL_law__1850 : decode cL_law_ 1850 = .ok (.iload 6, 2) := by decide +kernel
theorem dL_law__1852 : decode cL_law_ 1852 = .ok (.ifCond .ne 14, 3) := by decide +kernel
theorem dL_law__1866 : decode cL_law_ 1866 = .ok (.goto 984, 3) := by decide +kernel
theorem dL_law__1869 : decode cL_law_ 1869 = .ok (.aload_n 1, 1) := by decide +kernel
theorem dL_law__1870 : decode cL_law_ 1870 = .ok (.aload_n 0, 1) := by decide +kernel
theorem dL_law__1871 : decode cL_law_ 1871 = .ok (.iload 5, 2) := by decide +kernel
theorem dL_law__1873 : decode cL_law_ 1873 = .ok (.iconst 1, 1) := by decide +kernel
theorem dL_law__1874 : decode cL_law_ 1874 = .ok (.iadd, 1) := by decide +kernel
theorem dL_law__1875 : decode cL_law_ 1875 = .ok (.iaload, 1) := by decide +kernel
theorem dL_law__1876 : decode cL_law_ 1876 = .ok (.aload_n 0, 1) := by decide +kernel
theorem dL_law__1877 : decode cL_law_ 1877 = .ok (.iload 5, 2) := by decide +kernel
theorem dL_law__1879 : decode cL_law_ 1879 = .ok (.iconst 2, 1) := by decide +kernel
theorem dL_law__1880 : decode cL_law_ 1880 = .ok (.iadd, 1) := by decide +kernel
theorem dL_law__1881 : decode cL_law_ 1881 = .ok (.iaload, 1) := by decide +kernel
theorem dL_law__1882 : decode cL_law_ 1882 = .ok (.aload_n 3, 1) := by decide +kernel
theorem dL_law__1883 : decode cL_law_ 1883 = .ok (.invokestatic 241, 3) := by decide +kernel
theorem dL_law__1886 : decode cL_law_ 1886 = .ok (.istore 6, 2) := by decide +kernel
theorem dL_law__1888 : decode cL_law_ 1888 = .ok (.aload_n 2, 1) := by decide +kernel
theorem dL_law__1889 : decode cL_law_ 1889 = .ok (.aload_n 0, 1) := by decide +kernel
theorem dL_law__1890 : decode cL_law_ 1890 = .ok (.iload 5, 2) := by decide +kernel
theorem dL_law__1892 : decode cL_law_ 1892 = .ok (.iconst 1, 1) := by decide +kernel
theorem dL_law__1893 : decode cL_law_ 1893 = .ok (.iadd, 1) := by decide +kernel
theorem dL_law__1894 : decode cL_law_ 1894 = .ok (.iaload, 1) := by decide +kernel
theorem dL_law__1895 : decode cL_law_ 1895 = .ok (.aload_n 0, 1) := by decide +kernel
theorem dL_law__1896 : decode cL_law_ 1896 = .ok (.iload 5, 2) := by decide +kernel
theorem dL_law__1898 : decode cL_law_ 1898 = .ok (.iconst 2, 1) := by decide +kernel
theorem dL_law__1899 : decode cL_law_ 1899 = .ok (.iadd, 1) := by decide +kernel
theorem dL_law__1900 : decode cL_law_ 1900 = .ok (.iaload, 1) := by decide +kernel
theorem dL_law__1901 : decode cL_law_ 1901 = .ok (.invokevirtual 243, 3) := by decide +kernel
theorem dL_law__1904 : decode cL_law_ 1904 = .ok (.istore 7, 2) := by decide +kernel
theorem dL_law__1906 : decode cL_law_ 1906 = .ok (.aload_n 2, 1) := by decide +kernel
theorem dL_law__1907 : decode cL_law_ 1907 = .ok (.invokevirtual 161, 3) := by decide +kernel
theorem dL_law__1910 : decode cL_law_ 1910 = .ok (.iload 6, 2) := by decide +kernel
theorem dL_law__1912 : decode cL_law_ 1912 = .ok (.if_icmp .eq 5, 3) := by decide +kernel
theorem dL_law__1917 : decode cL_law_ 1917 = .ok (.iload 6, 2) := by decide +kernel
theorem dL_law__1919 : decode cL_law_ 1919 = .ok (.ifCond .ne 22, 3) := by decide +kernel
theorem dL_law__1941 : decode cL_law_ 1941 = .ok (.goto 909, 3) := by decide +kernel
theorem dL_law__1944 : decode cL_law_ 1944 = .ok (.aload_n 1, 1) := by decide +kernel
theorem dL_law__1945 : decode cL_law_ 1945 = .ok (.aload_n 0, 1) := by decide +kernel
theorem dL_law__1946 : decode cL_law_ 1946 = .ok (.iload 5, 2) := by decide +kernel
theorem dL_law__1948 : decode cL_law_ 1948 = .ok (.iconst 1, 1) := by decide +kernel
theorem dL_law__1949 : decode cL_law_ 1949 = .ok (.iadd, 1) := by decide +kernel
theorem dL_law__1950 : decode cL_law_ 1950 = .ok (.iaload, 1) := by decide +kernel
theorem dL_law__1951 : decode cL_law_ 1951 = .ok (.aload_n 0, 1) := by decide +kernel
theorem dL_law__1952 : decode cL_law_ 1952 = .ok (.iload 5, 2) := by decide +kernel
theorem dL_law__1954 : decode cL_law_ 1954 = .ok (.iconst 2, 1) := by decide +kernel
theorem dL_law__1955 : decode cL_law_ 1955 = .ok (.iadd, 1) := by decide +kernel
theorem dL_law__1956 : decode cL_law_ 1956 = .ok (.iaload, 1) := by decide +kernel
theorem dL_law__1957 : decode cL_law_ 1957 = .ok (.aload_n 3, 1) := by decide +kernel
theorem dL_law__1958 : decode cL_law_ 1958 = .ok (.invokestatic 244, 3) := by decide +kernel
theorem dL_law__1961 : decode cL_law_ 1961 = .ok (.istore 6, 2) := by decide +kernel
theorem dL_law__1963 : decode cL_law_ 1963 = .ok (.aload_n 2, 1) := by decide +kernel
theorem dL_law__1964 : decode cL_law_ 1964 = .ok (.aload_n 0, 1) := by decide +kernel
theorem dL_law__1965 : decode cL_law_ 1965 = .ok (.iload 5, 2) := by decide +kernel
theorem dL_law__1967 : decode cL_law_ 1967 = .ok (.iconst 1, 1) := by decide +kernel
theorem dL_law__1968 : decode cL_law_ 1968 = .ok (.iadd, 1) := by decide +kernel
theorem dL_law__1969 : decode cL_law_ 1969 = .ok (.iaload, 1) := by decide +kernel
theorem dL_law__1970 : decode cL_law_ 1970 = .ok (.aload_n 0, 1) := by decide +kernel
theorem dL_law__1971 : decode cL_law_ 1971 = .ok (.iload 5, 2) := by decide +kernel
theorem dL_law__1973 : decode cL_law_ 1973 = .ok (.iconst 2, 1) := by decide +kernel
theorem dL_law__1974 : decode cL_law_ 1974 = .ok (.iadd, 1) := by decide +kernel
theorem dL_law__1975 : decode cL_law_ 1975 = .ok (.iaload, 1) := by decide +kernel
theorem dL_law__1976 : decode cL_law_ 1976 = .ok (.invokevirtual 246, 3) := by decide +kernel
theorem dL_law__1979 : decode cL_law_ 1979 = .ok (.istore 7, 2) := by decide +kernel
theorem dL_law__1981 : decode cL_law_ 1981 = .ok (.aload_n 2, 1) := by decide +kernel
theorem dL_law__1982 : decode cL_law_ 1982 = .ok (.invokevirtual 161, 3) := by decide +kernel
theorem dL_law__1985 : decode cL_law_ 1985 = .ok (.iload 6, 2) := by decide +kernel
theorem dL_law__1987 : decode cL_law_ 1987 = .ok (.if_icmp .eq 5, 3) := by decide +kernel
theorem dL_law__1992 : decode cL_law_ 1992 = .ok (.iload 6, 2) := by decide +kernel
theorem dL_law__1994 : decode cL_law_ 1994 = .ok (.ifCond .ne 15, 3) := by decide +kernel
theorem dL_law__2009 : decode cL_law_ 2009 = .ok (.goto 841, 3) := by decide +kernel
theorem dL_law__2012 : decode cL_law_ 2012 = .ok (.aload_n 1, 1) := by decide +kernel
theorem dL_law__2013 : decode cL_law_ 2013 = .ok (.aload_n 0, 1) := by decide +kernel
theorem dL_law__2014 : decode cL_law_ 2014 = .ok (.iload 5, 2) := by decide +kernel
theorem dL_law__2016 : decode cL_law_ 2016 = .ok (.iconst 1, 1) := by decide +kernel
theorem dL_law__2017 : decode cL_law_ 2017 = .ok (.iadd, 1) := by decide +kernel
theorem dL_law__2018 : decode cL_law_ 2018 = .ok (.iaload, 1) := by decide +kernel
theorem dL_law__2019 : decode cL_law_ 2019 = .ok (.aload_n 3, 1) := by decide +kernel
theorem dL_law__2020 : decode cL_law_ 2020 = .ok (.invokestatic 247, 3) := by decide +kernel
theorem dL_law__2023 : decode cL_law_ 2023 = .ok (.istore 6, 2) := by decide +kernel
theorem dL_law__2025 : decode cL_law_ 2025 = .ok (.aload_n 2, 1) := by decide +kernel
theorem dL_law__2026 : decode cL_law_ 2026 = .ok (.aload_n 0, 1) := by decide +kernel
theorem dL_law__2027 : decode cL_law_ 2027 = .ok (.iload 5, 2) := by decide +kernel
theorem dL_law__2029 : decode cL_law_ 2029 = .ok (.iconst 1, 1) := by decide +kernel
theorem dL_law__2030 : decode cL_law_ 2030 = .ok (.iadd, 1) := by decide +kernel
theorem dL_law__2031 : decode cL_law_ 2031 = .ok (.iaload, 1) := by decide +kernel
theorem dL_law__2032 : decode cL_law_ 2032 = .ok (.invokevirtual 249, 3) := by decide +kernel
theorem dL_law__2035 : decode cL_law_ 2035 = .ok (.istore 7, 2) := by decide +kernel
theorem dL_law__2037 : decode cL_law_ 2037 = .ok (.aload_n 2, 1) := by decide +kernel
theorem dL_law__2038 : decode cL_law_ 2038 = .ok (.invokevirtual 161, 3) := by decide +kernel
theorem dL_law__2041 : decode cL_law_ 2041 = .ok (.iload 6, 2) := by decide +kernel
theorem dL_law__2043 : decode cL_law_ 2043 = .ok (.if_icmp .eq 5, 3) := by decide +kernel
theorem dL_law__2048 : decode cL_law_ 2048 = .ok (.iload 6, 2) := by decide +kernel
theorem dL_law__2050 : decode cL_law_ 2050 = .ok (.ifCond .ne 15, 3) := by decide +kernel
theorem dL_law__2065 : decode cL_law_ 2065 = .ok (.goto 785, 3) := by decide +kernel
theorem dL_law__2068 : decode cL_law_ 2068 = .ok (.aload_n 1, 1) := by decide +kernel
theorem dL_law__2069 : decode cL_law_ 2069 = .ok (.aload_n 0, 1) := by decide +kernel
theorem dL_law__2070 : decode cL_law_ 2070 = .ok (.iload 5, 2) := by decide +kernel
theorem dL_law__2072 : decode cL_law_ 2072 = .ok (.iconst 1, 1) := by decide +kernel
theorem dL_law__2073 : decode cL_law_ 2073 = .ok (.iadd, 1) := by decide +kernel
theorem dL_law__2074 : decode cL_law_ 2074 = .ok (.iaload, 1) := by decide +kernel
theorem dL_law__2075 : decode cL_law_ 2075 = .ok (.aload_n 3, 1) := by decide +kernel
theorem dL_law__2076 : decode cL_law_ 2076 = .ok (.invokestatic 250, 3) := by decide +kernel
theorem dL_law__2079 : decode cL_law_ 2079 = .ok (.istore 6, 2) := by decide +kernel
theorem dL_law__2081 : decode cL_law_ 2081 = .ok (.aload_n 2, 1) := by decide +kernel
theorem dL_law__2082 : decode cL_law_ 2082 = .ok (.aload_n 0, 1) := by decide +kernel
theorem dL_law__2083 : decode cL_law_ 2083 = .ok (.iload 5, 2) := by decide +kernel
theorem dL_law__2085 : decode cL_law_ 2085 = .ok (.iconst 1, 1) := by decide +kernel
theorem dL_law__2086 : decode cL_law_ 2086 = .ok (.iadd, 1) := by decide +kernel
theorem dL_law__2087 : decode cL_law_ 2087 = .ok (.iaload, 1) := by decide +kernel
theorem dL_law__2088 : decode cL_law_ 2088 = .ok (.invokevirtual 252, 3) := by decide +kernel
theorem dL_law__2091 : decode cL_law_ 2091 = .ok (.istore 7, 2) := by decide +kernel
theorem dL_law__2093 : decode cL_law_ 2093 = .ok (.aload_n 2, 1) := by decide +kernel
theorem dL_law__2094 : decode cL_law_ 2094 = .ok (.invokevirtual 161, 3) := by decide +kernel
theorem dL_law__2097 : decode cL_law_ 2097 = .ok (.iload 6, 2) := by decide +kernel
theorem dL_law__2099 : decode cL_law_ 2099 = .ok (.if_icmp .eq 5, 3) := by decide +kernel
theorem dL_law__2104 : decode cL_law_ 2104 = .ok (.iload 6, 2) := by decide +kernel
theorem dL_law__2106 : decode cL_law_ 2106 = .ok (.ifCond .ne 15, 3) := by decide +kernel
theorem dL_law__2121 : decode cL_law_ 2121 = .ok (.goto 729, 3) := by decide +kernel
theorem dL_law__2124 : decode cL_law_ 2124 = .ok (.aload_n 1, 1) := by decide +kernel
theorem dL_law__2125 : decode cL_law_ 2125 = .ok (.aload_n 0, 1) := by decide +kernel
theorem dL_law__2126 : decode cL_law_ 2126 = .ok (.iload 5, 2) := by decide +kernel
theorem dL_law__2128 : decode cL_law_ 2128 = .ok (.iconst 1, 1) := by decide +kernel
theorem dL_law__2129 : decode cL_law_ 2129 = .ok (.iadd, 1) := by decide +kernel
theorem dL_law__2130 : decode cL_law_ 2130 = .ok (.iaload, 1) := by decide +kernel
theorem dL_law__2131 : decode cL_law_ 2131 = .ok (.aload_n 0, 1) := by decide +kernel
theorem dL_law__2132 : decode cL_law_ 2132 = .ok (.iload 5, 2) := by decide +kernel
theorem dL_law__2134 : decode cL_law_ 2134 = .ok (.iconst 2, 1) := by decide +kernel
theorem dL_law__2135 : decode cL_law_ 2135 = .ok (.iadd, 1) := by decide +kernel
theorem dL_law__2136 : decode cL_law_ 2136 = .ok (.iaload, 1) := by decide +kernel
theorem dL_law__2137 : decode cL_law_ 2137 = .ok (.aload_n 3, 1) := by decide +kernel
theorem dL_law__2138 : decode cL_law_ 2138 = .ok (.invokestatic 253, 3) := by decide +kernel
theorem dL_law__2141 : decode cL_law_ 2141 = .ok (.istore 6, 2) := by decide +kernel
theorem dL_law__2143 : decode cL_law_ 2143 = .ok (.aload_n 2, 1) := by decide +kernel
theorem dL_law__2144 : decode cL_law_ 2144 = .ok (.aload_n 0, 1) := by decide +kernel
theorem dL_law__2145 : decode cL_law_ 2145 = .ok (.iload 5, 2) := by decide +kernel
theorem dL_law__2147 : decode cL_law_ 2147 = .ok (.iconst 1, 1) := by decide +kernel
theorem dL_law__2148 : decode cL_law_ 2148 = .ok (.iadd, 1) := by decide +kernel
theorem dL_law__2149 : decode cL_law_ 2149 = .ok (.iaload, 1) := by decide +kernel
theorem dL_law__2150 : decode cL_law_ 2150 = .ok (.aload_n 0, 1) := by decide +kernel
theorem dL_law__2151 : decode cL_law_ 2151 = .ok (.iload 5, 2) := by decide +kernel
theorem dL_law__2153 : decode cL_law_ 2153 = .ok (.iconst 2, 1) := by decide +kernel
theorem dL_law__2154 : decode cL_law_ 2154 = .ok (.iadd, 1) := by decide +kernel
theorem dL_law__2155 : decode cL_law_ 2155 = .ok (.iaload, 1) := by decide +kernel
theorem dL_law__2156 : decode cL_law_ 2156 = .ok (.invokevirtual 255, 3) := by decide +kernel
theorem dL_law__2159 : decode cL_law_ 2159 = .ok (.istore 7, 2) := by decide +kernel
theorem dL_law__2161 : decode cL_law_ 2161 = .ok (.aload_n 2, 1) := by decide +kernel
theorem dL_law__2162 : decode cL_law_ 2162 = .ok (.invokevirtual 161, 3) := by decide +kernel
theorem dL_law__2165 : decode cL_law_ 2165 = .ok (.iload 6, 2) := by decide +kernel
theorem dL_law__2167 : decode cL_law_ 2167 = .ok (.if_icmp .eq 5, 3) := by decide +kernel
theorem dL_law__2172 : decode cL_law_ 2172 = .ok (.iload 6, 2) := by decide +kernel
theorem dL_law__2174 : decode cL_law_ 2174 = .ok (.ifCond .ne 15, 3) := by decide +kernel
theorem dL_law__2189 : decode cL_law_ 2189 = .ok (.goto 661, 3) := by decide +kernel
theorem dL_law__2192 : decode cL_law_ 2192 = .ok (.aload_n 1, 1) := by decide +kernel
theorem dL_law__2193 : decode cL_law_ 2193 = .ok (.aload_n 0, 1) := by decide +kernel
theorem dL_law__2194 : decode cL_law_ 2194 = .ok (.iload 5, 2) := by decide +kernel
theorem dL_law__2196 : decode cL_law_ 2196 = .ok (.iconst 1, 1) := by decide +kernel
theorem dL_law__2197 : decode cL_law_ 2197 = .ok (.iadd, 1) := by decide +kernel
theorem dL_law__2198 : decode cL_law_ 2198 = .ok (.iaload, 1) := by decide +kernel
theorem dL_law__2199 : decode cL_law_ 2199 = .ok (.aload_n 0, 1) := by decide +kernel
theorem dL_law__2200 : decode cL_law_ 2200 = .ok (.iload 5, 2) := by decide +kernel
theorem dL_law__2202 : decode cL_law_ 2202 = .ok (.iconst 2, 1) := by decide +kernel
theorem dL_law__2203 : decode cL_law_ 2203 = .ok (.iadd, 1) := by decide +kernel
theorem dL_law__2204 : decode cL_law_ 2204 = .ok (.iaload, 1) := by decide +kernel
theorem dL_law__2205 : decode cL_law_ 2205 = .ok (.aload_n 3, 1) := by decide +kernel
theorem dL_law__2206 : decode cL_law_ 2206 = .ok (.invokestatic 256, 3) := by decide +kernel
theorem dL_law__2209 : decode cL_law_ 2209 = .ok (.istore 6, 2) := by decide +kernel
theorem dL_law__2211 : decode cL_law_ 2211 = .ok (.aload_n 2, 1) := by decide +kernel
theorem dL_law__2212 : decode cL_law_ 2212 = .ok (.aload_n 0, 1) := by decide +kernel
theorem dL_law__2213 : decode cL_law_ 2213 = .ok (.iload 5, 2) := by decide +kernel
theorem dL_law__2215 : decode cL_law_ 2215 = .ok (.iconst 1, 1) := by decide +kernel
theorem dL_law__2216 : decode cL_law_ 2216 = .ok (.iadd, 1) := by decide +kernel
theorem dL_law__2217 : decode cL_law_ 2217 = .ok (.iaload, 1) := by decide +kernel
theorem dL_law__2218 : decode cL_law_ 2218 = .ok (.aload_n 0, 1) := by decide +kernel
theorem dL_law__2219 : decode cL_law_ 2219 = .ok (.iload 5, 2) := by decide +kernel
theorem dL_law__2221 : decode cL_law_ 2221 = .ok (.iconst 2, 1) := by decide +kernel
theorem dL_law__2222 : decode cL_law_ 2222 = .ok (.iadd, 1) := by decide +kernel
theorem dL_law__2223 : decode cL_law_ 2223 = .ok (.iaload, 1) := by decide +kernel
theorem dL_law__2224 : decode cL_law_ 2224 = .ok (.invokevirtual 258, 3) := by decide +kernel
theorem dL_law__2227 : decode cL_law_ 2227 = .ok (.istore 7, 2) := by decide +kernel
theorem dL_law__2229 : decode cL_law_ 2229 = .ok (.aload_n 2, 1) := by decide +kernel
theorem dL_law__2230 : decode cL_law_ 2230 = .ok (.invokevirtual 161, 3) := by decide +kernel
theorem dL_law__2233 : decode cL_law_ 2233 = .ok (.iload 6, 2) := by decide +kernel
theorem dL_law__2235 : decode cL_law_ 2235 = .ok (.if_icmp .eq 5, 3) := by decide +kernel
theorem dL_law__2240 : decode cL_law_ 2240 = .ok (.iload 6, 2) := by decide +kernel
theorem dL_law__2242 : decode cL_law_ 2242 = .ok (.ifCond .ne 15, 3) := by decide +kernel
theorem dL_law__2257 : decode cL_law_ 2257 = .ok (.goto 593, 3) := by decide +kernel
theorem dL_law__2260 : decode cL_law_ 2260 = .ok (.aload_n 1, 1) := by decide +kernel
theorem dL_law__2261 : decode cL_law_ 2261 = .ok (.aload_n 0, 1) := by decide +kernel
theorem dL_law__2262 : decode cL_law_ 2262 = .ok (.iload 5, 2) := by decide +kernel
theorem dL_law__2264 : decode cL_law_ 2264 = .ok (.iconst 1, 1) := by decide +kernel
theorem dL_law__2265 : decode cL_law_ 2265 = .ok (.iadd, 1) := by decide +kernel
theorem dL_law__2266 : decode cL_law_ 2266 = .ok (.iaload, 1) := by decide +kernel
theorem dL_law__2267 : decode cL_law_ 2267 = .ok (.aload_n 3, 1) := by decide +kernel
theorem dL_law__2268 : decode cL_law_ 2268 = .ok (.invokestatic 259, 3) := by decide +kernel
theorem dL_law__2271 : decode cL_law_ 2271 = .ok (.istore 6, 2) := by decide +kernel
theorem dL_law__2273 : decode cL_law_ 2273 = .ok (.aload_n 2, 1) := by decide +kernel
theorem dL_law__2274 : decode cL_law_ 2274 = .ok (.aload_n 0, 1) := by decide +kernel
theorem dL_law__2275 : decode cL_law_ 2275 = .ok (.iload 5, 2) := by decide +kernel
theorem dL_law__2277 : decode cL_law_ 2277 = .ok (.iconst 1, 1) := by decide +kernel
theorem dL_law__2278 : decode cL_law_ 2278 = .ok (.iadd, 1) := by decide +kernel
theorem dL_law__2279 : decode cL_law_ 2279 = .ok (.iaload, 1) := by decide +kernel
theorem dL_law__2280 : decode cL_law_ 2280 = .ok (.invokevirtual 261, 3) := by decide +kernel
theorem dL_law__2283 : decode cL_law_ 2283 = .ok (.istore 7, 2) := by decide +kernel
theorem dL_law__2285 : decode cL_law_ 2285 = .ok (.aload_n 2, 1) := by decide +kernel
theorem dL_law__2286 : decode cL_law_ 2286 = .ok (.invokevirtual 161, 3) := by decide +kernel
theorem dL_law__2289 : decode cL_law_ 2289 = .ok (.iload 6, 2) := by decide +kernel
theorem dL_law__2291 : decode cL_law_ 2291 = .ok (.if_icmp .eq 5, 3) := by decide +kernel
theorem dL_law__2296 : decode cL_law_ 2296 = .ok (.iload 6, 2) := by decide +kernel
theorem dL_law__2298 : decode cL_law_ 2298 = .ok (.ifCond .ne 15, 3) := by decide +kernel
theorem dL_law__2313 : decode cL_law_ 2313 = .ok (.goto 537, 3) := by decide +kernel
theorem dL_law__2316 : decode cL_law_ 2316 = .ok (.aload_n 1, 1) := by decide +kernel
theorem dL_law__2317 : decode cL_law_ 2317 = .ok (.aload_n 0, 1) := by decide +kernel
theorem dL_law__2318 : decode cL_law_ 2318 = .ok (.iload 5, 2) := by decide +kernel
theorem dL_law__2320 : decode cL_law_ 2320 = .ok (.iconst 1, 1) := by decide +kernel
theorem dL_law__2321 : decode cL_law_ 2321 = .ok (.iadd, 1) := by decide +kernel
theorem dL_law__2322 : decode cL_law_ 2322 = .ok (.iaload, 1) := by decide +kernel
theorem dL_law__2323 : decode cL_law_ 2323 = .ok (.aload_n 3, 1) := by decide +kernel
theorem dL_law__2324 : decode cL_law_ 2324 = .ok (.invokestatic 262, 3) := by decide +kernel
theorem dL_law__2327 : decode cL_law_ 2327 = .ok (.istore 6, 2) := by decide +kernel
theorem dL_law__2329 : decode cL_law_ 2329 = .ok (.aload_n 2, 1) := by decide +kernel
theorem dL_law__2330 : decode cL_law_ 2330 = .ok (.aload_n 0, 1) := by decide +kernel
theorem dL_law__2331 : decode cL_law_ 2331 = .ok (.iload 5, 2) := by decide +kernel
theorem dL_law__2333 : decode cL_law_ 2333 = .ok (.iconst 1, 1) := by decide +kernel
theorem dL_law__2334 : decode cL_law_ 2334 = .ok (.iadd, 1) := by decide +kernel
theorem dL_law__2335 : decode cL_law_ 2335 = .ok (.iaload, 1) := by decide +kernel
theorem dL_law__2336 : decode cL_law_ 2336 = .ok (.invokevirtual 264, 3) := by decide +kernel
theorem dL_law__2339 : decode cL_law_ 2339 = .ok (.istore 7, 2) := by decide +kernel
theorem dL_law__2341 : decode cL_law_ 2341 = .ok (.aload_n 2, 1) := by decide +kernel
theorem dL_law__2342 : decode cL_law_ 2342 = .ok (.invokevirtual 161, 3) := by decide +kernel
theorem dL_law__2345 : decode cL_law_ 2345 = .ok (.iload 6, 2) := by decide +kernel
theorem dL_law__2347 : decode cL_law_ 2347 = .ok (.if_icmp .eq 5, 3) := by decide +kernel
theorem dL_law__2352 : decode cL_law_ 2352 = .ok (.iload 6, 2) := by decide +kernel
theorem dL_law__2354 : decode cL_law_ 2354 = .ok (.ifCond .ne 15, 3) := by decide +kernel
theorem dL_law__2369 : decode cL_law_ 2369 = .ok (.goto 481, 3) := by decide +kernel
theorem dL_law__2372 : decode cL_law_ 2372 = .ok (.aload_n 1, 1) := by decide +kernel
theorem dL_law__2373 : decode cL_law_ 2373 = .ok (.aload_n 0, 1) := by decide +kernel
theorem dL_law__2374 : decode cL_law_ 2374 = .ok (.iload 5, 2) := by decide +kernel
theorem dL_law__2376 : decode cL_law_ 2376 = .ok (.iconst 1, 1) := by decide +kernel
theorem dL_law__2377 : decode cL_law_ 2377 = .ok (.iadd, 1) := by decide +kernel
theorem dL_law__2378 : decode cL_law_ 2378 = .ok (.iaload, 1) := by decide +kernel
theorem dL_law__2379 : decode cL_law_ 2379 = .ok (.aload_n 3, 1) := by decide +kernel
theorem dL_law__2380 : decode cL_law_ 2380 = .ok (.invokestatic 265, 3) := by decide +kernel
theorem dL_law__2383 : decode cL_law_ 2383 = .ok (.istore 6, 2) := by decide +kernel
theorem dL_law__2385 : decode cL_law_ 2385 = .ok (.aload_n 2, 1) := by decide +kernel
theorem dL_law__2386 : decode cL_law_ 2386 = .ok (.aload_n 0, 1) := by decide +kernel
theorem dL_law__2387 : decode cL_law_ 2387 = .ok (.iload 5, 2) := by decide +kernel
theorem dL_law__2389 : decode cL_law_ 2389 = .ok (.iconst 1, 1) := by decide +kernel
theorem dL_law__2390 : decode cL_law_ 2390 = .ok (.iadd, 1) := by decide +kernel
theorem dL_law__2391 : decode cL_law_ 2391 = .ok (.iaload, 1) := by decide +kernel
theorem dL_law__2392 : decode cL_law_ 2392 = .ok (.invokevirtual 267, 3) := by decide +kernel
theorem dL_law__2395 : decode cL_law_ 2395 = .ok (.lstore 7, 2) := by decide +kernel
theorem dL_law__2397 : decode cL_law_ 2397 = .ok (.aload_n 2, 1) := by decide +kernel
theorem dL_law__2398 : decode cL_law_ 2398 = .ok (.invokevirtual 161, 3) := by decide +kernel
theorem dL_law__2401 : decode cL_law_ 2401 = .ok (.iload 6, 2) := by decide +kernel
theorem dL_law__2403 : decode cL_law_ 2403 = .ok (.if_icmp .eq 5, 3) := by decide +kernel
theorem dL_law__2408 : decode cL_law_ 2408 = .ok (.iload 6, 2) := by decide +kernel
theorem dL_law__2410 : decode cL_law_ 2410 = .ok (.ifCond .ne 14, 3) := by decide +kernel
theorem dL_law__2424 : decode cL_law_ 2424 = .ok (.goto 426, 3) := by decide +kernel
theorem dL_law__2427 : decode cL_law_ 2427 = .ok (.aload_n 1, 1) := by decide +kernel
theorem dL_law__2428 : decode cL_law_ 2428 = .ok (.aload_n 0, 1) := by decide +kernel
theorem dL_law__2429 : decode cL_law_ 2429 = .ok (.iload 5, 2) := by decide +kernel
theorem dL_law__2431 : decode cL_law_ 2431 = .ok (.iconst 1, 1) := by decide +kernel
theorem dL_law__2432 : decode cL_law_ 2432 = .ok (.iadd, 1) := by decide +kernel
theorem dL_law__2433 : decode cL_law_ 2433 = .ok (.iaload, 1) := by decide +kernel
theorem dL_law__2434 : decode cL_law_ 2434 = .ok (.aload_n 0, 1) := by decide +kernel
theorem dL_law__2435 : decode cL_law_ 2435 = .ok (.iload 5, 2) := by decide +kernel
theorem dL_law__2437 : decode cL_law_ 2437 = .ok (.iconst 2, 1) := by decide +kernel
theorem dL_law__2438 : decode cL_law_ 2438 = .ok (.iadd, 1) := by decide +kernel
theorem dL_law__2439 : decode cL_law_ 2439 = .ok (.iaload, 1) := by decide +kernel
theorem dL_law__2440 : decode cL_law_ 2440 = .ok (.aload_n 0, 1) := by decide +kernel
theorem dL_law__2441 : decode cL_law_ 2441 = .ok (.iload 5, 2) := by decide +kernel
theorem dL_law__2443 : decode cL_law_ 2443 = .ok (.iconst 3, 1) := by decide +kernel
theorem dL_law__2444 : decode cL_law_ 2444 = .ok (.iadd, 1) := by decide +kernel
theorem dL_law__2445 : decode cL_law_ 2445 = .ok (.iaload, 1) := by decide +kernel
theorem dL_law__2446 : decode cL_law_ 2446 = .ok (.aload_n 3, 1) := by decide +kernel
theorem dL_law__2447 : decode cL_law_ 2447 = .ok (.invokestatic 268, 3) := by decide +kernel
theorem dL_law__2450 : decode cL_law_ 2450 = .ok (.istore 6, 2) := by decide +kernel
theorem dL_law__2452 : decode cL_law_ 2452 = .ok (.aload_n 2, 1) := by decide +kernel
theorem dL_law__2453 : decode cL_law_ 2453 = .ok (.aload_n 0, 1) := by decide +kernel
theorem dL_law__2454 : decode cL_law_ 2454 = .ok (.iload 5, 2) := by decide +kernel
theorem dL_law__2456 : decode cL_law_ 2456 = .ok (.iconst 1, 1) := by decide +kernel
theorem dL_law__2457 : decode cL_law_ 2457 = .ok (.iadd, 1) := by decide +kernel
theorem dL_law__2458 : decode cL_law_ 2458 = .ok (.iaload, 1) := by decide +kernel
theorem dL_law__2459 : decode cL_law_ 2459 = .ok (.aload_n 0, 1) := by decide +kernel
theorem dL_law__2460 : decode cL_law_ 2460 = .ok (.iload 5, 2) := by decide +kernel
theorem dL_law__2462 : decode cL_law_ 2462 = .ok (.iconst 2, 1) := by decide +kernel
theorem dL_law__2463 : decode cL_law_ 2463 = .ok (.iadd, 1) := by decide +kernel
theorem dL_law__2464 : decode cL_law_ 2464 = .ok (.iaload, 1) := by decide +kernel
theorem dL_law__2465 : decode cL_law_ 2465 = .ok (.aload_n 0, 1) := by decide +kernel
theorem dL_law__2466 : decode cL_law_ 2466 = .ok (.iload 5, 2) := by decide +kernel
theorem dL_law__2468 : decode cL_law_ 2468 = .ok (.iconst 3, 1) := by decide +kernel
theorem dL_law__2469 : decode cL_law_ 2469 = .ok (.iadd, 1) := by decide +kernel
theorem dL_law__2470 : decode cL_law_ 2470 = .ok (.iaload, 1) := by decide +kernel
theorem dL_law__2471 : decode cL_law_ 2471 = .ok (.invokevirtual 270, 3) := by decide +kernel
theorem dL_law__2474 : decode cL_law_ 2474 = .ok (.lstore 7, 2) := by decide +kernel
theorem dL_law__2476 : decode cL_law_ 2476 = .ok (.aload_n 2, 1) := by decide +kernel
theorem dL_law__2477 : decode cL_law_ 2477 = .ok (.invokevirtual 161, 3) := by decide +kernel
theorem dL_law__2480 : decode cL_law_ 2480 = .ok (.iload 6, 2) := by decide +kernel
theorem dL_law__2482 : decode cL_law_ 2482 = .ok (.if_icmp .eq 5, 3) := by decide +kernel
theorem dL_law__2487 : decode cL_law_ 2487 = .ok (.iload 6, 2) := by decide +kernel
theorem dL_law__2489 : decode cL_law_ 2489 = .ok (.ifCond .ne 14, 3) := by decide +kernel
theorem dL_law__2503 : decode cL_law_ 2503 = .ok (.goto 347, 3) := by decide +kernel
theorem dL_law__2506 : decode cL_law_ 2506 = .ok (.aload_n 1, 1) := by decide +kernel
theorem dL_law__2507 : decode cL_law_ 2507 = .ok (.aload_n 0, 1) := by decide +kernel
theorem dL_law__2508 : decode cL_law_ 2508 = .ok (.iload 5, 2) := by decide +kernel
theorem dL_law__2510 : decode cL_law_ 2510 = .ok (.iconst 1, 1) := by decide +kernel
theorem dL_law__2511 : decode cL_law_ 2511 = .ok (.iadd, 1) := by decide +kernel
theorem dL_law__2512 : decode cL_law_ 2512 = .ok (.iaload, 1) := by decide +kernel
theorem dL_law__2513 : decode cL_law_ 2513 = .ok (.aload_n 0, 1) := by decide +kernel
theorem dL_law__2514 : decode cL_law_ 2514 = .ok (.iload 5, 2) := by decide +kernel
theorem dL_law__2516 : decode cL_law_ 2516 = .ok (.iconst 2, 1) := by decide +kernel
theorem dL_law__2517 : decode cL_law_ 2517 = .ok (.iadd, 1) := by decide +kernel
theorem dL_law__2518 : decode cL_law_ 2518 = .ok (.iaload, 1) := by decide +kernel
theorem dL_law__2519 : decode cL_law_ 2519 = .ok (.aload_n 0, 1) := by decide +kernel
theorem dL_law__2520 : decode cL_law_ 2520 = .ok (.iload 5, 2) := by decide +kernel
theorem dL_law__2522 : decode cL_law_ 2522 = .ok (.iconst 3, 1) := by decide +kernel
theorem dL_law__2523 : decode cL_law_ 2523 = .ok (.iadd, 1) := by decide +kernel
theorem dL_law__2524 : decode cL_law_ 2524 = .ok (.iaload, 1) := by decide +kernel
theorem dL_law__2525 : decode cL_law_ 2525 = .ok (.aload_n 3, 1) := by decide +kernel
theorem dL_law__2526 : decode cL_law_ 2526 = .ok (.invokestatic 271, 3) := by decide +kernel
theorem dL_law__2529 : decode cL_law_ 2529 = .ok (.istore 6, 2) := by decide +kernel
theorem dL_law__2531 : decode cL_law_ 2531 = .ok (.aload_n 2, 1) := by decide +kernel
theorem dL_law__2532 : decode cL_law_ 2532 = .ok (.aload_n 0, 1) := by decide +kernel
theorem dL_law__2533 : decode cL_law_ 2533 = .ok (.iload 5, 2) := by decide +kernel
theorem dL_law__2535 : decode cL_law_ 2535 = .ok (.iconst 1, 1) := by decide +kernel
theorem dL_law__2536 : decode cL_law_ 2536 = .ok (.iadd, 1) := by decide +kernel
theorem dL_law__2537 : decode cL_law_ 2537 = .ok (.iaload, 1) := by decide +kernel
theorem dL_law__2538 : decode cL_law_ 2538 = .ok (.aload_n 0, 1) := by decide +kernel
theorem dL_law__2539 : decode cL_law_ 2539 = .ok (.iload 5, 2) := by decide +kernel
theorem dL_law__2541 : decode cL_law_ 2541 = .ok (.iconst 2, 1) := by decide +kernel
theorem dL_law__2542 : decode cL_law_ 2542 = .ok (.iadd, 1) := by decide +kernel
theorem dL_law__2543 : decode cL_law_ 2543 = .ok (.iaload, 1) := by decide +kernel
theorem dL_law__2544 : decode cL_law_ 2544 = .ok (.aload_n 0, 1) := by decide +kernel
theorem dL_law__2545 : decode cL_law_ 2545 = .ok (.iload 5, 2) := by decide +kernel
theorem dL_law__2547 : decode cL_law_ 2547 = .ok (.iconst 3, 1) := by decide +kernel
theorem dL_law__2548 : decode cL_law_ 2548 = .ok (.iadd, 1) := by decide +kernel
theorem dL_law__2549 : decode cL_law_ 2549 = .ok (.iaload, 1) := by decide +kernel
theorem dL_law__2550 : decode cL_law_ 2550 = .ok (.invokevirtual 273, 3) := by decide +kernel
theorem dL_law__2553 : decode cL_law_ 2553 = .ok (.istore 7, 2) := by decide +kernel
theorem dL_law__2555 : decode cL_law_ 2555 = .ok (.aload_n 2, 1) := by decide +kernel
theorem dL_law__2556 : decode cL_law_ 2556 = .ok (.invokevirtual 161, 3) := by decide +kernel
theorem dL_law__2559 : decode cL_law_ 2559 = .ok (.iload 6, 2) := by decide +kernel
theorem dL_law__2561 : decode cL_law_ 2561 = .ok (.if_icmp .eq 5, 3) := by decide +kernel
theorem dL_law__2566 : decode cL_law_ 2566 = .ok (.iload 6, 2) := by decide +kernel
theorem dL_law__2568 : decode cL_law_ 2568 = .ok (.ifCond .ne 15, 3) := by decide +kernel
theorem dL_law__2583 : decode cL_law_ 2583 = .ok (.goto 267, 3) := by decide +kernel
theorem dL_law__2586 : decode cL_law_ 2586 = .ok (.aload_n 1, 1) := by decide +kernel
theorem dL_law__2587 : decode cL_law_ 2587 = .ok (.aload_n 0, 1) := by decide +kernel
theorem dL_law__2588 : decode cL_law_ 2588 = .ok (.iload 5, 2) := by decide +kernel
theorem dL_law__2590 : decode cL_law_ 2590 = .ok (.iconst 1, 1) := by decide +kernel
theorem dL_law__2591 : decode cL_law_ 2591 = .ok (.iadd, 1) := by decide +kernel
theorem dL_law__2592 : decode cL_law_ 2592 = .ok (.iaload, 1) := by decide +kernel
theorem dL_law__2593 : decode cL_law_ 2593 = .ok (.aload_n 0, 1) := by decide +kernel
theorem dL_law__2594 : decode cL_law_ 2594 = .ok (.iload 5, 2) := by decide +kernel
theorem dL_law__2596 : decode cL_law_ 2596 = .ok (.iconst 2, 1) := by decide +kernel
theorem dL_law__2597 : decode cL_law_ 2597 = .ok (.iadd, 1) := by decide +kernel
theorem dL_law__2598 : decode cL_law_ 2598 = .ok (.iaload, 1) := by decide +kernel
theorem dL_law__2599 : decode cL_law_ 2599 = .ok (.aload_n 0, 1) := by decide +kernel
theorem dL_law__2600 : decode cL_law_ 2600 = .ok (.iload 5, 2) := by decide +kernel
theorem dL_law__2602 : decode cL_law_ 2602 = .ok (.iconst 3, 1) := by decide +kernel
theorem dL_law__2603 : decode cL_law_ 2603 = .ok (.iadd, 1) := by decide +kernel
theorem dL_law__2604 : decode cL_law_ 2604 = .ok (.iaload, 1) := by decide +kernel
theorem dL_law__2605 : decode cL_law_ 2605 = .ok (.aload_n 0, 1) := by decide +kernel
theorem dL_law__2606 : decode cL_law_ 2606 = .ok (.iload 5, 2) := by decide +kernel
theorem dL_law__2608 : decode cL_law_ 2608 = .ok (.iconst 4, 1) := by decide +kernel
theorem dL_law__2609 : decode cL_law_ 2609 = .ok (.iadd, 1) := by decide +kernel
theorem dL_law__2610 : decode cL_law_ 2610 = .ok (.iaload, 1) := by decide +kernel
theorem dL_law__2611 : decode cL_law_ 2611 = .ok (.aload_n 3, 1) := by decide +kernel
theorem dL_law__2612 : decode cL_law_ 2612 = .ok (.invokestatic 274, 3) := by decide +kernel
theorem dL_law__2615 : decode cL_law_ 2615 = .ok (.istore 6, 2) := by decide +kernel
theorem dL_law__2617 : decode cL_law_ 2617 = .ok (.aload_n 2, 1) := by decide +kernel
theorem dL_law__2618 : decode cL_law_ 2618 = .ok (.aload_n 0, 1) := by decide +kernel
theorem dL_law__2619 : decode cL_law_ 2619 = .ok (.iload 5, 2) := by decide +kernel
theorem dL_law__2621 : decode cL_law_ 2621 = .ok (.iconst 1, 1) := by decide +kernel
theorem dL_law__2622 : decode cL_law_ 2622 = .ok (.iadd, 1) := by decide +kernel
theorem dL_law__2623 : decode cL_law_ 2623 = .ok (.iaload, 1) := by decide +kernel
theorem dL_law__2624 : decode cL_law_ 2624 = .ok (.aload_n 0, 1) := by decide +kernel
theorem dL_law__2625 : decode cL_law_ 2625 = .ok (.iload 5, 2) := by decide +kernel
theorem dL_law__2627 : decode cL_law_ 2627 = .ok (.iconst 2, 1) := by decide +kernel
theorem dL_law__2628 : decode cL_law_ 2628 = .ok (.iadd, 1) := by decide +kernel
theorem dL_law__2629 : decode cL_law_ 2629 = .ok (.iaload, 1) := by decide +kernel
theorem dL_law__2630 : decode cL_law_ 2630 = .ok (.aload_n 0, 1) := by decide +kernel
theorem dL_law__2631 : decode cL_law_ 2631 = .ok (.iload 5, 2) := by decide +kernel
theorem dL_law__2633 : decode cL_law_ 2633 = .ok (.iconst 3, 1) := by decide +kernel
theorem dL_law__2634 : decode cL_law_ 2634 = .ok (.iadd, 1) := by decide +kernel
theorem dL_law__2635 : decode cL_law_ 2635 = .ok (.iaload, 1) := by decide +kernel
theorem dL_law__2636 : decode cL_law_ 2636 = .ok (.aload_n 0, 1) := by decide +kernel
theorem dL_law__2637 : decode cL_law_ 2637 = .ok (.iload 5, 2) := by decide +kernel
theorem dL_law__2639 : decode cL_law_ 2639 = .ok (.iconst 4, 1) := by decide +kernel
theorem dL_law__2640 : decode cL_law_ 2640 = .ok (.iadd, 1) := by decide +kernel
theorem dL_law__2641 : decode cL_law_ 2641 = .ok (.iaload, 1) := by decide +kernel
theorem dL_law__2642 : decode cL_law_ 2642 = .ok (.invokevirtual 277, 3) := by decide +kernel
theorem dL_law__2645 : decode cL_law_ 2645 = .ok (.istore 7, 2) := by decide +kernel
theorem dL_law__2647 : decode cL_law_ 2647 = .ok (.aload_n 2, 1) := by decide +kernel
theorem dL_law__2648 : decode cL_law_ 2648 = .ok (.invokevirtual 161, 3) := by decide +kernel
theorem dL_law__2651 : decode cL_law_ 2651 = .ok (.iload 6, 2) := by decide +kernel
theorem dL_law__2653 : decode cL_law_ 2653 = .ok (.if_icmp .eq 5, 3) := by decide +kernel
theorem dL_law__2658 : decode cL_law_ 2658 = .ok (.iload 6, 2) := by decide +kernel
theorem dL_law__2660 : decode cL_law_ 2660 = .ok (.ifCond .ne 15, 3) := by decide +kernel
theorem dL_law__2675 : decode cL_law_ 2675 = .ok (.goto 175, 3) := by decide +kernel
theorem dL_law__2678 : decode cL_law_ 2678 = .ok (.aload_n 1, 1) := by decide +kernel
theorem dL_law__2679 : decode cL_law_ 2679 = .ok (.invokevirtual 278, 3) := by decide +kernel
theorem dL_law__2682 : decode cL_law_ 2682 = .ok (.aload_n 2, 1) := by decide +kernel
theorem dL_law__2683 : decode cL_law_ 2683 = .ok (.invokevirtual 282, 3) := by decide +kernel
theorem dL_law__2686 : decode cL_law_ 2686 = .ok (.lcmp, 1) := by decide +kernel
theorem dL_law__2687 : decode cL_law_ 2687 = .ok (.ifCond .eq 163, 3) := by decide +kernel
theorem dL_law__2692 : decode cL_law_ 2692 = .ok (.aload_n 1, 1) := by decide +kernel
theorem dL_law__2693 : decode cL_law_ 2693 = .ok (.aload 4, 2) := by decide +kernel
theorem dL_law__2695 : decode cL_law_ 2695 = .ok (.invokestatic 283, 3) := by decide +kernel
theorem dL_law__2698 : decode cL_law_ 2698 = .ok (.istore 6, 2) := by decide +kernel
theorem dL_law__2700 : decode cL_law_ 2700 = .ok (.aload_n 2, 1) := by decide +kernel
theorem dL_law__2701 : decode cL_law_ 2701 = .ok (.invokevirtual 286, 3) := by decide +kernel
theorem dL_law__2704 : decode cL_law_ 2704 = .ok (.fstore 7, 2) := by decide +kernel
theorem dL_law__2706 : decode cL_law_ 2706 = .ok (.aload_n 2, 1) := by decide +kernel
theorem dL_law__2707 : decode cL_law_ 2707 = .ok (.invokevirtual 161, 3) := by decide +kernel
theorem dL_law__2710 : decode cL_law_ 2710 = .ok (.iload 6, 2) := by decide +kernel
theorem dL_law__2712 : decode cL_law_ 2712 = .ok (.if_icmp .eq 5, 3) := by decide +kernel
theorem dL_law__2717 : decode cL_law_ 2717 = .ok (.iload 6, 2) := by decide +kernel
theorem dL_law__2719 : decode cL_law_ 2719 = .ok (.ifCond .ne 36, 3) := by decide +kernel
theorem dL_law__2755 : decode cL_law_ 2755 = .ok (.goto 95, 3) := by decide +kernel
theorem dL_law__2758 : decode cL_law_ 2758 = .ok (.aload_n 1, 1) := by decide +kernel
theorem dL_law__2759 : decode cL_law_ 2759 = .ok (.aload 4, 2) := by decide +kernel
theorem dL_law__2761 : decode cL_law_ 2761 = .ok (.invokestatic 287, 3) := by decide +kernel
theorem dL_law__2764 : decode cL_law_ 2764 = .ok (.istore 6, 2) := by decide +kernel
theorem dL_law__2766 : decode cL_law_ 2766 = .ok (.aload_n 2, 1) := by decide +kernel
theorem dL_law__2767 : decode cL_law_ 2767 = .ok (.invokevirtual 289, 3) := by decide +kernel
theorem dL_law__2770 : decode cL_law_ 2770 = .ok (.dstore 7, 2) := by decide +kernel
theorem dL_law__2772 : decode cL_law_ 2772 = .ok (.aload_n 2, 1) := by decide +kernel
theorem dL_law__2773 : decode cL_law_ 2773 = .ok (.invokevirtual 161, 3) := by decide +kernel
theorem dL_law__2776 : decode cL_law_ 2776 = .ok (.iload 6, 2) := by decide +kernel
theorem dL_law__2778 : decode cL_law_ 2778 = .ok (.if_icmp .eq 5, 3) := by decide +kernel
theorem dL_law__2783 : decode cL_law_ 2783 = .ok (.iload 6, 2) := by decide +kernel
theorem dL_law__2785 : decode cL_law_ 2785 = .ok (.ifCond .ne 35, 3) := by decide +kernel
theorem dL_law__2820 : decode cL_law_ 2820 = .ok (.goto 30, 3) := by decide +kernel
theorem dL_law__2823 : decode cL_law_ 2823 = .ok (.aload_n 1, 1) := by decide +kernel
theorem dL_law__2824 : decode cL_law_ 2824 = .ok (.invokevirtual 290, 3) := by decide +kernel
theorem dL_law__2827 : decode cL_law_ 2827 = .ok (.aload_n 2, 1) := by decide +kernel
theorem dL_law__2828 : decode cL_law_ 2828 = .ok (.invokevirtual 293, 3) := by decide +kernel
theorem dL_law__2831 : decode cL_law_ 2831 = .ok (.lcmp, 1) := by decide +kernel
theorem dL_law__2832 : decode cL_law_ 2832 = .ok (.ifCond .eq 18, 3) := by decide +kernel
theorem dL_law__2837 : decode cL_law_ 2837 = .ok (.aload_n 1, 1) := by decide +kernel
theorem dL_law__2838 : decode cL_law_ 2838 = .ok (.invokevirtual 294, 3) := by decide +kernel
theorem dL_law__2841 : decode cL_law_ 2841 = .ok (.aload_n 2, 1) := by decide +kernel
theorem dL_law__2842 : decode cL_law_ 2842 = .ok (.invokevirtual 298, 3) := by decide +kernel
theorem dL_law__2845 : decode cL_law_ 2845 = .ok (.if_icmp .eq 5, 3) := by decide +kernel
theorem dL_law__2850 : decode cL_law_ 2850 = .ok (.iinc 5 5, 3) := by decide +kernel
theorem dL_law__2853 : decode cL_law_ 2853 = .ok (.goto (-2825), 3) := by decide +kernel
theorem dL_law__2856 : decode cL_law_ 2856 = .ok (.iconst 1, 1) := by decide +kernel
theorem dL_law__2857 : decode cL_law_ 2857 = .ok (.ireturn, 1) := by decide +kernel
theorem q0 : Cond.initialized RL ∈ lw_all := al_in (i := 0) (by decide +kernel) (by decide +kernel)
theorem q42 : Cond.classLink RL 8 RX7 ∈ lw_all := al_in (i := 42) (by decide +kernel) (by decide +kernel)
theorem q43 : Cond.instantiable RX7 7 ∈ lw_all := al_in (i := 43) (by decide +kernel) (by decide +kernel)
theorem q44 : Cond.methodLink RL 151 yX7_init ∈ lw_all := al_in (i := 44) (by decide +kernel) (by decide +kernel)
theorem q45 : Cond.instanceMethod yX7_init ∈ lw_all := al_in (i := 45) (by decide +kernel) (by decide +kernel)
theorem q46 : Cond.code yX7_init cX7_init 1 none ∈ lw_all := al_in (i := 46) (by decide +kernel) (by decide +kernel)
theorem q121 : Cond.methodLink RL 278 yX7_missing ∈ lw_all := al_in (i := 121) (by decide +kernel) (by decide +kernel)
theorem q155 : Cond.methodLink RL 290 yX7_checksum ∈ lw_all := al_in (i := 155) (by decide +kernel) (by decide +kernel)
theorem q156 : Cond.instanceMethod yX7_checksum ∈ lw_all := al_in (i := 156) (by decide +kernel) (by decide +kernel)
theorem q157 : Cond.selects RX7 yX7_checksum yX7_checksum ∈ lw_all := al_in (i := 157) (by decide +kernel) (by decide +kernel)
theorem q158 : Cond.code yX7_checksum cX7_checksum 7 (some .long) ∈ lw_all := al_in (i := 158) (by decide +kernel) (by decide +kernel)
theorem q166 : Cond.methodLink RL 294 yX7_isTrue ∈ lw_all := al_in (i := 166) (by decide +kernel) (by decide +kernel)
theorem q167 : Cond.instanceMethod yX7_isTrue ∈ lw_all := al_in (i := 167) (by decide +kernel) (by decide +kernel)
theorem q168 : Cond.selects RX7 yX7_isTrue yX7_isTrue ∈ lw_all := al_in (i := 168) (by decide +kernel) (by decide +kernel)
theorem q169 : Cond.code yX7_isTrue cX7_isTrue 3 (some .boolean) ∈ lw_all := al_in (i := 169) (by decide +kernel) (by decide +kernel)
theorem q407 : Cond.methodLink RL 155 yL_column ∈ lw_all := al_in (i := 407) (by decide +kernel) (by decide +kernel)
theorem q408 : Cond.static yL_column ∈ lw_all := al_in (i := 408) (by decide +kernel) (by decide +kernel)
theorem q409 : Cond.codeWith yL_column cL_column 4 (some .int) [(0, 9, 12, 13), (0, 9, 15, 15)] ∈ lw_all := al_in (i := 409) (by decide +kernel) (by decide +kernel)
theorem q640 : Cond.methodLink RL 165 yL_layer ∈ lw_all := al_in (i := 640) (by decide +kernel) (by decide +kernel)
theorem q641 : Cond.static yL_layer ∈ lw_all := al_in (i := 641) (by decide +kernel) (by decide +kernel)
theorem q642 : Cond.codeWith yL_layer cL_layer 6 (some .int) [(0, 12, 15, 21), (0, 12, 19, 13), (0, 12, 23, 15)] ∈ lw_all := al_in (i := 642) (by decide +kernel) (by decide +kernel)
theorem q729 : Cond.methodLink RL 169 yL_wet ∈ lw_all := al_in (i := 729) (by decide +kernel) (by decide +kernel)
theorem q730 : Cond.static yL_wet ∈ lw_all := al_in (i := 730) (by decide +kernel) (by decide +kernel)
theorem q731 : Cond.codeWith yL_wet cL_wet 6 (some .int) [(0, 12, 15, 21), (0, 12, 19, 13)] ∈ lw_all := al_in (i := 731) (by decide +kernel) (by decide +kernel)
theorem q741 : Cond.methodLink RL 173 yL_water ∈ lw_all := al_in (i := 741) (by decide +kernel) (by decide +kernel)
theorem q742 : Cond.static yL_water ∈ lw_all := al_in (i := 742) (by decide +kernel) (by decide +kernel)
theorem q743 : Cond.codeWith yL_water cL_water 5 (some .int) [(0, 10, 13, 21)] ∈ lw_all := al_in (i := 743) (by decide +kernel) (by decide +kernel)
theorem q748 : Cond.methodLink RL 177 yL_capacity ∈ lw_all := al_in (i := 748) (by decide +kernel) (by decide +kernel)
theorem q749 : Cond.static yL_capacity ∈ lw_all := al_in (i := 749) (by decide +kernel) (by decide +kernel)
theorem q750 : Cond.codeWith yL_capacity cL_capacity 5 (some .int) [(0, 10, 13, 21)] ∈ lw_all := al_in (i := 750) (by decide +kernel) (by decide +kernel)
theorem q755 : Cond.methodLink RL 180 yL_link ∈ lw_all := al_in (i := 755) (by decide +kernel) (by decide +kernel)
theorem q756 : Cond.static yL_link ∈ lw_all := al_in (i := 756) (by decide +kernel) (by decide +kernel)
theorem q757 : Cond.codeWith yL_link cL_link 5 (some .int) [(0, 10, 13, 21), (0, 10, 17, 13)] ∈ lw_all := al_in (i := 757) (by decide +kernel) (by decide +kernel)
theorem q764 : Cond.methodLink RL 183 yL_scale ∈ lw_all := al_in (i := 764) (by decide +kernel) (by decide +kernel)
theorem q765 : Cond.static yL_scale ∈ lw_all := al_in (i := 765) (by decide +kernel) (by decide +kernel)
theorem q766 : Cond.codeWith yL_scale cL_scale 5 (some .int) [(0, 10, 13, 21), (0, 10, 17, 13)] ∈ lw_all := al_in (i := 766) (by decide +kernel) (by decide +kernel)
theorem q771 : Cond.methodLink RL 186 yL_plant ∈ lw_all := al_in (i := 771) (by decide +kernel) (by decide +kernel)
theorem q772 : Cond.static yL_plant ∈ lw_all := al_in (i := 772) (by decide +kernel) (by decide +kernel)
theorem q773 : Cond.codeWith yL_plant cL_plant 6 (some .int) [(0, 12, 15, 21), (0, 12, 19, 13), (0, 12, 23, 15)] ∈ lw_all := al_in (i := 773) (by decide +kernel) (by decide +kernel)
theorem q799 : Cond.methodLink RL 189 yL_harvest ∈ lw_all := al_in (i := 799) (by decide +kernel) (by decide +kernel)
theorem q800 : Cond.static yL_harvest ∈ lw_all := al_in (i := 800) (by decide +kernel) (by decide +kernel)
theorem q801 : Cond.codeWith yL_harvest cL_harvest 4 (some .int) [(0, 9, 12, 21)] ∈ lw_all := al_in (i := 801) (by decide +kernel) (by decide +kernel)
theorem q810 : Cond.methodLink RL 193 yL_stress ∈ lw_all := al_in (i := 810) (by decide +kernel) (by decide +kernel)
theorem q811 : Cond.static yL_stress ∈ lw_all := al_in (i := 811) (by decide +kernel) (by decide +kernel)
theorem q812 : Cond.codeWith yL_stress cL_stress 5 (some .int) [(0, 10, 13, 21), (0, 10, 17, 50)] ∈ lw_all := al_in (i := 812) (by decide +kernel) (by decide +kernel)
theorem q834 : Cond.methodLink RL 196 yL_mulch ∈ lw_all := al_in (i := 834) (by decide +kernel) (by decide +kernel)
theorem q835 : Cond.static yL_mulch ∈ lw_all := al_in (i := 835) (by decide +kernel) (by decide +kernel)
theorem q836 : Cond.codeWith yL_mulch cL_mulch 5 (some .int) [(0, 17, 20, 21)] ∈ lw_all := al_in (i := 836) (by decide +kernel) (by decide +kernel)
theorem q841 : Cond.methodLink RL 200 yL_rule ∈ lw_all := al_in (i := 841) (by decide +kernel) (by decide +kernel)
theorem q842 : Cond.static yL_rule ∈ lw_all := al_in (i := 842) (by decide +kernel) (by decide +kernel)
theorem q843 : Cond.codeWith yL_rule cL_rule 6 (some .int) [(0, 12, 15, 21), (0, 12, 19, 13)] ∈ lw_all := al_in (i := 843) (by decide +kernel) (by decide +kernel)
theorem q848 : Cond.methodLink RL 203 yL_spread ∈ lw_all := al_in (i := 848) (by decide +kernel) (by decide +kernel)
theorem q849 : Cond.static yL_spread ∈ lw_all := al_in (i := 849) (by decide +kernel) (by decide +kernel)
theorem q850 : Cond.codeWith yL_spread cL_spread 6 (some .int) [(0, 11, 14, 21), (0, 11, 18, 13), (0, 11, 22, 63)] ∈ lw_all := al_in (i := 850) (by decide +kernel) (by decide +kernel)
theorem q879 : Cond.methodLink RL 206 yL_manure ∈ lw_all := al_in (i := 879) (by decide +kernel) (by decide +kernel)
theorem q880 : Cond.static yL_manure ∈ lw_all := al_in (i := 880) (by decide +kernel) (by decide +kernel)
theorem q881 : Cond.codeWith yL_manure cL_manure 5 (some .int) [(0, 9, 12, 21), (0, 9, 16, 13)] ∈ lw_all := al_in (i := 881) (by decide +kernel) (by decide +kernel)
theorem q886 : Cond.methodLink RL 209 yL_solute ∈ lw_all := al_in (i := 886) (by decide +kernel) (by decide +kernel)
theorem q887 : Cond.static yL_solute ∈ lw_all := al_in (i := 887) (by decide +kernel) (by decide +kernel)
theorem q888 : Cond.codeWith yL_solute cL_solute 6 (some .int) [(0, 11, 14, 21), (0, 11, 18, 13)] ∈ lw_all := al_in (i := 888) (by decide +kernel) (by decide +kernel)
theorem q893 : Cond.methodLink RL 213 yL_out ∈ lw_all := al_in (i := 893) (by decide +kernel) (by decide +kernel)
theorem q894 : Cond.static yL_out ∈ lw_all := al_in (i := 894) (by decide +kernel) (by decide +kernel)
theorem q895 : Cond.codeWith yL_out cL_out 5 (some .int) [(0, 9, 12, 21), (0, 9, 16, 13)] ∈ lw_all := al_in (i := 895) (by decide +kernel) (by decide +kernel)
theorem q900 : Cond.methodLink RL 217 yL_eaten ∈ lw_all := al_in (i := 900) (by decide +kernel) (by decide +kernel)
theorem q901 : Cond.static yL_eaten ∈ lw_all := al_in (i := 901) (by decide +kernel) (by decide +kernel)
theorem q902 : Cond.codeWith yL_eaten cL_eaten 4 (some .int) [(0, 8, 11, 21)] ∈ lw_all := al_in (i := 902) (by decide +kernel) (by decide +kernel)
theorem q907 : Cond.methodLink RL 220 yL_weather ∈ lw_all := al_in (i := 907) (by decide +kernel) (by decide +kernel)
theorem q908 : Cond.static yL_weather ∈ lw_all := al_in (i := 908) (by decide +kernel) (by decide +kernel)
theorem q909 : Cond.codeWith yL_weather cL_weather 6 (some .int) [(0, 12, 15, 13)] ∈ lw_all := al_in (i := 909) (by decide +kernel) (by decide +kernel)
theorem q914 : Cond.methodLink RL 223 yL_law ∈ lw_all := al_in (i := 914) (by decide +kernel) (by decide +kernel)
theorem q915 : Cond.static yL_law ∈ lw_all := al_in (i := 915) (by decide +kernel) (by decide +kernel)
theorem q916 : Cond.codeWith yL_law cL_law 5 (some .int) [(0, 10, 13, 13)] ∈ lw_all := al_in (i := 916) (by decide +kernel) (by decide +kernel)
theorem q921 : Cond.methodLink RL 226 yL_hours ∈ lw_all := al_in (i := 921) (by decide +kernel) (by decide +kernel)
theorem q922 : Cond.static yL_hours ∈ lw_all := al_in (i := 922) (by decide +kernel) (by decide +kernel)
theorem q923 : Cond.codeWith yL_hours cL_hours 4 (some .int) [(0, 9, 12, 13)] ∈ lw_all := al_in (i := 923) (by decide +kernel) (by decide +kernel)
theorem q941 : Cond.methodLink RL 229 yL_standing ∈ lw_all := al_in (i := 941) (by decide +kernel) (by decide +kernel)
theorem q942 : Cond.static yL_standing ∈ lw_all := al_in (i := 942) (by decide +kernel) (by decide +kernel)
theorem q943 : Cond.codeWith yL_standing cL_standing 4 (some .int) [(0, 9, 12, 21)] ∈ lw_all := al_in (i := 943) (by decide +kernel) (by decide +kernel)
theorem q948 : Cond.methodLink RL 232 yL_recharge ∈ lw_all := al_in (i := 948) (by decide +kernel) (by decide +kernel)
theorem q949 : Cond.static yL_recharge ∈ lw_all := al_in (i := 949) (by decide +kernel) (by decide +kernel)
theorem q950 : Cond.codeWith yL_recharge cL_recharge 4 (some .int) [(0, 8, 11, 21)] ∈ lw_all := al_in (i := 950) (by decide +kernel) (by decide +kernel)
theorem q955 : Cond.methodLink RL 235 yL_runoff ∈ lw_all := al_in (i := 955) (by decide +kernel) (by decide +kernel)
theorem q956 : Cond.static yL_runoff ∈ lw_all := al_in (i := 956) (by decide +kernel) (by decide +kernel)
theorem q957 : Cond.codeWith yL_runoff cL_runoff 4 (some .int) [(0, 8, 11, 21)] ∈ lw_all := al_in (i := 957) (by decide +kernel) (by decide +kernel)
theorem q962 : Cond.methodLink RL 238 yL_vapour ∈ lw_all := al_in (i := 962) (by decide +kernel) (by decide +kernel)
theorem q963 : Cond.static yL_vapour ∈ lw_all := al_in (i := 963) (by decide +kernel) (by decide +kernel)
theorem q964 : Cond.codeWith yL_vapour cL_vapour 4 (some .int) [(0, 8, 11, 21)] ∈ lw_all := al_in (i := 964) (by decide +kernel) (by decide +kernel)
theorem q969 : Cond.methodLink RL 241 yL_isFrozen ∈ lw_all := al_in (i := 969) (by decide +kernel) (by decide +kernel)
theorem q970 : Cond.static yL_isFrozen ∈ lw_all := al_in (i := 970) (by decide +kernel) (by decide +kernel)
theorem q971 : Cond.codeWith yL_isFrozen cL_isFrozen 5 (some .int) [(0, 17, 20, 21)] ∈ lw_all := al_in (i := 971) (by decide +kernel) (by decide +kernel)
theorem q976 : Cond.methodLink RL 244 yL_frost ∈ lw_all := al_in (i := 976) (by decide +kernel) (by decide +kernel)
theorem q977 : Cond.static yL_frost ∈ lw_all := al_in (i := 977) (by decide +kernel) (by decide +kernel)
theorem q978 : Cond.codeWith yL_frost cL_frost 5 (some .int) [(0, 10, 13, 21)] ∈ lw_all := al_in (i := 978) (by decide +kernel) (by decide +kernel)
theorem q983 : Cond.methodLink RL 247 yL_heave ∈ lw_all := al_in (i := 983) (by decide +kernel) (by decide +kernel)
theorem q984 : Cond.static yL_heave ∈ lw_all := al_in (i := 984) (by decide +kernel) (by decide +kernel)
theorem q985 : Cond.codeWith yL_heave cL_heave 4 (some .int) [(0, 9, 12, 21)] ∈ lw_all := al_in (i := 985) (by decide +kernel) (by decide +kernel)
theorem q994 : Cond.methodLink RL 250 yL_crack ∈ lw_all := al_in (i := 994) (by decide +kernel) (by decide +kernel)
theorem q995 : Cond.static yL_crack ∈ lw_all := al_in (i := 995) (by decide +kernel) (by decide +kernel)
theorem q996 : Cond.codeWith yL_crack cL_crack 4 (some .int) [(0, 9, 12, 21)] ∈ lw_all := al_in (i := 996) (by decide +kernel) (by decide +kernel)
theorem q1005 : Cond.methodLink RL 253 yL_tension ∈ lw_all := al_in (i := 1005) (by decide +kernel) (by decide +kernel)
theorem q1006 : Cond.static yL_tension ∈ lw_all := al_in (i := 1006) (by decide +kernel) (by decide +kernel)
theorem q1007 : Cond.codeWith yL_tension cL_tension 5 (some .int) [(0, 10, 13, 21), (0, 10, 17, 50)] ∈ lw_all := al_in (i := 1007) (by decide +kernel) (by decide +kernel)
theorem q1014 : Cond.methodLink RL 256 yL_reflection ∈ lw_all := al_in (i := 1014) (by decide +kernel) (by decide +kernel)
theorem q1015 : Cond.static yL_reflection ∈ lw_all := al_in (i := 1015) (by decide +kernel) (by decide +kernel)
theorem q1016 : Cond.codeWith yL_reflection cL_reflection 5 (some .int) [(0, 10, 13, 21), (0, 10, 17, 50)] ∈ lw_all := al_in (i := 1016) (by decide +kernel) (by decide +kernel)
theorem q1029 : Cond.methodLink RL 259 yL_setRight ∈ lw_all := al_in (i := 1029) (by decide +kernel) (by decide +kernel)
theorem q1030 : Cond.static yL_setRight ∈ lw_all := al_in (i := 1030) (by decide +kernel) (by decide +kernel)
theorem q1031 : Cond.codeWith yL_setRight cL_setRight 4 (some .int) [(0, 9, 12, 21)] ∈ lw_all := al_in (i := 1031) (by decide +kernel) (by decide +kernel)
theorem q1036 : Cond.methodLink RL 262 yL_weigh ∈ lw_all := al_in (i := 1036) (by decide +kernel) (by decide +kernel)
theorem q1037 : Cond.static yL_weigh ∈ lw_all := al_in (i := 1037) (by decide +kernel) (by decide +kernel)
theorem q1038 : Cond.codeWith yL_weigh cL_weigh 4 (some .int) [(0, 9, 12, 21)] ∈ lw_all := al_in (i := 1038) (by decide +kernel) (by decide +kernel)
theorem q1044 : Cond.methodLink RL 265 yL_fines ∈ lw_all := al_in (i := 1044) (by decide +kernel) (by decide +kernel)
theorem q1045 : Cond.static yL_fines ∈ lw_all := al_in (i := 1045) (by decide +kernel) (by decide +kernel)
theorem q1046 : Cond.codeWith yL_fines cL_fines 4 (some .int) [(0, 8, 11, 21)] ∈ lw_all := al_in (i := 1046) (by decide +kernel) (by decide +kernel)
theorem q1051 : Cond.methodLink RL 268 yL_forecast ∈ lw_all := al_in (i := 1051) (by decide +kernel) (by decide +kernel)
theorem q1052 : Cond.static yL_forecast ∈ lw_all := al_in (i := 1052) (by decide +kernel) (by decide +kernel)
theorem q1053 : Cond.codeWith yL_forecast cL_forecast 6 (some .int) [(0, 11, 14, 21), (0, 11, 18, 13)] ∈ lw_all := al_in (i := 1053) (by decide +kernel) (by decide +kernel)
theorem q1058 : Cond.methodLink RL 271 yL_fits ∈ lw_all := al_in (i := 1058) (by decide +kernel) (by decide +kernel)
theorem q1059 : Cond.static yL_fits ∈ lw_all := al_in (i := 1059) (by decide +kernel) (by decide +kernel)
theorem q1060 : Cond.codeWith yL_fits cL_fits 6 (some .int) [(0, 12, 15, 21), (0, 12, 19, 13)] ∈ lw_all := al_in (i := 1060) (by decide +kernel) (by decide +kernel)
theorem q1078 : Cond.methodLink RL 274 yL_fit ∈ lw_all := al_in (i := 1078) (by decide +kernel) (by decide +kernel)
theorem q1079 : Cond.static yL_fit ∈ lw_all := al_in (i := 1079) (by decide +kernel) (by decide +kernel)
theorem q1080 : Cond.codeWith yL_fit cL_fit 7 (some .int) [(0, 14, 17, 21), (0, 14, 21, 13), (0, 14, 25, 50)] ∈ lw_all := al_in (i := 1080) (by decide +kernel) (by decide +kernel)
theorem q1086 : Cond.methodLink RL 283 yL_frozenShare ∈ lw_all := al_in (i := 1086) (by decide +kernel) (by decide +kernel)
theorem q1087 : Cond.static yL_frozenShare ∈ lw_all := al_in (i := 1087) (by decide +kernel) (by decide +kernel)
theorem q1088 : Cond.codeWith yL_frozenShare cL_frozenShare 3 (some .int) [(0, 8, 11, 145)] ∈ lw_all := al_in (i := 1088) (by decide +kernel) (by decide +kernel)
theorem q1118 : Cond.methodLink RL 287 yL_meanWater ∈ lw_all := al_in (i := 1118) (by decide +kernel) (by decide +kernel)
theorem q1119 : Cond.static yL_meanWater ∈ lw_all := al_in (i := 1119) (by decide +kernel) (by decide +kernel)
theorem q1120 : Cond.codeWith yL_meanWater cL_meanWater 3 (some .int) [(0, 7, 10, 145)] ∈ lw_all := al_in (i := 1120) (by decide +kernel) (by decide +kernel)
theorem q1125 : Cond.classLink RL 152 RX12 ∈ lw_all := al_in (i := 1125) (by decide +kernel) (by decide +kernel)
theorem q1126 : Cond.instantiable RX12 4 ∈ lw_all := al_in (i := 1126) (by decide +kernel) (by decide +kernel)
theorem q1127 : Cond.methodLink RL 154 yX12_init ∈ lw_all := al_in (i := 1127) (by decide +kernel) (by decide +kernel)
theorem q1128 : Cond.instanceMethod yX12_init ∈ lw_all := al_in (i := 1128) (by decide +kernel) (by decide +kernel)
theorem q1129 : Cond.code yX12_init cX12_init 1 none ∈ lw_all := al_in (i := 1129) (by decide +kernel) (by decide +kernel)
theorem q1174 : Cond.methodLink RL 161 yX12_thrown ∈ lw_all := al_in (i := 1174) (by decide +kernel) (by decide +kernel)
theorem q1175 : Cond.instanceMethod yX12_thrown ∈ lw_all := al_in (i := 1175) (by decide +kernel) (by decide +kernel)
theorem q1176 : Cond.selects RX12 yX12_thrown yX12_thrown ∈ lw_all := al_in (i := 1176) (by decide +kernel) (by decide +kernel)
theorem q1177 : Cond.code yX12_thrown cX12_thrown 1 (some .int) ∈ lw_all := al_in (i := 1177) (by decide +kernel) (by decide +kernel)
theorem q1178 : Cond.methodLink RL 160 yX12_column ∈ lw_all := al_in (i := 1178) (by decide +kernel) (by decide +kernel)
theorem q1179 : Cond.instanceMethod yX12_column ∈ lw_all := al_in (i := 1179) (by decide +kernel) (by decide +kernel)
theorem q1180 : Cond.selects RX12 yX12_column yX12_column ∈ lw_all := al_in (i := 1180) (by decide +kernel) (by decide +kernel)
theorem q1181 : Cond.code yX12_column cX12_column 2 (some .int) ∈ lw_all := al_in (i := 1181) (by decide +kernel) (by decide +kernel)
theorem q1346 : Cond.methodLink RL 168 yX12_layer ∈ lw_all := al_in (i := 1346) (by decide +kernel) (by decide +kernel)
theorem q1347 : Cond.instanceMethod yX12_layer ∈ lw_all := al_in (i := 1347) (by decide +kernel) (by decide +kernel)
theorem q1348 : Cond.selects RX12 yX12_layer yX12_layer ∈ lw_all := al_in (i := 1348) (by decide +kernel) (by decide +kernel)
theorem q1349 : Cond.code yX12_layer cX12_layer 6 (some .int) ∈ lw_all := al_in (i := 1349) (by decide +kernel) (by decide +kernel)
theorem q1415 : Cond.methodLink RL 172 yX12_wet ∈ lw_all := al_in (i := 1415) (by decide +kernel) (by decide +kernel)
theorem q1416 : Cond.instanceMethod yX12_wet ∈ lw_all := al_in (i := 1416) (by decide +kernel) (by decide +kernel)
theorem q1417 : Cond.selects RX12 yX12_wet yX12_wet ∈ lw_all := al_in (i := 1417) (by decide +kernel) (by decide +kernel)
theorem q1418 : Cond.code yX12_wet cX12_wet 6 (some .int) ∈ lw_all := al_in (i := 1418) (by decide +kernel) (by decide +kernel)
theorem q1427 : Cond.methodLink RL 176 yX12_water ∈ lw_all := al_in (i := 1427) (by decide +kernel) (by decide +kernel)
theorem q1428 : Cond.instanceMethod yX12_water ∈ lw_all := al_in (i := 1428) (by decide +kernel) (by decide +kernel)
theorem q1429 : Cond.selects RX12 yX12_water yX12_water ∈ lw_all := al_in (i := 1429) (by decide +kernel) (by decide +kernel)
theorem q1430 : Cond.code yX12_water cX12_water 3 (some .int) ∈ lw_all := al_in (i := 1430) (by decide +kernel) (by decide +kernel)
theorem q1431 : Cond.methodLink RL 179 yX12_capacity ∈ lw_all := al_in (i := 1431) (by decide +kernel) (by decide +kernel)
theorem q1432 : Cond.instanceMethod yX12_capacity ∈ lw_all := al_in (i := 1432) (by decide +kernel) (by decide +kernel)
theorem q1433 : Cond.selects RX12 yX12_capacity yX12_capacity ∈ lw_all := al_in (i := 1433) (by decide +kernel) (by decide +kernel)
theorem q1434 : Cond.code yX12_capacity cX12_capacity 3 (some .int) ∈ lw_all := al_in (i := 1434) (by decide +kernel) (by decide +kernel)
theorem q1435 : Cond.methodLink RL 182 yX12_link ∈ lw_all := al_in (i := 1435) (by decide +kernel) (by decide +kernel)
theorem q1436 : Cond.instanceMethod yX12_link ∈ lw_all := al_in (i := 1436) (by decide +kernel) (by decide +kernel)
theorem q1437 : Cond.selects RX12 yX12_link yX12_link ∈ lw_all := al_in (i := 1437) (by decide +kernel) (by decide +kernel)
theorem q1438 : Cond.code yX12_link cX12_link 4 (some .int) ∈ lw_all := al_in (i := 1438) (by decide +kernel) (by decide +kernel)
theorem q1439 : Cond.methodLink RL 185 yX12_scale ∈ lw_all := al_in (i := 1439) (by decide +kernel) (by decide +kernel)
theorem q1440 : Cond.instanceMethod yX12_scale ∈ lw_all := al_in (i := 1440) (by decide +kernel) (by decide +kernel)
theorem q1441 : Cond.selects RX12 yX12_scale yX12_scale ∈ lw_all := al_in (i := 1441) (by decide +kernel) (by decide +kernel)
theorem q1442 : Cond.code yX12_scale cX12_scale 4 (some .int) ∈ lw_all := al_in (i := 1442) (by decide +kernel) (by decide +kernel)
theorem q1445 : Cond.methodLink RL 188 yX12_plant ∈ lw_all := al_in (i := 1445) (by decide +kernel) (by decide +kernel)
theorem q1446 : Cond.instanceMethod yX12_plant ∈ lw_all := al_in (i := 1446) (by decide +kernel) (by decide +kernel)
theorem q1447 : Cond.selects RX12 yX12_plant yX12_plant ∈ lw_all := al_in (i := 1447) (by decide +kernel) (by decide +kernel)
theorem q1448 : Cond.code yX12_plant cX12_plant 5 (some .int) ∈ lw_all := al_in (i := 1448) (by decide +kernel) (by decide +kernel)
theorem q1469 : Cond.methodLink RL 192 yX12_harvest ∈ lw_all := al_in (i := 1469) (by decide +kernel) (by decide +kernel)
theorem q1470 : Cond.instanceMethod yX12_harvest ∈ lw_all := al_in (i := 1470) (by decide +kernel) (by decide +kernel)
theorem q1471 : Cond.selects RX12 yX12_harvest yX12_harvest ∈ lw_all := al_in (i := 1471) (by decide +kernel) (by decide +kernel)
theorem q1472 : Cond.code yX12_harvest cX12_harvest 3 (some .int) ∈ lw_all := al_in (i := 1472) (by decide +kernel) (by decide +kernel)
theorem q1474 : Cond.methodLink RL 195 yX12_stress ∈ lw_all := al_in (i := 1474) (by decide +kernel) (by decide +kernel)
theorem q1475 : Cond.instanceMethod yX12_stress ∈ lw_all := al_in (i := 1475) (by decide +kernel) (by decide +kernel)
theorem q1476 : Cond.selects RX12 yX12_stress yX12_stress ∈ lw_all := al_in (i := 1476) (by decide +kernel) (by decide +kernel)
theorem q1477 : Cond.code yX12_stress cX12_stress 3 (some .int) ∈ lw_all := al_in (i := 1477) (by decide +kernel) (by decide +kernel)
theorem q1478 : Cond.methodLink RL 199 yX12_mulch ∈ lw_all := al_in (i := 1478) (by decide +kernel) (by decide +kernel)
theorem q1479 : Cond.instanceMethod yX12_mulch ∈ lw_all := al_in (i := 1479) (by decide +kernel) (by decide +kernel)
theorem q1480 : Cond.selects RX12 yX12_mulch yX12_mulch ∈ lw_all := al_in (i := 1480) (by decide +kernel) (by decide +kernel)
theorem q1481 : Cond.code yX12_mulch cX12_mulch 4 (some .boolean) ∈ lw_all := al_in (i := 1481) (by decide +kernel) (by decide +kernel)
theorem q1482 : Cond.methodLink RL 202 yX12_rule ∈ lw_all := al_in (i := 1482) (by decide +kernel) (by decide +kernel)
theorem q1483 : Cond.instanceMethod yX12_rule ∈ lw_all := al_in (i := 1483) (by decide +kernel) (by decide +kernel)
theorem q1484 : Cond.selects RX12 yX12_rule yX12_rule ∈ lw_all := al_in (i := 1484) (by decide +kernel) (by decide +kernel)
theorem q1485 : Cond.code yX12_rule cX12_rule 5 (some .int) ∈ lw_all := al_in (i := 1485) (by decide +kernel) (by decide +kernel)
theorem q1488 : Cond.methodLink RL 205 yX12_spread ∈ lw_all := al_in (i := 1488) (by decide +kernel) (by decide +kernel)
theorem q1489 : Cond.instanceMethod yX12_spread ∈ lw_all := al_in (i := 1489) (by decide +kernel) (by decide +kernel)
theorem q1490 : Cond.selects RX12 yX12_spread yX12_spread ∈ lw_all := al_in (i := 1490) (by decide +kernel) (by decide +kernel)
theorem q1491 : Cond.code yX12_spread cX12_spread 5 (some .long) ∈ lw_all := al_in (i := 1491) (by decide +kernel) (by decide +kernel)
theorem q1498 : Cond.methodLink RL 208 yX12_manure ∈ lw_all := al_in (i := 1498) (by decide +kernel) (by decide +kernel)
theorem q1499 : Cond.instanceMethod yX12_manure ∈ lw_all := al_in (i := 1499) (by decide +kernel) (by decide +kernel)
theorem q1500 : Cond.selects RX12 yX12_manure yX12_manure ∈ lw_all := al_in (i := 1500) (by decide +kernel) (by decide +kernel)
theorem q1501 : Cond.code yX12_manure cX12_manure 3 (some .long) ∈ lw_all := al_in (i := 1501) (by decide +kernel) (by decide +kernel)
theorem q1502 : Cond.methodLink RL 212 yX12_solute ∈ lw_all := al_in (i := 1502) (by decide +kernel) (by decide +kernel)
theorem q1503 : Cond.instanceMethod yX12_solute ∈ lw_all := al_in (i := 1503) (by decide +kernel) (by decide +kernel)
theorem q1504 : Cond.selects RX12 yX12_solute yX12_solute ∈ lw_all := al_in (i := 1504) (by decide +kernel) (by decide +kernel)
theorem q1505 : Cond.code yX12_solute cX12_solute 4 (some .long) ∈ lw_all := al_in (i := 1505) (by decide +kernel) (by decide +kernel)
theorem q1506 : Cond.methodLink RL 216 yX12_out ∈ lw_all := al_in (i := 1506) (by decide +kernel) (by decide +kernel)
theorem q1507 : Cond.instanceMethod yX12_out ∈ lw_all := al_in (i := 1507) (by decide +kernel) (by decide +kernel)
theorem q1508 : Cond.selects RX12 yX12_out yX12_out ∈ lw_all := al_in (i := 1508) (by decide +kernel) (by decide +kernel)
theorem q1509 : Cond.code yX12_out cX12_out 3 (some .long) ∈ lw_all := al_in (i := 1509) (by decide +kernel) (by decide +kernel)
theorem q1510 : Cond.methodLink RL 219 yX12_eaten ∈ lw_all := al_in (i := 1510) (by decide +kernel) (by decide +kernel)
theorem q1511 : Cond.instanceMethod yX12_eaten ∈ lw_all := al_in (i := 1511) (by decide +kernel) (by decide +kernel)
theorem q1512 : Cond.selects RX12 yX12_eaten yX12_eaten ∈ lw_all := al_in (i := 1512) (by decide +kernel) (by decide +kernel)
theorem q1513 : Cond.code yX12_eaten cX12_eaten 2 (some .long) ∈ lw_all := al_in (i := 1513) (by decide +kernel) (by decide +kernel)
theorem q1514 : Cond.methodLink RL 222 yX12_weather ∈ lw_all := al_in (i := 1514) (by decide +kernel) (by decide +kernel)
theorem q1515 : Cond.instanceMethod yX12_weather ∈ lw_all := al_in (i := 1515) (by decide +kernel) (by decide +kernel)
theorem q1516 : Cond.selects RX12 yX12_weather yX12_weather ∈ lw_all := al_in (i := 1516) (by decide +kernel) (by decide +kernel)
theorem q1517 : Cond.code yX12_weather cX12_weather 5 (some .int) ∈ lw_all := al_in (i := 1517) (by decide +kernel) (by decide +kernel)
theorem q1522 : Cond.methodLink RL 225 yX12_law ∈ lw_all := al_in (i := 1522) (by decide +kernel) (by decide +kernel)
theorem q1523 : Cond.instanceMethod yX12_law ∈ lw_all := al_in (i := 1523) (by decide +kernel) (by decide +kernel)
theorem q1524 : Cond.selects RX12 yX12_law yX12_law ∈ lw_all := al_in (i := 1524) (by decide +kernel) (by decide +kernel)
theorem q1525 : Cond.code yX12_law cX12_law 4 (some .int) ∈ lw_all := al_in (i := 1525) (by decide +kernel) (by decide +kernel)
theorem q1526 : Cond.methodLink RL 228 yX12_hours ∈ lw_all := al_in (i := 1526) (by decide +kernel) (by decide +kernel)
theorem q1527 : Cond.instanceMethod yX12_hours ∈ lw_all := al_in (i := 1527) (by decide +kernel) (by decide +kernel)
theorem q1528 : Cond.selects RX12 yX12_hours yX12_hours ∈ lw_all := al_in (i := 1528) (by decide +kernel) (by decide +kernel)
theorem q1529 : Cond.code yX12_hours cX12_hours 7 (some .int) ∈ lw_all := al_in (i := 1529) (by decide +kernel) (by decide +kernel)
theorem q1658 : Cond.methodLink RL 231 yX12_standing ∈ lw_all := al_in (i := 1658) (by decide +kernel) (by decide +kernel)
theorem q1659 : Cond.instanceMethod yX12_standing ∈ lw_all := al_in (i := 1659) (by decide +kernel) (by decide +kernel)
theorem q1660 : Cond.selects RX12 yX12_standing yX12_standing ∈ lw_all := al_in (i := 1660) (by decide +kernel) (by decide +kernel)
theorem q1661 : Cond.code yX12_standing cX12_standing 2 (some .int) ∈ lw_all := al_in (i := 1661) (by decide +kernel) (by decide +kernel)
theorem q1662 : Cond.methodLink RL 234 yX12_recharge ∈ lw_all := al_in (i := 1662) (by decide +kernel) (by decide +kernel)
theorem q1663 : Cond.instanceMethod yX12_recharge ∈ lw_all := al_in (i := 1663) (by decide +kernel) (by decide +kernel)
theorem q1664 : Cond.selects RX12 yX12_recharge yX12_recharge ∈ lw_all := al_in (i := 1664) (by decide +kernel) (by decide +kernel)
theorem q1665 : Cond.code yX12_recharge cX12_recharge 2 (some .long) ∈ lw_all := al_in (i := 1665) (by decide +kernel) (by decide +kernel)
theorem q1666 : Cond.methodLink RL 237 yX12_runoff ∈ lw_all := al_in (i := 1666) (by decide +kernel) (by decide +kernel)
theorem q1667 : Cond.instanceMethod yX12_runoff ∈ lw_all := al_in (i := 1667) (by decide +kernel) (by decide +kernel)
theorem q1668 : Cond.selects RX12 yX12_runoff yX12_runoff ∈ lw_all := al_in (i := 1668) (by decide +kernel) (by decide +kernel)
theorem q1669 : Cond.code yX12_runoff cX12_runoff 2 (some .long) ∈ lw_all := al_in (i := 1669) (by decide +kernel) (by decide +kernel)
theorem q1670 : Cond.methodLink RL 240 yX12_vapour ∈ lw_all := al_in (i := 1670) (by decide +kernel) (by decide +kernel)
theorem q1671 : Cond.instanceMethod yX12_vapour ∈ lw_all := al_in (i := 1671) (by decide +kernel) (by decide +kernel)
theorem q1672 : Cond.selects RX12 yX12_vapour yX12_vapour ∈ lw_all := al_in (i := 1672) (by decide +kernel) (by decide +kernel)
theorem q1673 : Cond.code yX12_vapour cX12_vapour 2 (some .long) ∈ lw_all := al_in (i := 1673) (by decide +kernel) (by decide +kernel)
theorem q1674 : Cond.methodLink RL 243 yX12_isFrozen ∈ lw_all := al_in (i := 1674) (by decide +kernel) (by decide +kernel)
theorem q1675 : Cond.instanceMethod yX12_isFrozen ∈ lw_all := al_in (i := 1675) (by decide +kernel) (by decide +kernel)
theorem q1676 : Cond.selects RX12 yX12_isFrozen yX12_isFrozen ∈ lw_all := al_in (i := 1676) (by decide +kernel) (by decide +kernel)
theorem q1677 : Cond.code yX12_isFrozen cX12_isFrozen 3 (some .boolean) ∈ lw_all := al_in (i := 1677) (by decide +kernel) (by decide +kernel)
theorem q1678 : Cond.methodLink RL 246 yX12_frost ∈ lw_all := al_in (i := 1678) (by decide +kernel) (by decide +kernel)
theorem q1679 : Cond.instanceMethod yX12_frost ∈ lw_all := al_in (i := 1679) (by decide +kernel) (by decide +kernel)
theorem q1680 : Cond.selects RX12 yX12_frost yX12_frost ∈ lw_all := al_in (i := 1680) (by decide +kernel) (by decide +kernel)
theorem q1681 : Cond.code yX12_frost cX12_frost 3 (some .int) ∈ lw_all := al_in (i := 1681) (by decide +kernel) (by decide +kernel)
theorem q1682 : Cond.methodLink RL 249 yX12_heave ∈ lw_all := al_in (i := 1682) (by decide +kernel) (by decide +kernel)
theorem q1683 : Cond.instanceMethod yX12_heave ∈ lw_all := al_in (i := 1683) (by decide +kernel) (by decide +kernel)
theorem q1684 : Cond.selects RX12 yX12_heave yX12_heave ∈ lw_all := al_in (i := 1684) (by decide +kernel) (by decide +kernel)
theorem q1685 : Cond.code yX12_heave cX12_heave 5 (some .int) ∈ lw_all := al_in (i := 1685) (by decide +kernel) (by decide +kernel)
theorem q1686 : Cond.methodLink RL 252 yX12_crack ∈ lw_all := al_in (i := 1686) (by decide +kernel) (by decide +kernel)
theorem q1687 : Cond.instanceMethod yX12_crack ∈ lw_all := al_in (i := 1687) (by decide +kernel) (by decide +kernel)
theorem q1688 : Cond.selects RX12 yX12_crack yX12_crack ∈ lw_all := al_in (i := 1688) (by decide +kernel) (by decide +kernel)
theorem q1689 : Cond.code yX12_crack cX12_crack 2 (some .int) ∈ lw_all := al_in (i := 1689) (by decide +kernel) (by decide +kernel)
theorem q1691 : Cond.methodLink RL 255 yX12_tension ∈ lw_all := al_in (i := 1691) (by decide +kernel) (by decide +kernel)
theorem q1692 : Cond.instanceMethod yX12_tension ∈ lw_all := al_in (i := 1692) (by decide +kernel) (by decide +kernel)
theorem q1693 : Cond.selects RX12 yX12_tension yX12_tension ∈ lw_all := al_in (i := 1693) (by decide +kernel) (by decide +kernel)
theorem q1694 : Cond.code yX12_tension cX12_tension 5 (some .int) ∈ lw_all := al_in (i := 1694) (by decide +kernel) (by decide +kernel)
theorem q1695 : Cond.methodLink RL 258 yX12_reflection ∈ lw_all := al_in (i := 1695) (by decide +kernel) (by decide +kernel)
theorem q1696 : Cond.instanceMethod yX12_reflection ∈ lw_all := al_in (i := 1696) (by decide +kernel) (by decide +kernel)
theorem q1697 : Cond.selects RX12 yX12_reflection yX12_reflection ∈ lw_all := al_in (i := 1697) (by decide +kernel) (by decide +kernel)
theorem q1698 : Cond.code yX12_reflection cX12_reflection 5 (some .int) ∈ lw_all := al_in (i := 1698) (by decide +kernel) (by decide +kernel)
theorem q1699 : Cond.methodLink RL 261 yX12_setRight ∈ lw_all := al_in (i := 1699) (by decide +kernel) (by decide +kernel)
theorem q1700 : Cond.instanceMethod yX12_setRight ∈ lw_all := al_in (i := 1700) (by decide +kernel) (by decide +kernel)
theorem q1701 : Cond.selects RX12 yX12_setRight yX12_setRight ∈ lw_all := al_in (i := 1701) (by decide +kernel) (by decide +kernel)
theorem q1702 : Cond.code yX12_setRight cX12_setRight 3 (some .int) ∈ lw_all := al_in (i := 1702) (by decide +kernel) (by decide +kernel)
theorem q1703 : Cond.methodLink RL 264 yX12_weigh ∈ lw_all := al_in (i := 1703) (by decide +kernel) (by decide +kernel)
theorem q1704 : Cond.instanceMethod yX12_weigh ∈ lw_all := al_in (i := 1704) (by decide +kernel) (by decide +kernel)
theorem q1705 : Cond.selects RX12 yX12_weigh yX12_weigh ∈ lw_all := al_in (i := 1705) (by decide +kernel) (by decide +kernel)
theorem q1706 : Cond.code yX12_weigh cX12_weigh 5 (some .int) ∈ lw_all := al_in (i := 1706) (by decide +kernel) (by decide +kernel)
theorem q1707 : Cond.methodLink RL 267 yX12_fines ∈ lw_all := al_in (i := 1707) (by decide +kernel) (by decide +kernel)
theorem q1708 : Cond.instanceMethod yX12_fines ∈ lw_all := al_in (i := 1708) (by decide +kernel) (by decide +kernel)
theorem q1709 : Cond.selects RX12 yX12_fines yX12_fines ∈ lw_all := al_in (i := 1709) (by decide +kernel) (by decide +kernel)
theorem q1710 : Cond.code yX12_fines cX12_fines 2 (some .long) ∈ lw_all := al_in (i := 1710) (by decide +kernel) (by decide +kernel)
theorem q1711 : Cond.methodLink RL 270 yX12_forecast ∈ lw_all := al_in (i := 1711) (by decide +kernel) (by decide +kernel)
theorem q1712 : Cond.instanceMethod yX12_forecast ∈ lw_all := al_in (i := 1712) (by decide +kernel) (by decide +kernel)
theorem q1713 : Cond.selects RX12 yX12_forecast yX12_forecast ∈ lw_all := al_in (i := 1713) (by decide +kernel) (by decide +kernel)
theorem q1714 : Cond.code yX12_forecast cX12_forecast 4 (some .long) ∈ lw_all := al_in (i := 1714) (by decide +kernel) (by decide +kernel)
theorem q1733 : Cond.methodLink RL 273 yX12_fits ∈ lw_all := al_in (i := 1733) (by decide +kernel) (by decide +kernel)
theorem q1734 : Cond.instanceMethod yX12_fits ∈ lw_all := al_in (i := 1734) (by decide +kernel) (by decide +kernel)
theorem q1735 : Cond.selects RX12 yX12_fits yX12_fits ∈ lw_all := al_in (i := 1735) (by decide +kernel) (by decide +kernel)
theorem q1736 : Cond.code yX12_fits cX12_fits 4 (some .int) ∈ lw_all := al_in (i := 1736) (by decide +kernel) (by decide +kernel)
theorem q1768 : Cond.methodLink RL 277 yX12_fit ∈ lw_all := al_in (i := 1768) (by decide +kernel) (by decide +kernel)
theorem q1769 : Cond.instanceMethod yX12_fit ∈ lw_all := al_in (i := 1769) (by decide +kernel) (by decide +kernel)
theorem q1770 : Cond.selects RX12 yX12_fit yX12_fit ∈ lw_all := al_in (i := 1770) (by decide +kernel) (by decide +kernel)
theorem q1771 : Cond.code yX12_fit cX12_fit 6 (some .int) ∈ lw_all := al_in (i := 1771) (by decide +kernel) (by decide +kernel)
theorem q1777 : Cond.methodLink RL 282 yX12_missing ∈ lw_all := al_in (i := 1777) (by decide +kernel) (by decide +kernel)
theorem q1778 : Cond.instanceMethod yX12_missing ∈ lw_all := al_in (i := 1778) (by decide +kernel) (by decide +kernel)
theorem q1779 : Cond.selects RX12 yX12_missing yX12_missing ∈ lw_all := al_in (i := 1779) (by decide +kernel) (by decide +kernel)
theorem q1780 : Cond.code yX12_missing cX12_missing 1 (some .long) ∈ lw_all := al_in (i := 1780) (by decide +kernel) (by decide +kernel)
theorem q1781 : Cond.methodLink RL 286 yX12_frozenShare ∈ lw_all := al_in (i := 1781) (by decide +kernel) (by decide +kernel)
theorem q1782 : Cond.instanceMethod yX12_frozenShare ∈ lw_all := al_in (i := 1782) (by decide +kernel) (by decide +kernel)
theorem q1783 : Cond.selects RX12 yX12_frozenShare yX12_frozenShare ∈ lw_all := al_in (i := 1783) (by decide +kernel) (by decide +kernel)
theorem q1784 : Cond.code yX12_frozenShare cX12_frozenShare 7 (some .float) ∈ lw_all := al_in (i := 1784) (by decide +kernel) (by decide +kernel)
theorem q1785 : Cond.methodLink RL 289 yX12_meanWater ∈ lw_all := al_in (i := 1785) (by decide +kernel) (by decide +kernel)
theorem q1786 : Cond.instanceMethod yX12_meanWater ∈ lw_all := al_in (i := 1786) (by decide +kernel) (by decide +kernel)
theorem q1787 : Cond.selects RX12 yX12_meanWater yX12_meanWater ∈ lw_all := al_in (i := 1787) (by decide +kernel) (by decide +kernel)
theorem q1788 : Cond.code yX12_meanWater cX12_meanWater 7 (some .double) ∈ lw_all := al_in (i := 1788) (by decide +kernel) (by decide +kernel)
theorem q1789 : Cond.methodLink RL 293 yX12_checksum ∈ lw_all := al_in (i := 1789) (by decide +kernel) (by decide +kernel)
theorem q1790 : Cond.instanceMethod yX12_checksum ∈ lw_all := al_in (i := 1790) (by decide +kernel) (by decide +kernel)
theorem q1791 : Cond.selects RX12 yX12_checksum yX12_checksum ∈ lw_all := al_in (i := 1791) (by decide +kernel) (by decide +kernel)
theorem q1792 : Cond.code yX12_checksum cX12_checksum 7 (some .long) ∈ lw_all := al_in (i := 1792) (by decide +kernel) (by decide +kernel)
theorem q1795 : Cond.methodLink RL 298 yX12_isTrue ∈ lw_all := al_in (i := 1795) (by decide +kernel) (by decide +kernel)
theorem q1796 : Cond.instanceMethod yX12_isTrue ∈ lw_all := al_in (i := 1796) (by decide +kernel) (by decide +kernel)
theorem q1797 : Cond.selects RX12 yX12_isTrue yX12_isTrue ∈ lw_all := al_in (i := 1797) (by decide +kernel) (by decide +kernel)
theorem q1798 : Cond.code yX12_isTrue cX12_isTrue 1 (some .boolean) ∈ lw_all := al_in (i := 1798) (by decide +kernel) (by decide +kernel)
theorem q1799 : Cond.arrayClass .double ∈ lw_all := al_in (i := 1799) (by decide +kernel) (by decide +kernel)
set_option maxHeartbeats 4000000 in
set_option maxRecDepth 100000 in
/-- THE LAW, behind its one call: the loop ends, the answer is true -/
theorem law_end {p : Program} {l : Launch} {e : Env} {s : State} {m : MethodId} {below : List Frame} {meth : Method} {c : Code} {D : va_G} {b : Nat} {xs : Nat → Int32} (hst : l.stackTraces = false) (hx : p.tables.exec = Jvm.exec) (hb : c.code = code) (hr : meth.sig.returnType = ret) (hml : c.maxLocals = 9) (hown : s.vm.findClass RL = some m.cls) (hts : ∀ w ∈ lw_all, w.before #[Value.ref b] s = true) (hX : va_X b 5 xs s s.heap) (hbl : b < s.heap.size) (hlocks : meth.locks = false) {H : Heap} {locs : List Loc} {cells slots : Nat} (hS : va_S (fun q : Nat => s.heap.size ≤ q) s.heap H locs) (hc : cells ≤ room_1.cells) (hs : slots ≤ room_1.slots) {ls : Array Slot} (hl : lv_has ls 9 [(0, .ref b), (5, .int 0)]) : W p l e room_1 s m #[Value.ref b] below meth c H locs cells slots (lw_Z below #[Value.ref b] s) (F0 m 2850 ls []) := by
  have hA : ∀ q : Nat, s.heap.size ≤ q → (fun q : Nat => s.heap.size ≤ q) q := fun _ h => h
  have hbA : ¬ (fun q : Nat => s.heap.size ≤ q) b := Nat.not_le.mpr hbl
  refine lv_iinc (v := 5) (lv' := [(5, .int 5), (0, .ref b)]) hx hb dL_law__2850 hl (k := 1) rfl (by first | rfl | decide) (by decide) rfl (fun ls hl => ?_)
  refine lv_goto (tgt := 28) hx hb dL_law__2853 (by decide) ?_
  refine lv_iload hx hb dL_law__28 (lv_at hl 0 rfl) ?_
  refine lv_aload_n hx hb dL_law__30 rfl (lv_at hl 1 rfl) ?_
  refine va_slen hx hb hX hbl hbA hS dL_law__31 ?_
  refine lv_iconst (v := 5) hx hb dL_law__32 (by decide) ?_
  refine lv_isub hx hb dL_law__33 ?_
  refine lv_icmp_gt (tgt := 2856) hx hb dL_law__34 (by decide) (fun c_1 => ?_) (fun c_1 => absurd (by decide) c_1)
  refine lv_iconst (v := 1) hx hb dL_law__2856 (by decide) ?_
  refine va_forget (fun q hq => hS.2.2 q hq) ?_
  refine W.widen (k := 731620) (n := 6907171) hc hs ?_
  exact W.base (lw_ret (d0 := s.drawn) (Drawn.sameBut.refl s.drawn lw_cs) hx hb hr hlocks dL_law__2857)
