/-! THE CLAIM OUT OF ONE WALK OF THE LAW'S BODY. Your part is whole_start (and what it stands on); all else here is the same for every law, but numbers. -/
def R_law : String := "NamedWindLaw"
def lw_P (b : Addr) (xs : List Int32) (args : Array Value) (s : State) : Prop := args = #[.ref b] ∧ s.IntsAt b xs ∧ xs.length ≤ 2560 ∧ (Jvm.Cond.and given_1 narrow_1).before args s = true
def lw_Q (_ : Array Value) (s : State) (o : Outcome) (t : State) : Prop := o = .returned (some (.int 1)) ∧ Framed s o t [] 600000 7302250
def lw_Z (below : List Frame) (a : Array Value) (s : State) : State → Prop := fun t => ∃ o, t.status = .running ∧ Ended t below o ∧ lw_Q a s o t
/-- the law's own end, with 1 on the stack, nothing written that was there before, its room as the claim has it -/
theorem lw_ret {p : Program} {l : Launch} {e : Env} {s : State} {m : MethodId} {below : List Frame} {meth : Method} {c : Code} {b : Nat} (hx : p.tables.exec = Jvm.exec) (hb : c.code = code) (hr : meth.sig.returnType = ret) (hlocks : meth.locks = false) {pc : Nat} {H : Heap} {ls : Array Slot} (hdg : decode code pc = .ok (.ireturn, 1)) : W p l e room_1 s m #[Value.ref b] below meth c H [] 600000 7302250 (lw_Z below #[Value.ref b] s) (F0 m pc ls [.int 1]) := by
  intro T hT X
  obtain ⟨fs, hret, hrun, hended, hW, hframe⟩ := X.leave (v := some (.int 1)) (hlocks := hlocks) (fun h => by rw [hr] at h; cases h)
  have hmeth' : T.vm.method? m = some meth := X.method'
  refine ⟨T.setFrames fs, ?_, .returned (some (.int 1)), hrun, hended, rfl, ⟨_, rfl⟩, hW, hframe⟩
  jvm_step X.here [X.here.top, hx, hb, hdg, hmeth', hr, ret, narrow_b1]
  (try refine ⟨rfl, ?_⟩); (try refine ⟨rfl, ?_⟩)
  first | (intro acts; rw [hret _ acts rfl rfl rfl]) | rw [hret _ _ rfl rfl rfl]
  exact Steps.refl _
/-- what holds at the law's entry: the machine, the code, the tables' words (any of lw_tbl by 'hts w (by decide +kernel)'), the script of L ints xs at the cell b, what the Statement gives of the start (any of its parts by flat_of_before) -/
def lw_At (p : Program) (s : State) (m : MethodId) (meth : Method) (c : Code) (b L : Nat) (xs : Nat → Int32) : Prop :=
  p.tables.exec = Jvm.exec ∧ c.code = code ∧ meth.sig.returnType = ret ∧ c.maxLocals = 4 ∧ s.vm.findClass R_law = some m.cls ∧ (∀ w ∈ lw_tbl, w.before #[Value.ref b] s = true) ∧ va_X b L xs s s.heap ∧ b < s.heap.size ∧ meth.locks = false ∧ (Jvm.Cond.and given_1 narrow_1).before #[Value.ref b] s = true
set_option maxRecDepth 100000 in
theorem ml_L_15 : MLv RL 15 yX7_letters cX7_letters 3 (some .int) 1 := ⟨⟨Or.inl (List.mem_of_getElem? (i := 124) rfl), (List.mem_of_getElem? (i := 2) rfl), (List.mem_of_getElem? (i := 127) rfl), by decide, by decide +kernel, by decide⟩, (List.mem_of_getElem? (i := 125) rfl), (List.mem_of_getElem? (i := 126) rfl)⟩
set_option maxRecDepth 100000 in
theorem ml_L_19 : MLv RL 19 yX8_letters cX8_letters 7 (some .int) 1 := ⟨⟨Or.inl (List.mem_of_getElem? (i := 138) rfl), (List.mem_of_getElem? (i := 5) rfl), (List.mem_of_getElem? (i := 141) rfl), by decide, by decide +kernel, by decide⟩, (List.mem_of_getElem? (i := 139) rfl), (List.mem_of_getElem? (i := 140) rfl)⟩
set_option maxRecDepth 100000 in
theorem ml_L_20 : MLv RL 20 yX7_blank cX7_blank 1 (some .int) 0 := ⟨⟨Or.inl (List.mem_of_getElem? (i := 144) rfl), (List.mem_of_getElem? (i := 2) rfl), (List.mem_of_getElem? (i := 147) rfl), by decide, by decide +kernel, by decide⟩, (List.mem_of_getElem? (i := 145) rfl), (List.mem_of_getElem? (i := 146) rfl)⟩
set_option maxRecDepth 100000 in
theorem ml_L_24 : MLv RL 24 yX8_blank cX8_blank 2 (some .int) 0 := ⟨⟨Or.inl (List.mem_of_getElem? (i := 151) rfl), (List.mem_of_getElem? (i := 5) rfl), (List.mem_of_getElem? (i := 154) rfl), by decide, by decide +kernel, by decide⟩, (List.mem_of_getElem? (i := 152) rfl), (List.mem_of_getElem? (i := 153) rfl)⟩
set_option maxRecDepth 100000 in
theorem ml_L_25 : MLv RL 25 yX7_fault cX7_fault 1 (some .int) 0 := ⟨⟨Or.inl (List.mem_of_getElem? (i := 155) rfl), (List.mem_of_getElem? (i := 2) rfl), (List.mem_of_getElem? (i := 158) rfl), by decide, by decide +kernel, by decide⟩, (List.mem_of_getElem? (i := 156) rfl), (List.mem_of_getElem? (i := 157) rfl)⟩
set_option maxRecDepth 100000 in
theorem ml_L_28 : MLv RL 28 yX8_fault cX8_fault 1 (some .int) 0 := ⟨⟨Or.inl (List.mem_of_getElem? (i := 188) rfl), (List.mem_of_getElem? (i := 5) rfl), (List.mem_of_getElem? (i := 191) rfl), by decide, by decide +kernel, by decide⟩, (List.mem_of_getElem? (i := 189) rfl), (List.mem_of_getElem? (i := 190) rfl)⟩
set_option maxRecDepth 100000 in
theorem ml_L_29 : MLv RL 29 yX7_book cX7_book 2 (some .int) 0 := ⟨⟨Or.inl (List.mem_of_getElem? (i := 215) rfl), (List.mem_of_getElem? (i := 2) rfl), (List.mem_of_getElem? (i := 218) rfl), by decide, by decide +kernel, by decide⟩, (List.mem_of_getElem? (i := 216) rfl), (List.mem_of_getElem? (i := 217) rfl)⟩
set_option maxRecDepth 100000 in
theorem ml_L_32 : MLv RL 32 yX8_book cX8_book 2 (some .int) 0 := ⟨⟨Or.inl (List.mem_of_getElem? (i := 232) rfl), (List.mem_of_getElem? (i := 5) rfl), (List.mem_of_getElem? (i := 235) rfl), by decide, by decide +kernel, by decide⟩, (List.mem_of_getElem? (i := 233) rfl), (List.mem_of_getElem? (i := 234) rfl)⟩
set_option maxRecDepth 100000 in
theorem ml_L_33 : MLv RL 33 yX7_tenths cX7_tenths 3 (some .int) 2 := ⟨⟨Or.inl (List.mem_of_getElem? (i := 244) rfl), (List.mem_of_getElem? (i := 2) rfl), (List.mem_of_getElem? (i := 247) rfl), by decide, by decide +kernel, by decide⟩, (List.mem_of_getElem? (i := 245) rfl), (List.mem_of_getElem? (i := 246) rfl)⟩
set_option maxRecDepth 100000 in
theorem ml_L_37 : MLv RL 37 yX8_tenths cX8_tenths 3 (some .int) 2 := ⟨⟨Or.inl (List.mem_of_getElem? (i := 256) rfl), (List.mem_of_getElem? (i := 5) rfl), (List.mem_of_getElem? (i := 259) rfl), by decide, by decide +kernel, by decide⟩, (List.mem_of_getElem? (i := 257) rfl), (List.mem_of_getElem? (i := 258) rfl)⟩
set_option maxRecDepth 100000 in
theorem ml_L_38 : MLv RL 38 yX7_windOf cX7_windOf 2 (some .int) 1 := ⟨⟨Or.inl (List.mem_of_getElem? (i := 260) rfl), (List.mem_of_getElem? (i := 2) rfl), (List.mem_of_getElem? (i := 263) rfl), by decide, by decide +kernel, by decide⟩, (List.mem_of_getElem? (i := 261) rfl), (List.mem_of_getElem? (i := 262) rfl)⟩
set_option maxRecDepth 100000 in
theorem ml_L_42 : MLv RL 42 yX8_windOf cX8_windOf 2 (some .int) 1 := ⟨⟨Or.inl (List.mem_of_getElem? (i := 265) rfl), (List.mem_of_getElem? (i := 5) rfl), (List.mem_of_getElem? (i := 268) rfl), by decide, by decide +kernel, by decide⟩, (List.mem_of_getElem? (i := 266) rfl), (List.mem_of_getElem? (i := 267) rfl)⟩
set_option maxRecDepth 100000 in
theorem ml_L_43 : MLv RL 43 yX7_ship cX7_ship 3 (some .int) 2 := ⟨⟨Or.inl (List.mem_of_getElem? (i := 272) rfl), (List.mem_of_getElem? (i := 2) rfl), (List.mem_of_getElem? (i := 275) rfl), by decide, by decide +kernel, by decide⟩, (List.mem_of_getElem? (i := 273) rfl), (List.mem_of_getElem? (i := 274) rfl)⟩
set_option maxRecDepth 100000 in
theorem ml_L_46 : MLv RL 46 yX8_ship cX8_ship 3 (some .int) 2 := ⟨⟨Or.inl (List.mem_of_getElem? (i := 292) rfl), (List.mem_of_getElem? (i := 5) rfl), (List.mem_of_getElem? (i := 295) rfl), by decide, by decide +kernel, by decide⟩, (List.mem_of_getElem? (i := 293) rfl), (List.mem_of_getElem? (i := 294) rfl)⟩
set_option maxRecDepth 100000 in
theorem ml_L_47 : MLv RL 47 yX7_about cX7_about 3 (some .int) 2 := ⟨⟨Or.inl (List.mem_of_getElem? (i := 299) rfl), (List.mem_of_getElem? (i := 2) rfl), (List.mem_of_getElem? (i := 302) rfl), by decide, by decide +kernel, by decide⟩, (List.mem_of_getElem? (i := 300) rfl), (List.mem_of_getElem? (i := 301) rfl)⟩
set_option maxRecDepth 100000 in
theorem ml_L_50 : MLv RL 50 yX8_about cX8_about 3 (some .int) 2 := ⟨⟨Or.inl (List.mem_of_getElem? (i := 310) rfl), (List.mem_of_getElem? (i := 5) rfl), (List.mem_of_getElem? (i := 313) rfl), by decide, by decide +kernel, by decide⟩, (List.mem_of_getElem? (i := 311) rfl), (List.mem_of_getElem? (i := 312) rfl)⟩
set_option maxRecDepth 100000 in
theorem ml_L_51 : MLv RL 51 yX7_as cX7_as 3 (some .int) 2 := ⟨⟨Or.inl (List.mem_of_getElem? (i := 322) rfl), (List.mem_of_getElem? (i := 2) rfl), (List.mem_of_getElem? (i := 325) rfl), by decide, by decide +kernel, by decide⟩, (List.mem_of_getElem? (i := 323) rfl), (List.mem_of_getElem? (i := 324) rfl)⟩
set_option maxRecDepth 100000 in
theorem ml_L_54 : MLv RL 54 yX8_as cX8_as 4 (some .int) 2 := ⟨⟨Or.inl (List.mem_of_getElem? (i := 329) rfl), (List.mem_of_getElem? (i := 5) rfl), (List.mem_of_getElem? (i := 332) rfl), by decide, by decide +kernel, by decide⟩, (List.mem_of_getElem? (i := 330) rfl), (List.mem_of_getElem? (i := 331) rfl)⟩
set_option maxRecDepth 100000 in
theorem ml_L_55 : MLv RL 55 yX7_call cX7_call 3 (some .int) 2 := ⟨⟨Or.inl (List.mem_of_getElem? (i := 333) rfl), (List.mem_of_getElem? (i := 2) rfl), (List.mem_of_getElem? (i := 336) rfl), by decide, by decide +kernel, by decide⟩, (List.mem_of_getElem? (i := 334) rfl), (List.mem_of_getElem? (i := 335) rfl)⟩
set_option maxRecDepth 100000 in
theorem ml_L_58 : MLv RL 58 yX8_call cX8_call 5 (some .int) 2 := ⟨⟨Or.inl (List.mem_of_getElem? (i := 354) rfl), (List.mem_of_getElem? (i := 5) rfl), (List.mem_of_getElem? (i := 357) rfl), by decide, by decide +kernel, by decide⟩, (List.mem_of_getElem? (i := 355) rfl), (List.mem_of_getElem? (i := 356) rfl)⟩
set_option maxRecDepth 100000 in
theorem ml_L_59 : MLv RL 59 yX7_spent cX7_spent 2 (some .int) 1 := ⟨⟨Or.inl (List.mem_of_getElem? (i := 365) rfl), (List.mem_of_getElem? (i := 2) rfl), (List.mem_of_getElem? (i := 368) rfl), by decide, by decide +kernel, by decide⟩, (List.mem_of_getElem? (i := 366) rfl), (List.mem_of_getElem? (i := 367) rfl)⟩
set_option maxRecDepth 100000 in
theorem ml_L_62 : MLv RL 62 yX8_spent cX8_spent 2 (some .int) 1 := ⟨⟨Or.inl (List.mem_of_getElem? (i := 369) rfl), (List.mem_of_getElem? (i := 5) rfl), (List.mem_of_getElem? (i := 372) rfl), by decide, by decide +kernel, by decide⟩, (List.mem_of_getElem? (i := 370) rfl), (List.mem_of_getElem? (i := 371) rfl)⟩
set_option maxRecDepth 100000 in
theorem ml_L_63 : MLv RL 63 yX7_blow cX7_blow 2 (some .int) 1 := ⟨⟨Or.inl (List.mem_of_getElem? (i := 373) rfl), (List.mem_of_getElem? (i := 2) rfl), (List.mem_of_getElem? (i := 376) rfl), by decide, by decide +kernel, by decide⟩, (List.mem_of_getElem? (i := 374) rfl), (List.mem_of_getElem? (i := 375) rfl)⟩
set_option maxRecDepth 100000 in
theorem ml_L_66 : MLv RL 66 yX8_blow cX8_blow 3 (some .int) 1 := ⟨⟨Or.inl (List.mem_of_getElem? (i := 407) rfl), (List.mem_of_getElem? (i := 5) rfl), (List.mem_of_getElem? (i := 410) rfl), by decide, by decide +kernel, by decide⟩, (List.mem_of_getElem? (i := 408) rfl), (List.mem_of_getElem? (i := 409) rfl)⟩
set_option maxRecDepth 100000 in
theorem ml_L_67 : MLv RL 67 yX7_moon cX7_moon 2 (some .int) 0 := ⟨⟨Or.inl (List.mem_of_getElem? (i := 423) rfl), (List.mem_of_getElem? (i := 2) rfl), (List.mem_of_getElem? (i := 426) rfl), by decide, by decide +kernel, by decide⟩, (List.mem_of_getElem? (i := 424) rfl), (List.mem_of_getElem? (i := 425) rfl)⟩
set_option maxRecDepth 100000 in
theorem ml_L_70 : MLv RL 70 yX8_moon cX8_moon 2 (some .int) 0 := ⟨⟨Or.inl (List.mem_of_getElem? (i := 437) rfl), (List.mem_of_getElem? (i := 5) rfl), (List.mem_of_getElem? (i := 440) rfl), by decide, by decide +kernel, by decide⟩, (List.mem_of_getElem? (i := 438) rfl), (List.mem_of_getElem? (i := 439) rfl)⟩
set_option maxRecDepth 100000 in
theorem ml_L_71 : MLv RL 71 yX7_likely cX7_likely 5 (some .long) 3 := ⟨⟨Or.inl (List.mem_of_getElem? (i := 444) rfl), (List.mem_of_getElem? (i := 2) rfl), (List.mem_of_getElem? (i := 447) rfl), by decide, by decide +kernel, by decide⟩, (List.mem_of_getElem? (i := 445) rfl), (List.mem_of_getElem? (i := 446) rfl)⟩
set_option maxRecDepth 100000 in
theorem ml_L_75 : MLv RL 75 yX8_likely cX8_likely 4 (some .long) 3 := ⟨⟨Or.inl (List.mem_of_getElem? (i := 484) rfl), (List.mem_of_getElem? (i := 5) rfl), (List.mem_of_getElem? (i := 487) rfl), by decide, by decide +kernel, by decide⟩, (List.mem_of_getElem? (i := 485) rfl), (List.mem_of_getElem? (i := 486) rfl)⟩
set_option maxRecDepth 100000 in
theorem ml_L_76 : MLv RL 76 yX7_what cX7_what 5 (some .int) 3 := ⟨⟨Or.inl (List.mem_of_getElem? (i := 524) rfl), (List.mem_of_getElem? (i := 2) rfl), (List.mem_of_getElem? (i := 527) rfl), by decide, by decide +kernel, by decide⟩, (List.mem_of_getElem? (i := 525) rfl), (List.mem_of_getElem? (i := 526) rfl)⟩
set_option maxRecDepth 100000 in
theorem ml_L_80 : MLv RL 80 yX8_what cX8_what 4 (some .int) 3 := ⟨⟨Or.inl (List.mem_of_getElem? (i := 528) rfl), (List.mem_of_getElem? (i := 5) rfl), (List.mem_of_getElem? (i := 531) rfl), by decide, by decide +kernel, by decide⟩, (List.mem_of_getElem? (i := 529) rfl), (List.mem_of_getElem? (i := 530) rfl)⟩
set_option maxRecDepth 100000 in
theorem ml_L_81 : MLv RL 81 yX7_sure cX7_sure 4 (some .int) 1 := ⟨⟨Or.inl (List.mem_of_getElem? (i := 532) rfl), (List.mem_of_getElem? (i := 2) rfl), (List.mem_of_getElem? (i := 535) rfl), by decide, by decide +kernel, by decide⟩, (List.mem_of_getElem? (i := 533) rfl), (List.mem_of_getElem? (i := 534) rfl)⟩
set_option maxRecDepth 100000 in
theorem ml_L_84 : MLv RL 84 yX8_sure cX8_sure 2 (some .int) 1 := ⟨⟨Or.inl (List.mem_of_getElem? (i := 536) rfl), (List.mem_of_getElem? (i := 5) rfl), (List.mem_of_getElem? (i := 539) rfl), by decide, by decide +kernel, by decide⟩, (List.mem_of_getElem? (i := 537) rfl), (List.mem_of_getElem? (i := 538) rfl)⟩
set_option maxRecDepth 100000 in
theorem ml_L_85 : MLv RL 85 yX7_tells cX7_tells 1 (some .int) 0 := ⟨⟨Or.inl (List.mem_of_getElem? (i := 552) rfl), (List.mem_of_getElem? (i := 2) rfl), (List.mem_of_getElem? (i := 555) rfl), by decide, by decide +kernel, by decide⟩, (List.mem_of_getElem? (i := 553) rfl), (List.mem_of_getElem? (i := 554) rfl)⟩
set_option maxRecDepth 100000 in
theorem ml_L_88 : MLv RL 88 yX8_tells cX8_tells 1 (some .int) 0 := ⟨⟨Or.inl (List.mem_of_getElem? (i := 564) rfl), (List.mem_of_getElem? (i := 5) rfl), (List.mem_of_getElem? (i := 567) rfl), by decide, by decide +kernel, by decide⟩, (List.mem_of_getElem? (i := 565) rfl), (List.mem_of_getElem? (i := 566) rfl)⟩
set_option maxRecDepth 100000 in
theorem ml_L_89 : MLv RL 89 yX7_race cX7_race 6 (some .long) 4 := ⟨⟨Or.inl (List.mem_of_getElem? (i := 572) rfl), (List.mem_of_getElem? (i := 2) rfl), (List.mem_of_getElem? (i := 575) rfl), by decide, by decide +kernel, by decide⟩, (List.mem_of_getElem? (i := 573) rfl), (List.mem_of_getElem? (i := 574) rfl)⟩
set_option maxRecDepth 100000 in
theorem ml_L_93 : MLv RL 93 yX8_race cX8_race 5 (some .long) 4 := ⟨⟨Or.inl (List.mem_of_getElem? (i := 583) rfl), (List.mem_of_getElem? (i := 5) rfl), (List.mem_of_getElem? (i := 586) rfl), by decide, by decide +kernel, by decide⟩, (List.mem_of_getElem? (i := 584) rfl), (List.mem_of_getElem? (i := 585) rfl)⟩
set_option maxRecDepth 100000 in
theorem ml_L_94 : MLv RL 94 yX7_guess cX7_guess 2 (some .int) 1 := ⟨⟨Or.inl (List.mem_of_getElem? (i := 591) rfl), (List.mem_of_getElem? (i := 2) rfl), (List.mem_of_getElem? (i := 594) rfl), by decide, by decide +kernel, by decide⟩, (List.mem_of_getElem? (i := 592) rfl), (List.mem_of_getElem? (i := 593) rfl)⟩
set_option maxRecDepth 100000 in
theorem ml_L_97 : MLv RL 97 yX8_guess cX8_guess 2 (some .int) 1 := ⟨⟨Or.inl (List.mem_of_getElem? (i := 595) rfl), (List.mem_of_getElem? (i := 5) rfl), (List.mem_of_getElem? (i := 598) rfl), by decide, by decide +kernel, by decide⟩, (List.mem_of_getElem? (i := 596) rfl), (List.mem_of_getElem? (i := 597) rfl)⟩
set_option maxRecDepth 100000 in
theorem ml_L_98 : MLv RL 98 yX7_wake cX7_wake 4 (some .int) 2 := ⟨⟨Or.inl (List.mem_of_getElem? (i := 603) rfl), (List.mem_of_getElem? (i := 2) rfl), (List.mem_of_getElem? (i := 606) rfl), by decide, by decide +kernel, by decide⟩, (List.mem_of_getElem? (i := 604) rfl), (List.mem_of_getElem? (i := 605) rfl)⟩
set_option maxRecDepth 100000 in
theorem ml_L_101 : MLv RL 101 yX8_wake cX8_wake 4 (some .int) 2 := ⟨⟨Or.inl (List.mem_of_getElem? (i := 611) rfl), (List.mem_of_getElem? (i := 5) rfl), (List.mem_of_getElem? (i := 614) rfl), by decide, by decide +kernel, by decide⟩, (List.mem_of_getElem? (i := 612) rfl), (List.mem_of_getElem? (i := 613) rfl)⟩
set_option maxRecDepth 100000 in
theorem ml_L_102 : MLv RL 102 yX7_then cX7_then 2 (some .int) 1 := ⟨⟨Or.inl (List.mem_of_getElem? (i := 615) rfl), (List.mem_of_getElem? (i := 2) rfl), (List.mem_of_getElem? (i := 618) rfl), by decide, by decide +kernel, by decide⟩, (List.mem_of_getElem? (i := 616) rfl), (List.mem_of_getElem? (i := 617) rfl)⟩
set_option maxRecDepth 100000 in
theorem ml_L_105 : MLv RL 105 yX8_then cX8_then 2 (some .int) 1 := ⟨⟨Or.inl (List.mem_of_getElem? (i := 622) rfl), (List.mem_of_getElem? (i := 5) rfl), (List.mem_of_getElem? (i := 625) rfl), by decide, by decide +kernel, by decide⟩, (List.mem_of_getElem? (i := 623) rfl), (List.mem_of_getElem? (i := 624) rfl)⟩
set_option maxRecDepth 100000 in
theorem ml_L_106 : MLv RL 106 yX7_called cX7_called 1 (some .int) 0 := ⟨⟨Or.inl (List.mem_of_getElem? (i := 626) rfl), (List.mem_of_getElem? (i := 2) rfl), (List.mem_of_getElem? (i := 629) rfl), by decide, by decide +kernel, by decide⟩, (List.mem_of_getElem? (i := 627) rfl), (List.mem_of_getElem? (i := 628) rfl)⟩
set_option maxRecDepth 100000 in
theorem ml_L_109 : MLv RL 109 yX8_called cX8_called 1 (some .int) 0 := ⟨⟨Or.inl (List.mem_of_getElem? (i := 637) rfl), (List.mem_of_getElem? (i := 5) rfl), (List.mem_of_getElem? (i := 640) rfl), by decide, by decide +kernel, by decide⟩, (List.mem_of_getElem? (i := 638) rfl), (List.mem_of_getElem? (i := 639) rfl)⟩
set_option maxRecDepth 100000 in
theorem ml_L_110 : MLv RL 110 yX7_by cX7_by 2 (some .int) 1 := ⟨⟨Or.inl (List.mem_of_getElem? (i := 653) rfl), (List.mem_of_getElem? (i := 2) rfl), (List.mem_of_getElem? (i := 656) rfl), by decide, by decide +kernel, by decide⟩, (List.mem_of_getElem? (i := 654) rfl), (List.mem_of_getElem? (i := 655) rfl)⟩
set_option maxRecDepth 100000 in
theorem ml_L_113 : MLv RL 113 yX8_by cX8_by 5 (some .int) 1 := ⟨⟨Or.inl (List.mem_of_getElem? (i := 661) rfl), (List.mem_of_getElem? (i := 5) rfl), (List.mem_of_getElem? (i := 664) rfl), by decide, by decide +kernel, by decide⟩, (List.mem_of_getElem? (i := 662) rfl), (List.mem_of_getElem? (i := 663) rfl)⟩
set_option maxRecDepth 100000 in
theorem ml_L_114 : MLv RL 114 yX7_years cX7_years 5 (some .int) 3 := ⟨⟨Or.inl (List.mem_of_getElem? (i := 665) rfl), (List.mem_of_getElem? (i := 2) rfl), (List.mem_of_getElem? (i := 668) rfl), by decide, by decide +kernel, by decide⟩, (List.mem_of_getElem? (i := 666) rfl), (List.mem_of_getElem? (i := 667) rfl)⟩
set_option maxRecDepth 100000 in
theorem ml_L_117 : MLv RL 117 yX8_years cX8_years 4 (some .int) 3 := ⟨⟨Or.inl (List.mem_of_getElem? (i := 699) rfl), (List.mem_of_getElem? (i := 5) rfl), (List.mem_of_getElem? (i := 702) rfl), by decide, by decide +kernel, by decide⟩, (List.mem_of_getElem? (i := 700) rfl), (List.mem_of_getElem? (i := 701) rfl)⟩
set_option maxRecDepth 100000 in
theorem ml_L_118 : MLv RL 118 yX7_image cX7_image 1 (some .int) 0 := ⟨⟨Or.inl (List.mem_of_getElem? (i := 724) rfl), (List.mem_of_getElem? (i := 2) rfl), (List.mem_of_getElem? (i := 727) rfl), by decide, by decide +kernel, by decide⟩, (List.mem_of_getElem? (i := 725) rfl), (List.mem_of_getElem? (i := 726) rfl)⟩
set_option maxRecDepth 100000 in
theorem ml_L_121 : MLv RL 121 yX8_image cX8_image 2 (some .int) 0 := ⟨⟨Or.inl (List.mem_of_getElem? (i := 728) rfl), (List.mem_of_getElem? (i := 5) rfl), (List.mem_of_getElem? (i := 731) rfl), by decide, by decide +kernel, by decide⟩, (List.mem_of_getElem? (i := 729) rfl), (List.mem_of_getElem? (i := 730) rfl)⟩
set_option maxRecDepth 100000 in
theorem ml_L_122 : MLv RL 122 yX7_restore cX7_restore 1 (some .int) 0 := ⟨⟨Or.inl (List.mem_of_getElem? (i := 738) rfl), (List.mem_of_getElem? (i := 2) rfl), (List.mem_of_getElem? (i := 741) rfl), by decide, by decide +kernel, by decide⟩, (List.mem_of_getElem? (i := 739) rfl), (List.mem_of_getElem? (i := 740) rfl)⟩
set_option maxRecDepth 100000 in
theorem ml_L_125 : MLv RL 125 yX8_restore cX8_restore 2 (some .int) 0 := ⟨⟨Or.inl (List.mem_of_getElem? (i := 742) rfl), (List.mem_of_getElem? (i := 5) rfl), (List.mem_of_getElem? (i := 745) rfl), by decide, by decide +kernel, by decide⟩, (List.mem_of_getElem? (i := 743) rfl), (List.mem_of_getElem? (i := 744) rfl)⟩
set_option maxRecDepth 100000 in
theorem ml_L_126 : MLv RL 126 yX7_count cX7_count 2 (some .int) 1 := ⟨⟨Or.inl (List.mem_of_getElem? (i := 746) rfl), (List.mem_of_getElem? (i := 2) rfl), (List.mem_of_getElem? (i := 749) rfl), by decide, by decide +kernel, by decide⟩, (List.mem_of_getElem? (i := 747) rfl), (List.mem_of_getElem? (i := 748) rfl)⟩
set_option maxRecDepth 100000 in
theorem ml_L_129 : MLv RL 129 yX8_count cX8_count 2 (some .int) 1 := ⟨⟨Or.inl (List.mem_of_getElem? (i := 750) rfl), (List.mem_of_getElem? (i := 5) rfl), (List.mem_of_getElem? (i := 753) rfl), by decide, by decide +kernel, by decide⟩, (List.mem_of_getElem? (i := 751) rfl), (List.mem_of_getElem? (i := 752) rfl)⟩
set_option maxRecDepth 100000 in
theorem ml_L_130 : MLv RL 130 yX7_digest cX7_digest 4 (some .long) 0 := ⟨⟨Or.inl (List.mem_of_getElem? (i := 758) rfl), (List.mem_of_getElem? (i := 2) rfl), (List.mem_of_getElem? (i := 761) rfl), by decide, by decide +kernel, by decide⟩, (List.mem_of_getElem? (i := 759) rfl), (List.mem_of_getElem? (i := 760) rfl)⟩
set_option maxRecDepth 100000 in
theorem ml_L_134 : MLv RL 134 yX8_digest cX8_digest 3 (some .long) 0 := ⟨⟨Or.inl (List.mem_of_getElem? (i := 781) rfl), (List.mem_of_getElem? (i := 5) rfl), (List.mem_of_getElem? (i := 784) rfl), by decide, by decide +kernel, by decide⟩, (List.mem_of_getElem? (i := 782) rfl), (List.mem_of_getElem? (i := 783) rfl)⟩
theorem dL_law_0 : decode code 0 = .ok (.new 7, 3) := by decide +kernel
theorem dL_law_3 : decode code 3 = .ok (.dup, 1) := by decide +kernel
theorem dL_law_4 : decode code 4 = .ok (.invokespecial 9, 3) := by decide +kernel
theorem dL_law_7 : decode code 7 = .ok (.astore_n 1, 1) := by decide +kernel
theorem dL_law_8 : decode code 8 = .ok (.new 10, 3) := by decide +kernel
theorem dL_law_11 : decode code 11 = .ok (.dup, 1) := by decide +kernel
theorem dL_law_12 : decode code 12 = .ok (.invokespecial 12, 3) := by decide +kernel
theorem dL_law_15 : decode code 15 = .ok (.astore_n 2, 1) := by decide +kernel
theorem dL_law_16 : decode code 16 = .ok (.iconst 0, 1) := by decide +kernel
theorem dL_law_17 : decode code 17 = .ok (.istore_n 3, 1) := by decide +kernel
theorem dL_law_18 : decode code 18 = .ok (.iload_n 3, 1) := by decide +kernel
theorem dL_law_19 : decode code 19 = .ok (.aload_n 0, 1) := by decide +kernel
theorem dL_law_20 : decode code 20 = .ok (.arraylength, 1) := by decide +kernel
theorem dL_law_21 : decode code 21 = .ok (.iconst 5, 1) := by decide +kernel
theorem dL_law_22 : decode code 22 = .ok (.isub, 1) := by decide +kernel
theorem dL_law_23 : decode code 23 = .ok (.if_icmp .gt 880, 3) := by decide +kernel
theorem dL_law_26 : decode code 26 = .ok (.aload_n 0, 1) := by decide +kernel
theorem dL_law_27 : decode code 27 = .ok (.iload_n 3, 1) := by decide +kernel
theorem dL_law_28 : decode code 28 = .ok (.iaload, 1) := by decide +kernel
theorem dL_law_29 : decode code 29 = .ok (.bipush 31, 2) := by decide +kernel
theorem dL_law_31 : decode code 31 = .ok (.iand, 1) := by decide +kernel
theorem dL_law_32 : decode code 32 = .ok (.tableswitch 865 0 27 #[128, 181, 194, 207, 220, 253, 276, 309, 342, 375, 408, 431, 454, 467, 511, 554, 577, 590, 644, 667, 700, 723, 736, 759, 802, 815, 828, 851], 128) := by decide +kernel
theorem dL_law_160 : decode code 160 = .ok (.aload_n 1, 1) := by decide +kernel
theorem dL_law_161 : decode code 161 = .ok (.aload_n 0, 1) := by decide +kernel
theorem dL_law_162 : decode code 162 = .ok (.iload_n 3, 1) := by decide +kernel
theorem dL_law_163 : decode code 163 = .ok (.iconst 1, 1) := by decide +kernel
theorem dL_law_164 : decode code 164 = .ok (.iadd, 1) := by decide +kernel
theorem dL_law_165 : decode code 165 = .ok (.iaload, 1) := by decide +kernel
theorem dL_law_166 : decode code 166 = .ok (.i2l, 1) := by decide +kernel
theorem dL_law_167 : decode code 167 = .ok (.bipush 32, 2) := by decide +kernel
theorem dL_law_169 : decode code 169 = .ok (.lshl, 1) := by decide +kernel
theorem dL_law_170 : decode code 170 = .ok (.aload_n 0, 1) := by decide +kernel
theorem dL_law_171 : decode code 171 = .ok (.iload_n 3, 1) := by decide +kernel
theorem dL_law_172 : decode code 172 = .ok (.iconst 2, 1) := by decide +kernel
theorem dL_law_173 : decode code 173 = .ok (.iadd, 1) := by decide +kernel
theorem dL_law_174 : decode code 174 = .ok (.iaload, 1) := by decide +kernel
theorem dL_law_175 : decode code 175 = .ok (.i2l, 1) := by decide +kernel
theorem dL_law_176 : decode code 176 = .ok (.ldc2_w 13, 3) := by decide +kernel
theorem dL_law_179 : decode code 179 = .ok (.land, 1) := by decide +kernel
theorem dL_law_180 : decode code 180 = .ok (.lor, 1) := by decide +kernel
theorem dL_law_181 : decode code 181 = .ok (.invokevirtual 15, 3) := by decide +kernel
theorem dL_law_184 : decode code 184 = .ok (.aload_n 2, 1) := by decide +kernel
theorem dL_law_185 : decode code 185 = .ok (.aload_n 0, 1) := by decide +kernel
theorem dL_law_186 : decode code 186 = .ok (.iload_n 3, 1) := by decide +kernel
theorem dL_law_187 : decode code 187 = .ok (.iconst 1, 1) := by decide +kernel
theorem dL_law_188 : decode code 188 = .ok (.iadd, 1) := by decide +kernel
theorem dL_law_189 : decode code 189 = .ok (.iaload, 1) := by decide +kernel
theorem dL_law_190 : decode code 190 = .ok (.i2l, 1) := by decide +kernel
theorem dL_law_191 : decode code 191 = .ok (.bipush 32, 2) := by decide +kernel
theorem dL_law_193 : decode code 193 = .ok (.lshl, 1) := by decide +kernel
theorem dL_law_194 : decode code 194 = .ok (.aload_n 0, 1) := by decide +kernel
theorem dL_law_195 : decode code 195 = .ok (.iload_n 3, 1) := by decide +kernel
theorem dL_law_196 : decode code 196 = .ok (.iconst 2, 1) := by decide +kernel
theorem dL_law_197 : decode code 197 = .ok (.iadd, 1) := by decide +kernel
theorem dL_law_198 : decode code 198 = .ok (.iaload, 1) := by decide +kernel
theorem dL_law_199 : decode code 199 = .ok (.i2l, 1) := by decide +kernel
theorem dL_law_200 : decode code 200 = .ok (.ldc2_w 13, 3) := by decide +kernel
theorem dL_law_203 : decode code 203 = .ok (.land, 1) := by decide +kernel
theorem dL_law_204 : decode code 204 = .ok (.lor, 1) := by decide +kernel
theorem dL_law_205 : decode code 205 = .ok (.invokevirtual 19, 3) := by decide +kernel
theorem dL_law_208 : decode code 208 = .ok (.if_icmp .eq 689, 3) := by decide +kernel
theorem dL_law_211 : decode code 211 = .ok (.iconst 0, 1) := by decide +kernel
theorem dL_law_212 : decode code 212 = .ok (.ireturn, 1) := by decide +kernel
theorem dL_law_213 : decode code 213 = .ok (.aload_n 1, 1) := by decide +kernel
theorem dL_law_214 : decode code 214 = .ok (.invokevirtual 20, 3) := by decide +kernel
theorem dL_law_217 : decode code 217 = .ok (.aload_n 2, 1) := by decide +kernel
theorem dL_law_218 : decode code 218 = .ok (.invokevirtual 24, 3) := by decide +kernel
theorem dL_law_221 : decode code 221 = .ok (.if_icmp .eq 676, 3) := by decide +kernel
theorem dL_law_224 : decode code 224 = .ok (.iconst 0, 1) := by decide +kernel
theorem dL_law_225 : decode code 225 = .ok (.ireturn, 1) := by decide +kernel
theorem dL_law_226 : decode code 226 = .ok (.aload_n 1, 1) := by decide +kernel
theorem dL_law_227 : decode code 227 = .ok (.invokevirtual 25, 3) := by decide +kernel
theorem dL_law_230 : decode code 230 = .ok (.aload_n 2, 1) := by decide +kernel
theorem dL_law_231 : decode code 231 = .ok (.invokevirtual 28, 3) := by decide +kernel
theorem dL_law_234 : decode code 234 = .ok (.if_icmp .eq 663, 3) := by decide +kernel
theorem dL_law_237 : decode code 237 = .ok (.iconst 0, 1) := by decide +kernel
theorem dL_law_238 : decode code 238 = .ok (.ireturn, 1) := by decide +kernel
theorem dL_law_239 : decode code 239 = .ok (.aload_n 1, 1) := by decide +kernel
theorem dL_law_240 : decode code 240 = .ok (.invokevirtual 29, 3) := by decide +kernel
theorem dL_law_243 : decode code 243 = .ok (.aload_n 2, 1) := by decide +kernel
theorem dL_law_244 : decode code 244 = .ok (.invokevirtual 32, 3) := by decide +kernel
theorem dL_law_247 : decode code 247 = .ok (.if_icmp .eq 650, 3) := by decide +kernel
theorem dL_law_250 : decode code 250 = .ok (.iconst 0, 1) := by decide +kernel
theorem dL_law_251 : decode code 251 = .ok (.ireturn, 1) := by decide +kernel
theorem dL_law_252 : decode code 252 = .ok (.aload_n 1, 1) := by decide +kernel
theorem dL_law_253 : decode code 253 = .ok (.aload_n 0, 1) := by decide +kernel
theorem dL_law_254 : decode code 254 = .ok (.iload_n 3, 1) := by decide +kernel
theorem dL_law_255 : decode code 255 = .ok (.iconst 1, 1) := by decide +kernel
theorem dL_law_256 : decode code 256 = .ok (.iadd, 1) := by decide +kernel
theorem dL_law_257 : decode code 257 = .ok (.iaload, 1) := by decide +kernel
theorem dL_law_258 : decode code 258 = .ok (.aload_n 0, 1) := by decide +kernel
theorem dL_law_259 : decode code 259 = .ok (.iload_n 3, 1) := by decide +kernel
theorem dL_law_260 : decode code 260 = .ok (.iconst 2, 1) := by decide +kernel
theorem dL_law_261 : decode code 261 = .ok (.iadd, 1) := by decide +kernel
theorem dL_law_262 : decode code 262 = .ok (.iaload, 1) := by decide +kernel
theorem dL_law_263 : decode code 263 = .ok (.invokevirtual 33, 3) := by decide +kernel
theorem dL_law_266 : decode code 266 = .ok (.aload_n 2, 1) := by decide +kernel
theorem dL_law_267 : decode code 267 = .ok (.aload_n 0, 1) := by decide +kernel
theorem dL_law_268 : decode code 268 = .ok (.iload_n 3, 1) := by decide +kernel
theorem dL_law_269 : decode code 269 = .ok (.iconst 1, 1) := by decide +kernel
theorem dL_law_270 : decode code 270 = .ok (.iadd, 1) := by decide +kernel
theorem dL_law_271 : decode code 271 = .ok (.iaload, 1) := by decide +kernel
theorem dL_law_272 : decode code 272 = .ok (.aload_n 0, 1) := by decide +kernel
theorem dL_law_273 : decode code 273 = .ok (.iload_n 3, 1) := by decide +kernel
theorem dL_law_274 : decode code 274 = .ok (.iconst 2, 1) := by decide +kernel
theorem dL_law_275 : decode code 275 = .ok (.iadd, 1) := by decide +kernel
theorem dL_law_276 : decode code 276 = .ok (.iaload, 1) := by decide +kernel
theorem dL_law_277 : decode code 277 = .ok (.invokevirtual 37, 3) := by decide +kernel
theorem dL_law_280 : decode code 280 = .ok (.if_icmp .eq 617, 3) := by decide +kernel
theorem dL_law_283 : decode code 283 = .ok (.iconst 0, 1) := by decide +kernel
theorem dL_law_284 : decode code 284 = .ok (.ireturn, 1) := by decide +kernel
theorem dL_law_285 : decode code 285 = .ok (.aload_n 1, 1) := by decide +kernel
theorem dL_law_286 : decode code 286 = .ok (.aload_n 0, 1) := by decide +kernel
theorem dL_law_287 : decode code 287 = .ok (.iload_n 3, 1) := by decide +kernel
theorem dL_law_288 : decode code 288 = .ok (.iconst 1, 1) := by decide +kernel
theorem dL_law_289 : decode code 289 = .ok (.iadd, 1) := by decide +kernel
theorem dL_law_290 : decode code 290 = .ok (.iaload, 1) := by decide +kernel
theorem dL_law_291 : decode code 291 = .ok (.invokevirtual 38, 3) := by decide +kernel
theorem dL_law_294 : decode code 294 = .ok (.aload_n 2, 1) := by decide +kernel
theorem dL_law_295 : decode code 295 = .ok (.aload_n 0, 1) := by decide +kernel
theorem dL_law_296 : decode code 296 = .ok (.iload_n 3, 1) := by decide +kernel
theorem dL_law_297 : decode code 297 = .ok (.iconst 1, 1) := by decide +kernel
theorem dL_law_298 : decode code 298 = .ok (.iadd, 1) := by decide +kernel
theorem dL_law_299 : decode code 299 = .ok (.iaload, 1) := by decide +kernel
theorem dL_law_300 : decode code 300 = .ok (.invokevirtual 42, 3) := by decide +kernel
theorem dL_law_303 : decode code 303 = .ok (.if_icmp .eq 594, 3) := by decide +kernel
theorem dL_law_306 : decode code 306 = .ok (.iconst 0, 1) := by decide +kernel
theorem dL_law_307 : decode code 307 = .ok (.ireturn, 1) := by decide +kernel
theorem dL_law_308 : decode code 308 = .ok (.aload_n 1, 1) := by decide +kernel
theorem dL_law_309 : decode code 309 = .ok (.aload_n 0, 1) := by decide +kernel
theorem dL_law_310 : decode code 310 = .ok (.iload_n 3, 1) := by decide +kernel
theorem dL_law_311 : decode code 311 = .ok (.iconst 1, 1) := by decide +kernel
theorem dL_law_312 : decode code 312 = .ok (.iadd, 1) := by decide +kernel
theorem dL_law_313 : decode code 313 = .ok (.iaload, 1) := by decide +kernel
theorem dL_law_314 : decode code 314 = .ok (.aload_n 0, 1) := by decide +kernel
theorem dL_law_315 : decode code 315 = .ok (.iload_n 3, 1) := by decide +kernel
theorem dL_law_316 : decode code 316 = .ok (.iconst 2, 1) := by decide +kernel
theorem dL_law_317 : decode code 317 = .ok (.iadd, 1) := by decide +kernel
theorem dL_law_318 : decode code 318 = .ok (.iaload, 1) := by decide +kernel
theorem dL_law_319 : decode code 319 = .ok (.invokevirtual 43, 3) := by decide +kernel
theorem dL_law_322 : decode code 322 = .ok (.aload_n 2, 1) := by decide +kernel
theorem dL_law_323 : decode code 323 = .ok (.aload_n 0, 1) := by decide +kernel
theorem dL_law_324 : decode code 324 = .ok (.iload_n 3, 1) := by decide +kernel
theorem dL_law_325 : decode code 325 = .ok (.iconst 1, 1) := by decide +kernel
theorem dL_law_326 : decode code 326 = .ok (.iadd, 1) := by decide +kernel
theorem dL_law_327 : decode code 327 = .ok (.iaload, 1) := by decide +kernel
theorem dL_law_328 : decode code 328 = .ok (.aload_n 0, 1) := by decide +kernel
theorem dL_law_329 : decode code 329 = .ok (.iload_n 3, 1) := by decide +kernel
theorem dL_law_330 : decode code 330 = .ok (.iconst 2, 1) := by decide +kernel
theorem dL_law_331 : decode code 331 = .ok (.iadd, 1) := by decide +kernel
theorem dL_law_332 : decode code 332 = .ok (.iaload, 1) := by decide +kernel
theorem dL_law_333 : decode code 333 = .ok (.invokevirtual 46, 3) := by decide +kernel
theorem dL_law_336 : decode code 336 = .ok (.if_icmp .eq 561, 3) := by decide +kernel
theorem dL_law_339 : decode code 339 = .ok (.iconst 0, 1) := by decide +kernel
theorem dL_law_340 : decode code 340 = .ok (.ireturn, 1) := by decide +kernel
theorem dL_law_341 : decode code 341 = .ok (.aload_n 1, 1) := by decide +kernel
theorem dL_law_342 : decode code 342 = .ok (.aload_n 0, 1) := by decide +kernel
theorem dL_law_343 : decode code 343 = .ok (.iload_n 3, 1) := by decide +kernel
theorem dL_law_344 : decode code 344 = .ok (.iconst 1, 1) := by decide +kernel
theorem dL_law_345 : decode code 345 = .ok (.iadd, 1) := by decide +kernel
theorem dL_law_346 : decode code 346 = .ok (.iaload, 1) := by decide +kernel
theorem dL_law_347 : decode code 347 = .ok (.aload_n 0, 1) := by decide +kernel
theorem dL_law_348 : decode code 348 = .ok (.iload_n 3, 1) := by decide +kernel
theorem dL_law_349 : decode code 349 = .ok (.iconst 2, 1) := by decide +kernel
theorem dL_law_350 : decode code 350 = .ok (.iadd, 1) := by decide +kernel
theorem dL_law_351 : decode code 351 = .ok (.iaload, 1) := by decide +kernel
theorem dL_law_352 : decode code 352 = .ok (.invokevirtual 47, 3) := by decide +kernel
theorem dL_law_355 : decode code 355 = .ok (.aload_n 2, 1) := by decide +kernel
theorem dL_law_356 : decode code 356 = .ok (.aload_n 0, 1) := by decide +kernel
theorem dL_law_357 : decode code 357 = .ok (.iload_n 3, 1) := by decide +kernel
theorem dL_law_358 : decode code 358 = .ok (.iconst 1, 1) := by decide +kernel
theorem dL_law_359 : decode code 359 = .ok (.iadd, 1) := by decide +kernel
theorem dL_law_360 : decode code 360 = .ok (.iaload, 1) := by decide +kernel
theorem dL_law_361 : decode code 361 = .ok (.aload_n 0, 1) := by decide +kernel
theorem dL_law_362 : decode code 362 = .ok (.iload_n 3, 1) := by decide +kernel
theorem dL_law_363 : decode code 363 = .ok (.iconst 2, 1) := by decide +kernel
theorem dL_law_364 : decode code 364 = .ok (.iadd, 1) := by decide +kernel
theorem dL_law_365 : decode code 365 = .ok (.iaload, 1) := by decide +kernel
theorem dL_law_366 : decode code 366 = .ok (.invokevirtual 50, 3) := by decide +kernel
theorem dL_law_369 : decode code 369 = .ok (.if_icmp .eq 528, 3) := by decide +kernel
theorem dL_law_372 : decode code 372 = .ok (.iconst 0, 1) := by decide +kernel
theorem dL_law_373 : decode code 373 = .ok (.ireturn, 1) := by decide +kernel
theorem dL_law_374 : decode code 374 = .ok (.aload_n 1, 1) := by decide +kernel
theorem dL_law_375 : decode code 375 = .ok (.aload_n 0, 1) := by decide +kernel
theorem dL_law_376 : decode code 376 = .ok (.iload_n 3, 1) := by decide +kernel
theorem dL_law_377 : decode code 377 = .ok (.iconst 1, 1) := by decide +kernel
theorem dL_law_378 : decode code 378 = .ok (.iadd, 1) := by decide +kernel
theorem dL_law_379 : decode code 379 = .ok (.iaload, 1) := by decide +kernel
theorem dL_law_380 : decode code 380 = .ok (.aload_n 0, 1) := by decide +kernel
theorem dL_law_381 : decode code 381 = .ok (.iload_n 3, 1) := by decide +kernel
theorem dL_law_382 : decode code 382 = .ok (.iconst 2, 1) := by decide +kernel
theorem dL_law_383 : decode code 383 = .ok (.iadd, 1) := by decide +kernel
theorem dL_law_384 : decode code 384 = .ok (.iaload, 1) := by decide +kernel
theorem dL_law_385 : decode code 385 = .ok (.invokevirtual 51, 3) := by decide +kernel
theorem dL_law_388 : decode code 388 = .ok (.aload_n 2, 1) := by decide +kernel
theorem dL_law_389 : decode code 389 = .ok (.aload_n 0, 1) := by decide +kernel
theorem dL_law_390 : decode code 390 = .ok (.iload_n 3, 1) := by decide +kernel
theorem dL_law_391 : decode code 391 = .ok (.iconst 1, 1) := by decide +kernel
theorem dL_law_392 : decode code 392 = .ok (.iadd, 1) := by decide +kernel
theorem dL_law_393 : decode code 393 = .ok (.iaload, 1) := by decide +kernel
theorem dL_law_394 : decode code 394 = .ok (.aload_n 0, 1) := by decide +kernel
theorem dL_law_395 : decode code 395 = .ok (.iload_n 3, 1) := by decide +kernel
theorem dL_law_396 : decode code 396 = .ok (.iconst 2, 1) := by decide +kernel
theorem dL_law_397 : decode code 397 = .ok (.iadd, 1) := by decide +kernel
theorem dL_law_398 : decode code 398 = .ok (.iaload, 1) := by decide +kernel
theorem dL_law_399 : decode code 399 = .ok (.invokevirtual 54, 3) := by decide +kernel
theorem dL_law_402 : decode code 402 = .ok (.if_icmp .eq 495, 3) := by decide +kernel
theorem dL_law_405 : decode code 405 = .ok (.iconst 0, 1) := by decide +kernel
theorem dL_law_406 : decode code 406 = .ok (.ireturn, 1) := by decide +kernel
theorem dL_law_407 : decode code 407 = .ok (.aload_n 1, 1) := by decide +kernel
theorem dL_law_408 : decode code 408 = .ok (.aload_n 0, 1) := by decide +kernel
theorem dL_law_409 : decode code 409 = .ok (.iload_n 3, 1) := by decide +kernel
theorem dL_law_410 : decode code 410 = .ok (.iconst 1, 1) := by decide +kernel
theorem dL_law_411 : decode code 411 = .ok (.iadd, 1) := by decide +kernel
theorem dL_law_412 : decode code 412 = .ok (.iaload, 1) := by decide +kernel
theorem dL_law_413 : decode code 413 = .ok (.aload_n 0, 1) := by decide +kernel
theorem dL_law_414 : decode code 414 = .ok (.iload_n 3, 1) := by decide +kernel
theorem dL_law_415 : decode code 415 = .ok (.iconst 2, 1) := by decide +kernel
theorem dL_law_416 : decode code 416 = .ok (.iadd, 1) := by decide +kernel
theorem dL_law_417 : decode code 417 = .ok (.iaload, 1) := by decide +kernel
theorem dL_law_418 : decode code 418 = .ok (.invokevirtual 55, 3) := by decide +kernel
theorem dL_law_421 : decode code 421 = .ok (.aload_n 2, 1) := by decide +kernel
theorem dL_law_422 : decode code 422 = .ok (.aload_n 0, 1) := by decide +kernel
theorem dL_law_423 : decode code 423 = .ok (.iload_n 3, 1) := by decide +kernel
theorem dL_law_424 : decode code 424 = .ok (.iconst 1, 1) := by decide +kernel
theorem dL_law_425 : decode code 425 = .ok (.iadd, 1) := by decide +kernel
theorem dL_law_426 : decode code 426 = .ok (.iaload, 1) := by decide +kernel
theorem dL_law_427 : decode code 427 = .ok (.aload_n 0, 1) := by decide +kernel
theorem dL_law_428 : decode code 428 = .ok (.iload_n 3, 1) := by decide +kernel
theorem dL_law_429 : decode code 429 = .ok (.iconst 2, 1) := by decide +kernel
theorem dL_law_430 : decode code 430 = .ok (.iadd, 1) := by decide +kernel
theorem dL_law_431 : decode code 431 = .ok (.iaload, 1) := by decide +kernel
theorem dL_law_432 : decode code 432 = .ok (.invokevirtual 58, 3) := by decide +kernel
theorem dL_law_435 : decode code 435 = .ok (.if_icmp .eq 462, 3) := by decide +kernel
theorem dL_law_438 : decode code 438 = .ok (.iconst 0, 1) := by decide +kernel
theorem dL_law_439 : decode code 439 = .ok (.ireturn, 1) := by decide +kernel
theorem dL_law_440 : decode code 440 = .ok (.aload_n 1, 1) := by decide +kernel
theorem dL_law_441 : decode code 441 = .ok (.aload_n 0, 1) := by decide +kernel
theorem dL_law_442 : decode code 442 = .ok (.iload_n 3, 1) := by decide +kernel
theorem dL_law_443 : decode code 443 = .ok (.iconst 1, 1) := by decide +kernel
theorem dL_law_444 : decode code 444 = .ok (.iadd, 1) := by decide +kernel
theorem dL_law_445 : decode code 445 = .ok (.iaload, 1) := by decide +kernel
theorem dL_law_446 : decode code 446 = .ok (.invokevirtual 59, 3) := by decide +kernel
theorem dL_law_449 : decode code 449 = .ok (.aload_n 2, 1) := by decide +kernel
theorem dL_law_450 : decode code 450 = .ok (.aload_n 0, 1) := by decide +kernel
theorem dL_law_451 : decode code 451 = .ok (.iload_n 3, 1) := by decide +kernel
theorem dL_law_452 : decode code 452 = .ok (.iconst 1, 1) := by decide +kernel
theorem dL_law_453 : decode code 453 = .ok (.iadd, 1) := by decide +kernel
theorem dL_law_454 : decode code 454 = .ok (.iaload, 1) := by decide +kernel
theorem dL_law_455 : decode code 455 = .ok (.invokevirtual 62, 3) := by decide +kernel
theorem dL_law_458 : decode code 458 = .ok (.if_icmp .eq 439, 3) := by decide +kernel
theorem dL_law_461 : decode code 461 = .ok (.iconst 0, 1) := by decide +kernel
theorem dL_law_462 : decode code 462 = .ok (.ireturn, 1) := by decide +kernel
theorem dL_law_463 : decode code 463 = .ok (.aload_n 1, 1) := by decide +kernel
theorem dL_law_464 : decode code 464 = .ok (.aload_n 0, 1) := by decide +kernel
theorem dL_law_465 : decode code 465 = .ok (.iload_n 3, 1) := by decide +kernel
theorem dL_law_466 : decode code 466 = .ok (.iconst 1, 1) := by decide +kernel
theorem dL_law_467 : decode code 467 = .ok (.iadd, 1) := by decide +kernel
theorem dL_law_468 : decode code 468 = .ok (.iaload, 1) := by decide +kernel
theorem dL_law_469 : decode code 469 = .ok (.invokevirtual 63, 3) := by decide +kernel
theorem dL_law_472 : decode code 472 = .ok (.aload_n 2, 1) := by decide +kernel
theorem dL_law_473 : decode code 473 = .ok (.aload_n 0, 1) := by decide +kernel
theorem dL_law_474 : decode code 474 = .ok (.iload_n 3, 1) := by decide +kernel
theorem dL_law_475 : decode code 475 = .ok (.iconst 1, 1) := by decide +kernel
theorem dL_law_476 : decode code 476 = .ok (.iadd, 1) := by decide +kernel
theorem dL_law_477 : decode code 477 = .ok (.iaload, 1) := by decide +kernel
theorem dL_law_478 : decode code 478 = .ok (.invokevirtual 66, 3) := by decide +kernel
theorem dL_law_481 : decode code 481 = .ok (.if_icmp .eq 416, 3) := by decide +kernel
theorem dL_law_484 : decode code 484 = .ok (.iconst 0, 1) := by decide +kernel
theorem dL_law_485 : decode code 485 = .ok (.ireturn, 1) := by decide +kernel
theorem dL_law_486 : decode code 486 = .ok (.aload_n 1, 1) := by decide +kernel
theorem dL_law_487 : decode code 487 = .ok (.invokevirtual 67, 3) := by decide +kernel
theorem dL_law_490 : decode code 490 = .ok (.aload_n 2, 1) := by decide +kernel
theorem dL_law_491 : decode code 491 = .ok (.invokevirtual 70, 3) := by decide +kernel
theorem dL_law_494 : decode code 494 = .ok (.if_icmp .eq 403, 3) := by decide +kernel
theorem dL_law_497 : decode code 497 = .ok (.iconst 0, 1) := by decide +kernel
theorem dL_law_498 : decode code 498 = .ok (.ireturn, 1) := by decide +kernel
theorem dL_law_499 : decode code 499 = .ok (.aload_n 1, 1) := by decide +kernel
theorem dL_law_500 : decode code 500 = .ok (.aload_n 0, 1) := by decide +kernel
theorem dL_law_501 : decode code 501 = .ok (.iload_n 3, 1) := by decide +kernel
theorem dL_law_502 : decode code 502 = .ok (.iconst 1, 1) := by decide +kernel
theorem dL_law_503 : decode code 503 = .ok (.iadd, 1) := by decide +kernel
theorem dL_law_504 : decode code 504 = .ok (.iaload, 1) := by decide +kernel
theorem dL_law_505 : decode code 505 = .ok (.aload_n 0, 1) := by decide +kernel
theorem dL_law_506 : decode code 506 = .ok (.iload_n 3, 1) := by decide +kernel
theorem dL_law_507 : decode code 507 = .ok (.iconst 2, 1) := by decide +kernel
theorem dL_law_508 : decode code 508 = .ok (.iadd, 1) := by decide +kernel
theorem dL_law_509 : decode code 509 = .ok (.iaload, 1) := by decide +kernel
theorem dL_law_510 : decode code 510 = .ok (.aload_n 0, 1) := by decide +kernel
theorem dL_law_511 : decode code 511 = .ok (.iload_n 3, 1) := by decide +kernel
theorem dL_law_512 : decode code 512 = .ok (.iconst 3, 1) := by decide +kernel
theorem dL_law_513 : decode code 513 = .ok (.iadd, 1) := by decide +kernel
theorem dL_law_514 : decode code 514 = .ok (.iaload, 1) := by decide +kernel
theorem dL_law_515 : decode code 515 = .ok (.invokevirtual 71, 3) := by decide +kernel
theorem dL_law_518 : decode code 518 = .ok (.aload_n 2, 1) := by decide +kernel
theorem dL_law_519 : decode code 519 = .ok (.aload_n 0, 1) := by decide +kernel
theorem dL_law_520 : decode code 520 = .ok (.iload_n 3, 1) := by decide +kernel
theorem dL_law_521 : decode code 521 = .ok (.iconst 1, 1) := by decide +kernel
theorem dL_law_522 : decode code 522 = .ok (.iadd, 1) := by decide +kernel
theorem dL_law_523 : decode code 523 = .ok (.iaload, 1) := by decide +kernel
theorem dL_law_524 : decode code 524 = .ok (.aload_n 0, 1) := by decide +kernel
theorem dL_law_525 : decode code 525 = .ok (.iload_n 3, 1) := by decide +kernel
theorem dL_law_526 : decode code 526 = .ok (.iconst 2, 1) := by decide +kernel
theorem dL_law_527 : decode code 527 = .ok (.iadd, 1) := by decide +kernel
theorem dL_law_528 : decode code 528 = .ok (.iaload, 1) := by decide +kernel
theorem dL_law_529 : decode code 529 = .ok (.aload_n 0, 1) := by decide +kernel
theorem dL_law_530 : decode code 530 = .ok (.iload_n 3, 1) := by decide +kernel
theorem dL_law_531 : decode code 531 = .ok (.iconst 3, 1) := by decide +kernel
theorem dL_law_532 : decode code 532 = .ok (.iadd, 1) := by decide +kernel
theorem dL_law_533 : decode code 533 = .ok (.iaload, 1) := by decide +kernel
theorem dL_law_534 : decode code 534 = .ok (.invokevirtual 75, 3) := by decide +kernel
theorem dL_law_537 : decode code 537 = .ok (.lcmp, 1) := by decide +kernel
theorem dL_law_538 : decode code 538 = .ok (.ifCond .eq 359, 3) := by decide +kernel
theorem dL_law_541 : decode code 541 = .ok (.iconst 0, 1) := by decide +kernel
theorem dL_law_542 : decode code 542 = .ok (.ireturn, 1) := by decide +kernel
theorem dL_law_543 : decode code 543 = .ok (.aload_n 1, 1) := by decide +kernel
theorem dL_law_544 : decode code 544 = .ok (.aload_n 0, 1) := by decide +kernel
theorem dL_law_545 : decode code 545 = .ok (.iload_n 3, 1) := by decide +kernel
theorem dL_law_546 : decode code 546 = .ok (.iconst 1, 1) := by decide +kernel
theorem dL_law_547 : decode code 547 = .ok (.iadd, 1) := by decide +kernel
theorem dL_law_548 : decode code 548 = .ok (.iaload, 1) := by decide +kernel
theorem dL_law_549 : decode code 549 = .ok (.aload_n 0, 1) := by decide +kernel
theorem dL_law_550 : decode code 550 = .ok (.iload_n 3, 1) := by decide +kernel
theorem dL_law_551 : decode code 551 = .ok (.iconst 2, 1) := by decide +kernel
theorem dL_law_552 : decode code 552 = .ok (.iadd, 1) := by decide +kernel
theorem dL_law_553 : decode code 553 = .ok (.iaload, 1) := by decide +kernel
theorem dL_law_554 : decode code 554 = .ok (.aload_n 0, 1) := by decide +kernel
theorem dL_law_555 : decode code 555 = .ok (.iload_n 3, 1) := by decide +kernel
theorem dL_law_556 : decode code 556 = .ok (.iconst 3, 1) := by decide +kernel
theorem dL_law_557 : decode code 557 = .ok (.iadd, 1) := by decide +kernel
theorem dL_law_558 : decode code 558 = .ok (.iaload, 1) := by decide +kernel
theorem dL_law_559 : decode code 559 = .ok (.invokevirtual 76, 3) := by decide +kernel
theorem dL_law_562 : decode code 562 = .ok (.aload_n 2, 1) := by decide +kernel
theorem dL_law_563 : decode code 563 = .ok (.aload_n 0, 1) := by decide +kernel
theorem dL_law_564 : decode code 564 = .ok (.iload_n 3, 1) := by decide +kernel
theorem dL_law_565 : decode code 565 = .ok (.iconst 1, 1) := by decide +kernel
theorem dL_law_566 : decode code 566 = .ok (.iadd, 1) := by decide +kernel
theorem dL_law_567 : decode code 567 = .ok (.iaload, 1) := by decide +kernel
theorem dL_law_568 : decode code 568 = .ok (.aload_n 0, 1) := by decide +kernel
theorem dL_law_569 : decode code 569 = .ok (.iload_n 3, 1) := by decide +kernel
theorem dL_law_570 : decode code 570 = .ok (.iconst 2, 1) := by decide +kernel
theorem dL_law_571 : decode code 571 = .ok (.iadd, 1) := by decide +kernel
theorem dL_law_572 : decode code 572 = .ok (.iaload, 1) := by decide +kernel
theorem dL_law_573 : decode code 573 = .ok (.aload_n 0, 1) := by decide +kernel
theorem dL_law_574 : decode code 574 = .ok (.iload_n 3, 1) := by decide +kernel
theorem dL_law_575 : decode code 575 = .ok (.iconst 3, 1) := by decide +kernel
theorem dL_law_576 : decode code 576 = .ok (.iadd, 1) := by decide +kernel
theorem dL_law_577 : decode code 577 = .ok (.iaload, 1) := by decide +kernel
theorem dL_law_578 : decode code 578 = .ok (.invokevirtual 80, 3) := by decide +kernel
theorem dL_law_581 : decode code 581 = .ok (.if_icmp .eq 316, 3) := by decide +kernel
theorem dL_law_584 : decode code 584 = .ok (.iconst 0, 1) := by decide +kernel
theorem dL_law_585 : decode code 585 = .ok (.ireturn, 1) := by decide +kernel
theorem dL_law_586 : decode code 586 = .ok (.aload_n 1, 1) := by decide +kernel
theorem dL_law_587 : decode code 587 = .ok (.aload_n 0, 1) := by decide +kernel
theorem dL_law_588 : decode code 588 = .ok (.iload_n 3, 1) := by decide +kernel
theorem dL_law_589 : decode code 589 = .ok (.iconst 1, 1) := by decide +kernel
theorem dL_law_590 : decode code 590 = .ok (.iadd, 1) := by decide +kernel
theorem dL_law_591 : decode code 591 = .ok (.iaload, 1) := by decide +kernel
theorem dL_law_592 : decode code 592 = .ok (.invokevirtual 81, 3) := by decide +kernel
theorem dL_law_595 : decode code 595 = .ok (.aload_n 2, 1) := by decide +kernel
theorem dL_law_596 : decode code 596 = .ok (.aload_n 0, 1) := by decide +kernel
theorem dL_law_597 : decode code 597 = .ok (.iload_n 3, 1) := by decide +kernel
theorem dL_law_598 : decode code 598 = .ok (.iconst 1, 1) := by decide +kernel
theorem dL_law_599 : decode code 599 = .ok (.iadd, 1) := by decide +kernel
theorem dL_law_600 : decode code 600 = .ok (.iaload, 1) := by decide +kernel
theorem dL_law_601 : decode code 601 = .ok (.invokevirtual 84, 3) := by decide +kernel
theorem dL_law_604 : decode code 604 = .ok (.if_icmp .eq 293, 3) := by decide +kernel
theorem dL_law_607 : decode code 607 = .ok (.iconst 0, 1) := by decide +kernel
theorem dL_law_608 : decode code 608 = .ok (.ireturn, 1) := by decide +kernel
theorem dL_law_609 : decode code 609 = .ok (.aload_n 1, 1) := by decide +kernel
theorem dL_law_610 : decode code 610 = .ok (.invokevirtual 85, 3) := by decide +kernel
theorem dL_law_613 : decode code 613 = .ok (.aload_n 2, 1) := by decide +kernel
theorem dL_law_614 : decode code 614 = .ok (.invokevirtual 88, 3) := by decide +kernel
theorem dL_law_617 : decode code 617 = .ok (.if_icmp .eq 280, 3) := by decide +kernel
theorem dL_law_620 : decode code 620 = .ok (.iconst 0, 1) := by decide +kernel
theorem dL_law_621 : decode code 621 = .ok (.ireturn, 1) := by decide +kernel
theorem dL_law_622 : decode code 622 = .ok (.aload_n 1, 1) := by decide +kernel
theorem dL_law_623 : decode code 623 = .ok (.aload_n 0, 1) := by decide +kernel
theorem dL_law_624 : decode code 624 = .ok (.iload_n 3, 1) := by decide +kernel
theorem dL_law_625 : decode code 625 = .ok (.iconst 1, 1) := by decide +kernel
theorem dL_law_626 : decode code 626 = .ok (.iadd, 1) := by decide +kernel
theorem dL_law_627 : decode code 627 = .ok (.iaload, 1) := by decide +kernel
theorem dL_law_628 : decode code 628 = .ok (.aload_n 0, 1) := by decide +kernel
theorem dL_law_629 : decode code 629 = .ok (.iload_n 3, 1) := by decide +kernel
theorem dL_law_630 : decode code 630 = .ok (.iconst 2, 1) := by decide +kernel
theorem dL_law_631 : decode code 631 = .ok (.iadd, 1) := by decide +kernel
theorem dL_law_632 : decode code 632 = .ok (.iaload, 1) := by decide +kernel
theorem dL_law_633 : decode code 633 = .ok (.aload_n 0, 1) := by decide +kernel
theorem dL_law_634 : decode code 634 = .ok (.iload_n 3, 1) := by decide +kernel
theorem dL_law_635 : decode code 635 = .ok (.iconst 3, 1) := by decide +kernel
theorem dL_law_636 : decode code 636 = .ok (.iadd, 1) := by decide +kernel
theorem dL_law_637 : decode code 637 = .ok (.iaload, 1) := by decide +kernel
theorem dL_law_638 : decode code 638 = .ok (.aload_n 0, 1) := by decide +kernel
theorem dL_law_639 : decode code 639 = .ok (.iload_n 3, 1) := by decide +kernel
theorem dL_law_640 : decode code 640 = .ok (.iconst 4, 1) := by decide +kernel
theorem dL_law_641 : decode code 641 = .ok (.iadd, 1) := by decide +kernel
theorem dL_law_642 : decode code 642 = .ok (.iaload, 1) := by decide +kernel
theorem dL_law_643 : decode code 643 = .ok (.invokevirtual 89, 3) := by decide +kernel
theorem dL_law_646 : decode code 646 = .ok (.aload_n 2, 1) := by decide +kernel
theorem dL_law_647 : decode code 647 = .ok (.aload_n 0, 1) := by decide +kernel
theorem dL_law_648 : decode code 648 = .ok (.iload_n 3, 1) := by decide +kernel
theorem dL_law_649 : decode code 649 = .ok (.iconst 1, 1) := by decide +kernel
theorem dL_law_650 : decode code 650 = .ok (.iadd, 1) := by decide +kernel
theorem dL_law_651 : decode code 651 = .ok (.iaload, 1) := by decide +kernel
theorem dL_law_652 : decode code 652 = .ok (.aload_n 0, 1) := by decide +kernel
theorem dL_law_653 : decode code 653 = .ok (.iload_n 3, 1) := by decide +kernel
theorem dL_law_654 : decode code 654 = .ok (.iconst 2, 1) := by decide +kernel
theorem dL_law_655 : decode code 655 = .ok (.iadd, 1) := by decide +kernel
theorem dL_law_656 : decode code 656 = .ok (.iaload, 1) := by decide +kernel
theorem dL_law_657 : decode code 657 = .ok (.aload_n 0, 1) := by decide +kernel
theorem dL_law_658 : decode code 658 = .ok (.iload_n 3, 1) := by decide +kernel
theorem dL_law_659 : decode code 659 = .ok (.iconst 3, 1) := by decide +kernel
theorem dL_law_660 : decode code 660 = .ok (.iadd, 1) := by decide +kernel
theorem dL_law_661 : decode code 661 = .ok (.iaload, 1) := by decide +kernel
theorem dL_law_662 : decode code 662 = .ok (.aload_n 0, 1) := by decide +kernel
theorem dL_law_663 : decode code 663 = .ok (.iload_n 3, 1) := by decide +kernel
theorem dL_law_664 : decode code 664 = .ok (.iconst 4, 1) := by decide +kernel
theorem dL_law_665 : decode code 665 = .ok (.iadd, 1) := by decide +kernel
theorem dL_law_666 : decode code 666 = .ok (.iaload, 1) := by decide +kernel
theorem dL_law_667 : decode code 667 = .ok (.invokevirtual 93, 3) := by decide +kernel
theorem dL_law_670 : decode code 670 = .ok (.lcmp, 1) := by decide +kernel
theorem dL_law_671 : decode code 671 = .ok (.ifCond .eq 226, 3) := by decide +kernel
theorem dL_law_674 : decode code 674 = .ok (.iconst 0, 1) := by decide +kernel
theorem dL_law_675 : decode code 675 = .ok (.ireturn, 1) := by decide +kernel
theorem dL_law_676 : decode code 676 = .ok (.aload_n 1, 1) := by decide +kernel
theorem dL_law_677 : decode code 677 = .ok (.aload_n 0, 1) := by decide +kernel
theorem dL_law_678 : decode code 678 = .ok (.iload_n 3, 1) := by decide +kernel
theorem dL_law_679 : decode code 679 = .ok (.iconst 1, 1) := by decide +kernel
theorem dL_law_680 : decode code 680 = .ok (.iadd, 1) := by decide +kernel
theorem dL_law_681 : decode code 681 = .ok (.iaload, 1) := by decide +kernel
theorem dL_law_682 : decode code 682 = .ok (.invokevirtual 94, 3) := by decide +kernel
theorem dL_law_685 : decode code 685 = .ok (.aload_n 2, 1) := by decide +kernel
theorem dL_law_686 : decode code 686 = .ok (.aload_n 0, 1) := by decide +kernel
theorem dL_law_687 : decode code 687 = .ok (.iload_n 3, 1) := by decide +kernel
theorem dL_law_688 : decode code 688 = .ok (.iconst 1, 1) := by decide +kernel
theorem dL_law_689 : decode code 689 = .ok (.iadd, 1) := by decide +kernel
theorem dL_law_690 : decode code 690 = .ok (.iaload, 1) := by decide +kernel
theorem dL_law_691 : decode code 691 = .ok (.invokevirtual 97, 3) := by decide +kernel
theorem dL_law_694 : decode code 694 = .ok (.if_icmp .eq 203, 3) := by decide +kernel
theorem dL_law_697 : decode code 697 = .ok (.iconst 0, 1) := by decide +kernel
theorem dL_law_698 : decode code 698 = .ok (.ireturn, 1) := by decide +kernel
theorem dL_law_699 : decode code 699 = .ok (.aload_n 1, 1) := by decide +kernel
theorem dL_law_700 : decode code 700 = .ok (.aload_n 0, 1) := by decide +kernel
theorem dL_law_701 : decode code 701 = .ok (.iload_n 3, 1) := by decide +kernel
theorem dL_law_702 : decode code 702 = .ok (.iconst 1, 1) := by decide +kernel
theorem dL_law_703 : decode code 703 = .ok (.iadd, 1) := by decide +kernel
theorem dL_law_704 : decode code 704 = .ok (.iaload, 1) := by decide +kernel
theorem dL_law_705 : decode code 705 = .ok (.aload_n 0, 1) := by decide +kernel
theorem dL_law_706 : decode code 706 = .ok (.iload_n 3, 1) := by decide +kernel
theorem dL_law_707 : decode code 707 = .ok (.iconst 2, 1) := by decide +kernel
theorem dL_law_708 : decode code 708 = .ok (.iadd, 1) := by decide +kernel
theorem dL_law_709 : decode code 709 = .ok (.iaload, 1) := by decide +kernel
theorem dL_law_710 : decode code 710 = .ok (.invokevirtual 98, 3) := by decide +kernel
theorem dL_law_713 : decode code 713 = .ok (.aload_n 2, 1) := by decide +kernel
theorem dL_law_714 : decode code 714 = .ok (.aload_n 0, 1) := by decide +kernel
theorem dL_law_715 : decode code 715 = .ok (.iload_n 3, 1) := by decide +kernel
theorem dL_law_716 : decode code 716 = .ok (.iconst 1, 1) := by decide +kernel
theorem dL_law_717 : decode code 717 = .ok (.iadd, 1) := by decide +kernel
theorem dL_law_718 : decode code 718 = .ok (.iaload, 1) := by decide +kernel
theorem dL_law_719 : decode code 719 = .ok (.aload_n 0, 1) := by decide +kernel
theorem dL_law_720 : decode code 720 = .ok (.iload_n 3, 1) := by decide +kernel
theorem dL_law_721 : decode code 721 = .ok (.iconst 2, 1) := by decide +kernel
theorem dL_law_722 : decode code 722 = .ok (.iadd, 1) := by decide +kernel
theorem dL_law_723 : decode code 723 = .ok (.iaload, 1) := by decide +kernel
theorem dL_law_724 : decode code 724 = .ok (.invokevirtual 101, 3) := by decide +kernel
theorem dL_law_727 : decode code 727 = .ok (.if_icmp .eq 170, 3) := by decide +kernel
theorem dL_law_730 : decode code 730 = .ok (.iconst 0, 1) := by decide +kernel
theorem dL_law_731 : decode code 731 = .ok (.ireturn, 1) := by decide +kernel
theorem dL_law_732 : decode code 732 = .ok (.aload_n 1, 1) := by decide +kernel
theorem dL_law_733 : decode code 733 = .ok (.aload_n 0, 1) := by decide +kernel
theorem dL_law_734 : decode code 734 = .ok (.iload_n 3, 1) := by decide +kernel
theorem dL_law_735 : decode code 735 = .ok (.iconst 1, 1) := by decide +kernel
theorem dL_law_736 : decode code 736 = .ok (.iadd, 1) := by decide +kernel
theorem dL_law_737 : decode code 737 = .ok (.iaload, 1) := by decide +kernel
theorem dL_law_738 : decode code 738 = .ok (.invokevirtual 102, 3) := by decide +kernel
theorem dL_law_741 : decode code 741 = .ok (.aload_n 2, 1) := by decide +kernel
theorem dL_law_742 : decode code 742 = .ok (.aload_n 0, 1) := by decide +kernel
theorem dL_law_743 : decode code 743 = .ok (.iload_n 3, 1) := by decide +kernel
theorem dL_law_744 : decode code 744 = .ok (.iconst 1, 1) := by decide +kernel
theorem dL_law_745 : decode code 745 = .ok (.iadd, 1) := by decide +kernel
theorem dL_law_746 : decode code 746 = .ok (.iaload, 1) := by decide +kernel
theorem dL_law_747 : decode code 747 = .ok (.invokevirtual 105, 3) := by decide +kernel
theorem dL_law_750 : decode code 750 = .ok (.if_icmp .eq 147, 3) := by decide +kernel
theorem dL_law_753 : decode code 753 = .ok (.iconst 0, 1) := by decide +kernel
theorem dL_law_754 : decode code 754 = .ok (.ireturn, 1) := by decide +kernel
theorem dL_law_755 : decode code 755 = .ok (.aload_n 1, 1) := by decide +kernel
theorem dL_law_756 : decode code 756 = .ok (.invokevirtual 106, 3) := by decide +kernel
theorem dL_law_759 : decode code 759 = .ok (.aload_n 2, 1) := by decide +kernel
theorem dL_law_760 : decode code 760 = .ok (.invokevirtual 109, 3) := by decide +kernel
theorem dL_law_763 : decode code 763 = .ok (.if_icmp .eq 134, 3) := by decide +kernel
theorem dL_law_766 : decode code 766 = .ok (.iconst 0, 1) := by decide +kernel
theorem dL_law_767 : decode code 767 = .ok (.ireturn, 1) := by decide +kernel
theorem dL_law_768 : decode code 768 = .ok (.aload_n 1, 1) := by decide +kernel
theorem dL_law_769 : decode code 769 = .ok (.aload_n 0, 1) := by decide +kernel
theorem dL_law_770 : decode code 770 = .ok (.iload_n 3, 1) := by decide +kernel
theorem dL_law_771 : decode code 771 = .ok (.iconst 1, 1) := by decide +kernel
theorem dL_law_772 : decode code 772 = .ok (.iadd, 1) := by decide +kernel
theorem dL_law_773 : decode code 773 = .ok (.iaload, 1) := by decide +kernel
theorem dL_law_774 : decode code 774 = .ok (.invokevirtual 110, 3) := by decide +kernel
theorem dL_law_777 : decode code 777 = .ok (.aload_n 2, 1) := by decide +kernel
theorem dL_law_778 : decode code 778 = .ok (.aload_n 0, 1) := by decide +kernel
theorem dL_law_779 : decode code 779 = .ok (.iload_n 3, 1) := by decide +kernel
theorem dL_law_780 : decode code 780 = .ok (.iconst 1, 1) := by decide +kernel
theorem dL_law_781 : decode code 781 = .ok (.iadd, 1) := by decide +kernel
theorem dL_law_782 : decode code 782 = .ok (.iaload, 1) := by decide +kernel
theorem dL_law_783 : decode code 783 = .ok (.invokevirtual 113, 3) := by decide +kernel
theorem dL_law_786 : decode code 786 = .ok (.if_icmp .eq 111, 3) := by decide +kernel
theorem dL_law_789 : decode code 789 = .ok (.iconst 0, 1) := by decide +kernel
theorem dL_law_790 : decode code 790 = .ok (.ireturn, 1) := by decide +kernel
theorem dL_law_791 : decode code 791 = .ok (.aload_n 1, 1) := by decide +kernel
theorem dL_law_792 : decode code 792 = .ok (.aload_n 0, 1) := by decide +kernel
theorem dL_law_793 : decode code 793 = .ok (.iload_n 3, 1) := by decide +kernel
theorem dL_law_794 : decode code 794 = .ok (.iconst 1, 1) := by decide +kernel
theorem dL_law_795 : decode code 795 = .ok (.iadd, 1) := by decide +kernel
theorem dL_law_796 : decode code 796 = .ok (.iaload, 1) := by decide +kernel
theorem dL_law_797 : decode code 797 = .ok (.aload_n 0, 1) := by decide +kernel
theorem dL_law_798 : decode code 798 = .ok (.iload_n 3, 1) := by decide +kernel
theorem dL_law_799 : decode code 799 = .ok (.iconst 2, 1) := by decide +kernel
theorem dL_law_800 : decode code 800 = .ok (.iadd, 1) := by decide +kernel
theorem dL_law_801 : decode code 801 = .ok (.iaload, 1) := by decide +kernel
theorem dL_law_802 : decode code 802 = .ok (.aload_n 0, 1) := by decide +kernel
theorem dL_law_803 : decode code 803 = .ok (.iload_n 3, 1) := by decide +kernel
theorem dL_law_804 : decode code 804 = .ok (.iconst 3, 1) := by decide +kernel
theorem dL_law_805 : decode code 805 = .ok (.iadd, 1) := by decide +kernel
theorem dL_law_806 : decode code 806 = .ok (.iaload, 1) := by decide +kernel
theorem dL_law_807 : decode code 807 = .ok (.invokevirtual 114, 3) := by decide +kernel
theorem dL_law_810 : decode code 810 = .ok (.aload_n 2, 1) := by decide +kernel
theorem dL_law_811 : decode code 811 = .ok (.aload_n 0, 1) := by decide +kernel
theorem dL_law_812 : decode code 812 = .ok (.iload_n 3, 1) := by decide +kernel
theorem dL_law_813 : decode code 813 = .ok (.iconst 1, 1) := by decide +kernel
theorem dL_law_814 : decode code 814 = .ok (.iadd, 1) := by decide +kernel
theorem dL_law_815 : decode code 815 = .ok (.iaload, 1) := by decide +kernel
theorem dL_law_816 : decode code 816 = .ok (.aload_n 0, 1) := by decide +kernel
theorem dL_law_817 : decode code 817 = .ok (.iload_n 3, 1) := by decide +kernel
theorem dL_law_818 : decode code 818 = .ok (.iconst 2, 1) := by decide +kernel
theorem dL_law_819 : decode code 819 = .ok (.iadd, 1) := by decide +kernel
theorem dL_law_820 : decode code 820 = .ok (.iaload, 1) := by decide +kernel
theorem dL_law_821 : decode code 821 = .ok (.aload_n 0, 1) := by decide +kernel
theorem dL_law_822 : decode code 822 = .ok (.iload_n 3, 1) := by decide +kernel
theorem dL_law_823 : decode code 823 = .ok (.iconst 3, 1) := by decide +kernel
theorem dL_law_824 : decode code 824 = .ok (.iadd, 1) := by decide +kernel
theorem dL_law_825 : decode code 825 = .ok (.iaload, 1) := by decide +kernel
theorem dL_law_826 : decode code 826 = .ok (.invokevirtual 117, 3) := by decide +kernel
theorem dL_law_829 : decode code 829 = .ok (.if_icmp .eq 68, 3) := by decide +kernel
theorem dL_law_832 : decode code 832 = .ok (.iconst 0, 1) := by decide +kernel
theorem dL_law_833 : decode code 833 = .ok (.ireturn, 1) := by decide +kernel
theorem dL_law_834 : decode code 834 = .ok (.aload_n 1, 1) := by decide +kernel
theorem dL_law_835 : decode code 835 = .ok (.invokevirtual 118, 3) := by decide +kernel
theorem dL_law_838 : decode code 838 = .ok (.aload_n 2, 1) := by decide +kernel
theorem dL_law_839 : decode code 839 = .ok (.invokevirtual 121, 3) := by decide +kernel
theorem dL_law_842 : decode code 842 = .ok (.if_icmp .eq 55, 3) := by decide +kernel
theorem dL_law_845 : decode code 845 = .ok (.iconst 0, 1) := by decide +kernel
theorem dL_law_846 : decode code 846 = .ok (.ireturn, 1) := by decide +kernel
theorem dL_law_847 : decode code 847 = .ok (.aload_n 1, 1) := by decide +kernel
theorem dL_law_848 : decode code 848 = .ok (.invokevirtual 122, 3) := by decide +kernel
theorem dL_law_851 : decode code 851 = .ok (.aload_n 2, 1) := by decide +kernel
theorem dL_law_852 : decode code 852 = .ok (.invokevirtual 125, 3) := by decide +kernel
theorem dL_law_855 : decode code 855 = .ok (.if_icmp .eq 42, 3) := by decide +kernel
theorem dL_law_858 : decode code 858 = .ok (.iconst 0, 1) := by decide +kernel
theorem dL_law_859 : decode code 859 = .ok (.ireturn, 1) := by decide +kernel
theorem dL_law_860 : decode code 860 = .ok (.aload_n 1, 1) := by decide +kernel
theorem dL_law_861 : decode code 861 = .ok (.aload_n 0, 1) := by decide +kernel
theorem dL_law_862 : decode code 862 = .ok (.iload_n 3, 1) := by decide +kernel
theorem dL_law_863 : decode code 863 = .ok (.iconst 1, 1) := by decide +kernel
theorem dL_law_864 : decode code 864 = .ok (.iadd, 1) := by decide +kernel
theorem dL_law_865 : decode code 865 = .ok (.iaload, 1) := by decide +kernel
theorem dL_law_866 : decode code 866 = .ok (.invokevirtual 126, 3) := by decide +kernel
theorem dL_law_869 : decode code 869 = .ok (.aload_n 2, 1) := by decide +kernel
theorem dL_law_870 : decode code 870 = .ok (.aload_n 0, 1) := by decide +kernel
theorem dL_law_871 : decode code 871 = .ok (.iload_n 3, 1) := by decide +kernel
theorem dL_law_872 : decode code 872 = .ok (.iconst 1, 1) := by decide +kernel
theorem dL_law_873 : decode code 873 = .ok (.iadd, 1) := by decide +kernel
theorem dL_law_874 : decode code 874 = .ok (.iaload, 1) := by decide +kernel
theorem dL_law_875 : decode code 875 = .ok (.invokevirtual 129, 3) := by decide +kernel
theorem dL_law_878 : decode code 878 = .ok (.if_icmp .eq 19, 3) := by decide +kernel
theorem dL_law_881 : decode code 881 = .ok (.iconst 0, 1) := by decide +kernel
theorem dL_law_882 : decode code 882 = .ok (.ireturn, 1) := by decide +kernel
theorem dL_law_883 : decode code 883 = .ok (.aload_n 1, 1) := by decide +kernel
theorem dL_law_884 : decode code 884 = .ok (.invokevirtual 130, 3) := by decide +kernel
theorem dL_law_887 : decode code 887 = .ok (.aload_n 2, 1) := by decide +kernel
theorem dL_law_888 : decode code 888 = .ok (.invokevirtual 134, 3) := by decide +kernel
theorem dL_law_891 : decode code 891 = .ok (.lcmp, 1) := by decide +kernel
theorem dL_law_892 : decode code 892 = .ok (.ifCond .eq 5, 3) := by decide +kernel
theorem dL_law_895 : decode code 895 = .ok (.iconst 0, 1) := by decide +kernel
theorem dL_law_896 : decode code 896 = .ok (.ireturn, 1) := by decide +kernel
theorem dL_law_897 : decode code 897 = .ok (.iinc 3 5, 3) := by decide +kernel
theorem dL_law_900 : decode code 900 = .ok (.goto (-882), 3) := by decide +kernel
theorem dL_law_903 : decode code 903 = .ok (.iconst 1, 1) := by decide +kernel
theorem dL_law_904 : decode code 904 = .ok (.ireturn, 1) := by decide +kernel
