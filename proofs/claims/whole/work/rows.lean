section
-- ===== PART A: goes FIRST, ahead of the names: the tables' words, and 'selects' of the private methods out of them =====
/-- a private method of a class that the tables say can be made, by its rows of tables_1 -/
def lw_okq (q : MethodName × Nat) : Prop := (q.1.cls ≠ "java/lang/invoke/MethodHandle" ∧ q.1.cls ≠ "java/lang/invoke/VarHandle") ∧ Cond.instantiable q.1.cls q.2 ∈ tables_1 ∧ Cond.privateMethod q.1 ∈ tables_1 ∧ Cond.instanceMethod q.1 ∈ tables_1
set_option maxRecDepth 100000 in
theorem lw_p0 : lw_okq (⟨"NamedWind$Sea", "clear", "()V"⟩, 6) := ⟨⟨by decide +kernel, by decide +kernel⟩, List.mem_of_getElem? (i := 54) rfl, List.mem_of_getElem? (i := 90) rfl, List.mem_of_getElem? (i := 91) rfl⟩
set_option maxRecDepth 100000 in
theorem lw_p1 : lw_okq (⟨"NamedWind$Book", "clear", "()V"⟩, 2) := ⟨⟨by decide +kernel, by decide +kernel⟩, List.mem_of_getElem? (i := 164) rfl, List.mem_of_getElem? (i := 171) rfl, List.mem_of_getElem? (i := 172) rfl⟩
set_option maxRecDepth 100000 in
theorem lw_p2 : lw_okq (⟨"NamedWind$Page", "add", "(J)I"⟩, 2) := ⟨⟨by decide +kernel, by decide +kernel⟩, List.mem_of_getElem? (i := 23) rfl, List.mem_of_getElem? (i := 227) rfl, List.mem_of_getElem? (i := 228) rfl⟩
set_option maxRecDepth 100000 in
theorem lw_p3 : lw_okq (⟨"NamedWind$Page", "empty", "()I"⟩, 2) := ⟨⟨by decide +kernel, by decide +kernel⟩, List.mem_of_getElem? (i := 23) rfl, List.mem_of_getElem? (i := 241) rfl, List.mem_of_getElem? (i := 242) rfl⟩
set_option maxRecDepth 100000 in
theorem lw_p4 : lw_okq (⟨"NamedWind$Reader", "read", "(LNamedWind$Page;LNamedWind$Book;)I"⟩, 2) := ⟨⟨by decide +kernel, by decide +kernel⟩, List.mem_of_getElem? (i := 41) rfl, List.mem_of_getElem? (i := 249) rfl, List.mem_of_getElem? (i := 250) rfl⟩
set_option maxRecDepth 100000 in
theorem lw_p5 : lw_okq (⟨"NamedWind$Reader", "takes", "(ILNamedWind$Book;)Z"⟩, 2) := ⟨⟨by decide +kernel, by decide +kernel⟩, List.mem_of_getElem? (i := 41) rfl, List.mem_of_getElem? (i := 254) rfl, List.mem_of_getElem? (i := 255) rfl⟩
set_option maxRecDepth 100000 in
theorem lw_p6 : lw_okq (⟨"NamedWind$Reader", "takesMark", "(ICI)Z"⟩, 2) := ⟨⟨by decide +kernel, by decide +kernel⟩, List.mem_of_getElem? (i := 41) rfl, List.mem_of_getElem? (i := 258) rfl, List.mem_of_getElem? (i := 259) rfl⟩
set_option maxRecDepth 100000 in
theorem lw_p7 : lw_okq (⟨"NamedWind$Reader", "takesName", "(ILNamedWind$Book;I)Z"⟩, 2) := ⟨⟨by decide +kernel, by decide +kernel⟩, List.mem_of_getElem? (i := 41) rfl, List.mem_of_getElem? (i := 262) rfl, List.mem_of_getElem? (i := 263) rfl⟩
set_option maxRecDepth 100000 in
theorem lw_p8 : lw_okq (⟨"NamedWind$Reader", "takesNextWind", "(I)Z"⟩, 2) := ⟨⟨by decide +kernel, by decide +kernel⟩, List.mem_of_getElem? (i := 41) rfl, List.mem_of_getElem? (i := 269) rfl, List.mem_of_getElem? (i := 270) rfl⟩
set_option maxRecDepth 100000 in
theorem lw_p9 : lw_okq (⟨"NamedWind$Reader", "takesTenths", "(ILNamedWind$Book;)Z"⟩, 2) := ⟨⟨by decide +kernel, by decide +kernel⟩, List.mem_of_getElem? (i := 41) rfl, List.mem_of_getElem? (i := 273) rfl, List.mem_of_getElem? (i := 274) rfl⟩
set_option maxRecDepth 100000 in
theorem lw_p10 : lw_okq (⟨"NamedWind$Reader", "atEnd", "()Z"⟩, 2) := ⟨⟨by decide +kernel, by decide +kernel⟩, List.mem_of_getElem? (i := 41) rfl, List.mem_of_getElem? (i := 284) rfl, List.mem_of_getElem? (i := 285) rfl⟩
set_option maxRecDepth 100000 in
theorem lw_p11 : lw_okq (⟨"NamedWind$Wake", "end", "()V"⟩, 4) := ⟨⟨by decide +kernel, by decide +kernel⟩, List.mem_of_getElem? (i := 122) rfl, List.mem_of_getElem? (i := 289) rfl, List.mem_of_getElem? (i := 290) rfl⟩
set_option maxRecDepth 100000 in
theorem lw_p12 : lw_okq (⟨"NamedWind$Book", "nameCount", "()I"⟩, 2) := ⟨⟨by decide +kernel, by decide +kernel⟩, List.mem_of_getElem? (i := 164) rfl, List.mem_of_getElem? (i := 293) rfl, List.mem_of_getElem? (i := 294) rfl⟩
set_option maxRecDepth 100000 in
theorem lw_p13 : lw_okq (⟨"NamedWind", "hasBook", "()Z"⟩, 11) := ⟨⟨by decide +kernel, by decide +kernel⟩, List.mem_of_getElem? (i := 15) rfl, List.mem_of_getElem? (i := 305) rfl, List.mem_of_getElem? (i := 306) rfl⟩
set_option maxRecDepth 100000 in
theorem lw_p14 : lw_okq (⟨"NamedWind$Sea", "add", "(II)I"⟩, 6) := ⟨⟨by decide +kernel, by decide +kernel⟩, List.mem_of_getElem? (i := 54) rfl, List.mem_of_getElem? (i := 324) rfl, List.mem_of_getElem? (i := 325) rfl⟩
set_option maxRecDepth 100000 in
theorem lw_p15 : lw_okq (⟨"NamedWind$Ship", "begin", "(II)V"⟩, 5) := ⟨⟨by decide +kernel, by decide +kernel⟩, List.mem_of_getElem? (i := 61) rfl, List.mem_of_getElem? (i := 328) rfl, List.mem_of_getElem? (i := 329) rfl⟩
def lw_privs_1 : List (MethodName × Nat) := [(⟨"NamedWind$Sea", "clear", "()V"⟩, 6), (⟨"NamedWind$Book", "clear", "()V"⟩, 2), (⟨"NamedWind$Page", "add", "(J)I"⟩, 2), (⟨"NamedWind$Page", "empty", "()I"⟩, 2), (⟨"NamedWind$Reader", "read", "(LNamedWind$Page;LNamedWind$Book;)I"⟩, 2), (⟨"NamedWind$Reader", "takes", "(ILNamedWind$Book;)Z"⟩, 2), (⟨"NamedWind$Reader", "takesMark", "(ICI)Z"⟩, 2), (⟨"NamedWind$Reader", "takesName", "(ILNamedWind$Book;I)Z"⟩, 2), (⟨"NamedWind$Reader", "takesNextWind", "(I)Z"⟩, 2), (⟨"NamedWind$Reader", "takesTenths", "(ILNamedWind$Book;)Z"⟩, 2), (⟨"NamedWind$Reader", "atEnd", "()Z"⟩, 2), (⟨"NamedWind$Wake", "end", "()V"⟩, 4), (⟨"NamedWind$Book", "nameCount", "()I"⟩, 2), (⟨"NamedWind", "hasBook", "()Z"⟩, 11), (⟨"NamedWind$Sea", "add", "(II)I"⟩, 6), (⟨"NamedWind$Ship", "begin", "(II)V"⟩, 5)]
theorem lw_r1 : ∀ q ∈ lw_privs_1, lw_okq q := List.forall_mem_cons.mpr ⟨lw_p0, List.forall_mem_cons.mpr ⟨lw_p1, List.forall_mem_cons.mpr ⟨lw_p2, List.forall_mem_cons.mpr ⟨lw_p3, List.forall_mem_cons.mpr ⟨lw_p4, List.forall_mem_cons.mpr ⟨lw_p5, List.forall_mem_cons.mpr ⟨lw_p6, List.forall_mem_cons.mpr ⟨lw_p7, List.forall_mem_cons.mpr ⟨lw_p8, List.forall_mem_cons.mpr ⟨lw_p9, List.forall_mem_cons.mpr ⟨lw_p10, List.forall_mem_cons.mpr ⟨lw_p11, List.forall_mem_cons.mpr ⟨lw_p12, List.forall_mem_cons.mpr ⟨lw_p13, List.forall_mem_cons.mpr ⟨lw_p14, List.forall_mem_cons.mpr ⟨lw_p15, fun _ h => absurd h List.not_mem_nil⟩⟩⟩⟩⟩⟩⟩⟩⟩⟩⟩⟩⟩⟩⟩⟩
set_option maxRecDepth 100000 in
theorem lw_p16 : lw_okq (⟨"NamedWind", "isShip", "(I)Z"⟩, 11) := ⟨⟨by decide +kernel, by decide +kernel⟩, List.mem_of_getElem? (i := 15) rfl, List.mem_of_getElem? (i := 336) rfl, List.mem_of_getElem? (i := 337) rfl⟩
set_option maxRecDepth 100000 in
theorem lw_p17 : lw_okq (⟨"NamedWind$Ship", "tell", "(I)I"⟩, 5) := ⟨⟨by decide +kernel, by decide +kernel⟩, List.mem_of_getElem? (i := 61) rfl, List.mem_of_getElem? (i := 340) rfl, List.mem_of_getElem? (i := 341) rfl⟩
set_option maxRecDepth 100000 in
theorem lw_p18 : lw_okq (⟨"NamedWind$Ship", "isA", "(I)Z"⟩, 5) := ⟨⟨by decide +kernel, by decide +kernel⟩, List.mem_of_getElem? (i := 61) rfl, List.mem_of_getElem? (i := 348) rfl, List.mem_of_getElem? (i := 349) rfl⟩
set_option maxRecDepth 100000 in
theorem lw_p19 : lw_okq (⟨"NamedWind$Sea", "isSpent", "(I)Z"⟩, 6) := ⟨⟨by decide +kernel, by decide +kernel⟩, List.mem_of_getElem? (i := 54) rfl, List.mem_of_getElem? (i := 356) rfl, List.mem_of_getElem? (i := 357) rfl⟩
set_option maxRecDepth 100000 in
theorem lw_p20 : lw_okq (⟨"NamedWind$Sea", "replaceCall", "(II)I"⟩, 6) := ⟨⟨by decide +kernel, by decide +kernel⟩, List.mem_of_getElem? (i := 54) rfl, List.mem_of_getElem? (i := 360) rfl, List.mem_of_getElem? (i := 361) rfl⟩
set_option maxRecDepth 100000 in
theorem lw_p21 : lw_okq (⟨"NamedWind$Sea", "isSpentToday", "(I)Z"⟩, 6) := ⟨⟨by decide +kernel, by decide +kernel⟩, List.mem_of_getElem? (i := 54) rfl, List.mem_of_getElem? (i := 364) rfl, List.mem_of_getElem? (i := 365) rfl⟩
set_option maxRecDepth 100000 in
theorem lw_p22 : lw_okq (⟨"NamedWind$Ship", "spends", "(I)Z"⟩, 5) := ⟨⟨by decide +kernel, by decide +kernel⟩, List.mem_of_getElem? (i := 61) rfl, List.mem_of_getElem? (i := 368) rfl, List.mem_of_getElem? (i := 369) rfl⟩
set_option maxRecDepth 100000 in
theorem lw_p23 : lw_okq (⟨"NamedWind$Sea", "beginCall", "(II)V"⟩, 6) := ⟨⟨by decide +kernel, by decide +kernel⟩, List.mem_of_getElem? (i := 54) rfl, List.mem_of_getElem? (i := 372) rfl, List.mem_of_getElem? (i := 373) rfl⟩
set_option maxRecDepth 100000 in
theorem lw_p24 : lw_okq (⟨"NamedWind$Sea", "passDay", "(LNamedWind$Book;I)V"⟩, 6) := ⟨⟨by decide +kernel, by decide +kernel⟩, List.mem_of_getElem? (i := 54) rfl, List.mem_of_getElem? (i := 384) rfl, List.mem_of_getElem? (i := 385) rfl⟩
set_option maxRecDepth 100000 in
theorem lw_p25 : lw_okq (⟨"NamedWind$Sea", "answer", "(LNamedWind$Book;LNamedWind$Ship;I)V"⟩, 6) := ⟨⟨by decide +kernel, by decide +kernel⟩, List.mem_of_getElem? (i := 54) rfl, List.mem_of_getElem? (i := 388) rfl, List.mem_of_getElem? (i := 389) rfl⟩
set_option maxRecDepth 100000 in
theorem lw_p26 : lw_okq (⟨"NamedWind$Book", "favours", "(II)Z"⟩, 2) := ⟨⟨by decide +kernel, by decide +kernel⟩, List.mem_of_getElem? (i := 164) rfl, List.mem_of_getElem? (i := 392) rfl, List.mem_of_getElem? (i := 393) rfl⟩
set_option maxRecDepth 100000 in
theorem lw_p27 : lw_okq (⟨"NamedWind$Sea", "homeCount", "()I"⟩, 6) := ⟨⟨by decide +kernel, by decide +kernel⟩, List.mem_of_getElem? (i := 54) rfl, List.mem_of_getElem? (i := 416) rfl, List.mem_of_getElem? (i := 417) rfl⟩
set_option maxRecDepth 100000 in
theorem lw_p28 : lw_okq (⟨"NamedWind$Sea", "spentCount", "()I"⟩, 6) := ⟨⟨by decide +kernel, by decide +kernel⟩, List.mem_of_getElem? (i := 54) rfl, List.mem_of_getElem? (i := 424) rfl, List.mem_of_getElem? (i := 425) rfl⟩
set_option maxRecDepth 100000 in
theorem lw_p29 : lw_okq (⟨"NamedWind$Forecast", "begin", "(LNamedWind$Book;II)V"⟩, 4) := ⟨⟨by decide +kernel, by decide +kernel⟩, List.mem_of_getElem? (i := 143) rfl, List.mem_of_getElem? (i := 443) rfl, List.mem_of_getElem? (i := 444) rfl⟩
set_option maxRecDepth 100000 in
theorem lw_p30 : lw_okq (⟨"NamedWind$Book", "favour", "(II)I"⟩, 2) := ⟨⟨by decide +kernel, by decide +kernel⟩, List.mem_of_getElem? (i := 164) rfl, List.mem_of_getElem? (i := 448) rfl, List.mem_of_getElem? (i := 449) rfl⟩
set_option maxRecDepth 100000 in
theorem lw_p31 : lw_okq (⟨"NamedWind$Sea", "freeNames", "()I"⟩, 6) := ⟨⟨by decide +kernel, by decide +kernel⟩, List.mem_of_getElem? (i := 54) rfl, List.mem_of_getElem? (i := 453) rfl, List.mem_of_getElem? (i := 454) rfl⟩
def lw_privs_2 : List (MethodName × Nat) := [(⟨"NamedWind", "isShip", "(I)Z"⟩, 11), (⟨"NamedWind$Ship", "tell", "(I)I"⟩, 5), (⟨"NamedWind$Ship", "isA", "(I)Z"⟩, 5), (⟨"NamedWind$Sea", "isSpent", "(I)Z"⟩, 6), (⟨"NamedWind$Sea", "replaceCall", "(II)I"⟩, 6), (⟨"NamedWind$Sea", "isSpentToday", "(I)Z"⟩, 6), (⟨"NamedWind$Ship", "spends", "(I)Z"⟩, 5), (⟨"NamedWind$Sea", "beginCall", "(II)V"⟩, 6), (⟨"NamedWind$Sea", "passDay", "(LNamedWind$Book;I)V"⟩, 6), (⟨"NamedWind$Sea", "answer", "(LNamedWind$Book;LNamedWind$Ship;I)V"⟩, 6), (⟨"NamedWind$Book", "favours", "(II)Z"⟩, 2), (⟨"NamedWind$Sea", "homeCount", "()I"⟩, 6), (⟨"NamedWind$Sea", "spentCount", "()I"⟩, 6), (⟨"NamedWind$Forecast", "begin", "(LNamedWind$Book;II)V"⟩, 4), (⟨"NamedWind$Book", "favour", "(II)I"⟩, 2), (⟨"NamedWind$Sea", "freeNames", "()I"⟩, 6)]
theorem lw_r2 : ∀ q ∈ lw_privs_2, lw_okq q := List.forall_mem_cons.mpr ⟨lw_p16, List.forall_mem_cons.mpr ⟨lw_p17, List.forall_mem_cons.mpr ⟨lw_p18, List.forall_mem_cons.mpr ⟨lw_p19, List.forall_mem_cons.mpr ⟨lw_p20, List.forall_mem_cons.mpr ⟨lw_p21, List.forall_mem_cons.mpr ⟨lw_p22, List.forall_mem_cons.mpr ⟨lw_p23, List.forall_mem_cons.mpr ⟨lw_p24, List.forall_mem_cons.mpr ⟨lw_p25, List.forall_mem_cons.mpr ⟨lw_p26, List.forall_mem_cons.mpr ⟨lw_p27, List.forall_mem_cons.mpr ⟨lw_p28, List.forall_mem_cons.mpr ⟨lw_p29, List.forall_mem_cons.mpr ⟨lw_p30, List.forall_mem_cons.mpr ⟨lw_p31, fun _ h => absurd h List.not_mem_nil⟩⟩⟩⟩⟩⟩⟩⟩⟩⟩⟩⟩⟩⟩⟩⟩
set_option maxRecDepth 100000 in
theorem lw_p32 : lw_okq (⟨"NamedWind$Forecast", "chances", "(III)I"⟩, 4) := ⟨⟨by decide +kernel, by decide +kernel⟩, List.mem_of_getElem? (i := 143) rfl, List.mem_of_getElem? (i := 457) rfl, List.mem_of_getElem? (i := 458) rfl⟩
set_option maxRecDepth 100000 in
theorem lw_p33 : lw_okq (⟨"NamedWind$Forecast", "bestCall", "(IIII)I"⟩, 4) := ⟨⟨by decide +kernel, by decide +kernel⟩, List.mem_of_getElem? (i := 143) rfl, List.mem_of_getElem? (i := 463) rfl, List.mem_of_getElem? (i := 464) rfl⟩
set_option maxRecDepth 100000 in
theorem lw_p34 : lw_okq (⟨"NamedWind$Forecast", "worth", "(IIIII)I"⟩, 4) := ⟨⟨by decide +kernel, by decide +kernel⟩, List.mem_of_getElem? (i := 143) rfl, List.mem_of_getElem? (i := 467) rfl, List.mem_of_getElem? (i := 468) rfl⟩
set_option maxRecDepth 100000 in
theorem lw_p35 : lw_okq (⟨"NamedWind$Book", "tellingSign", "()I"⟩, 2) := ⟨⟨by decide +kernel, by decide +kernel⟩, List.mem_of_getElem? (i := 164) rfl, List.mem_of_getElem? (i := 494) rfl, List.mem_of_getElem? (i := 495) rfl⟩
set_option maxRecDepth 100000 in
theorem lw_p36 : lw_okq (⟨"NamedWind$Book", "strongest", "(I)I"⟩, 2) := ⟨⟨by decide +kernel, by decide +kernel⟩, List.mem_of_getElem? (i := 164) rfl, List.mem_of_getElem? (i := 498) rfl, List.mem_of_getElem? (i := 499) rfl⟩
set_option maxRecDepth 100000 in
theorem lw_p37 : lw_okq (⟨"NamedWind$Book", "strengthInAll", "(I)I"⟩, 2) := ⟨⟨by decide +kernel, by decide +kernel⟩, List.mem_of_getElem? (i := 164) rfl, List.mem_of_getElem? (i := 510) rfl, List.mem_of_getElem? (i := 511) rfl⟩
set_option maxRecDepth 100000 in
theorem lw_p38 : lw_okq (⟨"NamedWind$Wake", "begin", "(II)V"⟩, 4) := ⟨⟨by decide +kernel, by decide +kernel⟩, List.mem_of_getElem? (i := 122) rfl, List.mem_of_getElem? (i := 523) rfl, List.mem_of_getElem? (i := 524) rfl⟩
set_option maxRecDepth 100000 in
theorem lw_p39 : lw_okq (⟨"NamedWind$Wake", "add", "(I)I"⟩, 4) := ⟨⟨by decide +kernel, by decide +kernel⟩, List.mem_of_getElem? (i := 122) rfl, List.mem_of_getElem? (i := 531) rfl, List.mem_of_getElem? (i := 532) rfl⟩
set_option maxRecDepth 100000 in
theorem lw_p40 : lw_okq (⟨"NamedWind$Wake", "ways", "(LNamedWind$Book;)I"⟩, 4) := ⟨⟨by decide +kernel, by decide +kernel⟩, List.mem_of_getElem? (i := 122) rfl, List.mem_of_getElem? (i := 539) rfl, List.mem_of_getElem? (i := 540) rfl⟩
set_option maxRecDepth 100000 in
theorem lw_p41 : lw_okq (⟨"NamedWind$Wake", "waysBy", "(LNamedWind$Book;II)I"⟩, 4) := ⟨⟨by decide +kernel, by decide +kernel⟩, List.mem_of_getElem? (i := 122) rfl, List.mem_of_getElem? (i := 543) rfl, List.mem_of_getElem? (i := 544) rfl⟩
set_option maxRecDepth 100000 in
theorem lw_p42 : lw_okq (⟨"NamedWind$Wake", "callOn", "(LNamedWind$Book;I)I"⟩, 4) := ⟨⟨by decide +kernel, by decide +kernel⟩, List.mem_of_getElem? (i := 122) rfl, List.mem_of_getElem? (i := 553) rfl, List.mem_of_getElem? (i := 554) rfl⟩
set_option maxRecDepth 100000 in
theorem lw_p43 : lw_okq (⟨"NamedWind$Sea", "copyFrom", "(LNamedWind$Sea;)V"⟩, 6) := ⟨⟨by decide +kernel, by decide +kernel⟩, List.mem_of_getElem? (i := 54) rfl, List.mem_of_getElem? (i := 562) rfl, List.mem_of_getElem? (i := 563) rfl⟩
set_option maxRecDepth 100000 in
theorem lw_p44 : lw_okq (⟨"NamedWind$Ship", "copyFrom", "(LNamedWind$Ship;)V"⟩, 5) := ⟨⟨by decide +kernel, by decide +kernel⟩, List.mem_of_getElem? (i := 61) rfl, List.mem_of_getElem? (i := 566) rfl, List.mem_of_getElem? (i := 567) rfl⟩
set_option maxRecDepth 100000 in
theorem lw_p45 : lw_okq (⟨"NamedWind$Sea", "passYears", "(LNamedWind$Book;II)I"⟩, 6) := ⟨⟨by decide +kernel, by decide +kernel⟩, List.mem_of_getElem? (i := 54) rfl, List.mem_of_getElem? (i := 573) rfl, List.mem_of_getElem? (i := 574) rfl⟩
set_option maxRecDepth 100000 in
theorem lw_p46 : lw_okq (⟨"NamedWind$Sea", "placesTogether", "()I"⟩, 6) := ⟨⟨by decide +kernel, by decide +kernel⟩, List.mem_of_getElem? (i := 54) rfl, List.mem_of_getElem? (i := 591) rfl, List.mem_of_getElem? (i := 592) rfl⟩
set_option maxRecDepth 100000 in
theorem lw_p47 : lw_okq (⟨"NamedWind", "mixBook", "(J)J"⟩, 11) := ⟨⟨by decide +kernel, by decide +kernel⟩, List.mem_of_getElem? (i := 15) rfl, List.mem_of_getElem? (i := 612) rfl, List.mem_of_getElem? (i := 613) rfl⟩
def lw_privs_3 : List (MethodName × Nat) := [(⟨"NamedWind$Forecast", "chances", "(III)I"⟩, 4), (⟨"NamedWind$Forecast", "bestCall", "(IIII)I"⟩, 4), (⟨"NamedWind$Forecast", "worth", "(IIIII)I"⟩, 4), (⟨"NamedWind$Book", "tellingSign", "()I"⟩, 2), (⟨"NamedWind$Book", "strongest", "(I)I"⟩, 2), (⟨"NamedWind$Book", "strengthInAll", "(I)I"⟩, 2), (⟨"NamedWind$Wake", "begin", "(II)V"⟩, 4), (⟨"NamedWind$Wake", "add", "(I)I"⟩, 4), (⟨"NamedWind$Wake", "ways", "(LNamedWind$Book;)I"⟩, 4), (⟨"NamedWind$Wake", "waysBy", "(LNamedWind$Book;II)I"⟩, 4), (⟨"NamedWind$Wake", "callOn", "(LNamedWind$Book;I)I"⟩, 4), (⟨"NamedWind$Sea", "copyFrom", "(LNamedWind$Sea;)V"⟩, 6), (⟨"NamedWind$Ship", "copyFrom", "(LNamedWind$Ship;)V"⟩, 5), (⟨"NamedWind$Sea", "passYears", "(LNamedWind$Book;II)I"⟩, 6), (⟨"NamedWind$Sea", "placesTogether", "()I"⟩, 6), (⟨"NamedWind", "mixBook", "(J)J"⟩, 11)]
theorem lw_r3 : ∀ q ∈ lw_privs_3, lw_okq q := List.forall_mem_cons.mpr ⟨lw_p32, List.forall_mem_cons.mpr ⟨lw_p33, List.forall_mem_cons.mpr ⟨lw_p34, List.forall_mem_cons.mpr ⟨lw_p35, List.forall_mem_cons.mpr ⟨lw_p36, List.forall_mem_cons.mpr ⟨lw_p37, List.forall_mem_cons.mpr ⟨lw_p38, List.forall_mem_cons.mpr ⟨lw_p39, List.forall_mem_cons.mpr ⟨lw_p40, List.forall_mem_cons.mpr ⟨lw_p41, List.forall_mem_cons.mpr ⟨lw_p42, List.forall_mem_cons.mpr ⟨lw_p43, List.forall_mem_cons.mpr ⟨lw_p44, List.forall_mem_cons.mpr ⟨lw_p45, List.forall_mem_cons.mpr ⟨lw_p46, List.forall_mem_cons.mpr ⟨lw_p47, fun _ h => absurd h List.not_mem_nil⟩⟩⟩⟩⟩⟩⟩⟩⟩⟩⟩⟩⟩⟩⟩⟩
set_option maxRecDepth 100000 in
theorem lw_p48 : lw_okq (⟨"NamedWind", "mixShip", "(JI)J"⟩, 11) := ⟨⟨by decide +kernel, by decide +kernel⟩, List.mem_of_getElem? (i := 15) rfl, List.mem_of_getElem? (i := 622) rfl, List.mem_of_getElem? (i := 623) rfl⟩
set_option maxRecDepth 100000 in
theorem lw_p49 : lw_okq (⟨"NamedWindModel", "readBook", "()V"⟩, 44) := ⟨⟨by decide +kernel, by decide +kernel⟩, List.mem_of_getElem? (i := 630) rfl, List.mem_of_getElem? (i := 785) rfl, List.mem_of_getElem? (i := 786) rfl⟩
set_option maxRecDepth 100000 in
theorem lw_p50 : lw_okq (⟨"NamedWindModel", "nextState", "(II)I"⟩, 44) := ⟨⟨by decide +kernel, by decide +kernel⟩, List.mem_of_getElem? (i := 630) rfl, List.mem_of_getElem? (i := 789) rfl, List.mem_of_getElem? (i := 790) rfl⟩
set_option maxRecDepth 100000 in
theorem lw_p51 : lw_okq (⟨"NamedWindModel", "takesName", "(I)Z"⟩, 44) := ⟨⟨by decide +kernel, by decide +kernel⟩, List.mem_of_getElem? (i := 630) rfl, List.mem_of_getElem? (i := 793) rfl, List.mem_of_getElem? (i := 794) rfl⟩
set_option maxRecDepth 100000 in
theorem lw_p52 : lw_okq (⟨"NamedWindModel", "takesTenths", "(II)Z"⟩, 44) := ⟨⟨by decide +kernel, by decide +kernel⟩, List.mem_of_getElem? (i := 630) rfl, List.mem_of_getElem? (i := 800) rfl, List.mem_of_getElem? (i := 801) rfl⟩
set_option maxRecDepth 100000 in
theorem lw_p53 : lw_okq (⟨"NamedWindModel", "isShip", "(I)Z"⟩, 44) := ⟨⟨by decide +kernel, by decide +kernel⟩, List.mem_of_getElem? (i := 630) rfl, List.mem_of_getElem? (i := 830) rfl, List.mem_of_getElem? (i := 831) rfl⟩
set_option maxRecDepth 100000 in
theorem lw_p54 : lw_okq (⟨"NamedWindModel", "shipNow", "(II)I"⟩, 44) := ⟨⟨by decide +kernel, by decide +kernel⟩, List.mem_of_getElem? (i := 630) rfl, List.mem_of_getElem? (i := 834) rfl, List.mem_of_getElem? (i := 835) rfl⟩
set_option maxRecDepth 100000 in
theorem lw_p55 : lw_okq (⟨"NamedWindModel", "isCalledToo", "(II)Z"⟩, 44) := ⟨⟨by decide +kernel, by decide +kernel⟩, List.mem_of_getElem? (i := 630) rfl, List.mem_of_getElem? (i := 849) rfl, List.mem_of_getElem? (i := 850) rfl⟩
set_option maxRecDepth 100000 in
theorem lw_p56 : lw_okq (⟨"NamedWindModel", "answer", "(II)V"⟩, 44) := ⟨⟨by decide +kernel, by decide +kernel⟩, List.mem_of_getElem? (i := 630) rfl, List.mem_of_getElem? (i := 861) rfl, List.mem_of_getElem? (i := 862) rfl⟩
set_option maxRecDepth 100000 in
theorem lw_p57 : lw_okq (⟨"NamedWindModel", "behind", "(IIII)I"⟩, 44) := ⟨⟨by decide +kernel, by decide +kernel⟩, List.mem_of_getElem? (i := 630) rfl, List.mem_of_getElem? (i := 865) rfl, List.mem_of_getElem? (i := 866) rfl⟩
set_option maxRecDepth 100000 in
theorem lw_p58 : lw_okq (⟨"NamedWindModel", "homeMany", "()I"⟩, 44) := ⟨⟨by decide +kernel, by decide +kernel⟩, List.mem_of_getElem? (i := 630) rfl, List.mem_of_getElem? (i := 869) rfl, List.mem_of_getElem? (i := 870) rfl⟩
set_option maxRecDepth 100000 in
theorem lw_p59 : lw_okq (⟨"NamedWindModel", "likelyNow", "(III)J"⟩, 44) := ⟨⟨by decide +kernel, by decide +kernel⟩, List.mem_of_getElem? (i := 630) rfl, List.mem_of_getElem? (i := 885) rfl, List.mem_of_getElem? (i := 886) rfl⟩
set_option maxRecDepth 100000 in
theorem lw_p60 : lw_okq (⟨"NamedWindModel", "layChances", "(II)V"⟩, 44) := ⟨⟨by decide +kernel, by decide +kernel⟩, List.mem_of_getElem? (i := 630) rfl, List.mem_of_getElem? (i := 889) rfl, List.mem_of_getElem? (i := 890) rfl⟩
set_option maxRecDepth 100000 in
theorem lw_p61 : lw_okq (⟨"NamedWindModel", "overSigns", "(IIII)J"⟩, 44) := ⟨⟨by decide +kernel, by decide +kernel⟩, List.mem_of_getElem? (i := 630) rfl, List.mem_of_getElem? (i := 896) rfl, List.mem_of_getElem? (i := 897) rfl⟩
set_option maxRecDepth 100000 in
theorem lw_p62 : lw_okq (⟨"NamedWindModel", "bestCall", "(IIIII)I"⟩, 44) := ⟨⟨by decide +kernel, by decide +kernel⟩, List.mem_of_getElem? (i := 630) rfl, List.mem_of_getElem? (i := 900) rfl, List.mem_of_getElem? (i := 901) rfl⟩
set_option maxRecDepth 100000 in
theorem lw_p63 : lw_okq (⟨"NamedWindModel", "chanceBy", "(IIIIII)J"⟩, 44) := ⟨⟨by decide +kernel, by decide +kernel⟩, List.mem_of_getElem? (i := 630) rfl, List.mem_of_getElem? (i := 904) rfl, List.mem_of_getElem? (i := 905) rfl⟩
def lw_privs_4 : List (MethodName × Nat) := [(⟨"NamedWind", "mixShip", "(JI)J"⟩, 11), (⟨"NamedWindModel", "readBook", "()V"⟩, 44), (⟨"NamedWindModel", "nextState", "(II)I"⟩, 44), (⟨"NamedWindModel", "takesName", "(I)Z"⟩, 44), (⟨"NamedWindModel", "takesTenths", "(II)Z"⟩, 44), (⟨"NamedWindModel", "isShip", "(I)Z"⟩, 44), (⟨"NamedWindModel", "shipNow", "(II)I"⟩, 44), (⟨"NamedWindModel", "isCalledToo", "(II)Z"⟩, 44), (⟨"NamedWindModel", "answer", "(II)V"⟩, 44), (⟨"NamedWindModel", "behind", "(IIII)I"⟩, 44), (⟨"NamedWindModel", "homeMany", "()I"⟩, 44), (⟨"NamedWindModel", "likelyNow", "(III)J"⟩, 44), (⟨"NamedWindModel", "layChances", "(II)V"⟩, 44), (⟨"NamedWindModel", "overSigns", "(IIII)J"⟩, 44), (⟨"NamedWindModel", "bestCall", "(IIIII)I"⟩, 44), (⟨"NamedWindModel", "chanceBy", "(IIIIII)J"⟩, 44)]
theorem lw_r4 : ∀ q ∈ lw_privs_4, lw_okq q := List.forall_mem_cons.mpr ⟨lw_p48, List.forall_mem_cons.mpr ⟨lw_p49, List.forall_mem_cons.mpr ⟨lw_p50, List.forall_mem_cons.mpr ⟨lw_p51, List.forall_mem_cons.mpr ⟨lw_p52, List.forall_mem_cons.mpr ⟨lw_p53, List.forall_mem_cons.mpr ⟨lw_p54, List.forall_mem_cons.mpr ⟨lw_p55, List.forall_mem_cons.mpr ⟨lw_p56, List.forall_mem_cons.mpr ⟨lw_p57, List.forall_mem_cons.mpr ⟨lw_p58, List.forall_mem_cons.mpr ⟨lw_p59, List.forall_mem_cons.mpr ⟨lw_p60, List.forall_mem_cons.mpr ⟨lw_p61, List.forall_mem_cons.mpr ⟨lw_p62, List.forall_mem_cons.mpr ⟨lw_p63, fun _ h => absurd h List.not_mem_nil⟩⟩⟩⟩⟩⟩⟩⟩⟩⟩⟩⟩⟩⟩⟩⟩
set_option maxRecDepth 100000 in
theorem lw_p64 : lw_okq (⟨"NamedWindModel", "sureNow", "(I)I"⟩, 44) := ⟨⟨by decide +kernel, by decide +kernel⟩, List.mem_of_getElem? (i := 630) rfl, List.mem_of_getElem? (i := 928) rfl, List.mem_of_getElem? (i := 929) rfl⟩
set_option maxRecDepth 100000 in
theorem lw_p65 : lw_okq (⟨"NamedWindModel", "isSure", "(IIII)Z"⟩, 44) := ⟨⟨by decide +kernel, by decide +kernel⟩, List.mem_of_getElem? (i := 630) rfl, List.mem_of_getElem? (i := 932) rfl, List.mem_of_getElem? (i := 933) rfl⟩
set_option maxRecDepth 100000 in
theorem lw_p66 : lw_okq (⟨"NamedWindModel", "sureBy", "(IIIIII)Z"⟩, 44) := ⟨⟨by decide +kernel, by decide +kernel⟩, List.mem_of_getElem? (i := 630) rfl, List.mem_of_getElem? (i := 936) rfl, List.mem_of_getElem? (i := 937) rfl⟩
set_option maxRecDepth 100000 in
theorem lw_p67 : lw_okq (⟨"NamedWindModel", "tellsNow", "()I"⟩, 44) := ⟨⟨by decide +kernel, by decide +kernel⟩, List.mem_of_getElem? (i := 630) rfl, List.mem_of_getElem? (i := 944) rfl, List.mem_of_getElem? (i := 945) rfl⟩
set_option maxRecDepth 100000 in
theorem lw_p68 : lw_okq (⟨"NamedWindModel", "raceNow", "(III)J"⟩, 44) := ⟨⟨by decide +kernel, by decide +kernel⟩, List.mem_of_getElem? (i := 630) rfl, List.mem_of_getElem? (i := 952) rfl, List.mem_of_getElem? (i := 953) rfl⟩
set_option maxRecDepth 100000 in
theorem lw_p69 : lw_okq (⟨"NamedWindModel", "guessNow", "(I)I"⟩, 44) := ⟨⟨by decide +kernel, by decide +kernel⟩, List.mem_of_getElem? (i := 630) rfl, List.mem_of_getElem? (i := 960) rfl, List.mem_of_getElem? (i := 961) rfl⟩
set_option maxRecDepth 100000 in
theorem lw_p70 : lw_okq (⟨"NamedWindModel", "calledNow", "()I"⟩, 44) := ⟨⟨by decide +kernel, by decide +kernel⟩, List.mem_of_getElem? (i := 630) rfl, List.mem_of_getElem? (i := 976) rfl, List.mem_of_getElem? (i := 977) rfl⟩
set_option maxRecDepth 100000 in
theorem lw_p71 : lw_okq (⟨"NamedWindModel", "waysBy", "(II)I"⟩, 44) := ⟨⟨by decide +kernel, by decide +kernel⟩, List.mem_of_getElem? (i := 630) rfl, List.mem_of_getElem? (i := 980) rfl, List.mem_of_getElem? (i := 981) rfl⟩
set_option maxRecDepth 100000 in
theorem lw_p72 : lw_okq (⟨"NamedWindModel", "canBlow", "(I)Z"⟩, 44) := ⟨⟨by decide +kernel, by decide +kernel⟩, List.mem_of_getElem? (i := 630) rfl, List.mem_of_getElem? (i := 984) rfl, List.mem_of_getElem? (i := 985) rfl⟩
set_option maxRecDepth 100000 in
theorem lw_p73 : lw_okq (⟨"NamedWindModel", "yearsNow", "(III)I"⟩, 44) := ⟨⟨by decide +kernel, by decide +kernel⟩, List.mem_of_getElem? (i := 630) rfl, List.mem_of_getElem? (i := 996) rfl, List.mem_of_getElem? (i := 997) rfl⟩
set_option maxRecDepth 100000 in
theorem lw_p74 : lw_okq (⟨"NamedWindModel", "goYearDay", "()V"⟩, 44) := ⟨⟨by decide +kernel, by decide +kernel⟩, List.mem_of_getElem? (i := 630) rfl, List.mem_of_getElem? (i := 1000) rfl, List.mem_of_getElem? (i := 1001) rfl⟩
set_option maxRecDepth 100000 in
theorem lw_p75 : lw_okq (⟨"NamedWindModel", "draw", "(I)I"⟩, 44) := ⟨⟨by decide +kernel, by decide +kernel⟩, List.mem_of_getElem? (i := 630) rfl, List.mem_of_getElem? (i := 1004) rfl, List.mem_of_getElem? (i := 1005) rfl⟩
set_option maxRecDepth 100000 in
theorem lw_p76 : lw_okq (⟨"NamedWindModel", "drawnWind", "(I)I"⟩, 44) := ⟨⟨by decide +kernel, by decide +kernel⟩, List.mem_of_getElem? (i := 630) rfl, List.mem_of_getElem? (i := 1012) rfl, List.mem_of_getElem? (i := 1013) rfl⟩
set_option maxRecDepth 100000 in
theorem lw_p77 : lw_okq (⟨"NamedWindModel", "howMany", "(I)I"⟩, 44) := ⟨⟨by decide +kernel, by decide +kernel⟩, List.mem_of_getElem? (i := 630) rfl, List.mem_of_getElem? (i := 1028) rfl, List.mem_of_getElem? (i := 1029) rfl⟩
set_option maxRecDepth 100000 in
theorem lw_p78 : lw_okq (⟨"NamedWindModel", "mix", "(J)V"⟩, 44) := ⟨⟨by decide +kernel, by decide +kernel⟩, List.mem_of_getElem? (i := 630) rfl, List.mem_of_getElem? (i := 1037) rfl, List.mem_of_getElem? (i := 1038) rfl⟩
def lw_privs_5 : List (MethodName × Nat) := [(⟨"NamedWindModel", "sureNow", "(I)I"⟩, 44), (⟨"NamedWindModel", "isSure", "(IIII)Z"⟩, 44), (⟨"NamedWindModel", "sureBy", "(IIIIII)Z"⟩, 44), (⟨"NamedWindModel", "tellsNow", "()I"⟩, 44), (⟨"NamedWindModel", "raceNow", "(III)J"⟩, 44), (⟨"NamedWindModel", "guessNow", "(I)I"⟩, 44), (⟨"NamedWindModel", "calledNow", "()I"⟩, 44), (⟨"NamedWindModel", "waysBy", "(II)I"⟩, 44), (⟨"NamedWindModel", "canBlow", "(I)Z"⟩, 44), (⟨"NamedWindModel", "yearsNow", "(III)I"⟩, 44), (⟨"NamedWindModel", "goYearDay", "()V"⟩, 44), (⟨"NamedWindModel", "draw", "(I)I"⟩, 44), (⟨"NamedWindModel", "drawnWind", "(I)I"⟩, 44), (⟨"NamedWindModel", "howMany", "(I)I"⟩, 44), (⟨"NamedWindModel", "mix", "(J)V"⟩, 44)]
theorem lw_r5 : ∀ q ∈ lw_privs_5, lw_okq q := List.forall_mem_cons.mpr ⟨lw_p64, List.forall_mem_cons.mpr ⟨lw_p65, List.forall_mem_cons.mpr ⟨lw_p66, List.forall_mem_cons.mpr ⟨lw_p67, List.forall_mem_cons.mpr ⟨lw_p68, List.forall_mem_cons.mpr ⟨lw_p69, List.forall_mem_cons.mpr ⟨lw_p70, List.forall_mem_cons.mpr ⟨lw_p71, List.forall_mem_cons.mpr ⟨lw_p72, List.forall_mem_cons.mpr ⟨lw_p73, List.forall_mem_cons.mpr ⟨lw_p74, List.forall_mem_cons.mpr ⟨lw_p75, List.forall_mem_cons.mpr ⟨lw_p76, List.forall_mem_cons.mpr ⟨lw_p77, List.forall_mem_cons.mpr ⟨lw_p78, fun _ h => absurd h List.not_mem_nil⟩⟩⟩⟩⟩⟩⟩⟩⟩⟩⟩⟩⟩⟩⟩
def lw_privs : List (MethodName × Nat) := lw_privs_1 ++ (lw_privs_2 ++ (lw_privs_3 ++ (lw_privs_4 ++ (lw_privs_5))))
def lw_tbl : List Cond := k2_sels lw_privs ++ tables_1
theorem lw_privs_ok : ∀ q ∈ lw_privs, lw_okq q := by
  show ∀ q ∈ lw_privs_1 ++ (lw_privs_2 ++ (lw_privs_3 ++ (lw_privs_4 ++ (lw_privs_5)))), lw_okq q
  exact List.forall_mem_append.mpr ⟨lw_r1, List.forall_mem_append.mpr ⟨lw_r2, List.forall_mem_append.mpr ⟨lw_r3, List.forall_mem_append.mpr ⟨lw_r4, lw_r5⟩⟩⟩⟩
-- ===== end of PART A; then your names; then what follows =====
end
section
/-! ===== BEGIN words of one list among another's, by their places ===== -/
theorem goodIn_r {big : List Cond} (ws : List Cond) (ps : List Nat) (hp : ws = ps.filterMap (fun i => big[i]?)) (h : ws.all goodWord = true) : GoodIn big ws := by
  intro w hw
  have h1 := List.all_eq_true.mp h w hw
  rw [hp] at hw
  obtain ⟨i, -, hi⟩ := List.mem_filterMap.mp hw
  have hm : w ∈ big := by first | exact List.mem_of_getElem? hi | exact List.getElem?_mem hi
  exact ⟨hm, good_of_word h1⟩
theorem goodIn_app {big a b : List Cond} (ha : GoodIn big a) (hb : GoodIn big b) : GoodIn big (a ++ b) := fun w h => (List.mem_append.mp h).elim (ha w) (hb w)
theorem goodIn_ca {big a b : List Cond} {c : Cond} (ha : GoodIn big (c :: a)) (hb : GoodIn big b) : GoodIn big (c :: (a ++ b)) := fun w h => (List.mem_cons.mp h).elim (fun e => ha w (List.mem_cons.mpr (Or.inl e))) (fun h => (List.mem_append.mp h).elim (fun h => ha w (List.mem_cons.mpr (Or.inr h))) (hb w))
theorem goodIn_sub {big ws : List Cond} (hm : ∀ w ∈ ws, w ∈ big) (h : ws.all goodWord = true) : GoodIn big ws := fun w hw => ⟨hm w hw, good_of_word (List.all_eq_true.mp h w hw)⟩
/-! ===== END ===== -/


/-! ===== BEGIN printed: names, fields, word lists, decode rows ===== -/
def RX0 : String := "NamedWind$Book"
def TX0 : u_T := fun k => match k with
  | 0 => ("NamedWind$Book", "strength", "[[I", true)
  | _ => ("NamedWind$Book", "owner", "[I", true)
def tyX0 : Nat → FieldType := fun k => match k with
  | 0 => .array (.array .int)
  | _ => .array .int
abbrev wsX00 : List Cond := u_ws RX0 TX0 2
theorem nmX0 : ∀ a, a < 2 → ∀ b, b < 2 → a ≠ b → (TX0 a).2.1 ≠ (TX0 b).2.1 := by decide +kernel
theorem tyX0_ok : ∀ k, k < 2 → parseFieldDescriptor (TX0 k).2.2.1 = some (tyX0 k) := by decide +kernel
abbrev cX0_init : ByteArray := prog_2_method_1_code
def yX0_init : MethodName := ⟨RX0, "<init>", "()V"⟩
abbrev cX0_clear : ByteArray := prog_2_method_2_code
def yX0_clear : MethodName := ⟨RX0, "clear", "()V"⟩
abbrev cX0_nameCount : ByteArray := prog_2_method_3_code
def yX0_nameCount : MethodName := ⟨RX0, "nameCount", "()I"⟩
abbrev cX0_favours : ByteArray := prog_2_method_4_code
def yX0_favours : MethodName := ⟨RX0, "favours", "(II)Z"⟩
abbrev cX0_favour : ByteArray := prog_2_method_5_code
def yX0_favour : MethodName := ⟨RX0, "favour", "(II)I"⟩
abbrev cX0_strengthInAll : ByteArray := prog_2_method_6_code
def yX0_strengthInAll : MethodName := ⟨RX0, "strengthInAll", "(I)I"⟩
abbrev cX0_tellingSign : ByteArray := prog_2_method_7_code
def yX0_tellingSign : MethodName := ⟨RX0, "tellingSign", "()I"⟩
abbrev cX0_strongest : ByteArray := prog_2_method_8_code
def yX0_strongest : MethodName := ⟨RX0, "strongest", "(I)I"⟩
def RX1 : String := "NamedWind$Forecast"
def TX1 : u_T := fun k => match k with
  | 0 => ("NamedWind$Forecast", "found", "[[I", true)
  | 1 => ("NamedWind$Forecast", "ahead", "[[I", true)
  | 2 => ("NamedWind$Forecast", "calm", "[I", true)
  | _ => ("NamedWind$Forecast", "kind", "I", false)
def tyX1 : Nat → FieldType := fun k => match k with
  | 0 => .array (.array .int)
  | 1 => .array (.array .int)
  | 2 => .array .int
  | _ => .int
abbrev wsX10 : List Cond := u_ws RX1 TX1 4
theorem nmX1 : ∀ a, a < 4 → ∀ b, b < 4 → a ≠ b → (TX1 a).2.1 ≠ (TX1 b).2.1 := by decide +kernel
theorem tyX1_ok : ∀ k, k < 4 → parseFieldDescriptor (TX1 k).2.2.1 = some (tyX1 k) := by decide +kernel
abbrev cX1_init : ByteArray := prog_3_method_1_code
def yX1_init : MethodName := ⟨RX1, "<init>", "()V"⟩
abbrev cX1_begin : ByteArray := prog_3_method_2_code
def yX1_begin : MethodName := ⟨RX1, "begin", "(LNamedWind$Book;II)V"⟩
abbrev cX1_chances : ByteArray := prog_3_method_3_code
def yX1_chances : MethodName := ⟨RX1, "chances", "(III)I"⟩
abbrev cX1_bestCall : ByteArray := prog_3_method_4_code
def yX1_bestCall : MethodName := ⟨RX1, "bestCall", "(IIII)I"⟩
abbrev cX1_worth : ByteArray := prog_3_method_5_code
def yX1_worth : MethodName := ⟨RX1, "worth", "(IIIII)I"⟩
def RX2 : String := "NamedWind$Page"
def TX2 : u_T := fun k => match k with
  | 0 => ("NamedWind$Page", "codes", "[I", true)
  | _ => ("NamedWind$Page", "length", "I", false)
def tyX2 : Nat → FieldType := fun k => match k with
  | 0 => .array .int
  | _ => .int
abbrev wsX20 : List Cond := u_ws RX2 TX2 2
theorem nmX2 : ∀ a, a < 2 → ∀ b, b < 2 → a ≠ b → (TX2 a).2.1 ≠ (TX2 b).2.1 := by decide +kernel
theorem tyX2_ok : ∀ k, k < 2 → parseFieldDescriptor (TX2 k).2.2.1 = some (tyX2 k) := by decide +kernel
abbrev cX2_init : ByteArray := prog_4_method_1_code
def yX2_init : MethodName := ⟨RX2, "<init>", "()V"⟩
abbrev cX2_add : ByteArray := prog_4_method_2_code
def yX2_add : MethodName := ⟨RX2, "add", "(J)I"⟩
abbrev cX2_empty : ByteArray := prog_4_method_3_code
def yX2_empty : MethodName := ⟨RX2, "empty", "()I"⟩
abbrev cX2_lettersIn : ByteArray := prog_4_method_4_code
def yX2_lettersIn : MethodName := ⟨RX2, "lettersIn", "(J)I"⟩
abbrev cX2_byteAt : ByteArray := prog_4_method_5_code
def yX2_byteAt : MethodName := ⟨RX2, "byteAt", "(JI)I"⟩
def RX3 : String := "NamedWind$Reader"
def TX3 : u_T := fun k => match k with
  | 0 => ("NamedWind$Reader", "next", "I", false)
  | _ => ("NamedWind$Reader", "wind", "I", false)
def tyX3 : Nat → FieldType := fun k => match k with
  | 0 => .int
  | _ => .int
abbrev wsX30 : List Cond := u_ws RX3 TX3 2
theorem nmX3 : ∀ a, a < 2 → ∀ b, b < 2 → a ≠ b → (TX3 a).2.1 ≠ (TX3 b).2.1 := by decide +kernel
theorem tyX3_ok : ∀ k, k < 2 → parseFieldDescriptor (TX3 k).2.2.1 = some (tyX3 k) := by decide +kernel
abbrev cX3_init : ByteArray := prog_5_method_1_code
def yX3_init : MethodName := ⟨RX3, "<init>", "()V"⟩
abbrev cX3_read : ByteArray := prog_5_method_2_code
def yX3_read : MethodName := ⟨RX3, "read", "(LNamedWind$Page;LNamedWind$Book;)I"⟩
abbrev cX3_atEnd : ByteArray := prog_5_method_3_code
def yX3_atEnd : MethodName := ⟨RX3, "atEnd", "()Z"⟩
abbrev cX3_takes : ByteArray := prog_5_method_4_code
def yX3_takes : MethodName := ⟨RX3, "takes", "(ILNamedWind$Book;)Z"⟩
abbrev cX3_takesMark : ByteArray := prog_5_method_5_code
def yX3_takesMark : MethodName := ⟨RX3, "takesMark", "(ICI)Z"⟩
abbrev cX3_takesName : ByteArray := prog_5_method_6_code
def yX3_takesName : MethodName := ⟨RX3, "takesName", "(ILNamedWind$Book;I)Z"⟩
abbrev cX3_takesTenths : ByteArray := prog_5_method_7_code
def yX3_takesTenths : MethodName := ⟨RX3, "takesTenths", "(ILNamedWind$Book;)Z"⟩
abbrev cX3_takesNextWind : ByteArray := prog_5_method_8_code
def yX3_takesNextWind : MethodName := ⟨RX3, "takesNextWind", "(I)Z"⟩
def RX4 : String := "NamedWind$Sea"
def TX4 : u_T := fun k => match k with
  | 0 => ("NamedWind$Sea", "fleet", "[LNamedWind$Ship;", true)
  | 1 => ("NamedWind$Sea", "couldBe", "[I", true)
  | 2 => ("NamedWind$Sea", "ships", "I", false)
  | 3 => ("NamedWind$Sea", "spentNames", "I", false)
  | 4 => ("NamedWind$Sea", "days", "I", false)
  | _ => ("NamedWind$Sea", "answers", "I", false)
def tyX4 : Nat → FieldType := fun k => match k with
  | 0 => .array (.object "NamedWind$Ship")
  | 1 => .array .int
  | 2 => .int
  | 3 => .int
  | 4 => .int
  | _ => .int
abbrev wsX40 : List Cond := u_ws RX4 TX4 6
theorem nmX4 : ∀ a, a < 6 → ∀ b, b < 6 → a ≠ b → (TX4 a).2.1 ≠ (TX4 b).2.1 := by decide +kernel
theorem tyX4_ok : ∀ k, k < 6 → parseFieldDescriptor (TX4 k).2.2.1 = some (tyX4 k) := by decide +kernel
abbrev cX4_init : ByteArray := prog_6_method_1_code
def yX4_init : MethodName := ⟨RX4, "<init>", "()V"⟩
abbrev cX4_clear : ByteArray := prog_6_method_2_code
def yX4_clear : MethodName := ⟨RX4, "clear", "()V"⟩
abbrev cX4_copyFrom : ByteArray := prog_6_method_3_code
def yX4_copyFrom : MethodName := ⟨RX4, "copyFrom", "(LNamedWind$Sea;)V"⟩
abbrev cX4_add : ByteArray := prog_6_method_4_code
def yX4_add : MethodName := ⟨RX4, "add", "(II)I"⟩
abbrev cX4_isSpent : ByteArray := prog_6_method_5_code
def yX4_isSpent : MethodName := ⟨RX4, "isSpent", "(I)Z"⟩
abbrev cX4_freeNames : ByteArray := prog_6_method_6_code
def yX4_freeNames : MethodName := ⟨RX4, "freeNames", "()I"⟩
abbrev cX4_spentCount : ByteArray := prog_6_method_7_code
def yX4_spentCount : MethodName := ⟨RX4, "spentCount", "()I"⟩
abbrev cX4_homeCount : ByteArray := prog_6_method_8_code
def yX4_homeCount : MethodName := ⟨RX4, "homeCount", "()I"⟩
abbrev cX4_placesTogether : ByteArray := prog_6_method_9_code
def yX4_placesTogether : MethodName := ⟨RX4, "placesTogether", "()I"⟩
abbrev cX4_replaceCall : ByteArray := prog_6_method_10_code
def yX4_replaceCall : MethodName := ⟨RX4, "replaceCall", "(II)I"⟩
abbrev cX4_beginCall : ByteArray := prog_6_method_11_code
def yX4_beginCall : MethodName := ⟨RX4, "beginCall", "(II)V"⟩
abbrev cX4_isSpentToday : ByteArray := prog_6_method_12_code
def yX4_isSpentToday : MethodName := ⟨RX4, "isSpentToday", "(I)Z"⟩
abbrev cX4_passDay : ByteArray := prog_6_method_13_code
def yX4_passDay : MethodName := ⟨RX4, "passDay", "(LNamedWind$Book;I)V"⟩
abbrev cX4_answer : ByteArray := prog_6_method_14_code
def yX4_answer : MethodName := ⟨RX4, "answer", "(LNamedWind$Book;LNamedWind$Ship;I)V"⟩
abbrev cX4_passYears : ByteArray := prog_6_method_15_code
def yX4_passYears : MethodName := ⟨RX4, "passYears", "(LNamedWind$Book;II)I"⟩
abbrev cX4_windDrawn : ByteArray := prog_6_method_16_code
def yX4_windDrawn : MethodName := ⟨RX4, "windDrawn", "(LNamedWind$Book;II)I"⟩
abbrev cX4_nextSeed : ByteArray := prog_6_method_17_code
def yX4_nextSeed : MethodName := ⟨RX4, "nextSeed", "(I)I"⟩
abbrev cX4_drawOf : ByteArray := prog_6_method_18_code
def yX4_drawOf : MethodName := ⟨RX4, "drawOf", "(II)I"⟩
def RX5 : String := "NamedWind$Ship"
def TX5 : u_T := fun k => match k with
  | 0 => ("NamedWind$Ship", "kind", "I", false)
  | 1 => ("NamedWind$Ship", "place", "I", false)
  | 2 => ("NamedWind$Ship", "call", "I", false)
  | 3 => ("NamedWind$Ship", "served", "I", false)
  | _ => ("NamedWind$Ship", "turned", "I", false)
def tyX5 : Nat → FieldType := fun k => match k with
  | 0 => .int
  | 1 => .int
  | 2 => .int
  | 3 => .int
  | _ => .int
abbrev wsX50 : List Cond := u_ws RX5 TX5 5
theorem nmX5 : ∀ a, a < 5 → ∀ b, b < 5 → a ≠ b → (TX5 a).2.1 ≠ (TX5 b).2.1 := by decide +kernel
theorem tyX5_ok : ∀ k, k < 5 → parseFieldDescriptor (TX5 k).2.2.1 = some (tyX5 k) := by decide +kernel
abbrev cX5_init : ByteArray := prog_7_method_1_code
def yX5_init : MethodName := ⟨RX5, "<init>", "()V"⟩
abbrev cX5_begin : ByteArray := prog_7_method_2_code
def yX5_begin : MethodName := ⟨RX5, "begin", "(II)V"⟩
abbrev cX5_copyFrom : ByteArray := prog_7_method_3_code
def yX5_copyFrom : MethodName := ⟨RX5, "copyFrom", "(LNamedWind$Ship;)V"⟩
abbrev cX5_tell : ByteArray := prog_7_method_4_code
def yX5_tell : MethodName := ⟨RX5, "tell", "(I)I"⟩
abbrev cX5_isA : ByteArray := prog_7_method_5_code
def yX5_isA : MethodName := ⟨RX5, "isA", "(I)Z"⟩
abbrev cX5_spends : ByteArray := prog_7_method_6_code
def yX5_spends : MethodName := ⟨RX5, "spends", "(I)Z"⟩
def RX6 : String := "NamedWind$Wake"
def TX6 : u_T := fun k => match k with
  | 0 => ("NamedWind$Wake", "places", "[I", true)
  | 1 => ("NamedWind$Wake", "begun", "Z", false)
  | 2 => ("NamedWind$Wake", "kind", "I", false)
  | _ => ("NamedWind$Wake", "days", "I", false)
def tyX6 : Nat → FieldType := fun k => match k with
  | 0 => .array .int
  | 1 => .boolean
  | 2 => .int
  | _ => .int
abbrev wsX60 : List Cond := u_ws RX6 TX6 4
theorem nmX6 : ∀ a, a < 4 → ∀ b, b < 4 → a ≠ b → (TX6 a).2.1 ≠ (TX6 b).2.1 := by decide +kernel
theorem tyX6_ok : ∀ k, k < 4 → parseFieldDescriptor (TX6 k).2.2.1 = some (tyX6 k) := by decide +kernel
abbrev cX6_init : ByteArray := prog_8_method_1_code
def yX6_init : MethodName := ⟨RX6, "<init>", "()V"⟩
abbrev cX6_begin : ByteArray := prog_8_method_2_code
def yX6_begin : MethodName := ⟨RX6, "begin", "(II)V"⟩
abbrev cX6_end : ByteArray := prog_8_method_3_code
def yX6_end : MethodName := ⟨RX6, "end", "()V"⟩
abbrev cX6_add : ByteArray := prog_8_method_4_code
def yX6_add : MethodName := ⟨RX6, "add", "(I)I"⟩
abbrev cX6_ways : ByteArray := prog_8_method_5_code
def yX6_ways : MethodName := ⟨RX6, "ways", "(LNamedWind$Book;)I"⟩
abbrev cX6_waysBy : ByteArray := prog_8_method_6_code
def yX6_waysBy : MethodName := ⟨RX6, "waysBy", "(LNamedWind$Book;II)I"⟩
abbrev cX6_callOn : ByteArray := prog_8_method_7_code
def yX6_callOn : MethodName := ⟨RX6, "callOn", "(LNamedWind$Book;I)I"⟩
def RX7 : String := "NamedWind"
def TX7 : u_T := fun k => match k with
  | 0 => ("NamedWind", "page", "LNamedWind$Page;", true)
  | 1 => ("NamedWind", "reader", "LNamedWind$Reader;", true)
  | 2 => ("NamedWind", "sea", "LNamedWind$Sea;", true)
  | 3 => ("NamedWind", "kept", "LNamedWind$Sea;", true)
  | 4 => ("NamedWind", "dream", "LNamedWind$Sea;", true)
  | 5 => ("NamedWind", "trail", "LNamedWind$Wake;", true)
  | 6 => ("NamedWind", "forecast", "LNamedWind$Forecast;", true)
  | 7 => ("NamedWind", "current", "LNamedWind$Book;", false)
  | 8 => ("NamedWind", "draft", "LNamedWind$Book;", false)
  | 9 => ("NamedWind", "booksRead", "I", false)
  | _ => ("NamedWind", "imageKept", "Z", false)
def tyX7 : Nat → FieldType := fun k => match k with
  | 0 => .object "NamedWind$Page"
  | 1 => .object "NamedWind$Reader"
  | 2 => .object "NamedWind$Sea"
  | 3 => .object "NamedWind$Sea"
  | 4 => .object "NamedWind$Sea"
  | 5 => .object "NamedWind$Wake"
  | 6 => .object "NamedWind$Forecast"
  | 7 => .object "NamedWind$Book"
  | 8 => .object "NamedWind$Book"
  | 9 => .int
  | _ => .boolean
abbrev wsX70 : List Cond := u_ws RX7 TX7 11
theorem nmX7 : ∀ a, a < 11 → ∀ b, b < 11 → a ≠ b → (TX7 a).2.1 ≠ (TX7 b).2.1 := by decide +kernel
theorem tyX7_ok : ∀ k, k < 11 → parseFieldDescriptor (TX7 k).2.2.1 = some (tyX7 k) := by decide +kernel
abbrev cX7_init : ByteArray := prog_1_method_1_code
def yX7_init : MethodName := ⟨RX7, "<init>", "()V"⟩
abbrev cX7_letters : ByteArray := prog_1_method_2_code
def yX7_letters : MethodName := ⟨RX7, "letters", "(J)I"⟩
abbrev cX7_blank : ByteArray := prog_1_method_3_code
def yX7_blank : MethodName := ⟨RX7, "blank", "()I"⟩
abbrev cX7_fault : ByteArray := prog_1_method_4_code
def yX7_fault : MethodName := ⟨RX7, "fault", "()I"⟩
abbrev cX7_book : ByteArray := prog_1_method_5_code
def yX7_book : MethodName := ⟨RX7, "book", "()I"⟩
abbrev cX7_tenths : ByteArray := prog_1_method_6_code
def yX7_tenths : MethodName := ⟨RX7, "tenths", "(II)I"⟩
abbrev cX7_windOf : ByteArray := prog_1_method_7_code
def yX7_windOf : MethodName := ⟨RX7, "windOf", "(I)I"⟩
abbrev cX7_ship : ByteArray := prog_1_method_8_code
def yX7_ship : MethodName := ⟨RX7, "ship", "(II)I"⟩
abbrev cX7_about : ByteArray := prog_1_method_9_code
def yX7_about : MethodName := ⟨RX7, "about", "(II)I"⟩
abbrev cX7_as : ByteArray := prog_1_method_10_code
def yX7_as : MethodName := ⟨RX7, "as", "(II)I"⟩
abbrev cX7_call : ByteArray := prog_1_method_11_code
def yX7_call : MethodName := ⟨RX7, "call", "(II)I"⟩
abbrev cX7_spent : ByteArray := prog_1_method_12_code
def yX7_spent : MethodName := ⟨RX7, "spent", "(I)I"⟩
abbrev cX7_blow : ByteArray := prog_1_method_13_code
def yX7_blow : MethodName := ⟨RX7, "blow", "(I)I"⟩
abbrev cX7_moon : ByteArray := prog_1_method_14_code
def yX7_moon : MethodName := ⟨RX7, "moon", "()I"⟩
abbrev cX7_likely : ByteArray := prog_1_method_15_code
def yX7_likely : MethodName := ⟨RX7, "likely", "(III)J"⟩
abbrev cX7_what : ByteArray := prog_1_method_16_code
def yX7_what : MethodName := ⟨RX7, "what", "(III)I"⟩
abbrev cX7_sure : ByteArray := prog_1_method_17_code
def yX7_sure : MethodName := ⟨RX7, "sure", "(I)I"⟩
abbrev cX7_tells : ByteArray := prog_1_method_18_code
def yX7_tells : MethodName := ⟨RX7, "tells", "()I"⟩
abbrev cX7_race : ByteArray := prog_1_method_19_code
def yX7_race : MethodName := ⟨RX7, "race", "(IIII)J"⟩
abbrev cX7_guess : ByteArray := prog_1_method_20_code
def yX7_guess : MethodName := ⟨RX7, "guess", "(I)I"⟩
abbrev cX7_wake : ByteArray := prog_1_method_21_code
def yX7_wake : MethodName := ⟨RX7, "wake", "(II)I"⟩
abbrev cX7_then : ByteArray := prog_1_method_22_code
def yX7_then : MethodName := ⟨RX7, "then", "(I)I"⟩
abbrev cX7_called : ByteArray := prog_1_method_23_code
def yX7_called : MethodName := ⟨RX7, "called", "()I"⟩
abbrev cX7_by : ByteArray := prog_1_method_24_code
def yX7_by : MethodName := ⟨RX7, "by", "(I)I"⟩
abbrev cX7_years : ByteArray := prog_1_method_25_code
def yX7_years : MethodName := ⟨RX7, "years", "(III)I"⟩
abbrev cX7_image : ByteArray := prog_1_method_26_code
def yX7_image : MethodName := ⟨RX7, "image", "()I"⟩
abbrev cX7_restore : ByteArray := prog_1_method_27_code
def yX7_restore : MethodName := ⟨RX7, "restore", "()I"⟩
abbrev cX7_count : ByteArray := prog_1_method_28_code
def yX7_count : MethodName := ⟨RX7, "count", "(I)I"⟩
abbrev cX7_digest : ByteArray := prog_1_method_29_code
def yX7_digest : MethodName := ⟨RX7, "digest", "()J"⟩
abbrev cX7_mixBook : ByteArray := prog_1_method_30_code
def yX7_mixBook : MethodName := ⟨RX7, "mixBook", "(J)J"⟩
abbrev cX7_mixShip : ByteArray := prog_1_method_31_code
def yX7_mixShip : MethodName := ⟨RX7, "mixShip", "(JI)J"⟩
abbrev cX7_mix : ByteArray := prog_1_method_32_code
def yX7_mix : MethodName := ⟨RX7, "mix", "(JJ)J"⟩
abbrev cX7_hasBook : ByteArray := prog_1_method_33_code
def yX7_hasBook : MethodName := ⟨RX7, "hasBook", "()Z"⟩
abbrev cX7_isShip : ByteArray := prog_1_method_34_code
def yX7_isShip : MethodName := ⟨RX7, "isShip", "(I)Z"⟩
abbrev cX7_isName : ByteArray := prog_1_method_35_code
def yX7_isName : MethodName := ⟨RX7, "isName", "(I)Z"⟩
abbrev cX7_isWindOrCalm : ByteArray := prog_1_method_36_code
def yX7_isWindOrCalm : MethodName := ⟨RX7, "isWindOrCalm", "(I)Z"⟩
abbrev cX7_isSign : ByteArray := prog_1_method_37_code
def yX7_isSign : MethodName := ⟨RX7, "isSign", "(I)Z"⟩
abbrev cX7_isKind : ByteArray := prog_1_method_38_code
def yX7_isKind : MethodName := ⟨RX7, "isKind", "(I)Z"⟩
abbrev cX7_isPlace : ByteArray := prog_1_method_39_code
def yX7_isPlace : MethodName := ⟨RX7, "isPlace", "(I)Z"⟩
abbrev cX7_isPart : ByteArray := prog_1_method_40_code
def yX7_isPart : MethodName := ⟨RX7, "isPart", "(I)Z"⟩
abbrev cX7_placeAhead : ByteArray := prog_1_method_41_code
def yX7_placeAhead : MethodName := ⟨RX7, "placeAhead", "(III)I"⟩
abbrev cX7_placeBehind : ByteArray := prog_1_method_42_code
def yX7_placeBehind : MethodName := ⟨RX7, "placeBehind", "(III)I"⟩
abbrev cX7_placeAfter : ByteArray := prog_1_method_43_code
def yX7_placeAfter : MethodName := ⟨RX7, "placeAfter", "(LNamedWind$Book;IIII)I"⟩
abbrev cX7_raceChances : ByteArray := prog_1_method_44_code
def yX7_raceChances : MethodName := ⟨RX7, "raceChances", "(LNamedWind$Book;III)I"⟩
abbrev cX7_inLowestTerms : ByteArray := prog_1_method_45_code
def yX7_inLowestTerms : MethodName := ⟨RX7, "inLowestTerms", "(III)J"⟩
abbrev cX7_greatestShared : ByteArray := prog_1_method_46_code
def yX7_greatestShared : MethodName := ⟨RX7, "greatestShared", "(II)I"⟩
def RX8 : String := "NamedWindModel"
def TX8 : u_T := fun k => match k with
  | 0 => ("NamedWindModel", "isBook", "Z", false)
  | 1 => ("NamedWindModel", "books", "I", false)
  | 2 => ("NamedWindModel", "names", "I", false)
  | 3 => ("NamedWindModel", "tenthsOf", "[I", true)
  | 4 => ("NamedWindModel", "windOfName", "[I", true)
  | 5 => ("NamedWindModel", "ships", "I", false)
  | 6 => ("NamedWindModel", "kindOf", "[I", true)
  | 7 => ("NamedWindModel", "placeOf", "[I", true)
  | 8 => ("NamedWindModel", "callOf", "[I", true)
  | 9 => ("NamedWindModel", "servedOf", "[I", true)
  | 10 => ("NamedWindModel", "turnedOf", "[I", true)
  | 11 => ("NamedWindModel", "spentSet", "I", false)
  | 12 => ("NamedWindModel", "days", "I", false)
  | 13 => ("NamedWindModel", "answers", "I", false)
  | 14 => ("NamedWindModel", "answerOf", "[I", true)
  | 15 => ("NamedWindModel", "wakeShip", "I", false)
  | 16 => ("NamedWindModel", "wakeDays", "I", false)
  | 17 => ("NamedWindModel", "wakeAt", "[I", true)
  | 18 => ("NamedWindModel", "pageLength", "I", false)
  | 19 => ("NamedWindModel", "page", "[B", true)
  | 20 => ("NamedWindModel", "faultAt", "I", false)
  | 21 => ("NamedWindModel", "isWhole", "Z", false)
  | 22 => ("NamedWindModel", "newWind", "I", false)
  | 23 => ("NamedWindModel", "newNames", "I", false)
  | 24 => ("NamedWindModel", "newTenths", "[I", true)
  | 25 => ("NamedWindModel", "newWindOf", "[I", true)
  | 26 => ("NamedWindModel", "chanceOf", "[J", true)
  | 27 => ("NamedWindModel", "sureOf", "[Z", true)
  | 28 => ("NamedWindModel", "raceOf", "[J", true)
  | 29 => ("NamedWindModel", "raceThen", "[J", true)
  | 30 => ("NamedWindModel", "seedNow", "J", false)
  | 31 => ("NamedWindModel", "savedPlace", "[I", true)
  | 32 => ("NamedWindModel", "yearCall", "[I", true)
  | 33 => ("NamedWindModel", "isKept", "Z", false)
  | 34 => ("NamedWindModel", "keptBook", "I", false)
  | 35 => ("NamedWindModel", "keptShips", "I", false)
  | 36 => ("NamedWindModel", "keptSpent", "I", false)
  | 37 => ("NamedWindModel", "keptDays", "I", false)
  | 38 => ("NamedWindModel", "keptAnswers", "I", false)
  | 39 => ("NamedWindModel", "keptPlace", "[I", true)
  | 40 => ("NamedWindModel", "keptServed", "[I", true)
  | 41 => ("NamedWindModel", "keptTurned", "[I", true)
  | 42 => ("NamedWindModel", "keptAnswer", "[I", true)
  | _ => ("NamedWindModel", "h", "J", false)
def tyX8 : Nat → FieldType := fun k => match k with
  | 0 => .boolean
  | 1 => .int
  | 2 => .int
  | 3 => .array .int
  | 4 => .array .int
  | 5 => .int
  | 6 => .array .int
  | 7 => .array .int
  | 8 => .array .int
  | 9 => .array .int
  | 10 => .array .int
  | 11 => .int
  | 12 => .int
  | 13 => .int
  | 14 => .array .int
  | 15 => .int
  | 16 => .int
  | 17 => .array .int
  | 18 => .int
  | 19 => .array .byte
  | 20 => .int
  | 21 => .boolean
  | 22 => .int
  | 23 => .int
  | 24 => .array .int
  | 25 => .array .int
  | 26 => .array .long
  | 27 => .array .boolean
  | 28 => .array .long
  | 29 => .array .long
  | 30 => .long
  | 31 => .array .int
  | 32 => .array .int
  | 33 => .boolean
  | 34 => .int
  | 35 => .int
  | 36 => .int
  | 37 => .int
  | 38 => .int
  | 39 => .array .int
  | 40 => .array .int
  | 41 => .array .int
  | 42 => .array .int
  | _ => .long
abbrev wsX80 : List Cond := u_ws RX8 TX8 44
theorem nmX8 : ∀ a, a < 44 → ∀ b, b < 44 → a ≠ b → (TX8 a).2.1 ≠ (TX8 b).2.1 := by decide +kernel
theorem tyX8_ok : ∀ k, k < 44 → parseFieldDescriptor (TX8 k).2.2.1 = some (tyX8 k) := by decide +kernel
abbrev cX8_init : ByteArray := prog_10_method_1_code
def yX8_init : MethodName := ⟨RX8, "<init>", "()V"⟩
abbrev cX8_within : ByteArray := prog_10_method_3_code
def yX8_within : MethodName := ⟨RX8, "within", "(III)Z"⟩
abbrev cX8_has : ByteArray := prog_10_method_4_code
def yX8_has : MethodName := ⟨RX8, "has", "(II)Z"⟩
abbrev cX8_size : ByteArray := prog_10_method_5_code
def yX8_size : MethodName := ⟨RX8, "size", "(I)I"⟩
abbrev cX8_letters : ByteArray := prog_10_method_6_code
def yX8_letters : MethodName := ⟨RX8, "letters", "(J)I"⟩
abbrev cX8_blank : ByteArray := prog_10_method_7_code
def yX8_blank : MethodName := ⟨RX8, "blank", "()I"⟩
abbrev cX8_takesName : ByteArray := prog_10_method_8_code
def yX8_takesName : MethodName := ⟨RX8, "takesName", "(I)Z"⟩
abbrev cX8_takesTenths : ByteArray := prog_10_method_9_code
def yX8_takesTenths : MethodName := ⟨RX8, "takesTenths", "(II)Z"⟩
abbrev cX8_nextState : ByteArray := prog_10_method_10_code
def yX8_nextState : MethodName := ⟨RX8, "nextState", "(II)I"⟩
abbrev cX8_readBook : ByteArray := prog_10_method_11_code
def yX8_readBook : MethodName := ⟨RX8, "readBook", "()V"⟩
abbrev cX8_fault : ByteArray := prog_10_method_12_code
def yX8_fault : MethodName := ⟨RX8, "fault", "()I"⟩
abbrev cX8_book : ByteArray := prog_10_method_13_code
def yX8_book : MethodName := ⟨RX8, "book", "()I"⟩
abbrev cX8_tenths : ByteArray := prog_10_method_14_code
def yX8_tenths : MethodName := ⟨RX8, "tenths", "(II)I"⟩
abbrev cX8_isName : ByteArray := prog_10_method_15_code
def yX8_isName : MethodName := ⟨RX8, "isName", "(I)Z"⟩
abbrev cX8_windOf : ByteArray := prog_10_method_16_code
def yX8_windOf : MethodName := ⟨RX8, "windOf", "(I)I"⟩
abbrev cX8_isShip : ByteArray := prog_10_method_17_code
def yX8_isShip : MethodName := ⟨RX8, "isShip", "(I)Z"⟩
abbrev cX8_isPlace : ByteArray := prog_10_method_18_code
def yX8_isPlace : MethodName := ⟨RX8, "isPlace", "(I)Z"⟩
abbrev cX8_ship : ByteArray := prog_10_method_19_code
def yX8_ship : MethodName := ⟨RX8, "ship", "(II)I"⟩
abbrev cX8_shipNow : ByteArray := prog_10_method_20_code
def yX8_shipNow : MethodName := ⟨RX8, "shipNow", "(II)I"⟩
abbrev cX8_about : ByteArray := prog_10_method_21_code
def yX8_about : MethodName := ⟨RX8, "about", "(II)I"⟩
abbrev cX8_as : ByteArray := prog_10_method_22_code
def yX8_as : MethodName := ⟨RX8, "as", "(II)I"⟩
abbrev cX8_call : ByteArray := prog_10_method_23_code
def yX8_call : MethodName := ⟨RX8, "call", "(II)I"⟩
abbrev cX8_isCalledToo : ByteArray := prog_10_method_24_code
def yX8_isCalledToo : MethodName := ⟨RX8, "isCalledToo", "(II)Z"⟩
abbrev cX8_spent : ByteArray := prog_10_method_25_code
def yX8_spent : MethodName := ⟨RX8, "spent", "(I)I"⟩
abbrev cX8_behind : ByteArray := prog_10_method_26_code
def yX8_behind : MethodName := ⟨RX8, "behind", "(IIII)I"⟩
abbrev cX8_homeMany : ByteArray := prog_10_method_27_code
def yX8_homeMany : MethodName := ⟨RX8, "homeMany", "()I"⟩
abbrev cX8_answer : ByteArray := prog_10_method_28_code
def yX8_answer : MethodName := ⟨RX8, "answer", "(II)V"⟩
abbrev cX8_blow : ByteArray := prog_10_method_29_code
def yX8_blow : MethodName := ⟨RX8, "blow", "(I)I"⟩
abbrev cX8_moon : ByteArray := prog_10_method_30_code
def yX8_moon : MethodName := ⟨RX8, "moon", "()I"⟩
abbrev cX8_at : ByteArray := prog_10_method_31_code
def yX8_at : MethodName := ⟨RX8, "at", "(III)I"⟩
abbrev cX8_spentBy : ByteArray := prog_10_method_32_code
def yX8_spentBy : MethodName := ⟨RX8, "spentBy", "(III)I"⟩
abbrev cX8_chanceBy : ByteArray := prog_10_method_33_code
def yX8_chanceBy : MethodName := ⟨RX8, "chanceBy", "(IIIIII)J"⟩
abbrev cX8_bestCall : ByteArray := prog_10_method_34_code
def yX8_bestCall : MethodName := ⟨RX8, "bestCall", "(IIIII)I"⟩
abbrev cX8_layChances : ByteArray := prog_10_method_35_code
def yX8_layChances : MethodName := ⟨RX8, "layChances", "(II)V"⟩
abbrev cX8_overSigns : ByteArray := prog_10_method_36_code
def yX8_overSigns : MethodName := ⟨RX8, "overSigns", "(IIII)J"⟩
abbrev cX8_power : ByteArray := prog_10_method_37_code
def yX8_power : MethodName := ⟨RX8, "power", "(I)J"⟩
abbrev cX8_lowest : ByteArray := prog_10_method_38_code
def yX8_lowest : MethodName := ⟨RX8, "lowest", "(JJI)J"⟩
abbrev cX8_likelyNow : ByteArray := prog_10_method_39_code
def yX8_likelyNow : MethodName := ⟨RX8, "likelyNow", "(III)J"⟩
abbrev cX8_likely : ByteArray := prog_10_method_40_code
def yX8_likely : MethodName := ⟨RX8, "likely", "(III)J"⟩
abbrev cX8_what : ByteArray := prog_10_method_41_code
def yX8_what : MethodName := ⟨RX8, "what", "(III)I"⟩
abbrev cX8_sureBy : ByteArray := prog_10_method_42_code
def yX8_sureBy : MethodName := ⟨RX8, "sureBy", "(IIIIII)Z"⟩
abbrev cX8_isSure : ByteArray := prog_10_method_43_code
def yX8_isSure : MethodName := ⟨RX8, "isSure", "(IIII)Z"⟩
abbrev cX8_sureNow : ByteArray := prog_10_method_44_code
def yX8_sureNow : MethodName := ⟨RX8, "sureNow", "(I)I"⟩
abbrev cX8_sure : ByteArray := prog_10_method_45_code
def yX8_sure : MethodName := ⟨RX8, "sure", "(I)I"⟩
abbrev cX8_tellsNow : ByteArray := prog_10_method_46_code
def yX8_tellsNow : MethodName := ⟨RX8, "tellsNow", "()I"⟩
abbrev cX8_tells : ByteArray := prog_10_method_47_code
def yX8_tells : MethodName := ⟨RX8, "tells", "()I"⟩
abbrev cX8_raceNow : ByteArray := prog_10_method_48_code
def yX8_raceNow : MethodName := ⟨RX8, "raceNow", "(III)J"⟩
abbrev cX8_race : ByteArray := prog_10_method_49_code
def yX8_race : MethodName := ⟨RX8, "race", "(IIII)J"⟩
abbrev cX8_guessNow : ByteArray := prog_10_method_50_code
def yX8_guessNow : MethodName := ⟨RX8, "guessNow", "(I)I"⟩
abbrev cX8_guess : ByteArray := prog_10_method_51_code
def yX8_guess : MethodName := ⟨RX8, "guess", "(I)I"⟩
abbrev cX8_wake : ByteArray := prog_10_method_52_code
def yX8_wake : MethodName := ⟨RX8, "wake", "(II)I"⟩
abbrev cX8_then : ByteArray := prog_10_method_53_code
def yX8_then : MethodName := ⟨RX8, "then", "(I)I"⟩
abbrev cX8_canBlow : ByteArray := prog_10_method_54_code
def yX8_canBlow : MethodName := ⟨RX8, "canBlow", "(I)Z"⟩
abbrev cX8_waysBy : ByteArray := prog_10_method_55_code
def yX8_waysBy : MethodName := ⟨RX8, "waysBy", "(II)I"⟩
abbrev cX8_calledNow : ByteArray := prog_10_method_56_code
def yX8_calledNow : MethodName := ⟨RX8, "calledNow", "()I"⟩
abbrev cX8_called : ByteArray := prog_10_method_57_code
def yX8_called : MethodName := ⟨RX8, "called", "()I"⟩
abbrev cX8_by : ByteArray := prog_10_method_58_code
def yX8_by : MethodName := ⟨RX8, "by", "(I)I"⟩
abbrev cX8_draw : ByteArray := prog_10_method_59_code
def yX8_draw : MethodName := ⟨RX8, "draw", "(I)I"⟩
abbrev cX8_drawnWind : ByteArray := prog_10_method_60_code
def yX8_drawnWind : MethodName := ⟨RX8, "drawnWind", "(I)I"⟩
abbrev cX8_goYearDay : ByteArray := prog_10_method_61_code
def yX8_goYearDay : MethodName := ⟨RX8, "goYearDay", "()V"⟩
abbrev cX8_yearsNow : ByteArray := prog_10_method_62_code
def yX8_yearsNow : MethodName := ⟨RX8, "yearsNow", "(III)I"⟩
abbrev cX8_years : ByteArray := prog_10_method_63_code
def yX8_years : MethodName := ⟨RX8, "years", "(III)I"⟩
abbrev cX8_image : ByteArray := prog_10_method_64_code
def yX8_image : MethodName := ⟨RX8, "image", "()I"⟩
abbrev cX8_restore : ByteArray := prog_10_method_65_code
def yX8_restore : MethodName := ⟨RX8, "restore", "()I"⟩
abbrev cX8_howMany : ByteArray := prog_10_method_66_code
def yX8_howMany : MethodName := ⟨RX8, "howMany", "(I)I"⟩
abbrev cX8_count : ByteArray := prog_10_method_67_code
def yX8_count : MethodName := ⟨RX8, "count", "(I)I"⟩
abbrev cX8_mix : ByteArray := prog_10_method_68_code
def yX8_mix : MethodName := ⟨RX8, "mix", "(J)V"⟩
abbrev cX8_digest : ByteArray := prog_10_method_69_code
def yX8_digest : MethodName := ⟨RX8, "digest", "()J"⟩
def RJ6 : String := "java/lang/Integer"
def TJ6 : u_T := fun k => match k with
  | _ => ("", "", "", false)
def tyJ6 : Nat → FieldType := fun k => match k with
  | _ => .int
abbrev wsJ60 : List Cond := u_ws RJ6 TJ6 0
theorem nmJ6 : ∀ a, a < 0 → ∀ b, b < 0 → a ≠ b → (TJ6 a).2.1 ≠ (TJ6 b).2.1 := by decide +kernel
theorem tyJ6_ok : ∀ k, k < 0 → parseFieldDescriptor (TJ6 k).2.2.1 = some (tyJ6 k) := by decide +kernel
abbrev cJ6_bitCount_0f7a4 : ByteArray := prog_11_method_49_code
def yJ6_bitCount_0f7a4 : MethodName := ⟨RJ6, "bitCount", "(I)I"⟩
def RJ9 : String := "java/lang/Math"
def TJ9 : u_T := fun k => match k with
  | _ => ("", "", "", false)
def tyJ9 : Nat → FieldType := fun k => match k with
  | _ => .int
abbrev wsJ90 : List Cond := u_ws RJ9 TJ9 0
theorem nmJ9 : ∀ a, a < 0 → ∀ b, b < 0 → a ≠ b → (TJ9 a).2.1 ≠ (TJ9 b).2.1 := by decide +kernel
theorem tyJ9_ok : ∀ k, k < 0 → parseFieldDescriptor (TJ9 k).2.2.1 = some (tyJ9 k) := by decide +kernel
abbrev cJ9_max_7cf53 : ByteArray := prog_12_method_65_code
def yJ9_max_7cf53 : MethodName := ⟨RJ9, "max", "(II)I"⟩
abbrev cJ9_min_7cf53 : ByteArray := prog_12_method_69_code
def yJ9_min_7cf53 : MethodName := ⟨RJ9, "min", "(II)I"⟩
def RJ10 : String := "java/lang/System"
def TJ10 : u_T := fun k => match k with
  | _ => ("", "", "", false)
def tyJ10 : Nat → FieldType := fun k => match k with
  | _ => .int
abbrev wsJ100 : List Cond := u_ws RJ10 TJ10 0
theorem nmJ10 : ∀ a, a < 0 → ∀ b, b < 0 → a ≠ b → (TJ10 a).2.1 ≠ (TJ10 b).2.1 := by decide +kernel
theorem tyJ10_ok : ∀ k, k < 0 → parseFieldDescriptor (TJ10 k).2.2.1 = some (tyJ10 k) := by decide +kernel
def RJ7 : String := "java/util/Arrays"
def TJ7 : u_T := fun k => match k with
  | _ => ("", "", "", false)
def tyJ7 : Nat → FieldType := fun k => match k with
  | _ => .int
abbrev wsJ70 : List Cond := u_ws RJ7 TJ7 0
theorem nmJ7 : ∀ a, a < 0 → ∀ b, b < 0 → a ≠ b → (TJ7 a).2.1 ≠ (TJ7 b).2.1 := by decide +kernel
theorem tyJ7_ok : ∀ k, k < 0 → parseFieldDescriptor (TJ7 k).2.2.1 = some (tyJ7 k) := by decide +kernel
abbrev cJ7_fill_53178 : ByteArray := prog_14_method_103_code
def yJ7_fill_53178 : MethodName := ⟨RJ7, "fill", "([II)V"⟩
def RL : String := "NamedWindLaw"
abbrev cL_law : ByteArray := code
def yL_law : MethodName := ⟨RL, "law", "([I)Z"⟩
def wsL_law_r1 : List Cond := [Cond.classLink RL 7 RX7, Cond.instantiable RX7 11, Cond.initialized RX7, Cond.classLink RL 10 RX8, Cond.instantiable RX8 44, Cond.initialized RX8, Cond.constantLong RL 13 (4294967295), Cond.methodLink RL 9 yX7_init, Cond.instanceMethod yX7_init, Cond.code yX7_init cX7_init 1 none, Cond.methodLink RX7 3 objectInit, Cond.instanceMethod objectInit, Cond.code objectInit ⟨#[0xb1]⟩ 1 none, Cond.classLink RX7 9 RX2, Cond.instantiable RX2 2, Cond.initialized RX2, Cond.fieldLink RX7 12 "NamedWind" "page" "LNamedWind$Page;", Cond.classLink RX7 16 RX3, Cond.instantiable RX3 2, Cond.initialized RX3, Cond.fieldLink RX7 19 "NamedWind" "reader" "LNamedWind$Reader;", Cond.classLink RX7 23 RX4, Cond.instantiable RX4 6, Cond.initialized RX4]
def wsL_law_r2 : List Cond := [Cond.fieldLink RX7 26 "NamedWind" "sea" "LNamedWind$Sea;", Cond.fieldLink RX7 30 "NamedWind" "kept" "LNamedWind$Sea;", Cond.fieldLink RX7 33 "NamedWind" "dream" "LNamedWind$Sea;", Cond.classLink RX7 36 RX6, Cond.instantiable RX6 4, Cond.initialized RX6, Cond.fieldLink RX7 39 "NamedWind" "trail" "LNamedWind$Wake;", Cond.classLink RX7 43 RX1, Cond.instantiable RX1 4, Cond.initialized RX1, Cond.fieldLink RX7 46 "NamedWind" "forecast" "LNamedWind$Forecast;", Cond.classLink RX7 50 RX0, Cond.instantiable RX0 2, Cond.initialized RX0, Cond.fieldLink RX7 53 "NamedWind" "current" "LNamedWind$Book;", Cond.fieldLink RX7 57 "NamedWind" "draft" "LNamedWind$Book;", Cond.instanceMethod yX2_init, Cond.code yX2_init cX2_init 1 none, Cond.methodLink RX2 3 objectInit, Cond.arrayClass .int, Cond.fieldLink RX2 9 "NamedWind$Page" "codes" "[I", Cond.instanceMethod yX3_init, Cond.code yX3_init cX3_init 1 none, Cond.methodLink RX3 5 objectInit]
def wsL_law_r3 : List Cond := [Cond.instanceMethod yX4_init, Cond.code yX4_init cX4_init 2 none, Cond.methodLink RX4 3 objectInit, Cond.classLink RX4 9 RX5, Cond.fieldLink RX4 11 "NamedWind$Sea" "fleet" "[LNamedWind$Ship;", Cond.fieldLink RX4 17 "NamedWind$Sea" "couldBe" "[I", Cond.instantiable RX5 5, Cond.initialized RX5, Cond.instanceMethod yX5_init, Cond.code yX5_init cX5_init 1 none, Cond.methodLink RX5 3 objectInit, Cond.fieldLink RX5 9 "NamedWind$Ship" "call" "I", Cond.methodLink RX4 22 yX4_clear, Cond.instanceMethod yX4_clear, Cond.selects RX4 yX4_clear yX4_clear, Cond.code yX4_clear cX4_clear 1 none, Cond.fieldLink RX4 31 "NamedWind$Sea" "ships" "I", Cond.fieldLink RX4 35 "NamedWind$Sea" "spentNames" "I", Cond.fieldLink RX4 38 "NamedWind$Sea" "days" "I", Cond.fieldLink RX4 41 "NamedWind$Sea" "answers" "I", Cond.methodLink RX4 25 yJ7_fill_53178, Cond.static yJ7_fill_53178, Cond.initialized RJ7, Cond.code yJ7_fill_53178 cJ7_fill_53178 4 none]
def wsL_law_r4 : List Cond := [Cond.instanceMethod yX6_init, Cond.code yX6_init cX6_init 1 none, Cond.methodLink RX6 3 objectInit, Cond.fieldLink RX6 9 "NamedWind$Wake" "places" "[I", Cond.instanceMethod yX1_init, Cond.code yX1_init cX1_init 1 none, Cond.methodLink RX1 3 objectInit, Cond.classLink RX1 9 "[[I", Cond.fieldLink RX1 11 "NamedWind$Forecast" "found" "[[I", Cond.fieldLink RX1 16 "NamedWind$Forecast" "ahead" "[[I", Cond.fieldLink RX1 19 "NamedWind$Forecast" "calm" "[I", Cond.instanceMethod yX0_init, Cond.code yX0_init cX0_init 1 none, Cond.methodLink RX0 3 objectInit, Cond.classLink RX0 9 "[[I", Cond.fieldLink RX0 11 "NamedWind$Book" "strength" "[[I", Cond.fieldLink RX0 16 "NamedWind$Book" "owner" "[I", Cond.methodLink RX0 20 yX0_clear, Cond.instanceMethod yX0_clear, Cond.selects RX0 yX0_clear yX0_clear, Cond.code yX0_clear cX0_clear 2 none, Cond.methodLink RX0 23 yJ7_fill_53178, Cond.methodLink RL 12 yX8_init, Cond.instanceMethod yX8_init]
def wsL_law_r5 : List Cond := [Cond.code yX8_init cX8_init 1 none, Cond.methodLink RX8 1 objectInit, Cond.fieldLink RX8 7 "NamedWindModel" "tenthsOf" "[I", Cond.fieldLink RX8 13 "NamedWindModel" "windOfName" "[I", Cond.fieldLink RX8 16 "NamedWindModel" "kindOf" "[I", Cond.fieldLink RX8 19 "NamedWindModel" "placeOf" "[I", Cond.fieldLink RX8 22 "NamedWindModel" "callOf" "[I", Cond.fieldLink RX8 25 "NamedWindModel" "servedOf" "[I", Cond.fieldLink RX8 28 "NamedWindModel" "turnedOf" "[I", Cond.fieldLink RX8 31 "NamedWindModel" "answerOf" "[I", Cond.fieldLink RX8 34 "NamedWindModel" "wakeShip" "I", Cond.fieldLink RX8 38 "NamedWindModel" "wakeAt" "[I", Cond.arrayClass .byte, Cond.fieldLink RX8 41 "NamedWindModel" "page" "[B", Cond.fieldLink RX8 45 "NamedWindModel" "newTenths" "[I", Cond.fieldLink RX8 48 "NamedWindModel" "newWindOf" "[I", Cond.arrayClass .long, Cond.fieldLink RX8 51 "NamedWindModel" "chanceOf" "[J", Cond.arrayClass .boolean, Cond.fieldLink RX8 55 "NamedWindModel" "sureOf" "[Z", Cond.fieldLink RX8 59 "NamedWindModel" "raceOf" "[J", Cond.fieldLink RX8 62 "NamedWindModel" "raceThen" "[J", Cond.fieldLink RX8 65 "NamedWindModel" "savedPlace" "[I", Cond.fieldLink RX8 68 "NamedWindModel" "yearCall" "[I"]
def wsL_law_r6 : List Cond := [Cond.fieldLink RX8 71 "NamedWindModel" "keptPlace" "[I", Cond.fieldLink RX8 74 "NamedWindModel" "keptServed" "[I", Cond.fieldLink RX8 77 "NamedWindModel" "keptTurned" "[I", Cond.fieldLink RX8 80 "NamedWindModel" "keptAnswer" "[I", Cond.methodLink RL 15 yX7_letters, Cond.instanceMethod yX7_letters, Cond.selects RX7 yX7_letters yX7_letters, Cond.code yX7_letters cX7_letters 3 (some .int), Cond.instanceMethod yX2_add, Cond.selects RX2 yX2_add yX2_add, Cond.code yX2_add cX2_add 5 (some .int), Cond.fieldLink RX2 19 "NamedWind$Page" "length" "I", Cond.methodLink RX2 15 yX2_lettersIn, Cond.static yX2_lettersIn, Cond.code yX2_lettersIn cX2_lettersIn 5 (some .int), Cond.methodLink RX2 23 yX2_byteAt, Cond.static yX2_byteAt, Cond.code yX2_byteAt cX2_byteAt 3 (some .int), Cond.methodLink RL 19 yX8_letters, Cond.instanceMethod yX8_letters, Cond.selects RX8 yX8_letters yX8_letters, Cond.code yX8_letters cX8_letters 7 (some .int), Cond.constantLong RX8 83 (255), Cond.fieldLink RX8 85 "NamedWindModel" "pageLength" "I"]
def wsL_law_r7 : List Cond := [Cond.methodLink RL 20 yX7_blank, Cond.instanceMethod yX7_blank, Cond.selects RX7 yX7_blank yX7_blank, Cond.code yX7_blank cX7_blank 1 (some .int), Cond.instanceMethod yX2_empty, Cond.selects RX2 yX2_empty yX2_empty, Cond.code yX2_empty cX2_empty 2 (some .int), Cond.methodLink RL 24 yX8_blank, Cond.instanceMethod yX8_blank, Cond.selects RX8 yX8_blank yX8_blank, Cond.code yX8_blank cX8_blank 2 (some .int), Cond.methodLink RL 25 yX7_fault, Cond.instanceMethod yX7_fault, Cond.selects RX7 yX7_fault yX7_fault, Cond.code yX7_fault cX7_fault 1 (some .int), Cond.instanceMethod yX3_read, Cond.selects RX3 yX3_read yX3_read, Cond.code yX3_read cX3_read 4 (some .int), Cond.fieldLink RX3 16 "NamedWind$Reader" "next" "I", Cond.fieldLink RX3 20 "NamedWind$Reader" "wind" "I", Cond.methodLink RX3 32 yX3_takes, Cond.instanceMethod yX3_takes, Cond.selects RX3 yX3_takes yX3_takes, Cond.code yX3_takes cX3_takes 3 (some .boolean)]
def wsL_law_r8 : List Cond := [Cond.methodLink RX3 36 yX3_takesMark, Cond.instanceMethod yX3_takesMark, Cond.selects RX3 yX3_takesMark yX3_takesMark, Cond.code yX3_takesMark cX3_takesMark 4 (some .boolean), Cond.methodLink RX3 40 yX3_takesName, Cond.instanceMethod yX3_takesName, Cond.selects RX3 yX3_takesName yX3_takesName, Cond.code yX3_takesName cX3_takesName 5 (some .boolean), Cond.static yX7_isName, Cond.code yX7_isName cX7_isName 1 (some .boolean), Cond.methodLink RX3 44 yX3_takesNextWind, Cond.instanceMethod yX3_takesNextWind, Cond.selects RX3 yX3_takesNextWind yX3_takesNextWind, Cond.code yX3_takesNextWind cX3_takesNextWind 2 (some .boolean), Cond.methodLink RX3 48 yX3_takesTenths, Cond.instanceMethod yX3_takesTenths, Cond.selects RX3 yX3_takesTenths yX3_takesTenths, Cond.code yX3_takesTenths cX3_takesTenths 5 (some .boolean), Cond.static yX7_isSign, Cond.code yX7_isSign cX7_isSign 1 (some .boolean), Cond.methodLink RL 28 yX8_fault, Cond.instanceMethod yX8_fault, Cond.selects RX8 yX8_fault yX8_fault, Cond.code yX8_fault cX8_fault 1 (some .int)]
def wsL_law_r9 : List Cond := [Cond.fieldLink RX8 110 "NamedWindModel" "faultAt" "I", Cond.methodLink RX8 117 yX8_readBook, Cond.instanceMethod yX8_readBook, Cond.selects RX8 yX8_readBook yX8_readBook, Cond.code yX8_readBook cX8_readBook 5 none, Cond.fieldLink RX8 92 "NamedWindModel" "newWind" "I", Cond.fieldLink RX8 95 "NamedWindModel" "newNames" "I", Cond.fieldLink RX8 113 "NamedWindModel" "isWhole" "Z", Cond.methodLink RX8 106 yX8_nextState, Cond.instanceMethod yX8_nextState, Cond.selects RX8 yX8_nextState yX8_nextState, Cond.code yX8_nextState cX8_nextState 3 (some .int), Cond.methodLink RX8 98 yX8_takesName, Cond.instanceMethod yX8_takesName, Cond.selects RX8 yX8_takesName yX8_takesName, Cond.code yX8_takesName cX8_takesName 3 (some .boolean), Cond.methodLink RX8 88 yX8_within, Cond.static yX8_within, Cond.code yX8_within cX8_within 3 (some .boolean), Cond.methodLink RX8 102 yX8_takesTenths, Cond.instanceMethod yX8_takesTenths, Cond.selects RX8 yX8_takesTenths yX8_takesTenths, Cond.code yX8_takesTenths cX8_takesTenths 5 (some .boolean), Cond.methodLink RL 29 yX7_book]
def wsL_law_r10 : List Cond := [Cond.instanceMethod yX7_book, Cond.selects RX7 yX7_book yX7_book, Cond.code yX7_book cX7_book 2 (some .int), Cond.fieldLink RX7 80 "NamedWind" "booksRead" "I", Cond.fieldLink RX7 89 "NamedWind" "imageKept" "Z", Cond.instanceMethod yX3_atEnd, Cond.selects RX3 yX3_atEnd yX3_atEnd, Cond.code yX3_atEnd cX3_atEnd 1 (some .boolean), Cond.instanceMethod yX6_end, Cond.selects RX6 yX6_end yX6_end, Cond.code yX6_end cX6_end 1 none, Cond.fieldLink RX6 15 "NamedWind$Wake" "begun" "Z", Cond.fieldLink RX6 23 "NamedWind$Wake" "days" "I", Cond.instanceMethod yX0_nameCount, Cond.selects RX0 yX0_nameCount yX0_nameCount, Cond.code yX0_nameCount cX0_nameCount 3 (some .int), Cond.methodLink RL 32 yX8_book, Cond.instanceMethod yX8_book, Cond.selects RX8 yX8_book yX8_book, Cond.code yX8_book cX8_book 2 (some .int), Cond.fieldLink RX8 120 "NamedWindModel" "names" "I", Cond.fieldLink RX8 123 "NamedWindModel" "isBook" "Z", Cond.fieldLink RX8 126 "NamedWindModel" "books" "I", Cond.fieldLink RX8 129 "NamedWindModel" "ships" "I"]
def wsL_law_r11 : List Cond := [Cond.fieldLink RX8 132 "NamedWindModel" "spentSet" "I", Cond.fieldLink RX8 135 "NamedWindModel" "days" "I", Cond.fieldLink RX8 138 "NamedWindModel" "answers" "I", Cond.fieldLink RX8 141 "NamedWindModel" "wakeDays" "I", Cond.methodLink RL 33 yX7_tenths, Cond.instanceMethod yX7_tenths, Cond.selects RX7 yX7_tenths yX7_tenths, Cond.code yX7_tenths cX7_tenths 3 (some .int), Cond.methodLink RX7 96 yX7_isWindOrCalm, Cond.static yX7_isWindOrCalm, Cond.code yX7_isWindOrCalm cX7_isWindOrCalm 1 (some .boolean), Cond.methodLink RX7 100 yX7_isSign, Cond.methodLink RX7 103 yX7_hasBook, Cond.instanceMethod yX7_hasBook, Cond.selects RX7 yX7_hasBook yX7_hasBook, Cond.code yX7_hasBook cX7_hasBook 1 (some .boolean), Cond.methodLink RL 37 yX8_tenths, Cond.instanceMethod yX8_tenths, Cond.selects RX8 yX8_tenths yX8_tenths, Cond.code yX8_tenths cX8_tenths 3 (some .int), Cond.methodLink RL 38 yX7_windOf, Cond.instanceMethod yX7_windOf, Cond.selects RX7 yX7_windOf yX7_windOf, Cond.code yX7_windOf cX7_windOf 2 (some .int)]
def wsL_law_r12 : List Cond := [Cond.methodLink RX7 110 yX7_isName, Cond.methodLink RL 42 yX8_windOf, Cond.instanceMethod yX8_windOf, Cond.selects RX8 yX8_windOf yX8_windOf, Cond.code yX8_windOf cX8_windOf 2 (some .int), Cond.methodLink RX8 144 yX8_isName, Cond.static yX8_isName, Cond.code yX8_isName cX8_isName 1 (some .boolean), Cond.methodLink RL 43 yX7_ship, Cond.instanceMethod yX7_ship, Cond.selects RX7 yX7_ship yX7_ship, Cond.code yX7_ship cX7_ship 3 (some .int), Cond.methodLink RX7 117 yX7_isPlace, Cond.static yX7_isPlace, Cond.code yX7_isPlace cX7_isPlace 1 (some .boolean), Cond.methodLink RX7 120 yX7_isKind, Cond.static yX7_isKind, Cond.code yX7_isKind cX7_isKind 1 (some .boolean), Cond.instanceMethod yX4_add, Cond.selects RX4 yX4_add yX4_add, Cond.code yX4_add cX4_add 3 (some .int), Cond.instanceMethod yX5_begin, Cond.selects RX5 yX5_begin yX5_begin, Cond.code yX5_begin cX5_begin 3 none]
def wsL_law_r13 : List Cond := [Cond.fieldLink RX5 15 "NamedWind$Ship" "kind" "I", Cond.fieldLink RX5 18 "NamedWind$Ship" "place" "I", Cond.fieldLink RX5 21 "NamedWind$Ship" "served" "I", Cond.fieldLink RX5 24 "NamedWind$Ship" "turned" "I", Cond.methodLink RL 46 yX8_ship, Cond.instanceMethod yX8_ship, Cond.selects RX8 yX8_ship yX8_ship, Cond.code yX8_ship cX8_ship 3 (some .int), Cond.methodLink RX8 147 yX8_isPlace, Cond.static yX8_isPlace, Cond.code yX8_isPlace cX8_isPlace 1 (some .boolean), Cond.methodLink RL 47 yX7_about, Cond.instanceMethod yX7_about, Cond.selects RX7 yX7_about yX7_about, Cond.code yX7_about cX7_about 3 (some .int), Cond.methodLink RX7 126 yX7_isShip, Cond.instanceMethod yX7_isShip, Cond.selects RX7 yX7_isShip yX7_isShip, Cond.code yX7_isShip cX7_isShip 2 (some .boolean), Cond.instanceMethod yX5_tell, Cond.selects RX5 yX5_tell yX5_tell, Cond.code yX5_tell cX5_tell 2 (some .int), Cond.methodLink RL 50 yX8_about, Cond.instanceMethod yX8_about]
def wsL_law_r14 : List Cond := [Cond.selects RX8 yX8_about yX8_about, Cond.code yX8_about cX8_about 3 (some .int), Cond.methodLink RX8 150 yX8_isShip, Cond.instanceMethod yX8_isShip, Cond.selects RX8 yX8_isShip yX8_isShip, Cond.code yX8_isShip cX8_isShip 2 (some .boolean), Cond.methodLink RX8 153 yX8_shipNow, Cond.instanceMethod yX8_shipNow, Cond.selects RX8 yX8_shipNow yX8_shipNow, Cond.code yX8_shipNow cX8_shipNow 3 (some .int), Cond.methodLink RL 51 yX7_as, Cond.instanceMethod yX7_as, Cond.selects RX7 yX7_as yX7_as, Cond.code yX7_as cX7_as 3 (some .int), Cond.instanceMethod yX5_isA, Cond.selects RX5 yX5_isA yX5_isA, Cond.code yX5_isA cX5_isA 2 (some .boolean), Cond.methodLink RL 54 yX8_as, Cond.instanceMethod yX8_as, Cond.selects RX8 yX8_as yX8_as, Cond.code yX8_as cX8_as 4 (some .int), Cond.methodLink RL 55 yX7_call, Cond.instanceMethod yX7_call, Cond.selects RX7 yX7_call yX7_call]
def wsL_law_r15 : List Cond := [Cond.code yX7_call cX7_call 3 (some .int), Cond.instanceMethod yX4_isSpent, Cond.selects RX4 yX4_isSpent yX4_isSpent, Cond.code yX4_isSpent cX4_isSpent 2 (some .boolean), Cond.instanceMethod yX4_replaceCall, Cond.selects RX4 yX4_replaceCall yX4_replaceCall, Cond.code yX4_replaceCall cX4_replaceCall 4 (some .int), Cond.methodLink RX4 70 yX4_isSpentToday, Cond.instanceMethod yX4_isSpentToday, Cond.selects RX4 yX4_isSpentToday yX4_isSpentToday, Cond.code yX4_isSpentToday cX4_isSpentToday 3 (some .boolean), Cond.instanceMethod yX5_spends, Cond.selects RX5 yX5_spends yX5_spends, Cond.code yX5_spends cX5_spends 2 (some .boolean), Cond.methodLink RX4 74 yX4_beginCall, Cond.instanceMethod yX4_beginCall, Cond.selects RX4 yX4_beginCall yX4_beginCall, Cond.code yX4_beginCall cX4_beginCall 3 none, Cond.methodLink RL 58 yX8_call, Cond.instanceMethod yX8_call, Cond.selects RX8 yX8_call yX8_call, Cond.code yX8_call cX8_call 5 (some .int), Cond.methodLink RX8 156 yX8_has, Cond.static yX8_has]
def wsL_law_r16 : List Cond := [Cond.code yX8_has cX8_has 2 (some .boolean), Cond.methodLink RX8 159 yX8_isCalledToo, Cond.instanceMethod yX8_isCalledToo, Cond.selects RX8 yX8_isCalledToo yX8_isCalledToo, Cond.code yX8_isCalledToo cX8_isCalledToo 5 (some .boolean), Cond.methodLink RL 59 yX7_spent, Cond.instanceMethod yX7_spent, Cond.selects RX7 yX7_spent yX7_spent, Cond.code yX7_spent cX7_spent 2 (some .int), Cond.methodLink RL 62 yX8_spent, Cond.instanceMethod yX8_spent, Cond.selects RX8 yX8_spent yX8_spent, Cond.code yX8_spent cX8_spent 2 (some .int), Cond.methodLink RL 63 yX7_blow, Cond.instanceMethod yX7_blow, Cond.selects RX7 yX7_blow yX7_blow, Cond.code yX7_blow cX7_blow 2 (some .int), Cond.instanceMethod yX4_passDay, Cond.selects RX4 yX4_passDay yX4_passDay, Cond.code yX4_passDay cX4_passDay 5 none, Cond.methodLink RX4 80 yX4_answer, Cond.instanceMethod yX4_answer, Cond.selects RX4 yX4_answer yX4_answer, Cond.code yX4_answer cX4_answer 5 none]
def wsL_law_r17 : List Cond := [Cond.instanceMethod yX0_favours, Cond.selects RX0 yX0_favours yX0_favours, Cond.code yX0_favours cX0_favours 3 (some .boolean), Cond.static yX7_placeAfter, Cond.code yX7_placeAfter cX7_placeAfter 5 (some .int), Cond.methodLink RX7 298 yX7_placeAhead, Cond.static yX7_placeAhead, Cond.code yX7_placeAhead cX7_placeAhead 4 (some .int), Cond.fieldLink RX7 280 "NamedWind" "SERVED_BY" "[I", Cond.methodLink RX7 283 Lib.Math.min.name, Cond.static Lib.Math.min.name, Cond.initialized "java/lang/Math", Cond.code Lib.Math.min.name Lib.Math.min.code 2 (some .int), Cond.methodLink RX7 301 yX7_placeBehind, Cond.static yX7_placeBehind, Cond.code yX7_placeBehind cX7_placeBehind 4 (some .int), Cond.fieldLink RX7 288 "NamedWind" "TURNED_BY" "[I", Cond.methodLink RX7 291 Lib.Math.max.name, Cond.static Lib.Math.max.name, Cond.code Lib.Math.max.name Lib.Math.max.code 2 (some .int), Cond.instanceMethod yX4_homeCount, Cond.selects RX4 yX4_homeCount yX4_homeCount, Cond.code yX4_homeCount cX4_homeCount 3 (some .int), Cond.methodLink RL 66 yX8_blow]
def wsL_law_r18 : List Cond := [Cond.instanceMethod yX8_blow, Cond.selects RX8 yX8_blow yX8_blow, Cond.code yX8_blow cX8_blow 3 (some .int), Cond.methodLink RX8 162 yX8_answer, Cond.instanceMethod yX8_answer, Cond.selects RX8 yX8_answer yX8_answer, Cond.code yX8_answer cX8_answer 5 none, Cond.methodLink RX8 166 yX8_behind, Cond.instanceMethod yX8_behind, Cond.selects RX8 yX8_behind yX8_behind, Cond.code yX8_behind cX8_behind 7 (some .int), Cond.methodLink RX8 170 yX8_homeMany, Cond.instanceMethod yX8_homeMany, Cond.selects RX8 yX8_homeMany yX8_homeMany, Cond.code yX8_homeMany cX8_homeMany 3 (some .int), Cond.methodLink RL 67 yX7_moon, Cond.instanceMethod yX7_moon, Cond.selects RX7 yX7_moon yX7_moon, Cond.code yX7_moon cX7_moon 2 (some .int), Cond.instanceMethod yX4_spentCount, Cond.selects RX4 yX4_spentCount yX4_spentCount, Cond.code yX4_spentCount cX4_spentCount 1 (some .int), Cond.methodLink RX4 58 yJ6_bitCount_0f7a4, Cond.static yJ6_bitCount_0f7a4]
def wsL_law_r19 : List Cond := [Cond.initialized RJ6, Cond.code yJ6_bitCount_0f7a4 cJ6_bitCount_0f7a4 1 (some .int), Cond.constant RJ6 265 (1431655765), Cond.constant RJ6 266 (858993459), Cond.constant RJ6 267 (252645135), Cond.methodLink RL 70 yX8_moon, Cond.instanceMethod yX8_moon, Cond.selects RX8 yX8_moon yX8_moon, Cond.code yX8_moon cX8_moon 2 (some .int), Cond.methodLink RX8 174 yX8_size, Cond.static yX8_size, Cond.code yX8_size cX8_size 3 (some .int), Cond.methodLink RL 71 yX7_likely, Cond.instanceMethod yX7_likely, Cond.selects RX7 yX7_likely yX7_likely, Cond.code yX7_likely cX7_likely 5 (some .long), Cond.constantLong RX7 164 (-101), Cond.constantLong RX7 169 (-102), Cond.fieldLink RX7 185 "NamedWind" "SURE_OF" "[I", Cond.methodLink RX7 166 yX7_isPart, Cond.static yX7_isPart, Cond.code yX7_isPart cX7_isPart 1 (some .boolean), Cond.instanceMethod yX1_begin, Cond.selects RX1 yX1_begin yX1_begin]
def wsL_law_r20 : List Cond := [Cond.code yX1_begin cX1_begin 6 none, Cond.fieldLink RX1 23 "NamedWind$Forecast" "kind" "I", Cond.methodLink RX1 27 yJ7_fill_53178, Cond.instanceMethod yX0_favour, Cond.selects RX0 yX0_favour yX0_favour, Cond.code yX0_favour cX0_favour 5 (some .int), Cond.methodLink RX0 29 yX0_favours, Cond.instanceMethod yX4_freeNames, Cond.selects RX4 yX4_freeNames yX4_freeNames, Cond.code yX4_freeNames cX4_freeNames 1 (some .int), Cond.instanceMethod yX1_chances, Cond.selects RX1 yX1_chances yX1_chances, Cond.code yX1_chances cX1_chances 7 (some .int), Cond.methodLink RX1 45 yX1_bestCall, Cond.instanceMethod yX1_bestCall, Cond.selects RX1 yX1_bestCall yX1_bestCall, Cond.methodLink RX1 49 yX1_worth, Cond.instanceMethod yX1_worth, Cond.selects RX1 yX1_worth yX1_worth, Cond.code yX1_bestCall cX1_bestCall 9 (some .int), Cond.code yX1_worth cX1_worth 11 (some .int), Cond.methodLink RX1 57 yX1_chances, Cond.methodLink RX7 188 yX7_inLowestTerms, Cond.static yX7_inLowestTerms]
def wsL_law_r21 : List Cond := [Cond.code yX7_inLowestTerms cX7_inLowestTerms 5 (some .long), Cond.methodLink RX7 311 yX7_greatestShared, Cond.static yX7_greatestShared, Cond.code yX7_greatestShared cX7_greatestShared 6 (some .int), Cond.methodLink RL 75 yX8_likely, Cond.instanceMethod yX8_likely, Cond.selects RX8 yX8_likely yX8_likely, Cond.code yX8_likely cX8_likely 4 (some .long), Cond.constantLong RX8 212 (-101), Cond.constantLong RX8 218 (-102), Cond.methodLink RX8 214 yX8_likelyNow, Cond.instanceMethod yX8_likelyNow, Cond.selects RX8 yX8_likelyNow yX8_likelyNow, Cond.code yX8_likelyNow cX8_likelyNow 4 (some .long), Cond.methodLink RX8 201 yX8_layChances, Cond.instanceMethod yX8_layChances, Cond.selects RX8 yX8_layChances yX8_layChances, Cond.code yX8_layChances cX8_layChances 8 none, Cond.constantLong RX8 195 (30), Cond.methodLink RX8 182 yX8_at, Cond.static yX8_at, Cond.code yX8_at cX8_at 3 (some .int), Cond.methodLink RX8 191 yX8_overSigns, Cond.instanceMethod yX8_overSigns]
def wsL_law_r22 : List Cond := [Cond.selects RX8 yX8_overSigns yX8_overSigns, Cond.code yX8_overSigns cX8_overSigns 8 (some .long), Cond.methodLink RX8 197 yX8_bestCall, Cond.instanceMethod yX8_bestCall, Cond.selects RX8 yX8_bestCall yX8_bestCall, Cond.code yX8_bestCall cX8_bestCall 12 (some .int), Cond.constantLong RX8 189 (-1), Cond.methodLink RX8 185 yX8_chanceBy, Cond.instanceMethod yX8_chanceBy, Cond.selects RX8 yX8_chanceBy yX8_chanceBy, Cond.code yX8_chanceBy cX8_chanceBy 10 (some .long), Cond.methodLink RX8 178 yX8_spentBy, Cond.static yX8_spentBy, Cond.code yX8_spentBy cX8_spentBy 3 (some .int), Cond.methodLink RX8 204 yX8_power, Cond.static yX8_power, Cond.code yX8_power cX8_power 4 (some .long), Cond.methodLink RX8 208 yX8_lowest, Cond.static yX8_lowest, Cond.code yX8_lowest cX8_lowest 11 (some .long), Cond.methodLink RL 76 yX7_what, Cond.instanceMethod yX7_what, Cond.selects RX7 yX7_what yX7_what, Cond.code yX7_what cX7_what 5 (some .int)]
def wsL_law_r23 : List Cond := [Cond.methodLink RL 80 yX8_what, Cond.instanceMethod yX8_what, Cond.selects RX8 yX8_what yX8_what, Cond.code yX8_what cX8_what 4 (some .int), Cond.methodLink RL 81 yX7_sure, Cond.instanceMethod yX7_sure, Cond.selects RX7 yX7_sure yX7_sure, Cond.code yX7_sure cX7_sure 4 (some .int), Cond.methodLink RL 84 yX8_sure, Cond.instanceMethod yX8_sure, Cond.selects RX8 yX8_sure yX8_sure, Cond.code yX8_sure cX8_sure 2 (some .int), Cond.methodLink RX8 228 yX8_sureNow, Cond.instanceMethod yX8_sureNow, Cond.selects RX8 yX8_sureNow yX8_sureNow, Cond.code yX8_sureNow cX8_sureNow 5 (some .int), Cond.methodLink RX8 224 yX8_isSure, Cond.instanceMethod yX8_isSure, Cond.selects RX8 yX8_isSure yX8_isSure, Cond.code yX8_isSure cX8_isSure 9 (some .boolean), Cond.methodLink RX8 220 yX8_sureBy, Cond.instanceMethod yX8_sureBy, Cond.selects RX8 yX8_sureBy yX8_sureBy, Cond.code yX8_sureBy cX8_sureBy 9 (some .boolean)]
def wsL_law_r24 : List Cond := [Cond.methodLink RL 85 yX7_tells, Cond.instanceMethod yX7_tells, Cond.selects RX7 yX7_tells yX7_tells, Cond.code yX7_tells cX7_tells 1 (some .int), Cond.instanceMethod yX0_tellingSign, Cond.selects RX0 yX0_tellingSign yX0_tellingSign, Cond.code yX0_tellingSign cX0_tellingSign 3 (some .int), Cond.methodLink RX0 33 yX0_strongest, Cond.instanceMethod yX0_strongest, Cond.selects RX0 yX0_strongest yX0_strongest, Cond.code yX0_strongest cX0_strongest 4 (some .int), Cond.methodLink RX0 37 Lib.Math.max.name, Cond.methodLink RL 88 yX8_tells, Cond.instanceMethod yX8_tells, Cond.selects RX8 yX8_tells yX8_tells, Cond.code yX8_tells cX8_tells 1 (some .int), Cond.methodLink RX8 231 yX8_tellsNow, Cond.instanceMethod yX8_tellsNow, Cond.selects RX8 yX8_tellsNow yX8_tellsNow, Cond.code yX8_tellsNow cX8_tellsNow 5 (some .int), Cond.methodLink RL 89 yX7_race, Cond.instanceMethod yX7_race, Cond.selects RX7 yX7_race yX7_race, Cond.code yX7_race cX7_race 6 (some .long)]
def wsL_law_r25 : List Cond := [Cond.methodLink RX7 199 yX7_raceChances, Cond.static yX7_raceChances, Cond.code yX7_raceChances cX7_raceChances 9 (some .int), Cond.instanceMethod yX0_strengthInAll, Cond.selects RX0 yX0_strengthInAll yX0_strengthInAll, Cond.code yX0_strengthInAll cX0_strengthInAll 4 (some .int), Cond.methodLink RX7 307 yX7_placeAfter, Cond.methodLink RL 93 yX8_race, Cond.instanceMethod yX8_race, Cond.selects RX8 yX8_race yX8_race, Cond.code yX8_race cX8_race 5 (some .long), Cond.methodLink RX8 234 yX8_raceNow, Cond.instanceMethod yX8_raceNow, Cond.selects RX8 yX8_raceNow yX8_raceNow, Cond.code yX8_raceNow cX8_raceNow 10 (some .long), Cond.methodLink RL 94 yX7_guess, Cond.instanceMethod yX7_guess, Cond.selects RX7 yX7_guess yX7_guess, Cond.code yX7_guess cX7_guess 2 (some .int), Cond.methodLink RL 97 yX8_guess, Cond.instanceMethod yX8_guess, Cond.selects RX8 yX8_guess yX8_guess, Cond.code yX8_guess cX8_guess 2 (some .int), Cond.methodLink RX8 237 yX8_guessNow]
def wsL_law_r26 : List Cond := [Cond.instanceMethod yX8_guessNow, Cond.selects RX8 yX8_guessNow yX8_guessNow, Cond.code yX8_guessNow cX8_guessNow 5 (some .int), Cond.methodLink RL 98 yX7_wake, Cond.instanceMethod yX7_wake, Cond.selects RX7 yX7_wake yX7_wake, Cond.code yX7_wake cX7_wake 4 (some .int), Cond.instanceMethod yX6_begin, Cond.selects RX6 yX6_begin yX6_begin, Cond.code yX6_begin cX6_begin 3 none, Cond.fieldLink RX6 19 "NamedWind$Wake" "kind" "I", Cond.methodLink RL 101 yX8_wake, Cond.instanceMethod yX8_wake, Cond.selects RX8 yX8_wake yX8_wake, Cond.code yX8_wake cX8_wake 4 (some .int), Cond.methodLink RL 102 yX7_then, Cond.instanceMethod yX7_then, Cond.selects RX7 yX7_then yX7_then, Cond.code yX7_then cX7_then 2 (some .int), Cond.instanceMethod yX6_add, Cond.selects RX6 yX6_add yX6_add, Cond.code yX6_add cX6_add 2 (some .int), Cond.methodLink RL 105 yX8_then, Cond.instanceMethod yX8_then]
def wsL_law_r27 : List Cond := [Cond.selects RX8 yX8_then yX8_then, Cond.code yX8_then cX8_then 2 (some .int), Cond.methodLink RL 106 yX7_called, Cond.instanceMethod yX7_called, Cond.selects RX7 yX7_called yX7_called, Cond.code yX7_called cX7_called 1 (some .int), Cond.instanceMethod yX6_ways, Cond.selects RX6 yX6_ways yX6_ways, Cond.code yX6_ways cX6_ways 6 (some .int), Cond.methodLink RX6 26 yX6_waysBy, Cond.instanceMethod yX6_waysBy, Cond.selects RX6 yX6_waysBy yX6_waysBy, Cond.code yX6_waysBy cX6_waysBy 7 (some .int), Cond.methodLink RL 109 yX8_called, Cond.instanceMethod yX8_called, Cond.selects RX8 yX8_called yX8_called, Cond.code yX8_called cX8_called 1 (some .int), Cond.methodLink RX8 246 yX8_calledNow, Cond.instanceMethod yX8_calledNow, Cond.selects RX8 yX8_calledNow yX8_calledNow, Cond.code yX8_calledNow cX8_calledNow 5 (some .int), Cond.methodLink RX8 243 yX8_waysBy, Cond.instanceMethod yX8_waysBy, Cond.selects RX8 yX8_waysBy yX8_waysBy]
def wsL_law_r28 : List Cond := [Cond.code yX8_waysBy cX8_waysBy 6 (some .int), Cond.methodLink RX8 240 yX8_canBlow, Cond.instanceMethod yX8_canBlow, Cond.selects RX8 yX8_canBlow yX8_canBlow, Cond.code yX8_canBlow cX8_canBlow 2 (some .boolean), Cond.methodLink RL 110 yX7_by, Cond.instanceMethod yX7_by, Cond.selects RX7 yX7_by yX7_by, Cond.code yX7_by cX7_by 2 (some .int), Cond.instanceMethod yX6_callOn, Cond.selects RX6 yX6_callOn yX6_callOn, Cond.code yX6_callOn cX6_callOn 6 (some .int), Cond.methodLink RX6 40 yX6_ways, Cond.methodLink RL 113 yX8_by, Cond.instanceMethod yX8_by, Cond.selects RX8 yX8_by yX8_by, Cond.code yX8_by cX8_by 5 (some .int), Cond.methodLink RL 114 yX7_years, Cond.instanceMethod yX7_years, Cond.selects RX7 yX7_years yX7_years, Cond.code yX7_years cX7_years 5 (some .int), Cond.instanceMethod yX4_copyFrom, Cond.selects RX4 yX4_copyFrom yX4_copyFrom, Cond.code yX4_copyFrom cX4_copyFrom 3 none]
def wsL_law_r29 : List Cond := [Cond.methodLink RX4 48 arraycopyName, Cond.native arraycopyName, Cond.static arraycopyName, Cond.initialized "java/lang/System", Cond.instanceMethod yX5_copyFrom, Cond.selects RX5 yX5_copyFrom yX5_copyFrom, Cond.code yX5_copyFrom cX5_copyFrom 2 none, Cond.instanceMethod yX4_passYears, Cond.selects RX4 yX4_passYears yX4_passYears, Cond.code yX4_passYears cX4_passYears 9 (some .int), Cond.methodLink RX4 103 yX4_nextSeed, Cond.static yX4_nextSeed, Cond.code yX4_nextSeed cX4_nextSeed 1 (some .int), Cond.constantLong RX4 125 (1103515245), Cond.constantLong RX4 127 (12345), Cond.constantLong RX4 129 (2147483647), Cond.methodLink RX4 106 yX4_drawOf, Cond.static yX4_drawOf, Cond.code yX4_drawOf cX4_drawOf 2 (some .int), Cond.methodLink RX4 110 yX4_isSpent, Cond.methodLink RX4 113 yX4_windDrawn, Cond.static yX4_windDrawn, Cond.code yX4_windDrawn cX4_windDrawn 5 (some .int), Cond.methodLink RX4 117 yX4_passDay]
def wsL_law_r30 : List Cond := [Cond.instanceMethod yX4_placesTogether, Cond.selects RX4 yX4_placesTogether yX4_placesTogether, Cond.code yX4_placesTogether cX4_placesTogether 3 (some .int), Cond.methodLink RL 117 yX8_years, Cond.instanceMethod yX8_years, Cond.selects RX8 yX8_years yX8_years, Cond.code yX8_years cX8_years 4 (some .int), Cond.methodLink RX8 270 yX8_yearsNow, Cond.instanceMethod yX8_yearsNow, Cond.selects RX8 yX8_yearsNow yX8_yearsNow, Cond.code yX8_yearsNow cX8_yearsNow 8 (some .int), Cond.fieldLink RX8 251 "NamedWindModel" "seedNow" "J", Cond.methodLink RX8 267 yX8_goYearDay, Cond.instanceMethod yX8_goYearDay, Cond.selects RX8 yX8_goYearDay yX8_goYearDay, Cond.code yX8_goYearDay cX8_goYearDay 4 none, Cond.methodLink RX8 261 yX8_draw, Cond.instanceMethod yX8_draw, Cond.selects RX8 yX8_draw yX8_draw, Cond.code yX8_draw cX8_draw 2 (some .int), Cond.constantLong RX8 249 (1103515245), Cond.constantLong RX8 255 (12345), Cond.constantLong RX8 257 (2147483647), Cond.constantLong RX8 259 (65536)]
def wsL_law_r31 : List Cond := [Cond.methodLink RX8 264 yX8_drawnWind, Cond.instanceMethod yX8_drawnWind, Cond.selects RX8 yX8_drawnWind yX8_drawnWind, Cond.code yX8_drawnWind cX8_drawnWind 4 (some .int), Cond.methodLink RL 118 yX7_image, Cond.instanceMethod yX7_image, Cond.selects RX7 yX7_image yX7_image, Cond.code yX7_image cX7_image 1 (some .int), Cond.methodLink RL 121 yX8_image, Cond.instanceMethod yX8_image, Cond.selects RX8 yX8_image yX8_image, Cond.code yX8_image cX8_image 2 (some .int), Cond.fieldLink RX8 273 "NamedWindModel" "isKept" "Z", Cond.fieldLink RX8 276 "NamedWindModel" "keptBook" "I", Cond.fieldLink RX8 279 "NamedWindModel" "keptShips" "I", Cond.fieldLink RX8 282 "NamedWindModel" "keptSpent" "I", Cond.fieldLink RX8 285 "NamedWindModel" "keptDays" "I", Cond.fieldLink RX8 288 "NamedWindModel" "keptAnswers" "I", Cond.methodLink RL 122 yX7_restore, Cond.instanceMethod yX7_restore, Cond.selects RX7 yX7_restore yX7_restore, Cond.code yX7_restore cX7_restore 1 (some .int), Cond.methodLink RL 125 yX8_restore, Cond.instanceMethod yX8_restore]
def wsL_law_r32 : List Cond := [Cond.selects RX8 yX8_restore yX8_restore, Cond.code yX8_restore cX8_restore 2 (some .int), Cond.methodLink RL 126 yX7_count, Cond.instanceMethod yX7_count, Cond.selects RX7 yX7_count yX7_count, Cond.code yX7_count cX7_count 2 (some .int), Cond.methodLink RL 129 yX8_count, Cond.instanceMethod yX8_count, Cond.selects RX8 yX8_count yX8_count, Cond.code yX8_count cX8_count 2 (some .int), Cond.methodLink RX8 291 yX8_howMany, Cond.instanceMethod yX8_howMany, Cond.selects RX8 yX8_howMany yX8_howMany, Cond.code yX8_howMany cX8_howMany 2 (some .int), Cond.methodLink RL 130 yX7_digest, Cond.instanceMethod yX7_digest, Cond.selects RX7 yX7_digest yX7_digest, Cond.code yX7_digest cX7_digest 4 (some .long), Cond.constantLong RX7 243 (661), Cond.methodLink RX7 245 yX7_mixBook, Cond.instanceMethod yX7_mixBook, Cond.selects RX7 yX7_mixBook yX7_mixBook, Cond.code yX7_mixBook cX7_mixBook 7 (some .long), Cond.methodLink RX7 252 yX7_mix]
def wsL_law_r33 : List Cond := [Cond.static yX7_mix, Cond.code yX7_mix cX7_mix 4 (some .long), Cond.constantLong RX7 278 (31), Cond.methodLink RX7 249 yX7_spent, Cond.methodLink RX7 256 yX7_guess, Cond.methodLink RX7 259 yX7_mixShip, Cond.instanceMethod yX7_mixShip, Cond.selects RX7 yX7_mixShip yX7_mixShip, Cond.code yX7_mixShip cX7_mixShip 7 (some .long), Cond.methodLink RX7 272 yX7_about, Cond.methodLink RX7 275 yX7_likely, Cond.methodLink RX7 263 yX7_called, Cond.methodLink RX7 269 yX7_count, Cond.methodLink RL 134 yX8_digest, Cond.instanceMethod yX8_digest, Cond.selects RX8 yX8_digest yX8_digest, Cond.code yX8_digest cX8_digest 3 (some .long), Cond.constantLong RX8 299 (661), Cond.fieldLink RX8 296 "NamedWindModel" "h" "J", Cond.methodLink RX8 301 yX8_mix, Cond.instanceMethod yX8_mix, Cond.selects RX8 yX8_mix yX8_mix, Cond.code yX8_mix cX8_mix 3 none, Cond.constantLong RX8 294 (31)]
def wsL_law : List Cond := (wsL_law_r1 ++ (wsL_law_r2 ++ (wsL_law_r3 ++ (wsL_law_r4 ++ (wsL_law_r5 ++ (wsL_law_r6 ++ (wsL_law_r7 ++ (wsL_law_r8 ++ (wsL_law_r9 ++ (wsL_law_r10 ++ (wsL_law_r11 ++ (wsL_law_r12 ++ (wsL_law_r13 ++ (wsL_law_r14 ++ (wsL_law_r15 ++ (wsL_law_r16 ++ (wsL_law_r17 ++ (wsL_law_r18 ++ (wsL_law_r19 ++ (wsL_law_r20 ++ (wsL_law_r21 ++ (wsL_law_r22 ++ (wsL_law_r23 ++ (wsL_law_r24 ++ (wsL_law_r25 ++ (wsL_law_r26 ++ (wsL_law_r27 ++ (wsL_law_r28 ++ (wsL_law_r29 ++ (wsL_law_r30 ++ (wsL_law_r31 ++ (wsL_law_r32 ++ wsL_law_r33)))))))))))))))))))))))))))))))) ++ wsX70 ++ wsX80 ++ wsX20 ++ wsX30 ++ wsX40 ++ wsX60 ++ wsX10 ++ wsX00 ++ wsX50 ++ ([] : List Cond)
set_option maxRecDepth 20000 in
theorem wsL_law_in : ∀ w ∈ wsL_law, w ∈ lw_tbl := fun w h => (goodIn_p wsL_law [97, 100, 105, 123, 136, 143, 171, 174, 204, 225, 246, 252, 712, 304, 308, 311, 314, 853, 318, 322, 858, 326, 330, 335, 339, 343, 346, 350, 354, 357, 862, 866, 870, 874, 877, 881, 361, 365, 370, 374, 885, 378, 381, 386, 889, 390, 893, 896, 395, 398, 401, 405, 409, 900, 903, 413, 417, 421, 907, 911, 915, 425, 429, 919, 433, 437, 441, 445, 449, 453, 923, 926, 930, 457, 934, 461, 465, 469, 473, 476, 480, 485, 488, 493, 497, 938, 942, 946, 950, 501, 505, 508, 954, 957, 515, 519, 524, 529, 534, 538, 544, 548, 555, 558, 961, 966, 970, 973, 977, 981, 985, 988, 993, 996, 562, 1001, 567, 1005, 1009, 1013, 1017, 571, 575, 579, 1021, 1025, 584, 587, 591, 1029, 1033, 596, 1037, 1041, 600, 604, 1045, 608, 612, 1049, 616, 620, 624, 1053, 1057, 1061, 1065, 630, 634, 1069, 639, 643, 647, 654, 657, 663, 667, 672, 1073, 1077, 1081, 1085, 1093, 676, 1097, 680, 1101, 684, 1105, 1109, 688, 693, 696, 703, 1113, 1118] (by decide +kernel) (by decide +kernel) w h).1
theorem inlX0 : ∀ w ∈ wsX00, w ∈ wsL_law := fun _ h => List.mem_append_left _ (List.mem_append_left _ (List.mem_append_right _ h))
theorem inX0 : ∀ w ∈ wsX00, w ∈ lw_tbl := fun w h => wsL_law_in w (inlX0 w h)
theorem inlX1 : ∀ w ∈ wsX10, w ∈ wsL_law := fun _ h => List.mem_append_left _ (List.mem_append_left _ (List.mem_append_left _ (List.mem_append_right _ h)))
theorem inX1 : ∀ w ∈ wsX10, w ∈ lw_tbl := fun w h => wsL_law_in w (inlX1 w h)
theorem inlX2 : ∀ w ∈ wsX20, w ∈ wsL_law := fun _ h => List.mem_append_left _ (List.mem_append_left _ (List.mem_append_left _ (List.mem_append_left _ (List.mem_append_left _ (List.mem_append_left _ (List.mem_append_left _ (List.mem_append_right _ h)))))))
theorem inX2 : ∀ w ∈ wsX20, w ∈ lw_tbl := fun w h => wsL_law_in w (inlX2 w h)
theorem inlX3 : ∀ w ∈ wsX30, w ∈ wsL_law := fun _ h => List.mem_append_left _ (List.mem_append_left _ (List.mem_append_left _ (List.mem_append_left _ (List.mem_append_left _ (List.mem_append_left _ (List.mem_append_right _ h))))))
theorem inX3 : ∀ w ∈ wsX30, w ∈ lw_tbl := fun w h => wsL_law_in w (inlX3 w h)
theorem inlX4 : ∀ w ∈ wsX40, w ∈ wsL_law := fun _ h => List.mem_append_left _ (List.mem_append_left _ (List.mem_append_left _ (List.mem_append_left _ (List.mem_append_left _ (List.mem_append_right _ h)))))
theorem inX4 : ∀ w ∈ wsX40, w ∈ lw_tbl := fun w h => wsL_law_in w (inlX4 w h)
theorem inlX5 : ∀ w ∈ wsX50, w ∈ wsL_law := fun _ h => List.mem_append_left _ (List.mem_append_right _ h)
theorem inX5 : ∀ w ∈ wsX50, w ∈ lw_tbl := fun w h => wsL_law_in w (inlX5 w h)
theorem inlX6 : ∀ w ∈ wsX60, w ∈ wsL_law := fun _ h => List.mem_append_left _ (List.mem_append_left _ (List.mem_append_left _ (List.mem_append_left _ (List.mem_append_right _ h))))
theorem inX6 : ∀ w ∈ wsX60, w ∈ lw_tbl := fun w h => wsL_law_in w (inlX6 w h)
theorem inlX7 : ∀ w ∈ wsX70, w ∈ wsL_law := fun _ h => List.mem_append_left _ (List.mem_append_left _ (List.mem_append_left _ (List.mem_append_left _ (List.mem_append_left _ (List.mem_append_left _ (List.mem_append_left _ (List.mem_append_left _ (List.mem_append_left _ (List.mem_append_right _ h)))))))))
theorem inX7 : ∀ w ∈ wsX70, w ∈ lw_tbl := fun w h => wsL_law_in w (inlX7 w h)
theorem inlX8 : ∀ w ∈ wsX80, w ∈ wsL_law := fun _ h => List.mem_append_left _ (List.mem_append_left _ (List.mem_append_left _ (List.mem_append_left _ (List.mem_append_left _ (List.mem_append_left _ (List.mem_append_left _ (List.mem_append_left _ (List.mem_append_right _ h))))))))
theorem inX8 : ∀ w ∈ wsX80, w ∈ lw_tbl := fun w h => wsL_law_in w (inlX8 w h)
theorem inJ6 : ∀ w ∈ wsJ60, w ∈ lw_tbl := by decide +kernel
theorem inJ9 : ∀ w ∈ wsJ90, w ∈ lw_tbl := by decide +kernel
theorem inJ10 : ∀ w ∈ wsJ100, w ∈ lw_tbl := by decide +kernel
theorem inJ7 : ∀ w ∈ wsJ70, w ∈ lw_tbl := by decide +kernel
abbrev vwCl : List vw_C := [(RX0, TX0, 2), (RX1, TX1, 4), (RX2, TX2, 2), (RX3, TX3, 2), (RX4, TX4, 6), (RX5, TX5, 5), (RX6, TX6, 4), (RX7, TX7, 11), (RX8, TX8, 44)]
end
section
/-! ===== THE WORLD: all cells of the class and of the reference, by number; a memory; the judgement V ===== -/
abbrev Mm : Type := (Nat → Nat → Int32) × (Nat → Nat → Int64) × (Nat × Nat)
def up2 {α : Type} (f : Nat → Nat → α) (k j : Nat) (v : α) : Nat → Nat → α := fun a b => if a = k then (if b = j then v else f a b) else f a b
theorem up2_row {α : Type} (f : Nat → Nat → α) (k j : Nat) (v : α) : up2 f k j v k = fun b => if b = j then v else f k b := by funext b; simp [up2]
theorem up2_ne {α : Type} {f : Nat → Nat → α} {k j a : Nat} {v : α} (h : a ≠ k) : up2 f k j v a = f a := by funext b; simp [up2, h]
def setI (μ : Mm) (k j : Nat) (v : Int32) : Mm := (up2 μ.1 k j v, μ.2.1, μ.2.2)
def setL (μ : Mm) (k j : Nat) (v : Int64) : Mm := (μ.1, up2 μ.2.1 k j v, μ.2.2)
def setC (μ : Mm) (c : Nat) : Mm := (μ.1, μ.2.1, (c, μ.2.2.2))
def setD (μ : Mm) (c : Nat) : Mm := (μ.1, μ.2.1, (μ.2.2.1, c))
def ktL : List (Nat × Nat) := [(7, 0), (2, 0), (10, 30), (3, 0), (4, 0), (14, 6), (5, 0), (5, 0), (5, 0), (5, 0), (5, 0), (5, 0), (10, 6), (4, 0), (14, 6), (5, 0), (5, 0), (5, 0), (5, 0), (5, 0), (5, 0), (10, 6), (4, 0), (14, 6), (5, 0), (5, 0), (5, 0), (5, 0), (5, 0), (5, 0), (10, 6), (6, 0), (10, 7), (1, 0), (15, 5), (10, 640), (10, 640), (10, 640), (10, 640), (10, 640), (15, 7), (10, 3), (10, 3), (10, 3), (10, 3), (10, 3), (10, 3), (10, 3), (10, 3), (0, 0), (15, 5), (10, 3), (10, 3), (10, 3), (10, 3), (10, 3), (10, 6), (0, 0), (15, 5), (10, 3), (10, 3), (10, 3), (10, 3), (10, 3), (10, 6), (8, 0), (10, 15), (10, 6), (10, 6), (10, 6), (10, 6), (10, 6), (10, 6), (10, 40), (10, 7), (11, 30), (10, 15), (10, 6), (13, 3200), (12, 3200), (13, 100), (13, 100), (10, 6), (10, 6), (10, 6), (10, 6), (10, 6), (10, 40)]
def kt (k : Nat) : Nat := (ktL.getD k (99, 0)).1
def kn (k : Nat) : Nat := (ktL.getD k (99, 0)).2
def rfs (c : Nat × Nat) (k j : Nat) : Nat := match kt k with
  | 0 => (if j = 0 then k + 1 else k + 7)
  | 1 => (if j = 0 then k + 1 else if j = 1 then k + 7 else k + 15)
  | 2 => (k + 1)
  | 4 => (if j = 0 then k + 1 else k + 8)
  | 6 => (k + 1)
  | 7 => (([1, 3, 4, 13, 22, 31, 33, c.1, c.2] : List Nat).getD j 0)
  | 8 => (([0, 0, 0, 66, 67, 0, 68, 69, 70, 71, 72, 0, 0, 0, 73, 0, 0, 74, 0, 75, 0, 0, 0, 0, 76, 77, 78, 79, 80, 81, 0, 82, 83, 0, 0, 0, 0, 0, 0, 84, 85, 86, 87, 0] : List Nat).getD j 0)
  | 14 => (k + 1 + j)
  | 15 => (k + 1 + j)
  | _ => 0
def flds (t : Nat) (ad : Nat → Nat) (i : Nat → Int32) (l : Nat → Int64) (r : Nat → Nat) : List Value := match t with
  | 0 => [.ref (ad (r 0)), .ref (ad (r 1))]
  | 1 => [.ref (ad (r 0)), .ref (ad (r 1)), .ref (ad (r 2)), .int (i 3)]
  | 2 => [.ref (ad (r 0)), .int (i 1)]
  | 3 => [.int (i 0), .int (i 1)]
  | 4 => [.ref (ad (r 0)), .ref (ad (r 1)), .int (i 2), .int (i 3), .int (i 4), .int (i 5)]
  | 5 => [.int (i 0), .int (i 1), .int (i 2), .int (i 3), .int (i 4)]
  | 6 => [.ref (ad (r 0)), .int (i 1), .int (i 2), .int (i 3)]
  | 7 => [.ref (ad (r 0)), .ref (ad (r 1)), .ref (ad (r 2)), .ref (ad (r 3)), .ref (ad (r 4)), .ref (ad (r 5)), .ref (ad (r 6)), .ref (ad (r 7)), .ref (ad (r 8)), .int (i 9), .int (i 10)]
  | 8 => [.int (i 0), .int (i 1), .int (i 2), .ref (ad (r 3)), .ref (ad (r 4)), .int (i 5), .ref (ad (r 6)), .ref (ad (r 7)), .ref (ad (r 8)), .ref (ad (r 9)), .ref (ad (r 10)), .int (i 11), .int (i 12), .int (i 13), .ref (ad (r 14)), .int (i 15), .int (i 16), .ref (ad (r 17)), .int (i 18), .ref (ad (r 19)), .int (i 20), .int (i 21), .int (i 22), .int (i 23), .ref (ad (r 24)), .ref (ad (r 25)), .ref (ad (r 26)), .ref (ad (r 27)), .ref (ad (r 28)), .ref (ad (r 29)), .long (l 30), .ref (ad (r 31)), .ref (ad (r 32)), .int (i 33), .int (i 34), .int (i 35), .int (i 36), .int (i 37), .int (i 38), .ref (ad (r 39)), .ref (ad (r 40)), .ref (ad (r 41)), .ref (ad (r 42)), .long (l 43)]
  | _ => []
abbrev GW : Type := va_G × (Nat → ClassId) × (Nat → Nat)
def cellE (g : GW) (c : Nat × Nat) (k : Nat) (i : Nat → Int32) (l : Nat → Int64) : va_E := match kt k with
  | 10 => .inl (g.2.1 0, kn k, .inl i)
  | 11 => .inl (g.2.1 1, kn k, .inl i)
  | 12 => .inl (g.2.1 2, kn k, .inl i)
  | 13 => .inl (g.2.1 3, kn k, .inr (.inl l))
  | 14 => .inl (g.2.1 4, kn k, .inr (.inr (.inr (.inr (fun j => some (g.2.2 (rfs c k j)))))))
  | 15 => .inl (g.2.1 5, kn k, .inr (.inr (.inr (.inr (fun j => some (g.2.2 (rfs c k j)))))))
  | t => .inr (t, flds t g.2.2 i l (rfs c k))
def Wd (g : GW) (μ : Mm) : va_W := (List.range 88).map fun k => (g.2.2 k, cellE g μ.2.2 k (μ.1 k) (μ.2.1 k))
abbrev tysW (g : GW) : List (ClassId × FieldType) := [(g.2.1 0, .int), (g.2.1 1, .byte), (g.2.1 2, .boolean), (g.2.1 3, .long), (g.2.1 4, .object "NamedWind$Ship"), (g.2.1 5, .array .int)]
def AW (g : GW) : Nat → Prop := fun q => ∃ k, k < 88 ∧ q = g.2.2 k
theorem Wd_at (g : GW) (μ : Mm) {k : Nat} (hk : k < 88) : (Wd g μ)[k]? = some (g.2.2 k, cellE g μ.2.2 k (μ.1 k) (μ.2.1 k)) := by simp [Wd, hk]
theorem Wd_set {g : GW} {μ μ' : Mm} {k : Nat} {e : va_E} (h0 : cellE g μ'.2.2 k (μ'.1 k) (μ'.2.1 k) = e) (h : ∀ a, a < 88 → a ≠ k → cellE g μ'.2.2 a (μ'.1 a) (μ'.2.1 a) = cellE g μ.2.2 a (μ.1 a) (μ.2.1 a)) : (Wd g μ).set k (g.2.2 k, e) = Wd g μ' := by
  apply List.ext_getElem?
  intro i
  rw [List.getElem?_set]
  by_cases hi : i < 88
  · rw [Wd_at g μ' hi, Wd_at g μ hi]
    by_cases hk : k = i
    · subst hk
      rw [if_pos rfl, if_pos (by simpa [Wd] using hi), h0]
    · rw [if_neg hk, h i hi (fun q => hk q.symm)]
  · have a1 : (Wd g μ)[i]? = none := by simp [Wd]; omega
    have a2 : (Wd g μ')[i]? = none := by simp [Wd]; omega
    rw [a1, a2]
    by_cases hk : k = i
    · rw [if_pos hk, if_neg (by simp [Wd]; omega)]
    · rw [if_neg hk]
def nestW : List Cond := [.fieldLinkNest "NamedWind$Reader" 28 "NamedWind$Page" "codes" "[I" "NamedWind", .fieldLinkNest "NamedWind" 266 "NamedWind$Page" "codes" "[I" "NamedWind", .fieldLinkNest "NamedWind$Reader" 23 "NamedWind$Page" "length" "I" "NamedWind", .fieldLinkNest "NamedWind" 72 "NamedWind$Page" "length" "I" "NamedWind", .fieldLinkNest "NamedWind$Sea" 84 "NamedWind$Ship" "kind" "I" "NamedWind", .fieldLinkNest "NamedWind" 171 "NamedWind$Ship" "kind" "I" "NamedWind", .fieldLinkNest "NamedWind$Sea" 64 "NamedWind$Ship" "place" "I" "NamedWind", .fieldLinkNest "NamedWind" 142 "NamedWind$Ship" "place" "I" "NamedWind", .fieldLinkNest "NamedWind$Sea" 67 "NamedWind$Ship" "call" "I" "NamedWind", .fieldLinkNest "NamedWind$Sea" 97 "NamedWind$Ship" "served" "I" "NamedWind", .fieldLinkNest "NamedWind$Sea" 100 "NamedWind$Ship" "turned" "I" "NamedWind", .fieldLinkNest "NamedWind" 129 "NamedWind$Sea" "fleet" "[LNamedWind$Ship;" "NamedWind", .fieldLinkNest "NamedWind" 203 "NamedWind$Sea" "couldBe" "[I" "NamedWind", .fieldLinkNest "NamedWind" 236 "NamedWind$Sea" "ships" "I" "NamedWind", .fieldLinkNest "NamedWind" 161 "NamedWind$Sea" "spentNames" "I" "NamedWind", .fieldLinkNest "NamedWind" 239 "NamedWind$Sea" "days" "I" "NamedWind", .fieldLinkNest "NamedWind" 240 "NamedWind$Sea" "answers" "I" "NamedWind", .fieldLinkNest "NamedWind" 212 "NamedWind$Wake" "begun" "Z" "NamedWind", .fieldLinkNest "NamedWind" 206 "NamedWind$Wake" "days" "I" "NamedWind", .fieldLinkNest "NamedWind$Forecast" 33 "NamedWind$Book" "strength" "[[I" "NamedWind", .fieldLinkNest "NamedWind" 106 "NamedWind$Book" "strength" "[[I" "NamedWind", .fieldLinkNest "NamedWind$Reader" 60 "NamedWind$Book" "strength" "[[I" "NamedWind", .fieldLinkNest "NamedWind$Sea" 121 "NamedWind$Book" "strength" "[[I" "NamedWind", .fieldLinkNest "NamedWind$Reader" 54 "NamedWind$Book" "owner" "[I" "NamedWind", .fieldLinkNest "NamedWind" 113 "NamedWind$Book" "owner" "[I" "NamedWind", .fieldLinkNest "NamedWind$Forecast" 42 "NamedWind" "SURE_OF" "[I" "NamedWind", .methodLinkNest "NamedWind" 11 yX2_init "NamedWind", .methodLinkNest "NamedWind" 18 yX3_init "NamedWind", .methodLinkNest "NamedWind" 25 yX4_init "NamedWind", .methodLinkNest "NamedWind$Sea" 21 yX5_init "NamedWind", .methodLinkNest "NamedWind" 38 yX6_init "NamedWind", .methodLinkNest "NamedWind" 45 yX1_init "NamedWind", .methodLinkNest "NamedWind" 52 yX0_init "NamedWind", .methodLinkNest "NamedWind" 60 yX2_add "NamedWind", .methodLinkNest "NamedWind" 64 yX2_empty "NamedWind", .methodLinkNest "NamedWind" 68 yX3_read "NamedWind", .methodLinkNest "NamedWind$Reader" 11 yX0_clear "NamedWind", .methodLinkNest "NamedWind$Reader" 51 yX7_isName "NamedWind", .methodLinkNest "NamedWind$Reader" 57 yX7_isSign "NamedWind", .methodLinkNest "NamedWind" 76 yX3_atEnd "NamedWind", .methodLinkNest "NamedWind" 83 yX4_clear "NamedWind", .methodLinkNest "NamedWind" 86 yX6_end "NamedWind", .methodLinkNest "NamedWind" 93 yX0_nameCount "NamedWind", .methodLinkNest "NamedWind" 123 yX4_add "NamedWind", .methodLinkNest "NamedWind$Sea" 54 yX5_begin "NamedWind", .methodLinkNest "NamedWind" 133 yX5_tell "NamedWind", .methodLinkNest "NamedWind" 139 yX5_isA "NamedWind", .methodLinkNest "NamedWind" 145 yX4_isSpent "NamedWind", .methodLinkNest "NamedWind" 148 yX4_replaceCall "NamedWind", .methodLinkNest "NamedWind$Sea" 77 yX5_spends "NamedWind", .methodLinkNest "NamedWind" 151 yX4_passDay "NamedWind", .methodLinkNest "NamedWind$Sea" 91 yX0_favours "NamedWind", .methodLinkNest "NamedWind$Sea" 87 yX7_placeAfter "NamedWind", .methodLinkNest "NamedWind" 294 yX0_favours "NamedWind", .methodLinkNest "NamedWind" 155 yX4_homeCount "NamedWind", .methodLinkNest "NamedWind" 158 yX4_spentCount "NamedWind", .methodLinkNest "NamedWind" 174 yX1_begin "NamedWind", .methodLinkNest "NamedWind$Forecast" 38 yX0_favour "NamedWind", .methodLinkNest "NamedWind" 178 yX4_freeNames "NamedWind", .methodLinkNest "NamedWind" 181 yX1_chances "NamedWind", .methodLinkNest "NamedWind$Forecast" 53 yX7_placeAhead "NamedWind", .methodLinkNest "NamedWind$Forecast" 60 yX7_placeBehind "NamedWind", .methodLinkNest "NamedWind" 192 yX1_bestCall "NamedWind", .methodLinkNest "NamedWind" 196 yX0_tellingSign "NamedWind", .methodLinkNest "NamedWind" 304 yX0_strengthInAll "NamedWind", .methodLinkNest "NamedWind" 209 yX6_begin "NamedWind", .methodLinkNest "NamedWind" 215 yX6_add "NamedWind", .methodLinkNest "NamedWind" 217 yX6_ways "NamedWind", .methodLinkNest "NamedWind$Wake" 30 yX0_strengthInAll "NamedWind", .methodLinkNest "NamedWind$Wake" 36 yX7_placeAfter "NamedWind", .methodLinkNest "NamedWind" 221 yX6_callOn "NamedWind", .methodLinkNest "NamedWind" 225 yX4_copyFrom "NamedWind", .methodLinkNest "NamedWind$Sea" 44 yX5_copyFrom "NamedWind", .methodLinkNest "NamedWind" 229 yX4_passYears "NamedWind", .methodLinkNest "NamedWind" 233 yX4_placesTogether "NamedWind"]
theorem nestW_in : ∀ w ∈ nestW, w ∈ lw_tbl := by decide +kernel
theorem wsL_good : wsL_law.all goodWord = true := by decide +kernel
def isNest : Cond → Bool
  | .fieldLinkNest .. => true
  | .methodLinkNest .. => true
  | _ => false
theorem nestW_is : nestW.all isNest = true := by decide +kernel
def stT (k : Nat) : List Int32 := match k with
  | 88 => [2, 3, 1, 2, 2]
  | 89 => [2, 2, 1, 1, 1]
  | 90 => [1, 30, 900, 27000, 810000, 24300000, 729000000]
  | _ => []
def stN (k : Nat) : String := match k with
  | 88 => "SERVED_BY"
  | 89 => "TURNED_BY"
  | 90 => "SURE_OF"
  | _ => ""
def conc (g : GW) : Value → Value
  | .ref k => .ref (g.2.2 k)
  | v => v
theorem conc_cat (g : GW) (v : Value) : (conc g v).category = v.category := by cases v <;> rfl
/-- what a state's tables and statics give -/
def OKw (g : GW) (s : State) : Prop := va_K g.1 vwCl (tysW g) s ∧ (∀ w ∈ nestW, va_Nw w s) ∧ (∀ i j, i < 88 → j < 88 → g.2.2 i = g.2.2 j → i = j) ∧ ∀ k, 88 ≤ k → k < 91 → va_Z "NamedWind" (stN k) "[I" (.ref (g.2.2 k)) (AW g) s s.heap ∧ va_T .int (g.2.2 k) (stT k).length (fun j => .int ((stT k).getD j 0)) (AW g) s s.heap
theorem OKw.moved {g : GW} {s U : State} (h : OKw g s) (hW : s.WarmedH U.vm) {locs : List Loc} (hS : va_S (AW g) s.heap U.heap locs) : OKw g U := by
  obtain ⟨h1, h2, h3, h4⟩ := h
  refine ⟨va_K.moved hW.alike h1, fun w hw => ?_, h3, fun k ha hb => ?_⟩
  · have h5 := List.all_eq_true.mp nestW_is w hw
    have h6 := h2 w hw
    cases w <;> first | exact va_Nw.warmF hW h6 | exact va_Nw.warmM hW h6 | exact absurd h5 (by simp [isNest])
  · obtain ⟨z1, z2⟩ := h4 k ha hb
    exact ⟨(va_Z.moved hW.alike z1).kept (fun a q1 q2 => hS.2.1 a q1 q2), (va_T.moved hW.alike z2).kept (fun a q1 q2 => hS.2.1 a q1 q2)⟩
theorem OKw.calling {g : GW} {U : State} (h : OKw g U) (f : JFrame) (mk : MethodId) (a : Array Value) : OKw g (U.calling f mk a) := by
  obtain ⟨h1, h2, h3, h4⟩ := h
  refine ⟨va_K.moved (u := U) (U := U.calling f mk a) (Vm.Alike.refl U.vm) h1, fun w hw => ?_, h3, fun k ha hb => ?_⟩
  · have h5 := List.all_eq_true.mp nestW_is w hw
    have h6 := h2 w hw
    cases w <;> first | exact va_Nw.same rfl rfl h6 | exact absurd h5 (by simp [isNest])
  · obtain ⟨z1, z2⟩ := h4 k ha hb
    exact ⟨va_Z.moved (u := U) (U := U.calling f mk a) (Vm.Alike.refl U.vm) z1, va_T.moved (u := U) (U := U.calling f mk a) (Vm.Alike.refl U.vm) z2⟩
theorem OKw.D {g : GW} {s : State} (h : OKw g s) (μ : Mm) : va_D (AW g) (Wd g μ) := by
  constructor
  · intro i j p q hi hj hpq
    have ei : i < 88 := by
      have := (List.getElem?_eq_some_iff.mp hi).1
      simpa [Wd] using this
    have ej : j < 88 := by
      have := (List.getElem?_eq_some_iff.mp hj).1
      simpa [Wd] using this
    rw [Wd_at g μ ei] at hi
    rw [Wd_at g μ ej] at hj
    cases hi
    cases hj
    exact h.2.2.1 i j ei ej hpq
  · intro k q hq
    have ei : k < 88 := by
      have := (List.getElem?_eq_some_iff.mp hq).1
      simpa [Wd] using this
    rw [Wd_at g μ ei] at hq
    cases hq
    exact ⟨k, ei, rfl⟩
/-- the locals, as a list of abstract values; .null: nothing is known there -/
def asl (g : GW) (lv : List Value) : List (Nat × Value) := (List.range lv.length).filterMap fun i => match lv[i]? with
  | none => none
  | some .null => none
  | some v => some (i, conc g v)
theorem asl_mem {g : GW} {lv : List Value} {i : Nat} {v : Value} (h : lv[i]? = some v) (hv : v ≠ .null) : (i, conc g v) ∈ asl g lv := by
  refine List.mem_filterMap.mpr ⟨i, List.mem_range.mpr (List.getElem?_eq_some_iff.mp h).1, ?_⟩
  rw [h]
  cases v <;> first | rfl | exact absurd rfl hv
theorem asl_of {g : GW} {lv : List Value} {q : Nat × Value} (h : q ∈ asl g lv) : ∃ v, lv[q.1]? = some v ∧ v ≠ .null ∧ q.2 = conc g v := by
  obtain ⟨i, -, hi⟩ := List.mem_filterMap.mp h
  cases hv : lv[i]? with
  | none => rw [hv] at hi; cases hi
  | some v =>
    rw [hv] at hi
    cases v <;> first | (cases hi; done) | (cases hi; exact ⟨_, hv, by intro q; cases q, rfl⟩)
def LVs (g : GW) (ls : Array Slot) (nL : Nat) (lv : List Value) : Prop := lv_has ls nL (asl g lv)
theorem LVs.get {g : GW} {ls : Array Slot} {nL : Nat} {lv : List Value} (h : LVs g ls nL lv) {i : Nat} {v : Value} (hv : lv[i]? = some v) (hn : v ≠ .null) : ls[i]? = some (.val (conc g v)) := h.2.2 _ (asl_mem hv hn)
def okp (lv : List Value) (i : Nat) : Bool := match i with
  | 0 => true
  | j + 1 => match lv[j]? with
    | some (.long _) => false
    | some (.double _) => false
    | _ => true
theorem LVs.put {g : GW} {ls' : Array Slot} {nL : Nat} {lv : List Value} {i : Nat} {v : Value} (ho : okp lv i = true) (h : lv_has ls' nL ((i, conc g v) :: (asl g lv).filter (fun q => !(q.1 == i) && !(q.1 + 1 == i && q.2.category == 2)))) : LVs g ls' nL (lv.set i v) := by
  refine ⟨h.1, h.2.1, fun q hq => ?_⟩
  obtain ⟨w, h1, h2, h3⟩ := asl_of hq
  obtain ⟨j, qv⟩ := q
  dsimp only at h1 h3
  subst h3
  rw [List.getElem?_set] at h1
  by_cases e : i = j
  · subst e
    by_cases hl : i < lv.length
    · rw [if_pos rfl, if_pos hl] at h1
      cases h1
      exact h.2.2 _ List.mem_cons_self
    · rw [if_pos rfl, if_neg hl] at h1
      cases h1
  · rw [if_neg e] at h1
    refine h.2.2 (j, conc g w) (List.mem_cons_of_mem _ (List.mem_filter.mpr ⟨asl_mem h1 h2, ?_⟩))
    simp only [Bool.and_eq_true, Bool.not_eq_true', beq_eq_false_iff_ne, ne_eq, Bool.and_eq_false_iff]
    refine ⟨fun q => e q.symm, ?_⟩
    by_cases e2 : j + 1 = i
    · right
      subst e2
      intro hc
      have hc : (conc g w).category = 2 := by simpa using hc
      rw [conc_cat] at hc
      cases w <;> simp_all [okp, Value.category]
    · left
      exact e2
theorem LVs.putL {g : GW} {ls' : Array Slot} {nL : Nat} {lv : List Value} {i : Nat} {x : Int64} (ho : okp lv i = true) (h : lv_has ls' nL ((i, .long x) :: (asl g lv).filter (fun q => !(q.1 == i) && (!(q.1 == i + 1) && !(q.1 + 1 == i && q.2.category == 2))))) : LVs g ls' nL ((lv.set i (.long x)).set (i + 1) .null) := by
  refine ⟨h.1, h.2.1, fun q hq => ?_⟩
  obtain ⟨w, h1, h2, h3⟩ := asl_of hq
  obtain ⟨j, qv⟩ := q
  dsimp only at h1 h3
  subst h3
  rw [List.getElem?_set] at h1
  by_cases e0 : i + 1 = j
  · subst e0
    rw [if_pos rfl] at h1
    by_cases hl : i + 1 < (lv.set i (.long x)).length
    · rw [if_pos hl] at h1
      cases h1
      exact absurd rfl h2
    · rw [if_neg hl] at h1
      cases h1
  rw [if_neg e0, List.getElem?_set] at h1
  by_cases e : i = j
  · subst e
    by_cases hl : i < lv.length
    · rw [if_pos rfl, if_pos hl] at h1
      cases h1
      exact h.2.2 _ List.mem_cons_self
    · rw [if_pos rfl, if_neg hl] at h1
      cases h1
  · rw [if_neg e] at h1
    refine h.2.2 (j, conc g w) (List.mem_cons_of_mem _ (List.mem_filter.mpr ⟨asl_mem h1 h2, ?_⟩))
    simp only [Bool.and_eq_true, Bool.not_eq_true', beq_eq_false_iff_ne, ne_eq, Bool.and_eq_false_iff]
    refine ⟨fun q => e q.symm, fun q => e0 q.symm, ?_⟩
    by_cases e2 : j + 1 = i
    · right
      subst e2
      intro hc
      have hc : (conc g w).category = 2 := by simpa using hc
      rw [conc_cat] at hc
      cases w <;> simp_all [okp, Value.category]
    · left
      exact e2
def rmv (d : Nat) : Room := { frames := d, cells := 0, slots := 0, locals := 48 * d }
def Qvw (g : GW) (Q : Option Value → Mm → Prop) : Array Value → State → Outcome → State → Prop := fun _ st oc t => (∃ (r : Option Value) (μ' : Mm), oc = .returned (r.map (conc g)) ∧ Q r μ' ∧ va_P g.1 vwCl (Wd g μ') t.heap) ∧ va_F (AW g) st t
/-- the machine beside a frame of a method: p e s m args below meth c -/
def Ctx (l : Launch) (g : GW) (own : String) (cc : ByteArray) (nL : Nat) (rt : Option FieldType) (p : Program) (s : State) (m : MethodId) (args : Array Value) (meth : Method) (c : Code) : Prop :=
  p.tables.exec = Jvm.exec ∧ c.code = cc ∧ meth.sig.returnType = rt ∧ c.maxLocals = nL ∧ s.vm.findClass own = some m.cls ∧ meth.locks = false ∧ (∀ w ∈ wsL_law, w.before args s = true) ∧ OKw g s
def V (l : Launch) (g : GW) (own : String) (cc : ByteArray) (nL : Nat) (rt : Option FieldType) (d : Nat) (pc : Nat) (lv st : List Value) (μ : Mm) (Q : Option Value → Mm → Prop) : Prop :=
  ∀ (p : Program) (e : Env) (s : State) (m : MethodId) (args : Array Value) (below : List Frame) (meth : Method) (c : Code), Ctx l g own cc nL rt p s m args meth c → ∀ (H : Heap) (locs : List Loc) (ls : Array Slot), va_P g.1 vwCl (Wd g μ) H → va_S (AW g) s.heap H locs → LVs g ls nL lv → W p l e (rmv d) s m args below meth c H locs 0 0 (MQ below (Qvw g Q) args s 0 0 (AW g)) (F0 m pc ls (st.map (conc g)))
/-- a method's contract: called with these (abstract) values, in this memory -/
def Con (l : Launch) (g : GW) (y : MethodName) (cc : ByteArray) (nL : Nat) (rt : Option FieldType) (d : Nat) (av : List Value) (μ : Mm) (Q : Option Value → Mm → Prop) : Prop :=
  Met l y (.code y cc nL rt :: wsL_law) (rmv d) (va_Pc (av.map (conc g)) (fun U => OKw g U ∧ va_P g.1 vwCl (Wd g μ) U.heap)) (Qvw g Q) 0 0 (AW g)
def slo : List Value → List Value
  | [] => []
  | .long x :: t => .long x :: .null :: slo t
  | .double x :: t => .double x :: .null :: slo t
  | v :: t => v :: slo t
theorem slo_args (g : GW) : ∀ (av : List Value) (b i : Nat) (v : Value), (slo av)[i]? = some v → v ≠ .null → (b + i, conc g v) ∈ lv_args b (av.map (conc g)) := by
  intro av
  induction av with
  | nil => intro b i v h; simp [slo] at h
  | cons w t ih =>
    intro b i v h hv
    have two : (∃ i2, i = i2 + 2 ∧ (slo t)[i2]? = some v) → w.category = 2 → (b + i, conc g v) ∈ lv_args b ((w :: t).map (conc g)) := by
      rintro ⟨i2, rfl, h2⟩ hc
      have := ih (b + 2) i2 v h2 hv
      show _ ∈ lv_args b (conc g w :: t.map (conc g))
      simp only [lv_args, conc_cat, hc, if_true]
      rw [show b + (i2 + 2) = b + 2 + i2 by omega]
      exact List.mem_cons_of_mem _ this
    have one : (∃ i2, i = i2 + 1 ∧ (slo t)[i2]? = some v) → ¬ w.category = 2 → (b + i, conc g v) ∈ lv_args b ((w :: t).map (conc g)) := by
      rintro ⟨i2, rfl, h2⟩ hc
      have := ih (b + 1) i2 v h2 hv
      show _ ∈ lv_args b (conc g w :: t.map (conc g))
      simp only [lv_args, conc_cat, hc, if_false]
      rw [show b + (i2 + 1) = b + 1 + i2 by omega]
      exact List.mem_cons_of_mem _ this
    have zero : i = 0 → v = w → (b + i, conc g v) ∈ lv_args b ((w :: t).map (conc g)) := by
      rintro rfl rfl
      show _ ∈ lv_args b (conc g v :: t.map (conc g))
      simp [lv_args]
    cases w with
    | long x =>
      match i, h with
      | 0, h => exact zero rfl (by simpa [slo] using h.symm)
      | 1, h => exact absurd (by simpa [slo] using h.symm) hv
      | i2 + 2, h => exact two ⟨i2, rfl, by simpa [slo] using h⟩ rfl
    | double x =>
      match i, h with
      | 0, h => exact zero rfl (by simpa [slo] using h.symm)
      | 1, h => exact absurd (by simpa [slo] using h.symm) hv
      | i2 + 2, h => exact two ⟨i2, rfl, by simpa [slo] using h⟩ rfl
    | _ =>
      match i, h with
      | 0, h => exact zero rfl (by simpa [slo] using h.symm)
      | i2 + 1, h => exact one ⟨i2, rfl, by simpa [slo] using h⟩ (by simp [Value.category])
theorem Con.of {l : Launch} {g : GW} {y : MethodName} {cc : ByteArray} {nL : Nat} {rt : Option FieldType} {d : Nat} {av : List Value} {μ : Mm} {Q : Option Value → Mm → Prop} (lv0 : List Value) (n0 : Nat) (hy : plainName y.cls = true) (hlen : (lg_sl (av.map (conc g))).length ≤ nL) (h0 : slo av ++ List.replicate n0 .null = lv0) (h : V l g y.cls cc nL rt d 0 lv0 [] μ Q) : Con l g y cc nL rt d av μ Q := by
  refine Met.ofW (cc := cc) (maxL := nL) (ret := rt) hy rfl ?_
  intro p e s m args below meth c s₁ B hml hv
  obtain ⟨rfl, hOK, hP⟩ := hv
  have hts := atoms_spec (ws := .code y cc nL rt :: wsL_law) B.pre
  have hown : s.vm.findClass y.cls = some m.cls := findClass_of_methodNamed B.named
  have hl := lv_entry (av.map (conc g)) (n := nL) hlen
  rw [lg_entry_eq]
  have hlv : LVs g ((lg_sl (av.map (conc g)) ++ List.replicate (nL - (lg_sl (av.map (conc g))).length) Slot.unset).toArray) nL lv0 := by
    refine ⟨hl.1, hl.2.1, fun q hq => ?_⟩
    obtain ⟨v, h1, h2, h3⟩ := asl_of hq
    obtain ⟨j, qv⟩ := q
    dsimp only at h1 h3
    subst h3
    rw [← h0] at h1
    have h4 : (slo av)[j]? = some v := by
      by_cases hj : j < (slo av).length
      · rwa [List.getElem?_append_left hj] at h1
      · rw [List.getElem?_append_right (by omega)] at h1
        have := (List.mem_replicate.mp (List.mem_of_getElem? h1)).2
        exact absurd this h2
    have := slo_args g av 0 j v h4 h2
    rw [Nat.zero_add] at this
    exact hl.2.2 _ this
  exact h p e s m _ below meth c ⟨B.exec, B.bytes, B.returns, hml, hown, B.notSynchronized, fun w hw => hts w (List.mem_cons_of_mem _ hw), hOK⟩ s.heap [] _ hP va_S.rf hlv
theorem Con.mono {l : Launch} {g : GW} {y : MethodName} {cc : ByteArray} {nL : Nat} {rt : Option FieldType} {d : Nat} {av : List Value} {μ : Mm} {Q Q' : Option Value → Mm → Prop} (h : Con l g y cc nL rt d av μ Q) (hq : ∀ r μ', Q r μ' → Q' r μ') : Con l g y cc nL rt d av μ Q' := by
  intro p e ha hc hk s m args below hf hs hp hx
  obtain ⟨t, o, a1, b1, b2, ⟨⟨r, μ', e1, e2, e3⟩, b4⟩, b5⟩ := h p e ha hc hk s m args below hf hs hp hx
  exact ⟨t, o, a1, b1, b2, ⟨⟨r, μ', e1, hq _ _ e2, e3⟩, b4⟩, b5⟩
theorem V.mono {l : Launch} {g : GW} {own : String} {cc : ByteArray} {nL : Nat} {rt : Option FieldType} {d pc : Nat} {lv st : List Value} {μ : Mm} {Q Q' : Option Value → Mm → Prop} (h : V l g own cc nL rt d pc lv st μ Q) (hq : ∀ r μ', Q r μ' → Q' r μ') : V l g own cc nL rt d pc lv st μ Q' := by
  intro p e s m args below meth c C H locs ls hP hS hl T hT X
  obtain ⟨t, a1, o, b1, b2, ⟨⟨r, μ', e1, e2, e3⟩, b4⟩, b5⟩ := h p e s m args below meth c C H locs ls hP hS hl T hT X
  exact ⟨t, a1, o, b1, b2, ⟨⟨r, μ', e1, hq _ _ e2, e3⟩, b4⟩, b5⟩
end
