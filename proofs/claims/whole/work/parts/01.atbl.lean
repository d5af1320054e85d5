-- ===== PART A: goes FIRST, ahead of the names: the tables' words, and 'selects' of the private methods out of them =====
/-- a private method of a class that the tables say can be made, by its rows of tables_1 -/
def lw_okq (q : MethodName × Nat) : Prop := (q.1.cls ≠ "java/lang/invoke/MethodHandle" ∧ q.1.cls ≠ "java/lang/invoke/VarHandle") ∧ Cond.instantiable q.1.cls q.2 ∈ tables_1 ∧ Cond.privateMethod q.1 ∈ tables_1 ∧ Cond.instanceMethod q.1 ∈ tables_1
set_option maxRecDepth 100000 in
theorem lw_p0 : lw_okq (⟨"NamedWind$Sea", "clear", "()V"⟩, 6) := ⟨⟨by decide +kernel, by decide +kernel⟩, List.mem_of_getElem? (i := 54) rfl, List.mem_of_getElem? (i := 90) rfl, List.mem_of_getElem? (i := 91) rfl⟩
set_option maxRecDepth 100000 in
theorem lw_p1 : lw_okq (⟨"NamedWind$Book", "clear", "()V"⟩, 2) := ⟨⟨by decide +kernel, by decide +kernel⟩, List.mem_of_getElem? (i := 164) rfl, List.mem_of_getElem? (i := 171) rfl, List.mem_of_getElem? (i := 172) rfl⟩
set_option maxRecDepth 100000 in
theorem lw_p2 : lw_okq (⟨"NamedWind$Page", "add", "(J)I"⟩, 2) := ⟨⟨by decide +kernel, by decide +kernel⟩, List.mem_of_getElem? (i := 23) rfl, List.mem_of_getElem? (i := 227) rfl, List.mem_of_getElem? (i := 228) rfl⟩
set_option maxRecDepth 100000 in
theorem lw_p3 : lw_okq (⟨"NamedWind$Page", "empty", "()I"⟩, 2) := ⟨⟨by decide +kernel, by decide +kernel⟩, List.mem_of_getElem? (i := 23) rfl, List.mem_of_getElem? (i := 241) rfl, List.mem_of_getElem? (i := 242) rfl⟩
set_option maxRecDepth 100000 in
theorem lw_p4 : lw_okq (⟨"NamedWind$Reader", "read", "(LNamedWind$Page;LNamedWind$Book;)I"⟩, 2) := ⟨⟨by decide +kernel, by decide +kernel⟩, List.mem_of_getElem? (i := 41) rfl, List.mem_of_getElem? (i := 249) rfl, List.mem_of_getElem? (i := 250) rfl⟩
set_option maxRecDepth 100000 in
theorem lw_p5 : lw_okq (⟨"NamedWind$Reader", "takes", "(ILNamedWind$Book;)Z"⟩, 2) := ⟨⟨by decide +kernel, by decide +kernel⟩, List.mem_of_getElem? (i := 41) rfl, List.mem_of_getElem? (i := 254) rfl, List.mem_of_getElem? (i := 255) rfl⟩
set_option maxRecDepth 100000 in
theorem lw_p6 : lw_okq (⟨"NamedWind$Reader", "takesMark", "(ICI)Z"⟩, 2) := ⟨⟨by decide +kernel, by decide +kernel⟩, List.mem_of_getElem? (i := 41) rfl, List.mem_of_getElem? (i := 258) rfl, List.mem_of_getElem? (i := 259) rfl⟩
set_option maxRecDepth 100000 in
theorem lw_p7 : lw_okq (⟨"NamedWind$Reader", "takesName", "(ILNamedWind$Book;I)Z"⟩, 2) := ⟨⟨by decide +kernel, by decide +kernel⟩, List.mem_of_getElem? (i := 41) rfl, List.mem_of_getElem? (i := 262) rfl, List.mem_of_getElem? (i := 263) rfl⟩
set_option maxRecDepth 100000 in
theorem lw_p8 : lw_okq (⟨"NamedWind$Reader", "takesNextWind", "(I)Z"⟩, 2) := ⟨⟨by decide +kernel, by decide +kernel⟩, List.mem_of_getElem? (i := 41) rfl, List.mem_of_getElem? (i := 269) rfl, List.mem_of_getElem? (i := 270) rfl⟩
set_option maxRecDepth 100000 in
theorem lw_p9 : lw_okq (⟨"NamedWind$Reader", "takesTenths", "(ILNamedWind$Book;)Z"⟩, 2) := ⟨⟨by decide +kernel, by decide +kernel⟩, List.mem_of_getElem? (i := 41) rfl, List.mem_of_getElem? (i := 273) rfl, List.mem_of_getElem? (i := 274) rfl⟩
set_option maxRecDepth 100000 in
theorem lw_p10 : lw_okq (⟨"NamedWind$Reader", "atEnd", "()Z"⟩, 2) := ⟨⟨by decide +kernel, by decide +kernel⟩, List.mem_of_getElem? (i := 41) rfl, List.mem_of_getElem? (i := 284) rfl, List.mem_of_getElem? (i := 285) rfl⟩
set_option maxRecDepth 100000 in
theorem lw_p11 : lw_okq (⟨"NamedWind$Wake", "end", "()V"⟩, 4) := ⟨⟨by decide +kernel, by decide +kernel⟩, List.mem_of_getElem? (i := 122) rfl, List.mem_of_getElem? (i := 289) rfl, List.mem_of_getElem? (i := 290) rfl⟩
set_option maxRecDepth 100000 in
theorem lw_p12 : lw_okq (⟨"NamedWind$Book", "nameCount", "()I"⟩, 2) := ⟨⟨by decide +kernel, by decide +kernel⟩, List.mem_of_getElem? (i := 164) rfl, List.mem_of_getElem? (i := 293) rfl, List.mem_of_getElem? (i := 294) rfl⟩
set_option maxRecDepth 100000 in
theorem lw_p13 : lw_okq (⟨"NamedWind", "hasBook", "()Z"⟩, 11) := ⟨⟨by decide +kernel, by decide +kernel⟩, List.mem_of_getElem? (i := 15) rfl, List.mem_of_getElem? (i := 305) rfl, List.mem_of_getElem? (i := 306) rfl⟩
set_option maxRecDepth 100000 in
theorem lw_p14 : lw_okq (⟨"NamedWind$Sea", "add", "(II)I"⟩, 6) := ⟨⟨by decide +kernel, by decide +kernel⟩, List.mem_of_getElem? (i := 54) rfl, List.mem_of_getElem? (i := 324) rfl, List.mem_of_getElem? (i := 325) rfl⟩
set_option maxRecDepth 100000 in
theorem lw_p15 : lw_okq (⟨"NamedWind$Ship", "begin", "(II)V"⟩, 5) := ⟨⟨by decide +kernel, by decide +kernel⟩, List.mem_of_getElem? (i := 61) rfl, List.mem_of_getElem? (i := 328) rfl, List.mem_of_getElem? (i := 329) rfl⟩
def lw_privs_1 : List (MethodName × Nat) := [(⟨"NamedWind$Sea", "clear", "()V"⟩, 6), (⟨"NamedWind$Book", "clear", "()V"⟩, 2), (⟨"NamedWind$Page", "add", "(J)I"⟩, 2), (⟨"NamedWind$Page", "empty", "()I"⟩, 2), (⟨"NamedWind$Reader", "read", "(LNamedWind$Page;LNamedWind$Book;)I"⟩, 2), (⟨"NamedWind$Reader", "takes", "(ILNamedWind$Book;)Z"⟩, 2), (⟨"NamedWind$Reader", "takesMark", "(ICI)Z"⟩, 2), (⟨"NamedWind$Reader", "takesName", "(ILNamedWind$Book;I)Z"⟩, 2), (⟨"NamedWind$Reader", "takesNextWind", "(I)Z"⟩, 2), (⟨"NamedWind$Reader", "takesTenths", "(ILNamedWind$Book;)Z"⟩, 2), (⟨"NamedWind$Reader", "atEnd", "()Z"⟩, 2), (⟨"NamedWind$Wake", "end", "()V"⟩, 4), (⟨"NamedWind$Book", "nameCount", "()I"⟩, 2), (⟨"NamedWind", "hasBook", "()Z"⟩, 11), (⟨"NamedWind$Sea", "add", "(II)I"⟩, 6), (⟨"NamedWind$Ship", "begin", "(II)V"⟩, 5)]
theorem lw_r1 : ∀ q ∈ lw_privs_1, lw_okq q := List.forall_mem_cons.mpr ⟨lw_p0, List.forall_mem_cons.mpr ⟨lw_p1, List.forall_mem_cons.mpr ⟨lw_p2, List.forall_mem_cons.mpr ⟨lw_p3, List.forall_mem_cons.mpr ⟨lw_p4, List.forall_mem_cons.mpr ⟨lw_p5, List.forall_mem_cons.mpr ⟨lw_p6, List.forall_mem_cons.mpr ⟨lw_p7, List.forall_mem_cons.mpr ⟨lw_p8, List.forall_mem_cons.mpr ⟨lw_p9, List.forall_mem_cons.mpr ⟨lw_p10, List.forall_mem_cons.mpr ⟨lw_p11, List.forall_mem_cons.mpr ⟨lw_p12, List.forall_mem_cons.mpr ⟨lw_p13, List.forall_mem_cons.mpr ⟨lw_p14, List.forall_mem_cons.mpr ⟨lw_p15, fun _ h => absurd h List.not_mem_nil⟩⟩⟩⟩⟩⟩⟩⟩⟩⟩⟩⟩⟩⟩⟩⟩
set_option maxRecDepth 100000 in
theorem lw_p16 : lw_okq (⟨"NamedWind", "isShip", "(I)Z"⟩, 11) := ⟨⟨by decide +kernel, by decide +kernel⟩, List.mem_of_getElem? (i := 15) rfl, List.mem_of_getElem? (i := 336) rfl, List.mem_of_getElem? (i := 337) rfl⟩
set_option maxRecDepth 100000 in
theorem lw_p17 : lw_okq (⟨"NamedWind$Ship", "tell", "(I)I"⟩, 5) := ⟨⟨by decide +kernel, by decide +kernel⟩, List.mem_of_getElem? (i := 61) rfl, List.mem_of_getElem? (i := 340) rfl, List.mem_of_getElem? (i := 341) rfl⟩
set_option maxRecDepth 100000 in
theorem lw_p18 : lw_okq (⟨"NamedWind$Ship", "isA", "(I)Z"⟩, 5) := ⟨⟨by decide +kernel, by decide +kernel⟩, List.mem_of_getElem? (i := 61) rfl, List.mem_of_getElem? (i := 348) rfl, List.mem_of_getElem? (i := 349) rfl⟩
set_option maxRecDepth 100000 in
theorem lw_p19 : lw_okq (⟨"NamedWind$Sea", "isSpent", "(I)Z"⟩, 6) := ⟨⟨by decide +kernel, by decide +kernel⟩, List.mem_of_getElem? (i := 54) rfl, List.mem_of_getElem? (i := 356) rfl, List.mem_of_getElem? (i := 357) rfl⟩
set_option maxRecDepth 100000 in
theorem lw_p20 : lw_okq (⟨"NamedWind$Sea", "replaceCall", "(II)I"⟩, 6) := ⟨⟨by decide +kernel, by decide +kernel⟩, List.mem_of_getElem? (i := 54) rfl, List.mem_of_getElem? (i := 360) rfl, List.mem_of_getElem? (i := 361) rfl⟩
set_option maxRecDepth 100000 in
theorem lw_p21 : lw_okq (⟨"NamedWind$Sea", "isSpentToday", "(I)Z"⟩, 6) := ⟨⟨by decide +kernel, by decide +kernel⟩, List.mem_of_getElem? (i := 54) rfl, List.mem_of_getElem? (i := 364) rfl, List.mem_of_getElem? (i := 365) rfl⟩
set_option maxRecDepth 100000 in
theorem lw_p22 : lw_okq (⟨"NamedWind$Ship", "spends", "(I)Z"⟩, 5) := ⟨⟨by decide +kernel, by decide +kernel⟩, List.mem_of_getElem? (i := 61) rfl, List.mem_of_getElem? (i := 368) rfl, List.mem_of_getElem? (i := 369) rfl⟩
set_option maxRecDepth 100000 in
theorem lw_p23 : lw_okq (⟨"NamedWind$Sea", "beginCall", "(II)V"⟩, 6) := ⟨⟨by decide +kernel, by decide +kernel⟩, List.mem_of_getElem? (i := 54) rfl, List.mem_of_getElem? (i := 372) rfl, List.mem_of_getElem? (i := 373) rfl⟩
set_option maxRecDepth 100000 in
theorem lw_p24 : lw_okq (⟨"NamedWind$Sea", "passDay", "(LNamedWind$Book;I)V"⟩, 6) := ⟨⟨by decide +kernel, by decide +kernel⟩, List.mem_of_getElem? (i := 54) rfl, List.mem_of_getElem? (i := 384) rfl, List.mem_of_getElem? (i := 385) rfl⟩
set_option maxRecDepth 100000 in
theorem lw_p25 : lw_okq (⟨"NamedWind$Sea", "answer", "(LNamedWind$Book;LNamedWind$Ship;I)V"⟩, 6) := ⟨⟨by decide +kernel, by decide +kernel⟩, List.mem_of_getElem? (i := 54) rfl, List.mem_of_getElem? (i := 388) rfl, List.mem_of_getElem? (i := 389) rfl⟩
set_option maxRecDepth 100000 in
theorem lw_p26 : lw_okq (⟨"NamedWind$Book", "favours", "(II)Z"⟩, 2) := ⟨⟨by decide +kernel, by decide +kernel⟩, List.mem_of_getElem? (i := 164) rfl, List.mem_of_getElem? (i := 392) rfl, List.mem_of_getElem? (i := 393) rfl⟩
set_option maxRecDepth 100000 in
theorem lw_p27 : lw_okq (⟨"NamedWind$Sea", "homeCount", "()I"⟩, 6) := ⟨⟨by decide +kernel, by decide +kernel⟩, List.mem_of_getElem? (i := 54) rfl, List.mem_of_getElem? (i := 416) rfl, List.mem_of_getElem? (i := 417) rfl⟩
set_option maxRecDepth 100000 in
theorem lw_p28 : lw_okq (⟨"NamedWind$Sea", "spentCount", "()I"⟩, 6) := ⟨⟨by decide +kernel, by decide +kernel⟩, List.mem_of_getElem? (i := 54) rfl, List.mem_of_getElem? (i := 424) rfl, List.mem_of_getElem? (i := 425) rfl⟩
set_option maxRecDepth 100000 in
theorem lw_p29 : lw_okq (⟨"NamedWind$Forecast", "begin", "(LNamedWind$Book;II)V"⟩, 4) := ⟨⟨by decide +kernel, by decide +kernel⟩, List.mem_of_getElem? (i := 143) rfl, List.mem_of_getElem? (i := 443) rfl, List.mem_of_getElem? (i := 444) rfl⟩
set_option maxRecDepth 100000 in
theorem lw_p30 : lw_okq (⟨"NamedWind$Book", "favour", "(II)I"⟩, 2) := ⟨⟨by decide +kernel, by decide +kernel⟩, List.mem_of_getElem? (i := 164) rfl, List.mem_of_getElem? (i := 448) rfl, List.mem_of_getElem? (i := 449) rfl⟩
set_option maxRecDepth 100000 in
theorem lw_p31 : lw_okq (⟨"NamedWind$Sea", "freeNames", "()I"⟩, 6) := ⟨⟨by decide +kernel, by decide +kernel⟩, List.mem_of_getElem? (i := 54) rfl, List.mem_of_getElem? (i := 453) rfl, List.mem_of_getElem? (i := 454) rfl⟩
def lw_privs_2 : List (MethodName × Nat) := [(⟨"NamedWind", "isShip", "(I)Z"⟩, 11), (⟨"NamedWind$Ship", "tell", "(I)I"⟩, 5), (⟨"NamedWind$Ship", "isA", "(I)Z"⟩, 5), (⟨"NamedWind$Sea", "isSpent", "(I)Z"⟩, 6), (⟨"NamedWind$Sea", "replaceCall", "(II)I"⟩, 6), (⟨"NamedWind$Sea", "isSpentToday", "(I)Z"⟩, 6), (⟨"NamedWind$Ship", "spends", "(I)Z"⟩, 5), (⟨"NamedWind$Sea", "beginCall", "(II)V"⟩, 6), (⟨"NamedWind$Sea", "passDay", "(LNamedWind$Book;I)V"⟩, 6), (⟨"NamedWind$Sea", "answer", "(LNamedWind$Book;LNamedWind$Ship;I)V"⟩, 6), (⟨"NamedWind$Book", "favours", "(II)Z"⟩, 2), (⟨"NamedWind$Sea", "homeCount", "()I"⟩, 6), (⟨"NamedWind$Sea", "spentCount", "()I"⟩, 6), (⟨"NamedWind$Forecast", "begin", "(LNamedWind$Book;II)V"⟩, 4), (⟨"NamedWind$Book", "favour", "(II)I"⟩, 2), (⟨"NamedWind$Sea", "freeNames", "()I"⟩, 6)]
theorem lw_r2 : ∀ q ∈ lw_privs_2, lw_okq q := List.forall_mem_cons.mpr ⟨lw_p16, List.forall_mem_cons.mpr ⟨lw_p17, List.forall_mem_cons.mpr ⟨lw_p18, List.forall_mem_cons.mpr ⟨lw_p19, List.forall_mem_cons.mpr ⟨lw_p20, List.forall_mem_cons.mpr ⟨lw_p21, List.forall_mem_cons.mpr ⟨lw_p22, List.forall_mem_cons.mpr ⟨lw_p23, List.forall_mem_cons.mpr ⟨lw_p24, List.forall_mem_cons.mpr ⟨lw_p25, List.forall_mem_cons.mpr ⟨lw_p26, List.forall_mem_cons.mpr ⟨lw_p27, List.forall_mem_cons.mpr ⟨lw_p28, List.forall_mem_cons.mpr ⟨lw_p29, List.forall_mem_cons.mpr ⟨lw_p30, List.forall_mem_cons.mpr ⟨lw_p31, fun _ h => absurd h List.not_mem_nil⟩⟩⟩⟩⟩⟩⟩⟩⟩⟩⟩⟩⟩⟩⟩⟩
set_option maxRecDepth 100000 in
theorem lw_p32 : lw_okq (⟨"NamedWind$Forecast", "chances", "(III)I"⟩, 4) := ⟨⟨by decide +kernel, by decide +kernel⟩, List.mem_of_getElem? (i := 143) rfl, List.mem_of_getElem? (i := 457) rfl, List.mem_of_getElem? (i := 458) rfl⟩
set_option maxRecDepth 100000 in
theorem lw_p33 : lw_okq (⟨"NamedWind$Forecast", "bestCall", "(IIII)I"⟩, 4) := ⟨⟨by decide +kernel, by decide +kernel⟩, List.mem_of_getElem? (i := 143) rfl, List.mem_of_getElem? (i := 463) rfl, List.mem_of_getElem? (i := 464) rfl⟩
set_option maxRecDepth 100000 in
theorem lw_p34 : lw_okq (⟨"NamedWind$Forecast", "worth", "(IIIII)I"⟩, 4) := ⟨⟨by decide +kernel, by decide +kernel⟩, List.mem_of_getElem? (i := 143) rfl, List.mem_of_getElem? (i := 467) rfl, List.mem_of_getElem? (i := 468) rfl⟩
set_option maxRecDepth 100000 in
theorem lw_p35 : lw_okq (⟨"NamedWind$Book", "tellingSign", "()I"⟩, 2) := ⟨⟨by decide +kernel, by decide +kernel⟩, List.mem_of_getElem? (i := 164) rfl, List.mem_of_getElem? (i := 494) rfl, List.mem_of_getElem? (i := 495) rfl⟩
set_option maxRecDepth 100000 in
theorem lw_p36 : lw_okq (⟨"NamedWind$Book", "strongest", "(I)I"⟩, 2) := ⟨⟨by decide +kernel, by decide +kernel⟩, List.mem_of_getElem? (i := 164) rfl, List.mem_of_getElem? (i := 498) rfl, List.mem_of_getElem? (i := 499) rfl⟩
set_option maxRecDepth 100000 in
theorem lw_p37 : lw_okq (⟨"NamedWind$Book", "strengthInAll", "(I)I"⟩, 2) := ⟨⟨by decide +kernel, by decide +kernel⟩, List.mem_of_getElem? (i := 164) rfl, List.mem_of_getElem? (i := 510) rfl, List.mem_of_getElem? (i := 511) rfl⟩
set_option maxRecDepth 100000 in
theorem lw_p38 : lw_okq (⟨"NamedWind$Wake", "begin", "(II)V"⟩, 4) := ⟨⟨by decide +kernel, by decide +kernel⟩, List.mem_of_getElem? (i := 122) rfl, List.mem_of_getElem? (i := 523) rfl, List.mem_of_getElem? (i := 524) rfl⟩
set_option maxRecDepth 100000 in
theorem lw_p39 : lw_okq (⟨"NamedWind$Wake", "add", "(I)I"⟩, 4) := ⟨⟨by decide +kernel, by decide +kernel⟩, List.mem_of_getElem? (i := 122) rfl, List.mem_of_getElem? (i := 531) rfl, List.mem_of_getElem? (i := 532) rfl⟩
set_option maxRecDepth 100000 in
theorem lw_p40 : lw_okq (⟨"NamedWind$Wake", "ways", "(LNamedWind$Book;)I"⟩, 4) := ⟨⟨by decide +kernel, by decide +kernel⟩, List.mem_of_getElem? (i := 122) rfl, List.mem_of_getElem? (i := 539) rfl, List.mem_of_getElem? (i := 540) rfl⟩
set_option maxRecDepth 100000 in
theorem lw_p41 : lw_okq (⟨"NamedWind$Wake", "waysBy", "(LNamedWind$Book;II)I"⟩, 4) := ⟨⟨by decide +kernel, by decide +kernel⟩, List.mem_of_getElem? (i := 122) rfl, List.mem_of_getElem? (i := 543) rfl, List.mem_of_getElem? (i := 544) rfl⟩
set_option maxRecDepth 100000 in
theorem lw_p42 : lw_okq (⟨"NamedWind$Wake", "callOn", "(LNamedWind$Book;I)I"⟩, 4) := ⟨⟨by decide +kernel, by decide +kernel⟩, List.mem_of_getElem? (i := 122) rfl, List.mem_of_getElem? (i := 553) rfl, List.mem_of_getElem? (i := 554) rfl⟩
set_option maxRecDepth 100000 in
theorem lw_p43 : lw_okq (⟨"NamedWind$Sea", "copyFrom", "(LNamedWind$Sea;)V"⟩, 6) := ⟨⟨by decide +kernel, by decide +kernel⟩, List.mem_of_getElem? (i := 54) rfl, List.mem_of_getElem? (i := 562) rfl, List.mem_of_getElem? (i := 563) rfl⟩
set_option maxRecDepth 100000 in
theorem lw_p44 : lw_okq (⟨"NamedWind$Ship", "copyFrom", "(LNamedWind$Ship;)V"⟩, 5) := ⟨⟨by decide +kernel, by decide +kernel⟩, List.mem_of_getElem? (i := 61) rfl, List.mem_of_getElem? (i := 566) rfl, List.mem_of_getElem? (i := 567) rfl⟩
set_option maxRecDepth 100000 in
theorem lw_p45 : lw_okq (⟨"NamedWind$Sea", "passYears", "(LNamedWind$Book;II)I"⟩, 6) := ⟨⟨by decide +kernel, by decide +kernel⟩, List.mem_of_getElem? (i := 54) rfl, List.mem_of_getElem? (i := 573) rfl, List.mem_of_getElem? (i := 574) rfl⟩
set_option maxRecDepth 100000 in
theorem lw_p46 : lw_okq (⟨"NamedWind$Sea", "placesTogether", "()I"⟩, 6) := ⟨⟨by decide +kernel, by decide +kernel⟩, List.mem_of_getElem? (i := 54) rfl, List.mem_of_getElem? (i := 591) rfl, List.mem_of_getElem? (i := 592) rfl⟩
set_option maxRecDepth 100000 in
theorem lw_p47 : lw_okq (⟨"NamedWind", "mixBook", "(J)J"⟩, 11) := ⟨⟨by decide +kernel, by decide +kernel⟩, List.mem_of_getElem? (i := 15) rfl, List.mem_of_getElem? (i := 612) rfl, List.mem_of_getElem? (i := 613) rfl⟩
def lw_privs_3 : List (MethodName × Nat) := [(⟨"NamedWind$Forecast", "chances", "(III)I"⟩, 4), (⟨"NamedWind$Forecast", "bestCall", "(IIII)I"⟩, 4), (⟨"NamedWind$Forecast", "worth", "(IIIII)I"⟩, 4), (⟨"NamedWind$Book", "tellingSign", "()I"⟩, 2), (⟨"NamedWind$Book", "strongest", "(I)I"⟩, 2), (⟨"NamedWind$Book", "strengthInAll", "(I)I"⟩, 2), (⟨"NamedWind$Wake", "begin", "(II)V"⟩, 4), (⟨"NamedWind$Wake", "add", "(I)I"⟩, 4), (⟨"NamedWind$Wake", "ways", "(LNamedWind$Book;)I"⟩, 4), (⟨"NamedWind$Wake", "waysBy", "(LNamedWind$Book;II)I"⟩, 4), (⟨"NamedWind$Wake", "callOn", "(LNamedWind$Book;I)I"⟩, 4), (⟨"NamedWind$Sea", "copyFrom", "(LNamedWind$Sea;)V"⟩, 6), (⟨"NamedWind$Ship", "copyFrom", "(LNamedWind$Ship;)V"⟩, 5), (⟨"NamedWind$Sea", "passYears", "(LNamedWind$Book;II)I"⟩, 6), (⟨"NamedWind$Sea", "placesTogether", "()I"⟩, 6), (⟨"NamedWind", "mixBook", "(J)J"⟩, 11)]
theorem lw_r3 : ∀ q ∈ lw_privs_3, lw_okq q := List.forall_mem_cons.mpr ⟨lw_p32, List.forall_mem_cons.mpr ⟨lw_p33, List.forall_mem_cons.mpr ⟨lw_p34, List.forall_mem_cons.mpr ⟨lw_p35, List.forall_mem_cons.mpr ⟨lw_p36, List.forall_mem_cons.mpr ⟨lw_p37, List.forall_mem_cons.mpr ⟨lw_p38, List.forall_mem_cons.mpr ⟨lw_p39, List.forall_mem_cons.mpr ⟨lw_p40, List.forall_mem_cons.mpr ⟨lw_p41, List.forall_mem_cons.mpr ⟨lw_p42, List.forall_mem_cons.mpr ⟨lw_p43, List.forall_mem_cons.mpr ⟨lw_p44, List.forall_mem_cons.mpr ⟨lw_p45, List.forall_mem_cons.mpr ⟨lw_p46, List.forall_mem_cons.mpr ⟨lw_p47, fun _ h => absurd h List.not_mem_nil⟩⟩⟩⟩⟩⟩⟩⟩⟩⟩⟩⟩⟩⟩⟩⟩
set_option maxRecDepth 100000 in
theorem lw_p48 : lw_okq (⟨"NamedWind", "mixShip", "(JI)J"⟩, 11) := ⟨⟨by decide +kernel, by decide +kernel⟩, List.mem_of_getElem? (i := 15) rfl, List.mem_of_getElem? (i := 622) rfl, List.mem_of_getElem? (i := 623) rfl⟩
set_option maxRecDepth 100000 in
theorem lw_p49 : lw_okq (⟨"NamedWindModel", "readBook", "()V"⟩, 44) := ⟨⟨by decide +kernel, by decide +kernel⟩, List.mem_of_getElem? (i := 630) rfl, List.mem_of_getElem? (i := 785) rfl, List.mem_of_getElem? (i := 786) rfl⟩
set_option maxRecDepth 100000 in
theorem lw_p50 : lw_okq (⟨"NamedWindModel", "nextState", "(II)I"⟩, 44) := ⟨⟨by decide +kernel, by decide +kernel⟩, List.mem_of_getElem? (i := 630) rfl, List.mem_of_getElem? (i := 789) rfl, List.mem_of_getElem? (i := 790) rfl⟩
set_option maxRecDepth 100000 in
theorem lw_p51 : lw_okq (⟨"NamedWindModel", "takesName", "(I)Z"⟩, 44) := ⟨⟨by decide +kernel, by decide +kernel⟩, List.mem_of_getElem? (i := 630) rfl, List.mem_of_getElem? (i := 793) rfl, List.mem_of_getElem? (i := 794) rfl⟩
set_option maxRecDepth 100000 in
theorem lw_p52 : lw_okq (⟨"NamedWindModel", "takesTenths", "(II)Z"⟩, 44) := ⟨⟨by decide +kernel, by decide +kernel⟩, List.mem_of_getElem? (i := 630) rfl, List.mem_of_getElem? (i := 800) rfl, List.mem_of_getElem? (i := 801) rfl⟩
set_option maxRecDepth 100000 in
theorem lw_p53 : lw_okq (⟨"NamedWindModel", "isShip", "(I)Z"⟩, 44) := ⟨⟨by decide +kernel, by decide +kernel⟩, List.mem_of_getElem? (i := 630) rfl, List.mem_of_getElem? (i := 830) rfl, List.mem_of_getElem? (i := 831) rfl⟩
set_option maxRecDepth 100000 in
theorem lw_p54 : lw_okq (⟨"NamedWindModel", "shipNow", "(II)I"⟩, 44) := ⟨⟨by decide +kernel, by decide +kernel⟩, List.mem_of_getElem? (i := 630) rfl, List.mem_of_getElem? (i := 834) rfl, List.mem_of_getElem? (i := 835) rfl⟩
set_option maxRecDepth 100000 in
theorem lw_p55 : lw_okq (⟨"NamedWindModel", "isCalledToo", "(II)Z"⟩, 44) := ⟨⟨by decide +kernel, by decide +kernel⟩, List.mem_of_getElem? (i := 630) rfl, List.mem_of_getElem? (i := 849) rfl, List.mem_of_getElem? (i := 850) rfl⟩
set_option maxRecDepth 100000 in
theorem lw_p56 : lw_okq (⟨"NamedWindModel", "answer", "(II)V"⟩, 44) := ⟨⟨by decide +kernel, by decide +kernel⟩, List.mem_of_getElem? (i := 630) rfl, List.mem_of_getElem? (i := 861) rfl, List.mem_of_getElem? (i := 862) rfl⟩
set_option maxRecDepth 100000 in
theorem lw_p57 : lw_okq (⟨"NamedWindModel", "behind", "(IIII)I"⟩, 44) := ⟨⟨by decide +kernel, by decide +kernel⟩, List.mem_of_getElem? (i := 630) rfl, List.mem_of_getElem? (i := 865) rfl, List.mem_of_getElem? (i := 866) rfl⟩
set_option maxRecDepth 100000 in
theorem lw_p58 : lw_okq (⟨"NamedWindModel", "homeMany", "()I"⟩, 44) := ⟨⟨by decide +kernel, by decide +kernel⟩, List.mem_of_getElem? (i := 630) rfl, List.mem_of_getElem? (i := 869) rfl, List.mem_of_getElem? (i := 870) rfl⟩
set_option maxRecDepth 100000 in
theorem lw_p59 : lw_okq (⟨"NamedWindModel", "likelyNow", "(III)J"⟩, 44) := ⟨⟨by decide +kernel, by decide +kernel⟩, List.mem_of_getElem? (i := 630) rfl, List.mem_of_getElem? (i := 885) rfl, List.mem_of_getElem? (i := 886) rfl⟩
set_option maxRecDepth 100000 in
theorem lw_p60 : lw_okq (⟨"NamedWindModel", "layChances", "(II)V"⟩, 44) := ⟨⟨by decide +kernel, by decide +kernel⟩, List.mem_of_getElem? (i := 630) rfl, List.mem_of_getElem? (i := 889) rfl, List.mem_of_getElem? (i := 890) rfl⟩
set_option maxRecDepth 100000 in
theorem lw_p61 : lw_okq (⟨"NamedWindModel", "overSigns", "(IIII)J"⟩, 44) := ⟨⟨by decide +kernel, by decide +kernel⟩, List.mem_of_getElem? (i := 630) rfl, List.mem_of_getElem? (i := 896) rfl, List.mem_of_getElem? (i := 897) rfl⟩
set_option maxRecDepth 100000 in
theorem lw_p62 : lw_okq (⟨"NamedWindModel", "bestCall", "(IIIII)I"⟩, 44) := ⟨⟨by decide +kernel, by decide +kernel⟩, List.mem_of_getElem? (i := 630) rfl, List.mem_of_getElem? (i := 900) rfl, List.mem_of_getElem? (i := 901) rfl⟩
set_option maxRecDepth 100000 in
theorem lw_p63 : lw_okq (⟨"NamedWindModel", "chanceBy", "(IIIIII)J"⟩, 44) := ⟨⟨by decide +kernel, by decide +kernel⟩, List.mem_of_getElem? (i := 630) rfl, List.mem_of_getElem? (i := 904) rfl, List.mem_of_getElem? (i := 905) rfl⟩
def lw_privs_4 : List (MethodName × Nat) := [(⟨"NamedWind", "mixShip", "(JI)J"⟩, 11), (⟨"NamedWindModel", "readBook", "()V"⟩, 44), (⟨"NamedWindModel", "nextState", "(II)I"⟩, 44), (⟨"NamedWindModel", "takesName", "(I)Z"⟩, 44), (⟨"NamedWindModel", "takesTenths", "(II)Z"⟩, 44), (⟨"NamedWindModel", "isShip", "(I)Z"⟩, 44), (⟨"NamedWindModel", "shipNow", "(II)I"⟩, 44), (⟨"NamedWindModel", "isCalledToo", "(II)Z"⟩, 44), (⟨"NamedWindModel", "answer", "(II)V"⟩, 44), (⟨"NamedWindModel", "behind", "(IIII)I"⟩, 44), (⟨"NamedWindModel", "homeMany", "()I"⟩, 44), (⟨"NamedWindModel", "likelyNow", "(III)J"⟩, 44), (⟨"NamedWindModel", "layChances", "(II)V"⟩, 44), (⟨"NamedWindModel", "overSigns", "(IIII)J"⟩, 44), (⟨"NamedWindModel", "bestCall", "(IIIII)I"⟩, 44), (⟨"NamedWindModel", "chanceBy", "(IIIIII)J"⟩, 44)]
theorem lw_r4 : ∀ q ∈ lw_privs_4, lw_okq q := List.forall_mem_cons.mpr ⟨lw_p48, List.forall_mem_cons.mpr ⟨lw_p49, List.forall_mem_cons.mpr ⟨lw_p50, List.forall_mem_cons.mpr ⟨lw_p51, List.forall_mem_cons.mpr ⟨lw_p52, List.forall_mem_cons.mpr ⟨lw_p53, List.forall_mem_cons.mpr ⟨lw_p54, List.forall_mem_cons.mpr ⟨lw_p55, List.forall_mem_cons.mpr ⟨lw_p56, List.forall_mem_cons.mpr ⟨lw_p57, List.forall_mem_cons.mpr ⟨lw_p58, List.forall_mem_cons.mpr ⟨lw_p59, List.forall_mem_cons.mpr ⟨lw_p60, List.forall_mem_cons.mpr ⟨lw_p61, List.forall_mem_cons.mpr ⟨lw_p62, List.forall_mem_cons.mpr ⟨lw_p63, fun _ h => absurd h List.not_mem_nil⟩⟩⟩⟩⟩⟩⟩⟩⟩⟩⟩⟩⟩⟩⟩⟩
set_option maxRecDepth 100000 in
theorem lw_p64 : lw_okq (⟨"NamedWindModel", "sureNow", "(I)I"⟩, 44) := ⟨⟨by decide +kernel, by decide +kernel⟩, List.mem_of_getElem? (i := 630) rfl, List.mem_of_getElem? (i := 928) rfl, List.mem_of_getElem? (i := 929) rfl⟩
set_option maxRecDepth 100000 in
theorem lw_p65 : lw_okq (⟨"NamedWindModel", "isSure", "(IIII)Z"⟩, 44) := ⟨⟨by decide +kernel, by decide +kernel⟩, List.mem_of_getElem? (i := 630) rfl, List.mem_of_getElem? (i := 932) rfl, List.mem_of_getElem? (i := 933) rfl⟩
set_option maxRecDepth 100000 in
theorem lw_p66 : lw_okq (⟨"NamedWindModel", "sureBy", "(IIIIII)Z"⟩, 44) := ⟨⟨by decide +kernel, by decide +kernel⟩, List.mem_of_getElem? (i := 630) rfl, List.mem_of_getElem? (i := 936) rfl, List.mem_of_getElem? (i := 937) rfl⟩
set_option maxRecDepth 100000 in
theorem lw_p67 : lw_okq (⟨"NamedWindModel", "tellsNow", "()I"⟩, 44) := ⟨⟨by decide +kernel, by decide +kernel⟩, List.mem_of_getElem? (i := 630) rfl, List.mem_of_getElem? (i := 944) rfl, List.mem_of_getElem? (i := 945) rfl⟩
set_option maxRecDepth 100000 in
theorem lw_p68 : lw_okq (⟨"NamedWindModel", "raceNow", "(III)J"⟩, 44) := ⟨⟨by decide +kernel, by decide +kernel⟩, List.mem_of_getElem? (i := 630) rfl, List.mem_of_getElem? (i := 952) rfl, List.mem_of_getElem? (i := 953) rfl⟩
set_option maxRecDepth 100000 in
theorem lw_p69 : lw_okq (⟨"NamedWindModel", "guessNow", "(I)I"⟩, 44) := ⟨⟨by decide +kernel, by decide +kernel⟩, List.mem_of_getElem? (i := 630) rfl, List.mem_of_getElem? (i := 960) rfl, List.mem_of_getElem? (i := 961) rfl⟩
set_option maxRecDepth 100000 in
theorem lw_p70 : lw_okq (⟨"NamedWindModel", "calledNow", "()I"⟩, 44) := ⟨⟨by decide +kernel, by decide +kernel⟩, List.mem_of_getElem? (i := 630) rfl, List.mem_of_getElem? (i := 976) rfl, List.mem_of_getElem? (i := 977) rfl⟩
set_option maxRecDepth 100000 in
theorem lw_p71 : lw_okq (⟨"NamedWindModel", "waysBy", "(II)I"⟩, 44) := ⟨⟨by decide +kernel, by decide +kernel⟩, List.mem_of_getElem? (i := 630) rfl, List.mem_of_getElem? (i := 980) rfl, List.mem_of_getElem? (i := 981) rfl⟩
set_option maxRecDepth 100000 in
theorem lw_p72 : lw_okq (⟨"NamedWindModel", "canBlow", "(I)Z"⟩, 44) := ⟨⟨by decide +kernel, by decide +kernel⟩, List.mem_of_getElem? (i := 630) rfl, List.mem_of_getElem? (i := 984) rfl, List.mem_of_getElem? (i := 985) rfl⟩
set_option maxRecDepth 100000 in
theorem lw_p73 : lw_okq (⟨"NamedWindModel", "yearsNow", "(III)I"⟩, 44) := ⟨⟨by decide +kernel, by decide +kernel⟩, List.mem_of_getElem? (i := 630) rfl, List.mem_of_getElem? (i := 996) rfl, List.mem_of_getElem? (i := 997) rfl⟩
set_option maxRecDepth 100000 in
theorem lw_p74 : lw_okq (⟨"NamedWindModel", "goYearDay", "()V"⟩, 44) := ⟨⟨by decide +kernel, by decide +kernel⟩, List.mem_of_getElem? (i := 630) rfl, List.mem_of_getElem? (i := 1000) rfl, List.mem_of_getElem? (i := 1001) rfl⟩
set_option maxRecDepth 100000 in
theorem lw_p75 : lw_okq (⟨"NamedWindModel", "draw", "(I)I"⟩, 44) := ⟨⟨by decide +kernel, by decide +kernel⟩, List.mem_of_getElem? (i := 630) rfl, List.mem_of_getElem? (i := 1004) rfl, List.mem_of_getElem? (i := 1005) rfl⟩
set_option maxRecDepth 100000 in
theorem lw_p76 : lw_okq (⟨"NamedWindModel", "drawnWind", "(I)I"⟩, 44) := ⟨⟨by decide +kernel, by decide +kernel⟩, List.mem_of_getElem? (i := 630) rfl, List.mem_of_getElem? (i := 1012) rfl, List.mem_of_getElem? (i := 1013) rfl⟩
set_option maxRecDepth 100000 in
theorem lw_p77 : lw_okq (⟨"NamedWindModel", "howMany", "(I)I"⟩, 44) := ⟨⟨by decide +kernel, by decide +kernel⟩, List.mem_of_getElem? (i := 630) rfl, List.mem_of_getElem? (i := 1028) rfl, List.mem_of_getElem? (i := 1029) rfl⟩
set_option maxRecDepth 100000 in
theorem lw_p78 : lw_okq (⟨"NamedWindModel", "mix", "(J)V"⟩, 44) := ⟨⟨by decide +kernel, by decide +kernel⟩, List.mem_of_getElem? (i := 630) rfl, List.mem_of_getElem? (i := 1037) rfl, List.mem_of_getElem? (i := 1038) rfl⟩
def lw_privs_5 : List (MethodName × Nat) := [(⟨"NamedWindModel", "sureNow", "(I)I"⟩, 44), (⟨"NamedWindModel", "isSure", "(IIII)Z"⟩, 44), (⟨"NamedWindModel", "sureBy", "(IIIIII)Z"⟩, 44), (⟨"NamedWindModel", "tellsNow", "()I"⟩, 44), (⟨"NamedWindModel", "raceNow", "(III)J"⟩, 44), (⟨"NamedWindModel", "guessNow", "(I)I"⟩, 44), (⟨"NamedWindModel", "calledNow", "()I"⟩, 44), (⟨"NamedWindModel", "waysBy", "(II)I"⟩, 44), (⟨"NamedWindModel", "canBlow", "(I)Z"⟩, 44), (⟨"NamedWindModel", "yearsNow", "(III)I"⟩, 44), (⟨"NamedWindModel", "goYearDay", "()V"⟩, 44), (⟨"NamedWindModel", "draw", "(I)I"⟩, 44), (⟨"NamedWindModel", "drawnWind", "(I)I"⟩, 44), (⟨"NamedWindModel", "howMany", "(I)I"⟩, 44), (⟨"NamedWindModel", "mix", "(J)V"⟩, 44)]
theorem lw_r5 : ∀ q ∈ lw_privs_5, lw_okq q := List.forall_mem_cons.mpr ⟨lw_p64, List.forall_mem_cons.mpr ⟨lw_p65, List.forall_mem_cons.mpr ⟨lw_p66, List.forall_mem_cons.mpr ⟨lw_p67, List.forall_mem_cons.mpr ⟨lw_p68, List.forall_mem_cons.mpr ⟨lw_p69, List.forall_mem_cons.mpr ⟨lw_p70, List.forall_mem_cons.mpr ⟨lw_p71, List.forall_mem_cons.mpr ⟨lw_p72, List.forall_mem_cons.mpr ⟨lw_p73, List.forall_mem_cons.mpr ⟨lw_p74, List.forall_mem_cons.mpr ⟨lw_p75, List.forall_mem_cons.mpr ⟨lw_p76, List.forall_mem_cons.mpr ⟨lw_p77, List.forall_mem_cons.mpr ⟨lw_p78, fun _ h => absurd h List.not_mem_nil⟩⟩⟩⟩⟩⟩⟩⟩⟩⟩⟩⟩⟩⟩⟩
def lw_privs : List (MethodName × Nat) := lw_privs_1 ++ (lw_privs_2 ++ (lw_privs_3 ++ (lw_privs_4 ++ (lw_privs_5))))
def lw_tbl : List Cond := k2_sels lw_privs ++ tables_1
theorem lw_privs_ok : ∀ q ∈ lw_privs, lw_okq q := by
  show ∀ q ∈ lw_privs_1 ++ (lw_privs_2 ++ (lw_privs_3 ++ (lw_privs_4 ++ (lw_privs_5)))), lw_okq q
  exact List.forall_mem_append.mpr ⟨lw_r1, List.forall_mem_append.mpr ⟨lw_r2, List.forall_mem_append.mpr ⟨lw_r3, List.forall_mem_append.mpr ⟨lw_r4, lw_r5⟩⟩⟩⟩
-- ===== end of PART A; then your names; then what follows =====
