section
-- ===== PART A: goes FIRST, ahead of the names: the tables' words, and 'selects' of the private methods out of them =====
/-- a private method of a class that the tables say can be made, by its rows of tables_1 -/
def lw_okq (q : MethodName × Nat) : Prop := (q.1.cls ≠ "java/lang/invoke/MethodHandle" ∧ q.1.cls ≠ "java/lang/invoke/VarHandle") ∧ Cond.instantiable q.1.cls q.2 ∈ tables_1 ∧ Cond.privateMethod q.1 ∈ tables_1 ∧ Cond.instanceMethod q.1 ∈ tables_1
set_option maxRecDepth 100000 in
theorem lw_p0 : lw_okq (⟨"NamedWind$Sea", "clear", "()V"⟩, 6) := ⟨⟨by decide +kernel, by decide +kernel⟩, List.mem_of_getElem? (i := 54) rfl, List.mem_of_getElem? (i := 90) rfl, List.mem_of_getElem? (i := 91) rfl⟩
set_option maxRecDepth 100000 in
theorem lw_p1 : lw_okq (⟨"NamedWind$Book", "clear", "()V"⟩, 2) := ⟨⟨by decide +kernel, by decide +kernel⟩, List.mem_of_getElem? (i := 164) rfl, List.mem_of_getElem? (i := 171) rfl, List.mem_of_getElem? (i := 172) rfl⟩
set_option maxRecDepth 100000 in
theorem lw_p2 : lw_okq (⟨"NamedWind$Page", "add", "(J)I"⟩, 2) := ⟨⟨by decide +kernel, by decide +kernel⟩, List.mem_of_getElem? (i := 23) rfl, List.mem_of_getElem? (i := 227) rfl, List.mem_of_getElem? (i := 228) rfl⟩
set_option maxRecDepth 100000 in
theorem lw_p3 : lw_okq (⟨"NamedWind$Page", "empty", "()I"⟩, 2) := ⟨⟨by decide +kernel, by decide +kernel⟩, List.mem_of_getElem? (i := 23) rfl, List.mem_of_getElem? (i := 241) rfl, List.mem_of_getElem? (i := 242) rfl⟩
set_option maxRecDepth 100000 in
theorem lw_p4 : lw_okq (⟨"NamedWind$Reader", "read", "(LNamedWind$Page;LNamedWind$Book;)I"⟩, 2) := ⟨⟨by decide +kernel, by decide +kernel⟩, List.mem_of_getElem? (i := 41) rfl, List.mem_of_getElem? (i := 249) rfl, List.mem_of_getElem? (i := 250) rfl⟩
set_option maxRecDepth 100000 in
theorem lw_p5 : lw_okq (⟨"NamedWind$Reader", "takes", "(ILNamedWind$Book;)Z"⟩, 2) := ⟨⟨by decide +kernel, by decide +kernel⟩, List.mem_of_getElem? (i := 41) rfl, List.mem_of_getElem? (i := 254) rfl, List.mem_of_getElem? (i := 255) rfl⟩
set_option maxRecDepth 100000 in
theorem lw_p6 : lw_okq (⟨"NamedWind$Reader", "takesMark", "(ICI)Z"⟩, 2) := ⟨⟨by decide +kernel, by decide +kernel⟩, List.mem_of_getElem? (i := 41) rfl, List.mem_of_getElem? (i := 258) rfl, List.mem_of_getElem? (i := 259) rfl⟩
set_option maxRecDepth 100000 in
theorem lw_p7 : lw_okq (⟨"NamedWind$Reader", "takesName", "(ILNamedWind$Book;I)Z"⟩, 2) := ⟨⟨by decide +kernel, by decide +kernel⟩, List.mem_of_getElem? (i := 41) rfl, List.mem_of_getElem? (i := 262) rfl, List.mem_of_getElem? (i := 263) rfl⟩
set_option maxRecDepth 100000 in
theorem lw_p8 : lw_okq (⟨"NamedWind$Reader", "takesNextWind", "(I)Z"⟩, 2) := ⟨⟨by decide +kernel, by decide +kernel⟩, List.mem_of_getElem? (i := 41) rfl, List.mem_of_getElem? (i := 269) rfl, List.mem_of_getElem? (i := 270) rfl⟩
set_option maxRecDepth 100000 in
theorem lw_p9 : lw_okq (⟨"NamedWind$Reader", "takesTenths", "(ILNamedWind$Book;)Z"⟩, 2) := ⟨⟨by decide +kernel, by decide +kernel⟩, List.mem_of_getElem? (i := 41) rfl, List.mem_of_getElem? (i := 273) rfl, List.mem_of_getElem? (i := 274) rfl⟩
set_option maxRecDepth 100000 in
theorem lw_p10 : lw_okq (⟨"NamedWind$Reader", "atEnd", "()Z"⟩, 2) := ⟨⟨by decide +kernel, by decide +kernel⟩, List.mem_of_getElem? (i := 41) rfl, List.mem_of_getElem? (i := 284) rfl, List.mem_of_getElem? (i := 285) rfl⟩
set_option maxRecDepth 100000 in
theorem lw_p11 : lw_okq (⟨"NamedWind$Wake", "end", "()V"⟩, 4) := ⟨⟨by decide +kernel, by decide +kernel⟩, List.mem_of_getElem? (i := 122) rfl, List.mem_of_getElem? (i := 289) rfl, List.mem_of_getElem? (i := 290) rfl⟩
set_option maxRecDepth 100000 in
theorem lw_p12 : lw_okq (⟨"NamedWind$Book", "nameCount", "()I"⟩, 2) := ⟨⟨by decide +kernel, by decide +kernel⟩, List.mem_of_getElem? (i := 164) rfl, List.mem_of_getElem? (i := 293) rfl, List.mem_of_getElem? (i := 294) rfl⟩
set_option maxRecDepth 100000 in
theorem lw_p13 : lw_okq (⟨"NamedWind", "hasBook", "()Z"⟩, 11) := ⟨⟨by decide +kernel, by decide +kernel⟩, List.mem_of_getElem? (i := 15) rfl, List.mem_of_getElem? (i := 305) rfl, List.mem_of_getElem? (i := 306) rfl⟩
set_option maxRecDepth 100000 in
theorem lw_p14 : lw_okq (⟨"NamedWind$Sea", "add", "(II)I"⟩, 6) := ⟨⟨by decide +kernel, by decide +kernel⟩, List.mem_of_getElem? (i := 54) rfl, List.mem_of_getElem? (i := 324) rfl, List.mem_of_getElem? (i := 325) rfl⟩
set_option maxRecDepth 100000 in
theorem lw_p15 : lw_okq (⟨"NamedWind$Ship", "begin", "(II)V"⟩, 5) := ⟨⟨by decide +kernel, by decide +kernel⟩, List.mem_of_getElem? (i := 61) rfl, List.mem_of_getElem? (i := 328) rfl, List.mem_of_getElem? (i := 329) rfl⟩
def lw_privs_1 : List (MethodName × Nat) := [(⟨"NamedWind$Sea", "clear", "()V"⟩, 6), (⟨"NamedWind$Book", "clear", "()V"⟩, 2), (⟨"NamedWind$Page", "add", "(J)I"⟩, 2), (⟨"NamedWind$Page", "empty", "()I"⟩, 2), (⟨"NamedWind$Reader", "read", "(LNamedWind$Page;LNamedWind$Book;)I"⟩, 2), (⟨"NamedWind$Reader", "takes", "(ILNamedWind$Book;)Z"⟩, 2), (⟨"NamedWind$Reader", "takesMark", "(ICI)Z"⟩, 2), (⟨"NamedWind$Reader", "takesName", "(ILNamedWind$Book;I)Z"⟩, 2), (⟨"NamedWind$Reader", "takesNextWind", "(I)Z"⟩, 2), (⟨"NamedWind$Reader", "takesTenths", "(ILNamedWind$Book;)Z"⟩, 2), (⟨"NamedWind$Reader", "atEnd", "()Z"⟩, 2), (⟨"NamedWind$Wake", "end", "()V"⟩, 4), (⟨"NamedWind$Book", "nameCount", "()I"⟩, 2), (⟨"NamedWind", "hasBook", "()Z"⟩, 11), (⟨"NamedWind$Sea", "add", "(II)I"⟩, 6), (⟨"NamedWind$Ship", "begin", "(II)V"⟩, 5)]
theorem lw_r1 : ∀ q ∈ lw_privs_1, lw_okq q := List.forall_mem_cons.mpr ⟨lw_p0, List.forall_mem_cons.mpr ⟨lw_p1, List.forall_mem_cons.mpr ⟨lw_p2, List.forall_mem_cons.mpr ⟨lw_p3, List.forall_mem_cons.mpr ⟨lw_p4, List.forall_mem_cons.mpr ⟨lw_p5, List.forall_mem_cons.mpr ⟨lw_p6, List.forall_mem_cons.mpr ⟨lw_p7, List.forall_mem_cons.mpr ⟨lw_p8, List.forall_mem_cons.mpr ⟨lw_p9, List.forall_mem_cons.mpr ⟨lw_p10, List.forall_mem_cons.mpr ⟨lw_p11, List.forall_mem_cons.mpr ⟨lw_p12, List.forall_mem_cons.mpr ⟨lw_p13, List.forall_mem_cons.mpr ⟨lw_p14, List.forall_mem_cons.mpr ⟨lw_p15, fun _ h => absurd h List.not_mem_nil⟩⟩⟩⟩⟩⟩⟩⟩⟩⟩⟩⟩⟩⟩⟩⟩
set_option maxRecDepth 100000 in
theorem lw_p16 : lw_okq (⟨"NamedWind", "isShip", "(I)Z"⟩, 11) := ⟨⟨by decide +kernel, by decide +kernel⟩, List.mem_of_getElem? (i := 15) rfl, List.mem_of_getElem? (i := 336) rfl, List.mem_of_getElem? (i := 337) rfl⟩
set_option maxRecDepth 100000 in
theorem lw_p17 : lw_okq (⟨"NamedWind$Ship", "tell", "(I)I"⟩, 5) := ⟨⟨by decide +kernel, by decide +kernel⟩, List.mem_of_getElem? (i := 61) rfl, List.mem_of_getElem? (i := 340) rfl, List.mem_of_getElem? (i := 341) rfl⟩
set_option maxRecDepth 100000 in
theorem lw_p18 : lw_okq (⟨"NamedWind$Ship", "isA", "(I)Z"⟩, 5) := ⟨⟨by decide +kernel, by decide +kernel⟩, List.mem_of_getElem? (i := 61) rfl, List.mem_of_getElem? (i := 348) rfl, List.mem_of_getElem? (i := 349) rfl⟩
set_option maxRecDepth 100000 in
theorem lw_p19 : lw_okq (⟨"NamedWind$Sea", "isSpent", "(I)Z"⟩, 6) := ⟨⟨by decide +kernel, by decide +kernel⟩, List.mem_of_getElem? (i := 54) rfl, List.mem_of_getElem? (i := 356) rfl, List.mem_of_getElem? (i := 357) rfl⟩
set_option maxRecDepth 100000 in
theorem lw_p20 : lw_okq (⟨"NamedWind$Sea", "replaceCall", "(II)I"⟩, 6) := ⟨⟨by decide +kernel, by decide +kernel⟩, List.mem_of_getElem? (i := 54) rfl, List.mem_of_getElem? (i := 360) rfl, List.mem_of_getElem? (i := 361) rfl⟩
set_option maxRecDepth 100000 in
theorem lw_p21 : lw_okq (⟨"NamedWind$Sea", "isSpentToday", "(I)Z"⟩, 6) := ⟨⟨by decide +kernel, by decide +kernel⟩, List.mem_of_getElem? (i := 54) rfl, List.mem_of_getElem? (i := 364) rfl, List.mem_of_getElem? (i := 365) rfl⟩
set_option maxRecDepth 100000 in
theorem lw_p22 : lw_okq (⟨"NamedWind$Ship", "spends", "(I)Z"⟩, 5) := ⟨⟨by decide +kernel, by decide +kernel⟩, List.mem_of_getElem? (i := 61) rfl, List.mem_of_getElem? (i := 368) rfl, List.mem_of_getElem? (i := 369) rfl⟩
set_option maxRecDepth 100000 in
theorem lw_p23 : lw_okq (⟨"NamedWind$Sea", "beginCall", "(II)V"⟩, 6) := ⟨⟨by decide +kernel, by decide +kernel⟩, List.mem_of_getElem? (i := 54) rfl, List.mem_of_getElem? (i := 372) rfl, List.mem_of_getElem? (i := 373) rfl⟩
set_option maxRecDepth 100000 in
theorem lw_p24 : lw_okq (⟨"NamedWind$Sea", "passDay", "(LNamedWind$Book;I)V"⟩, 6) := ⟨⟨by decide +kernel, by decide +kernel⟩, List.mem_of_getElem? (i := 54) rfl, List.mem_of_getElem? (i := 384) rfl, List.mem_of_getElem? (i := 385) rfl⟩
set_option maxRecDepth 100000 in
theorem lw_p25 : lw_okq (⟨"NamedWind$Sea", "answer", "(LNamedWind$Book;LNamedWind$Ship;I)V"⟩, 6) := ⟨⟨by decide +kernel, by decide +kernel⟩, List.mem_of_getElem? (i := 54) rfl, List.mem_of_getElem? (i := 388) rfl, List.mem_of_getElem? (i := 389) rfl⟩
set_option maxRecDepth 100000 in
theorem lw_p26 : lw_okq (⟨"NamedWind$Book", "favours", "(II)Z"⟩, 2) := ⟨⟨by decide +kernel, by decide +kernel⟩, List.mem_of_getElem? (i := 164) rfl, List.mem_of_getElem? (i := 392) rfl, List.mem_of_getElem? (i := 393) rfl⟩
set_option maxRecDepth 100000 in
theorem lw_p27 : lw_okq (⟨"NamedWind$Sea", "homeCount", "()I"⟩, 6) := ⟨⟨by decide +kernel, by decide +kernel⟩, List.mem_of_getElem? (i := 54) rfl, List.mem_of_getElem? (i := 416) rfl, List.mem_of_getElem? (i := 417) rfl⟩
set_option maxRecDepth 100000 in
theorem lw_p28 : lw_okq (⟨"NamedWind$Sea", "spentCount", "()I"⟩, 6) := ⟨⟨by decide +kernel, by decide +kernel⟩, List.mem_of_getElem? (i := 54) rfl, List.mem_of_getElem? (i := 424) rfl, List.mem_of_getElem? (i := 425) rfl⟩
set_option maxRecDepth 100000 in
theorem lw_p29 : lw_okq (⟨"NamedWind$Forecast", "begin", "(LNamedWind$Book;II)V"⟩, 4) := ⟨⟨by decide +kernel, by decide +kernel⟩, List.mem_of_getElem? (i := 143) rfl, List.mem_of_getElem? (i := 443) rfl, List.mem_of_getElem? (i := 444) rfl⟩
set_option maxRecDepth 100000 in
theorem lw_p30 : lw_okq (⟨"NamedWind$Book", "favour", "(II)I"⟩, 2) := ⟨⟨by decide +kernel, by decide +kernel⟩, List.mem_of_getElem? (i := 164) rfl, List.mem_of_getElem? (i := 448) rfl, List.mem_of_getElem? (i := 449) rfl⟩
set_option maxRecDepth 100000 in
theorem lw_p31 : lw_okq (⟨"NamedWind$Sea", "freeNames", "()I"⟩, 6) := ⟨⟨by decide +kernel, by decide +kernel⟩, List.mem_of_getElem? (i := 54) rfl, List.mem_of_getElem? (i := 453) rfl, List.mem_of_getElem? (i := 454) rfl⟩
def lw_privs_2 : List (MethodName × Nat) := [(⟨"NamedWind", "isShip", "(I)Z"⟩, 11), (⟨"NamedWind$Ship", "tell", "(I)I"⟩, 5), (⟨"NamedWind$Ship", "isA", "(I)Z"⟩, 5), (⟨"NamedWind$Sea", "isSpent", "(I)Z"⟩, 6), (⟨"NamedWind$Sea", "replaceCall", "(II)I"⟩, 6), (⟨"NamedWind$Sea", "isSpentToday", "(I)Z"⟩, 6), (⟨"NamedWind$Ship", "spends", "(I)Z"⟩, 5), (⟨"NamedWind$Sea", "beginCall", "(II)V"⟩, 6), (⟨"NamedWind$Sea", "passDay", "(LNamedWind$Book;I)V"⟩, 6), (⟨"NamedWind$Sea", "answer", "(LNamedWind$Book;LNamedWind$Ship;I)V"⟩, 6), (⟨"NamedWind$Book", "favours", "(II)Z"⟩, 2), (⟨"NamedWind$Sea", "homeCount", "()I"⟩, 6), (⟨"NamedWind$Sea", "spentCount", "()I"⟩, 6), (⟨"NamedWind$Forecast", "begin", "(LNamedWind$Book;II)V"⟩, 4), (⟨"NamedWind$Book", "favour", "(II)I"⟩, 2), (⟨"NamedWind$Sea", "freeNames", "()I"⟩, 6)]
theorem lw_r2 : ∀ q ∈ lw_privs_2, lw_okq q := List.forall_mem_cons.mpr ⟨lw_p16, List.forall_mem_cons.mpr ⟨lw_p17, List.forall_mem_cons.mpr ⟨lw_p18, List.forall_mem_cons.mpr ⟨lw_p19, List.forall_mem_cons.mpr ⟨lw_p20, List.forall_mem_cons.mpr ⟨lw_p21, List.forall_mem_cons.mpr ⟨lw_p22, List.forall_mem_cons.mpr ⟨lw_p23, List.forall_mem_cons.mpr ⟨lw_p24, List.forall_mem_cons.mpr ⟨lw_p25, List.forall_mem_cons.mpr ⟨lw_p26, List.forall_mem_cons.mpr ⟨lw_p27, List.forall_mem_cons.mpr ⟨lw_p28, List.forall_mem_cons.mpr ⟨lw_p29, List.forall_mem_cons.mpr ⟨lw_p30, List.forall_mem_cons.mpr ⟨lw_p31, fun _ h => absurd h List.not_mem_nil⟩⟩⟩⟩⟩⟩⟩⟩⟩⟩⟩⟩⟩⟩⟩⟩
set_option maxRecDepth 100000 in
theorem lw_p32 : lw_okq (⟨"NamedWind$Forecast", "chances", "(III)I"⟩, 4) := ⟨⟨by decide +kernel, by decide +kernel⟩, List.mem_of_getElem? (i := 143) rfl, List.mem_of_getElem? (i := 457) rfl, List.mem_of_getElem? (i := 458) rfl⟩
set_option maxRecDepth 100000 in
theorem lw_p33 : lw_okq (⟨"NamedWind$Forecast", "bestCall", "(IIII)I"⟩, 4) := ⟨⟨by decide +kernel, by decide +kernel⟩, List.mem_of_getElem? (i := 143) rfl, List.mem_of_getElem? (i := 463) rfl, List.mem_of_getElem? (i := 464) rfl⟩
set_option maxRecDepth 100000 in
theorem lw_p34 : lw_okq (⟨"NamedWind$Forecast", "worth", "(IIIII)I"⟩, 4) := ⟨⟨by decide +kernel, by decide +kernel⟩, List.mem_of_getElem? (i := 143) rfl, List.mem_of_getElem? (i := 467) rfl, List.mem_of_getElem? (i := 468) rfl⟩
set_option maxRecDepth 100000 in
theorem lw_p35 : lw_okq (⟨"NamedWind$Book", "tellingSign", "()I"⟩, 2) := ⟨⟨by decide +kernel, by decide +kernel⟩, List.mem_of_getElem? (i := 164) rfl, List.mem_of_getElem? (i := 494) rfl, List.mem_of_getElem? (i := 495) rfl⟩
set_option maxRecDepth 100000 in
theorem lw_p36 : lw_okq (⟨"NamedWind$Book", "strongest", "(I)I"⟩, 2) := ⟨⟨by decide +kernel, by decide +kernel⟩, List.mem_of_getElem? (i := 164) rfl, List.mem_of_getElem? (i := 498) rfl, List.mem_of_getElem? (i := 499) rfl⟩
set_option maxRecDepth 100000 in
theorem lw_p37 : lw_okq (⟨"NamedWind$Book", "strengthInAll", "(I)I"⟩, 2) := ⟨⟨by decide +kernel, by decide +kernel⟩, List.mem_of_getElem? (i := 164) rfl, List.mem_of_getElem? (i := 510) rfl, List.mem_of_getElem? (i := 511) rfl⟩
set_option maxRecDepth 100000 in
theorem lw_p38 : lw_okq (⟨"NamedWind$Wake", "begin", "(II)V"⟩, 4) := ⟨⟨by decide +kernel, by decide +kernel⟩, List.mem_of_getElem? (i := 122) rfl, List.mem_of_getElem? (i := 523) rfl, List.mem_of_getElem? (i := 524) rfl⟩
set_option maxRecDepth 100000 in
theorem lw_p39 : lw_okq (⟨"NamedWind$Wake", "add", "(I)I"⟩, 4) := ⟨⟨by decide +kernel, by decide +kernel⟩, List.mem_of_getElem? (i := 122) rfl, List.mem_of_getElem? (i := 531) rfl, List.mem_of_getElem? (i := 532) rfl⟩
set_option maxRecDepth 100000 in
theorem lw_p40 : lw_okq (⟨"NamedWind$Wake", "ways", "(LNamedWind$Book;)I"⟩, 4) := ⟨⟨by decide +kernel, by decide +kernel⟩, List.mem_of_getElem? (i := 122) rfl, List.mem_of_getElem? (i := 539) rfl, List.mem_of_getElem? (i := 540) rfl⟩
set_option maxRecDepth 100000 in
theorem lw_p41 : lw_okq (⟨"NamedWind$Wake", "waysBy", "(LNamedWind$Book;II)I"⟩, 4) := ⟨⟨by decide +kernel, by decide +kernel⟩, List.mem_of_getElem? (i := 122) rfl, List.mem_of_getElem? (i := 543) rfl, List.mem_of_getElem? (i := 544) rfl⟩
set_option maxRecDepth 100000 in
theorem lw_p42 : lw_okq (⟨"NamedWind$Wake", "callOn", "(LNamedWind$Book;I)I"⟩, 4) := ⟨⟨by decide +kernel, by decide +kernel⟩, List.mem_of_getElem? (i := 122) rfl, List.mem_of_getElem? (i := 553) rfl, List.mem_of_getElem? (i := 554) rfl⟩
set_option maxRecDepth 100000 in
theorem lw_p43 : lw_okq (⟨"NamedWind$Sea", "copyFrom", "(LNamedWind$Sea;)V"⟩, 6) := ⟨⟨by decide +kernel, by decide +kernel⟩, List.mem_of_getElem? (i := 54) rfl, List.mem_of_getElem? (i := 562) rfl, List.mem_of_getElem? (i := 563) rfl⟩
set_option maxRecDepth 100000 in
theorem lw_p44 : lw_okq (⟨"NamedWind$Ship", "copyFrom", "(LNamedWind$Ship;)V"⟩, 5) := ⟨⟨by decide +kernel, by decide +kernel⟩, List.mem_of_getElem? (i := 61) rfl, List.mem_of_getElem? (i := 566) rfl, List.mem_of_getElem? (i := 567) rfl⟩
set_option maxRecDepth 100000 in
theorem lw_p45 : lw_okq (⟨"NamedWind$Sea", "passYears", "(LNamedWind$Book;II)I"⟩, 6) := ⟨⟨by decide +kernel, by decide +kernel⟩, List.mem_of_getElem? (i := 54) rfl, List.mem_of_getElem? (i := 573) rfl, List.mem_of_getElem? (i := 574) rfl⟩
set_option maxRecDepth 100000 in
theorem lw_p46 : lw_okq (⟨"NamedWind$Sea", "placesTogether", "()I"⟩, 6) := ⟨⟨by decide +kernel, by decide +kernel⟩, List.mem_of_getElem? (i := 54) rfl, List.mem_of_getElem? (i := 591) rfl, List.mem_of_getElem? (i := 592) rfl⟩
set_option maxRecDepth 100000 in
theorem lw_p47 : lw_okq (⟨"NamedWind", "mixBook", "(J)J"⟩, 11) := ⟨⟨by decide +kernel, by decide +kernel⟩, List.mem_of_getElem? (i := 15) rfl, List.mem_of_getElem? (i := 612) rfl, List.mem_of_getElem? (i := 613) rfl⟩
def lw_privs_3 : List (MethodName × Nat) := [(⟨"NamedWind$Forecast", "chances", "(III)I"⟩, 4), (⟨"NamedWind$Forecast", "bestCall", "(IIII)I"⟩, 4), (⟨"NamedWind$Forecast", "worth", "(IIIII)I"⟩, 4), (⟨"NamedWind$Book", "tellingSign", "()I"⟩, 2), (⟨"NamedWind$Book", "strongest", "(I)I"⟩, 2), (⟨"NamedWind$Book", "strengthInAll", "(I)I"⟩, 2), (⟨"NamedWind$Wake", "begin", "(II)V"⟩, 4), (⟨"NamedWind$Wake", "add", "(I)I"⟩, 4), (⟨"NamedWind$Wake", "ways", "(LNamedWind$Book;)I"⟩, 4), (⟨"NamedWind$Wake", "waysBy", "(LNamedWind$Book;II)I"⟩, 4), (⟨"NamedWind$Wake", "callOn", "(LNamedWind$Book;I)I"⟩, 4), (⟨"NamedWind$Sea", "copyFrom", "(LNamedWind$Sea;)V"⟩, 6), (⟨"NamedWind$Ship", "copyFrom", "(LNamedWind$Ship;)V"⟩, 5), (⟨"NamedWind$Sea", "passYears", "(LNamedWind$Book;II)I"⟩, 6), (⟨"NamedWind$Sea", "placesTogether", "()I"⟩, 6), (⟨"NamedWind", "mixBook", "(J)J"⟩, 11)]
theorem lw_r3 : ∀ q ∈ lw_privs_3, lw_okq q := List.forall_mem_cons.mpr ⟨lw_p32, List.forall_mem_cons.mpr ⟨lw_p33, List.forall_mem_cons.mpr ⟨lw_p34, List.forall_mem_cons.mpr ⟨lw_p35, List.forall_mem_cons.mpr ⟨lw_p36, List.forall_mem_cons.mpr ⟨lw_p37, List.forall_mem_cons.mpr ⟨lw_p38, List.forall_mem_cons.mpr ⟨lw_p39, List.forall_mem_cons.mpr ⟨lw_p40, List.forall_mem_cons.mpr ⟨lw_p41, List.forall_mem_cons.mpr ⟨lw_p42, List.forall_mem_cons.mpr ⟨lw_p43, List.forall_mem_cons.mpr ⟨lw_p44, List.forall_mem_cons.mpr ⟨lw_p45, List.forall_mem_cons.mpr ⟨lw_p46, List.forall_mem_cons.mpr ⟨lw_p47, fun _ h => absurd h List.not_mem_nil⟩⟩⟩⟩⟩⟩⟩⟩⟩⟩⟩⟩⟩⟩⟩⟩
set_option maxRecDepth 100000 in
theorem lw_p48 : lw_okq (⟨"NamedWind", "mixShip", "(JI)J"⟩, 11) := ⟨⟨by decide +kernel, by decide +kernel⟩, List.mem_of_getElem? (i := 15) rfl, List.mem_of_getElem? (i := 622) rfl, List.mem_of_getElem? (i := 623) rfl⟩
set_option maxRecDepth 100000 in
theorem lw_p49 : lw_okq (⟨"NamedWindModel", "readBook", "()V"⟩, 44) := ⟨⟨by decide +kernel, by decide +kernel⟩, List.mem_of_getElem? (i := 630) rfl, List.mem_of_getElem? (i := 785) rfl, List.mem_of_getElem? (i := 786) rfl⟩
set_option maxRecDepth 100000 in
theorem lw_p50 : lw_okq (⟨"NamedWindModel", "nextState", "(II)I"⟩, 44) := ⟨⟨by decide +kernel, by decide +kernel⟩, List.mem_of_getElem? (i := 630) rfl, List.mem_of_getElem? (i := 789) rfl, List.mem_of_getElem? (i := 790) rfl⟩
set_option maxRecDepth 100000 in
theorem lw_p51 : lw_okq (⟨"NamedWindModel", "takesName", "(I)Z"⟩, 44) := ⟨⟨by decide +kernel, by decide +kernel⟩, List.mem_of_getElem? (i := 630) rfl, List.mem_of_getElem? (i := 793) rfl, List.mem_of_getElem? (i := 794) rfl⟩
set_option maxRecDepth 100000 in
theorem lw_p52 : lw_okq (⟨"NamedWindModel", "takesTenths", "(II)Z"⟩, 44) := ⟨⟨by decide +kernel, by decide +kernel⟩, List.mem_of_getElem? (i := 630) rfl, List.mem_of_getElem? (i := 800) rfl, List.mem_of_getElem? (i := 801) rfl⟩
set_option maxRecDepth 100000 in
theorem lw_p53 : lw_okq (⟨"NamedWindModel", "isShip", "(I)Z"⟩, 44) := ⟨⟨by decide +kernel, by decide +kernel⟩, List.mem_of_getElem? (i := 630) rfl, List.mem_of_getElem? (i := 830) rfl, List.mem_of_getElem? (i := 831) rfl⟩
set_option maxRecDepth 100000 in
theorem lw_p54 : lw_okq (⟨"NamedWindModel", "shipNow", "(II)I"⟩, 44) := ⟨⟨by decide +kernel, by decide +kernel⟩, List.mem_of_getElem? (i := 630) rfl, List.mem_of_getElem? (i := 834) rfl, List.mem_of_getElem? (i := 835) rfl⟩
set_option maxRecDepth 100000 in
theorem lw_p55 : lw_okq (⟨"NamedWindModel", "isCalledToo", "(II)Z"⟩, 44) := ⟨⟨by decide +kernel, by decide +kernel⟩, List.mem_of_getElem? (i := 630) rfl, List.mem_of_getElem? (i := 849) rfl, List.mem_of_getElem? (i := 850) rfl⟩
set_option maxRecDepth 100000 in
theorem lw_p56 : lw_okq (⟨"NamedWindModel", "answer", "(II)V"⟩, 44) := ⟨⟨by decide +kernel, by decide +kernel⟩, List.mem_of_getElem? (i := 630) rfl, List.mem_of_getElem? (i := 861) rfl, List.mem_of_getElem? (i := 862) rfl⟩
set_option maxRecDepth 100000 in
theorem lw_p57 : lw_okq (⟨"NamedWindModel", "behind", "(IIII)I"⟩, 44) := ⟨⟨by decide +kernel, by decide +kernel⟩, List.mem_of_getElem? (i := 630) rfl, List.mem_of_getElem? (i := 865) rfl, List.mem_of_getElem? (i := 866) rfl⟩
set_option maxRecDepth 100000 in
theorem lw_p58 : lw_okq (⟨"NamedWindModel", "homeMany", "()I"⟩, 44) := ⟨⟨by decide +kernel, by decide +kernel⟩, List.mem_of_getElem? (i := 630) rfl, List.mem_of_getElem? (i := 869) rfl, List.mem_of_getElem? (i := 870) rfl⟩
set_option maxRecDepth 100000 in
theorem lw_p59 : lw_okq (⟨"NamedWindModel", "likelyNow", "(III)J"⟩, 44) := ⟨⟨by decide +kernel, by decide +kernel⟩, List.mem_of_getElem? (i := 630) rfl, List.mem_of_getElem? (i := 885) rfl, List.mem_of_getElem? (i := 886) rfl⟩
set_option maxRecDepth 100000 in
theorem lw_p60 : lw_okq (⟨"NamedWindModel", "layChances", "(II)V"⟩, 44) := ⟨⟨by decide +kernel, by decide +kernel⟩, List.mem_of_getElem? (i := 630) rfl, List.mem_of_getElem? (i := 889) rfl, List.mem_of_getElem? (i := 890) rfl⟩
set_option maxRecDepth 100000 in
theorem lw_p61 : lw_okq (⟨"NamedWindModel", "overSigns", "(IIII)J"⟩, 44) := ⟨⟨by decide +kernel, by decide +kernel⟩, List.mem_of_getElem? (i := 630) rfl, List.mem_of_getElem? (i := 896) rfl, List.mem_of_getElem? (i := 897) rfl⟩
set_option maxRecDepth 100000 in
theorem lw_p62 : lw_okq (⟨"NamedWindModel", "bestCall", "(IIIII)I"⟩, 44) := ⟨⟨by decide +kernel, by decide +kernel⟩, List.mem_of_getElem? (i := 630) rfl, List.mem_of_getElem? (i := 900) rfl, List.mem_of_getElem? (i := 901) rfl⟩
set_option maxRecDepth 100000 in
theorem lw_p63 : lw_okq (⟨"NamedWindModel", "chanceBy", "(IIIIII)J"⟩, 44) := ⟨⟨by decide +kernel, by decide +kernel⟩, List.mem_of_getElem? (i := 630) rfl, List.mem_of_getElem? (i := 904) rfl, List.mem_of_getElem? (i := 905) rfl⟩
def lw_privs_4 : List (MethodName × Nat) := [(⟨"NamedWind", "mixShip", "(JI)J"⟩, 11), (⟨"NamedWindModel", "readBook", "()V"⟩, 44), (⟨"NamedWindModel", "nextState", "(II)I"⟩, 44), (⟨"NamedWindModel", "takesName", "(I)Z"⟩, 44), (⟨"NamedWindModel", "takesTenths", "(II)Z"⟩, 44), (⟨"NamedWindModel", "isShip", "(I)Z"⟩, 44), (⟨"NamedWindModel", "shipNow", "(II)I"⟩, 44), (⟨"NamedWindModel", "isCalledToo", "(II)Z"⟩, 44), (⟨"NamedWindModel", "answer", "(II)V"⟩, 44), (⟨"NamedWindModel", "behind", "(IIII)I"⟩, 44), (⟨"NamedWindModel", "homeMany", "()I"⟩, 44), (⟨"NamedWindModel", "likelyNow", "(III)J"⟩, 44), (⟨"NamedWindModel", "layChances", "(II)V"⟩, 44), (⟨"NamedWindModel", "overSigns", "(IIII)J"⟩, 44), (⟨"NamedWindModel", "bestCall", "(IIIII)I"⟩, 44), (⟨"NamedWindModel", "chanceBy", "(IIIIII)J"⟩, 44)]
theorem lw_r4 : ∀ q ∈ lw_privs_4, lw_okq q := List.forall_mem_cons.mpr ⟨lw_p48, List.forall_mem_cons.mpr ⟨lw_p49, List.forall_mem_cons.mpr ⟨lw_p50, List.forall_mem_cons.mpr ⟨lw_p51, List.forall_mem_cons.mpr ⟨lw_p52, List.forall_mem_cons.mpr ⟨lw_p53, List.forall_mem_cons.mpr ⟨lw_p54, List.forall_mem_cons.mpr ⟨lw_p55, List.forall_mem_cons.mpr ⟨lw_p56, List.forall_mem_cons.mpr ⟨lw_p57, List.forall_mem_cons.mpr ⟨lw_p58, List.forall_mem_cons.mpr ⟨lw_p59, List.forall_mem_cons.mpr ⟨lw_p60, List.forall_mem_cons.mpr ⟨lw_p61, List.forall_mem_cons.mpr ⟨lw_p62, List.forall_mem_cons.mpr ⟨lw_p63, fun _ h => absurd h List.not_mem_nil⟩⟩⟩⟩⟩⟩⟩⟩⟩⟩⟩⟩⟩⟩⟩⟩
set_option maxRecDepth 100000 in
theorem lw_p64 : lw_okq (⟨"NamedWindModel", "sureNow", "(I)I"⟩, 44) := ⟨⟨by decide +kernel, by decide +kernel⟩, List.mem_of_getElem? (i := 630) rfl, List.mem_of_getElem? (i := 928) rfl, List.mem_of_getElem? (i := 929) rfl⟩
set_option maxRecDepth 100000 in
theorem lw_p65 : lw_okq (⟨"NamedWindModel", "isSure", "(IIII)Z"⟩, 44) := ⟨⟨by decide +kernel, by decide +kernel⟩, List.mem_of_getElem? (i := 630) rfl, List.mem_of_getElem? (i := 932) rfl, List.mem_of_getElem? (i := 933) rfl⟩
set_option maxRecDepth 100000 in
theorem lw_p66 : lw_okq (⟨"NamedWindModel", "sureBy", "(IIIIII)Z"⟩, 44) := ⟨⟨by decide +kernel, by decide +kernel⟩, List.mem_of_getElem? (i := 630) rfl, List.mem_of_getElem? (i := 936) rfl, List.mem_of_getElem? (i := 937) rfl⟩
set_option maxRecDepth 100000 in
theorem lw_p67 : lw_okq (⟨"NamedWindModel", "tellsNow", "()I"⟩, 44) := ⟨⟨by decide +kernel, by decide +kernel⟩, List.mem_of_getElem? (i := 630) rfl, List.mem_of_getElem? (i := 944) rfl, List.mem_of_getElem? (i := 945) rfl⟩
set_option maxRecDepth 100000 in
theorem lw_p68 : lw_okq (⟨"NamedWindModel", "raceNow", "(III)J"⟩, 44) := ⟨⟨by decide +kernel, by decide +kernel⟩, List.mem_of_getElem? (i := 630) rfl, List.mem_of_getElem? (i := 952) rfl, List.mem_of_getElem? (i := 953) rfl⟩
set_option maxRecDepth 100000 in
theorem lw_p69 : lw_okq (⟨"NamedWindModel", "guessNow", "(I)I"⟩, 44) := ⟨⟨by decide +kernel, by decide +kernel⟩, List.mem_of_getElem? (i := 630) rfl, List.mem_of_getElem? (i := 960) rfl, List.mem_of_getElem? (i := 961) rfl⟩
set_option maxRecDepth 100000 in
theorem lw_p70 : lw_okq (⟨"NamedWindModel", "calledNow", "()I"⟩, 44) := ⟨⟨by decide +kernel, by decide +kernel⟩, List.mem_of_getElem? (i := 630) rfl, List.mem_of_getElem? (i := 976) rfl, List.mem_of_getElem? (i := 977) rfl⟩
set_option maxRecDepth 100000 in
theorem lw_p71 : lw_okq (⟨"NamedWindModel", "waysBy", "(II)I"⟩, 44) := ⟨⟨by decide +kernel, by decide +kernel⟩, List.mem_of_getElem? (i := 630) rfl, List.mem_of_getElem? (i := 980) rfl, List.mem_of_getElem? (i := 981) rfl⟩
set_option maxRecDepth 100000 in
theorem lw_p72 : lw_okq (⟨"NamedWindModel", "canBlow", "(I)Z"⟩, 44) := ⟨⟨by decide +kernel, by decide +kernel⟩, List.mem_of_getElem? (i := 630) rfl, List.mem_of_getElem? (i := 984) rfl, List.mem_of_getElem? (i := 985) rfl⟩
set_option maxRecDepth 100000 in
theorem lw_p73 : lw_okq (⟨"NamedWindModel", "yearsNow", "(III)I"⟩, 44) := ⟨⟨by decide +kernel, by decide +kernel⟩, List.mem_of_getElem? (i := 630) rfl, List.mem_of_getElem? (i := 996) rfl, List.mem_of_getElem? (i := 997) rfl⟩
set_option maxRecDepth 100000 in
theorem lw_p74 : lw_okq (⟨"NamedWindModel", "goYearDay", "()V"⟩, 44) := ⟨⟨by decide +kernel, by decide +kernel⟩, List.mem_of_getElem? (i := 630) rfl, List.mem_of_getElem? (i := 1000) rfl, List.mem_of_getElem? (i := 1001) rfl⟩
set_option maxRecDepth 100000 in
theorem lw_p75 : lw_okq (⟨"NamedWindModel", "draw", "(I)I"⟩, 44) := ⟨⟨by decide +kernel, by decide +kernel⟩, List.mem_of_getElem? (i := 630) rfl, List.mem_of_getElem? (i := 1004) rfl, List.mem_of_getElem? (i := 1005) rfl⟩
set_option maxRecDepth 100000 in
theorem lw_p76 : lw_okq (⟨"NamedWindModel", "drawnWind", "(I)I"⟩, 44) := ⟨⟨by decide +kernel, by decide +kernel⟩, List.mem_of_getElem? (i := 630) rfl, List.mem_of_getElem? (i := 1012) rfl, List.mem_of_getElem? (i := 1013) rfl⟩
set_option maxRecDepth 100000 in
theorem lw_p77 : lw_okq (⟨"NamedWindModel", "howMany", "(I)I"⟩, 44) := ⟨⟨by decide +kernel, by decide +kernel⟩, List.mem_of_getElem? (i := 630) rfl, List.mem_of_getElem? (i := 1028) rfl, List.mem_of_getElem? (i := 1029) rfl⟩
set_option maxRecDepth 100000 in
theorem lw_p78 : lw_okq (⟨"NamedWindModel", "mix", "(J)V"⟩, 44) := ⟨⟨by decide +kernel, by decide +kernel⟩, List.mem_of_getElem? (i := 630) rfl, List.mem_of_getElem? (i := 1037) rfl, List.mem_of_getElem? (i := 1038) rfl⟩
def lw_privs_5 : List (MethodName × Nat) := [(⟨"NamedWindModel", "sureNow", "(I)I"⟩, 44), (⟨"NamedWindModel", "isSure", "(IIII)Z"⟩, 44), (⟨"NamedWindModel", "sureBy", "(IIIIII)Z"⟩, 44), (⟨"NamedWindModel", "tellsNow", "()I"⟩, 44), (⟨"NamedWindModel", "raceNow", "(III)J"⟩, 44), (⟨"NamedWindModel", "guessNow", "(I)I"⟩, 44), (⟨"NamedWindModel", "calledNow", "()I"⟩, 44), (⟨"NamedWindModel", "waysBy", "(II)I"⟩, 44), (⟨"NamedWindModel", "canBlow", "(I)Z"⟩, 44), (⟨"NamedWindModel", "yearsNow", "(III)I"⟩, 44), (⟨"NamedWindModel", "goYearDay", "()V"⟩, 44), (⟨"NamedWindModel", "draw", "(I)I"⟩, 44), (⟨"NamedWindModel", "drawnWind", "(I)I"⟩, 44), (⟨"NamedWindModel", "howMany", "(I)I"⟩, 44), (⟨"NamedWindModel", "mix", "(J)V"⟩, 44)]
theorem lw_r5 : ∀ q ∈ lw_privs_5, lw_okq q := List.forall_mem_cons.mpr ⟨lw_p64, List.forall_mem_cons.mpr ⟨lw_p65, List.forall_mem_cons.mpr ⟨lw_p66, List.forall_mem_cons.mpr ⟨lw_p67, List.forall_mem_cons.mpr ⟨lw_p68, List.forall_mem_cons.mpr ⟨lw_p69, List.forall_mem_cons.mpr ⟨lw_p70, List.forall_mem_cons.mpr ⟨lw_p71, List.forall_mem_cons.mpr ⟨lw_p72, List.forall_mem_cons.mpr ⟨lw_p73, List.forall_mem_cons.mpr ⟨lw_p74, List.forall_mem_cons.mpr ⟨lw_p75, List.forall_mem_cons.mpr ⟨lw_p76, List.forall_mem_cons.mpr ⟨lw_p77, List.forall_mem_cons.mpr ⟨lw_p78, fun _ h => absurd h List.not_mem_nil⟩⟩⟩⟩⟩⟩⟩⟩⟩⟩⟩⟩⟩⟩⟩
def lw_privs : List (MethodName × Nat) := lw_privs_1 ++ (lw_privs_2 ++ (lw_privs_3 ++ (lw_privs_4 ++ (lw_privs_5))))
def lw_tbl : List Cond := k2_sels lw_privs ++ tables_1
theorem lw_privs_ok : ∀ q ∈ lw_privs, lw_okq q := by
  show ∀ q ∈ lw_privs_1 ++ (lw_privs_2 ++ (lw_privs_3 ++ (lw_privs_4 ++ (lw_privs_5)))), lw_okq q
  exact List.forall_mem_append.mpr ⟨lw_r1, List.forall_mem_append.mpr ⟨lw_r2, List.forall_mem_append.mpr ⟨lw_r3, List.forall_mem_append.mpr ⟨lw_r4, lw_r5⟩⟩⟩⟩
-- ===== end of PART A; then your names; then what follows =====
end
section
/-! ===== BEGIN words of one list among another's, by their places ===== -/
theorem goodIn_r {big : List Cond} (ws : List Cond) (ps : List Nat) (hp : ws = ps.filterMap (fun i => big[i]?)) (h : ws.all goodWord = true) : GoodIn big ws := by
  intro w hw
  have h1 := List.all_eq_true.mp h w hw
  rw [hp] at hw
  obtain ⟨i, -, hi⟩ := List.mem_filterMap.mp hw
  have hm : w ∈ big := by first | exact List.mem_of_getElem? hi | exact List.getElem?_mem hi
  exact ⟨hm, good_of_word h1⟩
theorem goodIn_app {big a b : List Cond} (ha : GoodIn big a) (hb : GoodIn big b) : GoodIn big (a ++ b) := fun w h => (List.mem_append.mp h).elim (ha w) (hb w)
theorem goodIn_ca {big a b : List Cond} {c : Cond} (ha : GoodIn big (c :: a)) (hb : GoodIn big b) : GoodIn big (c :: (a ++ b)) := fun w h => (List.mem_cons.mp h).elim (fun e => ha w (List.mem_cons.mpr (Or.inl e))) (fun h => (List.mem_append.mp h).elim (fun h => ha w (List.mem_cons.mpr (Or.inr h))) (hb w))
theorem goodIn_sub {big ws : List Cond} (hm : ∀ w ∈ ws, w ∈ big) (h : ws.all goodWord = true) : GoodIn big ws := fun w hw => ⟨hm w hw, good_of_word (List.all_eq_true.mp h w hw)⟩
/-! ===== END ===== -/


/-! ===== BEGIN printed: names, fields, word lists, decode rows ===== -/
def RX0 : String := "NamedWind$Book"
def TX0 : u_T := fun k => match k with
  | 0 => ("NamedWind$Book", "strength", "[[I", true)
  | _ => ("NamedWind$Book", "owner", "[I", true)
def tyX0 : Nat → FieldType := fun k => match k with
  | 0 => .array (.array .int)
  | _ => .array .int
abbrev wsX00 : List Cond := u_ws RX0 TX0 2
theorem nmX0 : ∀ a, a < 2 → ∀ b, b < 2 → a ≠ b → (TX0 a).2.1 ≠ (TX0 b).2.1 := by decide +kernel
theorem tyX0_ok : ∀ k, k < 2 → parseFieldDescriptor (TX0 k).2.2.1 = some (tyX0 k) := by decide +kernel
abbrev cX0_init : ByteArray := prog_2_method_1_code
def yX0_init : MethodName := ⟨RX0, "<init>", "()V"⟩
abbrev cX0_clear : ByteArray := prog_2_method_2_code
def yX0_clear : MethodName := ⟨RX0, "clear", "()V"⟩
abbrev cX0_nameCount : ByteArray := prog_2_method_3_code
def yX0_nameCount : MethodName := ⟨RX0, "nameCount", "()I"⟩
abbrev cX0_favours : ByteArray := prog_2_method_4_code
def yX0_favours : MethodName := ⟨RX0, "favours", "(II)Z"⟩
abbrev cX0_favour : ByteArray := prog_2_method_5_code
def yX0_favour : MethodName := ⟨RX0, "favour", "(II)I"⟩
abbrev cX0_strengthInAll : ByteArray := prog_2_method_6_code
def yX0_strengthInAll : MethodName := ⟨RX0, "strengthInAll", "(I)I"⟩
abbrev cX0_tellingSign : ByteArray := prog_2_method_7_code
def yX0_tellingSign : MethodName := ⟨RX0, "tellingSign", "()I"⟩
abbrev cX0_strongest : ByteArray := prog_2_method_8_code
def yX0_strongest : MethodName := ⟨RX0, "strongest", "(I)I"⟩
def RX1 : String := "NamedWind$Forecast"
def TX1 : u_T := fun k => match k with
  | 0 => ("NamedWind$Forecast", "found", "[[I", true)
  | 1 => ("NamedWind$Forecast", "ahead", "[[I", true)
  | 2 => ("NamedWind$Forecast", "calm", "[I", true)
  | _ => ("NamedWind$Forecast", "kind", "I", false)
def tyX1 : Nat → FieldType := fun k => match k with
  | 0 => .array (.array .int)
  | 1 => .array (.array .int)
  | 2 => .array .int
  | _ => .int
abbrev wsX10 : List Cond := u_ws RX1 TX1 4
theorem nmX1 : ∀ a, a < 4 → ∀ b, b < 4 → a ≠ b → (TX1 a).2.1 ≠ (TX1 b).2.1 := by decide +kernel
theorem tyX1_ok : ∀ k, k < 4 → parseFieldDescriptor (TX1 k).2.2.1 = some (tyX1 k) := by decide +kernel
abbrev cX1_init : ByteArray := prog_3_method_1_code
def yX1_init : MethodName := ⟨RX1, "<init>", "()V"⟩
abbrev cX1_begin : ByteArray := prog_3_method_2_code
def yX1_begin : MethodName := ⟨RX1, "begin", "(LNamedWind$Book;II)V"⟩
abbrev cX1_chances : ByteArray := prog_3_method_3_code
def yX1_chances : MethodName := ⟨RX1, "chances", "(III)I"⟩
abbrev cX1_bestCall : ByteArray := prog_3_method_4_code
def yX1_bestCall : MethodName := ⟨RX1, "bestCall", "(IIII)I"⟩
abbrev cX1_worth : ByteArray := prog_3_method_5_code
def yX1_worth : MethodName := ⟨RX1, "worth", "(IIIII)I"⟩
def RX2 : String := "NamedWind$Page"
def TX2 : u_T := fun k => match k with
  | 0 => ("NamedWind$Page", "codes", "[I", true)
  | _ => ("NamedWind$Page", "length", "I", false)
def tyX2 : Nat → FieldType := fun k => match k with
  | 0 => .array .int
  | _ => .int
abbrev wsX20 : List Cond := u_ws RX2 TX2 2
theorem nmX2 : ∀ a, a < 2 → ∀ b, b < 2 → a ≠ b → (TX2 a).2.1 ≠ (TX2 b).2.1 := by decide +kernel
theorem tyX2_ok : ∀ k, k < 2 → parseFieldDescriptor (TX2 k).2.2.1 = some (tyX2 k) := by decide +kernel
abbrev cX2_init : ByteArray := prog_4_method_1_code
def yX2_init : MethodName := ⟨RX2, "<init>", "()V"⟩
abbrev cX2_add : ByteArray := prog_4_method_2_code
def yX2_add : MethodName := ⟨RX2, "add", "(J)I"⟩
abbrev cX2_empty : ByteArray := prog_4_method_3_code
def yX2_empty : MethodName := ⟨RX2, "empty", "()I"⟩
abbrev cX2_lettersIn : ByteArray := prog_4_method_4_code
def yX2_lettersIn : MethodName := ⟨RX2, "lettersIn", "(J)I"⟩
abbrev cX2_byteAt : ByteArray := prog_4_method_5_code
def yX2_byteAt : MethodName := ⟨RX2, "byteAt", "(JI)I"⟩
def RX3 : String := "NamedWind$Reader"
def TX3 : u_T := fun k => match k with
  | 0 => ("NamedWind$Reader", "next", "I", false)
  | _ => ("NamedWind$Reader", "wind", "I", false)
def tyX3 : Nat → FieldType := fun k => match k with
  | 0 => .int
  | _ => .int
abbrev wsX30 : List Cond := u_ws RX3 TX3 2
theorem nmX3 : ∀ a, a < 2 → ∀ b, b < 2 → a ≠ b → (TX3 a).2.1 ≠ (TX3 b).2.1 := by decide +kernel
theorem tyX3_ok : ∀ k, k < 2 → parseFieldDescriptor (TX3 k).2.2.1 = some (tyX3 k) := by decide +kernel
abbrev cX3_init : ByteArray := prog_5_method_1_code
def yX3_init : MethodName := ⟨RX3, "<init>", "()V"⟩
abbrev cX3_read : ByteArray := prog_5_method_2_code
def yX3_read : MethodName := ⟨RX3, "read", "(LNamedWind$Page;LNamedWind$Book;)I"⟩
abbrev cX3_atEnd : ByteArray := prog_5_method_3_code
def yX3_atEnd : MethodName := ⟨RX3, "atEnd", "()Z"⟩
abbrev cX3_takes : ByteArray := prog_5_method_4_code
def yX3_takes : MethodName := ⟨RX3, "takes", "(ILNamedWind$Book;)Z"⟩
abbrev cX3_takesMark : ByteArray := prog_5_method_5_code
def yX3_takesMark : MethodName := ⟨RX3, "takesMark", "(ICI)Z"⟩
abbrev cX3_takesName : ByteArray := prog_5_method_6_code
def yX3_takesName : MethodName := ⟨RX3, "takesName", "(ILNamedWind$Book;I)Z"⟩
abbrev cX3_takesTenths : ByteArray := prog_5_method_7_code
def yX3_takesTenths : MethodName := ⟨RX3, "takesTenths", "(ILNamedWind$Book;)Z"⟩
abbrev cX3_takesNextWind : ByteArray := prog_5_method_8_code
def yX3_takesNextWind : MethodName := ⟨RX3, "takesNextWind", "(I)Z"⟩
def RX4 : String := "NamedWind$Sea"
def TX4 : u_T := fun k => match k with
  | 0 => ("NamedWind$Sea", "fleet", "[LNamedWind$Ship;", true)
  | 1 => ("NamedWind$Sea", "couldBe", "[I", true)
  | 2 => ("NamedWind$Sea", "ships", "I", false)
  | 3 => ("NamedWind$Sea", "spentNames", "I", false)
  | 4 => ("NamedWind$Sea", "days", "I", false)
  | _ => ("NamedWind$Sea", "answers", "I", false)
def tyX4 : Nat → FieldType := fun k => match k with
  | 0 => .array (.object "NamedWind$Ship")
  | 1 => .array .int
  | 2 => .int
  | 3 => .int
  | 4 => .int
  | _ => .int
abbrev wsX40 : List Cond := u_ws RX4 TX4 6
theorem nmX4 : ∀ a, a < 6 → ∀ b, b < 6 → a ≠ b → (TX4 a).2.1 ≠ (TX4 b).2.1 := by decide +kernel
theorem tyX4_ok : ∀ k, k < 6 → parseFieldDescriptor (TX4 k).2.2.1 = some (tyX4 k) := by decide +kernel
abbrev cX4_init : ByteArray := prog_6_method_1_code
def yX4_init : MethodName := ⟨RX4, "<init>", "()V"⟩
abbrev cX4_clear : ByteArray := prog_6_method_2_code
def yX4_clear : MethodName := ⟨RX4, "clear", "()V"⟩
abbrev cX4_copyFrom : ByteArray := prog_6_method_3_code
def yX4_copyFrom : MethodName := ⟨RX4, "copyFrom", "(LNamedWind$Sea;)V"⟩
abbrev cX4_add : ByteArray := prog_6_method_4_code
def yX4_add : MethodName := ⟨RX4, "add", "(II)I"⟩
abbrev cX4_isSpent : ByteArray := prog_6_method_5_code
def yX4_isSpent : MethodName := ⟨RX4, "isSpent", "(I)Z"⟩
abbrev cX4_freeNames : ByteArray := prog_6_method_6_code
def yX4_freeNames : MethodName := ⟨RX4, "freeNames", "()I"⟩
abbrev cX4_spentCount : ByteArray := prog_6_method_7_code
def yX4_spentCount : MethodName := ⟨RX4, "spentCount", "()I"⟩
abbrev cX4_homeCount : ByteArray := prog_6_method_8_code
def yX4_homeCount : MethodName := ⟨RX4, "homeCount", "()I"⟩
abbrev cX4_placesTogether : ByteArray := prog_6_method_9_code
def yX4_placesTogether : MethodName := ⟨RX4, "placesTogether", "()I"⟩
abbrev cX4_replaceCall : ByteArray := prog_6_method_10_code
def yX4_replaceCall : MethodName := ⟨RX4, "replaceCall", "(II)I"⟩
abbrev cX4_beginCall : ByteArray := prog_6_method_11_code
def yX4_beginCall : MethodName := ⟨RX4, "beginCall", "(II)V"⟩
abbrev cX4_isSpentToday : ByteArray := prog_6_method_12_code
def yX4_isSpentToday : MethodName := ⟨RX4, "isSpentToday", "(I)Z"⟩
abbrev cX4_passDay : ByteArray := prog_6_method_13_code
def yX4_passDay : MethodName := ⟨RX4, "passDay", "(LNamedWind$Book;I)V"⟩
abbrev cX4_answer : ByteArray := prog_6_method_14_code
def yX4_answer : MethodName := ⟨RX4, "answer", "(LNamedWind$Book;LNamedWind$Ship;I)V"⟩
abbrev cX4_passYears : ByteArray := prog_6_method_15_code
def yX4_passYears : MethodName := ⟨RX4, "passYears", "(LNamedWind$Book;II)I"⟩
abbrev cX4_windDrawn : ByteArray := prog_6_method_16_code
def yX4_windDrawn : MethodName := ⟨RX4, "windDrawn", "(LNamedWind$Book;II)I"⟩
abbrev cX4_nextSeed : ByteArray := prog_6_method_17_code
def yX4_nextSeed : MethodName := ⟨RX4, "nextSeed", "(I)I"⟩
abbrev cX4_drawOf : ByteArray := prog_6_method_18_code
def yX4_drawOf : MethodName := ⟨RX4, "drawOf", "(II)I"⟩
def RX5 : String := "NamedWind$Ship"
def TX5 : u_T := fun k => match k with
  | 0 => ("NamedWind$Ship", "kind", "I", false)
  | 1 => ("NamedWind$Ship", "place", "I", false)
  | 2 => ("NamedWind$Ship", "call", "I", false)
  | 3 => ("NamedWind$Ship", "served", "I", false)
  | _ => ("NamedWind$Ship", "turned", "I", false)
def tyX5 : Nat → FieldType := fun k => match k with
  | 0 => .int
  | 1 => .int
  | 2 => .int
  | 3 => .int
  | _ => .int
abbrev wsX50 : List Cond := u_ws RX5 TX5 5
theorem nmX5 : ∀ a, a < 5 → ∀ b, b < 5 → a ≠ b → (TX5 a).2.1 ≠ (TX5 b).2.1 := by decide +kernel
theorem tyX5_ok : ∀ k, k < 5 → parseFieldDescriptor (TX5 k).2.2.1 = some (tyX5 k) := by decide +kernel
abbrev cX5_init : ByteArray := prog_7_method_1_code
def yX5_init : MethodName := ⟨RX5, "<init>", "()V"⟩
abbrev cX5_begin : ByteArray := prog_7_method_2_code
def yX5_begin : MethodName := ⟨RX5, "begin", "(II)V"⟩
abbrev cX5_copyFrom : ByteArray := prog_7_method_3_code
def yX5_copyFrom : MethodName := ⟨RX5, "copyFrom", "(LNamedWind$Ship;)V"⟩
abbrev cX5_tell : ByteArray := prog_7_method_4_code
def yX5_tell : MethodName := ⟨RX5, "tell", "(I)I"⟩
abbrev cX5_isA : ByteArray := prog_7_method_5_code
def yX5_isA : MethodName := ⟨RX5, "isA", "(I)Z"⟩
abbrev cX5_spends : ByteArray := prog_7_method_6_code
def yX5_spends : MethodName := ⟨RX5, "spends", "(I)Z"⟩
def RX6 : String := "NamedWind$Wake"
def TX6 : u_T := fun k => match k with
  | 0 => ("NamedWind$Wake", "places", "[I", true)
  | 1 => ("NamedWind$Wake", "begun", "Z", false)
  | 2 => ("NamedWind$Wake", "kind", "I", false)
  | _ => ("NamedWind$Wake", "days", "I", false)
def tyX6 : Nat → FieldType := fun k => match k with
  | 0 => .array .int
  | 1 => .boolean
  | 2 => .int
  | _ => .int
abbrev wsX60 : List Cond := u_ws RX6 TX6 4
theorem nmX6 : ∀ a, a < 4 → ∀ b, b < 4 → a ≠ b → (TX6 a).2.1 ≠ (TX6 b).2.1 := by decide +kernel
theorem tyX6_ok : ∀ k, k < 4 → parseFieldDescriptor (TX6 k).2.2.1 = some (tyX6 k) := by decide +kernel
abbrev cX6_init : ByteArray := prog_8_method_1_code
def yX6_init : MethodName := ⟨RX6, "<init>", "()V"⟩
abbrev cX6_begin : ByteArray := prog_8_method_2_code
def yX6_begin : MethodName := ⟨RX6, "begin", "(II)V"⟩
abbrev cX6_end : ByteArray := prog_8_method_3_code
def yX6_end : MethodName := ⟨RX6, "end", "()V"⟩
abbrev cX6_add : ByteArray := prog_8_method_4_code
def yX6_add : MethodName := ⟨RX6, "add", "(I)I"⟩
abbrev cX6_ways : ByteArray := prog_8_method_5_code
def yX6_ways : MethodName := ⟨RX6, "ways", "(LNamedWind$Book;)I"⟩
abbrev cX6_waysBy : ByteArray := prog_8_method_6_code
def yX6_waysBy : MethodName := ⟨RX6, "waysBy", "(LNamedWind$Book;II)I"⟩
abbrev cX6_callOn : ByteArray := prog_8_method_7_code
def yX6_callOn : MethodName := ⟨RX6, "callOn", "(LNamedWind$Book;I)I"⟩
def RX7 : String := "NamedWind"
def TX7 : u_T := fun k => match k with
  | 0 => ("NamedWind", "page", "LNamedWind$Page;", true)
  | 1 => ("NamedWind", "reader", "LNamedWind$Reader;", true)
  | 2 => ("NamedWind", "sea", "LNamedWind$Sea;", true)
  | 3 => ("NamedWind", "kept", "LNamedWind$Sea;", true)
  | 4 => ("NamedWind", "dream", "LNamedWind$Sea;", true)
  | 5 => ("NamedWind", "trail", "LNamedWind$Wake;", true)
  | 6 => ("NamedWind", "forecast", "LNamedWind$Forecast;", true)
  | 7 => ("NamedWind", "current", "LNamedWind$Book;", false)
  | 8 => ("NamedWind", "draft", "LNamedWind$Book;", false)
  | 9 => ("NamedWind", "booksRead", "I", false)
  | _ => ("NamedWind", "imageKept", "Z", false)
def tyX7 : Nat → FieldType := fun k => match k with
  | 0 => .object "NamedWind$Page"
  | 1 => .object "NamedWind$Reader"
  | 2 => .object "NamedWind$Sea"
  | 3 => .object "NamedWind$Sea"
  | 4 => .object "NamedWind$Sea"
  | 5 => .object "NamedWind$Wake"
  | 6 => .object "NamedWind$Forecast"
  | 7 => .object "NamedWind$Book"
  | 8 => .object "NamedWind$Book"
  | 9 => .int
  | _ => .boolean
abbrev wsX70 : List Cond := u_ws RX7 TX7 11
theorem nmX7 : ∀ a, a < 11 → ∀ b, b < 11 → a ≠ b → (TX7 a).2.1 ≠ (TX7 b).2.1 := by decide +kernel
theorem tyX7_ok : ∀ k, k < 11 → parseFieldDescriptor (TX7 k).2.2.1 = some (tyX7 k) := by decide +kernel
abbrev cX7_init : ByteArray := prog_1_method_1_code
def yX7_init : MethodName := ⟨RX7, "<init>", "()V"⟩
abbrev cX7_letters : ByteArray := prog_1_method_2_code
def yX7_letters : MethodName := ⟨RX7, "letters", "(J)I"⟩
abbrev cX7_blank : ByteArray := prog_1_method_3_code
def yX7_blank : MethodName := ⟨RX7, "blank", "()I"⟩
abbrev cX7_fault : ByteArray := prog_1_method_4_code
def yX7_fault : MethodName := ⟨RX7, "fault", "()I"⟩
abbrev cX7_book : ByteArray := prog_1_method_5_code
def yX7_book : MethodName := ⟨RX7, "book", "()I"⟩
abbrev cX7_tenths : ByteArray := prog_1_method_6_code
def yX7_tenths : MethodName := ⟨RX7, "tenths", "(II)I"⟩
abbrev cX7_windOf : ByteArray := prog_1_method_7_code
def yX7_windOf : MethodName := ⟨RX7, "windOf", "(I)I"⟩
abbrev cX7_ship : ByteArray := prog_1_method_8_code
def yX7_ship : MethodName := ⟨RX7, "ship", "(II)I"⟩
abbrev cX7_about : ByteArray := prog_1_method_9_code
def yX7_about : MethodName := ⟨RX7, "about", "(II)I"⟩
abbrev cX7_as : ByteArray := prog_1_method_10_code
def yX7_as : MethodName := ⟨RX7, "as", "(II)I"⟩
abbrev cX7_call : ByteArray := prog_1_method_11_code
def yX7_call : MethodName := ⟨RX7, "call", "(II)I"⟩
abbrev cX7_spent : ByteArray := prog_1_method_12_code
def yX7_spent : MethodName := ⟨RX7, "spent", "(I)I"⟩
abbrev cX7_blow : ByteArray := prog_1_method_13_code
def yX7_blow : MethodName := ⟨RX7, "blow", "(I)I"⟩
abbrev cX7_moon : ByteArray := prog_1_method_14_code
def yX7_moon : MethodName := ⟨RX7, "moon", "()I"⟩
abbrev cX7_likely : ByteArray := prog_1_method_15_code
def yX7_likely : MethodName := ⟨RX7, "likely", "(III)J"⟩
abbrev cX7_what : ByteArray := prog_1_method_16_code
def yX7_what : MethodName := ⟨RX7, "what", "(III)I"⟩
abbrev cX7_sure : ByteArray := prog_1_method_17_code
def yX7_sure : MethodName := ⟨RX7, "sure", "(I)I"⟩
abbrev cX7_tells : ByteArray := prog_1_method_18_code
def yX7_tells : MethodName := ⟨RX7, "tells", "()I"⟩
abbrev cX7_race : ByteArray := prog_1_method_19_code
def yX7_race : MethodName := ⟨RX7, "race", "(IIII)J"⟩
abbrev cX7_guess : ByteArray := prog_1_method_20_code
def yX7_guess : MethodName := ⟨RX7, "guess", "(I)I"⟩
abbrev cX7_wake : ByteArray := prog_1_method_21_code
def yX7_wake : MethodName := ⟨RX7, "wake", "(II)I"⟩
abbrev cX7_then : ByteArray := prog_1_method_22_code
def yX7_then : MethodName := ⟨RX7, "then", "(I)I"⟩
abbrev cX7_called : ByteArray := prog_1_method_23_code
def yX7_called : MethodName := ⟨RX7, "called", "()I"⟩
abbrev cX7_by : ByteArray := prog_1_method_24_code
def yX7_by : MethodName := ⟨RX7, "by", "(I)I"⟩
abbrev cX7_years : ByteArray := prog_1_method_25_code
def yX7_years : MethodName := ⟨RX7, "years", "(III)I"⟩
abbrev cX7_image : ByteArray := prog_1_method_26_code
def yX7_image : MethodName := ⟨RX7, "image", "()I"⟩
abbrev cX7_restore : ByteArray := prog_1_method_27_code
def yX7_restore : MethodName := ⟨RX7, "restore", "()I"⟩
abbrev cX7_count : ByteArray := prog_1_method_28_code
def yX7_count : MethodName := ⟨RX7, "count", "(I)I"⟩
abbrev cX7_digest : ByteArray := prog_1_method_29_code
def yX7_digest : MethodName := ⟨RX7, "digest", "()J"⟩
abbrev cX7_mixBook : ByteArray := prog_1_method_30_code
def yX7_mixBook : MethodName := ⟨RX7, "mixBook", "(J)J"⟩
abbrev cX7_mixShip : ByteArray := prog_1_method_31_code
def yX7_mixShip : MethodName := ⟨RX7, "mixShip", "(JI)J"⟩
abbrev cX7_mix : ByteArray := prog_1_method_32_code
def yX7_mix : MethodName := ⟨RX7, "mix", "(JJ)J"⟩
abbrev cX7_hasBook : ByteArray := prog_1_method_33_code
def yX7_hasBook : MethodName := ⟨RX7, "hasBook", "()Z"⟩
abbrev cX7_isShip : ByteArray := prog_1_method_34_code
def yX7_isShip : MethodName := ⟨RX7, "isShip", "(I)Z"⟩
abbrev cX7_isName : ByteArray := prog_1_method_35_code
def yX7_isName : MethodName := ⟨RX7, "isName", "(I)Z"⟩
abbrev cX7_isWindOrCalm : ByteArray := prog_1_method_36_code
def yX7_isWindOrCalm : MethodName := ⟨RX7, "isWindOrCalm", "(I)Z"⟩
abbrev cX7_isSign : ByteArray := prog_1_method_37_code
def yX7_isSign : MethodName := ⟨RX7, "isSign", "(I)Z"⟩
abbrev cX7_isKind : ByteArray := prog_1_method_38_code
def yX7_isKind : MethodName := ⟨RX7, "isKind", "(I)Z"⟩
abbrev cX7_isPlace : ByteArray := prog_1_method_39_code
def yX7_isPlace : MethodName := ⟨RX7, "isPlace", "(I)Z"⟩
abbrev cX7_isPart : ByteArray := prog_1_method_40_code
def yX7_isPart : MethodName := ⟨RX7, "isPart", "(I)Z"⟩
abbrev cX7_placeAhead : ByteArray := prog_1_method_41_code
def yX7_placeAhead : MethodName := ⟨RX7, "placeAhead", "(III)I"⟩
abbrev cX7_placeBehind : ByteArray := prog_1_method_42_code
def yX7_placeBehind : MethodName := ⟨RX7, "placeBehind", "(III)I"⟩
abbrev cX7_placeAfter : ByteArray := prog_1_method_43_code
def yX7_placeAfter : MethodName := ⟨RX7, "placeAfter", "(LNamedWind$Book;IIII)I"⟩
abbrev cX7_raceChances : ByteArray := prog_1_method_44_code
def yX7_raceChances : MethodName := ⟨RX7, "raceChances", "(LNamedWind$Book;III)I"⟩
abbrev cX7_inLowestTerms : ByteArray := prog_1_method_45_code
def yX7_inLowestTerms : MethodName := ⟨RX7, "inLowestTerms", "(III)J"⟩
abbrev cX7_greatestShared : ByteArray := prog_1_method_46_code
def yX7_greatestShared : MethodName := ⟨RX7, "greatestShared", "(II)I"⟩
def RX8 : String := "NamedWindModel"
def TX8 : u_T := fun k => match k with
  | 0 => ("NamedWindModel", "isBook", "Z", false)
  | 1 => ("NamedWindModel", "books", "I", false)
  | 2 => ("NamedWindModel", "names", "I", false)
  | 3 => ("NamedWindModel", "tenthsOf", "[I", true)
  | 4 => ("NamedWindModel", "windOfName", "[I", true)
  | 5 => ("NamedWindModel", "ships", "I", false)
  | 6 => ("NamedWindModel", "kindOf", "[I", true)
  | 7 => ("NamedWindModel", "placeOf", "[I", true)
  | 8 => ("NamedWindModel", "callOf", "[I", true)
  | 9 => ("NamedWindModel", "servedOf", "[I", true)
  | 10 => ("NamedWindModel", "turnedOf", "[I", true)
  | 11 => ("NamedWindModel", "spentSet", "I", false)
  | 12 => ("NamedWindModel", "days", "I", false)
  | 13 => ("NamedWindModel", "answers", "I", false)
  | 14 => ("NamedWindModel", "answerOf", "[I", true)
  | 15 => ("NamedWindModel", "wakeShip", "I", false)
  | 16 => ("NamedWindModel", "wakeDays", "I", false)
  | 17 => ("NamedWindModel", "wakeAt", "[I", true)
  | 18 => ("NamedWindModel", "pageLength", "I", false)
  | 19 => ("NamedWindModel", "page", "[B", true)
  | 20 => ("NamedWindModel", "faultAt", "I", false)
  | 21 => ("NamedWindModel", "isWhole", "Z", false)
  | 22 => ("NamedWindModel", "newWind", "I", false)
  | 23 => ("NamedWindModel", "newNames", "I", false)
  | 24 => ("NamedWindModel", "newTenths", "[I", true)
  | 25 => ("NamedWindModel", "newWindOf", "[I", true)
  | 26 => ("NamedWindModel", "chanceOf", "[J", true)
  | 27 => ("NamedWindModel", "sureOf", "[Z", true)
  | 28 => ("NamedWindModel", "raceOf", "[J", true)
  | 29 => ("NamedWindModel", "raceThen", "[J", true)
  | 30 => ("NamedWindModel", "seedNow", "J", false)
  | 31 => ("NamedWindModel", "savedPlace", "[I", true)
  | 32 => ("NamedWindModel", "yearCall", "[I", true)
  | 33 => ("NamedWindModel", "isKept", "Z", false)
  | 34 => ("NamedWindModel", "keptBook", "I", false)
  | 35 => ("NamedWindModel", "keptShips", "I", false)
  | 36 => ("NamedWindModel", "keptSpent", "I", false)
  | 37 => ("NamedWindModel", "keptDays", "I", false)
  | 38 => ("NamedWindModel", "keptAnswers", "I", false)
  | 39 => ("NamedWindModel", "keptPlace", "[I", true)
  | 40 => ("NamedWindModel", "keptServed", "[I", true)
  | 41 => ("NamedWindModel", "keptTurned", "[I", true)
  | 42 => ("NamedWindModel", "keptAnswer", "[I", true)
  | _ => ("NamedWindModel", "h", "J", false)
def tyX8 : Nat → FieldType := fun k => match k with
  | 0 => .boolean
  | 1 => .int
  | 2 => .int
  | 3 => .array .int
  | 4 => .array .int
  | 5 => .int
  | 6 => .array .int
  | 7 => .array .int
  | 8 => .array .int
  | 9 => .array .int
  | 10 => .array .int
  | 11 => .int
  | 12 => .int
  | 13 => .int
  | 14 => .array .int
  | 15 => .int
  | 16 => .int
  | 17 => .array .int
  | 18 => .int
  | 19 => .array .byte
  | 20 => .int
  | 21 => .boolean
  | 22 => .int
  | 23 => .int
  | 24 => .array .int
  | 25 => .array .int
  | 26 => .array .long
  | 27 => .array .boolean
  | 28 => .array .long
  | 29 => .array .long
  | 30 => .long
  | 31 => .array .int
  | 32 => .array .int
  | 33 => .boolean
  | 34 => .int
  | 35 => .int
  | 36 => .int
  | 37 => .int
  | 38 => .int
  | 39 => .array .int
  | 40 => .array .int
  | 41 => .array .int
  | 42 => .array .int
  | _ => .long
abbrev wsX80 : List Cond := u_ws RX8 TX8 44
theorem nmX8 : ∀ a, a < 44 → ∀ b, b < 44 → a ≠ b → (TX8 a).2.1 ≠ (TX8 b).2.1 := by decide +kernel
theorem tyX8_ok : ∀ k, k < 44 → parseFieldDescriptor (TX8 k).2.2.1 = some (tyX8 k) := by decide +kernel
abbrev cX8_init : ByteArray := prog_10_method_1_code
def yX8_init : MethodName := ⟨RX8, "<init>", "()V"⟩
abbrev cX8_within : ByteArray := prog_10_method_3_code
def yX8_within : MethodName := ⟨RX8, "within", "(III)Z"⟩
abbrev cX8_has : ByteArray := prog_10_method_4_code
def yX8_has : MethodName := ⟨RX8, "has", "(II)Z"⟩
abbrev cX8_size : ByteArray := prog_10_method_5_code
def yX8_size : MethodName := ⟨RX8, "size", "(I)I"⟩
abbrev cX8_letters : ByteArray := prog_10_method_6_code
def yX8_letters : MethodName := ⟨RX8, "letters", "(J)I"⟩
abbrev cX8_blank : ByteArray := prog_10_method_7_code
def yX8_blank : MethodName := ⟨RX8, "blank", "()I"⟩
abbrev cX8_takesName : ByteArray := prog_10_method_8_code
def yX8_takesName : MethodName := ⟨RX8, "takesName", "(I)Z"⟩
abbrev cX8_takesTenths : ByteArray := prog_10_method_9_code
def yX8_takesTenths : MethodName := ⟨RX8, "takesTenths", "(II)Z"⟩
abbrev cX8_nextState : ByteArray := prog_10_method_10_code
def yX8_nextState : MethodName := ⟨RX8, "nextState", "(II)I"⟩
abbrev cX8_readBook : ByteArray := prog_10_method_11_code
def yX8_readBook : MethodName := ⟨RX8, "readBook", "()V"⟩
abbrev cX8_fault : ByteArray := prog_10_method_12_code
def yX8_fault : MethodName := ⟨RX8, "fault", "()I"⟩
abbrev cX8_book : ByteArray := prog_10_method_13_code
def yX8_book : MethodName := ⟨RX8, "book", "()I"⟩
abbrev cX8_tenths : ByteArray := prog_10_method_14_code
def yX8_tenths : MethodName := ⟨RX8, "tenths", "(II)I"⟩
abbrev cX8_isName : ByteArray := prog_10_method_15_code
def yX8_isName : MethodName := ⟨RX8, "isName", "(I)Z"⟩
abbrev cX8_windOf : ByteArray := prog_10_method_16_code
def yX8_windOf : MethodName := ⟨RX8, "windOf", "(I)I"⟩
abbrev cX8_isShip : ByteArray := prog_10_method_17_code
def yX8_isShip : MethodName := ⟨RX8, "isShip", "(I)Z"⟩
abbrev cX8_isPlace : ByteArray := prog_10_method_18_code
def yX8_isPlace : MethodName := ⟨RX8, "isPlace", "(I)Z"⟩
abbrev cX8_ship : ByteArray := prog_10_method_19_code
def yX8_ship : MethodName := ⟨RX8, "ship", "(II)I"⟩
abbrev cX8_shipNow : ByteArray := prog_10_method_20_code
def yX8_shipNow : MethodName := ⟨RX8, "shipNow", "(II)I"⟩
abbrev cX8_about : ByteArray := prog_10_method_21_code
def yX8_about : MethodName := ⟨RX8, "about", "(II)I"⟩
abbrev cX8_as : ByteArray := prog_10_method_22_code
def yX8_as : MethodName := ⟨RX8, "as", "(II)I"⟩
abbrev cX8_call : ByteArray := prog_10_method_23_code
def yX8_call : MethodName := ⟨RX8, "call", "(II)I"⟩
abbrev cX8_isCalledToo : ByteArray := prog_10_method_24_code
def yX8_isCalledToo : MethodName := ⟨RX8, "isCalledToo", "(II)Z"⟩
abbrev cX8_spent : ByteArray := prog_10_method_25_code
def yX8_spent : MethodName := ⟨RX8, "spent", "(I)I"⟩
abbrev cX8_behind : ByteArray := prog_10_method_26_code
def yX8_behind : MethodName := ⟨RX8, "behind", "(IIII)I"⟩
abbrev cX8_homeMany : ByteArray := prog_10_method_27_code
def yX8_homeMany : MethodName := ⟨RX8, "homeMany", "()I"⟩
abbrev cX8_answer : ByteArray := prog_10_method_28_code
def yX8_answer : MethodName := ⟨RX8, "answer", "(II)V"⟩
abbrev cX8_blow : ByteArray := prog_10_method_29_code
def yX8_blow : MethodName := ⟨RX8, "blow", "(I)I"⟩
abbrev cX8_moon : ByteArray := prog_10_method_30_code
def yX8_moon : MethodName := ⟨RX8, "moon", "()I"⟩
abbrev cX8_at : ByteArray := prog_10_method_31_code
def yX8_at : MethodName := ⟨RX8, "at", "(III)I"⟩
abbrev cX8_spentBy : ByteArray := prog_10_method_32_code
def yX8_spentBy : MethodName := ⟨RX8, "spentBy", "(III)I"⟩
abbrev cX8_chanceBy : ByteArray := prog_10_method_33_code
def yX8_chanceBy : MethodName := ⟨RX8, "chanceBy", "(IIIIII)J"⟩
abbrev cX8_bestCall : ByteArray := prog_10_method_34_code
def yX8_bestCall : MethodName := ⟨RX8, "bestCall", "(IIIII)I"⟩
abbrev cX8_layChances : ByteArray := prog_10_method_35_code
def yX8_layChances : MethodName := ⟨RX8, "layChances", "(II)V"⟩
abbrev cX8_overSigns : ByteArray := prog_10_method_36_code
def yX8_overSigns : MethodName := ⟨RX8, "overSigns", "(IIII)J"⟩
abbrev cX8_power : ByteArray := prog_10_method_37_code
def yX8_power : MethodName := ⟨RX8, "power", "(I)J"⟩
abbrev cX8_lowest : ByteArray := prog_10_method_38_code
def yX8_lowest : MethodName := ⟨RX8, "lowest", "(JJI)J"⟩
abbrev cX8_likelyNow : ByteArray := prog_10_method_39_code
def yX8_likelyNow : MethodName := ⟨RX8, "likelyNow", "(III)J"⟩
abbrev cX8_likely : ByteArray := prog_10_method_40_code
def yX8_likely : MethodName := ⟨RX8, "likely", "(III)J"⟩
abbrev cX8_what : ByteArray := prog_10_method_41_code
def yX8_what : MethodName := ⟨RX8, "what", "(III)I"⟩
abbrev cX8_sureBy : ByteArray := prog_10_method_42_code
def yX8_sureBy : MethodName := ⟨RX8, "sureBy", "(IIIIII)Z"⟩
abbrev cX8_isSure : ByteArray := prog_10_method_43_code
def yX8_isSure : MethodName := ⟨RX8, "isSure", "(IIII)Z"⟩
abbrev cX8_sureNow : ByteArray := prog_10_method_44_code
def yX8_sureNow : MethodName := ⟨RX8, "sureNow", "(I)I"⟩
abbrev cX8_sure : ByteArray := prog_10_method_45_code
def yX8_sure : MethodName := ⟨RX8, "sure", "(I)I"⟩
abbrev cX8_tellsNow : ByteArray := prog_10_method_46_code
def yX8_tellsNow : MethodName := ⟨RX8, "tellsNow", "()I"⟩
abbrev cX8_tells : ByteArray := prog_10_method_47_code
def yX8_tells : MethodName := ⟨RX8, "tells", "()I"⟩
abbrev cX8_raceNow : ByteArray := prog_10_method_48_code
def yX8_raceNow : MethodName := ⟨RX8, "raceNow", "(III)J"⟩
abbrev cX8_race : ByteArray := prog_10_method_49_code
def yX8_race : MethodName := ⟨RX8, "race", "(IIII)J"⟩
abbrev cX8_guessNow : ByteArray := prog_10_method_50_code
def yX8_guessNow : MethodName := ⟨RX8, "guessNow", "(I)I"⟩
abbrev cX8_guess : ByteArray := prog_10_method_51_code
def yX8_guess : MethodName := ⟨RX8, "guess", "(I)I"⟩
abbrev cX8_wake : ByteArray := prog_10_method_52_code
def yX8_wake : MethodName := ⟨RX8, "wake", "(II)I"⟩
abbrev cX8_then : ByteArray := prog_10_method_53_code
def yX8_then : MethodName := ⟨RX8, "then", "(I)I"⟩
abbrev cX8_canBlow : ByteArray := prog_10_method_54_code
def yX8_canBlow : MethodName := ⟨RX8, "canBlow", "(I)Z"⟩
abbrev cX8_waysBy : ByteArray := prog_10_method_55_code
def yX8_waysBy : MethodName := ⟨RX8, "waysBy", "(II)I"⟩
abbrev cX8_calledNow : ByteArray := prog_10_method_56_code
def yX8_calledNow : MethodName := ⟨RX8, "calledNow", "()I"⟩
abbrev cX8_called : ByteArray := prog_10_method_57_code
def yX8_called : MethodName := ⟨RX8, "called", "()I"⟩
abbrev cX8_by : ByteArray := prog_10_method_58_code
def yX8_by : MethodName := ⟨RX8, "by", "(I)I"⟩
abbrev cX8_draw : ByteArray := prog_10_method_59_code
def yX8_draw : MethodName := ⟨RX8, "draw", "(I)I"⟩
abbrev cX8_drawnWind : ByteArray := prog_10_method_60_code
def yX8_drawnWind : MethodName := ⟨RX8, "drawnWind", "(I)I"⟩
abbrev cX8_goYearDay : ByteArray := prog_10_method_61_code
def yX8_goYearDay : MethodName := ⟨RX8, "goYearDay", "()V"⟩
abbrev cX8_yearsNow : ByteArray := prog_10_method_62_code
def yX8_yearsNow : MethodName := ⟨RX8, "yearsNow", "(III)I"⟩
abbrev cX8_years : ByteArray := prog_10_method_63_code
def yX8_years : MethodName := ⟨RX8, "years", "(III)I"⟩
abbrev cX8_image : ByteArray := prog_10_method_64_code
def yX8_image : MethodName := ⟨RX8, "image", "()I"⟩
abbrev cX8_restore : ByteArray := prog_10_method_65_code
def yX8_restore : MethodName := ⟨RX8, "restore", "()I"⟩
abbrev cX8_howMany : ByteArray := prog_10_method_66_code
def yX8_howMany : MethodName := ⟨RX8, "howMany", "(I)I"⟩
abbrev cX8_count : ByteArray := prog_10_method_67_code
def yX8_count : MethodName := ⟨RX8, "count", "(I)I"⟩
abbrev cX8_mix : ByteArray := prog_10_method_68_code
def yX8_mix : MethodName := ⟨RX8, "mix", "(J)V"⟩
abbrev cX8_digest : ByteArray := prog_10_method_69_code
def yX8_digest : MethodName := ⟨RX8, "digest", "()J"⟩
def RJ6 : String := "java/lang/Integer"
def TJ6 : u_T := fun k => match k with
  | _ => ("", "", "", false)
def tyJ6 : Nat → FieldType := fun k => match k with
  | _ => .int
abbrev wsJ60 : List Cond := u_ws RJ6 TJ6 0
theorem nmJ6 : ∀ a, a < 0 → ∀ b, b < 0 → a ≠ b → (TJ6 a).2.1 ≠ (TJ6 b).2.1 := by decide +kernel
theorem tyJ6_ok : ∀ k, k < 0 → parseFieldDescriptor (TJ6 k).2.2.1 = some (tyJ6 k) := by decide +kernel
abbrev cJ6_bitCount_0f7a4 : ByteArray := prog_11_method_49_code
def yJ6_bitCount_0f7a4 : MethodName := ⟨RJ6, "bitCount", "(I)I"⟩
def RJ9 : String := "java/lang/Math"
def TJ9 : u_T := fun k => match k with
  | _ => ("", "", "", false)
def tyJ9 : Nat → FieldType := fun k => match k with
  | _ => .int
abbrev wsJ90 : List Cond := u_ws RJ9 TJ9 0
theorem nmJ9 : ∀ a, a < 0 → ∀ b, b < 0 → a ≠ b → (TJ9 a).2.1 ≠ (TJ9 b).2.1 := by decide +kernel
theorem tyJ9_ok : ∀ k, k < 0 → parseFieldDescriptor (TJ9 k).2.2.1 = some (tyJ9 k) := by decide +kernel
abbrev cJ9_max_7cf53 : ByteArray := prog_12_method_65_code
def yJ9_max_7cf53 : MethodName := ⟨RJ9, "max", "(II)I"⟩
abbrev cJ9_min_7cf53 : ByteArray := prog_12_method_69_code
def yJ9_min_7cf53 : MethodName := ⟨RJ9, "min", "(II)I"⟩
def RJ10 : String := "java/lang/System"
def TJ10 : u_T := fun k => match k with
  | _ => ("", "", "", false)
def tyJ10 : Nat → FieldType := fun k => match k with
  | _ => .int
abbrev wsJ100 : List Cond := u_ws RJ10 TJ10 0
theorem nmJ10 : ∀ a, a < 0 → ∀ b, b < 0 → a ≠ b → (TJ10 a).2.1 ≠ (TJ10 b).2.1 := by decide +kernel
theorem tyJ10_ok : ∀ k, k < 0 → parseFieldDescriptor (TJ10 k).2.2.1 = some (tyJ10 k) := by decide +kernel
def RJ7 : String := "java/util/Arrays"
def TJ7 : u_T := fun k => match k with
  | _ => ("", "", "", false)
def tyJ7 : Nat → FieldType := fun k => match k with
  | _ => .int
abbrev wsJ70 : List Cond := u_ws RJ7 TJ7 0
theorem nmJ7 : ∀ a, a < 0 → ∀ b, b < 0 → a ≠ b → (TJ7 a).2.1 ≠ (TJ7 b).2.1 := by decide +kernel
theorem tyJ7_ok : ∀ k, k < 0 → parseFieldDescriptor (TJ7 k).2.2.1 = some (tyJ7 k) := by decide +kernel
abbrev cJ7_fill_53178 : ByteArray := prog_14_method_103_code
def yJ7_fill_53178 : MethodName := ⟨RJ7, "fill", "([II)V"⟩
def RL : String := "NamedWindLaw"
abbrev cL_law : ByteArray := code
def yL_law : MethodName := ⟨RL, "law", "([I)Z"⟩
def wsL_law_r1 : List Cond := [Cond.classLink RL 7 RX7, Cond.instantiable RX7 11, Cond.initialized RX7, Cond.classLink RL 10 RX8, Cond.instantiable RX8 44, Cond.initialized RX8, Cond.constantLong RL 13 (4294967295), Cond.methodLink RL 9 yX7_init, Cond.instanceMethod yX7_init, Cond.code yX7_init cX7_init 1 none, Cond.methodLink RX7 3 objectInit, Cond.instanceMethod objectInit, Cond.code objectInit ⟨#[0xb1]⟩ 1 none, Cond.classLink RX7 9 RX2, Cond.instantiable RX2 2, Cond.initialized RX2, Cond.fieldLink RX7 12 "NamedWind" "page" "LNamedWind$Page;", Cond.classLink RX7 16 RX3, Cond.instantiable RX3 2, Cond.initialized RX3, Cond.fieldLink RX7 19 "NamedWind" "reader" "LNamedWind$Reader;", Cond.classLink RX7 23 RX4, Cond.instantiable RX4 6, Cond.initialized RX4]
def wsL_law_r2 : List Cond := [Cond.fieldLink RX7 26 "NamedWind" "sea" "LNamedWind$Sea;", Cond.fieldLink RX7 30 "NamedWind" "kept" "LNamedWind$Sea;", Cond.fieldLink RX7 33 "NamedWind" "dream" "LNamedWind$Sea;", Cond.classLink RX7 36 RX6, Cond.instantiable RX6 4, Cond.initialized RX6, Cond.fieldLink RX7 39 "NamedWind" "trail" "LNamedWind$Wake;", Cond.classLink RX7 43 RX1, Cond.instantiable RX1 4, Cond.initialized RX1, Cond.fieldLink RX7 46 "NamedWind" "forecast" "LNamedWind$Forecast;", Cond.classLink RX7 50 RX0, Cond.instantiable RX0 2, Cond.initialized RX0, Cond.fieldLink RX7 53 "NamedWind" "current" "LNamedWind$Book;", Cond.fieldLink RX7 57 "NamedWind" "draft" "LNamedWind$Book;", Cond.instanceMethod yX2_init, Cond.code yX2_init cX2_init 1 none, Cond.methodLink RX2 3 objectInit, Cond.arrayClass .int, Cond.fieldLink RX2 9 "NamedWind$Page" "codes" "[I", Cond.instanceMethod yX3_init, Cond.code yX3_init cX3_init 1 none, Cond.methodLink RX3 5 objectInit]
def wsL_law_r3 : List Cond := [Cond.instanceMethod yX4_init, Cond.code yX4_init cX4_init 2 none, Cond.methodLink RX4 3 objectInit, Cond.classLink RX4 9 RX5, Cond.fieldLink RX4 11 "NamedWind$Sea" "fleet" "[LNamedWind$Ship;", Cond.fieldLink RX4 17 "NamedWind$Sea" "couldBe" "[I", Cond.instantiable RX5 5, Cond.initialized RX5, Cond.instanceMethod yX5_init, Cond.code yX5_init cX5_init 1 none, Cond.methodLink RX5 3 objectInit, Cond.fieldLink RX5 9 "NamedWind$Ship" "call" "I", Cond.methodLink RX4 22 yX4_clear, Cond.instanceMethod yX4_clear, Cond.selects RX4 yX4_clear yX4_clear, Cond.code yX4_clear cX4_clear 1 none, Cond.fieldLink RX4 31 "NamedWind$Sea" "ships" "I", Cond.fieldLink RX4 35 "NamedWind$Sea" "spentNames" "I", Cond.fieldLink RX4 38 "NamedWind$Sea" "days" "I", Cond.fieldLink RX4 41 "NamedWind$Sea" "answers" "I", Cond.methodLink RX4 25 yJ7_fill_53178, Cond.static yJ7_fill_53178, Cond.initialized RJ7, Cond.code yJ7_fill_53178 cJ7_fill_53178 4 none]
def wsL_law_r4 : List Cond := [Cond.instanceMethod yX6_init, Cond.code yX6_init cX6_init 1 none, Cond.methodLink RX6 3 objectInit, Cond.fieldLink RX6 9 "NamedWind$Wake" "places" "[I", Cond.instanceMethod yX1_init, Cond.code yX1_init cX1_init 1 none, Cond.methodLink RX1 3 objectInit, Cond.classLink RX1 9 "[[I", Cond.fieldLink RX1 11 "NamedWind$Forecast" "found" "[[I", Cond.fieldLink RX1 16 "NamedWind$Forecast" "ahead" "[[I", Cond.fieldLink RX1 19 "NamedWind$Forecast" "calm" "[I", Cond.instanceMethod yX0_init, Cond.code yX0_init cX0_init 1 none, Cond.methodLink RX0 3 objectInit, Cond.classLink RX0 9 "[[I", Cond.fieldLink RX0 11 "NamedWind$Book" "strength" "[[I", Cond.fieldLink RX0 16 "NamedWind$Book" "owner" "[I", Cond.methodLink RX0 20 yX0_clear, Cond.instanceMethod yX0_clear, Cond.selects RX0 yX0_clear yX0_clear, Cond.code yX0_clear cX0_clear 2 none, Cond.methodLink RX0 23 yJ7_fill_53178, Cond.methodLink RL 12 yX8_init, Cond.instanceMethod yX8_init]
def wsL_law_r5 : List Cond := [Cond.code yX8_init cX8_init 1 none, Cond.methodLink RX8 1 objectInit, Cond.fieldLink RX8 7 "NamedWindModel" "tenthsOf" "[I", Cond.fieldLink RX8 13 "NamedWindModel" "windOfName" "[I", Cond.fieldLink RX8 16 "NamedWindModel" "kindOf" "[I", Cond.fieldLink RX8 19 "NamedWindModel" "placeOf" "[I", Cond.fieldLink RX8 22 "NamedWindModel" "callOf" "[I", Cond.fieldLink RX8 25 "NamedWindModel" "servedOf" "[I", Cond.fieldLink RX8 28 "NamedWindModel" "turnedOf" "[I", Cond.fieldLink RX8 31 "NamedWindModel" "answerOf" "[I", Cond.fieldLink RX8 34 "NamedWindModel" "wakeShip" "I", Cond.fieldLink RX8 38 "NamedWindModel" "wakeAt" "[I", Cond.arrayClass .byte, Cond.fieldLink RX8 41 "NamedWindModel" "page" "[B", Cond.fieldLink RX8 45 "NamedWindModel" "newTenths" "[I", Cond.fieldLink RX8 48 "NamedWindModel" "newWindOf" "[I", Cond.arrayClass .long, Cond.fieldLink RX8 51 "NamedWindModel" "chanceOf" "[J", Cond.arrayClass .boolean, Cond.fieldLink RX8 55 "NamedWindModel" "sureOf" "[Z", Cond.fieldLink RX8 59 "NamedWindModel" "raceOf" "[J", Cond.fieldLink RX8 62 "NamedWindModel" "raceThen" "[J", Cond.fieldLink RX8 65 "NamedWindModel" "savedPlace" "[I", Cond.fieldLink RX8 68 "NamedWindModel" "yearCall" "[I"]
def wsL_law_r6 : List Cond := [Cond.fieldLink RX8 71 "NamedWindModel" "keptPlace" "[I", Cond.fieldLink RX8 74 "NamedWindModel" "keptServed" "[I", Cond.fieldLink RX8 77 "NamedWindModel" "keptTurned" "[I", Cond.fieldLink RX8 80 "NamedWindModel" "keptAnswer" "[I", Cond.methodLink RL 15 yX7_letters, Cond.instanceMethod yX7_letters, Cond.selects RX7 yX7_letters yX7_letters, Cond.code yX7_letters cX7_letters 3 (some .int), Cond.instanceMethod yX2_add, Cond.selects RX2 yX2_add yX2_add, Cond.code yX2_add cX2_add 5 (some .int), Cond.fieldLink RX2 19 "NamedWind$Page" "length" "I", Cond.methodLink RX2 15 yX2_lettersIn, Cond.static yX2_lettersIn, Cond.code yX2_lettersIn cX2_lettersIn 5 (some .int), Cond.methodLink RX2 23 yX2_byteAt, Cond.static yX2_byteAt, Cond.code yX2_byteAt cX2_byteAt 3 (some .int), Cond.methodLink RL 19 yX8_letters, Cond.instanceMethod yX8_letters, Cond.selects RX8 yX8_letters yX8_letters, Cond.code yX8_letters cX8_letters 7 (some .int), Cond.constantLong RX8 83 (255), Cond.fieldLink RX8 85 "NamedWindModel" "pageLength" "I"]
def wsL_law_r7 : List Cond := [Cond.methodLink RL 20 yX7_blank, Cond.instanceMethod yX7_blank, Cond.selects RX7 yX7_blank yX7_blank, Cond.code yX7_blank cX7_blank 1 (some .int), Cond.instanceMethod yX2_empty, Cond.selects RX2 yX2_empty yX2_empty, Cond.code yX2_empty cX2_empty 2 (some .int), Cond.methodLink RL 24 yX8_blank, Cond.instanceMethod yX8_blank, Cond.selects RX8 yX8_blank yX8_blank, Cond.code yX8_blank cX8_blank 2 (some .int), Cond.methodLink RL 25 yX7_fault, Cond.instanceMethod yX7_fault, Cond.selects RX7 yX7_fault yX7_fault, Cond.code yX7_fault cX7_fault 1 (some .int), Cond.instanceMethod yX3_read, Cond.selects RX3 yX3_read yX3_read, Cond.code yX3_read cX3_read 4 (some .int), Cond.fieldLink RX3 16 "NamedWind$Reader" "next" "I", Cond.fieldLink RX3 20 "NamedWind$Reader" "wind" "I", Cond.methodLink RX3 32 yX3_takes, Cond.instanceMethod yX3_takes, Cond.selects RX3 yX3_takes yX3_takes, Cond.code yX3_takes cX3_takes 3 (some .boolean)]
def wsL_law_r8 : List Cond := [Cond.methodLink RX3 36 yX3_takesMark, Cond.instanceMethod yX3_takesMark, Cond.selects RX3 yX3_takesMark yX3_takesMark, Cond.code yX3_takesMark cX3_takesMark 4 (some .boolean), Cond.methodLink RX3 40 yX3_takesName, Cond.instanceMethod yX3_takesName, Cond.selects RX3 yX3_takesName yX3_takesName, Cond.code yX3_takesName cX3_takesName 5 (some .boolean), Cond.static yX7_isName, Cond.code yX7_isName cX7_isName 1 (some .boolean), Cond.methodLink RX3 44 yX3_takesNextWind, Cond.instanceMethod yX3_takesNextWind, Cond.selects RX3 yX3_takesNextWind yX3_takesNextWind, Cond.code yX3_takesNextWind cX3_takesNextWind 2 (some .boolean), Cond.methodLink RX3 48 yX3_takesTenths, Cond.instanceMethod yX3_takesTenths, Cond.selects RX3 yX3_takesTenths yX3_takesTenths, Cond.code yX3_takesTenths cX3_takesTenths 5 (some .boolean), Cond.static yX7_isSign, Cond.code yX7_isSign cX7_isSign 1 (some .boolean), Cond.methodLink RL 28 yX8_fault, Cond.instanceMethod yX8_fault, Cond.selects RX8 yX8_fault yX8_fault, Cond.code yX8_fault cX8_fault 1 (some .int)]
def wsL_law_r9 : List Cond := [Cond.fieldLink RX8 110 "NamedWindModel" "faultAt" "I", Cond.methodLink RX8 117 yX8_readBook, Cond.instanceMethod yX8_readBook, Cond.selects RX8 yX8_readBook yX8_readBook, Cond.code yX8_readBook cX8_readBook 5 none, Cond.fieldLink RX8 92 "NamedWindModel" "newWind" "I", Cond.fieldLink RX8 95 "NamedWindModel" "newNames" "I", Cond.fieldLink RX8 113 "NamedWindModel" "isWhole" "Z", Cond.methodLink RX8 106 yX8_nextState, Cond.instanceMethod yX8_nextState, Cond.selects RX8 yX8_nextState yX8_nextState, Cond.code yX8_nextState cX8_nextState 3 (some .int), Cond.methodLink RX8 98 yX8_takesName, Cond.instanceMethod yX8_takesName, Cond.selects RX8 yX8_takesName yX8_takesName, Cond.code yX8_takesName cX8_takesName 3 (some .boolean), Cond.methodLink RX8 88 yX8_within, Cond.static yX8_within, Cond.code yX8_within cX8_within 3 (some .boolean), Cond.methodLink RX8 102 yX8_takesTenths, Cond.instanceMethod yX8_takesTenths, Cond.selects RX8 yX8_takesTenths yX8_takesTenths, Cond.code yX8_takesTenths cX8_takesTenths 5 (some .boolean), Cond.methodLink RL 29 yX7_book]
def wsL_law_r10 : List Cond := [Cond.instanceMethod yX7_book, Cond.selects RX7 yX7_book yX7_book, Cond.code yX7_book cX7_book 2 (some .int), Cond.fieldLink RX7 80 "NamedWind" "booksRead" "I", Cond.fieldLink RX7 89 "NamedWind" "imageKept" "Z", Cond.instanceMethod yX3_atEnd, Cond.selects RX3 yX3_atEnd yX3_atEnd, Cond.code yX3_atEnd cX3_atEnd 1 (some .boolean), Cond.instanceMethod yX6_end, Cond.selects RX6 yX6_end yX6_end, Cond.code yX6_end cX6_end 1 none, Cond.fieldLink RX6 15 "NamedWind$Wake" "begun" "Z", Cond.fieldLink RX6 23 "NamedWind$Wake" "days" "I", Cond.instanceMethod yX0_nameCount, Cond.selects RX0 yX0_nameCount yX0_nameCount, Cond.code yX0_nameCount cX0_nameCount 3 (some .int), Cond.methodLink RL 32 yX8_book, Cond.instanceMethod yX8_book, Cond.selects RX8 yX8_book yX8_book, Cond.code yX8_book cX8_book 2 (some .int), Cond.fieldLink RX8 120 "NamedWindModel" "names" "I", Cond.fieldLink RX8 123 "NamedWindModel" "isBook" "Z", Cond.fieldLink RX8 126 "NamedWindModel" "books" "I", Cond.fieldLink RX8 129 "NamedWindModel" "ships" "I"]
def wsL_law_r11 : List Cond := [Cond.fieldLink RX8 132 "NamedWindModel" "spentSet" "I", Cond.fieldLink RX8 135 "NamedWindModel" "days" "I", Cond.fieldLink RX8 138 "NamedWindModel" "answers" "I", Cond.fieldLink RX8 141 "NamedWindModel" "wakeDays" "I", Cond.methodLink RL 33 yX7_tenths, Cond.instanceMethod yX7_tenths, Cond.selects RX7 yX7_tenths yX7_tenths, Cond.code yX7_tenths cX7_tenths 3 (some .int), Cond.methodLink RX7 96 yX7_isWindOrCalm, Cond.static yX7_isWindOrCalm, Cond.code yX7_isWindOrCalm cX7_isWindOrCalm 1 (some .boolean), Cond.methodLink RX7 100 yX7_isSign, Cond.methodLink RX7 103 yX7_hasBook, Cond.instanceMethod yX7_hasBook, Cond.selects RX7 yX7_hasBook yX7_hasBook, Cond.code yX7_hasBook cX7_hasBook 1 (some .boolean), Cond.methodLink RL 37 yX8_tenths, Cond.instanceMethod yX8_tenths, Cond.selects RX8 yX8_tenths yX8_tenths, Cond.code yX8_tenths cX8_tenths 3 (some .int), Cond.methodLink RL 38 yX7_windOf, Cond.instanceMethod yX7_windOf, Cond.selects RX7 yX7_windOf yX7_windOf, Cond.code yX7_windOf cX7_windOf 2 (some .int)]
def wsL_law_r12 : List Cond := [Cond.methodLink RX7 110 yX7_isName, Cond.methodLink RL 42 yX8_windOf, Cond.instanceMethod yX8_windOf, Cond.selects RX8 yX8_windOf yX8_windOf, Cond.code yX8_windOf cX8_windOf 2 (some .int), Cond.methodLink RX8 144 yX8_isName, Cond.static yX8_isName, Cond.code yX8_isName cX8_isName 1 (some .boolean), Cond.methodLink RL 43 yX7_ship, Cond.instanceMethod yX7_ship, Cond.selects RX7 yX7_ship yX7_ship, Cond.code yX7_ship cX7_ship 3 (some .int), Cond.methodLink RX7 117 yX7_isPlace, Cond.static yX7_isPlace, Cond.code yX7_isPlace cX7_isPlace 1 (some .boolean), Cond.methodLink RX7 120 yX7_isKind, Cond.static yX7_isKind, Cond.code yX7_isKind cX7_isKind 1 (some .boolean), Cond.instanceMethod yX4_add, Cond.selects RX4 yX4_add yX4_add, Cond.code yX4_add cX4_add 3 (some .int), Cond.instanceMethod yX5_begin, Cond.selects RX5 yX5_begin yX5_begin, Cond.code yX5_begin cX5_begin 3 none]
def wsL_law_r13 : List Cond := [Cond.fieldLink RX5 15 "NamedWind$Ship" "kind" "I", Cond.fieldLink RX5 18 "NamedWind$Ship" "place" "I", Cond.fieldLink RX5 21 "NamedWind$Ship" "served" "I", Cond.fieldLink RX5 24 "NamedWind$Ship" "turned" "I", Cond.methodLink RL 46 yX8_ship, Cond.instanceMethod yX8_ship, Cond.selects RX8 yX8_ship yX8_ship, Cond.code yX8_ship cX8_ship 3 (some .int), Cond.methodLink RX8 147 yX8_isPlace, Cond.static yX8_isPlace, Cond.code yX8_isPlace cX8_isPlace 1 (some .boolean), Cond.methodLink RL 47 yX7_about, Cond.instanceMethod yX7_about, Cond.selects RX7 yX7_about yX7_about, Cond.code yX7_about cX7_about 3 (some .int), Cond.methodLink RX7 126 yX7_isShip, Cond.instanceMethod yX7_isShip, Cond.selects RX7 yX7_isShip yX7_isShip, Cond.code yX7_isShip cX7_isShip 2 (some .boolean), Cond.instanceMethod yX5_tell, Cond.selects RX5 yX5_tell yX5_tell, Cond.code yX5_tell cX5_tell 2 (some .int), Cond.methodLink RL 50 yX8_about, Cond.instanceMethod yX8_about]
def wsL_law_r14 : List Cond := [Cond.selects RX8 yX8_about yX8_about, Cond.code yX8_about cX8_about 3 (some .int), Cond.methodLink RX8 150 yX8_isShip, Cond.instanceMethod yX8_isShip, Cond.selects RX8 yX8_isShip yX8_isShip, Cond.code yX8_isShip cX8_isShip 2 (some .boolean), Cond.methodLink RX8 153 yX8_shipNow, Cond.instanceMethod yX8_shipNow, Cond.selects RX8 yX8_shipNow yX8_shipNow, Cond.code yX8_shipNow cX8_shipNow 3 (some .int), Cond.methodLink RL 51 yX7_as, Cond.instanceMethod yX7_as, Cond.selects RX7 yX7_as yX7_as, Cond.code yX7_as cX7_as 3 (some .int), Cond.instanceMethod yX5_isA, Cond.selects RX5 yX5_isA yX5_isA, Cond.code yX5_isA cX5_isA 2 (some .boolean), Cond.methodLink RL 54 yX8_as, Cond.instanceMethod yX8_as, Cond.selects RX8 yX8_as yX8_as, Cond.code yX8_as cX8_as 4 (some .int), Cond.methodLink RL 55 yX7_call, Cond.instanceMethod yX7_call, Cond.selects RX7 yX7_call yX7_call]
def wsL_law_r15 : List Cond := [Cond.code yX7_call cX7_call 3 (some .int), Cond.instanceMethod yX4_isSpent, Cond.selects RX4 yX4_isSpent yX4_isSpent, Cond.code yX4_isSpent cX4_isSpent 2 (some .boolean), Cond.instanceMethod yX4_replaceCall, Cond.selects RX4 yX4_replaceCall yX4_replaceCall, Cond.code yX4_replaceCall cX4_replaceCall 4 (some .int), Cond.methodLink RX4 70 yX4_isSpentToday, Cond.instanceMethod yX4_isSpentToday, Cond.selects RX4 yX4_isSpentToday yX4_isSpentToday, Cond.code yX4_isSpentToday cX4_isSpentToday 3 (some .boolean), Cond.instanceMethod yX5_spends, Cond.selects RX5 yX5_spends yX5_spends, Cond.code yX5_spends cX5_spends 2 (some .boolean), Cond.methodLink RX4 74 yX4_beginCall, Cond.instanceMethod yX4_beginCall, Cond.selects RX4 yX4_beginCall yX4_beginCall, Cond.code yX4_beginCall cX4_beginCall 3 none, Cond.methodLink RL 58 yX8_call, Cond.instanceMethod yX8_call, Cond.selects RX8 yX8_call yX8_call, Cond.code yX8_call cX8_call 5 (some .int), Cond.methodLink RX8 156 yX8_has, Cond.static yX8_has]
def wsL_law_r16 : List Cond := [Cond.code yX8_has cX8_has 2 (some .boolean), Cond.methodLink RX8 159 yX8_isCalledToo, Cond.instanceMethod yX8_isCalledToo, Cond.selects RX8 yX8_isCalledToo yX8_isCalledToo, Cond.code yX8_isCalledToo cX8_isCalledToo 5 (some .boolean), Cond.methodLink RL 59 yX7_spent, Cond.instanceMethod yX7_spent, Cond.selects RX7 yX7_spent yX7_spent, Cond.code yX7_spent cX7_spent 2 (some .int), Cond.methodLink RL 62 yX8_spent, Cond.instanceMethod yX8_spent, Cond.selects RX8 yX8_spent yX8_spent, Cond.code yX8_spent cX8_spent 2 (some .int), Cond.methodLink RL 63 yX7_blow, Cond.instanceMethod yX7_blow, Cond.selects RX7 yX7_blow yX7_blow, Cond.code yX7_blow cX7_blow 2 (some .int), Cond.instanceMethod yX4_passDay, Cond.selects RX4 yX4_passDay yX4_passDay, Cond.code yX4_passDay cX4_passDay 5 none, Cond.methodLink RX4 80 yX4_answer, Cond.instanceMethod yX4_answer, Cond.selects RX4 yX4_answer yX4_answer, Cond.code yX4_answer cX4_answer 5 none]
def wsL_law_r17 : List Cond := [Cond.instanceMethod yX0_favours, Cond.selects RX0 yX0_favours yX0_favours, Cond.code yX0_favours cX0_favours 3 (some .boolean), Cond.static yX7_placeAfter, Cond.code yX7_placeAfter cX7_placeAfter 5 (some .int), Cond.methodLink RX7 298 yX7_placeAhead, Cond.static yX7_placeAhead, Cond.code yX7_placeAhead cX7_placeAhead 4 (some .int), Cond.fieldLink RX7 280 "NamedWind" "SERVED_BY" "[I", Cond.methodLink RX7 283 Lib.Math.min.name, Cond.static Lib.Math.min.name, Cond.initialized "java/lang/Math", Cond.code Lib.Math.min.name Lib.Math.min.code 2 (some .int), Cond.methodLink RX7 301 yX7_placeBehind, Cond.static yX7_placeBehind, Cond.code yX7_placeBehind cX7_placeBehind 4 (some .int), Cond.fieldLink RX7 288 "NamedWind" "TURNED_BY" "[I", Cond.methodLink RX7 291 Lib.Math.max.name, Cond.static Lib.Math.max.name, Cond.code Lib.Math.max.name Lib.Math.max.code 2 (some .int), Cond.instanceMethod yX4_homeCount, Cond.selects RX4 yX4_homeCount yX4_homeCount, Cond.code yX4_homeCount cX4_homeCount 3 (some .int), Cond.methodLink RL 66 yX8_blow]
def wsL_law_r18 : List Cond := [Cond.instanceMethod yX8_blow, Cond.selects RX8 yX8_blow yX8_blow, Cond.code yX8_blow cX8_blow 3 (some .int), Cond.methodLink RX8 162 yX8_answer, Cond.instanceMethod yX8_answer, Cond.selects RX8 yX8_answer yX8_answer, Cond.code yX8_answer cX8_answer 5 none, Cond.methodLink RX8 166 yX8_behind, Cond.instanceMethod yX8_behind, Cond.selects RX8 yX8_behind yX8_behind, Cond.code yX8_behind cX8_behind 7 (some .int), Cond.methodLink RX8 170 yX8_homeMany, Cond.instanceMethod yX8_homeMany, Cond.selects RX8 yX8_homeMany yX8_homeMany, Cond.code yX8_homeMany cX8_homeMany 3 (some .int), Cond.methodLink RL 67 yX7_moon, Cond.instanceMethod yX7_moon, Cond.selects RX7 yX7_moon yX7_moon, Cond.code yX7_moon cX7_moon 2 (some .int), Cond.instanceMethod yX4_spentCount, Cond.selects RX4 yX4_spentCount yX4_spentCount, Cond.code yX4_spentCount cX4_spentCount 1 (some .int), Cond.methodLink RX4 58 yJ6_bitCount_0f7a4, Cond.static yJ6_bitCount_0f7a4]
def wsL_law_r19 : List Cond := [Cond.initialized RJ6, Cond.code yJ6_bitCount_0f7a4 cJ6_bitCount_0f7a4 1 (some .int), Cond.constant RJ6 265 (1431655765), Cond.constant RJ6 266 (858993459), Cond.constant RJ6 267 (252645135), Cond.methodLink RL 70 yX8_moon, Cond.instanceMethod yX8_moon, Cond.selects RX8 yX8_moon yX8_moon, Cond.code yX8_moon cX8_moon 2 (some .int), Cond.methodLink RX8 174 yX8_size, Cond.static yX8_size, Cond.code yX8_size cX8_size 3 (some .int), Cond.methodLink RL 71 yX7_likely, Cond.instanceMethod yX7_likely, Cond.selects RX7 yX7_likely yX7_likely, Cond.code yX7_likely cX7_likely 5 (some .long), Cond.constantLong RX7 164 (-101), Cond.constantLong RX7 169 (-102), Cond.fieldLink RX7 185 "NamedWind" "SURE_OF" "[I", Cond.methodLink RX7 166 yX7_isPart, Cond.static yX7_isPart, Cond.code yX7_isPart cX7_isPart 1 (some .boolean), Cond.instanceMethod yX1_begin, Cond.selects RX1 yX1_begin yX1_begin]
def wsL_law_r20 : List Cond := [Cond.code yX1_begin cX1_begin 6 none, Cond.fieldLink RX1 23 "NamedWind$Forecast" "kind" "I", Cond.methodLink RX1 27 yJ7_fill_53178, Cond.instanceMethod yX0_favour, Cond.selects RX0 yX0_favour yX0_favour, Cond.code yX0_favour cX0_favour 5 (some .int), Cond.methodLink RX0 29 yX0_favours, Cond.instanceMethod yX4_freeNames, Cond.selects RX4 yX4_freeNames yX4_freeNames, Cond.code yX4_freeNames cX4_freeNames 1 (some .int), Cond.instanceMethod yX1_chances, Cond.selects RX1 yX1_chances yX1_chances, Cond.code yX1_chances cX1_chances 7 (some .int), Cond.methodLink RX1 45 yX1_bestCall, Cond.instanceMethod yX1_bestCall, Cond.selects RX1 yX1_bestCall yX1_bestCall, Cond.methodLink RX1 49 yX1_worth, Cond.instanceMethod yX1_worth, Cond.selects RX1 yX1_worth yX1_worth, Cond.code yX1_bestCall cX1_bestCall 9 (some .int), Cond.code yX1_worth cX1_worth 11 (some .int), Cond.methodLink RX1 57 yX1_chances, Cond.methodLink RX7 188 yX7_inLowestTerms, Cond.static yX7_inLowestTerms]
def wsL_law_r21 : List Cond := [Cond.code yX7_inLowestTerms cX7_inLowestTerms 5 (some .long), Cond.methodLink RX7 311 yX7_greatestShared, Cond.static yX7_greatestShared, Cond.code yX7_greatestShared cX7_greatestShared 6 (some .int), Cond.methodLink RL 75 yX8_likely, Cond.instanceMethod yX8_likely, Cond.selects RX8 yX8_likely yX8_likely, Cond.code yX8_likely cX8_likely 4 (some .long), Cond.constantLong RX8 212 (-101), Cond.constantLong RX8 218 (-102), Cond.methodLink RX8 214 yX8_likelyNow, Cond.instanceMethod yX8_likelyNow, Cond.selects RX8 yX8_likelyNow yX8_likelyNow, Cond.code yX8_likelyNow cX8_likelyNow 4 (some .long), Cond.methodLink RX8 201 yX8_layChances, Cond.instanceMethod yX8_layChances, Cond.selects RX8 yX8_layChances yX8_layChances, Cond.code yX8_layChances cX8_layChances 8 none, Cond.constantLong RX8 195 (30), Cond.methodLink RX8 182 yX8_at, Cond.static yX8_at, Cond.code yX8_at cX8_at 3 (some .int), Cond.methodLink RX8 191 yX8_overSigns, Cond.instanceMethod yX8_overSigns]
def wsL_law_r22 : List Cond := [Cond.selects RX8 yX8_overSigns yX8_overSigns, Cond.code yX8_overSigns cX8_overSigns 8 (some .long), Cond.methodLink RX8 197 yX8_bestCall, Cond.instanceMethod yX8_bestCall, Cond.selects RX8 yX8_bestCall yX8_bestCall, Cond.code yX8_bestCall cX8_bestCall 12 (some .int), Cond.constantLong RX8 189 (-1), Cond.methodLink RX8 185 yX8_chanceBy, Cond.instanceMethod yX8_chanceBy, Cond.selects RX8 yX8_chanceBy yX8_chanceBy, Cond.code yX8_chanceBy cX8_chanceBy 10 (some .long), Cond.methodLink RX8 178 yX8_spentBy, Cond.static yX8_spentBy, Cond.code yX8_spentBy cX8_spentBy 3 (some .int), Cond.methodLink RX8 204 yX8_power, Cond.static yX8_power, Cond.code yX8_power cX8_power 4 (some .long), Cond.methodLink RX8 208 yX8_lowest, Cond.static yX8_lowest, Cond.code yX8_lowest cX8_lowest 11 (some .long), Cond.methodLink RL 76 yX7_what, Cond.instanceMethod yX7_what, Cond.selects RX7 yX7_what yX7_what, Cond.code yX7_what cX7_what 5 (some .int)]
def wsL_law_r23 : List Cond := [Cond.methodLink RL 80 yX8_what, Cond.instanceMethod yX8_what, Cond.selects RX8 yX8_what yX8_what, Cond.code yX8_what cX8_what 4 (some .int), Cond.methodLink RL 81 yX7_sure, Cond.instanceMethod yX7_sure, Cond.selects RX7 yX7_sure yX7_sure, Cond.code yX7_sure cX7_sure 4 (some .int), Cond.methodLink RL 84 yX8_sure, Cond.instanceMethod yX8_sure, Cond.selects RX8 yX8_sure yX8_sure, Cond.code yX8_sure cX8_sure 2 (some .int), Cond.methodLink RX8 228 yX8_sureNow, Cond.instanceMethod yX8_sureNow, Cond.selects RX8 yX8_sureNow yX8_sureNow, Cond.code yX8_sureNow cX8_sureNow 5 (some .int), Cond.methodLink RX8 224 yX8_isSure, Cond.instanceMethod yX8_isSure, Cond.selects RX8 yX8_isSure yX8_isSure, Cond.code yX8_isSure cX8_isSure 9 (some .boolean), Cond.methodLink RX8 220 yX8_sureBy, Cond.instanceMethod yX8_sureBy, Cond.selects RX8 yX8_sureBy yX8_sureBy, Cond.code yX8_sureBy cX8_sureBy 9 (some .boolean)]
def wsL_law_r24 : List Cond := [Cond.methodLink RL 85 yX7_tells, Cond.instanceMethod yX7_tells, Cond.selects RX7 yX7_tells yX7_tells, Cond.code yX7_tells cX7_tells 1 (some .int), Cond.instanceMethod yX0_tellingSign, Cond.selects RX0 yX0_tellingSign yX0_tellingSign, Cond.code yX0_tellingSign cX0_tellingSign 3 (some .int), Cond.methodLink RX0 33 yX0_strongest, Cond.instanceMethod yX0_strongest, Cond.selects RX0 yX0_strongest yX0_strongest, Cond.code yX0_strongest cX0_strongest 4 (some .int), Cond.methodLink RX0 37 Lib.Math.max.name, Cond.methodLink RL 88 yX8_tells, Cond.instanceMethod yX8_tells, Cond.selects RX8 yX8_tells yX8_tells, Cond.code yX8_tells cX8_tells 1 (some .int), Cond.methodLink RX8 231 yX8_tellsNow, Cond.instanceMethod yX8_tellsNow, Cond.selects RX8 yX8_tellsNow yX8_tellsNow, Cond.code yX8_tellsNow cX8_tellsNow 5 (some .int), Cond.methodLink RL 89 yX7_race, Cond.instanceMethod yX7_race, Cond.selects RX7 yX7_race yX7_race, Cond.code yX7_race cX7_race 6 (some .long)]
def wsL_law_r25 : List Cond := [Cond.methodLink RX7 199 yX7_raceChances, Cond.static yX7_raceChances, Cond.code yX7_raceChances cX7_raceChances 9 (some .int), Cond.instanceMethod yX0_strengthInAll, Cond.selects RX0 yX0_strengthInAll yX0_strengthInAll, Cond.code yX0_strengthInAll cX0_strengthInAll 4 (some .int), Cond.methodLink RX7 307 yX7_placeAfter, Cond.methodLink RL 93 yX8_race, Cond.instanceMethod yX8_race, Cond.selects RX8 yX8_race yX8_race, Cond.code yX8_race cX8_race 5 (some .long), Cond.methodLink RX8 234 yX8_raceNow, Cond.instanceMethod yX8_raceNow, Cond.selects RX8 yX8_raceNow yX8_raceNow, Cond.code yX8_raceNow cX8_raceNow 10 (some .long), Cond.methodLink RL 94 yX7_guess, Cond.instanceMethod yX7_guess, Cond.selects RX7 yX7_guess yX7_guess, Cond.code yX7_guess cX7_guess 2 (some .int), Cond.methodLink RL 97 yX8_guess, Cond.instanceMethod yX8_guess, Cond.selects RX8 yX8_guess yX8_guess, Cond.code yX8_guess cX8_guess 2 (some .int), Cond.methodLink RX8 237 yX8_guessNow]
def wsL_law_r26 : List Cond := [Cond.instanceMethod yX8_guessNow, Cond.selects RX8 yX8_guessNow yX8_guessNow, Cond.code yX8_guessNow cX8_guessNow 5 (some .int), Cond.methodLink RL 98 yX7_wake, Cond.instanceMethod yX7_wake, Cond.selects RX7 yX7_wake yX7_wake, Cond.code yX7_wake cX7_wake 4 (some .int), Cond.instanceMethod yX6_begin, Cond.selects RX6 yX6_begin yX6_begin, Cond.code yX6_begin cX6_begin 3 none, Cond.fieldLink RX6 19 "NamedWind$Wake" "kind" "I", Cond.methodLink RL 101 yX8_wake, Cond.instanceMethod yX8_wake, Cond.selects RX8 yX8_wake yX8_wake, Cond.code yX8_wake cX8_wake 4 (some .int), Cond.methodLink RL 102 yX7_then, Cond.instanceMethod yX7_then, Cond.selects RX7 yX7_then yX7_then, Cond.code yX7_then cX7_then 2 (some .int), Cond.instanceMethod yX6_add, Cond.selects RX6 yX6_add yX6_add, Cond.code yX6_add cX6_add 2 (some .int), Cond.methodLink RL 105 yX8_then, Cond.instanceMethod yX8_then]
def wsL_law_r27 : List Cond := [Cond.selects RX8 yX8_then yX8_then, Cond.code yX8_then cX8_then 2 (some .int), Cond.methodLink RL 106 yX7_called, Cond.instanceMethod yX7_called, Cond.selects RX7 yX7_called yX7_called, Cond.code yX7_called cX7_called 1 (some .int), Cond.instanceMethod yX6_ways, Cond.selects RX6 yX6_ways yX6_ways, Cond.code yX6_ways cX6_ways 6 (some .int), Cond.methodLink RX6 26 yX6_waysBy, Cond.instanceMethod yX6_waysBy, Cond.selects RX6 yX6_waysBy yX6_waysBy, Cond.code yX6_waysBy cX6_waysBy 7 (some .int), Cond.methodLink RL 109 yX8_called, Cond.instanceMethod yX8_called, Cond.selects RX8 yX8_called yX8_called, Cond.code yX8_called cX8_called 1 (some .int), Cond.methodLink RX8 246 yX8_calledNow, Cond.instanceMethod yX8_calledNow, Cond.selects RX8 yX8_calledNow yX8_calledNow, Cond.code yX8_calledNow cX8_calledNow 5 (some .int), Cond.methodLink RX8 243 yX8_waysBy, Cond.instanceMethod yX8_waysBy, Cond.selects RX8 yX8_waysBy yX8_waysBy]
def wsL_law_r28 : List Cond := [Cond.code yX8_waysBy cX8_waysBy 6 (some .int), Cond.methodLink RX8 240 yX8_canBlow, Cond.instanceMethod yX8_canBlow, Cond.selects RX8 yX8_canBlow yX8_canBlow, Cond.code yX8_canBlow cX8_canBlow 2 (some .boolean), Cond.methodLink RL 110 yX7_by, Cond.instanceMethod yX7_by, Cond.selects RX7 yX7_by yX7_by, Cond.code yX7_by cX7_by 2 (some .int), Cond.instanceMethod yX6_callOn, Cond.selects RX6 yX6_callOn yX6_callOn, Cond.code yX6_callOn cX6_callOn 6 (some .int), Cond.methodLink RX6 40 yX6_ways, Cond.methodLink RL 113 yX8_by, Cond.instanceMethod yX8_by, Cond.selects RX8 yX8_by yX8_by, Cond.code yX8_by cX8_by 5 (some .int), Cond.methodLink RL 114 yX7_years, Cond.instanceMethod yX7_years, Cond.selects RX7 yX7_years yX7_years, Cond.code yX7_years cX7_years 5 (some .int), Cond.instanceMethod yX4_copyFrom, Cond.selects RX4 yX4_copyFrom yX4_copyFrom, Cond.code yX4_copyFrom cX4_copyFrom 3 none]
def wsL_law_r29 : List Cond := [Cond.methodLink RX4 48 arraycopyName, Cond.native arraycopyName, Cond.static arraycopyName, Cond.initialized "java/lang/System", Cond.instanceMethod yX5_copyFrom, Cond.selects RX5 yX5_copyFrom yX5_copyFrom, Cond.code yX5_copyFrom cX5_copyFrom 2 none, Cond.instanceMethod yX4_passYears, Cond.selects RX4 yX4_passYears yX4_passYears, Cond.code yX4_passYears cX4_passYears 9 (some .int), Cond.methodLink RX4 103 yX4_nextSeed, Cond.static yX4_nextSeed, Cond.code yX4_nextSeed cX4_nextSeed 1 (some .int), Cond.constantLong RX4 125 (1103515245), Cond.constantLong RX4 127 (12345), Cond.constantLong RX4 129 (2147483647), Cond.methodLink RX4 106 yX4_drawOf, Cond.static yX4_drawOf, Cond.code yX4_drawOf cX4_drawOf 2 (some .int), Cond.methodLink RX4 110 yX4_isSpent, Cond.methodLink RX4 113 yX4_windDrawn, Cond.static yX4_windDrawn, Cond.code yX4_windDrawn cX4_windDrawn 5 (some .int), Cond.methodLink RX4 117 yX4_passDay]
def wsL_law_r30 : List Cond := [Cond.instanceMethod yX4_placesTogether, Cond.selects RX4 yX4_placesTogether yX4_placesTogether, Cond.code yX4_placesTogether cX4_placesTogether 3 (some .int), Cond.methodLink RL 117 yX8_years, Cond.instanceMethod yX8_years, Cond.selects RX8 yX8_years yX8_years, Cond.code yX8_years cX8_years 4 (some .int), Cond.methodLink RX8 270 yX8_yearsNow, Cond.instanceMethod yX8_yearsNow, Cond.selects RX8 yX8_yearsNow yX8_yearsNow, Cond.code yX8_yearsNow cX8_yearsNow 8 (some .int), Cond.fieldLink RX8 251 "NamedWindModel" "seedNow" "J", Cond.methodLink RX8 267 yX8_goYearDay, Cond.instanceMethod yX8_goYearDay, Cond.selects RX8 yX8_goYearDay yX8_goYearDay, Cond.code yX8_goYearDay cX8_goYearDay 4 none, Cond.methodLink RX8 261 yX8_draw, Cond.instanceMethod yX8_draw, Cond.selects RX8 yX8_draw yX8_draw, Cond.code yX8_draw cX8_draw 2 (some .int), Cond.constantLong RX8 249 (1103515245), Cond.constantLong RX8 255 (12345), Cond.constantLong RX8 257 (2147483647), Cond.constantLong RX8 259 (65536)]
def wsL_law_r31 : List Cond := [Cond.methodLink RX8 264 yX8_drawnWind, Cond.instanceMethod yX8_drawnWind, Cond.selects RX8 yX8_drawnWind yX8_drawnWind, Cond.code yX8_drawnWind cX8_drawnWind 4 (some .int), Cond.methodLink RL 118 yX7_image, Cond.instanceMethod yX7_image, Cond.selects RX7 yX7_image yX7_image, Cond.code yX7_image cX7_image 1 (some .int), Cond.methodLink RL 121 yX8_image, Cond.instanceMethod yX8_image, Cond.selects RX8 yX8_image yX8_image, Cond.code yX8_image cX8_image 2 (some .int), Cond.fieldLink RX8 273 "NamedWindModel" "isKept" "Z", Cond.fieldLink RX8 276 "NamedWindModel" "keptBook" "I", Cond.fieldLink RX8 279 "NamedWindModel" "keptShips" "I", Cond.fieldLink RX8 282 "NamedWindModel" "keptSpent" "I", Cond.fieldLink RX8 285 "NamedWindModel" "keptDays" "I", Cond.fieldLink RX8 288 "NamedWindModel" "keptAnswers" "I", Cond.methodLink RL 122 yX7_restore, Cond.instanceMethod yX7_restore, Cond.selects RX7 yX7_restore yX7_restore, Cond.code yX7_restore cX7_restore 1 (some .int), Cond.methodLink RL 125 yX8_restore, Cond.instanceMethod yX8_restore]
def wsL_law_r32 : List Cond := [Cond.selects RX8 yX8_restore yX8_restore, Cond.code yX8_restore cX8_restore 2 (some .int), Cond.methodLink RL 126 yX7_count, Cond.instanceMethod yX7_count, Cond.selects RX7 yX7_count yX7_count, Cond.code yX7_count cX7_count 2 (some .int), Cond.methodLink RL 129 yX8_count, Cond.instanceMethod yX8_count, Cond.selects RX8 yX8_count yX8_count, Cond.code yX8_count cX8_count 2 (some .int), Cond.methodLink RX8 291 yX8_howMany, Cond.instanceMethod yX8_howMany, Cond.selects RX8 yX8_howMany yX8_howMany, Cond.code yX8_howMany cX8_howMany 2 (some .int), Cond.methodLink RL 130 yX7_digest, Cond.instanceMethod yX7_digest, Cond.selects RX7 yX7_digest yX7_digest, Cond.code yX7_digest cX7_digest 4 (some .long), Cond.constantLong RX7 243 (661), Cond.methodLink RX7 245 yX7_mixBook, Cond.instanceMethod yX7_mixBook, Cond.selects RX7 yX7_mixBook yX7_mixBook, Cond.code yX7_mixBook cX7_mixBook 7 (some .long), Cond.methodLink RX7 252 yX7_mix]
def wsL_law_r33 : List Cond := [Cond.static yX7_mix, Cond.code yX7_mix cX7_mix 4 (some .long), Cond.constantLong RX7 278 (31), Cond.methodLink RX7 249 yX7_spent, Cond.methodLink RX7 256 yX7_guess, Cond.methodLink RX7 259 yX7_mixShip, Cond.instanceMethod yX7_mixShip, Cond.selects RX7 yX7_mixShip yX7_mixShip, Cond.code yX7_mixShip cX7_mixShip 7 (some .long), Cond.methodLink RX7 272 yX7_about, Cond.methodLink RX7 275 yX7_likely, Cond.methodLink RX7 263 yX7_called, Cond.methodLink RX7 269 yX7_count, Cond.methodLink RL 134 yX8_digest, Cond.instanceMethod yX8_digest, Cond.selects RX8 yX8_digest yX8_digest, Cond.code yX8_digest cX8_digest 3 (some .long), Cond.constantLong RX8 299 (661), Cond.fieldLink RX8 296 "NamedWindModel" "h" "J", Cond.methodLink RX8 301 yX8_mix, Cond.instanceMethod yX8_mix, Cond.selects RX8 yX8_mix yX8_mix, Cond.code yX8_mix cX8_mix 3 none, Cond.constantLong RX8 294 (31)]
def wsL_law : List Cond := (wsL_law_r1 ++ (wsL_law_r2 ++ (wsL_law_r3 ++ (wsL_law_r4 ++ (wsL_law_r5 ++ (wsL_law_r6 ++ (wsL_law_r7 ++ (wsL_law_r8 ++ (wsL_law_r9 ++ (wsL_law_r10 ++ (wsL_law_r11 ++ (wsL_law_r12 ++ (wsL_law_r13 ++ (wsL_law_r14 ++ (wsL_law_r15 ++ (wsL_law_r16 ++ (wsL_law_r17 ++ (wsL_law_r18 ++ (wsL_law_r19 ++ (wsL_law_r20 ++ (wsL_law_r21 ++ (wsL_law_r22 ++ (wsL_law_r23 ++ (wsL_law_r24 ++ (wsL_law_r25 ++ (wsL_law_r26 ++ (wsL_law_r27 ++ (wsL_law_r28 ++ (wsL_law_r29 ++ (wsL_law_r30 ++ (wsL_law_r31 ++ (wsL_law_r32 ++ wsL_law_r33)))))))))))))))))))))))))))))))) ++ wsX70 ++ wsX80 ++ wsX20 ++ wsX30 ++ wsX40 ++ wsX60 ++ wsX10 ++ wsX00 ++ wsX50 ++ ([] : List Cond)
theorem inlX0 : ∀ w ∈ wsX00, w ∈ wsL_law := fun _ h => List.mem_append_left _ (List.mem_append_left _ (List.mem_append_right _ h))
theorem inlX1 : ∀ w ∈ wsX10, w ∈ wsL_law := fun _ h => List.mem_append_left _ (List.mem_append_left _ (List.mem_append_left _ (List.mem_append_right _ h)))
theorem inlX2 : ∀ w ∈ wsX20, w ∈ wsL_law := fun _ h => List.mem_append_left _ (List.mem_append_left _ (List.mem_append_left _ (List.mem_append_left _ (List.mem_append_left _ (List.mem_append_left _ (List.mem_append_left _ (List.mem_append_right _ h)))))))
theorem inlX3 : ∀ w ∈ wsX30, w ∈ wsL_law := fun _ h => List.mem_append_left _ (List.mem_append_left _ (List.mem_append_left _ (List.mem_append_left _ (List.mem_append_left _ (List.mem_append_left _ (List.mem_append_right _ h))))))
theorem inlX4 : ∀ w ∈ wsX40, w ∈ wsL_law := fun _ h => List.mem_append_left _ (List.mem_append_left _ (List.mem_append_left _ (List.mem_append_left _ (List.mem_append_left _ (List.mem_append_right _ h)))))
theorem inlX5 : ∀ w ∈ wsX50, w ∈ wsL_law := fun _ h => List.mem_append_left _ (List.mem_append_right _ h)
theorem inlX6 : ∀ w ∈ wsX60, w ∈ wsL_law := fun _ h => List.mem_append_left _ (List.mem_append_left _ (List.mem_append_left _ (List.mem_append_left _ (List.mem_append_right _ h))))
theorem inlX7 : ∀ w ∈ wsX70, w ∈ wsL_law := fun _ h => List.mem_append_left _ (List.mem_append_left _ (List.mem_append_left _ (List.mem_append_left _ (List.mem_append_left _ (List.mem_append_left _ (List.mem_append_left _ (List.mem_append_left _ (List.mem_append_left _ (List.mem_append_right _ h)))))))))
theorem inlX8 : ∀ w ∈ wsX80, w ∈ wsL_law := fun _ h => List.mem_append_left _ (List.mem_append_left _ (List.mem_append_left _ (List.mem_append_left _ (List.mem_append_left _ (List.mem_append_left _ (List.mem_append_left _ (List.mem_append_left _ (List.mem_append_right _ h))))))))
theorem inJ6 : ∀ w ∈ wsJ60, w ∈ lw_tbl := by decide +kernel
theorem inJ9 : ∀ w ∈ wsJ90, w ∈ lw_tbl := by decide +kernel
theorem inJ10 : ∀ w ∈ wsJ100, w ∈ lw_tbl := by decide +kernel
theorem inJ7 : ∀ w ∈ wsJ70, w ∈ lw_tbl := by decide +kernel
abbrev vwCl : List vw_C := [(RX0, TX0, 2), (RX1, TX1, 4), (RX2, TX2, 2), (RX3, TX3, 2), (RX4, TX4, 6), (RX5, TX5, 5), (RX6, TX6, 4), (RX7, TX7, 11), (RX8, TX8, 44)]
end
section
/-! ===== THE WORLD: all cells of the class and of the reference, by number; a memory; the judgement V ===== -/
abbrev Mm : Type := (Nat → Nat → Int32) × (Nat → Nat → Int64) × (Nat × Nat)
def up2 {α : Type} (f : Nat → Nat → α) (k j : Nat) (v : α) : Nat → Nat → α := fun a b => if a = k then (if b = j then v else f a b) else f a b
theorem up2_row {α : Type} (f : Nat → Nat → α) (k j : Nat) (v : α) : up2 f k j v k = fun b => if b = j then v else f k b := by funext b; simp [up2]
theorem up2_ne {α : Type} {f : Nat → Nat → α} {k j a : Nat} {v : α} (h : a ≠ k) : up2 f k j v a = f a := by funext b; simp [up2, h]
def setI (μ : Mm) (k j : Nat) (v : Int32) : Mm := (up2 μ.1 k j v, μ.2.1, μ.2.2)
def setL (μ : Mm) (k j : Nat) (v : Int64) : Mm := (μ.1, up2 μ.2.1 k j v, μ.2.2)
def setC (μ : Mm) (c : Nat) : Mm := (μ.1, μ.2.1, (c, μ.2.2.2))
def setD (μ : Mm) (c : Nat) : Mm := (μ.1, μ.2.1, (μ.2.2.1, c))
def ktL : List (Nat × Nat) := [(7, 0), (2, 0), (10, 30), (3, 0), (4, 0), (14, 6), (5, 0), (5, 0), (5, 0), (5, 0), (5, 0), (5, 0), (10, 6), (4, 0), (14, 6), (5, 0), (5, 0), (5, 0), (5, 0), (5, 0), (5, 0), (10, 6), (4, 0), (14, 6), (5, 0), (5, 0), (5, 0), (5, 0), (5, 0), (5, 0), (10, 6), (6, 0), (10, 7), (1, 0), (15, 5), (10, 640), (10, 640), (10, 640), (10, 640), (10, 640), (15, 7), (10, 3), (10, 3), (10, 3), (10, 3), (10, 3), (10, 3), (10, 3), (10, 3), (0, 0), (15, 5), (10, 3), (10, 3), (10, 3), (10, 3), (10, 3), (10, 6), (0, 0), (15, 5), (10, 3), (10, 3), (10, 3), (10, 3), (10, 3), (10, 6), (8, 0), (10, 15), (10, 6), (10, 6), (10, 6), (10, 6), (10, 6), (10, 6), (10, 40), (10, 7), (11, 30), (10, 15), (10, 6), (13, 3200), (12, 3200), (13, 100), (13, 100), (10, 6), (10, 6), (10, 6), (10, 6), (10, 6), (10, 40)]
def kt (k : Nat) : Nat := (ktL.getD k (99, 0)).1
def kn (k : Nat) : Nat := (ktL.getD k (99, 0)).2
def rfs (c : Nat × Nat) (k j : Nat) : Nat := match kt k with
  | 0 => (if j = 0 then k + 1 else k + 7)
  | 1 => (if j = 0 then k + 1 else if j = 1 then k + 7 else k + 15)
  | 2 => (k + 1)
  | 4 => (if j = 0 then k + 1 else k + 8)
  | 6 => (k + 1)
  | 7 => (([1, 3, 4, 13, 22, 31, 33, c.1, c.2] : List Nat).getD j 0)
  | 8 => (([0, 0, 0, 66, 67, 0, 68, 69, 70, 71, 72, 0, 0, 0, 73, 0, 0, 74, 0, 75, 0, 0, 0, 0, 76, 77, 78, 79, 80, 81, 0, 82, 83, 0, 0, 0, 0, 0, 0, 84, 85, 86, 87, 0] : List Nat).getD j 0)
  | 14 => (k + 1 + j)
  | 15 => (k + 1 + j)
  | _ => 0
def flds (t : Nat) (ad : Nat → Nat) (i : Nat → Int32) (l : Nat → Int64) (r : Nat → Nat) : List Value := match t with
  | 0 => [.ref (ad (r 0)), .ref (ad (r 1))]
  | 1 => [.ref (ad (r 0)), .ref (ad (r 1)), .ref (ad (r 2)), .int (i 3)]
  | 2 => [.ref (ad (r 0)), .int (i 1)]
  | 3 => [.int (i 0), .int (i 1)]
  | 4 => [.ref (ad (r 0)), .ref (ad (r 1)), .int (i 2), .int (i 3), .int (i 4), .int (i 5)]
  | 5 => [.int (i 0), .int (i 1), .int (i 2), .int (i 3), .int (i 4)]
  | 6 => [.ref (ad (r 0)), .int (i 1), .int (i 2), .int (i 3)]
  | 7 => [.ref (ad (r 0)), .ref (ad (r 1)), .ref (ad (r 2)), .ref (ad (r 3)), .ref (ad (r 4)), .ref (ad (r 5)), .ref (ad (r 6)), .ref (ad (r 7)), .ref (ad (r 8)), .int (i 9), .int (i 10)]
  | 8 => [.int (i 0), .int (i 1), .int (i 2), .ref (ad (r 3)), .ref (ad (r 4)), .int (i 5), .ref (ad (r 6)), .ref (ad (r 7)), .ref (ad (r 8)), .ref (ad (r 9)), .ref (ad (r 10)), .int (i 11), .int (i 12), .int (i 13), .ref (ad (r 14)), .int (i 15), .int (i 16), .ref (ad (r 17)), .int (i 18), .ref (ad (r 19)), .int (i 20), .int (i 21), .int (i 22), .int (i 23), .ref (ad (r 24)), .ref (ad (r 25)), .ref (ad (r 26)), .ref (ad (r 27)), .ref (ad (r 28)), .ref (ad (r 29)), .long (l 30), .ref (ad (r 31)), .ref (ad (r 32)), .int (i 33), .int (i 34), .int (i 35), .int (i 36), .int (i 37), .int (i 38), .ref (ad (r 39)), .ref (ad (r 40)), .ref (ad (r 41)), .ref (ad (r 42)), .long (l 43)]
  | _ => []
abbrev GW : Type := va_G × (Nat → ClassId) × (Nat → Nat)
def cellE (g : GW) (c : Nat × Nat) (k : Nat) (i : Nat → Int32) (l : Nat → Int64) : va_E := match kt k with
  | 10 => .inl (g.2.1 0, kn k, .inl i)
  | 11 => .inl (g.2.1 1, kn k, .inl i)
  | 12 => .inl (g.2.1 2, kn k, .inl i)
  | 13 => .inl (g.2.1 3, kn k, .inr (.inl l))
  | 14 => .inl (g.2.1 4, kn k, .inr (.inr (.inr (.inr (fun j => some (g.2.2 (rfs c k j)))))))
  | 15 => .inl (g.2.1 5, kn k, .inr (.inr (.inr (.inr (fun j => some (g.2.2 (rfs c k j)))))))
  | t => .inr (t, flds t g.2.2 i l (rfs c k))
def Wd (g : GW) (μ : Mm) : va_W := (List.range 88).map fun k => (g.2.2 k, cellE g μ.2.2 k (μ.1 k) (μ.2.1 k))
abbrev tysW (g : GW) : List (ClassId × FieldType) := [(g.2.1 0, .int), (g.2.1 1, .byte), (g.2.1 2, .boolean), (g.2.1 3, .long), (g.2.1 4, .object "NamedWind$Ship"), (g.2.1 5, .array .int)]
def AW (g : GW) : Nat → Prop := fun q => ∃ k, k < 88 ∧ q = g.2.2 k
theorem Wd_at (g : GW) (μ : Mm) {k : Nat} (hk : k < 88) : (Wd g μ)[k]? = some (g.2.2 k, cellE g μ.2.2 k (μ.1 k) (μ.2.1 k)) := by simp [Wd, hk]
theorem Wd_set {g : GW} {μ μ' : Mm} {k : Nat} {e : va_E} (h0 : cellE g μ'.2.2 k (μ'.1 k) (μ'.2.1 k) = e) (h : ∀ a, a < 88 → a ≠ k → cellE g μ'.2.2 a (μ'.1 a) (μ'.2.1 a) = cellE g μ.2.2 a (μ.1 a) (μ.2.1 a)) : (Wd g μ).set k (g.2.2 k, e) = Wd g μ' := by
  apply List.ext_getElem?
  intro i
  rw [List.getElem?_set]
  by_cases hi : i < 88
  · rw [Wd_at g μ' hi, Wd_at g μ hi]
    by_cases hk : k = i
    · subst hk
      rw [if_pos rfl, if_pos (by simpa [Wd] using hi), h0]
    · rw [if_neg hk, h i hi (fun q => hk q.symm)]
  · have a1 : (Wd g μ)[i]? = none := by simp [Wd]; omega
    have a2 : (Wd g μ')[i]? = none := by simp [Wd]; omega
    rw [a1, a2]
    by_cases hk : k = i
    · rw [if_pos hk, if_neg (by simp [Wd]; omega)]
    · rw [if_neg hk]
def nestW : List Cond := [.fieldLinkNest "NamedWind$Reader" 28 "NamedWind$Page" "codes" "[I" "NamedWind", .fieldLinkNest "NamedWind" 266 "NamedWind$Page" "codes" "[I" "NamedWind", .fieldLinkNest "NamedWind$Reader" 23 "NamedWind$Page" "length" "I" "NamedWind", .fieldLinkNest "NamedWind" 72 "NamedWind$Page" "length" "I" "NamedWind", .fieldLinkNest "NamedWind$Sea" 84 "NamedWind$Ship" "kind" "I" "NamedWind", .fieldLinkNest "NamedWind" 171 "NamedWind$Ship" "kind" "I" "NamedWind", .fieldLinkNest "NamedWind$Sea" 64 "NamedWind$Ship" "place" "I" "NamedWind", .fieldLinkNest "NamedWind" 142 "NamedWind$Ship" "place" "I" "NamedWind", .fieldLinkNest "NamedWind$Sea" 67 "NamedWind$Ship" "call" "I" "NamedWind", .fieldLinkNest "NamedWind$Sea" 97 "NamedWind$Ship" "served" "I" "NamedWind", .fieldLinkNest "NamedWind$Sea" 100 "NamedWind$Ship" "turned" "I" "NamedWind", .fieldLinkNest "NamedWind" 129 "NamedWind$Sea" "fleet" "[LNamedWind$Ship;" "NamedWind", .fieldLinkNest "NamedWind" 203 "NamedWind$Sea" "couldBe" "[I" "NamedWind", .fieldLinkNest "NamedWind" 236 "NamedWind$Sea" "ships" "I" "NamedWind", .fieldLinkNest "NamedWind" 161 "NamedWind$Sea" "spentNames" "I" "NamedWind", .fieldLinkNest "NamedWind" 239 "NamedWind$Sea" "days" "I" "NamedWind", .fieldLinkNest "NamedWind" 240 "NamedWind$Sea" "answers" "I" "NamedWind", .fieldLinkNest "NamedWind" 212 "NamedWind$Wake" "begun" "Z" "NamedWind", .fieldLinkNest "NamedWind" 206 "NamedWind$Wake" "days" "I" "NamedWind", .fieldLinkNest "NamedWind$Forecast" 33 "NamedWind$Book" "strength" "[[I" "NamedWind", .fieldLinkNest "NamedWind" 106 "NamedWind$Book" "strength" "[[I" "NamedWind", .fieldLinkNest "NamedWind$Reader" 60 "NamedWind$Book" "strength" "[[I" "NamedWind", .fieldLinkNest "NamedWind$Sea" 121 "NamedWind$Book" "strength" "[[I" "NamedWind", .fieldLinkNest "NamedWind$Reader" 54 "NamedWind$Book" "owner" "[I" "NamedWind", .fieldLinkNest "NamedWind" 113 "NamedWind$Book" "owner" "[I" "NamedWind", .fieldLinkNest "NamedWind$Forecast" 42 "NamedWind" "SURE_OF" "[I" "NamedWind", .methodLinkNest "NamedWind" 11 yX2_init "NamedWind", .methodLinkNest "NamedWind" 18 yX3_init "NamedWind", .methodLinkNest "NamedWind" 25 yX4_init "NamedWind", .methodLinkNest "NamedWind$Sea" 21 yX5_init "NamedWind", .methodLinkNest "NamedWind" 38 yX6_init "NamedWind", .methodLinkNest "NamedWind" 45 yX1_init "NamedWind", .methodLinkNest "NamedWind" 52 yX0_init "NamedWind", .methodLinkNest "NamedWind" 60 yX2_add "NamedWind", .methodLinkNest "NamedWind" 64 yX2_empty "NamedWind", .methodLinkNest "NamedWind" 68 yX3_read "NamedWind", .methodLinkNest "NamedWind$Reader" 11 yX0_clear "NamedWind", .methodLinkNest "NamedWind$Reader" 51 yX7_isName "NamedWind", .methodLinkNest "NamedWind$Reader" 57 yX7_isSign "NamedWind", .methodLinkNest "NamedWind" 76 yX3_atEnd "NamedWind", .methodLinkNest "NamedWind" 83 yX4_clear "NamedWind", .methodLinkNest "NamedWind" 86 yX6_end "NamedWind", .methodLinkNest "NamedWind" 93 yX0_nameCount "NamedWind", .methodLinkNest "NamedWind" 123 yX4_add "NamedWind", .methodLinkNest "NamedWind$Sea" 54 yX5_begin "NamedWind", .methodLinkNest "NamedWind" 133 yX5_tell "NamedWind", .methodLinkNest "NamedWind" 139 yX5_isA "NamedWind", .methodLinkNest "NamedWind" 145 yX4_isSpent "NamedWind", .methodLinkNest "NamedWind" 148 yX4_replaceCall "NamedWind", .methodLinkNest "NamedWind$Sea" 77 yX5_spends "NamedWind", .methodLinkNest "NamedWind" 151 yX4_passDay "NamedWind", .methodLinkNest "NamedWind$Sea" 91 yX0_favours "NamedWind", .methodLinkNest "NamedWind$Sea" 87 yX7_placeAfter "NamedWind", .methodLinkNest "NamedWind" 294 yX0_favours "NamedWind", .methodLinkNest "NamedWind" 155 yX4_homeCount "NamedWind", .methodLinkNest "NamedWind" 158 yX4_spentCount "NamedWind", .methodLinkNest "NamedWind" 174 yX1_begin "NamedWind", .methodLinkNest "NamedWind$Forecast" 38 yX0_favour "NamedWind", .methodLinkNest "NamedWind" 178 yX4_freeNames "NamedWind", .methodLinkNest "NamedWind" 181 yX1_chances "NamedWind", .methodLinkNest "NamedWind$Forecast" 53 yX7_placeAhead "NamedWind", .methodLinkNest "NamedWind$Forecast" 60 yX7_placeBehind "NamedWind", .methodLinkNest "NamedWind" 192 yX1_bestCall "NamedWind", .methodLinkNest "NamedWind" 196 yX0_tellingSign "NamedWind", .methodLinkNest "NamedWind" 304 yX0_strengthInAll "NamedWind", .methodLinkNest "NamedWind" 209 yX6_begin "NamedWind", .methodLinkNest "NamedWind" 215 yX6_add "NamedWind", .methodLinkNest "NamedWind" 217 yX6_ways "NamedWind", .methodLinkNest "NamedWind$Wake" 30 yX0_strengthInAll "NamedWind", .methodLinkNest "NamedWind$Wake" 36 yX7_placeAfter "NamedWind", .methodLinkNest "NamedWind" 221 yX6_callOn "NamedWind", .methodLinkNest "NamedWind" 225 yX4_copyFrom "NamedWind", .methodLinkNest "NamedWind$Sea" 44 yX5_copyFrom "NamedWind", .methodLinkNest "NamedWind" 229 yX4_passYears "NamedWind", .methodLinkNest "NamedWind" 233 yX4_placesTogether "NamedWind"]
theorem nestW_in : ∀ w ∈ nestW, w ∈ lw_tbl := by decide +kernel
theorem wsL_good : wsL_law.all goodWord = true := by decide +kernel
def isNest : Cond → Bool
  | .fieldLinkNest .. => true
  | .methodLinkNest .. => true
  | _ => false
theorem nestW_is : nestW.all isNest = true := by decide +kernel
def stT (k : Nat) : List Int32 := match k with
  | 88 => [2, 3, 1, 2, 2]
  | 89 => [2, 2, 1, 1, 1]
  | 90 => [1, 30, 900, 27000, 810000, 24300000, 729000000]
  | _ => []
def stN (k : Nat) : String := match k with
  | 88 => "SERVED_BY"
  | 89 => "TURNED_BY"
  | 90 => "SURE_OF"
  | _ => ""
def conc (g : GW) : Value → Value
  | .ref k => .ref (g.2.2 k)
  | v => v
theorem conc_cat (g : GW) (v : Value) : (conc g v).category = v.category := by cases v <;> rfl
/-- what a state's tables and statics give -/
def OKw (g : GW) (s : State) : Prop := va_K g.1 vwCl (tysW g) s ∧ (∀ w ∈ nestW, va_Nw w s) ∧ (∀ i j, i < 88 → j < 88 → g.2.2 i = g.2.2 j → i = j) ∧ ∀ k, 88 ≤ k → k < 91 → va_Z "NamedWind" (stN k) "[I" (.ref (g.2.2 k)) (AW g) s s.heap ∧ va_T .int (g.2.2 k) (stT k).length (fun j => .int ((stT k).getD j 0)) (AW g) s s.heap
theorem OKw.moved {g : GW} {s U : State} (h : OKw g s) (hW : s.WarmedH U.vm) {locs : List Loc} (hS : va_S (AW g) s.heap U.heap locs) : OKw g U := by
  obtain ⟨h1, h2, h3, h4⟩ := h
  refine ⟨va_K.moved hW.alike h1, fun w hw => ?_, h3, fun k ha hb => ?_⟩
  · have h5 := List.all_eq_true.mp nestW_is w hw
    have h6 := h2 w hw
    cases w <;> first | exact va_Nw.warmF hW h6 | exact va_Nw.warmM hW h6 | exact absurd h5 (by simp [isNest])
  · obtain ⟨z1, z2⟩ := h4 k ha hb
    exact ⟨(va_Z.moved hW.alike z1).kept (fun a q1 q2 => hS.2.1 a q1 q2), (va_T.moved hW.alike z2).kept (fun a q1 q2 => hS.2.1 a q1 q2)⟩
theorem OKw.calling {g : GW} {U : State} (h : OKw g U) (f : JFrame) (mk : MethodId) (a : Array Value) : OKw g (U.calling f mk a) := by
  obtain ⟨h1, h2, h3, h4⟩ := h
  refine ⟨va_K.moved (u := U) (U := U.calling f mk a) (Vm.Alike.refl U.vm) h1, fun w hw => ?_, h3, fun k ha hb => ?_⟩
  · have h5 := List.all_eq_true.mp nestW_is w hw
    have h6 := h2 w hw
    cases w <;> first | exact va_Nw.same rfl rfl h6 | exact absurd h5 (by simp [isNest])
  · obtain ⟨z1, z2⟩ := h4 k ha hb
    exact ⟨va_Z.moved (u := U) (U := U.calling f mk a) (Vm.Alike.refl U.vm) z1, va_T.moved (u := U) (U := U.calling f mk a) (Vm.Alike.refl U.vm) z2⟩
theorem OKw.D {g : GW} {s : State} (h : OKw g s) (μ : Mm) : va_D (AW g) (Wd g μ) := by
  constructor
  · intro i j p q hi hj hpq
    have ei : i < 88 := by
      have := (List.getElem?_eq_some_iff.mp hi).1
      simpa [Wd] using this
    have ej : j < 88 := by
      have := (List.getElem?_eq_some_iff.mp hj).1
      simpa [Wd] using this
    rw [Wd_at g μ ei] at hi
    rw [Wd_at g μ ej] at hj
    cases hi
    cases hj
    exact h.2.2.1 i j ei ej hpq
  · intro k q hq
    have ei : k < 88 := by
      have := (List.getElem?_eq_some_iff.mp hq).1
      simpa [Wd] using this
    rw [Wd_at g μ ei] at hq
    cases hq
    exact ⟨k, ei, rfl⟩
/-- the locals, as a list of abstract values; .null: nothing is known there -/
def asl1 (g : GW) (i : Nat) (o : Option Value) : Option (Nat × Value) := match o with
  | none => none
  | some Value.null => none
  | some v => some (i, conc g v)
def asl (g : GW) (lv : List Value) : List (Nat × Value) := (List.range lv.length).filterMap fun i => asl1 g i lv[i]?
theorem asl_mem {g : GW} {lv : List Value} {i : Nat} {v : Value} (h : lv[i]? = some v) (hv : v ≠ .null) : (i, conc g v) ∈ asl g lv := by
  refine List.mem_filterMap.mpr ⟨i, List.mem_range.mpr (List.getElem?_eq_some_iff.mp h).1, ?_⟩
  rw [h]
  cases v <;> first | rfl | exact absurd rfl hv
theorem asl_of {g : GW} {lv : List Value} {q : Nat × Value} (h : q ∈ asl g lv) : ∃ v, lv[q.1]? = some v ∧ v ≠ .null ∧ q.2 = conc g v := by
  obtain ⟨i, -, hi⟩ := List.mem_filterMap.mp h
  cases hv : lv[i]? with
  | none => rw [hv] at hi; cases hi
  | some v =>
    rw [hv] at hi
    cases v <;> first | (cases hi; done) | (cases hi; exact ⟨_, hv, (by intro q; cases q), rfl⟩)
def LVs (g : GW) (ls : Array Slot) (nL : Nat) (lv : List Value) : Prop := lv_has ls nL (asl g lv)
theorem LVs.get {g : GW} {ls : Array Slot} {nL : Nat} {lv : List Value} (h : LVs g ls nL lv) {i : Nat} {v : Value} (hv : lv[i]? = some v) (hn : v ≠ .null) : ls[i]? = some (.val (conc g v)) := h.2.2 _ (asl_mem hv hn)
def okp (lv : List Value) (i : Nat) : Bool := match i with
  | 0 => true
  | j + 1 => match lv[j]? with
    | some (.long _) => false
    | some (.double _) => false
    | _ => true
theorem LVs.put {g : GW} {ls' : Array Slot} {nL : Nat} {lv : List Value} {i : Nat} {v : Value} (ho : okp lv i = true) (h : lv_has ls' nL ((i, conc g v) :: (asl g lv).filter (fun q => !(q.1 == i) && !(q.1 + 1 == i && q.2.category == 2)))) : LVs g ls' nL (lv.set i v) := by
  refine ⟨h.1, h.2.1, fun q hq => ?_⟩
  obtain ⟨w, h1, h2, h3⟩ := asl_of hq
  obtain ⟨j, qv⟩ := q
  dsimp only at h1 h3
  subst h3
  rw [List.getElem?_set] at h1
  by_cases e : i = j
  · subst e
    by_cases hl : i < lv.length
    · rw [if_pos rfl, if_pos hl] at h1
      cases h1
      exact h.2.2 _ List.mem_cons_self
    · rw [if_pos rfl, if_neg hl] at h1
      cases h1
  · rw [if_neg e] at h1
    refine h.2.2 (j, conc g w) (List.mem_cons_of_mem _ (List.mem_filter.mpr ⟨asl_mem h1 h2, ?_⟩))
    simp only [Bool.and_eq_true, Bool.not_eq_true', beq_eq_false_iff_ne, ne_eq, Bool.and_eq_false_iff]
    refine ⟨fun q => e q.symm, ?_⟩
    by_cases e2 : j + 1 = i
    · right
      subst e2
      intro hc
      have hc : (conc g w).category = 2 := by simpa using hc
      rw [conc_cat] at hc
      cases w <;> simp_all [okp, Value.category]
    · left
      exact e2
theorem LVs.putL {g : GW} {ls' : Array Slot} {nL : Nat} {lv : List Value} {i : Nat} {x : Int64} (ho : okp lv i = true) (h : lv_has ls' nL ((i, .long x) :: (asl g lv).filter (fun q => !(q.1 == i) && (!(q.1 == i + 1) && !(q.1 + 1 == i && q.2.category == 2))))) : LVs g ls' nL ((lv.set i (.long x)).set (i + 1) .null) := by
  refine ⟨h.1, h.2.1, fun q hq => ?_⟩
  obtain ⟨w, h1, h2, h3⟩ := asl_of hq
  obtain ⟨j, qv⟩ := q
  dsimp only at h1 h3
  subst h3
  rw [List.getElem?_set] at h1
  by_cases e0 : i + 1 = j
  · subst e0
    rw [if_pos rfl] at h1
    by_cases hl : i + 1 < (lv.set i (.long x)).length
    · rw [if_pos hl] at h1
      cases h1
      exact absurd rfl h2
    · rw [if_neg hl] at h1
      cases h1
  rw [if_neg e0, List.getElem?_set] at h1
  by_cases e : i = j
  · subst e
    by_cases hl : i < lv.length
    · rw [if_pos rfl, if_pos hl] at h1
      cases h1
      exact h.2.2 _ List.mem_cons_self
    · rw [if_pos rfl, if_neg hl] at h1
      cases h1
  · rw [if_neg e] at h1
    refine h.2.2 (j, conc g w) (List.mem_cons_of_mem _ (List.mem_filter.mpr ⟨asl_mem h1 h2, ?_⟩))
    simp only [Bool.and_eq_true, Bool.not_eq_true', beq_eq_false_iff_ne, ne_eq, Bool.and_eq_false_iff]
    refine ⟨fun q => e q.symm, fun q => e0 q.symm, ?_⟩
    by_cases e2 : j + 1 = i
    · right
      subst e2
      intro hc
      have hc : (conc g w).category = 2 := by simpa using hc
      rw [conc_cat] at hc
      cases w <;> simp_all [okp, Value.category]
    · left
      exact e2
def rmv (d : Nat) : Room := { frames := d, cells := 0, slots := 0, locals := 48 * d }
def Qvw (g : GW) (Q : Option Value → Mm → Prop) : Array Value → State → Outcome → State → Prop := fun _ st oc t => (∃ (r : Option Value) (μ' : Mm), oc = .returned (r.map (conc g)) ∧ Q r μ' ∧ va_P g.1 vwCl (Wd g μ') t.heap) ∧ va_F (AW g) st t
/-- the machine beside a frame of a method: p e s m args below meth c -/
def Ctx (l : Launch) (g : GW) (own : String) (cc : ByteArray) (nL : Nat) (rt : Option FieldType) (p : Program) (s : State) (m : MethodId) (args : Array Value) (meth : Method) (c : Code) : Prop :=
  p.tables.exec = Jvm.exec ∧ c.code = cc ∧ meth.sig.returnType = rt ∧ c.maxLocals = nL ∧ s.vm.findClass own = some m.cls ∧ meth.locks = false ∧ (∀ w ∈ wsL_law, w.before args s = true) ∧ OKw g s
def V (l : Launch) (g : GW) (own : String) (cc : ByteArray) (nL : Nat) (rt : Option FieldType) (d : Nat) (pc : Nat) (lv st : List Value) (μ : Mm) (Q : Option Value → Mm → Prop) : Prop :=
  ∀ (p : Program) (e : Env) (s : State) (m : MethodId) (args : Array Value) (below : List Frame) (meth : Method) (c : Code), Ctx l g own cc nL rt p s m args meth c → ∀ (H : Heap) (locs : List Loc) (ls : Array Slot), va_P g.1 vwCl (Wd g μ) H → va_S (AW g) s.heap H locs → LVs g ls nL lv → W p l e (rmv d) s m args below meth c H locs 0 0 (MQ below (Qvw g Q) args s 0 0 (AW g)) (F0 m pc ls (st.map (conc g)))
/-- a method's contract: called with these (abstract) values, in this memory -/
def Con (l : Launch) (g : GW) (y : MethodName) (cc : ByteArray) (nL : Nat) (rt : Option FieldType) (d : Nat) (av : List Value) (μ : Mm) (Q : Option Value → Mm → Prop) : Prop :=
  Met l y (.code y cc nL rt :: wsL_law) (rmv d) (va_Pc (av.map (conc g)) (fun U => OKw g U ∧ va_P g.1 vwCl (Wd g μ) U.heap)) (Qvw g Q) 0 0 (AW g)
def slo : List Value → List Value
  | [] => []
  | .long x :: t => .long x :: .null :: slo t
  | .double x :: t => .double x :: .null :: slo t
  | v :: t => v :: slo t
theorem slo_args (g : GW) : ∀ (av : List Value) (b i : Nat) (v : Value), (slo av)[i]? = some v → v ≠ .null → (b + i, conc g v) ∈ lv_args b (av.map (conc g)) := by
  intro av
  induction av with
  | nil => intro b i v h; simp [slo] at h
  | cons w t ih =>
    intro b i v h hv
    have two : (∃ i2, i = i2 + 2 ∧ (slo t)[i2]? = some v) → w.category = 2 → (b + i, conc g v) ∈ lv_args b ((w :: t).map (conc g)) := by
      rintro ⟨i2, rfl, h2⟩ hc
      have := ih (b + 2) i2 v h2 hv
      show _ ∈ lv_args b (conc g w :: t.map (conc g))
      simp only [lv_args, conc_cat, hc, if_true]
      rw [show b + (i2 + 2) = b + 2 + i2 by omega]
      exact List.mem_cons_of_mem _ this
    have one : (∃ i2, i = i2 + 1 ∧ (slo t)[i2]? = some v) → ¬ w.category = 2 → (b + i, conc g v) ∈ lv_args b ((w :: t).map (conc g)) := by
      rintro ⟨i2, rfl, h2⟩ hc
      have := ih (b + 1) i2 v h2 hv
      show _ ∈ lv_args b (conc g w :: t.map (conc g))
      simp only [lv_args, conc_cat, hc, if_false]
      rw [show b + (i2 + 1) = b + 1 + i2 by omega]
      exact List.mem_cons_of_mem _ this
    have zero : i = 0 → v = w → (b + i, conc g v) ∈ lv_args b ((w :: t).map (conc g)) := by
      rintro rfl rfl
      show _ ∈ lv_args b (conc g v :: t.map (conc g))
      simp [lv_args]
    cases w with
    | long x =>
      match i, h with
      | 0, h => exact zero rfl (by simpa [slo] using h.symm)
      | 1, h => exact absurd (by simpa [slo] using h.symm) hv
      | i2 + 2, h => exact two ⟨i2, rfl, by simpa [slo] using h⟩ rfl
    | double x =>
      match i, h with
      | 0, h => exact zero rfl (by simpa [slo] using h.symm)
      | 1, h => exact absurd (by simpa [slo] using h.symm) hv
      | i2 + 2, h => exact two ⟨i2, rfl, by simpa [slo] using h⟩ rfl
    | _ =>
      match i, h with
      | 0, h => exact zero rfl (by simpa [slo] using h.symm)
      | i2 + 1, h => exact one ⟨i2, rfl, by simpa [slo] using h⟩ (by simp [Value.category])
theorem Con.of {l : Launch} {g : GW} {y : MethodName} {cc : ByteArray} {nL : Nat} {rt : Option FieldType} {d : Nat} {av : List Value} {μ : Mm} {Q : Option Value → Mm → Prop} (lv0 : List Value) (n0 : Nat) (hy : plainName y.cls = true) (hlen : (lg_sl (av.map (conc g))).length ≤ nL) (h0 : slo av ++ List.replicate n0 .null = lv0) (h : V l g y.cls cc nL rt d 0 lv0 [] μ Q) : Con l g y cc nL rt d av μ Q := by
  refine Met.ofW (cc := cc) (maxL := nL) (ret := rt) hy rfl ?_
  intro p e s m args below meth c s₁ B hml hv
  obtain ⟨rfl, hOK, hP⟩ := hv
  have hts := atoms_spec (ws := .code y cc nL rt :: wsL_law) B.pre
  have hown : s.vm.findClass y.cls = some m.cls := findClass_of_methodNamed B.named
  have hl := lv_entry (av.map (conc g)) (n := nL) hlen
  rw [lg_entry_eq]
  have hlv : LVs g ((lg_sl (av.map (conc g)) ++ List.replicate (nL - (lg_sl (av.map (conc g))).length) Slot.unset).toArray) nL lv0 := by
    refine ⟨hl.1, hl.2.1, fun q hq => ?_⟩
    obtain ⟨v, h1, h2, h3⟩ := asl_of hq
    obtain ⟨j, qv⟩ := q
    dsimp only at h1 h3
    subst h3
    rw [← h0] at h1
    have h4 : (slo av)[j]? = some v := by
      by_cases hj : j < (slo av).length
      · rwa [List.getElem?_append_left hj] at h1
      · rw [List.getElem?_append_right (by omega)] at h1
        have := (List.mem_replicate.mp (List.mem_of_getElem? h1)).2
        exact absurd this h2
    have := slo_args g av 0 j v h4 h2
    rw [Nat.zero_add] at this
    exact hl.2.2 _ this
  exact h p e s m _ below meth c ⟨B.exec, B.bytes, B.returns, hml, hown, B.notSynchronized, fun w hw => hts w (List.mem_cons_of_mem _ hw), hOK⟩ s.heap [] _ hP va_S.rf hlv
theorem Con.mono {l : Launch} {g : GW} {y : MethodName} {cc : ByteArray} {nL : Nat} {rt : Option FieldType} {d : Nat} {av : List Value} {μ : Mm} {Q Q' : Option Value → Mm → Prop} (h : Con l g y cc nL rt d av μ Q) (hq : ∀ r μ', Q r μ' → Q' r μ') : Con l g y cc nL rt d av μ Q' := by
  intro p e ha hc hk s m args below hf hs hp hx
  obtain ⟨t, o, a1, b1, b2, ⟨⟨r, μ', e1, e2, e3⟩, b4⟩, b5⟩ := h p e ha hc hk s m args below hf hs hp hx
  exact ⟨t, o, a1, b1, b2, ⟨⟨r, μ', e1, hq _ _ e2, e3⟩, b4⟩, b5⟩
theorem V.mono {l : Launch} {g : GW} {own : String} {cc : ByteArray} {nL : Nat} {rt : Option FieldType} {d pc : Nat} {lv st : List Value} {μ : Mm} {Q Q' : Option Value → Mm → Prop} (h : V l g own cc nL rt d pc lv st μ Q) (hq : ∀ r μ', Q r μ' → Q' r μ') : V l g own cc nL rt d pc lv st μ Q' := by
  intro p e s m args below meth c C H locs ls hP hS hl T hT X
  obtain ⟨t, a1, o, b1, b2, ⟨⟨r, μ', e1, e2, e3⟩, b4⟩, b5⟩ := h p e s m args below meth c C H locs ls hP hS hl T hT X
  exact ⟨t, a1, o, b1, b2, ⟨⟨r, μ', e1, hq _ _ e2, e3⟩, b4⟩, b5⟩
end
section
/-! ===== THE ROWS OF V ===== -/
def clR : Nat → String := fun k => match k with
  | 0 => RX0
  | 1 => RX1
  | 2 => RX2
  | 3 => RX3
  | 4 => RX4
  | 5 => RX5
  | 6 => RX6
  | 7 => RX7
  | 8 => RX8
  | _ => ""
def clT : Nat → u_T := fun k => match k with
  | 0 => TX0
  | 1 => TX1
  | 2 => TX2
  | 3 => TX3
  | 4 => TX4
  | 5 => TX5
  | 6 => TX6
  | 7 => TX7
  | _ => TX8
def clN : Nat → Nat := fun k => match k with
  | 0 => 2
  | 1 => 4
  | 2 => 2
  | 3 => 2
  | 4 => 6
  | 5 => 5
  | 6 => 4
  | 7 => 11
  | 8 => 44
  | _ => 0
def clTy : Nat → Nat → FieldType := fun k => match k with
  | 0 => tyX0
  | 1 => tyX1
  | 2 => tyX2
  | 3 => tyX3
  | 4 => tyX4
  | 5 => tyX5
  | 6 => tyX6
  | 7 => tyX7
  | _ => tyX8
def CLo (ci : Nat) : Prop := vwCl[ci]? = some (clR ci, clT ci, clN ci) ∧ (∀ w ∈ u_ws (clR ci) (clT ci) (clN ci), w ∈ wsL_law) ∧ (∀ k, k < clN ci → parseFieldDescriptor (clT ci k).2.2.1 = some (clTy ci k)) ∧ (∀ a, a < clN ci → ∀ b, b < clN ci → a ≠ b → (clT ci a).2.1 ≠ (clT ci b).2.1)
theorem CLo_all (ci : Nat) (h : ci < 9) : CLo ci := by
  match ci, h with
  | 0, _ => exact ⟨rfl, inlX0, tyX0_ok, nmX0⟩
  | 1, _ => exact ⟨rfl, inlX1, tyX1_ok, nmX1⟩
  | 2, _ => exact ⟨rfl, inlX2, tyX2_ok, nmX2⟩
  | 3, _ => exact ⟨rfl, inlX3, tyX3_ok, nmX3⟩
  | 4, _ => exact ⟨rfl, inlX4, tyX4_ok, nmX4⟩
  | 5, _ => exact ⟨rfl, inlX5, tyX5_ok, nmX5⟩
  | 6, _ => exact ⟨rfl, inlX6, tyX6_ok, nmX6⟩
  | 7, _ => exact ⟨rfl, inlX7, tyX7_ok, nmX7⟩
  | 8, _ => exact ⟨rfl, inlX8, tyX8_ok, nmX8⟩
def FLp (own : String) (idx ci j : Nat) : Prop := ci < 9 ∧ j < clN ci ∧ ((Cond.fieldLink own idx (clT ci j).1 (clT ci j).2.1 (clT ci j).2.2.1 ∈ wsL_law) ∨ (Cond.fieldLinkNest own idx (clT ci j).1 (clT ci j).2.1 (clT ci j).2.2.1 "NamedWind" ∈ nestW))
def MLp (own : String) (idx : Nat) (y : MethodName) (cc : ByteArray) (nL : Nat) (rt : Option FieldType) (n : Nat) : Prop :=
  ((Cond.methodLink own idx y ∈ wsL_law) ∨ (Cond.methodLinkNest own idx y "NamedWind" ∈ nestW)) ∧ Cond.initialized y.cls ∈ wsL_law ∧ Cond.code y cc nL rt ∈ wsL_law ∧ (y.cls ≠ "java/lang/invoke/MethodHandle" ∧ y.cls ≠ "java/lang/invoke/VarHandle") ∧ (parseMethodDescriptor y.desc).map (fun d => d.parameters.length) = some n ∧ nL ≤ 28
def MLv (own : String) (idx : Nat) (y : MethodName) (cc : ByteArray) (nL : Nat) (rt : Option FieldType) (n : Nat) : Prop := MLp own idx y cc nL rt n ∧ Cond.instanceMethod y ∈ wsL_law ∧ Cond.selects y.cls y y ∈ wsL_law
def MLs (own : String) (idx : Nat) (y : MethodName) (cc : ByteArray) (nL : Nat) (rt : Option FieldType) (n : Nat) : Prop := MLp own idx y cc nL rt n ∧ Cond.static y ∈ wsL_law
theorem kn_lt (k : Nat) : kn k < 4000 := by
  by_cases h : k < 88
  · exact (by decide +kernel : ∀ k, k < 88 → kn k < 4000) k h
  · have e : ktL.length = 88 := by decide +kernel
    have e2 : ktL.getD k (99, 0) = (99, 0) := by rw [List.getD_eq_getElem?_getD, List.getElem?_eq_none (by omega)]; rfl
    unfold kn
    rw [e2]
    decide
theorem cellE_obj {g : GW} {c : Nat × Nat} {k : Nat} {i : Nat → Int32} {l : Nat → Int64} {ci : Nat} (h : kt k = ci) (hc : ci < 9) : cellE g c k i l = .inr (ci, flds ci g.2.2 i l (rfs c k)) := by
  subst h
  unfold cellE
  generalize kt k = t at hc ⊢
  match t, hc with
  | 0, _ => rfl
  | 1, _ => rfl
  | 2, _ => rfl
  | 3, _ => rfl
  | 4, _ => rfl
  | 5, _ => rfl
  | 6, _ => rfl
  | 7, _ => rfl
  | 8, _ => rfl
theorem gW {Ts : List Cond} (h : ∀ w ∈ Ts, goodWord w = true) : GoodIn Ts Ts := fun w hw => ⟨hw, good_of_word (h w hw)⟩
theorem wsL_G : GoodIn wsL_law wsL_law := fun w hw => ⟨hw, good_of_word (List.all_eq_true.mp wsL_good w hw)⟩
theorem cellsI {g : GW} {μ : Mm} {k j : Nat} {v : Int32} (a : Nat) (hn : a ≠ k) : cellE g (setI μ k j v).2.2 a ((setI μ k j v).1 a) ((setI μ k j v).2.1 a) = cellE g μ.2.2 a (μ.1 a) (μ.2.1 a) := by
  show cellE g μ.2.2 a (up2 μ.1 k j v a) (μ.2.1 a) = _
  rw [up2_ne hn]
theorem cellsL {g : GW} {μ : Mm} {k j : Nat} {v : Int64} (a : Nat) (hn : a ≠ k) : cellE g (setL μ k j v).2.2 a ((setL μ k j v).1 a) ((setL μ k j v).2.1 a) = cellE g μ.2.2 a (μ.1 a) (μ.2.1 a) := by
  show cellE g μ.2.2 a (μ.1 a) (up2 μ.2.1 k j v a) = _
  rw [up2_ne hn]
section VROWS
variable {l : Launch} {g : GW} {own : String} {cc : ByteArray} {nL : Nat} {rt : Option FieldType} {d pc : Nat} {lv st : List Value} {μ : Mm} {Q : Option Value → Mm → Prop}
theorem V_iadd {x y : Int32} (dg : decode cc pc = .ok (.iadd, 1)) (K : V l g own cc nL rt d (pc + 1) lv (.int (x + y) :: st) μ Q) : V l g own cc nL rt d pc lv (.int y :: .int x :: st) μ Q := by
  intro p e s m args below meth c C H locs ls hP hS hl
  exact lv_iadd C.1 C.2.1 dg (K p e s m args below meth c C H locs ls hP hS hl)
theorem V_isub {x y : Int32} (dg : decode cc pc = .ok (.isub, 1)) (K : V l g own cc nL rt d (pc + 1) lv (.int (x - y) :: st) μ Q) : V l g own cc nL rt d pc lv (.int y :: .int x :: st) μ Q := by
  intro p e s m args below meth c C H locs ls hP hS hl
  exact lv_isub C.1 C.2.1 dg (K p e s m args below meth c C H locs ls hP hS hl)
theorem V_imul {x y : Int32} (dg : decode cc pc = .ok (.imul, 1)) (K : V l g own cc nL rt d (pc + 1) lv (.int (x * y) :: st) μ Q) : V l g own cc nL rt d pc lv (.int y :: .int x :: st) μ Q := by
  intro p e s m args below meth c C H locs ls hP hS hl
  exact lv_imul C.1 C.2.1 dg (K p e s m args below meth c C H locs ls hP hS hl)
theorem V_iand {x y : Int32} (dg : decode cc pc = .ok (.iand, 1)) (K : V l g own cc nL rt d (pc + 1) lv (.int (x &&& y) :: st) μ Q) : V l g own cc nL rt d pc lv (.int y :: .int x :: st) μ Q := by
  intro p e s m args below meth c C H locs ls hP hS hl
  exact lv_iand C.1 C.2.1 dg (K p e s m args below meth c C H locs ls hP hS hl)
theorem V_ior {x y : Int32} (dg : decode cc pc = .ok (.ior, 1)) (K : V l g own cc nL rt d (pc + 1) lv (.int (x ||| y) :: st) μ Q) : V l g own cc nL rt d pc lv (.int y :: .int x :: st) μ Q := by
  intro p e s m args below meth c C H locs ls hP hS hl
  exact lv_ior C.1 C.2.1 dg (K p e s m args below meth c C H locs ls hP hS hl)
theorem V_ixor {x y : Int32} (dg : decode cc pc = .ok (.ixor, 1)) (K : V l g own cc nL rt d (pc + 1) lv (.int (x ^^^ y) :: st) μ Q) : V l g own cc nL rt d pc lv (.int y :: .int x :: st) μ Q := by
  intro p e s m args below meth c C H locs ls hP hS hl
  exact lv_ixor C.1 C.2.1 dg (K p e s m args below meth c C H locs ls hP hS hl)
theorem V_idiv {x y : Int32} (dg : decode cc pc = .ok (.idiv, 1)) (hne : ¬ y = 0) (K : V l g own cc nL rt d (pc + 1) lv (.int (x / y) :: st) μ Q) : V l g own cc nL rt d pc lv (.int y :: .int x :: st) μ Q := by
  intro p e s m args below meth c C H locs ls hP hS hl
  exact lv_idiv C.1 C.2.1 dg hne (K p e s m args below meth c C H locs ls hP hS hl)
theorem V_irem {x y : Int32} (dg : decode cc pc = .ok (.irem, 1)) (hne : ¬ y = 0) (K : V l g own cc nL rt d (pc + 1) lv (.int (x - x / y * y) :: st) μ Q) : V l g own cc nL rt d pc lv (.int y :: .int x :: st) μ Q := by
  intro p e s m args below meth c C H locs ls hP hS hl
  exact lv_irem C.1 C.2.1 dg hne (K p e s m args below meth c C H locs ls hP hS hl)
theorem V_ineg {x : Int32} (dg : decode cc pc = .ok (.ineg, 1)) (K : V l g own cc nL rt d (pc + 1) lv (.int (-x) :: st) μ Q) : V l g own cc nL rt d pc lv (.int x :: st) μ Q := by
  intro p e s m args below meth c C H locs ls hP hS hl
  exact lv_ineg C.1 C.2.1 dg (K p e s m args below meth c C H locs ls hP hS hl)
theorem V_ladd {x y : Int64} (dg : decode cc pc = .ok (.ladd, 1)) (K : V l g own cc nL rt d (pc + 1) lv (.long (x + y) :: st) μ Q) : V l g own cc nL rt d pc lv (.long y :: .long x :: st) μ Q := by
  intro p e s m args below meth c C H locs ls hP hS hl
  exact lv_ladd C.1 C.2.1 dg (K p e s m args below meth c C H locs ls hP hS hl)
theorem V_lsub {x y : Int64} (dg : decode cc pc = .ok (.lsub, 1)) (K : V l g own cc nL rt d (pc + 1) lv (.long (x - y) :: st) μ Q) : V l g own cc nL rt d pc lv (.long y :: .long x :: st) μ Q := by
  intro p e s m args below meth c C H locs ls hP hS hl
  exact lv_lsub C.1 C.2.1 dg (K p e s m args below meth c C H locs ls hP hS hl)
theorem V_lmul {x y : Int64} (dg : decode cc pc = .ok (.lmul, 1)) (K : V l g own cc nL rt d (pc + 1) lv (.long (x * y) :: st) μ Q) : V l g own cc nL rt d pc lv (.long y :: .long x :: st) μ Q := by
  intro p e s m args below meth c C H locs ls hP hS hl
  exact lv_lmul C.1 C.2.1 dg (K p e s m args below meth c C H locs ls hP hS hl)
theorem V_land {x y : Int64} (dg : decode cc pc = .ok (.land, 1)) (K : V l g own cc nL rt d (pc + 1) lv (.long (x &&& y) :: st) μ Q) : V l g own cc nL rt d pc lv (.long y :: .long x :: st) μ Q := by
  intro p e s m args below meth c C H locs ls hP hS hl
  exact lv_land C.1 C.2.1 dg (K p e s m args below meth c C H locs ls hP hS hl)
theorem V_lor {x y : Int64} (dg : decode cc pc = .ok (.lor, 1)) (K : V l g own cc nL rt d (pc + 1) lv (.long (x ||| y) :: st) μ Q) : V l g own cc nL rt d pc lv (.long y :: .long x :: st) μ Q := by
  intro p e s m args below meth c C H locs ls hP hS hl
  exact lv_lor C.1 C.2.1 dg (K p e s m args below meth c C H locs ls hP hS hl)
theorem V_lxor {x y : Int64} (dg : decode cc pc = .ok (.lxor, 1)) (K : V l g own cc nL rt d (pc + 1) lv (.long (x ^^^ y) :: st) μ Q) : V l g own cc nL rt d pc lv (.long y :: .long x :: st) μ Q := by
  intro p e s m args below meth c C H locs ls hP hS hl
  exact lv_lxor C.1 C.2.1 dg (K p e s m args below meth c C H locs ls hP hS hl)
theorem V_ldiv {x y : Int64} (dg : decode cc pc = .ok (.ldiv, 1)) (hne : ¬ y = 0) (K : V l g own cc nL rt d (pc + 1) lv (.long (x / y) :: st) μ Q) : V l g own cc nL rt d pc lv (.long y :: .long x :: st) μ Q := by
  intro p e s m args below meth c C H locs ls hP hS hl
  exact lv_ldiv C.1 C.2.1 dg hne (K p e s m args below meth c C H locs ls hP hS hl)
theorem V_lrem {x y : Int64} (dg : decode cc pc = .ok (.lrem, 1)) (hne : ¬ y = 0) (K : V l g own cc nL rt d (pc + 1) lv (.long (x - x / y * y) :: st) μ Q) : V l g own cc nL rt d pc lv (.long y :: .long x :: st) μ Q := by
  intro p e s m args below meth c C H locs ls hP hS hl
  exact lv_lrem C.1 C.2.1 dg hne (K p e s m args below meth c C H locs ls hP hS hl)
theorem V_lneg {x : Int64} (dg : decode cc pc = .ok (.lneg, 1)) (K : V l g own cc nL rt d (pc + 1) lv (.long (-x) :: st) μ Q) : V l g own cc nL rt d pc lv (.long x :: st) μ Q := by
  intro p e s m args below meth c C H locs ls hP hS hl
  exact lv_lneg C.1 C.2.1 dg (K p e s m args below meth c C H locs ls hP hS hl)
theorem V_ishl {x y : Int32} (dg : decode cc pc = .ok (.ishl, 1)) (K : V l g own cc nL rt d (pc + 1) lv (.int (x <<< (y &&& 31)) :: st) μ Q) : V l g own cc nL rt d pc lv (.int y :: .int x :: st) μ Q := by
  intro p e s m args below meth c C H locs ls hP hS hl
  exact lv_ishl C.1 C.2.1 dg (K p e s m args below meth c C H locs ls hP hS hl)
theorem V_ishr {x y : Int32} (dg : decode cc pc = .ok (.ishr, 1)) (K : V l g own cc nL rt d (pc + 1) lv (.int (x >>> (y &&& 31)) :: st) μ Q) : V l g own cc nL rt d pc lv (.int y :: .int x :: st) μ Q := by
  intro p e s m args below meth c C H locs ls hP hS hl
  exact lv_ishr C.1 C.2.1 dg (K p e s m args below meth c C H locs ls hP hS hl)
theorem V_iushr {x y v : Int32} (dg : decode cc pc = .ok (.iushr, 1)) (K : V l g own cc nL rt d (pc + 1) lv (.int ((x.toUInt32 >>> (y.toUInt32 &&& Int32.toUInt32 31)).toInt32) :: st) μ Q) : V l g own cc nL rt d pc lv (.int y :: .int x :: st) μ Q := by
  intro p e s m args below meth c C H locs ls hP hS hl
  exact lv_iushr C.1 C.2.1 dg rfl (K p e s m args below meth c C H locs ls hP hS hl)
theorem V_lshl {x : Int64} {y : Int32} (dg : decode cc pc = .ok (.lshl, 1)) (K : V l g own cc nL rt d (pc + 1) lv (.long (x <<< (y.toInt64 &&& 63)) :: st) μ Q) : V l g own cc nL rt d pc lv (.int y :: .long x :: st) μ Q := by
  intro p e s m args below meth c C H locs ls hP hS hl
  exact lv_lshl C.1 C.2.1 dg rfl (K p e s m args below meth c C H locs ls hP hS hl)
theorem V_lshr {x : Int64} {y : Int32} (dg : decode cc pc = .ok (.lshr, 1)) (K : V l g own cc nL rt d (pc + 1) lv (.long (x >>> (y.toInt64 &&& 63)) :: st) μ Q) : V l g own cc nL rt d pc lv (.int y :: .long x :: st) μ Q := by
  intro p e s m args below meth c C H locs ls hP hS hl
  exact lv_lshr C.1 C.2.1 dg rfl (K p e s m args below meth c C H locs ls hP hS hl)
theorem V_lushr {x : Int64} {y : Int32} (dg : decode cc pc = .ok (.lushr, 1)) (K : V l g own cc nL rt d (pc + 1) lv (.long ((x.toUInt64 >>> (y.toInt64.toUInt64 &&& Int64.toUInt64 63)).toInt64) :: st) μ Q) : V l g own cc nL rt d pc lv (.int y :: .long x :: st) μ Q := by
  intro p e s m args below meth c C H locs ls hP hS hl
  exact lv_lushr C.1 C.2.1 dg rfl (K p e s m args below meth c C H locs ls hP hS hl)
theorem V_i2l {x : Int32}  (dg : decode cc pc = .ok (.i2l, 1)) (K : V l g own cc nL rt d (pc + 1) lv (.long (x.toInt64) :: st) μ Q) : V l g own cc nL rt d pc lv (.int x :: st) μ Q := by
  intro p e s m args below meth c C H locs ls hP hS hl
  exact lv_i2l C.1 C.2.1 dg rfl (K p e s m args below meth c C H locs ls hP hS hl)
theorem V_l2i {x : Int64}  (dg : decode cc pc = .ok (.l2i, 1)) (K : V l g own cc nL rt d (pc + 1) lv (.int (x.toInt32) :: st) μ Q) : V l g own cc nL rt d pc lv (.long x :: st) μ Q := by
  intro p e s m args below meth c C H locs ls hP hS hl
  exact lv_l2i C.1 C.2.1 dg rfl (K p e s m args below meth c C H locs ls hP hS hl)
theorem V_i2b {x : Int32}  (dg : decode cc pc = .ok (.i2b, 1)) (K : V l g own cc nL rt d (pc + 1) lv (.int (x.toInt8.toInt32) :: st) μ Q) : V l g own cc nL rt d pc lv (.int x :: st) μ Q := by
  intro p e s m args below meth c C H locs ls hP hS hl
  exact lv_i2b C.1 C.2.1 dg rfl (K p e s m args below meth c C H locs ls hP hS hl)
theorem V_dup {va : Value} (dg : decode cc pc = .ok (.dup, 1)) (hva : va.category = 1) (K : V l g own cc nL rt d (pc + 1) lv (va :: va :: st) μ Q) : V l g own cc nL rt d pc lv (va :: st) μ Q := by
  intro p e s m args below meth c C H locs ls hP hS hl
  exact lv_dup C.1 C.2.1 dg (by rw [conc_cat]; exact hva) (K p e s m args below meth c C H locs ls hP hS hl)
theorem V_dup2_11 {va vb : Value} (dg : decode cc pc = .ok (.dup2, 1)) (hva : va.category = 1) (hvb : vb.category = 1) (K : V l g own cc nL rt d (pc + 1) lv (va :: vb :: va :: vb :: st) μ Q) : V l g own cc nL rt d pc lv (va :: vb :: st) μ Q := by
  intro p e s m args below meth c C H locs ls hP hS hl
  exact lv_dup2_11 C.1 C.2.1 dg (by rw [conc_cat]; exact hva) (by rw [conc_cat]; exact hvb) (K p e s m args below meth c C H locs ls hP hS hl)
theorem V_dup2_2 {va : Value} (dg : decode cc pc = .ok (.dup2, 1)) (hva : va.category = 2) (K : V l g own cc nL rt d (pc + 1) lv (va :: va :: st) μ Q) : V l g own cc nL rt d pc lv (va :: st) μ Q := by
  intro p e s m args below meth c C H locs ls hP hS hl
  exact lv_dup2_2 C.1 C.2.1 dg (by rw [conc_cat]; exact hva) (K p e s m args below meth c C H locs ls hP hS hl)
theorem V_dup_x1 {va vb : Value} (dg : decode cc pc = .ok (.dup_x1, 1)) (hva : va.category = 1) (hvb : vb.category = 1) (K : V l g own cc nL rt d (pc + 1) lv (va :: vb :: va :: st) μ Q) : V l g own cc nL rt d pc lv (va :: vb :: st) μ Q := by
  intro p e s m args below meth c C H locs ls hP hS hl
  exact lv_dup_x1 C.1 C.2.1 dg (by rw [conc_cat]; exact hva) (by rw [conc_cat]; exact hvb) (K p e s m args below meth c C H locs ls hP hS hl)
theorem V_dup_x2 {va vb vd : Value} (dg : decode cc pc = .ok (.dup_x2, 1)) (hva : va.category = 1) (hvb : vb.category = 1) (hvd : vd.category = 1) (K : V l g own cc nL rt d (pc + 1) lv (va :: vb :: vd :: va :: st) μ Q) : V l g own cc nL rt d pc lv (va :: vb :: vd :: st) μ Q := by
  intro p e s m args below meth c C H locs ls hP hS hl
  exact lv_dup_x2 C.1 C.2.1 dg (by rw [conc_cat]; exact hva) (by rw [conc_cat]; exact hvb) (by rw [conc_cat]; exact hvd) (K p e s m args below meth c C H locs ls hP hS hl)
theorem V_pop {va : Value} (dg : decode cc pc = .ok (.pop, 1)) (hva : va.category = 1) (K : V l g own cc nL rt d (pc + 1) lv (st) μ Q) : V l g own cc nL rt d pc lv (va :: st) μ Q := by
  intro p e s m args below meth c C H locs ls hP hS hl
  exact lv_pop C.1 C.2.1 dg (by rw [conc_cat]; exact hva) (K p e s m args below meth c C H locs ls hP hS hl)
theorem V_lcmp {x y : Int64} (dg : decode cc pc = .ok (.lcmp, 1)) (K : V l g own cc nL rt d (pc + 1) lv (.int (lg_cmp x y) :: st) μ Q) : V l g own cc nL rt d pc lv (.long y :: .long x :: st) μ Q := by
  intro p e s m args below meth c C H locs ls hP hS hl
  exact W.lcmp C.1 C.2.1 dg (K p e s m args below meth c C H locs ls hP hS hl)
theorem V_iconst {n : Int} {v : Int32} (dg : decode cc pc = .ok (.iconst n, 1)) (hv : Int32.ofInt n = v) (K : V l g own cc nL rt d (pc + 1) lv (.int v :: st) μ Q) : V l g own cc nL rt d pc lv st μ Q := by
  intro p e s m args below meth c C H locs ls hP hS hl
  exact lv_iconst C.1 C.2.1 dg hv (K p e s m args below meth c C H locs ls hP hS hl)
theorem V_bipush {n : Int} {v : Int32} (dg : decode cc pc = .ok (.bipush n, 2)) (hv : (Int8.ofInt n).toInt32 = v) (K : V l g own cc nL rt d (pc + 2) lv (.int v :: st) μ Q) : V l g own cc nL rt d pc lv st μ Q := by
  intro p e s m args below meth c C H locs ls hP hS hl
  exact lv_bipush C.1 C.2.1 dg hv (K p e s m args below meth c C H locs ls hP hS hl)
theorem V_sipush {n : Int} {v : Int32} (dg : decode cc pc = .ok (.sipush n, 3)) (hv : (Int16.ofInt n).toInt32 = v) (K : V l g own cc nL rt d (pc + 3) lv (.int v :: st) μ Q) : V l g own cc nL rt d pc lv st μ Q := by
  intro p e s m args below meth c C H locs ls hP hS hl
  exact lv_sipush C.1 C.2.1 dg hv (K p e s m args below meth c C H locs ls hP hS hl)
theorem V_lconst {n : Fin 2} {v : Int64} (dg : decode cc pc = .ok (.lconst n, 1)) (hv : Int64.ofNat (n : Nat) = v) (K : V l g own cc nL rt d (pc + 1) lv (.long v :: st) μ Q) : V l g own cc nL rt d pc lv st μ Q := by
  intro p e s m args below meth c C H locs ls hP hS hl
  exact lv_lconst C.1 C.2.1 dg hv (K p e s m args below meth c C H locs ls hP hS hl)
theorem V_ldc {index : Nat} {v : Int32} (hw : Cond.constant own index v ∈ wsL_law) (dg : decode cc pc = .ok (.ldc index, 2)) (K : V l g own cc nL rt d (pc + 2) lv (.int v :: st) μ Q) : V l g own cc nL rt d pc lv st μ Q := by
  intro p e s m args below meth c C H locs ls hP hS hl
  exact lv_ldc C.1 C.2.1 C.2.2.2.2.1 (C.2.2.2.2.2.2.1 _ hw) dg (K p e s m args below meth c C H locs ls hP hS hl)
theorem V_ldcw {index : Nat} {v : Int32} (hw : Cond.constant own index v ∈ wsL_law) (dg : decode cc pc = .ok (.ldc_w index, 3)) (K : V l g own cc nL rt d (pc + 3) lv (.int v :: st) μ Q) : V l g own cc nL rt d pc lv st μ Q := by
  intro p e s m args below meth c C H locs ls hP hS hl
  exact lv_ldcw C.1 C.2.1 C.2.2.2.2.1 (C.2.2.2.2.2.2.1 _ hw) dg (K p e s m args below meth c C H locs ls hP hS hl)
theorem V_ldc2 {index : Nat} {v : Int64} (hw : Cond.constantLong own index v ∈ wsL_law) (dg : decode cc pc = .ok (.ldc2_w index, 3)) (K : V l g own cc nL rt d (pc + 3) lv (.long v :: st) μ Q) : V l g own cc nL rt d pc lv st μ Q := by
  intro p e s m args below meth c C H locs ls hP hS hl
  exact lv_ldc2 C.1 C.2.1 C.2.2.2.2.1 (C.2.2.2.2.2.2.1 _ hw) dg (K p e s m args below meth c C H locs ls hP hS hl)
theorem V_iload_n {k : Fin 4} {i : Nat} {x : Int32} (dg : decode cc pc = .ok (.iload_n k, 1)) (hi : (k : Nat) = i) (h0 : lv[i]? = some (.int x)) (K : V l g own cc nL rt d (pc + 1) lv (.int x :: st) μ Q) : V l g own cc nL rt d pc lv st μ Q := by
  intro p e s m args below meth c C H locs ls hP hS hl
  exact lv_iload_n C.1 C.2.1 dg hi (hl.get h0 (by intro q; cases q)) (K p e s m args below meth c C H locs ls hP hS hl)
theorem V_iload {i : Nat} {x : Int32} (dg : decode cc pc = .ok (.iload i, 2)) (h0 : lv[i]? = some (.int x)) (K : V l g own cc nL rt d (pc + 2) lv (.int x :: st) μ Q) : V l g own cc nL rt d pc lv st μ Q := by
  intro p e s m args below meth c C H locs ls hP hS hl
  exact lv_iload C.1 C.2.1 dg (hl.get h0 (by intro q; cases q)) (K p e s m args below meth c C H locs ls hP hS hl)
theorem V_lload_n {k : Fin 4} {i : Nat} {x : Int64} (dg : decode cc pc = .ok (.lload_n k, 1)) (hi : (k : Nat) = i) (h0 : lv[i]? = some (.long x)) (K : V l g own cc nL rt d (pc + 1) lv (.long x :: st) μ Q) : V l g own cc nL rt d pc lv st μ Q := by
  intro p e s m args below meth c C H locs ls hP hS hl
  exact lv_lload_n C.1 C.2.1 dg hi (hl.get h0 (by intro q; cases q)) (K p e s m args below meth c C H locs ls hP hS hl)
theorem V_lload {i : Nat} {x : Int64} (dg : decode cc pc = .ok (.lload i, 2)) (h0 : lv[i]? = some (.long x)) (K : V l g own cc nL rt d (pc + 2) lv (.long x :: st) μ Q) : V l g own cc nL rt d pc lv st μ Q := by
  intro p e s m args below meth c C H locs ls hP hS hl
  exact lv_lload C.1 C.2.1 dg (hl.get h0 (by intro q; cases q)) (K p e s m args below meth c C H locs ls hP hS hl)
theorem V_aload_n {k : Fin 4} {i : Nat} {x : Nat} (dg : decode cc pc = .ok (.aload_n k, 1)) (hi : (k : Nat) = i) (h0 : lv[i]? = some (.ref x)) (K : V l g own cc nL rt d (pc + 1) lv (.ref x :: st) μ Q) : V l g own cc nL rt d pc lv st μ Q := by
  intro p e s m args below meth c C H locs ls hP hS hl
  exact lv_aload_n C.1 C.2.1 dg hi (hl.get h0 (by intro q; cases q)) (K p e s m args below meth c C H locs ls hP hS hl)
theorem V_aload {i : Nat} {x : Nat} (dg : decode cc pc = .ok (.aload i, 2)) (h0 : lv[i]? = some (.ref x)) (K : V l g own cc nL rt d (pc + 2) lv (.ref x :: st) μ Q) : V l g own cc nL rt d pc lv st μ Q := by
  intro p e s m args below meth c C H locs ls hP hS hl
  exact lv_aload C.1 C.2.1 dg (hl.get h0 (by intro q; cases q)) (K p e s m args below meth c C H locs ls hP hS hl)
theorem V_istore_n {k : Fin 4} {i : Nat} {x : Int32} (dg : decode cc pc = .ok (.istore_n k, 1)) (hi : (k : Nat) = i) (hn : i < nL) (ho : okp lv i = true) (K : V l g own cc nL rt d (pc + 1) (lv.set i (.int x)) st μ Q) : V l g own cc nL rt d pc lv (.int x :: st) μ Q := by
  intro p e s m args below meth c C H locs ls hP hS hl
  exact lv_istore_n C.1 C.2.1 dg hi hl hn rfl (fun ls2 h2 => (K p e s m args below meth c C H locs ls2 hP hS (LVs.put (v := .int x) ho h2)))
theorem V_istore {i : Nat} {x : Int32} (dg : decode cc pc = .ok (.istore i, 2)) (hn : i < nL) (ho : okp lv i = true) (K : V l g own cc nL rt d (pc + 2) (lv.set i (.int x)) st μ Q) : V l g own cc nL rt d pc lv (.int x :: st) μ Q := by
  intro p e s m args below meth c C H locs ls hP hS hl
  exact lv_istore C.1 C.2.1 dg hl hn rfl (fun ls2 h2 => (K p e s m args below meth c C H locs ls2 hP hS (LVs.put (v := .int x) ho h2)))
theorem V_astore_n {k : Fin 4} {i : Nat} {x : Nat} (dg : decode cc pc = .ok (.astore_n k, 1)) (hi : (k : Nat) = i) (hn : i < nL) (ho : okp lv i = true) (K : V l g own cc nL rt d (pc + 1) (lv.set i (.ref x)) st μ Q) : V l g own cc nL rt d pc lv (.ref x :: st) μ Q := by
  intro p e s m args below meth c C H locs ls hP hS hl
  exact lv_astore_n C.1 C.2.1 dg hi hl hn rfl (fun ls2 h2 => (K p e s m args below meth c C H locs ls2 hP hS (LVs.put (v := .ref x) ho h2)))
theorem V_astore {i : Nat} {x : Nat} (dg : decode cc pc = .ok (.astore i, 2)) (hn : i < nL) (ho : okp lv i = true) (K : V l g own cc nL rt d (pc + 2) (lv.set i (.ref x)) st μ Q) : V l g own cc nL rt d pc lv (.ref x :: st) μ Q := by
  intro p e s m args below meth c C H locs ls hP hS hl
  exact lv_astore C.1 C.2.1 dg hl hn rfl (fun ls2 h2 => (K p e s m args below meth c C H locs ls2 hP hS (LVs.put (v := .ref x) ho h2)))
theorem V_lstore_n {k : Fin 4} {i : Nat} {x : Int64} (dg : decode cc pc = .ok (.lstore_n k, 1)) (hi : (k : Nat) = i) (hn : i + 1 < nL) (ho : okp lv i = true) (K : V l g own cc nL rt d (pc + 1) ((lv.set i (.long x)).set (i + 1) .null) st μ Q) : V l g own cc nL rt d pc lv (.long x :: st) μ Q := by
  intro p e s m args below meth c C H locs ls hP hS hl
  exact lv_lstore_n C.1 C.2.1 dg hi hl hn rfl (fun ls2 h2 => (K p e s m args below meth c C H locs ls2 hP hS (LVs.putL ho h2)))
theorem V_lstore {i : Nat} {x : Int64} (dg : decode cc pc = .ok (.lstore i, 2)) (hn : i + 1 < nL) (ho : okp lv i = true) (K : V l g own cc nL rt d (pc + 2) ((lv.set i (.long x)).set (i + 1) .null) st μ Q) : V l g own cc nL rt d pc lv (.long x :: st) μ Q := by
  intro p e s m args below meth c C H locs ls hP hS hl
  exact lv_lstore C.1 C.2.1 dg hl hn rfl (fun ls2 h2 => (K p e s m args below meth c C H locs ls2 hP hS (LVs.putL ho h2)))
theorem asl_at {lv : List Value} {i : Nat} {v : Value} (h : lv[i]? = some v) (hv : v ≠ .null) : ∃ k : Nat, (asl g lv)[k]? = some (i, conc g v) := by
  obtain ⟨k, hk⟩ := List.getElem?_of_mem (asl_mem (g := g) h hv)
  exact ⟨k, hk⟩
theorem V_iinc {i : Nat} {n : Int} {x v : Int32} (dg : decode cc pc = .ok (.iinc i n, 3)) (h0 : lv[i]? = some (.int x)) (hv : x + Int32.ofInt n = v) (hn : i < nL) (ho : okp lv i = true) (K : V l g own cc nL rt d (pc + 3) (lv.set i (.int v)) st μ Q) : V l g own cc nL rt d pc lv st μ Q := by
  intro p e s m args below meth c C H locs ls hP hS hl
  obtain ⟨k, hk⟩ := asl_at (g := g) h0 (by intro q; cases q)
  exact lv_iinc C.1 C.2.1 dg hl hk hv hn rfl (fun ls2 h2 => (K p e s m args below meth c C H locs ls2 hP hS (LVs.put (v := .int v) ho h2)))
theorem V_istore0 { b : Value} {t : List Value} {x : Int32} (dg : decode cc pc = .ok (.istore_n 0, 1)) (hn : 0 < nL) (ho : okp (b :: t) 0 = true) (K : V l g own cc nL rt d (pc + 1) (.int x :: t) st μ Q) : V l g own cc nL rt d pc (b :: t) (.int x :: st) μ Q := V_istore_n dg rfl hn ho K
theorem V_astore0 { b : Value} {t : List Value} {x : Nat} (dg : decode cc pc = .ok (.astore_n 0, 1)) (hn : 0 < nL) (ho : okp (b :: t) 0 = true) (K : V l g own cc nL rt d (pc + 1) (.ref x :: t) st μ Q) : V l g own cc nL rt d pc (b :: t) (.ref x :: st) μ Q := V_astore_n dg rfl hn ho K
theorem V_iinc0 {t : List Value} {n : Int} {x v : Int32} (dg : decode cc pc = .ok (.iinc 0 n, 3)) (hv : x + Int32.ofInt n = v) (hn : 0 < nL) (ho : okp (.int x :: t) 0 = true) (K : V l g own cc nL rt d (pc + 3) (.int v :: t) st μ Q) : V l g own cc nL rt d pc (.int x :: t) st μ Q := V_iinc dg rfl hv hn ho K
theorem V_lstore0 { b b2 : Value} {t : List Value} {x : Int64} (dg : decode cc pc = .ok (.lstore_n 0, 1)) (hn : 1 < nL) (ho : okp (b :: b2 :: t) 0 = true) (K : V l g own cc nL rt d (pc + 1) (.long x :: .null :: t) st μ Q) : V l g own cc nL rt d pc (b :: b2 :: t) (.long x :: st) μ Q := V_lstore_n dg rfl hn ho K
theorem V_istore1 {a0 b : Value} {t : List Value} {x : Int32} (dg : decode cc pc = .ok (.istore_n 1, 1)) (hn : 1 < nL) (ho : okp (a0 :: b :: t) 1 = true) (K : V l g own cc nL rt d (pc + 1) (a0 :: .int x :: t) st μ Q) : V l g own cc nL rt d pc (a0 :: b :: t) (.int x :: st) μ Q := V_istore_n dg rfl hn ho K
theorem V_astore1 {a0 b : Value} {t : List Value} {x : Nat} (dg : decode cc pc = .ok (.astore_n 1, 1)) (hn : 1 < nL) (ho : okp (a0 :: b :: t) 1 = true) (K : V l g own cc nL rt d (pc + 1) (a0 :: .ref x :: t) st μ Q) : V l g own cc nL rt d pc (a0 :: b :: t) (.ref x :: st) μ Q := V_astore_n dg rfl hn ho K
theorem V_iinc1 {a0 : Value} {t : List Value} {n : Int} {x v : Int32} (dg : decode cc pc = .ok (.iinc 1 n, 3)) (hv : x + Int32.ofInt n = v) (hn : 1 < nL) (ho : okp (a0 :: .int x :: t) 1 = true) (K : V l g own cc nL rt d (pc + 3) (a0 :: .int v :: t) st μ Q) : V l g own cc nL rt d pc (a0 :: .int x :: t) st μ Q := V_iinc dg rfl hv hn ho K
theorem V_lstore1 {a0 b b2 : Value} {t : List Value} {x : Int64} (dg : decode cc pc = .ok (.lstore_n 1, 1)) (hn : 2 < nL) (ho : okp (a0 :: b :: b2 :: t) 1 = true) (K : V l g own cc nL rt d (pc + 1) (a0 :: .long x :: .null :: t) st μ Q) : V l g own cc nL rt d pc (a0 :: b :: b2 :: t) (.long x :: st) μ Q := V_lstore_n dg rfl hn ho K
theorem V_istore2 {a0 a1 b : Value} {t : List Value} {x : Int32} (dg : decode cc pc = .ok (.istore_n 2, 1)) (hn : 2 < nL) (ho : okp (a0 :: a1 :: b :: t) 2 = true) (K : V l g own cc nL rt d (pc + 1) (a0 :: a1 :: .int x :: t) st μ Q) : V l g own cc nL rt d pc (a0 :: a1 :: b :: t) (.int x :: st) μ Q := V_istore_n dg rfl hn ho K
theorem V_astore2 {a0 a1 b : Value} {t : List Value} {x : Nat} (dg : decode cc pc = .ok (.astore_n 2, 1)) (hn : 2 < nL) (ho : okp (a0 :: a1 :: b :: t) 2 = true) (K : V l g own cc nL rt d (pc + 1) (a0 :: a1 :: .ref x :: t) st μ Q) : V l g own cc nL rt d pc (a0 :: a1 :: b :: t) (.ref x :: st) μ Q := V_astore_n dg rfl hn ho K
theorem V_iinc2 {a0 a1 : Value} {t : List Value} {n : Int} {x v : Int32} (dg : decode cc pc = .ok (.iinc 2 n, 3)) (hv : x + Int32.ofInt n = v) (hn : 2 < nL) (ho : okp (a0 :: a1 :: .int x :: t) 2 = true) (K : V l g own cc nL rt d (pc + 3) (a0 :: a1 :: .int v :: t) st μ Q) : V l g own cc nL rt d pc (a0 :: a1 :: .int x :: t) st μ Q := V_iinc dg rfl hv hn ho K
theorem V_lstore2 {a0 a1 b b2 : Value} {t : List Value} {x : Int64} (dg : decode cc pc = .ok (.lstore_n 2, 1)) (hn : 3 < nL) (ho : okp (a0 :: a1 :: b :: b2 :: t) 2 = true) (K : V l g own cc nL rt d (pc + 1) (a0 :: a1 :: .long x :: .null :: t) st μ Q) : V l g own cc nL rt d pc (a0 :: a1 :: b :: b2 :: t) (.long x :: st) μ Q := V_lstore_n dg rfl hn ho K
theorem V_istore3 {a0 a1 a2 b : Value} {t : List Value} {x : Int32} (dg : decode cc pc = .ok (.istore_n 3, 1)) (hn : 3 < nL) (ho : okp (a0 :: a1 :: a2 :: b :: t) 3 = true) (K : V l g own cc nL rt d (pc + 1) (a0 :: a1 :: a2 :: .int x :: t) st μ Q) : V l g own cc nL rt d pc (a0 :: a1 :: a2 :: b :: t) (.int x :: st) μ Q := V_istore_n dg rfl hn ho K
theorem V_astore3 {a0 a1 a2 b : Value} {t : List Value} {x : Nat} (dg : decode cc pc = .ok (.astore_n 3, 1)) (hn : 3 < nL) (ho : okp (a0 :: a1 :: a2 :: b :: t) 3 = true) (K : V l g own cc nL rt d (pc + 1) (a0 :: a1 :: a2 :: .ref x :: t) st μ Q) : V l g own cc nL rt d pc (a0 :: a1 :: a2 :: b :: t) (.ref x :: st) μ Q := V_astore_n dg rfl hn ho K
theorem V_iinc3 {a0 a1 a2 : Value} {t : List Value} {n : Int} {x v : Int32} (dg : decode cc pc = .ok (.iinc 3 n, 3)) (hv : x + Int32.ofInt n = v) (hn : 3 < nL) (ho : okp (a0 :: a1 :: a2 :: .int x :: t) 3 = true) (K : V l g own cc nL rt d (pc + 3) (a0 :: a1 :: a2 :: .int v :: t) st μ Q) : V l g own cc nL rt d pc (a0 :: a1 :: a2 :: .int x :: t) st μ Q := V_iinc dg rfl hv hn ho K
theorem V_lstore3 {a0 a1 a2 b b2 : Value} {t : List Value} {x : Int64} (dg : decode cc pc = .ok (.lstore_n 3, 1)) (hn : 4 < nL) (ho : okp (a0 :: a1 :: a2 :: b :: b2 :: t) 3 = true) (K : V l g own cc nL rt d (pc + 1) (a0 :: a1 :: a2 :: .long x :: .null :: t) st μ Q) : V l g own cc nL rt d pc (a0 :: a1 :: a2 :: b :: b2 :: t) (.long x :: st) μ Q := V_lstore_n dg rfl hn ho K
theorem V_istore4 {a0 a1 a2 a3 b : Value} {t : List Value} {x : Int32} (dg : decode cc pc = .ok (.istore 4, 2)) (hn : 4 < nL) (ho : okp (a0 :: a1 :: a2 :: a3 :: b :: t) 4 = true) (K : V l g own cc nL rt d (pc + 2) (a0 :: a1 :: a2 :: a3 :: .int x :: t) st μ Q) : V l g own cc nL rt d pc (a0 :: a1 :: a2 :: a3 :: b :: t) (.int x :: st) μ Q := V_istore dg hn ho K
theorem V_astore4 {a0 a1 a2 a3 b : Value} {t : List Value} {x : Nat} (dg : decode cc pc = .ok (.astore 4, 2)) (hn : 4 < nL) (ho : okp (a0 :: a1 :: a2 :: a3 :: b :: t) 4 = true) (K : V l g own cc nL rt d (pc + 2) (a0 :: a1 :: a2 :: a3 :: .ref x :: t) st μ Q) : V l g own cc nL rt d pc (a0 :: a1 :: a2 :: a3 :: b :: t) (.ref x :: st) μ Q := V_astore dg hn ho K
theorem V_iinc4 {a0 a1 a2 a3 : Value} {t : List Value} {n : Int} {x v : Int32} (dg : decode cc pc = .ok (.iinc 4 n, 3)) (hv : x + Int32.ofInt n = v) (hn : 4 < nL) (ho : okp (a0 :: a1 :: a2 :: a3 :: .int x :: t) 4 = true) (K : V l g own cc nL rt d (pc + 3) (a0 :: a1 :: a2 :: a3 :: .int v :: t) st μ Q) : V l g own cc nL rt d pc (a0 :: a1 :: a2 :: a3 :: .int x :: t) st μ Q := V_iinc dg rfl hv hn ho K
theorem V_lstore4 {a0 a1 a2 a3 b b2 : Value} {t : List Value} {x : Int64} (dg : decode cc pc = .ok (.lstore 4, 2)) (hn : 5 < nL) (ho : okp (a0 :: a1 :: a2 :: a3 :: b :: b2 :: t) 4 = true) (K : V l g own cc nL rt d (pc + 2) (a0 :: a1 :: a2 :: a3 :: .long x :: .null :: t) st μ Q) : V l g own cc nL rt d pc (a0 :: a1 :: a2 :: a3 :: b :: b2 :: t) (.long x :: st) μ Q := V_lstore dg hn ho K
theorem V_istore5 {a0 a1 a2 a3 a4 b : Value} {t : List Value} {x : Int32} (dg : decode cc pc = .ok (.istore 5, 2)) (hn : 5 < nL) (ho : okp (a0 :: a1 :: a2 :: a3 :: a4 :: b :: t) 5 = true) (K : V l g own cc nL rt d (pc + 2) (a0 :: a1 :: a2 :: a3 :: a4 :: .int x :: t) st μ Q) : V l g own cc nL rt d pc (a0 :: a1 :: a2 :: a3 :: a4 :: b :: t) (.int x :: st) μ Q := V_istore dg hn ho K
theorem V_astore5 {a0 a1 a2 a3 a4 b : Value} {t : List Value} {x : Nat} (dg : decode cc pc = .ok (.astore 5, 2)) (hn : 5 < nL) (ho : okp (a0 :: a1 :: a2 :: a3 :: a4 :: b :: t) 5 = true) (K : V l g own cc nL rt d (pc + 2) (a0 :: a1 :: a2 :: a3 :: a4 :: .ref x :: t) st μ Q) : V l g own cc nL rt d pc (a0 :: a1 :: a2 :: a3 :: a4 :: b :: t) (.ref x :: st) μ Q := V_astore dg hn ho K
theorem V_iinc5 {a0 a1 a2 a3 a4 : Value} {t : List Value} {n : Int} {x v : Int32} (dg : decode cc pc = .ok (.iinc 5 n, 3)) (hv : x + Int32.ofInt n = v) (hn : 5 < nL) (ho : okp (a0 :: a1 :: a2 :: a3 :: a4 :: .int x :: t) 5 = true) (K : V l g own cc nL rt d (pc + 3) (a0 :: a1 :: a2 :: a3 :: a4 :: .int v :: t) st μ Q) : V l g own cc nL rt d pc (a0 :: a1 :: a2 :: a3 :: a4 :: .int x :: t) st μ Q := V_iinc dg rfl hv hn ho K
theorem V_lstore5 {a0 a1 a2 a3 a4 b b2 : Value} {t : List Value} {x : Int64} (dg : decode cc pc = .ok (.lstore 5, 2)) (hn : 6 < nL) (ho : okp (a0 :: a1 :: a2 :: a3 :: a4 :: b :: b2 :: t) 5 = true) (K : V l g own cc nL rt d (pc + 2) (a0 :: a1 :: a2 :: a3 :: a4 :: .long x :: .null :: t) st μ Q) : V l g own cc nL rt d pc (a0 :: a1 :: a2 :: a3 :: a4 :: b :: b2 :: t) (.long x :: st) μ Q := V_lstore dg hn ho K
theorem V_istore6 {a0 a1 a2 a3 a4 a5 b : Value} {t : List Value} {x : Int32} (dg : decode cc pc = .ok (.istore 6, 2)) (hn : 6 < nL) (ho : okp (a0 :: a1 :: a2 :: a3 :: a4 :: a5 :: b :: t) 6 = true) (K : V l g own cc nL rt d (pc + 2) (a0 :: a1 :: a2 :: a3 :: a4 :: a5 :: .int x :: t) st μ Q) : V l g own cc nL rt d pc (a0 :: a1 :: a2 :: a3 :: a4 :: a5 :: b :: t) (.int x :: st) μ Q := V_istore dg hn ho K
theorem V_astore6 {a0 a1 a2 a3 a4 a5 b : Value} {t : List Value} {x : Nat} (dg : decode cc pc = .ok (.astore 6, 2)) (hn : 6 < nL) (ho : okp (a0 :: a1 :: a2 :: a3 :: a4 :: a5 :: b :: t) 6 = true) (K : V l g own cc nL rt d (pc + 2) (a0 :: a1 :: a2 :: a3 :: a4 :: a5 :: .ref x :: t) st μ Q) : V l g own cc nL rt d pc (a0 :: a1 :: a2 :: a3 :: a4 :: a5 :: b :: t) (.ref x :: st) μ Q := V_astore dg hn ho K
theorem V_iinc6 {a0 a1 a2 a3 a4 a5 : Value} {t : List Value} {n : Int} {x v : Int32} (dg : decode cc pc = .ok (.iinc 6 n, 3)) (hv : x + Int32.ofInt n = v) (hn : 6 < nL) (ho : okp (a0 :: a1 :: a2 :: a3 :: a4 :: a5 :: .int x :: t) 6 = true) (K : V l g own cc nL rt d (pc + 3) (a0 :: a1 :: a2 :: a3 :: a4 :: a5 :: .int v :: t) st μ Q) : V l g own cc nL rt d pc (a0 :: a1 :: a2 :: a3 :: a4 :: a5 :: .int x :: t) st μ Q := V_iinc dg rfl hv hn ho K
theorem V_lstore6 {a0 a1 a2 a3 a4 a5 b b2 : Value} {t : List Value} {x : Int64} (dg : decode cc pc = .ok (.lstore 6, 2)) (hn : 7 < nL) (ho : okp (a0 :: a1 :: a2 :: a3 :: a4 :: a5 :: b :: b2 :: t) 6 = true) (K : V l g own cc nL rt d (pc + 2) (a0 :: a1 :: a2 :: a3 :: a4 :: a5 :: .long x :: .null :: t) st μ Q) : V l g own cc nL rt d pc (a0 :: a1 :: a2 :: a3 :: a4 :: a5 :: b :: b2 :: t) (.long x :: st) μ Q := V_lstore dg hn ho K
theorem V_istore7 {a0 a1 a2 a3 a4 a5 a6 b : Value} {t : List Value} {x : Int32} (dg : decode cc pc = .ok (.istore 7, 2)) (hn : 7 < nL) (ho : okp (a0 :: a1 :: a2 :: a3 :: a4 :: a5 :: a6 :: b :: t) 7 = true) (K : V l g own cc nL rt d (pc + 2) (a0 :: a1 :: a2 :: a3 :: a4 :: a5 :: a6 :: .int x :: t) st μ Q) : V l g own cc nL rt d pc (a0 :: a1 :: a2 :: a3 :: a4 :: a5 :: a6 :: b :: t) (.int x :: st) μ Q := V_istore dg hn ho K
theorem V_astore7 {a0 a1 a2 a3 a4 a5 a6 b : Value} {t : List Value} {x : Nat} (dg : decode cc pc = .ok (.astore 7, 2)) (hn : 7 < nL) (ho : okp (a0 :: a1 :: a2 :: a3 :: a4 :: a5 :: a6 :: b :: t) 7 = true) (K : V l g own cc nL rt d (pc + 2) (a0 :: a1 :: a2 :: a3 :: a4 :: a5 :: a6 :: .ref x :: t) st μ Q) : V l g own cc nL rt d pc (a0 :: a1 :: a2 :: a3 :: a4 :: a5 :: a6 :: b :: t) (.ref x :: st) μ Q := V_astore dg hn ho K
theorem V_iinc7 {a0 a1 a2 a3 a4 a5 a6 : Value} {t : List Value} {n : Int} {x v : Int32} (dg : decode cc pc = .ok (.iinc 7 n, 3)) (hv : x + Int32.ofInt n = v) (hn : 7 < nL) (ho : okp (a0 :: a1 :: a2 :: a3 :: a4 :: a5 :: a6 :: .int x :: t) 7 = true) (K : V l g own cc nL rt d (pc + 3) (a0 :: a1 :: a2 :: a3 :: a4 :: a5 :: a6 :: .int v :: t) st μ Q) : V l g own cc nL rt d pc (a0 :: a1 :: a2 :: a3 :: a4 :: a5 :: a6 :: .int x :: t) st μ Q := V_iinc dg rfl hv hn ho K
theorem V_lstore7 {a0 a1 a2 a3 a4 a5 a6 b b2 : Value} {t : List Value} {x : Int64} (dg : decode cc pc = .ok (.lstore 7, 2)) (hn : 8 < nL) (ho : okp (a0 :: a1 :: a2 :: a3 :: a4 :: a5 :: a6 :: b :: b2 :: t) 7 = true) (K : V l g own cc nL rt d (pc + 2) (a0 :: a1 :: a2 :: a3 :: a4 :: a5 :: a6 :: .long x :: .null :: t) st μ Q) : V l g own cc nL rt d pc (a0 :: a1 :: a2 :: a3 :: a4 :: a5 :: a6 :: b :: b2 :: t) (.long x :: st) μ Q := V_lstore dg hn ho K
theorem V_istore8 {a0 a1 a2 a3 a4 a5 a6 a7 b : Value} {t : List Value} {x : Int32} (dg : decode cc pc = .ok (.istore 8, 2)) (hn : 8 < nL) (ho : okp (a0 :: a1 :: a2 :: a3 :: a4 :: a5 :: a6 :: a7 :: b :: t) 8 = true) (K : V l g own cc nL rt d (pc + 2) (a0 :: a1 :: a2 :: a3 :: a4 :: a5 :: a6 :: a7 :: .int x :: t) st μ Q) : V l g own cc nL rt d pc (a0 :: a1 :: a2 :: a3 :: a4 :: a5 :: a6 :: a7 :: b :: t) (.int x :: st) μ Q := V_istore dg hn ho K
theorem V_astore8 {a0 a1 a2 a3 a4 a5 a6 a7 b : Value} {t : List Value} {x : Nat} (dg : decode cc pc = .ok (.astore 8, 2)) (hn : 8 < nL) (ho : okp (a0 :: a1 :: a2 :: a3 :: a4 :: a5 :: a6 :: a7 :: b :: t) 8 = true) (K : V l g own cc nL rt d (pc + 2) (a0 :: a1 :: a2 :: a3 :: a4 :: a5 :: a6 :: a7 :: .ref x :: t) st μ Q) : V l g own cc nL rt d pc (a0 :: a1 :: a2 :: a3 :: a4 :: a5 :: a6 :: a7 :: b :: t) (.ref x :: st) μ Q := V_astore dg hn ho K
theorem V_iinc8 {a0 a1 a2 a3 a4 a5 a6 a7 : Value} {t : List Value} {n : Int} {x v : Int32} (dg : decode cc pc = .ok (.iinc 8 n, 3)) (hv : x + Int32.ofInt n = v) (hn : 8 < nL) (ho : okp (a0 :: a1 :: a2 :: a3 :: a4 :: a5 :: a6 :: a7 :: .int x :: t) 8 = true) (K : V l g own cc nL rt d (pc + 3) (a0 :: a1 :: a2 :: a3 :: a4 :: a5 :: a6 :: a7 :: .int v :: t) st μ Q) : V l g own cc nL rt d pc (a0 :: a1 :: a2 :: a3 :: a4 :: a5 :: a6 :: a7 :: .int x :: t) st μ Q := V_iinc dg rfl hv hn ho K
theorem V_lstore8 {a0 a1 a2 a3 a4 a5 a6 a7 b b2 : Value} {t : List Value} {x : Int64} (dg : decode cc pc = .ok (.lstore 8, 2)) (hn : 9 < nL) (ho : okp (a0 :: a1 :: a2 :: a3 :: a4 :: a5 :: a6 :: a7 :: b :: b2 :: t) 8 = true) (K : V l g own cc nL rt d (pc + 2) (a0 :: a1 :: a2 :: a3 :: a4 :: a5 :: a6 :: a7 :: .long x :: .null :: t) st μ Q) : V l g own cc nL rt d pc (a0 :: a1 :: a2 :: a3 :: a4 :: a5 :: a6 :: a7 :: b :: b2 :: t) (.long x :: st) μ Q := V_lstore dg hn ho K
theorem V_istore9 {a0 a1 a2 a3 a4 a5 a6 a7 a8 b : Value} {t : List Value} {x : Int32} (dg : decode cc pc = .ok (.istore 9, 2)) (hn : 9 < nL) (ho : okp (a0 :: a1 :: a2 :: a3 :: a4 :: a5 :: a6 :: a7 :: a8 :: b :: t) 9 = true) (K : V l g own cc nL rt d (pc + 2) (a0 :: a1 :: a2 :: a3 :: a4 :: a5 :: a6 :: a7 :: a8 :: .int x :: t) st μ Q) : V l g own cc nL rt d pc (a0 :: a1 :: a2 :: a3 :: a4 :: a5 :: a6 :: a7 :: a8 :: b :: t) (.int x :: st) μ Q := V_istore dg hn ho K
theorem V_astore9 {a0 a1 a2 a3 a4 a5 a6 a7 a8 b : Value} {t : List Value} {x : Nat} (dg : decode cc pc = .ok (.astore 9, 2)) (hn : 9 < nL) (ho : okp (a0 :: a1 :: a2 :: a3 :: a4 :: a5 :: a6 :: a7 :: a8 :: b :: t) 9 = true) (K : V l g own cc nL rt d (pc + 2) (a0 :: a1 :: a2 :: a3 :: a4 :: a5 :: a6 :: a7 :: a8 :: .ref x :: t) st μ Q) : V l g own cc nL rt d pc (a0 :: a1 :: a2 :: a3 :: a4 :: a5 :: a6 :: a7 :: a8 :: b :: t) (.ref x :: st) μ Q := V_astore dg hn ho K
theorem V_iinc9 {a0 a1 a2 a3 a4 a5 a6 a7 a8 : Value} {t : List Value} {n : Int} {x v : Int32} (dg : decode cc pc = .ok (.iinc 9 n, 3)) (hv : x + Int32.ofInt n = v) (hn : 9 < nL) (ho : okp (a0 :: a1 :: a2 :: a3 :: a4 :: a5 :: a6 :: a7 :: a8 :: .int x :: t) 9 = true) (K : V l g own cc nL rt d (pc + 3) (a0 :: a1 :: a2 :: a3 :: a4 :: a5 :: a6 :: a7 :: a8 :: .int v :: t) st μ Q) : V l g own cc nL rt d pc (a0 :: a1 :: a2 :: a3 :: a4 :: a5 :: a6 :: a7 :: a8 :: .int x :: t) st μ Q := V_iinc dg rfl hv hn ho K
theorem V_lstore9 {a0 a1 a2 a3 a4 a5 a6 a7 a8 b b2 : Value} {t : List Value} {x : Int64} (dg : decode cc pc = .ok (.lstore 9, 2)) (hn : 10 < nL) (ho : okp (a0 :: a1 :: a2 :: a3 :: a4 :: a5 :: a6 :: a7 :: a8 :: b :: b2 :: t) 9 = true) (K : V l g own cc nL rt d (pc + 2) (a0 :: a1 :: a2 :: a3 :: a4 :: a5 :: a6 :: a7 :: a8 :: .long x :: .null :: t) st μ Q) : V l g own cc nL rt d pc (a0 :: a1 :: a2 :: a3 :: a4 :: a5 :: a6 :: a7 :: a8 :: b :: b2 :: t) (.long x :: st) μ Q := V_lstore dg hn ho K
theorem V_istore10 {a0 a1 a2 a3 a4 a5 a6 a7 a8 a9 b : Value} {t : List Value} {x : Int32} (dg : decode cc pc = .ok (.istore 10, 2)) (hn : 10 < nL) (ho : okp (a0 :: a1 :: a2 :: a3 :: a4 :: a5 :: a6 :: a7 :: a8 :: a9 :: b :: t) 10 = true) (K : V l g own cc nL rt d (pc + 2) (a0 :: a1 :: a2 :: a3 :: a4 :: a5 :: a6 :: a7 :: a8 :: a9 :: .int x :: t) st μ Q) : V l g own cc nL rt d pc (a0 :: a1 :: a2 :: a3 :: a4 :: a5 :: a6 :: a7 :: a8 :: a9 :: b :: t) (.int x :: st) μ Q := V_istore dg hn ho K
theorem V_astore10 {a0 a1 a2 a3 a4 a5 a6 a7 a8 a9 b : Value} {t : List Value} {x : Nat} (dg : decode cc pc = .ok (.astore 10, 2)) (hn : 10 < nL) (ho : okp (a0 :: a1 :: a2 :: a3 :: a4 :: a5 :: a6 :: a7 :: a8 :: a9 :: b :: t) 10 = true) (K : V l g own cc nL rt d (pc + 2) (a0 :: a1 :: a2 :: a3 :: a4 :: a5 :: a6 :: a7 :: a8 :: a9 :: .ref x :: t) st μ Q) : V l g own cc nL rt d pc (a0 :: a1 :: a2 :: a3 :: a4 :: a5 :: a6 :: a7 :: a8 :: a9 :: b :: t) (.ref x :: st) μ Q := V_astore dg hn ho K
theorem V_iinc10 {a0 a1 a2 a3 a4 a5 a6 a7 a8 a9 : Value} {t : List Value} {n : Int} {x v : Int32} (dg : decode cc pc = .ok (.iinc 10 n, 3)) (hv : x + Int32.ofInt n = v) (hn : 10 < nL) (ho : okp (a0 :: a1 :: a2 :: a3 :: a4 :: a5 :: a6 :: a7 :: a8 :: a9 :: .int x :: t) 10 = true) (K : V l g own cc nL rt d (pc + 3) (a0 :: a1 :: a2 :: a3 :: a4 :: a5 :: a6 :: a7 :: a8 :: a9 :: .int v :: t) st μ Q) : V l g own cc nL rt d pc (a0 :: a1 :: a2 :: a3 :: a4 :: a5 :: a6 :: a7 :: a8 :: a9 :: .int x :: t) st μ Q := V_iinc dg rfl hv hn ho K
theorem V_lstore10 {a0 a1 a2 a3 a4 a5 a6 a7 a8 a9 b b2 : Value} {t : List Value} {x : Int64} (dg : decode cc pc = .ok (.lstore 10, 2)) (hn : 11 < nL) (ho : okp (a0 :: a1 :: a2 :: a3 :: a4 :: a5 :: a6 :: a7 :: a8 :: a9 :: b :: b2 :: t) 10 = true) (K : V l g own cc nL rt d (pc + 2) (a0 :: a1 :: a2 :: a3 :: a4 :: a5 :: a6 :: a7 :: a8 :: a9 :: .long x :: .null :: t) st μ Q) : V l g own cc nL rt d pc (a0 :: a1 :: a2 :: a3 :: a4 :: a5 :: a6 :: a7 :: a8 :: a9 :: b :: b2 :: t) (.long x :: st) μ Q := V_lstore dg hn ho K
theorem V_istore11 {a0 a1 a2 a3 a4 a5 a6 a7 a8 a9 a10 b : Value} {t : List Value} {x : Int32} (dg : decode cc pc = .ok (.istore 11, 2)) (hn : 11 < nL) (ho : okp (a0 :: a1 :: a2 :: a3 :: a4 :: a5 :: a6 :: a7 :: a8 :: a9 :: a10 :: b :: t) 11 = true) (K : V l g own cc nL rt d (pc + 2) (a0 :: a1 :: a2 :: a3 :: a4 :: a5 :: a6 :: a7 :: a8 :: a9 :: a10 :: .int x :: t) st μ Q) : V l g own cc nL rt d pc (a0 :: a1 :: a2 :: a3 :: a4 :: a5 :: a6 :: a7 :: a8 :: a9 :: a10 :: b :: t) (.int x :: st) μ Q := V_istore dg hn ho K
theorem V_astore11 {a0 a1 a2 a3 a4 a5 a6 a7 a8 a9 a10 b : Value} {t : List Value} {x : Nat} (dg : decode cc pc = .ok (.astore 11, 2)) (hn : 11 < nL) (ho : okp (a0 :: a1 :: a2 :: a3 :: a4 :: a5 :: a6 :: a7 :: a8 :: a9 :: a10 :: b :: t) 11 = true) (K : V l g own cc nL rt d (pc + 2) (a0 :: a1 :: a2 :: a3 :: a4 :: a5 :: a6 :: a7 :: a8 :: a9 :: a10 :: .ref x :: t) st μ Q) : V l g own cc nL rt d pc (a0 :: a1 :: a2 :: a3 :: a4 :: a5 :: a6 :: a7 :: a8 :: a9 :: a10 :: b :: t) (.ref x :: st) μ Q := V_astore dg hn ho K
theorem V_iinc11 {a0 a1 a2 a3 a4 a5 a6 a7 a8 a9 a10 : Value} {t : List Value} {n : Int} {x v : Int32} (dg : decode cc pc = .ok (.iinc 11 n, 3)) (hv : x + Int32.ofInt n = v) (hn : 11 < nL) (ho : okp (a0 :: a1 :: a2 :: a3 :: a4 :: a5 :: a6 :: a7 :: a8 :: a9 :: a10 :: .int x :: t) 11 = true) (K : V l g own cc nL rt d (pc + 3) (a0 :: a1 :: a2 :: a3 :: a4 :: a5 :: a6 :: a7 :: a8 :: a9 :: a10 :: .int v :: t) st μ Q) : V l g own cc nL rt d pc (a0 :: a1 :: a2 :: a3 :: a4 :: a5 :: a6 :: a7 :: a8 :: a9 :: a10 :: .int x :: t) st μ Q := V_iinc dg rfl hv hn ho K
theorem V_lstore11 {a0 a1 a2 a3 a4 a5 a6 a7 a8 a9 a10 b b2 : Value} {t : List Value} {x : Int64} (dg : decode cc pc = .ok (.lstore 11, 2)) (hn : 12 < nL) (ho : okp (a0 :: a1 :: a2 :: a3 :: a4 :: a5 :: a6 :: a7 :: a8 :: a9 :: a10 :: b :: b2 :: t) 11 = true) (K : V l g own cc nL rt d (pc + 2) (a0 :: a1 :: a2 :: a3 :: a4 :: a5 :: a6 :: a7 :: a8 :: a9 :: a10 :: .long x :: .null :: t) st μ Q) : V l g own cc nL rt d pc (a0 :: a1 :: a2 :: a3 :: a4 :: a5 :: a6 :: a7 :: a8 :: a9 :: a10 :: b :: b2 :: t) (.long x :: st) μ Q := V_lstore dg hn ho K
theorem V_istore12 {a0 a1 a2 a3 a4 a5 a6 a7 a8 a9 a10 a11 b : Value} {t : List Value} {x : Int32} (dg : decode cc pc = .ok (.istore 12, 2)) (hn : 12 < nL) (ho : okp (a0 :: a1 :: a2 :: a3 :: a4 :: a5 :: a6 :: a7 :: a8 :: a9 :: a10 :: a11 :: b :: t) 12 = true) (K : V l g own cc nL rt d (pc + 2) (a0 :: a1 :: a2 :: a3 :: a4 :: a5 :: a6 :: a7 :: a8 :: a9 :: a10 :: a11 :: .int x :: t) st μ Q) : V l g own cc nL rt d pc (a0 :: a1 :: a2 :: a3 :: a4 :: a5 :: a6 :: a7 :: a8 :: a9 :: a10 :: a11 :: b :: t) (.int x :: st) μ Q := V_istore dg hn ho K
theorem V_astore12 {a0 a1 a2 a3 a4 a5 a6 a7 a8 a9 a10 a11 b : Value} {t : List Value} {x : Nat} (dg : decode cc pc = .ok (.astore 12, 2)) (hn : 12 < nL) (ho : okp (a0 :: a1 :: a2 :: a3 :: a4 :: a5 :: a6 :: a7 :: a8 :: a9 :: a10 :: a11 :: b :: t) 12 = true) (K : V l g own cc nL rt d (pc + 2) (a0 :: a1 :: a2 :: a3 :: a4 :: a5 :: a6 :: a7 :: a8 :: a9 :: a10 :: a11 :: .ref x :: t) st μ Q) : V l g own cc nL rt d pc (a0 :: a1 :: a2 :: a3 :: a4 :: a5 :: a6 :: a7 :: a8 :: a9 :: a10 :: a11 :: b :: t) (.ref x :: st) μ Q := V_astore dg hn ho K
theorem V_iinc12 {a0 a1 a2 a3 a4 a5 a6 a7 a8 a9 a10 a11 : Value} {t : List Value} {n : Int} {x v : Int32} (dg : decode cc pc = .ok (.iinc 12 n, 3)) (hv : x + Int32.ofInt n = v) (hn : 12 < nL) (ho : okp (a0 :: a1 :: a2 :: a3 :: a4 :: a5 :: a6 :: a7 :: a8 :: a9 :: a10 :: a11 :: .int x :: t) 12 = true) (K : V l g own cc nL rt d (pc + 3) (a0 :: a1 :: a2 :: a3 :: a4 :: a5 :: a6 :: a7 :: a8 :: a9 :: a10 :: a11 :: .int v :: t) st μ Q) : V l g own cc nL rt d pc (a0 :: a1 :: a2 :: a3 :: a4 :: a5 :: a6 :: a7 :: a8 :: a9 :: a10 :: a11 :: .int x :: t) st μ Q := V_iinc dg rfl hv hn ho K
theorem V_lstore12 {a0 a1 a2 a3 a4 a5 a6 a7 a8 a9 a10 a11 b b2 : Value} {t : List Value} {x : Int64} (dg : decode cc pc = .ok (.lstore 12, 2)) (hn : 13 < nL) (ho : okp (a0 :: a1 :: a2 :: a3 :: a4 :: a5 :: a6 :: a7 :: a8 :: a9 :: a10 :: a11 :: b :: b2 :: t) 12 = true) (K : V l g own cc nL rt d (pc + 2) (a0 :: a1 :: a2 :: a3 :: a4 :: a5 :: a6 :: a7 :: a8 :: a9 :: a10 :: a11 :: .long x :: .null :: t) st μ Q) : V l g own cc nL rt d pc (a0 :: a1 :: a2 :: a3 :: a4 :: a5 :: a6 :: a7 :: a8 :: a9 :: a10 :: a11 :: b :: b2 :: t) (.long x :: st) μ Q := V_lstore dg hn ho K
theorem V_ifeq {x : Int32} {off : Int} {tgt : Nat} (dg : decode cc pc = .ok (.ifCond .eq off, 3)) (ht : (pc : Int) + off = (tgt : Int)) (kt : x = 0 → V l g own cc nL rt d tgt lv st μ Q) (kf : ¬ x = 0 → V l g own cc nL rt d (pc + 3) lv st μ Q) : V l g own cc nL rt d pc lv (.int x :: st) μ Q := by
  intro p e s m args below meth c C H locs ls hP hS hl
  exact lv_if_eq C.1 C.2.1 dg ht (fun q => kt q p e s m args below meth c C H locs ls hP hS hl) (fun q => kf q p e s m args below meth c C H locs ls hP hS hl)
theorem V_icmpeq {x y : Int32} {off : Int} {tgt : Nat} (dg : decode cc pc = .ok (.if_icmp .eq off, 3)) (ht : (pc : Int) + off = (tgt : Int)) (kt : x = y → V l g own cc nL rt d tgt lv st μ Q) (kf : ¬ x = y → V l g own cc nL rt d (pc + 3) lv st μ Q) : V l g own cc nL rt d pc lv (.int y :: .int x :: st) μ Q := by
  intro p e s m args below meth c C H locs ls hP hS hl
  exact lv_icmp_eq C.1 C.2.1 dg ht (fun q => kt q p e s m args below meth c C H locs ls hP hS hl) (fun q => kf q p e s m args below meth c C H locs ls hP hS hl)
theorem V_ifne {x : Int32} {off : Int} {tgt : Nat} (dg : decode cc pc = .ok (.ifCond .ne off, 3)) (ht : (pc : Int) + off = (tgt : Int)) (kt : ¬ x = 0 → V l g own cc nL rt d tgt lv st μ Q) (kf : x = 0 → V l g own cc nL rt d (pc + 3) lv st μ Q) : V l g own cc nL rt d pc lv (.int x :: st) μ Q := by
  intro p e s m args below meth c C H locs ls hP hS hl
  exact lv_if_ne C.1 C.2.1 dg ht (fun q => kt q p e s m args below meth c C H locs ls hP hS hl) (fun q => kf q p e s m args below meth c C H locs ls hP hS hl)
theorem V_icmpne {x y : Int32} {off : Int} {tgt : Nat} (dg : decode cc pc = .ok (.if_icmp .ne off, 3)) (ht : (pc : Int) + off = (tgt : Int)) (kt : ¬ x = y → V l g own cc nL rt d tgt lv st μ Q) (kf : x = y → V l g own cc nL rt d (pc + 3) lv st μ Q) : V l g own cc nL rt d pc lv (.int y :: .int x :: st) μ Q := by
  intro p e s m args below meth c C H locs ls hP hS hl
  exact lv_icmp_ne C.1 C.2.1 dg ht (fun q => kt q p e s m args below meth c C H locs ls hP hS hl) (fun q => kf q p e s m args below meth c C H locs ls hP hS hl)
theorem V_iflt {x : Int32} {off : Int} {tgt : Nat} (dg : decode cc pc = .ok (.ifCond .lt off, 3)) (ht : (pc : Int) + off = (tgt : Int)) (kt : x < 0 → V l g own cc nL rt d tgt lv st μ Q) (kf : ¬ x < 0 → V l g own cc nL rt d (pc + 3) lv st μ Q) : V l g own cc nL rt d pc lv (.int x :: st) μ Q := by
  intro p e s m args below meth c C H locs ls hP hS hl
  exact lv_if_lt C.1 C.2.1 dg ht (fun q => kt q p e s m args below meth c C H locs ls hP hS hl) (fun q => kf q p e s m args below meth c C H locs ls hP hS hl)
theorem V_icmplt {x y : Int32} {off : Int} {tgt : Nat} (dg : decode cc pc = .ok (.if_icmp .lt off, 3)) (ht : (pc : Int) + off = (tgt : Int)) (kt : x < y → V l g own cc nL rt d tgt lv st μ Q) (kf : ¬ x < y → V l g own cc nL rt d (pc + 3) lv st μ Q) : V l g own cc nL rt d pc lv (.int y :: .int x :: st) μ Q := by
  intro p e s m args below meth c C H locs ls hP hS hl
  exact lv_icmp_lt C.1 C.2.1 dg ht (fun q => kt q p e s m args below meth c C H locs ls hP hS hl) (fun q => kf q p e s m args below meth c C H locs ls hP hS hl)
theorem V_ifge {x : Int32} {off : Int} {tgt : Nat} (dg : decode cc pc = .ok (.ifCond .ge off, 3)) (ht : (pc : Int) + off = (tgt : Int)) (kt : 0 ≤ x → V l g own cc nL rt d tgt lv st μ Q) (kf : ¬ 0 ≤ x → V l g own cc nL rt d (pc + 3) lv st μ Q) : V l g own cc nL rt d pc lv (.int x :: st) μ Q := by
  intro p e s m args below meth c C H locs ls hP hS hl
  exact lv_if_ge C.1 C.2.1 dg ht (fun q => kt q p e s m args below meth c C H locs ls hP hS hl) (fun q => kf q p e s m args below meth c C H locs ls hP hS hl)
theorem V_icmpge {x y : Int32} {off : Int} {tgt : Nat} (dg : decode cc pc = .ok (.if_icmp .ge off, 3)) (ht : (pc : Int) + off = (tgt : Int)) (kt : y ≤ x → V l g own cc nL rt d tgt lv st μ Q) (kf : ¬ y ≤ x → V l g own cc nL rt d (pc + 3) lv st μ Q) : V l g own cc nL rt d pc lv (.int y :: .int x :: st) μ Q := by
  intro p e s m args below meth c C H locs ls hP hS hl
  exact lv_icmp_ge C.1 C.2.1 dg ht (fun q => kt q p e s m args below meth c C H locs ls hP hS hl) (fun q => kf q p e s m args below meth c C H locs ls hP hS hl)
theorem V_ifgt {x : Int32} {off : Int} {tgt : Nat} (dg : decode cc pc = .ok (.ifCond .gt off, 3)) (ht : (pc : Int) + off = (tgt : Int)) (kt : 0 < x → V l g own cc nL rt d tgt lv st μ Q) (kf : ¬ 0 < x → V l g own cc nL rt d (pc + 3) lv st μ Q) : V l g own cc nL rt d pc lv (.int x :: st) μ Q := by
  intro p e s m args below meth c C H locs ls hP hS hl
  exact lv_if_gt C.1 C.2.1 dg ht (fun q => kt q p e s m args below meth c C H locs ls hP hS hl) (fun q => kf q p e s m args below meth c C H locs ls hP hS hl)
theorem V_icmpgt {x y : Int32} {off : Int} {tgt : Nat} (dg : decode cc pc = .ok (.if_icmp .gt off, 3)) (ht : (pc : Int) + off = (tgt : Int)) (kt : y < x → V l g own cc nL rt d tgt lv st μ Q) (kf : ¬ y < x → V l g own cc nL rt d (pc + 3) lv st μ Q) : V l g own cc nL rt d pc lv (.int y :: .int x :: st) μ Q := by
  intro p e s m args below meth c C H locs ls hP hS hl
  exact lv_icmp_gt C.1 C.2.1 dg ht (fun q => kt q p e s m args below meth c C H locs ls hP hS hl) (fun q => kf q p e s m args below meth c C H locs ls hP hS hl)
theorem V_ifle {x : Int32} {off : Int} {tgt : Nat} (dg : decode cc pc = .ok (.ifCond .le off, 3)) (ht : (pc : Int) + off = (tgt : Int)) (kt : x ≤ 0 → V l g own cc nL rt d tgt lv st μ Q) (kf : ¬ x ≤ 0 → V l g own cc nL rt d (pc + 3) lv st μ Q) : V l g own cc nL rt d pc lv (.int x :: st) μ Q := by
  intro p e s m args below meth c C H locs ls hP hS hl
  exact lv_if_le C.1 C.2.1 dg ht (fun q => kt q p e s m args below meth c C H locs ls hP hS hl) (fun q => kf q p e s m args below meth c C H locs ls hP hS hl)
theorem V_icmple {x y : Int32} {off : Int} {tgt : Nat} (dg : decode cc pc = .ok (.if_icmp .le off, 3)) (ht : (pc : Int) + off = (tgt : Int)) (kt : x ≤ y → V l g own cc nL rt d tgt lv st μ Q) (kf : ¬ x ≤ y → V l g own cc nL rt d (pc + 3) lv st μ Q) : V l g own cc nL rt d pc lv (.int y :: .int x :: st) μ Q := by
  intro p e s m args below meth c C H locs ls hP hS hl
  exact lv_icmp_le C.1 C.2.1 dg ht (fun q => kt q p e s m args below meth c C H locs ls hP hS hl) (fun q => kf q p e s m args below meth c C H locs ls hP hS hl)
theorem V_goto {off : Int} {tgt : Nat} (dg : decode cc pc = .ok (.goto off, 3)) (ht : (pc : Int) + off = (tgt : Int)) (K : V l g own cc nL rt d tgt lv st μ Q) : V l g own cc nL rt d pc lv st μ Q := by
  intro p e s m args below meth c C H locs ls hP hS hl
  exact lv_goto C.1 C.2.1 dg ht (K p e s m args below meth c C H locs ls hP hS hl)
theorem V_tsIn {dflt lo hi : Int} {offs : Array Int} {len : Nat} {x : Int32} {off : Int} {tgt : Nat} (dg : decode cc pc = .ok (.tableswitch dflt lo hi offs, len)) (h1 : ¬ x.toInt < lo) (h2 : ¬ hi < x.toInt) (ho : offs[(x.toInt - lo).toNat]? = some off) (ht : (pc : Int) + off = (tgt : Int)) (K : V l g own cc nL rt d tgt lv st μ Q) : V l g own cc nL rt d pc lv (.int x :: st) μ Q := by
  intro p e s m args below meth c C H locs ls hP hS hl
  exact lv_tableIn C.1 C.2.1 dg h1 h2 ho ht (K p e s m args below meth c C H locs ls hP hS hl)
theorem V_tsOut {dflt lo hi : Int} {offs : Array Int} {len : Nat} {x : Int32} {tgt : Nat} (dg : decode cc pc = .ok (.tableswitch dflt lo hi offs, len)) (h : x.toInt < lo ∨ hi < x.toInt) (ht : (pc : Int) + dflt = (tgt : Int)) (K : V l g own cc nL rt d tgt lv st μ Q) : V l g own cc nL rt d pc lv (.int x :: st) μ Q := by
  intro p e s m args below meth c C H locs ls hP hS hl
  exact lv_tableOut C.1 C.2.1 dg h ht (K p e s m args below meth c C H locs ls hP hS hl)
theorem V_iret {x : Int32} (dg : decode cc pc = .ok (.ireturn, 1)) (hrt : rt = some .int) (h : Q (some (.int x)) μ) : V l g own cc nL rt d pc lv [.int x] μ Q := by
  intro p e s m args below meth c C H locs ls hP hS hl
  have hlk : meth.locks = false := C.2.2.2.2.2.1
  exact W.iret C.1 C.2.1 (C.2.2.1.trans hrt) (fun t ht hW => ⟨⟨some (.int x), μ, rfl, h, by rw [ht]; exact hP⟩, hS.F ht⟩) hS.2.2 dg hlk
theorem V_zret {x : Int32} (dg : decode cc pc = .ok (.ireturn, 1)) (hrt : rt = some .boolean) (hx : x = 0 ∨ x = 1) (h : Q (some (.int x)) μ) : V l g own cc nL rt d pc lv [.int x] μ Q := by
  intro p e s m args below meth c C H locs ls hP hS hl
  have hlk : meth.locks = false := C.2.2.2.2.2.1
  exact W.zret C.1 C.2.1 (C.2.2.1.trans hrt) (by rcases hx with rfl | rfl <;> rfl) (fun t ht hW => ⟨⟨some (.int x), μ, rfl, h, by rw [ht]; exact hP⟩, hS.F ht⟩) hS.2.2 dg hlk
theorem V_lret {x : Int64} (dg : decode cc pc = .ok (.lreturn, 1)) (hrt : rt = some .long) (h : Q (some (.long x)) μ) : V l g own cc nL rt d pc lv [.long x] μ Q := by
  intro p e s m args below meth c C H locs ls hP hS hl
  have hlk : meth.locks = false := C.2.2.2.2.2.1
  exact W.lret C.1 C.2.1 (C.2.2.1.trans hrt) (fun t ht hW => ⟨⟨some (.long x), μ, rfl, h, by rw [ht]; exact hP⟩, hS.F ht⟩) hS.2.2 dg hlk
theorem V_vret (dg : decode cc pc = .ok (.return_, 1)) (hrt : rt = none) (h : Q none μ) : V l g own cc nL rt d pc lv [] μ Q := by
  intro p e s m args below meth c C H locs ls hP hS hl
  have hlk : meth.locks = false := C.2.2.2.2.2.1
  exact W.vret C.1 C.2.1 (C.2.2.1.trans hrt) (fun t ht hW => ⟨⟨none, μ, rfl, h, by rw [ht]; exact hP⟩, hS.F ht⟩) hS.2.2 dg hlk
theorem V_getI {k ci j idx : Nat} (dg : decode cc pc = .ok (.getfield idx, 3)) (fl : FLp own idx ci j) (hv : ∀ ad i l r, (flds ci ad i l r)[j]? = some (.int (i j))) (hk : k < 88) (ht : kt k = ci) (K : V l g own cc nL rt d (pc + 3) lv (.int (μ.1 k j) :: st) μ Q) : V l g own cc nL rt d pc lv (.ref k :: st) μ Q := by
  intro p e s m args below meth c C H locs ls hP hS hl
  obtain ⟨hx, hb, hr0, hml, hown, hlk, hts, hO⟩ := id C
  obtain ⟨f1, f2, f3⟩ := fl
  obtain ⟨c1, c2, c3, c4⟩ := CLo_all ci f1
  have he := Wd_at g μ hk
  rw [cellE_obj ht f1] at he
  rcases f3 with f3 | f3
  · exact va_get (D := g.1) (cl := vwCl) (tys := tysW g) hx hb hts c2 hown hO.1 hP k he c1 j f2 (hts _ f3) (fun _ q => q) (hv _ _ _ _) dg (K p e s m args below meth c C H locs ls hP hS hl)
  · exact va_getN (D := g.1) (cl := vwCl) (tys := tysW g) hx hb hts c2 hown hO.1 hP k he c1 j f2 (va_Nw.use rfl (hO.2.1 _ f3)) (fun _ q => q) (hv _ _ _ _) dg (K p e s m args below meth c C H locs ls hP hS hl)
theorem V_getL {k ci j idx : Nat} (dg : decode cc pc = .ok (.getfield idx, 3)) (fl : FLp own idx ci j) (hv : ∀ ad i l r, (flds ci ad i l r)[j]? = some (.long (l j))) (hk : k < 88) (ht : kt k = ci) (K : V l g own cc nL rt d (pc + 3) lv (.long (μ.2.1 k j) :: st) μ Q) : V l g own cc nL rt d pc lv (.ref k :: st) μ Q := by
  intro p e s m args below meth c C H locs ls hP hS hl
  obtain ⟨hx, hb, hr0, hml, hown, hlk, hts, hO⟩ := id C
  obtain ⟨f1, f2, f3⟩ := fl
  obtain ⟨c1, c2, c3, c4⟩ := CLo_all ci f1
  have he := Wd_at g μ hk
  rw [cellE_obj ht f1] at he
  rcases f3 with f3 | f3
  · exact va_get (D := g.1) (cl := vwCl) (tys := tysW g) hx hb hts c2 hown hO.1 hP k he c1 j f2 (hts _ f3) (fun _ q => q) (hv _ _ _ _) dg (K p e s m args below meth c C H locs ls hP hS hl)
  · exact va_getN (D := g.1) (cl := vwCl) (tys := tysW g) hx hb hts c2 hown hO.1 hP k he c1 j f2 (va_Nw.use rfl (hO.2.1 _ f3)) (fun _ q => q) (hv _ _ _ _) dg (K p e s m args below meth c C H locs ls hP hS hl)
theorem V_getR {k ci j idx : Nat} {k2 : Nat} (dg : decode cc pc = .ok (.getfield idx, 3)) (fl : FLp own idx ci j) (hv : ∀ ad i l r, (flds ci ad i l r)[j]? = some (.ref (ad (r j)))) (hk : k < 88) (ht : kt k = ci) (hr : rfs μ.2.2 k j = k2) (K : V l g own cc nL rt d (pc + 3) lv (.ref k2 :: st) μ Q) : V l g own cc nL rt d pc lv (.ref k :: st) μ Q := by
  intro p e s m args below meth c C H locs ls hP hS hl
  obtain ⟨hx, hb, hr0, hml, hown, hlk, hts, hO⟩ := id C
  subst hr
  obtain ⟨f1, f2, f3⟩ := fl
  obtain ⟨c1, c2, c3, c4⟩ := CLo_all ci f1
  have he := Wd_at g μ hk
  rw [cellE_obj ht f1] at he
  rcases f3 with f3 | f3
  · exact va_get (D := g.1) (cl := vwCl) (tys := tysW g) hx hb hts c2 hown hO.1 hP k he c1 j f2 (hts _ f3) (fun _ q => q) (hv _ _ _ _) dg (K p e s m args below meth c C H locs ls hP hS hl)
  · exact va_getN (D := g.1) (cl := vwCl) (tys := tysW g) hx hb hts c2 hown hO.1 hP k he c1 j f2 (va_Nw.use rfl (hO.2.1 _ f3)) (fun _ q => q) (hv _ _ _ _) dg (K p e s m args below meth c C H locs ls hP hS hl)
theorem V_putI {k ci j idx : Nat} {v : Int32} (dg : decode cc pc = .ok (.putfield idx, 3)) (fl : FLp own idx ci j) (hv : ∀ ad i l r (v : Int32), (flds ci ad i l r).set j (.int v) = flds ci ad (fun b => if b = j then v else i b) l r) (hty : clTy ci j = .int) (hfin : (clT ci j).2.2.2 = false) (hk : k < 88) (ht : kt k = ci) (K : V l g own cc nL rt d (pc + 3) lv st (setI μ k j v) Q) : V l g own cc nL rt d pc lv (.int v :: .ref k :: st) μ Q := by
  intro p e s m args below meth c C H locs ls hP hS hl
  obtain ⟨hx, hb, hr0, hml, hown, hlk, hts, hO⟩ := id C
  obtain ⟨f1, f2, f3⟩ := fl
  obtain ⟨c1, c2, c3, c4⟩ := CLo_all ci f1
  have he := Wd_at g μ hk
  rw [cellE_obj ht f1] at he
  have hlen : j < (flds ci g.2.2 (μ.1 k) (μ.2.1 k) (rfs μ.2.2 k)).length := by
    have f4 := f2
    have f5 := f1
    clear hv he c1 c2 c3 c4 f3 f1 f2
    match ci, f5 with
    | 0, _ => exact f4
    | 1, _ => exact f4
    | 2, _ => exact f4
    | 3, _ => exact f4
    | 4, _ => exact f4
    | 5, _ => exact f4
    | 6, _ => exact f4
    | 7, _ => exact f4
    | 8, _ => exact f4
  have hset : (Wd g μ).set k (g.2.2 k, .inr (ci, (flds ci g.2.2 (μ.1 k) (μ.2.1 k) (rfs μ.2.2 k)).set j (.int v))) = Wd g (setI μ k j v) := by
    refine Wd_set ?_ (fun a _ hn => cellsI a hn)
    show cellE g μ.2.2 k (up2 μ.1 k j v k) (μ.2.1 k) = _
    rw [cellE_obj ht f1, hv, up2_row]
  have KK : ∀ (H1 : Heap) (locs1 : List Loc), va_P g.1 vwCl ((Wd g μ).set k (g.2.2 k, .inr (ci, (flds ci g.2.2 (μ.1 k) (μ.2.1 k) (rfs μ.2.2 k)).set j (.int v)))) H1 → va_D (AW g) ((Wd g μ).set k (g.2.2 k, .inr (ci, (flds ci g.2.2 (μ.1 k) (μ.2.1 k) (rfs μ.2.2 k)).set j (.int v)))) → va_S (AW g) s.heap H1 locs1 → W p l e (rmv d) s m args below meth c H1 locs1 0 0 (MQ below (Qvw g Q) args s 0 0 (AW g)) (F0 m (pc + 3) ls (st.map (conc g))) := by
    intro H1 locs1 p1 _ s1
    rw [hset] at p1
    exact K p e s m args below meth c C H1 locs1 ls p1 s1 hl
  rcases f3 with f3 | f3
  · exact va_put (D := g.1) (cl := vwCl) (tys := tysW g) hx hb hts c2 (clTy ci) c3 c4 hown hO.1 hP (hO.D μ) hS k he c1 j f2 (hts _ f3) (fun _ q => q) hfin ((c3 j f2).trans (congrArg some hty)) rfl rfl hlen dg KK
  · exact va_putN (D := g.1) (cl := vwCl) (tys := tysW g) hx hb hts c2 (clTy ci) c3 c4 hown hO.1 hP (hO.D μ) hS k he c1 j f2 (va_Nw.use rfl (hO.2.1 _ f3)) (fun _ q => q) hfin ((c3 j f2).trans (congrArg some hty)) rfl rfl hlen dg KK
theorem V_putL {k ci j idx : Nat} {v : Int64} (dg : decode cc pc = .ok (.putfield idx, 3)) (fl : FLp own idx ci j) (hv : ∀ ad i l r (v : Int64), (flds ci ad i l r).set j (.long v) = flds ci ad i (fun b => if b = j then v else l b) r) (hty : clTy ci j = .long) (hfin : (clT ci j).2.2.2 = false) (hk : k < 88) (ht : kt k = ci) (K : V l g own cc nL rt d (pc + 3) lv st (setL μ k j v) Q) : V l g own cc nL rt d pc lv (.long v :: .ref k :: st) μ Q := by
  intro p e s m args below meth c C H locs ls hP hS hl
  obtain ⟨hx, hb, hr0, hml, hown, hlk, hts, hO⟩ := id C
  obtain ⟨f1, f2, f3⟩ := fl
  obtain ⟨c1, c2, c3, c4⟩ := CLo_all ci f1
  have he := Wd_at g μ hk
  rw [cellE_obj ht f1] at he
  have hlen : j < (flds ci g.2.2 (μ.1 k) (μ.2.1 k) (rfs μ.2.2 k)).length := by
    have f4 := f2
    have f5 := f1
    clear hv he c1 c2 c3 c4 f3 f1 f2
    match ci, f5 with
    | 0, _ => exact f4
    | 1, _ => exact f4
    | 2, _ => exact f4
    | 3, _ => exact f4
    | 4, _ => exact f4
    | 5, _ => exact f4
    | 6, _ => exact f4
    | 7, _ => exact f4
    | 8, _ => exact f4
  have hset : (Wd g μ).set k (g.2.2 k, .inr (ci, (flds ci g.2.2 (μ.1 k) (μ.2.1 k) (rfs μ.2.2 k)).set j (.long v))) = Wd g (setL μ k j v) := by
    refine Wd_set ?_ (fun a _ hn => cellsL a hn)
    show cellE g μ.2.2 k (μ.1 k) (up2 μ.2.1 k j v k) = _
    rw [cellE_obj ht f1, hv, up2_row]
  have KK : ∀ (H1 : Heap) (locs1 : List Loc), va_P g.1 vwCl ((Wd g μ).set k (g.2.2 k, .inr (ci, (flds ci g.2.2 (μ.1 k) (μ.2.1 k) (rfs μ.2.2 k)).set j (.long v)))) H1 → va_D (AW g) ((Wd g μ).set k (g.2.2 k, .inr (ci, (flds ci g.2.2 (μ.1 k) (μ.2.1 k) (rfs μ.2.2 k)).set j (.long v)))) → va_S (AW g) s.heap H1 locs1 → W p l e (rmv d) s m args below meth c H1 locs1 0 0 (MQ below (Qvw g Q) args s 0 0 (AW g)) (F0 m (pc + 3) ls (st.map (conc g))) := by
    intro H1 locs1 p1 _ s1
    rw [hset] at p1
    exact K p e s m args below meth c C H1 locs1 ls p1 s1 hl
  rcases f3 with f3 | f3
  · exact va_put (D := g.1) (cl := vwCl) (tys := tysW g) hx hb hts c2 (clTy ci) c3 c4 hown hO.1 hP (hO.D μ) hS k he c1 j f2 (hts _ f3) (fun _ q => q) hfin ((c3 j f2).trans (congrArg some hty)) rfl rfl hlen dg KK
  · exact va_putN (D := g.1) (cl := vwCl) (tys := tysW g) hx hb hts c2 (clTy ci) c3 c4 hown hO.1 hP (hO.D μ) hS k he c1 j f2 (va_Nw.use rfl (hO.2.1 _ f3)) (fun _ q => q) hfin ((c3 j f2).trans (congrArg some hty)) rfl rfl hlen dg KK
theorem V_putZ {k ci j idx : Nat} {v : Int32} (dg : decode cc pc = .ok (.putfield idx, 3)) (fl : FLp own idx ci j) (hv : ∀ ad i l r (v : Int32), (flds ci ad i l r).set j (.int v) = flds ci ad (fun b => if b = j then v else i b) l r) (hty : clTy ci j = .boolean) (hfin : (clT ci j).2.2.2 = false) (hk : k < 88) (ht : kt k = ci) (hz : v = 0 ∨ v = 1) (K : V l g own cc nL rt d (pc + 3) lv st (setI μ k j v) Q) : V l g own cc nL rt d pc lv (.int v :: .ref k :: st) μ Q := by
  intro p e s m args below meth c C H locs ls hP hS hl
  obtain ⟨hx, hb, hr0, hml, hown, hlk, hts, hO⟩ := id C
  obtain ⟨f1, f2, f3⟩ := fl
  obtain ⟨c1, c2, c3, c4⟩ := CLo_all ci f1
  have he := Wd_at g μ hk
  rw [cellE_obj ht f1] at he
  have hlen : j < (flds ci g.2.2 (μ.1 k) (μ.2.1 k) (rfs μ.2.2 k)).length := by
    have f4 := f2
    have f5 := f1
    clear hv he c1 c2 c3 c4 f3 f1 f2
    match ci, f5 with
    | 0, _ => exact f4
    | 1, _ => exact f4
    | 2, _ => exact f4
    | 3, _ => exact f4
    | 4, _ => exact f4
    | 5, _ => exact f4
    | 6, _ => exact f4
    | 7, _ => exact f4
    | 8, _ => exact f4
  have hset : (Wd g μ).set k (g.2.2 k, .inr (ci, (flds ci g.2.2 (μ.1 k) (μ.2.1 k) (rfs μ.2.2 k)).set j (.int v))) = Wd g (setI μ k j v) := by
    refine Wd_set ?_ (fun a _ hn => cellsI a hn)
    show cellE g μ.2.2 k (up2 μ.1 k j v k) (μ.2.1 k) = _
    rw [cellE_obj ht f1, hv, up2_row]
  have KK : ∀ (H1 : Heap) (locs1 : List Loc), va_P g.1 vwCl ((Wd g μ).set k (g.2.2 k, .inr (ci, (flds ci g.2.2 (μ.1 k) (μ.2.1 k) (rfs μ.2.2 k)).set j (.int v)))) H1 → va_D (AW g) ((Wd g μ).set k (g.2.2 k, .inr (ci, (flds ci g.2.2 (μ.1 k) (μ.2.1 k) (rfs μ.2.2 k)).set j (.int v)))) → va_S (AW g) s.heap H1 locs1 → W p l e (rmv d) s m args below meth c H1 locs1 0 0 (MQ below (Qvw g Q) args s 0 0 (AW g)) (F0 m (pc + 3) ls (st.map (conc g))) := by
    intro H1 locs1 p1 _ s1
    rw [hset] at p1
    exact K p e s m args below meth c C H1 locs1 ls p1 s1 hl
  rcases f3 with f3 | f3
  · exact va_put (D := g.1) (cl := vwCl) (tys := tysW g) hx hb hts c2 (clTy ci) c3 c4 hown hO.1 hP (hO.D μ) hS k he c1 j f2 (hts _ f3) (fun _ q => q) hfin ((c3 j f2).trans (congrArg some hty)) (by rcases hz with rfl | rfl <;> rfl) (by rcases hz with rfl | rfl <;> rfl) hlen dg KK
  · exact va_putN (D := g.1) (cl := vwCl) (tys := tysW g) hx hb hts c2 (clTy ci) c3 c4 hown hO.1 hP (hO.D μ) hS k he c1 j f2 (va_Nw.use rfl (hO.2.1 _ f3)) (fun _ q => q) hfin ((c3 j f2).trans (congrArg some hty)) (by rcases hz with rfl | rfl <;> rfl) (by rcases hz with rfl | rfl <;> rfl) hlen dg KK
theorem cellE_10 {g : GW} {c : Nat × Nat} {k : Nat} {i : Nat → Int32} {l : Nat → Int64} (h : kt k = 10) : cellE g c k i l = .inl (g.2.1 0, kn k, .inl i) := by
  unfold cellE
  rw [h]
  rfl
theorem V_iald {k j : Nat} {i : Int32} (dg : decode cc pc = .ok (.iaload, 1)) (hk : k < 88) (ht : kt k = 10) (hi : i = nI j) (hj : j < kn k) (K : V l g own cc nL rt d (pc + 1) lv (.int (μ.1 k j) :: st) μ Q) : V l g own cc nL rt d pc lv (.int i :: .ref k :: st) μ Q := by
  intro p e s m args below meth c C H locs ls hP hS hl
  obtain ⟨hx, hb, hr0, hml, hown, hlk, hts, hO⟩ := id C
  subst hi
  have hlt := kn_lt k
  have he := Wd_at g μ hk
  rw [cellE_10 ht] at he
  have ec : (nI j).toNatClampNeg = j := nI_clamp (by omega)
  refine va_iald (D := g.1) (cl := vwCl) (tys := tysW g) hx hb hO.1 hP k 0 he rfl (vp_in_nI hj (by omega)) dg ?_
  rw [ec]
  exact (K p e s m args below meth c C H locs ls hP hS hl)
theorem cellE_11 {g : GW} {c : Nat × Nat} {k : Nat} {i : Nat → Int32} {l : Nat → Int64} (h : kt k = 11) : cellE g c k i l = .inl (g.2.1 1, kn k, .inl i) := by
  unfold cellE
  rw [h]
  rfl
theorem V_bald {k j : Nat} {i : Int32} (dg : decode cc pc = .ok (.baload, 1)) (hk : k < 88) (ht : kt k = 11) (hi : i = nI j) (hj : j < kn k) (K : V l g own cc nL rt d (pc + 1) lv (.int (μ.1 k j) :: st) μ Q) : V l g own cc nL rt d pc lv (.int i :: .ref k :: st) μ Q := by
  intro p e s m args below meth c C H locs ls hP hS hl
  obtain ⟨hx, hb, hr0, hml, hown, hlk, hts, hO⟩ := id C
  subst hi
  have hlt := kn_lt k
  have he := Wd_at g μ hk
  rw [cellE_11 ht] at he
  have ec : (nI j).toNatClampNeg = j := nI_clamp (by omega)
  refine va_bald (D := g.1) (cl := vwCl) (tys := tysW g) hx hb hO.1 hP k 1 he rfl (vp_in_nI hj (by omega)) dg ?_
  rw [ec]
  exact (K p e s m args below meth c C H locs ls hP hS hl)
theorem cellE_12 {g : GW} {c : Nat × Nat} {k : Nat} {i : Nat → Int32} {l : Nat → Int64} (h : kt k = 12) : cellE g c k i l = .inl (g.2.1 2, kn k, .inl i) := by
  unfold cellE
  rw [h]
  rfl
theorem V_zald {k j : Nat} {i : Int32} (dg : decode cc pc = .ok (.baload, 1)) (hk : k < 88) (ht : kt k = 12) (hi : i = nI j) (hj : j < kn k) (K : V l g own cc nL rt d (pc + 1) lv (.int (μ.1 k j) :: st) μ Q) : V l g own cc nL rt d pc lv (.int i :: .ref k :: st) μ Q := by
  intro p e s m args below meth c C H locs ls hP hS hl
  obtain ⟨hx, hb, hr0, hml, hown, hlk, hts, hO⟩ := id C
  subst hi
  have hlt := kn_lt k
  have he := Wd_at g μ hk
  rw [cellE_12 ht] at he
  have ec : (nI j).toNatClampNeg = j := nI_clamp (by omega)
  refine va_zald (D := g.1) (cl := vwCl) (tys := tysW g) hx hb hO.1 hP k 2 he rfl (vp_in_nI hj (by omega)) dg ?_
  rw [ec]
  exact (K p e s m args below meth c C H locs ls hP hS hl)
theorem cellE_13 {g : GW} {c : Nat × Nat} {k : Nat} {i : Nat → Int32} {l : Nat → Int64} (h : kt k = 13) : cellE g c k i l = .inl (g.2.1 3, kn k, .inr (.inl l)) := by
  unfold cellE
  rw [h]
  rfl
theorem V_lald {k j : Nat} {i : Int32} (dg : decode cc pc = .ok (.laload, 1)) (hk : k < 88) (ht : kt k = 13) (hi : i = nI j) (hj : j < kn k) (K : V l g own cc nL rt d (pc + 1) lv (.long (μ.2.1 k j) :: st) μ Q) : V l g own cc nL rt d pc lv (.int i :: .ref k :: st) μ Q := by
  intro p e s m args below meth c C H locs ls hP hS hl
  obtain ⟨hx, hb, hr0, hml, hown, hlk, hts, hO⟩ := id C
  subst hi
  have hlt := kn_lt k
  have he := Wd_at g μ hk
  rw [cellE_13 ht] at he
  have ec : (nI j).toNatClampNeg = j := nI_clamp (by omega)
  refine va_lald (D := g.1) (cl := vwCl) (tys := tysW g) hx hb hO.1 hP k 3 he rfl (vp_in_nI hj (by omega)) dg ?_
  rw [ec]
  exact (K p e s m args below meth c C H locs ls hP hS hl)
theorem V_iast {k j : Nat} {i : Int32} {v : Int32} (dg : decode cc pc = .ok (.iastore, 1)) (hk : k < 88) (ht : kt k = 10) (hi : i = nI j) (hj : j < kn k) (K : V l g own cc nL rt d (pc + 1) lv st (setI μ k j v) Q) : V l g own cc nL rt d pc lv (.int v :: .int i :: .ref k :: st) μ Q := by
  intro p e s m args below meth c C H locs ls hP hS hl
  obtain ⟨hx, hb, hr0, hml, hown, hlk, hts, hO⟩ := id C
  subst hi
  have hlt := kn_lt k
  have he := Wd_at g μ hk
  rw [cellE_10 ht] at he
  have ec : (nI j).toNatClampNeg = j := nI_clamp (by omega)
  refine va_iast (D := g.1) (cl := vwCl) (tys := tysW g) hx hb hO.1 hP (hO.D μ) hS k 0 he rfl (vp_in_nI hj (by omega)) dg (fun H1 locs1 p1 _ s1 => ?_)
  rw [ec, Wd_set (μ' := setI μ k j v) ?_ (fun a _ hn => cellsI a hn)] at p1
  · exact K p e s m args below meth c C H1 locs1 ls p1 s1 hl
  · show cellE g μ.2.2 k (up2 μ.1 k j v k) (μ.2.1 k) = _
    rw [cellE_10 ht, up2_row]
    rfl
theorem V_bast {k j : Nat} {i : Int32} {v : Int32} (dg : decode cc pc = .ok (.bastore, 1)) (hk : k < 88) (ht : kt k = 11) (hi : i = nI j) (hj : j < kn k) (K : V l g own cc nL rt d (pc + 1) lv st (setI μ k j (vp_nar .byte v)) Q) : V l g own cc nL rt d pc lv (.int v :: .int i :: .ref k :: st) μ Q := by
  intro p e s m args below meth c C H locs ls hP hS hl
  obtain ⟨hx, hb, hr0, hml, hown, hlk, hts, hO⟩ := id C
  subst hi
  have hlt := kn_lt k
  have he := Wd_at g μ hk
  rw [cellE_11 ht] at he
  have ec : (nI j).toNatClampNeg = j := nI_clamp (by omega)
  refine va_bast (D := g.1) (cl := vwCl) (tys := tysW g) hx hb hO.1 hP (hO.D μ) hS k 1 he rfl (vp_in_nI hj (by omega)) dg (fun H1 locs1 p1 _ s1 => ?_)
  rw [ec, Wd_set (μ' := setI μ k j (vp_nar .byte v)) ?_ (fun a _ hn => cellsI a hn)] at p1
  · exact K p e s m args below meth c C H1 locs1 ls p1 s1 hl
  · show cellE g μ.2.2 k (up2 μ.1 k j (vp_nar .byte v) k) (μ.2.1 k) = _
    rw [cellE_11 ht, up2_row]
    rfl
theorem V_zast {k j : Nat} {i : Int32} {v : Int32} (dg : decode cc pc = .ok (.bastore, 1)) (hk : k < 88) (ht : kt k = 12) (hi : i = nI j) (hj : j < kn k) (K : V l g own cc nL rt d (pc + 1) lv st (setI μ k j (vp_nar .boolean v)) Q) : V l g own cc nL rt d pc lv (.int v :: .int i :: .ref k :: st) μ Q := by
  intro p e s m args below meth c C H locs ls hP hS hl
  obtain ⟨hx, hb, hr0, hml, hown, hlk, hts, hO⟩ := id C
  subst hi
  have hlt := kn_lt k
  have he := Wd_at g μ hk
  rw [cellE_12 ht] at he
  have ec : (nI j).toNatClampNeg = j := nI_clamp (by omega)
  refine va_zast (D := g.1) (cl := vwCl) (tys := tysW g) hx hb hO.1 hP (hO.D μ) hS k 2 he rfl (vp_in_nI hj (by omega)) dg (fun H1 locs1 p1 _ s1 => ?_)
  rw [ec, Wd_set (μ' := setI μ k j (vp_nar .boolean v)) ?_ (fun a _ hn => cellsI a hn)] at p1
  · exact K p e s m args below meth c C H1 locs1 ls p1 s1 hl
  · show cellE g μ.2.2 k (up2 μ.1 k j (vp_nar .boolean v) k) (μ.2.1 k) = _
    rw [cellE_12 ht, up2_row]
    rfl
theorem V_last {k j : Nat} {i : Int32} {v : Int64} (dg : decode cc pc = .ok (.lastore, 1)) (hk : k < 88) (ht : kt k = 13) (hi : i = nI j) (hj : j < kn k) (K : V l g own cc nL rt d (pc + 1) lv st (setL μ k j v) Q) : V l g own cc nL rt d pc lv (.long v :: .int i :: .ref k :: st) μ Q := by
  intro p e s m args below meth c C H locs ls hP hS hl
  obtain ⟨hx, hb, hr0, hml, hown, hlk, hts, hO⟩ := id C
  subst hi
  have hlt := kn_lt k
  have he := Wd_at g μ hk
  rw [cellE_13 ht] at he
  have ec : (nI j).toNatClampNeg = j := nI_clamp (by omega)
  refine va_last (D := g.1) (cl := vwCl) (tys := tysW g) hx hb hO.1 hP (hO.D μ) hS k 3 he rfl (vp_in_nI hj (by omega)) dg (fun H1 locs1 p1 _ s1 => ?_)
  rw [ec, Wd_set (μ' := setL μ k j v) ?_ (fun a _ hn => cellsL a hn)] at p1
  · exact K p e s m args below meth c C H1 locs1 ls p1 s1 hl
  · show cellE g μ.2.2 k (μ.1 k) (up2 μ.2.1 k j v k) = _
    rw [cellE_13 ht, up2_row]
    rfl
theorem cellE_14 {g : GW} {c : Nat × Nat} {k : Nat} {i : Nat → Int32} {l : Nat → Int64} (h : kt k = 14) : cellE g c k i l = .inl (g.2.1 4, kn k, .inr (.inr (.inr (.inr (fun j => some (g.2.2 (k + 1 + j))))))) := by
  unfold cellE rfs
  rw [h]
  rfl
theorem V_aald14 {k j : Nat} {i : Int32} (dg : decode cc pc = .ok (.aaload, 1)) (hk : k < 88) (ht : kt k = 14) (hi : i = nI j) (hj : j < kn k) (K : V l g own cc nL rt d (pc + 1) lv (.ref (k + 1 + j) :: st) μ Q) : V l g own cc nL rt d pc lv (.int i :: .ref k :: st) μ Q := by
  intro p e s m args below meth c C H locs ls hP hS hl
  obtain ⟨hx, hb, hr0, hml, hown, hlk, hts, hO⟩ := id C
  subst hi
  have hlt := kn_lt k
  have he := Wd_at g μ hk
  rw [cellE_14 ht] at he
  have ec : (nI j).toNatClampNeg = j := nI_clamp (by omega)
  have hin : vp_in (nI j) (kn k) := vp_in_nI hj (by omega)
  exact W.aald (v := .ref (g.2.2 (k + 1 + j))) (ty := .object "NamedWind$Ship") hx hb (hP k _ he) ((hO.1.2 4 _ rfl).1 (kn k) (fun j => va_rf (some (g.2.2 (k + 1 + j))))) rfl (fun q => by cases q) (by show ¬ (nI j < 0 ∨ (arrV _ _ _).slots.size ≤ _); rw [arrV_size]; exact hin) (by show (arrV _ _ _).slots[_]? = _; rw [ec, arrV_read _ _ hj]; rfl) rfl rfl dg (K p e s m args below meth c C H locs ls hP hS hl)
theorem cellE_15 {g : GW} {c : Nat × Nat} {k : Nat} {i : Nat → Int32} {l : Nat → Int64} (h : kt k = 15) : cellE g c k i l = .inl (g.2.1 5, kn k, .inr (.inr (.inr (.inr (fun j => some (g.2.2 (k + 1 + j))))))) := by
  unfold cellE rfs
  rw [h]
  rfl
theorem V_aald15 {k j : Nat} {i : Int32} (dg : decode cc pc = .ok (.aaload, 1)) (hk : k < 88) (ht : kt k = 15) (hi : i = nI j) (hj : j < kn k) (K : V l g own cc nL rt d (pc + 1) lv (.ref (k + 1 + j) :: st) μ Q) : V l g own cc nL rt d pc lv (.int i :: .ref k :: st) μ Q := by
  intro p e s m args below meth c C H locs ls hP hS hl
  obtain ⟨hx, hb, hr0, hml, hown, hlk, hts, hO⟩ := id C
  subst hi
  have hlt := kn_lt k
  have he := Wd_at g μ hk
  rw [cellE_15 ht] at he
  have ec : (nI j).toNatClampNeg = j := nI_clamp (by omega)
  have hin : vp_in (nI j) (kn k) := vp_in_nI hj (by omega)
  exact W.aald (v := .ref (g.2.2 (k + 1 + j))) (ty := .array .int) hx hb (hP k _ he) ((hO.1.2 5 _ rfl).1 (kn k) (fun j => va_rf (some (g.2.2 (k + 1 + j))))) rfl (fun q => by cases q) (by show ¬ (nI j < 0 ∨ (arrV _ _ _).slots.size ≤ _); rw [arrV_size]; exact hin) (by show (arrV _ _ _).slots[_]? = _; rw [ec, arrV_read _ _ hj]; rfl) rfl rfl dg (K p e s m args below meth c C H locs ls hP hS hl)
theorem V_alen {k : Nat} (dg : decode cc pc = .ok (.arraylength, 1)) (hk : k < 88) (ht : kt k = 10) (K : V l g own cc nL rt d (pc + 1) lv (.int (nI (kn k)) :: st) μ Q) : V l g own cc nL rt d pc lv (.ref k :: st) μ Q := by
  intro p e s m args below meth c C H locs ls hP hS hl
  obtain ⟨hx, hb, hr0, hml, hown, hlk, hts, hO⟩ := id C
  have he := Wd_at g μ hk
  rw [cellE_10 ht] at he
  exact va_alen (D := g.1) (cl := vwCl) (tys := tysW g) hx hb hO.1 hP k 0 he (ty := .int) rfl rfl dg (K p e s m args below meth c C H locs ls hP hS hl)
theorem V_gets {idx k : Nat} (dg : decode cc pc = .ok (.getstatic idx, 3)) (hk : 88 ≤ k) (hk2 : k < 91) (hw : Cond.fieldLink own idx "NamedWind" (stN k) "[I" ∈ wsL_law) (K : V l g own cc nL rt d (pc + 3) lv (.ref k :: st) μ Q) : V l g own cc nL rt d pc lv st μ Q := by
  intro p e s m args below meth c C H locs ls hP hS hl
  obtain ⟨hx, hb, hr0, hml, hown, hlk, hts, hO⟩ := id C
  exact va_gets hx hb (hO.2.2.2 k hk hk2).1 hS hown (hts _ hw) (fun _ q => q) dg (K p e s m args below meth c C H locs ls hP hS hl)
theorem V_getsN {idx k : Nat} (dg : decode cc pc = .ok (.getstatic idx, 3)) (hk : 88 ≤ k) (hk2 : k < 91) (hw : Cond.fieldLinkNest own idx "NamedWind" (stN k) "[I" "NamedWind" ∈ nestW) (K : V l g own cc nL rt d (pc + 3) lv (.ref k :: st) μ Q) : V l g own cc nL rt d pc lv st μ Q := by
  intro p e s m args below meth c C H locs ls hP hS hl
  obtain ⟨hx, hb, hr0, hml, hown, hlk, hts, hO⟩ := id C
  exact va_getsN hx hb (hO.2.2.2 k hk hk2).1 hS hown (va_Nw.use rfl (hO.2.1 _ hw)) (fun _ q => q) dg (K p e s m args below meth c C H locs ls hP hS hl)
theorem V_sald {k j : Nat} {i : Int32} (dg : decode cc pc = .ok (.iaload, 1)) (hk : 88 ≤ k) (hk2 : k < 91) (hi : i = nI j) (hj : j < (stT k).length) (K : V l g own cc nL rt d (pc + 1) lv (.int ((stT k).getD j 0) :: st) μ Q) : V l g own cc nL rt d pc lv (.int i :: .ref k :: st) μ Q := by
  intro p e s m args below meth c C H locs ls hP hS hl
  obtain ⟨hx, hb, hr0, hml, hown, hlk, hts, hO⟩ := id C
  subst hi
  have hlen : (stT k).length < 100 := by
    match k, hk, hk2 with
    | 88, _, _ => decide
    | 89, _, _ => decide
    | 90, _, _ => decide
  have ec : (nI j).toNatClampNeg = j := nI_clamp (by omega)
  exact va_ti hx hb (hO.2.2.2 k hk hk2).2 hS (vp_in_nI hj (by omega)) (by rw [ec]; rfl) dg (K p e s m args below meth c C H locs ls hP hS hl)
theorem V_mmax {idx : Nat} {x y : Int32} (dg : decode cc pc = .ok (.invokestatic idx, 3)) (hw : Cond.methodLink own idx Lib.Math.max.name ∈ wsL_law ∧ Cond.static Lib.Math.max.name ∈ wsL_law ∧ Cond.initialized "java/lang/Math" ∈ wsL_law ∧ Cond.code Lib.Math.max.name Lib.Math.max.code 2 (some .int) ∈ wsL_law) (hd : 1 ≤ d) (hst : (st.map fun v => v.category).sum ≤ 30) (K : V l g own cc nL rt d (pc + 3) lv (.int (if x < y then y else x) :: st) μ Q) : V l g own cc nL rt d pc lv (.int y :: .int x :: st) μ Q := by
  intro p e s m args below meth c C H locs ls hP hS hl
  obtain ⟨hx, hb, hr0, hml, hown, hlk, hts, hO⟩ := id C
  have eq9 : ((st.map (conc g)).map fun v => v.category) = st.map fun v => v.category := by rw [List.map_map]; exact List.map_congr_left (fun v _ => conc_cat g v)
  exact va_mmax hx hb (hml.trans hl.1.symm) hown (hts _ hw.1) (hts _ hw.2.1) (hts _ hw.2.2.1) (hts _ hw.2.2.2) hd (by rw [eq9]; show _ ≤ 48 * d; omega) (Nat.zero_le _) (Nat.zero_le _) dg (K p e s m args below meth c C H locs ls hP hS hl)
theorem V_mmin {idx : Nat} {x y : Int32} (dg : decode cc pc = .ok (.invokestatic idx, 3)) (hw : Cond.methodLink own idx Lib.Math.min.name ∈ wsL_law ∧ Cond.static Lib.Math.min.name ∈ wsL_law ∧ Cond.initialized "java/lang/Math" ∈ wsL_law ∧ Cond.code Lib.Math.min.name Lib.Math.min.code 2 (some .int) ∈ wsL_law) (hd : 1 ≤ d) (hst : (st.map fun v => v.category).sum ≤ 30) (K : V l g own cc nL rt d (pc + 3) lv (.int (if y < x then y else x) :: st) μ Q) : V l g own cc nL rt d pc lv (.int y :: .int x :: st) μ Q := by
  intro p e s m args below meth c C H locs ls hP hS hl
  obtain ⟨hx, hb, hr0, hml, hown, hlk, hts, hO⟩ := id C
  have eq9 : ((st.map (conc g)).map fun v => v.category) = st.map fun v => v.category := by rw [List.map_map]; exact List.map_congr_left (fun v _ => conc_cat g v)
  exact va_mmin hx hb (hml.trans hl.1.symm) hown (hts _ hw.1) (hts _ hw.2.1) (hts _ hw.2.2.1) (hts _ hw.2.2.2) hd (by rw [eq9]; show _ ≤ 48 * d; omega) (Nat.zero_le _) (Nat.zero_le _) dg (K p e s m args below meth c C H locs ls hP hS hl)
theorem Con_blind {g : GW} {av : List Value} {μ : Mm} : FrameBlind (va_Pc (av.map (conc g)) (fun U => OKw g U ∧ va_P g.1 vwCl (Wd g μ) U.heap)) := by
  intro a U f mk h
  exact ⟨h.1, h.2.1.calling f mk a, h.2.2⟩
theorem V_callW {p : Program} {e : Env} {s : State} {m : MethodId} {args : Array Value} {below : List Frame} {meth : Method} {c : Code} {H : Heap} {locs : List Loc} {ls : Array Slot} {st0 : List Value} {a : Array Value} {Q' : Option Value → Mm → Prop} (C : Ctx l g own cc nL rt p s m args meth c) (hS : va_S (AW g) s.heap H locs) (hl : LVs g ls nL lv) (hr : va_Run p l e (rmv d) s m args below meth c H locs 0 0 0 0 (F0 m pc ls st0) (st.map (conc g)) (Qvw g Q' a) (AW g)) (K : ∀ r μ', Q' r μ' → V l g own cc nL rt d (pc + 3) lv (r.toList ++ st) μ' Q) : W p l e (rmv d) s m args below meth c H locs 0 0 (MQ below (Qvw g Q) args s 0 0 (AW g)) (F0 m pc ls st0) := by
  intro T hT X
  obtain ⟨v, st₀, t, T', L, h0, X', hL, e1, e2, ⟨⟨r, μ', hv, hQ, hP'⟩, hz, hk⟩, stp⟩ := hr T hT X
  have hv : v = r.map (conc g) := by cases hv; rfl
  subst hv
  rw [h0] at hz hk
  have hS' : va_S (AW g) s.heap T'.heap (locs ++ L) := ⟨Nat.le_trans hS.1 (by rw [e1]; exact hz), fun q h1 h2 => by rw [e1, hk q (Nat.lt_of_lt_of_le h1 hS.1) h2]; exact hS.2.1 q h1 h2, fun q hq => by
      rcases List.mem_append.mp hq with h | h
      · exact hS.2.2 q h
      · exact hL q h⟩
  obtain ⟨t2, a1, b1⟩ := K r μ' hQ p e s m args below meth c C T'.heap (locs ++ L) ls (by rw [e1]; exact hP') hS' hl T' rfl X'
  refine ⟨t2, stp t2 ?_, b1⟩
  cases r <;> exact a1
theorem cat_rest {st : List Value} (h : (st.map fun v => v.category).sum ≤ 8) : ((st.map (conc g)).map fun v => v.category).sum ≤ 8 := by
  have e : ((st.map (conc g)).map fun v => v.category) = st.map fun v => v.category := by rw [List.map_map]; exact List.map_congr_left (fun v _ => conc_cat g v)
  rw [e]
  exact h
theorem V_inv {idx n k ci d' : Nat} {y : MethodName} {cc' : ByteArray} {nL' : Nat} {rt' : Option FieldType} {As : List Value} {Q' : Option Value → Mm → Prop} (dg : decode cc pc = .ok (.invokevirtual idx, 3)) (ml : MLv own idx y cc' nL' rt' n) (hA : As.length = n) (hk : k < 88) (ht : kt k = ci) (hci : ci < 9 ∧ clR ci = y.cls) (hC : Con l g y cc' nL' rt' d' (.ref k :: As) μ Q') (hd : d' < d) (hst : (st.map fun v => v.category).sum ≤ 8) (K : ∀ r μ', Q' r μ' → V l g own cc nL rt d (pc + 3) lv (r.toList ++ st) μ' Q) : V l g own cc nL rt d pc lv (As.reverse ++ .ref k :: st) μ Q := by
  intro p e s m args below meth c C H locs ls hP hS hl
  obtain ⟨hx, hb, hr0, hml, hown, hlk, hts, hO⟩ := id C
  obtain ⟨⟨m1, m2, m3, m4, m5, m6⟩, m7, m8⟩ := ml
  obtain ⟨c1, c2, c3, c4⟩ := CLo_all ci hci.1
  have he := Wd_at g μ hk
  rw [cellE_obj ht hci.1] at he
  have hG : GoodIn wsL_law (.code y cc' nL' rt' :: wsL_law) := fun w hw => by
    rcases List.mem_cons.mp hw with rfl | hw
    · exact wsL_G _ m3
    · exact wsL_G _ hw
  have hR : (rmv d').frames + 1 ≤ (rmv d).frames ∧ 8 + (nL' + 11) + (rmv d').locals ≤ (rmv d).locals := by
    constructor
    · exact hd
    · show 8 + (nL' + 11) + 48 * d' ≤ 48 * d
      omega
  have hn : ∀ sig, parseMethodDescriptor y.desc = some sig → n = sig.parameters.length := by
    intro sig h
    rw [h] at m5
    exact (Option.some.inj m5).symm
  have hp : PreV s H y.cls (g.2.2 k) (va_Pc ((Value.ref k :: As).map (conc g)) (fun U => OKw g U ∧ va_P g.1 vwCl (Wd g μ) U.heap)) (As.map (conc g)) := by
    refine ⟨Con_blind, ?_, fun U hU hW => ⟨rfl, hO.moved hW (by rw [hU]; exact hS), by rw [hU]; exact hP⟩⟩
    have hrv := va_recv hO.1 hP (ci := ci) (q0 := k) c1 he
    rw [← hci.2]
    exact hrv
  have hstk : (As.reverse ++ Value.ref k :: st).map (conc g) = (As.map (conc g)).reverse ++ .ref (g.2.2 k) :: st.map (conc g) := by
    rw [List.map_append, List.map_reverse]
    rfl
  rw [hstk]
  rcases m1 with m1 | m1
  · exact V_callW C hS hl (va_runV (As := As.map (conc g)) (rest := st.map (conc g)) ⟨hx, hb, hml, hown, hts⟩ hC ⟨⟨rfl, rfl, hR.1, hR.2, pay_in hts hG, List.mem_cons_self, hts _ m3, hts _ m2, m4, hn, hts _ m1⟩, hts _ m7, hts _ m8⟩ hp rfl (by rw [List.length_map]; exact hA) hl.1 rfl (lv_room (cat_rest hst)) dg ⟨Nat.zero_le _, Nat.zero_le _⟩) K
  · exact V_callW C hS hl (va_runVN (As := As.map (conc g)) (rest := st.map (conc g)) ⟨hx, hb, hml, hown, hts⟩ hC ⟨⟨⟨rfl, rfl, hR.1, hR.2, pay_in hts hG, List.mem_cons_self⟩, hts _ m3, hts _ m2, m4, hn, va_Nw.use rfl (hO.2.1 _ m1)⟩, hts _ m7, hts _ m8⟩ hp rfl (by rw [List.length_map]; exact hA) hl.1 rfl (lv_room (cat_rest hst)) dg ⟨Nat.zero_le _, Nat.zero_le _⟩) K
theorem V_ins {idx n d' : Nat} {y : MethodName} {cc' : ByteArray} {nL' : Nat} {rt' : Option FieldType} {As : List Value} {Q' : Option Value → Mm → Prop} (dg : decode cc pc = .ok (.invokestatic idx, 3)) (ml : MLs own idx y cc' nL' rt' n) (hA : As.length = n) (hC : Con l g y cc' nL' rt' d' As μ Q') (hd : d' < d) (hst : (st.map fun v => v.category).sum ≤ 8) (K : ∀ r μ', Q' r μ' → V l g own cc nL rt d (pc + 3) lv (r.toList ++ st) μ' Q) : V l g own cc nL rt d pc lv (As.reverse ++ st) μ Q := by
  intro p e s m args below meth c C H locs ls hP hS hl
  obtain ⟨hx, hb, hr0, hml, hown, hlk, hts, hO⟩ := id C
  obtain ⟨⟨m1, m2, m3, m4, m5, m6⟩, m7⟩ := ml
  have hG : GoodIn wsL_law (.code y cc' nL' rt' :: wsL_law) := fun w hw => by
    rcases List.mem_cons.mp hw with rfl | hw
    · exact wsL_G _ m3
    · exact wsL_G _ hw
  have hR : (rmv d').frames + 1 ≤ (rmv d).frames ∧ 8 + (nL' + 11) + (rmv d').locals ≤ (rmv d).locals := by
    constructor
    · exact hd
    · show 8 + (nL' + 11) + 48 * d' ≤ 48 * d
      omega
  have hn : ∀ sig, parseMethodDescriptor y.desc = some sig → n = sig.parameters.length := by
    intro sig h
    rw [h] at m5
    exact (Option.some.inj m5).symm
  have hp : PreS s H (va_Pc (As.map (conc g)) (fun U => OKw g U ∧ va_P g.1 vwCl (Wd g μ) U.heap)) (As.map (conc g)) := ⟨Con_blind, fun U hU hW => ⟨rfl, hO.moved hW (by rw [hU]; exact hS), by rw [hU]; exact hP⟩⟩
  have hstk : (As.reverse ++ st).map (conc g) = (As.map (conc g)).reverse ++ st.map (conc g) := by
    rw [List.map_append, List.map_reverse]
  rw [hstk]
  rcases m1 with m1 | m1
  · exact V_callW C hS hl (va_runS (As := As.map (conc g)) (rest := st.map (conc g)) ⟨hx, hb, hml, hown, hts⟩ hC ⟨⟨rfl, rfl, hR.1, hR.2, pay_in hts hG, List.mem_cons_self, hts _ m3, hts _ m2, m4, hn, hts _ m1⟩, hts _ m7⟩ hp rfl (by rw [List.length_map]; exact hA) hl.1 rfl (lv_room (cat_rest hst)) dg ⟨Nat.zero_le _, Nat.zero_le _⟩) K
  · exact V_callW C hS hl (va_runSN (As := As.map (conc g)) (rest := st.map (conc g)) ⟨hx, hb, hml, hown, hts⟩ hC ⟨⟨⟨rfl, rfl, hR.1, hR.2, pay_in hts hG, List.mem_cons_self⟩, hts _ m3, hts _ m2, m4, hn, va_Nw.use rfl (hO.2.1 _ m1)⟩, hts _ m7, trivial⟩ hp rfl (by rw [List.length_map]; exact hA) hl.1 rfl (lv_room (cat_rest hst)) dg ⟨Nat.zero_le _, Nat.zero_le _⟩) K
theorem V_inv0 {idx k ci d' : Nat} {y : MethodName} {cc' : ByteArray} {nL' : Nat} {rt' : Option FieldType} {Q' : Option Value → Mm → Prop} (dg : decode cc pc = .ok (.invokevirtual idx, 3)) (ml : MLv own idx y cc' nL' rt' 0) (hk : k < 88) (ht : kt k = ci) (hci : ci < 9 ∧ clR ci = y.cls) (hd : d' < d) (hst : (st.map fun v => v.category).sum ≤ 8) (hC : Con l g y cc' nL' rt' d' (.ref k :: []) μ Q') (K : ∀ r μ', Q' r μ' → V l g own cc nL rt d (pc + 3) lv (r.toList ++ st) μ' Q) : V l g own cc nL rt d pc lv (.ref k :: st) μ Q := V_inv dg ml rfl hk ht hci hC hd hst K
theorem V_ins0 {idx d' : Nat} {y : MethodName} {cc' : ByteArray} {nL' : Nat} {rt' : Option FieldType} {Q' : Option Value → Mm → Prop} (dg : decode cc pc = .ok (.invokestatic idx, 3)) (ml : MLs own idx y cc' nL' rt' 0) (hd : d' < d) (hst : (st.map fun v => v.category).sum ≤ 8) (hC : Con l g y cc' nL' rt' d' [] μ Q') (K : ∀ r μ', Q' r μ' → V l g own cc nL rt d (pc + 3) lv (r.toList ++ st) μ' Q) : V l g own cc nL rt d pc lv (st) μ Q := V_ins dg ml rfl hC hd hst K
theorem V_inv1 {idx k ci d' : Nat} {y : MethodName} {cc' : ByteArray} {nL' : Nat} {rt' : Option FieldType} {a0 : Value} {Q' : Option Value → Mm → Prop} (dg : decode cc pc = .ok (.invokevirtual idx, 3)) (ml : MLv own idx y cc' nL' rt' 1) (hk : k < 88) (ht : kt k = ci) (hci : ci < 9 ∧ clR ci = y.cls) (hd : d' < d) (hst : (st.map fun v => v.category).sum ≤ 8) (hC : Con l g y cc' nL' rt' d' (.ref k :: [a0]) μ Q') (K : ∀ r μ', Q' r μ' → V l g own cc nL rt d (pc + 3) lv (r.toList ++ st) μ' Q) : V l g own cc nL rt d pc lv (a0 :: .ref k :: st) μ Q := V_inv dg ml rfl hk ht hci hC hd hst K
theorem V_ins1 {idx d' : Nat} {y : MethodName} {cc' : ByteArray} {nL' : Nat} {rt' : Option FieldType} {a0 : Value} {Q' : Option Value → Mm → Prop} (dg : decode cc pc = .ok (.invokestatic idx, 3)) (ml : MLs own idx y cc' nL' rt' 1) (hd : d' < d) (hst : (st.map fun v => v.category).sum ≤ 8) (hC : Con l g y cc' nL' rt' d' [a0] μ Q') (K : ∀ r μ', Q' r μ' → V l g own cc nL rt d (pc + 3) lv (r.toList ++ st) μ' Q) : V l g own cc nL rt d pc lv (a0 :: st) μ Q := V_ins dg ml rfl hC hd hst K
theorem V_inv2 {idx k ci d' : Nat} {y : MethodName} {cc' : ByteArray} {nL' : Nat} {rt' : Option FieldType} {a0 a1 : Value} {Q' : Option Value → Mm → Prop} (dg : decode cc pc = .ok (.invokevirtual idx, 3)) (ml : MLv own idx y cc' nL' rt' 2) (hk : k < 88) (ht : kt k = ci) (hci : ci < 9 ∧ clR ci = y.cls) (hd : d' < d) (hst : (st.map fun v => v.category).sum ≤ 8) (hC : Con l g y cc' nL' rt' d' (.ref k :: [a0, a1]) μ Q') (K : ∀ r μ', Q' r μ' → V l g own cc nL rt d (pc + 3) lv (r.toList ++ st) μ' Q) : V l g own cc nL rt d pc lv (a1 :: a0 :: .ref k :: st) μ Q := V_inv dg ml rfl hk ht hci hC hd hst K
theorem V_ins2 {idx d' : Nat} {y : MethodName} {cc' : ByteArray} {nL' : Nat} {rt' : Option FieldType} {a0 a1 : Value} {Q' : Option Value → Mm → Prop} (dg : decode cc pc = .ok (.invokestatic idx, 3)) (ml : MLs own idx y cc' nL' rt' 2) (hd : d' < d) (hst : (st.map fun v => v.category).sum ≤ 8) (hC : Con l g y cc' nL' rt' d' [a0, a1] μ Q') (K : ∀ r μ', Q' r μ' → V l g own cc nL rt d (pc + 3) lv (r.toList ++ st) μ' Q) : V l g own cc nL rt d pc lv (a1 :: a0 :: st) μ Q := V_ins dg ml rfl hC hd hst K
theorem V_inv3 {idx k ci d' : Nat} {y : MethodName} {cc' : ByteArray} {nL' : Nat} {rt' : Option FieldType} {a0 a1 a2 : Value} {Q' : Option Value → Mm → Prop} (dg : decode cc pc = .ok (.invokevirtual idx, 3)) (ml : MLv own idx y cc' nL' rt' 3) (hk : k < 88) (ht : kt k = ci) (hci : ci < 9 ∧ clR ci = y.cls) (hd : d' < d) (hst : (st.map fun v => v.category).sum ≤ 8) (hC : Con l g y cc' nL' rt' d' (.ref k :: [a0, a1, a2]) μ Q') (K : ∀ r μ', Q' r μ' → V l g own cc nL rt d (pc + 3) lv (r.toList ++ st) μ' Q) : V l g own cc nL rt d pc lv (a2 :: a1 :: a0 :: .ref k :: st) μ Q := V_inv dg ml rfl hk ht hci hC hd hst K
theorem V_ins3 {idx d' : Nat} {y : MethodName} {cc' : ByteArray} {nL' : Nat} {rt' : Option FieldType} {a0 a1 a2 : Value} {Q' : Option Value → Mm → Prop} (dg : decode cc pc = .ok (.invokestatic idx, 3)) (ml : MLs own idx y cc' nL' rt' 3) (hd : d' < d) (hst : (st.map fun v => v.category).sum ≤ 8) (hC : Con l g y cc' nL' rt' d' [a0, a1, a2] μ Q') (K : ∀ r μ', Q' r μ' → V l g own cc nL rt d (pc + 3) lv (r.toList ++ st) μ' Q) : V l g own cc nL rt d pc lv (a2 :: a1 :: a0 :: st) μ Q := V_ins dg ml rfl hC hd hst K
theorem V_inv4 {idx k ci d' : Nat} {y : MethodName} {cc' : ByteArray} {nL' : Nat} {rt' : Option FieldType} {a0 a1 a2 a3 : Value} {Q' : Option Value → Mm → Prop} (dg : decode cc pc = .ok (.invokevirtual idx, 3)) (ml : MLv own idx y cc' nL' rt' 4) (hk : k < 88) (ht : kt k = ci) (hci : ci < 9 ∧ clR ci = y.cls) (hd : d' < d) (hst : (st.map fun v => v.category).sum ≤ 8) (hC : Con l g y cc' nL' rt' d' (.ref k :: [a0, a1, a2, a3]) μ Q') (K : ∀ r μ', Q' r μ' → V l g own cc nL rt d (pc + 3) lv (r.toList ++ st) μ' Q) : V l g own cc nL rt d pc lv (a3 :: a2 :: a1 :: a0 :: .ref k :: st) μ Q := V_inv dg ml rfl hk ht hci hC hd hst K
theorem V_ins4 {idx d' : Nat} {y : MethodName} {cc' : ByteArray} {nL' : Nat} {rt' : Option FieldType} {a0 a1 a2 a3 : Value} {Q' : Option Value → Mm → Prop} (dg : decode cc pc = .ok (.invokestatic idx, 3)) (ml : MLs own idx y cc' nL' rt' 4) (hd : d' < d) (hst : (st.map fun v => v.category).sum ≤ 8) (hC : Con l g y cc' nL' rt' d' [a0, a1, a2, a3] μ Q') (K : ∀ r μ', Q' r μ' → V l g own cc nL rt d (pc + 3) lv (r.toList ++ st) μ' Q) : V l g own cc nL rt d pc lv (a3 :: a2 :: a1 :: a0 :: st) μ Q := V_ins dg ml rfl hC hd hst K
theorem V_inv5 {idx k ci d' : Nat} {y : MethodName} {cc' : ByteArray} {nL' : Nat} {rt' : Option FieldType} {a0 a1 a2 a3 a4 : Value} {Q' : Option Value → Mm → Prop} (dg : decode cc pc = .ok (.invokevirtual idx, 3)) (ml : MLv own idx y cc' nL' rt' 5) (hk : k < 88) (ht : kt k = ci) (hci : ci < 9 ∧ clR ci = y.cls) (hd : d' < d) (hst : (st.map fun v => v.category).sum ≤ 8) (hC : Con l g y cc' nL' rt' d' (.ref k :: [a0, a1, a2, a3, a4]) μ Q') (K : ∀ r μ', Q' r μ' → V l g own cc nL rt d (pc + 3) lv (r.toList ++ st) μ' Q) : V l g own cc nL rt d pc lv (a4 :: a3 :: a2 :: a1 :: a0 :: .ref k :: st) μ Q := V_inv dg ml rfl hk ht hci hC hd hst K
theorem V_ins5 {idx d' : Nat} {y : MethodName} {cc' : ByteArray} {nL' : Nat} {rt' : Option FieldType} {a0 a1 a2 a3 a4 : Value} {Q' : Option Value → Mm → Prop} (dg : decode cc pc = .ok (.invokestatic idx, 3)) (ml : MLs own idx y cc' nL' rt' 5) (hd : d' < d) (hst : (st.map fun v => v.category).sum ≤ 8) (hC : Con l g y cc' nL' rt' d' [a0, a1, a2, a3, a4] μ Q') (K : ∀ r μ', Q' r μ' → V l g own cc nL rt d (pc + 3) lv (r.toList ++ st) μ' Q) : V l g own cc nL rt d pc lv (a4 :: a3 :: a2 :: a1 :: a0 :: st) μ Q := V_ins dg ml rfl hC hd hst K
theorem V_inv6 {idx k ci d' : Nat} {y : MethodName} {cc' : ByteArray} {nL' : Nat} {rt' : Option FieldType} {a0 a1 a2 a3 a4 a5 : Value} {Q' : Option Value → Mm → Prop} (dg : decode cc pc = .ok (.invokevirtual idx, 3)) (ml : MLv own idx y cc' nL' rt' 6) (hk : k < 88) (ht : kt k = ci) (hci : ci < 9 ∧ clR ci = y.cls) (hd : d' < d) (hst : (st.map fun v => v.category).sum ≤ 8) (hC : Con l g y cc' nL' rt' d' (.ref k :: [a0, a1, a2, a3, a4, a5]) μ Q') (K : ∀ r μ', Q' r μ' → V l g own cc nL rt d (pc + 3) lv (r.toList ++ st) μ' Q) : V l g own cc nL rt d pc lv (a5 :: a4 :: a3 :: a2 :: a1 :: a0 :: .ref k :: st) μ Q := V_inv dg ml rfl hk ht hci hC hd hst K
theorem V_ins6 {idx d' : Nat} {y : MethodName} {cc' : ByteArray} {nL' : Nat} {rt' : Option FieldType} {a0 a1 a2 a3 a4 a5 : Value} {Q' : Option Value → Mm → Prop} (dg : decode cc pc = .ok (.invokestatic idx, 3)) (ml : MLs own idx y cc' nL' rt' 6) (hd : d' < d) (hst : (st.map fun v => v.category).sum ≤ 8) (hC : Con l g y cc' nL' rt' d' [a0, a1, a2, a3, a4, a5] μ Q') (K : ∀ r μ', Q' r μ' → V l g own cc nL rt d (pc + 3) lv (r.toList ++ st) μ' Q) : V l g own cc nL rt d pc lv (a5 :: a4 :: a3 :: a2 :: a1 :: a0 :: st) μ Q := V_ins dg ml rfl hC hd hst K
end VROWS
end
section
/-! ===== THE WORDS behind each field and each call ===== -/
theorem rf_0_0 {c : Nat × Nat} {k : Nat} (h : kt k = 0) : rfs c k 0 = k + 1 := by unfold rfs; rw [h]; rfl
theorem rf_0_1 {c : Nat × Nat} {k : Nat} (h : kt k = 0) : rfs c k 1 = k + 7 := by unfold rfs; rw [h]; rfl
theorem rf_1_0 {c : Nat × Nat} {k : Nat} (h : kt k = 1) : rfs c k 0 = k + 1 := by unfold rfs; rw [h]; rfl
theorem rf_1_1 {c : Nat × Nat} {k : Nat} (h : kt k = 1) : rfs c k 1 = k + 7 := by unfold rfs; rw [h]; rfl
theorem rf_1_2 {c : Nat × Nat} {k : Nat} (h : kt k = 1) : rfs c k 2 = k + 15 := by unfold rfs; rw [h]; rfl
theorem rf_2_0 {c : Nat × Nat} {k : Nat} (h : kt k = 2) : rfs c k 0 = k + 1 := by unfold rfs; rw [h]; rfl
theorem rf_4_0 {c : Nat × Nat} {k : Nat} (h : kt k = 4) : rfs c k 0 = k + 1 := by unfold rfs; rw [h]; rfl
theorem rf_4_1 {c : Nat × Nat} {k : Nat} (h : kt k = 4) : rfs c k 1 = k + 8 := by unfold rfs; rw [h]; rfl
theorem rf_6_0 {c : Nat × Nat} {k : Nat} (h : kt k = 6) : rfs c k 0 = k + 1 := by unfold rfs; rw [h]; rfl
theorem rf_7_0 {c : Nat × Nat} {k : Nat} (h : kt k = 7) : rfs c k 0 = 1 := by unfold rfs; rw [h]; rfl
theorem rf_7_1 {c : Nat × Nat} {k : Nat} (h : kt k = 7) : rfs c k 1 = 3 := by unfold rfs; rw [h]; rfl
theorem rf_7_2 {c : Nat × Nat} {k : Nat} (h : kt k = 7) : rfs c k 2 = 4 := by unfold rfs; rw [h]; rfl
theorem rf_7_3 {c : Nat × Nat} {k : Nat} (h : kt k = 7) : rfs c k 3 = 13 := by unfold rfs; rw [h]; rfl
theorem rf_7_4 {c : Nat × Nat} {k : Nat} (h : kt k = 7) : rfs c k 4 = 22 := by unfold rfs; rw [h]; rfl
theorem rf_7_5 {c : Nat × Nat} {k : Nat} (h : kt k = 7) : rfs c k 5 = 31 := by unfold rfs; rw [h]; rfl
theorem rf_7_6 {c : Nat × Nat} {k : Nat} (h : kt k = 7) : rfs c k 6 = 33 := by unfold rfs; rw [h]; rfl
theorem rf_7_7 {c : Nat × Nat} {k : Nat} (h : kt k = 7) : rfs c k 7 = c.1 := by unfold rfs; rw [h]; rfl
theorem rf_7_8 {c : Nat × Nat} {k : Nat} (h : kt k = 7) : rfs c k 8 = c.2 := by unfold rfs; rw [h]; rfl
theorem rf_8_3 {c : Nat × Nat} {k : Nat} (h : kt k = 8) : rfs c k 3 = 66 := by unfold rfs; rw [h]; rfl
theorem rf_8_4 {c : Nat × Nat} {k : Nat} (h : kt k = 8) : rfs c k 4 = 67 := by unfold rfs; rw [h]; rfl
theorem rf_8_6 {c : Nat × Nat} {k : Nat} (h : kt k = 8) : rfs c k 6 = 68 := by unfold rfs; rw [h]; rfl
theorem rf_8_7 {c : Nat × Nat} {k : Nat} (h : kt k = 8) : rfs c k 7 = 69 := by unfold rfs; rw [h]; rfl
theorem rf_8_8 {c : Nat × Nat} {k : Nat} (h : kt k = 8) : rfs c k 8 = 70 := by unfold rfs; rw [h]; rfl
theorem rf_8_9 {c : Nat × Nat} {k : Nat} (h : kt k = 8) : rfs c k 9 = 71 := by unfold rfs; rw [h]; rfl
theorem rf_8_10 {c : Nat × Nat} {k : Nat} (h : kt k = 8) : rfs c k 10 = 72 := by unfold rfs; rw [h]; rfl
theorem rf_8_14 {c : Nat × Nat} {k : Nat} (h : kt k = 8) : rfs c k 14 = 73 := by unfold rfs; rw [h]; rfl
theorem rf_8_17 {c : Nat × Nat} {k : Nat} (h : kt k = 8) : rfs c k 17 = 74 := by unfold rfs; rw [h]; rfl
theorem rf_8_19 {c : Nat × Nat} {k : Nat} (h : kt k = 8) : rfs c k 19 = 75 := by unfold rfs; rw [h]; rfl
theorem rf_8_24 {c : Nat × Nat} {k : Nat} (h : kt k = 8) : rfs c k 24 = 76 := by unfold rfs; rw [h]; rfl
theorem rf_8_25 {c : Nat × Nat} {k : Nat} (h : kt k = 8) : rfs c k 25 = 77 := by unfold rfs; rw [h]; rfl
theorem rf_8_26 {c : Nat × Nat} {k : Nat} (h : kt k = 8) : rfs c k 26 = 78 := by unfold rfs; rw [h]; rfl
theorem rf_8_27 {c : Nat × Nat} {k : Nat} (h : kt k = 8) : rfs c k 27 = 79 := by unfold rfs; rw [h]; rfl
theorem rf_8_28 {c : Nat × Nat} {k : Nat} (h : kt k = 8) : rfs c k 28 = 80 := by unfold rfs; rw [h]; rfl
theorem rf_8_29 {c : Nat × Nat} {k : Nat} (h : kt k = 8) : rfs c k 29 = 81 := by unfold rfs; rw [h]; rfl
theorem rf_8_31 {c : Nat × Nat} {k : Nat} (h : kt k = 8) : rfs c k 31 = 82 := by unfold rfs; rw [h]; rfl
theorem rf_8_32 {c : Nat × Nat} {k : Nat} (h : kt k = 8) : rfs c k 32 = 83 := by unfold rfs; rw [h]; rfl
theorem rf_8_39 {c : Nat × Nat} {k : Nat} (h : kt k = 8) : rfs c k 39 = 84 := by unfold rfs; rw [h]; rfl
theorem rf_8_40 {c : Nat × Nat} {k : Nat} (h : kt k = 8) : rfs c k 40 = 85 := by unfold rfs; rw [h]; rfl
theorem rf_8_41 {c : Nat × Nat} {k : Nat} (h : kt k = 8) : rfs c k 41 = 86 := by unfold rfs; rw [h]; rfl
theorem rf_8_42 {c : Nat × Nat} {k : Nat} (h : kt k = 8) : rfs c k 42 = 87 := by unfold rfs; rw [h]; rfl
set_option maxRecDepth 100000 in
theorem fl_X7_12 : FLp RX7 12 7 0 := ⟨by decide, by decide, Or.inl (List.mem_of_getElem? (i := 16) rfl)⟩
set_option maxRecDepth 100000 in
theorem fl_X7_19 : FLp RX7 19 7 1 := ⟨by decide, by decide, Or.inl (List.mem_of_getElem? (i := 20) rfl)⟩
set_option maxRecDepth 100000 in
theorem fl_X7_26 : FLp RX7 26 7 2 := ⟨by decide, by decide, Or.inl (List.mem_of_getElem? (i := 24) rfl)⟩
set_option maxRecDepth 100000 in
theorem fl_X7_30 : FLp RX7 30 7 3 := ⟨by decide, by decide, Or.inl (List.mem_of_getElem? (i := 25) rfl)⟩
set_option maxRecDepth 100000 in
theorem fl_X7_33 : FLp RX7 33 7 4 := ⟨by decide, by decide, Or.inl (List.mem_of_getElem? (i := 26) rfl)⟩
set_option maxRecDepth 100000 in
theorem fl_X7_39 : FLp RX7 39 7 5 := ⟨by decide, by decide, Or.inl (List.mem_of_getElem? (i := 30) rfl)⟩
set_option maxRecDepth 100000 in
theorem fl_X7_46 : FLp RX7 46 7 6 := ⟨by decide, by decide, Or.inl (List.mem_of_getElem? (i := 34) rfl)⟩
set_option maxRecDepth 100000 in
theorem fl_X7_53 : FLp RX7 53 7 7 := ⟨by decide, by decide, Or.inl (List.mem_of_getElem? (i := 38) rfl)⟩
set_option maxRecDepth 100000 in
theorem fl_X7_57 : FLp RX7 57 7 8 := ⟨by decide, by decide, Or.inl (List.mem_of_getElem? (i := 39) rfl)⟩
set_option maxRecDepth 100000 in
theorem fl_X7_72 : FLp RX7 72 2 1 := ⟨by decide, by decide, Or.inr (List.mem_of_getElem? (i := 3) rfl)⟩
set_option maxRecDepth 100000 in
theorem fl_X7_80 : FLp RX7 80 7 9 := ⟨by decide, by decide, Or.inl (List.mem_of_getElem? (i := 219) rfl)⟩
set_option maxRecDepth 100000 in
theorem fl_X7_89 : FLp RX7 89 7 10 := ⟨by decide, by decide, Or.inl (List.mem_of_getElem? (i := 220) rfl)⟩
set_option maxRecDepth 100000 in
theorem fl_X7_106 : FLp RX7 106 0 0 := ⟨by decide, by decide, Or.inr (List.mem_of_getElem? (i := 20) rfl)⟩
set_option maxRecDepth 100000 in
theorem fl_X7_113 : FLp RX7 113 0 1 := ⟨by decide, by decide, Or.inr (List.mem_of_getElem? (i := 24) rfl)⟩
set_option maxRecDepth 100000 in
theorem fl_X7_129 : FLp RX7 129 4 0 := ⟨by decide, by decide, Or.inr (List.mem_of_getElem? (i := 11) rfl)⟩
set_option maxRecDepth 100000 in
theorem fl_X7_142 : FLp RX7 142 5 1 := ⟨by decide, by decide, Or.inr (List.mem_of_getElem? (i := 7) rfl)⟩
set_option maxRecDepth 100000 in
theorem fl_X7_161 : FLp RX7 161 4 3 := ⟨by decide, by decide, Or.inr (List.mem_of_getElem? (i := 14) rfl)⟩
set_option maxRecDepth 100000 in
theorem fl_X7_171 : FLp RX7 171 5 0 := ⟨by decide, by decide, Or.inr (List.mem_of_getElem? (i := 5) rfl)⟩
set_option maxRecDepth 100000 in
theorem fl_X7_203 : FLp RX7 203 4 1 := ⟨by decide, by decide, Or.inr (List.mem_of_getElem? (i := 12) rfl)⟩
set_option maxRecDepth 100000 in
theorem fl_X7_206 : FLp RX7 206 6 3 := ⟨by decide, by decide, Or.inr (List.mem_of_getElem? (i := 18) rfl)⟩
set_option maxRecDepth 100000 in
theorem fl_X7_212 : FLp RX7 212 6 1 := ⟨by decide, by decide, Or.inr (List.mem_of_getElem? (i := 17) rfl)⟩
set_option maxRecDepth 100000 in
theorem fl_X7_236 : FLp RX7 236 4 2 := ⟨by decide, by decide, Or.inr (List.mem_of_getElem? (i := 13) rfl)⟩
set_option maxRecDepth 100000 in
theorem fl_X7_239 : FLp RX7 239 4 4 := ⟨by decide, by decide, Or.inr (List.mem_of_getElem? (i := 15) rfl)⟩
set_option maxRecDepth 100000 in
theorem fl_X7_240 : FLp RX7 240 4 5 := ⟨by decide, by decide, Or.inr (List.mem_of_getElem? (i := 16) rfl)⟩
set_option maxRecDepth 100000 in
theorem fl_X7_266 : FLp RX7 266 2 0 := ⟨by decide, by decide, Or.inr (List.mem_of_getElem? (i := 1) rfl)⟩
set_option maxRecDepth 100000 in
theorem fl_X0_11 : FLp RX0 11 0 0 := ⟨by decide, by decide, Or.inl (List.mem_of_getElem? (i := 87) rfl)⟩
set_option maxRecDepth 100000 in
theorem fl_X0_16 : FLp RX0 16 0 1 := ⟨by decide, by decide, Or.inl (List.mem_of_getElem? (i := 88) rfl)⟩
set_option maxRecDepth 100000 in
theorem fl_X1_11 : FLp RX1 11 1 0 := ⟨by decide, by decide, Or.inl (List.mem_of_getElem? (i := 80) rfl)⟩
set_option maxRecDepth 100000 in
theorem fl_X1_16 : FLp RX1 16 1 1 := ⟨by decide, by decide, Or.inl (List.mem_of_getElem? (i := 81) rfl)⟩
set_option maxRecDepth 100000 in
theorem fl_X1_19 : FLp RX1 19 1 2 := ⟨by decide, by decide, Or.inl (List.mem_of_getElem? (i := 82) rfl)⟩
set_option maxRecDepth 100000 in
theorem fl_X1_23 : FLp RX1 23 1 3 := ⟨by decide, by decide, Or.inl (List.mem_of_getElem? (i := 457) rfl)⟩
set_option maxRecDepth 100000 in
theorem fl_X1_33 : FLp RX1 33 0 0 := ⟨by decide, by decide, Or.inr (List.mem_of_getElem? (i := 19) rfl)⟩
set_option maxRecDepth 100000 in
theorem fl_X2_9 : FLp RX2 9 2 0 := ⟨by decide, by decide, Or.inl (List.mem_of_getElem? (i := 44) rfl)⟩
set_option maxRecDepth 100000 in
theorem fl_X2_19 : FLp RX2 19 2 1 := ⟨by decide, by decide, Or.inl (List.mem_of_getElem? (i := 131) rfl)⟩
set_option maxRecDepth 100000 in
theorem fl_X3_16 : FLp RX3 16 3 0 := ⟨by decide, by decide, Or.inl (List.mem_of_getElem? (i := 162) rfl)⟩
set_option maxRecDepth 100000 in
theorem fl_X3_20 : FLp RX3 20 3 1 := ⟨by decide, by decide, Or.inl (List.mem_of_getElem? (i := 163) rfl)⟩
set_option maxRecDepth 100000 in
theorem fl_X3_23 : FLp RX3 23 2 1 := ⟨by decide, by decide, Or.inr (List.mem_of_getElem? (i := 2) rfl)⟩
set_option maxRecDepth 100000 in
theorem fl_X3_28 : FLp RX3 28 2 0 := ⟨by decide, by decide, Or.inr (List.mem_of_getElem? (i := 0) rfl)⟩
set_option maxRecDepth 100000 in
theorem fl_X3_54 : FLp RX3 54 0 1 := ⟨by decide, by decide, Or.inr (List.mem_of_getElem? (i := 23) rfl)⟩
set_option maxRecDepth 100000 in
theorem fl_X3_60 : FLp RX3 60 0 0 := ⟨by decide, by decide, Or.inr (List.mem_of_getElem? (i := 21) rfl)⟩
set_option maxRecDepth 100000 in
theorem fl_X4_11 : FLp RX4 11 4 0 := ⟨by decide, by decide, Or.inl (List.mem_of_getElem? (i := 52) rfl)⟩
set_option maxRecDepth 100000 in
theorem fl_X4_17 : FLp RX4 17 4 1 := ⟨by decide, by decide, Or.inl (List.mem_of_getElem? (i := 53) rfl)⟩
set_option maxRecDepth 100000 in
theorem fl_X4_31 : FLp RX4 31 4 2 := ⟨by decide, by decide, Or.inl (List.mem_of_getElem? (i := 64) rfl)⟩
set_option maxRecDepth 100000 in
theorem fl_X4_35 : FLp RX4 35 4 3 := ⟨by decide, by decide, Or.inl (List.mem_of_getElem? (i := 65) rfl)⟩
set_option maxRecDepth 100000 in
theorem fl_X4_38 : FLp RX4 38 4 4 := ⟨by decide, by decide, Or.inl (List.mem_of_getElem? (i := 66) rfl)⟩
set_option maxRecDepth 100000 in
theorem fl_X4_41 : FLp RX4 41 4 5 := ⟨by decide, by decide, Or.inl (List.mem_of_getElem? (i := 67) rfl)⟩
set_option maxRecDepth 100000 in
theorem fl_X4_64 : FLp RX4 64 5 1 := ⟨by decide, by decide, Or.inr (List.mem_of_getElem? (i := 6) rfl)⟩
set_option maxRecDepth 100000 in
theorem fl_X4_67 : FLp RX4 67 5 2 := ⟨by decide, by decide, Or.inr (List.mem_of_getElem? (i := 8) rfl)⟩
set_option maxRecDepth 100000 in
theorem fl_X4_84 : FLp RX4 84 5 0 := ⟨by decide, by decide, Or.inr (List.mem_of_getElem? (i := 4) rfl)⟩
set_option maxRecDepth 100000 in
theorem fl_X4_97 : FLp RX4 97 5 3 := ⟨by decide, by decide, Or.inr (List.mem_of_getElem? (i := 9) rfl)⟩
set_option maxRecDepth 100000 in
theorem fl_X4_100 : FLp RX4 100 5 4 := ⟨by decide, by decide, Or.inr (List.mem_of_getElem? (i := 10) rfl)⟩
set_option maxRecDepth 100000 in
theorem fl_X4_121 : FLp RX4 121 0 0 := ⟨by decide, by decide, Or.inr (List.mem_of_getElem? (i := 22) rfl)⟩
set_option maxRecDepth 100000 in
theorem fl_X5_9 : FLp RX5 9 5 2 := ⟨by decide, by decide, Or.inl (List.mem_of_getElem? (i := 59) rfl)⟩
set_option maxRecDepth 100000 in
theorem fl_X5_15 : FLp RX5 15 5 0 := ⟨by decide, by decide, Or.inl (List.mem_of_getElem? (i := 288) rfl)⟩
set_option maxRecDepth 100000 in
theorem fl_X5_18 : FLp RX5 18 5 1 := ⟨by decide, by decide, Or.inl (List.mem_of_getElem? (i := 289) rfl)⟩
set_option maxRecDepth 100000 in
theorem fl_X5_21 : FLp RX5 21 5 3 := ⟨by decide, by decide, Or.inl (List.mem_of_getElem? (i := 290) rfl)⟩
set_option maxRecDepth 100000 in
theorem fl_X5_24 : FLp RX5 24 5 4 := ⟨by decide, by decide, Or.inl (List.mem_of_getElem? (i := 291) rfl)⟩
set_option maxRecDepth 100000 in
theorem fl_X6_9 : FLp RX6 9 6 0 := ⟨by decide, by decide, Or.inl (List.mem_of_getElem? (i := 75) rfl)⟩
set_option maxRecDepth 100000 in
theorem fl_X6_15 : FLp RX6 15 6 1 := ⟨by decide, by decide, Or.inl (List.mem_of_getElem? (i := 227) rfl)⟩
set_option maxRecDepth 100000 in
theorem fl_X6_19 : FLp RX6 19 6 2 := ⟨by decide, by decide, Or.inl (List.mem_of_getElem? (i := 610) rfl)⟩
set_option maxRecDepth 100000 in
theorem fl_X6_23 : FLp RX6 23 6 3 := ⟨by decide, by decide, Or.inl (List.mem_of_getElem? (i := 228) rfl)⟩
set_option maxRecDepth 100000 in
theorem fl_X8_7 : FLp RX8 7 8 3 := ⟨by decide, by decide, Or.inl (List.mem_of_getElem? (i := 98) rfl)⟩
set_option maxRecDepth 100000 in
theorem fl_X8_13 : FLp RX8 13 8 4 := ⟨by decide, by decide, Or.inl (List.mem_of_getElem? (i := 99) rfl)⟩
set_option maxRecDepth 100000 in
theorem fl_X8_16 : FLp RX8 16 8 6 := ⟨by decide, by decide, Or.inl (List.mem_of_getElem? (i := 100) rfl)⟩
set_option maxRecDepth 100000 in
theorem fl_X8_19 : FLp RX8 19 8 7 := ⟨by decide, by decide, Or.inl (List.mem_of_getElem? (i := 101) rfl)⟩
set_option maxRecDepth 100000 in
theorem fl_X8_22 : FLp RX8 22 8 8 := ⟨by decide, by decide, Or.inl (List.mem_of_getElem? (i := 102) rfl)⟩
set_option maxRecDepth 100000 in
theorem fl_X8_25 : FLp RX8 25 8 9 := ⟨by decide, by decide, Or.inl (List.mem_of_getElem? (i := 103) rfl)⟩
set_option maxRecDepth 100000 in
theorem fl_X8_28 : FLp RX8 28 8 10 := ⟨by decide, by decide, Or.inl (List.mem_of_getElem? (i := 104) rfl)⟩
set_option maxRecDepth 100000 in
theorem fl_X8_31 : FLp RX8 31 8 14 := ⟨by decide, by decide, Or.inl (List.mem_of_getElem? (i := 105) rfl)⟩
set_option maxRecDepth 100000 in
theorem fl_X8_34 : FLp RX8 34 8 15 := ⟨by decide, by decide, Or.inl (List.mem_of_getElem? (i := 106) rfl)⟩
set_option maxRecDepth 100000 in
theorem fl_X8_38 : FLp RX8 38 8 17 := ⟨by decide, by decide, Or.inl (List.mem_of_getElem? (i := 107) rfl)⟩
set_option maxRecDepth 100000 in
theorem fl_X8_41 : FLp RX8 41 8 19 := ⟨by decide, by decide, Or.inl (List.mem_of_getElem? (i := 109) rfl)⟩
set_option maxRecDepth 100000 in
theorem fl_X8_45 : FLp RX8 45 8 24 := ⟨by decide, by decide, Or.inl (List.mem_of_getElem? (i := 110) rfl)⟩
set_option maxRecDepth 100000 in
theorem fl_X8_48 : FLp RX8 48 8 25 := ⟨by decide, by decide, Or.inl (List.mem_of_getElem? (i := 111) rfl)⟩
set_option maxRecDepth 100000 in
theorem fl_X8_51 : FLp RX8 51 8 26 := ⟨by decide, by decide, Or.inl (List.mem_of_getElem? (i := 113) rfl)⟩
set_option maxRecDepth 100000 in
theorem fl_X8_55 : FLp RX8 55 8 27 := ⟨by decide, by decide, Or.inl (List.mem_of_getElem? (i := 115) rfl)⟩
set_option maxRecDepth 100000 in
theorem fl_X8_59 : FLp RX8 59 8 28 := ⟨by decide, by decide, Or.inl (List.mem_of_getElem? (i := 116) rfl)⟩
set_option maxRecDepth 100000 in
theorem fl_X8_62 : FLp RX8 62 8 29 := ⟨by decide, by decide, Or.inl (List.mem_of_getElem? (i := 117) rfl)⟩
set_option maxRecDepth 100000 in
theorem fl_X8_65 : FLp RX8 65 8 31 := ⟨by decide, by decide, Or.inl (List.mem_of_getElem? (i := 118) rfl)⟩
set_option maxRecDepth 100000 in
theorem fl_X8_68 : FLp RX8 68 8 32 := ⟨by decide, by decide, Or.inl (List.mem_of_getElem? (i := 119) rfl)⟩
set_option maxRecDepth 100000 in
theorem fl_X8_71 : FLp RX8 71 8 39 := ⟨by decide, by decide, Or.inl (List.mem_of_getElem? (i := 120) rfl)⟩
set_option maxRecDepth 100000 in
theorem fl_X8_74 : FLp RX8 74 8 40 := ⟨by decide, by decide, Or.inl (List.mem_of_getElem? (i := 121) rfl)⟩
set_option maxRecDepth 100000 in
theorem fl_X8_77 : FLp RX8 77 8 41 := ⟨by decide, by decide, Or.inl (List.mem_of_getElem? (i := 122) rfl)⟩
set_option maxRecDepth 100000 in
theorem fl_X8_80 : FLp RX8 80 8 42 := ⟨by decide, by decide, Or.inl (List.mem_of_getElem? (i := 123) rfl)⟩
set_option maxRecDepth 100000 in
theorem fl_X8_85 : FLp RX8 85 8 18 := ⟨by decide, by decide, Or.inl (List.mem_of_getElem? (i := 143) rfl)⟩
set_option maxRecDepth 100000 in
theorem fl_X8_92 : FLp RX8 92 8 22 := ⟨by decide, by decide, Or.inl (List.mem_of_getElem? (i := 197) rfl)⟩
set_option maxRecDepth 100000 in
theorem fl_X8_95 : FLp RX8 95 8 23 := ⟨by decide, by decide, Or.inl (List.mem_of_getElem? (i := 198) rfl)⟩
set_option maxRecDepth 100000 in
theorem fl_X8_110 : FLp RX8 110 8 20 := ⟨by decide, by decide, Or.inl (List.mem_of_getElem? (i := 192) rfl)⟩
set_option maxRecDepth 100000 in
theorem fl_X8_113 : FLp RX8 113 8 21 := ⟨by decide, by decide, Or.inl (List.mem_of_getElem? (i := 199) rfl)⟩
set_option maxRecDepth 100000 in
theorem fl_X8_120 : FLp RX8 120 8 2 := ⟨by decide, by decide, Or.inl (List.mem_of_getElem? (i := 236) rfl)⟩
set_option maxRecDepth 100000 in
theorem fl_X8_123 : FLp RX8 123 8 0 := ⟨by decide, by decide, Or.inl (List.mem_of_getElem? (i := 237) rfl)⟩
set_option maxRecDepth 100000 in
theorem fl_X8_126 : FLp RX8 126 8 1 := ⟨by decide, by decide, Or.inl (List.mem_of_getElem? (i := 238) rfl)⟩
set_option maxRecDepth 100000 in
theorem fl_X8_129 : FLp RX8 129 8 5 := ⟨by decide, by decide, Or.inl (List.mem_of_getElem? (i := 239) rfl)⟩
set_option maxRecDepth 100000 in
theorem fl_X8_132 : FLp RX8 132 8 11 := ⟨by decide, by decide, Or.inl (List.mem_of_getElem? (i := 240) rfl)⟩
set_option maxRecDepth 100000 in
theorem fl_X8_135 : FLp RX8 135 8 12 := ⟨by decide, by decide, Or.inl (List.mem_of_getElem? (i := 241) rfl)⟩
set_option maxRecDepth 100000 in
theorem fl_X8_138 : FLp RX8 138 8 13 := ⟨by decide, by decide, Or.inl (List.mem_of_getElem? (i := 242) rfl)⟩
set_option maxRecDepth 100000 in
theorem fl_X8_141 : FLp RX8 141 8 16 := ⟨by decide, by decide, Or.inl (List.mem_of_getElem? (i := 243) rfl)⟩
set_option maxRecDepth 100000 in
theorem fl_X8_251 : FLp RX8 251 8 30 := ⟨by decide, by decide, Or.inl (List.mem_of_getElem? (i := 707) rfl)⟩
set_option maxRecDepth 100000 in
theorem fl_X8_273 : FLp RX8 273 8 33 := ⟨by decide, by decide, Or.inl (List.mem_of_getElem? (i := 732) rfl)⟩
set_option maxRecDepth 100000 in
theorem fl_X8_276 : FLp RX8 276 8 34 := ⟨by decide, by decide, Or.inl (List.mem_of_getElem? (i := 733) rfl)⟩
set_option maxRecDepth 100000 in
theorem fl_X8_279 : FLp RX8 279 8 35 := ⟨by decide, by decide, Or.inl (List.mem_of_getElem? (i := 734) rfl)⟩
set_option maxRecDepth 100000 in
theorem fl_X8_282 : FLp RX8 282 8 36 := ⟨by decide, by decide, Or.inl (List.mem_of_getElem? (i := 735) rfl)⟩
set_option maxRecDepth 100000 in
theorem fl_X8_285 : FLp RX8 285 8 37 := ⟨by decide, by decide, Or.inl (List.mem_of_getElem? (i := 736) rfl)⟩
set_option maxRecDepth 100000 in
theorem fl_X8_288 : FLp RX8 288 8 38 := ⟨by decide, by decide, Or.inl (List.mem_of_getElem? (i := 737) rfl)⟩
set_option maxRecDepth 100000 in
theorem fl_X8_296 : FLp RX8 296 8 43 := ⟨by decide, by decide, Or.inl (List.mem_of_getElem? (i := 786) rfl)⟩
set_option maxRecDepth 100000 in
theorem ml_X7_60 : MLv RX7 60 yX2_add cX2_add 5 (some .int) 1 := ⟨⟨Or.inr (List.mem_of_getElem? (i := 33) rfl), (List.mem_of_getElem? (i := 15) rfl), (List.mem_of_getElem? (i := 130) rfl), by decide, by decide +kernel, by decide⟩, (List.mem_of_getElem? (i := 128) rfl), (List.mem_of_getElem? (i := 129) rfl)⟩
set_option maxRecDepth 100000 in
theorem ml_X7_64 : MLv RX7 64 yX2_empty cX2_empty 2 (some .int) 0 := ⟨⟨Or.inr (List.mem_of_getElem? (i := 34) rfl), (List.mem_of_getElem? (i := 15) rfl), (List.mem_of_getElem? (i := 150) rfl), by decide, by decide +kernel, by decide⟩, (List.mem_of_getElem? (i := 148) rfl), (List.mem_of_getElem? (i := 149) rfl)⟩
set_option maxRecDepth 100000 in
theorem ml_X7_68 : MLv RX7 68 yX3_read cX3_read 4 (some .int) 2 := ⟨⟨Or.inr (List.mem_of_getElem? (i := 35) rfl), (List.mem_of_getElem? (i := 19) rfl), (List.mem_of_getElem? (i := 161) rfl), by decide, by decide +kernel, by decide⟩, (List.mem_of_getElem? (i := 159) rfl), (List.mem_of_getElem? (i := 160) rfl)⟩
set_option maxRecDepth 100000 in
theorem ml_X7_76 : MLv RX7 76 yX3_atEnd cX3_atEnd 1 (some .boolean) 0 := ⟨⟨Or.inr (List.mem_of_getElem? (i := 39) rfl), (List.mem_of_getElem? (i := 19) rfl), (List.mem_of_getElem? (i := 223) rfl), by decide, by decide +kernel, by decide⟩, (List.mem_of_getElem? (i := 221) rfl), (List.mem_of_getElem? (i := 222) rfl)⟩
set_option maxRecDepth 100000 in
theorem ml_X7_83 : MLv RX7 83 yX4_clear cX4_clear 1 none 0 := ⟨⟨Or.inr (List.mem_of_getElem? (i := 40) rfl), (List.mem_of_getElem? (i := 23) rfl), (List.mem_of_getElem? (i := 63) rfl), by decide, by decide +kernel, by decide⟩, (List.mem_of_getElem? (i := 61) rfl), (List.mem_of_getElem? (i := 62) rfl)⟩
set_option maxRecDepth 100000 in
theorem ml_X7_86 : MLv RX7 86 yX6_end cX6_end 1 none 0 := ⟨⟨Or.inr (List.mem_of_getElem? (i := 41) rfl), (List.mem_of_getElem? (i := 29) rfl), (List.mem_of_getElem? (i := 226) rfl), by decide, by decide +kernel, by decide⟩, (List.mem_of_getElem? (i := 224) rfl), (List.mem_of_getElem? (i := 225) rfl)⟩
set_option maxRecDepth 100000 in
theorem ml_X7_93 : MLv RX7 93 yX0_nameCount cX0_nameCount 3 (some .int) 0 := ⟨⟨Or.inr (List.mem_of_getElem? (i := 42) rfl), (List.mem_of_getElem? (i := 37) rfl), (List.mem_of_getElem? (i := 231) rfl), by decide, by decide +kernel, by decide⟩, (List.mem_of_getElem? (i := 229) rfl), (List.mem_of_getElem? (i := 230) rfl)⟩
set_option maxRecDepth 100000 in
theorem ml_X7_96 : MLs RX7 96 yX7_isWindOrCalm cX7_isWindOrCalm 1 (some .boolean) 1 := ⟨⟨Or.inl (List.mem_of_getElem? (i := 248) rfl), (List.mem_of_getElem? (i := 2) rfl), (List.mem_of_getElem? (i := 250) rfl), by decide, by decide +kernel, by decide⟩, (List.mem_of_getElem? (i := 249) rfl)⟩
set_option maxRecDepth 100000 in
theorem ml_X7_100 : MLs RX7 100 yX7_isSign cX7_isSign 1 (some .boolean) 1 := ⟨⟨Or.inl (List.mem_of_getElem? (i := 251) rfl), (List.mem_of_getElem? (i := 2) rfl), (List.mem_of_getElem? (i := 187) rfl), by decide, by decide +kernel, by decide⟩, (List.mem_of_getElem? (i := 186) rfl)⟩
set_option maxRecDepth 100000 in
theorem ml_X7_103 : MLv RX7 103 yX7_hasBook cX7_hasBook 1 (some .boolean) 0 := ⟨⟨Or.inl (List.mem_of_getElem? (i := 252) rfl), (List.mem_of_getElem? (i := 2) rfl), (List.mem_of_getElem? (i := 255) rfl), by decide, by decide +kernel, by decide⟩, (List.mem_of_getElem? (i := 253) rfl), (List.mem_of_getElem? (i := 254) rfl)⟩
set_option maxRecDepth 100000 in
theorem ml_X7_110 : MLs RX7 110 yX7_isName cX7_isName 1 (some .boolean) 1 := ⟨⟨Or.inl (List.mem_of_getElem? (i := 264) rfl), (List.mem_of_getElem? (i := 2) rfl), (List.mem_of_getElem? (i := 177) rfl), by decide, by decide +kernel, by decide⟩, (List.mem_of_getElem? (i := 176) rfl)⟩
set_option maxRecDepth 100000 in
theorem ml_X7_117 : MLs RX7 117 yX7_isPlace cX7_isPlace 1 (some .boolean) 1 := ⟨⟨Or.inl (List.mem_of_getElem? (i := 276) rfl), (List.mem_of_getElem? (i := 2) rfl), (List.mem_of_getElem? (i := 278) rfl), by decide, by decide +kernel, by decide⟩, (List.mem_of_getElem? (i := 277) rfl)⟩
set_option maxRecDepth 100000 in
theorem ml_X7_120 : MLs RX7 120 yX7_isKind cX7_isKind 1 (some .boolean) 1 := ⟨⟨Or.inl (List.mem_of_getElem? (i := 279) rfl), (List.mem_of_getElem? (i := 2) rfl), (List.mem_of_getElem? (i := 281) rfl), by decide, by decide +kernel, by decide⟩, (List.mem_of_getElem? (i := 280) rfl)⟩
set_option maxRecDepth 100000 in
theorem ml_X7_123 : MLv RX7 123 yX4_add cX4_add 3 (some .int) 2 := ⟨⟨Or.inr (List.mem_of_getElem? (i := 43) rfl), (List.mem_of_getElem? (i := 23) rfl), (List.mem_of_getElem? (i := 284) rfl), by decide, by decide +kernel, by decide⟩, (List.mem_of_getElem? (i := 282) rfl), (List.mem_of_getElem? (i := 283) rfl)⟩
set_option maxRecDepth 100000 in
theorem ml_X7_126 : MLv RX7 126 yX7_isShip cX7_isShip 2 (some .boolean) 1 := ⟨⟨Or.inl (List.mem_of_getElem? (i := 303) rfl), (List.mem_of_getElem? (i := 2) rfl), (List.mem_of_getElem? (i := 306) rfl), by decide, by decide +kernel, by decide⟩, (List.mem_of_getElem? (i := 304) rfl), (List.mem_of_getElem? (i := 305) rfl)⟩
set_option maxRecDepth 100000 in
theorem ml_X7_133 : MLv RX7 133 yX5_tell cX5_tell 2 (some .int) 1 := ⟨⟨Or.inr (List.mem_of_getElem? (i := 45) rfl), (List.mem_of_getElem? (i := 55) rfl), (List.mem_of_getElem? (i := 309) rfl), by decide, by decide +kernel, by decide⟩, (List.mem_of_getElem? (i := 307) rfl), (List.mem_of_getElem? (i := 308) rfl)⟩
set_option maxRecDepth 100000 in
theorem ml_X7_139 : MLv RX7 139 yX5_isA cX5_isA 2 (some .boolean) 1 := ⟨⟨Or.inr (List.mem_of_getElem? (i := 46) rfl), (List.mem_of_getElem? (i := 55) rfl), (List.mem_of_getElem? (i := 328) rfl), by decide, by decide +kernel, by decide⟩, (List.mem_of_getElem? (i := 326) rfl), (List.mem_of_getElem? (i := 327) rfl)⟩
set_option maxRecDepth 100000 in
theorem ml_X7_145 : MLv RX7 145 yX4_isSpent cX4_isSpent 2 (some .boolean) 1 := ⟨⟨Or.inr (List.mem_of_getElem? (i := 47) rfl), (List.mem_of_getElem? (i := 23) rfl), (List.mem_of_getElem? (i := 339) rfl), by decide, by decide +kernel, by decide⟩, (List.mem_of_getElem? (i := 337) rfl), (List.mem_of_getElem? (i := 338) rfl)⟩
set_option maxRecDepth 100000 in
theorem ml_X7_148 : MLv RX7 148 yX4_replaceCall cX4_replaceCall 4 (some .int) 2 := ⟨⟨Or.inr (List.mem_of_getElem? (i := 48) rfl), (List.mem_of_getElem? (i := 23) rfl), (List.mem_of_getElem? (i := 342) rfl), by decide, by decide +kernel, by decide⟩, (List.mem_of_getElem? (i := 340) rfl), (List.mem_of_getElem? (i := 341) rfl)⟩
set_option maxRecDepth 100000 in
theorem ml_X7_151 : MLv RX7 151 yX4_passDay cX4_passDay 5 none 2 := ⟨⟨Or.inr (List.mem_of_getElem? (i := 50) rfl), (List.mem_of_getElem? (i := 23) rfl), (List.mem_of_getElem? (i := 379) rfl), by decide, by decide +kernel, by decide⟩, (List.mem_of_getElem? (i := 377) rfl), (List.mem_of_getElem? (i := 378) rfl)⟩
set_option maxRecDepth 100000 in
theorem ml_X7_155 : MLv RX7 155 yX4_homeCount cX4_homeCount 3 (some .int) 0 := ⟨⟨Or.inr (List.mem_of_getElem? (i := 54) rfl), (List.mem_of_getElem? (i := 23) rfl), (List.mem_of_getElem? (i := 406) rfl), by decide, by decide +kernel, by decide⟩, (List.mem_of_getElem? (i := 404) rfl), (List.mem_of_getElem? (i := 405) rfl)⟩
set_option maxRecDepth 100000 in
theorem ml_X7_158 : MLv RX7 158 yX4_spentCount cX4_spentCount 1 (some .int) 0 := ⟨⟨Or.inr (List.mem_of_getElem? (i := 55) rfl), (List.mem_of_getElem? (i := 23) rfl), (List.mem_of_getElem? (i := 429) rfl), by decide, by decide +kernel, by decide⟩, (List.mem_of_getElem? (i := 427) rfl), (List.mem_of_getElem? (i := 428) rfl)⟩
set_option maxRecDepth 100000 in
theorem ml_X7_166 : MLs RX7 166 yX7_isPart cX7_isPart 1 (some .boolean) 1 := ⟨⟨Or.inl (List.mem_of_getElem? (i := 451) rfl), (List.mem_of_getElem? (i := 2) rfl), (List.mem_of_getElem? (i := 453) rfl), by decide, by decide +kernel, by decide⟩, (List.mem_of_getElem? (i := 452) rfl)⟩
set_option maxRecDepth 100000 in
theorem ml_X7_174 : MLv RX7 174 yX1_begin cX1_begin 6 none 3 := ⟨⟨Or.inr (List.mem_of_getElem? (i := 56) rfl), (List.mem_of_getElem? (i := 33) rfl), (List.mem_of_getElem? (i := 456) rfl), by decide, by decide +kernel, by decide⟩, (List.mem_of_getElem? (i := 454) rfl), (List.mem_of_getElem? (i := 455) rfl)⟩
set_option maxRecDepth 100000 in
theorem ml_X7_178 : MLv RX7 178 yX4_freeNames cX4_freeNames 1 (some .int) 0 := ⟨⟨Or.inr (List.mem_of_getElem? (i := 58) rfl), (List.mem_of_getElem? (i := 23) rfl), (List.mem_of_getElem? (i := 465) rfl), by decide, by decide +kernel, by decide⟩, (List.mem_of_getElem? (i := 463) rfl), (List.mem_of_getElem? (i := 464) rfl)⟩
set_option maxRecDepth 100000 in
theorem ml_X7_181 : MLv RX7 181 yX1_chances cX1_chances 7 (some .int) 3 := ⟨⟨Or.inr (List.mem_of_getElem? (i := 59) rfl), (List.mem_of_getElem? (i := 33) rfl), (List.mem_of_getElem? (i := 468) rfl), by decide, by decide +kernel, by decide⟩, (List.mem_of_getElem? (i := 466) rfl), (List.mem_of_getElem? (i := 467) rfl)⟩
set_option maxRecDepth 100000 in
theorem ml_X7_188 : MLs RX7 188 yX7_inLowestTerms cX7_inLowestTerms 5 (some .long) 3 := ⟨⟨Or.inl (List.mem_of_getElem? (i := 478) rfl), (List.mem_of_getElem? (i := 2) rfl), (List.mem_of_getElem? (i := 480) rfl), by decide, by decide +kernel, by decide⟩, (List.mem_of_getElem? (i := 479) rfl)⟩
set_option maxRecDepth 100000 in
theorem ml_X7_192 : MLv RX7 192 yX1_bestCall cX1_bestCall 9 (some .int) 4 := ⟨⟨Or.inr (List.mem_of_getElem? (i := 62) rfl), (List.mem_of_getElem? (i := 33) rfl), (List.mem_of_getElem? (i := 475) rfl), by decide, by decide +kernel, by decide⟩, (List.mem_of_getElem? (i := 470) rfl), (List.mem_of_getElem? (i := 471) rfl)⟩
set_option maxRecDepth 100000 in
theorem ml_X7_196 : MLv RX7 196 yX0_tellingSign cX0_tellingSign 3 (some .int) 0 := ⟨⟨Or.inr (List.mem_of_getElem? (i := 63) rfl), (List.mem_of_getElem? (i := 37) rfl), (List.mem_of_getElem? (i := 558) rfl), by decide, by decide +kernel, by decide⟩, (List.mem_of_getElem? (i := 556) rfl), (List.mem_of_getElem? (i := 557) rfl)⟩
set_option maxRecDepth 100000 in
theorem ml_X7_199 : MLs RX7 199 yX7_raceChances cX7_raceChances 9 (some .int) 4 := ⟨⟨Or.inl (List.mem_of_getElem? (i := 576) rfl), (List.mem_of_getElem? (i := 2) rfl), (List.mem_of_getElem? (i := 578) rfl), by decide, by decide +kernel, by decide⟩, (List.mem_of_getElem? (i := 577) rfl)⟩
set_option maxRecDepth 100000 in
theorem ml_X7_209 : MLv RX7 209 yX6_begin cX6_begin 3 none 2 := ⟨⟨Or.inr (List.mem_of_getElem? (i := 65) rfl), (List.mem_of_getElem? (i := 29) rfl), (List.mem_of_getElem? (i := 609) rfl), by decide, by decide +kernel, by decide⟩, (List.mem_of_getElem? (i := 607) rfl), (List.mem_of_getElem? (i := 608) rfl)⟩
set_option maxRecDepth 100000 in
theorem ml_X7_215 : MLv RX7 215 yX6_add cX6_add 2 (some .int) 1 := ⟨⟨Or.inr (List.mem_of_getElem? (i := 66) rfl), (List.mem_of_getElem? (i := 29) rfl), (List.mem_of_getElem? (i := 621) rfl), by decide, by decide +kernel, by decide⟩, (List.mem_of_getElem? (i := 619) rfl), (List.mem_of_getElem? (i := 620) rfl)⟩
set_option maxRecDepth 100000 in
theorem ml_X7_217 : MLv RX7 217 yX6_ways cX6_ways 6 (some .int) 1 := ⟨⟨Or.inr (List.mem_of_getElem? (i := 67) rfl), (List.mem_of_getElem? (i := 29) rfl), (List.mem_of_getElem? (i := 632) rfl), by decide, by decide +kernel, by decide⟩, (List.mem_of_getElem? (i := 630) rfl), (List.mem_of_getElem? (i := 631) rfl)⟩
set_option maxRecDepth 100000 in
theorem ml_X7_221 : MLv RX7 221 yX6_callOn cX6_callOn 6 (some .int) 2 := ⟨⟨Or.inr (List.mem_of_getElem? (i := 70) rfl), (List.mem_of_getElem? (i := 29) rfl), (List.mem_of_getElem? (i := 659) rfl), by decide, by decide +kernel, by decide⟩, (List.mem_of_getElem? (i := 657) rfl), (List.mem_of_getElem? (i := 658) rfl)⟩
set_option maxRecDepth 100000 in
theorem ml_X7_225 : MLv RX7 225 yX4_copyFrom cX4_copyFrom 3 none 1 := ⟨⟨Or.inr (List.mem_of_getElem? (i := 71) rfl), (List.mem_of_getElem? (i := 23) rfl), (List.mem_of_getElem? (i := 671) rfl), by decide, by decide +kernel, by decide⟩, (List.mem_of_getElem? (i := 669) rfl), (List.mem_of_getElem? (i := 670) rfl)⟩
set_option maxRecDepth 100000 in
theorem ml_X7_229 : MLv RX7 229 yX4_passYears cX4_passYears 9 (some .int) 3 := ⟨⟨Or.inr (List.mem_of_getElem? (i := 73) rfl), (List.mem_of_getElem? (i := 23) rfl), (List.mem_of_getElem? (i := 681) rfl), by decide, by decide +kernel, by decide⟩, (List.mem_of_getElem? (i := 679) rfl), (List.mem_of_getElem? (i := 680) rfl)⟩
set_option maxRecDepth 100000 in
theorem ml_X7_233 : MLv RX7 233 yX4_placesTogether cX4_placesTogether 3 (some .int) 0 := ⟨⟨Or.inr (List.mem_of_getElem? (i := 74) rfl), (List.mem_of_getElem? (i := 23) rfl), (List.mem_of_getElem? (i := 698) rfl), by decide, by decide +kernel, by decide⟩, (List.mem_of_getElem? (i := 696) rfl), (List.mem_of_getElem? (i := 697) rfl)⟩
set_option maxRecDepth 100000 in
theorem ml_X7_245 : MLv RX7 245 yX7_mixBook cX7_mixBook 7 (some .long) 1 := ⟨⟨Or.inl (List.mem_of_getElem? (i := 763) rfl), (List.mem_of_getElem? (i := 2) rfl), (List.mem_of_getElem? (i := 766) rfl), by decide, by decide +kernel, by decide⟩, (List.mem_of_getElem? (i := 764) rfl), (List.mem_of_getElem? (i := 765) rfl)⟩
set_option maxRecDepth 100000 in
theorem ml_X7_249 : MLv RX7 249 yX7_spent cX7_spent 2 (some .int) 1 := ⟨⟨Or.inl (List.mem_of_getElem? (i := 771) rfl), (List.mem_of_getElem? (i := 2) rfl), (List.mem_of_getElem? (i := 368) rfl), by decide, by decide +kernel, by decide⟩, (List.mem_of_getElem? (i := 366) rfl), (List.mem_of_getElem? (i := 367) rfl)⟩
set_option maxRecDepth 100000 in
theorem ml_X7_252 : MLs RX7 252 yX7_mix cX7_mix 4 (some .long) 2 := ⟨⟨Or.inl (List.mem_of_getElem? (i := 767) rfl), (List.mem_of_getElem? (i := 2) rfl), (List.mem_of_getElem? (i := 769) rfl), by decide, by decide +kernel, by decide⟩, (List.mem_of_getElem? (i := 768) rfl)⟩
set_option maxRecDepth 100000 in
theorem ml_X7_256 : MLv RX7 256 yX7_guess cX7_guess 2 (some .int) 1 := ⟨⟨Or.inl (List.mem_of_getElem? (i := 772) rfl), (List.mem_of_getElem? (i := 2) rfl), (List.mem_of_getElem? (i := 594) rfl), by decide, by decide +kernel, by decide⟩, (List.mem_of_getElem? (i := 592) rfl), (List.mem_of_getElem? (i := 593) rfl)⟩
set_option maxRecDepth 100000 in
theorem ml_X7_259 : MLv RX7 259 yX7_mixShip cX7_mixShip 7 (some .long) 2 := ⟨⟨Or.inl (List.mem_of_getElem? (i := 773) rfl), (List.mem_of_getElem? (i := 2) rfl), (List.mem_of_getElem? (i := 776) rfl), by decide, by decide +kernel, by decide⟩, (List.mem_of_getElem? (i := 774) rfl), (List.mem_of_getElem? (i := 775) rfl)⟩
set_option maxRecDepth 100000 in
theorem ml_X7_263 : MLv RX7 263 yX7_called cX7_called 1 (some .int) 0 := ⟨⟨Or.inl (List.mem_of_getElem? (i := 779) rfl), (List.mem_of_getElem? (i := 2) rfl), (List.mem_of_getElem? (i := 629) rfl), by decide, by decide +kernel, by decide⟩, (List.mem_of_getElem? (i := 627) rfl), (List.mem_of_getElem? (i := 628) rfl)⟩
set_option maxRecDepth 100000 in
theorem ml_X7_269 : MLv RX7 269 yX7_count cX7_count 2 (some .int) 1 := ⟨⟨Or.inl (List.mem_of_getElem? (i := 780) rfl), (List.mem_of_getElem? (i := 2) rfl), (List.mem_of_getElem? (i := 749) rfl), by decide, by decide +kernel, by decide⟩, (List.mem_of_getElem? (i := 747) rfl), (List.mem_of_getElem? (i := 748) rfl)⟩
set_option maxRecDepth 100000 in
theorem ml_X7_272 : MLv RX7 272 yX7_about cX7_about 3 (some .int) 2 := ⟨⟨Or.inl (List.mem_of_getElem? (i := 777) rfl), (List.mem_of_getElem? (i := 2) rfl), (List.mem_of_getElem? (i := 302) rfl), by decide, by decide +kernel, by decide⟩, (List.mem_of_getElem? (i := 300) rfl), (List.mem_of_getElem? (i := 301) rfl)⟩
set_option maxRecDepth 100000 in
theorem ml_X7_275 : MLv RX7 275 yX7_likely cX7_likely 5 (some .long) 3 := ⟨⟨Or.inl (List.mem_of_getElem? (i := 778) rfl), (List.mem_of_getElem? (i := 2) rfl), (List.mem_of_getElem? (i := 447) rfl), by decide, by decide +kernel, by decide⟩, (List.mem_of_getElem? (i := 445) rfl), (List.mem_of_getElem? (i := 446) rfl)⟩
set_option maxRecDepth 100000 in
theorem ml_X7_294 : MLv RX7 294 yX0_favours cX0_favours 3 (some .boolean) 2 := ⟨⟨Or.inr (List.mem_of_getElem? (i := 53) rfl), (List.mem_of_getElem? (i := 37) rfl), (List.mem_of_getElem? (i := 386) rfl), by decide, by decide +kernel, by decide⟩, (List.mem_of_getElem? (i := 384) rfl), (List.mem_of_getElem? (i := 385) rfl)⟩
set_option maxRecDepth 100000 in
theorem ml_X7_298 : MLs RX7 298 yX7_placeAhead cX7_placeAhead 4 (some .int) 3 := ⟨⟨Or.inl (List.mem_of_getElem? (i := 389) rfl), (List.mem_of_getElem? (i := 2) rfl), (List.mem_of_getElem? (i := 391) rfl), by decide, by decide +kernel, by decide⟩, (List.mem_of_getElem? (i := 390) rfl)⟩
set_option maxRecDepth 100000 in
theorem ml_X7_301 : MLs RX7 301 yX7_placeBehind cX7_placeBehind 4 (some .int) 3 := ⟨⟨Or.inl (List.mem_of_getElem? (i := 397) rfl), (List.mem_of_getElem? (i := 2) rfl), (List.mem_of_getElem? (i := 399) rfl), by decide, by decide +kernel, by decide⟩, (List.mem_of_getElem? (i := 398) rfl)⟩
set_option maxRecDepth 100000 in
theorem ml_X7_304 : MLv RX7 304 yX0_strengthInAll cX0_strengthInAll 4 (some .int) 1 := ⟨⟨Or.inr (List.mem_of_getElem? (i := 64) rfl), (List.mem_of_getElem? (i := 37) rfl), (List.mem_of_getElem? (i := 581) rfl), by decide, by decide +kernel, by decide⟩, (List.mem_of_getElem? (i := 579) rfl), (List.mem_of_getElem? (i := 580) rfl)⟩
set_option maxRecDepth 100000 in
theorem ml_X7_307 : MLs RX7 307 yX7_placeAfter cX7_placeAfter 5 (some .int) 5 := ⟨⟨Or.inl (List.mem_of_getElem? (i := 582) rfl), (List.mem_of_getElem? (i := 2) rfl), (List.mem_of_getElem? (i := 388) rfl), by decide, by decide +kernel, by decide⟩, (List.mem_of_getElem? (i := 387) rfl)⟩
set_option maxRecDepth 100000 in
theorem ml_X7_311 : MLs RX7 311 yX7_greatestShared cX7_greatestShared 6 (some .int) 2 := ⟨⟨Or.inl (List.mem_of_getElem? (i := 481) rfl), (List.mem_of_getElem? (i := 2) rfl), (List.mem_of_getElem? (i := 483) rfl), by decide, by decide +kernel, by decide⟩, (List.mem_of_getElem? (i := 482) rfl)⟩
set_option maxRecDepth 100000 in
theorem ml_X0_20 : MLv RX0 20 yX0_clear cX0_clear 2 none 0 := ⟨⟨Or.inl (List.mem_of_getElem? (i := 89) rfl), (List.mem_of_getElem? (i := 37) rfl), (List.mem_of_getElem? (i := 92) rfl), by decide, by decide +kernel, by decide⟩, (List.mem_of_getElem? (i := 90) rfl), (List.mem_of_getElem? (i := 91) rfl)⟩
set_option maxRecDepth 100000 in
theorem ml_X0_23 : MLs RX0 23 yJ7_fill_53178 cJ7_fill_53178 4 none 2 := ⟨⟨Or.inl (List.mem_of_getElem? (i := 93) rfl), (List.mem_of_getElem? (i := 70) rfl), (List.mem_of_getElem? (i := 71) rfl), by decide, by decide +kernel, by decide⟩, (List.mem_of_getElem? (i := 69) rfl)⟩
set_option maxRecDepth 100000 in
theorem ml_X0_29 : MLv RX0 29 yX0_favours cX0_favours 3 (some .boolean) 2 := ⟨⟨Or.inl (List.mem_of_getElem? (i := 462) rfl), (List.mem_of_getElem? (i := 37) rfl), (List.mem_of_getElem? (i := 386) rfl), by decide, by decide +kernel, by decide⟩, (List.mem_of_getElem? (i := 384) rfl), (List.mem_of_getElem? (i := 385) rfl)⟩
set_option maxRecDepth 100000 in
theorem ml_X0_33 : MLv RX0 33 yX0_strongest cX0_strongest 4 (some .int) 1 := ⟨⟨Or.inl (List.mem_of_getElem? (i := 559) rfl), (List.mem_of_getElem? (i := 37) rfl), (List.mem_of_getElem? (i := 562) rfl), by decide, by decide +kernel, by decide⟩, (List.mem_of_getElem? (i := 560) rfl), (List.mem_of_getElem? (i := 561) rfl)⟩
set_option maxRecDepth 100000 in
theorem ml_X1_27 : MLs RX1 27 yJ7_fill_53178 cJ7_fill_53178 4 none 2 := ⟨⟨Or.inl (List.mem_of_getElem? (i := 458) rfl), (List.mem_of_getElem? (i := 70) rfl), (List.mem_of_getElem? (i := 71) rfl), by decide, by decide +kernel, by decide⟩, (List.mem_of_getElem? (i := 69) rfl)⟩
set_option maxRecDepth 100000 in
theorem ml_X1_38 : MLv RX1 38 yX0_favour cX0_favour 5 (some .int) 2 := ⟨⟨Or.inr (List.mem_of_getElem? (i := 57) rfl), (List.mem_of_getElem? (i := 37) rfl), (List.mem_of_getElem? (i := 461) rfl), by decide, by decide +kernel, by decide⟩, (List.mem_of_getElem? (i := 459) rfl), (List.mem_of_getElem? (i := 460) rfl)⟩
set_option maxRecDepth 100000 in
theorem ml_X1_45 : MLv RX1 45 yX1_bestCall cX1_bestCall 9 (some .int) 4 := ⟨⟨Or.inl (List.mem_of_getElem? (i := 469) rfl), (List.mem_of_getElem? (i := 33) rfl), (List.mem_of_getElem? (i := 475) rfl), by decide, by decide +kernel, by decide⟩, (List.mem_of_getElem? (i := 470) rfl), (List.mem_of_getElem? (i := 471) rfl)⟩
set_option maxRecDepth 100000 in
theorem ml_X1_49 : MLv RX1 49 yX1_worth cX1_worth 11 (some .int) 5 := ⟨⟨Or.inl (List.mem_of_getElem? (i := 472) rfl), (List.mem_of_getElem? (i := 33) rfl), (List.mem_of_getElem? (i := 476) rfl), by decide, by decide +kernel, by decide⟩, (List.mem_of_getElem? (i := 473) rfl), (List.mem_of_getElem? (i := 474) rfl)⟩
set_option maxRecDepth 100000 in
theorem ml_X1_53 : MLs RX1 53 yX7_placeAhead cX7_placeAhead 4 (some .int) 3 := ⟨⟨Or.inr (List.mem_of_getElem? (i := 60) rfl), (List.mem_of_getElem? (i := 2) rfl), (List.mem_of_getElem? (i := 391) rfl), by decide, by decide +kernel, by decide⟩, (List.mem_of_getElem? (i := 390) rfl)⟩
set_option maxRecDepth 100000 in
theorem ml_X1_57 : MLv RX1 57 yX1_chances cX1_chances 7 (some .int) 3 := ⟨⟨Or.inl (List.mem_of_getElem? (i := 477) rfl), (List.mem_of_getElem? (i := 33) rfl), (List.mem_of_getElem? (i := 468) rfl), by decide, by decide +kernel, by decide⟩, (List.mem_of_getElem? (i := 466) rfl), (List.mem_of_getElem? (i := 467) rfl)⟩
set_option maxRecDepth 100000 in
theorem ml_X1_60 : MLs RX1 60 yX7_placeBehind cX7_placeBehind 4 (some .int) 3 := ⟨⟨Or.inr (List.mem_of_getElem? (i := 61) rfl), (List.mem_of_getElem? (i := 2) rfl), (List.mem_of_getElem? (i := 399) rfl), by decide, by decide +kernel, by decide⟩, (List.mem_of_getElem? (i := 398) rfl)⟩
set_option maxRecDepth 100000 in
theorem ml_X2_15 : MLs RX2 15 yX2_lettersIn cX2_lettersIn 5 (some .int) 1 := ⟨⟨Or.inl (List.mem_of_getElem? (i := 132) rfl), (List.mem_of_getElem? (i := 15) rfl), (List.mem_of_getElem? (i := 134) rfl), by decide, by decide +kernel, by decide⟩, (List.mem_of_getElem? (i := 133) rfl)⟩
set_option maxRecDepth 100000 in
theorem ml_X2_23 : MLs RX2 23 yX2_byteAt cX2_byteAt 3 (some .int) 2 := ⟨⟨Or.inl (List.mem_of_getElem? (i := 135) rfl), (List.mem_of_getElem? (i := 15) rfl), (List.mem_of_getElem? (i := 137) rfl), by decide, by decide +kernel, by decide⟩, (List.mem_of_getElem? (i := 136) rfl)⟩
set_option maxRecDepth 100000 in
theorem ml_X3_11 : MLv RX3 11 yX0_clear cX0_clear 2 none 0 := ⟨⟨Or.inr (List.mem_of_getElem? (i := 36) rfl), (List.mem_of_getElem? (i := 37) rfl), (List.mem_of_getElem? (i := 92) rfl), by decide, by decide +kernel, by decide⟩, (List.mem_of_getElem? (i := 90) rfl), (List.mem_of_getElem? (i := 91) rfl)⟩
set_option maxRecDepth 100000 in
theorem ml_X3_32 : MLv RX3 32 yX3_takes cX3_takes 3 (some .boolean) 2 := ⟨⟨Or.inl (List.mem_of_getElem? (i := 164) rfl), (List.mem_of_getElem? (i := 19) rfl), (List.mem_of_getElem? (i := 167) rfl), by decide, by decide +kernel, by decide⟩, (List.mem_of_getElem? (i := 165) rfl), (List.mem_of_getElem? (i := 166) rfl)⟩
set_option maxRecDepth 100000 in
theorem ml_X3_36 : MLv RX3 36 yX3_takesMark cX3_takesMark 4 (some .boolean) 3 := ⟨⟨Or.inl (List.mem_of_getElem? (i := 168) rfl), (List.mem_of_getElem? (i := 19) rfl), (List.mem_of_getElem? (i := 171) rfl), by decide, by decide +kernel, by decide⟩, (List.mem_of_getElem? (i := 169) rfl), (List.mem_of_getElem? (i := 170) rfl)⟩
set_option maxRecDepth 100000 in
theorem ml_X3_40 : MLv RX3 40 yX3_takesName cX3_takesName 5 (some .boolean) 3 := ⟨⟨Or.inl (List.mem_of_getElem? (i := 172) rfl), (List.mem_of_getElem? (i := 19) rfl), (List.mem_of_getElem? (i := 175) rfl), by decide, by decide +kernel, by decide⟩, (List.mem_of_getElem? (i := 173) rfl), (List.mem_of_getElem? (i := 174) rfl)⟩
set_option maxRecDepth 100000 in
theorem ml_X3_44 : MLv RX3 44 yX3_takesNextWind cX3_takesNextWind 2 (some .boolean) 1 := ⟨⟨Or.inl (List.mem_of_getElem? (i := 178) rfl), (List.mem_of_getElem? (i := 19) rfl), (List.mem_of_getElem? (i := 181) rfl), by decide, by decide +kernel, by decide⟩, (List.mem_of_getElem? (i := 179) rfl), (List.mem_of_getElem? (i := 180) rfl)⟩
set_option maxRecDepth 100000 in
theorem ml_X3_48 : MLv RX3 48 yX3_takesTenths cX3_takesTenths 5 (some .boolean) 2 := ⟨⟨Or.inl (List.mem_of_getElem? (i := 182) rfl), (List.mem_of_getElem? (i := 19) rfl), (List.mem_of_getElem? (i := 185) rfl), by decide, by decide +kernel, by decide⟩, (List.mem_of_getElem? (i := 183) rfl), (List.mem_of_getElem? (i := 184) rfl)⟩
set_option maxRecDepth 100000 in
theorem ml_X3_51 : MLs RX3 51 yX7_isName cX7_isName 1 (some .boolean) 1 := ⟨⟨Or.inr (List.mem_of_getElem? (i := 37) rfl), (List.mem_of_getElem? (i := 2) rfl), (List.mem_of_getElem? (i := 177) rfl), by decide, by decide +kernel, by decide⟩, (List.mem_of_getElem? (i := 176) rfl)⟩
set_option maxRecDepth 100000 in
theorem ml_X3_57 : MLs RX3 57 yX7_isSign cX7_isSign 1 (some .boolean) 1 := ⟨⟨Or.inr (List.mem_of_getElem? (i := 38) rfl), (List.mem_of_getElem? (i := 2) rfl), (List.mem_of_getElem? (i := 187) rfl), by decide, by decide +kernel, by decide⟩, (List.mem_of_getElem? (i := 186) rfl)⟩
set_option maxRecDepth 100000 in
theorem ml_X4_22 : MLv RX4 22 yX4_clear cX4_clear 1 none 0 := ⟨⟨Or.inl (List.mem_of_getElem? (i := 60) rfl), (List.mem_of_getElem? (i := 23) rfl), (List.mem_of_getElem? (i := 63) rfl), by decide, by decide +kernel, by decide⟩, (List.mem_of_getElem? (i := 61) rfl), (List.mem_of_getElem? (i := 62) rfl)⟩
set_option maxRecDepth 100000 in
theorem ml_X4_25 : MLs RX4 25 yJ7_fill_53178 cJ7_fill_53178 4 none 2 := ⟨⟨Or.inl (List.mem_of_getElem? (i := 68) rfl), (List.mem_of_getElem? (i := 70) rfl), (List.mem_of_getElem? (i := 71) rfl), by decide, by decide +kernel, by decide⟩, (List.mem_of_getElem? (i := 69) rfl)⟩
set_option maxRecDepth 100000 in
theorem ml_X4_44 : MLv RX4 44 yX5_copyFrom cX5_copyFrom 2 none 1 := ⟨⟨Or.inr (List.mem_of_getElem? (i := 72) rfl), (List.mem_of_getElem? (i := 55) rfl), (List.mem_of_getElem? (i := 678) rfl), by decide, by decide +kernel, by decide⟩, (List.mem_of_getElem? (i := 676) rfl), (List.mem_of_getElem? (i := 677) rfl)⟩
set_option maxRecDepth 100000 in
theorem ml_X4_54 : MLv RX4 54 yX5_begin cX5_begin 3 none 2 := ⟨⟨Or.inr (List.mem_of_getElem? (i := 44) rfl), (List.mem_of_getElem? (i := 55) rfl), (List.mem_of_getElem? (i := 287) rfl), by decide, by decide +kernel, by decide⟩, (List.mem_of_getElem? (i := 285) rfl), (List.mem_of_getElem? (i := 286) rfl)⟩
set_option maxRecDepth 100000 in
theorem ml_X4_58 : MLs RX4 58 yJ6_bitCount_0f7a4 cJ6_bitCount_0f7a4 1 (some .int) 1 := ⟨⟨Or.inl (List.mem_of_getElem? (i := 430) rfl), (List.mem_of_getElem? (i := 432) rfl), (List.mem_of_getElem? (i := 433) rfl), by decide, by decide +kernel, by decide⟩, (List.mem_of_getElem? (i := 431) rfl)⟩
set_option maxRecDepth 100000 in
theorem ml_X4_70 : MLv RX4 70 yX4_isSpentToday cX4_isSpentToday 3 (some .boolean) 1 := ⟨⟨Or.inl (List.mem_of_getElem? (i := 343) rfl), (List.mem_of_getElem? (i := 23) rfl), (List.mem_of_getElem? (i := 346) rfl), by decide, by decide +kernel, by decide⟩, (List.mem_of_getElem? (i := 344) rfl), (List.mem_of_getElem? (i := 345) rfl)⟩
set_option maxRecDepth 100000 in
theorem ml_X4_74 : MLv RX4 74 yX4_beginCall cX4_beginCall 3 none 2 := ⟨⟨Or.inl (List.mem_of_getElem? (i := 350) rfl), (List.mem_of_getElem? (i := 23) rfl), (List.mem_of_getElem? (i := 353) rfl), by decide, by decide +kernel, by decide⟩, (List.mem_of_getElem? (i := 351) rfl), (List.mem_of_getElem? (i := 352) rfl)⟩
set_option maxRecDepth 100000 in
theorem ml_X4_77 : MLv RX4 77 yX5_spends cX5_spends 2 (some .boolean) 1 := ⟨⟨Or.inr (List.mem_of_getElem? (i := 49) rfl), (List.mem_of_getElem? (i := 55) rfl), (List.mem_of_getElem? (i := 349) rfl), by decide, by decide +kernel, by decide⟩, (List.mem_of_getElem? (i := 347) rfl), (List.mem_of_getElem? (i := 348) rfl)⟩
set_option maxRecDepth 100000 in
theorem ml_X4_80 : MLv RX4 80 yX4_answer cX4_answer 5 none 3 := ⟨⟨Or.inl (List.mem_of_getElem? (i := 380) rfl), (List.mem_of_getElem? (i := 23) rfl), (List.mem_of_getElem? (i := 383) rfl), by decide, by decide +kernel, by decide⟩, (List.mem_of_getElem? (i := 381) rfl), (List.mem_of_getElem? (i := 382) rfl)⟩
set_option maxRecDepth 100000 in
theorem ml_X4_87 : MLs RX4 87 yX7_placeAfter cX7_placeAfter 5 (some .int) 5 := ⟨⟨Or.inr (List.mem_of_getElem? (i := 52) rfl), (List.mem_of_getElem? (i := 2) rfl), (List.mem_of_getElem? (i := 388) rfl), by decide, by decide +kernel, by decide⟩, (List.mem_of_getElem? (i := 387) rfl)⟩
set_option maxRecDepth 100000 in
theorem ml_X4_91 : MLv RX4 91 yX0_favours cX0_favours 3 (some .boolean) 2 := ⟨⟨Or.inr (List.mem_of_getElem? (i := 51) rfl), (List.mem_of_getElem? (i := 37) rfl), (List.mem_of_getElem? (i := 386) rfl), by decide, by decide +kernel, by decide⟩, (List.mem_of_getElem? (i := 384) rfl), (List.mem_of_getElem? (i := 385) rfl)⟩
set_option maxRecDepth 100000 in
theorem ml_X4_103 : MLs RX4 103 yX4_nextSeed cX4_nextSeed 1 (some .int) 1 := ⟨⟨Or.inl (List.mem_of_getElem? (i := 682) rfl), (List.mem_of_getElem? (i := 23) rfl), (List.mem_of_getElem? (i := 684) rfl), by decide, by decide +kernel, by decide⟩, (List.mem_of_getElem? (i := 683) rfl)⟩
set_option maxRecDepth 100000 in
theorem ml_X4_106 : MLs RX4 106 yX4_drawOf cX4_drawOf 2 (some .int) 2 := ⟨⟨Or.inl (List.mem_of_getElem? (i := 688) rfl), (List.mem_of_getElem? (i := 23) rfl), (List.mem_of_getElem? (i := 690) rfl), by decide, by decide +kernel, by decide⟩, (List.mem_of_getElem? (i := 689) rfl)⟩
set_option maxRecDepth 100000 in
theorem ml_X4_110 : MLv RX4 110 yX4_isSpent cX4_isSpent 2 (some .boolean) 1 := ⟨⟨Or.inl (List.mem_of_getElem? (i := 691) rfl), (List.mem_of_getElem? (i := 23) rfl), (List.mem_of_getElem? (i := 339) rfl), by decide, by decide +kernel, by decide⟩, (List.mem_of_getElem? (i := 337) rfl), (List.mem_of_getElem? (i := 338) rfl)⟩
set_option maxRecDepth 100000 in
theorem ml_X4_113 : MLs RX4 113 yX4_windDrawn cX4_windDrawn 5 (some .int) 3 := ⟨⟨Or.inl (List.mem_of_getElem? (i := 692) rfl), (List.mem_of_getElem? (i := 23) rfl), (List.mem_of_getElem? (i := 694) rfl), by decide, by decide +kernel, by decide⟩, (List.mem_of_getElem? (i := 693) rfl)⟩
set_option maxRecDepth 100000 in
theorem ml_X4_117 : MLv RX4 117 yX4_passDay cX4_passDay 5 none 2 := ⟨⟨Or.inl (List.mem_of_getElem? (i := 695) rfl), (List.mem_of_getElem? (i := 23) rfl), (List.mem_of_getElem? (i := 379) rfl), by decide, by decide +kernel, by decide⟩, (List.mem_of_getElem? (i := 377) rfl), (List.mem_of_getElem? (i := 378) rfl)⟩
set_option maxRecDepth 100000 in
theorem ml_X6_26 : MLv RX6 26 yX6_waysBy cX6_waysBy 7 (some .int) 3 := ⟨⟨Or.inl (List.mem_of_getElem? (i := 633) rfl), (List.mem_of_getElem? (i := 29) rfl), (List.mem_of_getElem? (i := 636) rfl), by decide, by decide +kernel, by decide⟩, (List.mem_of_getElem? (i := 634) rfl), (List.mem_of_getElem? (i := 635) rfl)⟩
set_option maxRecDepth 100000 in
theorem ml_X6_30 : MLv RX6 30 yX0_strengthInAll cX0_strengthInAll 4 (some .int) 1 := ⟨⟨Or.inr (List.mem_of_getElem? (i := 68) rfl), (List.mem_of_getElem? (i := 37) rfl), (List.mem_of_getElem? (i := 581) rfl), by decide, by decide +kernel, by decide⟩, (List.mem_of_getElem? (i := 579) rfl), (List.mem_of_getElem? (i := 580) rfl)⟩
set_option maxRecDepth 100000 in
theorem ml_X6_36 : MLs RX6 36 yX7_placeAfter cX7_placeAfter 5 (some .int) 5 := ⟨⟨Or.inr (List.mem_of_getElem? (i := 69) rfl), (List.mem_of_getElem? (i := 2) rfl), (List.mem_of_getElem? (i := 388) rfl), by decide, by decide +kernel, by decide⟩, (List.mem_of_getElem? (i := 387) rfl)⟩
set_option maxRecDepth 100000 in
theorem ml_X6_40 : MLv RX6 40 yX6_ways cX6_ways 6 (some .int) 1 := ⟨⟨Or.inl (List.mem_of_getElem? (i := 660) rfl), (List.mem_of_getElem? (i := 29) rfl), (List.mem_of_getElem? (i := 632) rfl), by decide, by decide +kernel, by decide⟩, (List.mem_of_getElem? (i := 630) rfl), (List.mem_of_getElem? (i := 631) rfl)⟩
set_option maxRecDepth 100000 in
theorem ml_X8_88 : MLs RX8 88 yX8_within cX8_within 3 (some .boolean) 3 := ⟨⟨Or.inl (List.mem_of_getElem? (i := 208) rfl), (List.mem_of_getElem? (i := 5) rfl), (List.mem_of_getElem? (i := 210) rfl), by decide, by decide +kernel, by decide⟩, (List.mem_of_getElem? (i := 209) rfl)⟩
set_option maxRecDepth 100000 in
theorem ml_X8_98 : MLv RX8 98 yX8_takesName cX8_takesName 3 (some .boolean) 1 := ⟨⟨Or.inl (List.mem_of_getElem? (i := 204) rfl), (List.mem_of_getElem? (i := 5) rfl), (List.mem_of_getElem? (i := 207) rfl), by decide, by decide +kernel, by decide⟩, (List.mem_of_getElem? (i := 205) rfl), (List.mem_of_getElem? (i := 206) rfl)⟩
set_option maxRecDepth 100000 in
theorem ml_X8_102 : MLv RX8 102 yX8_takesTenths cX8_takesTenths 5 (some .boolean) 2 := ⟨⟨Or.inl (List.mem_of_getElem? (i := 211) rfl), (List.mem_of_getElem? (i := 5) rfl), (List.mem_of_getElem? (i := 214) rfl), by decide, by decide +kernel, by decide⟩, (List.mem_of_getElem? (i := 212) rfl), (List.mem_of_getElem? (i := 213) rfl)⟩
set_option maxRecDepth 100000 in
theorem ml_X8_106 : MLv RX8 106 yX8_nextState cX8_nextState 3 (some .int) 2 := ⟨⟨Or.inl (List.mem_of_getElem? (i := 200) rfl), (List.mem_of_getElem? (i := 5) rfl), (List.mem_of_getElem? (i := 203) rfl), by decide, by decide +kernel, by decide⟩, (List.mem_of_getElem? (i := 201) rfl), (List.mem_of_getElem? (i := 202) rfl)⟩
set_option maxRecDepth 100000 in
theorem ml_X8_117 : MLv RX8 117 yX8_readBook cX8_readBook 5 none 0 := ⟨⟨Or.inl (List.mem_of_getElem? (i := 193) rfl), (List.mem_of_getElem? (i := 5) rfl), (List.mem_of_getElem? (i := 196) rfl), by decide, by decide +kernel, by decide⟩, (List.mem_of_getElem? (i := 194) rfl), (List.mem_of_getElem? (i := 195) rfl)⟩
set_option maxRecDepth 100000 in
theorem ml_X8_144 : MLs RX8 144 yX8_isName cX8_isName 1 (some .boolean) 1 := ⟨⟨Or.inl (List.mem_of_getElem? (i := 269) rfl), (List.mem_of_getElem? (i := 5) rfl), (List.mem_of_getElem? (i := 271) rfl), by decide, by decide +kernel, by decide⟩, (List.mem_of_getElem? (i := 270) rfl)⟩
set_option maxRecDepth 100000 in
theorem ml_X8_147 : MLs RX8 147 yX8_isPlace cX8_isPlace 1 (some .boolean) 1 := ⟨⟨Or.inl (List.mem_of_getElem? (i := 296) rfl), (List.mem_of_getElem? (i := 5) rfl), (List.mem_of_getElem? (i := 298) rfl), by decide, by decide +kernel, by decide⟩, (List.mem_of_getElem? (i := 297) rfl)⟩
set_option maxRecDepth 100000 in
theorem ml_X8_150 : MLv RX8 150 yX8_isShip cX8_isShip 2 (some .boolean) 1 := ⟨⟨Or.inl (List.mem_of_getElem? (i := 314) rfl), (List.mem_of_getElem? (i := 5) rfl), (List.mem_of_getElem? (i := 317) rfl), by decide, by decide +kernel, by decide⟩, (List.mem_of_getElem? (i := 315) rfl), (List.mem_of_getElem? (i := 316) rfl)⟩
set_option maxRecDepth 100000 in
theorem ml_X8_153 : MLv RX8 153 yX8_shipNow cX8_shipNow 3 (some .int) 2 := ⟨⟨Or.inl (List.mem_of_getElem? (i := 318) rfl), (List.mem_of_getElem? (i := 5) rfl), (List.mem_of_getElem? (i := 321) rfl), by decide, by decide +kernel, by decide⟩, (List.mem_of_getElem? (i := 319) rfl), (List.mem_of_getElem? (i := 320) rfl)⟩
set_option maxRecDepth 100000 in
theorem ml_X8_156 : MLs RX8 156 yX8_has cX8_has 2 (some .boolean) 2 := ⟨⟨Or.inl (List.mem_of_getElem? (i := 358) rfl), (List.mem_of_getElem? (i := 5) rfl), (List.mem_of_getElem? (i := 360) rfl), by decide, by decide +kernel, by decide⟩, (List.mem_of_getElem? (i := 359) rfl)⟩
set_option maxRecDepth 100000 in
theorem ml_X8_159 : MLv RX8 159 yX8_isCalledToo cX8_isCalledToo 5 (some .boolean) 2 := ⟨⟨Or.inl (List.mem_of_getElem? (i := 361) rfl), (List.mem_of_getElem? (i := 5) rfl), (List.mem_of_getElem? (i := 364) rfl), by decide, by decide +kernel, by decide⟩, (List.mem_of_getElem? (i := 362) rfl), (List.mem_of_getElem? (i := 363) rfl)⟩
set_option maxRecDepth 100000 in
theorem ml_X8_162 : MLv RX8 162 yX8_answer cX8_answer 5 none 2 := ⟨⟨Or.inl (List.mem_of_getElem? (i := 411) rfl), (List.mem_of_getElem? (i := 5) rfl), (List.mem_of_getElem? (i := 414) rfl), by decide, by decide +kernel, by decide⟩, (List.mem_of_getElem? (i := 412) rfl), (List.mem_of_getElem? (i := 413) rfl)⟩
set_option maxRecDepth 100000 in
theorem ml_X8_166 : MLv RX8 166 yX8_behind cX8_behind 7 (some .int) 4 := ⟨⟨Or.inl (List.mem_of_getElem? (i := 415) rfl), (List.mem_of_getElem? (i := 5) rfl), (List.mem_of_getElem? (i := 418) rfl), by decide, by decide +kernel, by decide⟩, (List.mem_of_getElem? (i := 416) rfl), (List.mem_of_getElem? (i := 417) rfl)⟩
set_option maxRecDepth 100000 in
theorem ml_X8_170 : MLv RX8 170 yX8_homeMany cX8_homeMany 3 (some .int) 0 := ⟨⟨Or.inl (List.mem_of_getElem? (i := 419) rfl), (List.mem_of_getElem? (i := 5) rfl), (List.mem_of_getElem? (i := 422) rfl), by decide, by decide +kernel, by decide⟩, (List.mem_of_getElem? (i := 420) rfl), (List.mem_of_getElem? (i := 421) rfl)⟩
set_option maxRecDepth 100000 in
theorem ml_X8_174 : MLs RX8 174 yX8_size cX8_size 3 (some .int) 1 := ⟨⟨Or.inl (List.mem_of_getElem? (i := 441) rfl), (List.mem_of_getElem? (i := 5) rfl), (List.mem_of_getElem? (i := 443) rfl), by decide, by decide +kernel, by decide⟩, (List.mem_of_getElem? (i := 442) rfl)⟩
set_option maxRecDepth 100000 in
theorem ml_X8_178 : MLs RX8 178 yX8_spentBy cX8_spentBy 3 (some .int) 3 := ⟨⟨Or.inl (List.mem_of_getElem? (i := 515) rfl), (List.mem_of_getElem? (i := 5) rfl), (List.mem_of_getElem? (i := 517) rfl), by decide, by decide +kernel, by decide⟩, (List.mem_of_getElem? (i := 516) rfl)⟩
set_option maxRecDepth 100000 in
theorem ml_X8_182 : MLs RX8 182 yX8_at cX8_at 3 (some .int) 3 := ⟨⟨Or.inl (List.mem_of_getElem? (i := 499) rfl), (List.mem_of_getElem? (i := 5) rfl), (List.mem_of_getElem? (i := 501) rfl), by decide, by decide +kernel, by decide⟩, (List.mem_of_getElem? (i := 500) rfl)⟩
set_option maxRecDepth 100000 in
theorem ml_X8_185 : MLv RX8 185 yX8_chanceBy cX8_chanceBy 10 (some .long) 6 := ⟨⟨Or.inl (List.mem_of_getElem? (i := 511) rfl), (List.mem_of_getElem? (i := 5) rfl), (List.mem_of_getElem? (i := 514) rfl), by decide, by decide +kernel, by decide⟩, (List.mem_of_getElem? (i := 512) rfl), (List.mem_of_getElem? (i := 513) rfl)⟩
set_option maxRecDepth 100000 in
theorem ml_X8_191 : MLv RX8 191 yX8_overSigns cX8_overSigns 8 (some .long) 4 := ⟨⟨Or.inl (List.mem_of_getElem? (i := 502) rfl), (List.mem_of_getElem? (i := 5) rfl), (List.mem_of_getElem? (i := 505) rfl), by decide, by decide +kernel, by decide⟩, (List.mem_of_getElem? (i := 503) rfl), (List.mem_of_getElem? (i := 504) rfl)⟩
set_option maxRecDepth 100000 in
theorem ml_X8_197 : MLv RX8 197 yX8_bestCall cX8_bestCall 12 (some .int) 5 := ⟨⟨Or.inl (List.mem_of_getElem? (i := 506) rfl), (List.mem_of_getElem? (i := 5) rfl), (List.mem_of_getElem? (i := 509) rfl), by decide, by decide +kernel, by decide⟩, (List.mem_of_getElem? (i := 507) rfl), (List.mem_of_getElem? (i := 508) rfl)⟩
set_option maxRecDepth 100000 in
theorem ml_X8_201 : MLv RX8 201 yX8_layChances cX8_layChances 8 none 2 := ⟨⟨Or.inl (List.mem_of_getElem? (i := 494) rfl), (List.mem_of_getElem? (i := 5) rfl), (List.mem_of_getElem? (i := 497) rfl), by decide, by decide +kernel, by decide⟩, (List.mem_of_getElem? (i := 495) rfl), (List.mem_of_getElem? (i := 496) rfl)⟩
set_option maxRecDepth 100000 in
theorem ml_X8_204 : MLs RX8 204 yX8_power cX8_power 4 (some .long) 1 := ⟨⟨Or.inl (List.mem_of_getElem? (i := 518) rfl), (List.mem_of_getElem? (i := 5) rfl), (List.mem_of_getElem? (i := 520) rfl), by decide, by decide +kernel, by decide⟩, (List.mem_of_getElem? (i := 519) rfl)⟩
set_option maxRecDepth 100000 in
theorem ml_X8_208 : MLs RX8 208 yX8_lowest cX8_lowest 11 (some .long) 3 := ⟨⟨Or.inl (List.mem_of_getElem? (i := 521) rfl), (List.mem_of_getElem? (i := 5) rfl), (List.mem_of_getElem? (i := 523) rfl), by decide, by decide +kernel, by decide⟩, (List.mem_of_getElem? (i := 522) rfl)⟩
set_option maxRecDepth 100000 in
theorem ml_X8_214 : MLv RX8 214 yX8_likelyNow cX8_likelyNow 4 (some .long) 3 := ⟨⟨Or.inl (List.mem_of_getElem? (i := 490) rfl), (List.mem_of_getElem? (i := 5) rfl), (List.mem_of_getElem? (i := 493) rfl), by decide, by decide +kernel, by decide⟩, (List.mem_of_getElem? (i := 491) rfl), (List.mem_of_getElem? (i := 492) rfl)⟩
set_option maxRecDepth 100000 in
theorem ml_X8_220 : MLv RX8 220 yX8_sureBy cX8_sureBy 9 (some .boolean) 6 := ⟨⟨Or.inl (List.mem_of_getElem? (i := 548) rfl), (List.mem_of_getElem? (i := 5) rfl), (List.mem_of_getElem? (i := 551) rfl), by decide, by decide +kernel, by decide⟩, (List.mem_of_getElem? (i := 549) rfl), (List.mem_of_getElem? (i := 550) rfl)⟩
set_option maxRecDepth 100000 in
theorem ml_X8_224 : MLv RX8 224 yX8_isSure cX8_isSure 9 (some .boolean) 4 := ⟨⟨Or.inl (List.mem_of_getElem? (i := 544) rfl), (List.mem_of_getElem? (i := 5) rfl), (List.mem_of_getElem? (i := 547) rfl), by decide, by decide +kernel, by decide⟩, (List.mem_of_getElem? (i := 545) rfl), (List.mem_of_getElem? (i := 546) rfl)⟩
set_option maxRecDepth 100000 in
theorem ml_X8_228 : MLv RX8 228 yX8_sureNow cX8_sureNow 5 (some .int) 1 := ⟨⟨Or.inl (List.mem_of_getElem? (i := 540) rfl), (List.mem_of_getElem? (i := 5) rfl), (List.mem_of_getElem? (i := 543) rfl), by decide, by decide +kernel, by decide⟩, (List.mem_of_getElem? (i := 541) rfl), (List.mem_of_getElem? (i := 542) rfl)⟩
set_option maxRecDepth 100000 in
theorem ml_X8_231 : MLv RX8 231 yX8_tellsNow cX8_tellsNow 5 (some .int) 0 := ⟨⟨Or.inl (List.mem_of_getElem? (i := 568) rfl), (List.mem_of_getElem? (i := 5) rfl), (List.mem_of_getElem? (i := 571) rfl), by decide, by decide +kernel, by decide⟩, (List.mem_of_getElem? (i := 569) rfl), (List.mem_of_getElem? (i := 570) rfl)⟩
set_option maxRecDepth 100000 in
theorem ml_X8_234 : MLv RX8 234 yX8_raceNow cX8_raceNow 10 (some .long) 3 := ⟨⟨Or.inl (List.mem_of_getElem? (i := 587) rfl), (List.mem_of_getElem? (i := 5) rfl), (List.mem_of_getElem? (i := 590) rfl), by decide, by decide +kernel, by decide⟩, (List.mem_of_getElem? (i := 588) rfl), (List.mem_of_getElem? (i := 589) rfl)⟩
set_option maxRecDepth 100000 in
theorem ml_X8_237 : MLv RX8 237 yX8_guessNow cX8_guessNow 5 (some .int) 1 := ⟨⟨Or.inl (List.mem_of_getElem? (i := 599) rfl), (List.mem_of_getElem? (i := 5) rfl), (List.mem_of_getElem? (i := 602) rfl), by decide, by decide +kernel, by decide⟩, (List.mem_of_getElem? (i := 600) rfl), (List.mem_of_getElem? (i := 601) rfl)⟩
set_option maxRecDepth 100000 in
theorem ml_X8_240 : MLv RX8 240 yX8_canBlow cX8_canBlow 2 (some .boolean) 1 := ⟨⟨Or.inl (List.mem_of_getElem? (i := 649) rfl), (List.mem_of_getElem? (i := 5) rfl), (List.mem_of_getElem? (i := 652) rfl), by decide, by decide +kernel, by decide⟩, (List.mem_of_getElem? (i := 650) rfl), (List.mem_of_getElem? (i := 651) rfl)⟩
set_option maxRecDepth 100000 in
theorem ml_X8_243 : MLv RX8 243 yX8_waysBy cX8_waysBy 6 (some .int) 2 := ⟨⟨Or.inl (List.mem_of_getElem? (i := 645) rfl), (List.mem_of_getElem? (i := 5) rfl), (List.mem_of_getElem? (i := 648) rfl), by decide, by decide +kernel, by decide⟩, (List.mem_of_getElem? (i := 646) rfl), (List.mem_of_getElem? (i := 647) rfl)⟩
set_option maxRecDepth 100000 in
theorem ml_X8_246 : MLv RX8 246 yX8_calledNow cX8_calledNow 5 (some .int) 0 := ⟨⟨Or.inl (List.mem_of_getElem? (i := 641) rfl), (List.mem_of_getElem? (i := 5) rfl), (List.mem_of_getElem? (i := 644) rfl), by decide, by decide +kernel, by decide⟩, (List.mem_of_getElem? (i := 642) rfl), (List.mem_of_getElem? (i := 643) rfl)⟩
set_option maxRecDepth 100000 in
theorem ml_X8_261 : MLv RX8 261 yX8_draw cX8_draw 2 (some .int) 1 := ⟨⟨Or.inl (List.mem_of_getElem? (i := 712) rfl), (List.mem_of_getElem? (i := 5) rfl), (List.mem_of_getElem? (i := 715) rfl), by decide, by decide +kernel, by decide⟩, (List.mem_of_getElem? (i := 713) rfl), (List.mem_of_getElem? (i := 714) rfl)⟩
set_option maxRecDepth 100000 in
theorem ml_X8_264 : MLv RX8 264 yX8_drawnWind cX8_drawnWind 4 (some .int) 1 := ⟨⟨Or.inl (List.mem_of_getElem? (i := 720) rfl), (List.mem_of_getElem? (i := 5) rfl), (List.mem_of_getElem? (i := 723) rfl), by decide, by decide +kernel, by decide⟩, (List.mem_of_getElem? (i := 721) rfl), (List.mem_of_getElem? (i := 722) rfl)⟩
set_option maxRecDepth 100000 in
theorem ml_X8_267 : MLv RX8 267 yX8_goYearDay cX8_goYearDay 4 none 0 := ⟨⟨Or.inl (List.mem_of_getElem? (i := 708) rfl), (List.mem_of_getElem? (i := 5) rfl), (List.mem_of_getElem? (i := 711) rfl), by decide, by decide +kernel, by decide⟩, (List.mem_of_getElem? (i := 709) rfl), (List.mem_of_getElem? (i := 710) rfl)⟩
set_option maxRecDepth 100000 in
theorem ml_X8_270 : MLv RX8 270 yX8_yearsNow cX8_yearsNow 8 (some .int) 3 := ⟨⟨Or.inl (List.mem_of_getElem? (i := 703) rfl), (List.mem_of_getElem? (i := 5) rfl), (List.mem_of_getElem? (i := 706) rfl), by decide, by decide +kernel, by decide⟩, (List.mem_of_getElem? (i := 704) rfl), (List.mem_of_getElem? (i := 705) rfl)⟩
set_option maxRecDepth 100000 in
theorem ml_X8_291 : MLv RX8 291 yX8_howMany cX8_howMany 2 (some .int) 1 := ⟨⟨Or.inl (List.mem_of_getElem? (i := 754) rfl), (List.mem_of_getElem? (i := 5) rfl), (List.mem_of_getElem? (i := 757) rfl), by decide, by decide +kernel, by decide⟩, (List.mem_of_getElem? (i := 755) rfl), (List.mem_of_getElem? (i := 756) rfl)⟩
set_option maxRecDepth 100000 in
theorem ml_X8_301 : MLv RX8 301 yX8_mix cX8_mix 3 none 1 := ⟨⟨Or.inl (List.mem_of_getElem? (i := 787) rfl), (List.mem_of_getElem? (i := 5) rfl), (List.mem_of_getElem? (i := 790) rfl), by decide, by decide +kernel, by decide⟩, (List.mem_of_getElem? (i := 788) rfl), (List.mem_of_getElem? (i := 789) rfl)⟩
set_option maxRecDepth 100000 in
theorem mm_X7_283 : Cond.methodLink RX7 283 Lib.Math.min.name ∈ wsL_law ∧ Cond.static Lib.Math.min.name ∈ wsL_law ∧ Cond.initialized "java/lang/Math" ∈ wsL_law ∧ Cond.code Lib.Math.min.name Lib.Math.min.code 2 (some .int) ∈ wsL_law := ⟨(List.mem_of_getElem? (i := 393) rfl), (List.mem_of_getElem? (i := 394) rfl), (List.mem_of_getElem? (i := 395) rfl), (List.mem_of_getElem? (i := 396) rfl)⟩
set_option maxRecDepth 100000 in
theorem mm_X7_291 : Cond.methodLink RX7 291 Lib.Math.max.name ∈ wsL_law ∧ Cond.static Lib.Math.max.name ∈ wsL_law ∧ Cond.initialized "java/lang/Math" ∈ wsL_law ∧ Cond.code Lib.Math.max.name Lib.Math.max.code 2 (some .int) ∈ wsL_law := ⟨(List.mem_of_getElem? (i := 401) rfl), (List.mem_of_getElem? (i := 402) rfl), (List.mem_of_getElem? (i := 395) rfl), (List.mem_of_getElem? (i := 403) rfl)⟩
set_option maxRecDepth 100000 in
theorem mm_X0_37 : Cond.methodLink RX0 37 Lib.Math.max.name ∈ wsL_law ∧ Cond.static Lib.Math.max.name ∈ wsL_law ∧ Cond.initialized "java/lang/Math" ∈ wsL_law ∧ Cond.code Lib.Math.max.name Lib.Math.max.code 2 (some .int) ∈ wsL_law := ⟨(List.mem_of_getElem? (i := 563) rfl), (List.mem_of_getElem? (i := 402) rfl), (List.mem_of_getElem? (i := 395) rfl), (List.mem_of_getElem? (i := 403) rfl)⟩
set_option maxRecDepth 100000 in
theorem gs_X7_185 : Cond.fieldLink RX7 185 "NamedWind" (stN 90) "[I" ∈ wsL_law := (List.mem_of_getElem? (i := 450) rfl)
set_option maxRecDepth 100000 in
theorem gs_X7_280 : Cond.fieldLink RX7 280 "NamedWind" (stN 88) "[I" ∈ wsL_law := (List.mem_of_getElem? (i := 392) rfl)
set_option maxRecDepth 100000 in
theorem gs_X7_288 : Cond.fieldLink RX7 288 "NamedWind" (stN 89) "[I" ∈ wsL_law := (List.mem_of_getElem? (i := 400) rfl)
theorem gs_X1_42 : Cond.fieldLinkNest RX1 42 "NamedWind" (stN 90) "[I" "NamedWind" ∈ nestW := List.mem_of_getElem? (i := 25) rfl
set_option maxRecDepth 100000 in
theorem ct_X7_164 : Cond.constantLong RX7 164 (-101) ∈ wsL_law := (List.mem_of_getElem? (i := 448) rfl)
set_option maxRecDepth 100000 in
theorem ct_X7_169 : Cond.constantLong RX7 169 (-102) ∈ wsL_law := (List.mem_of_getElem? (i := 449) rfl)
set_option maxRecDepth 100000 in
theorem ct_X7_243 : Cond.constantLong RX7 243 (661) ∈ wsL_law := (List.mem_of_getElem? (i := 762) rfl)
set_option maxRecDepth 100000 in
theorem ct_X7_278 : Cond.constantLong RX7 278 (31) ∈ wsL_law := (List.mem_of_getElem? (i := 770) rfl)
set_option maxRecDepth 100000 in
theorem ct_X4_125 : Cond.constantLong RX4 125 (1103515245) ∈ wsL_law := (List.mem_of_getElem? (i := 685) rfl)
set_option maxRecDepth 100000 in
theorem ct_X4_127 : Cond.constantLong RX4 127 (12345) ∈ wsL_law := (List.mem_of_getElem? (i := 686) rfl)
set_option maxRecDepth 100000 in
theorem ct_X4_129 : Cond.constantLong RX4 129 (2147483647) ∈ wsL_law := (List.mem_of_getElem? (i := 687) rfl)
set_option maxRecDepth 100000 in
theorem ct_L_13 : Cond.constantLong RL 13 (4294967295) ∈ wsL_law := (List.mem_of_getElem? (i := 6) rfl)
set_option maxRecDepth 100000 in
theorem ct_X8_83 : Cond.constantLong RX8 83 (255) ∈ wsL_law := (List.mem_of_getElem? (i := 142) rfl)
set_option maxRecDepth 100000 in
theorem ct_X8_189 : Cond.constantLong RX8 189 (-1) ∈ wsL_law := (List.mem_of_getElem? (i := 510) rfl)
set_option maxRecDepth 100000 in
theorem ct_X8_195 : Cond.constantLong RX8 195 (30) ∈ wsL_law := (List.mem_of_getElem? (i := 498) rfl)
set_option maxRecDepth 100000 in
theorem ct_X8_212 : Cond.constantLong RX8 212 (-101) ∈ wsL_law := (List.mem_of_getElem? (i := 488) rfl)
set_option maxRecDepth 100000 in
theorem ct_X8_218 : Cond.constantLong RX8 218 (-102) ∈ wsL_law := (List.mem_of_getElem? (i := 489) rfl)
set_option maxRecDepth 100000 in
theorem ct_X8_249 : Cond.constantLong RX8 249 (1103515245) ∈ wsL_law := (List.mem_of_getElem? (i := 716) rfl)
set_option maxRecDepth 100000 in
theorem ct_X8_255 : Cond.constantLong RX8 255 (12345) ∈ wsL_law := (List.mem_of_getElem? (i := 717) rfl)
set_option maxRecDepth 100000 in
theorem ct_X8_257 : Cond.constantLong RX8 257 (2147483647) ∈ wsL_law := (List.mem_of_getElem? (i := 718) rfl)
set_option maxRecDepth 100000 in
theorem ct_X8_259 : Cond.constantLong RX8 259 (65536) ∈ wsL_law := (List.mem_of_getElem? (i := 719) rfl)
set_option maxRecDepth 100000 in
theorem ct_X8_294 : Cond.constantLong RX8 294 (31) ∈ wsL_law := (List.mem_of_getElem? (i := 791) rfl)
set_option maxRecDepth 100000 in
theorem ct_X8_299 : Cond.constantLong RX8 299 (661) ∈ wsL_law := (List.mem_of_getElem? (i := 785) rfl)
set_option maxRecDepth 100000 in
theorem ct_J6_265 : Cond.constant RJ6 265 (1431655765) ∈ wsL_law := (List.mem_of_getElem? (i := 434) rfl)
set_option maxRecDepth 100000 in
theorem ct_J6_266 : Cond.constant RJ6 266 (858993459) ∈ wsL_law := (List.mem_of_getElem? (i := 435) rfl)
set_option maxRecDepth 100000 in
theorem ct_J6_267 : Cond.constant RJ6 267 (252645135) ∈ wsL_law := (List.mem_of_getElem? (i := 436) rfl)
end
section

/-! ===== plain facts, and what the class's own helpers answer ===== -/
def bI (b : Bool) : Int32 := if b then 1 else 0
theorem bI_t {b : Bool} (h : b = true) : bI b = 1 := by rw [h]; rfl
theorem bI_f {b : Bool} (h : b = false) : bI b = 0 := by rw [h]; rfl
theorem bI_0 (b : Bool) : bI b = 0 ↔ b = false := by cases b <;> simp [bI]
def inR (x M : Int32) : Bool := decide (¬ x < 0) && decide (¬ M ≤ x)
theorem inR_t {x M : Int32} (h : ¬ x < 0) (h2 : ¬ M ≤ x) : (1 : Int32) = bI (inR x M) := by simp [inR, h, h2, bI]
theorem inR_f1 {x M : Int32} (h : x < 0) : (0 : Int32) = bI (inR x M) := by simp [inR, h, bI]
theorem inR_f2 {x M : Int32} (h : M ≤ x) : (0 : Int32) = bI (inR x M) := by simp [inR, h, bI]
theorem inR_of {x M : Int32} {n : Nat} (hM : M = nI n) (hn : n < 2 ^ 31) (h : inR x M = true) : ∃ j, j < n ∧ x = nI j := by
  simp only [inR, Bool.and_eq_true, decide_eq_true_eq] at h
  obtain ⟨j, hj, rfl⟩ := nI_of h.1
  refine ⟨j, ?_, rfl⟩
  have := h.2
  rw [hM, nI_leI hn hj] at this
  omega
theorem inR_nI {j n : Nat} {M : Int32} (hM : M = nI n) (hn : n < 2 ^ 31) (h : j < n) : inR (nI j) M = true := by
  simp only [inR, Bool.and_eq_true, decide_eq_true_eq]
  refine ⟨nI_pos (by omega), ?_⟩
  rw [hM, nI_leI hn (by omega)]
  omega
def cI (k : Nat) : Int32 := nI k - 1
theorem cI_0 : cI 0 = -1 := by decide
theorem cI_s (k : Nat) : cI (k + 1) = nI k := nI_pred k
theorem cI_1 (k : Nat) : cI k + 1 = nI k := by show nI k - 1 + 1 = nI k; rw [Int32.sub_add_cancel]
theorem cI_n (k : Nat) : cI k + 1 = cI (k + 1) := by rw [cI_1, cI_s]
theorem cI_eq {a b : Nat} (ha : a < 2 ^ 31) (hb : b < 2 ^ 31) : cI a = cI b ↔ a = b := by
  constructor
  · intro h
    have h2 : cI a + 1 = cI b + 1 := by rw [h]
    rw [cI_1, cI_1] at h2
    exact (nI_eq ha hb).mp h2
  · intro h; rw [h]
theorem cI_m1 {a : Nat} (ha : a < 2 ^ 31) : cI a = -1 ↔ a = 0 := by rw [← cI_0]; exact cI_eq ha (by decide)
theorem cI_pos {a : Nat} (ha : a < 2 ^ 31) (h : ¬ cI a = -1) : ∃ k, a = k + 1 := ⟨a - 1, by have := mt (cI_m1 ha).mpr h; omega⟩
theorem nI_l3 {a b : Nat} (ha : a < 2 ^ 31) (hb : b < 2 ^ 31) (h : ¬ nI a ≤ nI b) : b < a := by
  rw [nI_leI ha hb] at h; omega
def fav (ow : Nat → Nat) (k w : Nat) : Bool := if k = 0 then (w == 0 || w == 1) else ow (k - 1) == w + 1
def sbK (κ : Nat) : Nat := ([2, 3, 1, 2, 2] : List Nat).getD κ 0
def tbK (κ : Nat) : Nat := ([2, 2, 1, 1, 1] : List Nat).getD κ 0
def ahd (κ p k : Nat) : Nat := min 9 (p + if k = 0 then 1 else sbK κ)
def bhd (κ p k : Nat) : Nat := if p = 9 then 9 else p - (if k = 0 then 1 else tbK κ)
def aft (ow : Nat → Nat) (κ p k w : Nat) : Nat := if w = 4 then p else if fav ow k w then ahd κ p k else bhd κ p k
/-- a BOOK's cells: tenths by wind and sign, the wind of each name (0: none) -/
def BkR (μ : Mm) (b : Nat) (tn : Nat → Nat → Nat) (ow : Nat → Nat) : Prop := (∀ w s, w < 5 → s < 3 → μ.1 (b + 1 + 1 + w) s = nI (tn w s)) ∧ (∀ n, n < 6 → μ.1 (b + 7) n = cI (ow n)) ∧ (∀ n, n < 6 → ow n ≤ 4) ∧ (∀ s, s < 3 → tn 0 s + tn 1 s + tn 2 s + tn 3 s + tn 4 s = 10)
theorem bkF {b : Nat} (h : b = 49 ∨ b = 57) : b < 88 ∧ kt b = 0 ∧ kt (b + 1) = 15 ∧ kn (b + 1) = 5 ∧ kt (b + 7) = 10 ∧ kn (b + 7) = 6 ∧ (∀ w, w < 5 → b + 1 + 1 + w < 88 ∧ kt (b + 1 + 1 + w) = 10 ∧ kn (b + 1 + 1 + w) = 3) := by
  rcases h with rfl | rfl <;> decide +kernel
theorem seaF {s : Nat} (h : s = 4 ∨ s = 13 ∨ s = 22) : s < 88 ∧ kt s = 4 ∧ kt (s + 1) = 14 ∧ kn (s + 1) = 6 ∧ kt (s + 8) = 10 ∧ kn (s + 8) = 6 ∧ (∀ i, i < 6 → s + 1 + 1 + i < 88 ∧ kt (s + 1 + 1 + i) = 5) := by
  rcases h with rfl | rfl | rfl <;> decide +kernel
theorem BkR.le {μ : Mm} {b : Nat} {tn : Nat → Nat → Nat} {ow : Nat → Nat} (h : BkR μ b tn ow) {w s : Nat} (hw : w < 5) (hs : s < 3) : tn w s ≤ 10 := by
  have h4 := h.2.2.2 s hs
  rcases (show w = 0 ∨ w = 1 ∨ w = 2 ∨ w = 3 ∨ w = 4 by omega) with rfl | rfl | rfl | rfl | rfl <;> omega
def favT (tn : Nat → Nat → Nat) (ow : Nat → Nat) (k s : Nat) : Nat → Nat
  | 0 => 0
  | w + 1 => favT tn ow k s w + if fav ow k w then tn w s else 0
def sumT (tn : Nat → Nat → Nat) (w : Nat) : Nat → Nat
  | 0 => 0
  | s + 1 => sumT tn w s + tn w s
def maxT (tn : Nat → Nat → Nat) (s : Nat) : Nat → Nat
  | 0 => 0
  | w + 1 => max (maxT tn s w) (tn w s)
def tellT (tn : Nat → Nat → Nat) : Nat → Nat
  | 0 => 0
  | n + 1 => let b := tellT tn n; if maxT tn n 5 > maxT tn b 5 then n else b
def nmT (ow : Nat → Nat) : Nat → Nat
  | 0 => 0
  | n + 1 => nmT ow n + if ow n = 0 then 0 else 1
theorem nI_max {a b : Nat} (ha : a < 2 ^ 31) (hb : b < 2 ^ 31) : (if nI a < nI b then nI b else nI a) = nI (max a b) := by
  by_cases h : a < b
  · rw [if_pos ((nI_ltI ha hb).mpr h), Nat.max_eq_right (by omega)]
  · rw [if_neg (fun q => h ((nI_ltI ha hb).mp q)), Nat.max_eq_left (by omega)]
theorem maxT_le {tn : Nat → Nat → Nat} {s : Nat} (h : ∀ w, w < 5 → tn w s ≤ 10) : ∀ n, n ≤ 5 → maxT tn s n ≤ 10
  | 0, _ => Nat.zero_le _
  | n + 1, hn => by
    have h1 := maxT_le h n (by omega)
    have h2 := h n (by omega)
    show max _ _ ≤ 10
    omega
theorem favT_le {tn : Nat → Nat → Nat} {ow : Nat → Nat} {k s : Nat} (h : ∀ w, w < 5 → tn w s ≤ 10) : ∀ n, n ≤ 5 → favT tn ow k s n ≤ 10 * n
  | 0, _ => Nat.zero_le _
  | n + 1, hn => by
    have h1 := favT_le (ow := ow) (k := k) h n (by omega)
    have h2 := h n (by omega)
    show _ + _ ≤ _
    split <;> omega
theorem sumT_le {tn : Nat → Nat → Nat} {w : Nat} (h : ∀ s, s < 3 → tn w s ≤ 10) : ∀ n, n ≤ 3 → sumT tn w n ≤ 10 * n
  | 0, _ => Nat.zero_le _
  | n + 1, hn => by
    have h1 := sumT_le h n (by omega)
    have h2 := h n (by omega)
    show _ + _ ≤ _
    omega
theorem nmT_le {ow : Nat → Nat} : ∀ n, nmT ow n ≤ n
  | 0 => Nat.le_refl _
  | n + 1 => by
    have h1 := nmT_le (ow := ow) n
    show _ + _ ≤ _
    split <;> omega
theorem tellT_lt {tn : Nat → Nat → Nat} : ∀ n, 0 < n → tellT tn n < n
  | 0, h => absurd h (by decide)
  | 1, _ => by
    show (let b := 0; if maxT tn 0 5 > maxT tn b 5 then 0 else b) < 1
    simp
  | n + 2, _ => by
    have h1 := tellT_lt (tn := tn) (n + 1) (by omega)
    show (let b := tellT tn (n + 1); if maxT tn (n + 1) 5 > maxT tn b 5 then n + 1 else b) < n + 2
    simp only
    split <;> omega

theorem nI_min9' {a : Nat} (ha : a < 2 ^ 31) : (if nI a < (9 : Int32) then nI a else (9 : Int32)) = nI (min 9 a) := by
  by_cases h : a < 9
  · rw [if_pos (show nI a < (9 : Int32) from (nI_ltI (b := 9) ha (by decide)).mpr h), Nat.min_eq_right (by omega)]
  · rw [if_neg (show ¬ nI a < (9 : Int32) from fun q => h ((nI_ltI (b := 9) ha (by decide)).mp q)), Nat.min_eq_left (by omega)]; rfl
theorem nI_sub0 {a b : Nat} (ha : a < 2 ^ 30) (hb : b < 2 ^ 30) : (if (0 : Int32) < nI a - nI b then nI a - nI b else (0 : Int32)) = nI (a - b) := by
  by_cases h : b ≤ a
  · rw [pk_sub h]
    by_cases h2 : a - b = 0
    · rw [h2]; rfl
    · rw [if_pos (show (0 : Int32) < nI (a - b) from (nI_ltI (a := 0) (by decide) (by omega)).mpr (by omega))]
  · have hn := pk_sneg hb (show a < b by omega)
    rw [if_neg (fun q => by rw [Int32.lt_iff_toInt_lt] at q hn; omega), show a - b = 0 by omega]; rfl
theorem stT88 : ∀ κ, κ ≤ 4 → (stT 88).getD κ 0 = nI (sbK κ) := by
  intro κ h
  rcases (show κ = 0 ∨ κ = 1 ∨ κ = 2 ∨ κ = 3 ∨ κ = 4 by omega) with rfl | rfl | rfl | rfl | rfl <;> rfl
theorem stT89 : ∀ κ, κ ≤ 4 → (stT 89).getD κ 0 = nI (tbK κ) := by
  intro κ h
  rcases (show κ = 0 ∨ κ = 1 ∨ κ = 2 ∨ κ = 3 ∨ κ = 4 by omega) with rfl | rfl | rfl | rfl | rfl <;> rfl
theorem sbK_le : ∀ κ, κ ≤ 4 → sbK κ ≤ 3 := by
  intro κ h
  rcases (show κ = 0 ∨ κ = 1 ∨ κ = 2 ∨ κ = 3 ∨ κ = 4 by omega) with rfl | rfl | rfl | rfl | rfl <;> decide
theorem tbK_le : ∀ κ, κ ≤ 4 → tbK κ ≤ 3 := by
  intro κ h
  rcases (show κ = 0 ∨ κ = 1 ∨ κ = 2 ∨ κ = 3 ∨ κ = 4 by omega) with rfl | rfl | rfl | rfl | rfl <;> decide
end
section
theorem dX7_isName_0 : decode cX7_isName 0 = .ok (.iload_n 0, 1) := by decide +kernel
theorem dX7_isName_1 : decode cX7_isName 1 = .ok (.ifCond .lt 13, 3) := by decide +kernel
theorem dX7_isName_4 : decode cX7_isName 4 = .ok (.iload_n 0, 1) := by decide +kernel
theorem dX7_isName_5 : decode cX7_isName 5 = .ok (.bipush 6, 2) := by decide +kernel
theorem dX7_isName_7 : decode cX7_isName 7 = .ok (.if_icmp .ge 7, 3) := by decide +kernel
theorem dX7_isName_10 : decode cX7_isName 10 = .ok (.iconst 1, 1) := by decide +kernel
theorem dX7_isName_11 : decode cX7_isName 11 = .ok (.goto 4, 3) := by decide +kernel
theorem dX7_isName_14 : decode cX7_isName 14 = .ok (.iconst 0, 1) := by decide +kernel
theorem dX7_isName_15 : decode cX7_isName 15 = .ok (.ireturn, 1) := by decide +kernel
set_option maxHeartbeats 4000000 in
set_option maxRecDepth 100000 in
theorem c_X7_isName {l : Launch} {g : GW} {x : Int32} (μ : Mm)  : Con l g yX7_isName cX7_isName 1 (some .boolean) 0 [.int x] μ (fun r μ' => r = some (.int (bI (inR x 6))) ∧ μ' = μ) := by
  refine Con.of [.int x] 0 (by decide +kernel) (Nat.le_of_ble_eq_true rfl) rfl ?_
  refine V_iload_n (pc := 0) dX7_isName_0 rfl rfl ?_
  refine V_iflt (pc := 1) (tgt := 14) dX7_isName_1 (by decide) (fun h1 => ?_) (fun h1 => ?_)
  · refine V_iconst (pc := 14) (v := 0) dX7_isName_14 (by decide) ?_
    refine V_zret (pc := 15) dX7_isName_15 rfl (by first | exact Or.inl rfl | exact Or.inr rfl | assumption) ?_
    exact ⟨by first | exact congrArg (fun z => some (Value.int z)) (inR_t (by assumption) (by assumption)) | exact congrArg (fun z => some (Value.int z)) (inR_f1 (by assumption)) | exact congrArg (fun z => some (Value.int z)) (inR_f2 (by assumption)), rfl⟩
  refine V_iload_n (pc := 4) dX7_isName_4 rfl rfl ?_
  refine V_bipush (pc := 5) (v := 6) dX7_isName_5 (by decide) ?_
  refine V_icmpge (pc := 7) (tgt := 14) dX7_isName_7 (by decide) (fun h7 => ?_) (fun h7 => ?_)
  · refine V_iconst (pc := 14) (v := 0) dX7_isName_14 (by decide) ?_
    refine V_zret (pc := 15) dX7_isName_15 rfl (by first | exact Or.inl rfl | exact Or.inr rfl | assumption) ?_
    exact ⟨by first | exact congrArg (fun z => some (Value.int z)) (inR_t (by assumption) (by assumption)) | exact congrArg (fun z => some (Value.int z)) (inR_f1 (by assumption)) | exact congrArg (fun z => some (Value.int z)) (inR_f2 (by assumption)), rfl⟩
  refine V_iconst (pc := 10) (v := 1) dX7_isName_10 (by decide) ?_
  refine V_goto (pc := 11) (tgt := 15) dX7_isName_11 (by decide) ?_
  refine V_zret (pc := 15) dX7_isName_15 rfl (by first | exact Or.inl rfl | exact Or.inr rfl | assumption) ?_
  exact ⟨by first | exact congrArg (fun z => some (Value.int z)) (inR_t (by assumption) (by assumption)) | exact congrArg (fun z => some (Value.int z)) (inR_f1 (by assumption)) | exact congrArg (fun z => some (Value.int z)) (inR_f2 (by assumption)), rfl⟩
theorem dX7_isSign_0 : decode cX7_isSign 0 = .ok (.iload_n 0, 1) := by decide +kernel
theorem dX7_isSign_1 : decode cX7_isSign 1 = .ok (.ifCond .lt 12, 3) := by decide +kernel
theorem dX7_isSign_4 : decode cX7_isSign 4 = .ok (.iload_n 0, 1) := by decide +kernel
theorem dX7_isSign_5 : decode cX7_isSign 5 = .ok (.iconst 3, 1) := by decide +kernel
theorem dX7_isSign_6 : decode cX7_isSign 6 = .ok (.if_icmp .ge 7, 3) := by decide +kernel
theorem dX7_isSign_9 : decode cX7_isSign 9 = .ok (.iconst 1, 1) := by decide +kernel
theorem dX7_isSign_10 : decode cX7_isSign 10 = .ok (.goto 4, 3) := by decide +kernel
theorem dX7_isSign_13 : decode cX7_isSign 13 = .ok (.iconst 0, 1) := by decide +kernel
theorem dX7_isSign_14 : decode cX7_isSign 14 = .ok (.ireturn, 1) := by decide +kernel
set_option maxHeartbeats 4000000 in
set_option maxRecDepth 100000 in
theorem c_X7_isSign {l : Launch} {g : GW} {x : Int32} (μ : Mm)  : Con l g yX7_isSign cX7_isSign 1 (some .boolean) 0 [.int x] μ (fun r μ' => r = some (.int (bI (inR x 3))) ∧ μ' = μ) := by
  refine Con.of [.int x] 0 (by decide +kernel) (Nat.le_of_ble_eq_true rfl) rfl ?_
  refine V_iload_n (pc := 0) dX7_isSign_0 rfl rfl ?_
  refine V_iflt (pc := 1) (tgt := 13) dX7_isSign_1 (by decide) (fun h1 => ?_) (fun h1 => ?_)
  · refine V_iconst (pc := 13) (v := 0) dX7_isSign_13 (by decide) ?_
    refine V_zret (pc := 14) dX7_isSign_14 rfl (by first | exact Or.inl rfl | exact Or.inr rfl | assumption) ?_
    exact ⟨by first | exact congrArg (fun z => some (Value.int z)) (inR_t (by assumption) (by assumption)) | exact congrArg (fun z => some (Value.int z)) (inR_f1 (by assumption)) | exact congrArg (fun z => some (Value.int z)) (inR_f2 (by assumption)), rfl⟩
  refine V_iload_n (pc := 4) dX7_isSign_4 rfl rfl ?_
  refine V_iconst (pc := 5) (v := 3) dX7_isSign_5 (by decide) ?_
  refine V_icmpge (pc := 6) (tgt := 13) dX7_isSign_6 (by decide) (fun h6 => ?_) (fun h6 => ?_)
  · refine V_iconst (pc := 13) (v := 0) dX7_isSign_13 (by decide) ?_
    refine V_zret (pc := 14) dX7_isSign_14 rfl (by first | exact Or.inl rfl | exact Or.inr rfl | assumption) ?_
    exact ⟨by first | exact congrArg (fun z => some (Value.int z)) (inR_t (by assumption) (by assumption)) | exact congrArg (fun z => some (Value.int z)) (inR_f1 (by assumption)) | exact congrArg (fun z => some (Value.int z)) (inR_f2 (by assumption)), rfl⟩
  refine V_iconst (pc := 9) (v := 1) dX7_isSign_9 (by decide) ?_
  refine V_goto (pc := 10) (tgt := 14) dX7_isSign_10 (by decide) ?_
  refine V_zret (pc := 14) dX7_isSign_14 rfl (by first | exact Or.inl rfl | exact Or.inr rfl | assumption) ?_
  exact ⟨by first | exact congrArg (fun z => some (Value.int z)) (inR_t (by assumption) (by assumption)) | exact congrArg (fun z => some (Value.int z)) (inR_f1 (by assumption)) | exact congrArg (fun z => some (Value.int z)) (inR_f2 (by assumption)), rfl⟩
theorem dX7_isKind_0 : decode cX7_isKind 0 = .ok (.iload_n 0, 1) := by decide +kernel
theorem dX7_isKind_1 : decode cX7_isKind 1 = .ok (.ifCond .lt 12, 3) := by decide +kernel
theorem dX7_isKind_4 : decode cX7_isKind 4 = .ok (.iload_n 0, 1) := by decide +kernel
theorem dX7_isKind_5 : decode cX7_isKind 5 = .ok (.iconst 5, 1) := by decide +kernel
theorem dX7_isKind_6 : decode cX7_isKind 6 = .ok (.if_icmp .ge 7, 3) := by decide +kernel
theorem dX7_isKind_9 : decode cX7_isKind 9 = .ok (.iconst 1, 1) := by decide +kernel
theorem dX7_isKind_10 : decode cX7_isKind 10 = .ok (.goto 4, 3) := by decide +kernel
theorem dX7_isKind_13 : decode cX7_isKind 13 = .ok (.iconst 0, 1) := by decide +kernel
theorem dX7_isKind_14 : decode cX7_isKind 14 = .ok (.ireturn, 1) := by decide +kernel
set_option maxHeartbeats 4000000 in
set_option maxRecDepth 100000 in
theorem c_X7_isKind {l : Launch} {g : GW} {x : Int32} (μ : Mm)  : Con l g yX7_isKind cX7_isKind 1 (some .boolean) 0 [.int x] μ (fun r μ' => r = some (.int (bI (inR x 5))) ∧ μ' = μ) := by
  refine Con.of [.int x] 0 (by decide +kernel) (Nat.le_of_ble_eq_true rfl) rfl ?_
  refine V_iload_n (pc := 0) dX7_isKind_0 rfl rfl ?_
  refine V_iflt (pc := 1) (tgt := 13) dX7_isKind_1 (by decide) (fun h1 => ?_) (fun h1 => ?_)
  · refine V_iconst (pc := 13) (v := 0) dX7_isKind_13 (by decide) ?_
    refine V_zret (pc := 14) dX7_isKind_14 rfl (by first | exact Or.inl rfl | exact Or.inr rfl | assumption) ?_
    exact ⟨by first | exact congrArg (fun z => some (Value.int z)) (inR_t (by assumption) (by assumption)) | exact congrArg (fun z => some (Value.int z)) (inR_f1 (by assumption)) | exact congrArg (fun z => some (Value.int z)) (inR_f2 (by assumption)), rfl⟩
  refine V_iload_n (pc := 4) dX7_isKind_4 rfl rfl ?_
  refine V_iconst (pc := 5) (v := 5) dX7_isKind_5 (by decide) ?_
  refine V_icmpge (pc := 6) (tgt := 13) dX7_isKind_6 (by decide) (fun h6 => ?_) (fun h6 => ?_)
  · refine V_iconst (pc := 13) (v := 0) dX7_isKind_13 (by decide) ?_
    refine V_zret (pc := 14) dX7_isKind_14 rfl (by first | exact Or.inl rfl | exact Or.inr rfl | assumption) ?_
    exact ⟨by first | exact congrArg (fun z => some (Value.int z)) (inR_t (by assumption) (by assumption)) | exact congrArg (fun z => some (Value.int z)) (inR_f1 (by assumption)) | exact congrArg (fun z => some (Value.int z)) (inR_f2 (by assumption)), rfl⟩
  refine V_iconst (pc := 9) (v := 1) dX7_isKind_9 (by decide) ?_
  refine V_goto (pc := 10) (tgt := 14) dX7_isKind_10 (by decide) ?_
  refine V_zret (pc := 14) dX7_isKind_14 rfl (by first | exact Or.inl rfl | exact Or.inr rfl | assumption) ?_
  exact ⟨by first | exact congrArg (fun z => some (Value.int z)) (inR_t (by assumption) (by assumption)) | exact congrArg (fun z => some (Value.int z)) (inR_f1 (by assumption)) | exact congrArg (fun z => some (Value.int z)) (inR_f2 (by assumption)), rfl⟩
theorem dX0_favours_0 : decode cX0_favours 0 = .ok (.iload_n 1, 1) := by decide +kernel
theorem dX0_favours_1 : decode cX0_favours 1 = .ok (.iconst (-1), 1) := by decide +kernel
theorem dX0_favours_2 : decode cX0_favours 2 = .ok (.if_icmp .ne 20, 3) := by decide +kernel
theorem dX0_favours_5 : decode cX0_favours 5 = .ok (.iload_n 2, 1) := by decide +kernel
theorem dX0_favours_6 : decode cX0_favours 6 = .ok (.ifCond .eq 8, 3) := by decide +kernel
theorem dX0_favours_9 : decode cX0_favours 9 = .ok (.iload_n 2, 1) := by decide +kernel
theorem dX0_favours_10 : decode cX0_favours 10 = .ok (.iconst 1, 1) := by decide +kernel
theorem dX0_favours_11 : decode cX0_favours 11 = .ok (.if_icmp .ne 7, 3) := by decide +kernel
theorem dX0_favours_14 : decode cX0_favours 14 = .ok (.iconst 1, 1) := by decide +kernel
theorem dX0_favours_15 : decode cX0_favours 15 = .ok (.goto 22, 3) := by decide +kernel
theorem dX0_favours_18 : decode cX0_favours 18 = .ok (.iconst 0, 1) := by decide +kernel
theorem dX0_favours_19 : decode cX0_favours 19 = .ok (.goto 18, 3) := by decide +kernel
theorem dX0_favours_22 : decode cX0_favours 22 = .ok (.aload_n 0, 1) := by decide +kernel
theorem dX0_favours_23 : decode cX0_favours 23 = .ok (.getfield 16, 3) := by decide +kernel
theorem dX0_favours_26 : decode cX0_favours 26 = .ok (.iload_n 1, 1) := by decide +kernel
theorem dX0_favours_27 : decode cX0_favours 27 = .ok (.iaload, 1) := by decide +kernel
theorem dX0_favours_28 : decode cX0_favours 28 = .ok (.iload_n 2, 1) := by decide +kernel
theorem dX0_favours_29 : decode cX0_favours 29 = .ok (.if_icmp .ne 7, 3) := by decide +kernel
theorem dX0_favours_32 : decode cX0_favours 32 = .ok (.iconst 1, 1) := by decide +kernel
theorem dX0_favours_33 : decode cX0_favours 33 = .ok (.goto 4, 3) := by decide +kernel
theorem dX0_favours_36 : decode cX0_favours 36 = .ok (.iconst 0, 1) := by decide +kernel
theorem dX0_favours_37 : decode cX0_favours 37 = .ok (.ireturn, 1) := by decide +kernel
set_option maxHeartbeats 4000000 in
set_option maxRecDepth 100000 in
theorem c_X0_favours {l : Launch} {g : GW} {b k w : Nat} {tn : Nat → Nat → Nat} {ow : Nat → Nat} (μ : Mm) (hb : b = 49 ∨ b = 57) (hB : BkR μ b tn ow) (hk : k ≤ 6) (hw : w ≤ 4) : Con l g yX0_favours cX0_favours 3 (some .boolean) 0 [.ref b, .int (cI k), .int (nI w)] μ (fun r μ' => r = some (.int (bI (fav ow k w))) ∧ μ' = μ) := by
  obtain ⟨hb1, hb2, hb3, hb4, hb5, hb6, hrow⟩ := bkF hb
  refine Con.of [.ref b, .int (cI k), .int (nI w)] 0 (by decide +kernel) (Nat.le_of_ble_eq_true rfl) rfl ?_
  refine V_iload_n (pc := 0) dX0_favours_0 rfl rfl ?_
  refine V_iconst (pc := 1) (v := (-1)) dX0_favours_1 (by decide) ?_
  refine V_icmpne (pc := 2) (tgt := 22) dX0_favours_2 (by decide) (fun h2 => ?_) (fun h2 => ?_)
  · obtain ⟨k, rfl⟩ := cI_pos (by omega) h2
    refine V_aload_n (pc := 22) dX0_favours_22 rfl rfl ?_
    refine V_getR (pc := 23) (ci := 0) (j := 1) (k2 := (b + 7)) dX0_favours_23 fl_X0_16 (fun _ _ _ _ => rfl) (by first | decide | omega) (by first | rfl | assumption | exact (hrow _ (by omega)).2.1 | decide) (rf_0_1 (by first | rfl | assumption | exact (hrow _ (by omega)).2.1 | decide)) ?_
    refine V_iload_n (pc := 26) dX0_favours_26 rfl rfl ?_
    refine V_iald (pc := 27) (j := k) dX0_favours_27 (by first | decide | omega) (by first | rfl | assumption | exact (hrow _ (by omega)).2.1 | decide) (cI_s k) (by first | decide | assumption | omega) ?_
    refine V_iload_n (pc := 28) dX0_favours_28 rfl rfl ?_
    refine V_icmpne (pc := 29) (tgt := 36) dX0_favours_29 (by decide) (fun h29 => ?_) (fun h29 => ?_)
    · rw [hB.2.1 k (by omega), ← cI_s w, cI_eq (by have := hB.2.2.1 k (by omega); omega) (by omega)] at h29
      refine V_iconst (pc := 36) (v := 0) dX0_favours_36 (by decide) ?_
      refine V_zret (pc := 37) dX0_favours_37 rfl (by first | exact Or.inl rfl | exact Or.inr rfl | assumption) ?_
      exact ⟨congrArg (fun z => some (Value.int z)) (by simp_all [fav, bI]), rfl⟩
    rw [hB.2.1 k (by omega), ← cI_s w, cI_eq (by have := hB.2.2.1 k (by omega); omega) (by omega)] at h29
    refine V_iconst (pc := 32) (v := 1) dX0_favours_32 (by decide) ?_
    refine V_goto (pc := 33) (tgt := 37) dX0_favours_33 (by decide) ?_
    refine V_zret (pc := 37) dX0_favours_37 rfl (by first | exact Or.inl rfl | exact Or.inr rfl | assumption) ?_
    exact ⟨congrArg (fun z => some (Value.int z)) (by simp_all [fav, bI]), rfl⟩
  have h2 := (cI_m1 (by omega)).mp h2; subst h2
  refine V_iload_n (pc := 5) dX0_favours_5 rfl rfl ?_
  refine V_ifeq (pc := 6) (tgt := 14) dX0_favours_6 (by decide) (fun h6 => ?_) (fun h6 => ?_)
  · have h6 := (nI_eq (a := w) (b := 0) (by omega) (by decide)).mp h6
    refine V_iconst (pc := 14) (v := 1) dX0_favours_14 (by decide) ?_
    refine V_goto (pc := 15) (tgt := 37) dX0_favours_15 (by decide) ?_
    refine V_zret (pc := 37) dX0_favours_37 rfl (by first | exact Or.inl rfl | exact Or.inr rfl | assumption) ?_
    exact ⟨congrArg (fun z => some (Value.int z)) (by simp_all [fav, bI]), rfl⟩
  have h6 := mt (nI_eq (a := w) (b := 0) (by omega) (by decide)).mpr h6
  refine V_iload_n (pc := 9) dX0_favours_9 rfl rfl ?_
  refine V_iconst (pc := 10) (v := 1) dX0_favours_10 (by decide) ?_
  refine V_icmpne (pc := 11) (tgt := 18) dX0_favours_11 (by decide) (fun h11 => ?_) (fun h11 => ?_)
  · have h11 := mt (nI_eq (a := w) (b := 1) (by omega) (by decide)).mpr h11
    refine V_iconst (pc := 18) (v := 0) dX0_favours_18 (by decide) ?_
    refine V_goto (pc := 19) (tgt := 37) dX0_favours_19 (by decide) ?_
    refine V_zret (pc := 37) dX0_favours_37 rfl (by first | exact Or.inl rfl | exact Or.inr rfl | assumption) ?_
    exact ⟨congrArg (fun z => some (Value.int z)) (by simp_all [fav, bI]), rfl⟩
  have h11 := (nI_eq (a := w) (b := 1) (by omega) (by decide)).mp h11
  refine V_iconst (pc := 14) (v := 1) dX0_favours_14 (by decide) ?_
  refine V_goto (pc := 15) (tgt := 37) dX0_favours_15 (by decide) ?_
  refine V_zret (pc := 37) dX0_favours_37 rfl (by first | exact Or.inl rfl | exact Or.inr rfl | assumption) ?_
  exact ⟨congrArg (fun z => some (Value.int z)) (by simp_all [fav, bI]), rfl⟩
theorem dX0_strengthInAll_0 : decode cX0_strengthInAll 0 = .ok (.iconst 0, 1) := by decide +kernel
theorem dX0_strengthInAll_1 : decode cX0_strengthInAll 1 = .ok (.istore_n 2, 1) := by decide +kernel
theorem dX0_strengthInAll_2 : decode cX0_strengthInAll 2 = .ok (.iconst 0, 1) := by decide +kernel
theorem dX0_strengthInAll_3 : decode cX0_strengthInAll 3 = .ok (.istore_n 3, 1) := by decide +kernel
theorem dX0_strengthInAll_4 : decode cX0_strengthInAll 4 = .ok (.iload_n 3, 1) := by decide +kernel
theorem dX0_strengthInAll_5 : decode cX0_strengthInAll 5 = .ok (.iconst 3, 1) := by decide +kernel
theorem dX0_strengthInAll_6 : decode cX0_strengthInAll 6 = .ok (.if_icmp .ge 20, 3) := by decide +kernel
theorem dX0_strengthInAll_9 : decode cX0_strengthInAll 9 = .ok (.iload_n 2, 1) := by decide +kernel
theorem dX0_strengthInAll_10 : decode cX0_strengthInAll 10 = .ok (.aload_n 0, 1) := by decide +kernel
theorem dX0_strengthInAll_11 : decode cX0_strengthInAll 11 = .ok (.getfield 11, 3) := by decide +kernel
theorem dX0_strengthInAll_14 : decode cX0_strengthInAll 14 = .ok (.iload_n 1, 1) := by decide +kernel
theorem dX0_strengthInAll_15 : decode cX0_strengthInAll 15 = .ok (.aaload, 1) := by decide +kernel
theorem dX0_strengthInAll_16 : decode cX0_strengthInAll 16 = .ok (.iload_n 3, 1) := by decide +kernel
theorem dX0_strengthInAll_17 : decode cX0_strengthInAll 17 = .ok (.iaload, 1) := by decide +kernel
theorem dX0_strengthInAll_18 : decode cX0_strengthInAll 18 = .ok (.iadd, 1) := by decide +kernel
theorem dX0_strengthInAll_19 : decode cX0_strengthInAll 19 = .ok (.istore_n 2, 1) := by decide +kernel
theorem dX0_strengthInAll_20 : decode cX0_strengthInAll 20 = .ok (.iinc 3 1, 3) := by decide +kernel
theorem dX0_strengthInAll_23 : decode cX0_strengthInAll 23 = .ok (.goto (-19), 3) := by decide +kernel
theorem dX0_strengthInAll_26 : decode cX0_strengthInAll 26 = .ok (.iload_n 2, 1) := by decide +kernel
theorem dX0_strengthInAll_27 : decode cX0_strengthInAll 27 = .ok (.ireturn, 1) := by decide +kernel
set_option maxHeartbeats 4000000 in
set_option maxRecDepth 100000 in
theorem c_X0_strengthInAll {l : Launch} {g : GW} {b w : Nat} {tn : Nat → Nat → Nat} {ow : Nat → Nat} (μ : Mm) (hb : b = 49 ∨ b = 57) (hB : BkR μ b tn ow) (hw : w ≤ 4) : Con l g yX0_strengthInAll cX0_strengthInAll 4 (some .int) 0 [.ref b, .int (nI w)] μ (fun r μ' => r = some (.int (nI (sumT tn w 3))) ∧ μ' = μ) := by
  obtain ⟨hb1, hb2, hb3, hb4, hb5, hb6, hrow⟩ := bkF hb
  have hr := hrow w (by omega)
  refine Con.of [.ref b, .int (nI w), .null, .null] 2 (by decide +kernel) (Nat.le_of_ble_eq_true rfl) rfl ?_
  refine V_iconst (pc := 0) (v := 0) dX0_strengthInAll_0 (by decide) ?_
  refine V_istore2 (pc := 1) dX0_strengthInAll_1 (by decide) rfl ?_
  refine V_iconst (pc := 2) (v := 0) dX0_strengthInAll_2 (by decide) ?_
  refine V_istore3 (pc := 3) dX0_strengthInAll_3 (by decide) rfl ?_
  have loop : ∀ (n i : Nat) (acc : Int32), i ≤ 3 → 3 < i + n → (acc = nI (sumT tn w i)) → V l g RX0 cX0_strengthInAll 4 (some .int) 0 4 [.ref b, .int (nI w), .int acc, .int (nI i)] [] μ (fun r μ' => r = some (.int (nI (sumT tn w 3))) ∧ μ' = μ) := by
    intro n
    induction n with
    | zero => intro i acc h1 h2; exact absurd h2 (by omega)
    | succ n ih =>
      intro i acc hle hfu hacc
      refine V_iload_n (pc := 4) dX0_strengthInAll_4 rfl rfl ?_
      refine V_iconst (pc := 5) (v := 3) dX0_strengthInAll_5 (by decide) ?_
      refine V_icmpge (pc := 6) (tgt := 26) dX0_strengthInAll_6 (by decide) (fun h6 => ?_) (fun h6 => ?_)
      · have h6 := (nI_leI (a := 3) (b := i) (by decide) (by omega)).mp h6; obtain rfl : i = 3 := by omega
        refine V_iload_n (pc := 26) dX0_strengthInAll_26 rfl rfl ?_
        refine V_iret (pc := 27) dX0_strengthInAll_27 rfl ?_
        exact ⟨by rw [hacc], rfl⟩
      have hlt : i < 3 := nI_l3 (a := 3) (by decide) (by omega) h6
      refine V_iload_n (pc := 9) dX0_strengthInAll_9 rfl rfl ?_
      refine V_aload_n (pc := 10) dX0_strengthInAll_10 rfl rfl ?_
      refine V_getR (pc := 11) (ci := 0) (j := 0) (k2 := (b + 1)) dX0_strengthInAll_11 fl_X0_11 (fun _ _ _ _ => rfl) (by first | decide | omega) (by first | rfl | assumption | exact (hrow _ (by omega)).2.1 | decide) (rf_0_0 (by first | rfl | assumption | exact (hrow _ (by omega)).2.1 | decide)) ?_
      refine V_iload_n (pc := 14) dX0_strengthInAll_14 rfl rfl ?_
      refine V_aald15 (pc := 15) (j := w) dX0_strengthInAll_15 (by first | decide | omega) (by first | rfl | assumption | exact (hrow _ (by omega)).2.1 | decide) rfl (by omega) ?_
      refine V_iload_n (pc := 16) dX0_strengthInAll_16 rfl rfl ?_
      refine V_iald (pc := 17) (j := i) dX0_strengthInAll_17 (by first | decide | omega) (by first | rfl | assumption | exact (hrow _ (by omega)).2.1 | decide) rfl (by omega) ?_
      refine V_iadd (pc := 18) dX0_strengthInAll_18 ?_
      refine V_istore2 (pc := 19) dX0_strengthInAll_19 (by decide) rfl ?_
      refine V_iinc3 (pc := 20) (v := nI (i + 1)) dX0_strengthInAll_20 (nI_1 i) (by decide) rfl ?_
      refine V_goto (pc := 23) (tgt := 4) dX0_strengthInAll_23 (by decide) ?_
      exact ih (i + 1) _ (by omega) (by omega) (by rw [hacc, hB.1 w i (by omega) hlt, nI_add]; rfl)
  exact loop (3 + 1) 0 _ (by omega) (by omega) rfl
theorem dX0_strongest_0 : decode cX0_strongest 0 = .ok (.iconst 0, 1) := by decide +kernel
theorem dX0_strongest_1 : decode cX0_strongest 1 = .ok (.istore_n 2, 1) := by decide +kernel
theorem dX0_strongest_2 : decode cX0_strongest 2 = .ok (.iconst 0, 1) := by decide +kernel
theorem dX0_strongest_3 : decode cX0_strongest 3 = .ok (.istore_n 3, 1) := by decide +kernel
theorem dX0_strongest_4 : decode cX0_strongest 4 = .ok (.iload_n 3, 1) := by decide +kernel
theorem dX0_strongest_5 : decode cX0_strongest 5 = .ok (.iconst 4, 1) := by decide +kernel
theorem dX0_strongest_6 : decode cX0_strongest 6 = .ok (.if_icmp .gt 22, 3) := by decide +kernel
theorem dX0_strongest_9 : decode cX0_strongest 9 = .ok (.iload_n 2, 1) := by decide +kernel
theorem dX0_strongest_10 : decode cX0_strongest 10 = .ok (.aload_n 0, 1) := by decide +kernel
theorem dX0_strongest_11 : decode cX0_strongest 11 = .ok (.getfield 11, 3) := by decide +kernel
theorem dX0_strongest_14 : decode cX0_strongest 14 = .ok (.iload_n 3, 1) := by decide +kernel
theorem dX0_strongest_15 : decode cX0_strongest 15 = .ok (.aaload, 1) := by decide +kernel
theorem dX0_strongest_16 : decode cX0_strongest 16 = .ok (.iload_n 1, 1) := by decide +kernel
theorem dX0_strongest_17 : decode cX0_strongest 17 = .ok (.iaload, 1) := by decide +kernel
theorem dX0_strongest_18 : decode cX0_strongest 18 = .ok (.invokestatic 37, 3) := by decide +kernel
theorem dX0_strongest_21 : decode cX0_strongest 21 = .ok (.istore_n 2, 1) := by decide +kernel
theorem dX0_strongest_22 : decode cX0_strongest 22 = .ok (.iinc 3 1, 3) := by decide +kernel
theorem dX0_strongest_25 : decode cX0_strongest 25 = .ok (.goto (-21), 3) := by decide +kernel
theorem dX0_strongest_28 : decode cX0_strongest 28 = .ok (.iload_n 2, 1) := by decide +kernel
theorem dX0_strongest_29 : decode cX0_strongest 29 = .ok (.ireturn, 1) := by decide +kernel
set_option maxHeartbeats 4000000 in
set_option maxRecDepth 100000 in
theorem c_X0_strongest {l : Launch} {g : GW} {b s : Nat} {tn : Nat → Nat → Nat} {ow : Nat → Nat} (μ : Mm) (hb : b = 49 ∨ b = 57) (hB : BkR μ b tn ow) (hs : s ≤ 2) : Con l g yX0_strongest cX0_strongest 4 (some .int) 1 [.ref b, .int (nI s)] μ (fun r μ' => r = some (.int (nI (maxT tn s 5))) ∧ μ' = μ) := by
  obtain ⟨hb1, hb2, hb3, hb4, hb5, hb6, hrow⟩ := bkF hb
  refine Con.of [.ref b, .int (nI s), .null, .null] 2 (by decide +kernel) (Nat.le_of_ble_eq_true rfl) rfl ?_
  refine V_iconst (pc := 0) (v := 0) dX0_strongest_0 (by decide) ?_
  refine V_istore2 (pc := 1) dX0_strongest_1 (by decide) rfl ?_
  refine V_iconst (pc := 2) (v := 0) dX0_strongest_2 (by decide) ?_
  refine V_istore3 (pc := 3) dX0_strongest_3 (by decide) rfl ?_
  have loop : ∀ (n i : Nat) (acc : Int32), i ≤ 5 → 5 < i + n → (acc = nI (maxT tn s i)) → V l g RX0 cX0_strongest 4 (some .int) 1 4 [.ref b, .int (nI s), .int acc, .int (nI i)] [] μ (fun r μ' => r = some (.int (nI (maxT tn s 5))) ∧ μ' = μ) := by
    intro n
    induction n with
    | zero => intro i acc h1 h2; exact absurd h2 (by omega)
    | succ n ih =>
      intro i acc hle hfu hacc
      refine V_iload_n (pc := 4) dX0_strongest_4 rfl rfl ?_
      refine V_iconst (pc := 5) (v := 4) dX0_strongest_5 (by decide) ?_
      refine V_icmpgt (pc := 6) (tgt := 28) dX0_strongest_6 (by decide) (fun h6 => ?_) (fun h6 => ?_)
      · have h6 := (nI_ltI (a := 4) (b := i) (by decide) (by omega)).mp h6; obtain rfl : i = 5 := by omega
        refine V_iload_n (pc := 28) dX0_strongest_28 rfl rfl ?_
        refine V_iret (pc := 29) dX0_strongest_29 rfl ?_
        exact ⟨by rw [hacc], rfl⟩
      have hlt : i < 5 := by have := mt (nI_ltI (a := 4) (b := i) (by decide) (by omega)).mpr h6; omega
      refine V_iload_n (pc := 9) dX0_strongest_9 rfl rfl ?_
      refine V_aload_n (pc := 10) dX0_strongest_10 rfl rfl ?_
      refine V_getR (pc := 11) (ci := 0) (j := 0) (k2 := (b + 1)) dX0_strongest_11 fl_X0_11 (fun _ _ _ _ => rfl) (by first | decide | omega) (by first | rfl | assumption | exact (hrow _ (by omega)).2.1 | decide) (rf_0_0 (by first | rfl | assumption | exact (hrow _ (by omega)).2.1 | decide)) ?_
      refine V_iload_n (pc := 14) dX0_strongest_14 rfl rfl ?_
      refine V_aald15 (pc := 15) (j := i) dX0_strongest_15 (by first | decide | omega) (by first | rfl | assumption | exact (hrow _ (by omega)).2.1 | decide) rfl (by omega) ?_
      refine V_iload_n (pc := 16) dX0_strongest_16 rfl rfl ?_
      refine V_iald (pc := 17) (j := s) dX0_strongest_17 (by first | decide | omega) (by first | rfl | assumption | exact (hrow _ (by omega)).2.1 | decide) rfl (by have := (hrow i (by omega)).2.2; omega) ?_
      refine V_mmax (pc := 18) dX0_strongest_18 mm_X0_37 (by decide) (Nat.le_of_ble_eq_true rfl) ?_
      refine V_istore2 (pc := 21) dX0_strongest_21 (by decide) rfl ?_
      refine V_iinc3 (pc := 22) (v := nI (i + 1)) dX0_strongest_22 (nI_1 i) (by decide) rfl ?_
      refine V_goto (pc := 25) (tgt := 4) dX0_strongest_25 (by decide) ?_
      exact ih (i + 1) _ (by omega) (by omega) (by rw [hacc, hB.1 i s (by omega) (by omega), nI_max (by have := maxT_le (tn := tn) (s := s) (fun w hw => hB.le hw (by omega)) i (by omega); omega) (by have := hB.le (w := i) (s := s) (by omega) (by omega); omega)]; rfl)
  exact loop (5 + 1) 0 _ (by omega) (by omega) rfl
theorem dX0_tellingSign_0 : decode cX0_tellingSign 0 = .ok (.iconst 0, 1) := by decide +kernel
theorem dX0_tellingSign_1 : decode cX0_tellingSign 1 = .ok (.istore_n 1, 1) := by decide +kernel
theorem dX0_tellingSign_2 : decode cX0_tellingSign 2 = .ok (.iconst 1, 1) := by decide +kernel
theorem dX0_tellingSign_3 : decode cX0_tellingSign 3 = .ok (.istore_n 2, 1) := by decide +kernel
theorem dX0_tellingSign_4 : decode cX0_tellingSign 4 = .ok (.iload_n 2, 1) := by decide +kernel
theorem dX0_tellingSign_5 : decode cX0_tellingSign 5 = .ok (.iconst 3, 1) := by decide +kernel
theorem dX0_tellingSign_6 : decode cX0_tellingSign 6 = .ok (.if_icmp .ge 24, 3) := by decide +kernel
theorem dX0_tellingSign_9 : decode cX0_tellingSign 9 = .ok (.aload_n 0, 1) := by decide +kernel
theorem dX0_tellingSign_10 : decode cX0_tellingSign 10 = .ok (.iload_n 2, 1) := by decide +kernel
theorem dX0_tellingSign_11 : decode cX0_tellingSign 11 = .ok (.invokevirtual 33, 3) := by decide +kernel
theorem dX0_tellingSign_14 : decode cX0_tellingSign 14 = .ok (.aload_n 0, 1) := by decide +kernel
theorem dX0_tellingSign_15 : decode cX0_tellingSign 15 = .ok (.iload_n 1, 1) := by decide +kernel
theorem dX0_tellingSign_16 : decode cX0_tellingSign 16 = .ok (.invokevirtual 33, 3) := by decide +kernel
theorem dX0_tellingSign_19 : decode cX0_tellingSign 19 = .ok (.if_icmp .le 5, 3) := by decide +kernel
theorem dX0_tellingSign_22 : decode cX0_tellingSign 22 = .ok (.iload_n 2, 1) := by decide +kernel
theorem dX0_tellingSign_23 : decode cX0_tellingSign 23 = .ok (.istore_n 1, 1) := by decide +kernel
theorem dX0_tellingSign_24 : decode cX0_tellingSign 24 = .ok (.iinc 2 1, 3) := by decide +kernel
theorem dX0_tellingSign_27 : decode cX0_tellingSign 27 = .ok (.goto (-23), 3) := by decide +kernel
theorem dX0_tellingSign_30 : decode cX0_tellingSign 30 = .ok (.iload_n 1, 1) := by decide +kernel
theorem dX0_tellingSign_31 : decode cX0_tellingSign 31 = .ok (.ireturn, 1) := by decide +kernel
set_option maxHeartbeats 4000000 in
set_option maxRecDepth 100000 in
theorem c_X0_tellingSign {l : Launch} {g : GW} {b : Nat} {tn : Nat → Nat → Nat} {ow : Nat → Nat} (μ : Mm) (hb : b = 49 ∨ b = 57) (hB : BkR μ b tn ow) : Con l g yX0_tellingSign cX0_tellingSign 3 (some .int) 2 [.ref b] μ (fun r μ' => r = some (.int (nI (tellT tn 3))) ∧ μ' = μ) := by
  obtain ⟨hb1, hb2, hb3, hb4, hb5, hb6, hrow⟩ := bkF hb
  refine Con.of [.ref b, .null, .null] 2 (by decide +kernel) (Nat.le_of_ble_eq_true rfl) rfl ?_
  refine V_iconst (pc := 0) (v := 0) dX0_tellingSign_0 (by decide) ?_
  refine V_istore1 (pc := 1) dX0_tellingSign_1 (by decide) rfl ?_
  refine V_iconst (pc := 2) (v := 1) dX0_tellingSign_2 (by decide) ?_
  refine V_istore2 (pc := 3) dX0_tellingSign_3 (by decide) rfl ?_
  have loop : ∀ (n i : Nat) (t : Nat), i ≤ 3 → 3 < i + n → (t = tellT tn i) → (1 ≤ i) → V l g RX0 cX0_tellingSign 3 (some .int) 2 4 [.ref b, .int (nI t), .int (nI i)] [] μ (fun r μ' => r = some (.int (nI (tellT tn 3))) ∧ μ' = μ) := by
    intro n
    induction n with
    | zero => intro i t h1 h2; exact absurd h2 (by omega)
    | succ n ih =>
      intro i t hle hfu hacc hi1
      refine V_iload_n (pc := 4) dX0_tellingSign_4 rfl rfl ?_
      refine V_iconst (pc := 5) (v := 3) dX0_tellingSign_5 (by decide) ?_
      refine V_icmpge (pc := 6) (tgt := 30) dX0_tellingSign_6 (by decide) (fun h6 => ?_) (fun h6 => ?_)
      · have h6 := (nI_leI (a := 3) (b := i) (by decide) (by omega)).mp h6; obtain rfl : i = 3 := by omega
        refine V_iload_n (pc := 30) dX0_tellingSign_30 rfl rfl ?_
        refine V_iret (pc := 31) dX0_tellingSign_31 rfl ?_
        exact ⟨by rw [hacc], rfl⟩
      have hlt : i < 3 := nI_l3 (a := 3) (by decide) (by omega) h6
      have ht3 : t < i := by rw [hacc]; exact tellT_lt i (by omega)
      refine V_aload_n (pc := 9) dX0_tellingSign_9 rfl rfl ?_
      refine V_iload_n (pc := 10) dX0_tellingSign_10 rfl rfl ?_
      refine V_inv1 (pc := 11) (ci := 0) dX0_tellingSign_11 ml_X0_33 (by first | decide | omega) (by first | rfl | assumption | exact (hrow _ (by omega)).2.1 | decide) ⟨by decide, rfl⟩ (by decide) (Nat.le_of_ble_eq_true rfl) (c_X0_strongest μ hb hB (show i ≤ 2 by omega)) ?_
      rintro _ μ2 ⟨rfl, hμ⟩
      obtain rfl := hμ.symm
      refine V_aload_n (pc := 14) dX0_tellingSign_14 rfl rfl ?_
      refine V_iload_n (pc := 15) dX0_tellingSign_15 rfl rfl ?_
      refine V_inv1 (pc := 16) (ci := 0) dX0_tellingSign_16 ml_X0_33 (by first | decide | omega) (by first | rfl | assumption | exact (hrow _ (by omega)).2.1 | decide) ⟨by decide, rfl⟩ (by decide) (Nat.le_of_ble_eq_true rfl) (c_X0_strongest μ hb hB (show t ≤ 2 by omega)) ?_
      rintro _ μ2 ⟨rfl, hμ⟩
      obtain rfl := hμ.symm
      refine V_icmple (pc := 19) (tgt := 24) dX0_tellingSign_19 (by decide) (fun h19 => ?_) (fun h19 => ?_)
      · rw [nI_leI (by have := maxT_le (tn := tn) (s := i) (fun w hw => hB.le hw (by omega)) 5 (by omega); omega) (by have := maxT_le (tn := tn) (s := t) (fun w hw => hB.le hw (by omega)) 5 (by omega); omega)] at h19
        refine V_iinc2 (pc := 24) (v := nI (i + 1)) dX0_tellingSign_24 (nI_1 i) (by decide) rfl ?_
        refine V_goto (pc := 27) (tgt := 4) dX0_tellingSign_27 (by decide) ?_
        first | exact ih (i + 1) t (by omega) (by omega) (by show t = (let b := tellT tn i; if maxT tn i 5 > maxT tn b 5 then i else b); rw [← hacc]; simp only; rw [if_neg (by omega)]) (by omega) | exact ih (i + 1) i (by omega) (by omega) (by show i = (let b := tellT tn i; if maxT tn i 5 > maxT tn b 5 then i else b); rw [← hacc]; simp only; rw [if_pos (by omega)]) (by omega)
      rw [nI_leI (by have := maxT_le (tn := tn) (s := i) (fun w hw => hB.le hw (by omega)) 5 (by omega); omega) (by have := maxT_le (tn := tn) (s := t) (fun w hw => hB.le hw (by omega)) 5 (by omega); omega)] at h19
      refine V_iload_n (pc := 22) dX0_tellingSign_22 rfl rfl ?_
      refine V_istore1 (pc := 23) dX0_tellingSign_23 (by decide) rfl ?_
      refine V_iinc2 (pc := 24) (v := nI (i + 1)) dX0_tellingSign_24 (nI_1 i) (by decide) rfl ?_
      refine V_goto (pc := 27) (tgt := 4) dX0_tellingSign_27 (by decide) ?_
      first | exact ih (i + 1) t (by omega) (by omega) (by show t = (let b := tellT tn i; if maxT tn i 5 > maxT tn b 5 then i else b); rw [← hacc]; simp only; rw [if_neg (by omega)]) (by omega) | exact ih (i + 1) i (by omega) (by omega) (by show i = (let b := tellT tn i; if maxT tn i 5 > maxT tn b 5 then i else b); rw [← hacc]; simp only; rw [if_pos (by omega)]) (by omega)
  exact loop (3 + 1) 1 0 (by omega) (by omega) (by show 0 = (let b := 0; if maxT tn 0 5 > maxT tn b 5 then 0 else b); simp) (by omega)
theorem dX0_favour_0 : decode cX0_favour 0 = .ok (.iconst 0, 1) := by decide +kernel
theorem dX0_favour_1 : decode cX0_favour 1 = .ok (.istore_n 3, 1) := by decide +kernel
theorem dX0_favour_2 : decode cX0_favour 2 = .ok (.iconst 0, 1) := by decide +kernel
theorem dX0_favour_3 : decode cX0_favour 3 = .ok (.istore 4, 2) := by decide +kernel
theorem dX0_favour_5 : decode cX0_favour 5 = .ok (.iload 4, 2) := by decide +kernel
theorem dX0_favour_7 : decode cX0_favour 7 = .ok (.iconst 4, 1) := by decide +kernel
theorem dX0_favour_8 : decode cX0_favour 8 = .ok (.if_icmp .ge 31, 3) := by decide +kernel
theorem dX0_favour_11 : decode cX0_favour 11 = .ok (.aload_n 0, 1) := by decide +kernel
theorem dX0_favour_12 : decode cX0_favour 12 = .ok (.iload_n 1, 1) := by decide +kernel
theorem dX0_favour_13 : decode cX0_favour 13 = .ok (.iload 4, 2) := by decide +kernel
theorem dX0_favour_15 : decode cX0_favour 15 = .ok (.invokevirtual 29, 3) := by decide +kernel
theorem dX0_favour_18 : decode cX0_favour 18 = .ok (.ifCond .eq 15, 3) := by decide +kernel
theorem dX0_favour_21 : decode cX0_favour 21 = .ok (.iload_n 3, 1) := by decide +kernel
theorem dX0_favour_22 : decode cX0_favour 22 = .ok (.aload_n 0, 1) := by decide +kernel
theorem dX0_favour_23 : decode cX0_favour 23 = .ok (.getfield 11, 3) := by decide +kernel
theorem dX0_favour_26 : decode cX0_favour 26 = .ok (.iload 4, 2) := by decide +kernel
theorem dX0_favour_28 : decode cX0_favour 28 = .ok (.aaload, 1) := by decide +kernel
theorem dX0_favour_29 : decode cX0_favour 29 = .ok (.iload_n 2, 1) := by decide +kernel
theorem dX0_favour_30 : decode cX0_favour 30 = .ok (.iaload, 1) := by decide +kernel
theorem dX0_favour_31 : decode cX0_favour 31 = .ok (.iadd, 1) := by decide +kernel
theorem dX0_favour_32 : decode cX0_favour 32 = .ok (.istore_n 3, 1) := by decide +kernel
theorem dX0_favour_33 : decode cX0_favour 33 = .ok (.iinc 4 1, 3) := by decide +kernel
theorem dX0_favour_36 : decode cX0_favour 36 = .ok (.goto (-31), 3) := by decide +kernel
theorem dX0_favour_39 : decode cX0_favour 39 = .ok (.iload_n 3, 1) := by decide +kernel
theorem dX0_favour_40 : decode cX0_favour 40 = .ok (.ireturn, 1) := by decide +kernel
set_option maxHeartbeats 4000000 in
set_option maxRecDepth 100000 in
theorem c_X0_favour {l : Launch} {g : GW} {b k s : Nat} {tn : Nat → Nat → Nat} {ow : Nat → Nat} (μ : Mm) (hb : b = 49 ∨ b = 57) (hB : BkR μ b tn ow) (hk : k ≤ 6) (hs : s ≤ 2) : Con l g yX0_favour cX0_favour 5 (some .int) 1 [.ref b, .int (cI k), .int (nI s)] μ (fun r μ' => r = some (.int (nI (favT tn ow k s 4))) ∧ μ' = μ) := by
  obtain ⟨hb1, hb2, hb3, hb4, hb5, hb6, hrow⟩ := bkF hb
  refine Con.of [.ref b, .int (cI k), .int (nI s), .null, .null] 2 (by decide +kernel) (Nat.le_of_ble_eq_true rfl) rfl ?_
  refine V_iconst (pc := 0) (v := 0) dX0_favour_0 (by decide) ?_
  refine V_istore3 (pc := 1) dX0_favour_1 (by decide) rfl ?_
  refine V_iconst (pc := 2) (v := 0) dX0_favour_2 (by decide) ?_
  refine V_istore4 (pc := 3) dX0_favour_3 (by decide) rfl ?_
  have loop : ∀ (n i : Nat) (acc : Int32), i ≤ 4 → 4 < i + n → (acc = nI (favT tn ow k s i)) → V l g RX0 cX0_favour 5 (some .int) 1 5 [.ref b, .int (cI k), .int (nI s), .int acc, .int (nI i)] [] μ (fun r μ' => r = some (.int (nI (favT tn ow k s 4))) ∧ μ' = μ) := by
    intro n
    induction n with
    | zero => intro i acc h1 h2; exact absurd h2 (by omega)
    | succ n ih =>
      intro i acc hle hfu hacc
      refine V_iload (pc := 5) dX0_favour_5 rfl ?_
      refine V_iconst (pc := 7) (v := 4) dX0_favour_7 (by decide) ?_
      refine V_icmpge (pc := 8) (tgt := 39) dX0_favour_8 (by decide) (fun h8 => ?_) (fun h8 => ?_)
      · have h8 := (nI_leI (a := 4) (b := i) (by decide) (by omega)).mp h8; obtain rfl : i = 4 := by omega
        refine V_iload_n (pc := 39) dX0_favour_39 rfl rfl ?_
        refine V_iret (pc := 40) dX0_favour_40 rfl ?_
        exact ⟨by rw [hacc], rfl⟩
      have hlt : i < 4 := nI_l3 (a := 4) (by decide) (by omega) h8
      refine V_aload_n (pc := 11) dX0_favour_11 rfl rfl ?_
      refine V_iload_n (pc := 12) dX0_favour_12 rfl rfl ?_
      refine V_iload (pc := 13) dX0_favour_13 rfl ?_
      refine V_inv2 (pc := 15) (ci := 0) dX0_favour_15 ml_X0_29 (by first | decide | omega) (by first | rfl | assumption | exact (hrow _ (by omega)).2.1 | decide) ⟨by decide, rfl⟩ (by decide) (Nat.le_of_ble_eq_true rfl) (c_X0_favours μ hb hB hk (show i ≤ 4 by omega)) ?_
      rintro _ μ2 ⟨rfl, hμ⟩
      obtain rfl := hμ.symm
      refine V_ifeq (pc := 18) (tgt := 33) dX0_favour_18 (by decide) (fun h18 => ?_) (fun h18 => ?_)
      · have h18 := (bI_0 _).mp h18
        refine V_iinc4 (pc := 33) (v := nI (i + 1)) dX0_favour_33 (nI_1 i) (by decide) rfl ?_
        refine V_goto (pc := 36) (tgt := 5) dX0_favour_36 (by decide) ?_
        exact ih (i + 1) _ (by omega) (by omega) (by show _ = nI (favT tn ow k s i + if fav ow k i then tn i s else 0); rw [h18, hacc]; first | rfl | (rw [hB.1 i s (by omega) (by omega), nI_add]; rfl))
      have h18 : fav ow k i = true := by cases hf : fav ow k i; exact absurd ((bI_0 _).mpr hf) h18; rfl
      refine V_iload_n (pc := 21) dX0_favour_21 rfl rfl ?_
      refine V_aload_n (pc := 22) dX0_favour_22 rfl rfl ?_
      refine V_getR (pc := 23) (ci := 0) (j := 0) (k2 := (b + 1)) dX0_favour_23 fl_X0_11 (fun _ _ _ _ => rfl) (by first | decide | omega) (by first | rfl | assumption | exact (hrow _ (by omega)).2.1 | decide) (rf_0_0 (by first | rfl | assumption | exact (hrow _ (by omega)).2.1 | decide)) ?_
      refine V_iload (pc := 26) dX0_favour_26 rfl ?_
      refine V_aald15 (pc := 28) (j := i) dX0_favour_28 (by first | decide | omega) (by first | rfl | assumption | exact (hrow _ (by omega)).2.1 | decide) rfl (by omega) ?_
      refine V_iload_n (pc := 29) dX0_favour_29 rfl rfl ?_
      refine V_iald (pc := 30) (j := s) dX0_favour_30 (by first | decide | omega) (by first | rfl | assumption | exact (hrow _ (by omega)).2.1 | decide) rfl (by have := (hrow i (by omega)).2.2; omega) ?_
      refine V_iadd (pc := 31) dX0_favour_31 ?_
      refine V_istore3 (pc := 32) dX0_favour_32 (by decide) rfl ?_
      refine V_iinc4 (pc := 33) (v := nI (i + 1)) dX0_favour_33 (nI_1 i) (by decide) rfl ?_
      refine V_goto (pc := 36) (tgt := 5) dX0_favour_36 (by decide) ?_
      exact ih (i + 1) _ (by omega) (by omega) (by show _ = nI (favT tn ow k s i + if fav ow k i then tn i s else 0); rw [h18, hacc]; first | rfl | (rw [hB.1 i s (by omega) (by omega), nI_add]; rfl))
  exact loop (4 + 1) 0 _ (by omega) (by omega) rfl
theorem dX0_nameCount_0 : decode cX0_nameCount 0 = .ok (.iconst 0, 1) := by decide +kernel
theorem dX0_nameCount_1 : decode cX0_nameCount 1 = .ok (.istore_n 1, 1) := by decide +kernel
theorem dX0_nameCount_2 : decode cX0_nameCount 2 = .ok (.iconst 0, 1) := by decide +kernel
theorem dX0_nameCount_3 : decode cX0_nameCount 3 = .ok (.istore_n 2, 1) := by decide +kernel
theorem dX0_nameCount_4 : decode cX0_nameCount 4 = .ok (.iload_n 2, 1) := by decide +kernel
theorem dX0_nameCount_5 : decode cX0_nameCount 5 = .ok (.bipush 6, 2) := by decide +kernel
theorem dX0_nameCount_7 : decode cX0_nameCount 7 = .ok (.if_icmp .ge 22, 3) := by decide +kernel
theorem dX0_nameCount_10 : decode cX0_nameCount 10 = .ok (.aload_n 0, 1) := by decide +kernel
theorem dX0_nameCount_11 : decode cX0_nameCount 11 = .ok (.getfield 16, 3) := by decide +kernel
theorem dX0_nameCount_14 : decode cX0_nameCount 14 = .ok (.iload_n 2, 1) := by decide +kernel
theorem dX0_nameCount_15 : decode cX0_nameCount 15 = .ok (.iaload, 1) := by decide +kernel
theorem dX0_nameCount_16 : decode cX0_nameCount 16 = .ok (.iconst (-1), 1) := by decide +kernel
theorem dX0_nameCount_17 : decode cX0_nameCount 17 = .ok (.if_icmp .eq 6, 3) := by decide +kernel
theorem dX0_nameCount_20 : decode cX0_nameCount 20 = .ok (.iinc 1 1, 3) := by decide +kernel
theorem dX0_nameCount_23 : decode cX0_nameCount 23 = .ok (.iinc 2 1, 3) := by decide +kernel
theorem dX0_nameCount_26 : decode cX0_nameCount 26 = .ok (.goto (-22), 3) := by decide +kernel
theorem dX0_nameCount_29 : decode cX0_nameCount 29 = .ok (.iload_n 1, 1) := by decide +kernel
theorem dX0_nameCount_30 : decode cX0_nameCount 30 = .ok (.ireturn, 1) := by decide +kernel
set_option maxHeartbeats 4000000 in
set_option maxRecDepth 100000 in
theorem c_X0_nameCount {l : Launch} {g : GW} {b : Nat} {tn : Nat → Nat → Nat} {ow : Nat → Nat} (μ : Mm) (hb : b = 49 ∨ b = 57) (hB : BkR μ b tn ow) : Con l g yX0_nameCount cX0_nameCount 3 (some .int) 0 [.ref b] μ (fun r μ' => r = some (.int (nI (nmT ow 6))) ∧ μ' = μ) := by
  obtain ⟨hb1, hb2, hb3, hb4, hb5, hb6, hrow⟩ := bkF hb
  refine Con.of [.ref b, .null, .null] 2 (by decide +kernel) (Nat.le_of_ble_eq_true rfl) rfl ?_
  refine V_iconst (pc := 0) (v := 0) dX0_nameCount_0 (by decide) ?_
  refine V_istore1 (pc := 1) dX0_nameCount_1 (by decide) rfl ?_
  refine V_iconst (pc := 2) (v := 0) dX0_nameCount_2 (by decide) ?_
  refine V_istore2 (pc := 3) dX0_nameCount_3 (by decide) rfl ?_
  have loop : ∀ (n i : Nat) (acc : Int32), i ≤ 6 → 6 < i + n → (acc = nI (nmT ow i)) → V l g RX0 cX0_nameCount 3 (some .int) 0 4 [.ref b, .int acc, .int (nI i)] [] μ (fun r μ' => r = some (.int (nI (nmT ow 6))) ∧ μ' = μ) := by
    intro n
    induction n with
    | zero => intro i acc h1 h2; exact absurd h2 (by omega)
    | succ n ih =>
      intro i acc hle hfu hacc
      refine V_iload_n (pc := 4) dX0_nameCount_4 rfl rfl ?_
      refine V_bipush (pc := 5) (v := 6) dX0_nameCount_5 (by decide) ?_
      refine V_icmpge (pc := 7) (tgt := 29) dX0_nameCount_7 (by decide) (fun h7 => ?_) (fun h7 => ?_)
      · have h7 := (nI_leI (a := 6) (b := i) (by decide) (by omega)).mp h7; obtain rfl : i = 6 := by omega
        refine V_iload_n (pc := 29) dX0_nameCount_29 rfl rfl ?_
        refine V_iret (pc := 30) dX0_nameCount_30 rfl ?_
        exact ⟨by rw [hacc], rfl⟩
      have hlt : i < 6 := nI_l3 (a := 6) (by decide) (by omega) h7
      refine V_aload_n (pc := 10) dX0_nameCount_10 rfl rfl ?_
      refine V_getR (pc := 11) (ci := 0) (j := 1) (k2 := (b + 7)) dX0_nameCount_11 fl_X0_16 (fun _ _ _ _ => rfl) (by first | decide | omega) (by first | rfl | assumption | exact (hrow _ (by omega)).2.1 | decide) (rf_0_1 (by first | rfl | assumption | exact (hrow _ (by omega)).2.1 | decide)) ?_
      refine V_iload_n (pc := 14) dX0_nameCount_14 rfl rfl ?_
      refine V_iald (pc := 15) (j := i) dX0_nameCount_15 (by first | decide | omega) (by first | rfl | assumption | exact (hrow _ (by omega)).2.1 | decide) rfl (by omega) ?_
      refine V_iconst (pc := 16) (v := (-1)) dX0_nameCount_16 (by decide) ?_
      refine V_icmpeq (pc := 17) (tgt := 23) dX0_nameCount_17 (by decide) (fun h17 => ?_) (fun h17 => ?_)
      · rw [hB.2.1 i hlt, cI_m1 (by have := hB.2.2.1 i hlt; omega)] at h17
        refine V_iinc2 (pc := 23) (v := nI (i + 1)) dX0_nameCount_23 (nI_1 i) (by decide) rfl ?_
        refine V_goto (pc := 26) (tgt := 4) dX0_nameCount_26 (by decide) ?_
        exact ih (i + 1) _ (by omega) (by omega) (by show _ = nI (nmT ow i + if ow i = 0 then 0 else 1); first | rw [if_pos h17, hacc, Nat.add_zero] | (rw [if_neg h17, hacc]; exact nI_1 _))
      rw [hB.2.1 i hlt, cI_m1 (by have := hB.2.2.1 i hlt; omega)] at h17
      refine V_iinc1 (pc := 20) dX0_nameCount_20 rfl (by decide) rfl ?_
      refine V_iinc2 (pc := 23) (v := nI (i + 1)) dX0_nameCount_23 (nI_1 i) (by decide) rfl ?_
      refine V_goto (pc := 26) (tgt := 4) dX0_nameCount_26 (by decide) ?_
      exact ih (i + 1) _ (by omega) (by omega) (by show _ = nI (nmT ow i + if ow i = 0 then 0 else 1); first | rw [if_pos h17, hacc, Nat.add_zero] | (rw [if_neg h17, hacc]; exact nI_1 _))
  exact loop (6 + 1) 0 _ (by omega) (by omega) rfl
theorem dX7_placeAhead_0 : decode cX7_placeAhead 0 = .ok (.iload_n 2, 1) := by decide +kernel
theorem dX7_placeAhead_1 : decode cX7_placeAhead 1 = .ok (.iconst (-1), 1) := by decide +kernel
theorem dX7_placeAhead_2 : decode cX7_placeAhead 2 = .ok (.if_icmp .ne 7, 3) := by decide +kernel
theorem dX7_placeAhead_5 : decode cX7_placeAhead 5 = .ok (.iconst 1, 1) := by decide +kernel
theorem dX7_placeAhead_6 : decode cX7_placeAhead 6 = .ok (.goto 8, 3) := by decide +kernel
theorem dX7_placeAhead_9 : decode cX7_placeAhead 9 = .ok (.getstatic 280, 3) := by decide +kernel
theorem dX7_placeAhead_12 : decode cX7_placeAhead 12 = .ok (.iload_n 0, 1) := by decide +kernel
theorem dX7_placeAhead_13 : decode cX7_placeAhead 13 = .ok (.iaload, 1) := by decide +kernel
theorem dX7_placeAhead_14 : decode cX7_placeAhead 14 = .ok (.istore_n 3, 1) := by decide +kernel
theorem dX7_placeAhead_15 : decode cX7_placeAhead 15 = .ok (.bipush 9, 2) := by decide +kernel
theorem dX7_placeAhead_17 : decode cX7_placeAhead 17 = .ok (.iload_n 1, 1) := by decide +kernel
theorem dX7_placeAhead_18 : decode cX7_placeAhead 18 = .ok (.iload_n 3, 1) := by decide +kernel
theorem dX7_placeAhead_19 : decode cX7_placeAhead 19 = .ok (.iadd, 1) := by decide +kernel
theorem dX7_placeAhead_20 : decode cX7_placeAhead 20 = .ok (.invokestatic 283, 3) := by decide +kernel
theorem dX7_placeAhead_23 : decode cX7_placeAhead 23 = .ok (.ireturn, 1) := by decide +kernel
set_option maxHeartbeats 4000000 in
set_option maxRecDepth 100000 in
theorem c_X7_placeAhead {l : Launch} {g : GW} {κ p k : Nat} (μ : Mm) (hκ : κ ≤ 4) (hp : p ≤ 9) (hk : k ≤ 6) : Con l g yX7_placeAhead cX7_placeAhead 4 (some .int) 1 [.int (nI κ), .int (nI p), .int (cI k)] μ (fun r μ' => r = some (.int (nI (ahd κ p k))) ∧ μ' = μ) := by
  refine Con.of [.int (nI κ), .int (nI p), .int (cI k), .null] 1 (by decide +kernel) (Nat.le_of_ble_eq_true rfl) rfl ?_
  refine V_iload_n (pc := 0) dX7_placeAhead_0 rfl rfl ?_
  refine V_iconst (pc := 1) (v := (-1)) dX7_placeAhead_1 (by decide) ?_
  refine V_icmpne (pc := 2) (tgt := 9) dX7_placeAhead_2 (by decide) (fun h2 => ?_) (fun h2 => ?_)
  · obtain ⟨k, rfl⟩ := cI_pos (by omega) h2
    refine V_gets (pc := 9) (k := 88) dX7_placeAhead_9 (by decide) (by decide) gs_X7_280 ?_
    refine V_iload_n (pc := 12) dX7_placeAhead_12 rfl rfl ?_
    refine V_sald (pc := 13) (j := κ) dX7_placeAhead_13 (by decide) (by decide) rfl (by show κ < 5; omega) ?_
    refine V_istore3 (pc := 14) dX7_placeAhead_14 (by decide) rfl ?_
    refine V_bipush (pc := 15) (v := 9) dX7_placeAhead_15 (by decide) ?_
    refine V_iload_n (pc := 17) dX7_placeAhead_17 rfl rfl ?_
    refine V_iload_n (pc := 18) dX7_placeAhead_18 rfl rfl ?_
    refine V_iadd (pc := 19) dX7_placeAhead_19 ?_
    refine V_mmin (pc := 20) dX7_placeAhead_20 mm_X7_283 (by decide) (Nat.le_of_ble_eq_true rfl) ?_
    refine V_iret (pc := 23) dX7_placeAhead_23 rfl ?_
    exact ⟨congrArg (fun z => some (Value.int z)) (by first | (rw [stT88 κ hκ, nI_add, nI_min9' (by have := sbK_le κ hκ; omega)]; rfl) | (rw [nI_1, nI_min9' (by omega)]; rfl)), rfl⟩
  have h2 := (cI_m1 (by omega)).mp h2; subst h2
  refine V_iconst (pc := 5) (v := 1) dX7_placeAhead_5 (by decide) ?_
  refine V_goto (pc := 6) (tgt := 14) dX7_placeAhead_6 (by decide) ?_
  refine V_istore3 (pc := 14) dX7_placeAhead_14 (by decide) rfl ?_
  refine V_bipush (pc := 15) (v := 9) dX7_placeAhead_15 (by decide) ?_
  refine V_iload_n (pc := 17) dX7_placeAhead_17 rfl rfl ?_
  refine V_iload_n (pc := 18) dX7_placeAhead_18 rfl rfl ?_
  refine V_iadd (pc := 19) dX7_placeAhead_19 ?_
  refine V_mmin (pc := 20) dX7_placeAhead_20 mm_X7_283 (by decide) (Nat.le_of_ble_eq_true rfl) ?_
  refine V_iret (pc := 23) dX7_placeAhead_23 rfl ?_
  exact ⟨congrArg (fun z => some (Value.int z)) (by first | (rw [stT88 κ hκ, nI_add, nI_min9' (by have := sbK_le κ hκ; omega)]; rfl) | (rw [nI_1, nI_min9' (by omega)]; rfl)), rfl⟩
theorem dX7_placeBehind_0 : decode cX7_placeBehind 0 = .ok (.iload_n 1, 1) := by decide +kernel
theorem dX7_placeBehind_1 : decode cX7_placeBehind 1 = .ok (.bipush 9, 2) := by decide +kernel
theorem dX7_placeBehind_3 : decode cX7_placeBehind 3 = .ok (.if_icmp .ne 6, 3) := by decide +kernel
theorem dX7_placeBehind_6 : decode cX7_placeBehind 6 = .ok (.bipush 9, 2) := by decide +kernel
theorem dX7_placeBehind_8 : decode cX7_placeBehind 8 = .ok (.ireturn, 1) := by decide +kernel
theorem dX7_placeBehind_9 : decode cX7_placeBehind 9 = .ok (.iload_n 2, 1) := by decide +kernel
theorem dX7_placeBehind_10 : decode cX7_placeBehind 10 = .ok (.iconst (-1), 1) := by decide +kernel
theorem dX7_placeBehind_11 : decode cX7_placeBehind 11 = .ok (.if_icmp .ne 7, 3) := by decide +kernel
theorem dX7_placeBehind_14 : decode cX7_placeBehind 14 = .ok (.iconst 1, 1) := by decide +kernel
theorem dX7_placeBehind_15 : decode cX7_placeBehind 15 = .ok (.goto 8, 3) := by decide +kernel
theorem dX7_placeBehind_18 : decode cX7_placeBehind 18 = .ok (.getstatic 288, 3) := by decide +kernel
theorem dX7_placeBehind_21 : decode cX7_placeBehind 21 = .ok (.iload_n 0, 1) := by decide +kernel
theorem dX7_placeBehind_22 : decode cX7_placeBehind 22 = .ok (.iaload, 1) := by decide +kernel
theorem dX7_placeBehind_23 : decode cX7_placeBehind 23 = .ok (.istore_n 3, 1) := by decide +kernel
theorem dX7_placeBehind_24 : decode cX7_placeBehind 24 = .ok (.iconst 0, 1) := by decide +kernel
theorem dX7_placeBehind_25 : decode cX7_placeBehind 25 = .ok (.iload_n 1, 1) := by decide +kernel
theorem dX7_placeBehind_26 : decode cX7_placeBehind 26 = .ok (.iload_n 3, 1) := by decide +kernel
theorem dX7_placeBehind_27 : decode cX7_placeBehind 27 = .ok (.isub, 1) := by decide +kernel
theorem dX7_placeBehind_28 : decode cX7_placeBehind 28 = .ok (.invokestatic 291, 3) := by decide +kernel
theorem dX7_placeBehind_31 : decode cX7_placeBehind 31 = .ok (.ireturn, 1) := by decide +kernel
set_option maxHeartbeats 4000000 in
set_option maxRecDepth 100000 in
theorem c_X7_placeBehind {l : Launch} {g : GW} {κ p k : Nat} (μ : Mm) (hκ : κ ≤ 4) (hp : p ≤ 9) (hk : k ≤ 6) : Con l g yX7_placeBehind cX7_placeBehind 4 (some .int) 1 [.int (nI κ), .int (nI p), .int (cI k)] μ (fun r μ' => r = some (.int (nI (bhd κ p k))) ∧ μ' = μ) := by
  refine Con.of [.int (nI κ), .int (nI p), .int (cI k), .null] 1 (by decide +kernel) (Nat.le_of_ble_eq_true rfl) rfl ?_
  refine V_iload_n (pc := 0) dX7_placeBehind_0 rfl rfl ?_
  refine V_bipush (pc := 1) (v := 9) dX7_placeBehind_1 (by decide) ?_
  refine V_icmpne (pc := 3) (tgt := 9) dX7_placeBehind_3 (by decide) (fun h3 => ?_) (fun h3 => ?_)
  · have h3 := mt (nI_eq (a := p) (b := 9) (by omega) (by decide)).mpr h3
    refine V_iload_n (pc := 9) dX7_placeBehind_9 rfl rfl ?_
    refine V_iconst (pc := 10) (v := (-1)) dX7_placeBehind_10 (by decide) ?_
    refine V_icmpne (pc := 11) (tgt := 18) dX7_placeBehind_11 (by decide) (fun h11 => ?_) (fun h11 => ?_)
    · obtain ⟨k, rfl⟩ := cI_pos (by omega) h11
      refine V_gets (pc := 18) (k := 89) dX7_placeBehind_18 (by decide) (by decide) gs_X7_288 ?_
      refine V_iload_n (pc := 21) dX7_placeBehind_21 rfl rfl ?_
      refine V_sald (pc := 22) (j := κ) dX7_placeBehind_22 (by decide) (by decide) rfl (by show κ < 5; omega) ?_
      refine V_istore3 (pc := 23) dX7_placeBehind_23 (by decide) rfl ?_
      refine V_iconst (pc := 24) (v := 0) dX7_placeBehind_24 (by decide) ?_
      refine V_iload_n (pc := 25) dX7_placeBehind_25 rfl rfl ?_
      refine V_iload_n (pc := 26) dX7_placeBehind_26 rfl rfl ?_
      refine V_isub (pc := 27) dX7_placeBehind_27 ?_
      refine V_mmax (pc := 28) dX7_placeBehind_28 mm_X7_291 (by decide) (Nat.le_of_ble_eq_true rfl) ?_
      refine V_iret (pc := 31) dX7_placeBehind_31 rfl ?_
      exact ⟨congrArg (fun z => some (Value.int z)) (by unfold bhd; first | (rw [if_neg h3, stT89 κ hκ, nI_sub0 (by omega) (by have := tbK_le κ hκ; omega)]; rfl) | (rw [if_neg h3]; exact nI_sub0 (b := 1) (by omega) (by omega)) | (rw [if_pos h3]; rfl)), rfl⟩
    have h11 := (cI_m1 (by omega)).mp h11; subst h11
    refine V_iconst (pc := 14) (v := 1) dX7_placeBehind_14 (by decide) ?_
    refine V_goto (pc := 15) (tgt := 23) dX7_placeBehind_15 (by decide) ?_
    refine V_istore3 (pc := 23) dX7_placeBehind_23 (by decide) rfl ?_
    refine V_iconst (pc := 24) (v := 0) dX7_placeBehind_24 (by decide) ?_
    refine V_iload_n (pc := 25) dX7_placeBehind_25 rfl rfl ?_
    refine V_iload_n (pc := 26) dX7_placeBehind_26 rfl rfl ?_
    refine V_isub (pc := 27) dX7_placeBehind_27 ?_
    refine V_mmax (pc := 28) dX7_placeBehind_28 mm_X7_291 (by decide) (Nat.le_of_ble_eq_true rfl) ?_
    refine V_iret (pc := 31) dX7_placeBehind_31 rfl ?_
    exact ⟨congrArg (fun z => some (Value.int z)) (by unfold bhd; first | (rw [if_neg h3, stT89 κ hκ, nI_sub0 (by omega) (by have := tbK_le κ hκ; omega)]; rfl) | (rw [if_neg h3]; exact nI_sub0 (b := 1) (by omega) (by omega)) | (rw [if_pos h3]; rfl)), rfl⟩
  have h3 := (nI_eq (a := p) (b := 9) (by omega) (by decide)).mp h3
  refine V_bipush (pc := 6) (v := 9) dX7_placeBehind_6 (by decide) ?_
  refine V_iret (pc := 8) dX7_placeBehind_8 rfl ?_
  exact ⟨congrArg (fun z => some (Value.int z)) (by unfold bhd; first | (rw [if_neg h3, stT89 κ hκ, nI_sub0 (by omega) (by have := tbK_le κ hκ; omega)]; rfl) | (rw [if_neg h3]; exact nI_sub0 (b := 1) (by omega) (by omega)) | (rw [if_pos h3]; rfl)), rfl⟩
theorem dX7_placeAfter_0 : decode cX7_placeAfter 0 = .ok (.iload 4, 2) := by decide +kernel
theorem dX7_placeAfter_2 : decode cX7_placeAfter 2 = .ok (.iconst 4, 1) := by decide +kernel
theorem dX7_placeAfter_3 : decode cX7_placeAfter 3 = .ok (.if_icmp .ne 5, 3) := by decide +kernel
theorem dX7_placeAfter_6 : decode cX7_placeAfter 6 = .ok (.iload_n 2, 1) := by decide +kernel
theorem dX7_placeAfter_7 : decode cX7_placeAfter 7 = .ok (.ireturn, 1) := by decide +kernel
theorem dX7_placeAfter_8 : decode cX7_placeAfter 8 = .ok (.aload_n 0, 1) := by decide +kernel
theorem dX7_placeAfter_9 : decode cX7_placeAfter 9 = .ok (.iload_n 3, 1) := by decide +kernel
theorem dX7_placeAfter_10 : decode cX7_placeAfter 10 = .ok (.iload 4, 2) := by decide +kernel
theorem dX7_placeAfter_12 : decode cX7_placeAfter 12 = .ok (.invokevirtual 294, 3) := by decide +kernel
theorem dX7_placeAfter_15 : decode cX7_placeAfter 15 = .ok (.ifCond .eq 12, 3) := by decide +kernel
theorem dX7_placeAfter_18 : decode cX7_placeAfter 18 = .ok (.iload_n 1, 1) := by decide +kernel
theorem dX7_placeAfter_19 : decode cX7_placeAfter 19 = .ok (.iload_n 2, 1) := by decide +kernel
theorem dX7_placeAfter_20 : decode cX7_placeAfter 20 = .ok (.iload_n 3, 1) := by decide +kernel
theorem dX7_placeAfter_21 : decode cX7_placeAfter 21 = .ok (.invokestatic 298, 3) := by decide +kernel
theorem dX7_placeAfter_24 : decode cX7_placeAfter 24 = .ok (.goto 9, 3) := by decide +kernel
theorem dX7_placeAfter_27 : decode cX7_placeAfter 27 = .ok (.iload_n 1, 1) := by decide +kernel
theorem dX7_placeAfter_28 : decode cX7_placeAfter 28 = .ok (.iload_n 2, 1) := by decide +kernel
theorem dX7_placeAfter_29 : decode cX7_placeAfter 29 = .ok (.iload_n 3, 1) := by decide +kernel
theorem dX7_placeAfter_30 : decode cX7_placeAfter 30 = .ok (.invokestatic 301, 3) := by decide +kernel
theorem dX7_placeAfter_33 : decode cX7_placeAfter 33 = .ok (.ireturn, 1) := by decide +kernel
set_option maxHeartbeats 4000000 in
set_option maxRecDepth 100000 in
theorem c_X7_placeAfter {l : Launch} {g : GW} {b κ p k w : Nat} {tn : Nat → Nat → Nat} {ow : Nat → Nat} (μ : Mm) (hb : b = 49 ∨ b = 57) (hB : BkR μ b tn ow) (hκ : κ ≤ 4) (hp : p ≤ 9) (hk : k ≤ 6) (hw : w ≤ 4) : Con l g yX7_placeAfter cX7_placeAfter 5 (some .int) 2 [.ref b, .int (nI κ), .int (nI p), .int (cI k), .int (nI w)] μ (fun r μ' => r = some (.int (nI (aft ow κ p k w))) ∧ μ' = μ) := by
  obtain ⟨hb1, hb2, hb3, hb4, hb5, hb6, hrow⟩ := bkF hb
  refine Con.of [.ref b, .int (nI κ), .int (nI p), .int (cI k), .int (nI w)] 0 (by decide +kernel) (Nat.le_of_ble_eq_true rfl) rfl ?_
  refine V_iload (pc := 0) dX7_placeAfter_0 rfl ?_
  refine V_iconst (pc := 2) (v := 4) dX7_placeAfter_2 (by decide) ?_
  refine V_icmpne (pc := 3) (tgt := 8) dX7_placeAfter_3 (by decide) (fun h3 => ?_) (fun h3 => ?_)
  · have h3 := mt (nI_eq (a := w) (b := 4) (by omega) (by decide)).mpr h3
    refine V_aload_n (pc := 8) dX7_placeAfter_8 rfl rfl ?_
    refine V_iload_n (pc := 9) dX7_placeAfter_9 rfl rfl ?_
    refine V_iload (pc := 10) dX7_placeAfter_10 rfl ?_
    refine V_inv2 (pc := 12) (ci := 0) dX7_placeAfter_12 ml_X7_294 (by first | decide | omega) (by first | rfl | assumption | exact (hrow _ (by omega)).2.1 | decide) ⟨by decide, rfl⟩ (by decide) (Nat.le_of_ble_eq_true rfl) (c_X0_favours μ hb hB hk hw) ?_
    rintro _ μ2 ⟨rfl, hμ⟩
    obtain rfl := hμ.symm
    refine V_ifeq (pc := 15) (tgt := 27) dX7_placeAfter_15 (by decide) (fun h15 => ?_) (fun h15 => ?_)
    · have h15 := (bI_0 _).mp h15
      refine V_iload_n (pc := 27) dX7_placeAfter_27 rfl rfl ?_
      refine V_iload_n (pc := 28) dX7_placeAfter_28 rfl rfl ?_
      refine V_iload_n (pc := 29) dX7_placeAfter_29 rfl rfl ?_
      refine V_ins3 (pc := 30) dX7_placeAfter_30 ml_X7_301 (by decide) (Nat.le_of_ble_eq_true rfl) (c_X7_placeBehind μ hκ hp hk) ?_
      rintro _ μ2 ⟨rfl, hμ⟩
      obtain rfl := hμ.symm
      refine V_iret (pc := 33) dX7_placeAfter_33 rfl ?_
      exact ⟨congrArg (fun z => some (Value.int z)) (by unfold aft; first | rw [if_neg h3, h15, if_pos rfl] | (rw [if_neg h3, h15]; rfl) | rw [if_pos h3]), rfl⟩
    have h15 : fav ow k w = true := by cases hf : fav ow k w; exact absurd ((bI_0 _).mpr hf) h15; rfl
    refine V_iload_n (pc := 18) dX7_placeAfter_18 rfl rfl ?_
    refine V_iload_n (pc := 19) dX7_placeAfter_19 rfl rfl ?_
    refine V_iload_n (pc := 20) dX7_placeAfter_20 rfl rfl ?_
    refine V_ins3 (pc := 21) dX7_placeAfter_21 ml_X7_298 (by decide) (Nat.le_of_ble_eq_true rfl) (c_X7_placeAhead μ hκ hp hk) ?_
    rintro _ μ2 ⟨rfl, hμ⟩
    obtain rfl := hμ.symm
    refine V_goto (pc := 24) (tgt := 33) dX7_placeAfter_24 (by decide) ?_
    refine V_iret (pc := 33) dX7_placeAfter_33 rfl ?_
    exact ⟨congrArg (fun z => some (Value.int z)) (by unfold aft; first | rw [if_neg h3, h15, if_pos rfl] | (rw [if_neg h3, h15]; rfl) | rw [if_pos h3]), rfl⟩
  have h3 := (nI_eq (a := w) (b := 4) (by omega) (by decide)).mp h3
  refine V_iload_n (pc := 6) dX7_placeAfter_6 rfl rfl ?_
  refine V_iret (pc := 7) dX7_placeAfter_7 rfl ?_
  exact ⟨congrArg (fun z => some (Value.int z)) (by unfold aft; first | rw [if_neg h3, h15, if_pos rfl] | (rw [if_neg h3, h15]; rfl) | rw [if_pos h3]), rfl⟩
end
section

/-! ===== a sea (ships, spent names, days, answers) ===== -/
theorem get_set (μ : Mm) (k j : Nat) (v : Int32) (a b : Nat) : (setI μ k j v).1 a b = if a = k ∧ b = j then v else μ.1 a b := by
  show up2 μ.1 k j v a b = _
  unfold up2
  by_cases h1 : a = k <;> by_cases h2 : b = j <;> simp [h1, h2]
theorem get_ne {μ : Mm} {k j : Nat} {v : Int32} {a b : Nat} (h : ¬ (a = k ∧ b = j)) : (setI μ k j v).1 a b = μ.1 a b := by rw [get_set, if_neg h]
theorem get_eq {μ : Mm} {k j : Nat} {v : Int32} : (setI μ k j v).1 k j = v := by rw [get_set, if_pos ⟨rfl, rfl⟩]
abbrev SeaT : Type := Nat × (Nat → Nat) × (Nat → Nat) × (Nat → Nat) × (Nat → Int32) × (Nat → Int32) × Nat × Int32 × Nat × (Nat → Int32)
def sN (σ : SeaT) : Nat := σ.1
def sK (σ : SeaT) : Nat → Nat := σ.2.1
def sP (σ : SeaT) : Nat → Nat := σ.2.2.1
def sC (σ : SeaT) : Nat → Nat := σ.2.2.2.1
def sV (σ : SeaT) : Nat → Int32 := σ.2.2.2.2.1
def sT (σ : SeaT) : Nat → Int32 := σ.2.2.2.2.2.1
def sS (σ : SeaT) : Nat := σ.2.2.2.2.2.2.1
def sD (σ : SeaT) : Int32 := σ.2.2.2.2.2.2.2.1
def sA (σ : SeaT) : Nat := σ.2.2.2.2.2.2.2.2.1
def sG (σ : SeaT) : Nat → Int32 := σ.2.2.2.2.2.2.2.2.2
/-- a ship's cell -/
def ShR (μ : Mm) (z : Nat) (κ p c : Nat) (v t : Int32) : Prop := μ.1 z 0 = nI κ ∧ κ ≤ 4 ∧ μ.1 z 1 = nI p ∧ p ≤ 9 ∧ μ.1 z 2 = cI c ∧ c ≤ 6 ∧ μ.1 z 3 = v ∧ μ.1 z 4 = t
def SeaR (μ : Mm) (s : Nat) (σ : SeaT) : Prop := μ.1 s 2 = nI (sN σ) ∧ sN σ ≤ 6 ∧ μ.1 s 3 = nI (sS σ) ∧ sS σ < 64 ∧ μ.1 s 4 = sD σ ∧ μ.1 s 5 = nI (sA σ) ∧ sA σ ≤ 40 ∧ (∀ i, i < 6 → ShR μ (s + 1 + 1 + i) (sK σ i) (sP σ i) (sC σ i) (sV σ i) (sT σ i)) ∧ ∀ n, n < 6 → μ.1 (s + 8) n = sG σ n
/-- nothing but some cells has changed -/
def FrM (S : Nat → Prop) (μ μ' : Mm) : Prop := (∀ k, ¬ S k → μ'.1 k = μ.1 k) ∧ μ'.2 = μ.2
theorem FrM.rf {S : Nat → Prop} {μ : Mm} : FrM S μ μ := ⟨fun _ _ => rfl, rfl⟩
theorem FrM.set {S : Nat → Prop} {μ μ' : Mm} (h : FrM S μ μ') {k j : Nat} {v : Int32} (hk : S k) : FrM S μ (setI μ' k j v) := by
  refine ⟨fun a ha => ?_, h.2⟩
  have hn : a ≠ k := fun q => ha (by rw [q]; exact hk)
  show up2 μ'.1 k j v a = _
  rw [up2_ne hn]
  exact h.1 a ha
theorem FrM.tr {S T : Nat → Prop} {μ μ' μ2 : Mm} (h : FrM S μ μ') (h2 : FrM T μ' μ2) (hT : ∀ k, T k → S k) : FrM S μ μ2 := ⟨fun a ha => (h2.1 a (fun q => ha (hT a q))).trans (h.1 a ha), h2.2.trans h.2⟩
theorem FrM.wk {S T : Nat → Prop} {μ μ' : Mm} (h : FrM S μ μ') (hT : ∀ k, S k → T k) : FrM T μ μ' := ⟨fun a ha => h.1 a (fun q => ha (hT a q)), h.2⟩
def seaS (s : Nat) : Nat → Prop := fun k => k = s ∨ (s + 2 ≤ k ∧ k ≤ s + 8)
theorem SeaR.kept {S : Nat → Prop} {μ μ' : Mm} {s : Nat} {σ : SeaT} (h : SeaR μ s σ) (hf : FrM S μ μ') (hd : ∀ k, seaS s k → ¬ S k) : SeaR μ' s σ := by
  obtain ⟨h1, h2, h3, h4, h5, h6, h7, h8, h9⟩ := h
  have e0 := hf.1 s (hd s (Or.inl rfl))
  refine ⟨by rw [e0]; exact h1, h2, by rw [e0]; exact h3, h4, by rw [e0]; exact h5, by rw [e0]; exact h6, h7, fun i hi => ?_, fun n hn => ?_⟩
  · unfold ShR
    rw [hf.1 (s + 1 + 1 + i) (hd _ (Or.inr (by omega)))]
    exact h8 i hi
  · rw [hf.1 (s + 8) (hd _ (Or.inr (by omega)))]
    exact h9 n hn
theorem BkR.kept {S : Nat → Prop} {μ μ' : Mm} {b : Nat} {tn : Nat → Nat → Nat} {ow : Nat → Nat} (h : BkR μ b tn ow) (hf : FrM S μ μ') (hd : ∀ k, b + 2 ≤ k → k ≤ b + 7 → ¬ S k) : BkR μ' b tn ow := by
  obtain ⟨h1, h2, h3, h4⟩ := h
  refine ⟨fun w s hw hs => ?_, fun n hn => ?_, h3, h4⟩
  · rw [hf.1 _ (hd _ (by omega) (by omega))]
    exact h1 w s hw hs
  · rw [hf.1 _ (hd _ (by omega) (by omega))]
    exact h2 n hn
theorem fa6 {P : Nat → Prop} (h0 : P 0) (h1 : P 1) (h2 : P 2) (h3 : P 3) (h4 : P 4) (h5 : P 5) : ∀ n, n < 6 → P n := by
  intro n hn
  rcases (show n = 0 ∨ n = 1 ∨ n = 2 ∨ n = 3 ∨ n = 4 ∨ n = 5 by omega) with rfl | rfl | rfl | rfl | rfl | rfl <;> assumption
theorem bit_get : ∀ S, S < 64 → ∀ n, n < 6 → ((nI S >>> (nI n &&& 31)) &&& 1) = bI (S.testBit n) := by decide +kernel
theorem bit_free : ∀ S, S < 64 → ((63 : Int32) &&& (nI S ^^^ (-1))) = nI (63 - S) := by decide +kernel
theorem bit_set : ∀ S, S < 64 → ∀ n, n < 6 → (nI S ||| ((1 : Int32) <<< (nI n &&& 31))) = nI (S ||| 2 ^ n) := by decide +kernel
theorem bit_set_lt : ∀ S, S < 64 → ∀ n, n < 6 → S ||| 2 ^ n < 64 := by decide +kernel
def clr (S n : Nat) : Nat := if S.testBit n then S - 2 ^ n else S
theorem bit_clr : ∀ S, S < 64 → ∀ n, n < 6 → (nI S &&& (((1 : Int32) <<< (nI n &&& 31)) ^^^ (-1))) = nI (clr S n) := by decide +kernel
theorem clr_lt : ∀ S, S < 64 → ∀ n, n < 6 → clr S n < 64 := by decide +kernel
def cntB (S : Nat) : Nat := (if S.testBit 0 then 1 else 0) + (if S.testBit 1 then 1 else 0) + (if S.testBit 2 then 1 else 0) + (if S.testBit 3 then 1 else 0) + (if S.testBit 4 then 1 else 0) + (if S.testBit 5 then 1 else 0)
def homeT (p : Nat → Nat) : Nat → Nat
  | 0 => 0
  | n + 1 => homeT p n + if p n = 9 then 1 else 0
def sumP (p : Nat → Nat) : Nat → Nat
  | 0 => 0
  | n + 1 => sumP p n + p n
theorem sumP_le {p : Nat → Nat} (h : ∀ i, i < 6 → p i ≤ 9) : ∀ n, n ≤ 6 → sumP p n ≤ 9 * n
  | 0, _ => Nat.zero_le _
  | n + 1, hn => by
    have h1 := sumP_le h n (by omega)
    have h2 := h n (by omega)
    show _ + _ ≤ _
    omega
/-- whether one of the first n ships that spends calls k (name + 1) -/
def anyC (σ : SeaT) (k : Nat) : Nat → Bool
  | 0 => false
  | n + 1 => anyC σ k n || (sC σ n == k && sK σ n != 4)
end
section
theorem dX5_spends_0 : decode cX5_spends 0 = .ok (.aload_n 0, 1) := by decide +kernel
theorem dX5_spends_1 : decode cX5_spends 1 = .ok (.getfield 9, 3) := by decide +kernel
theorem dX5_spends_4 : decode cX5_spends 4 = .ok (.iload_n 1, 1) := by decide +kernel
theorem dX5_spends_5 : decode cX5_spends 5 = .ok (.if_icmp .ne 15, 3) := by decide +kernel
theorem dX5_spends_8 : decode cX5_spends 8 = .ok (.aload_n 0, 1) := by decide +kernel
theorem dX5_spends_9 : decode cX5_spends 9 = .ok (.getfield 15, 3) := by decide +kernel
theorem dX5_spends_12 : decode cX5_spends 12 = .ok (.iconst 4, 1) := by decide +kernel
theorem dX5_spends_13 : decode cX5_spends 13 = .ok (.if_icmp .eq 7, 3) := by decide +kernel
theorem dX5_spends_16 : decode cX5_spends 16 = .ok (.iconst 1, 1) := by decide +kernel
theorem dX5_spends_17 : decode cX5_spends 17 = .ok (.goto 4, 3) := by decide +kernel
theorem dX5_spends_20 : decode cX5_spends 20 = .ok (.iconst 0, 1) := by decide +kernel
theorem dX5_spends_21 : decode cX5_spends 21 = .ok (.ireturn, 1) := by decide +kernel
set_option maxHeartbeats 4000000 in
set_option maxRecDepth 100000 in
theorem c_X5_spends {l : Launch} {g : GW} {z κ p c : Nat} {v t : Int32} {k : Nat} (μ : Mm) (hz : z < 88) (hzt : kt z = 5) (hZ : ShR μ z κ p c v t) (hk : k ≤ 6) : Con l g yX5_spends cX5_spends 2 (some .boolean) 0 [.ref z, .int (cI k)] μ (fun r μ' => r = some (.int (bI (c == k && κ != 4))) ∧ μ' = μ) := by
  obtain ⟨z1, z2, z3, z4, z5, z6, z7, z8⟩ := hZ
  refine Con.of [.ref z, .int (cI k)] 0 (by decide +kernel) (Nat.le_of_ble_eq_true rfl) rfl ?_
  refine V_aload_n (pc := 0) dX5_spends_0 rfl rfl ?_
  refine V_getI (pc := 1) (ci := 5) (j := 2) dX5_spends_1 fl_X5_9 (fun _ _ _ _ => rfl) (by first | decide | omega) (by first | rfl | assumption | decide) ?_
  refine V_iload_n (pc := 4) dX5_spends_4 rfl rfl ?_
  refine V_icmpne (pc := 5) (tgt := 20) dX5_spends_5 (by decide) (fun h5 => ?_) (fun h5 => ?_)
  · rw [z5, cI_eq (by omega) (by omega)] at h5
    refine V_iconst (pc := 20) (v := 0) dX5_spends_20 (by decide) ?_
    refine V_zret (pc := 21) dX5_spends_21 rfl (by first | exact Or.inl rfl | exact Or.inr rfl | assumption) ?_
    exact ⟨congrArg (fun z => some (Value.int z)) (by simp_all [bI]), rfl⟩
  rw [z5, cI_eq (by omega) (by omega)] at h5
  refine V_aload_n (pc := 8) dX5_spends_8 rfl rfl ?_
  refine V_getI (pc := 9) (ci := 5) (j := 0) dX5_spends_9 fl_X5_15 (fun _ _ _ _ => rfl) (by first | decide | omega) (by first | rfl | assumption | decide) ?_
  refine V_iconst (pc := 12) (v := 4) dX5_spends_12 (by decide) ?_
  refine V_icmpeq (pc := 13) (tgt := 20) dX5_spends_13 (by decide) (fun h13 => ?_) (fun h13 => ?_)
  · rw [z1] at h13; have h13 := (nI_eq (a := κ) (b := 4) (by omega) (by decide)).mp h13
    refine V_iconst (pc := 20) (v := 0) dX5_spends_20 (by decide) ?_
    refine V_zret (pc := 21) dX5_spends_21 rfl (by first | exact Or.inl rfl | exact Or.inr rfl | assumption) ?_
    exact ⟨congrArg (fun z => some (Value.int z)) (by simp_all [bI]), rfl⟩
  rw [z1] at h13; have h13 := mt (nI_eq (a := κ) (b := 4) (by omega) (by decide)).mpr h13
  refine V_iconst (pc := 16) (v := 1) dX5_spends_16 (by decide) ?_
  refine V_goto (pc := 17) (tgt := 21) dX5_spends_17 (by decide) ?_
  refine V_zret (pc := 21) dX5_spends_21 rfl (by first | exact Or.inl rfl | exact Or.inr rfl | assumption) ?_
  exact ⟨congrArg (fun z => some (Value.int z)) (by simp_all [bI]), rfl⟩
theorem dX5_isA_0 : decode cX5_isA 0 = .ok (.iload_n 1, 1) := by decide +kernel
theorem dX5_isA_1 : decode cX5_isA 1 = .ok (.ifCond .eq 24, 3) := by decide +kernel
theorem dX5_isA_4 : decode cX5_isA 4 = .ok (.iload_n 1, 1) := by decide +kernel
theorem dX5_isA_5 : decode cX5_isA 5 = .ok (.aload_n 0, 1) := by decide +kernel
theorem dX5_isA_6 : decode cX5_isA 6 = .ok (.getfield 15, 3) := by decide +kernel
theorem dX5_isA_9 : decode cX5_isA 9 = .ok (.if_icmp .eq 16, 3) := by decide +kernel
theorem dX5_isA_12 : decode cX5_isA 12 = .ok (.iload_n 1, 1) := by decide +kernel
theorem dX5_isA_13 : decode cX5_isA 13 = .ok (.iconst 3, 1) := by decide +kernel
theorem dX5_isA_14 : decode cX5_isA 14 = .ok (.if_icmp .ne 15, 3) := by decide +kernel
theorem dX5_isA_17 : decode cX5_isA 17 = .ok (.aload_n 0, 1) := by decide +kernel
theorem dX5_isA_18 : decode cX5_isA 18 = .ok (.getfield 15, 3) := by decide +kernel
theorem dX5_isA_21 : decode cX5_isA 21 = .ok (.iconst 4, 1) := by decide +kernel
theorem dX5_isA_22 : decode cX5_isA 22 = .ok (.if_icmp .ne 7, 3) := by decide +kernel
theorem dX5_isA_25 : decode cX5_isA 25 = .ok (.iconst 1, 1) := by decide +kernel
theorem dX5_isA_26 : decode cX5_isA 26 = .ok (.goto 4, 3) := by decide +kernel
theorem dX5_isA_29 : decode cX5_isA 29 = .ok (.iconst 0, 1) := by decide +kernel
theorem dX5_isA_30 : decode cX5_isA 30 = .ok (.ireturn, 1) := by decide +kernel
set_option maxHeartbeats 4000000 in
set_option maxRecDepth 100000 in
theorem c_X5_isA {l : Launch} {g : GW} {z κ p c : Nat} {v t : Int32} {q : Nat} (μ : Mm) (hz : z < 88) (hzt : kt z = 5) (hZ : ShR μ z κ p c v t) (hq : q ≤ 4) : Con l g yX5_isA cX5_isA 2 (some .boolean) 0 [.ref z, .int (nI q)] μ (fun r μ' => r = some (.int (bI (q == 0 || q == κ || (q == 3 && κ == 4)))) ∧ μ' = μ) := by
  obtain ⟨z1, z2, z3, z4, z5, z6, z7, z8⟩ := hZ
  refine Con.of [.ref z, .int (nI q)] 0 (by decide +kernel) (Nat.le_of_ble_eq_true rfl) rfl ?_
  refine V_iload_n (pc := 0) dX5_isA_0 rfl rfl ?_
  refine V_ifeq (pc := 1) (tgt := 25) dX5_isA_1 (by decide) (fun h1 => ?_) (fun h1 => ?_)
  · have h1 := (nI_eq (a := q) (b := 0) (by omega) (by omega)).mp h1
    refine V_iconst (pc := 25) (v := 1) dX5_isA_25 (by decide) ?_
    refine V_goto (pc := 26) (tgt := 30) dX5_isA_26 (by decide) ?_
    refine V_zret (pc := 30) dX5_isA_30 rfl (by first | exact Or.inl rfl | exact Or.inr rfl | assumption) ?_
    exact ⟨congrArg (fun z => some (Value.int z)) (by simp_all [bI]), rfl⟩
  have h1 := mt (nI_eq (a := q) (b := 0) (by omega) (by omega)).mpr h1
  refine V_iload_n (pc := 4) dX5_isA_4 rfl rfl ?_
  refine V_aload_n (pc := 5) dX5_isA_5 rfl rfl ?_
  refine V_getI (pc := 6) (ci := 5) (j := 0) dX5_isA_6 fl_X5_15 (fun _ _ _ _ => rfl) (by first | decide | omega) (by first | rfl | assumption | decide) ?_
  refine V_icmpeq (pc := 9) (tgt := 25) dX5_isA_9 (by decide) (fun h9 => ?_) (fun h9 => ?_)
  · rw [z1] at h9; have h9 := (nI_eq (a := q) (b := κ) (by omega) (by omega)).mp h9
    refine V_iconst (pc := 25) (v := 1) dX5_isA_25 (by decide) ?_
    refine V_goto (pc := 26) (tgt := 30) dX5_isA_26 (by decide) ?_
    refine V_zret (pc := 30) dX5_isA_30 rfl (by first | exact Or.inl rfl | exact Or.inr rfl | assumption) ?_
    exact ⟨congrArg (fun z => some (Value.int z)) (by simp_all [bI]), rfl⟩
  rw [z1] at h9; have h9 := mt (nI_eq (a := q) (b := κ) (by omega) (by omega)).mpr h9
  refine V_iload_n (pc := 12) dX5_isA_12 rfl rfl ?_
  refine V_iconst (pc := 13) (v := 3) dX5_isA_13 (by decide) ?_
  refine V_icmpne (pc := 14) (tgt := 29) dX5_isA_14 (by decide) (fun h14 => ?_) (fun h14 => ?_)
  · have h14 := mt (nI_eq (a := q) (b := 3) (by omega) (by omega)).mpr h14
    refine V_iconst (pc := 29) (v := 0) dX5_isA_29 (by decide) ?_
    refine V_zret (pc := 30) dX5_isA_30 rfl (by first | exact Or.inl rfl | exact Or.inr rfl | assumption) ?_
    exact ⟨congrArg (fun z => some (Value.int z)) (by simp_all [bI]), rfl⟩
  have h14 := (nI_eq (a := q) (b := 3) (by omega) (by omega)).mp h14
  refine V_aload_n (pc := 17) dX5_isA_17 rfl rfl ?_
  refine V_getI (pc := 18) (ci := 5) (j := 0) dX5_isA_18 fl_X5_15 (fun _ _ _ _ => rfl) (by first | decide | omega) (by first | rfl | assumption | decide) ?_
  refine V_iconst (pc := 21) (v := 4) dX5_isA_21 (by decide) ?_
  refine V_icmpne (pc := 22) (tgt := 29) dX5_isA_22 (by decide) (fun h22 => ?_) (fun h22 => ?_)
  · rw [z1] at h22; have h22 := mt (nI_eq (a := κ) (b := 4) (by omega) (by omega)).mpr h22
    refine V_iconst (pc := 29) (v := 0) dX5_isA_29 (by decide) ?_
    refine V_zret (pc := 30) dX5_isA_30 rfl (by first | exact Or.inl rfl | exact Or.inr rfl | assumption) ?_
    exact ⟨congrArg (fun z => some (Value.int z)) (by simp_all [bI]), rfl⟩
  rw [z1] at h22; have h22 := (nI_eq (a := κ) (b := 4) (by omega) (by omega)).mp h22
  refine V_iconst (pc := 25) (v := 1) dX5_isA_25 (by decide) ?_
  refine V_goto (pc := 26) (tgt := 30) dX5_isA_26 (by decide) ?_
  refine V_zret (pc := 30) dX5_isA_30 rfl (by first | exact Or.inl rfl | exact Or.inr rfl | assumption) ?_
  exact ⟨congrArg (fun z => some (Value.int z)) (by simp_all [bI]), rfl⟩
theorem dX5_tell_0 : decode cX5_tell 0 = .ok (.iload_n 1, 1) := by decide +kernel
theorem dX5_tell_1 : decode cX5_tell 1 = .ok (.tableswitch 51 0 3 #[31, 36, 41, 46], 31) := by decide +kernel
theorem dX5_tell_32 : decode cX5_tell 32 = .ok (.aload_n 0, 1) := by decide +kernel
theorem dX5_tell_33 : decode cX5_tell 33 = .ok (.getfield 15, 3) := by decide +kernel
theorem dX5_tell_36 : decode cX5_tell 36 = .ok (.ireturn, 1) := by decide +kernel
theorem dX5_tell_37 : decode cX5_tell 37 = .ok (.aload_n 0, 1) := by decide +kernel
theorem dX5_tell_38 : decode cX5_tell 38 = .ok (.getfield 18, 3) := by decide +kernel
theorem dX5_tell_41 : decode cX5_tell 41 = .ok (.ireturn, 1) := by decide +kernel
theorem dX5_tell_42 : decode cX5_tell 42 = .ok (.aload_n 0, 1) := by decide +kernel
theorem dX5_tell_43 : decode cX5_tell 43 = .ok (.getfield 9, 3) := by decide +kernel
theorem dX5_tell_46 : decode cX5_tell 46 = .ok (.ireturn, 1) := by decide +kernel
theorem dX5_tell_47 : decode cX5_tell 47 = .ok (.aload_n 0, 1) := by decide +kernel
theorem dX5_tell_48 : decode cX5_tell 48 = .ok (.getfield 21, 3) := by decide +kernel
theorem dX5_tell_51 : decode cX5_tell 51 = .ok (.ireturn, 1) := by decide +kernel
theorem dX5_tell_52 : decode cX5_tell 52 = .ok (.aload_n 0, 1) := by decide +kernel
theorem dX5_tell_53 : decode cX5_tell 53 = .ok (.getfield 24, 3) := by decide +kernel
theorem dX5_tell_56 : decode cX5_tell 56 = .ok (.ireturn, 1) := by decide +kernel
set_option maxHeartbeats 4000000 in
set_option maxRecDepth 100000 in
theorem c_X5_tell {l : Launch} {g : GW} {z q : Nat} (μ : Mm) (hz : z < 88) (hzt : kt z = 5) (hq : q ≤ 4) : Con l g yX5_tell cX5_tell 2 (some .int) 0 [.ref z, .int (nI q)] μ (fun r μ' => r = some (.int (μ.1 z q)) ∧ μ' = μ) := by
  refine Con.of [.ref z, .int (nI q)] 0 (by decide +kernel) (Nat.le_of_ble_eq_true rfl) rfl ?_
  refine V_iload_n (pc := 0) dX5_tell_0 rfl rfl ?_
  have hsel : q = 0 ∨ q = 1 ∨ q = 2 ∨ q = 3 ∨ q = 4 := by omega
  rcases hsel with hs1 | hs1 | hs1 | hs1 | hs1
  · subst hs1
    refine V_tsIn (pc := 1) (off := 31) (tgt := 32) dX5_tell_1 (by decide) (by decide) (by decide) (by decide) ?_
    refine V_aload_n (pc := 32) dX5_tell_32 rfl rfl ?_
    refine V_getI (pc := 33) (ci := 5) (j := 0) dX5_tell_33 fl_X5_15 (fun _ _ _ _ => rfl) (by first | decide | omega) (by first | rfl | assumption | decide) ?_
    refine V_iret (pc := 36) dX5_tell_36 rfl ?_
    exact ⟨rfl, rfl⟩
  · subst hs1
    refine V_tsIn (pc := 1) (off := 36) (tgt := 37) dX5_tell_1 (by decide) (by decide) (by decide) (by decide) ?_
    refine V_aload_n (pc := 37) dX5_tell_37 rfl rfl ?_
    refine V_getI (pc := 38) (ci := 5) (j := 1) dX5_tell_38 fl_X5_18 (fun _ _ _ _ => rfl) (by first | decide | omega) (by first | rfl | assumption | decide) ?_
    refine V_iret (pc := 41) dX5_tell_41 rfl ?_
    exact ⟨rfl, rfl⟩
  · subst hs1
    refine V_tsIn (pc := 1) (off := 41) (tgt := 42) dX5_tell_1 (by decide) (by decide) (by decide) (by decide) ?_
    refine V_aload_n (pc := 42) dX5_tell_42 rfl rfl ?_
    refine V_getI (pc := 43) (ci := 5) (j := 2) dX5_tell_43 fl_X5_9 (fun _ _ _ _ => rfl) (by first | decide | omega) (by first | rfl | assumption | decide) ?_
    refine V_iret (pc := 46) dX5_tell_46 rfl ?_
    exact ⟨rfl, rfl⟩
  · subst hs1
    refine V_tsIn (pc := 1) (off := 46) (tgt := 47) dX5_tell_1 (by decide) (by decide) (by decide) (by decide) ?_
    refine V_aload_n (pc := 47) dX5_tell_47 rfl rfl ?_
    refine V_getI (pc := 48) (ci := 5) (j := 3) dX5_tell_48 fl_X5_21 (fun _ _ _ _ => rfl) (by first | decide | omega) (by first | rfl | assumption | decide) ?_
    refine V_iret (pc := 51) dX5_tell_51 rfl ?_
    exact ⟨rfl, rfl⟩
  subst hs1
  refine V_tsOut (pc := 1) (tgt := 52) dX5_tell_1 (by decide) (by decide) ?_
  refine V_aload_n (pc := 52) dX5_tell_52 rfl rfl ?_
  refine V_getI (pc := 53) (ci := 5) (j := 4) dX5_tell_53 fl_X5_24 (fun _ _ _ _ => rfl) (by first | decide | omega) (by first | rfl | assumption | decide) ?_
  refine V_iret (pc := 56) dX5_tell_56 rfl ?_
  exact ⟨rfl, rfl⟩
theorem dX4_isSpent_0 : decode cX4_isSpent 0 = .ok (.aload_n 0, 1) := by decide +kernel
theorem dX4_isSpent_1 : decode cX4_isSpent 1 = .ok (.getfield 35, 3) := by decide +kernel
theorem dX4_isSpent_4 : decode cX4_isSpent 4 = .ok (.iload_n 1, 1) := by decide +kernel
theorem dX4_isSpent_5 : decode cX4_isSpent 5 = .ok (.ishr, 1) := by decide +kernel
theorem dX4_isSpent_6 : decode cX4_isSpent 6 = .ok (.iconst 1, 1) := by decide +kernel
theorem dX4_isSpent_7 : decode cX4_isSpent 7 = .ok (.iand, 1) := by decide +kernel
theorem dX4_isSpent_8 : decode cX4_isSpent 8 = .ok (.iconst 1, 1) := by decide +kernel
theorem dX4_isSpent_9 : decode cX4_isSpent 9 = .ok (.if_icmp .ne 7, 3) := by decide +kernel
theorem dX4_isSpent_12 : decode cX4_isSpent 12 = .ok (.iconst 1, 1) := by decide +kernel
theorem dX4_isSpent_13 : decode cX4_isSpent 13 = .ok (.goto 4, 3) := by decide +kernel
theorem dX4_isSpent_16 : decode cX4_isSpent 16 = .ok (.iconst 0, 1) := by decide +kernel
theorem dX4_isSpent_17 : decode cX4_isSpent 17 = .ok (.ireturn, 1) := by decide +kernel
set_option maxHeartbeats 4000000 in
set_option maxRecDepth 100000 in
theorem c_X4_isSpent {l : Launch} {g : GW} {s n : Nat} {σ : SeaT} (μ : Mm) (hs : s = 4 ∨ s = 13 ∨ s = 22) (hS : SeaR μ s σ) (hn : n < 6) : Con l g yX4_isSpent cX4_isSpent 2 (some .boolean) 0 [.ref s, .int (nI n)] μ (fun r μ' => r = some (.int (bI ((sS σ).testBit n))) ∧ μ' = μ) := by
  obtain ⟨hs1, hs2, hs3, hs4, hs5, hs6, hrow⟩ := seaF hs
  obtain ⟨r1, r2, r3, r4, r5, r6, r7, r8, r9⟩ := hS
  refine Con.of [.ref s, .int (nI n)] 0 (by decide +kernel) (Nat.le_of_ble_eq_true rfl) rfl ?_
  refine V_aload_n (pc := 0) dX4_isSpent_0 rfl rfl ?_
  refine V_getI (pc := 1) (ci := 4) (j := 3) dX4_isSpent_1 fl_X4_35 (fun _ _ _ _ => rfl) (by first | decide | omega) (by first | rfl | assumption | decide) ?_
  refine V_iload_n (pc := 4) dX4_isSpent_4 rfl rfl ?_
  refine V_ishr (pc := 5) dX4_isSpent_5 ?_
  refine V_iconst (pc := 6) (v := 1) dX4_isSpent_6 (by decide) ?_
  refine V_iand (pc := 7) dX4_isSpent_7 ?_
  refine V_iconst (pc := 8) (v := 1) dX4_isSpent_8 (by decide) ?_
  refine V_icmpne (pc := 9) (tgt := 16) dX4_isSpent_9 (by decide) (fun h9 => ?_) (fun h9 => ?_)
  · rw [r3, bit_get _ r4 _ hn] at h9
    refine V_iconst (pc := 16) (v := 0) dX4_isSpent_16 (by decide) ?_
    refine V_zret (pc := 17) dX4_isSpent_17 rfl (by first | exact Or.inl rfl | exact Or.inr rfl | assumption) ?_
    exact ⟨congrArg (fun z => some (Value.int z)) (by cases hq : (sS σ).testBit n <;> simp_all [bI]), rfl⟩
  rw [r3, bit_get _ r4 _ hn] at h9
  refine V_iconst (pc := 12) (v := 1) dX4_isSpent_12 (by decide) ?_
  refine V_goto (pc := 13) (tgt := 17) dX4_isSpent_13 (by decide) ?_
  refine V_zret (pc := 17) dX4_isSpent_17 rfl (by first | exact Or.inl rfl | exact Or.inr rfl | assumption) ?_
  exact ⟨congrArg (fun z => some (Value.int z)) (by cases hq : (sS σ).testBit n <;> simp_all [bI]), rfl⟩
theorem dX4_freeNames_0 : decode cX4_freeNames 0 = .ok (.bipush 63, 2) := by decide +kernel
theorem dX4_freeNames_2 : decode cX4_freeNames 2 = .ok (.aload_n 0, 1) := by decide +kernel
theorem dX4_freeNames_3 : decode cX4_freeNames 3 = .ok (.getfield 35, 3) := by decide +kernel
theorem dX4_freeNames_6 : decode cX4_freeNames 6 = .ok (.iconst (-1), 1) := by decide +kernel
theorem dX4_freeNames_7 : decode cX4_freeNames 7 = .ok (.ixor, 1) := by decide +kernel
theorem dX4_freeNames_8 : decode cX4_freeNames 8 = .ok (.iand, 1) := by decide +kernel
theorem dX4_freeNames_9 : decode cX4_freeNames 9 = .ok (.ireturn, 1) := by decide +kernel
set_option maxHeartbeats 4000000 in
set_option maxRecDepth 100000 in
theorem c_X4_freeNames {l : Launch} {g : GW} {s : Nat} {σ : SeaT} (μ : Mm) (hs : s = 4 ∨ s = 13 ∨ s = 22) (hS : SeaR μ s σ) : Con l g yX4_freeNames cX4_freeNames 1 (some .int) 0 [.ref s] μ (fun r μ' => r = some (.int (nI (63 - sS σ))) ∧ μ' = μ) := by
  obtain ⟨hs1, hs2, hs3, hs4, hs5, hs6, hrow⟩ := seaF hs
  obtain ⟨r1, r2, r3, r4, r5, r6, r7, r8, r9⟩ := hS
  refine Con.of [.ref s] 0 (by decide +kernel) (Nat.le_of_ble_eq_true rfl) rfl ?_
  refine V_bipush (pc := 0) (v := 63) dX4_freeNames_0 (by decide) ?_
  refine V_aload_n (pc := 2) dX4_freeNames_2 rfl rfl ?_
  refine V_getI (pc := 3) (ci := 4) (j := 3) dX4_freeNames_3 fl_X4_35 (fun _ _ _ _ => rfl) (by first | decide | omega) (by first | rfl | assumption | decide) ?_
  refine V_iconst (pc := 6) (v := (-1)) dX4_freeNames_6 (by decide) ?_
  refine V_ixor (pc := 7) dX4_freeNames_7 ?_
  refine V_iand (pc := 8) dX4_freeNames_8 ?_
  refine V_iret (pc := 9) dX4_freeNames_9 rfl ?_
  exact ⟨congrArg (fun z => some (Value.int z)) (by rw [r3, bit_free _ r4]), rfl⟩
theorem dX4_homeCount_0 : decode cX4_homeCount 0 = .ok (.iconst 0, 1) := by decide +kernel
theorem dX4_homeCount_1 : decode cX4_homeCount 1 = .ok (.istore_n 1, 1) := by decide +kernel
theorem dX4_homeCount_2 : decode cX4_homeCount 2 = .ok (.iconst 0, 1) := by decide +kernel
theorem dX4_homeCount_3 : decode cX4_homeCount 3 = .ok (.istore_n 2, 1) := by decide +kernel
theorem dX4_homeCount_4 : decode cX4_homeCount 4 = .ok (.iload_n 2, 1) := by decide +kernel
theorem dX4_homeCount_5 : decode cX4_homeCount 5 = .ok (.aload_n 0, 1) := by decide +kernel
theorem dX4_homeCount_6 : decode cX4_homeCount 6 = .ok (.getfield 31, 3) := by decide +kernel
theorem dX4_homeCount_9 : decode cX4_homeCount 9 = .ok (.if_icmp .ge 26, 3) := by decide +kernel
theorem dX4_homeCount_12 : decode cX4_homeCount 12 = .ok (.aload_n 0, 1) := by decide +kernel
theorem dX4_homeCount_13 : decode cX4_homeCount 13 = .ok (.getfield 11, 3) := by decide +kernel
theorem dX4_homeCount_16 : decode cX4_homeCount 16 = .ok (.iload_n 2, 1) := by decide +kernel
theorem dX4_homeCount_17 : decode cX4_homeCount 17 = .ok (.aaload, 1) := by decide +kernel
theorem dX4_homeCount_18 : decode cX4_homeCount 18 = .ok (.getfield 64, 3) := by decide +kernel
theorem dX4_homeCount_21 : decode cX4_homeCount 21 = .ok (.bipush 9, 2) := by decide +kernel
theorem dX4_homeCount_23 : decode cX4_homeCount 23 = .ok (.if_icmp .ne 6, 3) := by decide +kernel
theorem dX4_homeCount_26 : decode cX4_homeCount 26 = .ok (.iinc 1 1, 3) := by decide +kernel
theorem dX4_homeCount_29 : decode cX4_homeCount 29 = .ok (.iinc 2 1, 3) := by decide +kernel
theorem dX4_homeCount_32 : decode cX4_homeCount 32 = .ok (.goto (-28), 3) := by decide +kernel
theorem dX4_homeCount_35 : decode cX4_homeCount 35 = .ok (.iload_n 1, 1) := by decide +kernel
theorem dX4_homeCount_36 : decode cX4_homeCount 36 = .ok (.ireturn, 1) := by decide +kernel
set_option maxHeartbeats 4000000 in
set_option maxRecDepth 100000 in
theorem c_X4_homeCount {l : Launch} {g : GW} {s : Nat} {σ : SeaT} (μ : Mm) (hs : s = 4 ∨ s = 13 ∨ s = 22) (hS : SeaR μ s σ) : Con l g yX4_homeCount cX4_homeCount 3 (some .int) 0 [.ref s] μ (fun r μ' => r = some (.int (nI (homeT (sP σ) (sN σ)))) ∧ μ' = μ) := by
  obtain ⟨hs1, hs2, hs3, hs4, hs5, hs6, hrow⟩ := seaF hs
  obtain ⟨r1, r2, r3, r4, r5, r6, r7, r8, r9⟩ := hS
  refine Con.of [.ref s, .null, .null] 2 (by decide +kernel) (Nat.le_of_ble_eq_true rfl) rfl ?_
  refine V_iconst (pc := 0) (v := 0) dX4_homeCount_0 (by decide) ?_
  refine V_istore1 (pc := 1) dX4_homeCount_1 (by decide) rfl ?_
  refine V_iconst (pc := 2) (v := 0) dX4_homeCount_2 (by decide) ?_
  refine V_istore2 (pc := 3) dX4_homeCount_3 (by decide) rfl ?_
  have loop : ∀ (n i : Nat) (acc : Int32), i ≤ sN σ → sN σ < i + n → (acc = nI (homeT (sP σ) i)) → V l g RX4 cX4_homeCount 3 (some .int) 0 4 [.ref s, .int acc, .int (nI i)] [] μ (fun r μ' => r = some (.int (nI (homeT (sP σ) (sN σ)))) ∧ μ' = μ) := by
    intro n
    induction n with
    | zero => intro i acc h1 h2; exact absurd h2 (by omega)
    | succ n ih =>
      intro i acc hle hfu hacc
      refine V_iload_n (pc := 4) dX4_homeCount_4 rfl rfl ?_
      refine V_aload_n (pc := 5) dX4_homeCount_5 rfl rfl ?_
      refine V_getI (pc := 6) (ci := 4) (j := 2) dX4_homeCount_6 fl_X4_31 (fun _ _ _ _ => rfl) (by first | decide | omega) (by first | rfl | assumption | exact (hrow _ (by omega)).2 | decide) ?_
      refine V_icmpge (pc := 9) (tgt := 35) dX4_homeCount_9 (by decide) (fun h9 => ?_) (fun h9 => ?_)
      · rw [r1, nI_leI (by omega) (by omega)] at h9; obtain rfl : i = sN σ := by omega
        refine V_iload_n (pc := 35) dX4_homeCount_35 rfl rfl ?_
        refine V_iret (pc := 36) dX4_homeCount_36 rfl ?_
        exact ⟨by rw [hacc], rfl⟩
      rw [r1, nI_leI (by omega) (by omega)] at h9; have hlt : i < sN σ := (by omega); obtain ⟨z1, z2, z3, z4, -⟩ := r8 i (by omega)
      refine V_aload_n (pc := 12) dX4_homeCount_12 rfl rfl ?_
      refine V_getR (pc := 13) (ci := 4) (j := 0) (k2 := (s + 1)) dX4_homeCount_13 fl_X4_11 (fun _ _ _ _ => rfl) (by first | decide | omega) (by first | rfl | assumption | exact (hrow _ (by omega)).2 | decide) (rf_4_0 (by first | rfl | assumption | exact (hrow _ (by omega)).2 | decide)) ?_
      refine V_iload_n (pc := 16) dX4_homeCount_16 rfl rfl ?_
      refine V_aald14 (pc := 17) (j := i) dX4_homeCount_17 (by first | decide | omega) (by first | rfl | assumption | exact (hrow _ (by omega)).2 | decide) rfl (by omega) ?_
      refine V_getI (pc := 18) (ci := 5) (j := 1) dX4_homeCount_18 fl_X4_64 (fun _ _ _ _ => rfl) (by first | decide | omega) (by first | rfl | assumption | exact (hrow _ (by omega)).2 | decide) ?_
      refine V_bipush (pc := 21) (v := 9) dX4_homeCount_21 (by decide) ?_
      refine V_icmpne (pc := 23) (tgt := 29) dX4_homeCount_23 (by decide) (fun h23 => ?_) (fun h23 => ?_)
      · rw [z3] at h23; have h23 := mt (nI_eq (a := sP σ i) (b := 9) (by omega) (by omega)).mpr h23
        refine V_iinc2 (pc := 29) (v := nI (i + 1)) dX4_homeCount_29 (nI_1 i) (by decide) rfl ?_
        refine V_goto (pc := 32) (tgt := 4) dX4_homeCount_32 (by decide) ?_
        exact ih (i + 1) _ (by omega) (by omega) (by show _ = nI (homeT (sP σ) i + if sP σ i = 9 then 1 else 0); first | rw [if_neg h23, hacc, Nat.add_zero] | (rw [if_pos h23, hacc]; exact nI_1 _))
      rw [z3] at h23; have h23 := (nI_eq (a := sP σ i) (b := 9) (by omega) (by omega)).mp h23
      refine V_iinc1 (pc := 26) dX4_homeCount_26 rfl (by decide) rfl ?_
      refine V_iinc2 (pc := 29) (v := nI (i + 1)) dX4_homeCount_29 (nI_1 i) (by decide) rfl ?_
      refine V_goto (pc := 32) (tgt := 4) dX4_homeCount_32 (by decide) ?_
      exact ih (i + 1) _ (by omega) (by omega) (by show _ = nI (homeT (sP σ) i + if sP σ i = 9 then 1 else 0); first | rw [if_neg h23, hacc, Nat.add_zero] | (rw [if_pos h23, hacc]; exact nI_1 _))
  exact loop (sN σ + 1) 0 _ (by omega) (by omega) rfl
theorem dX4_placesTogether_0 : decode cX4_placesTogether 0 = .ok (.iconst 0, 1) := by decide +kernel
theorem dX4_placesTogether_1 : decode cX4_placesTogether 1 = .ok (.istore_n 1, 1) := by decide +kernel
theorem dX4_placesTogether_2 : decode cX4_placesTogether 2 = .ok (.iconst 0, 1) := by decide +kernel
theorem dX4_placesTogether_3 : decode cX4_placesTogether 3 = .ok (.istore_n 2, 1) := by decide +kernel
theorem dX4_placesTogether_4 : decode cX4_placesTogether 4 = .ok (.iload_n 2, 1) := by decide +kernel
theorem dX4_placesTogether_5 : decode cX4_placesTogether 5 = .ok (.aload_n 0, 1) := by decide +kernel
theorem dX4_placesTogether_6 : decode cX4_placesTogether 6 = .ok (.getfield 31, 3) := by decide +kernel
theorem dX4_placesTogether_9 : decode cX4_placesTogether 9 = .ok (.if_icmp .ge 21, 3) := by decide +kernel
theorem dX4_placesTogether_12 : decode cX4_placesTogether 12 = .ok (.iload_n 1, 1) := by decide +kernel
theorem dX4_placesTogether_13 : decode cX4_placesTogether 13 = .ok (.aload_n 0, 1) := by decide +kernel
theorem dX4_placesTogether_14 : decode cX4_placesTogether 14 = .ok (.getfield 11, 3) := by decide +kernel
theorem dX4_placesTogether_17 : decode cX4_placesTogether 17 = .ok (.iload_n 2, 1) := by decide +kernel
theorem dX4_placesTogether_18 : decode cX4_placesTogether 18 = .ok (.aaload, 1) := by decide +kernel
theorem dX4_placesTogether_19 : decode cX4_placesTogether 19 = .ok (.getfield 64, 3) := by decide +kernel
theorem dX4_placesTogether_22 : decode cX4_placesTogether 22 = .ok (.iadd, 1) := by decide +kernel
theorem dX4_placesTogether_23 : decode cX4_placesTogether 23 = .ok (.istore_n 1, 1) := by decide +kernel
theorem dX4_placesTogether_24 : decode cX4_placesTogether 24 = .ok (.iinc 2 1, 3) := by decide +kernel
theorem dX4_placesTogether_27 : decode cX4_placesTogether 27 = .ok (.goto (-23), 3) := by decide +kernel
theorem dX4_placesTogether_30 : decode cX4_placesTogether 30 = .ok (.iload_n 1, 1) := by decide +kernel
theorem dX4_placesTogether_31 : decode cX4_placesTogether 31 = .ok (.ireturn, 1) := by decide +kernel
set_option maxHeartbeats 4000000 in
set_option maxRecDepth 100000 in
theorem c_X4_placesTogether {l : Launch} {g : GW} {s : Nat} {σ : SeaT} (μ : Mm) (hs : s = 4 ∨ s = 13 ∨ s = 22) (hS : SeaR μ s σ) : Con l g yX4_placesTogether cX4_placesTogether 3 (some .int) 0 [.ref s] μ (fun r μ' => r = some (.int (nI (sumP (sP σ) (sN σ)))) ∧ μ' = μ) := by
  obtain ⟨hs1, hs2, hs3, hs4, hs5, hs6, hrow⟩ := seaF hs
  obtain ⟨r1, r2, r3, r4, r5, r6, r7, r8, r9⟩ := hS
  refine Con.of [.ref s, .null, .null] 2 (by decide +kernel) (Nat.le_of_ble_eq_true rfl) rfl ?_
  refine V_iconst (pc := 0) (v := 0) dX4_placesTogether_0 (by decide) ?_
  refine V_istore1 (pc := 1) dX4_placesTogether_1 (by decide) rfl ?_
  refine V_iconst (pc := 2) (v := 0) dX4_placesTogether_2 (by decide) ?_
  refine V_istore2 (pc := 3) dX4_placesTogether_3 (by decide) rfl ?_
  have loop : ∀ (n i : Nat) (acc : Int32), i ≤ sN σ → sN σ < i + n → (acc = nI (sumP (sP σ) i)) → V l g RX4 cX4_placesTogether 3 (some .int) 0 4 [.ref s, .int acc, .int (nI i)] [] μ (fun r μ' => r = some (.int (nI (sumP (sP σ) (sN σ)))) ∧ μ' = μ) := by
    intro n
    induction n with
    | zero => intro i acc h1 h2; exact absurd h2 (by omega)
    | succ n ih =>
      intro i acc hle hfu hacc
      refine V_iload_n (pc := 4) dX4_placesTogether_4 rfl rfl ?_
      refine V_aload_n (pc := 5) dX4_placesTogether_5 rfl rfl ?_
      refine V_getI (pc := 6) (ci := 4) (j := 2) dX4_placesTogether_6 fl_X4_31 (fun _ _ _ _ => rfl) (by first | decide | omega) (by first | rfl | assumption | exact (hrow _ (by omega)).2 | decide) ?_
      refine V_icmpge (pc := 9) (tgt := 30) dX4_placesTogether_9 (by decide) (fun h9 => ?_) (fun h9 => ?_)
      · rw [r1, nI_leI (by omega) (by omega)] at h9; obtain rfl : i = sN σ := by omega
        refine V_iload_n (pc := 30) dX4_placesTogether_30 rfl rfl ?_
        refine V_iret (pc := 31) dX4_placesTogether_31 rfl ?_
        exact ⟨by rw [hacc], rfl⟩
      rw [r1, nI_leI (by omega) (by omega)] at h9; have hlt : i < sN σ := (by omega); obtain ⟨z1, z2, z3, z4, -⟩ := r8 i (by omega)
      refine V_iload_n (pc := 12) dX4_placesTogether_12 rfl rfl ?_
      refine V_aload_n (pc := 13) dX4_placesTogether_13 rfl rfl ?_
      refine V_getR (pc := 14) (ci := 4) (j := 0) (k2 := (s + 1)) dX4_placesTogether_14 fl_X4_11 (fun _ _ _ _ => rfl) (by first | decide | omega) (by first | rfl | assumption | exact (hrow _ (by omega)).2 | decide) (rf_4_0 (by first | rfl | assumption | exact (hrow _ (by omega)).2 | decide)) ?_
      refine V_iload_n (pc := 17) dX4_placesTogether_17 rfl rfl ?_
      refine V_aald14 (pc := 18) (j := i) dX4_placesTogether_18 (by first | decide | omega) (by first | rfl | assumption | exact (hrow _ (by omega)).2 | decide) rfl (by omega) ?_
      refine V_getI (pc := 19) (ci := 5) (j := 1) dX4_placesTogether_19 fl_X4_64 (fun _ _ _ _ => rfl) (by first | decide | omega) (by first | rfl | assumption | exact (hrow _ (by omega)).2 | decide) ?_
      refine V_iadd (pc := 22) dX4_placesTogether_22 ?_
      refine V_istore1 (pc := 23) dX4_placesTogether_23 (by decide) rfl ?_
      refine V_iinc2 (pc := 24) (v := nI (i + 1)) dX4_placesTogether_24 (nI_1 i) (by decide) rfl ?_
      refine V_goto (pc := 27) (tgt := 4) dX4_placesTogether_27 (by decide) ?_
      exact ih (i + 1) _ (by omega) (by omega) (by rw [hacc, z3, nI_add]; rfl)
  exact loop (sN σ + 1) 0 _ (by omega) (by omega) rfl
theorem anyC_mono {σ : SeaT} {k i : Nat} : ∀ n, i < n → (sC σ i == k && sK σ i != 4) = true → anyC σ k n = true
  | 0, h, _ => absurd h (by omega)
  | n + 1, h, hq => by
    show (anyC σ k n || _) = true
    by_cases e : i = n
    · subst e; rw [hq, Bool.or_true]
    · rw [anyC_mono n (by omega) hq, Bool.true_or]
theorem dX4_isSpentToday_0 : decode cX4_isSpentToday 0 = .ok (.iconst 0, 1) := by decide +kernel
theorem dX4_isSpentToday_1 : decode cX4_isSpentToday 1 = .ok (.istore_n 2, 1) := by decide +kernel
theorem dX4_isSpentToday_2 : decode cX4_isSpentToday 2 = .ok (.iload_n 2, 1) := by decide +kernel
theorem dX4_isSpentToday_3 : decode cX4_isSpentToday 3 = .ok (.aload_n 0, 1) := by decide +kernel
theorem dX4_isSpentToday_4 : decode cX4_isSpentToday 4 = .ok (.getfield 31, 3) := by decide +kernel
theorem dX4_isSpentToday_7 : decode cX4_isSpentToday 7 = .ok (.if_icmp .ge 24, 3) := by decide +kernel
theorem dX4_isSpentToday_10 : decode cX4_isSpentToday 10 = .ok (.aload_n 0, 1) := by decide +kernel
theorem dX4_isSpentToday_11 : decode cX4_isSpentToday 11 = .ok (.getfield 11, 3) := by decide +kernel
theorem dX4_isSpentToday_14 : decode cX4_isSpentToday 14 = .ok (.iload_n 2, 1) := by decide +kernel
theorem dX4_isSpentToday_15 : decode cX4_isSpentToday 15 = .ok (.aaload, 1) := by decide +kernel
theorem dX4_isSpentToday_16 : decode cX4_isSpentToday 16 = .ok (.iload_n 1, 1) := by decide +kernel
theorem dX4_isSpentToday_17 : decode cX4_isSpentToday 17 = .ok (.invokevirtual 77, 3) := by decide +kernel
theorem dX4_isSpentToday_20 : decode cX4_isSpentToday 20 = .ok (.ifCond .eq 5, 3) := by decide +kernel
theorem dX4_isSpentToday_23 : decode cX4_isSpentToday 23 = .ok (.iconst 1, 1) := by decide +kernel
theorem dX4_isSpentToday_24 : decode cX4_isSpentToday 24 = .ok (.ireturn, 1) := by decide +kernel
theorem dX4_isSpentToday_25 : decode cX4_isSpentToday 25 = .ok (.iinc 2 1, 3) := by decide +kernel
theorem dX4_isSpentToday_28 : decode cX4_isSpentToday 28 = .ok (.goto (-26), 3) := by decide +kernel
theorem dX4_isSpentToday_31 : decode cX4_isSpentToday 31 = .ok (.iconst 0, 1) := by decide +kernel
theorem dX4_isSpentToday_32 : decode cX4_isSpentToday 32 = .ok (.ireturn, 1) := by decide +kernel
set_option maxHeartbeats 4000000 in
set_option maxRecDepth 100000 in
theorem c_X4_isSpentToday {l : Launch} {g : GW} {s k : Nat} {σ : SeaT} (μ : Mm) (hs : s = 4 ∨ s = 13 ∨ s = 22) (hS : SeaR μ s σ) (hk : k ≤ 6) : Con l g yX4_isSpentToday cX4_isSpentToday 3 (some .boolean) 1 [.ref s, .int (cI k)] μ (fun r μ' => r = some (.int (bI (anyC σ k (sN σ)))) ∧ μ' = μ) := by
  obtain ⟨hs1, hs2, hs3, hs4, hs5, hs6, hrow⟩ := seaF hs
  obtain ⟨r1, r2, r3, r4, r5, r6, r7, r8, r9⟩ := hS
  refine Con.of [.ref s, .int (cI k), .null] 1 (by decide +kernel) (Nat.le_of_ble_eq_true rfl) rfl ?_
  refine V_iconst (pc := 0) (v := 0) dX4_isSpentToday_0 (by decide) ?_
  refine V_istore2 (pc := 1) dX4_isSpentToday_1 (by decide) rfl ?_
  have loop : ∀ (n i : Nat) , i ≤ sN σ → sN σ < i + n → (anyC σ k i = false) → V l g RX4 cX4_isSpentToday 3 (some .boolean) 1 2 [.ref s, .int (cI k), .int (nI i)] [] μ (fun r μ' => r = some (.int (bI (anyC σ k (sN σ)))) ∧ μ' = μ) := by
    intro n
    induction n with
    | zero => intro i  h1 h2; exact absurd h2 (by omega)
    | succ n ih =>
      intro i  hle hfu hacc
      refine V_iload_n (pc := 2) dX4_isSpentToday_2 rfl rfl ?_
      refine V_aload_n (pc := 3) dX4_isSpentToday_3 rfl rfl ?_
      refine V_getI (pc := 4) (ci := 4) (j := 2) dX4_isSpentToday_4 fl_X4_31 (fun _ _ _ _ => rfl) (by first | decide | omega) (by first | rfl | assumption | exact (hrow _ (by omega)).2 | decide) ?_
      refine V_icmpge (pc := 7) (tgt := 31) dX4_isSpentToday_7 (by decide) (fun h7 => ?_) (fun h7 => ?_)
      · rw [r1, nI_leI (by omega) (by omega)] at h7; obtain rfl : i = sN σ := by omega
        refine V_iconst (pc := 31) (v := 0) dX4_isSpentToday_31 (by decide) ?_
        refine V_zret (pc := 32) dX4_isSpentToday_32 rfl (by first | exact Or.inl rfl | exact Or.inr rfl | assumption) ?_
        exact ⟨by rw [hacc]; rfl, rfl⟩
      rw [r1, nI_leI (by omega) (by omega)] at h7; have hlt : i < sN σ := by omega
      refine V_aload_n (pc := 10) dX4_isSpentToday_10 rfl rfl ?_
      refine V_getR (pc := 11) (ci := 4) (j := 0) (k2 := (s + 1)) dX4_isSpentToday_11 fl_X4_11 (fun _ _ _ _ => rfl) (by first | decide | omega) (by first | rfl | assumption | exact (hrow _ (by omega)).2 | decide) (rf_4_0 (by first | rfl | assumption | exact (hrow _ (by omega)).2 | decide)) ?_
      refine V_iload_n (pc := 14) dX4_isSpentToday_14 rfl rfl ?_
      refine V_aald14 (pc := 15) (j := i) dX4_isSpentToday_15 (by first | decide | omega) (by first | rfl | assumption | exact (hrow _ (by omega)).2 | decide) rfl (by omega) ?_
      refine V_iload_n (pc := 16) dX4_isSpentToday_16 rfl rfl ?_
      refine V_inv1 (pc := 17) (ci := 5) dX4_isSpentToday_17 ml_X4_77 (by first | decide | omega) (by first | rfl | assumption | exact (hrow _ (by omega)).2 | decide) ⟨by decide, rfl⟩ (by decide) (Nat.le_of_ble_eq_true rfl) (c_X5_spends μ (by omega) (hrow i (by omega)).2 (r8 i (by omega)) hk) ?_
      rintro _ μ2 ⟨rfl, hμ⟩
      obtain rfl := hμ.symm
      refine V_ifeq (pc := 20) (tgt := 25) dX4_isSpentToday_20 (by decide) (fun h20 => ?_) (fun h20 => ?_)
      · have h20 := (bI_0 _).mp h20
        refine V_iinc2 (pc := 25) (v := nI (i + 1)) dX4_isSpentToday_25 (nI_1 i) (by decide) rfl ?_
        refine V_goto (pc := 28) (tgt := 2) dX4_isSpentToday_28 (by decide) ?_
        exact ih (i + 1) (by omega) (by omega) (by show (anyC σ k i || _) = false; rw [hacc, h20]; rfl)
      have h20 : (sC σ i == k && sK σ i != 4) = true := by cases hf : (sC σ i == k && sK σ i != 4); exact absurd ((bI_0 _).mpr hf) h20; rfl
      refine V_iconst (pc := 23) (v := 1) dX4_isSpentToday_23 (by decide) ?_
      refine V_zret (pc := 24) dX4_isSpentToday_24 rfl (by first | exact Or.inl rfl | exact Or.inr rfl | assumption) ?_
      exact ⟨congrArg (fun z => some (Value.int z)) (by rw [anyC_mono (sN σ) hlt h20]; rfl), rfl⟩
  exact loop (sN σ + 1) 0 (by omega) (by omega) rfl
end
section

/-! ===== what changes a sea ===== -/
theorem nI_small {a : Nat} (h : a ≤ 6) : a < 2 ^ 31 := by omega
theorem ShR.kept {μ μ' : Mm} {z κ p c : Nat} {v t : Int32} (h : ShR μ z κ p c v t) (e : ∀ j, μ'.1 z j = μ.1 z j) : ShR μ' z κ p c v t := by
  obtain ⟨h1, h2, h3, h4, h5, h6, h7, h8⟩ := h
  exact ⟨by rw [e]; exact h1, h2, by rw [e]; exact h3, h4, by rw [e]; exact h5, h6, by rw [e]; exact h7, by rw [e]; exact h8⟩
def up1 {α : Type} (f : Nat → α) (k : Nat) (v : α) : Nat → α := fun j => if j = k then v else f j
theorem up1_eq {α : Type} {f : Nat → α} {k : Nat} {v : α} : up1 f k v k = v := if_pos rfl
theorem up1_ne {α : Type} {f : Nat → α} {k j : Nat} {v : α} (h : j ≠ k) : up1 f k v j = f j := if_neg h
def mkSea (n : Nat) (κ p c : Nat → Nat) (v t : Nat → Int32) (S : Nat) (d : Int32) (a : Nat) (g : Nat → Int32) : SeaT := (n, κ, p, c, v, t, S, d, a, g)
/-- ship i calls c -/
def wC (σ : SeaT) (i c : Nat) : SeaT := mkSea (sN σ) (sK σ) (sP σ) (up1 (sC σ) i c) (sV σ) (sT σ) (sS σ) (sD σ) (sA σ) (sG σ)
def wS (σ : SeaT) (S : Nat) : SeaT := mkSea (sN σ) (sK σ) (sP σ) (sC σ) (sV σ) (sT σ) S (sD σ) (sA σ) (sG σ)
def wN (σ : SeaT) (n : Nat) : SeaT := mkSea n (sK σ) (sP σ) (sC σ) (sV σ) (sT σ) (sS σ) (sD σ) (sA σ) (sG σ)
def wD (σ : SeaT) (d : Int32) : SeaT := mkSea (sN σ) (sK σ) (sP σ) (sC σ) (sV σ) (sT σ) (sS σ) d (sA σ) (sG σ)
def wShip (σ : SeaT) (i κ p c : Nat) (v t : Int32) : SeaT := mkSea (sN σ) (up1 (sK σ) i κ) (up1 (sP σ) i p) (up1 (sC σ) i c) (up1 (sV σ) i v) (up1 (sT σ) i t) (sS σ) (sD σ) (sA σ) (sG σ)
/-- a ship's cell has changed, no other -/
theorem SeaR.ship {μ μ' : Mm} {s i κ p c : Nat} {v t : Int32} {σ : SeaT} (h : SeaR μ s σ) (hi : i < 6) (hz : ShR μ' (s + 1 + 1 + i) κ p c v t) (hf : ∀ k, k ≠ s + 1 + 1 + i → μ'.1 k = μ.1 k) : SeaR μ' s (wShip σ i κ p c v t) := by
  obtain ⟨h1, h2, h3, h4, h5, h6, h7, h8, h9⟩ := h
  have e0 := hf s (by omega)
  refine ⟨by rw [e0]; exact h1, h2, by rw [e0]; exact h3, h4, by rw [e0]; exact h5, by rw [e0]; exact h6, h7, fun j hj => ?_, fun n hn => ?_⟩
  · by_cases e : j = i
    · subst e
      show ShR μ' _ (up1 _ j _ j) (up1 _ j _ j) (up1 _ j _ j) (up1 _ j _ j) (up1 _ j _ j)
      rw [up1_eq, up1_eq, up1_eq, up1_eq, up1_eq]
      exact hz
    · show ShR μ' _ (up1 _ i _ j) (up1 _ i _ j) (up1 _ i _ j) (up1 _ i _ j) (up1 _ i _ j)
      rw [up1_ne e, up1_ne e, up1_ne e, up1_ne e, up1_ne e]
      exact (h8 j hj).kept (fun q => by rw [hf _ (by omega)])
  · rw [hf (s + 8) (by omega)]
    exact h9 n hn
theorem wShip_C (σ : SeaT) (i c : Nat) : wShip σ i (sK σ i) (sP σ i) c (sV σ i) (sT σ i) = wC σ i c := by
  have e : ∀ {α : Type} (f : Nat → α), up1 f i (f i) = f := fun f => by funext j; unfold up1; split <;> simp_all
  unfold wShip wC
  rw [e, e, e, e]
theorem SeaR.setC {μ : Mm} {s i c : Nat} {x : Int32} {σ : SeaT} (h : SeaR μ s σ) (hi : i < 6) (hc : c ≤ 6) (hx : x = cI c) : SeaR (setI μ (s + 1 + 1 + i) 2 x) s (wC σ i c) := by
  subst hx
  rw [← wShip_C]
  obtain ⟨z1, z2, z3, z4, z5, z6, z7, z8⟩ := h.2.2.2.2.2.2.2.1 i hi
  refine h.ship hi ⟨?_, z2, ?_, z4, get_eq, hc, ?_, ?_⟩ (fun k hk => by show up2 _ _ _ _ _ = _; rw [up2_ne hk])
  · rw [get_ne (by omega)]; exact z1
  · rw [get_ne (by omega)]; exact z3
  · rw [get_ne (by omega)]; exact z7
  · rw [get_ne (by omega)]; exact z8
theorem SeaR.head {μ μ' : Mm} {s : Nat} {σ : SeaT} (h : SeaR μ s σ) (hf : ∀ k, k ≠ s → μ'.1 k = μ.1 k) {n S a : Nat} {d : Int32} (e2 : μ'.1 s 2 = nI n) (hn : n ≤ 6) (e3 : μ'.1 s 3 = nI S) (hS : S < 64) (e4 : μ'.1 s 4 = d) (e5 : μ'.1 s 5 = nI a) (ha : a ≤ 40) : SeaR μ' s (mkSea n (sK σ) (sP σ) (sC σ) (sV σ) (sT σ) S d a (sG σ)) := by
  obtain ⟨h1, h2, h3, h4, h5, h6, h7, h8, h9⟩ := h
  refine ⟨e2, hn, e3, hS, e4, e5, ha, fun j hj => (h8 j hj).kept (fun q => by rw [hf _ (by omega)]), fun n hn => ?_⟩
  rw [hf (s + 8) (by omega)]
  exact h9 n hn
theorem SeaR.setS {μ : Mm} {s S : Nat} {x : Int32} {σ : SeaT} (h : SeaR μ s σ) (hS : S < 64) (hx : x = nI S) : SeaR (setI μ s 3 x) s (wS σ S) := by
  obtain ⟨h1, h2, h3, h4, h5, h6, h7, h8, h9⟩ := id h
  exact h.head (fun k hk => by show up2 _ _ _ _ _ = _; rw [up2_ne hk]) (by rw [get_ne (by omega)]; exact h1) h2 (by rw [get_eq, hx]) hS (by rw [get_ne (by omega)]; exact h5) (by rw [get_ne (by omega)]; exact h6) h7
theorem SeaR.setN {μ : Mm} {s n : Nat} {x : Int32} {σ : SeaT} (h : SeaR μ s σ) (hn : n ≤ 6) (hx : x = nI n) : SeaR (setI μ s 2 x) s (wN σ n) := by
  obtain ⟨h1, h2, h3, h4, h5, h6, h7, h8, h9⟩ := id h
  exact h.head (fun k hk => by show up2 _ _ _ _ _ = _; rw [up2_ne hk]) (by rw [get_eq, hx]) hn (by rw [get_ne (by omega)]; exact h3) h4 (by rw [get_ne (by omega)]; exact h5) (by rw [get_ne (by omega)]; exact h6) h7
theorem SeaR.setD {μ : Mm} {s : Nat} {x : Int32} {σ : SeaT} (h : SeaR μ s σ) : SeaR (setI μ s 4 x) s (wD σ x) := by
  obtain ⟨h1, h2, h3, h4, h5, h6, h7, h8, h9⟩ := id h
  exact h.head (fun k hk => by show up2 _ _ _ _ _ = _; rw [up2_ne hk]) (by rw [get_ne (by omega)]; exact h1) h2 (by rw [get_ne (by omega)]; exact h3) h4 get_eq (by rw [get_ne (by omega)]; exact h6) h7
/-- ship i calls c (name + 1, or none), and spends it -/
def begC (σ : SeaT) (i c : Nat) : SeaT := if c ≠ 0 ∧ sK σ i ≠ 4 then wS (wC σ i c) (sS σ ||| 2 ^ (c - 1)) else wC σ i c
def repC (σ : SeaT) (i c : Nat) : SeaT :=
  let b := sC σ i
  let σ1 := wC σ i 0
  let σ2 := if b ≠ 0 ∧ anyC σ1 b (sN σ1) = false then wS σ1 (clr (sS σ1) (b - 1)) else σ1
  begC σ2 i c
end
section
theorem dX4_beginCall_0 : decode cX4_beginCall 0 = .ok (.aload_n 0, 1) := by decide +kernel
theorem dX4_beginCall_1 : decode cX4_beginCall 1 = .ok (.getfield 11, 3) := by decide +kernel
theorem dX4_beginCall_4 : decode cX4_beginCall 4 = .ok (.iload_n 1, 1) := by decide +kernel
theorem dX4_beginCall_5 : decode cX4_beginCall 5 = .ok (.aaload, 1) := by decide +kernel
theorem dX4_beginCall_6 : decode cX4_beginCall 6 = .ok (.iload_n 2, 1) := by decide +kernel
theorem dX4_beginCall_7 : decode cX4_beginCall 7 = .ok (.putfield 67, 3) := by decide +kernel
theorem dX4_beginCall_10 : decode cX4_beginCall 10 = .ok (.iload_n 2, 1) := by decide +kernel
theorem dX4_beginCall_11 : decode cX4_beginCall 11 = .ok (.iconst (-1), 1) := by decide +kernel
theorem dX4_beginCall_12 : decode cX4_beginCall 12 = .ok (.if_icmp .eq 28, 3) := by decide +kernel
theorem dX4_beginCall_15 : decode cX4_beginCall 15 = .ok (.aload_n 0, 1) := by decide +kernel
theorem dX4_beginCall_16 : decode cX4_beginCall 16 = .ok (.getfield 11, 3) := by decide +kernel
theorem dX4_beginCall_19 : decode cX4_beginCall 19 = .ok (.iload_n 1, 1) := by decide +kernel
theorem dX4_beginCall_20 : decode cX4_beginCall 20 = .ok (.aaload, 1) := by decide +kernel
theorem dX4_beginCall_21 : decode cX4_beginCall 21 = .ok (.iload_n 2, 1) := by decide +kernel
theorem dX4_beginCall_22 : decode cX4_beginCall 22 = .ok (.invokevirtual 77, 3) := by decide +kernel
theorem dX4_beginCall_25 : decode cX4_beginCall 25 = .ok (.ifCond .eq 15, 3) := by decide +kernel
theorem dX4_beginCall_28 : decode cX4_beginCall 28 = .ok (.aload_n 0, 1) := by decide +kernel
theorem dX4_beginCall_29 : decode cX4_beginCall 29 = .ok (.dup, 1) := by decide +kernel
theorem dX4_beginCall_30 : decode cX4_beginCall 30 = .ok (.getfield 35, 3) := by decide +kernel
theorem dX4_beginCall_33 : decode cX4_beginCall 33 = .ok (.iconst 1, 1) := by decide +kernel
theorem dX4_beginCall_34 : decode cX4_beginCall 34 = .ok (.iload_n 2, 1) := by decide +kernel
theorem dX4_beginCall_35 : decode cX4_beginCall 35 = .ok (.ishl, 1) := by decide +kernel
theorem dX4_beginCall_36 : decode cX4_beginCall 36 = .ok (.ior, 1) := by decide +kernel
theorem dX4_beginCall_37 : decode cX4_beginCall 37 = .ok (.putfield 35, 3) := by decide +kernel
theorem dX4_beginCall_40 : decode cX4_beginCall 40 = .ok (.return_, 1) := by decide +kernel
set_option maxHeartbeats 4000000 in
set_option maxRecDepth 100000 in
theorem c_X4_beginCall {l : Launch} {g : GW} {s i c : Nat} {σ : SeaT} (μ : Mm) (hs : s = 4 ∨ s = 13 ∨ s = 22) (hS : SeaR μ s σ) (hi : i < 6) (hc : c ≤ 6) : Con l g yX4_beginCall cX4_beginCall 3 none 1 [.ref s, .int (nI i), .int (cI c)] μ (fun r μ' => r = none ∧ SeaR μ' s (begC σ i c) ∧ FrM (seaS s) μ μ') := by
  have hS0 := hS
  obtain ⟨hs1, hs2, hs3, hs4, hs5, hs6, hrow⟩ := seaF hs
  obtain ⟨r1, r2, r3, r4, r5, r6, r7, r8, r9⟩ := hS
  refine Con.of [.ref s, .int (nI i), .int (cI c)] 0 (by decide +kernel) (Nat.le_of_ble_eq_true rfl) rfl ?_
  refine V_aload_n (pc := 0) dX4_beginCall_0 rfl rfl ?_
  refine V_getR (pc := 1) (ci := 4) (j := 0) (k2 := (s + 1)) dX4_beginCall_1 fl_X4_11 (fun _ _ _ _ => rfl) (by first | decide | omega) (by first | rfl | assumption | exact (hrow _ (by omega)).2 | decide) (rf_4_0 (by first | rfl | assumption | exact (hrow _ (by omega)).2 | decide)) ?_
  refine V_iload_n (pc := 4) dX4_beginCall_4 rfl rfl ?_
  refine V_aald14 (pc := 5) (j := i) dX4_beginCall_5 (by first | decide | omega) (by first | rfl | assumption | exact (hrow _ (by omega)).2 | decide) rfl (by omega) ?_
  refine V_iload_n (pc := 6) dX4_beginCall_6 rfl rfl ?_
  refine V_putI (pc := 7) (ci := 5) (j := 2) dX4_beginCall_7 fl_X4_67 (fun _ _ _ _ _ => rfl) rfl rfl (by first | decide | omega) (by first | rfl | assumption | exact (hrow _ (by omega)).2 | decide) ?_
  have hS1 := hS0.setC hi hc rfl
  have hF1 : FrM (seaS s) μ (setI μ (s + 1 + 1 + i) 2 (cI c)) := FrM.rf.set (Or.inr (by omega))
  generalize setI μ (s + 1 + 1 + i) 2 (cI c) = μ1 at hS1 hF1 ⊢
  refine V_iload_n (pc := 10) dX4_beginCall_10 rfl rfl ?_
  refine V_iconst (pc := 11) (v := (-1)) dX4_beginCall_11 (by decide) ?_
  refine V_icmpeq (pc := 12) (tgt := 40) dX4_beginCall_12 (by decide) (fun h12 => ?_) (fun h12 => ?_)
  · have h12 := (cI_m1 (by omega)).mp h12
    refine V_vret (pc := 40) dX4_beginCall_40 rfl ?_
    first
      | exact ⟨rfl, by rw [show begC σ i c = wC σ i c from if_neg (fun q => q.1 h12)]; exact hS1, hF1⟩
      | exact ⟨rfl, by rw [show begC σ i (n + 1) = wC σ i (n + 1) from if_neg (fun q => by rw [hcc, hκ] at h25; simp at h25; exact q.2 h25)]; exact hS1, hF1⟩
      | exact ⟨rfl, by rw [show begC σ i (n + 1) = wS (wC σ i (n + 1)) (sS σ ||| 2 ^ n) from if_pos ⟨by omega, by rw [hcc, hκ] at h25; simpa using h25⟩]; exact hS1.setS (bit_set_lt _ r4 n (by omega)) (by rw [hS1.2.2.1, cI_s]; exact bit_set _ r4 n (by omega)), hF1.set (Or.inl rfl)⟩
  have h12 := mt (cI_m1 (a := c) (by omega)).mpr h12; obtain ⟨n, rfl⟩ : ∃ n, c = n + 1 := ⟨c - 1, by omega⟩
  refine V_aload_n (pc := 15) dX4_beginCall_15 rfl rfl ?_
  refine V_getR (pc := 16) (ci := 4) (j := 0) (k2 := (s + 1)) dX4_beginCall_16 fl_X4_11 (fun _ _ _ _ => rfl) (by first | decide | omega) (by first | rfl | assumption | exact (hrow _ (by omega)).2 | decide) (rf_4_0 (by first | rfl | assumption | exact (hrow _ (by omega)).2 | decide)) ?_
  refine V_iload_n (pc := 19) dX4_beginCall_19 rfl rfl ?_
  refine V_aald14 (pc := 20) (j := i) dX4_beginCall_20 (by first | decide | omega) (by first | rfl | assumption | exact (hrow _ (by omega)).2 | decide) rfl (by omega) ?_
  refine V_iload_n (pc := 21) dX4_beginCall_21 rfl rfl ?_
  refine V_inv1 (pc := 22) (ci := 5) dX4_beginCall_22 ml_X4_77 (by first | decide | omega) (by first | rfl | assumption | exact (hrow _ (by omega)).2 | decide) ⟨by decide, rfl⟩ (by decide) (Nat.le_of_ble_eq_true rfl) (c_X5_spends μ1 (by omega) (hrow i (by omega)).2 (hS1.2.2.2.2.2.2.2.1 i hi) hc) ?_
  rintro _ μ2 ⟨rfl, hμ⟩
  obtain rfl := hμ.symm
  have hκ : sK (wC σ i (n + 1)) i = sK σ i := rfl
  have hcc : sC (wC σ i (n + 1)) i = n + 1 := up1_eq
  refine V_ifeq (pc := 25) (tgt := 40) dX4_beginCall_25 (by decide) (fun h25 => ?_) (fun h25 => ?_)
  · have h25 := (bI_0 _).mp h25
    refine V_vret (pc := 40) dX4_beginCall_40 rfl ?_
    first
      | exact ⟨rfl, by rw [show begC σ i c = wC σ i c from if_neg (fun q => q.1 h12)]; exact hS1, hF1⟩
      | exact ⟨rfl, by rw [show begC σ i (n + 1) = wC σ i (n + 1) from if_neg (fun q => by rw [hcc, hκ] at h25; simp at h25; exact q.2 h25)]; exact hS1, hF1⟩
      | exact ⟨rfl, by rw [show begC σ i (n + 1) = wS (wC σ i (n + 1)) (sS σ ||| 2 ^ n) from if_pos ⟨by omega, by rw [hcc, hκ] at h25; simpa using h25⟩]; exact hS1.setS (bit_set_lt _ r4 n (by omega)) (by rw [hS1.2.2.1, cI_s]; exact bit_set _ r4 n (by omega)), hF1.set (Or.inl rfl)⟩
  have h25 : (sC (wC σ i (n + 1)) i == n + 1 && sK (wC σ i (n + 1)) i != 4) = true := by cases hf : (sC (wC σ i (n + 1)) i == n + 1 && sK (wC σ i (n + 1)) i != 4); exact absurd ((bI_0 _).mpr hf) h25; rfl
  refine V_aload_n (pc := 28) dX4_beginCall_28 rfl rfl ?_
  refine V_dup (pc := 29) dX4_beginCall_29 rfl ?_
  refine V_getI (pc := 30) (ci := 4) (j := 3) dX4_beginCall_30 fl_X4_35 (fun _ _ _ _ => rfl) (by first | decide | omega) (by first | rfl | assumption | exact (hrow _ (by omega)).2 | decide) ?_
  refine V_iconst (pc := 33) (v := 1) dX4_beginCall_33 (by decide) ?_
  refine V_iload_n (pc := 34) dX4_beginCall_34 rfl rfl ?_
  refine V_ishl (pc := 35) dX4_beginCall_35 ?_
  refine V_ior (pc := 36) dX4_beginCall_36 ?_
  refine V_putI (pc := 37) (ci := 4) (j := 3) dX4_beginCall_37 fl_X4_35 (fun _ _ _ _ _ => rfl) rfl rfl (by first | decide | omega) (by first | rfl | assumption | exact (hrow _ (by omega)).2 | decide) ?_
  refine V_vret (pc := 40) dX4_beginCall_40 rfl ?_
  first
    | exact ⟨rfl, by rw [show begC σ i c = wC σ i c from if_neg (fun q => q.1 h12)]; exact hS1, hF1⟩
    | exact ⟨rfl, by rw [show begC σ i (n + 1) = wC σ i (n + 1) from if_neg (fun q => by rw [hcc, hκ] at h25; simp at h25; exact q.2 h25)]; exact hS1, hF1⟩
    | exact ⟨rfl, by rw [show begC σ i (n + 1) = wS (wC σ i (n + 1)) (sS σ ||| 2 ^ n) from if_pos ⟨by omega, by rw [hcc, hκ] at h25; simpa using h25⟩]; exact hS1.setS (bit_set_lt _ r4 n (by omega)) (by rw [hS1.2.2.1, cI_s]; exact bit_set _ r4 n (by omega)), hF1.set (Or.inl rfl)⟩
theorem dX4_replaceCall_0 : decode cX4_replaceCall 0 = .ok (.aload_n 0, 1) := by decide +kernel
theorem dX4_replaceCall_1 : decode cX4_replaceCall 1 = .ok (.getfield 11, 3) := by decide +kernel
theorem dX4_replaceCall_4 : decode cX4_replaceCall 4 = .ok (.iload_n 1, 1) := by decide +kernel
theorem dX4_replaceCall_5 : decode cX4_replaceCall 5 = .ok (.aaload, 1) := by decide +kernel
theorem dX4_replaceCall_6 : decode cX4_replaceCall 6 = .ok (.getfield 67, 3) := by decide +kernel
theorem dX4_replaceCall_9 : decode cX4_replaceCall 9 = .ok (.istore_n 3, 1) := by decide +kernel
theorem dX4_replaceCall_10 : decode cX4_replaceCall 10 = .ok (.aload_n 0, 1) := by decide +kernel
theorem dX4_replaceCall_11 : decode cX4_replaceCall 11 = .ok (.getfield 11, 3) := by decide +kernel
theorem dX4_replaceCall_14 : decode cX4_replaceCall 14 = .ok (.iload_n 1, 1) := by decide +kernel
theorem dX4_replaceCall_15 : decode cX4_replaceCall 15 = .ok (.aaload, 1) := by decide +kernel
theorem dX4_replaceCall_16 : decode cX4_replaceCall 16 = .ok (.iconst (-1), 1) := by decide +kernel
theorem dX4_replaceCall_17 : decode cX4_replaceCall 17 = .ok (.putfield 67, 3) := by decide +kernel
theorem dX4_replaceCall_20 : decode cX4_replaceCall 20 = .ok (.iload_n 3, 1) := by decide +kernel
theorem dX4_replaceCall_21 : decode cX4_replaceCall 21 = .ok (.iconst (-1), 1) := by decide +kernel
theorem dX4_replaceCall_22 : decode cX4_replaceCall 22 = .ok (.if_icmp .eq 25, 3) := by decide +kernel
theorem dX4_replaceCall_25 : decode cX4_replaceCall 25 = .ok (.aload_n 0, 1) := by decide +kernel
theorem dX4_replaceCall_26 : decode cX4_replaceCall 26 = .ok (.iload_n 3, 1) := by decide +kernel
theorem dX4_replaceCall_27 : decode cX4_replaceCall 27 = .ok (.invokevirtual 70, 3) := by decide +kernel
theorem dX4_replaceCall_30 : decode cX4_replaceCall 30 = .ok (.ifCond .ne 17, 3) := by decide +kernel
theorem dX4_replaceCall_33 : decode cX4_replaceCall 33 = .ok (.aload_n 0, 1) := by decide +kernel
theorem dX4_replaceCall_34 : decode cX4_replaceCall 34 = .ok (.dup, 1) := by decide +kernel
theorem dX4_replaceCall_35 : decode cX4_replaceCall 35 = .ok (.getfield 35, 3) := by decide +kernel
theorem dX4_replaceCall_38 : decode cX4_replaceCall 38 = .ok (.iconst 1, 1) := by decide +kernel
theorem dX4_replaceCall_39 : decode cX4_replaceCall 39 = .ok (.iload_n 3, 1) := by decide +kernel
theorem dX4_replaceCall_40 : decode cX4_replaceCall 40 = .ok (.ishl, 1) := by decide +kernel
theorem dX4_replaceCall_41 : decode cX4_replaceCall 41 = .ok (.iconst (-1), 1) := by decide +kernel
theorem dX4_replaceCall_42 : decode cX4_replaceCall 42 = .ok (.ixor, 1) := by decide +kernel
theorem dX4_replaceCall_43 : decode cX4_replaceCall 43 = .ok (.iand, 1) := by decide +kernel
theorem dX4_replaceCall_44 : decode cX4_replaceCall 44 = .ok (.putfield 35, 3) := by decide +kernel
theorem dX4_replaceCall_47 : decode cX4_replaceCall 47 = .ok (.aload_n 0, 1) := by decide +kernel
theorem dX4_replaceCall_48 : decode cX4_replaceCall 48 = .ok (.iload_n 1, 1) := by decide +kernel
theorem dX4_replaceCall_49 : decode cX4_replaceCall 49 = .ok (.iload_n 2, 1) := by decide +kernel
theorem dX4_replaceCall_50 : decode cX4_replaceCall 50 = .ok (.invokevirtual 74, 3) := by decide +kernel
theorem dX4_replaceCall_53 : decode cX4_replaceCall 53 = .ok (.iload_n 3, 1) := by decide +kernel
theorem dX4_replaceCall_54 : decode cX4_replaceCall 54 = .ok (.ireturn, 1) := by decide +kernel
set_option maxHeartbeats 4000000 in
set_option maxRecDepth 100000 in
theorem c_X4_replaceCall {l : Launch} {g : GW} {s i c : Nat} {σ : SeaT} (μ : Mm) (hs : s = 4 ∨ s = 13 ∨ s = 22) (hS : SeaR μ s σ) (hi : i < 6) (hc : c ≤ 6) : Con l g yX4_replaceCall cX4_replaceCall 4 (some .int) 2 [.ref s, .int (nI i), .int (cI c)] μ (fun r μ' => r = some (.int (cI (sC σ i))) ∧ SeaR μ' s (repC σ i c) ∧ FrM (seaS s) μ μ') := by
  have hS0 := hS
  obtain ⟨hs1, hs2, hs3, hs4, hs5, hs6, hrow⟩ := seaF hs
  obtain ⟨r1, r2, r3, r4, r5, r6, r7, r8, r9⟩ := hS
  refine Con.of [.ref s, .int (nI i), .int (cI c), .null] 1 (by decide +kernel) (Nat.le_of_ble_eq_true rfl) rfl ?_
  refine V_aload_n (pc := 0) dX4_replaceCall_0 rfl rfl ?_
  refine V_getR (pc := 1) (ci := 4) (j := 0) (k2 := (s + 1)) dX4_replaceCall_1 fl_X4_11 (fun _ _ _ _ => rfl) (by first | decide | omega) (by first | rfl | assumption | exact (hrow _ (by omega)).2 | decide) (rf_4_0 (by first | rfl | assumption | exact (hrow _ (by omega)).2 | decide)) ?_
  refine V_iload_n (pc := 4) dX4_replaceCall_4 rfl rfl ?_
  refine V_aald14 (pc := 5) (j := i) dX4_replaceCall_5 (by first | decide | omega) (by first | rfl | assumption | exact (hrow _ (by omega)).2 | decide) rfl (by omega) ?_
  refine V_getI (pc := 6) (ci := 5) (j := 2) dX4_replaceCall_6 fl_X4_67 (fun _ _ _ _ => rfl) (by first | decide | omega) (by first | rfl | assumption | exact (hrow _ (by omega)).2 | decide) ?_
  refine V_istore3 (pc := 9) dX4_replaceCall_9 (by decide) rfl ?_
  refine V_aload_n (pc := 10) dX4_replaceCall_10 rfl rfl ?_
  refine V_getR (pc := 11) (ci := 4) (j := 0) (k2 := (s + 1)) dX4_replaceCall_11 fl_X4_11 (fun _ _ _ _ => rfl) (by first | decide | omega) (by first | rfl | assumption | exact (hrow _ (by omega)).2 | decide) (rf_4_0 (by first | rfl | assumption | exact (hrow _ (by omega)).2 | decide)) ?_
  refine V_iload_n (pc := 14) dX4_replaceCall_14 rfl rfl ?_
  refine V_aald14 (pc := 15) (j := i) dX4_replaceCall_15 (by first | decide | omega) (by first | rfl | assumption | exact (hrow _ (by omega)).2 | decide) rfl (by omega) ?_
  refine V_iconst (pc := 16) (v := (-1)) dX4_replaceCall_16 (by decide) ?_
  refine V_putI (pc := 17) (ci := 5) (j := 2) dX4_replaceCall_17 fl_X4_67 (fun _ _ _ _ _ => rfl) rfl rfl (by first | decide | omega) (by first | rfl | assumption | exact (hrow _ (by omega)).2 | decide) ?_
  have hS1 := hS0.setC (c := 0) (x := -1) hi (by omega) cI_0.symm
  have hF1 : FrM (seaS s) μ (setI μ (s + 1 + 1 + i) 2 (-1)) := FrM.rf.set (Or.inr (by omega))
  obtain ⟨z1, z2, z3, z4, z5, z6, z7, z8⟩ := r8 i hi
  rw [z5]
  generalize setI μ (s + 1 + 1 + i) 2 (-1) = μ1 at hS1 hF1 ⊢
  have J : ∀ μ2, SeaR μ2 s (if sC σ i ≠ 0 ∧ anyC (wC σ i 0) (sC σ i) (sN (wC σ i 0)) = false then wS (wC σ i 0) (clr (sS (wC σ i 0)) (sC σ i - 1)) else wC σ i 0) → FrM (seaS s) μ μ2 → V l g RX4 cX4_replaceCall 4 (some .int) 2 47 [.ref s, .int (nI i), .int (cI c), .int (cI (sC σ i))] [] μ2 (fun r μ' => r = some (.int (cI (sC σ i))) ∧ SeaR μ' s (repC σ i c) ∧ FrM (seaS s) μ μ') := by
    intro μ2 hx hF2
    refine V_aload_n (pc := 47) dX4_replaceCall_47 rfl rfl ?_
    refine V_iload_n (pc := 48) dX4_replaceCall_48 rfl rfl ?_
    refine V_iload_n (pc := 49) dX4_replaceCall_49 rfl rfl ?_
    refine V_inv2 (pc := 50) (ci := 4) dX4_replaceCall_50 ml_X4_74 (by first | decide | omega) (by first | rfl | assumption | exact (hrow _ (by omega)).2 | decide) ⟨by decide, rfl⟩ (by decide) (Nat.le_of_ble_eq_true rfl) (c_X4_beginCall μ2 hs hx hi hc) ?_
    rintro _ μ3 ⟨rfl, hS3, hF3⟩
    refine V_iload_n (pc := 53) dX4_replaceCall_53 rfl rfl ?_
    refine V_iret (pc := 54) dX4_replaceCall_54 rfl ?_
    exact ⟨rfl, hS3, hF2.tr hF3 (fun _ q => q)⟩
  refine V_iload_n (pc := 20) dX4_replaceCall_20 rfl rfl ?_
  refine V_iconst (pc := 21) (v := (-1)) dX4_replaceCall_21 (by decide) ?_
  refine V_icmpeq (pc := 22) (tgt := 47) dX4_replaceCall_22 (by decide) (fun h22 => ?_) (fun h22 => ?_)
  · have h22 := (cI_m1 (by omega)).mp h22; exact J _ (by rw [if_neg (fun q => q.1 h22)]; exact hS1) hF1
  have h22 := mt (cI_m1 (a := sC σ i) (by omega)).mpr h22
  refine V_aload_n (pc := 25) dX4_replaceCall_25 rfl rfl ?_
  refine V_iload_n (pc := 26) dX4_replaceCall_26 rfl rfl ?_
  refine V_inv1 (pc := 27) (ci := 4) dX4_replaceCall_27 ml_X4_70 (by first | decide | omega) (by first | rfl | assumption | exact (hrow _ (by omega)).2 | decide) ⟨by decide, rfl⟩ (by decide) (Nat.le_of_ble_eq_true rfl) (c_X4_isSpentToday μ1 hs hS1 z6) ?_
  rintro _ μ2 ⟨rfl, hμ⟩
  obtain rfl := hμ.symm
  refine V_ifne (pc := 30) (tgt := 47) dX4_replaceCall_30 (by decide) (fun h30 => ?_) (fun h30 => ?_)
  · have h30 : anyC (wC σ i 0) (sC σ i) (sN (wC σ i 0)) = true := (by cases hf : anyC (wC σ i 0) (sC σ i) (sN (wC σ i 0)); exact absurd ((bI_0 _).mpr hf) h30; rfl); exact J _ (by rw [if_neg (fun q => by rw [h30] at q; exact absurd q.2 (by decide))]; exact hS1) hF1
  have h30 := (bI_0 _).mp h30
  refine V_aload_n (pc := 33) dX4_replaceCall_33 rfl rfl ?_
  refine V_dup (pc := 34) dX4_replaceCall_34 rfl ?_
  refine V_getI (pc := 35) (ci := 4) (j := 3) dX4_replaceCall_35 fl_X4_35 (fun _ _ _ _ => rfl) (by first | decide | omega) (by first | rfl | assumption | exact (hrow _ (by omega)).2 | decide) ?_
  refine V_iconst (pc := 38) (v := 1) dX4_replaceCall_38 (by decide) ?_
  refine V_iload_n (pc := 39) dX4_replaceCall_39 rfl rfl ?_
  refine V_ishl (pc := 40) dX4_replaceCall_40 ?_
  refine V_iconst (pc := 41) (v := (-1)) dX4_replaceCall_41 (by decide) ?_
  refine V_ixor (pc := 42) dX4_replaceCall_42 ?_
  refine V_iand (pc := 43) dX4_replaceCall_43 ?_
  refine V_putI (pc := 44) (ci := 4) (j := 3) dX4_replaceCall_44 fl_X4_35 (fun _ _ _ _ _ => rfl) rfl rfl (by first | decide | omega) (by first | rfl | assumption | exact (hrow _ (by omega)).2 | decide) ?_
  exact J _ (by rw [if_pos ⟨h22, h30⟩]; exact hS1.setS (clr_lt _ r4 (sC σ i - 1) (by omega)) (by rw [hS1.2.2.1, show cI (sC σ i) = nI (sC σ i - 1) from by rw [← cI_s, Nat.sub_add_cancel (by omega)]]; exact bit_clr _ r4 _ (by omega))) (hF1.set (Or.inl rfl))
end
section

/-! ===== a wake ===== -/
def WkR (μ : Mm) (bg : Bool) (κ n : Nat) (pl : Nat → Nat) : Prop := μ.1 31 1 = bI bg ∧ μ.1 31 2 = nI κ ∧ κ ≤ 4 ∧ μ.1 31 3 = nI n ∧ n ≤ 6 ∧ ∀ j, j < 7 → μ.1 32 j = nI (pl j) ∧ pl j ≤ 9
theorem WkR.kept {S : Nat → Prop} {μ μ' : Mm} {bg : Bool} {κ n : Nat} {pl : Nat → Nat} (h : WkR μ bg κ n pl) (hf : FrM S μ μ') (h1 : ¬ S 31) (h2 : ¬ S 32) : WkR μ' bg κ n pl := by
  unfold WkR
  rw [hf.1 31 h1, hf.1 32 h2]
  exact h
def wbT (tn : Nat → Nat → Nat) (ow : Nat → Nat) (κ : Nat) (pl : Nat → Nat) (d k : Nat) : Nat → Nat
  | 0 => 0
  | w + 1 => wbT tn ow κ pl d k w + if 0 < sumT tn w 3 ∧ aft ow κ (pl d) k w = pl (d + 1) then 1 else 0
def wdT (tn : Nat → Nat → Nat) (ow : Nat → Nat) (κ : Nat) (pl : Nat → Nat) (d k : Nat) : Nat := if pl d = 9 ∧ k ≠ 0 then 0 else wbT tn ow κ pl d k 5
def dsT (tn : Nat → Nat → Nat) (ow : Nat → Nat) (κ : Nat) (pl : Nat → Nat) (d : Nat) : Nat → Nat
  | 0 => 0
  | k + 1 => dsT tn ow κ pl d k + wdT tn ow κ pl d k
def wyT (tn : Nat → Nat → Nat) (ow : Nat → Nat) (κ : Nat) (pl : Nat → Nat) : Nat → Nat
  | 0 => 1
  | d + 1 => wyT tn ow κ pl d * dsT tn ow κ pl d 7
/-- by: the call's code (name + 1) and how many -/
def onT (tn : Nat → Nat → Nat) (ow : Nat → Nat) (κ : Nat) (pl : Nat → Nat) (d : Nat) : Nat → Nat × Nat
  | 0 => (7, 0)
  | k + 1 => let q := onT tn ow κ pl d k; if 0 < wdT tn ow κ pl d k then (k, q.2 + 1) else q
def byT (tn : Nat → Nat → Nat) (ow : Nat → Nat) (κ : Nat) (pl : Nat → Nat) (n d : Nat) : Nat := if wyT tn ow κ pl n = 0 then 7 else if (onT tn ow κ pl d 7).2 = 1 then (onT tn ow κ pl d 7).1 else 7
theorem wbT_le {tn : Nat → Nat → Nat} {ow : Nat → Nat} {κ : Nat} {pl : Nat → Nat} {d k : Nat} : ∀ n, wbT tn ow κ pl d k n ≤ n
  | 0 => Nat.le_refl _
  | n + 1 => by
    have h1 := wbT_le (tn := tn) (ow := ow) (κ := κ) (pl := pl) (d := d) (k := k) n
    show _ + _ ≤ _
    split <;> omega
theorem wdT_le {tn : Nat → Nat → Nat} {ow : Nat → Nat} {κ : Nat} {pl : Nat → Nat} {d k : Nat} : wdT tn ow κ pl d k ≤ 5 := by
  unfold wdT
  split
  · exact Nat.zero_le _
  · exact wbT_le 5
theorem dsT_le {tn : Nat → Nat → Nat} {ow : Nat → Nat} {κ : Nat} {pl : Nat → Nat} {d : Nat} : ∀ n, dsT tn ow κ pl d n ≤ 5 * n
  | 0 => Nat.le_refl _
  | n + 1 => by
    have h1 := dsT_le (tn := tn) (ow := ow) (κ := κ) (pl := pl) (d := d) n
    have h2 := wdT_le (tn := tn) (ow := ow) (κ := κ) (pl := pl) (d := d) (k := n)
    show _ + _ ≤ _
    omega
theorem wyT_le {tn : Nat → Nat → Nat} {ow : Nat → Nat} {κ : Nat} {pl : Nat → Nat} : ∀ n, wyT tn ow κ pl n ≤ 35 ^ n
  | 0 => Nat.le_refl _
  | n + 1 => by
    have h1 := wyT_le (tn := tn) (ow := ow) (κ := κ) (pl := pl) n
    have h2 := dsT_le (tn := tn) (ow := ow) (κ := κ) (pl := pl) (d := n) 7
    show _ * _ ≤ _
    rw [Nat.pow_succ]
    exact Nat.mul_le_mul h1 h2
theorem wyT_lt {tn : Nat → Nat → Nat} {ow : Nat → Nat} {κ : Nat} {pl : Nat → Nat} {n : Nat} (h : n ≤ 6) : wyT tn ow κ pl n < 2 ^ 31 := by
  have h1 := wyT_le (tn := tn) (ow := ow) (κ := κ) (pl := pl) n
  have h2 : 35 ^ n ≤ 35 ^ 6 := Nat.pow_le_pow_right (by decide) h
  have h3 : (35 : Nat) ^ 6 < 2 ^ 31 := by decide
  omega
theorem onT_le {tn : Nat → Nat → Nat} {ow : Nat → Nat} {κ : Nat} {pl : Nat → Nat} {d : Nat} : ∀ n, n ≤ 7 → (onT tn ow κ pl d n).1 ≤ 7 ∧ (onT tn ow κ pl d n).2 ≤ n
  | 0, _ => ⟨Nat.le_refl _, Nat.le_refl _⟩
  | n + 1, hn => by
    have h1 := onT_le (tn := tn) (ow := ow) (κ := κ) (pl := pl) (d := d) n (by omega)
    show (let q := onT tn ow κ pl d n; if 0 < wdT tn ow κ pl d n then (n, q.2 + 1) else q).1 ≤ 7 ∧ (let q := onT tn ow κ pl d n; if 0 < wdT tn ow κ pl d n then (n, q.2 + 1) else q).2 ≤ n + 1
    simp only
    split
    · exact ⟨by show n ≤ 7; omega, by show _ + 1 ≤ n + 1; omega⟩
    · exact ⟨h1.1, by omega⟩
theorem aft_le {ow : Nat → Nat} {κ p k w : Nat} (hp : p ≤ 9) : aft ow κ p k w ≤ 9 := by
  unfold aft ahd bhd
  split
  · exact hp
  · split
    · exact Nat.min_le_left _ _
    · split <;> omega
end
section
theorem dX6_begin_0 : decode cX6_begin 0 = .ok (.aload_n 0, 1) := by decide +kernel
theorem dX6_begin_1 : decode cX6_begin 1 = .ok (.iconst 1, 1) := by decide +kernel
theorem dX6_begin_2 : decode cX6_begin 2 = .ok (.putfield 15, 3) := by decide +kernel
theorem dX6_begin_5 : decode cX6_begin 5 = .ok (.aload_n 0, 1) := by decide +kernel
theorem dX6_begin_6 : decode cX6_begin 6 = .ok (.iload_n 1, 1) := by decide +kernel
theorem dX6_begin_7 : decode cX6_begin 7 = .ok (.putfield 19, 3) := by decide +kernel
theorem dX6_begin_10 : decode cX6_begin 10 = .ok (.aload_n 0, 1) := by decide +kernel
theorem dX6_begin_11 : decode cX6_begin 11 = .ok (.getfield 9, 3) := by decide +kernel
theorem dX6_begin_14 : decode cX6_begin 14 = .ok (.iconst 0, 1) := by decide +kernel
theorem dX6_begin_15 : decode cX6_begin 15 = .ok (.iload_n 2, 1) := by decide +kernel
theorem dX6_begin_16 : decode cX6_begin 16 = .ok (.iastore, 1) := by decide +kernel
theorem dX6_begin_17 : decode cX6_begin 17 = .ok (.aload_n 0, 1) := by decide +kernel
theorem dX6_begin_18 : decode cX6_begin 18 = .ok (.iconst 0, 1) := by decide +kernel
theorem dX6_begin_19 : decode cX6_begin 19 = .ok (.putfield 23, 3) := by decide +kernel
theorem dX6_begin_22 : decode cX6_begin 22 = .ok (.return_, 1) := by decide +kernel
set_option maxHeartbeats 4000000 in
set_option maxRecDepth 100000 in
theorem c_X6_begin {l : Launch} {g : GW} {κ p : Nat} {bg : Bool} {κ0 n : Nat} {pl : Nat → Nat} (μ : Mm) (hW : WkR μ bg κ0 n pl) (hκ : κ ≤ 4) (hp : p ≤ 9) : Con l g yX6_begin cX6_begin 3 none 0 [.ref 31, .int (nI κ), .int (nI p)] μ (fun r μ' => r = none ∧ WkR μ' true κ 0 (up1 pl 0 p) ∧ FrM (fun k => k = 31 ∨ k = 32) μ μ') := by
  obtain ⟨w1, w2, w3, w4, w5, w6⟩ := id hW
  refine Con.of [.ref 31, .int (nI κ), .int (nI p)] 0 (by decide +kernel) (Nat.le_of_ble_eq_true rfl) rfl ?_
  refine V_aload_n (pc := 0) dX6_begin_0 rfl rfl ?_
  refine V_iconst (pc := 1) (v := 1) dX6_begin_1 (by decide) ?_
  refine V_putZ (pc := 2) (ci := 6) (j := 1) dX6_begin_2 fl_X6_15 (fun _ _ _ _ _ => rfl) rfl rfl (by decide) rfl (by first | exact Or.inl rfl | exact Or.inr rfl | assumption) ?_
  refine V_aload_n (pc := 5) dX6_begin_5 rfl rfl ?_
  refine V_iload_n (pc := 6) dX6_begin_6 rfl rfl ?_
  refine V_putI (pc := 7) (ci := 6) (j := 2) dX6_begin_7 fl_X6_19 (fun _ _ _ _ _ => rfl) rfl rfl (by decide) rfl ?_
  refine V_aload_n (pc := 10) dX6_begin_10 rfl rfl ?_
  refine V_getR (pc := 11) (ci := 6) (j := 0) (k2 := 32) dX6_begin_11 fl_X6_9 (fun _ _ _ _ => rfl) (by decide) rfl (rf_6_0 rfl) ?_
  refine V_iconst (pc := 14) (v := 0) dX6_begin_14 (by decide) ?_
  refine V_iload_n (pc := 15) dX6_begin_15 rfl rfl ?_
  refine V_iast (pc := 16) (j := 0) dX6_begin_16 (by decide) rfl rfl (by decide) ?_
  refine V_aload_n (pc := 17) dX6_begin_17 rfl rfl ?_
  refine V_iconst (pc := 18) (v := 0) dX6_begin_18 (by decide) ?_
  refine V_putI (pc := 19) (ci := 6) (j := 3) dX6_begin_19 fl_X6_23 (fun _ _ _ _ _ => rfl) rfl rfl (by decide) rfl ?_
  refine V_vret (pc := 22) dX6_begin_22 rfl ?_
  refine ⟨rfl, ⟨?_, ?_, hκ, get_eq, by omega, fun j hj => ?_⟩, (((FrM.rf.set (Or.inl rfl)).set (Or.inl rfl)).set (Or.inr rfl)).set (Or.inl rfl)⟩
  · rw [get_ne (by omega), get_ne (by omega), get_ne (by omega), get_eq]; rfl
  · rw [get_ne (by omega), get_ne (by omega), get_eq]
  · by_cases e : j = 0
    · subst e
      rw [get_ne (by omega), get_eq, up1_eq]
      exact ⟨rfl, hp⟩
    · rw [get_ne (by omega), get_ne (by omega), get_ne (by omega), get_ne (by omega), up1_ne e]
      exact w6 j hj
theorem dX6_end_0 : decode cX6_end 0 = .ok (.aload_n 0, 1) := by decide +kernel
theorem dX6_end_1 : decode cX6_end 1 = .ok (.iconst 0, 1) := by decide +kernel
theorem dX6_end_2 : decode cX6_end 2 = .ok (.putfield 15, 3) := by decide +kernel
theorem dX6_end_5 : decode cX6_end 5 = .ok (.aload_n 0, 1) := by decide +kernel
theorem dX6_end_6 : decode cX6_end 6 = .ok (.iconst 0, 1) := by decide +kernel
theorem dX6_end_7 : decode cX6_end 7 = .ok (.putfield 23, 3) := by decide +kernel
theorem dX6_end_10 : decode cX6_end 10 = .ok (.return_, 1) := by decide +kernel
set_option maxHeartbeats 4000000 in
set_option maxRecDepth 100000 in
theorem c_X6_end {l : Launch} {g : GW} {bg : Bool} {κ n : Nat} {pl : Nat → Nat} (μ : Mm) (hW : WkR μ bg κ n pl) : Con l g yX6_end cX6_end 1 none 0 [.ref 31] μ (fun r μ' => r = none ∧ WkR μ' false κ 0 pl ∧ FrM (fun k => k = 31) μ μ') := by
  obtain ⟨w1, w2, w3, w4, w5, w6⟩ := id hW
  refine Con.of [.ref 31] 0 (by decide +kernel) (Nat.le_of_ble_eq_true rfl) rfl ?_
  refine V_aload_n (pc := 0) dX6_end_0 rfl rfl ?_
  refine V_iconst (pc := 1) (v := 0) dX6_end_1 (by decide) ?_
  refine V_putZ (pc := 2) (ci := 6) (j := 1) dX6_end_2 fl_X6_15 (fun _ _ _ _ _ => rfl) rfl rfl (by decide) rfl (by first | exact Or.inl rfl | exact Or.inr rfl | assumption) ?_
  refine V_aload_n (pc := 5) dX6_end_5 rfl rfl ?_
  refine V_iconst (pc := 6) (v := 0) dX6_end_6 (by decide) ?_
  refine V_putI (pc := 7) (ci := 6) (j := 3) dX6_end_7 fl_X6_23 (fun _ _ _ _ _ => rfl) rfl rfl (by decide) rfl ?_
  refine V_vret (pc := 10) dX6_end_10 rfl ?_
  refine ⟨rfl, ⟨?_, ?_, w3, get_eq, by omega, fun j hj => ?_⟩, ((FrM.rf (S := fun k => k = 31)).set rfl).set rfl⟩
  · rw [get_ne (by omega), get_eq]; rfl
  · rw [get_ne (by omega), get_ne (by omega)]; exact w2
  · rw [get_ne (by omega), get_ne (by omega)]; exact w6 j hj
theorem dX6_add_0 : decode cX6_add 0 = .ok (.aload_n 0, 1) := by decide +kernel
theorem dX6_add_1 : decode cX6_add 1 = .ok (.getfield 23, 3) := by decide +kernel
theorem dX6_add_4 : decode cX6_add 4 = .ok (.bipush 6, 2) := by decide +kernel
theorem dX6_add_6 : decode cX6_add 6 = .ok (.if_icmp .lt 6, 3) := by decide +kernel
theorem dX6_add_9 : decode cX6_add 9 = .ok (.bipush (-104), 2) := by decide +kernel
theorem dX6_add_11 : decode cX6_add 11 = .ok (.ireturn, 1) := by decide +kernel
theorem dX6_add_12 : decode cX6_add 12 = .ok (.aload_n 0, 1) := by decide +kernel
theorem dX6_add_13 : decode cX6_add 13 = .ok (.dup, 1) := by decide +kernel
theorem dX6_add_14 : decode cX6_add 14 = .ok (.getfield 23, 3) := by decide +kernel
theorem dX6_add_17 : decode cX6_add 17 = .ok (.iconst 1, 1) := by decide +kernel
theorem dX6_add_18 : decode cX6_add 18 = .ok (.iadd, 1) := by decide +kernel
theorem dX6_add_19 : decode cX6_add 19 = .ok (.putfield 23, 3) := by decide +kernel
theorem dX6_add_22 : decode cX6_add 22 = .ok (.aload_n 0, 1) := by decide +kernel
theorem dX6_add_23 : decode cX6_add 23 = .ok (.getfield 9, 3) := by decide +kernel
theorem dX6_add_26 : decode cX6_add 26 = .ok (.aload_n 0, 1) := by decide +kernel
theorem dX6_add_27 : decode cX6_add 27 = .ok (.getfield 23, 3) := by decide +kernel
theorem dX6_add_30 : decode cX6_add 30 = .ok (.iload_n 1, 1) := by decide +kernel
theorem dX6_add_31 : decode cX6_add 31 = .ok (.iastore, 1) := by decide +kernel
theorem dX6_add_32 : decode cX6_add 32 = .ok (.aload_n 0, 1) := by decide +kernel
theorem dX6_add_33 : decode cX6_add 33 = .ok (.getfield 23, 3) := by decide +kernel
theorem dX6_add_36 : decode cX6_add 36 = .ok (.ireturn, 1) := by decide +kernel
set_option maxHeartbeats 4000000 in
set_option maxRecDepth 100000 in
theorem c_X6_add {l : Launch} {g : GW} {bg : Bool} {κ n : Nat} {pl : Nat → Nat} {p : Nat} (μ : Mm) (hW : WkR μ bg κ n pl) (hp : p ≤ 9) : Con l g yX6_add cX6_add 2 (some .int) 0 [.ref 31, .int (nI p)] μ (fun r μ' => if n = 6 then r = some (.int (-104)) ∧ μ' = μ else r = some (.int (nI (n + 1))) ∧ WkR μ' bg κ (n + 1) (up1 pl (n + 1) p) ∧ FrM (fun k => k = 31 ∨ k = 32) μ μ') := by
  obtain ⟨w1, w2, w3, w4, w5, w6⟩ := id hW
  refine Con.of [.ref 31, .int (nI p)] 0 (by decide +kernel) (Nat.le_of_ble_eq_true rfl) rfl ?_
  refine V_aload_n (pc := 0) dX6_add_0 rfl rfl ?_
  refine V_getI (pc := 1) (ci := 6) (j := 3) dX6_add_1 fl_X6_23 (fun _ _ _ _ => rfl) (by decide) rfl ?_
  refine V_bipush (pc := 4) (v := 6) dX6_add_4 (by decide) ?_
  refine V_icmplt (pc := 6) (tgt := 12) dX6_add_6 (by decide) (fun h6 => ?_) (fun h6 => ?_)
  · rw [w4] at h6; have h6 := (nI_ltI (a := n) (b := 6) (by omega) (by decide)).mp h6
    refine V_aload_n (pc := 12) dX6_add_12 rfl rfl ?_
    refine V_dup (pc := 13) dX6_add_13 rfl ?_
    refine V_getI (pc := 14) (ci := 6) (j := 3) dX6_add_14 fl_X6_23 (fun _ _ _ _ => rfl) (by decide) rfl ?_
    refine V_iconst (pc := 17) (v := 1) dX6_add_17 (by decide) ?_
    refine V_iadd (pc := 18) dX6_add_18 ?_
    refine V_putI (pc := 19) (ci := 6) (j := 3) dX6_add_19 fl_X6_23 (fun _ _ _ _ _ => rfl) rfl rfl (by decide) rfl ?_
    refine V_aload_n (pc := 22) dX6_add_22 rfl rfl ?_
    refine V_getR (pc := 23) (ci := 6) (j := 0) (k2 := 32) dX6_add_23 fl_X6_9 (fun _ _ _ _ => rfl) (by decide) rfl (rf_6_0 rfl) ?_
    refine V_aload_n (pc := 26) dX6_add_26 rfl rfl ?_
    refine V_getI (pc := 27) (ci := 6) (j := 3) dX6_add_27 fl_X6_23 (fun _ _ _ _ => rfl) (by decide) rfl ?_
    refine V_iload_n (pc := 30) dX6_add_30 rfl rfl ?_
    refine V_iast (pc := 31) (j := (n + 1)) dX6_add_31 (by decide) rfl (by rw [get_eq, w4]; exact nI_1 n) (by show n + 1 < 7; omega) ?_
    refine V_aload_n (pc := 32) dX6_add_32 rfl rfl ?_
    refine V_getI (pc := 33) (ci := 6) (j := 3) dX6_add_33 fl_X6_23 (fun _ _ _ _ => rfl) (by decide) rfl ?_
    refine V_iret (pc := 36) dX6_add_36 rfl ?_
    rw [if_neg (by omega)]
    have e : μ.1 31 3 + 1 = nI (n + 1) := by rw [w4]; exact nI_1 n
    refine ⟨by rw [get_ne (by omega), get_eq, e], ⟨?_, ?_, w3, ?_, by omega, fun j hj => ?_⟩, (FrM.rf.set (Or.inl rfl)).set (Or.inr rfl)⟩
    · rw [get_ne (by omega), get_ne (by omega)]; exact w1
    · rw [get_ne (by omega), get_ne (by omega)]; exact w2
    · rw [get_ne (by omega), get_eq, e]
    · by_cases ej : j = n + 1
      · subst ej
        rw [get_eq, up1_eq]
        exact ⟨rfl, hp⟩
      · rw [get_ne (by omega), get_ne (by omega), up1_ne ej]
        exact w6 j hj
  rw [w4] at h6; have h6 := mt (nI_ltI (a := n) (b := 6) (by omega) (by decide)).mpr h6
  refine V_bipush (pc := 9) (v := (-104)) dX6_add_9 (by decide) ?_
  refine V_iret (pc := 11) dX6_add_11 rfl ?_
  rw [if_pos (by omega)]
  exact ⟨rfl, rfl⟩
theorem dX6_waysBy_0 : decode cX6_waysBy 0 = .ok (.aload_n 0, 1) := by decide +kernel
theorem dX6_waysBy_1 : decode cX6_waysBy 1 = .ok (.getfield 9, 3) := by decide +kernel
theorem dX6_waysBy_4 : decode cX6_waysBy 4 = .ok (.iload_n 2, 1) := by decide +kernel
theorem dX6_waysBy_5 : decode cX6_waysBy 5 = .ok (.iaload, 1) := by decide +kernel
theorem dX6_waysBy_6 : decode cX6_waysBy 6 = .ok (.istore 4, 2) := by decide +kernel
theorem dX6_waysBy_8 : decode cX6_waysBy 8 = .ok (.iload 4, 2) := by decide +kernel
theorem dX6_waysBy_10 : decode cX6_waysBy 10 = .ok (.bipush 9, 2) := by decide +kernel
theorem dX6_waysBy_12 : decode cX6_waysBy 12 = .ok (.if_icmp .ne 10, 3) := by decide +kernel
theorem dX6_waysBy_15 : decode cX6_waysBy 15 = .ok (.iload_n 3, 1) := by decide +kernel
theorem dX6_waysBy_16 : decode cX6_waysBy 16 = .ok (.iconst (-1), 1) := by decide +kernel
theorem dX6_waysBy_17 : decode cX6_waysBy 17 = .ok (.if_icmp .eq 5, 3) := by decide +kernel
theorem dX6_waysBy_20 : decode cX6_waysBy 20 = .ok (.iconst 0, 1) := by decide +kernel
theorem dX6_waysBy_21 : decode cX6_waysBy 21 = .ok (.ireturn, 1) := by decide +kernel
theorem dX6_waysBy_22 : decode cX6_waysBy 22 = .ok (.iconst 0, 1) := by decide +kernel
theorem dX6_waysBy_23 : decode cX6_waysBy 23 = .ok (.istore 5, 2) := by decide +kernel
theorem dX6_waysBy_25 : decode cX6_waysBy 25 = .ok (.iconst 0, 1) := by decide +kernel
theorem dX6_waysBy_26 : decode cX6_waysBy 26 = .ok (.istore 6, 2) := by decide +kernel
theorem dX6_waysBy_28 : decode cX6_waysBy 28 = .ok (.iload 6, 2) := by decide +kernel
theorem dX6_waysBy_30 : decode cX6_waysBy 30 = .ok (.iconst 4, 1) := by decide +kernel
theorem dX6_waysBy_31 : decode cX6_waysBy 31 = .ok (.if_icmp .gt 45, 3) := by decide +kernel
theorem dX6_waysBy_34 : decode cX6_waysBy 34 = .ok (.aload_n 1, 1) := by decide +kernel
theorem dX6_waysBy_35 : decode cX6_waysBy 35 = .ok (.iload 6, 2) := by decide +kernel
theorem dX6_waysBy_37 : decode cX6_waysBy 37 = .ok (.invokevirtual 30, 3) := by decide +kernel
theorem dX6_waysBy_40 : decode cX6_waysBy 40 = .ok (.ifCond .le 30, 3) := by decide +kernel
theorem dX6_waysBy_43 : decode cX6_waysBy 43 = .ok (.aload_n 1, 1) := by decide +kernel
theorem dX6_waysBy_44 : decode cX6_waysBy 44 = .ok (.aload_n 0, 1) := by decide +kernel
theorem dX6_waysBy_45 : decode cX6_waysBy 45 = .ok (.getfield 19, 3) := by decide +kernel
theorem dX6_waysBy_48 : decode cX6_waysBy 48 = .ok (.iload 4, 2) := by decide +kernel
theorem dX6_waysBy_50 : decode cX6_waysBy 50 = .ok (.iload_n 3, 1) := by decide +kernel
theorem dX6_waysBy_51 : decode cX6_waysBy 51 = .ok (.iload 6, 2) := by decide +kernel
theorem dX6_waysBy_53 : decode cX6_waysBy 53 = .ok (.invokestatic 36, 3) := by decide +kernel
theorem dX6_waysBy_56 : decode cX6_waysBy 56 = .ok (.aload_n 0, 1) := by decide +kernel
theorem dX6_waysBy_57 : decode cX6_waysBy 57 = .ok (.getfield 9, 3) := by decide +kernel
theorem dX6_waysBy_60 : decode cX6_waysBy 60 = .ok (.iload_n 2, 1) := by decide +kernel
theorem dX6_waysBy_61 : decode cX6_waysBy 61 = .ok (.iconst 1, 1) := by decide +kernel
theorem dX6_waysBy_62 : decode cX6_waysBy 62 = .ok (.iadd, 1) := by decide +kernel
theorem dX6_waysBy_63 : decode cX6_waysBy 63 = .ok (.iaload, 1) := by decide +kernel
theorem dX6_waysBy_64 : decode cX6_waysBy 64 = .ok (.if_icmp .ne 6, 3) := by decide +kernel
theorem dX6_waysBy_67 : decode cX6_waysBy 67 = .ok (.iinc 5 1, 3) := by decide +kernel
theorem dX6_waysBy_70 : decode cX6_waysBy 70 = .ok (.iinc 6 1, 3) := by decide +kernel
theorem dX6_waysBy_73 : decode cX6_waysBy 73 = .ok (.goto (-45), 3) := by decide +kernel
theorem dX6_waysBy_76 : decode cX6_waysBy 76 = .ok (.iload 5, 2) := by decide +kernel
theorem dX6_waysBy_78 : decode cX6_waysBy 78 = .ok (.ireturn, 1) := by decide +kernel
set_option maxHeartbeats 4000000 in
set_option maxRecDepth 100000 in
theorem c_X6_waysBy {l : Launch} {g : GW} {b d k : Nat} {tn : Nat → Nat → Nat} {ow : Nat → Nat} {bg : Bool} {κ n : Nat} {pl : Nat → Nat} (μ : Mm) (hb : b = 49 ∨ b = 57) (hB : BkR μ b tn ow) (hW : WkR μ bg κ n pl) (hd : d < 6) (hk : k ≤ 6) : Con l g yX6_waysBy cX6_waysBy 7 (some .int) 3 [.ref 31, .ref b, .int (nI d), .int (cI k)] μ (fun r μ' => r = some (.int (nI (wdT tn ow κ pl d k))) ∧ μ' = μ) := by
  obtain ⟨hb1, hb2, hb3, hb4, hb5, hb6, hrow⟩ := bkF hb
  obtain ⟨w1, w2, w3, w4, w5, w6⟩ := id hW
  obtain ⟨wa, wb⟩ := w6 d (by omega)
  obtain ⟨wc, wd⟩ := w6 (d + 1) (by omega)
  refine Con.of [.ref 31, .ref b, .int (nI d), .int (cI k), .null, .null, .null] 3 (by decide +kernel) (Nat.le_of_ble_eq_true rfl) rfl ?_
  refine V_aload_n (pc := 0) dX6_waysBy_0 rfl rfl ?_
  refine V_getR (pc := 1) (ci := 6) (j := 0) (k2 := 32) dX6_waysBy_1 fl_X6_9 (fun _ _ _ _ => rfl) (by decide) rfl (rf_6_0 rfl) ?_
  refine V_iload_n (pc := 4) dX6_waysBy_4 rfl rfl ?_
  refine V_iald (pc := 5) (j := d) dX6_waysBy_5 (by decide) rfl rfl (by show d < 7; omega) ?_
  rw [wa]
  refine V_istore4 (pc := 6) dX6_waysBy_6 (by decide) rfl ?_
  have J : ¬ (pl d = 9 ∧ k ≠ 0) → V l g RX6 cX6_waysBy 7 (some .int) 3 22 [.ref 31, .ref b, .int (nI d), .int (cI k), .int (nI (pl d)), .null, .null] [] μ (fun r μ' => r = some (.int (nI (wdT tn ow κ pl d k))) ∧ μ' = μ) := by
    intro hJ
    refine V_iconst (pc := 22) (v := 0) dX6_waysBy_22 (by decide) ?_
    refine V_istore5 (pc := 23) dX6_waysBy_23 (by decide) rfl ?_
    refine V_iconst (pc := 25) (v := 0) dX6_waysBy_25 (by decide) ?_
    refine V_istore6 (pc := 26) dX6_waysBy_26 (by decide) rfl ?_
    have loop : ∀ (n i : Nat) (acc : Int32), i ≤ 5 → 5 < i + n → (acc = nI (wbT tn ow κ pl d k i)) → V l g RX6 cX6_waysBy 7 (some .int) 3 28 [.ref 31, .ref b, .int (nI d), .int (cI k), .int (nI (pl d)), .int acc, .int (nI i)] [] μ (fun r μ' => r = some (.int (nI (wdT tn ow κ pl d k))) ∧ μ' = μ) := by
      intro n
      induction n with
      | zero => intro i acc h1 h2; exact absurd h2 (by omega)
      | succ n ih =>
        intro i acc hle hfu hacc
        refine V_iload (pc := 28) dX6_waysBy_28 rfl ?_
        refine V_iconst (pc := 30) (v := 4) dX6_waysBy_30 (by decide) ?_
        refine V_icmpgt (pc := 31) (tgt := 76) dX6_waysBy_31 (by decide) (fun h31 => ?_) (fun h31 => ?_)
        · have h31 := (nI_ltI (a := 4) (b := i) (by decide) (by omega)).mp h31; obtain rfl : i = 5 := by omega
          refine V_iload (pc := 76) dX6_waysBy_76 rfl ?_
          refine V_iret (pc := 78) dX6_waysBy_78 rfl ?_
          exact ⟨by rw [hacc, show wdT tn ow κ pl d k = wbT tn ow κ pl d k 5 from if_neg hJ], rfl⟩
        have hlt : i < 5 := by have := mt (nI_ltI (a := 4) (b := i) (by decide) (by omega)).mpr h31; omega
        refine V_aload_n (pc := 34) dX6_waysBy_34 rfl rfl ?_
        refine V_iload (pc := 35) dX6_waysBy_35 rfl ?_
        refine V_inv1 (pc := 37) (ci := 0) dX6_waysBy_37 ml_X6_30 (by first | decide | omega) (by first | rfl | assumption | exact (hrow _ (by omega)).2.1 | decide) ⟨by decide, rfl⟩ (by decide) (Nat.le_of_ble_eq_true rfl) (c_X0_strengthInAll μ hb hB (show i ≤ 4 by omega)) ?_
        rintro _ μ2 ⟨rfl, hμ⟩
        obtain rfl := hμ.symm
        have hsl := sumT_le (tn := tn) (w := i) (fun s hs => hB.le (by omega) hs) 3 (by omega)
        refine V_ifle (pc := 40) (tgt := 70) dX6_waysBy_40 (by decide) (fun h40 => ?_) (fun h40 => ?_)
        · have h40 := (nI_leI (a := sumT tn i 3) (b := 0) (by omega) (by decide)).mp h40; have hno : ¬ (0 < sumT tn i 3 ∧ aft ow κ (pl d) k i = pl (d + 1)) := fun q => by omega
          refine V_iinc6 (pc := 70) (v := nI (i + 1)) dX6_waysBy_70 (nI_1 i) (by decide) rfl ?_
          refine V_goto (pc := 73) (tgt := 28) dX6_waysBy_73 (by decide) ?_
          exact ih (i + 1) _ (by omega) (by omega) (by show _ = nI (wbT tn ow κ pl d k i + if 0 < sumT tn i 3 ∧ aft ow κ (pl d) k i = pl (d + 1) then 1 else 0); first | rw [if_neg hno, hacc, Nat.add_zero] | (rw [if_pos hyes, hacc]; exact nI_1 _))
        have h40 := mt (nI_leI (a := sumT tn i 3) (b := 0) (by omega) (by decide)).mpr h40
        refine V_aload_n (pc := 43) dX6_waysBy_43 rfl rfl ?_
        refine V_aload_n (pc := 44) dX6_waysBy_44 rfl rfl ?_
        refine V_getI (pc := 45) (ci := 6) (j := 2) dX6_waysBy_45 fl_X6_19 (fun _ _ _ _ => rfl) (by decide) rfl ?_
        rw [w2]
        refine V_iload (pc := 48) dX6_waysBy_48 rfl ?_
        refine V_iload_n (pc := 50) dX6_waysBy_50 rfl rfl ?_
        refine V_iload (pc := 51) dX6_waysBy_51 rfl ?_
        refine V_ins5 (pc := 53) dX6_waysBy_53 ml_X6_36 (by decide) (Nat.le_of_ble_eq_true rfl) (c_X7_placeAfter μ hb hB w3 wb hk (show i ≤ 4 by omega)) ?_
        rintro _ μ2 ⟨rfl, hμ⟩
        obtain rfl := hμ.symm
        refine V_aload_n (pc := 56) dX6_waysBy_56 rfl rfl ?_
        refine V_getR (pc := 57) (ci := 6) (j := 0) (k2 := 32) dX6_waysBy_57 fl_X6_9 (fun _ _ _ _ => rfl) (by decide) rfl (rf_6_0 rfl) ?_
        refine V_iload_n (pc := 60) dX6_waysBy_60 rfl rfl ?_
        refine V_iconst (pc := 61) (v := 1) dX6_waysBy_61 (by decide) ?_
        refine V_iadd (pc := 62) dX6_waysBy_62 ?_
        refine V_iald (pc := 63) (j := (d + 1)) dX6_waysBy_63 (by decide) rfl (nI_1 d) (by show d + 1 < 7; omega) ?_
        refine V_icmpne (pc := 64) (tgt := 70) dX6_waysBy_64 (by decide) (fun h64 => ?_) (fun h64 => ?_)
        · rw [wc] at h64; have h64 := mt (nI_eq (a := aft ow κ (pl d) k i) (b := pl (d + 1)) (by have := aft_le (ow := ow) (κ := κ) (k := k) (w := i) wb; omega) (by omega)).mpr h64; have hno : ¬ (0 < sumT tn i 3 ∧ aft ow κ (pl d) k i = pl (d + 1)) := fun q => h64 q.2
          refine V_iinc6 (pc := 70) (v := nI (i + 1)) dX6_waysBy_70 (nI_1 i) (by decide) rfl ?_
          refine V_goto (pc := 73) (tgt := 28) dX6_waysBy_73 (by decide) ?_
          exact ih (i + 1) _ (by omega) (by omega) (by show _ = nI (wbT tn ow κ pl d k i + if 0 < sumT tn i 3 ∧ aft ow κ (pl d) k i = pl (d + 1) then 1 else 0); first | rw [if_neg hno, hacc, Nat.add_zero] | (rw [if_pos hyes, hacc]; exact nI_1 _))
        rw [wc] at h64; have h64 := (nI_eq (a := aft ow κ (pl d) k i) (b := pl (d + 1)) (by have := aft_le (ow := ow) (κ := κ) (k := k) (w := i) wb; omega) (by omega)).mp h64; have hyes : 0 < sumT tn i 3 ∧ aft ow κ (pl d) k i = pl (d + 1) := ⟨by omega, h64⟩
        refine V_iinc5 (pc := 67) dX6_waysBy_67 rfl (by decide) rfl ?_
        refine V_iinc6 (pc := 70) (v := nI (i + 1)) dX6_waysBy_70 (nI_1 i) (by decide) rfl ?_
        refine V_goto (pc := 73) (tgt := 28) dX6_waysBy_73 (by decide) ?_
        exact ih (i + 1) _ (by omega) (by omega) (by show _ = nI (wbT tn ow κ pl d k i + if 0 < sumT tn i 3 ∧ aft ow κ (pl d) k i = pl (d + 1) then 1 else 0); first | rw [if_neg hno, hacc, Nat.add_zero] | (rw [if_pos hyes, hacc]; exact nI_1 _))
    exact loop (5 + 1) 0 _ (by omega) (by omega) rfl
  refine V_iload (pc := 8) dX6_waysBy_8 rfl ?_
  refine V_bipush (pc := 10) (v := 9) dX6_waysBy_10 (by decide) ?_
  refine V_icmpne (pc := 12) (tgt := 22) dX6_waysBy_12 (by decide) (fun h12 => ?_) (fun h12 => ?_)
  · have h12 := mt (nI_eq (a := pl d) (b := 9) (by omega) (by decide)).mpr h12; exact J (by omega)
  have h12 := (nI_eq (a := pl d) (b := 9) (by omega) (by decide)).mp h12
  refine V_iload_n (pc := 15) dX6_waysBy_15 rfl rfl ?_
  refine V_iconst (pc := 16) (v := (-1)) dX6_waysBy_16 (by decide) ?_
  refine V_icmpeq (pc := 17) (tgt := 22) dX6_waysBy_17 (by decide) (fun h17 => ?_) (fun h17 => ?_)
  · have h17 := (cI_m1 (a := k) (by omega)).mp h17; exact J (by omega)
  have h17 := mt (cI_m1 (a := k) (by omega)).mpr h17
  refine V_iconst (pc := 20) (v := 0) dX6_waysBy_20 (by decide) ?_
  refine V_iret (pc := 21) dX6_waysBy_21 rfl ?_
  exact ⟨by rw [show wdT tn ow κ pl d k = 0 from if_pos ⟨h12, h17⟩]; rfl, rfl⟩
theorem cI_int {a : Nat} (ha : a < 2 ^ 31) : (cI a).toInt = (a : Int) - 1 := by
  cases a with
  | zero => rfl
  | succ a => rw [cI_s, nI_toInt (by omega)]; omega
theorem cI_le {a b : Nat} (ha : a < 2 ^ 31) (hb : b < 2 ^ 31) (h : cI a ≤ cI b) : a ≤ b := by
  rw [Int32.le_iff_toInt_le, cI_int ha, cI_int hb] at h; omega
theorem cI_le2 {a b : Nat} (ha : a < 2 ^ 31) (hb : b < 2 ^ 31) (h : a ≤ b) : cI a ≤ cI b := by
  rw [Int32.le_iff_toInt_le, cI_int ha, cI_int hb]; omega
theorem dX6_ways_0 : decode cX6_ways 0 = .ok (.iconst 1, 1) := by decide +kernel
theorem dX6_ways_1 : decode cX6_ways 1 = .ok (.istore_n 2, 1) := by decide +kernel
theorem dX6_ways_2 : decode cX6_ways 2 = .ok (.iconst 0, 1) := by decide +kernel
theorem dX6_ways_3 : decode cX6_ways 3 = .ok (.istore_n 3, 1) := by decide +kernel
theorem dX6_ways_4 : decode cX6_ways 4 = .ok (.iload_n 3, 1) := by decide +kernel
theorem dX6_ways_5 : decode cX6_ways 5 = .ok (.aload_n 0, 1) := by decide +kernel
theorem dX6_ways_6 : decode cX6_ways 6 = .ok (.getfield 23, 3) := by decide +kernel
theorem dX6_ways_9 : decode cX6_ways 9 = .ok (.if_icmp .ge 46, 3) := by decide +kernel
theorem dX6_ways_12 : decode cX6_ways 12 = .ok (.iconst 0, 1) := by decide +kernel
theorem dX6_ways_13 : decode cX6_ways 13 = .ok (.istore 4, 2) := by decide +kernel
theorem dX6_ways_15 : decode cX6_ways 15 = .ok (.iconst (-1), 1) := by decide +kernel
theorem dX6_ways_16 : decode cX6_ways 16 = .ok (.istore 5, 2) := by decide +kernel
theorem dX6_ways_18 : decode cX6_ways 18 = .ok (.iload 5, 2) := by decide +kernel
theorem dX6_ways_20 : decode cX6_ways 20 = .ok (.bipush 6, 2) := by decide +kernel
theorem dX6_ways_22 : decode cX6_ways 22 = .ok (.if_icmp .ge 22, 3) := by decide +kernel
theorem dX6_ways_25 : decode cX6_ways 25 = .ok (.iload 4, 2) := by decide +kernel
theorem dX6_ways_27 : decode cX6_ways 27 = .ok (.aload_n 0, 1) := by decide +kernel
theorem dX6_ways_28 : decode cX6_ways 28 = .ok (.aload_n 1, 1) := by decide +kernel
theorem dX6_ways_29 : decode cX6_ways 29 = .ok (.iload_n 3, 1) := by decide +kernel
theorem dX6_ways_30 : decode cX6_ways 30 = .ok (.iload 5, 2) := by decide +kernel
theorem dX6_ways_32 : decode cX6_ways 32 = .ok (.invokevirtual 26, 3) := by decide +kernel
theorem dX6_ways_35 : decode cX6_ways 35 = .ok (.iadd, 1) := by decide +kernel
theorem dX6_ways_36 : decode cX6_ways 36 = .ok (.istore 4, 2) := by decide +kernel
theorem dX6_ways_38 : decode cX6_ways 38 = .ok (.iinc 5 1, 3) := by decide +kernel
theorem dX6_ways_41 : decode cX6_ways 41 = .ok (.goto (-23), 3) := by decide +kernel
theorem dX6_ways_44 : decode cX6_ways 44 = .ok (.iload_n 2, 1) := by decide +kernel
theorem dX6_ways_45 : decode cX6_ways 45 = .ok (.iload 4, 2) := by decide +kernel
theorem dX6_ways_47 : decode cX6_ways 47 = .ok (.imul, 1) := by decide +kernel
theorem dX6_ways_48 : decode cX6_ways 48 = .ok (.istore_n 2, 1) := by decide +kernel
theorem dX6_ways_49 : decode cX6_ways 49 = .ok (.iinc 3 1, 3) := by decide +kernel
theorem dX6_ways_52 : decode cX6_ways 52 = .ok (.goto (-48), 3) := by decide +kernel
theorem dX6_ways_55 : decode cX6_ways 55 = .ok (.iload_n 2, 1) := by decide +kernel
theorem dX6_ways_56 : decode cX6_ways 56 = .ok (.ireturn, 1) := by decide +kernel
set_option maxHeartbeats 4000000 in
set_option maxRecDepth 100000 in
theorem c_X6_ways {l : Launch} {g : GW} {b : Nat} {tn : Nat → Nat → Nat} {ow : Nat → Nat} {bg : Bool} {κ n : Nat} {pl : Nat → Nat} (μ : Mm) (hb : b = 49 ∨ b = 57) (hB : BkR μ b tn ow) (hW : WkR μ bg κ n pl) : Con l g yX6_ways cX6_ways 6 (some .int) 4 [.ref 31, .ref b] μ (fun r μ' => r = some (.int (nI (wyT tn ow κ pl n))) ∧ μ' = μ) := by
  obtain ⟨hb1, hb2, hb3, hb4, hb5, hb6, hrow⟩ := bkF hb
  obtain ⟨w1, w2, w3, w4, w5, w6⟩ := id hW
  refine Con.of [.ref 31, .ref b, .null, .null, .null, .null] 4 (by decide +kernel) (Nat.le_of_ble_eq_true rfl) rfl ?_
  refine V_iconst (pc := 0) (v := 1) dX6_ways_0 (by decide) ?_
  refine V_istore2 (pc := 1) dX6_ways_1 (by decide) rfl ?_
  refine V_iconst (pc := 2) (v := 0) dX6_ways_2 (by decide) ?_
  refine V_istore3 (pc := 3) dX6_ways_3 (by decide) rfl ?_
  have loopA : ∀ (nA d : Nat) (acc : Int32) (y4 y5 : Value), d ≤ n → n < d + nA → (acc = nI (wyT tn ow κ pl d)) → V l g RX6 cX6_ways 6 (some .int) 4 4 [.ref 31, .ref b, .int acc, .int (nI d), y4, y5] [] μ (fun r μ' => r = some (.int (nI (wyT tn ow κ pl n))) ∧ μ' = μ) := by
    intro nA
    induction nA with
    | zero => intro d acc y4 y5 h1 h2; exact absurd h2 (by omega)
    | succ nA ihA =>
      intro d acc y4 y5 hleA hfuA hacc
      refine V_iload_n (pc := 4) dX6_ways_4 rfl rfl ?_
      refine V_aload_n (pc := 5) dX6_ways_5 rfl rfl ?_
      refine V_getI (pc := 6) (ci := 6) (j := 3) dX6_ways_6 fl_X6_23 (fun _ _ _ _ => rfl) (by decide) rfl ?_
      refine V_icmpge (pc := 9) (tgt := 55) dX6_ways_9 (by decide) (fun h9 => ?_) (fun h9 => ?_)
      · rw [w4, nI_leI (by omega) (by omega)] at h9; obtain rfl : d = n := by omega
        refine V_iload_n (pc := 55) dX6_ways_55 rfl rfl ?_
        refine V_iret (pc := 56) dX6_ways_56 rfl ?_
        exact ⟨by rw [hacc], rfl⟩
      rw [w4, nI_leI (by omega) (by omega)] at h9; have hlt : d < n := by omega
      refine V_iconst (pc := 12) (v := 0) dX6_ways_12 (by decide) ?_
      refine V_istore4 (pc := 13) dX6_ways_13 (by decide) rfl ?_
      refine V_iconst (pc := 15) (v := (-1)) dX6_ways_15 (by decide) ?_
      refine V_istore5 (pc := 16) dX6_ways_16 (by decide) rfl ?_
      have loopB : ∀ (nB k : Nat) (ac2 : Int32), k ≤ 7 → 7 < k + nB → (ac2 = nI (dsT tn ow κ pl d k)) → V l g RX6 cX6_ways 6 (some .int) 4 18 [.ref 31, .ref b, .int acc, .int (nI d), .int ac2, .int (cI k)] [] μ (fun r μ' => r = some (.int (nI (wyT tn ow κ pl n))) ∧ μ' = μ) := by
        intro nB
        induction nB with
        | zero => intro k ac2 h1 h2; exact absurd h2 (by omega)
        | succ nB ihB =>
          intro k ac2 hleB hfuB hac2
          refine V_iload (pc := 18) dX6_ways_18 rfl ?_
          refine V_bipush (pc := 20) (v := 6) dX6_ways_20 (by decide) ?_
          refine V_icmpge (pc := 22) (tgt := 44) dX6_ways_22 (by decide) (fun h22 => ?_) (fun h22 => ?_)
          · rw [show (6 : Int32) = cI 7 from rfl] at h22; have h22 : 7 ≤ k := cI_le (by omega) (by omega) h22; obtain rfl : k = 7 := by omega
            refine V_iload_n (pc := 44) dX6_ways_44 rfl rfl ?_
            refine V_iload (pc := 45) dX6_ways_45 rfl ?_
            refine V_imul (pc := 47) dX6_ways_47 ?_
            refine V_istore2 (pc := 48) dX6_ways_48 (by decide) rfl ?_
            refine V_iinc3 (pc := 49) (v := nI (d + 1)) dX6_ways_49 (nI_1 d) (by decide) rfl ?_
            refine V_goto (pc := 52) (tgt := 4) dX6_ways_52 (by decide) ?_
            exact ihA (d + 1) _ _ _ (by omega) (by omega) (by rw [hacc, hac2, pk_mul]; rfl)
          have hltk : k < 7 := by rcases Nat.lt_or_ge k 7 with q | q; exact q; exact absurd (cI_le2 (a := 7) (b := k) (by omega) (by omega) q) h22
          refine V_iload (pc := 25) dX6_ways_25 rfl ?_
          refine V_aload_n (pc := 27) dX6_ways_27 rfl rfl ?_
          refine V_aload_n (pc := 28) dX6_ways_28 rfl rfl ?_
          refine V_iload_n (pc := 29) dX6_ways_29 rfl rfl ?_
          refine V_iload (pc := 30) dX6_ways_30 rfl ?_
          refine V_inv3 (pc := 32) (ci := 6) dX6_ways_32 ml_X6_26 (by decide) rfl ⟨by decide, rfl⟩ (by decide) (Nat.le_of_ble_eq_true rfl) (c_X6_waysBy μ hb hB hW (show d < 6 by omega) (show k ≤ 6 by omega)) ?_
          rintro _ μ2 ⟨rfl, hμ⟩
          obtain rfl := hμ.symm
          refine V_iadd (pc := 35) dX6_ways_35 ?_
          refine V_istore4 (pc := 36) dX6_ways_36 (by decide) rfl ?_
          refine V_iinc5 (pc := 38) (v := cI (k + 1)) dX6_ways_38 (cI_n k) (by decide) rfl ?_
          refine V_goto (pc := 41) (tgt := 18) dX6_ways_41 (by decide) ?_
          exact ihB (k + 1) _ (by omega) (by omega) (by rw [hac2, nI_add]; rfl)
      exact loopB (7 + 1) 0 _ (by omega) (by omega) rfl
  exact loopA (n + 1) 0 _ _ _ (by omega) (by omega) rfl
theorem dX6_callOn_0 : decode cX6_callOn 0 = .ok (.aload_n 0, 1) := by decide +kernel
theorem dX6_callOn_1 : decode cX6_callOn 1 = .ok (.aload_n 1, 1) := by decide +kernel
theorem dX6_callOn_2 : decode cX6_callOn 2 = .ok (.invokevirtual 40, 3) := by decide +kernel
theorem dX6_callOn_5 : decode cX6_callOn 5 = .ok (.ifCond .ne 6, 3) := by decide +kernel
theorem dX6_callOn_8 : decode cX6_callOn 8 = .ok (.bipush 6, 2) := by decide +kernel
theorem dX6_callOn_10 : decode cX6_callOn 10 = .ok (.ireturn, 1) := by decide +kernel
theorem dX6_callOn_11 : decode cX6_callOn 11 = .ok (.bipush 6, 2) := by decide +kernel
theorem dX6_callOn_13 : decode cX6_callOn 13 = .ok (.istore_n 3, 1) := by decide +kernel
theorem dX6_callOn_14 : decode cX6_callOn 14 = .ok (.iconst 0, 1) := by decide +kernel
theorem dX6_callOn_15 : decode cX6_callOn 15 = .ok (.istore 4, 2) := by decide +kernel
theorem dX6_callOn_17 : decode cX6_callOn 17 = .ok (.iconst (-1), 1) := by decide +kernel
theorem dX6_callOn_18 : decode cX6_callOn 18 = .ok (.istore 5, 2) := by decide +kernel
theorem dX6_callOn_20 : decode cX6_callOn 20 = .ok (.iload 5, 2) := by decide +kernel
theorem dX6_callOn_22 : decode cX6_callOn 22 = .ok (.bipush 6, 2) := by decide +kernel
theorem dX6_callOn_24 : decode cX6_callOn 24 = .ok (.if_icmp .ge 26, 3) := by decide +kernel
theorem dX6_callOn_27 : decode cX6_callOn 27 = .ok (.aload_n 0, 1) := by decide +kernel
theorem dX6_callOn_28 : decode cX6_callOn 28 = .ok (.aload_n 1, 1) := by decide +kernel
theorem dX6_callOn_29 : decode cX6_callOn 29 = .ok (.iload_n 2, 1) := by decide +kernel
theorem dX6_callOn_30 : decode cX6_callOn 30 = .ok (.iload 5, 2) := by decide +kernel
theorem dX6_callOn_32 : decode cX6_callOn 32 = .ok (.invokevirtual 26, 3) := by decide +kernel
theorem dX6_callOn_35 : decode cX6_callOn 35 = .ok (.ifCond .le 9, 3) := by decide +kernel
theorem dX6_callOn_38 : decode cX6_callOn 38 = .ok (.iload 5, 2) := by decide +kernel
theorem dX6_callOn_40 : decode cX6_callOn 40 = .ok (.istore_n 3, 1) := by decide +kernel
theorem dX6_callOn_41 : decode cX6_callOn 41 = .ok (.iinc 4 1, 3) := by decide +kernel
theorem dX6_callOn_44 : decode cX6_callOn 44 = .ok (.iinc 5 1, 3) := by decide +kernel
theorem dX6_callOn_47 : decode cX6_callOn 47 = .ok (.goto (-27), 3) := by decide +kernel
theorem dX6_callOn_50 : decode cX6_callOn 50 = .ok (.iload 4, 2) := by decide +kernel
theorem dX6_callOn_52 : decode cX6_callOn 52 = .ok (.iconst 1, 1) := by decide +kernel
theorem dX6_callOn_53 : decode cX6_callOn 53 = .ok (.if_icmp .ne 7, 3) := by decide +kernel
theorem dX6_callOn_56 : decode cX6_callOn 56 = .ok (.iload_n 3, 1) := by decide +kernel
theorem dX6_callOn_57 : decode cX6_callOn 57 = .ok (.goto 5, 3) := by decide +kernel
theorem dX6_callOn_60 : decode cX6_callOn 60 = .ok (.bipush 6, 2) := by decide +kernel
theorem dX6_callOn_62 : decode cX6_callOn 62 = .ok (.ireturn, 1) := by decide +kernel
set_option maxHeartbeats 4000000 in
set_option maxRecDepth 100000 in
theorem c_X6_callOn {l : Launch} {g : GW} {b d : Nat} {tn : Nat → Nat → Nat} {ow : Nat → Nat} {bg : Bool} {κ n : Nat} {pl : Nat → Nat} (μ : Mm) (hb : b = 49 ∨ b = 57) (hB : BkR μ b tn ow) (hW : WkR μ bg κ n pl) (hd : d < 6) : Con l g yX6_callOn cX6_callOn 6 (some .int) 5 [.ref 31, .ref b, .int (nI d)] μ (fun r μ' => r = some (.int (cI (byT tn ow κ pl n d))) ∧ μ' = μ) := by
  obtain ⟨hb1, hb2, hb3, hb4, hb5, hb6, hrow⟩ := bkF hb
  obtain ⟨w1, w2, w3, w4, w5, w6⟩ := id hW
  refine Con.of [.ref 31, .ref b, .int (nI d), .null, .null, .null] 3 (by decide +kernel) (Nat.le_of_ble_eq_true rfl) rfl ?_
  refine V_aload_n (pc := 0) dX6_callOn_0 rfl rfl ?_
  refine V_aload_n (pc := 1) dX6_callOn_1 rfl rfl ?_
  refine V_inv1 (pc := 2) (ci := 6) dX6_callOn_2 ml_X6_40 (by decide) rfl ⟨by decide, rfl⟩ (by decide) (Nat.le_of_ble_eq_true rfl) (c_X6_ways μ hb hB hW) ?_
  rintro _ μ2 ⟨rfl, hμ⟩
  obtain rfl := hμ.symm
  refine V_ifne (pc := 5) (tgt := 11) dX6_callOn_5 (by decide) (fun h5 => ?_) (fun h5 => ?_)
  · have h5 := mt (nI_eq (a := wyT tn ow κ pl n) (b := 0) (wyT_lt w5) (by decide)).mpr h5
    refine V_bipush (pc := 11) (v := 6) dX6_callOn_11 (by decide) ?_
    refine V_istore3 (pc := 13) dX6_callOn_13 (by decide) rfl ?_
    refine V_iconst (pc := 14) (v := 0) dX6_callOn_14 (by decide) ?_
    refine V_istore4 (pc := 15) dX6_callOn_15 (by decide) rfl ?_
    refine V_iconst (pc := 17) (v := (-1)) dX6_callOn_17 (by decide) ?_
    refine V_istore5 (pc := 18) dX6_callOn_18 (by decide) rfl ?_
    have loopB : ∀ (nB k : Nat) (o q : Nat), k ≤ 7 → 7 < k + nB → ((o, q) = onT tn ow κ pl d k) → V l g RX6 cX6_callOn 6 (some .int) 5 20 [.ref 31, .ref b, .int (nI d), .int (cI o), .int (nI q), .int (cI k)] [] μ (fun r μ' => r = some (.int (cI (byT tn ow κ pl n d))) ∧ μ' = μ) := by
      intro nB
      induction nB with
      | zero => intro k o q h1 h2; exact absurd h2 (by omega)
      | succ nB ihB =>
        intro k o q hleB hfuB hoq
        refine V_iload (pc := 20) dX6_callOn_20 rfl ?_
        refine V_bipush (pc := 22) (v := 6) dX6_callOn_22 (by decide) ?_
        refine V_icmpge (pc := 24) (tgt := 50) dX6_callOn_24 (by decide) (fun h24 => ?_) (fun h24 => ?_)
        · rw [show (6 : Int32) = cI 7 from rfl] at h24; have h24 : 7 ≤ k := cI_le (by omega) (by omega) h24; obtain rfl : k = 7 := by omega
          have hq7 : q ≤ 7 := by have := (onT_le (tn := tn) (ow := ow) (κ := κ) (pl := pl) (d := d) 7 (by omega)).2; rw [← hoq] at this; exact this
          refine V_iload (pc := 50) dX6_callOn_50 rfl ?_
          refine V_iconst (pc := 52) (v := 1) dX6_callOn_52 (by decide) ?_
          refine V_icmpne (pc := 53) (tgt := 60) dX6_callOn_53 (by decide) (fun h53 => ?_) (fun h53 => ?_)
          · have h53 := mt (nI_eq (a := q) (b := 1) (by omega) (by decide)).mpr h53
            refine V_bipush (pc := 60) (v := 6) dX6_callOn_60 (by decide) ?_
            refine V_iret (pc := 62) dX6_callOn_62 rfl ?_
            exact ⟨by unfold byT; rw [if_neg h5, ← hoq]; simp only; first | (rw [if_pos h53]) | (rw [if_neg h53]; rfl), rfl⟩
          have h53 := (nI_eq (a := q) (b := 1) (by omega) (by decide)).mp h53
          refine V_iload_n (pc := 56) dX6_callOn_56 rfl rfl ?_
          refine V_goto (pc := 57) (tgt := 62) dX6_callOn_57 (by decide) ?_
          refine V_iret (pc := 62) dX6_callOn_62 rfl ?_
          exact ⟨by unfold byT; rw [if_neg h5, ← hoq]; simp only; first | (rw [if_pos h53]) | (rw [if_neg h53]; rfl), rfl⟩
        have hltk : k < 7 := by rcases Nat.lt_or_ge k 7 with q | q; exact q; exact absurd (cI_le2 (a := 7) (b := k) (by omega) (by omega) q) h24
        refine V_aload_n (pc := 27) dX6_callOn_27 rfl rfl ?_
        refine V_aload_n (pc := 28) dX6_callOn_28 rfl rfl ?_
        refine V_iload_n (pc := 29) dX6_callOn_29 rfl rfl ?_
        refine V_iload (pc := 30) dX6_callOn_30 rfl ?_
        refine V_inv3 (pc := 32) (ci := 6) dX6_callOn_32 ml_X6_26 (by decide) rfl ⟨by decide, rfl⟩ (by decide) (Nat.le_of_ble_eq_true rfl) (c_X6_waysBy μ hb hB hW hd (show k ≤ 6 by omega)) ?_
        rintro _ μ2 ⟨rfl, hμ⟩
        obtain rfl := hμ.symm
        refine V_ifle (pc := 35) (tgt := 44) dX6_callOn_35 (by decide) (fun h35 => ?_) (fun h35 => ?_)
        · have h35 : ¬ 0 < wdT tn ow κ pl d k := (by have := (nI_leI (a := wdT tn ow κ pl d k) (b := 0) (by have := wdT_le (tn := tn) (ow := ow) (κ := κ) (pl := pl) (d := d) (k := k); omega) (by decide)).mp h35; omega)
          refine V_iinc5 (pc := 44) (v := cI (k + 1)) dX6_callOn_44 (cI_n k) (by decide) rfl ?_
          refine V_goto (pc := 47) (tgt := 20) dX6_callOn_47 (by decide) ?_
          first | exact ihB (k + 1) o q (by omega) (by omega) (by show _ = (let q := onT tn ow κ pl d k; if 0 < wdT tn ow κ pl d k then (k, q.2 + 1) else q); rw [← hoq]; simp only; rw [if_neg h35]) | exact ihB (k + 1) k (q + 1) (by omega) (by omega) (by show _ = (let q := onT tn ow κ pl d k; if 0 < wdT tn ow κ pl d k then (k, q.2 + 1) else q); rw [← hoq]; simp only; rw [if_pos h35])
        have h35 : 0 < wdT tn ow κ pl d k := (by have := mt (nI_leI (a := wdT tn ow κ pl d k) (b := 0) (by have := wdT_le (tn := tn) (ow := ow) (κ := κ) (pl := pl) (d := d) (k := k); omega) (by decide)).mpr h35; omega)
        refine V_iload (pc := 38) dX6_callOn_38 rfl ?_
        refine V_istore3 (pc := 40) dX6_callOn_40 (by decide) rfl ?_
        refine V_iinc4 (pc := 41) (v := nI (q + 1)) dX6_callOn_41 (nI_1 q) (by decide) rfl ?_
        refine V_iinc5 (pc := 44) (v := cI (k + 1)) dX6_callOn_44 (cI_n k) (by decide) rfl ?_
        refine V_goto (pc := 47) (tgt := 20) dX6_callOn_47 (by decide) ?_
        first | exact ihB (k + 1) o q (by omega) (by omega) (by show _ = (let q := onT tn ow κ pl d k; if 0 < wdT tn ow κ pl d k then (k, q.2 + 1) else q); rw [← hoq]; simp only; rw [if_neg h35]) | exact ihB (k + 1) k (q + 1) (by omega) (by omega) (by show _ = (let q := onT tn ow κ pl d k; if 0 < wdT tn ow κ pl d k then (k, q.2 + 1) else q); rw [← hoq]; simp only; rw [if_pos h35])
    exact loopB (7 + 1) 0 7 0 (by omega) (by omega) rfl
  have h5 := (nI_eq (a := wyT tn ow κ pl n) (b := 0) (wyT_lt w5) (by decide)).mp h5
  refine V_bipush (pc := 8) (v := 6) dX6_callOn_8 (by decide) ?_
  refine V_iret (pc := 10) dX6_callOn_10 rfl ?_
  exact ⟨by rw [show byT tn ow κ pl n d = 7 from if_pos h5]; rfl, rfl⟩
end
section

/-! ===== forecasts: chances of 30 to the days ===== -/
def frA (κ F k : Nat) : Nat := if k = 0 ∨ κ = 4 then F else clr F (k - 1)
def woT (tn : Nat → Nat → Nat) (ow : Nat → Nat) (κ : Nat) (c : Nat → Nat → Nat) (p F s k : Nat) : Nat := favT tn ow k s 4 * c (ahd κ p k) (frA κ F k) + (10 - favT tn ow k s 4 - tn 4 s) * c (bhd κ p k) (frA κ F k) + tn 4 s * c p (frA κ F k)
def beT (tn : Nat → Nat → Nat) (ow : Nat → Nat) (κ : Nat) (c : Nat → Nat → Nat) (p F s : Nat) : Nat → Nat × Nat
  | 0 => (0, woT tn ow κ c p F s 0)
  | n + 1 => let q := beT tn ow κ c p F s n; if F.testBit n = true ∧ q.2 < woT tn ow κ c p F s (n + 1) then (n + 1, woT tn ow κ c p F s (n + 1)) else q
def suT (tn : Nat → Nat → Nat) (ow : Nat → Nat) (κ : Nat) (c : Nat → Nat → Nat) (p F : Nat) : Nat → Nat
  | 0 => 0
  | s + 1 => suT tn ow κ c p F s + woT tn ow κ c p F s (beT tn ow κ c p F s 6).1
def chT (tn : Nat → Nat → Nat) (ow : Nat → Nat) (κ : Nat) : Nat → Nat → Nat → Nat
  | 0, p, _ => if p = 9 then 1 else 0
  | d + 1, p, F => if p = 9 then 30 ^ (d + 1) else suT tn ow κ (chT tn ow κ d) p F 3
theorem frA_lt {κ F k : Nat} (hF : F < 64) (hk : k ≤ 6) : frA κ F k < 64 := by
  unfold frA
  split
  · exact hF
  · exact clr_lt _ hF _ (by omega)
theorem ahd_le {κ p k : Nat} : ahd κ p k ≤ 9 := Nat.min_le_left _ _
theorem bhd_le {κ p k : Nat} (h : p ≤ 9) : bhd κ p k ≤ 9 := by unfold bhd; split <;> omega
def TnOK (tn : Nat → Nat → Nat) : Prop := ∀ s, s < 3 → tn 0 s + tn 1 s + tn 2 s + tn 3 s + tn 4 s = 10
theorem fav4_le {tn : Nat → Nat → Nat} {ow : Nat → Nat} (h : TnOK tn) {k s : Nat} (hs : s < 3) : favT tn ow k s 4 + tn 4 s ≤ 10 := by
  have h1 := h s hs
  have h2 : favT tn ow k s 4 ≤ tn 0 s + tn 1 s + tn 2 s + tn 3 s := by
    simp only [favT]
    split <;> split <;> split <;> split <;> omega
  omega
theorem woT_le {tn : Nat → Nat → Nat} {ow : Nat → Nat} {κ : Nat} {c : Nat → Nat → Nat} {M p F s k : Nat} (h : TnOK tn) (hs : s < 3) (hc : ∀ p F, c p F ≤ M) : woT tn ow κ c p F s k ≤ 10 * M := by
  have h1 := fav4_le (ow := ow) h (k := k) hs
  have a1 : favT tn ow k s 4 * c (ahd κ p k) (frA κ F k) ≤ favT tn ow k s 4 * M := Nat.mul_le_mul_left _ (hc _ _)
  have a2 : (10 - favT tn ow k s 4 - tn 4 s) * c (bhd κ p k) (frA κ F k) ≤ (10 - favT tn ow k s 4 - tn 4 s) * M := Nat.mul_le_mul_left _ (hc _ _)
  have a3 : tn 4 s * c p (frA κ F k) ≤ tn 4 s * M := Nat.mul_le_mul_left _ (hc _ _)
  have a4 : favT tn ow k s 4 * M + (10 - favT tn ow k s 4 - tn 4 s) * M + tn 4 s * M = 10 * M := by
    rw [← Nat.add_mul, ← Nat.add_mul]
    congr 1
    omega
  unfold woT
  omega
theorem beT_snd {tn : Nat → Nat → Nat} {ow : Nat → Nat} {κ : Nat} {c : Nat → Nat → Nat} {p F s : Nat} : ∀ n, (beT tn ow κ c p F s n).2 = woT tn ow κ c p F s (beT tn ow κ c p F s n).1 ∧ (beT tn ow κ c p F s n).1 ≤ n
  | 0 => ⟨rfl, Nat.le_refl _⟩
  | n + 1 => by
    have h := beT_snd (tn := tn) (ow := ow) (κ := κ) (c := c) (p := p) (F := F) (s := s) n
    simp only [beT]
    split
    · exact ⟨rfl, Nat.le_refl _⟩
    · exact ⟨h.1, by omega⟩
theorem suT_le {tn : Nat → Nat → Nat} {ow : Nat → Nat} {κ : Nat} {c : Nat → Nat → Nat} {M p F : Nat} (h : TnOK tn) (hc : ∀ p F, c p F ≤ M) : ∀ n, n ≤ 3 → suT tn ow κ c p F n ≤ 10 * n * M
  | 0, _ => Nat.zero_le _
  | n + 1, hn => by
    have h1 := suT_le (ow := ow) (κ := κ) (p := p) (F := F) h hc n (by omega)
    have h2 := woT_le (ow := ow) (κ := κ) (p := p) (F := F) (s := n) (k := (beT tn ow κ c p F n 6).1) h (by omega) hc
    have h3 : 10 * (n + 1) * M = 10 * n * M + 10 * M := by rw [Nat.mul_add, Nat.add_mul]
    simp only [suT]
    omega
theorem chT_le {tn : Nat → Nat → Nat} {ow : Nat → Nat} {κ : Nat} (h : TnOK tn) : ∀ d p F, chT tn ow κ d p F ≤ 30 ^ d
  | 0, p, F => by simp only [chT]; split <;> simp
  | d + 1, p, F => by
    have h1 := suT_le (ow := ow) (κ := κ) (p := p) (F := F) h (chT_le (ow := ow) (κ := κ) h d) 3 (by omega)
    simp only [chT]
    split
    · exact Nat.le_refl _
    · rw [Nat.pow_succ]; omega
theorem p30 {d : Nat} (h : d ≤ 4) : 30 ^ d ≤ 810000 := by
  have := Nat.pow_le_pow_right (show 0 < 30 by decide) h
  exact this
theorem p30_6 {d : Nat} (h : d ≤ 6) : 30 ^ d ≤ 729000000 := by
  have := Nat.pow_le_pow_right (show 0 < 30 by decide) h
  exact this
theorem stT90 : ∀ d, d ≤ 6 → (stT 90).getD d 0 = nI (30 ^ d) := by
  intro d h
  rcases (show d = 0 ∨ d = 1 ∨ d = 2 ∨ d = 3 ∨ d = 4 ∨ d = 5 ∨ d = 6 by omega) with rfl | rfl | rfl | rfl | rfl | rfl | rfl <;> decide +kernel
def FcR (μ : Mm) (tn : Nat → Nat → Nat) (ow : Nat → Nat) (κ : Nat) : Prop := μ.1 33 3 = nI κ ∧ κ ≤ 4 ∧ (∀ k s, k < 7 → s < 3 → μ.1 (41 + k) s = nI (favT tn ow k s 4)) ∧ ∀ s, s < 3 → μ.1 48 s = nI (tn 4 s)
def MmR (μ : Mm) (tn : Nat → Nat → Nat) (ow : Nat → Nat) (κ N : Nat) : Prop := ∀ d p F, 1 ≤ d → d ≤ N → p ≤ 9 → F < 64 → μ.1 (35 + d) (p * 64 + F) = -1 ∨ μ.1 (35 + d) (p * 64 + F) = nI (chT tn ow κ d p F)
def fnd : Nat → Prop := fun k => 35 ≤ k ∧ k ≤ 39
theorem FcR.kept {μ μ' : Mm} {tn : Nat → Nat → Nat} {ow : Nat → Nat} {κ : Nat} (h : FcR μ tn ow κ) (hf : FrM fnd μ μ') : FcR μ' tn ow κ := by
  obtain ⟨h1, h2, h3, h4⟩ := h
  refine ⟨?_, h2, fun k s hk hs => ?_, fun s hs => ?_⟩
  · rw [hf.1 33 (fun q => by have := q.1; omega)]; exact h1
  · rw [hf.1 (41 + k) (fun q => by have := q.2; omega)]; exact h3 k s hk hs
  · rw [hf.1 48 (fun q => by have := q.2; omega)]; exact h4 s hs
theorem fcF : ∀ d, d < 5 → kt (35 + d) = 10 ∧ kn (35 + d) = 640 := by decide +kernel
theorem fcA : ∀ k, k < 7 → kt (41 + k) = 10 ∧ kn (41 + k) = 3 := by decide +kernel
end
section
theorem dJ7_fill_53178_0 : decode cJ7_fill_53178 0 = .ok (.iconst 0, 1) := by decide +kernel
theorem dJ7_fill_53178_1 : decode cJ7_fill_53178 1 = .ok (.istore_n 2, 1) := by decide +kernel
theorem dJ7_fill_53178_2 : decode cJ7_fill_53178 2 = .ok (.aload_n 0, 1) := by decide +kernel
theorem dJ7_fill_53178_3 : decode cJ7_fill_53178 3 = .ok (.arraylength, 1) := by decide +kernel
theorem dJ7_fill_53178_4 : decode cJ7_fill_53178 4 = .ok (.istore_n 3, 1) := by decide +kernel
theorem dJ7_fill_53178_5 : decode cJ7_fill_53178 5 = .ok (.iload_n 2, 1) := by decide +kernel
theorem dJ7_fill_53178_6 : decode cJ7_fill_53178 6 = .ok (.iload_n 3, 1) := by decide +kernel
theorem dJ7_fill_53178_7 : decode cJ7_fill_53178 7 = .ok (.if_icmp .ge 13, 3) := by decide +kernel
theorem dJ7_fill_53178_10 : decode cJ7_fill_53178 10 = .ok (.aload_n 0, 1) := by decide +kernel
theorem dJ7_fill_53178_11 : decode cJ7_fill_53178 11 = .ok (.iload_n 2, 1) := by decide +kernel
theorem dJ7_fill_53178_12 : decode cJ7_fill_53178 12 = .ok (.iload_n 1, 1) := by decide +kernel
theorem dJ7_fill_53178_13 : decode cJ7_fill_53178 13 = .ok (.iastore, 1) := by decide +kernel
theorem dJ7_fill_53178_14 : decode cJ7_fill_53178 14 = .ok (.iinc 2 1, 3) := by decide +kernel
theorem dJ7_fill_53178_17 : decode cJ7_fill_53178 17 = .ok (.goto (-12), 3) := by decide +kernel
theorem dJ7_fill_53178_20 : decode cJ7_fill_53178 20 = .ok (.return_, 1) := by decide +kernel
set_option maxHeartbeats 4000000 in
set_option maxRecDepth 100000 in
theorem c_J7_fill_53178 {l : Launch} {g : GW} {z : Nat} {v : Int32} (μ : Mm) (hz : z < 88) (hzt : kt z = 10) : Con l g yJ7_fill_53178 cJ7_fill_53178 4 none 0 [.ref z, .int v] μ (fun r μ' => r = none ∧ (∀ j, j < kn z → μ'.1 z j = v) ∧ FrM (fun k => k = z) μ μ') := by
  have hkn := kn_lt z
  refine Con.of [.ref z, .int v, .null, .null] 2 (by decide +kernel) (Nat.le_of_ble_eq_true rfl) rfl ?_
  refine V_iconst (pc := 0) (v := 0) dJ7_fill_53178_0 (by decide) ?_
  refine V_istore2 (pc := 1) dJ7_fill_53178_1 (by decide) rfl ?_
  refine V_aload_n (pc := 2) dJ7_fill_53178_2 rfl rfl ?_
  refine V_alen (pc := 3) dJ7_fill_53178_3 (by first | decide | omega) (by first | rfl | assumption | decide) ?_
  refine V_istore3 (pc := 4) dJ7_fill_53178_4 (by decide) rfl ?_
  have loop : ∀ (n i : Nat) (μ1 : Mm), i ≤ kn z → kn z < i + n → (∀ j, j < i → μ1.1 z j = v) → (FrM (fun k => k = z) μ μ1) → V l g RJ7 cJ7_fill_53178 4 none 0 5 [.ref z, .int v, .int (nI i), .int (nI (kn z))] [] μ1 (fun r μ' => r = none ∧ (∀ j, j < kn z → μ'.1 z j = v) ∧ FrM (fun k => k = z) μ μ') := by
    intro n
    induction n with
    | zero => intro i μ1 h1 h2; exact absurd h2 (by omega)
    | succ n ih =>
      intro i μ1 hle hfu hv hF
      refine V_iload_n (pc := 5) dJ7_fill_53178_5 rfl rfl ?_
      refine V_iload_n (pc := 6) dJ7_fill_53178_6 rfl rfl ?_
      refine V_icmpge (pc := 7) (tgt := 20) dJ7_fill_53178_7 (by decide) (fun h7 => ?_) (fun h7 => ?_)
      · have h7 := (nI_leI (a := kn z) (b := i) (by omega) (by omega)).mp h7; obtain rfl : i = kn z := by omega
        refine V_vret (pc := 20) dJ7_fill_53178_20 rfl ?_
        exact ⟨rfl, hv, hF⟩
      have hlt : i < kn z := nI_l3 (by omega) (by omega) h7
      refine V_aload_n (pc := 10) dJ7_fill_53178_10 rfl rfl ?_
      refine V_iload_n (pc := 11) dJ7_fill_53178_11 rfl rfl ?_
      refine V_iload_n (pc := 12) dJ7_fill_53178_12 rfl rfl ?_
      refine V_iast (pc := 13) (j := i) dJ7_fill_53178_13 (by first | decide | omega) (by first | rfl | assumption | decide) rfl hlt ?_
      refine V_iinc2 (pc := 14) (v := nI (i + 1)) dJ7_fill_53178_14 (nI_1 i) (by decide) rfl ?_
      refine V_goto (pc := 17) (tgt := 5) dJ7_fill_53178_17 (by decide) ?_
      refine ih (i + 1) _ (by omega) (by omega) (fun j hj => ?_) (FrM.set hF rfl)
      by_cases e : j = i
      · rw [e]; exact get_eq
      · rw [get_ne (fun q => e q.2)]; exact hv j (by omega)
  exact loop (kn z + 1) 0 _ (by omega) (by omega) (fun j hj => absurd hj (by omega)) FrM.rf
theorem dX0_clear_0 : decode cX0_clear 0 = .ok (.iconst 0, 1) := by decide +kernel
theorem dX0_clear_1 : decode cX0_clear 1 = .ok (.istore_n 1, 1) := by decide +kernel
theorem dX0_clear_2 : decode cX0_clear 2 = .ok (.iload_n 1, 1) := by decide +kernel
theorem dX0_clear_3 : decode cX0_clear 3 = .ok (.iconst 4, 1) := by decide +kernel
theorem dX0_clear_4 : decode cX0_clear 4 = .ok (.if_icmp .ge 19, 3) := by decide +kernel
theorem dX0_clear_7 : decode cX0_clear 7 = .ok (.aload_n 0, 1) := by decide +kernel
theorem dX0_clear_8 : decode cX0_clear 8 = .ok (.getfield 11, 3) := by decide +kernel
theorem dX0_clear_11 : decode cX0_clear 11 = .ok (.iload_n 1, 1) := by decide +kernel
theorem dX0_clear_12 : decode cX0_clear 12 = .ok (.aaload, 1) := by decide +kernel
theorem dX0_clear_13 : decode cX0_clear 13 = .ok (.iconst 0, 1) := by decide +kernel
theorem dX0_clear_14 : decode cX0_clear 14 = .ok (.invokestatic 23, 3) := by decide +kernel
theorem dX0_clear_17 : decode cX0_clear 17 = .ok (.iinc 1 1, 3) := by decide +kernel
theorem dX0_clear_20 : decode cX0_clear 20 = .ok (.goto (-18), 3) := by decide +kernel
theorem dX0_clear_23 : decode cX0_clear 23 = .ok (.aload_n 0, 1) := by decide +kernel
theorem dX0_clear_24 : decode cX0_clear 24 = .ok (.getfield 11, 3) := by decide +kernel
theorem dX0_clear_27 : decode cX0_clear 27 = .ok (.iconst 4, 1) := by decide +kernel
theorem dX0_clear_28 : decode cX0_clear 28 = .ok (.aaload, 1) := by decide +kernel
theorem dX0_clear_29 : decode cX0_clear 29 = .ok (.bipush 10, 2) := by decide +kernel
theorem dX0_clear_31 : decode cX0_clear 31 = .ok (.invokestatic 23, 3) := by decide +kernel
theorem dX0_clear_34 : decode cX0_clear 34 = .ok (.aload_n 0, 1) := by decide +kernel
theorem dX0_clear_35 : decode cX0_clear 35 = .ok (.getfield 16, 3) := by decide +kernel
theorem dX0_clear_38 : decode cX0_clear 38 = .ok (.iconst (-1), 1) := by decide +kernel
theorem dX0_clear_39 : decode cX0_clear 39 = .ok (.invokestatic 23, 3) := by decide +kernel
theorem dX0_clear_42 : decode cX0_clear 42 = .ok (.return_, 1) := by decide +kernel
set_option maxHeartbeats 4000000 in
set_option maxRecDepth 100000 in
theorem c_X0_clear {l : Launch} {g : GW} {b : Nat} (μ : Mm) (hb : b = 49 ∨ b = 57) : Con l g yX0_clear cX0_clear 2 none 1 [.ref b] μ (fun r μ' => r = none ∧ BkR μ' b (fun w _ => if w = 4 then 10 else 0) (fun _ => 0) ∧ FrM (fun k => b + 2 ≤ k ∧ k ≤ b + 7) μ μ') := by
  obtain ⟨hb1, hb2, hb3, hb4, hb5, hb6, hrow⟩ := bkF hb
  refine Con.of [.ref b, .null] 1 (by decide +kernel) (Nat.le_of_ble_eq_true rfl) rfl ?_
  refine V_iconst (pc := 0) (v := 0) dX0_clear_0 (by decide) ?_
  refine V_istore1 (pc := 1) dX0_clear_1 (by decide) rfl ?_
  have loop : ∀ (n i : Nat) (μ1 : Mm), i ≤ 4 → 4 < i + n → (∀ w, w < i → ∀ s, s < 3 → μ1.1 (b + 1 + 1 + w) s = 0) → (FrM (fun k => b + 2 ≤ k ∧ k ≤ b + 7) μ μ1) → V l g RX0 cX0_clear 2 none 1 2 [.ref b, .int (nI i)] [] μ1 (fun r μ' => r = none ∧ BkR μ' b (fun w _ => if w = 4 then 10 else 0) (fun _ => 0) ∧ FrM (fun k => b + 2 ≤ k ∧ k ≤ b + 7) μ μ') := by
    intro n
    induction n with
    | zero => intro i μ1 h1 h2; exact absurd h2 (by omega)
    | succ n ih =>
      intro i μ1 hle hfu hv hF
      refine V_iload_n (pc := 2) dX0_clear_2 rfl rfl ?_
      refine V_iconst (pc := 3) (v := 4) dX0_clear_3 (by decide) ?_
      refine V_icmpge (pc := 4) (tgt := 23) dX0_clear_4 (by decide) (fun h4 => ?_) (fun h4 => ?_)
      · have h4 := (nI_leI (a := 4) (b := i) (by decide) (by omega)).mp h4; obtain rfl : i = 4 := by omega
        refine V_aload_n (pc := 23) dX0_clear_23 rfl rfl ?_
        refine V_getR (pc := 24) (ci := 0) (j := 0) (k2 := (b + 1)) dX0_clear_24 fl_X0_11 (fun _ _ _ _ => rfl) (by first | decide | omega) (by first | rfl | assumption | exact (hrow _ (by omega)).2.1 | decide) (rf_0_0 (by first | rfl | assumption | exact (hrow _ (by omega)).2.1 | decide)) ?_
        refine V_iconst (pc := 27) (v := 4) dX0_clear_27 (by decide) ?_
        refine V_aald15 (pc := 28) (j := 4) dX0_clear_28 (by first | decide | omega) (by first | rfl | assumption | exact (hrow _ (by omega)).2.1 | decide) rfl (by omega) ?_
        refine V_bipush (pc := 29) (v := 10) dX0_clear_29 (by decide) ?_
        refine V_ins2 (pc := 31) dX0_clear_31 ml_X0_23 (by first | decide | omega) (Nat.le_of_ble_eq_true rfl) (c_J7_fill_53178 μ1 (hrow 4 (by omega)).1 (hrow 4 (by omega)).2.1) ?_
        rintro _ μ2 ⟨rfl, hv2, hF2⟩
        refine V_aload_n (pc := 34) dX0_clear_34 rfl rfl ?_
        refine V_getR (pc := 35) (ci := 0) (j := 1) (k2 := (b + 7)) dX0_clear_35 fl_X0_16 (fun _ _ _ _ => rfl) (by first | decide | omega) (by first | rfl | assumption | exact (hrow _ (by omega)).2.1 | decide) (rf_0_1 (by first | rfl | assumption | exact (hrow _ (by omega)).2.1 | decide)) ?_
        refine V_iconst (pc := 38) (v := (-1)) dX0_clear_38 (by decide) ?_
        refine V_ins2 (pc := 39) dX0_clear_39 ml_X0_23 (by first | decide | omega) (Nat.le_of_ble_eq_true rfl) (c_J7_fill_53178 μ2 (by omega) hb5) ?_
        rintro _ μ3 ⟨rfl, hv3, hF3⟩
        refine V_vret (pc := 42) dX0_clear_42 rfl ?_
        refine ⟨rfl, ⟨fun w s hw hs => ?_, fun n hn => ?_, fun n hn => Nat.zero_le 4, fun s hs => by simp⟩, (hF.tr hF2 (fun k hk => by have : k = b + 1 + 1 + 4 := hk; omega)).tr hF3 (fun k hk => by have : k = b + 7 := hk; omega)⟩
        · rw [hF3.1 _ (fun q => by have : b + 1 + 1 + w = b + 7 := q; omega)]
          by_cases e : w = 4
          · subst e
            exact hv2 s (by have := (hrow 4 (by omega)).2.2; omega)
          · rw [hF2.1 _ (fun q => e (by have : b + 1 + 1 + w = b + 1 + 1 + 4 := q; omega))]
            show _ = nI (if w = 4 then 10 else 0)
            rw [if_neg e]
            exact hv w (by omega) s hs
        · rw [hv3 n (by omega)]; rfl
      have hlt : i < 4 := nI_l3 (a := 4) (by decide) (by omega) h4
      refine V_aload_n (pc := 7) dX0_clear_7 rfl rfl ?_
      refine V_getR (pc := 8) (ci := 0) (j := 0) (k2 := (b + 1)) dX0_clear_8 fl_X0_11 (fun _ _ _ _ => rfl) (by first | decide | omega) (by first | rfl | assumption | exact (hrow _ (by omega)).2.1 | decide) (rf_0_0 (by first | rfl | assumption | exact (hrow _ (by omega)).2.1 | decide)) ?_
      refine V_iload_n (pc := 11) dX0_clear_11 rfl rfl ?_
      refine V_aald15 (pc := 12) (j := i) dX0_clear_12 (by first | decide | omega) (by first | rfl | assumption | exact (hrow _ (by omega)).2.1 | decide) rfl (by omega) ?_
      refine V_iconst (pc := 13) (v := 0) dX0_clear_13 (by decide) ?_
      refine V_ins2 (pc := 14) dX0_clear_14 ml_X0_23 (by first | decide | omega) (Nat.le_of_ble_eq_true rfl) (c_J7_fill_53178 μ1 (hrow i (by omega)).1 (hrow i (by omega)).2.1) ?_
      rintro _ μ2 ⟨rfl, hv2, hF2⟩
      refine V_iinc1 (pc := 17) (v := nI (i + 1)) dX0_clear_17 (nI_1 i) (by decide) rfl ?_
      refine V_goto (pc := 20) (tgt := 2) dX0_clear_20 (by decide) ?_
      refine ih (i + 1) μ2 (by omega) (by omega) (fun w hw s hs => ?_) (hF.tr hF2 (fun k hk => by have : k = b + 1 + 1 + i := hk; omega))
      by_cases e : w = i
      · rw [e]; exact hv2 s (by have := (hrow i (by omega)).2.2; omega)
      · rw [hF2.1 _ (fun q => e (by have : b + 1 + 1 + w = b + 1 + 1 + i := q; omega))]; exact hv w (by omega) s hs
  exact loop (4 + 1) 0 _ (by omega) (by omega) (fun j hj => absurd hj (by omega)) FrM.rf
theorem dX1_begin_0 : decode cX1_begin 0 = .ok (.aload_n 0, 1) := by decide +kernel
theorem dX1_begin_1 : decode cX1_begin 1 = .ok (.iload_n 2, 1) := by decide +kernel
theorem dX1_begin_2 : decode cX1_begin 2 = .ok (.putfield 23, 3) := by decide +kernel
theorem dX1_begin_5 : decode cX1_begin 5 = .ok (.iconst 1, 1) := by decide +kernel
theorem dX1_begin_6 : decode cX1_begin 6 = .ok (.istore 4, 2) := by decide +kernel
theorem dX1_begin_8 : decode cX1_begin 8 = .ok (.iload 4, 2) := by decide +kernel
theorem dX1_begin_10 : decode cX1_begin 10 = .ok (.iload_n 3, 1) := by decide +kernel
theorem dX1_begin_11 : decode cX1_begin 11 = .ok (.if_icmp .gt 20, 3) := by decide +kernel
theorem dX1_begin_14 : decode cX1_begin 14 = .ok (.aload_n 0, 1) := by decide +kernel
theorem dX1_begin_15 : decode cX1_begin 15 = .ok (.getfield 11, 3) := by decide +kernel
theorem dX1_begin_18 : decode cX1_begin 18 = .ok (.iload 4, 2) := by decide +kernel
theorem dX1_begin_20 : decode cX1_begin 20 = .ok (.aaload, 1) := by decide +kernel
theorem dX1_begin_21 : decode cX1_begin 21 = .ok (.iconst (-1), 1) := by decide +kernel
theorem dX1_begin_22 : decode cX1_begin 22 = .ok (.invokestatic 27, 3) := by decide +kernel
theorem dX1_begin_25 : decode cX1_begin 25 = .ok (.iinc 4 1, 3) := by decide +kernel
theorem dX1_begin_28 : decode cX1_begin 28 = .ok (.goto (-20), 3) := by decide +kernel
theorem dX1_begin_31 : decode cX1_begin 31 = .ok (.iconst 0, 1) := by decide +kernel
theorem dX1_begin_32 : decode cX1_begin 32 = .ok (.istore 4, 2) := by decide +kernel
theorem dX1_begin_34 : decode cX1_begin 34 = .ok (.iload 4, 2) := by decide +kernel
theorem dX1_begin_36 : decode cX1_begin 36 = .ok (.iconst 3, 1) := by decide +kernel
theorem dX1_begin_37 : decode cX1_begin 37 = .ok (.if_icmp .ge 61, 3) := by decide +kernel
theorem dX1_begin_40 : decode cX1_begin 40 = .ok (.aload_n 0, 1) := by decide +kernel
theorem dX1_begin_41 : decode cX1_begin 41 = .ok (.getfield 19, 3) := by decide +kernel
theorem dX1_begin_44 : decode cX1_begin 44 = .ok (.iload 4, 2) := by decide +kernel
theorem dX1_begin_46 : decode cX1_begin 46 = .ok (.aload_n 1, 1) := by decide +kernel
theorem dX1_begin_47 : decode cX1_begin 47 = .ok (.getfield 33, 3) := by decide +kernel
theorem dX1_begin_50 : decode cX1_begin 50 = .ok (.iconst 4, 1) := by decide +kernel
theorem dX1_begin_51 : decode cX1_begin 51 = .ok (.aaload, 1) := by decide +kernel
theorem dX1_begin_52 : decode cX1_begin 52 = .ok (.iload 4, 2) := by decide +kernel
theorem dX1_begin_54 : decode cX1_begin 54 = .ok (.iaload, 1) := by decide +kernel
theorem dX1_begin_55 : decode cX1_begin 55 = .ok (.iastore, 1) := by decide +kernel
theorem dX1_begin_56 : decode cX1_begin 56 = .ok (.iconst (-1), 1) := by decide +kernel
theorem dX1_begin_57 : decode cX1_begin 57 = .ok (.istore 5, 2) := by decide +kernel
theorem dX1_begin_59 : decode cX1_begin 59 = .ok (.iload 5, 2) := by decide +kernel
theorem dX1_begin_61 : decode cX1_begin 61 = .ok (.bipush 6, 2) := by decide +kernel
theorem dX1_begin_63 : decode cX1_begin 63 = .ok (.if_icmp .ge 29, 3) := by decide +kernel
theorem dX1_begin_66 : decode cX1_begin 66 = .ok (.aload_n 0, 1) := by decide +kernel
theorem dX1_begin_67 : decode cX1_begin 67 = .ok (.getfield 16, 3) := by decide +kernel
theorem dX1_begin_70 : decode cX1_begin 70 = .ok (.iload 5, 2) := by decide +kernel
theorem dX1_begin_72 : decode cX1_begin 72 = .ok (.iconst 1, 1) := by decide +kernel
theorem dX1_begin_73 : decode cX1_begin 73 = .ok (.iadd, 1) := by decide +kernel
theorem dX1_begin_74 : decode cX1_begin 74 = .ok (.aaload, 1) := by decide +kernel
theorem dX1_begin_75 : decode cX1_begin 75 = .ok (.iload 4, 2) := by decide +kernel
theorem dX1_begin_77 : decode cX1_begin 77 = .ok (.aload_n 1, 1) := by decide +kernel
theorem dX1_begin_78 : decode cX1_begin 78 = .ok (.iload 5, 2) := by decide +kernel
theorem dX1_begin_80 : decode cX1_begin 80 = .ok (.iload 4, 2) := by decide +kernel
theorem dX1_begin_82 : decode cX1_begin 82 = .ok (.invokevirtual 38, 3) := by decide +kernel
theorem dX1_begin_85 : decode cX1_begin 85 = .ok (.iastore, 1) := by decide +kernel
theorem dX1_begin_86 : decode cX1_begin 86 = .ok (.iinc 5 1, 3) := by decide +kernel
theorem dX1_begin_89 : decode cX1_begin 89 = .ok (.goto (-30), 3) := by decide +kernel
theorem dX1_begin_92 : decode cX1_begin 92 = .ok (.iinc 4 1, 3) := by decide +kernel
theorem dX1_begin_95 : decode cX1_begin 95 = .ok (.goto (-61), 3) := by decide +kernel
theorem dX1_begin_98 : decode cX1_begin 98 = .ok (.return_, 1) := by decide +kernel
set_option maxHeartbeats 4000000 in
set_option maxRecDepth 100000 in
theorem c_X1_begin {l : Launch} {g : GW} {b : Nat} {tn : Nat → Nat → Nat} {ow : Nat → Nat} {κ N : Nat} (μ : Mm) (hb : b = 49 ∨ b = 57) (hB : BkR μ b tn ow) (hκ : κ ≤ 4) (hN : N ≤ 4) : Con l g yX1_begin cX1_begin 6 none 2 [.ref 33, .ref b, .int (nI κ), .int (nI N)] μ (fun r μ' => r = none ∧ FcR μ' tn ow κ ∧ MmR μ' tn ow κ N ∧ FrM (fun k => 33 ≤ k ∧ k ≤ 48) μ μ') := by
  obtain ⟨hb1, hb2, hb3, hb4, hb5, hb6, hrow⟩ := bkF hb
  refine Con.of [.ref 33, .ref b, .int (nI κ), .int (nI N), .null, .null] 2 (by decide +kernel) (Nat.le_of_ble_eq_true rfl) rfl ?_
  refine V_aload_n (pc := 0) dX1_begin_0 rfl rfl ?_
  refine V_iload_n (pc := 1) dX1_begin_1 rfl rfl ?_
  refine V_putI (pc := 2) (ci := 1) (j := 3) dX1_begin_2 fl_X1_23 (fun _ _ _ _ _ => rfl) rfl rfl (by decide) rfl ?_
  refine V_iconst (pc := 5) (v := 1) dX1_begin_5 (by decide) ?_
  refine V_istore4 (pc := 6) dX1_begin_6 (by decide) rfl ?_
  have loopA : ∀ (nA i : Nat) (μ1 : Mm), i ≤ N + 1 → N + 1 < i + nA → (∀ d, 1 ≤ d → d < i → ∀ j, j < 640 → μ1.1 (35 + d) j = -1) → (FrM (fun k => 33 ≤ k ∧ k ≤ 48) μ μ1) → (μ1.1 33 3 = nI κ) → (1 ≤ i) → V l g RX1 cX1_begin 6 none 2 8 [.ref 33, .ref b, .int (nI κ), .int (nI N), .int (nI i), .null] [] μ1 (fun r μ' => r = none ∧ FcR μ' tn ow κ ∧ MmR μ' tn ow κ N ∧ FrM (fun k => 33 ≤ k ∧ k ≤ 48) μ μ') := by
    intro nA
    induction nA with
    | zero => intro i μ1 h1 h2; exact absurd h2 (by omega)
    | succ nA ihA =>
      intro i μ1 hleA hfuA hv hF hk3 hi1
      refine V_iload (pc := 8) dX1_begin_8 rfl ?_
      refine V_iload_n (pc := 10) dX1_begin_10 rfl rfl ?_
      refine V_icmpgt (pc := 11) (tgt := 31) dX1_begin_11 (by decide) (fun h11 => ?_) (fun h11 => ?_)
      · have h11 := (nI_ltI (a := N) (b := i) (by omega) (by omega)).mp h11; obtain rfl : i = N + 1 := by omega
        refine V_iconst (pc := 31) (v := 0) dX1_begin_31 (by decide) ?_
        refine V_istore4 (pc := 32) dX1_begin_32 (by decide) rfl ?_
        have loopB : ∀ (nB s : Nat) (μ2 : Mm) (y5 : Value), s ≤ 3 → 3 < s + nB → (∀ d, 1 ≤ d → d ≤ N → ∀ j, j < 640 → μ2.1 (35 + d) j = -1) → (FrM (fun k => 33 ≤ k ∧ k ≤ 48) μ μ2) → (μ2.1 33 3 = nI κ) → (∀ k t, k < 7 → t < s → μ2.1 (41 + k) t = nI (favT tn ow k t 4)) → (∀ t, t < s → μ2.1 48 t = nI (tn 4 t)) → V l g RX1 cX1_begin 6 none 2 34 [.ref 33, .ref b, .int (nI κ), .int (nI N), .int (nI s), y5] [] μ2 (fun r μ' => r = none ∧ FcR μ' tn ow κ ∧ MmR μ' tn ow κ N ∧ FrM (fun k => 33 ≤ k ∧ k ≤ 48) μ μ') := by
          intro nB
          induction nB with
          | zero => intro s μ2 y5 h1 h2; exact absurd h2 (by omega)
          | succ nB ihB =>
            intro s μ2 y5 hleB hfuB hv2 hF2 hk2 ha2 hc2
            refine V_iload (pc := 34) dX1_begin_34 rfl ?_
            refine V_iconst (pc := 36) (v := 3) dX1_begin_36 (by decide) ?_
            refine V_icmpge (pc := 37) (tgt := 98) dX1_begin_37 (by decide) (fun h37 => ?_) (fun h37 => ?_)
            · have h37 := (nI_leI (a := 3) (b := s) (by decide) (by omega)).mp h37; obtain rfl : s = 3 := by omega
              refine V_vret (pc := 98) dX1_begin_98 rfl ?_
              exact ⟨rfl, ⟨hk2, hκ, fun k s hk hs => ha2 k s hk hs, fun s hs => hc2 s hs⟩, fun d p F h1 h2 h3 h4 => Or.inl (hv2 d h1 h2 _ (by omega)), hF2⟩
            have hlt : s < 3 := nI_l3 (a := 3) (by decide) (by omega) h37
            refine V_aload_n (pc := 40) dX1_begin_40 rfl rfl ?_
            refine V_getR (pc := 41) (ci := 1) (j := 2) (k2 := 48) dX1_begin_41 fl_X1_19 (fun _ _ _ _ => rfl) (by decide) rfl (rf_1_2 rfl) ?_
            refine V_iload (pc := 44) dX1_begin_44 rfl ?_
            refine V_aload_n (pc := 46) dX1_begin_46 rfl rfl ?_
            refine V_getR (pc := 47) (ci := 0) (j := 0) (k2 := (b + 1)) dX1_begin_47 fl_X1_33 (fun _ _ _ _ => rfl) (by first | decide | omega) (by first | rfl | assumption | exact (hrow _ (by omega)).2.1 | exact (fcF _ (by omega)).1 | exact (fcA _ (by omega)).1 | decide) (rf_0_0 (by first | rfl | assumption | exact (hrow _ (by omega)).2.1 | exact (fcF _ (by omega)).1 | exact (fcA _ (by omega)).1 | decide)) ?_
            refine V_iconst (pc := 50) (v := 4) dX1_begin_50 (by decide) ?_
            refine V_aald15 (pc := 51) (j := 4) dX1_begin_51 (by first | decide | omega) (by first | rfl | assumption | exact (hrow _ (by omega)).2.1 | exact (fcF _ (by omega)).1 | exact (fcA _ (by omega)).1 | decide) rfl (by omega) ?_
            refine V_iload (pc := 52) dX1_begin_52 rfl ?_
            refine V_iald (pc := 54) (j := s) dX1_begin_54 (by first | decide | omega) (by first | rfl | assumption | exact (hrow _ (by omega)).2.1 | exact (fcF _ (by omega)).1 | exact (fcA _ (by omega)).1 | decide) rfl (by have := (hrow 4 (by omega)).2.2; omega) ?_
            rw [(hB.kept hF2 (fun k h1 h2 q => by omega)).1 4 s (by omega) (by omega)]
            refine V_iast (pc := 55) (j := s) dX1_begin_55 (by decide) rfl rfl (by show s < 3; omega) ?_
            refine V_iconst (pc := 56) (v := (-1)) dX1_begin_56 (by decide) ?_
            refine V_istore5 (pc := 57) dX1_begin_57 (by decide) rfl ?_
            have hcc : ∀ t, t < s + 1 → (setI μ2 48 s (nI (tn 4 s))).1 48 t = nI (tn 4 t) := by
              intro t ht
              by_cases e : t = s
              · rw [e]; exact get_eq
              · rw [get_ne (fun q => e q.2)]; exact hc2 t (by omega)
            have loopC : ∀ (nC k : Nat) (μ3 : Mm), k ≤ 7 → 7 < k + nC → (∀ d, 1 ≤ d → d ≤ N → ∀ j, j < 640 → μ3.1 (35 + d) j = -1) → (FrM (fun k => 33 ≤ k ∧ k ≤ 48) μ μ3) → (μ3.1 33 3 = nI κ) → (∀ q t, q < 7 → t < s → μ3.1 (41 + q) t = nI (favT tn ow q t 4)) → (∀ q, q < k → μ3.1 (41 + q) s = nI (favT tn ow q s 4)) → (∀ t, t < s + 1 → μ3.1 48 t = nI (tn 4 t)) → V l g RX1 cX1_begin 6 none 2 59 [.ref 33, .ref b, .int (nI κ), .int (nI N), .int (nI s), .int (cI k)] [] μ3 (fun r μ' => r = none ∧ FcR μ' tn ow κ ∧ MmR μ' tn ow κ N ∧ FrM (fun k => 33 ≤ k ∧ k ≤ 48) μ μ') := by
              intro nC
              induction nC with
              | zero => intro k μ3 h1 h2; exact absurd h2 (by omega)
              | succ nC ihC =>
                intro k μ3 hleC hfuC hv3 hF3 hk3 ha3 hb3 hc3
                refine V_iload (pc := 59) dX1_begin_59 rfl ?_
                refine V_bipush (pc := 61) (v := 6) dX1_begin_61 (by decide) ?_
                refine V_icmpge (pc := 63) (tgt := 92) dX1_begin_63 (by decide) (fun h63 => ?_) (fun h63 => ?_)
                · rw [show (6 : Int32) = cI 7 from rfl] at h63; have h63 : 7 ≤ k := cI_le (by omega) (by omega) h63; obtain rfl : k = 7 := by omega
                  refine V_iinc4 (pc := 92) (v := nI (s + 1)) dX1_begin_92 (nI_1 s) (by decide) rfl ?_
                  refine V_goto (pc := 95) (tgt := 34) dX1_begin_95 (by decide) ?_
                  refine ihB (s + 1) μ3 _ (by omega) (by omega) hv3 hF3 hk3 (fun q t h1 h2 => ?_) hc3
                  by_cases e : t = s
                  · rw [e]; exact hb3 q h1
                  · exact ha3 q t h1 (by omega)
                have hltk : k < 7 := by rcases Nat.lt_or_ge k 7 with q | q; exact q; exact absurd (cI_le2 (a := 7) (b := k) (by omega) (by omega) q) h63
                refine V_aload_n (pc := 66) dX1_begin_66 rfl rfl ?_
                refine V_getR (pc := 67) (ci := 1) (j := 1) (k2 := 40) dX1_begin_67 fl_X1_16 (fun _ _ _ _ => rfl) (by decide) rfl (rf_1_1 rfl) ?_
                refine V_iload (pc := 70) dX1_begin_70 rfl ?_
                refine V_iconst (pc := 72) (v := 1) dX1_begin_72 (by decide) ?_
                refine V_iadd (pc := 73) dX1_begin_73 ?_
                refine V_aald15 (pc := 74) (j := k) dX1_begin_74 (by decide) rfl (cI_1 k) (by show k < 7; omega) ?_
                refine V_iload (pc := 75) dX1_begin_75 rfl ?_
                refine V_aload_n (pc := 77) dX1_begin_77 rfl rfl ?_
                refine V_iload (pc := 78) dX1_begin_78 rfl ?_
                refine V_iload (pc := 80) dX1_begin_80 rfl ?_
                refine V_inv2 (pc := 82) (ci := 0) dX1_begin_82 ml_X1_38 (by first | decide | omega) (by first | rfl | assumption | exact (hrow _ (by omega)).2.1 | exact (fcF _ (by omega)).1 | exact (fcA _ (by omega)).1 | decide) ⟨by decide, rfl⟩ (by decide) (Nat.le_of_ble_eq_true rfl) (c_X0_favour μ3 hb (hB.kept hF3 (fun k h1 h2 q => by omega)) (show k ≤ 6 by omega) (show s ≤ 2 by omega)) ?_
                rintro _ μ2 ⟨rfl, hμ⟩
                obtain rfl := hμ.symm
                refine V_iast (pc := 85) (j := s) dX1_begin_85 (by first | decide | omega) (by first | rfl | assumption | exact (hrow _ (by omega)).2.1 | exact (fcF _ (by omega)).1 | exact (fcA _ (by omega)).1 | decide) rfl (by have := (fcA k (by omega)).2; show s < kn (41 + k); omega) ?_
                refine V_iinc5 (pc := 86) (v := cI (k + 1)) dX1_begin_86 (cI_n k) (by decide) rfl ?_
                refine V_goto (pc := 89) (tgt := 59) dX1_begin_89 (by decide) ?_
                refine ihC (k + 1) _ (by omega) (by omega) (fun d h1 h2 j hj => ?_) (hF3.set (by omega)) ?_ (fun q t h1 h2 => ?_) (fun q hq => ?_) (fun t ht => ?_)
                · rw [get_ne (by omega)]; exact hv3 d h1 h2 j hj
                · rw [get_ne (by omega)]; exact hk3
                · rw [get_ne (by omega)]; exact ha3 q t h1 h2
                · by_cases e : q = k
                  · rw [e]; exact get_eq
                  · rw [get_ne (by omega)]; exact hb3 q (by omega)
                · rw [get_ne (by omega)]; exact hc3 t ht
            exact loopC (7 + 1) 0 _ (by omega) (by omega) (fun d h1 h2 j hj => by rw [get_ne (by omega)]; exact hv2 d h1 h2 j hj) (hF2.set (by omega)) (by rw [get_ne (by omega)]; exact hk2) (fun q t h1 h2 => by rw [get_ne (by omega)]; exact ha2 q t h1 h2) (fun q h => absurd h (by omega)) hcc
        exact loopB (3 + 1) 0 _ _ (by omega) (by omega) (fun d h1 h2 => hv d h1 (by omega)) hF hk3 (fun k t _ h => absurd h (by omega)) (fun t h => absurd h (by omega))
      have h11 := mt (nI_ltI (a := N) (b := i) (by omega) (by omega)).mpr h11
      refine V_aload_n (pc := 14) dX1_begin_14 rfl rfl ?_
      refine V_getR (pc := 15) (ci := 1) (j := 0) (k2 := 34) dX1_begin_15 fl_X1_11 (fun _ _ _ _ => rfl) (by decide) rfl (rf_1_0 rfl) ?_
      refine V_iload (pc := 18) dX1_begin_18 rfl ?_
      refine V_aald15 (pc := 20) (j := i) dX1_begin_20 (by decide) rfl rfl (by show i < 5; omega) ?_
      refine V_iconst (pc := 21) (v := (-1)) dX1_begin_21 (by decide) ?_
      refine V_ins2 (pc := 22) dX1_begin_22 ml_X1_27 (by first | decide | omega) (Nat.le_of_ble_eq_true rfl) (c_J7_fill_53178 μ1 (show 34 + 1 + i < 88 by omega) (fcF i (by omega)).1) ?_
      rintro _ μ2 ⟨rfl, hv2, hF2⟩
      refine V_iinc4 (pc := 25) (v := nI (i + 1)) dX1_begin_25 (nI_1 i) (by decide) rfl ?_
      refine V_goto (pc := 28) (tgt := 8) dX1_begin_28 (by decide) ?_
      refine ihA (i + 1) μ2 (by omega) (by omega) (fun d h1 h2 j hj => ?_) (hF.tr hF2 (fun k hk => by have : k = 34 + 1 + i := hk; omega)) (by rw [hF2.1 33 (fun q => by have : 33 = 34 + 1 + i := q; omega)]; exact hk3) (by omega)
      by_cases e : d = i
      · rw [e]; exact hv2 j (by have := (fcF i (by omega)).2; show j < kn (35 + i); omega)
      · rw [hF2.1 _ (fun q => e (by have : 35 + d = 34 + 1 + i := q; omega))]; exact hv d h1 (by omega) j hj
  exact loopA (N + 1 + 1) 1 _ (by omega) (by omega) (fun d h1 h2 => absurd h2 (by omega)) (FrM.rf.set (by omega)) get_eq (by omega)
end
section

theorem nI_sub2 {a b c : Nat} (h : b + c ≤ a) : nI a - nI b - nI c = nI (a - b - c) := by rw [pk_sub (by omega), pk_sub (by omega)]
theorem nI_m1 (d : Nat) : nI (d + 1) - 1 = nI d := by rw [← nI_1, Int32.add_sub_cancel]
theorem bit_frA : ∀ F, F < 64 → ∀ n, n < 6 → (nI F &&& (((1 : Int32) <<< (nI n &&& 31)) ^^^ (-1))) = nI (clr F n) := bit_clr
theorem mul_le_of {a b A B : Nat} (h : a ≤ A) (h2 : b ≤ B) : a * b ≤ A * B := Nat.mul_le_mul h h2
end
section
theorem dX1_worth_0 : decode cX1_worth 0 = .ok (.iload_n 1, 1) := by decide +kernel
theorem dX1_worth_1 : decode cX1_worth 1 = .ok (.iconst (-1), 1) := by decide +kernel
theorem dX1_worth_2 : decode cX1_worth 2 = .ok (.if_icmp .eq 11, 3) := by decide +kernel
theorem dX1_worth_5 : decode cX1_worth 5 = .ok (.aload_n 0, 1) := by decide +kernel
theorem dX1_worth_6 : decode cX1_worth 6 = .ok (.getfield 23, 3) := by decide +kernel
theorem dX1_worth_9 : decode cX1_worth 9 = .ok (.iconst 4, 1) := by decide +kernel
theorem dX1_worth_10 : decode cX1_worth 10 = .ok (.if_icmp .ne 8, 3) := by decide +kernel
theorem dX1_worth_13 : decode cX1_worth 13 = .ok (.iload 5, 2) := by decide +kernel
theorem dX1_worth_15 : decode cX1_worth 15 = .ok (.goto 11, 3) := by decide +kernel
theorem dX1_worth_18 : decode cX1_worth 18 = .ok (.iload 5, 2) := by decide +kernel
theorem dX1_worth_20 : decode cX1_worth 20 = .ok (.iconst 1, 1) := by decide +kernel
theorem dX1_worth_21 : decode cX1_worth 21 = .ok (.iload_n 1, 1) := by decide +kernel
theorem dX1_worth_22 : decode cX1_worth 22 = .ok (.ishl, 1) := by decide +kernel
theorem dX1_worth_23 : decode cX1_worth 23 = .ok (.iconst (-1), 1) := by decide +kernel
theorem dX1_worth_24 : decode cX1_worth 24 = .ok (.ixor, 1) := by decide +kernel
theorem dX1_worth_25 : decode cX1_worth 25 = .ok (.iand, 1) := by decide +kernel
theorem dX1_worth_26 : decode cX1_worth 26 = .ok (.istore 6, 2) := by decide +kernel
theorem dX1_worth_28 : decode cX1_worth 28 = .ok (.aload_n 0, 1) := by decide +kernel
theorem dX1_worth_29 : decode cX1_worth 29 = .ok (.getfield 16, 3) := by decide +kernel
theorem dX1_worth_32 : decode cX1_worth 32 = .ok (.iload_n 1, 1) := by decide +kernel
theorem dX1_worth_33 : decode cX1_worth 33 = .ok (.iconst 1, 1) := by decide +kernel
theorem dX1_worth_34 : decode cX1_worth 34 = .ok (.iadd, 1) := by decide +kernel
theorem dX1_worth_35 : decode cX1_worth 35 = .ok (.aaload, 1) := by decide +kernel
theorem dX1_worth_36 : decode cX1_worth 36 = .ok (.iload_n 2, 1) := by decide +kernel
theorem dX1_worth_37 : decode cX1_worth 37 = .ok (.iaload, 1) := by decide +kernel
theorem dX1_worth_38 : decode cX1_worth 38 = .ok (.istore 7, 2) := by decide +kernel
theorem dX1_worth_40 : decode cX1_worth 40 = .ok (.aload_n 0, 1) := by decide +kernel
theorem dX1_worth_41 : decode cX1_worth 41 = .ok (.getfield 19, 3) := by decide +kernel
theorem dX1_worth_44 : decode cX1_worth 44 = .ok (.iload_n 2, 1) := by decide +kernel
theorem dX1_worth_45 : decode cX1_worth 45 = .ok (.iaload, 1) := by decide +kernel
theorem dX1_worth_46 : decode cX1_worth 46 = .ok (.istore 8, 2) := by decide +kernel
theorem dX1_worth_48 : decode cX1_worth 48 = .ok (.bipush 10, 2) := by decide +kernel
theorem dX1_worth_50 : decode cX1_worth 50 = .ok (.iload 7, 2) := by decide +kernel
theorem dX1_worth_52 : decode cX1_worth 52 = .ok (.isub, 1) := by decide +kernel
theorem dX1_worth_53 : decode cX1_worth 53 = .ok (.iload 8, 2) := by decide +kernel
theorem dX1_worth_55 : decode cX1_worth 55 = .ok (.isub, 1) := by decide +kernel
theorem dX1_worth_56 : decode cX1_worth 56 = .ok (.istore 9, 2) := by decide +kernel
theorem dX1_worth_58 : decode cX1_worth 58 = .ok (.iconst 0, 1) := by decide +kernel
theorem dX1_worth_59 : decode cX1_worth 59 = .ok (.istore 10, 2) := by decide +kernel
theorem dX1_worth_61 : decode cX1_worth 61 = .ok (.iload 7, 2) := by decide +kernel
theorem dX1_worth_63 : decode cX1_worth 63 = .ok (.ifCond .le 30, 3) := by decide +kernel
theorem dX1_worth_66 : decode cX1_worth 66 = .ok (.iload 10, 2) := by decide +kernel
theorem dX1_worth_68 : decode cX1_worth 68 = .ok (.iload 7, 2) := by decide +kernel
theorem dX1_worth_70 : decode cX1_worth 70 = .ok (.aload_n 0, 1) := by decide +kernel
theorem dX1_worth_71 : decode cX1_worth 71 = .ok (.iload_n 3, 1) := by decide +kernel
theorem dX1_worth_72 : decode cX1_worth 72 = .ok (.iconst 1, 1) := by decide +kernel
theorem dX1_worth_73 : decode cX1_worth 73 = .ok (.isub, 1) := by decide +kernel
theorem dX1_worth_74 : decode cX1_worth 74 = .ok (.aload_n 0, 1) := by decide +kernel
theorem dX1_worth_75 : decode cX1_worth 75 = .ok (.getfield 23, 3) := by decide +kernel
theorem dX1_worth_78 : decode cX1_worth 78 = .ok (.iload 4, 2) := by decide +kernel
theorem dX1_worth_80 : decode cX1_worth 80 = .ok (.iload_n 1, 1) := by decide +kernel
theorem dX1_worth_81 : decode cX1_worth 81 = .ok (.invokestatic 53, 3) := by decide +kernel
theorem dX1_worth_84 : decode cX1_worth 84 = .ok (.iload 6, 2) := by decide +kernel
theorem dX1_worth_86 : decode cX1_worth 86 = .ok (.invokevirtual 57, 3) := by decide +kernel
theorem dX1_worth_89 : decode cX1_worth 89 = .ok (.imul, 1) := by decide +kernel
theorem dX1_worth_90 : decode cX1_worth 90 = .ok (.iadd, 1) := by decide +kernel
theorem dX1_worth_91 : decode cX1_worth 91 = .ok (.istore 10, 2) := by decide +kernel
theorem dX1_worth_93 : decode cX1_worth 93 = .ok (.iload 9, 2) := by decide +kernel
theorem dX1_worth_95 : decode cX1_worth 95 = .ok (.ifCond .le 30, 3) := by decide +kernel
theorem dX1_worth_98 : decode cX1_worth 98 = .ok (.iload 10, 2) := by decide +kernel
theorem dX1_worth_100 : decode cX1_worth 100 = .ok (.iload 9, 2) := by decide +kernel
theorem dX1_worth_102 : decode cX1_worth 102 = .ok (.aload_n 0, 1) := by decide +kernel
theorem dX1_worth_103 : decode cX1_worth 103 = .ok (.iload_n 3, 1) := by decide +kernel
theorem dX1_worth_104 : decode cX1_worth 104 = .ok (.iconst 1, 1) := by decide +kernel
theorem dX1_worth_105 : decode cX1_worth 105 = .ok (.isub, 1) := by decide +kernel
theorem dX1_worth_106 : decode cX1_worth 106 = .ok (.aload_n 0, 1) := by decide +kernel
theorem dX1_worth_107 : decode cX1_worth 107 = .ok (.getfield 23, 3) := by decide +kernel
theorem dX1_worth_110 : decode cX1_worth 110 = .ok (.iload 4, 2) := by decide +kernel
theorem dX1_worth_112 : decode cX1_worth 112 = .ok (.iload_n 1, 1) := by decide +kernel
theorem dX1_worth_113 : decode cX1_worth 113 = .ok (.invokestatic 60, 3) := by decide +kernel
theorem dX1_worth_116 : decode cX1_worth 116 = .ok (.iload 6, 2) := by decide +kernel
theorem dX1_worth_118 : decode cX1_worth 118 = .ok (.invokevirtual 57, 3) := by decide +kernel
theorem dX1_worth_121 : decode cX1_worth 121 = .ok (.imul, 1) := by decide +kernel
theorem dX1_worth_122 : decode cX1_worth 122 = .ok (.iadd, 1) := by decide +kernel
theorem dX1_worth_123 : decode cX1_worth 123 = .ok (.istore 10, 2) := by decide +kernel
theorem dX1_worth_125 : decode cX1_worth 125 = .ok (.iload 8, 2) := by decide +kernel
theorem dX1_worth_127 : decode cX1_worth 127 = .ok (.ifCond .le 22, 3) := by decide +kernel
theorem dX1_worth_130 : decode cX1_worth 130 = .ok (.iload 10, 2) := by decide +kernel
theorem dX1_worth_132 : decode cX1_worth 132 = .ok (.iload 8, 2) := by decide +kernel
theorem dX1_worth_134 : decode cX1_worth 134 = .ok (.aload_n 0, 1) := by decide +kernel
theorem dX1_worth_135 : decode cX1_worth 135 = .ok (.iload_n 3, 1) := by decide +kernel
theorem dX1_worth_136 : decode cX1_worth 136 = .ok (.iconst 1, 1) := by decide +kernel
theorem dX1_worth_137 : decode cX1_worth 137 = .ok (.isub, 1) := by decide +kernel
theorem dX1_worth_138 : decode cX1_worth 138 = .ok (.iload 4, 2) := by decide +kernel
theorem dX1_worth_140 : decode cX1_worth 140 = .ok (.iload 6, 2) := by decide +kernel
theorem dX1_worth_142 : decode cX1_worth 142 = .ok (.invokevirtual 57, 3) := by decide +kernel
theorem dX1_worth_145 : decode cX1_worth 145 = .ok (.imul, 1) := by decide +kernel
theorem dX1_worth_146 : decode cX1_worth 146 = .ok (.iadd, 1) := by decide +kernel
theorem dX1_worth_147 : decode cX1_worth 147 = .ok (.istore 10, 2) := by decide +kernel
theorem dX1_worth_149 : decode cX1_worth 149 = .ok (.iload 10, 2) := by decide +kernel
theorem dX1_worth_151 : decode cX1_worth 151 = .ok (.ireturn, 1) := by decide +kernel
set_option maxHeartbeats 4000000 in
set_option maxRecDepth 100000 in
theorem c_X1_worth {l : Launch} {g : GW} {tn : Nat → Nat → Nat} {ow : Nat → Nat} {κ N d p F : Nat} {k s : Nat} (μ : Mm) (hk : k ≤ 6) (hs : s < 3) (hT : TnOK tn) (hFc : FcR μ tn ow κ) (hMm : MmR μ tn ow κ N) (hd : d + 1 ≤ N) (hN : N ≤ 4) (hp : p ≤ 9) (hF : F < 64) (hch : ∀ (μ : Mm) (p F : Nat), FcR μ tn ow κ → MmR μ tn ow κ N → p ≤ 9 → F < 64 → Con l g yX1_chances cX1_chances 7 (some .int) (3 * d + 1) [.ref 33, .int (nI d), .int (nI p), .int (nI F)] μ (fun r μ' => r = some (.int (nI (chT tn ow κ d p F))) ∧ FcR μ' tn ow κ ∧ MmR μ' tn ow κ N ∧ FrM fnd μ μ')) : Con l g yX1_worth cX1_worth 11 (some .int) (3 * d + 2) [.ref 33, .int (cI k), .int (nI s), .int (nI (d + 1)), .int (nI p), .int (nI F)] μ (fun r μ' => r = some (.int (nI (woT tn ow κ (chT tn ow κ d) p F s k))) ∧ FcR μ' tn ow κ ∧ MmR μ' tn ow κ N ∧ FrM fnd μ μ') := by
  obtain ⟨f1, f2, f3, f4⟩ := id hFc
  have h9 := fav4_le (ow := ow) hT (k := k) hs
  have hF9 := frA_lt (κ := κ) hF hk
  have hcle := fun p F => Nat.le_trans (chT_le (ow := ow) (κ := κ) hT d p F) (p30 (d := d) (by omega))
  refine Con.of [.ref 33, .int (cI k), .int (nI s), .int (nI (d + 1)), .int (nI p), .int (nI F), .null, .null, .null, .null, .null] 5 (by decide +kernel) (Nat.le_of_ble_eq_true rfl) rfl ?_
  have J26 :  V l g RX1 cX1_worth 11 (some .int) (3 * d + 2) 26 [.ref 33, .int (cI k), .int (nI s), .int (nI (d + 1)), .int (nI p), .int (nI F), .null, .null, .null, .null, .null] [.int (nI (frA κ F k))] μ (fun r μ' => r = some (.int (nI (woT tn ow κ (chT tn ow κ d) p F s k))) ∧ FcR μ' tn ow κ ∧ MmR μ' tn ow κ N ∧ FrM fnd μ μ') := by
    refine V_istore6 (pc := 26) dX1_worth_26 (by decide) rfl ?_
    refine V_aload_n (pc := 28) dX1_worth_28 rfl rfl ?_
    refine V_getR (pc := 29) (ci := 1) (j := 1) (k2 := 40) dX1_worth_29 fl_X1_16 (fun _ _ _ _ => rfl) (by decide) rfl (rf_1_1 rfl) ?_
    refine V_iload_n (pc := 32) dX1_worth_32 rfl rfl ?_
    refine V_iconst (pc := 33) (v := 1) dX1_worth_33 (by decide) ?_
    refine V_iadd (pc := 34) dX1_worth_34 ?_
    refine V_aald15 (pc := 35) (j := k) dX1_worth_35 (by decide) rfl (cI_1 k) (by show k < 7; omega) ?_
    refine V_iload_n (pc := 36) dX1_worth_36 rfl rfl ?_
    refine V_iald (pc := 37) (j := s) dX1_worth_37 (by first | decide | omega) (by first | rfl | assumption | exact (fcA _ (by omega)).1 | decide) rfl (by have := (fcA k (by omega)).2; show s < kn (41 + k); omega) ?_
    rw [show μ.1 (40 + 1 + k) s = nI (favT tn ow k s 4) from f3 k s (by omega) hs]
    refine V_istore7 (pc := 38) dX1_worth_38 (by decide) rfl ?_
    refine V_aload_n (pc := 40) dX1_worth_40 rfl rfl ?_
    refine V_getR (pc := 41) (ci := 1) (j := 2) (k2 := 48) dX1_worth_41 fl_X1_19 (fun _ _ _ _ => rfl) (by decide) rfl (rf_1_2 rfl) ?_
    refine V_iload_n (pc := 44) dX1_worth_44 rfl rfl ?_
    refine V_iald (pc := 45) (j := s) dX1_worth_45 (by decide) rfl rfl (by show s < 3; omega) ?_
    rw [f4 s hs]
    refine V_istore8 (pc := 46) dX1_worth_46 (by decide) rfl ?_
    refine V_bipush (pc := 48) (v := 10) dX1_worth_48 (by decide) ?_
    refine V_iload (pc := 50) dX1_worth_50 rfl ?_
    refine V_isub (pc := 52) dX1_worth_52 ?_
    refine V_iload (pc := 53) dX1_worth_53 rfl ?_
    refine V_isub (pc := 55) dX1_worth_55 ?_
    rw [show (10 : Int32) - nI (favT tn ow k s 4) - nI (tn 4 s) = nI (10 - favT tn ow k s 4 - tn 4 s) from nI_sub2 (a := 10) (by omega)]
    refine V_istore9 (pc := 56) dX1_worth_56 (by decide) rfl ?_
    refine V_iconst (pc := 58) (v := 0) dX1_worth_58 (by decide) ?_
    refine V_istore10 (pc := 59) dX1_worth_59 (by decide) rfl ?_
    have J149 : ∀ (μ1 : Mm) (a : Nat), FcR μ1 tn ow κ → MmR μ1 tn ow κ N → FrM fnd μ μ1 → a = woT tn ow κ (chT tn ow κ d) p F s k → V l g RX1 cX1_worth 11 (some .int) (3 * d + 2) 149 [.ref 33, .int (cI k), .int (nI s), .int (nI (d + 1)), .int (nI p), .int (nI F), .int (nI (frA κ F k)), .int (nI (favT tn ow k s 4)), .int (nI (tn 4 s)), .int (nI (10 - favT tn ow k s 4 - tn 4 s)), .int (nI a)] [] μ1 (fun r μ' => r = some (.int (nI (woT tn ow κ (chT tn ow κ d) p F s k))) ∧ FcR μ' tn ow κ ∧ MmR μ' tn ow κ N ∧ FrM fnd μ μ') := by
      intro μ1 a g1 g2 g3 ga
      refine V_iload (pc := 149) dX1_worth_149 rfl ?_
      refine V_iret (pc := 151) dX1_worth_151 rfl ?_
      exact ⟨by rw [ga], g1, g2, g3⟩
    have J125 : ∀ (μ1 : Mm) (a : Nat), FcR μ1 tn ow κ → MmR μ1 tn ow κ N → FrM fnd μ μ1 → a = favT tn ow k s 4 * chT tn ow κ d (ahd κ p k) (frA κ F k) + (10 - favT tn ow k s 4 - tn 4 s) * chT tn ow κ d (bhd κ p k) (frA κ F k) → V l g RX1 cX1_worth 11 (some .int) (3 * d + 2) 125 [.ref 33, .int (cI k), .int (nI s), .int (nI (d + 1)), .int (nI p), .int (nI F), .int (nI (frA κ F k)), .int (nI (favT tn ow k s 4)), .int (nI (tn 4 s)), .int (nI (10 - favT tn ow k s 4 - tn 4 s)), .int (nI a)] [] μ1 (fun r μ' => r = some (.int (nI (woT tn ow κ (chT tn ow κ d) p F s k))) ∧ FcR μ' tn ow κ ∧ MmR μ' tn ow κ N ∧ FrM fnd μ μ') := by
      intro μ1 a g1 g2 g3 ga
      refine V_iload (pc := 125) dX1_worth_125 rfl ?_
      refine V_ifle (pc := 127) (tgt := 149) dX1_worth_127 (by decide) (fun h127 => ?_) (fun h127 => ?_)
      · have h127 := (nI_leI (a := tn 4 s) (b := 0) (by omega) (by decide)).mp h127; have e0 : tn 4 s = 0 := (by omega); exact J149 μ1 a g1 g2 g3 (by unfold woT; rw [ga, e0, Nat.zero_mul]; rfl)
      refine V_iload (pc := 130) dX1_worth_130 rfl ?_
      refine V_iload (pc := 132) dX1_worth_132 rfl ?_
      refine V_aload_n (pc := 134) dX1_worth_134 rfl rfl ?_
      refine V_iload_n (pc := 135) dX1_worth_135 rfl rfl ?_
      refine V_iconst (pc := 136) (v := 1) dX1_worth_136 (by decide) ?_
      refine V_isub (pc := 137) dX1_worth_137 ?_
      rw [nI_m1 d]
      refine V_iload (pc := 138) dX1_worth_138 rfl ?_
      refine V_iload (pc := 140) dX1_worth_140 rfl ?_
      refine V_inv3 (pc := 142) (ci := 1) dX1_worth_142 ml_X1_57 (by decide) rfl ⟨by decide, rfl⟩ (by omega) (Nat.le_of_ble_eq_true rfl) (hch μ1 p (frA κ F k) g1 g2 hp hF9) ?_
      rintro _ μ2 ⟨rfl, k1, k2, k3⟩
      refine V_imul (pc := 145) dX1_worth_145 ?_
      refine V_iadd (pc := 146) dX1_worth_146 ?_
      rw [pk_mul, nI_add]
      refine V_istore10 (pc := 147) dX1_worth_147 (by decide) rfl ?_
      exact J149 μ2 _ k1 k2 (g3.tr k3 (fun _ q => q)) (by unfold woT; rw [ga])
    have J93 : ∀ (μ1 : Mm) (a : Nat), FcR μ1 tn ow κ → MmR μ1 tn ow κ N → FrM fnd μ μ1 → a = favT tn ow k s 4 * chT tn ow κ d (ahd κ p k) (frA κ F k) → V l g RX1 cX1_worth 11 (some .int) (3 * d + 2) 93 [.ref 33, .int (cI k), .int (nI s), .int (nI (d + 1)), .int (nI p), .int (nI F), .int (nI (frA κ F k)), .int (nI (favT tn ow k s 4)), .int (nI (tn 4 s)), .int (nI (10 - favT tn ow k s 4 - tn 4 s)), .int (nI a)] [] μ1 (fun r μ' => r = some (.int (nI (woT tn ow κ (chT tn ow κ d) p F s k))) ∧ FcR μ' tn ow κ ∧ MmR μ' tn ow κ N ∧ FrM fnd μ μ') := by
      intro μ1 a g1 g2 g3 ga
      obtain ⟨q1, q2, q3, q4⟩ := id g1
      refine V_iload (pc := 93) dX1_worth_93 rfl ?_
      refine V_ifle (pc := 95) (tgt := 125) dX1_worth_95 (by decide) (fun h95 => ?_) (fun h95 => ?_)
      · have h95 := (nI_leI (a := 10 - favT tn ow k s 4 - tn 4 s) (b := 0) (by omega) (by decide)).mp h95; have e0 : 10 - favT tn ow k s 4 - tn 4 s = 0 := (by omega); exact J125 μ1 a g1 g2 g3 (by rw [e0, Nat.zero_mul, ga]; rfl)
      refine V_iload (pc := 98) dX1_worth_98 rfl ?_
      refine V_iload (pc := 100) dX1_worth_100 rfl ?_
      refine V_aload_n (pc := 102) dX1_worth_102 rfl rfl ?_
      refine V_iload_n (pc := 103) dX1_worth_103 rfl rfl ?_
      refine V_iconst (pc := 104) (v := 1) dX1_worth_104 (by decide) ?_
      refine V_isub (pc := 105) dX1_worth_105 ?_
      rw [nI_m1 d]
      refine V_aload_n (pc := 106) dX1_worth_106 rfl rfl ?_
      refine V_getI (pc := 107) (ci := 1) (j := 3) dX1_worth_107 fl_X1_23 (fun _ _ _ _ => rfl) (by decide) rfl ?_
      rw [q1]
      refine V_iload (pc := 110) dX1_worth_110 rfl ?_
      refine V_iload_n (pc := 112) dX1_worth_112 rfl rfl ?_
      refine V_ins3 (pc := 113) dX1_worth_113 ml_X1_60 (by first | decide | omega) (Nat.le_of_ble_eq_true rfl) (c_X7_placeBehind μ1 f2 hp hk) ?_
      rintro _ μ2 ⟨rfl, hμ⟩
      obtain rfl := hμ.symm
      refine V_iload (pc := 116) dX1_worth_116 rfl ?_
      refine V_inv3 (pc := 118) (ci := 1) dX1_worth_118 ml_X1_57 (by decide) rfl ⟨by decide, rfl⟩ (by omega) (Nat.le_of_ble_eq_true rfl) (hch μ1 (bhd κ p k) (frA κ F k) g1 g2 (bhd_le hp) hF9) ?_
      rintro _ μ2 ⟨rfl, k1, k2, k3⟩
      refine V_imul (pc := 121) dX1_worth_121 ?_
      refine V_iadd (pc := 122) dX1_worth_122 ?_
      rw [pk_mul, nI_add]
      refine V_istore10 (pc := 123) dX1_worth_123 (by decide) rfl ?_
      exact J125 μ2 _ k1 k2 (g3.tr k3 (fun _ q => q)) (by rw [ga])
    refine V_iload (pc := 61) dX1_worth_61 rfl ?_
    refine V_ifle (pc := 63) (tgt := 93) dX1_worth_63 (by decide) (fun h63 => ?_) (fun h63 => ?_)
    · have h63 := (nI_leI (a := favT tn ow k s 4) (b := 0) (by omega) (by decide)).mp h63; have e0 : favT tn ow k s 4 = 0 := (by omega); exact J93 μ 0 hFc hMm FrM.rf (by rw [e0, Nat.zero_mul])
    refine V_iload (pc := 66) dX1_worth_66 rfl ?_
    refine V_iload (pc := 68) dX1_worth_68 rfl ?_
    refine V_aload_n (pc := 70) dX1_worth_70 rfl rfl ?_
    refine V_iload_n (pc := 71) dX1_worth_71 rfl rfl ?_
    refine V_iconst (pc := 72) (v := 1) dX1_worth_72 (by decide) ?_
    refine V_isub (pc := 73) dX1_worth_73 ?_
    rw [nI_m1 d]
    refine V_aload_n (pc := 74) dX1_worth_74 rfl rfl ?_
    refine V_getI (pc := 75) (ci := 1) (j := 3) dX1_worth_75 fl_X1_23 (fun _ _ _ _ => rfl) (by decide) rfl ?_
    rw [f1]
    refine V_iload (pc := 78) dX1_worth_78 rfl ?_
    refine V_iload_n (pc := 80) dX1_worth_80 rfl rfl ?_
    refine V_ins3 (pc := 81) dX1_worth_81 ml_X1_53 (by first | decide | omega) (Nat.le_of_ble_eq_true rfl) (c_X7_placeAhead μ f2 hp hk) ?_
    rintro _ μ2 ⟨rfl, hμ⟩
    obtain rfl := hμ.symm
    refine V_iload (pc := 84) dX1_worth_84 rfl ?_
    refine V_inv3 (pc := 86) (ci := 1) dX1_worth_86 ml_X1_57 (by decide) rfl ⟨by decide, rfl⟩ (by omega) (Nat.le_of_ble_eq_true rfl) (hch μ (ahd κ p k) (frA κ F k) hFc hMm ahd_le hF9) ?_
    rintro _ μ2 ⟨rfl, g1, g2, g3⟩
    refine V_imul (pc := 89) dX1_worth_89 ?_
    refine V_iadd (pc := 90) dX1_worth_90 ?_
    rw [show (0 : Int32) + nI (favT tn ow k s 4) * nI (chT tn ow κ d (ahd κ p k) (frA κ F k)) = nI (favT tn ow k s 4 * chT tn ow κ d (ahd κ p k) (frA κ F k)) from by rw [pk_mul, show (0 : Int32) = nI 0 from rfl, nI_add, Nat.zero_add]]
    refine V_istore10 (pc := 91) dX1_worth_91 (by decide) rfl ?_
    exact J93 μ2 _ g1 g2 g3 rfl
  refine V_iload_n (pc := 0) dX1_worth_0 rfl rfl ?_
  refine V_iconst (pc := 1) (v := (-1)) dX1_worth_1 (by decide) ?_
  refine V_icmpeq (pc := 2) (tgt := 13) dX1_worth_2 (by decide) (fun h2 => ?_) (fun h2 => ?_)
  · have h2 := (cI_m1 (by omega)).mp h2; have e6 : frA κ F k = F := if_pos (Or.inl h2)
    refine V_iload (pc := 13) dX1_worth_13 rfl ?_
    refine V_goto (pc := 15) (tgt := 26) dX1_worth_15 (by decide) ?_
    first | (rw [e6] at J26; exact J26) | (rw [e6] at J26; rw [show cI k = nI (k - 1) from by rw [← cI_s, Nat.sub_add_cancel (by omega)], bit_clr F hF (k - 1) (by omega)]; rw [show nI (k - 1) = cI k from by rw [← cI_s, Nat.sub_add_cancel (by omega)]]; exact J26)
  have h2 := mt (cI_m1 (a := k) (by omega)).mpr h2
  refine V_aload_n (pc := 5) dX1_worth_5 rfl rfl ?_
  refine V_getI (pc := 6) (ci := 1) (j := 3) dX1_worth_6 fl_X1_23 (fun _ _ _ _ => rfl) (by decide) rfl ?_
  refine V_iconst (pc := 9) (v := 4) dX1_worth_9 (by decide) ?_
  refine V_icmpne (pc := 10) (tgt := 18) dX1_worth_10 (by decide) (fun h10 => ?_) (fun h10 => ?_)
  · rw [f1] at h10; have h10 := mt (nI_eq (a := κ) (b := 4) (by omega) (by decide)).mpr h10; have e6 : frA κ F k = clr F (k - 1) := if_neg (fun q => q.elim h2 h10)
    refine V_iload (pc := 18) dX1_worth_18 rfl ?_
    refine V_iconst (pc := 20) (v := 1) dX1_worth_20 (by decide) ?_
    refine V_iload_n (pc := 21) dX1_worth_21 rfl rfl ?_
    refine V_ishl (pc := 22) dX1_worth_22 ?_
    refine V_iconst (pc := 23) (v := (-1)) dX1_worth_23 (by decide) ?_
    refine V_ixor (pc := 24) dX1_worth_24 ?_
    refine V_iand (pc := 25) dX1_worth_25 ?_
    first | (rw [e6] at J26; exact J26) | (rw [e6] at J26; rw [show cI k = nI (k - 1) from by rw [← cI_s, Nat.sub_add_cancel (by omega)], bit_clr F hF (k - 1) (by omega)]; rw [show nI (k - 1) = cI k from by rw [← cI_s, Nat.sub_add_cancel (by omega)]]; exact J26)
  rw [f1] at h10; have h10 := (nI_eq (a := κ) (b := 4) (by omega) (by decide)).mp h10; have e6 : frA κ F k = F := if_pos (Or.inr h10)
  refine V_iload (pc := 13) dX1_worth_13 rfl ?_
  refine V_goto (pc := 15) (tgt := 26) dX1_worth_15 (by decide) ?_
  first | (rw [e6] at J26; exact J26) | (rw [e6] at J26; rw [show cI k = nI (k - 1) from by rw [← cI_s, Nat.sub_add_cancel (by omega)], bit_clr F hF (k - 1) (by omega)]; rw [show nI (k - 1) = cI k from by rw [← cI_s, Nat.sub_add_cancel (by omega)]]; exact J26)
theorem dX1_bestCall_0 : decode cX1_bestCall 0 = .ok (.iconst (-1), 1) := by decide +kernel
theorem dX1_bestCall_1 : decode cX1_bestCall 1 = .ok (.istore 5, 2) := by decide +kernel
theorem dX1_bestCall_3 : decode cX1_bestCall 3 = .ok (.aload_n 0, 1) := by decide +kernel
theorem dX1_bestCall_4 : decode cX1_bestCall 4 = .ok (.iconst (-1), 1) := by decide +kernel
theorem dX1_bestCall_5 : decode cX1_bestCall 5 = .ok (.iload_n 1, 1) := by decide +kernel
theorem dX1_bestCall_6 : decode cX1_bestCall 6 = .ok (.iload_n 2, 1) := by decide +kernel
theorem dX1_bestCall_7 : decode cX1_bestCall 7 = .ok (.iload_n 3, 1) := by decide +kernel
theorem dX1_bestCall_8 : decode cX1_bestCall 8 = .ok (.iload 4, 2) := by decide +kernel
theorem dX1_bestCall_10 : decode cX1_bestCall 10 = .ok (.invokevirtual 49, 3) := by decide +kernel
theorem dX1_bestCall_13 : decode cX1_bestCall 13 = .ok (.istore 6, 2) := by decide +kernel
theorem dX1_bestCall_15 : decode cX1_bestCall 15 = .ok (.iconst 0, 1) := by decide +kernel
theorem dX1_bestCall_16 : decode cX1_bestCall 16 = .ok (.istore 7, 2) := by decide +kernel
theorem dX1_bestCall_18 : decode cX1_bestCall 18 = .ok (.iload 7, 2) := by decide +kernel
theorem dX1_bestCall_20 : decode cX1_bestCall 20 = .ok (.bipush 6, 2) := by decide +kernel
theorem dX1_bestCall_22 : decode cX1_bestCall 22 = .ok (.if_icmp .ge 48, 3) := by decide +kernel
theorem dX1_bestCall_25 : decode cX1_bestCall 25 = .ok (.iload 4, 2) := by decide +kernel
theorem dX1_bestCall_27 : decode cX1_bestCall 27 = .ok (.iload 7, 2) := by decide +kernel
theorem dX1_bestCall_29 : decode cX1_bestCall 29 = .ok (.ishr, 1) := by decide +kernel
theorem dX1_bestCall_30 : decode cX1_bestCall 30 = .ok (.iconst 1, 1) := by decide +kernel
theorem dX1_bestCall_31 : decode cX1_bestCall 31 = .ok (.iand, 1) := by decide +kernel
theorem dX1_bestCall_32 : decode cX1_bestCall 32 = .ok (.iconst 1, 1) := by decide +kernel
theorem dX1_bestCall_33 : decode cX1_bestCall 33 = .ok (.if_icmp .ne 31, 3) := by decide +kernel
theorem dX1_bestCall_36 : decode cX1_bestCall 36 = .ok (.aload_n 0, 1) := by decide +kernel
theorem dX1_bestCall_37 : decode cX1_bestCall 37 = .ok (.iload 7, 2) := by decide +kernel
theorem dX1_bestCall_39 : decode cX1_bestCall 39 = .ok (.iload_n 1, 1) := by decide +kernel
theorem dX1_bestCall_40 : decode cX1_bestCall 40 = .ok (.iload_n 2, 1) := by decide +kernel
theorem dX1_bestCall_41 : decode cX1_bestCall 41 = .ok (.iload_n 3, 1) := by decide +kernel
theorem dX1_bestCall_42 : decode cX1_bestCall 42 = .ok (.iload 4, 2) := by decide +kernel
theorem dX1_bestCall_44 : decode cX1_bestCall 44 = .ok (.invokevirtual 49, 3) := by decide +kernel
theorem dX1_bestCall_47 : decode cX1_bestCall 47 = .ok (.istore 8, 2) := by decide +kernel
theorem dX1_bestCall_49 : decode cX1_bestCall 49 = .ok (.iload 8, 2) := by decide +kernel
theorem dX1_bestCall_51 : decode cX1_bestCall 51 = .ok (.iload 6, 2) := by decide +kernel
theorem dX1_bestCall_53 : decode cX1_bestCall 53 = .ok (.if_icmp .le 11, 3) := by decide +kernel
theorem dX1_bestCall_56 : decode cX1_bestCall 56 = .ok (.iload 7, 2) := by decide +kernel
theorem dX1_bestCall_58 : decode cX1_bestCall 58 = .ok (.istore 5, 2) := by decide +kernel
theorem dX1_bestCall_60 : decode cX1_bestCall 60 = .ok (.iload 8, 2) := by decide +kernel
theorem dX1_bestCall_62 : decode cX1_bestCall 62 = .ok (.istore 6, 2) := by decide +kernel
theorem dX1_bestCall_64 : decode cX1_bestCall 64 = .ok (.iinc 7 1, 3) := by decide +kernel
theorem dX1_bestCall_67 : decode cX1_bestCall 67 = .ok (.goto (-49), 3) := by decide +kernel
theorem dX1_bestCall_70 : decode cX1_bestCall 70 = .ok (.iload 5, 2) := by decide +kernel
theorem dX1_bestCall_72 : decode cX1_bestCall 72 = .ok (.ireturn, 1) := by decide +kernel
set_option maxHeartbeats 4000000 in
set_option maxRecDepth 100000 in
theorem c_X1_bestCall {l : Launch} {g : GW} {tn : Nat → Nat → Nat} {ow : Nat → Nat} {κ N d p F : Nat} {s : Nat} (μ : Mm) (hs : s < 3) (hT : TnOK tn) (hFc : FcR μ tn ow κ) (hMm : MmR μ tn ow κ N) (hd : d + 1 ≤ N) (hN : N ≤ 4) (hp : p ≤ 9) (hF : F < 64) (hwo : ∀ (μ : Mm) (k s : Nat), FcR μ tn ow κ → MmR μ tn ow κ N → k ≤ 6 → s < 3 → Con l g yX1_worth cX1_worth 11 (some .int) (3 * d + 2) [.ref 33, .int (cI k), .int (nI s), .int (nI (d + 1)), .int (nI p), .int (nI F)] μ (fun r μ' => r = some (.int (nI (woT tn ow κ (chT tn ow κ d) p F s k))) ∧ FcR μ' tn ow κ ∧ MmR μ' tn ow κ N ∧ FrM fnd μ μ')) : Con l g yX1_bestCall cX1_bestCall 9 (some .int) (3 * d + 3) [.ref 33, .int (nI s), .int (nI (d + 1)), .int (nI p), .int (nI F)] μ (fun r μ' => r = some (.int (cI (beT tn ow κ (chT tn ow κ d) p F s 6).1)) ∧ FcR μ' tn ow κ ∧ MmR μ' tn ow κ N ∧ FrM fnd μ μ') := by
  have hcle := fun p F => Nat.le_trans (chT_le (ow := ow) (κ := κ) hT d p F) (p30 (d := d) (by omega))
  have hwl := fun k => woT_le (ow := ow) (κ := κ) (p := p) (F := F) (k := k) hT hs hcle
  refine Con.of [.ref 33, .int (nI s), .int (nI (d + 1)), .int (nI p), .int (nI F), .null, .null, .null, .null] 4 (by decide +kernel) (Nat.le_of_ble_eq_true rfl) rfl ?_
  refine V_iconst (pc := 0) (v := (-1)) dX1_bestCall_0 (by decide) ?_
  refine V_istore5 (pc := 1) dX1_bestCall_1 (by decide) rfl ?_
  refine V_aload_n (pc := 3) dX1_bestCall_3 rfl rfl ?_
  refine V_iconst (pc := 4) (v := (-1)) dX1_bestCall_4 (by decide) ?_
  refine V_iload_n (pc := 5) dX1_bestCall_5 rfl rfl ?_
  refine V_iload_n (pc := 6) dX1_bestCall_6 rfl rfl ?_
  refine V_iload_n (pc := 7) dX1_bestCall_7 rfl rfl ?_
  refine V_iload (pc := 8) dX1_bestCall_8 rfl ?_
  refine V_inv5 (pc := 10) (ci := 1) dX1_bestCall_10 ml_X1_49 (by decide) rfl ⟨by decide, rfl⟩ (by omega) (Nat.le_of_ble_eq_true rfl) (hwo μ 0 s hFc hMm (by omega) hs) ?_
  rintro _ μ1 ⟨rfl, g1, g2, g3⟩
  refine V_istore6 (pc := 13) dX1_bestCall_13 (by decide) rfl ?_
  refine V_iconst (pc := 15) (v := 0) dX1_bestCall_15 (by decide) ?_
  refine V_istore7 (pc := 16) dX1_bestCall_16 (by decide) rfl ?_
  have loopA : ∀ (nA n : Nat) (μ1 : Mm) (kb m : Nat) (y8 : Value), n ≤ 6 → 6 < n + nA → ((kb, m) = beT tn ow κ (chT tn ow κ d) p F s n) → (FcR μ1 tn ow κ) → (MmR μ1 tn ow κ N) → (FrM fnd μ μ1) → V l g RX1 cX1_bestCall 9 (some .int) (3 * d + 3) 18 [.ref 33, .int (nI s), .int (nI (d + 1)), .int (nI p), .int (nI F), .int (cI kb), .int (nI m), .int (nI n), y8] [] μ1 (fun r μ' => r = some (.int (cI (beT tn ow κ (chT tn ow κ d) p F s 6).1)) ∧ FcR μ' tn ow κ ∧ MmR μ' tn ow κ N ∧ FrM fnd μ μ') := by
    intro nA
    induction nA with
    | zero => intro n μ1 kb m y8 h1 h2; exact absurd h2 (by omega)
    | succ nA ihA =>
      intro n μ1 kb m y8 hleA hfuA hb g1 g2 g3
      refine V_iload (pc := 18) dX1_bestCall_18 rfl ?_
      refine V_bipush (pc := 20) (v := 6) dX1_bestCall_20 (by decide) ?_
      refine V_icmpge (pc := 22) (tgt := 70) dX1_bestCall_22 (by decide) (fun h22 => ?_) (fun h22 => ?_)
      · have h22 := (nI_leI (a := 6) (b := n) (by decide) (by omega)).mp h22; obtain rfl : n = 6 := by omega
        refine V_iload (pc := 70) dX1_bestCall_70 rfl ?_
        refine V_iret (pc := 72) dX1_bestCall_72 rfl ?_
        exact ⟨by rw [← hb], g1, g2, g3⟩
      have hlt : n < 6 := nI_l3 (a := 6) (by decide) (by omega) h22
      refine V_iload (pc := 25) dX1_bestCall_25 rfl ?_
      refine V_iload (pc := 27) dX1_bestCall_27 rfl ?_
      refine V_ishr (pc := 29) dX1_bestCall_29 ?_
      refine V_iconst (pc := 30) (v := 1) dX1_bestCall_30 (by decide) ?_
      refine V_iand (pc := 31) dX1_bestCall_31 ?_
      refine V_iconst (pc := 32) (v := 1) dX1_bestCall_32 (by decide) ?_
      refine V_icmpne (pc := 33) (tgt := 64) dX1_bestCall_33 (by decide) (fun h33 => ?_) (fun h33 => ?_)
      · rw [bit_get F hF n (by omega)] at h33; have hbit : ¬ F.testBit n = true := fun q => h33 (by rw [q]; rfl)
        refine V_iinc7 (pc := 64) (v := nI (n + 1)) dX1_bestCall_64 (nI_1 n) (by decide) rfl ?_
        refine V_goto (pc := 67) (tgt := 18) dX1_bestCall_67 (by decide) ?_
        first | exact ihA (n + 1) μ1 kb m _ (by omega) (by omega) (by show _ = (let q := beT tn ow κ (chT tn ow κ d) p F s n; if F.testBit n = true ∧ q.2 < woT tn ow κ (chT tn ow κ d) p F s (n + 1) then (n + 1, woT tn ow κ (chT tn ow κ d) p F s (n + 1)) else q); rw [← hb]; simp only; rw [if_neg (fun q => hbit q.1)]) g1 g2 g3 | exact ihA (n + 1) μ2 kb m _ (by omega) (by omega) (by show _ = (let q := beT tn ow κ (chT tn ow κ d) p F s n; if F.testBit n = true ∧ q.2 < woT tn ow κ (chT tn ow κ d) p F s (n + 1) then (n + 1, woT tn ow κ (chT tn ow κ d) p F s (n + 1)) else q); rw [← hb]; simp only; rw [if_neg (fun q => by omega)]) k1 k2 (g3.tr k3 (fun _ q => q)) | (rw [← cI_s n]; exact ihA (n + 1) μ2 (n + 1) _ _ (by omega) (by omega) (by show _ = (let q := beT tn ow κ (chT tn ow κ d) p F s n; if F.testBit n = true ∧ q.2 < woT tn ow κ (chT tn ow κ d) p F s (n + 1) then (n + 1, woT tn ow κ (chT tn ow κ d) p F s (n + 1)) else q); rw [← hb]; simp only; rw [if_pos ⟨hbit, by omega⟩]) k1 k2 (g3.tr k3 (fun _ q => q)))
      rw [bit_get F hF n (by omega)] at h33; have hbit : F.testBit n = true := by cases hq : F.testBit n; rw [hq] at h33; exact absurd h33 (by decide); rfl
      refine V_aload_n (pc := 36) dX1_bestCall_36 rfl rfl ?_
      refine V_iload (pc := 37) dX1_bestCall_37 rfl ?_
      refine V_iload_n (pc := 39) dX1_bestCall_39 rfl rfl ?_
      refine V_iload_n (pc := 40) dX1_bestCall_40 rfl rfl ?_
      refine V_iload_n (pc := 41) dX1_bestCall_41 rfl rfl ?_
      refine V_iload (pc := 42) dX1_bestCall_42 rfl ?_
      refine V_inv5 (pc := 44) (ci := 1) dX1_bestCall_44 ml_X1_49 (by decide) rfl ⟨by decide, rfl⟩ (by omega) (Nat.le_of_ble_eq_true rfl) (cI_s n ▸ hwo μ1 (n + 1) s g1 g2 (by omega) hs) ?_
      rintro _ μ2 ⟨rfl, k1, k2, k3⟩
      refine V_istore8 (pc := 47) dX1_bestCall_47 (by decide) rfl ?_
      have hm : m ≤ 8100000 := by
        have e := (beT_snd (tn := tn) (ow := ow) (κ := κ) (c := chT tn ow κ d) (p := p) (F := F) (s := s) n).1
        rw [← hb] at e
        have e2 : m = woT tn ow κ (chT tn ow κ d) p F s kb := e
        have := hwl kb
        omega
      have hw2 := hwl (n + 1)
      refine V_iload (pc := 49) dX1_bestCall_49 rfl ?_
      refine V_iload (pc := 51) dX1_bestCall_51 rfl ?_
      refine V_icmple (pc := 53) (tgt := 64) dX1_bestCall_53 (by decide) (fun h53 => ?_) (fun h53 => ?_)
      · have h53 := (nI_leI (a := woT tn ow κ (chT tn ow κ d) p F s (n + 1)) (b := m) (by omega) (by omega)).mp h53
        refine V_iinc7 (pc := 64) (v := nI (n + 1)) dX1_bestCall_64 (nI_1 n) (by decide) rfl ?_
        refine V_goto (pc := 67) (tgt := 18) dX1_bestCall_67 (by decide) ?_
        first | exact ihA (n + 1) μ1 kb m _ (by omega) (by omega) (by show _ = (let q := beT tn ow κ (chT tn ow κ d) p F s n; if F.testBit n = true ∧ q.2 < woT tn ow κ (chT tn ow κ d) p F s (n + 1) then (n + 1, woT tn ow κ (chT tn ow κ d) p F s (n + 1)) else q); rw [← hb]; simp only; rw [if_neg (fun q => hbit q.1)]) g1 g2 g3 | exact ihA (n + 1) μ2 kb m _ (by omega) (by omega) (by show _ = (let q := beT tn ow κ (chT tn ow κ d) p F s n; if F.testBit n = true ∧ q.2 < woT tn ow κ (chT tn ow κ d) p F s (n + 1) then (n + 1, woT tn ow κ (chT tn ow κ d) p F s (n + 1)) else q); rw [← hb]; simp only; rw [if_neg (fun q => by omega)]) k1 k2 (g3.tr k3 (fun _ q => q)) | (rw [← cI_s n]; exact ihA (n + 1) μ2 (n + 1) _ _ (by omega) (by omega) (by show _ = (let q := beT tn ow κ (chT tn ow κ d) p F s n; if F.testBit n = true ∧ q.2 < woT tn ow κ (chT tn ow κ d) p F s (n + 1) then (n + 1, woT tn ow κ (chT tn ow κ d) p F s (n + 1)) else q); rw [← hb]; simp only; rw [if_pos ⟨hbit, by omega⟩]) k1 k2 (g3.tr k3 (fun _ q => q)))
      have h53 := mt (nI_leI (a := woT tn ow κ (chT tn ow κ d) p F s (n + 1)) (b := m) (by omega) (by omega)).mpr h53
      refine V_iload (pc := 56) dX1_bestCall_56 rfl ?_
      refine V_istore5 (pc := 58) dX1_bestCall_58 (by decide) rfl ?_
      refine V_iload (pc := 60) dX1_bestCall_60 rfl ?_
      refine V_istore6 (pc := 62) dX1_bestCall_62 (by decide) rfl ?_
      refine V_iinc7 (pc := 64) (v := nI (n + 1)) dX1_bestCall_64 (nI_1 n) (by decide) rfl ?_
      refine V_goto (pc := 67) (tgt := 18) dX1_bestCall_67 (by decide) ?_
      first | exact ihA (n + 1) μ1 kb m _ (by omega) (by omega) (by show _ = (let q := beT tn ow κ (chT tn ow κ d) p F s n; if F.testBit n = true ∧ q.2 < woT tn ow κ (chT tn ow κ d) p F s (n + 1) then (n + 1, woT tn ow κ (chT tn ow κ d) p F s (n + 1)) else q); rw [← hb]; simp only; rw [if_neg (fun q => hbit q.1)]) g1 g2 g3 | exact ihA (n + 1) μ2 kb m _ (by omega) (by omega) (by show _ = (let q := beT tn ow κ (chT tn ow κ d) p F s n; if F.testBit n = true ∧ q.2 < woT tn ow κ (chT tn ow κ d) p F s (n + 1) then (n + 1, woT tn ow κ (chT tn ow κ d) p F s (n + 1)) else q); rw [← hb]; simp only; rw [if_neg (fun q => by omega)]) k1 k2 (g3.tr k3 (fun _ q => q)) | (rw [← cI_s n]; exact ihA (n + 1) μ2 (n + 1) _ _ (by omega) (by omega) (by show _ = (let q := beT tn ow κ (chT tn ow κ d) p F s n; if F.testBit n = true ∧ q.2 < woT tn ow κ (chT tn ow κ d) p F s (n + 1) then (n + 1, woT tn ow κ (chT tn ow κ d) p F s (n + 1)) else q); rw [← hb]; simp only; rw [if_pos ⟨hbit, by omega⟩]) k1 k2 (g3.tr k3 (fun _ q => q)))
  exact loopA (6 + 1) 0 _ 0 _ _ (by omega) (by omega) rfl g1 g2 g3
theorem dX1_chances_0 : decode cX1_chances 0 = .ok (.iload_n 2, 1) := by decide +kernel
theorem dX1_chances_1 : decode cX1_chances 1 = .ok (.bipush 9, 2) := by decide +kernel
theorem dX1_chances_3 : decode cX1_chances 3 = .ok (.if_icmp .ne 9, 3) := by decide +kernel
theorem dX1_chances_6 : decode cX1_chances 6 = .ok (.getstatic 42, 3) := by decide +kernel
theorem dX1_chances_9 : decode cX1_chances 9 = .ok (.iload_n 1, 1) := by decide +kernel
theorem dX1_chances_10 : decode cX1_chances 10 = .ok (.iaload, 1) := by decide +kernel
theorem dX1_chances_11 : decode cX1_chances 11 = .ok (.ireturn, 1) := by decide +kernel
theorem dX1_chances_12 : decode cX1_chances 12 = .ok (.iload_n 1, 1) := by decide +kernel
theorem dX1_chances_13 : decode cX1_chances 13 = .ok (.ifCond .gt 5, 3) := by decide +kernel
theorem dX1_chances_18 : decode cX1_chances 18 = .ok (.iload_n 2, 1) := by decide +kernel
theorem dX1_chances_19 : decode cX1_chances 19 = .ok (.bipush 64, 2) := by decide +kernel
theorem dX1_chances_21 : decode cX1_chances 21 = .ok (.imul, 1) := by decide +kernel
theorem dX1_chances_22 : decode cX1_chances 22 = .ok (.iload_n 3, 1) := by decide +kernel
theorem dX1_chances_23 : decode cX1_chances 23 = .ok (.iadd, 1) := by decide +kernel
theorem dX1_chances_24 : decode cX1_chances 24 = .ok (.istore 4, 2) := by decide +kernel
theorem dX1_chances_26 : decode cX1_chances 26 = .ok (.aload_n 0, 1) := by decide +kernel
theorem dX1_chances_27 : decode cX1_chances 27 = .ok (.getfield 11, 3) := by decide +kernel
theorem dX1_chances_30 : decode cX1_chances 30 = .ok (.iload_n 1, 1) := by decide +kernel
theorem dX1_chances_31 : decode cX1_chances 31 = .ok (.aaload, 1) := by decide +kernel
theorem dX1_chances_32 : decode cX1_chances 32 = .ok (.iload 4, 2) := by decide +kernel
theorem dX1_chances_34 : decode cX1_chances 34 = .ok (.iaload, 1) := by decide +kernel
theorem dX1_chances_35 : decode cX1_chances 35 = .ok (.iconst (-1), 1) := by decide +kernel
theorem dX1_chances_36 : decode cX1_chances 36 = .ok (.if_icmp .ne 55, 3) := by decide +kernel
theorem dX1_chances_39 : decode cX1_chances 39 = .ok (.iconst 0, 1) := by decide +kernel
theorem dX1_chances_40 : decode cX1_chances 40 = .ok (.istore 5, 2) := by decide +kernel
theorem dX1_chances_42 : decode cX1_chances 42 = .ok (.iconst 0, 1) := by decide +kernel
theorem dX1_chances_43 : decode cX1_chances 43 = .ok (.istore 6, 2) := by decide +kernel
theorem dX1_chances_45 : decode cX1_chances 45 = .ok (.iload 6, 2) := by decide +kernel
theorem dX1_chances_47 : decode cX1_chances 47 = .ok (.iconst 3, 1) := by decide +kernel
theorem dX1_chances_48 : decode cX1_chances 48 = .ok (.if_icmp .ge 32, 3) := by decide +kernel
theorem dX1_chances_51 : decode cX1_chances 51 = .ok (.iload 5, 2) := by decide +kernel
theorem dX1_chances_53 : decode cX1_chances 53 = .ok (.aload_n 0, 1) := by decide +kernel
theorem dX1_chances_54 : decode cX1_chances 54 = .ok (.aload_n 0, 1) := by decide +kernel
theorem dX1_chances_55 : decode cX1_chances 55 = .ok (.iload 6, 2) := by decide +kernel
theorem dX1_chances_57 : decode cX1_chances 57 = .ok (.iload_n 1, 1) := by decide +kernel
theorem dX1_chances_58 : decode cX1_chances 58 = .ok (.iload_n 2, 1) := by decide +kernel
theorem dX1_chances_59 : decode cX1_chances 59 = .ok (.iload_n 3, 1) := by decide +kernel
theorem dX1_chances_60 : decode cX1_chances 60 = .ok (.invokevirtual 45, 3) := by decide +kernel
theorem dX1_chances_63 : decode cX1_chances 63 = .ok (.iload 6, 2) := by decide +kernel
theorem dX1_chances_65 : decode cX1_chances 65 = .ok (.iload_n 1, 1) := by decide +kernel
theorem dX1_chances_66 : decode cX1_chances 66 = .ok (.iload_n 2, 1) := by decide +kernel
theorem dX1_chances_67 : decode cX1_chances 67 = .ok (.iload_n 3, 1) := by decide +kernel
theorem dX1_chances_68 : decode cX1_chances 68 = .ok (.invokevirtual 49, 3) := by decide +kernel
theorem dX1_chances_71 : decode cX1_chances 71 = .ok (.iadd, 1) := by decide +kernel
theorem dX1_chances_72 : decode cX1_chances 72 = .ok (.istore 5, 2) := by decide +kernel
theorem dX1_chances_74 : decode cX1_chances 74 = .ok (.iinc 6 1, 3) := by decide +kernel
theorem dX1_chances_77 : decode cX1_chances 77 = .ok (.goto (-32), 3) := by decide +kernel
theorem dX1_chances_80 : decode cX1_chances 80 = .ok (.aload_n 0, 1) := by decide +kernel
theorem dX1_chances_81 : decode cX1_chances 81 = .ok (.getfield 11, 3) := by decide +kernel
theorem dX1_chances_84 : decode cX1_chances 84 = .ok (.iload_n 1, 1) := by decide +kernel
theorem dX1_chances_85 : decode cX1_chances 85 = .ok (.aaload, 1) := by decide +kernel
theorem dX1_chances_86 : decode cX1_chances 86 = .ok (.iload 4, 2) := by decide +kernel
theorem dX1_chances_88 : decode cX1_chances 88 = .ok (.iload 5, 2) := by decide +kernel
theorem dX1_chances_90 : decode cX1_chances 90 = .ok (.iastore, 1) := by decide +kernel
theorem dX1_chances_91 : decode cX1_chances 91 = .ok (.aload_n 0, 1) := by decide +kernel
theorem dX1_chances_92 : decode cX1_chances 92 = .ok (.getfield 11, 3) := by decide +kernel
theorem dX1_chances_95 : decode cX1_chances 95 = .ok (.iload_n 1, 1) := by decide +kernel
theorem dX1_chances_96 : decode cX1_chances 96 = .ok (.aaload, 1) := by decide +kernel
theorem dX1_chances_97 : decode cX1_chances 97 = .ok (.iload 4, 2) := by decide +kernel
theorem dX1_chances_99 : decode cX1_chances 99 = .ok (.iaload, 1) := by decide +kernel
theorem dX1_chances_100 : decode cX1_chances 100 = .ok (.ireturn, 1) := by decide +kernel
set_option maxHeartbeats 4000000 in
set_option maxRecDepth 100000 in
theorem c_X1_chancesS {l : Launch} {g : GW} {tn : Nat → Nat → Nat} {ow : Nat → Nat} {κ N d p F : Nat} (μ : Mm) (hT : TnOK tn) (hFc : FcR μ tn ow κ) (hMm : MmR μ tn ow κ N) (hd : d + 1 ≤ N) (hN : N ≤ 4) (hp : p ≤ 9) (hF : F < 64) (hwo : ∀ (μ : Mm) (k s : Nat), FcR μ tn ow κ → MmR μ tn ow κ N → k ≤ 6 → s < 3 → Con l g yX1_worth cX1_worth 11 (some .int) (3 * d + 2) [.ref 33, .int (cI k), .int (nI s), .int (nI (d + 1)), .int (nI p), .int (nI F)] μ (fun r μ' => r = some (.int (nI (woT tn ow κ (chT tn ow κ d) p F s k))) ∧ FcR μ' tn ow κ ∧ MmR μ' tn ow κ N ∧ FrM fnd μ μ')) (hbe : ∀ (μ : Mm) (s : Nat), FcR μ tn ow κ → MmR μ tn ow κ N → s < 3 → Con l g yX1_bestCall cX1_bestCall 9 (some .int) (3 * d + 3) [.ref 33, .int (nI s), .int (nI (d + 1)), .int (nI p), .int (nI F)] μ (fun r μ' => r = some (.int (cI (beT tn ow κ (chT tn ow κ d) p F s 6).1)) ∧ FcR μ' tn ow κ ∧ MmR μ' tn ow κ N ∧ FrM fnd μ μ')) : Con l g yX1_chances cX1_chances 7 (some .int) (3 * d + 4) [.ref 33, .int (nI (d + 1)), .int (nI p), .int (nI F)] μ (fun r μ' => r = some (.int (nI (chT tn ow κ (d + 1) p F))) ∧ FcR μ' tn ow κ ∧ MmR μ' tn ow κ N ∧ FrM fnd μ μ') := by
  have hcle := fun p F => Nat.le_trans (chT_le (ow := ow) (κ := κ) hT d p F) (p30 (d := d) (by omega))
  have hsl := fun n hn => suT_le (ow := ow) (κ := κ) (p := p) (F := F) hT hcle n hn
  obtain ⟨e1, e2⟩ := fcF (d + 1) (by omega)
  have hix : p * 64 + F < 640 := by omega
  refine Con.of [.ref 33, .int (nI (d + 1)), .int (nI p), .int (nI F), .null, .null, .null] 3 (by decide +kernel) (Nat.le_of_ble_eq_true rfl) rfl ?_
  refine V_iload_n (pc := 0) dX1_chances_0 rfl rfl ?_
  refine V_bipush (pc := 1) (v := 9) dX1_chances_1 (by decide) ?_
  refine V_icmpne (pc := 3) (tgt := 12) dX1_chances_3 (by decide) (fun h3 => ?_) (fun h3 => ?_)
  · have h3 := mt (nI_eq (a := p) (b := 9) (by omega) (by decide)).mpr h3
    refine V_iload_n (pc := 12) dX1_chances_12 rfl rfl ?_
    refine V_ifgt (pc := 13) (tgt := 18) dX1_chances_13 (by decide) (fun h13 => ?_) (fun h13 => ?_)
    · refine V_iload_n (pc := 18) dX1_chances_18 rfl rfl ?_
      refine V_bipush (pc := 19) (v := 64) dX1_chances_19 (by decide) ?_
      refine V_imul (pc := 21) dX1_chances_21 ?_
      refine V_iload_n (pc := 22) dX1_chances_22 rfl rfl ?_
      refine V_iadd (pc := 23) dX1_chances_23 ?_
      rw [show nI p * (64 : Int32) + nI F = nI (p * 64 + F) from by rw [show (64 : Int32) = nI 64 from rfl, pk_mul, nI_add]]
      refine V_istore4 (pc := 24) dX1_chances_24 (by decide) rfl ?_
      have J : ∀ (μ1 : Mm), FcR μ1 tn ow κ → MmR μ1 tn ow κ N → FrM fnd μ μ1 → μ1.1 (34 + 1 + (d + 1)) (p * 64 + F) = nI (chT tn ow κ (d + 1) p F) → ∀ (y5 y6 : Value), V l g RX1 cX1_chances 7 (some .int) (3 * d + 4) 91 [.ref 33, .int (nI (d + 1)), .int (nI p), .int (nI F), .int (nI (p * 64 + F)), y5, y6] [] μ1 (fun r μ' => r = some (.int (nI (chT tn ow κ (d + 1) p F))) ∧ FcR μ' tn ow κ ∧ MmR μ' tn ow κ N ∧ FrM fnd μ μ') := by
        intro μ1 g1 g2 g3 gv y5 y6
        refine V_aload_n (pc := 91) dX1_chances_91 rfl rfl ?_
        refine V_getR (pc := 92) (ci := 1) (j := 0) (k2 := 34) dX1_chances_92 fl_X1_11 (fun _ _ _ _ => rfl) (by decide) rfl (rf_1_0 rfl) ?_
        refine V_iload_n (pc := 95) dX1_chances_95 rfl rfl ?_
        refine V_aald15 (pc := 96) (j := (d + 1)) dX1_chances_96 (by decide) rfl rfl (by show d + 1 < 5; omega) ?_
        refine V_iload (pc := 97) dX1_chances_97 rfl ?_
        refine V_iald (pc := 99) (j := (p * 64 + F)) dX1_chances_99 (by first | decide | omega) (by first | rfl | assumption | exact (fcF _ (by omega)).1 | decide) rfl (by show _ < kn (35 + (d + 1)); omega) ?_
        refine V_iret (pc := 100) dX1_chances_100 rfl ?_
        exact ⟨by rw [gv], g1, g2, g3⟩
      refine V_aload_n (pc := 26) dX1_chances_26 rfl rfl ?_
      refine V_getR (pc := 27) (ci := 1) (j := 0) (k2 := 34) dX1_chances_27 fl_X1_11 (fun _ _ _ _ => rfl) (by decide) rfl (rf_1_0 rfl) ?_
      refine V_iload_n (pc := 30) dX1_chances_30 rfl rfl ?_
      refine V_aald15 (pc := 31) (j := (d + 1)) dX1_chances_31 (by decide) rfl rfl (by show d + 1 < 5; omega) ?_
      refine V_iload (pc := 32) dX1_chances_32 rfl ?_
      refine V_iald (pc := 34) (j := (p * 64 + F)) dX1_chances_34 (by first | decide | omega) (by first | rfl | assumption | exact (fcF _ (by omega)).1 | decide) rfl (by show _ < kn (35 + (d + 1)); omega) ?_
      refine V_iconst (pc := 35) (v := (-1)) dX1_chances_35 (by decide) ?_
      refine V_icmpne (pc := 36) (tgt := 91) dX1_chances_36 (by decide) (fun h36 => ?_) (fun h36 => ?_)
      · exact J μ hFc hMm FrM.rf ((hMm (d + 1) p F (by omega) hd hp hF).elim (fun q => absurd q h36) id) _ _
      refine V_iconst (pc := 39) (v := 0) dX1_chances_39 (by decide) ?_
      refine V_istore5 (pc := 40) dX1_chances_40 (by decide) rfl ?_
      refine V_iconst (pc := 42) (v := 0) dX1_chances_42 (by decide) ?_
      refine V_istore6 (pc := 43) dX1_chances_43 (by decide) rfl ?_
      have loopA : ∀ (nA s : Nat) (μ1 : Mm) (acc : Int32), s ≤ 3 → 3 < s + nA → (acc = nI (suT tn ow κ (chT tn ow κ d) p F s)) → (FcR μ1 tn ow κ) → (MmR μ1 tn ow κ N) → (FrM fnd μ μ1) → V l g RX1 cX1_chances 7 (some .int) (3 * d + 4) 45 [.ref 33, .int (nI (d + 1)), .int (nI p), .int (nI F), .int (nI (p * 64 + F)), .int acc, .int (nI s)] [] μ1 (fun r μ' => r = some (.int (nI (chT tn ow κ (d + 1) p F))) ∧ FcR μ' tn ow κ ∧ MmR μ' tn ow κ N ∧ FrM fnd μ μ') := by
        intro nA
        induction nA with
        | zero => intro s μ1 acc h1 h2; exact absurd h2 (by omega)
        | succ nA ihA =>
          intro s μ1 acc hleA hfuA hacc g1 g2 g3
          refine V_iload (pc := 45) dX1_chances_45 rfl ?_
          refine V_iconst (pc := 47) (v := 3) dX1_chances_47 (by decide) ?_
          refine V_icmpge (pc := 48) (tgt := 80) dX1_chances_48 (by decide) (fun h48 => ?_) (fun h48 => ?_)
          · have h48 := (nI_leI (a := 3) (b := s) (by decide) (by omega)).mp h48; obtain rfl : s = 3 := by omega
            refine V_aload_n (pc := 80) dX1_chances_80 rfl rfl ?_
            refine V_getR (pc := 81) (ci := 1) (j := 0) (k2 := 34) dX1_chances_81 fl_X1_11 (fun _ _ _ _ => rfl) (by decide) rfl (rf_1_0 rfl) ?_
            refine V_iload_n (pc := 84) dX1_chances_84 rfl rfl ?_
            refine V_aald15 (pc := 85) (j := (d + 1)) dX1_chances_85 (by decide) rfl rfl (by show d + 1 < 5; omega) ?_
            refine V_iload (pc := 86) dX1_chances_86 rfl ?_
            refine V_iload (pc := 88) dX1_chances_88 rfl ?_
            refine V_iast (pc := 90) (j := (p * 64 + F)) dX1_chances_90 (by first | decide | omega) (by first | rfl | assumption | exact (fcF _ (by omega)).1 | decide) rfl (by show _ < kn (35 + (d + 1)); omega) ?_
            have hFn : FrM fnd μ1 (setI μ1 (34 + 1 + (d + 1)) (p * 64 + F) acc) := FrM.rf.set (show 35 ≤ 34 + 1 + (d + 1) ∧ 34 + 1 + (d + 1) ≤ 39 by omega)
            have hval : acc = nI (chT tn ow κ (d + 1) p F) := by rw [hacc]; simp only [chT]; rw [if_neg h3]
            refine J _ (g1.kept hFn) (fun d2 p2 F2 h1 h2 h3 h4 => ?_) (g3.tr hFn (fun _ q => q)) (by rw [get_eq, hval]) _ _
            by_cases e : d2 = d + 1 ∧ p2 = p ∧ F2 = F
            · obtain ⟨rfl, rfl, rfl⟩ := e
              exact Or.inr (by rw [show 35 + (d + 1) = 34 + 1 + (d + 1) by omega, get_eq, hval])
            · rw [get_ne (fun q => e ⟨by omega, by omega, by omega⟩)]
              exact g2 d2 p2 F2 h1 h2 h3 h4
          have hlt : s < 3 := nI_l3 (a := 3) (by decide) (by omega) h48
          refine V_iload (pc := 51) dX1_chances_51 rfl ?_
          refine V_aload_n (pc := 53) dX1_chances_53 rfl rfl ?_
          refine V_aload_n (pc := 54) dX1_chances_54 rfl rfl ?_
          refine V_iload (pc := 55) dX1_chances_55 rfl ?_
          refine V_iload_n (pc := 57) dX1_chances_57 rfl rfl ?_
          refine V_iload_n (pc := 58) dX1_chances_58 rfl rfl ?_
          refine V_iload_n (pc := 59) dX1_chances_59 rfl rfl ?_
          refine V_inv4 (pc := 60) (ci := 1) dX1_chances_60 ml_X1_45 (by decide) rfl ⟨by decide, rfl⟩ (by omega) (Nat.le_of_ble_eq_true rfl) (hbe μ1 s g1 g2 (by omega)) ?_
          rintro _ μ2 ⟨rfl, k1, k2, k3⟩
          refine V_iload (pc := 63) dX1_chances_63 rfl ?_
          refine V_iload_n (pc := 65) dX1_chances_65 rfl rfl ?_
          refine V_iload_n (pc := 66) dX1_chances_66 rfl rfl ?_
          refine V_iload_n (pc := 67) dX1_chances_67 rfl rfl ?_
          refine V_inv5 (pc := 68) (ci := 1) dX1_chances_68 ml_X1_49 (by decide) rfl ⟨by decide, rfl⟩ (by omega) (Nat.le_of_ble_eq_true rfl) (hwo μ2 (beT tn ow κ (chT tn ow κ d) p F s 6).1 s k1 k2 (beT_snd 6).2 (by omega)) ?_
          rintro _ μ3 ⟨rfl, m1, m2, m3⟩
          refine V_iadd (pc := 71) dX1_chances_71 ?_
          refine V_istore5 (pc := 72) dX1_chances_72 (by decide) rfl ?_
          refine V_iinc6 (pc := 74) (v := nI (s + 1)) dX1_chances_74 (nI_1 s) (by decide) rfl ?_
          refine V_goto (pc := 77) (tgt := 45) dX1_chances_77 (by decide) ?_
          exact ihA (s + 1) μ3 _ (by omega) (by omega) (by rw [hacc, nI_add]; rfl) m1 m2 ((g3.tr k3 (fun _ q => q)).tr m3 (fun _ q => q))
      exact loopA (3 + 1) 0 _ _ (by omega) (by omega) rfl hFc hMm FrM.rf
    exact absurd ((nI_ltI (a := 0) (b := d + 1) (by decide) (by omega)).mpr (by omega)) h13
  have h3 := (nI_eq (a := p) (b := 9) (by omega) (by decide)).mp h3
  refine V_getsN (pc := 6) (k := 90) dX1_chances_6 (by decide) (by decide) gs_X1_42 ?_
  refine V_iload_n (pc := 9) dX1_chances_9 rfl rfl ?_
  refine V_sald (pc := 10) (j := (d + 1)) dX1_chances_10 (by decide) (by decide) rfl (by show d + 1 < 7; omega) ?_
  refine V_iret (pc := 11) dX1_chances_11 rfl ?_
  exact ⟨by rw [stT90 (d + 1) (by omega), show chT tn ow κ (d + 1) p F = 30 ^ (d + 1) from if_pos h3], hFc, hMm, FrM.rf⟩
theorem dX1_chances_16 : decode cX1_chances 16 = .ok (.iconst 0, 1) := by decide +kernel
theorem dX1_chances_17 : decode cX1_chances 17 = .ok (.ireturn, 1) := by decide +kernel
set_option maxHeartbeats 4000000 in
set_option maxRecDepth 100000 in
theorem c_X1_chances0 {l : Launch} {g : GW} {tn : Nat → Nat → Nat} {ow : Nat → Nat} {κ N p F : Nat} (μ : Mm) (hFc : FcR μ tn ow κ) (hMm : MmR μ tn ow κ N) (hp : p ≤ 9) : Con l g yX1_chances cX1_chances 7 (some .int) 1 [.ref 33, .int (nI 0), .int (nI p), .int (nI F)] μ (fun r μ' => r = some (.int (nI (chT tn ow κ 0 p F))) ∧ FcR μ' tn ow κ ∧ MmR μ' tn ow κ N ∧ FrM fnd μ μ') := by
  refine Con.of [.ref 33, .int (nI 0), .int (nI p), .int (nI F), .null, .null, .null] 3 (by decide +kernel) (Nat.le_of_ble_eq_true rfl) rfl ?_
  refine V_iload_n (pc := 0) dX1_chances_0 rfl rfl ?_
  refine V_bipush (pc := 1) (v := 9) dX1_chances_1 (by decide) ?_
  refine V_icmpne (pc := 3) (tgt := 12) dX1_chances_3 (by decide) (fun h3 => ?_) (fun h3 => ?_)
  · have h3 := mt (nI_eq (a := p) (b := 9) (by omega) (by decide)).mpr h3
    refine V_iload_n (pc := 12) dX1_chances_12 rfl rfl ?_
    refine V_ifgt (pc := 13) (tgt := 18) dX1_chances_13 (by decide) (fun h13 => ?_) (fun h13 => ?_)
    · exact absurd h13 (by decide)
    refine V_iconst (pc := 16) (v := 0) dX1_chances_16 (by decide) ?_
    refine V_iret (pc := 17) dX1_chances_17 rfl ?_
    exact ⟨by rw [show chT tn ow κ 0 p F = 0 from if_neg h3]; rfl, hFc, hMm, FrM.rf⟩
  have h3 := (nI_eq (a := p) (b := 9) (by omega) (by decide)).mp h3
  refine V_getsN (pc := 6) (k := 90) dX1_chances_6 (by decide) (by decide) gs_X1_42 ?_
  refine V_iload_n (pc := 9) dX1_chances_9 rfl rfl ?_
  refine V_sald (pc := 10) (j := 0) dX1_chances_10 (by decide) (by decide) rfl (by decide) ?_
  refine V_iret (pc := 11) dX1_chances_11 rfl ?_
  exact ⟨by rw [show chT tn ow κ 0 p F = 1 from if_pos h3]; rfl, hFc, hMm, FrM.rf⟩
theorem c_X1_chances {l : Launch} {g : GW} {tn : Nat → Nat → Nat} {ow : Nat → Nat} {κ N : Nat} (hT : TnOK tn) (hN : N ≤ 4) : ∀ (d : Nat), d ≤ N → ∀ (μ : Mm) (p F : Nat), FcR μ tn ow κ → MmR μ tn ow κ N → p ≤ 9 → F < 64 → Con l g yX1_chances cX1_chances 7 (some .int) (3 * d + 1) [.ref 33, .int (nI d), .int (nI p), .int (nI F)] μ (fun r μ' => r = some (.int (nI (chT tn ow κ d p F))) ∧ FcR μ' tn ow κ ∧ MmR μ' tn ow κ N ∧ FrM fnd μ μ')
  | 0, _, μ, p, F, h1, h2, h3, _ => c_X1_chances0 μ h1 h2 h3
  | d + 1, hd, μ, p, F, h1, h2, h3, h4 => c_X1_chancesS μ hT h1 h2 hd hN h3 h4 (fun μ k s a1 a2 a3 a4 => c_X1_worth μ a3 a4 hT a1 a2 hd hN h3 h4 (fun μ p F b1 b2 b3 b4 => c_X1_chances hT hN d (by omega) μ p F b1 b2 b3 b4)) (fun μ s a1 a2 a3 => c_X1_bestCall μ a3 hT a1 a2 hd hN h3 h4 (fun μ k s b1 b2 b3 b4 => c_X1_worth μ b3 b4 hT b1 b2 hd hN h3 h4 (fun μ p F e1 e2 e3 e4 => c_X1_chances hT hN d (by omega) μ p F e1 e2 e3 e4)))
theorem c_X1_best {l : Launch} {g : GW} {tn : Nat → Nat → Nat} {ow : Nat → Nat} {κ N d p F s : Nat} (μ : Mm) (hT : TnOK tn) (hN : N ≤ 4) (hd : d + 1 ≤ N) (hs : s < 3) (h1 : FcR μ tn ow κ) (h2 : MmR μ tn ow κ N) (h3 : p ≤ 9) (h4 : F < 64) : Con l g yX1_bestCall cX1_bestCall 9 (some .int) (3 * d + 3) [.ref 33, .int (nI s), .int (nI (d + 1)), .int (nI p), .int (nI F)] μ (fun r μ' => r = some (.int (cI (beT tn ow κ (chT tn ow κ d) p F s 6).1)) ∧ FcR μ' tn ow κ ∧ MmR μ' tn ow κ N ∧ FrM fnd μ μ') :=
  c_X1_bestCall μ hs hT h1 h2 hd hN h3 h4 (fun μ k s b1 b2 b3 b4 => c_X1_worth μ b3 b4 hT b1 b2 hd hN h3 h4 (fun μ p F e1 e2 e3 e4 => c_X1_chances hT hN d (by omega) μ p F e1 e2 e3 e4))
end
section
/-! rows on bits, shifts and unsigned numbers, to paste: each family out of a closed proof of our own, whole with what it rests on; each by itself clean at Lean in its own claim (generation 39, form 5). Take a family whole -/
/-! ===== Int32 by its bits: bt x i ===== -/
def bt (x : Int32) (i : Nat) : Bool := x.toBitVec.getLsbD i
theorem b_ext {x y : Int32} (h : ∀ i, i < 32 → bt x i = bt y i) : x = y := Int32.toBitVec_inj.mp (BitVec.eq_of_getLsbD_eq (fun i hi => h i hi))
theorem b_or (x y : Int32) (i : Nat) : bt (x ||| y) i = (bt x i || bt y i) := by unfold bt; rw [Int32.toBitVec_or, BitVec.getLsbD_or]
theorem b_and (x y : Int32) (i : Nat) : bt (x &&& y) i = (bt x i && bt y i) := by unfold bt; rw [Int32.toBitVec_and, BitVec.getLsbD_and]
theorem b_xor (x y : Int32) (i : Nat) : bt (x ^^^ y) i = (bt x i ^^ bt y i) := by unfold bt; rw [Int32.toBitVec_xor, BitVec.getLsbD_xor]
theorem b_big {x : Int32} {i : Nat} (h : 32 ≤ i) : bt x i = false := BitVec.getLsbD_of_ge _ _ h
theorem b_255 (i : Nat) : bt 255 i = decide (i < 8) := by
  rcases Nat.lt_or_ge i 32 with h | h
  · exact (by decide +kernel : ∀ i, i < 32 → bt 255 i = decide (i < 8)) i h
  · rw [b_big h, decide_eq_false (by omega)]
theorem b_65535 (i : Nat) : bt 65535 i = decide (i < 16) := by
  rcases Nat.lt_or_ge i 32 with h | h
  · exact (by decide +kernel : ∀ i, i < 32 → bt 65535 i = decide (i < 16)) i h
  · rw [b_big h, decide_eq_false (by omega)]
theorem b_m1 : ∀ i, i < 32 → bt (-1) i = true := by decide +kernel
theorem b_0 (i : Nat) : bt 0 i = false := BitVec.getLsbD_zero
theorem s_l : ∀ n, n < 32 → ((nI n &&& 31).toBitVec.smod 32).toNat = n := by decide +kernel
theorem s_u : ∀ n, n < 32 → (((nI n).toUInt32 &&& Int32.toUInt32 31).toBitVec % 32).toNat = n := by decide +kernel
theorem b_shl (n : Nat) (hn : n < 32) (x : Int32) {i : Nat} (hi : i < 32) : bt (x <<< (nI n &&& 31)) i = (decide (n ≤ i) && bt x (i - n)) := by
  unfold bt
  rw [Int32.toBitVec_shiftLeft]
  show (x.toBitVec <<< ((nI n &&& 31).toBitVec.smod 32).toNat).getLsbD i = _
  rw [s_l n hn, BitVec.getLsbD_shiftLeft]
  rcases Nat.lt_or_ge i n with h | h
  · simp [h, Nat.not_le.mpr h]
  · simp [hi, h, Nat.not_lt.mpr h]
theorem b_ushr (n : Nat) (hn : n < 32) (x : Int32) (i : Nat) : bt ((x.toUInt32 >>> ((nI n).toUInt32 &&& Int32.toUInt32 31)).toInt32) i = bt x (n + i) := by
  show (x.toUInt32 >>> ((nI n).toUInt32 &&& Int32.toUInt32 31)).toBitVec.getLsbD i = x.toUInt32.toBitVec.getLsbD (n + i)
  rw [UInt32.toBitVec_shiftRight]
  show (x.toUInt32.toBitVec >>> (((nI n).toUInt32 &&& Int32.toUInt32 31).toBitVec % 32).toNat).getLsbD i = _
  rw [s_u n hn, BitVec.getLsbD_ushiftRight]
theorem b_sshr (n : Nat) (hn : n < 32) (x : Int32) {i : Nat} (hi : i < 32) : bt (x >>> (nI n &&& 31)) i = if n + i < 32 then bt x (n + i) else bt x 31 := by
  unfold bt
  rw [Int32.toBitVec_shiftRight]
  show (x.toBitVec.sshiftRight ((nI n &&& 31).toBitVec.smod 32).toNat).getLsbD i = _
  rw [s_l n hn, BitVec.getLsbD_sshiftRight, BitVec.msb_eq_getLsbD_last]
  simp [hi]
theorem b_shl8 (x : Int32) {i : Nat} (hi : i < 32) : bt (x <<< ((8 : Int32) &&& 31)) i = (decide (8 ≤ i) && bt x (i - 8)) := b_shl 8 (by omega) x hi
theorem b_shl16 (x : Int32) {i : Nat} (hi : i < 32) : bt (x <<< ((16 : Int32) &&& 31)) i = (decide (16 ≤ i) && bt x (i - 16)) := b_shl 16 (by omega) x hi
theorem b_shl24 (x : Int32) {i : Nat} (hi : i < 32) : bt (x <<< ((24 : Int32) &&& 31)) i = (decide (24 ≤ i) && bt x (i - 24)) := b_shl 24 (by omega) x hi
theorem b_sshr8 (x : Int32) {i : Nat} (hi : i < 32) : bt (x >>> ((8 : Int32) &&& 31)) i = if 8 + i < 32 then bt x (8 + i) else bt x 31 := b_sshr 8 (by omega) x hi
/-! ===== nI under and, xor, >>>, one bit, 65535 ===== -/
theorem nx_and (a b : Nat) : nI a &&& nI b = nI (a &&& b) := by
  apply Int32.toBitVec_inj.1
  show BitVec.ofNat 32 a &&& BitVec.ofNat 32 b = BitVec.ofNat 32 (a &&& b)
  apply BitVec.eq_of_getLsbD_eq
  intro i hi
  simp [hi]
theorem nx_xor (a b : Nat) : nI a ^^^ nI b = nI (a ^^^ b) := by
  apply Int32.toBitVec_inj.1
  show BitVec.ofNat 32 a ^^^ BitVec.ofNat 32 b = BitVec.ofNat 32 (a ^^^ b)
  apply BitVec.eq_of_getLsbD_eq
  intro i hi
  simp [hi]
theorem nx_cnt : ∀ j : Fin 32, (UInt32.ofNat j.val &&& Int32.toUInt32 31).toNat % 32 = j.val := by decide +kernel
theorem nx_ush {k j : Nat} (hk : k < 65536) (hj : j < 32) : ((nI k).toUInt32 >>> ((nI j).toUInt32 &&& Int32.toUInt32 31)).toInt32 = nI (k >>> j) := by
  have hs : k >>> j ≤ k := by
    rw [Nat.shiftRight_eq_div_pow]
    exact Nat.div_le_self _ _
  have e2 : UInt32.ofNat k >>> (UInt32.ofNat j &&& Int32.toUInt32 31) = UInt32.ofNat (k >>> j) := by
    apply UInt32.toNat_inj.1
    have h1 : (UInt32.ofNat k).toNat = k := Nat.mod_eq_of_lt (by omega)
    have h2 : (UInt32.ofNat (k >>> j)).toNat = k >>> j := Nat.mod_eq_of_lt (by omega)
    rw [UInt32.toNat_shiftRight, nx_cnt ⟨j, hj⟩, h1, h2]
  show (UInt32.ofNat k >>> (UInt32.ofNat j &&& Int32.toUInt32 31)).toInt32 = _
  rw [e2]
  rfl
theorem nx_bit {k j : Nat} (hk : k < 65536) (hj : j < 16) : (((nI k).toUInt32 >>> ((nI j).toUInt32 &&& Int32.toUInt32 31)).toInt32 &&& 1) = 0 ↔ k.testBit j = false := by
  rw [nx_ush hk (by omega)]
  show nI (k >>> j) &&& nI 1 = 0 ↔ _
  rw [nx_and, Nat.and_one_is_mod, ← nI_0, nI_eq (by omega) (by omega), Nat.testBit_eq_decide_div_mod_eq, Nat.shiftRight_eq_div_pow, decide_eq_false_iff_not]
  generalize k / 2 ^ j = z
  omega
theorem nx_mod (k : Nat) : nI k &&& 65535 = nI (k % 65536) := by
  show nI k &&& nI 65535 = _
  rw [nx_and, show (65535 : Nat) = 2 ^ 16 - 1 from rfl, Nat.and_two_pow_sub_one_eq_mod]
theorem nx_m16 {k : Nat} (h : k < 65536) : nI k &&& 65535 = nI k := by rw [nx_mod, Nat.mod_eq_of_lt h]
theorem nx_mask (x : Int32) : ∃ k, k < 65536 ∧ x &&& 65535 = nI k := by
  have e : x = nI x.toBitVec.toNat := by
    apply Int32.toBitVec_inj.1
    show x.toBitVec = BitVec.ofNat 32 x.toBitVec.toNat
    simp
  refine ⟨x.toBitVec.toNat % 65536, Nat.mod_lt _ (by omega), ?_⟩
  rw [← nx_mod, ← e]
/-! ===== Int32 as a set of bits: test, set ===== -/
def nf_M (m : Int32) : Nat := 4294967296 - m.toBitVec.toNat
theorem nf_sh : ∀ l, l < 32 → ((1 : Int32) <<< (nI l &&& 31)).toBitVec = BitVec.twoPow 32 l := by decide +kernel
theorem nf_sl : ∀ l, l < 32 → (((nI l).toUInt32 &&& Int32.toUInt32 31).toBitVec % 32).toNat = l := by decide +kernel
theorem nf_tp : ∀ l, l < 32 → BitVec.twoPow 32 l ≠ 0#32 := by decide +kernel
theorem nf_bit (m : Int32) (l : Nat) (hl : l < 32) : ((m.toUInt32 >>> ((nI l).toUInt32 &&& Int32.toUInt32 31)).toInt32 &&& 1) = 0 ↔ (m &&& ((1 : Int32) <<< (nI l &&& 31))) = 0 := by
  have e : ((m.toUInt32 >>> ((nI l).toUInt32 &&& Int32.toUInt32 31)).toInt32).toBitVec = m.toBitVec >>> l := by
    show m.toBitVec >>> (((nI l).toUInt32 &&& Int32.toUInt32 31).toBitVec % 32) = m.toBitVec >>> l
    rw [BitVec.ushiftRight_eq', nf_sl l hl]
  rw [← Int32.toBitVec_inj, ← Int32.toBitVec_inj, Int32.toBitVec_and, Int32.toBitVec_and, nf_sh l hl, e, BitVec.and_twoPow]
  show (m.toBitVec >>> l &&& 1#32) = 0#32 ↔ _ = 0#32
  rw [BitVec.and_one_eq_setWidth_ofBool_getLsbD, BitVec.getLsbD_ushiftRight, Nat.add_zero]
  cases hb : m.toBitVec.getLsbD l
  · exact ⟨fun _ => by simp, fun _ => by decide⟩
  · exact ⟨fun z => absurd z (by decide), fun z => absurd ((if_pos rfl).symm.trans z) (nf_tp l hl)⟩
theorem nf_gr (m k : Int32) (h : m &&& k = 0) (hk : k ≠ 0) : nf_M (m ||| k) < nf_M m := by
  have hm := m.toBitVec.isLt
  have hm' := (m ||| k).toBitVec.isLt
  have h1 : m.toBitVec.toNat ≤ (m ||| k).toBitVec.toNat := by
    rw [Int32.toBitVec_or, BitVec.toNat_or]
    exact Nat.left_le_or
  have h2 : m.toBitVec.toNat ≠ (m ||| k).toBitVec.toNat := by
    intro e
    have e2 : m = m ||| k := Int32.toBitVec_inj.mp (BitVec.eq_of_toNat_eq e)
    apply hk
    apply Int32.toBitVec_inj.mp
    show k.toBitVec = 0#32
    apply BitVec.eq_of_getLsbD_eq
    intro i hi
    have a : m.toBitVec.getLsbD i = (m.toBitVec.getLsbD i || k.toBitVec.getLsbD i) := by rw [← BitVec.getLsbD_or, ← Int32.toBitVec_or, ← e2]
    have b : (m.toBitVec.getLsbD i && k.toBitVec.getLsbD i) = false := by
      rw [← BitVec.getLsbD_and, ← Int32.toBitVec_and, h]
      exact BitVec.getLsbD_zero
    rw [BitVec.getLsbD_zero]
    revert a b
    cases m.toBitVec.getLsbD i <;> cases k.toBitVec.getLsbD i <;> simp
  unfold nf_M
  omega
/-! ===== a byte read unsigned ===== -/
theorem bp_b (x : Int32) : x.toInt8.toInt32 &&& 255 = x &&& 255 := by
  apply Int32.toBitVec_inj.mp
  rw [Int32.toBitVec_and, Int32.toBitVec_and, Int8.toBitVec_toInt32, Int32.toBitVec_toInt8]
  apply BitVec.eq_of_getLsbD_eq
  intro i hi
  rw [BitVec.getLsbD_and, BitVec.getLsbD_and]
  have hm : ∀ i < 32, 8 ≤ i → (255 : Int32).toBitVec.getLsbD i = false := by decide
  rcases Nat.lt_or_ge i 8 with z | z
  · rw [BitVec.getLsbD_signExtend, BitVec.getLsbD_signExtend, if_pos z, if_pos hi]
    simp only [z, hi, decide_true, Bool.true_and]
  · rw [hm i hi z]; simp
/-! ===== the char cast and 65535 ===== -/
/-! ===== Int64 as a set of bits: test, set, clear ===== -/
theorem ts_nf {x : Bool} (h : ¬ x = false) : x = true := by cases x <;> first | rfl | exact absurd rfl h
theorem ts_nt {x : Bool} (h : ¬ x = true) : x = false := by cases x <;> first | rfl | exact absurd rfl h
theorem ts_bit {w : Int64} {s : UInt64} {j : Nat} (hj : j < 64) (hs : s.toNat = j) : ((w.toUInt64 >>> s).toInt64 &&& 1) = 0 ↔ w.toBitVec.getLsbD j = false := by
  have e : (w.toUInt64 >>> s).toInt64.toBitVec = w.toBitVec >>> j := by
    apply BitVec.eq_of_toNat_eq
    show (w.toUInt64 >>> s).toNat = _
    rw [UInt64.toNat_shiftRight, hs, Nat.mod_eq_of_lt hj, BitVec.toNat_ushiftRight]
    rfl
  rw [← Int64.toBitVec_inj, Int64.toBitVec_and, e]
  show w.toBitVec >>> j &&& 1#64 = 0#64 ↔ _
  constructor
  · intro h
    have t := congrArg (fun x => x.getLsbD 0) h
    simpa using t
  · intro h
    apply BitVec.eq_of_getLsbD_eq
    intro i hi
    cases i with
    | zero => simp [h]
    | succ i => simp
theorem ts_or {w m : Int64} {j : Nat} (hj : j < 64) (hm : m.toBitVec = BitVec.twoPow 64 j) : (w ||| m) = w ↔ w.toBitVec.getLsbD j = true := by
  rw [← Int64.toBitVec_inj, Int64.toBitVec_or, hm]
  constructor
  · intro h
    have t := congrArg (fun x => x.getLsbD j) h
    simp only [BitVec.getLsbD_or, BitVec.getLsbD_twoPow] at t
    simpa [hj] using t.symm
  · intro h
    apply BitVec.eq_of_getLsbD_eq
    intro i hi
    rw [BitVec.getLsbD_or, BitVec.getLsbD_twoPow]
    by_cases e : j = i
    · subst e; rw [h, Bool.true_or]
    · simp [e]
theorem ts_and {w m : Int64} {j : Nat} (hj : j < 64) (hm : m.toBitVec = BitVec.twoPow 64 j) : (w &&& (m ^^^ (-1))) = w ↔ w.toBitVec.getLsbD j = false := by
  have ha : (-1 : Int64).toBitVec = BitVec.allOnes 64 := by decide
  rw [← Int64.toBitVec_inj, Int64.toBitVec_and, Int64.toBitVec_xor, hm, ha]
  constructor
  · intro h
    have t := congrArg (fun x => x.getLsbD j) h
    simp only [BitVec.getLsbD_and, BitVec.getLsbD_xor, BitVec.getLsbD_twoPow, BitVec.getLsbD_allOnes] at t
    simpa [hj] using t.symm
  · intro h
    apply BitVec.eq_of_getLsbD_eq
    intro i hi
    rw [BitVec.getLsbD_and, BitVec.getLsbD_xor, BitVec.getLsbD_twoPow, BitVec.getLsbD_allOnes]
    by_cases e : j = i
    · subst e; rw [h, Bool.false_and]
    · simp [e, hi]
/-! ===== lN n to 2^64: shifts, and, or, masks, one bit ===== -/
theorem wb_tb (n : Nat) : (lN n).toBitVec = BitVec.ofNat 64 n := rfl
theorem wb_inj {a b : Int64} (h : a.toBitVec = b.toBitVec) : a = b := Int64.toBitVec_inj.mp h
theorem wb_tn {n : Nat} (h : n < 2 ^ 64) : (lN n).toBitVec.toNat = n := by rw [wb_tb, BitVec.toNat_ofNat, Nat.mod_eq_of_lt h]
theorem wb_of (x : Int64) : ∃ n, n < 2 ^ 64 ∧ x = lN n := ⟨x.toBitVec.toNat, x.toBitVec.isLt, wb_inj (by rw [wb_tb]; simp)⟩
theorem wb_of32 (x : Int32) : ∃ n, n < 2 ^ 32 ∧ x = nI n := ⟨x.toBitVec.toNat, x.toBitVec.isLt, Int32.toBitVec_inj.mp (by show _ = BitVec.ofNat 32 _; simp)⟩
theorem wb_c : ∀ k, k < 64 → ((nI k).toInt64 &&& 63) = lN k := by decide +kernel
theorem wb_cu : ∀ k, k < 64 → ((nI k).toInt64.toUInt64 &&& Int64.toUInt64 63) = UInt64.ofNat k := by decide +kernel
theorem wb_sm : ∀ k, k < 64 → (BitVec.ofNat 64 k).smod 64 = BitVec.ofNat 64 k := by decide +kernel
theorem wb_pw {a b : Nat} (h : a ≤ b) : 2 ^ b = 2 ^ a * 2 ^ (b - a) := by rw [← Nat.pow_add]; congr 1; omega
theorem wb_lt2 {a b : Nat} (h : a < b) : 2 ^ a < 2 ^ b := Nat.pow_lt_pow_right (by decide) h
theorem wb_mod (n : Nat) : lN n = lN (n % 2 ^ 64) := wb_inj (by rw [wb_tb, wb_tb]; apply BitVec.eq_of_toNat_eq; rw [BitVec.toNat_ofNat, BitVec.toNat_ofNat, Nat.mod_mod])
theorem wb_shr {n k : Nat} (hn : n < 2 ^ 64) (hk : k < 64) : ((lN n).toUInt64 >>> ((nI k).toInt64.toUInt64 &&& Int64.toUInt64 63)).toInt64 = lN (n / 2 ^ k) := by
  rw [wb_cu k hk]
  apply wb_inj
  apply BitVec.eq_of_toNat_eq
  show ((lN n).toUInt64 >>> UInt64.ofNat k).toNat = (BitVec.ofNat 64 _).toNat
  have h1 : (UInt64.ofNat k).toNat = k := by
    show (BitVec.ofNat 64 k).toNat = k
    rw [BitVec.toNat_ofNat, Nat.mod_eq_of_lt (by omega)]
  have h2 : (lN n).toUInt64.toNat = n := wb_tn hn
  rw [UInt64.toNat_shiftRight, h1, h2, Nat.mod_eq_of_lt hk, Nat.shiftRight_eq_div_pow, BitVec.toNat_ofNat, Nat.mod_eq_of_lt (Nat.lt_of_le_of_lt (Nat.div_le_self _ _) hn)]
theorem wb_shl (n : Nat) {k : Nat} (hk : k < 64) : lN n <<< ((nI k).toInt64 &&& 63) = lN (n * 2 ^ k) := by
  rw [wb_c k hk]
  apply wb_inj
  rw [Int64.toBitVec_shiftLeft, wb_tb, wb_tb, wb_tb, wb_sm k hk]
  apply BitVec.eq_of_toNat_eq
  rw [BitVec.shiftLeft_eq', BitVec.toNat_shiftLeft, BitVec.toNat_ofNat, BitVec.toNat_ofNat, BitVec.toNat_ofNat, Nat.mod_eq_of_lt (show k < 2 ^ 64 by omega), Nat.shiftLeft_eq, Nat.mul_mod, Nat.mod_mod, ← Nat.mul_mod]
theorem wb_and {a b : Nat} (ha : a < 2 ^ 64) (hb : b < 2 ^ 64) : lN a &&& lN b = lN (a &&& b) := by
  apply wb_inj
  rw [Int64.toBitVec_and, wb_tb, wb_tb, wb_tb]
  apply BitVec.eq_of_toNat_eq
  rw [BitVec.toNat_and, BitVec.toNat_ofNat, BitVec.toNat_ofNat, BitVec.toNat_ofNat, Nat.mod_eq_of_lt ha, Nat.mod_eq_of_lt hb, Nat.mod_eq_of_lt (Nat.and_lt_two_pow _ hb)]
theorem wb_or {a b : Nat} (ha : a < 2 ^ 64) (hb : b < 2 ^ 64) : lN a ||| lN b = lN (a ||| b) := by
  apply wb_inj
  rw [Int64.toBitVec_or, wb_tb, wb_tb, wb_tb]
  apply BitVec.eq_of_toNat_eq
  rw [BitVec.toNat_or, BitVec.toNat_ofNat, BitVec.toNat_ofNat, BitVec.toNat_ofNat, Nat.mod_eq_of_lt ha, Nat.mod_eq_of_lt hb, Nat.mod_eq_of_lt (Nat.or_lt_two_pow ha hb)]
theorem wb_mask {n k : Nat} (hn : n < 2 ^ 64) (hk : k < 64) : lN n &&& lN (2 ^ k - 1) = lN (n % 2 ^ k) := by
  rw [wb_and hn (by have := wb_lt2 hk; omega), Nat.and_two_pow_sub_one_eq_mod]
theorem wb_a1 {n : Nat} (hn : n < 2 ^ 64) : lN n &&& 1 = lN (n % 2) := wb_mask (k := 1) hn (by decide)
theorem wb_bit {n k : Nat} (hn : n < 2 ^ 64) (hk : k < 64) : ((lN n).toUInt64 >>> ((nI k).toInt64.toUInt64 &&& Int64.toUInt64 63)).toInt64 &&& 1 = lN (n / 2 ^ k % 2) := by
  rw [wb_shr hn hk, wb_a1 (Nat.lt_of_le_of_lt (Nat.div_le_self _ _) hn)]
theorem wb_xor {q k : Nat} (hk : k < 63) (h : 2 ^ k ≤ q) (h2 : q < 2 ^ (k + 1)) : lN q ^^^ lN (2 ^ k) = lN (q - 2 ^ k) := by
  obtain ⟨r, rfl⟩ : ∃ r, q = 2 ^ k + r := ⟨q - 2 ^ k, by omega⟩
  have hr : r < 2 ^ k := by rw [Nat.pow_succ] at h2; omega
  have hx : (2 ^ k + r) ^^^ 2 ^ k = r := by
    apply Nat.eq_of_testBit_eq
    intro i
    rw [Nat.testBit_xor, Nat.testBit_two_pow]
    rcases Nat.lt_trichotomy i k with h | h | h
    · rw [Nat.testBit_two_pow_add_gt h]
      simp [show ¬ k = i by omega]
    · subst h
      rw [Nat.testBit_two_pow_add_eq]
      simp
    · have a1 : 2 ^ (k + 1) ≤ 2 ^ i := Nat.pow_le_pow_right (by decide) h
      rw [Nat.testBit_lt_two_pow (show 2 ^ k + r < 2 ^ i by omega), Nat.testBit_lt_two_pow (show r < 2 ^ i by omega)]
      simp [show ¬ k = i by omega]
  have b1 := wb_lt2 (show k + 1 < 64 by omega)
  have b2 := wb_lt2 (show k < 64 by omega)
  apply wb_inj
  rw [Int64.toBitVec_xor, wb_tb, wb_tb, wb_tb]
  apply BitVec.eq_of_toNat_eq
  rw [BitVec.toNat_xor, BitVec.toNat_ofNat, BitVec.toNat_ofNat, BitVec.toNat_ofNat, Nat.mod_eq_of_lt (by omega : 2 ^ k + r < 2 ^ 64), Nat.mod_eq_of_lt b2, hx, Nat.add_sub_cancel_left, Nat.mod_eq_of_lt (by omega)]
/-! ===== lN: masks, 'or' of parts that don't overlap is a sum ===== -/
theorem u_tn {n : Nat} (h : n < 2 ^ 64) : (UInt64.ofNat n).toNat = n := Nat.mod_eq_of_lt h
theorem g_and {a b c : Nat} (ha : a < 2 ^ 64) (hb : b < 2 ^ 64) (hc : a &&& b = c) : lN a &&& lN b = lN c := by
  subst hc
  have h : UInt64.ofNat a &&& UInt64.ofNat b = UInt64.ofNat (a &&& b) := UInt64.toNat_inj.mp (by rw [UInt64.toNat_and, u_tn ha, u_tn hb, u_tn (Nat.and_lt_two_pow a hb)])
  have h2 := congrArg UInt64.toInt64 h
  exact h2
theorem g_and1 {a : Nat} (ha : a < 2 ^ 64) : lN a &&& 1 = lN (a % 2) := g_and (b := 1) ha (by decide) (Nat.and_two_pow_sub_one_eq_mod a 1)
theorem g_mask {a s p : Nat} (hp : 2 ^ s = p) (hs : s < 64) (ha : a < 2 ^ 64) : lN a &&& lN (p - 1) = lN (a % p) := by
  subst hp
  have := Nat.pow_lt_pow_right (show 1 < 2 by decide) hs
  exact g_and ha (by omega) (Nat.and_two_pow_sub_one_eq_mod a s)
theorem g_or {k p a b : Nat} (hp : 2 ^ k = p) (ha : a < p) (h : b * p + a < 2 ^ 64) : lN (b * p) ||| lN a = lN (b * p + a) := by
  subst hp
  have h1 : b * 2 ^ k ||| a = b * 2 ^ k + a := by rw [← Nat.shiftLeft_eq, Nat.shiftLeft_add_eq_or_of_lt ha]
  have h3 : UInt64.ofNat (b * 2 ^ k) ||| UInt64.ofNat a = UInt64.ofNat (b * 2 ^ k + a) := UInt64.toNat_inj.mp (by rw [UInt64.toNat_or, u_tn (by omega), u_tn (by omega), u_tn h, h1])
  have h2 := congrArg UInt64.toInt64 h3
  exact h2
theorem g_or' {k p a b : Nat} (hp : 2 ^ k = p) (ha : a < p) (h : a + b * p < 2 ^ 64) : lN a ||| lN (b * p) = lN (a + b * p) := by
  rw [Int64.or_comm, g_or hp ha (by omega), Nat.add_comm]
theorem g_ushr {a k p : Nat} {y : UInt64} (hy : y = UInt64.ofNat k) (hk : k < 64) (hp : 2 ^ k = p) (ha : a < 2 ^ 64) : ((lN a).toUInt64 >>> y).toInt64 = lN (a / p) := by
  subst hy hp
  have h : UInt64.ofNat a >>> UInt64.ofNat k = UInt64.ofNat (a / 2 ^ k) := UInt64.toNat_inj.mp (by rw [UInt64.toNat_shiftRight, u_tn ha, u_tn (by omega), u_tn (Nat.lt_of_le_of_lt (Nat.div_le_self _ _) ha), Nat.mod_eq_of_lt hk, Nat.shiftRight_eq_div_pow])
  have h2 := congrArg UInt64.toInt64 h
  exact h2
theorem g_shl {a k p : Nat} {y : Int64} (hy : y.toBitVec.smod 64 = BitVec.ofNat 64 k) (hk : k < 64) (hp : 2 ^ k = p) (ha : a < 2 ^ 64) : lN a <<< y = lN (a * p) := by
  subst hp
  apply Int64.toBitVec_inj.mp
  rw [Int64.toBitVec_shiftLeft, hy]
  apply BitVec.eq_of_toNat_eq
  have hb : (lN a).toBitVec.toNat = a := Nat.mod_eq_of_lt ha
  have hk' : (BitVec.ofNat 64 k).toNat = k := Nat.mod_eq_of_lt (by omega)
  have h : ((lN a).toBitVec <<< BitVec.ofNat 64 k).toNat = (a * 2 ^ k) % 2 ^ 64 := by simp only [BitVec.shiftLeft_eq', BitVec.toNat_shiftLeft, hb, hk', Nat.shiftLeft_eq]
  exact h
/-! ===== lN to 2^62 under >> and >>> ===== -/
theorem pf_lI {a : Nat} (h : a < 2 ^ 63) : (lN a).toInt = (a : Int) := lg_ofNat_toInt h
theorem pf_shr {a d : Nat} {D : Int64} (hD : (D.toBitVec.smod 64).toNat = d) (h : a < 2 ^ 62) : lN a >>> D = lN (a / 2 ^ d) := by
  have hd : a / 2 ^ d ≤ a := Nat.div_le_self _ _
  apply Int64.toInt_inj.mp
  have e : (lN a >>> D).toInt = (lN a).toInt >>> d := by
    rw [← hD]
    exact BitVec.toInt_sshiftRight ..
  rw [e, Int.shiftRight_eq_div_pow, pf_lI (by omega), pf_lI (by omega)]
  rfl
theorem pf_ushr {a d : Nat} {D : UInt64} (hD : D.toNat % 64 = d) (h : a < 2 ^ 62) : ((lN a).toUInt64 >>> D).toInt64 = lN (a / 2 ^ d) := by
  have hd : a / 2 ^ d ≤ a := Nat.div_le_self _ _
  have e : (lN a).toUInt64 >>> D = UInt64.ofNat (a / 2 ^ d) := UInt64.toNat_inj.mp (by
    rw [UInt64.toNat_shiftRight, hD, Nat.shiftRight_eq_div_pow, UInt64.toNat_ofNat']
    show (UInt64.ofNat a).toNat / 2 ^ d = _
    rw [UInt64.toNat_ofNat', Nat.mod_eq_of_lt (by omega), Nat.mod_eq_of_lt (by omega)])
  rw [e]
  rfl
theorem pf_andw (x : Int64) : ∃ m, m < 2 ^ 32 ∧ x &&& 4294967295 = lN m := ⟨x.toBitVec.toNat % 2 ^ 32, Nat.mod_lt _ (by decide), Int64.toBitVec_inj.mp (BitVec.eq_of_toNat_eq (by
  show (x.toBitVec &&& 4294967295#64).toNat = (BitVec.ofNat 64 (x.toBitVec.toNat % 2 ^ 32)).toNat
  rw [BitVec.toNat_and, show (4294967295#64).toNat = 2 ^ 32 - 1 from by decide, Nat.and_two_pow_sub_one_eq_mod, BitVec.toNat_ofNat]
  omega))⟩
/-! ===== Int64 as an unsigned number: uN x ===== -/
def uN (x : Int64) : Nat := x.toUInt64.toNat
theorem uN_lt (x : Int64) : uN x < 18446744073709551616 := x.toUInt64.toNat_lt
theorem uN_inj {x y : Int64} (h : uN x = uN y) : x = y := congrArg UInt64.toInt64 (UInt64.toNat_inj.mp h)
theorem uN_add (x y : Int64) : uN (x + y) = (uN x + uN y) % 18446744073709551616 := by
  show (x.toUInt64 + y.toUInt64).toNat = _
  exact UInt64.toNat_add _ _
theorem uN_mul (x y : Int64) : uN (x * y) = (uN x * uN y) % 18446744073709551616 := by
  show (x.toUInt64 * y.toUInt64).toNat = _
  exact UInt64.toNat_mul _ _
theorem uN_shl (x : Int64) : uN (x <<< ((1 : Int32).toInt64 &&& 63)) = (2 * uN x) % 18446744073709551616 := by
  have h : (((1 : Int32).toInt64 &&& 63).toBitVec.smod 64).toNat = 1 := by decide
  show (x.toBitVec <<< (((1 : Int32).toInt64 &&& 63).toBitVec.smod 64).toNat).toNat = _
  rw [h, BitVec.toNat_shiftLeft, Nat.shiftLeft_eq, Nat.mul_comm]
  rfl
theorem uN_shr (x : Int64) (s : UInt64) : uN (x.toUInt64 >>> s).toInt64 = uN x / 2 ^ (s.toNat % 64) := by
  show (x.toUInt64 >>> s).toNat = _
  rw [UInt64.toNat_shiftRight, Nat.shiftRight_eq_div_pow]
  rfl
theorem uN_s32 (x : Int64) : uN (x.toUInt64 >>> ((32 : Int32).toInt64.toUInt64 &&& Int64.toUInt64 63)).toInt64 = uN x / 4294967296 := by
  have h : ((32 : Int32).toInt64.toUInt64 &&& Int64.toUInt64 63).toNat % 64 = 32 := by decide
  rw [uN_shr, h]
theorem uN_s63 (x : Int64) : uN (x.toUInt64 >>> ((63 : Int32).toInt64.toUInt64 &&& Int64.toUInt64 63)).toInt64 = uN x / 9223372036854775808 := by
  have h : ((63 : Int32).toInt64.toUInt64 &&& Int64.toUInt64 63).toNat % 64 = 63 := by decide
  rw [uN_shr, h]
theorem uN_lo (x : Int64) : uN (x &&& 4294967295) = uN x % 4294967296 := by
  show (x.toUInt64 &&& Int64.toUInt64 4294967295).toNat = _
  rw [UInt64.toNat_and]
  exact Nat.and_two_pow_sub_one_eq_mod _ 32
theorem uN_bit (x : Int64) : (x &&& 1) = 0 ↔ uN x % 2 = 0 := by
  have h : uN (x &&& 1) = uN x % 2 := by
    show (x.toUInt64 &&& Int64.toUInt64 1).toNat = _
    rw [UInt64.toNat_and]
    exact Nat.and_two_pow_sub_one_eq_mod _ 1
  rw [← h]
  exact ⟨fun z => by rw [z]; rfl, fun z => uN_inj (z.trans rfl)⟩
theorem uN_or {x y : Int64} (hy : uN y < 2) : uN ((x <<< ((1 : Int32).toInt64 &&& 63)) ||| y) = (2 * uN x) % 18446744073709551616 + uN y := by
  have h1 : uN ((x <<< ((1 : Int32).toInt64 &&& 63)) ||| y) = uN (x <<< ((1 : Int32).toInt64 &&& 63)) ||| uN y := UInt64.toNat_or _ _
  have h2 : (2 * uN x) % 18446744073709551616 = 2 ^ 1 * (uN x % 9223372036854775808) := by omega
  rw [h1, uN_shl, h2]
  exact (Nat.two_pow_add_eq_or_of_lt (i := 1) hy _).symm
theorem nat_xor {a : Nat} (h : a < 18446744073709551616) : a ^^^ 2 ^ 63 = (a + 9223372036854775808) % 18446744073709551616 := by
  have h1 : (a ^^^ 2 ^ 63) % 2 ^ 63 = a % 2 ^ 63 := by rw [Nat.xor_mod_two_pow, Nat.mod_self, Nat.xor_zero]
  have h2 : (a ^^^ 2 ^ 63) / 2 ^ 63 = (a / 2 ^ 63) ^^^ 1 := by rw [Nat.xor_div_two_pow, Nat.div_self (Nat.two_pow_pos 63)]
  have h3 : a / 2 ^ 63 = 0 ∨ a / 2 ^ 63 = 1 := by omega
  generalize a ^^^ 2 ^ 63 = t at h1 h2
  rcases h3 with h3 | h3
  · rw [h3] at h2
    have h2 : t / 2 ^ 63 = 1 := h2
    omega
  · rw [h3] at h2
    have h2 : t / 2 ^ 63 = 0 := h2
    omega
theorem uN_xor (x : Int64) : uN (x ^^^ (-9223372036854775808)) = (uN x + 9223372036854775808) % 18446744073709551616 := by
  rw [← nat_xor (uN_lt x)]
  exact UInt64.toNat_xor _ _
theorem uN_int (x : Int64) : x.toInt = if 2 * uN x < 18446744073709551616 then (uN x : Int) else (uN x : Int) - 18446744073709551616 := BitVec.toInt_eq_toNat_cond _
theorem uN_le (x y : Int64) : (x ^^^ (-9223372036854775808)) ≤ (y ^^^ (-9223372036854775808)) ↔ uN x ≤ uN y := by
  have hx := uN_lt x
  have hy := uN_lt y
  rw [Int64.le_iff_toInt_le, uN_int, uN_int, uN_xor, uN_xor]
  omega
theorem uN_sk (x : Int64) {k : Nat} (hk : k < 64) : uN (x.toUInt64 >>> ((nI k).toInt64.toUInt64 &&& Int64.toUInt64 63)).toInt64 = uN x / 2 ^ k := by
  have h : ((nI k).toInt64.toUInt64 &&& Int64.toUInt64 63).toNat % 64 = k := by
    rw [nI_l (by omega), UInt64.toNat_and]
    have e : (lN k).toUInt64.toNat = k % 2 ^ 64 := rfl
    have e2 : (Int64.toUInt64 63).toNat = 2 ^ 6 - 1 := by decide
    rw [e, e2, Nat.and_two_pow_sub_one_eq_mod]
    omega
  rw [uN_shr, h]
/-! ===== unsigned comparison by xor with the least ===== -/
theorem lN_bv (n : Nat) : (lN n).toBitVec = BitVec.ofNat 64 n := rfl
theorem lN_nat {n : Nat} (h : n < 2 ^ 64) : (lN n).toBitVec.toNat = n := by rw [lN_bv, BitVec.toNat_ofNat]; exact Nat.mod_eq_of_lt h
theorem lN_xor (a b : Nat) : lN a ^^^ lN b = lN (a ^^^ b) := by
  apply Int64.toBitVec_inj.mp; rw [Int64.toBitVec_xor, lN_bv, lN_bv, lN_bv]; apply BitVec.eq_of_getLsbD_eq; intro i hi; simp [BitVec.getLsbD_ofNat, Nat.testBit_xor, hi]
theorem lN_ti {m : Nat} (h : m < 2 ^ 64) : (lN m).toInt = if m < 2 ^ 63 then (m : Int) else (m : Int) - 2 ^ 64 := by
  have c := BitVec.toInt_eq_toNat_cond (lN m).toBitVec
  rw [lN_nat h] at c
  show (lN m).toBitVec.toInt = _
  rw [c]
  split <;> split <;> omega
theorem xor63 {x : Nat} (h : x < 2 ^ 63) : x ^^^ 2 ^ 63 = 2 ^ 63 + x := by
  apply Nat.eq_of_testBit_eq
  intro i
  rw [Nat.testBit_xor, Nat.testBit_two_pow]
  rcases Nat.lt_trichotomy i 63 with z | z | z
  · rw [Nat.testBit_two_pow_add_gt z, decide_eq_false (by omega)]; simp
  · subst z; rw [Nat.testBit_two_pow_add_eq]; simp
  · have hp : 2 ^ 64 ≤ 2 ^ i := Nat.pow_le_pow_right (by decide) z
    rw [Nat.testBit_lt_two_pow (show x < 2 ^ i by omega), Nat.testBit_lt_two_pow (show 2 ^ 63 + x < 2 ^ i by omega), decide_eq_false (by omega)]; rfl
theorem xorS {a : Nat} (h : a < 2 ^ 64) : (lN a ^^^ (-9223372036854775808)).toInt = (a : Int) - 2 ^ 63 := by
  rw [show (-9223372036854775808 : Int64) = lN (2 ^ 63) from by decide +kernel, lN_xor]
  rcases Nat.lt_or_ge a (2 ^ 63) with z | z
  · rw [xor63 z, lN_ti (by omega), if_neg (by omega)]; omega
  · obtain ⟨x, rfl⟩ : ∃ x, a = 2 ^ 63 + x := ⟨a - 2 ^ 63, by omega⟩
    rw [← xor63 (by omega), Nat.xor_assoc, Nat.xor_self, Nat.xor_zero, lN_ti (by omega), if_pos (by omega), xor63 (by omega)]; omega
theorem ultL {a b : Nat} (ha : a < 2 ^ 64) (hb : b < 2 ^ 64) : ((lN b ^^^ (-9223372036854775808)) ≤ (lN a ^^^ (-9223372036854775808))) ↔ b ≤ a := by
  rw [Int64.le_iff_toInt_le, xorS ha, xorS hb]; omega
/-! ===== Int64 masks of n low bits ===== -/
theorem cr_bits (W U M : BitVec 64) : ((W &&& U) &&& (U &&& (M ^^^ BitVec.allOnes 64))) = 0#64 ↔ (W &&& U) &&& M = W &&& U := by
  constructor
  · intro h
    apply BitVec.eq_of_getLsbD_eq
    intro i hi
    have e := congrArg (fun x => BitVec.getLsbD x i) h
    simp only [BitVec.getLsbD_and, BitVec.getLsbD_xor, BitVec.getLsbD_allOnes, BitVec.getLsbD_zero, hi, decide_true] at e ⊢
    revert e
    cases W.getLsbD i <;> cases U.getLsbD i <;> cases M.getLsbD i <;> decide
  · intro h
    apply BitVec.eq_of_getLsbD_eq
    intro i hi
    have e := congrArg (fun x => BitVec.getLsbD x i) h
    simp only [BitVec.getLsbD_and, BitVec.getLsbD_xor, BitVec.getLsbD_allOnes, BitVec.getLsbD_zero, hi, decide_true] at e ⊢
    revert e
    cases W.getLsbD i <;> cases U.getLsbD i <;> cases M.getLsbD i <;> decide
theorem cr_mask (w U m : Int64) (n : Nat) (hm : m.toBitVec.toNat = 2 ^ n - 1) : ((w &&& U) &&& (U &&& (m ^^^ (-1)))) = 0 ↔ (w &&& U).toBitVec.toNat < 2 ^ n := by
  have e0 : (-1 : Int64).toBitVec = BitVec.allOnes 64 := by decide
  have z0 : (0 : Int64).toBitVec = 0#64 := by decide
  rw [← Int64.toBitVec_inj, z0, Int64.toBitVec_and, Int64.toBitVec_and, Int64.toBitVec_and, Int64.toBitVec_xor, e0, cr_bits]
  generalize w.toBitVec &&& U.toBitVec = T
  rw [← BitVec.toNat_inj, BitVec.toNat_and, hm, Nat.and_two_pow_sub_one_eq_mod]
  constructor
  · intro h
    have t := Nat.mod_lt T.toNat (Nat.two_pow_pos n)
    rw [h] at t
    exact t
  · exact Nat.mod_eq_of_lt
theorem cr_shr (t : Int64) (x : UInt64) (n : Nat) (hx : x.toNat % 64 = n) : (t.toUInt64 >>> x).toInt64 = 0 ↔ t.toBitVec.toNat < 2 ^ n := by
  rw [← Int64.toBitVec_inj, ← BitVec.toNat_inj]
  show (t.toUInt64 >>> x).toNat = 0 ↔ t.toUInt64.toNat < 2 ^ n
  rw [UInt64.toNat_shiftRight, hx, Nat.shiftRight_eq_div_pow]
  constructor
  · intro h
    have d : t.toUInt64.toNat / 2 ^ n < 1 := by
      rw [h]
      decide
    have e := (Nat.div_lt_iff_lt_mul (Nat.two_pow_pos n)).mp d
    rw [Nat.one_mul] at e
    exact e
  · exact Nat.div_eq_of_lt
theorem cr_amt (s : Int64) : ∃ n, n < 64 ∧ s &&& 63 = lN n ∧ (s.toUInt64 &&& Int64.toUInt64 63).toNat % 64 = n := by
  have e : (s.toUInt64 &&& Int64.toUInt64 63).toNat = s.toUInt64.toNat % 2 ^ 6 := by
    rw [UInt64.toNat_and, show (Int64.toUInt64 63).toNat = 2 ^ 6 - 1 from by decide, Nat.and_two_pow_sub_one_eq_mod]
  refine ⟨s.toUInt64.toNat % 2 ^ 6, by omega, ?_, by omega⟩
  rw [← Int64.toBitVec_inj, ← BitVec.toNat_inj]
  show (s.toUInt64 &&& Int64.toUInt64 63).toNat = (BitVec.ofNat 64 (s.toUInt64.toNat % 2 ^ 6)).toNat
  rw [e, BitVec.toNat_ofNat]
  omega
end
section

/-! ===== races, fractions, draws ===== -/
def raS (tn : Nat → Nat → Nat) (ow : Nat → Nat) (c : Nat → Nat → Nat) (a b : Nat) : Nat → Nat
  | 0 => 0
  | w + 1 => raS tn ow c a b w + sumT tn w 3 * c (aft ow 0 a 0 w) (aft ow 0 b 0 w)
def raT (tn : Nat → Nat → Nat) (ow : Nat → Nat) : Nat → Nat → Nat → Nat
  | 0, a, b => if b = 9 then 0 else if a = 9 then 1 else 0
  | d + 1, a, b => if b = 9 then 0 else if a = 9 then 30 ^ (d + 1) else raS tn ow (raT tn ow d) a b 5
theorem raS_le {tn : Nat → Nat → Nat} {ow : Nat → Nat} {c : Nat → Nat → Nat} {M a b : Nat} (hc : ∀ a b, c a b ≤ M) : ∀ n, raS tn ow c a b n ≤ (raS tn ow (fun _ _ => 1) a b n) * M
  | 0 => Nat.zero_le _
  | n + 1 => by
    have h1 := raS_le (tn := tn) (ow := ow) (a := a) (b := b) hc n
    have h2 : sumT tn n 3 * c (aft ow 0 a 0 n) (aft ow 0 b 0 n) ≤ sumT tn n 3 * M := Nat.mul_le_mul_left _ (hc _ _)
    simp only [raS, Nat.mul_one, Nat.add_mul]
    omega
theorem raS_one {tn : Nat → Nat → Nat} {ow : Nat → Nat} {a b : Nat} (h : TnOK tn) : raS tn ow (fun _ _ => 1) a b 5 = 30 := by
  have h0 := h 0 (by omega)
  have h1 := h 1 (by omega)
  have h2 := h 2 (by omega)
  simp only [raS, sumT]
  omega
theorem raS_mono {tn : Nat → Nat → Nat} {ow : Nat → Nat} {a b : Nat} : ∀ n, n ≤ 5 → raS tn ow (fun _ _ => 1) a b n ≤ raS tn ow (fun _ _ => 1) a b 5 := by
  intro n hn
  rcases (show n = 0 ∨ n = 1 ∨ n = 2 ∨ n = 3 ∨ n = 4 ∨ n = 5 by omega) with rfl | rfl | rfl | rfl | rfl | rfl <;> simp only [raS] <;> omega
theorem raT_le {tn : Nat → Nat → Nat} {ow : Nat → Nat} (h : TnOK tn) : ∀ d a b, raT tn ow d a b ≤ 30 ^ d
  | 0, a, b => by simp only [raT]; split <;> simp <;> split <;> simp
  | d + 1, a, b => by
    have h1 := raS_le (tn := tn) (ow := ow) (c := raT tn ow d) (a := a) (b := b) (raT_le (ow := ow) h d) 5
    rw [raS_one h] at h1
    simp only [raT]
    split
    · exact Nat.zero_le _
    · split
      · exact Nat.le_refl _
      · rw [Nat.pow_succ]; omega
def nxS (s : Nat) : Nat := (1103515245 * s + 12345) % 2147483648
theorem nxS_lt (s : Nat) : nxS s < 2 ^ 31 := Nat.mod_lt _ (by decide)
theorem nxS_eq {s : Nat} (h : s < 2 ^ 31) : ((1103515245 : Int64) * (lN s) + (12345 : Int64)) &&& (2147483647 : Int64) = lN (nxS s) := by
  have e1 : (1103515245 : Int64) = lN 1103515245 := rfl
  have e2 : (12345 : Int64) = lN 12345 := rfl
  have e3 : (2147483647 : Int64) = lN (2147483648 - 1) := rfl
  rw [e1, e2, e3, lN_mul, lN_add]
  exact g_mask (s := 31) rfl (by decide) (by omega)
def pfT (tn : Nat → Nat → Nat) (s : Nat) : Nat → Nat
  | 0 => 0
  | w + 1 => pfT tn s w + tn w s
def widT (tn : Nat → Nat → Nat) (s x : Nat) : Nat := if x < pfT tn s 1 then 0 else if x < pfT tn s 2 then 1 else if x < pfT tn s 3 then 2 else if x < pfT tn s 4 then 3 else 4
theorem widT_at {tn : Nat → Nat → Nat} {s x i : Nat} (hi : i < 4) (h : ∀ j, 1 ≤ j → j ≤ i → ¬ x < pfT tn s j) (h2 : x < pfT tn s (i + 1)) : widT tn s x = i := by
  unfold widT
  rcases (show i = 0 ∨ i = 1 ∨ i = 2 ∨ i = 3 by omega) with rfl | rfl | rfl | rfl
  · rw [if_pos h2]
  · rw [if_neg (h 1 (by omega) (by omega)), if_pos h2]
  · rw [if_neg (h 1 (by omega) (by omega)), if_neg (h 2 (by omega) (by omega)), if_pos h2]
  · rw [if_neg (h 1 (by omega) (by omega)), if_neg (h 2 (by omega) (by omega)), if_neg (h 3 (by omega) (by omega)), if_pos h2]
theorem widT_no {tn : Nat → Nat → Nat} {s x : Nat} (h : ∀ j, 1 ≤ j → j ≤ 4 → ¬ x < pfT tn s j) : widT tn s x = 4 := by
  unfold widT
  rw [if_neg (h 1 (by omega) (by omega)), if_neg (h 2 (by omega) (by omega)), if_neg (h 3 (by omega) (by omega)), if_neg (h 4 (by omega) (by omega))]
theorem widT_le {tn : Nat → Nat → Nat} {s x : Nat} : widT tn s x ≤ 4 := by
  unfold widT
  split
  · omega
  · split
    · omega
    · split
      · omega
      · split <;> omega
theorem pfT_le {tn : Nat → Nat → Nat} {s : Nat} (h : ∀ w, w < 5 → tn w s ≤ 10) : ∀ n, n ≤ 5 → pfT tn s n ≤ 10 * n
  | 0, _ => Nat.zero_le _
  | n + 1, hn => by
    have h1 := pfT_le h n (by omega)
    have h2 := h n (by omega)
    show _ + _ ≤ _
    omega
theorem gcd_step {a b : Nat} (h : b ≠ 0) : Nat.gcd a b = Nat.gcd b (a % b) := by
  rw [Nat.gcd_comm a b, Nat.gcd_rec b a, Nat.gcd_comm]
/-- Euclid's remainders fall: at step i behind the first, the product by 2 to the i is small -/
def gcI (a b i : Nat) : Prop := a < 2 ^ 31 ∧ b < 2 ^ 31 ∧ (i = 0 ∨ (b < a ∧ a * b * 2 ^ (i - 1) < 2 ^ 62))
theorem gcI_step {a b i : Nat} (h : gcI a b i) (hb : b ≠ 0) : gcI b (a % b) (i + 1) := by
  obtain ⟨h1, h2, h3⟩ := h
  have hlt : a % b < b := Nat.mod_lt _ (by omega)
  refine ⟨h2, by omega, Or.inr ⟨hlt, ?_⟩⟩
  rw [Nat.add_sub_cancel]
  rcases h3 with rfl | ⟨h3, h4⟩
  · rw [Nat.pow_zero, Nat.mul_one]
    have e1 : b * (a % b) < 2 ^ 31 * 2 ^ 31 := Nat.mul_lt_mul'' h2 (by omega)
    have e2 : (2 : Nat) ^ 31 * 2 ^ 31 = 2 ^ 62 := by decide
    omega
  · cases i with
    | zero => 
      rw [Nat.pow_zero, Nat.mul_one]
      have e1 : b * (a % b) < 2 ^ 31 * 2 ^ 31 := Nat.mul_lt_mul'' h2 (by omega)
      have e2 : (2 : Nat) ^ 31 * 2 ^ 31 = 2 ^ 62 := by decide
      omega
    | succ i =>
      rw [Nat.add_sub_cancel] at h4
      have e0 : 2 * (a % b) ≤ a := by
        have q1 := Nat.div_add_mod a b
        have q2 : 1 ≤ a / b := (Nat.le_div_iff_mul_le (by omega)).mpr (by omega)
        have q3 : b * 1 ≤ b * (a / b) := Nat.mul_le_mul_left _ q2
        omega
      have e1 : b * (a % b) * 2 ^ (i + 1) ≤ a * b * 2 ^ i := by
        rw [Nat.pow_succ]
        have : b * (a % b) * (2 ^ i * 2) = b * (2 * (a % b)) * 2 ^ i := by
          rw [Nat.mul_comm (2 ^ i) 2, ← Nat.mul_assoc, Nat.mul_assoc b, Nat.mul_comm (a % b) 2]
        rw [this, Nat.mul_comm a b]
        exact Nat.mul_le_mul_right _ (Nat.mul_le_mul_left _ e0)
      omega
theorem gcI_end {a b : Nat} (h : gcI a b 64) : b = 0 := by
  obtain ⟨h1, h2, h3⟩ := h
  rcases h3 with h3 | ⟨h3, h4⟩
  · exact absurd h3 (by decide)
  · rcases Nat.eq_zero_or_pos b with q | q
    · exact q
    · have e : 1 * 1 ≤ a * b := Nat.mul_le_mul (by omega) q
      have e2 : 1 * 2 ^ 63 ≤ a * b * 2 ^ 63 := Nat.mul_le_mul_right _ (by omega)
      have e3 : (2 : Nat) ^ 62 < 1 * 2 ^ 63 := by decide
      have e4 : a * b * 2 ^ (64 - 1) = a * b * 2 ^ 63 := rfl
      omega
end
section
theorem dJ6_bitCount_0f7a4_0 : decode cJ6_bitCount_0f7a4 0 = .ok (.iload_n 0, 1) := by decide +kernel
theorem dJ6_bitCount_0f7a4_1 : decode cJ6_bitCount_0f7a4 1 = .ok (.iload_n 0, 1) := by decide +kernel
theorem dJ6_bitCount_0f7a4_2 : decode cJ6_bitCount_0f7a4 2 = .ok (.iconst 1, 1) := by decide +kernel
theorem dJ6_bitCount_0f7a4_3 : decode cJ6_bitCount_0f7a4 3 = .ok (.iushr, 1) := by decide +kernel
theorem dJ6_bitCount_0f7a4_4 : decode cJ6_bitCount_0f7a4 4 = .ok (.ldc_w 265, 3) := by decide +kernel
theorem dJ6_bitCount_0f7a4_7 : decode cJ6_bitCount_0f7a4 7 = .ok (.iand, 1) := by decide +kernel
theorem dJ6_bitCount_0f7a4_8 : decode cJ6_bitCount_0f7a4 8 = .ok (.isub, 1) := by decide +kernel
theorem dJ6_bitCount_0f7a4_9 : decode cJ6_bitCount_0f7a4 9 = .ok (.istore_n 0, 1) := by decide +kernel
theorem dJ6_bitCount_0f7a4_10 : decode cJ6_bitCount_0f7a4 10 = .ok (.iload_n 0, 1) := by decide +kernel
theorem dJ6_bitCount_0f7a4_11 : decode cJ6_bitCount_0f7a4 11 = .ok (.ldc_w 266, 3) := by decide +kernel
theorem dJ6_bitCount_0f7a4_14 : decode cJ6_bitCount_0f7a4 14 = .ok (.iand, 1) := by decide +kernel
theorem dJ6_bitCount_0f7a4_15 : decode cJ6_bitCount_0f7a4 15 = .ok (.iload_n 0, 1) := by decide +kernel
theorem dJ6_bitCount_0f7a4_16 : decode cJ6_bitCount_0f7a4 16 = .ok (.iconst 2, 1) := by decide +kernel
theorem dJ6_bitCount_0f7a4_17 : decode cJ6_bitCount_0f7a4 17 = .ok (.iushr, 1) := by decide +kernel
theorem dJ6_bitCount_0f7a4_18 : decode cJ6_bitCount_0f7a4 18 = .ok (.ldc_w 266, 3) := by decide +kernel
theorem dJ6_bitCount_0f7a4_21 : decode cJ6_bitCount_0f7a4 21 = .ok (.iand, 1) := by decide +kernel
theorem dJ6_bitCount_0f7a4_22 : decode cJ6_bitCount_0f7a4 22 = .ok (.iadd, 1) := by decide +kernel
theorem dJ6_bitCount_0f7a4_23 : decode cJ6_bitCount_0f7a4 23 = .ok (.istore_n 0, 1) := by decide +kernel
theorem dJ6_bitCount_0f7a4_24 : decode cJ6_bitCount_0f7a4 24 = .ok (.iload_n 0, 1) := by decide +kernel
theorem dJ6_bitCount_0f7a4_25 : decode cJ6_bitCount_0f7a4 25 = .ok (.iload_n 0, 1) := by decide +kernel
theorem dJ6_bitCount_0f7a4_26 : decode cJ6_bitCount_0f7a4 26 = .ok (.iconst 4, 1) := by decide +kernel
theorem dJ6_bitCount_0f7a4_27 : decode cJ6_bitCount_0f7a4 27 = .ok (.iushr, 1) := by decide +kernel
theorem dJ6_bitCount_0f7a4_28 : decode cJ6_bitCount_0f7a4 28 = .ok (.iadd, 1) := by decide +kernel
theorem dJ6_bitCount_0f7a4_29 : decode cJ6_bitCount_0f7a4 29 = .ok (.ldc_w 267, 3) := by decide +kernel
theorem dJ6_bitCount_0f7a4_32 : decode cJ6_bitCount_0f7a4 32 = .ok (.iand, 1) := by decide +kernel
theorem dJ6_bitCount_0f7a4_33 : decode cJ6_bitCount_0f7a4 33 = .ok (.istore_n 0, 1) := by decide +kernel
theorem dJ6_bitCount_0f7a4_34 : decode cJ6_bitCount_0f7a4 34 = .ok (.iload_n 0, 1) := by decide +kernel
theorem dJ6_bitCount_0f7a4_35 : decode cJ6_bitCount_0f7a4 35 = .ok (.iload_n 0, 1) := by decide +kernel
theorem dJ6_bitCount_0f7a4_36 : decode cJ6_bitCount_0f7a4 36 = .ok (.bipush 8, 2) := by decide +kernel
theorem dJ6_bitCount_0f7a4_38 : decode cJ6_bitCount_0f7a4 38 = .ok (.iushr, 1) := by decide +kernel
theorem dJ6_bitCount_0f7a4_39 : decode cJ6_bitCount_0f7a4 39 = .ok (.iadd, 1) := by decide +kernel
theorem dJ6_bitCount_0f7a4_40 : decode cJ6_bitCount_0f7a4 40 = .ok (.istore_n 0, 1) := by decide +kernel
theorem dJ6_bitCount_0f7a4_41 : decode cJ6_bitCount_0f7a4 41 = .ok (.iload_n 0, 1) := by decide +kernel
theorem dJ6_bitCount_0f7a4_42 : decode cJ6_bitCount_0f7a4 42 = .ok (.iload_n 0, 1) := by decide +kernel
theorem dJ6_bitCount_0f7a4_43 : decode cJ6_bitCount_0f7a4 43 = .ok (.bipush 16, 2) := by decide +kernel
theorem dJ6_bitCount_0f7a4_45 : decode cJ6_bitCount_0f7a4 45 = .ok (.iushr, 1) := by decide +kernel
theorem dJ6_bitCount_0f7a4_46 : decode cJ6_bitCount_0f7a4 46 = .ok (.iadd, 1) := by decide +kernel
theorem dJ6_bitCount_0f7a4_47 : decode cJ6_bitCount_0f7a4 47 = .ok (.istore_n 0, 1) := by decide +kernel
theorem dJ6_bitCount_0f7a4_48 : decode cJ6_bitCount_0f7a4 48 = .ok (.iload_n 0, 1) := by decide +kernel
theorem dJ6_bitCount_0f7a4_49 : decode cJ6_bitCount_0f7a4 49 = .ok (.bipush 63, 2) := by decide +kernel
theorem dJ6_bitCount_0f7a4_51 : decode cJ6_bitCount_0f7a4 51 = .ok (.iand, 1) := by decide +kernel
theorem dJ6_bitCount_0f7a4_52 : decode cJ6_bitCount_0f7a4 52 = .ok (.ireturn, 1) := by decide +kernel
set_option maxHeartbeats 4000000 in
set_option maxRecDepth 100000 in
theorem c_J6_bitCount_0f7a4 {l : Launch} {g : GW} {S : Nat} (μ : Mm) (hS : S < 64) : Con l g yJ6_bitCount_0f7a4 cJ6_bitCount_0f7a4 1 (some .int) 0 [.int (nI S)] μ (fun r μ' => r = some (.int (nI (cntB S))) ∧ μ' = μ) := by
  refine Con.of [.int (nI S)] 0 (by decide +kernel) (Nat.le_of_ble_eq_true rfl) rfl ?_
  refine V_iload_n (pc := 0) dJ6_bitCount_0f7a4_0 rfl rfl ?_
  refine V_iload_n (pc := 1) dJ6_bitCount_0f7a4_1 rfl rfl ?_
  refine V_iconst (pc := 2) (v := 1) dJ6_bitCount_0f7a4_2 (by decide) ?_
  refine V_iushr (pc := 3) (v := 0) dJ6_bitCount_0f7a4_3 ?_
  refine V_ldcw (pc := 4) (v := 1431655765) ct_J6_265 dJ6_bitCount_0f7a4_4 ?_
  refine V_iand (pc := 7) dJ6_bitCount_0f7a4_7 ?_
  refine V_isub (pc := 8) dJ6_bitCount_0f7a4_8 ?_
  refine V_istore0 (pc := 9) dJ6_bitCount_0f7a4_9 (by decide) rfl ?_
  refine V_iload_n (pc := 10) dJ6_bitCount_0f7a4_10 rfl rfl ?_
  refine V_ldcw (pc := 11) (v := 858993459) ct_J6_266 dJ6_bitCount_0f7a4_11 ?_
  refine V_iand (pc := 14) dJ6_bitCount_0f7a4_14 ?_
  refine V_iload_n (pc := 15) dJ6_bitCount_0f7a4_15 rfl rfl ?_
  refine V_iconst (pc := 16) (v := 2) dJ6_bitCount_0f7a4_16 (by decide) ?_
  refine V_iushr (pc := 17) (v := 0) dJ6_bitCount_0f7a4_17 ?_
  refine V_ldcw (pc := 18) (v := 858993459) ct_J6_266 dJ6_bitCount_0f7a4_18 ?_
  refine V_iand (pc := 21) dJ6_bitCount_0f7a4_21 ?_
  refine V_iadd (pc := 22) dJ6_bitCount_0f7a4_22 ?_
  refine V_istore0 (pc := 23) dJ6_bitCount_0f7a4_23 (by decide) rfl ?_
  refine V_iload_n (pc := 24) dJ6_bitCount_0f7a4_24 rfl rfl ?_
  refine V_iload_n (pc := 25) dJ6_bitCount_0f7a4_25 rfl rfl ?_
  refine V_iconst (pc := 26) (v := 4) dJ6_bitCount_0f7a4_26 (by decide) ?_
  refine V_iushr (pc := 27) (v := 0) dJ6_bitCount_0f7a4_27 ?_
  refine V_iadd (pc := 28) dJ6_bitCount_0f7a4_28 ?_
  refine V_ldcw (pc := 29) (v := 252645135) ct_J6_267 dJ6_bitCount_0f7a4_29 ?_
  refine V_iand (pc := 32) dJ6_bitCount_0f7a4_32 ?_
  refine V_istore0 (pc := 33) dJ6_bitCount_0f7a4_33 (by decide) rfl ?_
  refine V_iload_n (pc := 34) dJ6_bitCount_0f7a4_34 rfl rfl ?_
  refine V_iload_n (pc := 35) dJ6_bitCount_0f7a4_35 rfl rfl ?_
  refine V_bipush (pc := 36) (v := 8) dJ6_bitCount_0f7a4_36 (by decide) ?_
  refine V_iushr (pc := 38) (v := 0) dJ6_bitCount_0f7a4_38 ?_
  refine V_iadd (pc := 39) dJ6_bitCount_0f7a4_39 ?_
  refine V_istore0 (pc := 40) dJ6_bitCount_0f7a4_40 (by decide) rfl ?_
  refine V_iload_n (pc := 41) dJ6_bitCount_0f7a4_41 rfl rfl ?_
  refine V_iload_n (pc := 42) dJ6_bitCount_0f7a4_42 rfl rfl ?_
  refine V_bipush (pc := 43) (v := 16) dJ6_bitCount_0f7a4_43 (by decide) ?_
  refine V_iushr (pc := 45) (v := 0) dJ6_bitCount_0f7a4_45 ?_
  refine V_iadd (pc := 46) dJ6_bitCount_0f7a4_46 ?_
  refine V_istore0 (pc := 47) dJ6_bitCount_0f7a4_47 (by decide) rfl ?_
  refine V_iload_n (pc := 48) dJ6_bitCount_0f7a4_48 rfl rfl ?_
  refine V_bipush (pc := 49) (v := 63) dJ6_bitCount_0f7a4_49 (by decide) ?_
  refine V_iand (pc := 51) dJ6_bitCount_0f7a4_51 ?_
  refine V_iret (pc := 52) dJ6_bitCount_0f7a4_52 rfl ?_
  refine ⟨congrArg (fun z => some (Value.int z)) ?_, rfl⟩
  revert hS
  revert S
  decide +kernel
theorem dX4_spentCount_0 : decode cX4_spentCount 0 = .ok (.aload_n 0, 1) := by decide +kernel
theorem dX4_spentCount_1 : decode cX4_spentCount 1 = .ok (.getfield 35, 3) := by decide +kernel
theorem dX4_spentCount_4 : decode cX4_spentCount 4 = .ok (.invokestatic 58, 3) := by decide +kernel
theorem dX4_spentCount_7 : decode cX4_spentCount 7 = .ok (.ireturn, 1) := by decide +kernel
set_option maxHeartbeats 4000000 in
set_option maxRecDepth 100000 in
theorem c_X4_spentCount {l : Launch} {g : GW} {s : Nat} {σ : SeaT} (μ : Mm) (hs : s = 4 ∨ s = 13 ∨ s = 22) (hS : SeaR μ s σ) : Con l g yX4_spentCount cX4_spentCount 1 (some .int) 1 [.ref s] μ (fun r μ' => r = some (.int (nI (cntB (sS σ)))) ∧ μ' = μ) := by
  obtain ⟨hs1, hs2, hs3, hs4, hs5, hs6, hrow⟩ := seaF hs
  obtain ⟨r1, r2, r3, r4, r5, r6, r7, r8, r9⟩ := hS
  refine Con.of [.ref s] 0 (by decide +kernel) (Nat.le_of_ble_eq_true rfl) rfl ?_
  refine V_aload_n (pc := 0) dX4_spentCount_0 rfl rfl ?_
  refine V_getI (pc := 1) (ci := 4) (j := 3) dX4_spentCount_1 fl_X4_35 (fun _ _ _ _ => rfl) (by first | decide | omega) (by first | rfl | assumption | decide) ?_
  rw [r3]
  refine V_ins1 (pc := 4) dX4_spentCount_4 ml_X4_58 (by first | decide | omega) (Nat.le_of_ble_eq_true rfl) (c_J6_bitCount_0f7a4 μ r4) ?_
  rintro _ μ2 ⟨rfl, hμ⟩
  obtain rfl := hμ.symm
  refine V_iret (pc := 7) dX4_spentCount_7 rfl ?_
  exact ⟨rfl, rfl⟩
theorem dX4_nextSeed_0 : decode cX4_nextSeed 0 = .ok (.ldc2_w 125, 3) := by decide +kernel
theorem dX4_nextSeed_3 : decode cX4_nextSeed 3 = .ok (.iload_n 0, 1) := by decide +kernel
theorem dX4_nextSeed_4 : decode cX4_nextSeed 4 = .ok (.i2l, 1) := by decide +kernel
theorem dX4_nextSeed_5 : decode cX4_nextSeed 5 = .ok (.lmul, 1) := by decide +kernel
theorem dX4_nextSeed_6 : decode cX4_nextSeed 6 = .ok (.ldc2_w 127, 3) := by decide +kernel
theorem dX4_nextSeed_9 : decode cX4_nextSeed 9 = .ok (.ladd, 1) := by decide +kernel
theorem dX4_nextSeed_10 : decode cX4_nextSeed 10 = .ok (.ldc2_w 129, 3) := by decide +kernel
theorem dX4_nextSeed_13 : decode cX4_nextSeed 13 = .ok (.land, 1) := by decide +kernel
theorem dX4_nextSeed_14 : decode cX4_nextSeed 14 = .ok (.l2i, 1) := by decide +kernel
theorem dX4_nextSeed_15 : decode cX4_nextSeed 15 = .ok (.ireturn, 1) := by decide +kernel
set_option maxHeartbeats 4000000 in
set_option maxRecDepth 100000 in
theorem c_X4_nextSeed {l : Launch} {g : GW} {s : Nat} (μ : Mm) (hs : s < 2 ^ 31) : Con l g yX4_nextSeed cX4_nextSeed 1 (some .int) 0 [.int (nI s)] μ (fun r μ' => r = some (.int (nI (nxS s))) ∧ μ' = μ) := by
  refine Con.of [.int (nI s)] 0 (by decide +kernel) (Nat.le_of_ble_eq_true rfl) rfl ?_
  refine V_ldc2 (pc := 0) (v := 1103515245) ct_X4_125 dX4_nextSeed_0 ?_
  refine V_iload_n (pc := 3) dX4_nextSeed_3 rfl rfl ?_
  refine V_i2l (pc := 4) dX4_nextSeed_4 ?_
  refine V_lmul (pc := 5) dX4_nextSeed_5 ?_
  refine V_ldc2 (pc := 6) (v := 12345) ct_X4_127 dX4_nextSeed_6 ?_
  refine V_ladd (pc := 9) dX4_nextSeed_9 ?_
  refine V_ldc2 (pc := 10) (v := 2147483647) ct_X4_129 dX4_nextSeed_10 ?_
  refine V_land (pc := 13) dX4_nextSeed_13 ?_
  refine V_l2i (pc := 14) dX4_nextSeed_14 ?_
  refine V_iret (pc := 15) dX4_nextSeed_15 rfl ?_
  exact ⟨congrArg (fun z => some (Value.int z)) (by rw [nI_l hs, nxS_eq hs, lN_i]), rfl⟩
theorem dX4_drawOf_0 : decode cX4_drawOf 0 = .ok (.iload_n 1, 1) := by decide +kernel
theorem dX4_drawOf_1 : decode cX4_drawOf 1 = .ok (.ifCond .le 12, 3) := by decide +kernel
theorem dX4_drawOf_4 : decode cX4_drawOf 4 = .ok (.iload_n 0, 1) := by decide +kernel
theorem dX4_drawOf_5 : decode cX4_drawOf 5 = .ok (.bipush 16, 2) := by decide +kernel
theorem dX4_drawOf_7 : decode cX4_drawOf 7 = .ok (.ishr, 1) := by decide +kernel
theorem dX4_drawOf_8 : decode cX4_drawOf 8 = .ok (.iload_n 1, 1) := by decide +kernel
theorem dX4_drawOf_9 : decode cX4_drawOf 9 = .ok (.irem, 1) := by decide +kernel
theorem dX4_drawOf_10 : decode cX4_drawOf 10 = .ok (.goto 4, 3) := by decide +kernel
theorem dX4_drawOf_14 : decode cX4_drawOf 14 = .ok (.ireturn, 1) := by decide +kernel
set_option maxHeartbeats 4000000 in
set_option maxRecDepth 100000 in
theorem c_X4_drawOf {l : Launch} {g : GW} {s o : Nat} (μ : Mm) (hs : s < 2 ^ 31) (ho : o < 2 ^ 31) (ho1 : 0 < o) : Con l g yX4_drawOf cX4_drawOf 2 (some .int) 0 [.int (nI s), .int (nI o)] μ (fun r μ' => r = some (.int (nI (s / 65536 % o))) ∧ μ' = μ) := by
  refine Con.of [.int (nI s), .int (nI o)] 0 (by decide +kernel) (Nat.le_of_ble_eq_true rfl) rfl ?_
  refine V_iload_n (pc := 0) dX4_drawOf_0 rfl rfl ?_
  refine V_ifle (pc := 1) (tgt := 13) dX4_drawOf_1 (by decide) (fun h1 => ?_) (fun h1 => ?_)
  · exact absurd ((nI_leI (a := o) (b := 0) ho (by decide)).mp h1) (by omega)
  refine V_iload_n (pc := 4) dX4_drawOf_4 rfl rfl ?_
  refine V_bipush (pc := 5) (v := 16) dX4_drawOf_5 (by decide) ?_
  refine V_ishr (pc := 7) dX4_drawOf_7 ?_
  refine V_iload_n (pc := 8) dX4_drawOf_8 rfl rfl ?_
  refine V_irem (pc := 9) dX4_drawOf_9 (fun q => absurd ((nI_eq (a := o) (b := 0) ho (by decide)).mp q) (by omega)) ?_
  refine V_goto (pc := 10) (tgt := 14) dX4_drawOf_10 (by decide) ?_
  refine V_iret (pc := 14) dX4_drawOf_14 rfl ?_
  exact ⟨congrArg (fun z => some (Value.int z)) (by rw [pk_shrN hs _ 16 (by decide)]; exact pk_rem (by have := Nat.div_le_self s (2 ^ 16); omega) ho1 ho), rfl⟩
theorem dX4_windDrawn_0 : decode cX4_windDrawn 0 = .ok (.iconst 0, 1) := by decide +kernel
theorem dX4_windDrawn_1 : decode cX4_windDrawn 1 = .ok (.istore_n 3, 1) := by decide +kernel
theorem dX4_windDrawn_2 : decode cX4_windDrawn 2 = .ok (.iconst 0, 1) := by decide +kernel
theorem dX4_windDrawn_3 : decode cX4_windDrawn 3 = .ok (.istore 4, 2) := by decide +kernel
theorem dX4_windDrawn_5 : decode cX4_windDrawn 5 = .ok (.iload 4, 2) := by decide +kernel
theorem dX4_windDrawn_7 : decode cX4_windDrawn 7 = .ok (.iconst 4, 1) := by decide +kernel
theorem dX4_windDrawn_8 : decode cX4_windDrawn 8 = .ok (.if_icmp .ge 29, 3) := by decide +kernel
theorem dX4_windDrawn_11 : decode cX4_windDrawn 11 = .ok (.iload_n 3, 1) := by decide +kernel
theorem dX4_windDrawn_12 : decode cX4_windDrawn 12 = .ok (.aload_n 0, 1) := by decide +kernel
theorem dX4_windDrawn_13 : decode cX4_windDrawn 13 = .ok (.getfield 121, 3) := by decide +kernel
theorem dX4_windDrawn_16 : decode cX4_windDrawn 16 = .ok (.iload 4, 2) := by decide +kernel
theorem dX4_windDrawn_18 : decode cX4_windDrawn 18 = .ok (.aaload, 1) := by decide +kernel
theorem dX4_windDrawn_19 : decode cX4_windDrawn 19 = .ok (.iload_n 1, 1) := by decide +kernel
theorem dX4_windDrawn_20 : decode cX4_windDrawn 20 = .ok (.iaload, 1) := by decide +kernel
theorem dX4_windDrawn_21 : decode cX4_windDrawn 21 = .ok (.iadd, 1) := by decide +kernel
theorem dX4_windDrawn_22 : decode cX4_windDrawn 22 = .ok (.istore_n 3, 1) := by decide +kernel
theorem dX4_windDrawn_23 : decode cX4_windDrawn 23 = .ok (.iload_n 3, 1) := by decide +kernel
theorem dX4_windDrawn_24 : decode cX4_windDrawn 24 = .ok (.iload_n 2, 1) := by decide +kernel
theorem dX4_windDrawn_25 : decode cX4_windDrawn 25 = .ok (.if_icmp .le 6, 3) := by decide +kernel
theorem dX4_windDrawn_28 : decode cX4_windDrawn 28 = .ok (.iload 4, 2) := by decide +kernel
theorem dX4_windDrawn_30 : decode cX4_windDrawn 30 = .ok (.ireturn, 1) := by decide +kernel
theorem dX4_windDrawn_31 : decode cX4_windDrawn 31 = .ok (.iinc 4 1, 3) := by decide +kernel
theorem dX4_windDrawn_34 : decode cX4_windDrawn 34 = .ok (.goto (-29), 3) := by decide +kernel
theorem dX4_windDrawn_37 : decode cX4_windDrawn 37 = .ok (.iconst 4, 1) := by decide +kernel
theorem dX4_windDrawn_38 : decode cX4_windDrawn 38 = .ok (.ireturn, 1) := by decide +kernel
set_option maxHeartbeats 4000000 in
set_option maxRecDepth 100000 in
theorem c_X4_windDrawn {l : Launch} {g : GW} {b s x : Nat} {tn : Nat → Nat → Nat} {ow : Nat → Nat} (μ : Mm) (hb : b = 49 ∨ b = 57) (hB : BkR μ b tn ow) (hs : s ≤ 2) (hx : x < 2 ^ 31) : Con l g yX4_windDrawn cX4_windDrawn 5 (some .int) 0 [.ref b, .int (nI s), .int (nI x)] μ (fun r μ' => r = some (.int (nI (widT tn s x))) ∧ μ' = μ) := by
  obtain ⟨hb1, hb2, hb3, hb4, hb5, hb6, hrow⟩ := bkF hb
  have hple : ∀ n, n ≤ 5 → pfT tn s n ≤ 10 * n := pfT_le (fun w hw => hB.le hw (by omega))
  refine Con.of [.ref b, .int (nI s), .int (nI x), .null, .null] 2 (by decide +kernel) (Nat.le_of_ble_eq_true rfl) rfl ?_
  refine V_iconst (pc := 0) (v := 0) dX4_windDrawn_0 (by decide) ?_
  refine V_istore3 (pc := 1) dX4_windDrawn_1 (by decide) rfl ?_
  refine V_iconst (pc := 2) (v := 0) dX4_windDrawn_2 (by decide) ?_
  refine V_istore4 (pc := 3) dX4_windDrawn_3 (by decide) rfl ?_
  have loop : ∀ (n i : Nat) (acc : Int32), i ≤ 4 → 4 < i + n → (acc = nI (pfT tn s i)) → (∀ j, 1 ≤ j → j ≤ i → ¬ x < pfT tn s j) → V l g RX4 cX4_windDrawn 5 (some .int) 0 5 [.ref b, .int (nI s), .int (nI x), .int acc, .int (nI i)] [] μ (fun r μ' => r = some (.int (nI (widT tn s x))) ∧ μ' = μ) := by
    intro n
    induction n with
    | zero => intro i acc h1 h2; exact absurd h2 (by omega)
    | succ n ih =>
      intro i acc hle hfu hacc hno
      refine V_iload (pc := 5) dX4_windDrawn_5 rfl ?_
      refine V_iconst (pc := 7) (v := 4) dX4_windDrawn_7 (by decide) ?_
      refine V_icmpge (pc := 8) (tgt := 37) dX4_windDrawn_8 (by decide) (fun h8 => ?_) (fun h8 => ?_)
      · have h8 := (nI_leI (a := 4) (b := i) (by decide) (by omega)).mp h8; obtain rfl : i = 4 := by omega
        refine V_iconst (pc := 37) (v := 4) dX4_windDrawn_37 (by decide) ?_
        refine V_iret (pc := 38) dX4_windDrawn_38 rfl ?_
        exact ⟨by rw [widT_no hno]; rfl, rfl⟩
      have hlt : i < 4 := nI_l3 (a := 4) (by decide) (by omega) h8
      refine V_iload_n (pc := 11) dX4_windDrawn_11 rfl rfl ?_
      refine V_aload_n (pc := 12) dX4_windDrawn_12 rfl rfl ?_
      refine V_getR (pc := 13) (ci := 0) (j := 0) (k2 := (b + 1)) dX4_windDrawn_13 fl_X4_121 (fun _ _ _ _ => rfl) (by first | decide | omega) (by first | rfl | assumption | exact (hrow _ (by omega)).2.1 | decide) (rf_0_0 (by first | rfl | assumption | exact (hrow _ (by omega)).2.1 | decide)) ?_
      refine V_iload (pc := 16) dX4_windDrawn_16 rfl ?_
      refine V_aald15 (pc := 18) (j := i) dX4_windDrawn_18 (by first | decide | omega) (by first | rfl | assumption | exact (hrow _ (by omega)).2.1 | decide) rfl (by omega) ?_
      refine V_iload_n (pc := 19) dX4_windDrawn_19 rfl rfl ?_
      refine V_iald (pc := 20) (j := s) dX4_windDrawn_20 (by first | decide | omega) (by first | rfl | assumption | exact (hrow _ (by omega)).2.1 | decide) rfl (by have := (hrow i (by omega)).2.2; omega) ?_
      refine V_iadd (pc := 21) dX4_windDrawn_21 ?_
      rw [hacc, hB.1 i s (by omega) (by omega), nI_add, show pfT tn s i + tn i s = pfT tn s (i + 1) from rfl]
      have hpl := hple (i + 1) (by omega)
      refine V_istore3 (pc := 22) dX4_windDrawn_22 (by decide) rfl ?_
      refine V_iload_n (pc := 23) dX4_windDrawn_23 rfl rfl ?_
      refine V_iload_n (pc := 24) dX4_windDrawn_24 rfl rfl ?_
      refine V_icmple (pc := 25) (tgt := 31) dX4_windDrawn_25 (by decide) (fun h25 => ?_) (fun h25 => ?_)
      · have h25 := (nI_leI (a := pfT tn s (i + 1)) (b := x) (by omega) hx).mp h25
        refine V_iinc4 (pc := 31) (v := nI (i + 1)) dX4_windDrawn_31 (nI_1 i) (by decide) rfl ?_
        refine V_goto (pc := 34) (tgt := 5) dX4_windDrawn_34 (by decide) ?_
        refine ih (i + 1) _ (by omega) (by omega) rfl (fun j h1 h2 => ?_)
        by_cases e : j = i + 1
        · rw [e]; omega
        · exact hno j h1 (by omega)
      have h25 := mt (nI_leI (a := pfT tn s (i + 1)) (b := x) (by omega) hx).mpr h25
      refine V_iload (pc := 28) dX4_windDrawn_28 rfl ?_
      refine V_iret (pc := 30) dX4_windDrawn_30 rfl ?_
      exact ⟨by rw [widT_at hlt hno (by omega)], rfl⟩
  exact loop (4 + 1) 0 _ (by omega) (by omega) rfl (fun j h1 h2 => absurd h1 (by omega))
theorem dX7_greatestShared_0 : decode cX7_greatestShared 0 = .ok (.iload_n 0, 1) := by decide +kernel
theorem dX7_greatestShared_1 : decode cX7_greatestShared 1 = .ok (.istore_n 2, 1) := by decide +kernel
theorem dX7_greatestShared_2 : decode cX7_greatestShared 2 = .ok (.iload_n 1, 1) := by decide +kernel
theorem dX7_greatestShared_3 : decode cX7_greatestShared 3 = .ok (.istore_n 3, 1) := by decide +kernel
theorem dX7_greatestShared_4 : decode cX7_greatestShared 4 = .ok (.iconst 0, 1) := by decide +kernel
theorem dX7_greatestShared_5 : decode cX7_greatestShared 5 = .ok (.istore 4, 2) := by decide +kernel
theorem dX7_greatestShared_7 : decode cX7_greatestShared 7 = .ok (.iload 4, 2) := by decide +kernel
theorem dX7_greatestShared_9 : decode cX7_greatestShared 9 = .ok (.bipush 64, 2) := by decide +kernel
theorem dX7_greatestShared_11 : decode cX7_greatestShared 11 = .ok (.if_icmp .ge 23, 3) := by decide +kernel
theorem dX7_greatestShared_14 : decode cX7_greatestShared 14 = .ok (.iload_n 3, 1) := by decide +kernel
theorem dX7_greatestShared_15 : decode cX7_greatestShared 15 = .ok (.ifCond .eq 19, 3) := by decide +kernel
theorem dX7_greatestShared_18 : decode cX7_greatestShared 18 = .ok (.iload_n 2, 1) := by decide +kernel
theorem dX7_greatestShared_19 : decode cX7_greatestShared 19 = .ok (.iload_n 3, 1) := by decide +kernel
theorem dX7_greatestShared_20 : decode cX7_greatestShared 20 = .ok (.irem, 1) := by decide +kernel
theorem dX7_greatestShared_21 : decode cX7_greatestShared 21 = .ok (.istore 5, 2) := by decide +kernel
theorem dX7_greatestShared_23 : decode cX7_greatestShared 23 = .ok (.iload_n 3, 1) := by decide +kernel
theorem dX7_greatestShared_24 : decode cX7_greatestShared 24 = .ok (.istore_n 2, 1) := by decide +kernel
theorem dX7_greatestShared_25 : decode cX7_greatestShared 25 = .ok (.iload 5, 2) := by decide +kernel
theorem dX7_greatestShared_27 : decode cX7_greatestShared 27 = .ok (.istore_n 3, 1) := by decide +kernel
theorem dX7_greatestShared_28 : decode cX7_greatestShared 28 = .ok (.iinc 4 1, 3) := by decide +kernel
theorem dX7_greatestShared_31 : decode cX7_greatestShared 31 = .ok (.goto (-24), 3) := by decide +kernel
theorem dX7_greatestShared_34 : decode cX7_greatestShared 34 = .ok (.iload_n 2, 1) := by decide +kernel
theorem dX7_greatestShared_35 : decode cX7_greatestShared 35 = .ok (.ireturn, 1) := by decide +kernel
set_option maxHeartbeats 4000000 in
set_option maxRecDepth 100000 in
theorem c_X7_greatestShared {l : Launch} {g : GW} {a0 b0 : Nat} (μ : Mm) (ha0 : a0 < 2 ^ 31) (hb0 : b0 < 2 ^ 31) : Con l g yX7_greatestShared cX7_greatestShared 6 (some .int) 0 [.int (nI a0), .int (nI b0)] μ (fun r μ' => r = some (.int (nI (Nat.gcd a0 b0))) ∧ μ' = μ) := by
  refine Con.of [.int (nI a0), .int (nI b0), .null, .null, .null, .null] 4 (by decide +kernel) (Nat.le_of_ble_eq_true rfl) rfl ?_
  refine V_iload_n (pc := 0) dX7_greatestShared_0 rfl rfl ?_
  refine V_istore2 (pc := 1) dX7_greatestShared_1 (by decide) rfl ?_
  refine V_iload_n (pc := 2) dX7_greatestShared_2 rfl rfl ?_
  refine V_istore3 (pc := 3) dX7_greatestShared_3 (by decide) rfl ?_
  refine V_iconst (pc := 4) (v := 0) dX7_greatestShared_4 (by decide) ?_
  refine V_istore4 (pc := 5) dX7_greatestShared_5 (by decide) rfl ?_
  have loop : ∀ (n i : Nat) (a b : Nat) (y5 : Value), i ≤ 64 → 64 < i + n → (gcI a b i) → (Nat.gcd a b = Nat.gcd a0 b0) → V l g RX7 cX7_greatestShared 6 (some .int) 0 7 [.int (nI a0), .int (nI b0), .int (nI a), .int (nI b), .int (nI i), y5] [] μ (fun r μ' => r = some (.int (nI (Nat.gcd a0 b0))) ∧ μ' = μ) := by
    intro n
    induction n with
    | zero => intro i a b y5 h1 h2; exact absurd h2 (by omega)
    | succ n ih =>
      intro i a b y5 hle hfu hI hg
      refine V_iload (pc := 7) dX7_greatestShared_7 rfl ?_
      refine V_bipush (pc := 9) (v := 64) dX7_greatestShared_9 (by decide) ?_
      refine V_icmpge (pc := 11) (tgt := 34) dX7_greatestShared_11 (by decide) (fun h11 => ?_) (fun h11 => ?_)
      · have h11 := (nI_leI (a := 64) (b := i) (by decide) (by omega)).mp h11; have hb9 : b = 0 := gcI_end ((show i = 64 by omega) ▸ hI)
        refine V_iload_n (pc := 34) dX7_greatestShared_34 rfl rfl ?_
        refine V_iret (pc := 35) dX7_greatestShared_35 rfl ?_
        exact ⟨by rw [← hg, hb9, Nat.gcd_zero_right], rfl⟩
      have hlt : i < 64 := nI_l3 (a := 64) (by decide) (by omega) h11
      refine V_iload_n (pc := 14) dX7_greatestShared_14 rfl rfl ?_
      refine V_ifeq (pc := 15) (tgt := 34) dX7_greatestShared_15 (by decide) (fun h15 => ?_) (fun h15 => ?_)
      · have hb9 : b = 0 := (nI_eq (a := b) (b := 0) hI.2.1 (by decide)).mp h15
        refine V_iload_n (pc := 34) dX7_greatestShared_34 rfl rfl ?_
        refine V_iret (pc := 35) dX7_greatestShared_35 rfl ?_
        exact ⟨by rw [← hg, hb9, Nat.gcd_zero_right], rfl⟩
      have hb9 : b ≠ 0 := mt (nI_eq (a := b) (b := 0) hI.2.1 (by decide)).mpr h15
      refine V_iload_n (pc := 18) dX7_greatestShared_18 rfl rfl ?_
      refine V_iload_n (pc := 19) dX7_greatestShared_19 rfl rfl ?_
      refine V_irem (pc := 20) dX7_greatestShared_20 (mt (nI_eq (a := b) (b := 0) hI.2.1 (by decide)).mp hb9) ?_
      rw [pk_rem hI.1 (by omega) hI.2.1]
      refine V_istore5 (pc := 21) dX7_greatestShared_21 (by decide) rfl ?_
      refine V_iload_n (pc := 23) dX7_greatestShared_23 rfl rfl ?_
      refine V_istore2 (pc := 24) dX7_greatestShared_24 (by decide) rfl ?_
      refine V_iload (pc := 25) dX7_greatestShared_25 rfl ?_
      refine V_istore3 (pc := 27) dX7_greatestShared_27 (by decide) rfl ?_
      refine V_iinc4 (pc := 28) (v := nI (i + 1)) dX7_greatestShared_28 (nI_1 i) (by decide) rfl ?_
      refine V_goto (pc := 31) (tgt := 7) dX7_greatestShared_31 (by decide) ?_
      exact ih (i + 1) b (a % b) _ (by omega) (by omega) (gcI_step hI hb9) (by rw [← gcd_step hb9]; exact hg)
  exact loop (64 + 1) 0 _ _ _ (by omega) (by omega) ⟨ha0, hb0, Or.inl rfl⟩ rfl
theorem dX7_inLowestTerms_0 : decode cX7_inLowestTerms 0 = .ok (.iload_n 0, 1) := by decide +kernel
theorem dX7_inLowestTerms_1 : decode cX7_inLowestTerms 1 = .ok (.iload_n 1, 1) := by decide +kernel
theorem dX7_inLowestTerms_2 : decode cX7_inLowestTerms 2 = .ok (.invokestatic 311, 3) := by decide +kernel
theorem dX7_inLowestTerms_5 : decode cX7_inLowestTerms 5 = .ok (.istore_n 3, 1) := by decide +kernel
theorem dX7_inLowestTerms_6 : decode cX7_inLowestTerms 6 = .ok (.iload_n 2, 1) := by decide +kernel
theorem dX7_inLowestTerms_7 : decode cX7_inLowestTerms 7 = .ok (.ifCond .ne 7, 3) := by decide +kernel
theorem dX7_inLowestTerms_10 : decode cX7_inLowestTerms 10 = .ok (.iload_n 0, 1) := by decide +kernel
theorem dX7_inLowestTerms_11 : decode cX7_inLowestTerms 11 = .ok (.goto 4, 3) := by decide +kernel
theorem dX7_inLowestTerms_14 : decode cX7_inLowestTerms 14 = .ok (.iload_n 1, 1) := by decide +kernel
theorem dX7_inLowestTerms_15 : decode cX7_inLowestTerms 15 = .ok (.istore 4, 2) := by decide +kernel
theorem dX7_inLowestTerms_17 : decode cX7_inLowestTerms 17 = .ok (.iload_n 3, 1) := by decide +kernel
theorem dX7_inLowestTerms_18 : decode cX7_inLowestTerms 18 = .ok (.ifCond .le 11, 3) := by decide +kernel
theorem dX7_inLowestTerms_21 : decode cX7_inLowestTerms 21 = .ok (.iload 4, 2) := by decide +kernel
theorem dX7_inLowestTerms_23 : decode cX7_inLowestTerms 23 = .ok (.iload_n 3, 1) := by decide +kernel
theorem dX7_inLowestTerms_24 : decode cX7_inLowestTerms 24 = .ok (.idiv, 1) := by decide +kernel
theorem dX7_inLowestTerms_25 : decode cX7_inLowestTerms 25 = .ok (.i2l, 1) := by decide +kernel
theorem dX7_inLowestTerms_26 : decode cX7_inLowestTerms 26 = .ok (.goto 6, 3) := by decide +kernel
theorem dX7_inLowestTerms_32 : decode cX7_inLowestTerms 32 = .ok (.lreturn, 1) := by decide +kernel
set_option maxHeartbeats 4000000 in
set_option maxRecDepth 100000 in
theorem c_X7_inLowestTerms {l : Launch} {g : GW} {a b q : Nat} (μ : Mm) (ha : a < 2 ^ 31) (hb : b < 2 ^ 31) (hb1 : 0 < b) (hq : q ≤ 1) : Con l g yX7_inLowestTerms cX7_inLowestTerms 5 (some .long) 1 [.int (nI a), .int (nI b), .int (nI q)] μ (fun r μ' => r = some (.long (lN ((if q = 0 then a else b) / Nat.gcd a b))) ∧ μ' = μ) := by
  have hg : 0 < Nat.gcd a b := Nat.gcd_pos_of_pos_right _ hb1
  have hg2 : Nat.gcd a b ≤ b := Nat.gcd_le_right _ hb1
  refine Con.of [.int (nI a), .int (nI b), .int (nI q), .null, .null] 2 (by decide +kernel) (Nat.le_of_ble_eq_true rfl) rfl ?_
  refine V_iload_n (pc := 0) dX7_inLowestTerms_0 rfl rfl ?_
  refine V_iload_n (pc := 1) dX7_inLowestTerms_1 rfl rfl ?_
  refine V_ins2 (pc := 2) dX7_inLowestTerms_2 ml_X7_311 (by first | decide | omega) (Nat.le_of_ble_eq_true rfl) (c_X7_greatestShared μ ha hb) ?_
  rintro _ μ2 ⟨rfl, hμ⟩
  obtain rfl := hμ.symm
  refine V_istore3 (pc := 5) dX7_inLowestTerms_5 (by decide) rfl ?_
  refine V_iload_n (pc := 6) dX7_inLowestTerms_6 rfl rfl ?_
  refine V_ifne (pc := 7) (tgt := 14) dX7_inLowestTerms_7 (by decide) (fun h7 => ?_) (fun h7 => ?_)
  · have h7 := mt (nI_eq (a := q) (b := 0) (by omega) (by omega)).mpr h7
    refine V_iload_n (pc := 14) dX7_inLowestTerms_14 rfl rfl ?_
    refine V_istore4 (pc := 15) dX7_inLowestTerms_15 (by decide) rfl ?_
    refine V_iload_n (pc := 17) dX7_inLowestTerms_17 rfl rfl ?_
    refine V_ifle (pc := 18) (tgt := 29) dX7_inLowestTerms_18 (by decide) (fun h18 => ?_) (fun h18 => ?_)
    · exact absurd ((nI_leI (a := Nat.gcd a b) (b := 0) (by omega) (by decide)).mp h18) (by omega)
    refine V_iload (pc := 21) dX7_inLowestTerms_21 rfl ?_
    refine V_iload_n (pc := 23) dX7_inLowestTerms_23 rfl rfl ?_
    refine V_idiv (pc := 24) dX7_inLowestTerms_24 (fun z => absurd ((nI_eq (a := Nat.gcd a b) (b := 0) (by omega) (by decide)).mp z) (by omega)) ?_
    refine V_i2l (pc := 25) dX7_inLowestTerms_25 ?_
    refine V_goto (pc := 26) (tgt := 32) dX7_inLowestTerms_26 (by decide) ?_
    refine V_lret (pc := 32) dX7_inLowestTerms_32 rfl ?_
    exact ⟨congrArg (fun z => some (Value.long z)) (by first | (rw [if_neg h7, pk_div hb hg (by omega)]; exact nI_l (by have := Nat.div_le_self b (Nat.gcd a b); omega)) | (rw [if_pos h7, pk_div ha hg (by omega)]; exact nI_l (by have := Nat.div_le_self a (Nat.gcd a b); omega))), rfl⟩
  have h7 := (nI_eq (a := q) (b := 0) (by omega) (by omega)).mp h7
  refine V_iload_n (pc := 10) dX7_inLowestTerms_10 rfl rfl ?_
  refine V_goto (pc := 11) (tgt := 15) dX7_inLowestTerms_11 (by decide) ?_
  refine V_istore4 (pc := 15) dX7_inLowestTerms_15 (by decide) rfl ?_
  refine V_iload_n (pc := 17) dX7_inLowestTerms_17 rfl rfl ?_
  refine V_ifle (pc := 18) (tgt := 29) dX7_inLowestTerms_18 (by decide) (fun h18 => ?_) (fun h18 => ?_)
  · exact absurd ((nI_leI (a := Nat.gcd a b) (b := 0) (by omega) (by decide)).mp h18) (by omega)
  refine V_iload (pc := 21) dX7_inLowestTerms_21 rfl ?_
  refine V_iload_n (pc := 23) dX7_inLowestTerms_23 rfl rfl ?_
  refine V_idiv (pc := 24) dX7_inLowestTerms_24 (fun z => absurd ((nI_eq (a := Nat.gcd a b) (b := 0) (by omega) (by decide)).mp z) (by omega)) ?_
  refine V_i2l (pc := 25) dX7_inLowestTerms_25 ?_
  refine V_goto (pc := 26) (tgt := 32) dX7_inLowestTerms_26 (by decide) ?_
  refine V_lret (pc := 32) dX7_inLowestTerms_32 rfl ?_
  exact ⟨congrArg (fun z => some (Value.long z)) (by first | (rw [if_neg h7, pk_div hb hg (by omega)]; exact nI_l (by have := Nat.div_le_self b (Nat.gcd a b); omega)) | (rw [if_pos h7, pk_div ha hg (by omega)]; exact nI_l (by have := Nat.div_le_self a (Nat.gcd a b); omega))), rfl⟩
theorem dX7_raceChances_0 : decode cX7_raceChances 0 = .ok (.iload_n 3, 1) := by decide +kernel
theorem dX7_raceChances_1 : decode cX7_raceChances 1 = .ok (.bipush 9, 2) := by decide +kernel
theorem dX7_raceChances_3 : decode cX7_raceChances 3 = .ok (.if_icmp .ne 5, 3) := by decide +kernel
theorem dX7_raceChances_6 : decode cX7_raceChances 6 = .ok (.iconst 0, 1) := by decide +kernel
theorem dX7_raceChances_7 : decode cX7_raceChances 7 = .ok (.ireturn, 1) := by decide +kernel
theorem dX7_raceChances_8 : decode cX7_raceChances 8 = .ok (.iload_n 2, 1) := by decide +kernel
theorem dX7_raceChances_9 : decode cX7_raceChances 9 = .ok (.bipush 9, 2) := by decide +kernel
theorem dX7_raceChances_11 : decode cX7_raceChances 11 = .ok (.if_icmp .ne 9, 3) := by decide +kernel
theorem dX7_raceChances_14 : decode cX7_raceChances 14 = .ok (.getstatic 185, 3) := by decide +kernel
theorem dX7_raceChances_17 : decode cX7_raceChances 17 = .ok (.iload_n 1, 1) := by decide +kernel
theorem dX7_raceChances_18 : decode cX7_raceChances 18 = .ok (.iaload, 1) := by decide +kernel
theorem dX7_raceChances_19 : decode cX7_raceChances 19 = .ok (.ireturn, 1) := by decide +kernel
theorem dX7_raceChances_20 : decode cX7_raceChances 20 = .ok (.iload_n 1, 1) := by decide +kernel
theorem dX7_raceChances_21 : decode cX7_raceChances 21 = .ok (.ifCond .gt 5, 3) := by decide +kernel
theorem dX7_raceChances_26 : decode cX7_raceChances 26 = .ok (.iconst 0, 1) := by decide +kernel
theorem dX7_raceChances_27 : decode cX7_raceChances 27 = .ok (.istore 4, 2) := by decide +kernel
theorem dX7_raceChances_29 : decode cX7_raceChances 29 = .ok (.iconst 0, 1) := by decide +kernel
theorem dX7_raceChances_30 : decode cX7_raceChances 30 = .ok (.istore 5, 2) := by decide +kernel
theorem dX7_raceChances_32 : decode cX7_raceChances 32 = .ok (.iload 5, 2) := by decide +kernel
theorem dX7_raceChances_34 : decode cX7_raceChances 34 = .ok (.iconst 4, 1) := by decide +kernel
theorem dX7_raceChances_35 : decode cX7_raceChances 35 = .ok (.if_icmp .gt 63, 3) := by decide +kernel
theorem dX7_raceChances_38 : decode cX7_raceChances 38 = .ok (.aload_n 0, 1) := by decide +kernel
theorem dX7_raceChances_39 : decode cX7_raceChances 39 = .ok (.iload 5, 2) := by decide +kernel
theorem dX7_raceChances_41 : decode cX7_raceChances 41 = .ok (.invokevirtual 304, 3) := by decide +kernel
theorem dX7_raceChances_44 : decode cX7_raceChances 44 = .ok (.istore 6, 2) := by decide +kernel
theorem dX7_raceChances_46 : decode cX7_raceChances 46 = .ok (.iload 6, 2) := by decide +kernel
theorem dX7_raceChances_48 : decode cX7_raceChances 48 = .ok (.ifCond .le 44, 3) := by decide +kernel
theorem dX7_raceChances_51 : decode cX7_raceChances 51 = .ok (.aload_n 0, 1) := by decide +kernel
theorem dX7_raceChances_52 : decode cX7_raceChances 52 = .ok (.iconst 0, 1) := by decide +kernel
theorem dX7_raceChances_53 : decode cX7_raceChances 53 = .ok (.iload_n 2, 1) := by decide +kernel
theorem dX7_raceChances_54 : decode cX7_raceChances 54 = .ok (.iconst (-1), 1) := by decide +kernel
theorem dX7_raceChances_55 : decode cX7_raceChances 55 = .ok (.iload 5, 2) := by decide +kernel
theorem dX7_raceChances_57 : decode cX7_raceChances 57 = .ok (.invokestatic 307, 3) := by decide +kernel
theorem dX7_raceChances_60 : decode cX7_raceChances 60 = .ok (.istore 7, 2) := by decide +kernel
theorem dX7_raceChances_62 : decode cX7_raceChances 62 = .ok (.aload_n 0, 1) := by decide +kernel
theorem dX7_raceChances_63 : decode cX7_raceChances 63 = .ok (.iconst 0, 1) := by decide +kernel
theorem dX7_raceChances_64 : decode cX7_raceChances 64 = .ok (.iload_n 3, 1) := by decide +kernel
theorem dX7_raceChances_65 : decode cX7_raceChances 65 = .ok (.iconst (-1), 1) := by decide +kernel
theorem dX7_raceChances_66 : decode cX7_raceChances 66 = .ok (.iload 5, 2) := by decide +kernel
theorem dX7_raceChances_68 : decode cX7_raceChances 68 = .ok (.invokestatic 307, 3) := by decide +kernel
theorem dX7_raceChances_71 : decode cX7_raceChances 71 = .ok (.istore 8, 2) := by decide +kernel
theorem dX7_raceChances_73 : decode cX7_raceChances 73 = .ok (.iload 4, 2) := by decide +kernel
theorem dX7_raceChances_75 : decode cX7_raceChances 75 = .ok (.iload 6, 2) := by decide +kernel
theorem dX7_raceChances_77 : decode cX7_raceChances 77 = .ok (.aload_n 0, 1) := by decide +kernel
theorem dX7_raceChances_78 : decode cX7_raceChances 78 = .ok (.iload_n 1, 1) := by decide +kernel
theorem dX7_raceChances_79 : decode cX7_raceChances 79 = .ok (.iconst 1, 1) := by decide +kernel
theorem dX7_raceChances_80 : decode cX7_raceChances 80 = .ok (.isub, 1) := by decide +kernel
theorem dX7_raceChances_81 : decode cX7_raceChances 81 = .ok (.iload 7, 2) := by decide +kernel
theorem dX7_raceChances_83 : decode cX7_raceChances 83 = .ok (.iload 8, 2) := by decide +kernel
theorem dX7_raceChances_85 : decode cX7_raceChances 85 = .ok (.invokestatic 199, 3) := by decide +kernel
theorem dX7_raceChances_88 : decode cX7_raceChances 88 = .ok (.imul, 1) := by decide +kernel
theorem dX7_raceChances_89 : decode cX7_raceChances 89 = .ok (.iadd, 1) := by decide +kernel
theorem dX7_raceChances_90 : decode cX7_raceChances 90 = .ok (.istore 4, 2) := by decide +kernel
theorem dX7_raceChances_92 : decode cX7_raceChances 92 = .ok (.iinc 5 1, 3) := by decide +kernel
theorem dX7_raceChances_95 : decode cX7_raceChances 95 = .ok (.goto (-63), 3) := by decide +kernel
theorem dX7_raceChances_98 : decode cX7_raceChances 98 = .ok (.iload 4, 2) := by decide +kernel
theorem dX7_raceChances_100 : decode cX7_raceChances 100 = .ok (.ireturn, 1) := by decide +kernel
set_option maxHeartbeats 4000000 in
set_option maxRecDepth 100000 in
theorem c_X7_raceS {l : Launch} {g : GW} {z d a b : Nat} {tn : Nat → Nat → Nat} {ow : Nat → Nat} (μ : Mm) (hz : z = 49 ∨ z = 57) (hd : d + 1 ≤ 6) (hB : BkR μ z tn ow) (ha : a ≤ 9) (hb9 : b ≤ 9) (hrc : ∀ a b, a ≤ 9 → b ≤ 9 → Con l g yX7_raceChances cX7_raceChances 9 (some .int) (d + 2) [.ref z, .int (nI d), .int (nI a), .int (nI b)] μ (fun r μ' => r = some (.int (nI (raT tn ow (d) a b))) ∧ μ' = μ)) : Con l g yX7_raceChances cX7_raceChances 9 (some .int) (d + 3) [.ref z, .int (nI (d + 1)), .int (nI a), .int (nI b)] μ (fun r μ' => r = some (.int (nI (raT tn ow (d + 1) a b))) ∧ μ' = μ) := by
  have hT : TnOK tn := hB.2.2.2
  obtain ⟨hb1, hb2, hb3, hb4, hb5, hb6, hrow⟩ := bkF hz
  have hcl := fun a b => Nat.le_trans (raT_le (ow := ow) hT d a b) (p30_6 (d := d) (by omega))
  refine Con.of [.ref z, .int (nI (d + 1)), .int (nI a), .int (nI b), .null, .null, .null, .null, .null] 5 (by decide +kernel) (Nat.le_of_ble_eq_true rfl) rfl ?_
  refine V_iload_n (pc := 0) dX7_raceChances_0 rfl rfl ?_
  refine V_bipush (pc := 1) (v := 9) dX7_raceChances_1 (by decide) ?_
  refine V_icmpne (pc := 3) (tgt := 8) dX7_raceChances_3 (by decide) (fun h3 => ?_) (fun h3 => ?_)
  · have h3 := mt (nI_eq (a := b) (b := 9) (by omega) (by omega)).mpr h3
    refine V_iload_n (pc := 8) dX7_raceChances_8 rfl rfl ?_
    refine V_bipush (pc := 9) (v := 9) dX7_raceChances_9 (by decide) ?_
    refine V_icmpne (pc := 11) (tgt := 20) dX7_raceChances_11 (by decide) (fun h11 => ?_) (fun h11 => ?_)
    · have h11 := mt (nI_eq (a := a) (b := 9) (by omega) (by omega)).mpr h11
      refine V_iload_n (pc := 20) dX7_raceChances_20 rfl rfl ?_
      refine V_ifgt (pc := 21) (tgt := 26) dX7_raceChances_21 (by decide) (fun h21 => ?_) (fun h21 => ?_)
      · refine V_iconst (pc := 26) (v := 0) dX7_raceChances_26 (by decide) ?_
        refine V_istore4 (pc := 27) dX7_raceChances_27 (by decide) rfl ?_
        refine V_iconst (pc := 29) (v := 0) dX7_raceChances_29 (by decide) ?_
        refine V_istore5 (pc := 30) dX7_raceChances_30 (by decide) rfl ?_
        have loopA : ∀ (nA i : Nat) (acc : Int32) (y6 y7 y8 : Value), i ≤ 5 → 5 < i + nA → (acc = nI (raS tn ow (raT tn ow d) a b i)) → (okp [Value.null, y6] 2 = true) → (okp [Value.null, y7] 2 = true) → V l g RX7 cX7_raceChances 9 (some .int) (d + 3) 32 [.ref z, .int (nI (d + 1)), .int (nI a), .int (nI b), .int acc, .int (nI i), y6, y7, y8] [] μ (fun r μ' => r = some (.int (nI (raT tn ow (d + 1) a b))) ∧ μ' = μ) := by
          intro nA
          induction nA with
          | zero => intro i acc y6 y7 y8 h1 h2; exact absurd h2 (by omega)
          | succ nA ihA =>
            intro i acc y6 y7 y8 hleA hfuA hacc ok6 ok7
            refine V_iload (pc := 32) dX7_raceChances_32 rfl ?_
            refine V_iconst (pc := 34) (v := 4) dX7_raceChances_34 (by decide) ?_
            refine V_icmpgt (pc := 35) (tgt := 98) dX7_raceChances_35 (by decide) (fun h35 => ?_) (fun h35 => ?_)
            · have h35 := (nI_ltI (a := 4) (b := i) (by decide) (by omega)).mp h35; obtain rfl : i = 5 := by omega
              refine V_iload (pc := 98) dX7_raceChances_98 rfl ?_
              refine V_iret (pc := 100) dX7_raceChances_100 rfl ?_
              exact ⟨by rw [hacc]; simp only [raT]; rw [if_neg h3, if_neg h11], rfl⟩
            have hlt : i < 5 := by have := mt (nI_ltI (a := 4) (b := i) (by decide) (by omega)).mpr h35; omega
            refine V_aload_n (pc := 38) dX7_raceChances_38 rfl rfl ?_
            refine V_iload (pc := 39) dX7_raceChances_39 rfl ?_
            refine V_inv1 (pc := 41) (ci := 0) dX7_raceChances_41 ml_X7_304 (by first | decide | omega) (by first | rfl | assumption | decide) ⟨by decide, rfl⟩ (by omega) (Nat.le_of_ble_eq_true rfl) (c_X0_strengthInAll μ hz hB (show i ≤ 4 by omega)) ?_
            rintro _ μ2 ⟨rfl, hμ⟩
            obtain rfl := hμ.symm
            have hsl := sumT_le (tn := tn) (w := i) (fun s hs => hB.le (by omega) hs) 3 (by omega)
            refine V_istore6 (pc := 44) dX7_raceChances_44 (by decide) rfl ?_
            refine V_iload (pc := 46) dX7_raceChances_46 rfl ?_
            refine V_ifle (pc := 48) (tgt := 92) dX7_raceChances_48 (by decide) (fun h48 => ?_) (fun h48 => ?_)
            · have h48 := (nI_leI (a := sumT tn i 3) (b := 0) (by omega) (by decide)).mp h48; have e0 : sumT tn i 3 = 0 := by omega
              refine V_iinc5 (pc := 92) (v := nI (i + 1)) dX7_raceChances_92 (nI_1 i) (by decide) rfl ?_
              refine V_goto (pc := 95) (tgt := 32) dX7_raceChances_95 (by decide) ?_
              first | exact ihA (i + 1) _ _ _ _ (by omega) (by omega) (by rw [hacc]; simp only [raS]; rw [e0, Nat.zero_mul, Nat.add_zero]) rfl ok7 | exact ihA (i + 1) _ _ _ _ (by omega) (by omega) rfl rfl rfl
            refine V_aload_n (pc := 51) dX7_raceChances_51 rfl rfl ?_
            refine V_iconst (pc := 52) (v := 0) dX7_raceChances_52 (by decide) ?_
            refine V_iload_n (pc := 53) dX7_raceChances_53 rfl rfl ?_
            refine V_iconst (pc := 54) (v := (-1)) dX7_raceChances_54 (by decide) ?_
            refine V_iload (pc := 55) dX7_raceChances_55 rfl ?_
            refine V_ins5 (pc := 57) dX7_raceChances_57 ml_X7_307 (by first | decide | omega) (Nat.le_of_ble_eq_true rfl) (cI_0 ▸ c_X7_placeAfter (κ := 0) (k := 0) μ hz hB (by omega) ha (by omega) (show i ≤ 4 by omega)) ?_
            rintro _ μ2 ⟨rfl, hμ⟩
            obtain rfl := hμ.symm
            refine V_istore7 (pc := 60) dX7_raceChances_60 (by decide) rfl ?_
            refine V_aload_n (pc := 62) dX7_raceChances_62 rfl rfl ?_
            refine V_iconst (pc := 63) (v := 0) dX7_raceChances_63 (by decide) ?_
            refine V_iload_n (pc := 64) dX7_raceChances_64 rfl rfl ?_
            refine V_iconst (pc := 65) (v := (-1)) dX7_raceChances_65 (by decide) ?_
            refine V_iload (pc := 66) dX7_raceChances_66 rfl ?_
            refine V_ins5 (pc := 68) dX7_raceChances_68 ml_X7_307 (by first | decide | omega) (Nat.le_of_ble_eq_true rfl) (cI_0 ▸ c_X7_placeAfter (κ := 0) (k := 0) μ hz hB (by omega) hb9 (by omega) (show i ≤ 4 by omega)) ?_
            rintro _ μ2 ⟨rfl, hμ⟩
            obtain rfl := hμ.symm
            refine V_istore8 (pc := 71) dX7_raceChances_71 (by decide) rfl ?_
            refine V_iload (pc := 73) dX7_raceChances_73 rfl ?_
            refine V_iload (pc := 75) dX7_raceChances_75 rfl ?_
            refine V_aload_n (pc := 77) dX7_raceChances_77 rfl rfl ?_
            refine V_iload_n (pc := 78) dX7_raceChances_78 rfl rfl ?_
            refine V_iconst (pc := 79) (v := 1) dX7_raceChances_79 (by decide) ?_
            refine V_isub (pc := 80) dX7_raceChances_80 ?_
            rw [nI_m1 d]
            refine V_iload (pc := 81) dX7_raceChances_81 rfl ?_
            refine V_iload (pc := 83) dX7_raceChances_83 rfl ?_
            refine V_ins4 (pc := 85) dX7_raceChances_85 ml_X7_199 (by first | decide | omega) (Nat.le_of_ble_eq_true rfl) (hrc _ _ (aft_le ha) (aft_le hb9)) ?_
            rintro _ μ2 ⟨rfl, hμ⟩
            obtain rfl := hμ.symm
            refine V_imul (pc := 88) dX7_raceChances_88 ?_
            refine V_iadd (pc := 89) dX7_raceChances_89 ?_
            rw [hacc, pk_mul, nI_add, show raS tn ow (raT tn ow d) a b i + sumT tn i 3 * raT tn ow d (aft ow 0 a 0 i) (aft ow 0 b 0 i) = raS tn ow (raT tn ow d) a b (i + 1) from rfl]
            refine V_istore4 (pc := 90) dX7_raceChances_90 (by decide) rfl ?_
            refine V_iinc5 (pc := 92) (v := nI (i + 1)) dX7_raceChances_92 (nI_1 i) (by decide) rfl ?_
            refine V_goto (pc := 95) (tgt := 32) dX7_raceChances_95 (by decide) ?_
            first | exact ihA (i + 1) _ _ _ _ (by omega) (by omega) (by rw [hacc]; simp only [raS]; rw [e0, Nat.zero_mul, Nat.add_zero]) rfl ok7 | exact ihA (i + 1) _ _ _ _ (by omega) (by omega) rfl rfl rfl
        exact loopA (5 + 1) 0 _ _ _ _ (by omega) (by omega) rfl rfl rfl
      exact absurd ((nI_ltI (a := 0) (b := d + 1) (by decide) (by omega)).mpr (by omega)) h21
    have h11 := (nI_eq (a := a) (b := 9) (by omega) (by omega)).mp h11
    refine V_gets (pc := 14) (k := 90) dX7_raceChances_14 (by decide) (by decide) gs_X7_185 ?_
    refine V_iload_n (pc := 17) dX7_raceChances_17 rfl rfl ?_
    refine V_sald (pc := 18) (j := (d + 1)) dX7_raceChances_18 (by decide) (by decide) rfl (by show d + 1 < 7; omega) ?_
    refine V_iret (pc := 19) dX7_raceChances_19 rfl ?_
    exact ⟨by rw [stT90 (d + 1) hd]; simp only [raT]; rw [if_neg h3, if_pos h11], rfl⟩
  have h3 := (nI_eq (a := b) (b := 9) (by omega) (by omega)).mp h3
  refine V_iconst (pc := 6) (v := 0) dX7_raceChances_6 (by decide) ?_
  refine V_iret (pc := 7) dX7_raceChances_7 rfl ?_
  exact ⟨by simp only [raT]; rw [if_pos h3]; rfl, rfl⟩
theorem dX7_raceChances_24 : decode cX7_raceChances 24 = .ok (.iconst 0, 1) := by decide +kernel
theorem dX7_raceChances_25 : decode cX7_raceChances 25 = .ok (.ireturn, 1) := by decide +kernel
set_option maxHeartbeats 4000000 in
set_option maxRecDepth 100000 in
theorem c_X7_race0 {l : Launch} {g : GW} {z a b : Nat} {tn : Nat → Nat → Nat} {ow : Nat → Nat} (μ : Mm) (ha : a ≤ 9) (hb9 : b ≤ 9) : Con l g yX7_raceChances cX7_raceChances 9 (some .int) 2 [.ref z, .int (nI 0), .int (nI a), .int (nI b)] μ (fun r μ' => r = some (.int (nI (raT tn ow (0) a b))) ∧ μ' = μ) := by
  refine Con.of [.ref z, .int (nI 0), .int (nI a), .int (nI b), .null, .null, .null, .null, .null] 5 (by decide +kernel) (Nat.le_of_ble_eq_true rfl) rfl ?_
  refine V_iload_n (pc := 0) dX7_raceChances_0 rfl rfl ?_
  refine V_bipush (pc := 1) (v := 9) dX7_raceChances_1 (by decide) ?_
  refine V_icmpne (pc := 3) (tgt := 8) dX7_raceChances_3 (by decide) (fun h3 => ?_) (fun h3 => ?_)
  · have h3 := mt (nI_eq (a := b) (b := 9) (by omega) (by omega)).mpr h3
    refine V_iload_n (pc := 8) dX7_raceChances_8 rfl rfl ?_
    refine V_bipush (pc := 9) (v := 9) dX7_raceChances_9 (by decide) ?_
    refine V_icmpne (pc := 11) (tgt := 20) dX7_raceChances_11 (by decide) (fun h11 => ?_) (fun h11 => ?_)
    · have h11 := mt (nI_eq (a := a) (b := 9) (by omega) (by omega)).mpr h11
      refine V_iload_n (pc := 20) dX7_raceChances_20 rfl rfl ?_
      refine V_ifgt (pc := 21) (tgt := 26) dX7_raceChances_21 (by decide) (fun h21 => ?_) (fun h21 => ?_)
      · exact absurd h21 (by decide)
      refine V_iconst (pc := 24) (v := 0) dX7_raceChances_24 (by decide) ?_
      refine V_iret (pc := 25) dX7_raceChances_25 rfl ?_
      exact ⟨by simp only [raT]; rw [if_neg h3, if_neg h11]; rfl, rfl⟩
    have h11 := (nI_eq (a := a) (b := 9) (by omega) (by omega)).mp h11
    refine V_gets (pc := 14) (k := 90) dX7_raceChances_14 (by decide) (by decide) gs_X7_185 ?_
    refine V_iload_n (pc := 17) dX7_raceChances_17 rfl rfl ?_
    refine V_sald (pc := 18) (j := 0) dX7_raceChances_18 (by decide) (by decide) rfl (by decide) ?_
    refine V_iret (pc := 19) dX7_raceChances_19 rfl ?_
    exact ⟨by simp only [raT]; rw [if_neg h3, if_pos h11]; rfl, rfl⟩
  have h3 := (nI_eq (a := b) (b := 9) (by omega) (by omega)).mp h3
  refine V_iconst (pc := 6) (v := 0) dX7_raceChances_6 (by decide) ?_
  refine V_iret (pc := 7) dX7_raceChances_7 rfl ?_
  exact ⟨by simp only [raT]; rw [if_pos h3]; rfl, rfl⟩
theorem c_X7_raceChances {l : Launch} {g : GW} {z : Nat} {tn : Nat → Nat → Nat} {ow : Nat → Nat} (μ : Mm) (hz : z = 49 ∨ z = 57) (hB : BkR μ z tn ow) : ∀ (d a b : Nat), d ≤ 6 → a ≤ 9 → b ≤ 9 → Con l g yX7_raceChances cX7_raceChances 9 (some .int) (d + 2) [.ref z, .int (nI d), .int (nI a), .int (nI b)] μ (fun r μ' => r = some (.int (nI (raT tn ow (d) a b))) ∧ μ' = μ)
  | 0, a, b, _, h1, h2 => c_X7_race0 μ h1 h2
  | d + 1, a, b, hd, h1, h2 => c_X7_raceS μ hz hd hB h1 h2 (fun a b a1 a2 => c_X7_raceChances μ hz hB d a b (by omega) a1 a2)
end
section

/-! ===== arrays copied ===== -/
def cpyI (μ : Mm) (k1 k0 n : Nat) : Mm := (fun a b => if a = k1 ∧ b < n then μ.1 k0 b else μ.1 a b, μ.2)
theorem cpyI_ne {μ : Mm} {k1 k0 n a : Nat} (h : a ≠ k1) : (cpyI μ k1 k0 n).1 a = μ.1 a := by
  funext b
  show (if a = k1 ∧ b < n then μ.1 k0 b else μ.1 a b) = _
  rw [if_neg (fun q => h q.1)]
set_option maxRecDepth 100000 in
theorem acopyW : Cond.methodLink RX4 48 arraycopyName ∈ wsL_law ∧ Cond.native arraycopyName ∈ wsL_law ∧ Cond.static arraycopyName ∈ wsL_law ∧ Cond.initialized "java/lang/System" ∈ wsL_law := ⟨(List.mem_of_getElem? (i := 672) rfl), (List.mem_of_getElem? (i := 673) rfl), (List.mem_of_getElem? (i := 674) rfl), (List.mem_of_getElem? (i := 675) rfl)⟩
theorem V_acopy {l : Launch} {g : GW} {own : String} {cc : ByteArray} {nL : Nat} {rt : Option FieldType} {d pc : Nat} {lv st : List Value} {μ : Mm} {Q : Option Value → Mm → Prop} {idx k0 k1 n : Nat} {x y z : Int32} (dg : decode cc pc = .ok (.invokestatic idx, 3)) (hw : Cond.methodLink own idx arraycopyName ∈ wsL_law ∧ Cond.native arraycopyName ∈ wsL_law ∧ Cond.static arraycopyName ∈ wsL_law ∧ Cond.initialized "java/lang/System" ∈ wsL_law) (h0 : k0 < 88) (h1 : k1 < 88) (t0 : kt k0 = 10) (t1 : kt k1 = 10) (hx : x = 0) (hy : y = 0) (hz : z = nI n) (n0 : n ≤ kn k0) (n1 : n ≤ kn k1) (hd : 1 ≤ d) (hst : st = []) (K : V l g own cc nL rt d (pc + 3) lv st (cpyI μ k1 k0 n) Q) : V l g own cc nL rt d pc lv (.int z :: .int y :: .ref k1 :: .int x :: .ref k0 :: st) μ Q := by
  intro p e s m args below meth c C H locs ls hP hS hl
  obtain ⟨hx9, hb, hr0, hml, hown, hlk, hts, hO⟩ := id C
  subst hx; subst hy; subst hz; subst hst
  have hl0 := kn_lt k0
  have e0 := Wd_at g μ h0
  rw [cellE_10 t0] at e0
  have e1 := Wd_at g μ h1
  rw [cellE_10 t1] at e1
  have c0 : (0 : Int32).toNatClampNeg = 0 := by decide
  have cn : (nI n).toNatClampNeg = n := nI_clamp (by omega)
  refine va_copyi (D := g.1) (cl := vwCl) (tys := tysW g) hx9 hb (hml.trans hl.1.symm) hown (hts _ hw.1) (hts _ hw.2.1) (hts _ hw.2.2.1) (hts _ hw.2.2.2) hO.1 hP (hO.D μ) hS k0 k1 0 0 (ty := .int) e0 e1 rfl rfl rfl (by decide) (by decide) (nI_pos (by omega)) (by rw [c0, cn]; omega) (by rw [c0, cn]; omega) (fun i hi => rfl) hd (by show _ ≤ 48 * d; exact Nat.le_trans (show 0 + (nativeFrameWords "java/lang/System" "arraycopy" 5 + 11) ≤ 48 * 1 by decide +kernel) (Nat.mul_le_mul_left 48 hd)) dg (fun H1 locs1 p1 _ s1 => ?_)
  rw [c0, cn, Wd_set (μ' := cpyI μ k1 k0 n) ?_ (fun a _ hn => ?_)] at p1
  · exact K p e s m args below meth c C H1 locs1 ls p1 s1 hl
  · show cellE g μ.2.2 k1 ((cpyI μ k1 k0 n).1 k1) (μ.2.1 k1) = _
    rw [cellE_10 t1]
    refine congrArg (fun f => Sum.inl (g.2.1 0, kn k1, Sum.inl f)) (funext fun b => ?_)
    show (if k1 = k1 ∧ b < n then μ.1 k0 b else μ.1 k1 b) = va_cpy (μ.1 k0) (μ.1 k1) 0 0 n b
    unfold va_cpy
    by_cases h : b < n
    · rw [if_pos ⟨rfl, h⟩, if_pos ⟨Nat.zero_le _, by omega⟩, show 0 + (b - 0) = b by omega]
    · rw [if_neg (fun q => h q.2), if_neg (fun q => h (by omega))]
  · show cellE g μ.2.2 a ((cpyI μ k1 k0 n).1 a) (μ.2.1 a) = _
    rw [cpyI_ne hn]
/-! ===== days ===== -/
def msk (b : Bool) (w : Nat) : Int32 := if b then (1 : Int32) <<< (nI w &&& 31) else ((1 : Int32) <<< (nI w &&& 31)) ^^^ (-1)
/-- ship i's answer to a wind -/
def ansT (ow : Nat → Nat) (w i : Nat) (σ : SeaT) : SeaT :=
  let b := fav ow (sC σ i) w
  let σ1 := wShip σ i (sK σ i) (sP σ i) (sC σ i) (if b then sV σ i + 1 else sV σ i) (if b then sT σ i else sT σ i + 1)
  if sA σ < 40 then mkSea (sN σ1) (sK σ1) (sP σ1) (sC σ1) (sV σ1) (sT σ1) (sS σ1) (sD σ1) (sA σ + 1) (up1 (sG σ) (sC σ i - 1) (sG σ (sC σ i - 1) &&& msk b w)) else σ1
def pdT (ow : Nat → Nat) (w : Nat) (σ : SeaT) : Nat → SeaT
  | 0 => σ
  | i + 1 =>
    let σ1 := pdT ow w σ i
    let σ2 := if sC σ1 i ≠ 0 ∧ w ≠ 4 then ansT ow w i σ1 else σ1
    wShip σ2 i (sK σ2 i) (aft ow (sK σ2 i) (sP σ2 i) (sC σ2 i) w) 0 (sV σ2 i) (sT σ2 i)
def dayT (ow : Nat → Nat) (w : Nat) (σ : SeaT) : SeaT := wD (pdT ow w σ (sN σ)) (sD (pdT ow w σ (sN σ)) + 1)
theorem ansT_N (ow : Nat → Nat) (w i : Nat) (σ : SeaT) : sN (ansT ow w i σ) = sN σ := by unfold ansT; simp only; split <;> rfl
theorem pdT_N (ow : Nat → Nat) (w : Nat) (σ : SeaT) : ∀ i, sN (pdT ow w σ i) = sN σ
  | 0 => rfl
  | i + 1 => by
    simp only [pdT]
    show sN (if _ then _ else _) = _
    split
    · rw [ansT_N]; exact pdT_N ow w σ i
    · exact pdT_N ow w σ i
def yrS (σ : SeaT) (seed : Nat) : Nat → SeaT × Nat
  | 0 => (σ, seed)
  | i + 1 =>
    let q := yrS σ seed i
    if sP q.1 i = 9 then q else
      let x := nxS q.2
      let n := x / 65536 % 7
      (begC q.1 i (if n = 6 ∨ (sS q.1).testBit n = true then 0 else n + 1), x)
def yrT (tn : Nat → Nat → Nat) (ow : Nat → Nat) (σ : SeaT) (seed : Nat) : Nat → SeaT × Nat
  | 0 => (σ, seed)
  | d + 1 =>
    let q := yrT tn ow σ seed d
    let x := nxS q.2
    let q2 := yrS q.1 x (sN q.1)
    let y := nxS q2.2
    (dayT ow (widT tn (x / 65536 % 3) (y / 65536 % 10)) q2.1, y)
theorem begC_N (σ : SeaT) (i c : Nat) : sN (begC σ i c) = sN σ := by unfold begC; split <;> rfl
theorem yrS_N (σ : SeaT) (seed : Nat) : ∀ i, sN (yrS σ seed i).1 = sN σ
  | 0 => rfl
  | i + 1 => by
    simp only [yrS]
    split
    · exact yrS_N σ seed i
    · rw [begC_N]; exact yrS_N σ seed i
/-- a wind's answer is kept -/
theorem SeaR.ans {μ μ' : Mm} {s n a : Nat} {x : Int32} {σ : SeaT} (h : SeaR μ s σ) (hn : n < 6) (ha : a ≤ 40) (hf : ∀ k j, ¬ (k = s ∧ j = 5) → ¬ (k = s + 8 ∧ j = n) → μ'.1 k j = μ.1 k j) (e5 : μ'.1 s 5 = nI a) (e8 : μ'.1 (s + 8) n = x) : SeaR μ' s (mkSea (sN σ) (sK σ) (sP σ) (sC σ) (sV σ) (sT σ) (sS σ) (sD σ) a (up1 (sG σ) n x)) := by
  obtain ⟨h1, h2, h3, h4, h5, h6, h7, h8, h9⟩ := h
  refine ⟨by rw [hf s 2 (by omega) (by omega)]; exact h1, h2, by rw [hf s 3 (by omega) (by omega)]; exact h3, h4, by rw [hf s 4 (by omega) (by omega)]; exact h5, e5, ha, fun j hj => (h8 j hj).kept (fun q => hf _ _ (by omega) (by omega)), fun m hm => ?_⟩
  by_cases e : m = n
  · subst e
    show _ = up1 _ m x m
    rw [up1_eq]; exact e8
  · show _ = up1 _ n x m
    rw [up1_ne e, hf _ _ (by omega) (fun q => e q.2)]
    exact h9 m hm
end
section
theorem dX5_begin_0 : decode cX5_begin 0 = .ok (.aload_n 0, 1) := by decide +kernel
theorem dX5_begin_1 : decode cX5_begin 1 = .ok (.iload_n 1, 1) := by decide +kernel
theorem dX5_begin_2 : decode cX5_begin 2 = .ok (.putfield 15, 3) := by decide +kernel
theorem dX5_begin_5 : decode cX5_begin 5 = .ok (.aload_n 0, 1) := by decide +kernel
theorem dX5_begin_6 : decode cX5_begin 6 = .ok (.iload_n 2, 1) := by decide +kernel
theorem dX5_begin_7 : decode cX5_begin 7 = .ok (.putfield 18, 3) := by decide +kernel
theorem dX5_begin_10 : decode cX5_begin 10 = .ok (.aload_n 0, 1) := by decide +kernel
theorem dX5_begin_11 : decode cX5_begin 11 = .ok (.iconst (-1), 1) := by decide +kernel
theorem dX5_begin_12 : decode cX5_begin 12 = .ok (.putfield 9, 3) := by decide +kernel
theorem dX5_begin_15 : decode cX5_begin 15 = .ok (.aload_n 0, 1) := by decide +kernel
theorem dX5_begin_16 : decode cX5_begin 16 = .ok (.iconst 0, 1) := by decide +kernel
theorem dX5_begin_17 : decode cX5_begin 17 = .ok (.putfield 21, 3) := by decide +kernel
theorem dX5_begin_20 : decode cX5_begin 20 = .ok (.aload_n 0, 1) := by decide +kernel
theorem dX5_begin_21 : decode cX5_begin 21 = .ok (.iconst 0, 1) := by decide +kernel
theorem dX5_begin_22 : decode cX5_begin 22 = .ok (.putfield 24, 3) := by decide +kernel
theorem dX5_begin_25 : decode cX5_begin 25 = .ok (.return_, 1) := by decide +kernel
set_option maxHeartbeats 4000000 in
set_option maxRecDepth 100000 in
theorem c_X5_begin {l : Launch} {g : GW} {z κ p : Nat} (μ : Mm) (hz : z < 88) (hzt : kt z = 5) (hκ : κ ≤ 4) (hp : p ≤ 9) : Con l g yX5_begin cX5_begin 3 none 0 [.ref z, .int (nI κ), .int (nI p)] μ (fun r μ' => r = none ∧ ShR μ' z κ p 0 0 0 ∧ FrM (fun k => k = z) μ μ') := by
  refine Con.of [.ref z, .int (nI κ), .int (nI p)] 0 (by decide +kernel) (Nat.le_of_ble_eq_true rfl) rfl ?_
  refine V_aload_n (pc := 0) dX5_begin_0 rfl rfl ?_
  refine V_iload_n (pc := 1) dX5_begin_1 rfl rfl ?_
  refine V_putI (pc := 2) (ci := 5) (j := 0) dX5_begin_2 fl_X5_15 (fun _ _ _ _ _ => rfl) rfl rfl (by first | decide | omega) (by first | rfl | assumption | decide) ?_
  refine V_aload_n (pc := 5) dX5_begin_5 rfl rfl ?_
  refine V_iload_n (pc := 6) dX5_begin_6 rfl rfl ?_
  refine V_putI (pc := 7) (ci := 5) (j := 1) dX5_begin_7 fl_X5_18 (fun _ _ _ _ _ => rfl) rfl rfl (by first | decide | omega) (by first | rfl | assumption | decide) ?_
  refine V_aload_n (pc := 10) dX5_begin_10 rfl rfl ?_
  refine V_iconst (pc := 11) (v := (-1)) dX5_begin_11 (by decide) ?_
  refine V_putI (pc := 12) (ci := 5) (j := 2) dX5_begin_12 fl_X5_9 (fun _ _ _ _ _ => rfl) rfl rfl (by first | decide | omega) (by first | rfl | assumption | decide) ?_
  refine V_aload_n (pc := 15) dX5_begin_15 rfl rfl ?_
  refine V_iconst (pc := 16) (v := 0) dX5_begin_16 (by decide) ?_
  refine V_putI (pc := 17) (ci := 5) (j := 3) dX5_begin_17 fl_X5_21 (fun _ _ _ _ _ => rfl) rfl rfl (by first | decide | omega) (by first | rfl | assumption | decide) ?_
  refine V_aload_n (pc := 20) dX5_begin_20 rfl rfl ?_
  refine V_iconst (pc := 21) (v := 0) dX5_begin_21 (by decide) ?_
  refine V_putI (pc := 22) (ci := 5) (j := 4) dX5_begin_22 fl_X5_24 (fun _ _ _ _ _ => rfl) rfl rfl (by first | decide | omega) (by first | rfl | assumption | decide) ?_
  refine V_vret (pc := 25) dX5_begin_25 rfl ?_
  refine ⟨rfl, ⟨?_, hκ, ?_, hp, ?_, by omega, ?_, ?_⟩, (((((FrM.rf (S := fun k => k = z)).set rfl).set rfl).set rfl).set rfl).set rfl⟩
  · rw [get_ne (by omega), get_ne (by omega), get_ne (by omega), get_ne (by omega), get_eq]
  · rw [get_ne (by omega), get_ne (by omega), get_ne (by omega), get_eq]
  · rw [get_ne (by omega), get_ne (by omega), get_eq]; rfl
  · rw [get_ne (by omega), get_eq]
  · rw [get_eq]
theorem dX5_copyFrom_0 : decode cX5_copyFrom 0 = .ok (.aload_n 0, 1) := by decide +kernel
theorem dX5_copyFrom_1 : decode cX5_copyFrom 1 = .ok (.aload_n 1, 1) := by decide +kernel
theorem dX5_copyFrom_2 : decode cX5_copyFrom 2 = .ok (.getfield 15, 3) := by decide +kernel
theorem dX5_copyFrom_5 : decode cX5_copyFrom 5 = .ok (.putfield 15, 3) := by decide +kernel
theorem dX5_copyFrom_8 : decode cX5_copyFrom 8 = .ok (.aload_n 0, 1) := by decide +kernel
theorem dX5_copyFrom_9 : decode cX5_copyFrom 9 = .ok (.aload_n 1, 1) := by decide +kernel
theorem dX5_copyFrom_10 : decode cX5_copyFrom 10 = .ok (.getfield 18, 3) := by decide +kernel
theorem dX5_copyFrom_13 : decode cX5_copyFrom 13 = .ok (.putfield 18, 3) := by decide +kernel
theorem dX5_copyFrom_16 : decode cX5_copyFrom 16 = .ok (.aload_n 0, 1) := by decide +kernel
theorem dX5_copyFrom_17 : decode cX5_copyFrom 17 = .ok (.iconst (-1), 1) := by decide +kernel
theorem dX5_copyFrom_18 : decode cX5_copyFrom 18 = .ok (.putfield 9, 3) := by decide +kernel
theorem dX5_copyFrom_21 : decode cX5_copyFrom 21 = .ok (.aload_n 0, 1) := by decide +kernel
theorem dX5_copyFrom_22 : decode cX5_copyFrom 22 = .ok (.aload_n 1, 1) := by decide +kernel
theorem dX5_copyFrom_23 : decode cX5_copyFrom 23 = .ok (.getfield 21, 3) := by decide +kernel
theorem dX5_copyFrom_26 : decode cX5_copyFrom 26 = .ok (.putfield 21, 3) := by decide +kernel
theorem dX5_copyFrom_29 : decode cX5_copyFrom 29 = .ok (.aload_n 0, 1) := by decide +kernel
theorem dX5_copyFrom_30 : decode cX5_copyFrom 30 = .ok (.aload_n 1, 1) := by decide +kernel
theorem dX5_copyFrom_31 : decode cX5_copyFrom 31 = .ok (.getfield 24, 3) := by decide +kernel
theorem dX5_copyFrom_34 : decode cX5_copyFrom 34 = .ok (.putfield 24, 3) := by decide +kernel
theorem dX5_copyFrom_37 : decode cX5_copyFrom 37 = .ok (.return_, 1) := by decide +kernel
set_option maxHeartbeats 4000000 in
set_option maxRecDepth 100000 in
theorem c_X5_copyFrom {l : Launch} {g : GW} {z y κ p c : Nat} {v t : Int32} (μ : Mm) (hz : z < 88) (hzt : kt z = 5) (hy : y < 88) (hyt : kt y = 5) (hne : y ≠ z) (hY : ShR μ y κ p c v t) : Con l g yX5_copyFrom cX5_copyFrom 2 none 0 [.ref z, .ref y] μ (fun r μ' => r = none ∧ ShR μ' z κ p 0 v t ∧ FrM (fun k => k = z) μ μ') := by
  obtain ⟨y1, y2, y3, y4, y5, y6, y7, y8⟩ := hY
  refine Con.of [.ref z, .ref y] 0 (by decide +kernel) (Nat.le_of_ble_eq_true rfl) rfl ?_
  refine V_aload_n (pc := 0) dX5_copyFrom_0 rfl rfl ?_
  refine V_aload_n (pc := 1) dX5_copyFrom_1 rfl rfl ?_
  refine V_getI (pc := 2) (ci := 5) (j := 0) dX5_copyFrom_2 fl_X5_15 (fun _ _ _ _ => rfl) (by first | decide | omega) (by first | rfl | assumption | decide) ?_
  refine V_putI (pc := 5) (ci := 5) (j := 0) dX5_copyFrom_5 fl_X5_15 (fun _ _ _ _ _ => rfl) rfl rfl (by first | decide | omega) (by first | rfl | assumption | decide) ?_
  refine V_aload_n (pc := 8) dX5_copyFrom_8 rfl rfl ?_
  refine V_aload_n (pc := 9) dX5_copyFrom_9 rfl rfl ?_
  refine V_getI (pc := 10) (ci := 5) (j := 1) dX5_copyFrom_10 fl_X5_18 (fun _ _ _ _ => rfl) (by first | decide | omega) (by first | rfl | assumption | decide) ?_
  refine V_putI (pc := 13) (ci := 5) (j := 1) dX5_copyFrom_13 fl_X5_18 (fun _ _ _ _ _ => rfl) rfl rfl (by first | decide | omega) (by first | rfl | assumption | decide) ?_
  refine V_aload_n (pc := 16) dX5_copyFrom_16 rfl rfl ?_
  refine V_iconst (pc := 17) (v := (-1)) dX5_copyFrom_17 (by decide) ?_
  refine V_putI (pc := 18) (ci := 5) (j := 2) dX5_copyFrom_18 fl_X5_9 (fun _ _ _ _ _ => rfl) rfl rfl (by first | decide | omega) (by first | rfl | assumption | decide) ?_
  refine V_aload_n (pc := 21) dX5_copyFrom_21 rfl rfl ?_
  refine V_aload_n (pc := 22) dX5_copyFrom_22 rfl rfl ?_
  refine V_getI (pc := 23) (ci := 5) (j := 3) dX5_copyFrom_23 fl_X5_21 (fun _ _ _ _ => rfl) (by first | decide | omega) (by first | rfl | assumption | decide) ?_
  refine V_putI (pc := 26) (ci := 5) (j := 3) dX5_copyFrom_26 fl_X5_21 (fun _ _ _ _ _ => rfl) rfl rfl (by first | decide | omega) (by first | rfl | assumption | decide) ?_
  refine V_aload_n (pc := 29) dX5_copyFrom_29 rfl rfl ?_
  refine V_aload_n (pc := 30) dX5_copyFrom_30 rfl rfl ?_
  refine V_getI (pc := 31) (ci := 5) (j := 4) dX5_copyFrom_31 fl_X5_24 (fun _ _ _ _ => rfl) (by first | decide | omega) (by first | rfl | assumption | decide) ?_
  refine V_putI (pc := 34) (ci := 5) (j := 4) dX5_copyFrom_34 fl_X5_24 (fun _ _ _ _ _ => rfl) rfl rfl (by first | decide | omega) (by first | rfl | assumption | decide) ?_
  refine V_vret (pc := 37) dX5_copyFrom_37 rfl ?_
  refine ⟨rfl, ⟨?_, y2, ?_, y4, ?_, by omega, ?_, ?_⟩, (((((FrM.rf (S := fun k => k = z)).set rfl).set rfl).set rfl).set rfl).set rfl⟩
  · rw [get_ne (by omega), get_ne (by omega), get_ne (by omega), get_ne (by omega), get_eq]; exact y1
  · rw [get_ne (by omega), get_ne (by omega), get_ne (by omega), get_eq, get_ne (by omega)]; exact y3
  · rw [get_ne (by omega), get_ne (by omega), get_eq]; rfl
  · rw [get_ne (by omega), get_eq, get_ne (by omega), get_ne (by omega), get_ne (by omega)]; exact y7
  · rw [get_eq, get_ne (by omega), get_ne (by omega), get_ne (by omega), get_ne (by omega)]; exact y8
theorem dX4_add_0 : decode cX4_add 0 = .ok (.aload_n 0, 1) := by decide +kernel
theorem dX4_add_1 : decode cX4_add 1 = .ok (.getfield 31, 3) := by decide +kernel
theorem dX4_add_4 : decode cX4_add 4 = .ok (.bipush 6, 2) := by decide +kernel
theorem dX4_add_6 : decode cX4_add 6 = .ok (.if_icmp .lt 6, 3) := by decide +kernel
theorem dX4_add_9 : decode cX4_add 9 = .ok (.bipush (-104), 2) := by decide +kernel
theorem dX4_add_11 : decode cX4_add 11 = .ok (.ireturn, 1) := by decide +kernel
theorem dX4_add_12 : decode cX4_add 12 = .ok (.aload_n 0, 1) := by decide +kernel
theorem dX4_add_13 : decode cX4_add 13 = .ok (.getfield 11, 3) := by decide +kernel
theorem dX4_add_16 : decode cX4_add 16 = .ok (.aload_n 0, 1) := by decide +kernel
theorem dX4_add_17 : decode cX4_add 17 = .ok (.getfield 31, 3) := by decide +kernel
theorem dX4_add_20 : decode cX4_add 20 = .ok (.aaload, 1) := by decide +kernel
theorem dX4_add_21 : decode cX4_add 21 = .ok (.iload_n 1, 1) := by decide +kernel
theorem dX4_add_22 : decode cX4_add 22 = .ok (.iload_n 2, 1) := by decide +kernel
theorem dX4_add_23 : decode cX4_add 23 = .ok (.invokevirtual 54, 3) := by decide +kernel
theorem dX4_add_26 : decode cX4_add 26 = .ok (.aload_n 0, 1) := by decide +kernel
theorem dX4_add_27 : decode cX4_add 27 = .ok (.dup, 1) := by decide +kernel
theorem dX4_add_28 : decode cX4_add 28 = .ok (.getfield 31, 3) := by decide +kernel
theorem dX4_add_31 : decode cX4_add 31 = .ok (.iconst 1, 1) := by decide +kernel
theorem dX4_add_32 : decode cX4_add 32 = .ok (.iadd, 1) := by decide +kernel
theorem dX4_add_33 : decode cX4_add 33 = .ok (.putfield 31, 3) := by decide +kernel
theorem dX4_add_36 : decode cX4_add 36 = .ok (.aload_n 0, 1) := by decide +kernel
theorem dX4_add_37 : decode cX4_add 37 = .ok (.getfield 31, 3) := by decide +kernel
theorem dX4_add_40 : decode cX4_add 40 = .ok (.iconst 1, 1) := by decide +kernel
theorem dX4_add_41 : decode cX4_add 41 = .ok (.isub, 1) := by decide +kernel
theorem dX4_add_42 : decode cX4_add 42 = .ok (.ireturn, 1) := by decide +kernel
set_option maxHeartbeats 4000000 in
set_option maxRecDepth 100000 in
theorem c_X4_add {l : Launch} {g : GW} {s κ p : Nat} {σ : SeaT} (μ : Mm) (hs : s = 4 ∨ s = 13 ∨ s = 22) (hS : SeaR μ s σ) (hκ : κ ≤ 4) (hp : p ≤ 9) : Con l g yX4_add cX4_add 3 (some .int) 1 [.ref s, .int (nI κ), .int (nI p)] μ (fun r μ' => if sN σ = 6 then r = some (.int (-104)) ∧ μ' = μ else r = some (.int (nI (sN σ))) ∧ SeaR μ' s (wN (wShip σ (sN σ) κ p 0 0 0) (sN σ + 1)) ∧ FrM (seaS s) μ μ') := by
  have hS0 := hS
  obtain ⟨hs1, hs2, hs3, hs4, hs5, hs6, hrow⟩ := seaF hs
  obtain ⟨r1, r2, r3, r4, r5, r6, r7, r8, r9⟩ := hS
  refine Con.of [.ref s, .int (nI κ), .int (nI p)] 0 (by decide +kernel) (Nat.le_of_ble_eq_true rfl) rfl ?_
  refine V_aload_n (pc := 0) dX4_add_0 rfl rfl ?_
  refine V_getI (pc := 1) (ci := 4) (j := 2) dX4_add_1 fl_X4_31 (fun _ _ _ _ => rfl) (by first | decide | omega) (by first | rfl | assumption | exact (hrow _ (by omega)).2 | decide) ?_
  refine V_bipush (pc := 4) (v := 6) dX4_add_4 (by decide) ?_
  refine V_icmplt (pc := 6) (tgt := 12) dX4_add_6 (by decide) (fun h6 => ?_) (fun h6 => ?_)
  · rw [r1] at h6; have h6 := (nI_ltI (a := sN σ) (b := 6) (by omega) (by decide)).mp h6
    refine V_aload_n (pc := 12) dX4_add_12 rfl rfl ?_
    refine V_getR (pc := 13) (ci := 4) (j := 0) (k2 := (s + 1)) dX4_add_13 fl_X4_11 (fun _ _ _ _ => rfl) (by first | decide | omega) (by first | rfl | assumption | exact (hrow _ (by omega)).2 | decide) (rf_4_0 (by first | rfl | assumption | exact (hrow _ (by omega)).2 | decide)) ?_
    refine V_aload_n (pc := 16) dX4_add_16 rfl rfl ?_
    refine V_getI (pc := 17) (ci := 4) (j := 2) dX4_add_17 fl_X4_31 (fun _ _ _ _ => rfl) (by first | decide | omega) (by first | rfl | assumption | exact (hrow _ (by omega)).2 | decide) ?_
    refine V_aald14 (pc := 20) (j := (sN σ)) dX4_add_20 (by first | decide | omega) (by first | rfl | assumption | exact (hrow _ (by omega)).2 | decide) r1 (by omega) ?_
    refine V_iload_n (pc := 21) dX4_add_21 rfl rfl ?_
    refine V_iload_n (pc := 22) dX4_add_22 rfl rfl ?_
    refine V_inv2 (pc := 23) (ci := 5) dX4_add_23 ml_X4_54 (by first | decide | omega) (by first | rfl | assumption | exact (hrow _ (by omega)).2 | decide) ⟨by decide, rfl⟩ (by decide) (Nat.le_of_ble_eq_true rfl) (c_X5_begin μ (by omega) (hrow _ h6).2 hκ hp) ?_
    rintro _ μ1 ⟨rfl, g1, g2⟩
    have hS1 := hS0.ship h6 g1 (fun k hk => g2.1 k hk)
    have e1 := hS1.1
    refine V_aload_n (pc := 26) dX4_add_26 rfl rfl ?_
    refine V_dup (pc := 27) dX4_add_27 rfl ?_
    refine V_getI (pc := 28) (ci := 4) (j := 2) dX4_add_28 fl_X4_31 (fun _ _ _ _ => rfl) (by first | decide | omega) (by first | rfl | assumption | exact (hrow _ (by omega)).2 | decide) ?_
    refine V_iconst (pc := 31) (v := 1) dX4_add_31 (by decide) ?_
    refine V_iadd (pc := 32) dX4_add_32 ?_
    refine V_putI (pc := 33) (ci := 4) (j := 2) dX4_add_33 fl_X4_31 (fun _ _ _ _ _ => rfl) rfl rfl (by first | decide | omega) (by first | rfl | assumption | exact (hrow _ (by omega)).2 | decide) ?_
    refine V_aload_n (pc := 36) dX4_add_36 rfl rfl ?_
    refine V_getI (pc := 37) (ci := 4) (j := 2) dX4_add_37 fl_X4_31 (fun _ _ _ _ => rfl) (by first | decide | omega) (by first | rfl | assumption | exact (hrow _ (by omega)).2 | decide) ?_
    refine V_iconst (pc := 40) (v := 1) dX4_add_40 (by decide) ?_
    refine V_isub (pc := 41) dX4_add_41 ?_
    refine V_iret (pc := 42) dX4_add_42 rfl ?_
    rw [if_neg (by omega)]
    have e2 : μ1.1 s 2 + 1 = nI (sN σ + 1) := by rw [e1]; exact nI_1 _
    refine ⟨by rw [get_eq, e2, nI_m1], hS1.setN (by omega) e2, ((FrM.rf.tr g2 (fun k hk => Or.inr (by have : k = s + 1 + 1 + sN σ := hk; omega))).set (Or.inl rfl))⟩
  rw [r1] at h6; have h6 := mt (nI_ltI (a := sN σ) (b := 6) (by omega) (by decide)).mpr h6
  refine V_bipush (pc := 9) (v := (-104)) dX4_add_9 (by decide) ?_
  refine V_iret (pc := 11) dX4_add_11 rfl ?_
  rw [if_pos (by omega)]
  exact ⟨rfl, rfl⟩
theorem dX4_clear_0 : decode cX4_clear 0 = .ok (.aload_n 0, 1) := by decide +kernel
theorem dX4_clear_1 : decode cX4_clear 1 = .ok (.getfield 17, 3) := by decide +kernel
theorem dX4_clear_4 : decode cX4_clear 4 = .ok (.bipush 31, 2) := by decide +kernel
theorem dX4_clear_6 : decode cX4_clear 6 = .ok (.invokestatic 25, 3) := by decide +kernel
theorem dX4_clear_9 : decode cX4_clear 9 = .ok (.aload_n 0, 1) := by decide +kernel
theorem dX4_clear_10 : decode cX4_clear 10 = .ok (.iconst 0, 1) := by decide +kernel
theorem dX4_clear_11 : decode cX4_clear 11 = .ok (.putfield 31, 3) := by decide +kernel
theorem dX4_clear_14 : decode cX4_clear 14 = .ok (.aload_n 0, 1) := by decide +kernel
theorem dX4_clear_15 : decode cX4_clear 15 = .ok (.iconst 0, 1) := by decide +kernel
theorem dX4_clear_16 : decode cX4_clear 16 = .ok (.putfield 35, 3) := by decide +kernel
theorem dX4_clear_19 : decode cX4_clear 19 = .ok (.aload_n 0, 1) := by decide +kernel
theorem dX4_clear_20 : decode cX4_clear 20 = .ok (.iconst 0, 1) := by decide +kernel
theorem dX4_clear_21 : decode cX4_clear 21 = .ok (.putfield 38, 3) := by decide +kernel
theorem dX4_clear_24 : decode cX4_clear 24 = .ok (.aload_n 0, 1) := by decide +kernel
theorem dX4_clear_25 : decode cX4_clear 25 = .ok (.iconst 0, 1) := by decide +kernel
theorem dX4_clear_26 : decode cX4_clear 26 = .ok (.putfield 41, 3) := by decide +kernel
theorem dX4_clear_29 : decode cX4_clear 29 = .ok (.return_, 1) := by decide +kernel
set_option maxHeartbeats 4000000 in
set_option maxRecDepth 100000 in
theorem c_X4_clear {l : Launch} {g : GW} {s : Nat} {σ : SeaT} (μ : Mm) (hs : s = 4 ∨ s = 13 ∨ s = 22) (hS : SeaR μ s σ) : Con l g yX4_clear cX4_clear 1 none 1 [.ref s] μ (fun r μ' => r = none ∧ SeaR μ' s (mkSea 0 (sK σ) (sP σ) (sC σ) (sV σ) (sT σ) 0 0 0 (fun _ => 31)) ∧ FrM (seaS s) μ μ') := by
  obtain ⟨hs1, hs2, hs3, hs4, hs5, hs6, hrow⟩ := seaF hs
  obtain ⟨r1, r2, r3, r4, r5, r6, r7, r8, r9⟩ := hS
  refine Con.of [.ref s] 0 (by decide +kernel) (Nat.le_of_ble_eq_true rfl) rfl ?_
  refine V_aload_n (pc := 0) dX4_clear_0 rfl rfl ?_
  refine V_getR (pc := 1) (ci := 4) (j := 1) (k2 := (s + 8)) dX4_clear_1 fl_X4_17 (fun _ _ _ _ => rfl) (by first | decide | omega) (by first | rfl | assumption | decide) (rf_4_1 (by first | rfl | assumption | decide)) ?_
  refine V_bipush (pc := 4) (v := 31) dX4_clear_4 (by decide) ?_
  refine V_ins2 (pc := 6) dX4_clear_6 ml_X4_25 (by first | decide | omega) (Nat.le_of_ble_eq_true rfl) (c_J7_fill_53178 μ (by omega) hs5) ?_
  rintro _ μ1 ⟨rfl, g1, g2⟩
  refine V_aload_n (pc := 9) dX4_clear_9 rfl rfl ?_
  refine V_iconst (pc := 10) (v := 0) dX4_clear_10 (by decide) ?_
  refine V_putI (pc := 11) (ci := 4) (j := 2) dX4_clear_11 fl_X4_31 (fun _ _ _ _ _ => rfl) rfl rfl (by first | decide | omega) (by first | rfl | assumption | decide) ?_
  refine V_aload_n (pc := 14) dX4_clear_14 rfl rfl ?_
  refine V_iconst (pc := 15) (v := 0) dX4_clear_15 (by decide) ?_
  refine V_putI (pc := 16) (ci := 4) (j := 3) dX4_clear_16 fl_X4_35 (fun _ _ _ _ _ => rfl) rfl rfl (by first | decide | omega) (by first | rfl | assumption | decide) ?_
  refine V_aload_n (pc := 19) dX4_clear_19 rfl rfl ?_
  refine V_iconst (pc := 20) (v := 0) dX4_clear_20 (by decide) ?_
  refine V_putI (pc := 21) (ci := 4) (j := 4) dX4_clear_21 fl_X4_38 (fun _ _ _ _ _ => rfl) rfl rfl (by first | decide | omega) (by first | rfl | assumption | decide) ?_
  refine V_aload_n (pc := 24) dX4_clear_24 rfl rfl ?_
  refine V_iconst (pc := 25) (v := 0) dX4_clear_25 (by decide) ?_
  refine V_putI (pc := 26) (ci := 4) (j := 5) dX4_clear_26 fl_X4_41 (fun _ _ _ _ _ => rfl) rfl rfl (by first | decide | omega) (by first | rfl | assumption | decide) ?_
  refine V_vret (pc := 29) dX4_clear_29 rfl ?_
  refine ⟨rfl, ⟨?_, by show 0 ≤ 6; omega, ?_, by show 0 < 64; omega, ?_, get_eq, by show 0 ≤ 40; omega, fun i hi => ?_, fun n hn => ?_⟩, (((((FrM.rf (S := seaS s)).tr g2 (fun k hk => Or.inr (by have : k = s + 8 := hk; omega))).set (Or.inl rfl)).set (Or.inl rfl)).set (Or.inl rfl)).set (Or.inl rfl)⟩
  · rw [get_ne (by omega), get_ne (by omega), get_ne (by omega), get_eq]; rfl
  · rw [get_ne (by omega), get_ne (by omega), get_eq]; rfl
  · rw [get_ne (by omega), get_eq]; rfl
  · exact (r8 i hi).kept (fun j => by rw [get_ne (by omega), get_ne (by omega), get_ne (by omega), get_ne (by omega), g2.1 _ (fun q => by have : s + 1 + 1 + i = s + 8 := q; omega)])
  · rw [get_ne (by omega), get_ne (by omega), get_ne (by omega), get_ne (by omega)]; exact g1 n (by omega)
end
section

theorem msk_t (w : Nat) : (1 : Int32) <<< (nI w &&& 31) = msk true w := rfl
theorem msk_f (w : Nat) : ((1 : Int32) <<< (nI w &&& 31)) ^^^ (-1) = msk false w := rfl
theorem SeaR.ext {μ : Mm} {s : Nat} {σ σ' : SeaT} (h : SeaR μ s σ) (e : σ = σ') : SeaR μ s σ' := e ▸ h
theorem SeaR.sv {μ : Mm} {s i : Nat} {x : Int32} {σ : SeaT} (h : SeaR μ s σ) (hi : i < 6) : SeaR (setI μ (s + 1 + 1 + i) 3 x) s (wShip σ i (sK σ i) (sP σ i) (sC σ i) x (sT σ i)) := by
  obtain ⟨z1, z2, z3, z4, z5, z6, z7, z8⟩ := h.2.2.2.2.2.2.2.1 i hi
  refine h.ship hi ⟨?_, z2, ?_, z4, ?_, z6, get_eq, ?_⟩ (fun k hk => by show up2 _ _ _ _ _ = _; rw [up2_ne hk])
  · rw [get_ne (by omega)]; exact z1
  · rw [get_ne (by omega)]; exact z3
  · rw [get_ne (by omega)]; exact z5
  · rw [get_ne (by omega)]; exact z8
theorem SeaR.st {μ : Mm} {s i : Nat} {x : Int32} {σ : SeaT} (h : SeaR μ s σ) (hi : i < 6) : SeaR (setI μ (s + 1 + 1 + i) 4 x) s (wShip σ i (sK σ i) (sP σ i) (sC σ i) (sV σ i) x) := by
  obtain ⟨z1, z2, z3, z4, z5, z6, z7, z8⟩ := h.2.2.2.2.2.2.2.1 i hi
  refine h.ship hi ⟨?_, z2, ?_, z4, ?_, z6, ?_, get_eq⟩ (fun k hk => by show up2 _ _ _ _ _ = _; rw [up2_ne hk])
  · rw [get_ne (by omega)]; exact z1
  · rw [get_ne (by omega)]; exact z3
  · rw [get_ne (by omega)]; exact z5
  · rw [get_ne (by omega)]; exact z7
theorem SeaR.sp {μ : Mm} {s i p : Nat} {x : Int32} {σ : SeaT} (h : SeaR μ s σ) (hi : i < 6) (hp : p ≤ 9) (hx : x = nI p) : SeaR (setI μ (s + 1 + 1 + i) 1 x) s (wShip σ i (sK σ i) p (sC σ i) (sV σ i) (sT σ i)) := by
  subst hx
  obtain ⟨z1, z2, z3, z4, z5, z6, z7, z8⟩ := h.2.2.2.2.2.2.2.1 i hi
  refine h.ship hi ⟨?_, z2, get_eq, hp, ?_, z6, ?_, ?_⟩ (fun k hk => by show up2 _ _ _ _ _ = _; rw [up2_ne hk])
  · rw [get_ne (by omega)]; exact z1
  · rw [get_ne (by omega)]; exact z5
  · rw [get_ne (by omega)]; exact z7
  · rw [get_ne (by omega)]; exact z8
theorem up1_up1 {α : Type} (f : Nat → α) (i : Nat) (v w : α) : up1 (up1 f i v) i w = up1 f i w := by
  funext j
  unfold up1
  split <;> rfl
theorem up1_id {α : Type} (f : Nat → α) (i : Nat) : up1 f i (f i) = f := by
  funext j
  unfold up1
  split <;> simp_all
theorem up1_up1' {α : Type} (f : Nat → α) (i : Nat) (v : α) : up1 (up1 f i v) i (up1 f i v i) = up1 f i v := up1_id _ _
end
section
theorem dX4_answer_0 : decode cX4_answer 0 = .ok (.aload_n 1, 1) := by decide +kernel
theorem dX4_answer_1 : decode cX4_answer 1 = .ok (.aload_n 2, 1) := by decide +kernel
theorem dX4_answer_2 : decode cX4_answer 2 = .ok (.getfield 67, 3) := by decide +kernel
theorem dX4_answer_5 : decode cX4_answer 5 = .ok (.iload_n 3, 1) := by decide +kernel
theorem dX4_answer_6 : decode cX4_answer 6 = .ok (.invokevirtual 91, 3) := by decide +kernel
theorem dX4_answer_9 : decode cX4_answer 9 = .ok (.istore 4, 2) := by decide +kernel
theorem dX4_answer_11 : decode cX4_answer 11 = .ok (.iload 4, 2) := by decide +kernel
theorem dX4_answer_13 : decode cX4_answer 13 = .ok (.ifCond .eq 16, 3) := by decide +kernel
theorem dX4_answer_16 : decode cX4_answer 16 = .ok (.aload_n 2, 1) := by decide +kernel
theorem dX4_answer_17 : decode cX4_answer 17 = .ok (.dup, 1) := by decide +kernel
theorem dX4_answer_18 : decode cX4_answer 18 = .ok (.getfield 97, 3) := by decide +kernel
theorem dX4_answer_21 : decode cX4_answer 21 = .ok (.iconst 1, 1) := by decide +kernel
theorem dX4_answer_22 : decode cX4_answer 22 = .ok (.iadd, 1) := by decide +kernel
theorem dX4_answer_23 : decode cX4_answer 23 = .ok (.putfield 97, 3) := by decide +kernel
theorem dX4_answer_26 : decode cX4_answer 26 = .ok (.goto 13, 3) := by decide +kernel
theorem dX4_answer_29 : decode cX4_answer 29 = .ok (.aload_n 2, 1) := by decide +kernel
theorem dX4_answer_30 : decode cX4_answer 30 = .ok (.dup, 1) := by decide +kernel
theorem dX4_answer_31 : decode cX4_answer 31 = .ok (.getfield 100, 3) := by decide +kernel
theorem dX4_answer_34 : decode cX4_answer 34 = .ok (.iconst 1, 1) := by decide +kernel
theorem dX4_answer_35 : decode cX4_answer 35 = .ok (.iadd, 1) := by decide +kernel
theorem dX4_answer_36 : decode cX4_answer 36 = .ok (.putfield 100, 3) := by decide +kernel
theorem dX4_answer_39 : decode cX4_answer 39 = .ok (.aload_n 0, 1) := by decide +kernel
theorem dX4_answer_40 : decode cX4_answer 40 = .ok (.getfield 41, 3) := by decide +kernel
theorem dX4_answer_43 : decode cX4_answer 43 = .ok (.bipush 40, 2) := by decide +kernel
theorem dX4_answer_45 : decode cX4_answer 45 = .ok (.if_icmp .ge 41, 3) := by decide +kernel
theorem dX4_answer_48 : decode cX4_answer 48 = .ok (.aload_n 0, 1) := by decide +kernel
theorem dX4_answer_49 : decode cX4_answer 49 = .ok (.dup, 1) := by decide +kernel
theorem dX4_answer_50 : decode cX4_answer 50 = .ok (.getfield 41, 3) := by decide +kernel
theorem dX4_answer_53 : decode cX4_answer 53 = .ok (.iconst 1, 1) := by decide +kernel
theorem dX4_answer_54 : decode cX4_answer 54 = .ok (.iadd, 1) := by decide +kernel
theorem dX4_answer_55 : decode cX4_answer 55 = .ok (.putfield 41, 3) := by decide +kernel
theorem dX4_answer_58 : decode cX4_answer 58 = .ok (.aload_n 0, 1) := by decide +kernel
theorem dX4_answer_59 : decode cX4_answer 59 = .ok (.getfield 17, 3) := by decide +kernel
theorem dX4_answer_62 : decode cX4_answer 62 = .ok (.aload_n 2, 1) := by decide +kernel
theorem dX4_answer_63 : decode cX4_answer 63 = .ok (.getfield 67, 3) := by decide +kernel
theorem dX4_answer_66 : decode cX4_answer 66 = .ok (.dup2, 1) := by decide +kernel
theorem dX4_answer_67 : decode cX4_answer 67 = .ok (.iaload, 1) := by decide +kernel
theorem dX4_answer_68 : decode cX4_answer 68 = .ok (.iload 4, 2) := by decide +kernel
theorem dX4_answer_70 : decode cX4_answer 70 = .ok (.ifCond .eq 9, 3) := by decide +kernel
theorem dX4_answer_73 : decode cX4_answer 73 = .ok (.iconst 1, 1) := by decide +kernel
theorem dX4_answer_74 : decode cX4_answer 74 = .ok (.iload_n 3, 1) := by decide +kernel
theorem dX4_answer_75 : decode cX4_answer 75 = .ok (.ishl, 1) := by decide +kernel
theorem dX4_answer_76 : decode cX4_answer 76 = .ok (.goto 8, 3) := by decide +kernel
theorem dX4_answer_79 : decode cX4_answer 79 = .ok (.iconst 1, 1) := by decide +kernel
theorem dX4_answer_80 : decode cX4_answer 80 = .ok (.iload_n 3, 1) := by decide +kernel
theorem dX4_answer_81 : decode cX4_answer 81 = .ok (.ishl, 1) := by decide +kernel
theorem dX4_answer_82 : decode cX4_answer 82 = .ok (.iconst (-1), 1) := by decide +kernel
theorem dX4_answer_83 : decode cX4_answer 83 = .ok (.ixor, 1) := by decide +kernel
theorem dX4_answer_84 : decode cX4_answer 84 = .ok (.iand, 1) := by decide +kernel
theorem dX4_answer_85 : decode cX4_answer 85 = .ok (.iastore, 1) := by decide +kernel
theorem dX4_answer_86 : decode cX4_answer 86 = .ok (.return_, 1) := by decide +kernel
set_option maxHeartbeats 4000000 in
set_option maxRecDepth 100000 in
theorem c_X4_answer {l : Launch} {g : GW} {s b i w : Nat} {tn : Nat → Nat → Nat} {ow : Nat → Nat} {σ : SeaT} (μ : Mm) (hs : s = 4 ∨ s = 13 ∨ s = 22) (hS : SeaR μ s σ) (hb : b = 49 ∨ b = 57) (hB : BkR μ b tn ow) (hi : i < 6) (hw : w ≤ 3) (hc : sC σ i ≠ 0) : Con l g yX4_answer cX4_answer 5 none 1 [.ref s, .ref b, .ref (s + 1 + 1 + i), .int (nI w)] μ (fun r μ' => r = none ∧ SeaR μ' s (ansT ow w i σ) ∧ FrM (seaS s) μ μ') := by
  have hS0 := hS
  obtain ⟨hs1, hs2, hs3, hs4, hs5, hs6, hrow⟩ := seaF hs
  obtain ⟨r1, r2, r3, r4, r5, r6, r7, r8, r9⟩ := hS
  obtain ⟨hb1, hb2, hb3, hb4, hb5, hb6, hrowb⟩ := bkF hb
  obtain ⟨z1, z2, z3, z4, z5, z6, z7, z8⟩ := r8 i hi
  obtain ⟨z9, zA⟩ := hrow i hi
  refine Con.of [.ref s, .ref b, .ref (s + 1 + 1 + i), .int (nI w), .null] 1 (by decide +kernel) (Nat.le_of_ble_eq_true rfl) rfl ?_
  refine V_aload_n (pc := 0) dX4_answer_0 rfl rfl ?_
  refine V_aload_n (pc := 1) dX4_answer_1 rfl rfl ?_
  refine V_getI (pc := 2) (ci := 5) (j := 2) dX4_answer_2 fl_X4_67 (fun _ _ _ _ => rfl) (by first | decide | omega) (by first | rfl | assumption | decide) ?_
  rw [z5]
  refine V_iload_n (pc := 5) dX4_answer_5 rfl rfl ?_
  refine V_inv2 (pc := 6) (ci := 0) dX4_answer_6 ml_X4_91 (by first | decide | omega) (by first | rfl | assumption | decide) ⟨by decide, rfl⟩ (by decide) (Nat.le_of_ble_eq_true rfl) (c_X0_favours μ hb hB z6 (show w ≤ 4 by omega)) ?_
  rintro _ μ2 ⟨rfl, hμ⟩
  obtain rfl := hμ.symm
  refine V_istore4 (pc := 9) dX4_answer_9 (by decide) rfl ?_
  have J : ∀ (μ1 : Mm) (σ1 : SeaT), SeaR μ1 s σ1 → FrM (seaS s) μ μ1 → σ1 = wShip σ i (sK σ i) (sP σ i) (sC σ i) (if fav ow (sC σ i) w then sV σ i + 1 else sV σ i) (if fav ow (sC σ i) w then sT σ i else sT σ i + 1) → V l g RX4 cX4_answer 5 none 1 39 [.ref s, .ref b, .ref (s + 1 + 1 + i), .int (nI w), .int (bI (fav ow (sC σ i) w))] [] μ1 (fun r μ' => r = none ∧ SeaR μ' s (ansT ow w i σ) ∧ FrM (seaS s) μ μ') := by
    intro μ1 σ1 q1 q2 q3
    have hc1 : sC σ1 i = sC σ i := by rw [q3]; exact up1_eq
    have ha1 : sA σ1 = sA σ := by rw [q3]; rfl
    have hg1 : sG σ1 = sG σ := by rw [q3]; rfl
    obtain ⟨t1, t2, t3, t4, t5, t6, t7, t8, t9⟩ := id q1
    obtain ⟨y1, y2, y3, y4, y5, y6, y7, y8⟩ := t8 i hi
    refine V_aload_n (pc := 39) dX4_answer_39 rfl rfl ?_
    refine V_getI (pc := 40) (ci := 4) (j := 5) dX4_answer_40 fl_X4_41 (fun _ _ _ _ => rfl) (by first | decide | omega) (by first | rfl | assumption | decide) ?_
    refine V_bipush (pc := 43) (v := 40) dX4_answer_43 (by decide) ?_
    refine V_icmpge (pc := 45) (tgt := 86) dX4_answer_45 (by decide) (fun h45 => ?_) (fun h45 => ?_)
    · rw [t6, ha1] at h45; have h45 := (nI_leI (a := 40) (b := sA σ) (by decide) (by omega)).mp h45; refine V_vret (pc := 86) dX4_answer_86 rfl ?_; exact ⟨rfl, q1.ext (by unfold ansT; simp only; rw [if_neg (by omega), q3]), q2⟩
    rw [t6, ha1] at h45; have h45 := mt (nI_leI (a := 40) (b := sA σ) (by decide) (by omega)).mpr h45
    refine V_aload_n (pc := 48) dX4_answer_48 rfl rfl ?_
    refine V_dup (pc := 49) dX4_answer_49 rfl ?_
    refine V_getI (pc := 50) (ci := 4) (j := 5) dX4_answer_50 fl_X4_41 (fun _ _ _ _ => rfl) (by first | decide | omega) (by first | rfl | assumption | decide) ?_
    refine V_iconst (pc := 53) (v := 1) dX4_answer_53 (by decide) ?_
    refine V_iadd (pc := 54) dX4_answer_54 ?_
    refine V_putI (pc := 55) (ci := 4) (j := 5) dX4_answer_55 fl_X4_41 (fun _ _ _ _ _ => rfl) rfl rfl (by first | decide | omega) (by first | rfl | assumption | decide) ?_
    refine V_aload_n (pc := 58) dX4_answer_58 rfl rfl ?_
    refine V_getR (pc := 59) (ci := 4) (j := 1) (k2 := (s + 8)) dX4_answer_59 fl_X4_17 (fun _ _ _ _ => rfl) (by first | decide | omega) (by first | rfl | assumption | decide) (rf_4_1 (by first | rfl | assumption | decide)) ?_
    refine V_aload_n (pc := 62) dX4_answer_62 rfl rfl ?_
    refine V_getI (pc := 63) (ci := 5) (j := 2) dX4_answer_63 fl_X4_67 (fun _ _ _ _ => rfl) (by first | decide | omega) (by first | rfl | assumption | decide) ?_
    refine V_dup2_11 (pc := 66) dX4_answer_66 rfl rfl ?_
    refine V_iald (pc := 67) (j := (sC σ i - 1)) dX4_answer_67 (by first | decide | omega) (by first | rfl | assumption | decide) (by rw [get_ne (by omega), y5, hc1, ← cI_s, Nat.sub_add_cancel (by omega)]) (by omega) ?_
    refine V_iload (pc := 68) dX4_answer_68 rfl ?_
    refine V_ifeq (pc := 70) (tgt := 79) dX4_answer_70 (by decide) (fun h70 => ?_) (fun h70 => ?_)
    · have h70 := (bI_0 _).mp h70
      refine V_iconst (pc := 79) (v := 1) dX4_answer_79 (by decide) ?_
      refine V_iload_n (pc := 80) dX4_answer_80 rfl rfl ?_
      refine V_ishl (pc := 81) dX4_answer_81 ?_
      refine V_iconst (pc := 82) (v := (-1)) dX4_answer_82 (by decide) ?_
      refine V_ixor (pc := 83) dX4_answer_83 ?_
      refine V_iand (pc := 84) dX4_answer_84 ?_
      refine V_iast (pc := 85) (j := (sC σ i - 1)) dX4_answer_85 (by first | decide | omega) (by first | rfl | assumption | decide) (by rw [get_ne (by omega), y5, hc1, ← cI_s, Nat.sub_add_cancel (by omega)]) (by omega) ?_
      refine V_vret (pc := 86) dX4_answer_86 rfl ?_
      have e5 : μ1.1 s 5 + 1 = nI (sA σ + 1) := by rw [t6, ha1]; exact nI_1 _
      have e8 : μ1.1 (s + 8) (sC σ i - 1) = sG σ (sC σ i - 1) := by rw [t9 _ (by omega), hg1]
      refine ⟨rfl, (SeaR.ans (n := sC σ i - 1) (a := sA σ + 1) (x := sG σ (sC σ i - 1) &&& msk (fav ow (sC σ i) w) w) q1 (by omega) (by omega) (fun k j a1 a2 => by rw [get_ne a2, get_ne a1]) (by rw [get_ne (by omega), get_eq, e5]) (by rw [get_eq, get_ne (by omega), e8, h70]; rfl)).ext ?_, (q2.set (Or.inl rfl)).set (Or.inr (by omega))⟩
      rw [hg1]
      unfold ansT
      simp only
      rw [if_pos (by omega), q3]
    have h70 : fav ow (sC σ i) w = true := by cases hf : fav ow (sC σ i) w; exact absurd ((bI_0 _).mpr hf) h70; rfl
    refine V_iconst (pc := 73) (v := 1) dX4_answer_73 (by decide) ?_
    refine V_iload_n (pc := 74) dX4_answer_74 rfl rfl ?_
    refine V_ishl (pc := 75) dX4_answer_75 ?_
    refine V_goto (pc := 76) (tgt := 84) dX4_answer_76 (by decide) ?_
    refine V_iand (pc := 84) dX4_answer_84 ?_
    refine V_iast (pc := 85) (j := (sC σ i - 1)) dX4_answer_85 (by first | decide | omega) (by first | rfl | assumption | decide) (by rw [get_ne (by omega), y5, hc1, ← cI_s, Nat.sub_add_cancel (by omega)]) (by omega) ?_
    refine V_vret (pc := 86) dX4_answer_86 rfl ?_
    have e5 : μ1.1 s 5 + 1 = nI (sA σ + 1) := by rw [t6, ha1]; exact nI_1 _
    have e8 : μ1.1 (s + 8) (sC σ i - 1) = sG σ (sC σ i - 1) := by rw [t9 _ (by omega), hg1]
    refine ⟨rfl, (SeaR.ans (n := sC σ i - 1) (a := sA σ + 1) (x := sG σ (sC σ i - 1) &&& msk (fav ow (sC σ i) w) w) q1 (by omega) (by omega) (fun k j a1 a2 => by rw [get_ne a2, get_ne a1]) (by rw [get_ne (by omega), get_eq, e5]) (by rw [get_eq, get_ne (by omega), e8, h70]; rfl)).ext ?_, (q2.set (Or.inl rfl)).set (Or.inr (by omega))⟩
    rw [hg1]
    unfold ansT
    simp only
    rw [if_pos (by omega), q3]
  refine V_iload (pc := 11) dX4_answer_11 rfl ?_
  refine V_ifeq (pc := 13) (tgt := 29) dX4_answer_13 (by decide) (fun h13 => ?_) (fun h13 => ?_)
  · have h13 := (bI_0 _).mp h13
    refine V_aload_n (pc := 29) dX4_answer_29 rfl rfl ?_
    refine V_dup (pc := 30) dX4_answer_30 rfl ?_
    refine V_getI (pc := 31) (ci := 5) (j := 4) dX4_answer_31 fl_X4_100 (fun _ _ _ _ => rfl) (by first | decide | omega) (by first | rfl | assumption | decide) ?_
    rw [z8]
    refine V_iconst (pc := 34) (v := 1) dX4_answer_34 (by decide) ?_
    refine V_iadd (pc := 35) dX4_answer_35 ?_
    refine V_putI (pc := 36) (ci := 5) (j := 4) dX4_answer_36 fl_X4_100 (fun _ _ _ _ _ => rfl) rfl rfl (by first | decide | omega) (by first | rfl | assumption | decide) ?_
    exact J _ _ (hS0.st (x := sT σ i + 1) hi) (FrM.rf.set (Or.inr (by omega))) (by rw [h13]; rfl)
  have h13 : fav ow (sC σ i) w = true := by cases hf : fav ow (sC σ i) w; exact absurd ((bI_0 _).mpr hf) h13; rfl
  refine V_aload_n (pc := 16) dX4_answer_16 rfl rfl ?_
  refine V_dup (pc := 17) dX4_answer_17 rfl ?_
  refine V_getI (pc := 18) (ci := 5) (j := 3) dX4_answer_18 fl_X4_97 (fun _ _ _ _ => rfl) (by first | decide | omega) (by first | rfl | assumption | decide) ?_
  rw [z7]
  refine V_iconst (pc := 21) (v := 1) dX4_answer_21 (by decide) ?_
  refine V_iadd (pc := 22) dX4_answer_22 ?_
  refine V_putI (pc := 23) (ci := 5) (j := 3) dX4_answer_23 fl_X4_97 (fun _ _ _ _ _ => rfl) rfl rfl (by first | decide | omega) (by first | rfl | assumption | decide) ?_
  refine V_goto (pc := 26) (tgt := 39) dX4_answer_26 (by decide) ?_
  exact J _ _ (hS0.sv (x := sV σ i + 1) hi) (FrM.rf.set (Or.inr (by omega))) (by rw [h13]; rfl)
theorem dX4_passDay_0 : decode cX4_passDay 0 = .ok (.iconst 0, 1) := by decide +kernel
theorem dX4_passDay_1 : decode cX4_passDay 1 = .ok (.istore_n 3, 1) := by decide +kernel
theorem dX4_passDay_2 : decode cX4_passDay 2 = .ok (.iload_n 3, 1) := by decide +kernel
theorem dX4_passDay_3 : decode cX4_passDay 3 = .ok (.aload_n 0, 1) := by decide +kernel
theorem dX4_passDay_4 : decode cX4_passDay 4 = .ok (.getfield 31, 3) := by decide +kernel
theorem dX4_passDay_7 : decode cX4_passDay 7 = .ok (.if_icmp .ge 70, 3) := by decide +kernel
theorem dX4_passDay_10 : decode cX4_passDay 10 = .ok (.aload_n 0, 1) := by decide +kernel
theorem dX4_passDay_11 : decode cX4_passDay 11 = .ok (.getfield 11, 3) := by decide +kernel
theorem dX4_passDay_14 : decode cX4_passDay 14 = .ok (.iload_n 3, 1) := by decide +kernel
theorem dX4_passDay_15 : decode cX4_passDay 15 = .ok (.aaload, 1) := by decide +kernel
theorem dX4_passDay_16 : decode cX4_passDay 16 = .ok (.astore 4, 2) := by decide +kernel
theorem dX4_passDay_18 : decode cX4_passDay 18 = .ok (.aload 4, 2) := by decide +kernel
theorem dX4_passDay_20 : decode cX4_passDay 20 = .ok (.getfield 67, 3) := by decide +kernel
theorem dX4_passDay_23 : decode cX4_passDay 23 = .ok (.iconst (-1), 1) := by decide +kernel
theorem dX4_passDay_24 : decode cX4_passDay 24 = .ok (.if_icmp .eq 16, 3) := by decide +kernel
theorem dX4_passDay_27 : decode cX4_passDay 27 = .ok (.iload_n 2, 1) := by decide +kernel
theorem dX4_passDay_28 : decode cX4_passDay 28 = .ok (.iconst 4, 1) := by decide +kernel
theorem dX4_passDay_29 : decode cX4_passDay 29 = .ok (.if_icmp .eq 11, 3) := by decide +kernel
theorem dX4_passDay_32 : decode cX4_passDay 32 = .ok (.aload_n 0, 1) := by decide +kernel
theorem dX4_passDay_33 : decode cX4_passDay 33 = .ok (.aload_n 1, 1) := by decide +kernel
theorem dX4_passDay_34 : decode cX4_passDay 34 = .ok (.aload 4, 2) := by decide +kernel
theorem dX4_passDay_36 : decode cX4_passDay 36 = .ok (.iload_n 2, 1) := by decide +kernel
theorem dX4_passDay_37 : decode cX4_passDay 37 = .ok (.invokevirtual 80, 3) := by decide +kernel
theorem dX4_passDay_40 : decode cX4_passDay 40 = .ok (.aload 4, 2) := by decide +kernel
theorem dX4_passDay_42 : decode cX4_passDay 42 = .ok (.aload_n 1, 1) := by decide +kernel
theorem dX4_passDay_43 : decode cX4_passDay 43 = .ok (.aload 4, 2) := by decide +kernel
theorem dX4_passDay_45 : decode cX4_passDay 45 = .ok (.getfield 84, 3) := by decide +kernel
theorem dX4_passDay_48 : decode cX4_passDay 48 = .ok (.aload 4, 2) := by decide +kernel
theorem dX4_passDay_50 : decode cX4_passDay 50 = .ok (.getfield 64, 3) := by decide +kernel
theorem dX4_passDay_53 : decode cX4_passDay 53 = .ok (.aload 4, 2) := by decide +kernel
theorem dX4_passDay_55 : decode cX4_passDay 55 = .ok (.getfield 67, 3) := by decide +kernel
theorem dX4_passDay_58 : decode cX4_passDay 58 = .ok (.iload_n 2, 1) := by decide +kernel
theorem dX4_passDay_59 : decode cX4_passDay 59 = .ok (.invokestatic 87, 3) := by decide +kernel
theorem dX4_passDay_62 : decode cX4_passDay 62 = .ok (.putfield 64, 3) := by decide +kernel
theorem dX4_passDay_65 : decode cX4_passDay 65 = .ok (.aload 4, 2) := by decide +kernel
theorem dX4_passDay_67 : decode cX4_passDay 67 = .ok (.iconst (-1), 1) := by decide +kernel
theorem dX4_passDay_68 : decode cX4_passDay 68 = .ok (.putfield 67, 3) := by decide +kernel
theorem dX4_passDay_71 : decode cX4_passDay 71 = .ok (.iinc 3 1, 3) := by decide +kernel
theorem dX4_passDay_74 : decode cX4_passDay 74 = .ok (.goto (-72), 3) := by decide +kernel
theorem dX4_passDay_77 : decode cX4_passDay 77 = .ok (.aload_n 0, 1) := by decide +kernel
theorem dX4_passDay_78 : decode cX4_passDay 78 = .ok (.dup, 1) := by decide +kernel
theorem dX4_passDay_79 : decode cX4_passDay 79 = .ok (.getfield 38, 3) := by decide +kernel
theorem dX4_passDay_82 : decode cX4_passDay 82 = .ok (.iconst 1, 1) := by decide +kernel
theorem dX4_passDay_83 : decode cX4_passDay 83 = .ok (.iadd, 1) := by decide +kernel
theorem dX4_passDay_84 : decode cX4_passDay 84 = .ok (.putfield 38, 3) := by decide +kernel
theorem dX4_passDay_87 : decode cX4_passDay 87 = .ok (.return_, 1) := by decide +kernel
set_option maxHeartbeats 4000000 in
set_option maxRecDepth 100000 in
theorem c_X4_passDay {l : Launch} {g : GW} {s b w : Nat} {tn : Nat → Nat → Nat} {ow : Nat → Nat} {σ : SeaT} (μ : Mm) (hs : s = 4 ∨ s = 13 ∨ s = 22) (hS : SeaR μ s σ) (hb : b = 49 ∨ b = 57) (hB : BkR μ b tn ow) (hw : w ≤ 4) : Con l g yX4_passDay cX4_passDay 5 none 3 [.ref s, .ref b, .int (nI w)] μ (fun r μ' => r = none ∧ SeaR μ' s (dayT ow w σ) ∧ FrM (seaS s) μ μ') := by
  have hS0 := hS
  obtain ⟨hs1, hs2, hs3, hs4, hs5, hs6, hrow⟩ := seaF hs
  obtain ⟨r1, r2, r3, r4, r5, r6, r7, r8, r9⟩ := hS
  obtain ⟨hb1, hb2, hb3, hb4, hb5, hb6, hrowb⟩ := bkF hb
  have hap : ∀ k, b + 2 ≤ k → k ≤ b + 7 → ¬ seaS s k := fun k h1 h2 q => by rcases q with q | q <;> omega
  refine Con.of [.ref s, .ref b, .int (nI w), .null, .null] 2 (by decide +kernel) (Nat.le_of_ble_eq_true rfl) rfl ?_
  refine V_iconst (pc := 0) (v := 0) dX4_passDay_0 (by decide) ?_
  refine V_istore3 (pc := 1) dX4_passDay_1 (by decide) rfl ?_
  have loopA : ∀ (nA i : Nat) (μ1 : Mm) (y4 : Value), i ≤ sN σ → sN σ < i + nA → (SeaR μ1 s (pdT ow w σ i)) → (FrM (seaS s) μ μ1) → (okp [Value.null, Value.null, Value.null, Value.null, y4] 5 = true) → V l g RX4 cX4_passDay 5 none 3 2 [.ref s, .ref b, .int (nI w), .int (nI i), y4] [] μ1 (fun r μ' => r = none ∧ SeaR μ' s (dayT ow w σ) ∧ FrM (seaS s) μ μ') := by
    intro nA
    induction nA with
    | zero => intro i μ1 y4 h1 h2; exact absurd h2 (by omega)
    | succ nA ihA =>
      intro i μ1 y4 hleA hfuA q1 q2 oky
      refine V_iload_n (pc := 2) dX4_passDay_2 rfl rfl ?_
      refine V_aload_n (pc := 3) dX4_passDay_3 rfl rfl ?_
      refine V_getI (pc := 4) (ci := 4) (j := 2) dX4_passDay_4 fl_X4_31 (fun _ _ _ _ => rfl) (by first | decide | omega) (by first | rfl | assumption | exact (hrow _ (by omega)).2 | decide) ?_
      refine V_icmpge (pc := 7) (tgt := 77) dX4_passDay_7 (by decide) (fun h7 => ?_) (fun h7 => ?_)
      · have e1 := q1.1; rw [pdT_N] at e1; rw [e1, nI_leI (by omega) (by omega)] at h7; obtain rfl : i = sN σ := by omega
        refine V_aload_n (pc := 77) dX4_passDay_77 rfl rfl ?_
        refine V_dup (pc := 78) dX4_passDay_78 rfl ?_
        refine V_getI (pc := 79) (ci := 4) (j := 4) dX4_passDay_79 fl_X4_38 (fun _ _ _ _ => rfl) (by first | decide | omega) (by first | rfl | assumption | exact (hrow _ (by omega)).2 | decide) ?_
        refine V_iconst (pc := 82) (v := 1) dX4_passDay_82 (by decide) ?_
        refine V_iadd (pc := 83) dX4_passDay_83 ?_
        refine V_putI (pc := 84) (ci := 4) (j := 4) dX4_passDay_84 fl_X4_38 (fun _ _ _ _ _ => rfl) rfl rfl (by first | decide | omega) (by first | rfl | assumption | exact (hrow _ (by omega)).2 | decide) ?_
        refine V_vret (pc := 87) dX4_passDay_87 rfl ?_
        exact ⟨rfl, q1.setD.ext (by rw [q1.2.2.2.2.1]; rfl), q2.set (Or.inl rfl)⟩
      have e1 := q1.1; rw [pdT_N] at e1; rw [e1, nI_leI (by omega) (by omega)] at h7; have hlt : i < sN σ := (by omega); obtain ⟨z1, z2, z3, z4, z5, z6, z7, z8⟩ := q1.2.2.2.2.2.2.2.1 i (by omega)
      refine V_aload_n (pc := 10) dX4_passDay_10 rfl rfl ?_
      refine V_getR (pc := 11) (ci := 4) (j := 0) (k2 := (s + 1)) dX4_passDay_11 fl_X4_11 (fun _ _ _ _ => rfl) (by first | decide | omega) (by first | rfl | assumption | exact (hrow _ (by omega)).2 | decide) (rf_4_0 (by first | rfl | assumption | exact (hrow _ (by omega)).2 | decide)) ?_
      refine V_iload_n (pc := 14) dX4_passDay_14 rfl rfl ?_
      refine V_aald14 (pc := 15) (j := i) dX4_passDay_15 (by first | decide | omega) (by first | rfl | assumption | exact (hrow _ (by omega)).2 | decide) rfl (by omega) ?_
      refine V_astore4 (pc := 16) dX4_passDay_16 (by decide) rfl ?_
      have J : ∀ (μ2 : Mm) (σ2 : SeaT), SeaR μ2 s σ2 → FrM (seaS s) μ μ2 → σ2 = (if sC (pdT ow w σ i) i ≠ 0 ∧ w ≠ 4 then ansT ow w i (pdT ow w σ i) else pdT ow w σ i) → V l g RX4 cX4_passDay 5 none 3 40 [.ref s, .ref b, .int (nI w), .int (nI i), .ref (s + 1 + 1 + i)] [] μ2 (fun r μ' => r = none ∧ SeaR μ' s (dayT ow w σ) ∧ FrM (seaS s) μ μ') := by
        intro μ2 σ2 k1 k2 k3
        obtain ⟨y1, y2, y3, y4, y5, y6, y7, y8⟩ := k1.2.2.2.2.2.2.2.1 i (by omega)
        refine V_aload (pc := 40) dX4_passDay_40 rfl ?_
        refine V_aload_n (pc := 42) dX4_passDay_42 rfl rfl ?_
        refine V_aload (pc := 43) dX4_passDay_43 rfl ?_
        refine V_getI (pc := 45) (ci := 5) (j := 0) dX4_passDay_45 fl_X4_84 (fun _ _ _ _ => rfl) (by first | decide | omega) (by first | rfl | assumption | exact (hrow _ (by omega)).2 | decide) ?_
        rw [y1]
        refine V_aload (pc := 48) dX4_passDay_48 rfl ?_
        refine V_getI (pc := 50) (ci := 5) (j := 1) dX4_passDay_50 fl_X4_64 (fun _ _ _ _ => rfl) (by first | decide | omega) (by first | rfl | assumption | exact (hrow _ (by omega)).2 | decide) ?_
        rw [y3]
        refine V_aload (pc := 53) dX4_passDay_53 rfl ?_
        refine V_getI (pc := 55) (ci := 5) (j := 2) dX4_passDay_55 fl_X4_67 (fun _ _ _ _ => rfl) (by first | decide | omega) (by first | rfl | assumption | exact (hrow _ (by omega)).2 | decide) ?_
        rw [y5]
        refine V_iload_n (pc := 58) dX4_passDay_58 rfl rfl ?_
        refine V_ins5 (pc := 59) dX4_passDay_59 ml_X4_87 (by first | decide | omega) (Nat.le_of_ble_eq_true rfl) (c_X7_placeAfter μ2 hb (hB.kept k2 hap) y2 y4 y6 hw) ?_
        rintro _ μ3 ⟨rfl, hμ⟩
        obtain rfl := hμ.symm
        refine V_putI (pc := 62) (ci := 5) (j := 1) dX4_passDay_62 fl_X4_64 (fun _ _ _ _ _ => rfl) rfl rfl (by first | decide | omega) (by first | rfl | assumption | exact (hrow _ (by omega)).2 | decide) ?_
        refine V_aload (pc := 65) dX4_passDay_65 rfl ?_
        refine V_iconst (pc := 67) (v := (-1)) dX4_passDay_67 (by decide) ?_
        refine V_putI (pc := 68) (ci := 5) (j := 2) dX4_passDay_68 fl_X4_67 (fun _ _ _ _ _ => rfl) rfl rfl (by first | decide | omega) (by first | rfl | assumption | exact (hrow _ (by omega)).2 | decide) ?_
        refine V_iinc3 (pc := 71) (v := nI (i + 1)) dX4_passDay_71 (nI_1 i) (by decide) rfl ?_
        refine V_goto (pc := 74) (tgt := 2) dX4_passDay_74 (by decide) ?_
        have m1 := (k1.sp (i := i) (by omega) (aft_le (ow := ow) (κ := sK σ2 i) (k := sC σ2 i) (w := w) y4) rfl).setC (i := i) (c := 0) (x := -1) (by omega) (by omega) cI_0.symm
        refine ihA (i + 1) _ _ (by omega) (by omega) (m1.ext ?_) ((k2.set (Or.inr (by omega))).set (Or.inr (by omega))) rfl
        rw [k3]
        simp only [pdT]
        show mkSea _ _ _ _ _ _ _ _ _ _ = mkSea _ _ _ _ _ _ _ _ _ _
        simp only [sN, sK, sP, sC, sV, sT, sS, sD, sA, sG, wShip, mkSea, up1_up1, up1_id]
      refine V_aload (pc := 18) dX4_passDay_18 rfl ?_
      refine V_getI (pc := 20) (ci := 5) (j := 2) dX4_passDay_20 fl_X4_67 (fun _ _ _ _ => rfl) (by first | decide | omega) (by first | rfl | assumption | exact (hrow _ (by omega)).2 | decide) ?_
      refine V_iconst (pc := 23) (v := (-1)) dX4_passDay_23 (by decide) ?_
      refine V_icmpeq (pc := 24) (tgt := 40) dX4_passDay_24 (by decide) (fun h24 => ?_) (fun h24 => ?_)
      · rw [z5] at h24; have h24 := (cI_m1 (by omega)).mp h24; exact J μ1 _ q1 q2 (if_neg (fun q => q.1 h24)).symm
      rw [z5] at h24; have h24 := mt (cI_m1 (a := sC (pdT ow w σ i) i) (by omega)).mpr h24
      refine V_iload_n (pc := 27) dX4_passDay_27 rfl rfl ?_
      refine V_iconst (pc := 28) (v := 4) dX4_passDay_28 (by decide) ?_
      refine V_icmpeq (pc := 29) (tgt := 40) dX4_passDay_29 (by decide) (fun h29 => ?_) (fun h29 => ?_)
      · have h29 := (nI_eq (a := w) (b := 4) (by omega) (by decide)).mp h29; exact J μ1 _ q1 q2 (if_neg (fun q => q.2 h29)).symm
      have h29 := mt (nI_eq (a := w) (b := 4) (by omega) (by decide)).mpr h29
      refine V_aload_n (pc := 32) dX4_passDay_32 rfl rfl ?_
      refine V_aload_n (pc := 33) dX4_passDay_33 rfl rfl ?_
      refine V_aload (pc := 34) dX4_passDay_34 rfl ?_
      refine V_iload_n (pc := 36) dX4_passDay_36 rfl rfl ?_
      refine V_inv3 (pc := 37) (ci := 4) dX4_passDay_37 ml_X4_80 (by first | decide | omega) (by first | rfl | assumption | exact (hrow _ (by omega)).2 | decide) ⟨by decide, rfl⟩ (by decide) (Nat.le_of_ble_eq_true rfl) (c_X4_answer μ1 hs q1 hb (hB.kept q2 hap) (show i < 6 by omega) (by omega) h24) ?_
      rintro _ μ2 ⟨rfl, k1, k2⟩
      exact J μ2 _ k1 (q2.tr k2 (fun _ q => q)) (if_pos ⟨h24, h29⟩).symm
  exact loopA (sN σ + 1) 0 _ _ (by omega) (by omega) hS0 FrM.rf rfl
end
section
theorem dX4_passYears_0 : decode cX4_passYears 0 = .ok (.iload_n 3, 1) := by decide +kernel
theorem dX4_passYears_1 : decode cX4_passYears 1 = .ok (.istore 4, 2) := by decide +kernel
theorem dX4_passYears_3 : decode cX4_passYears 3 = .ok (.iconst 0, 1) := by decide +kernel
theorem dX4_passYears_4 : decode cX4_passYears 4 = .ok (.istore 5, 2) := by decide +kernel
theorem dX4_passYears_6 : decode cX4_passYears 6 = .ok (.iload 5, 2) := by decide +kernel
theorem dX4_passYears_8 : decode cX4_passYears 8 = .ok (.iload_n 2, 1) := by decide +kernel
theorem dX4_passYears_9 : decode cX4_passYears 9 = .ok (.if_icmp .ge 126, 3) := by decide +kernel
theorem dX4_passYears_12 : decode cX4_passYears 12 = .ok (.iload 4, 2) := by decide +kernel
theorem dX4_passYears_14 : decode cX4_passYears 14 = .ok (.invokestatic 103, 3) := by decide +kernel
theorem dX4_passYears_17 : decode cX4_passYears 17 = .ok (.istore 4, 2) := by decide +kernel
theorem dX4_passYears_19 : decode cX4_passYears 19 = .ok (.iload 4, 2) := by decide +kernel
theorem dX4_passYears_21 : decode cX4_passYears 21 = .ok (.iconst 3, 1) := by decide +kernel
theorem dX4_passYears_22 : decode cX4_passYears 22 = .ok (.invokestatic 106, 3) := by decide +kernel
theorem dX4_passYears_25 : decode cX4_passYears 25 = .ok (.istore 6, 2) := by decide +kernel
theorem dX4_passYears_27 : decode cX4_passYears 27 = .ok (.iconst 0, 1) := by decide +kernel
theorem dX4_passYears_28 : decode cX4_passYears 28 = .ok (.istore 7, 2) := by decide +kernel
theorem dX4_passYears_30 : decode cX4_passYears 30 = .ok (.iload 7, 2) := by decide +kernel
theorem dX4_passYears_32 : decode cX4_passYears 32 = .ok (.aload_n 0, 1) := by decide +kernel
theorem dX4_passYears_33 : decode cX4_passYears 33 = .ok (.getfield 31, 3) := by decide +kernel
theorem dX4_passYears_36 : decode cX4_passYears 36 = .ok (.if_icmp .ge 68, 3) := by decide +kernel
theorem dX4_passYears_39 : decode cX4_passYears 39 = .ok (.aload_n 0, 1) := by decide +kernel
theorem dX4_passYears_40 : decode cX4_passYears 40 = .ok (.getfield 11, 3) := by decide +kernel
theorem dX4_passYears_43 : decode cX4_passYears 43 = .ok (.iload 7, 2) := by decide +kernel
theorem dX4_passYears_45 : decode cX4_passYears 45 = .ok (.aaload, 1) := by decide +kernel
theorem dX4_passYears_46 : decode cX4_passYears 46 = .ok (.getfield 64, 3) := by decide +kernel
theorem dX4_passYears_49 : decode cX4_passYears 49 = .ok (.bipush 9, 2) := by decide +kernel
theorem dX4_passYears_51 : decode cX4_passYears 51 = .ok (.if_icmp .eq 47, 3) := by decide +kernel
theorem dX4_passYears_54 : decode cX4_passYears 54 = .ok (.iload 4, 2) := by decide +kernel
theorem dX4_passYears_56 : decode cX4_passYears 56 = .ok (.invokestatic 103, 3) := by decide +kernel
theorem dX4_passYears_59 : decode cX4_passYears 59 = .ok (.istore 4, 2) := by decide +kernel
theorem dX4_passYears_61 : decode cX4_passYears 61 = .ok (.iload 4, 2) := by decide +kernel
theorem dX4_passYears_63 : decode cX4_passYears 63 = .ok (.bipush 7, 2) := by decide +kernel
theorem dX4_passYears_65 : decode cX4_passYears 65 = .ok (.invokestatic 106, 3) := by decide +kernel
theorem dX4_passYears_68 : decode cX4_passYears 68 = .ok (.istore 8, 2) := by decide +kernel
theorem dX4_passYears_70 : decode cX4_passYears 70 = .ok (.aload_n 0, 1) := by decide +kernel
theorem dX4_passYears_71 : decode cX4_passYears 71 = .ok (.iload 7, 2) := by decide +kernel
theorem dX4_passYears_73 : decode cX4_passYears 73 = .ok (.iload 8, 2) := by decide +kernel
theorem dX4_passYears_75 : decode cX4_passYears 75 = .ok (.bipush 6, 2) := by decide +kernel
theorem dX4_passYears_77 : decode cX4_passYears 77 = .ok (.if_icmp .eq 12, 3) := by decide +kernel
theorem dX4_passYears_80 : decode cX4_passYears 80 = .ok (.aload_n 0, 1) := by decide +kernel
theorem dX4_passYears_81 : decode cX4_passYears 81 = .ok (.iload 8, 2) := by decide +kernel
theorem dX4_passYears_83 : decode cX4_passYears 83 = .ok (.invokevirtual 110, 3) := by decide +kernel
theorem dX4_passYears_86 : decode cX4_passYears 86 = .ok (.ifCond .eq 7, 3) := by decide +kernel
theorem dX4_passYears_89 : decode cX4_passYears 89 = .ok (.iconst (-1), 1) := by decide +kernel
theorem dX4_passYears_90 : decode cX4_passYears 90 = .ok (.goto 5, 3) := by decide +kernel
theorem dX4_passYears_93 : decode cX4_passYears 93 = .ok (.iload 8, 2) := by decide +kernel
theorem dX4_passYears_95 : decode cX4_passYears 95 = .ok (.invokevirtual 74, 3) := by decide +kernel
theorem dX4_passYears_98 : decode cX4_passYears 98 = .ok (.iinc 7 1, 3) := by decide +kernel
theorem dX4_passYears_101 : decode cX4_passYears 101 = .ok (.goto (-71), 3) := by decide +kernel
theorem dX4_passYears_104 : decode cX4_passYears 104 = .ok (.iload 4, 2) := by decide +kernel
theorem dX4_passYears_106 : decode cX4_passYears 106 = .ok (.invokestatic 103, 3) := by decide +kernel
theorem dX4_passYears_109 : decode cX4_passYears 109 = .ok (.istore 4, 2) := by decide +kernel
theorem dX4_passYears_111 : decode cX4_passYears 111 = .ok (.aload_n 0, 1) := by decide +kernel
theorem dX4_passYears_112 : decode cX4_passYears 112 = .ok (.aload_n 1, 1) := by decide +kernel
theorem dX4_passYears_113 : decode cX4_passYears 113 = .ok (.aload_n 1, 1) := by decide +kernel
theorem dX4_passYears_114 : decode cX4_passYears 114 = .ok (.iload 6, 2) := by decide +kernel
theorem dX4_passYears_116 : decode cX4_passYears 116 = .ok (.iload 4, 2) := by decide +kernel
theorem dX4_passYears_118 : decode cX4_passYears 118 = .ok (.bipush 10, 2) := by decide +kernel
theorem dX4_passYears_120 : decode cX4_passYears 120 = .ok (.invokestatic 106, 3) := by decide +kernel
theorem dX4_passYears_123 : decode cX4_passYears 123 = .ok (.invokestatic 113, 3) := by decide +kernel
theorem dX4_passYears_126 : decode cX4_passYears 126 = .ok (.invokevirtual 117, 3) := by decide +kernel
theorem dX4_passYears_129 : decode cX4_passYears 129 = .ok (.iinc 5 1, 3) := by decide +kernel
theorem dX4_passYears_132 : decode cX4_passYears 132 = .ok (.goto (-126), 3) := by decide +kernel
theorem dX4_passYears_135 : decode cX4_passYears 135 = .ok (.iload 4, 2) := by decide +kernel
theorem dX4_passYears_137 : decode cX4_passYears 137 = .ok (.ireturn, 1) := by decide +kernel
set_option maxHeartbeats 4000000 in
set_option maxRecDepth 100000 in
theorem c_X4_passYears {l : Launch} {g : GW} {s b n x : Nat} {tn : Nat → Nat → Nat} {ow : Nat → Nat} {σ : SeaT} (μ : Mm) (hs : s = 4 ∨ s = 13 ∨ s = 22) (hS : SeaR μ s σ) (hb : b = 49 ∨ b = 57) (hB : BkR μ b tn ow) (hn : n ≤ 60) (hx : x < 2 ^ 31) : Con l g yX4_passYears cX4_passYears 9 (some .int) 4 [.ref s, .ref b, .int (nI n), .int (nI x)] μ (fun r μ' => r = some (.int (nI (yrT tn ow σ x n).2)) ∧ SeaR μ' s (yrT tn ow σ x n).1 ∧ FrM (seaS s) μ μ') := by
  have hS0 := hS
  obtain ⟨hs1, hs2, hs3, hs4, hs5, hs6, hrow⟩ := seaF hs
  obtain ⟨r1, r2, r3, r4, r5, r6, r7, r8, r9⟩ := hS
  obtain ⟨hb1, hb2, hb3, hb4, hb5, hb6, hrowb⟩ := bkF hb
  have hap : ∀ k, b + 2 ≤ k → k ≤ b + 7 → ¬ seaS s k := fun k h1 h2 q => by rcases q with q | q <;> omega
  refine Con.of [.ref s, .ref b, .int (nI n), .int (nI x), .null, .null, .null, .null, .null] 5 (by decide +kernel) (Nat.le_of_ble_eq_true rfl) rfl ?_
  refine V_iload_n (pc := 0) dX4_passYears_0 rfl rfl ?_
  refine V_istore4 (pc := 1) dX4_passYears_1 (by decide) rfl ?_
  refine V_iconst (pc := 3) (v := 0) dX4_passYears_3 (by decide) ?_
  refine V_istore5 (pc := 4) dX4_passYears_4 (by decide) rfl ?_
  have loopA : ∀ (nA d : Nat) (μ1 : Mm) (e : Nat) (y6 y7 y8 : Value), d ≤ n → n < d + nA → (SeaR μ1 s (yrT tn ow σ x d).1) → (FrM (seaS s) μ μ1) → (e = (yrT tn ow σ x d).2) → (e < 2 ^ 31) → (okp [y6] 1 = true) → (okp [y7] 1 = true) → V l g RX4 cX4_passYears 9 (some .int) 4 6 [.ref s, .ref b, .int (nI n), .int (nI x), .int (nI e), .int (nI d), y6, y7, y8] [] μ1 (fun r μ' => r = some (.int (nI (yrT tn ow σ x n).2)) ∧ SeaR μ' s (yrT tn ow σ x n).1 ∧ FrM (seaS s) μ μ') := by
    intro nA
    induction nA with
    | zero => intro d μ1 e y6 y7 y8 h1 h2; exact absurd h2 (by omega)
    | succ nA ihA =>
      intro d μ1 e y6 y7 y8 hleA hfuA q1 q2 q3 q4 ok6 ok7
      refine V_iload (pc := 6) dX4_passYears_6 rfl ?_
      refine V_iload_n (pc := 8) dX4_passYears_8 rfl rfl ?_
      refine V_icmpge (pc := 9) (tgt := 135) dX4_passYears_9 (by decide) (fun h9 => ?_) (fun h9 => ?_)
      · rw [nI_leI (by omega) (by omega)] at h9; obtain rfl : d = n := by omega
        refine V_iload (pc := 135) dX4_passYears_135 rfl ?_
        refine V_iret (pc := 137) dX4_passYears_137 rfl ?_
        exact ⟨by rw [q3], q1, q2⟩
      rw [nI_leI (by omega) (by omega)] at h9; have hlt : d < n := by omega
      refine V_iload (pc := 12) dX4_passYears_12 rfl ?_
      refine V_ins1 (pc := 14) dX4_passYears_14 ml_X4_103 (by first | decide | omega) (Nat.le_of_ble_eq_true rfl) (c_X4_nextSeed μ1 q4) ?_
      rintro _ μ2 ⟨rfl, hμ⟩
      obtain rfl := hμ.symm
      refine V_istore4 (pc := 17) dX4_passYears_17 (by decide) rfl ?_
      refine V_iload (pc := 19) dX4_passYears_19 rfl ?_
      refine V_iconst (pc := 21) (v := 3) dX4_passYears_21 (by decide) ?_
      refine V_ins2 (pc := 22) dX4_passYears_22 ml_X4_106 (by first | decide | omega) (Nat.le_of_ble_eq_true rfl) (c_X4_drawOf (o := 3) μ1 (nxS_lt e) (by decide) (by decide)) ?_
      rintro _ μ2 ⟨rfl, hμ⟩
      obtain rfl := hμ.symm
      refine V_istore6 (pc := 25) dX4_passYears_25 (by decide) rfl ?_
      have hn6 := q1.2.1
      refine V_iconst (pc := 27) (v := 0) dX4_passYears_27 (by decide) ?_
      refine V_istore7 (pc := 28) dX4_passYears_28 (by decide) rfl ?_
      have loopB : ∀ (nB i : Nat) (μ2 : Mm) (f : Nat) (y8 : Value), i ≤ sN (yrT tn ow σ x d).1 → sN (yrT tn ow σ x d).1 < i + nB → (SeaR μ2 s (yrS (yrT tn ow σ x d).1 (nxS e) i).1) → (FrM (seaS s) μ μ2) → (f = (yrS (yrT tn ow σ x d).1 (nxS e) i).2) → (f < 2 ^ 31) → V l g RX4 cX4_passYears 9 (some .int) 4 30 [.ref s, .ref b, .int (nI n), .int (nI x), .int (nI f), .int (nI d), .int (nI (nxS e / 65536 % 3)), .int (nI i), y8] [] μ2 (fun r μ' => r = some (.int (nI (yrT tn ow σ x n).2)) ∧ SeaR μ' s (yrT tn ow σ x n).1 ∧ FrM (seaS s) μ μ') := by
        intro nB
        induction nB with
        | zero => intro i μ2 f y8 h1 h2; exact absurd h2 (by omega)
        | succ nB ihB =>
          intro i μ2 f y8 hleB hfuB k1 k2 k3 k4
          refine V_iload (pc := 30) dX4_passYears_30 rfl ?_
          refine V_aload_n (pc := 32) dX4_passYears_32 rfl rfl ?_
          refine V_getI (pc := 33) (ci := 4) (j := 2) dX4_passYears_33 fl_X4_31 (fun _ _ _ _ => rfl) (by first | decide | omega) (by first | rfl | assumption | exact (hrow _ (by omega)).2 | decide) ?_
          refine V_icmpge (pc := 36) (tgt := 104) dX4_passYears_36 (by decide) (fun h36 => ?_) (fun h36 => ?_)
          · have e1 := k1.1; rw [yrS_N] at e1; rw [e1, nI_leI (by omega) (by omega)] at h36; obtain rfl : i = sN (yrT tn ow σ x d).1 := by omega
            refine V_iload (pc := 104) dX4_passYears_104 rfl ?_
            refine V_ins1 (pc := 106) dX4_passYears_106 ml_X4_103 (by first | decide | omega) (Nat.le_of_ble_eq_true rfl) (c_X4_nextSeed μ2 k4) ?_
            rintro _ μ2 ⟨rfl, hμ⟩
            obtain rfl := hμ.symm
            refine V_istore4 (pc := 109) dX4_passYears_109 (by decide) rfl ?_
            refine V_aload_n (pc := 111) dX4_passYears_111 rfl rfl ?_
            refine V_aload_n (pc := 112) dX4_passYears_112 rfl rfl ?_
            refine V_aload_n (pc := 113) dX4_passYears_113 rfl rfl ?_
            refine V_iload (pc := 114) dX4_passYears_114 rfl ?_
            refine V_iload (pc := 116) dX4_passYears_116 rfl ?_
            refine V_bipush (pc := 118) (v := 10) dX4_passYears_118 (by decide) ?_
            refine V_ins2 (pc := 120) dX4_passYears_120 ml_X4_106 (by first | decide | omega) (Nat.le_of_ble_eq_true rfl) (c_X4_drawOf (o := 10) μ2 (nxS_lt f) (by decide) (by decide)) ?_
            rintro _ μ2 ⟨rfl, hμ⟩
            obtain rfl := hμ.symm
            refine V_ins3 (pc := 123) dX4_passYears_123 ml_X4_113 (by first | decide | omega) (Nat.le_of_ble_eq_true rfl) (c_X4_windDrawn μ2 hb (hB.kept k2 hap) (show nxS e / 65536 % 3 ≤ 2 by omega) (by omega)) ?_
            rintro _ μ2 ⟨rfl, hμ⟩
            obtain rfl := hμ.symm
            refine V_inv2 (pc := 126) (ci := 4) dX4_passYears_126 ml_X4_117 (by first | decide | omega) (by first | rfl | assumption | exact (hrow _ (by omega)).2 | decide) ⟨by decide, rfl⟩ (by decide) (Nat.le_of_ble_eq_true rfl) (c_X4_passDay μ2 hs k1 hb (hB.kept k2 hap) widT_le) ?_
            rintro _ μ3 ⟨rfl, m1, m2⟩
            refine V_iinc5 (pc := 129) (v := nI (d + 1)) dX4_passYears_129 (nI_1 d) (by decide) rfl ?_
            refine V_goto (pc := 132) (tgt := 6) dX4_passYears_132 (by decide) ?_
            refine ihA (d + 1) μ3 (nxS f) _ _ _ (by omega) (by omega) (m1.ext ?_) (k2.tr m2 (fun _ q => q)) ?_ (nxS_lt f) rfl rfl
            · simp only [yrT]; rw [← q3, ← k3]
            · simp only [yrT]; rw [← q3, ← k3]
          have e1 := k1.1; rw [yrS_N] at e1; rw [e1, nI_leI (by omega) (by omega)] at h36; have hli : i < sN (yrT tn ow σ x d).1 := (by omega); obtain ⟨z1, z2, z3, z4, z5, z6, z7, z8⟩ := k1.2.2.2.2.2.2.2.1 i (by omega)
          refine V_aload_n (pc := 39) dX4_passYears_39 rfl rfl ?_
          refine V_getR (pc := 40) (ci := 4) (j := 0) (k2 := (s + 1)) dX4_passYears_40 fl_X4_11 (fun _ _ _ _ => rfl) (by first | decide | omega) (by first | rfl | assumption | exact (hrow _ (by omega)).2 | decide) (rf_4_0 (by first | rfl | assumption | exact (hrow _ (by omega)).2 | decide)) ?_
          refine V_iload (pc := 43) dX4_passYears_43 rfl ?_
          refine V_aald14 (pc := 45) (j := i) dX4_passYears_45 (by first | decide | omega) (by first | rfl | assumption | exact (hrow _ (by omega)).2 | decide) rfl (by omega) ?_
          refine V_getI (pc := 46) (ci := 5) (j := 1) dX4_passYears_46 fl_X4_64 (fun _ _ _ _ => rfl) (by first | decide | omega) (by first | rfl | assumption | exact (hrow _ (by omega)).2 | decide) ?_
          refine V_bipush (pc := 49) (v := 9) dX4_passYears_49 (by decide) ?_
          refine V_icmpeq (pc := 51) (tgt := 98) dX4_passYears_51 (by decide) (fun h51 => ?_) (fun h51 => ?_)
          · rw [z3] at h51; have h51 := (nI_eq (a := sP (yrS (yrT tn ow σ x d).1 (nxS e) i).1 i) (b := 9) (by omega) (by decide)).mp h51
            refine V_iinc7 (pc := 98) (v := nI (i + 1)) dX4_passYears_98 (nI_1 i) (by decide) rfl ?_
            refine V_goto (pc := 101) (tgt := 30) dX4_passYears_101 (by decide) ?_
            first | exact ihB (i + 1) μ2 f _ (by omega) (by omega) (k1.ext (by simp only [yrS]; rw [if_pos h51])) k2 (by rw [k3]; simp only [yrS]; rw [if_pos h51]) k4 | exact ihB (i + 1) μ3 (nxS f) _ (by omega) (by omega) (m1.ext (by simp only [yrS]; rw [if_neg h51, ← k3, hc])) (k2.tr m2 (fun _ q => q)) (by simp only [yrS]; rw [if_neg h51, ← k3]) (nxS_lt f)
          rw [z3] at h51; have h51 := mt (nI_eq (a := sP (yrS (yrT tn ow σ x d).1 (nxS e) i).1 i) (b := 9) (by omega) (by decide)).mpr h51
          refine V_iload (pc := 54) dX4_passYears_54 rfl ?_
          refine V_ins1 (pc := 56) dX4_passYears_56 ml_X4_103 (by first | decide | omega) (Nat.le_of_ble_eq_true rfl) (c_X4_nextSeed μ2 k4) ?_
          rintro _ μ2 ⟨rfl, hμ⟩
          obtain rfl := hμ.symm
          refine V_istore4 (pc := 59) dX4_passYears_59 (by decide) rfl ?_
          refine V_iload (pc := 61) dX4_passYears_61 rfl ?_
          refine V_bipush (pc := 63) (v := 7) dX4_passYears_63 (by decide) ?_
          refine V_ins2 (pc := 65) dX4_passYears_65 ml_X4_106 (by first | decide | omega) (Nat.le_of_ble_eq_true rfl) (c_X4_drawOf (o := 7) μ2 (nxS_lt f) (by decide) (by decide)) ?_
          rintro _ μ2 ⟨rfl, hμ⟩
          obtain rfl := hμ.symm
          refine V_istore8 (pc := 68) dX4_passYears_68 (by decide) rfl ?_
          have hnx : nxS f / 65536 % 7 < 7 := Nat.mod_lt _ (by decide)
          have J : ∀ (c : Nat) (y : Int32), y = cI c → c = (if nxS f / 65536 % 7 = 6 ∨ (sS (yrS (yrT tn ow σ x d).1 (nxS e) i).1).testBit (nxS f / 65536 % 7) = true then 0 else nxS f / 65536 % 7 + 1) → V l g RX4 cX4_passYears 9 (some .int) 4 95 [.ref s, .ref b, .int (nI n), .int (nI x), .int (nI (nxS f)), .int (nI d), .int (nI (nxS e / 65536 % 3)), .int (nI i), .int (nI (nxS f / 65536 % 7))] [.int y, .int (nI i), .ref s] μ2 (fun r μ' => r = some (.int (nI (yrT tn ow σ x n).2)) ∧ SeaR μ' s (yrT tn ow σ x n).1 ∧ FrM (seaS s) μ μ') := by
            intro c y hy hc
            subst hy
            have hc6 : c ≤ 6 := by rw [hc]; split <;> omega
            refine V_inv2 (pc := 95) (ci := 4) dX4_passYears_95 ml_X4_74 (by first | decide | omega) (by first | rfl | assumption | exact (hrow _ (by omega)).2 | decide) ⟨by decide, rfl⟩ (by decide) (Nat.le_of_ble_eq_true rfl) (c_X4_beginCall μ2 hs k1 (show i < 6 by omega) hc6) ?_
            rintro _ μ3 ⟨rfl, m1, m2⟩
            refine V_iinc7 (pc := 98) (v := nI (i + 1)) dX4_passYears_98 (nI_1 i) (by decide) rfl ?_
            refine V_goto (pc := 101) (tgt := 30) dX4_passYears_101 (by decide) ?_
            first | exact ihB (i + 1) μ2 f _ (by omega) (by omega) (k1.ext (by simp only [yrS]; rw [if_pos h51])) k2 (by rw [k3]; simp only [yrS]; rw [if_pos h51]) k4 | exact ihB (i + 1) μ3 (nxS f) _ (by omega) (by omega) (m1.ext (by simp only [yrS]; rw [if_neg h51, ← k3, hc])) (k2.tr m2 (fun _ q => q)) (by simp only [yrS]; rw [if_neg h51, ← k3]) (nxS_lt f)
          refine V_aload_n (pc := 70) dX4_passYears_70 rfl rfl ?_
          refine V_iload (pc := 71) dX4_passYears_71 rfl ?_
          refine V_iload (pc := 73) dX4_passYears_73 rfl ?_
          refine V_bipush (pc := 75) (v := 6) dX4_passYears_75 (by decide) ?_
          refine V_icmpeq (pc := 77) (tgt := 89) dX4_passYears_77 (by decide) (fun h77 => ?_) (fun h77 => ?_)
          · have h77 := (nI_eq (a := nxS f / 65536 % 7) (b := 6) (by omega) (by decide)).mp h77
            refine V_iconst (pc := 89) (v := (-1)) dX4_passYears_89 (by decide) ?_
            refine V_goto (pc := 90) (tgt := 95) dX4_passYears_90 (by decide) ?_
            first | exact J 0 _ cI_0.symm (if_pos (Or.inl h77)).symm | exact J 0 _ cI_0.symm (if_pos (Or.inr h86)).symm | exact J _ _ (cI_s _).symm (if_neg (fun q => q.elim h77 (fun q => by rw [h86] at q; exact absurd q (by decide)))).symm
          have h77 := mt (nI_eq (a := nxS f / 65536 % 7) (b := 6) (by omega) (by decide)).mpr h77
          refine V_aload_n (pc := 80) dX4_passYears_80 rfl rfl ?_
          refine V_iload (pc := 81) dX4_passYears_81 rfl ?_
          refine V_inv1 (pc := 83) (ci := 4) dX4_passYears_83 ml_X4_110 (by first | decide | omega) (by first | rfl | assumption | exact (hrow _ (by omega)).2 | decide) ⟨by decide, rfl⟩ (by decide) (Nat.le_of_ble_eq_true rfl) (c_X4_isSpent μ2 hs k1 (show nxS f / 65536 % 7 < 6 by omega)) ?_
          rintro _ μ2 ⟨rfl, hμ⟩
          obtain rfl := hμ.symm
          refine V_ifeq (pc := 86) (tgt := 93) dX4_passYears_86 (by decide) (fun h86 => ?_) (fun h86 => ?_)
          · have h86 := (bI_0 _).mp h86
            refine V_iload (pc := 93) dX4_passYears_93 rfl ?_
            first | exact J 0 _ cI_0.symm (if_pos (Or.inl h77)).symm | exact J 0 _ cI_0.symm (if_pos (Or.inr h86)).symm | exact J _ _ (cI_s _).symm (if_neg (fun q => q.elim h77 (fun q => by rw [h86] at q; exact absurd q (by decide)))).symm
          have h86 : (sS (yrS (yrT tn ow σ x d).1 (nxS e) i).1).testBit (nxS f / 65536 % 7) = true := by cases hf : (sS (yrS (yrT tn ow σ x d).1 (nxS e) i).1).testBit (nxS f / 65536 % 7); exact absurd ((bI_0 _).mpr hf) h86; rfl
          refine V_iconst (pc := 89) (v := (-1)) dX4_passYears_89 (by decide) ?_
          refine V_goto (pc := 90) (tgt := 95) dX4_passYears_90 (by decide) ?_
          first | exact J 0 _ cI_0.symm (if_pos (Or.inl h77)).symm | exact J 0 _ cI_0.symm (if_pos (Or.inr h86)).symm | exact J _ _ (cI_s _).symm (if_neg (fun q => q.elim h77 (fun q => by rw [h86] at q; exact absurd q (by decide)))).symm
      exact loopB (sN (yrT tn ow σ x d).1 + 1) 0 _ _ _ (by omega) (by omega) q1 q2 rfl (nxS_lt e)
  exact loopA (n + 1) 0 _ _ _ _ _ (by omega) (by omega) hS0 FrM.rf rfl hx rfl rfl
theorem dX4_copyFrom_0 : decode cX4_copyFrom 0 = .ok (.iconst 0, 1) := by decide +kernel
theorem dX4_copyFrom_1 : decode cX4_copyFrom 1 = .ok (.istore_n 2, 1) := by decide +kernel
theorem dX4_copyFrom_2 : decode cX4_copyFrom 2 = .ok (.iload_n 2, 1) := by decide +kernel
theorem dX4_copyFrom_3 : decode cX4_copyFrom 3 = .ok (.bipush 6, 2) := by decide +kernel
theorem dX4_copyFrom_5 : decode cX4_copyFrom 5 = .ok (.if_icmp .ge 24, 3) := by decide +kernel
theorem dX4_copyFrom_8 : decode cX4_copyFrom 8 = .ok (.aload_n 0, 1) := by decide +kernel
theorem dX4_copyFrom_9 : decode cX4_copyFrom 9 = .ok (.getfield 11, 3) := by decide +kernel
theorem dX4_copyFrom_12 : decode cX4_copyFrom 12 = .ok (.iload_n 2, 1) := by decide +kernel
theorem dX4_copyFrom_13 : decode cX4_copyFrom 13 = .ok (.aaload, 1) := by decide +kernel
theorem dX4_copyFrom_14 : decode cX4_copyFrom 14 = .ok (.aload_n 1, 1) := by decide +kernel
theorem dX4_copyFrom_15 : decode cX4_copyFrom 15 = .ok (.getfield 11, 3) := by decide +kernel
theorem dX4_copyFrom_18 : decode cX4_copyFrom 18 = .ok (.iload_n 2, 1) := by decide +kernel
theorem dX4_copyFrom_19 : decode cX4_copyFrom 19 = .ok (.aaload, 1) := by decide +kernel
theorem dX4_copyFrom_20 : decode cX4_copyFrom 20 = .ok (.invokevirtual 44, 3) := by decide +kernel
theorem dX4_copyFrom_23 : decode cX4_copyFrom 23 = .ok (.iinc 2 1, 3) := by decide +kernel
theorem dX4_copyFrom_26 : decode cX4_copyFrom 26 = .ok (.goto (-24), 3) := by decide +kernel
theorem dX4_copyFrom_29 : decode cX4_copyFrom 29 = .ok (.aload_n 1, 1) := by decide +kernel
theorem dX4_copyFrom_30 : decode cX4_copyFrom 30 = .ok (.getfield 17, 3) := by decide +kernel
theorem dX4_copyFrom_33 : decode cX4_copyFrom 33 = .ok (.iconst 0, 1) := by decide +kernel
theorem dX4_copyFrom_34 : decode cX4_copyFrom 34 = .ok (.aload_n 0, 1) := by decide +kernel
theorem dX4_copyFrom_35 : decode cX4_copyFrom 35 = .ok (.getfield 17, 3) := by decide +kernel
theorem dX4_copyFrom_38 : decode cX4_copyFrom 38 = .ok (.iconst 0, 1) := by decide +kernel
theorem dX4_copyFrom_39 : decode cX4_copyFrom 39 = .ok (.bipush 6, 2) := by decide +kernel
theorem dX4_copyFrom_41 : decode cX4_copyFrom 41 = .ok (.invokestatic 48, 3) := by decide +kernel
theorem dX4_copyFrom_44 : decode cX4_copyFrom 44 = .ok (.aload_n 0, 1) := by decide +kernel
theorem dX4_copyFrom_45 : decode cX4_copyFrom 45 = .ok (.aload_n 1, 1) := by decide +kernel
theorem dX4_copyFrom_46 : decode cX4_copyFrom 46 = .ok (.getfield 31, 3) := by decide +kernel
theorem dX4_copyFrom_49 : decode cX4_copyFrom 49 = .ok (.putfield 31, 3) := by decide +kernel
theorem dX4_copyFrom_52 : decode cX4_copyFrom 52 = .ok (.aload_n 0, 1) := by decide +kernel
theorem dX4_copyFrom_53 : decode cX4_copyFrom 53 = .ok (.aload_n 1, 1) := by decide +kernel
theorem dX4_copyFrom_54 : decode cX4_copyFrom 54 = .ok (.getfield 35, 3) := by decide +kernel
theorem dX4_copyFrom_57 : decode cX4_copyFrom 57 = .ok (.putfield 35, 3) := by decide +kernel
theorem dX4_copyFrom_60 : decode cX4_copyFrom 60 = .ok (.aload_n 0, 1) := by decide +kernel
theorem dX4_copyFrom_61 : decode cX4_copyFrom 61 = .ok (.aload_n 1, 1) := by decide +kernel
theorem dX4_copyFrom_62 : decode cX4_copyFrom 62 = .ok (.getfield 38, 3) := by decide +kernel
theorem dX4_copyFrom_65 : decode cX4_copyFrom 65 = .ok (.putfield 38, 3) := by decide +kernel
theorem dX4_copyFrom_68 : decode cX4_copyFrom 68 = .ok (.aload_n 0, 1) := by decide +kernel
theorem dX4_copyFrom_69 : decode cX4_copyFrom 69 = .ok (.aload_n 1, 1) := by decide +kernel
theorem dX4_copyFrom_70 : decode cX4_copyFrom 70 = .ok (.getfield 41, 3) := by decide +kernel
theorem dX4_copyFrom_73 : decode cX4_copyFrom 73 = .ok (.putfield 41, 3) := by decide +kernel
theorem dX4_copyFrom_76 : decode cX4_copyFrom 76 = .ok (.return_, 1) := by decide +kernel
set_option maxHeartbeats 4000000 in
set_option maxRecDepth 100000 in
theorem c_X4_copyFrom {l : Launch} {g : GW} {s t : Nat} {σ τ : SeaT} (μ : Mm) (hs : s = 4 ∨ s = 13 ∨ s = 22) (hS : SeaR μ s σ) (ht : t = 4 ∨ t = 13 ∨ t = 22) (hT : SeaR μ t τ) (hne : s ≠ t) : Con l g yX4_copyFrom cX4_copyFrom 3 none 1 [.ref s, .ref t] μ (fun r μ' => r = none ∧ SeaR μ' s (mkSea (sN τ) (sK τ) (sP τ) (fun _ => 0) (sV τ) (sT τ) (sS τ) (sD τ) (sA τ) (sG τ)) ∧ FrM (seaS s) μ μ') := by
  have hS0 := hS
  obtain ⟨hs1, hs2, hs3, hs4, hs5, hs6, hrow⟩ := seaF hs
  obtain ⟨r1, r2, r3, r4, r5, r6, r7, r8, r9⟩ := hS
  obtain ⟨ht1, ht2, ht3, ht4, ht5, ht6, htrow⟩ := seaF ht
  obtain ⟨t1, t2, t3, t4, t5, t6, t7, t8, t9⟩ := id hT
  have hap : ∀ k, seaS t k → ¬ seaS s k := fun k h1 q => by rcases q with q | q <;> rcases h1 with h1 | h1 <;> omega
  refine Con.of [.ref s, .ref t, .null] 1 (by decide +kernel) (Nat.le_of_ble_eq_true rfl) rfl ?_
  refine V_iconst (pc := 0) (v := 0) dX4_copyFrom_0 (by decide) ?_
  refine V_istore2 (pc := 1) dX4_copyFrom_1 (by decide) rfl ?_
  have loopA : ∀ (nA i : Nat) (μ1 : Mm), i ≤ 6 → 6 < i + nA → (∀ j, j < i → ShR μ1 (s + 1 + 1 + j) (sK τ j) (sP τ j) 0 (sV τ j) (sT τ j)) → (FrM (fun k => s + 2 ≤ k ∧ k ≤ s + 7) μ μ1) → V l g RX4 cX4_copyFrom 3 none 1 2 [.ref s, .ref t, .int (nI i)] [] μ1 (fun r μ' => r = none ∧ SeaR μ' s (mkSea (sN τ) (sK τ) (sP τ) (fun _ => 0) (sV τ) (sT τ) (sS τ) (sD τ) (sA τ) (sG τ)) ∧ FrM (seaS s) μ μ') := by
    intro nA
    induction nA with
    | zero => intro i μ1 h1 h2; exact absurd h2 (by omega)
    | succ nA ihA =>
      intro i μ1 hleA hfuA q1 q2
      refine V_iload_n (pc := 2) dX4_copyFrom_2 rfl rfl ?_
      refine V_bipush (pc := 3) (v := 6) dX4_copyFrom_3 (by decide) ?_
      refine V_icmpge (pc := 5) (tgt := 29) dX4_copyFrom_5 (by decide) (fun h5 => ?_) (fun h5 => ?_)
      · have h5 := (nI_leI (a := 6) (b := i) (by decide) (by omega)).mp h5; obtain rfl : i = 6 := by omega
        refine V_aload_n (pc := 29) dX4_copyFrom_29 rfl rfl ?_
        refine V_getR (pc := 30) (ci := 4) (j := 1) (k2 := (t + 8)) dX4_copyFrom_30 fl_X4_17 (fun _ _ _ _ => rfl) (by first | decide | omega) (by first | rfl | assumption | exact (hrow _ (by omega)).2 | exact (htrow _ (by omega)).2 | decide) (rf_4_1 (by first | rfl | assumption | exact (hrow _ (by omega)).2 | exact (htrow _ (by omega)).2 | decide)) ?_
        refine V_iconst (pc := 33) (v := 0) dX4_copyFrom_33 (by decide) ?_
        refine V_aload_n (pc := 34) dX4_copyFrom_34 rfl rfl ?_
        refine V_getR (pc := 35) (ci := 4) (j := 1) (k2 := (s + 8)) dX4_copyFrom_35 fl_X4_17 (fun _ _ _ _ => rfl) (by first | decide | omega) (by first | rfl | assumption | exact (hrow _ (by omega)).2 | exact (htrow _ (by omega)).2 | decide) (rf_4_1 (by first | rfl | assumption | exact (hrow _ (by omega)).2 | exact (htrow _ (by omega)).2 | decide)) ?_
        refine V_iconst (pc := 38) (v := 0) dX4_copyFrom_38 (by decide) ?_
        refine V_bipush (pc := 39) (v := 6) dX4_copyFrom_39 (by decide) ?_
        refine V_acopy (pc := 41) (n := 6) dX4_copyFrom_41 acopyW (by omega) (by omega) ht5 hs5 rfl rfl rfl (by omega) (by omega) (by decide) rfl ?_
        have hF3 : FrM (fun k => s + 2 ≤ k ∧ k ≤ s + 8) μ (cpyI μ1 (s + 8) (t + 8) 6) := ⟨fun k hk => by rw [cpyI_ne (fun q => hk (by omega))]; exact q2.1 k (fun q => hk (by omega)), q2.2⟩
        have hS3 : ∀ j, j < 6 → ShR (cpyI μ1 (s + 8) (t + 8) 6) (s + 1 + 1 + j) (sK τ j) (sP τ j) 0 (sV τ j) (sT τ j) := fun j hj => (q1 j hj).kept (fun q => by rw [cpyI_ne (by omega)])
        have hG3 : ∀ n, n < 6 → (cpyI μ1 (s + 8) (t + 8) 6).1 (s + 8) n = sG τ n := fun n hn => by
          show (if s + 8 = s + 8 ∧ n < 6 then μ1.1 (t + 8) n else _) = _
          rw [if_pos ⟨rfl, hn⟩, q2.1 _ (fun q => by omega)]
          exact t9 n hn
        have hT3 : ∀ j, (cpyI μ1 (s + 8) (t + 8) 6).1 t j = μ.1 t j := fun j => by rw [hF3.1 t (fun q => by omega)]
        generalize cpyI μ1 (s + 8) (t + 8) 6 = μ3 at hF3 hS3 hG3 hT3 ⊢
        refine V_aload_n (pc := 44) dX4_copyFrom_44 rfl rfl ?_
        refine V_aload_n (pc := 45) dX4_copyFrom_45 rfl rfl ?_
        refine V_getI (pc := 46) (ci := 4) (j := 2) dX4_copyFrom_46 fl_X4_31 (fun _ _ _ _ => rfl) (by first | decide | omega) (by first | rfl | assumption | exact (hrow _ (by omega)).2 | exact (htrow _ (by omega)).2 | decide) ?_
        refine V_putI (pc := 49) (ci := 4) (j := 2) dX4_copyFrom_49 fl_X4_31 (fun _ _ _ _ _ => rfl) rfl rfl (by first | decide | omega) (by first | rfl | assumption | exact (hrow _ (by omega)).2 | exact (htrow _ (by omega)).2 | decide) ?_
        refine V_aload_n (pc := 52) dX4_copyFrom_52 rfl rfl ?_
        refine V_aload_n (pc := 53) dX4_copyFrom_53 rfl rfl ?_
        refine V_getI (pc := 54) (ci := 4) (j := 3) dX4_copyFrom_54 fl_X4_35 (fun _ _ _ _ => rfl) (by first | decide | omega) (by first | rfl | assumption | exact (hrow _ (by omega)).2 | exact (htrow _ (by omega)).2 | decide) ?_
        refine V_putI (pc := 57) (ci := 4) (j := 3) dX4_copyFrom_57 fl_X4_35 (fun _ _ _ _ _ => rfl) rfl rfl (by first | decide | omega) (by first | rfl | assumption | exact (hrow _ (by omega)).2 | exact (htrow _ (by omega)).2 | decide) ?_
        refine V_aload_n (pc := 60) dX4_copyFrom_60 rfl rfl ?_
        refine V_aload_n (pc := 61) dX4_copyFrom_61 rfl rfl ?_
        refine V_getI (pc := 62) (ci := 4) (j := 4) dX4_copyFrom_62 fl_X4_38 (fun _ _ _ _ => rfl) (by first | decide | omega) (by first | rfl | assumption | exact (hrow _ (by omega)).2 | exact (htrow _ (by omega)).2 | decide) ?_
        refine V_putI (pc := 65) (ci := 4) (j := 4) dX4_copyFrom_65 fl_X4_38 (fun _ _ _ _ _ => rfl) rfl rfl (by first | decide | omega) (by first | rfl | assumption | exact (hrow _ (by omega)).2 | exact (htrow _ (by omega)).2 | decide) ?_
        refine V_aload_n (pc := 68) dX4_copyFrom_68 rfl rfl ?_
        refine V_aload_n (pc := 69) dX4_copyFrom_69 rfl rfl ?_
        refine V_getI (pc := 70) (ci := 4) (j := 5) dX4_copyFrom_70 fl_X4_41 (fun _ _ _ _ => rfl) (by first | decide | omega) (by first | rfl | assumption | exact (hrow _ (by omega)).2 | exact (htrow _ (by omega)).2 | decide) ?_
        refine V_putI (pc := 73) (ci := 4) (j := 5) dX4_copyFrom_73 fl_X4_41 (fun _ _ _ _ _ => rfl) rfl rfl (by first | decide | omega) (by first | rfl | assumption | exact (hrow _ (by omega)).2 | exact (htrow _ (by omega)).2 | decide) ?_
        refine V_vret (pc := 76) dX4_copyFrom_76 rfl ?_
        have hg : ∀ k j, k ≠ s → (setI (setI (setI (setI μ3 s 2 (μ3.1 t 2)) s 3 ((setI μ3 s 2 (μ3.1 t 2)).1 t 3)) s 4 ((setI (setI μ3 s 2 (μ3.1 t 2)) s 3 ((setI μ3 s 2 (μ3.1 t 2)).1 t 3)).1 t 4)) s 5 ((setI (setI (setI μ3 s 2 (μ3.1 t 2)) s 3 ((setI μ3 s 2 (μ3.1 t 2)).1 t 3)) s 4 ((setI (setI μ3 s 2 (μ3.1 t 2)) s 3 ((setI μ3 s 2 (μ3.1 t 2)).1 t 3)).1 t 4)).1 t 5)).1 k j = μ3.1 k j := fun k j hk => by
          rw [get_ne (fun q => hk q.1), get_ne (fun q => hk q.1), get_ne (fun q => hk q.1), get_ne (fun q => hk q.1)]
        refine ⟨rfl, ⟨?_, t2, ?_, t4, ?_, ?_, t7, fun i hi => (hS3 i hi).kept (fun j => hg _ j (by omega)), fun n hn => by rw [hg _ _ (by omega)]; exact hG3 n hn⟩, ((((hF3.wk (T := seaS s) (fun k hk => Or.inr hk)).set (Or.inl rfl)).set (Or.inl rfl)).set (Or.inl rfl)).set (Or.inl rfl)⟩
        · rw [get_ne (by omega), get_ne (by omega), get_ne (by omega), get_eq, hT3]; exact t1
        · rw [get_ne (by omega), get_ne (by omega), get_eq, get_ne (by omega), hT3]; exact t3
        · rw [get_ne (by omega), get_eq, get_ne (by omega), get_ne (by omega), hT3]; exact t5
        · rw [get_eq, get_ne (by omega), get_ne (by omega), get_ne (by omega), hT3]; exact t6
      have hlt : i < 6 := nI_l3 (a := 6) (by decide) (by omega) h5
      refine V_aload_n (pc := 8) dX4_copyFrom_8 rfl rfl ?_
      refine V_getR (pc := 9) (ci := 4) (j := 0) (k2 := (s + 1)) dX4_copyFrom_9 fl_X4_11 (fun _ _ _ _ => rfl) (by first | decide | omega) (by first | rfl | assumption | exact (hrow _ (by omega)).2 | exact (htrow _ (by omega)).2 | decide) (rf_4_0 (by first | rfl | assumption | exact (hrow _ (by omega)).2 | exact (htrow _ (by omega)).2 | decide)) ?_
      refine V_iload_n (pc := 12) dX4_copyFrom_12 rfl rfl ?_
      refine V_aald14 (pc := 13) (j := i) dX4_copyFrom_13 (by first | decide | omega) (by first | rfl | assumption | exact (hrow _ (by omega)).2 | exact (htrow _ (by omega)).2 | decide) rfl (by omega) ?_
      refine V_aload_n (pc := 14) dX4_copyFrom_14 rfl rfl ?_
      refine V_getR (pc := 15) (ci := 4) (j := 0) (k2 := (t + 1)) dX4_copyFrom_15 fl_X4_11 (fun _ _ _ _ => rfl) (by first | decide | omega) (by first | rfl | assumption | exact (hrow _ (by omega)).2 | exact (htrow _ (by omega)).2 | decide) (rf_4_0 (by first | rfl | assumption | exact (hrow _ (by omega)).2 | exact (htrow _ (by omega)).2 | decide)) ?_
      refine V_iload_n (pc := 18) dX4_copyFrom_18 rfl rfl ?_
      refine V_aald14 (pc := 19) (j := i) dX4_copyFrom_19 (by first | decide | omega) (by first | rfl | assumption | exact (hrow _ (by omega)).2 | exact (htrow _ (by omega)).2 | decide) rfl (by omega) ?_
      refine V_inv1 (pc := 20) (ci := 5) dX4_copyFrom_20 ml_X4_44 (by first | decide | omega) (by first | rfl | assumption | exact (hrow _ (by omega)).2 | exact (htrow _ (by omega)).2 | decide) ⟨by decide, rfl⟩ (by decide) (Nat.le_of_ble_eq_true rfl) (c_X5_copyFrom μ1 (hrow i hlt).1 (hrow i hlt).2 (htrow i hlt).1 (htrow i hlt).2 (by omega) ((t8 i hlt).kept (fun j => by rw [q2.1 _ (fun q => by omega)]))) ?_
      rintro _ μ2 ⟨rfl, k1, k2⟩
      refine V_iinc2 (pc := 23) (v := nI (i + 1)) dX4_copyFrom_23 (nI_1 i) (by decide) rfl ?_
      refine V_goto (pc := 26) (tgt := 2) dX4_copyFrom_26 (by decide) ?_
      refine ihA (i + 1) μ2 (by omega) (by omega) (fun j hj => ?_) (q2.tr k2 (fun k hk => by have : k = s + 1 + 1 + i := hk; omega))
      by_cases e : j = i
      · rw [e]; exact k1
      · exact (q1 j (by omega)).kept (fun q => by rw [k2.1 _ (fun h => e (by have : s + 1 + 1 + j = s + 1 + 1 + i := h; omega))])
  exact loopA (6 + 1) 0 _ (by omega) (by omega) (fun j hj => absurd hj (by omega)) FrM.rf
end
section

/-! ===== the page and its reader ===== -/
def byN (w : Int64) (j : Nat) : Nat := uN w / 2 ^ (8 * j) % 256
theorem low8 (y : Int64) : (y.toInt32 &&& 255) = nI (uN y % 256) := by
  rw [pk_and y.toInt32 8 (by decide)]
  congr 1
  show (y.toInt32.toBitVec.toNat) % 256 = y.toBitVec.toNat % 256
  have : y.toInt32.toBitVec.toNat = y.toBitVec.toNat % 2 ^ 32 := by
    show (y.toBitVec.signExtend 32).toNat = _
    rw [BitVec.signExtend_eq_setWidth_of_le _ (by decide), BitVec.toNat_setWidth]
  rw [this]
  omega
theorem byN_eq (w : Int64) {j : Nat} (hj : j < 8) : (((w.toUInt64 >>> (((8 : Int32) * nI j).toInt64.toUInt64 &&& Int64.toUInt64 63)).toInt64).toInt32 &&& 255) = nI (byN w j) := by
  rw [low8, show (8 : Int32) * nI j = nI (8 * j) from pk_mul 8 j, uN_sk w (by omega)]
  rfl
theorem byN_lt (w : Int64) (j : Nat) : byN w j < 256 := Nat.mod_lt _ (by decide)
def leT (w : Int64) : Nat → Option Nat
  | 0 => some 0
  | k + 1 => match leT w k with
    | none => none
    | some f => if 126 < byN w k ∨ (byN w k ≠ 0 ∧ f < k) then none else some (if byN w k ≠ 0 then f + 1 else f)
def leK (w : Int64) : Nat := match leT w 8 with
  | none => 0
  | some f => f + 1
theorem leT_some {w : Int64} : ∀ {k f : Nat}, leT w k = some f → f ≤ k ∧ ∀ i, i < k → byN w i ≤ 126
  | 0, f, h => by
    cases h
    exact ⟨Nat.le_refl _, fun i hi => absurd hi (by omega)⟩
  | k + 1, f, h => by
    simp only [leT] at h
    cases hq : leT w k with
    | none => rw [hq] at h; cases h
    | some f0 =>
      rw [hq] at h
      simp only at h
      obtain ⟨h1, h2⟩ := leT_some hq
      by_cases c : 126 < byN w k ∨ (byN w k ≠ 0 ∧ f0 < k)
      · rw [if_pos c] at h; cases h
      · rw [if_neg c] at h
        injection h with h
        refine ⟨by rw [← h]; split <;> omega, fun i hi => ?_⟩
        by_cases e : i = k
        · rw [e]; omega
        · exact h2 i (by omega)
theorem leT_none {w : Int64} : ∀ (k m : Nat), leT w k = none → k ≤ m → leT w m = none
  | k, 0, h, hm => by have : k = 0 := by omega
                      subst this; exact h
  | k, m + 1, h, hm => by
    by_cases e : k = m + 1
    · rw [← e]; exact h
    · simp only [leT]
      rw [leT_none k m h (by omega)]
theorem leK_some {w : Int64} {f : Nat} (h : leT w 8 = some f) : leK w = f + 1 := by unfold leK; rw [h]
theorem leK_none {w : Int64} (h : leT w 8 = none) : leK w = 0 := by unfold leK; rw [h]
theorem leK_le {w : Int64} : leK w ≤ 9 := by
  cases h : leT w 8 with
  | none => rw [leK_none h]; omega
  | some f => rw [leK_some h]; have := (leT_some h).1; omega
theorem leK_by {w : Int64} (h : leK w ≠ 0) {i : Nat} (hi : i < 8) : byN w i ≤ 126 := by
  cases hq : leT w 8 with
  | none => exact absurd (leK_none hq) h
  | some f => exact (leT_some hq).2 i hi
def PgR (μ : Mm) (n : Nat) (cd : Nat → Nat) : Prop := μ.1 1 1 = nI n ∧ n ≤ 30 ∧ ∀ j, j < 30 → μ.1 2 j = nI (cd j) ∧ cd j ≤ 126
theorem PgR.kept {S : Nat → Prop} {μ μ' : Mm} {n : Nat} {cd : Nat → Nat} (h : PgR μ n cd) (hf : FrM S μ μ') (h1 : ¬ S 1) (h2 : ¬ S 2) : PgR μ' n cd := by
  unfold PgR
  rw [hf.1 1 h1, hf.1 2 h2]
  exact h
def pgW (n m : Nat) (w : Int64) (cd : Nat → Nat) : Nat → Nat := fun j => if n ≤ j ∧ j < n + m then byN w (j - n) else cd j
/-- the reader: what may come next, the wind, tenths, winds of names -/
abbrev PsT : Type := Nat × Nat × (Nat → Nat → Nat) × (Nat → Nat)
def up2N (f : Nat → Nat → Nat) (a b v : Nat) : Nat → Nat → Nat := fun x y => if x = a ∧ y = b then v else f x y
def nmP (c x : Nat) (q : PsT) : Option PsT := if 48 ≤ c ∧ c < 54 ∧ q.2.2.2 (c - 48) = 0 then some (x, q.2.1, q.2.2.1, up1 q.2.2.2 (c - 48) (q.2.1 + 1)) else none
def pst (c : Nat) (q : PsT) : Option PsT :=
  if q.1 = 0 then (if c = 45 then some (2, q.2) else nmP c 1 q)
  else if q.1 = 1 then (if c = 58 then some (3, q.2) else nmP c 2 q)
  else if q.1 = 2 then (if c = 58 then some (3, q.2) else none)
  else if q.1 = 6 then (if q.2.1 < 3 ∧ c = 47 then some (0, q.2.1 + 1, q.2.2) else none)
  else if 48 ≤ c ∧ c ≤ 57 ∧ c - 48 ≤ q.2.2.1 4 (q.1 - 3) then some (q.1 + 1, q.2.1, up2N (up2N q.2.2.1 q.2.1 (q.1 - 3) (c - 48)) 4 (q.1 - 3) (q.2.2.1 4 (q.1 - 3) - (c - 48)), q.2.2.2) else none
def ps0 : PsT := (0, 0, (fun w _ => if w = 4 then 10 else 0), (fun _ => 0))
def prT (cd : Nat → Nat) : Nat → Option PsT
  | 0 => some ps0
  | i + 1 => (prT cd i).bind (pst (cd i))
def faT (cd : Nat → Nat) : Nat → Nat
  | 0 => 0
  | n + 1 => if (prT cd (n + 1)).isSome then n + 1 else faT cd n
theorem prT_none {cd : Nat → Nat} : ∀ (k m : Nat), prT cd k = none → k ≤ m → prT cd m = none
  | k, 0, h, hm => by have : k = 0 := by omega
                      subst this; exact h
  | k, m + 1, h, hm => by
    by_cases e : k = m + 1
    · rw [← e]; exact h
    · simp only [prT]
      rw [prT_none k m h (by omega)]
      rfl
theorem faT_at {cd : Nat → Nat} {i : Nat} {q : PsT} (h : prT cd i = some q) (h2 : prT cd (i + 1) = none) : ∀ n, i ≤ n → faT cd n = i
  | 0, hn => by have : i = 0 := by omega
                subst this; rfl
  | n + 1, hn => by
    by_cases e : i = n + 1
    · subst e
      show (if (prT cd (n + 1)).isSome then n + 1 else faT cd n) = n + 1
      rw [h]; rfl
    · show (if (prT cd (n + 1)).isSome then n + 1 else faT cd n) = i
      rw [prT_none (i + 1) (n + 1) h2 (by omega)]
      exact faT_at h h2 n (by omega)
theorem faT_all {cd : Nat → Nat} {n : Nat} {q : PsT} (h : prT cd n = some q) : faT cd n = n := by
  cases n with
  | zero => rfl
  | succ n =>
    show (if (prT cd (n + 1)).isSome then n + 1 else faT cd n) = n + 1
    rw [h]; rfl
def RdR (μ : Mm) (x w : Nat) : Prop := μ.1 3 0 = nI x ∧ x ≤ 6 ∧ μ.1 3 1 = nI w ∧ w ≤ 3
def rdS (b : Nat) : Nat → Prop := fun k => k = 3 ∨ (b + 2 ≤ k ∧ k ≤ b + 7)
end
section
theorem dX2_byteAt_0 : decode cX2_byteAt 0 = .ok (.lload_n 0, 1) := by decide +kernel
theorem dX2_byteAt_1 : decode cX2_byteAt 1 = .ok (.bipush 8, 2) := by decide +kernel
theorem dX2_byteAt_3 : decode cX2_byteAt 3 = .ok (.iload_n 2, 1) := by decide +kernel
theorem dX2_byteAt_4 : decode cX2_byteAt 4 = .ok (.imul, 1) := by decide +kernel
theorem dX2_byteAt_5 : decode cX2_byteAt 5 = .ok (.lushr, 1) := by decide +kernel
theorem dX2_byteAt_6 : decode cX2_byteAt 6 = .ok (.l2i, 1) := by decide +kernel
theorem dX2_byteAt_7 : decode cX2_byteAt 7 = .ok (.sipush 255, 3) := by decide +kernel
theorem dX2_byteAt_10 : decode cX2_byteAt 10 = .ok (.iand, 1) := by decide +kernel
theorem dX2_byteAt_11 : decode cX2_byteAt 11 = .ok (.ireturn, 1) := by decide +kernel
set_option maxHeartbeats 4000000 in
set_option maxRecDepth 100000 in
theorem c_X2_byteAt {l : Launch} {g : GW} {w : Int64} {j : Nat} (μ : Mm) (hj : j < 8) : Con l g yX2_byteAt cX2_byteAt 3 (some .int) 0 [.long w, .int (nI j)] μ (fun r μ' => r = some (.int (nI (byN w j))) ∧ μ' = μ) := by
  refine Con.of [.long w, .null, .int (nI j)] 0 (by decide +kernel) (Nat.le_of_ble_eq_true rfl) rfl ?_
  refine V_lload_n (pc := 0) dX2_byteAt_0 rfl rfl ?_
  refine V_bipush (pc := 1) (v := 8) dX2_byteAt_1 (by decide) ?_
  refine V_iload_n (pc := 3) dX2_byteAt_3 rfl rfl ?_
  refine V_imul (pc := 4) dX2_byteAt_4 ?_
  refine V_lushr (pc := 5) dX2_byteAt_5 ?_
  refine V_l2i (pc := 6) dX2_byteAt_6 ?_
  refine V_sipush (pc := 7) (v := 255) dX2_byteAt_7 (by decide) ?_
  refine V_iand (pc := 10) dX2_byteAt_10 ?_
  refine V_iret (pc := 11) dX2_byteAt_11 rfl ?_
  exact ⟨congrArg (fun z => some (Value.int z)) (byN_eq w hj), rfl⟩
theorem dX2_empty_0 : decode cX2_empty 0 = .ok (.aload_n 0, 1) := by decide +kernel
theorem dX2_empty_1 : decode cX2_empty 1 = .ok (.getfield 19, 3) := by decide +kernel
theorem dX2_empty_4 : decode cX2_empty 4 = .ok (.istore_n 1, 1) := by decide +kernel
theorem dX2_empty_5 : decode cX2_empty 5 = .ok (.aload_n 0, 1) := by decide +kernel
theorem dX2_empty_6 : decode cX2_empty 6 = .ok (.iconst 0, 1) := by decide +kernel
theorem dX2_empty_7 : decode cX2_empty 7 = .ok (.putfield 19, 3) := by decide +kernel
theorem dX2_empty_10 : decode cX2_empty 10 = .ok (.iload_n 1, 1) := by decide +kernel
theorem dX2_empty_11 : decode cX2_empty 11 = .ok (.ireturn, 1) := by decide +kernel
set_option maxHeartbeats 4000000 in
set_option maxRecDepth 100000 in
theorem c_X2_empty {l : Launch} {g : GW} {n : Nat} {cd : Nat → Nat} (μ : Mm) (hP : PgR μ n cd) : Con l g yX2_empty cX2_empty 2 (some .int) 0 [.ref 1] μ (fun r μ' => r = some (.int (nI n)) ∧ PgR μ' 0 cd ∧ FrM (fun k => k = 1) μ μ') := by
  obtain ⟨p1, p2, p3⟩ := id hP
  refine Con.of [.ref 1, .null] 1 (by decide +kernel) (Nat.le_of_ble_eq_true rfl) rfl ?_
  refine V_aload_n (pc := 0) dX2_empty_0 rfl rfl ?_
  refine V_getI (pc := 1) (ci := 2) (j := 1) dX2_empty_1 fl_X2_19 (fun _ _ _ _ => rfl) (by decide) rfl ?_
  refine V_istore1 (pc := 4) dX2_empty_4 (by decide) rfl ?_
  refine V_aload_n (pc := 5) dX2_empty_5 rfl rfl ?_
  refine V_iconst (pc := 6) (v := 0) dX2_empty_6 (by decide) ?_
  refine V_putI (pc := 7) (ci := 2) (j := 1) dX2_empty_7 fl_X2_19 (fun _ _ _ _ _ => rfl) rfl rfl (by decide) rfl ?_
  refine V_iload_n (pc := 10) dX2_empty_10 rfl rfl ?_
  refine V_iret (pc := 11) dX2_empty_11 rfl ?_
  exact ⟨by rw [p1], ⟨get_eq, by omega, fun j hj => by rw [get_ne (by omega)]; exact p3 j hj⟩, FrM.rf.set rfl⟩
theorem dX2_lettersIn_0 : decode cX2_lettersIn 0 = .ok (.iconst 0, 1) := by decide +kernel
theorem dX2_lettersIn_1 : decode cX2_lettersIn 1 = .ok (.istore_n 2, 1) := by decide +kernel
theorem dX2_lettersIn_2 : decode cX2_lettersIn 2 = .ok (.iconst 0, 1) := by decide +kernel
theorem dX2_lettersIn_3 : decode cX2_lettersIn 3 = .ok (.istore_n 3, 1) := by decide +kernel
theorem dX2_lettersIn_4 : decode cX2_lettersIn 4 = .ok (.iload_n 3, 1) := by decide +kernel
theorem dX2_lettersIn_5 : decode cX2_lettersIn 5 = .ok (.bipush 8, 2) := by decide +kernel
theorem dX2_lettersIn_7 : decode cX2_lettersIn 7 = .ok (.if_icmp .ge 43, 3) := by decide +kernel
theorem dX2_lettersIn_10 : decode cX2_lettersIn 10 = .ok (.lload_n 0, 1) := by decide +kernel
theorem dX2_lettersIn_11 : decode cX2_lettersIn 11 = .ok (.iload_n 3, 1) := by decide +kernel
theorem dX2_lettersIn_12 : decode cX2_lettersIn 12 = .ok (.invokestatic 23, 3) := by decide +kernel
theorem dX2_lettersIn_15 : decode cX2_lettersIn 15 = .ok (.istore 4, 2) := by decide +kernel
theorem dX2_lettersIn_17 : decode cX2_lettersIn 17 = .ok (.iload 4, 2) := by decide +kernel
theorem dX2_lettersIn_19 : decode cX2_lettersIn 19 = .ok (.bipush 126, 2) := by decide +kernel
theorem dX2_lettersIn_21 : decode cX2_lettersIn 21 = .ok (.if_icmp .gt 13, 3) := by decide +kernel
theorem dX2_lettersIn_24 : decode cX2_lettersIn 24 = .ok (.iload 4, 2) := by decide +kernel
theorem dX2_lettersIn_26 : decode cX2_lettersIn 26 = .ok (.ifCond .eq 10, 3) := by decide +kernel
theorem dX2_lettersIn_29 : decode cX2_lettersIn 29 = .ok (.iload_n 2, 1) := by decide +kernel
theorem dX2_lettersIn_30 : decode cX2_lettersIn 30 = .ok (.iload_n 3, 1) := by decide +kernel
theorem dX2_lettersIn_31 : decode cX2_lettersIn 31 = .ok (.if_icmp .ge 5, 3) := by decide +kernel
theorem dX2_lettersIn_34 : decode cX2_lettersIn 34 = .ok (.iconst (-1), 1) := by decide +kernel
theorem dX2_lettersIn_35 : decode cX2_lettersIn 35 = .ok (.ireturn, 1) := by decide +kernel
theorem dX2_lettersIn_36 : decode cX2_lettersIn 36 = .ok (.iload 4, 2) := by decide +kernel
theorem dX2_lettersIn_38 : decode cX2_lettersIn 38 = .ok (.ifCond .eq 6, 3) := by decide +kernel
theorem dX2_lettersIn_41 : decode cX2_lettersIn 41 = .ok (.iinc 2 1, 3) := by decide +kernel
theorem dX2_lettersIn_44 : decode cX2_lettersIn 44 = .ok (.iinc 3 1, 3) := by decide +kernel
theorem dX2_lettersIn_47 : decode cX2_lettersIn 47 = .ok (.goto (-43), 3) := by decide +kernel
theorem dX2_lettersIn_50 : decode cX2_lettersIn 50 = .ok (.iload_n 2, 1) := by decide +kernel
theorem dX2_lettersIn_51 : decode cX2_lettersIn 51 = .ok (.ireturn, 1) := by decide +kernel
set_option maxHeartbeats 4000000 in
set_option maxRecDepth 100000 in
theorem c_X2_lettersIn {l : Launch} {g : GW} {w : Int64} (μ : Mm)  : Con l g yX2_lettersIn cX2_lettersIn 5 (some .int) 1 [.long w] μ (fun r μ' => r = some (.int (cI (leK w))) ∧ μ' = μ) := by
  refine Con.of [.long w, .null, .null, .null, .null] 3 (by decide +kernel) (Nat.le_of_ble_eq_true rfl) rfl ?_
  refine V_iconst (pc := 0) (v := 0) dX2_lettersIn_0 (by decide) ?_
  refine V_istore2 (pc := 1) dX2_lettersIn_1 (by decide) rfl ?_
  refine V_iconst (pc := 2) (v := 0) dX2_lettersIn_2 (by decide) ?_
  refine V_istore3 (pc := 3) dX2_lettersIn_3 (by decide) rfl ?_
  have loopA : ∀ (nA k : Nat) (f : Nat) (y4 : Value), k ≤ 8 → 8 < k + nA → (leT w k = some f) → V l g RX2 cX2_lettersIn 5 (some .int) 1 4 [.long w, .null, .int (nI f), .int (nI k), y4] [] μ (fun r μ' => r = some (.int (cI (leK w))) ∧ μ' = μ) := by
    intro nA
    induction nA with
    | zero => intro k f y4 h1 h2; exact absurd h2 (by omega)
    | succ nA ihA =>
      intro k f y4 hleA hfuA hf
      refine V_iload_n (pc := 4) dX2_lettersIn_4 rfl rfl ?_
      refine V_bipush (pc := 5) (v := 8) dX2_lettersIn_5 (by decide) ?_
      refine V_icmpge (pc := 7) (tgt := 50) dX2_lettersIn_7 (by decide) (fun h7 => ?_) (fun h7 => ?_)
      · have h7 := (nI_leI (a := 8) (b := k) (by decide) (by omega)).mp h7; obtain rfl : k = 8 := by omega
        refine V_iload_n (pc := 50) dX2_lettersIn_50 rfl rfl ?_
        refine V_iret (pc := 51) dX2_lettersIn_51 rfl ?_
        exact ⟨by rw [leK_some hf, cI_s], rfl⟩
      have hlt : k < 8 := nI_l3 (a := 8) (by decide) (by omega) h7
      have hfk := (leT_some hf).1
      have hlt8 := byN_lt w k
      refine V_lload_n (pc := 10) dX2_lettersIn_10 rfl rfl ?_
      refine V_iload_n (pc := 11) dX2_lettersIn_11 rfl rfl ?_
      refine V_ins2 (pc := 12) dX2_lettersIn_12 ml_X2_23 (by first | decide | omega) (Nat.le_of_ble_eq_true rfl) (c_X2_byteAt μ hlt) ?_
      rintro _ μ2 ⟨rfl, hμ⟩
      obtain rfl := hμ.symm
      refine V_istore4 (pc := 15) dX2_lettersIn_15 (by decide) rfl ?_
      refine V_iload (pc := 17) dX2_lettersIn_17 rfl ?_
      refine V_bipush (pc := 19) (v := 126) dX2_lettersIn_19 (by decide) ?_
      refine V_icmpgt (pc := 21) (tgt := 34) dX2_lettersIn_21 (by decide) (fun h21 => ?_) (fun h21 => ?_)
      · have h21 := (nI_ltI (a := 126) (b := byN w k) (by decide) (by omega)).mp h21; have hno : leT w (k + 1) = none := by simp only [leT]; rw [hf]; exact if_pos (Or.inl h21)
        refine V_iconst (pc := 34) (v := (-1)) dX2_lettersIn_34 (by decide) ?_
        refine V_iret (pc := 35) dX2_lettersIn_35 rfl ?_
        exact ⟨by rw [leK_none (leT_none (k + 1) 8 hno (by omega))]; rfl, rfl⟩
      have h21 := mt (nI_ltI (a := 126) (b := byN w k) (by decide) (by omega)).mpr h21
      refine V_iload (pc := 24) dX2_lettersIn_24 rfl ?_
      refine V_ifeq (pc := 26) (tgt := 36) dX2_lettersIn_26 (by decide) (fun h26 => ?_) (fun h26 => ?_)
      · have h26 := (nI_eq (a := byN w k) (b := 0) (by omega) (by omega)).mp h26
        refine V_iload (pc := 36) dX2_lettersIn_36 rfl ?_
        refine V_ifeq (pc := 38) (tgt := 44) dX2_lettersIn_38 (by decide) (fun h38 => ?_) (fun h38 => ?_)
        · have h38 := (nI_eq (a := byN w k) (b := 0) (by omega) (by omega)).mp h38
          refine V_iinc3 (pc := 44) (v := nI (k + 1)) dX2_lettersIn_44 (nI_1 k) (by decide) rfl ?_
          refine V_goto (pc := 47) (tgt := 4) dX2_lettersIn_47 (by decide) ?_
          first | exact ihA (k + 1) f _ (by omega) (by omega) (by simp only [leT]; rw [hf]; simp only; rw [if_neg (by omega), if_neg (by omega)]) | exact ihA (k + 1) (f + 1) _ (by omega) (by omega) (by simp only [leT]; rw [hf]; simp only; rw [if_neg (by omega), if_pos (by omega)])
        have h38 := mt (nI_eq (a := byN w k) (b := 0) (by omega) (by omega)).mpr h38
        refine V_iinc2 (pc := 41) (v := nI (f + 1)) dX2_lettersIn_41 (nI_1 f) (by decide) rfl ?_
        refine V_iinc3 (pc := 44) (v := nI (k + 1)) dX2_lettersIn_44 (nI_1 k) (by decide) rfl ?_
        refine V_goto (pc := 47) (tgt := 4) dX2_lettersIn_47 (by decide) ?_
        first | exact ihA (k + 1) f _ (by omega) (by omega) (by simp only [leT]; rw [hf]; simp only; rw [if_neg (by omega), if_neg (by omega)]) | exact ihA (k + 1) (f + 1) _ (by omega) (by omega) (by simp only [leT]; rw [hf]; simp only; rw [if_neg (by omega), if_pos (by omega)])
      have h26 := mt (nI_eq (a := byN w k) (b := 0) (by omega) (by omega)).mpr h26
      refine V_iload_n (pc := 29) dX2_lettersIn_29 rfl rfl ?_
      refine V_iload_n (pc := 30) dX2_lettersIn_30 rfl rfl ?_
      refine V_icmpge (pc := 31) (tgt := 36) dX2_lettersIn_31 (by decide) (fun h31 => ?_) (fun h31 => ?_)
      · have h31 := (nI_leI (a := k) (b := f) (by omega) (by omega)).mp h31
        refine V_iload (pc := 36) dX2_lettersIn_36 rfl ?_
        refine V_ifeq (pc := 38) (tgt := 44) dX2_lettersIn_38 (by decide) (fun h38 => ?_) (fun h38 => ?_)
        · have h38 := (nI_eq (a := byN w k) (b := 0) (by omega) (by omega)).mp h38
          refine V_iinc3 (pc := 44) (v := nI (k + 1)) dX2_lettersIn_44 (nI_1 k) (by decide) rfl ?_
          refine V_goto (pc := 47) (tgt := 4) dX2_lettersIn_47 (by decide) ?_
          first | exact ihA (k + 1) f _ (by omega) (by omega) (by simp only [leT]; rw [hf]; simp only; rw [if_neg (by omega), if_neg (by omega)]) | exact ihA (k + 1) (f + 1) _ (by omega) (by omega) (by simp only [leT]; rw [hf]; simp only; rw [if_neg (by omega), if_pos (by omega)])
        have h38 := mt (nI_eq (a := byN w k) (b := 0) (by omega) (by omega)).mpr h38
        refine V_iinc2 (pc := 41) (v := nI (f + 1)) dX2_lettersIn_41 (nI_1 f) (by decide) rfl ?_
        refine V_iinc3 (pc := 44) (v := nI (k + 1)) dX2_lettersIn_44 (nI_1 k) (by decide) rfl ?_
        refine V_goto (pc := 47) (tgt := 4) dX2_lettersIn_47 (by decide) ?_
        first | exact ihA (k + 1) f _ (by omega) (by omega) (by simp only [leT]; rw [hf]; simp only; rw [if_neg (by omega), if_neg (by omega)]) | exact ihA (k + 1) (f + 1) _ (by omega) (by omega) (by simp only [leT]; rw [hf]; simp only; rw [if_neg (by omega), if_pos (by omega)])
      have h31 := mt (nI_leI (a := k) (b := f) (by omega) (by omega)).mpr h31; have hno : leT w (k + 1) = none := by simp only [leT]; rw [hf]; exact if_pos (Or.inr ⟨h26, by omega⟩)
      refine V_iconst (pc := 34) (v := (-1)) dX2_lettersIn_34 (by decide) ?_
      refine V_iret (pc := 35) dX2_lettersIn_35 rfl ?_
      exact ⟨by rw [leK_none (leT_none (k + 1) 8 hno (by omega))]; rfl, rfl⟩
  exact loopA (8 + 1) 0 _ _ (by omega) (by omega) rfl
theorem dX2_add_0 : decode cX2_add 0 = .ok (.lload_n 1, 1) := by decide +kernel
theorem dX2_add_1 : decode cX2_add 1 = .ok (.invokestatic 15, 3) := by decide +kernel
theorem dX2_add_4 : decode cX2_add 4 = .ok (.istore_n 3, 1) := by decide +kernel
theorem dX2_add_5 : decode cX2_add 5 = .ok (.iload_n 3, 1) := by decide +kernel
theorem dX2_add_6 : decode cX2_add 6 = .ok (.ifCond .ge 6, 3) := by decide +kernel
theorem dX2_add_9 : decode cX2_add 9 = .ok (.bipush (-102), 2) := by decide +kernel
theorem dX2_add_11 : decode cX2_add 11 = .ok (.ireturn, 1) := by decide +kernel
theorem dX2_add_12 : decode cX2_add 12 = .ok (.aload_n 0, 1) := by decide +kernel
theorem dX2_add_13 : decode cX2_add 13 = .ok (.getfield 19, 3) := by decide +kernel
theorem dX2_add_16 : decode cX2_add 16 = .ok (.iload_n 3, 1) := by decide +kernel
theorem dX2_add_17 : decode cX2_add 17 = .ok (.iadd, 1) := by decide +kernel
theorem dX2_add_18 : decode cX2_add 18 = .ok (.bipush 30, 2) := by decide +kernel
theorem dX2_add_20 : decode cX2_add 20 = .ok (.if_icmp .le 6, 3) := by decide +kernel
theorem dX2_add_23 : decode cX2_add 23 = .ok (.bipush (-104), 2) := by decide +kernel
theorem dX2_add_25 : decode cX2_add 25 = .ok (.ireturn, 1) := by decide +kernel
theorem dX2_add_26 : decode cX2_add 26 = .ok (.iconst 0, 1) := by decide +kernel
theorem dX2_add_27 : decode cX2_add 27 = .ok (.istore 4, 2) := by decide +kernel
theorem dX2_add_29 : decode cX2_add 29 = .ok (.iload 4, 2) := by decide +kernel
theorem dX2_add_31 : decode cX2_add 31 = .ok (.iload_n 3, 1) := by decide +kernel
theorem dX2_add_32 : decode cX2_add 32 = .ok (.if_icmp .ge 27, 3) := by decide +kernel
theorem dX2_add_35 : decode cX2_add 35 = .ok (.aload_n 0, 1) := by decide +kernel
theorem dX2_add_36 : decode cX2_add 36 = .ok (.getfield 9, 3) := by decide +kernel
theorem dX2_add_39 : decode cX2_add 39 = .ok (.aload_n 0, 1) := by decide +kernel
theorem dX2_add_40 : decode cX2_add 40 = .ok (.getfield 19, 3) := by decide +kernel
theorem dX2_add_43 : decode cX2_add 43 = .ok (.iload 4, 2) := by decide +kernel
theorem dX2_add_45 : decode cX2_add 45 = .ok (.iadd, 1) := by decide +kernel
theorem dX2_add_46 : decode cX2_add 46 = .ok (.lload_n 1, 1) := by decide +kernel
theorem dX2_add_47 : decode cX2_add 47 = .ok (.iload 4, 2) := by decide +kernel
theorem dX2_add_49 : decode cX2_add 49 = .ok (.invokestatic 23, 3) := by decide +kernel
theorem dX2_add_52 : decode cX2_add 52 = .ok (.iastore, 1) := by decide +kernel
theorem dX2_add_53 : decode cX2_add 53 = .ok (.iinc 4 1, 3) := by decide +kernel
theorem dX2_add_56 : decode cX2_add 56 = .ok (.goto (-27), 3) := by decide +kernel
theorem dX2_add_59 : decode cX2_add 59 = .ok (.aload_n 0, 1) := by decide +kernel
theorem dX2_add_60 : decode cX2_add 60 = .ok (.dup, 1) := by decide +kernel
theorem dX2_add_61 : decode cX2_add 61 = .ok (.getfield 19, 3) := by decide +kernel
theorem dX2_add_64 : decode cX2_add 64 = .ok (.iload_n 3, 1) := by decide +kernel
theorem dX2_add_65 : decode cX2_add 65 = .ok (.iadd, 1) := by decide +kernel
theorem dX2_add_66 : decode cX2_add 66 = .ok (.putfield 19, 3) := by decide +kernel
theorem dX2_add_69 : decode cX2_add 69 = .ok (.aload_n 0, 1) := by decide +kernel
theorem dX2_add_70 : decode cX2_add 70 = .ok (.getfield 19, 3) := by decide +kernel
theorem dX2_add_73 : decode cX2_add 73 = .ok (.ireturn, 1) := by decide +kernel
set_option maxHeartbeats 4000000 in
set_option maxRecDepth 100000 in
theorem c_X2_add {l : Launch} {g : GW} {w : Int64} {n : Nat} {cd : Nat → Nat} (μ : Mm) (hP : PgR μ n cd) : Con l g yX2_add cX2_add 5 (some .int) 2 [.ref 1, .long w] μ (fun r μ' => if leK w = 0 then r = some (.int (-102)) ∧ μ' = μ else if 30 < n + (leK w - 1) then r = some (.int (-104)) ∧ μ' = μ else r = some (.int (nI (n + (leK w - 1)))) ∧ PgR μ' (n + (leK w - 1)) (pgW n (leK w - 1) w cd) ∧ FrM (fun k => k = 1 ∨ k = 2) μ μ') := by
  obtain ⟨p1, p2, p3⟩ := id hP
  have hk9 := leK_le (w := w)
  refine Con.of [.ref 1, .long w, .null, .null, .null] 2 (by decide +kernel) (Nat.le_of_ble_eq_true rfl) rfl ?_
  refine V_lload_n (pc := 0) dX2_add_0 rfl rfl ?_
  refine V_ins1 (pc := 1) dX2_add_1 ml_X2_15 (by first | decide | omega) (Nat.le_of_ble_eq_true rfl) (c_X2_lettersIn μ) ?_
  rintro _ μ2 ⟨rfl, hμ⟩
  obtain rfl := hμ.symm
  refine V_istore3 (pc := 4) dX2_add_4 (by decide) rfl ?_
  refine V_iload_n (pc := 5) dX2_add_5 rfl rfl ?_
  refine V_ifge (pc := 6) (tgt := 12) dX2_add_6 (by decide) (fun h6 => ?_) (fun h6 => ?_)
  · have h6z : leK w ≠ 0 := fun q => by rw [q] at h6; exact absurd h6 (by decide)
    obtain ⟨m, hm⟩ : ∃ m, leK w = m + 1 := ⟨leK w - 1, by omega⟩
    rw [hm, cI_s]
    rw [show m + 1 - 1 = m from rfl]
    refine V_aload_n (pc := 12) dX2_add_12 rfl rfl ?_
    refine V_getI (pc := 13) (ci := 2) (j := 1) dX2_add_13 fl_X2_19 (fun _ _ _ _ => rfl) (by decide) rfl ?_
    rw [p1]
    refine V_iload_n (pc := 16) dX2_add_16 rfl rfl ?_
    refine V_iadd (pc := 17) dX2_add_17 ?_
    rw [nI_add]
    refine V_bipush (pc := 18) (v := 30) dX2_add_18 (by decide) ?_
    refine V_icmple (pc := 20) (tgt := 26) dX2_add_20 (by decide) (fun h20 => ?_) (fun h20 => ?_)
    · have h20 := (nI_leI (a := n + m) (b := 30) (by omega) (by decide)).mp h20
      refine V_iconst (pc := 26) (v := 0) dX2_add_26 (by decide) ?_
      refine V_istore4 (pc := 27) dX2_add_27 (by decide) rfl ?_
      have loopA : ∀ (nA i : Nat) (μ1 : Mm), i ≤ m → m < i + nA → (∀ j, j < 30 → μ1.1 2 j = nI (pgW n i w cd j)) → (FrM (fun k => k = 2) μ μ1) → V l g RX2 cX2_add 5 (some .int) 2 29 [.ref 1, .long w, .null, .int (nI m), .int (nI i)] [] μ1 (fun r μ' => if m + 1 = 0 then r = some (.int (-102)) ∧ μ' = μ else if 30 < n + m then r = some (.int (-104)) ∧ μ' = μ else r = some (.int (nI (n + m))) ∧ PgR μ' (n + m) (pgW n m w cd) ∧ FrM (fun k => k = 1 ∨ k = 2) μ μ') := by
        intro nA
        induction nA with
        | zero => intro i μ1 h1 h2; exact absurd h2 (by omega)
        | succ nA ihA =>
          intro i μ1 hleA hfuA q1 q2
          refine V_iload (pc := 29) dX2_add_29 rfl ?_
          refine V_iload_n (pc := 31) dX2_add_31 rfl rfl ?_
          refine V_icmpge (pc := 32) (tgt := 59) dX2_add_32 (by decide) (fun h32 => ?_) (fun h32 => ?_)
          · have h32 := (nI_leI (a := m) (b := i) (by omega) (by omega)).mp h32; obtain rfl : m = i := by omega
            refine V_aload_n (pc := 59) dX2_add_59 rfl rfl ?_
            refine V_dup (pc := 60) dX2_add_60 rfl ?_
            refine V_getI (pc := 61) (ci := 2) (j := 1) dX2_add_61 fl_X2_19 (fun _ _ _ _ => rfl) (by decide) rfl ?_
            refine V_iload_n (pc := 64) dX2_add_64 rfl rfl ?_
            refine V_iadd (pc := 65) dX2_add_65 ?_
            refine V_putI (pc := 66) (ci := 2) (j := 1) dX2_add_66 fl_X2_19 (fun _ _ _ _ _ => rfl) rfl rfl (by decide) rfl ?_
            refine V_aload_n (pc := 69) dX2_add_69 rfl rfl ?_
            refine V_getI (pc := 70) (ci := 2) (j := 1) dX2_add_70 fl_X2_19 (fun _ _ _ _ => rfl) (by decide) rfl ?_
            refine V_iret (pc := 73) dX2_add_73 rfl ?_
            have e1 : μ1.1 1 1 + nI m = nI (n + m) := by rw [q2.1 1 (fun q => absurd q (by decide)), p1, nI_add]
            rw [if_neg (by omega), if_neg (by omega)]
            refine ⟨by rw [get_eq, e1], ⟨by rw [get_eq, e1], by omega, fun j hj => ?_⟩, (q2.wk (fun k hk => Or.inr hk)).set (Or.inl rfl)⟩
            rw [get_ne (by omega), q1 j hj]
            refine ⟨rfl, ?_⟩
            unfold pgW
            split
            · exact leK_by (by omega) (by omega)
            · exact (p3 j hj).2
          have hlt : i < m := nI_l3 (by omega) (by omega) h32
          refine V_aload_n (pc := 35) dX2_add_35 rfl rfl ?_
          refine V_getR (pc := 36) (ci := 2) (j := 0) (k2 := 2) dX2_add_36 fl_X2_9 (fun _ _ _ _ => rfl) (by decide) rfl (rf_2_0 rfl) ?_
          refine V_aload_n (pc := 39) dX2_add_39 rfl rfl ?_
          refine V_getI (pc := 40) (ci := 2) (j := 1) dX2_add_40 fl_X2_19 (fun _ _ _ _ => rfl) (by decide) rfl ?_
          refine V_iload (pc := 43) dX2_add_43 rfl ?_
          refine V_iadd (pc := 45) dX2_add_45 ?_
          refine V_lload_n (pc := 46) dX2_add_46 rfl rfl ?_
          refine V_iload (pc := 47) dX2_add_47 rfl ?_
          refine V_ins2 (pc := 49) dX2_add_49 ml_X2_23 (by first | decide | omega) (Nat.le_of_ble_eq_true rfl) (c_X2_byteAt μ1 (show i < 8 by omega)) ?_
          rintro _ μ2 ⟨rfl, hμ⟩
          obtain rfl := hμ.symm
          refine V_iast (pc := 52) (j := (n + i)) dX2_add_52 (by decide) rfl (by rw [q2.1 1 (fun q => absurd q (by decide)), p1, nI_add]) (by show n + i < 30; omega) ?_
          refine V_iinc4 (pc := 53) (v := nI (i + 1)) dX2_add_53 (nI_1 i) (by decide) rfl ?_
          refine V_goto (pc := 56) (tgt := 29) dX2_add_56 (by decide) ?_
          refine ihA (i + 1) _ (by omega) (by omega) (fun j hj => ?_) (q2.set rfl)
          by_cases e : j = n + i
          · rw [e, get_eq]; unfold pgW; rw [if_pos (by omega), show n + i - n = i by omega]
          · rw [get_ne (by omega), q1 j hj]; unfold pgW
            by_cases e2 : n ≤ j ∧ j < n + i
            · rw [if_pos e2, if_pos (by omega)]
            · rw [if_neg e2, if_neg (by omega)]
      exact loopA (m + 1) 0 _ (by omega) (by omega) (fun j hj => by rw [(p3 j hj).1]; unfold pgW; rw [if_neg (by omega)]) FrM.rf
    have h20 := mt (nI_leI (a := n + m) (b := 30) (by omega) (by decide)).mpr h20
    refine V_bipush (pc := 23) (v := (-104)) dX2_add_23 (by decide) ?_
    refine V_iret (pc := 25) dX2_add_25 rfl ?_
    rw [if_neg (by omega), if_pos (by omega)]
    exact ⟨rfl, rfl⟩
  have h6z : leK w = 0 := by rcases Nat.eq_zero_or_pos (leK w) with q | q; exact q; exact absurd (by rw [show cI (leK w) = nI (leK w - 1) from by rw [← cI_s, Nat.sub_add_cancel q]]; exact nI_pos' (by omega)) h6
  refine V_bipush (pc := 9) (v := (-102)) dX2_add_9 (by decide) ?_
  refine V_iret (pc := 11) dX2_add_11 rfl ?_
  rw [if_pos h6z]
  exact ⟨rfl, rfl⟩
end
section

/-! ===== reading a page, letter by letter ===== -/
def PsOK (q : PsT) : Prop := q.1 ≤ 6 ∧ q.2.1 ≤ 3 ∧ ∀ w s, w < 4 → (q.2.1 < w ∨ (w = q.2.1 ∧ q.1 ≤ s + 3)) → q.2.2.1 w s = 0
theorem ps0_ok : PsOK ps0 := ⟨by decide, by decide, fun w s hw _ => by show (if w = 4 then 10 else 0) = 0; rw [if_neg (by omega)]⟩
theorem psOK_low {q : PsT} {x : Nat} {g : Nat → Nat} (hx : x ≤ 6) (h : PsOK q) (h3 : q.1 ≤ 3) : PsOK (x, q.2.1, q.2.2.1, g) := ⟨hx, h.2.1, fun w s hw hq => h.2.2 w s hw (by
  rcases hq with q1 | q1
  · exact Or.inl q1
  · exact Or.inr ⟨q1.1, by omega⟩)⟩
theorem nmP_ok {c x : Nat} {q q' : PsT} (hx : x ≤ 3) (h : PsOK q) (h3 : q.1 ≤ 3) (e : nmP c x q = some q') : PsOK q' := by
  unfold nmP at e
  split at e
  · cases e
    exact psOK_low (by omega) h h3
  · cases e
theorem pst_ok {c : Nat} {q q' : PsT} (h : PsOK q) (e : pst c q = some q') : PsOK q' := by
  obtain ⟨x, w, tn, ow⟩ := q
  obtain ⟨h1, h2, h3⟩ := id h
  dsimp only at h1 h2 h3
  unfold pst at e
  dsimp only at e
  by_cases e0 : x = 0
  · rw [if_pos e0] at e
    by_cases c0 : c = 45
    · rw [if_pos c0] at e; cases e
      exact psOK_low (q := (x, w, tn, ow)) (by omega) h (by show x ≤ 3; omega)
    · rw [if_neg c0] at e
      exact nmP_ok (by omega) h (by show x ≤ 3; omega) e
  rw [if_neg e0] at e
  by_cases e1 : x = 1
  · rw [if_pos e1] at e
    by_cases c0 : c = 58
    · rw [if_pos c0] at e; cases e
      exact psOK_low (q := (x, w, tn, ow)) (by omega) h (by show x ≤ 3; omega)
    · rw [if_neg c0] at e
      exact nmP_ok (by omega) h (by show x ≤ 3; omega) e
  rw [if_neg e1] at e
  by_cases e2 : x = 2
  · rw [if_pos e2] at e
    by_cases c0 : c = 58
    · rw [if_pos c0] at e; cases e
      exact psOK_low (q := (x, w, tn, ow)) (by omega) h (by show x ≤ 3; omega)
    · rw [if_neg c0] at e; cases e
  rw [if_neg e2] at e
  by_cases e6 : x = 6
  · rw [if_pos e6] at e
    by_cases c0 : w < 3 ∧ c = 47
    · rw [if_pos c0] at e; cases e
      exact ⟨by show 0 ≤ 6; omega, by show w + 1 ≤ 3; omega, fun w' s hw hq => h3 w' s hw (Or.inl (by
        rcases hq with q1 | q1
        · have : w + 1 < w' := q1; omega
        · have : w' = w + 1 := q1.1; omega))⟩
    · rw [if_neg c0] at e; cases e
  rw [if_neg e6] at e
  by_cases c0 : 48 ≤ c ∧ c ≤ 57 ∧ c - 48 ≤ tn 4 (x - 3)
  · rw [if_pos c0] at e; cases e
    refine ⟨by show x + 1 ≤ 6; omega, h2, fun w' s hw hq => ?_⟩
    show (if w' = 4 ∧ s = x - 3 then _ else if w' = w ∧ s = x - 3 then _ else tn w' s) = 0
    have hq : w < w' ∨ (w' = w ∧ x + 1 ≤ s + 3) := hq
    rw [if_neg (by omega), if_neg (by omega)]
    exact h3 w' s hw (by omega)
  · rw [if_neg c0] at e; cases e
theorem prT_ok {cd : Nat → Nat} : ∀ {n : Nat} {q : PsT}, prT cd n = some q → PsOK q
  | 0, q, h => by cases h; exact ps0_ok
  | n + 1, q, h => by
    simp only [prT] at h
    cases hq : prT cd n with
    | none => rw [hq] at h; cases h
    | some q0 => rw [hq] at h; exact pst_ok (prT_ok hq) h
theorem inR_name : ∀ c, c < 127 → inR (nI c - 48) 6 = decide (48 ≤ c ∧ c < 54) := by decide +kernel
theorem sub48 : ∀ c, c < 127 → 48 ≤ c → nI c - 48 = nI (c - 48) := by decide +kernel
theorem sub48_lt : ∀ c, c < 127 → (nI c - 48 < 0 ↔ c < 48) := by decide +kernel
theorem sub48_gt : ∀ c, c < 127 → ((9 : Int32) < nI c - 48 ↔ 57 < c) := by decide +kernel
theorem BkR.own {μ : Mm} {b n w : Nat} {tn : Nat → Nat → Nat} {ow : Nat → Nat} {v : Int32} (h : BkR μ b tn ow) (hn : n < 6) (hw : w ≤ 3) (hv : v = nI w) : BkR (setI μ (b + 7) n v) b tn (up1 ow n (w + 1)) := by
  subst hv
  obtain ⟨h1, h2, h3, h4⟩ := h
  refine ⟨fun a s ha hs => by rw [get_ne (by omega)]; exact h1 a s ha hs, fun m hm => ?_, fun m hm => ?_, h4⟩
  · by_cases e : m = n
    · rw [e, get_eq, up1_eq, cI_s]
    · rw [get_ne (by omega), up1_ne e]; exact h2 m hm
  · by_cases e : m = n
    · rw [e, up1_eq]; omega
    · rw [up1_ne e]; exact h3 m hm
theorem BkR.ten {μ : Mm} {b s w v : Nat} {tn : Nat → Nat → Nat} {ow : Nat → Nat} (h : BkR μ b tn ow) (hs : s < 3) (hw : w ≤ 3) (h0 : tn w s = 0) (hv : v ≤ tn 4 s) {x y : Int32} (hx : x = nI v) (hy : y = nI (tn 4 s - v)) : BkR (setI (setI μ (b + 1 + 1 + w) s x) (b + 1 + 1 + 4) s y) b (up2N (up2N tn w s v) 4 s (tn 4 s - v)) ow := by
  subst hx; subst hy
  obtain ⟨h1, h2, h3, h4⟩ := h
  refine ⟨fun a t ha ht => ?_, fun m hm => by rw [get_ne (by omega), get_ne (by omega)]; exact h2 m hm, h3, fun t ht => ?_⟩
  · show _ = nI (if a = 4 ∧ t = s then _ else if a = w ∧ t = s then _ else tn a t)
    by_cases e : a = 4 ∧ t = s
    · rw [if_pos e, e.1, e.2, get_eq]
    · rw [if_neg e, get_ne (by omega)]
      by_cases e2 : a = w ∧ t = s
      · rw [if_pos e2, e2.1, e2.2, get_eq]
      · rw [if_neg e2, get_ne (by omega)]; exact h1 a t ha ht
  · have q := h4 t ht
    simp only [up2N]
    by_cases e : t = s
    · subst e
      rcases (show w = 0 ∨ w = 1 ∨ w = 2 ∨ w = 3 by omega) with rfl | rfl | rfl | rfl <;> simp <;> omega
    · simp [e]; omega
theorem RdR.setX {μ : Mm} {x w t : Nat} {v : Int32} (h : RdR μ x w) (ht : t ≤ 6) (hv : v = nI t) : RdR (setI μ 3 0 v) t w := ⟨by rw [get_eq, hv], ht, by rw [get_ne (by omega)]; exact h.2.2.1, h.2.2.2⟩
theorem RdR.kept {μ μ' : Mm} {x w : Nat} (h : RdR μ x w) (e : ∀ j, μ'.1 3 j = μ.1 3 j) : RdR μ' x w := ⟨by rw [e]; exact h.1, h.2.1, by rw [e]; exact h.2.2.1, h.2.2.2⟩
theorem pst_t {c x w : Nat} {tn : Nat → Nat → Nat} {ow : Nat → Nat} (h0 : x ≠ 0) (h1 : x ≠ 1) (h2 : x ≠ 2) (h6 : x ≠ 6) : pst c (x, w, tn, ow) = if 48 ≤ c ∧ c ≤ 57 ∧ c - 48 ≤ tn 4 (x - 3) then some (x + 1, w, up2N (up2N tn w (x - 3) (c - 48)) 4 (x - 3) (tn 4 (x - 3) - (c - 48)), ow) else none := by
  unfold pst
  dsimp only
  rw [if_neg h0, if_neg h1, if_neg h2, if_neg h6]
def tkQ (b c : Nat) (q : PsT) (μ : Mm) : Option Value → Mm → Prop := fun r μ' => FrM (rdS b) μ μ' ∧ match pst c q with
  | none => r = some (.int 0)
  | some q' => r = some (.int 1) ∧ RdR μ' q'.1 q'.2.1 ∧ BkR μ' b q'.2.2.1 q'.2.2.2
theorem tkQ_no {b c : Nat} {q : PsT} {μ μ' : Mm} (hf : FrM (rdS b) μ μ') (h : pst c q = none) : tkQ b c q μ (some (.int 0)) μ' := ⟨hf, by rw [h]⟩
theorem tkQ_yes {b c x w : Nat} {tn : Nat → Nat → Nat} {ow : Nat → Nat} {q : PsT} {μ μ' : Mm} (hf : FrM (rdS b) μ μ') (h : pst c q = some (x, w, tn, ow)) (hr : RdR μ' x w) (hb : BkR μ' b tn ow) : tkQ b c q μ (some (.int 1)) μ' := ⟨hf, by rw [h]; exact ⟨rfl, hr, hb⟩⟩
end
section
theorem dX3_takesMark_0 : decode cX3_takesMark 0 = .ok (.iload_n 1, 1) := by decide +kernel
theorem dX3_takesMark_1 : decode cX3_takesMark 1 = .ok (.iload_n 2, 1) := by decide +kernel
theorem dX3_takesMark_2 : decode cX3_takesMark 2 = .ok (.if_icmp .eq 5, 3) := by decide +kernel
theorem dX3_takesMark_5 : decode cX3_takesMark 5 = .ok (.iconst 0, 1) := by decide +kernel
theorem dX3_takesMark_6 : decode cX3_takesMark 6 = .ok (.ireturn, 1) := by decide +kernel
theorem dX3_takesMark_7 : decode cX3_takesMark 7 = .ok (.aload_n 0, 1) := by decide +kernel
theorem dX3_takesMark_8 : decode cX3_takesMark 8 = .ok (.iload_n 3, 1) := by decide +kernel
theorem dX3_takesMark_9 : decode cX3_takesMark 9 = .ok (.putfield 16, 3) := by decide +kernel
theorem dX3_takesMark_12 : decode cX3_takesMark 12 = .ok (.iconst 1, 1) := by decide +kernel
theorem dX3_takesMark_13 : decode cX3_takesMark 13 = .ok (.ireturn, 1) := by decide +kernel
set_option maxHeartbeats 4000000 in
set_option maxRecDepth 100000 in
theorem c_X3_takesMark {l : Launch} {g : GW} {c m t : Nat} (μ : Mm) (hc : c < 127) (hm : m < 127) : Con l g yX3_takesMark cX3_takesMark 4 (some .boolean) 0 [.ref 3, .int (nI c), .int (nI m), .int (nI t)] μ (fun r μ' => if c = m then r = some (.int 1) ∧ μ' = setI μ 3 0 (nI t) else r = some (.int 0) ∧ μ' = μ) := by
  refine Con.of [.ref 3, .int (nI c), .int (nI m), .int (nI t)] 0 (by decide +kernel) (Nat.le_of_ble_eq_true rfl) rfl ?_
  refine V_iload_n (pc := 0) dX3_takesMark_0 rfl rfl ?_
  refine V_iload_n (pc := 1) dX3_takesMark_1 rfl rfl ?_
  refine V_icmpeq (pc := 2) (tgt := 7) dX3_takesMark_2 (by decide) (fun h2 => ?_) (fun h2 => ?_)
  · have h2 := (nI_eq (a := c) (b := m) (by omega) (by omega)).mp h2
    refine V_aload_n (pc := 7) dX3_takesMark_7 rfl rfl ?_
    refine V_iload_n (pc := 8) dX3_takesMark_8 rfl rfl ?_
    refine V_putI (pc := 9) (ci := 3) (j := 0) dX3_takesMark_9 fl_X3_16 (fun _ _ _ _ _ => rfl) rfl rfl (by decide) rfl ?_
    refine V_iconst (pc := 12) (v := 1) dX3_takesMark_12 (by decide) ?_
    refine V_zret (pc := 13) dX3_takesMark_13 rfl (by first | exact Or.inl rfl | exact Or.inr rfl | assumption) ?_
    first | (rw [if_pos h2]; exact ⟨rfl, rfl⟩) | (rw [if_neg h2]; exact ⟨rfl, rfl⟩)
  have h2 := mt (nI_eq (a := c) (b := m) (by omega) (by omega)).mpr h2
  refine V_iconst (pc := 5) (v := 0) dX3_takesMark_5 (by decide) ?_
  refine V_zret (pc := 6) dX3_takesMark_6 rfl (by first | exact Or.inl rfl | exact Or.inr rfl | assumption) ?_
  first | (rw [if_pos h2]; exact ⟨rfl, rfl⟩) | (rw [if_neg h2]; exact ⟨rfl, rfl⟩)
theorem dX3_takesName_0 : decode cX3_takesName 0 = .ok (.iload_n 1, 1) := by decide +kernel
theorem dX3_takesName_1 : decode cX3_takesName 1 = .ok (.bipush 48, 2) := by decide +kernel
theorem dX3_takesName_3 : decode cX3_takesName 3 = .ok (.isub, 1) := by decide +kernel
theorem dX3_takesName_4 : decode cX3_takesName 4 = .ok (.istore 4, 2) := by decide +kernel
theorem dX3_takesName_6 : decode cX3_takesName 6 = .ok (.iload 4, 2) := by decide +kernel
theorem dX3_takesName_8 : decode cX3_takesName 8 = .ok (.invokestatic 51, 3) := by decide +kernel
theorem dX3_takesName_11 : decode cX3_takesName 11 = .ok (.ifCond .eq 14, 3) := by decide +kernel
theorem dX3_takesName_14 : decode cX3_takesName 14 = .ok (.aload_n 2, 1) := by decide +kernel
theorem dX3_takesName_15 : decode cX3_takesName 15 = .ok (.getfield 54, 3) := by decide +kernel
theorem dX3_takesName_18 : decode cX3_takesName 18 = .ok (.iload 4, 2) := by decide +kernel
theorem dX3_takesName_20 : decode cX3_takesName 20 = .ok (.iaload, 1) := by decide +kernel
theorem dX3_takesName_21 : decode cX3_takesName 21 = .ok (.iconst (-1), 1) := by decide +kernel
theorem dX3_takesName_22 : decode cX3_takesName 22 = .ok (.if_icmp .eq 5, 3) := by decide +kernel
theorem dX3_takesName_25 : decode cX3_takesName 25 = .ok (.iconst 0, 1) := by decide +kernel
theorem dX3_takesName_26 : decode cX3_takesName 26 = .ok (.ireturn, 1) := by decide +kernel
theorem dX3_takesName_27 : decode cX3_takesName 27 = .ok (.aload_n 2, 1) := by decide +kernel
theorem dX3_takesName_28 : decode cX3_takesName 28 = .ok (.getfield 54, 3) := by decide +kernel
theorem dX3_takesName_31 : decode cX3_takesName 31 = .ok (.iload 4, 2) := by decide +kernel
theorem dX3_takesName_33 : decode cX3_takesName 33 = .ok (.aload_n 0, 1) := by decide +kernel
theorem dX3_takesName_34 : decode cX3_takesName 34 = .ok (.getfield 20, 3) := by decide +kernel
theorem dX3_takesName_37 : decode cX3_takesName 37 = .ok (.iastore, 1) := by decide +kernel
theorem dX3_takesName_38 : decode cX3_takesName 38 = .ok (.aload_n 0, 1) := by decide +kernel
theorem dX3_takesName_39 : decode cX3_takesName 39 = .ok (.iload_n 3, 1) := by decide +kernel
theorem dX3_takesName_40 : decode cX3_takesName 40 = .ok (.putfield 16, 3) := by decide +kernel
theorem dX3_takesName_43 : decode cX3_takesName 43 = .ok (.iconst 1, 1) := by decide +kernel
theorem dX3_takesName_44 : decode cX3_takesName 44 = .ok (.ireturn, 1) := by decide +kernel
set_option maxHeartbeats 4000000 in
set_option maxRecDepth 100000 in
theorem c_X3_takesName {l : Launch} {g : GW} {c b t x w : Nat} {tn : Nat → Nat → Nat} {ow : Nat → Nat} (μ : Mm) (hc : c < 127) (ht : t ≤ 6) (hb : b = 49 ∨ b = 57) (hB : BkR μ b tn ow) (hR : RdR μ x w) : Con l g yX3_takesName cX3_takesName 5 (some .boolean) 1 [.ref 3, .int (nI c), .ref b, .int (nI t)] μ (fun r μ' => if 48 ≤ c ∧ c < 54 ∧ ow (c - 48) = 0 then r = some (.int 1) ∧ RdR μ' t w ∧ BkR μ' b tn (up1 ow (c - 48) (w + 1)) ∧ FrM (rdS b) μ μ' else r = some (.int 0) ∧ μ' = μ) := by
  obtain ⟨hb1, hb2, hb3, hb4, hb5, hb6, hrow⟩ := bkF hb
  obtain ⟨d1, d2, d3, d4⟩ := id hR
  refine Con.of [.ref 3, .int (nI c), .ref b, .int (nI t), .null] 1 (by decide +kernel) (Nat.le_of_ble_eq_true rfl) rfl ?_
  refine V_iload_n (pc := 0) dX3_takesName_0 rfl rfl ?_
  refine V_bipush (pc := 1) (v := 48) dX3_takesName_1 (by decide) ?_
  refine V_isub (pc := 3) dX3_takesName_3 ?_
  refine V_istore4 (pc := 4) dX3_takesName_4 (by decide) rfl ?_
  refine V_iload (pc := 6) dX3_takesName_6 rfl ?_
  refine V_ins1 (pc := 8) dX3_takesName_8 ml_X3_51 (by first | decide | omega) (Nat.le_of_ble_eq_true rfl) (c_X7_isName μ) ?_
  rintro _ μ2 ⟨rfl, hμ⟩
  obtain rfl := hμ.symm
  rw [inR_name c hc]
  refine V_ifeq (pc := 11) (tgt := 25) dX3_takesName_11 (by decide) (fun h11 => ?_) (fun h11 => ?_)
  · have h11 := (bI_0 _).mp h11; have h11 : ¬ (48 ≤ c ∧ c < 54) := of_decide_eq_false h11; have hno : ¬ (48 ≤ c ∧ c < 54 ∧ ow (c - 48) = 0) := fun q => h11 ⟨q.1, q.2.1⟩
    refine V_iconst (pc := 25) (v := 0) dX3_takesName_25 (by decide) ?_
    refine V_zret (pc := 26) dX3_takesName_26 rfl (by first | exact Or.inl rfl | exact Or.inr rfl | assumption) ?_
    rw [if_neg hno]
    exact ⟨rfl, rfl⟩
  have h11 : 48 ≤ c ∧ c < 54 := by rcases Decidable.em (48 ≤ c ∧ c < 54) with q | q; exact q; exact absurd ((bI_0 _).mpr (decide_eq_false q)) h11
  refine V_aload_n (pc := 14) dX3_takesName_14 rfl rfl ?_
  refine V_getR (pc := 15) (ci := 0) (j := 1) (k2 := (b + 7)) dX3_takesName_15 fl_X3_54 (fun _ _ _ _ => rfl) (by first | decide | omega) (by first | rfl | assumption | decide) (rf_0_1 (by first | rfl | assumption | decide)) ?_
  refine V_iload (pc := 18) dX3_takesName_18 rfl ?_
  refine V_iald (pc := 20) (j := (c - 48)) dX3_takesName_20 (by first | decide | omega) (by first | rfl | assumption | decide) (sub48 c hc h11.1) (by omega) ?_
  refine V_iconst (pc := 21) (v := (-1)) dX3_takesName_21 (by decide) ?_
  refine V_icmpeq (pc := 22) (tgt := 27) dX3_takesName_22 (by decide) (fun h22 => ?_) (fun h22 => ?_)
  · rw [hB.2.1 _ (by omega), cI_m1 (by have := hB.2.2.1 (c - 48) (by omega); omega)] at h22
    refine V_aload_n (pc := 27) dX3_takesName_27 rfl rfl ?_
    refine V_getR (pc := 28) (ci := 0) (j := 1) (k2 := (b + 7)) dX3_takesName_28 fl_X3_54 (fun _ _ _ _ => rfl) (by first | decide | omega) (by first | rfl | assumption | decide) (rf_0_1 (by first | rfl | assumption | decide)) ?_
    refine V_iload (pc := 31) dX3_takesName_31 rfl ?_
    refine V_aload_n (pc := 33) dX3_takesName_33 rfl rfl ?_
    refine V_getI (pc := 34) (ci := 3) (j := 1) dX3_takesName_34 fl_X3_20 (fun _ _ _ _ => rfl) (by decide) rfl ?_
    refine V_iast (pc := 37) (j := (c - 48)) dX3_takesName_37 (by first | decide | omega) (by first | rfl | assumption | decide) (sub48 c hc h11.1) (by omega) ?_
    refine V_aload_n (pc := 38) dX3_takesName_38 rfl rfl ?_
    refine V_iload_n (pc := 39) dX3_takesName_39 rfl rfl ?_
    refine V_putI (pc := 40) (ci := 3) (j := 0) dX3_takesName_40 fl_X3_16 (fun _ _ _ _ _ => rfl) rfl rfl (by decide) rfl ?_
    refine V_iconst (pc := 43) (v := 1) dX3_takesName_43 (by decide) ?_
    refine V_zret (pc := 44) dX3_takesName_44 rfl (by first | exact Or.inl rfl | exact Or.inr rfl | assumption) ?_
    rw [if_pos ⟨h11.1, h11.2, h22⟩]
    have k1 := hB.own (n := c - 48) (by omega) d4 d3
    refine ⟨rfl, RdR.setX (hR.kept (fun j => get_ne (by omega))) ht rfl, k1.kept (FrM.rf.set (S := fun k => k = 3) rfl) (fun k h1 h2 q => by have : k = 3 := q; omega), (FrM.rf.set (Or.inr (by omega))).set (Or.inl rfl)⟩
  rw [hB.2.1 _ (by omega), cI_m1 (by have := hB.2.2.1 (c - 48) (by omega); omega)] at h22; have hno : ¬ (48 ≤ c ∧ c < 54 ∧ ow (c - 48) = 0) := fun q => h22 q.2.2
  refine V_iconst (pc := 25) (v := 0) dX3_takesName_25 (by decide) ?_
  refine V_zret (pc := 26) dX3_takesName_26 rfl (by first | exact Or.inl rfl | exact Or.inr rfl | assumption) ?_
  rw [if_neg hno]
  exact ⟨rfl, rfl⟩
theorem dX3_takesNextWind_0 : decode cX3_takesNextWind 0 = .ok (.aload_n 0, 1) := by decide +kernel
theorem dX3_takesNextWind_1 : decode cX3_takesNextWind 1 = .ok (.getfield 20, 3) := by decide +kernel
theorem dX3_takesNextWind_4 : decode cX3_takesNextWind 4 = .ok (.iconst 3, 1) := by decide +kernel
theorem dX3_takesNextWind_5 : decode cX3_takesNextWind 5 = .ok (.if_icmp .ge 14, 3) := by decide +kernel
theorem dX3_takesNextWind_8 : decode cX3_takesNextWind 8 = .ok (.aload_n 0, 1) := by decide +kernel
theorem dX3_takesNextWind_9 : decode cX3_takesNextWind 9 = .ok (.iload_n 1, 1) := by decide +kernel
theorem dX3_takesNextWind_10 : decode cX3_takesNextWind 10 = .ok (.bipush 47, 2) := by decide +kernel
theorem dX3_takesNextWind_12 : decode cX3_takesNextWind 12 = .ok (.iconst 0, 1) := by decide +kernel
theorem dX3_takesNextWind_13 : decode cX3_takesNextWind 13 = .ok (.invokevirtual 36, 3) := by decide +kernel
theorem dX3_takesNextWind_16 : decode cX3_takesNextWind 16 = .ok (.ifCond .ne 5, 3) := by decide +kernel
theorem dX3_takesNextWind_19 : decode cX3_takesNextWind 19 = .ok (.iconst 0, 1) := by decide +kernel
theorem dX3_takesNextWind_20 : decode cX3_takesNextWind 20 = .ok (.ireturn, 1) := by decide +kernel
theorem dX3_takesNextWind_21 : decode cX3_takesNextWind 21 = .ok (.aload_n 0, 1) := by decide +kernel
theorem dX3_takesNextWind_22 : decode cX3_takesNextWind 22 = .ok (.dup, 1) := by decide +kernel
theorem dX3_takesNextWind_23 : decode cX3_takesNextWind 23 = .ok (.getfield 20, 3) := by decide +kernel
theorem dX3_takesNextWind_26 : decode cX3_takesNextWind 26 = .ok (.iconst 1, 1) := by decide +kernel
theorem dX3_takesNextWind_27 : decode cX3_takesNextWind 27 = .ok (.iadd, 1) := by decide +kernel
theorem dX3_takesNextWind_28 : decode cX3_takesNextWind 28 = .ok (.putfield 20, 3) := by decide +kernel
theorem dX3_takesNextWind_31 : decode cX3_takesNextWind 31 = .ok (.iconst 1, 1) := by decide +kernel
theorem dX3_takesNextWind_32 : decode cX3_takesNextWind 32 = .ok (.ireturn, 1) := by decide +kernel
set_option maxHeartbeats 4000000 in
set_option maxRecDepth 100000 in
theorem c_X3_takesNextWind {l : Launch} {g : GW} {c x w : Nat} (μ : Mm) (hc : c < 127) (hR : RdR μ x w) : Con l g yX3_takesNextWind cX3_takesNextWind 2 (some .boolean) 1 [.ref 3, .int (nI c)] μ (fun r μ' => if w < 3 ∧ c = 47 then r = some (.int 1) ∧ RdR μ' 0 (w + 1) ∧ FrM (fun k => k = 3) μ μ' else r = some (.int 0) ∧ μ' = μ) := by
  obtain ⟨d1, d2, d3, d4⟩ := id hR
  refine Con.of [.ref 3, .int (nI c)] 0 (by decide +kernel) (Nat.le_of_ble_eq_true rfl) rfl ?_
  refine V_aload_n (pc := 0) dX3_takesNextWind_0 rfl rfl ?_
  refine V_getI (pc := 1) (ci := 3) (j := 1) dX3_takesNextWind_1 fl_X3_20 (fun _ _ _ _ => rfl) (by decide) rfl ?_
  refine V_iconst (pc := 4) (v := 3) dX3_takesNextWind_4 (by decide) ?_
  refine V_icmpge (pc := 5) (tgt := 19) dX3_takesNextWind_5 (by decide) (fun h5 => ?_) (fun h5 => ?_)
  · rw [d3] at h5; have h5 := (nI_leI (a := 3) (b := w) (by decide) (by omega)).mp h5; have hno : ¬ (w < 3 ∧ c = 47) := fun q => by omega
    refine V_iconst (pc := 19) (v := 0) dX3_takesNextWind_19 (by decide) ?_
    refine V_zret (pc := 20) dX3_takesNextWind_20 rfl (by first | exact Or.inl rfl | exact Or.inr rfl | assumption) ?_
    rw [if_neg hno]
    exact ⟨rfl, rfl⟩
  rw [d3] at h5; have h5 := mt (nI_leI (a := 3) (b := w) (by decide) (by omega)).mpr h5
  refine V_aload_n (pc := 8) dX3_takesNextWind_8 rfl rfl ?_
  refine V_iload_n (pc := 9) dX3_takesNextWind_9 rfl rfl ?_
  refine V_bipush (pc := 10) (v := 47) dX3_takesNextWind_10 (by decide) ?_
  refine V_iconst (pc := 12) (v := 0) dX3_takesNextWind_12 (by decide) ?_
  refine V_inv3 (pc := 13) (ci := 3) dX3_takesNextWind_13 ml_X3_36 (by decide) rfl ⟨by decide, rfl⟩ (by decide) (Nat.le_of_ble_eq_true rfl) (c_X3_takesMark (m := 47) (t := 0) μ hc (by decide)) ?_
  intro r μ1 hq
  by_cases hc7 : c = 47
  rotate_left
  · rw [if_neg hc7] at hq
    obtain ⟨rfl, hμ⟩ := hq
    obtain rfl := hμ.symm
    refine V_ifne (pc := 16) (tgt := 21) dX3_takesNextWind_16 (by decide) (fun h => absurd rfl h) (fun _ => ?_)
    refine V_iconst (pc := 19) (v := 0) dX3_takesNextWind_19 (by decide) ?_
    refine V_zret (pc := 20) dX3_takesNextWind_20 rfl (Or.inl rfl) ?_
    rw [if_neg (fun q => hc7 q.2)]
    exact ⟨rfl, rfl⟩
  rw [if_pos hc7] at hq
  obtain ⟨rfl, rfl⟩ := hq
  refine V_ifne (pc := 16) (tgt := 21) dX3_takesNextWind_16 (by decide) (fun h16 => ?_) (fun h16 => ?_)
  · refine V_aload_n (pc := 21) dX3_takesNextWind_21 rfl rfl ?_
    refine V_dup (pc := 22) dX3_takesNextWind_22 rfl ?_
    refine V_getI (pc := 23) (ci := 3) (j := 1) dX3_takesNextWind_23 fl_X3_20 (fun _ _ _ _ => rfl) (by decide) rfl ?_
    refine V_iconst (pc := 26) (v := 1) dX3_takesNextWind_26 (by decide) ?_
    refine V_iadd (pc := 27) dX3_takesNextWind_27 ?_
    refine V_putI (pc := 28) (ci := 3) (j := 1) dX3_takesNextWind_28 fl_X3_20 (fun _ _ _ _ _ => rfl) rfl rfl (by decide) rfl ?_
    refine V_iconst (pc := 31) (v := 1) dX3_takesNextWind_31 (by decide) ?_
    refine V_zret (pc := 32) dX3_takesNextWind_32 rfl (by first | exact Or.inl rfl | exact Or.inr rfl | assumption) ?_
    rw [if_pos ⟨by omega, hc7⟩]
    refine ⟨rfl, ⟨by rw [get_ne (by omega), get_eq], by omega, by rw [get_eq, get_ne (by omega), d3]; exact nI_1 w, by omega⟩, ((FrM.rf (S := fun k => k = 3)).set rfl).set rfl⟩
  exact absurd h16 (by decide)
theorem dX3_takesTenths_0 : decode cX3_takesTenths 0 = .ok (.aload_n 0, 1) := by decide +kernel
theorem dX3_takesTenths_1 : decode cX3_takesTenths 1 = .ok (.getfield 16, 3) := by decide +kernel
theorem dX3_takesTenths_4 : decode cX3_takesTenths 4 = .ok (.iconst 3, 1) := by decide +kernel
theorem dX3_takesTenths_5 : decode cX3_takesTenths 5 = .ok (.isub, 1) := by decide +kernel
theorem dX3_takesTenths_6 : decode cX3_takesTenths 6 = .ok (.istore_n 3, 1) := by decide +kernel
theorem dX3_takesTenths_7 : decode cX3_takesTenths 7 = .ok (.iload_n 1, 1) := by decide +kernel
theorem dX3_takesTenths_8 : decode cX3_takesTenths 8 = .ok (.bipush 48, 2) := by decide +kernel
theorem dX3_takesTenths_10 : decode cX3_takesTenths 10 = .ok (.isub, 1) := by decide +kernel
theorem dX3_takesTenths_11 : decode cX3_takesTenths 11 = .ok (.istore 4, 2) := by decide +kernel
theorem dX3_takesTenths_13 : decode cX3_takesTenths 13 = .ok (.iload_n 3, 1) := by decide +kernel
theorem dX3_takesTenths_14 : decode cX3_takesTenths 14 = .ok (.invokestatic 57, 3) := by decide +kernel
theorem dX3_takesTenths_17 : decode cX3_takesTenths 17 = .ok (.ifCond .eq 28, 3) := by decide +kernel
theorem dX3_takesTenths_20 : decode cX3_takesTenths 20 = .ok (.iload 4, 2) := by decide +kernel
theorem dX3_takesTenths_22 : decode cX3_takesTenths 22 = .ok (.ifCond .lt 23, 3) := by decide +kernel
theorem dX3_takesTenths_25 : decode cX3_takesTenths 25 = .ok (.iload 4, 2) := by decide +kernel
theorem dX3_takesTenths_27 : decode cX3_takesTenths 27 = .ok (.bipush 9, 2) := by decide +kernel
theorem dX3_takesTenths_29 : decode cX3_takesTenths 29 = .ok (.if_icmp .gt 16, 3) := by decide +kernel
theorem dX3_takesTenths_32 : decode cX3_takesTenths 32 = .ok (.iload 4, 2) := by decide +kernel
theorem dX3_takesTenths_34 : decode cX3_takesTenths 34 = .ok (.aload_n 2, 1) := by decide +kernel
theorem dX3_takesTenths_35 : decode cX3_takesTenths 35 = .ok (.getfield 60, 3) := by decide +kernel
theorem dX3_takesTenths_38 : decode cX3_takesTenths 38 = .ok (.iconst 4, 1) := by decide +kernel
theorem dX3_takesTenths_39 : decode cX3_takesTenths 39 = .ok (.aaload, 1) := by decide +kernel
theorem dX3_takesTenths_40 : decode cX3_takesTenths 40 = .ok (.iload_n 3, 1) := by decide +kernel
theorem dX3_takesTenths_41 : decode cX3_takesTenths 41 = .ok (.iaload, 1) := by decide +kernel
theorem dX3_takesTenths_42 : decode cX3_takesTenths 42 = .ok (.if_icmp .le 5, 3) := by decide +kernel
theorem dX3_takesTenths_45 : decode cX3_takesTenths 45 = .ok (.iconst 0, 1) := by decide +kernel
theorem dX3_takesTenths_46 : decode cX3_takesTenths 46 = .ok (.ireturn, 1) := by decide +kernel
theorem dX3_takesTenths_47 : decode cX3_takesTenths 47 = .ok (.aload_n 2, 1) := by decide +kernel
theorem dX3_takesTenths_48 : decode cX3_takesTenths 48 = .ok (.getfield 60, 3) := by decide +kernel
theorem dX3_takesTenths_51 : decode cX3_takesTenths 51 = .ok (.aload_n 0, 1) := by decide +kernel
theorem dX3_takesTenths_52 : decode cX3_takesTenths 52 = .ok (.getfield 20, 3) := by decide +kernel
theorem dX3_takesTenths_55 : decode cX3_takesTenths 55 = .ok (.aaload, 1) := by decide +kernel
theorem dX3_takesTenths_56 : decode cX3_takesTenths 56 = .ok (.iload_n 3, 1) := by decide +kernel
theorem dX3_takesTenths_57 : decode cX3_takesTenths 57 = .ok (.iload 4, 2) := by decide +kernel
theorem dX3_takesTenths_59 : decode cX3_takesTenths 59 = .ok (.iastore, 1) := by decide +kernel
theorem dX3_takesTenths_60 : decode cX3_takesTenths 60 = .ok (.aload_n 2, 1) := by decide +kernel
theorem dX3_takesTenths_61 : decode cX3_takesTenths 61 = .ok (.getfield 60, 3) := by decide +kernel
theorem dX3_takesTenths_64 : decode cX3_takesTenths 64 = .ok (.iconst 4, 1) := by decide +kernel
theorem dX3_takesTenths_65 : decode cX3_takesTenths 65 = .ok (.aaload, 1) := by decide +kernel
theorem dX3_takesTenths_66 : decode cX3_takesTenths 66 = .ok (.iload_n 3, 1) := by decide +kernel
theorem dX3_takesTenths_67 : decode cX3_takesTenths 67 = .ok (.dup2, 1) := by decide +kernel
theorem dX3_takesTenths_68 : decode cX3_takesTenths 68 = .ok (.iaload, 1) := by decide +kernel
theorem dX3_takesTenths_69 : decode cX3_takesTenths 69 = .ok (.iload 4, 2) := by decide +kernel
theorem dX3_takesTenths_71 : decode cX3_takesTenths 71 = .ok (.isub, 1) := by decide +kernel
theorem dX3_takesTenths_72 : decode cX3_takesTenths 72 = .ok (.iastore, 1) := by decide +kernel
theorem dX3_takesTenths_73 : decode cX3_takesTenths 73 = .ok (.aload_n 0, 1) := by decide +kernel
theorem dX3_takesTenths_74 : decode cX3_takesTenths 74 = .ok (.dup, 1) := by decide +kernel
theorem dX3_takesTenths_75 : decode cX3_takesTenths 75 = .ok (.getfield 16, 3) := by decide +kernel
theorem dX3_takesTenths_78 : decode cX3_takesTenths 78 = .ok (.iconst 1, 1) := by decide +kernel
theorem dX3_takesTenths_79 : decode cX3_takesTenths 79 = .ok (.iadd, 1) := by decide +kernel
theorem dX3_takesTenths_80 : decode cX3_takesTenths 80 = .ok (.putfield 16, 3) := by decide +kernel
theorem dX3_takesTenths_83 : decode cX3_takesTenths 83 = .ok (.iconst 1, 1) := by decide +kernel
theorem dX3_takesTenths_84 : decode cX3_takesTenths 84 = .ok (.ireturn, 1) := by decide +kernel
set_option maxHeartbeats 4000000 in
set_option maxRecDepth 100000 in
theorem c_X3_takesTenths {l : Launch} {g : GW} {c b x w : Nat} {tn : Nat → Nat → Nat} {ow : Nat → Nat} (μ : Mm) (hc : c < 127) (hx : 3 ≤ x) (hx5 : x ≤ 5) (hb : b = 49 ∨ b = 57) (hB : BkR μ b tn ow) (hR : RdR μ x w) (h0 : tn w (x - 3) = 0) : Con l g yX3_takesTenths cX3_takesTenths 5 (some .boolean) 1 [.ref 3, .int (nI c), .ref b] μ (fun r μ' => if 48 ≤ c ∧ c ≤ 57 ∧ c - 48 ≤ tn 4 (x - 3) then r = some (.int 1) ∧ RdR μ' (x + 1) w ∧ BkR μ' b (up2N (up2N tn w (x - 3) (c - 48)) 4 (x - 3) (tn 4 (x - 3) - (c - 48))) ow ∧ FrM (rdS b) μ μ' else r = some (.int 0) ∧ μ' = μ) := by
  obtain ⟨hb1, hb2, hb3, hb4, hb5, hb6, hrow⟩ := bkF hb
  obtain ⟨d1, d2, d3, d4⟩ := id hR
  have hl4 := hB.le (w := 4) (s := x - 3) (by omega) (by omega)
  refine Con.of [.ref 3, .int (nI c), .ref b, .null, .null] 2 (by decide +kernel) (Nat.le_of_ble_eq_true rfl) rfl ?_
  refine V_aload_n (pc := 0) dX3_takesTenths_0 rfl rfl ?_
  refine V_getI (pc := 1) (ci := 3) (j := 0) dX3_takesTenths_1 fl_X3_16 (fun _ _ _ _ => rfl) (by decide) rfl ?_
  refine V_iconst (pc := 4) (v := 3) dX3_takesTenths_4 (by decide) ?_
  rw [d1]
  refine V_isub (pc := 5) dX3_takesTenths_5 ?_
  rw [show nI x - (3 : Int32) = nI (x - 3) from pk_sub (b := 3) hx]
  refine V_istore3 (pc := 6) dX3_takesTenths_6 (by decide) rfl ?_
  refine V_iload_n (pc := 7) dX3_takesTenths_7 rfl rfl ?_
  refine V_bipush (pc := 8) (v := 48) dX3_takesTenths_8 (by decide) ?_
  refine V_isub (pc := 10) dX3_takesTenths_10 ?_
  refine V_istore4 (pc := 11) dX3_takesTenths_11 (by decide) rfl ?_
  refine V_iload_n (pc := 13) dX3_takesTenths_13 rfl rfl ?_
  refine V_ins1 (pc := 14) dX3_takesTenths_14 ml_X3_57 (by first | decide | omega) (Nat.le_of_ble_eq_true rfl) (c_X7_isSign μ) ?_
  rintro _ μ2 ⟨rfl, hμ⟩
  obtain rfl := hμ.symm
  rw [show inR (nI (x - 3)) 3 = true from inR_nI (n := 3) rfl (by decide) (by omega)]
  refine V_ifeq (pc := 17) (tgt := 45) dX3_takesTenths_17 (by decide) (fun h17 => ?_) (fun h17 => ?_)
  · exact absurd h17 (by decide)
  refine V_iload (pc := 20) dX3_takesTenths_20 rfl ?_
  refine V_iflt (pc := 22) (tgt := 45) dX3_takesTenths_22 (by decide) (fun h22 => ?_) (fun h22 => ?_)
  · rw [sub48_lt c hc] at h22; have hno : ¬ (48 ≤ c ∧ c ≤ 57 ∧ c - 48 ≤ tn 4 (x - 3)) := fun q => by omega
    refine V_iconst (pc := 45) (v := 0) dX3_takesTenths_45 (by decide) ?_
    refine V_zret (pc := 46) dX3_takesTenths_46 rfl (by first | exact Or.inl rfl | exact Or.inr rfl | assumption) ?_
    rw [if_neg hno]
    exact ⟨rfl, rfl⟩
  rw [sub48_lt c hc] at h22
  refine V_iload (pc := 25) dX3_takesTenths_25 rfl ?_
  refine V_bipush (pc := 27) (v := 9) dX3_takesTenths_27 (by decide) ?_
  refine V_icmpgt (pc := 29) (tgt := 45) dX3_takesTenths_29 (by decide) (fun h29 => ?_) (fun h29 => ?_)
  · rw [sub48_gt c hc] at h29; have hno : ¬ (48 ≤ c ∧ c ≤ 57 ∧ c - 48 ≤ tn 4 (x - 3)) := fun q => by omega
    refine V_iconst (pc := 45) (v := 0) dX3_takesTenths_45 (by decide) ?_
    refine V_zret (pc := 46) dX3_takesTenths_46 rfl (by first | exact Or.inl rfl | exact Or.inr rfl | assumption) ?_
    rw [if_neg hno]
    exact ⟨rfl, rfl⟩
  rw [sub48_gt c hc] at h29; have e48 := sub48 c hc (by omega); rw [e48]
  refine V_iload (pc := 32) dX3_takesTenths_32 rfl ?_
  refine V_aload_n (pc := 34) dX3_takesTenths_34 rfl rfl ?_
  refine V_getR (pc := 35) (ci := 0) (j := 0) (k2 := (b + 1)) dX3_takesTenths_35 fl_X3_60 (fun _ _ _ _ => rfl) (by first | decide | omega) (by first | rfl | assumption | exact (hrow _ (by omega)).2.1 | decide) (rf_0_0 (by first | rfl | assumption | exact (hrow _ (by omega)).2.1 | decide)) ?_
  refine V_iconst (pc := 38) (v := 4) dX3_takesTenths_38 (by decide) ?_
  refine V_aald15 (pc := 39) (j := 4) dX3_takesTenths_39 (by first | decide | omega) (by first | rfl | assumption | exact (hrow _ (by omega)).2.1 | decide) rfl (by omega) ?_
  refine V_iload_n (pc := 40) dX3_takesTenths_40 rfl rfl ?_
  refine V_iald (pc := 41) (j := (x - 3)) dX3_takesTenths_41 (by first | decide | omega) (by first | rfl | assumption | exact (hrow _ (by omega)).2.1 | decide) rfl (by have := (hrow 4 (by omega)).2.2; omega) ?_
  refine V_icmple (pc := 42) (tgt := 47) dX3_takesTenths_42 (by decide) (fun h42 => ?_) (fun h42 => ?_)
  · rw [hB.1 4 (x - 3) (by omega) (by omega), nI_leI (by omega) (by omega)] at h42
    refine V_aload_n (pc := 47) dX3_takesTenths_47 rfl rfl ?_
    refine V_getR (pc := 48) (ci := 0) (j := 0) (k2 := (b + 1)) dX3_takesTenths_48 fl_X3_60 (fun _ _ _ _ => rfl) (by first | decide | omega) (by first | rfl | assumption | exact (hrow _ (by omega)).2.1 | decide) (rf_0_0 (by first | rfl | assumption | exact (hrow _ (by omega)).2.1 | decide)) ?_
    refine V_aload_n (pc := 51) dX3_takesTenths_51 rfl rfl ?_
    refine V_getI (pc := 52) (ci := 3) (j := 1) dX3_takesTenths_52 fl_X3_20 (fun _ _ _ _ => rfl) (by decide) rfl ?_
    refine V_aald15 (pc := 55) (j := w) dX3_takesTenths_55 (by first | decide | omega) (by first | rfl | assumption | exact (hrow _ (by omega)).2.1 | decide) d3 (by omega) ?_
    refine V_iload_n (pc := 56) dX3_takesTenths_56 rfl rfl ?_
    refine V_iload (pc := 57) dX3_takesTenths_57 rfl ?_
    refine V_iast (pc := 59) (j := (x - 3)) dX3_takesTenths_59 (by first | decide | omega) (by first | rfl | assumption | exact (hrow _ (by omega)).2.1 | decide) rfl (by have := (hrow w (by omega)).2.2; omega) ?_
    refine V_aload_n (pc := 60) dX3_takesTenths_60 rfl rfl ?_
    refine V_getR (pc := 61) (ci := 0) (j := 0) (k2 := (b + 1)) dX3_takesTenths_61 fl_X3_60 (fun _ _ _ _ => rfl) (by first | decide | omega) (by first | rfl | assumption | exact (hrow _ (by omega)).2.1 | decide) (rf_0_0 (by first | rfl | assumption | exact (hrow _ (by omega)).2.1 | decide)) ?_
    refine V_iconst (pc := 64) (v := 4) dX3_takesTenths_64 (by decide) ?_
    refine V_aald15 (pc := 65) (j := 4) dX3_takesTenths_65 (by first | decide | omega) (by first | rfl | assumption | exact (hrow _ (by omega)).2.1 | decide) rfl (by omega) ?_
    refine V_iload_n (pc := 66) dX3_takesTenths_66 rfl rfl ?_
    refine V_dup2_11 (pc := 67) dX3_takesTenths_67 rfl rfl ?_
    refine V_iald (pc := 68) (j := (x - 3)) dX3_takesTenths_68 (by first | decide | omega) (by first | rfl | assumption | exact (hrow _ (by omega)).2.1 | decide) rfl (by have := (hrow 4 (by omega)).2.2; omega) ?_
    rw [show (setI μ (b + 1 + 1 + w) (x - 3) (nI (c - 48))).1 (b + 1 + 1 + 4) (x - 3) = nI (tn 4 (x - 3)) from by rw [get_ne (by omega)]; exact hB.1 4 (x - 3) (by omega) (by omega)]
    refine V_iload (pc := 69) dX3_takesTenths_69 rfl ?_
    refine V_isub (pc := 71) dX3_takesTenths_71 ?_
    refine V_iast (pc := 72) (j := (x - 3)) dX3_takesTenths_72 (by first | decide | omega) (by first | rfl | assumption | exact (hrow _ (by omega)).2.1 | decide) rfl (by have := (hrow 4 (by omega)).2.2; omega) ?_
    refine V_aload_n (pc := 73) dX3_takesTenths_73 rfl rfl ?_
    refine V_dup (pc := 74) dX3_takesTenths_74 rfl ?_
    refine V_getI (pc := 75) (ci := 3) (j := 0) dX3_takesTenths_75 fl_X3_16 (fun _ _ _ _ => rfl) (by decide) rfl ?_
    refine V_iconst (pc := 78) (v := 1) dX3_takesTenths_78 (by decide) ?_
    refine V_iadd (pc := 79) dX3_takesTenths_79 ?_
    refine V_putI (pc := 80) (ci := 3) (j := 0) dX3_takesTenths_80 fl_X3_16 (fun _ _ _ _ _ => rfl) rfl rfl (by decide) rfl ?_
    refine V_iconst (pc := 83) (v := 1) dX3_takesTenths_83 (by decide) ?_
    refine V_zret (pc := 84) dX3_takesTenths_84 rfl (by first | exact Or.inl rfl | exact Or.inr rfl | assumption) ?_
    rw [if_pos ⟨by omega, by omega, h42⟩]
    have k1 := hB.ten (s := x - 3) (w := w) (v := c - 48) (by omega) d4 h0 h42 rfl (y := nI (tn 4 (x - 3)) - nI (c - 48)) (pk_sub h42)
    have k2 : FrM (rdS b) μ (setI (setI μ (b + 1 + 1 + w) (x - 3) (nI (c - 48))) (b + 1 + 1 + 4) (x - 3) (nI (tn 4 (x - 3)) - nI (c - 48))) := (FrM.rf.set (Or.inr (by omega))).set (Or.inr (by omega))
    have k3 : RdR (setI (setI μ (b + 1 + 1 + w) (x - 3) (nI (c - 48))) (b + 1 + 1 + 4) (x - 3) (nI (tn 4 (x - 3)) - nI (c - 48))) x w := hR.kept (fun j => by rw [get_ne (by omega), get_ne (by omega)])
    exact ⟨rfl, k3.setX (by omega) (by rw [k3.1]; exact nI_1 x), k1.kept (FrM.rf.set (S := fun k => k = 3) rfl) (fun k h1 h2 q => by have : k = 3 := q; omega), k2.set (Or.inl rfl)⟩
  rw [hB.1 4 (x - 3) (by omega) (by omega), nI_leI (by omega) (by omega)] at h42; have hno : ¬ (48 ≤ c ∧ c ≤ 57 ∧ c - 48 ≤ tn 4 (x - 3)) := fun q => h42 q.2.2
  refine V_iconst (pc := 45) (v := 0) dX3_takesTenths_45 (by decide) ?_
  refine V_zret (pc := 46) dX3_takesTenths_46 rfl (by first | exact Or.inl rfl | exact Or.inr rfl | assumption) ?_
  rw [if_neg hno]
  exact ⟨rfl, rfl⟩
theorem dX3_atEnd_0 : decode cX3_atEnd 0 = .ok (.aload_n 0, 1) := by decide +kernel
theorem dX3_atEnd_1 : decode cX3_atEnd 1 = .ok (.getfield 20, 3) := by decide +kernel
theorem dX3_atEnd_4 : decode cX3_atEnd 4 = .ok (.iconst 3, 1) := by decide +kernel
theorem dX3_atEnd_5 : decode cX3_atEnd 5 = .ok (.if_icmp .ne 16, 3) := by decide +kernel
theorem dX3_atEnd_8 : decode cX3_atEnd 8 = .ok (.aload_n 0, 1) := by decide +kernel
theorem dX3_atEnd_9 : decode cX3_atEnd 9 = .ok (.getfield 16, 3) := by decide +kernel
theorem dX3_atEnd_12 : decode cX3_atEnd 12 = .ok (.bipush 6, 2) := by decide +kernel
theorem dX3_atEnd_14 : decode cX3_atEnd 14 = .ok (.if_icmp .ne 7, 3) := by decide +kernel
theorem dX3_atEnd_17 : decode cX3_atEnd 17 = .ok (.iconst 1, 1) := by decide +kernel
theorem dX3_atEnd_18 : decode cX3_atEnd 18 = .ok (.goto 4, 3) := by decide +kernel
theorem dX3_atEnd_21 : decode cX3_atEnd 21 = .ok (.iconst 0, 1) := by decide +kernel
theorem dX3_atEnd_22 : decode cX3_atEnd 22 = .ok (.ireturn, 1) := by decide +kernel
set_option maxHeartbeats 4000000 in
set_option maxRecDepth 100000 in
theorem c_X3_atEnd {l : Launch} {g : GW} {x w : Nat} (μ : Mm) (hR : RdR μ x w) : Con l g yX3_atEnd cX3_atEnd 1 (some .boolean) 0 [.ref 3] μ (fun r μ' => r = some (.int (bI (w == 3 && x == 6))) ∧ μ' = μ) := by
  obtain ⟨d1, d2, d3, d4⟩ := id hR
  refine Con.of [.ref 3] 0 (by decide +kernel) (Nat.le_of_ble_eq_true rfl) rfl ?_
  refine V_aload_n (pc := 0) dX3_atEnd_0 rfl rfl ?_
  refine V_getI (pc := 1) (ci := 3) (j := 1) dX3_atEnd_1 fl_X3_20 (fun _ _ _ _ => rfl) (by decide) rfl ?_
  refine V_iconst (pc := 4) (v := 3) dX3_atEnd_4 (by decide) ?_
  refine V_icmpne (pc := 5) (tgt := 21) dX3_atEnd_5 (by decide) (fun h5 => ?_) (fun h5 => ?_)
  · rw [d3] at h5; have h5 := mt (nI_eq (a := w) (b := 3) (by omega) (by omega)).mpr h5
    refine V_iconst (pc := 21) (v := 0) dX3_atEnd_21 (by decide) ?_
    refine V_zret (pc := 22) dX3_atEnd_22 rfl (by first | exact Or.inl rfl | exact Or.inr rfl | assumption) ?_
    exact ⟨congrArg (fun z => some (Value.int z)) (by simp_all [bI]), rfl⟩
  rw [d3] at h5; have h5 := (nI_eq (a := w) (b := 3) (by omega) (by omega)).mp h5
  refine V_aload_n (pc := 8) dX3_atEnd_8 rfl rfl ?_
  refine V_getI (pc := 9) (ci := 3) (j := 0) dX3_atEnd_9 fl_X3_16 (fun _ _ _ _ => rfl) (by decide) rfl ?_
  refine V_bipush (pc := 12) (v := 6) dX3_atEnd_12 (by decide) ?_
  refine V_icmpne (pc := 14) (tgt := 21) dX3_atEnd_14 (by decide) (fun h14 => ?_) (fun h14 => ?_)
  · rw [d1] at h14; have h14 := mt (nI_eq (a := x) (b := 6) (by omega) (by omega)).mpr h14
    refine V_iconst (pc := 21) (v := 0) dX3_atEnd_21 (by decide) ?_
    refine V_zret (pc := 22) dX3_atEnd_22 rfl (by first | exact Or.inl rfl | exact Or.inr rfl | assumption) ?_
    exact ⟨congrArg (fun z => some (Value.int z)) (by simp_all [bI]), rfl⟩
  rw [d1] at h14; have h14 := (nI_eq (a := x) (b := 6) (by omega) (by omega)).mp h14
  refine V_iconst (pc := 17) (v := 1) dX3_atEnd_17 (by decide) ?_
  refine V_goto (pc := 18) (tgt := 22) dX3_atEnd_18 (by decide) ?_
  refine V_zret (pc := 22) dX3_atEnd_22 rfl (by first | exact Or.inl rfl | exact Or.inr rfl | assumption) ?_
  exact ⟨congrArg (fun z => some (Value.int z)) (by simp_all [bI]), rfl⟩
end
section
theorem dX3_takes_0 : decode cX3_takes 0 = .ok (.aload_n 0, 1) := by decide +kernel
theorem dX3_takes_1 : decode cX3_takes 1 = .ok (.getfield 16, 3) := by decide +kernel
theorem dX3_takes_4 : decode cX3_takes 4 = .ok (.tableswitch 113 0 6 #[44, 71, 98, 113, 113, 113, 107], 44) := by decide +kernel
theorem dX3_takes_48 : decode cX3_takes 48 = .ok (.aload_n 0, 1) := by decide +kernel
theorem dX3_takes_49 : decode cX3_takes 49 = .ok (.iload_n 1, 1) := by decide +kernel
theorem dX3_takes_50 : decode cX3_takes 50 = .ok (.bipush 45, 2) := by decide +kernel
theorem dX3_takes_52 : decode cX3_takes 52 = .ok (.iconst 2, 1) := by decide +kernel
theorem dX3_takes_53 : decode cX3_takes 53 = .ok (.invokevirtual 36, 3) := by decide +kernel
theorem dX3_takes_56 : decode cX3_takes 56 = .ok (.ifCond .ne 13, 3) := by decide +kernel
theorem dX3_takes_59 : decode cX3_takes 59 = .ok (.aload_n 0, 1) := by decide +kernel
theorem dX3_takes_60 : decode cX3_takes 60 = .ok (.iload_n 1, 1) := by decide +kernel
theorem dX3_takes_61 : decode cX3_takes 61 = .ok (.aload_n 2, 1) := by decide +kernel
theorem dX3_takes_62 : decode cX3_takes 62 = .ok (.iconst 1, 1) := by decide +kernel
theorem dX3_takes_63 : decode cX3_takes 63 = .ok (.invokevirtual 40, 3) := by decide +kernel
theorem dX3_takes_66 : decode cX3_takes 66 = .ok (.ifCond .eq 7, 3) := by decide +kernel
theorem dX3_takes_69 : decode cX3_takes 69 = .ok (.iconst 1, 1) := by decide +kernel
theorem dX3_takes_70 : decode cX3_takes 70 = .ok (.goto 4, 3) := by decide +kernel
theorem dX3_takes_73 : decode cX3_takes 73 = .ok (.iconst 0, 1) := by decide +kernel
theorem dX3_takes_74 : decode cX3_takes 74 = .ok (.ireturn, 1) := by decide +kernel
theorem dX3_takes_75 : decode cX3_takes 75 = .ok (.aload_n 0, 1) := by decide +kernel
theorem dX3_takes_76 : decode cX3_takes 76 = .ok (.iload_n 1, 1) := by decide +kernel
theorem dX3_takes_77 : decode cX3_takes 77 = .ok (.bipush 58, 2) := by decide +kernel
theorem dX3_takes_79 : decode cX3_takes 79 = .ok (.iconst 3, 1) := by decide +kernel
theorem dX3_takes_80 : decode cX3_takes 80 = .ok (.invokevirtual 36, 3) := by decide +kernel
theorem dX3_takes_83 : decode cX3_takes 83 = .ok (.ifCond .ne 13, 3) := by decide +kernel
theorem dX3_takes_86 : decode cX3_takes 86 = .ok (.aload_n 0, 1) := by decide +kernel
theorem dX3_takes_87 : decode cX3_takes 87 = .ok (.iload_n 1, 1) := by decide +kernel
theorem dX3_takes_88 : decode cX3_takes 88 = .ok (.aload_n 2, 1) := by decide +kernel
theorem dX3_takes_89 : decode cX3_takes 89 = .ok (.iconst 2, 1) := by decide +kernel
theorem dX3_takes_90 : decode cX3_takes 90 = .ok (.invokevirtual 40, 3) := by decide +kernel
theorem dX3_takes_93 : decode cX3_takes 93 = .ok (.ifCond .eq 7, 3) := by decide +kernel
theorem dX3_takes_96 : decode cX3_takes 96 = .ok (.iconst 1, 1) := by decide +kernel
theorem dX3_takes_97 : decode cX3_takes 97 = .ok (.goto 4, 3) := by decide +kernel
theorem dX3_takes_100 : decode cX3_takes 100 = .ok (.iconst 0, 1) := by decide +kernel
theorem dX3_takes_101 : decode cX3_takes 101 = .ok (.ireturn, 1) := by decide +kernel
theorem dX3_takes_102 : decode cX3_takes 102 = .ok (.aload_n 0, 1) := by decide +kernel
theorem dX3_takes_103 : decode cX3_takes 103 = .ok (.iload_n 1, 1) := by decide +kernel
theorem dX3_takes_104 : decode cX3_takes 104 = .ok (.bipush 58, 2) := by decide +kernel
theorem dX3_takes_106 : decode cX3_takes 106 = .ok (.iconst 3, 1) := by decide +kernel
theorem dX3_takes_107 : decode cX3_takes 107 = .ok (.invokevirtual 36, 3) := by decide +kernel
theorem dX3_takes_110 : decode cX3_takes 110 = .ok (.ireturn, 1) := by decide +kernel
theorem dX3_takes_111 : decode cX3_takes 111 = .ok (.aload_n 0, 1) := by decide +kernel
theorem dX3_takes_112 : decode cX3_takes 112 = .ok (.iload_n 1, 1) := by decide +kernel
theorem dX3_takes_113 : decode cX3_takes 113 = .ok (.invokevirtual 44, 3) := by decide +kernel
theorem dX3_takes_116 : decode cX3_takes 116 = .ok (.ireturn, 1) := by decide +kernel
theorem dX3_takes_117 : decode cX3_takes 117 = .ok (.aload_n 0, 1) := by decide +kernel
theorem dX3_takes_118 : decode cX3_takes 118 = .ok (.iload_n 1, 1) := by decide +kernel
theorem dX3_takes_119 : decode cX3_takes 119 = .ok (.aload_n 2, 1) := by decide +kernel
theorem dX3_takes_120 : decode cX3_takes 120 = .ok (.invokevirtual 48, 3) := by decide +kernel
theorem dX3_takes_123 : decode cX3_takes 123 = .ok (.ireturn, 1) := by decide +kernel
set_option maxHeartbeats 4000000 in
set_option maxRecDepth 100000 in
theorem c_X3_takes {l : Launch} {g : GW} {c b x w : Nat} {tn : Nat → Nat → Nat} {ow : Nat → Nat} (μ : Mm) (hc : c < 127) (hb : b = 49 ∨ b = 57) (hB : BkR μ b tn ow) (hR : RdR μ x w) (hok : PsOK (x, w, tn, ow)) : Con l g yX3_takes cX3_takes 3 (some .boolean) 2 [.ref 3, .int (nI c), .ref b] μ (tkQ b c (x, w, tn, ow) μ) := by
  obtain ⟨hb1, hb2, hb3, hb4, hb5, hb6, hrow⟩ := bkF hb
  obtain ⟨d1, d2, d3, d4⟩ := id hR
  refine Con.of [.ref 3, .int (nI c), .ref b] 0 (by decide +kernel) (Nat.le_of_ble_eq_true rfl) rfl ?_
  refine V_aload_n (pc := 0) dX3_takes_0 rfl rfl ?_
  refine V_getI (pc := 1) (ci := 3) (j := 0) dX3_takes_1 fl_X3_16 (fun _ _ _ _ => rfl) (by decide) rfl ?_
  rw [d1]
  have hsel : x = 0 ∨ x = 1 ∨ x = 2 ∨ x = 3 ∨ x = 4 ∨ x = 5 ∨ x = 6 := by omega
  rcases hsel with hs4 | hs4 | hs4 | hs4 | hs4 | hs4 | hs4
  · subst hs4
    refine V_tsIn (pc := 4) (off := 44) (tgt := 48) dX3_takes_4 (by decide) (by decide) (by decide) (by decide) ?_
    refine V_aload_n (pc := 48) dX3_takes_48 rfl rfl ?_
    refine V_iload_n (pc := 49) dX3_takes_49 rfl rfl ?_
    refine V_bipush (pc := 50) (v := 45) dX3_takes_50 (by decide) ?_
    refine V_iconst (pc := 52) (v := 2) dX3_takes_52 (by decide) ?_
    refine V_inv3 (pc := 53) (ci := 3) dX3_takes_53 ml_X3_36 (by decide) rfl ⟨by decide, rfl⟩ (by decide) (Nat.le_of_ble_eq_true rfl) (c_X3_takesMark (m := 45) (t := 2) μ hc (by decide)) ?_
    intro r μ1 hq
    by_cases hm : c = 45
    · rw [if_pos hm] at hq
      obtain ⟨rfl, rfl⟩ := hq
      refine V_ifne (pc := 56) (tgt := 69) dX3_takes_56 (by decide) (fun _ => ?_) (fun h => absurd h (by decide))
      refine V_iconst (pc := 69) (v := 1) dX3_takes_69 (by decide) ?_
      refine V_goto (pc := 70) (tgt := 74) dX3_takes_70 (by decide) ?_
      refine V_zret (pc := 74) dX3_takes_74 rfl (Or.inr rfl) ?_
      exact tkQ_yes (x := 2) (w := w) (tn := tn) (ow := ow) (FrM.rf.set (Or.inl rfl)) (by simp [pst, hm]) (hR.setX (by decide) rfl) (hB.kept (FrM.rf.set (S := fun k => k = 3) rfl) (fun k h1 h2 q => by have : k = 3 := q; omega))
    rw [if_neg hm] at hq
    obtain ⟨rfl, hμ⟩ := hq
    obtain rfl := hμ.symm
    refine V_ifne (pc := 56) (tgt := 69) dX3_takes_56 (by decide) (fun h56 => ?_) (fun h56 => ?_)
    · exact absurd rfl h56
    refine V_aload_n (pc := 59) dX3_takes_59 rfl rfl ?_
    refine V_iload_n (pc := 60) dX3_takes_60 rfl rfl ?_
    refine V_aload_n (pc := 61) dX3_takes_61 rfl rfl ?_
    refine V_iconst (pc := 62) (v := 1) dX3_takes_62 (by decide) ?_
    refine V_inv3 (pc := 63) (ci := 3) dX3_takes_63 ml_X3_40 (by decide) rfl ⟨by decide, rfl⟩ (by decide) (Nat.le_of_ble_eq_true rfl) (c_X3_takesName (t := 1) μ hc (by decide) hb hB hR) ?_
    intro r μ1 hq
    by_cases hn : 48 ≤ c ∧ c < 54 ∧ ow (c - 48) = 0
    · rw [if_pos hn] at hq
      obtain ⟨rfl, k1, k2, k3⟩ := hq
      refine V_ifeq (pc := 66) (tgt := 73) dX3_takes_66 (by decide) (fun h => absurd h (by decide)) (fun _ => ?_)
      refine V_iconst (pc := 69) (v := 1) dX3_takes_69 (by decide) ?_
      refine V_goto (pc := 70) (tgt := 74) dX3_takes_70 (by decide) ?_
      refine V_zret (pc := 74) dX3_takes_74 rfl (Or.inr rfl) ?_
      exact tkQ_yes k3 (by simp [pst, hm, nmP, hn]) k1 k2
    rw [if_neg hn] at hq
    obtain ⟨rfl, hμ⟩ := hq
    obtain rfl := hμ.symm
    refine V_ifeq (pc := 66) (tgt := 73) dX3_takes_66 (by decide) (fun h66 => ?_) (fun h66 => ?_)
    · refine V_iconst (pc := 73) (v := 0) dX3_takes_73 (by decide) ?_
      refine V_zret (pc := 74) dX3_takes_74 rfl (by first | exact Or.inl rfl | exact Or.inr rfl | assumption) ?_
      exact tkQ_no FrM.rf (by simp [pst, hm, nmP]; intro a1 a2 a3; exact hn ⟨a1, a2, a3⟩)
    exact absurd rfl h66
  · subst hs4
    refine V_tsIn (pc := 4) (off := 71) (tgt := 75) dX3_takes_4 (by decide) (by decide) (by decide) (by decide) ?_
    refine V_aload_n (pc := 75) dX3_takes_75 rfl rfl ?_
    refine V_iload_n (pc := 76) dX3_takes_76 rfl rfl ?_
    refine V_bipush (pc := 77) (v := 58) dX3_takes_77 (by decide) ?_
    refine V_iconst (pc := 79) (v := 3) dX3_takes_79 (by decide) ?_
    refine V_inv3 (pc := 80) (ci := 3) dX3_takes_80 ml_X3_36 (by decide) rfl ⟨by decide, rfl⟩ (by decide) (Nat.le_of_ble_eq_true rfl) (c_X3_takesMark (m := 58) (t := 3) μ hc (by decide)) ?_
    intro r μ1 hq
    by_cases hm : c = 58
    · rw [if_pos hm] at hq
      obtain ⟨rfl, rfl⟩ := hq
      refine V_ifne (pc := 83) (tgt := 96) dX3_takes_83 (by decide) (fun _ => ?_) (fun h => absurd h (by decide))
      refine V_iconst (pc := 96) (v := 1) dX3_takes_96 (by decide) ?_
      refine V_goto (pc := 97) (tgt := 101) dX3_takes_97 (by decide) ?_
      refine V_zret (pc := 101) dX3_takes_101 rfl (Or.inr rfl) ?_
      exact tkQ_yes (x := 3) (w := w) (tn := tn) (ow := ow) (FrM.rf.set (Or.inl rfl)) (by simp [pst, hm]) (hR.setX (by decide) rfl) (hB.kept (FrM.rf.set (S := fun k => k = 3) rfl) (fun k h1 h2 q => by have : k = 3 := q; omega))
    rw [if_neg hm] at hq
    obtain ⟨rfl, hμ⟩ := hq
    obtain rfl := hμ.symm
    refine V_ifne (pc := 83) (tgt := 96) dX3_takes_83 (by decide) (fun h83 => ?_) (fun h83 => ?_)
    · exact absurd rfl h83
    refine V_aload_n (pc := 86) dX3_takes_86 rfl rfl ?_
    refine V_iload_n (pc := 87) dX3_takes_87 rfl rfl ?_
    refine V_aload_n (pc := 88) dX3_takes_88 rfl rfl ?_
    refine V_iconst (pc := 89) (v := 2) dX3_takes_89 (by decide) ?_
    refine V_inv3 (pc := 90) (ci := 3) dX3_takes_90 ml_X3_40 (by decide) rfl ⟨by decide, rfl⟩ (by decide) (Nat.le_of_ble_eq_true rfl) (c_X3_takesName (t := 2) μ hc (by decide) hb hB hR) ?_
    intro r μ1 hq
    by_cases hn : 48 ≤ c ∧ c < 54 ∧ ow (c - 48) = 0
    · rw [if_pos hn] at hq
      obtain ⟨rfl, k1, k2, k3⟩ := hq
      refine V_ifeq (pc := 93) (tgt := 100) dX3_takes_93 (by decide) (fun h => absurd h (by decide)) (fun _ => ?_)
      refine V_iconst (pc := 96) (v := 1) dX3_takes_96 (by decide) ?_
      refine V_goto (pc := 97) (tgt := 101) dX3_takes_97 (by decide) ?_
      refine V_zret (pc := 101) dX3_takes_101 rfl (Or.inr rfl) ?_
      exact tkQ_yes k3 (by simp [pst, hm, nmP, hn]) k1 k2
    rw [if_neg hn] at hq
    obtain ⟨rfl, hμ⟩ := hq
    obtain rfl := hμ.symm
    refine V_ifeq (pc := 93) (tgt := 100) dX3_takes_93 (by decide) (fun h93 => ?_) (fun h93 => ?_)
    · refine V_iconst (pc := 100) (v := 0) dX3_takes_100 (by decide) ?_
      refine V_zret (pc := 101) dX3_takes_101 rfl (by first | exact Or.inl rfl | exact Or.inr rfl | assumption) ?_
      exact tkQ_no FrM.rf (by simp [pst, hm, nmP]; intro a1 a2 a3; exact hn ⟨a1, a2, a3⟩)
    exact absurd rfl h93
  · subst hs4
    refine V_tsIn (pc := 4) (off := 98) (tgt := 102) dX3_takes_4 (by decide) (by decide) (by decide) (by decide) ?_
    refine V_aload_n (pc := 102) dX3_takes_102 rfl rfl ?_
    refine V_iload_n (pc := 103) dX3_takes_103 rfl rfl ?_
    refine V_bipush (pc := 104) (v := 58) dX3_takes_104 (by decide) ?_
    refine V_iconst (pc := 106) (v := 3) dX3_takes_106 (by decide) ?_
    refine V_inv3 (pc := 107) (ci := 3) dX3_takes_107 ml_X3_36 (by decide) rfl ⟨by decide, rfl⟩ (by decide) (Nat.le_of_ble_eq_true rfl) (c_X3_takesMark (m := 58) (t := 3) μ hc (by decide)) ?_
    intro r μ1 hq
    by_cases hm : c = 58
    · rw [if_pos hm] at hq
      obtain ⟨rfl, rfl⟩ := hq
      refine V_zret (pc := 110) dX3_takes_110 rfl (Or.inr rfl) ?_
      exact tkQ_yes (x := 3) (w := w) (tn := tn) (ow := ow) (FrM.rf.set (Or.inl rfl)) (by simp [pst, hm]) (hR.setX (by decide) rfl) (hB.kept (FrM.rf.set (S := fun k => k = 3) rfl) (fun k h1 h2 q => by have : k = 3 := q; omega))
    rw [if_neg hm] at hq
    obtain ⟨rfl, hμ⟩ := hq
    obtain rfl := hμ.symm
    refine V_zret (pc := 110) dX3_takes_110 rfl (by first | exact Or.inl rfl | exact Or.inr rfl | assumption) ?_
    exact tkQ_no FrM.rf (by simp [pst, hm])
  · subst hs4
    refine V_tsIn (pc := 4) (off := 113) (tgt := 117) dX3_takes_4 (by decide) (by decide) (by decide) (by decide) ?_
    refine V_aload_n (pc := 117) dX3_takes_117 rfl rfl ?_
    refine V_iload_n (pc := 118) dX3_takes_118 rfl rfl ?_
    refine V_aload_n (pc := 119) dX3_takes_119 rfl rfl ?_
    refine V_inv2 (pc := 120) (ci := 3) dX3_takes_120 ml_X3_48 (by decide) rfl ⟨by decide, rfl⟩ (by decide) (Nat.le_of_ble_eq_true rfl) (c_X3_takesTenths μ hc (by omega) (by omega) hb hB hR (hok.2.2 w _ (by omega) (Or.inr ⟨rfl, by show _ ≤ _ - 3 + 3; omega⟩))) ?_
    intro r μ1 hq
    split at hq
    · rename_i hn
      obtain ⟨rfl, k1, k2, k3⟩ := hq
      refine V_zret (pc := 123) dX3_takes_123 rfl (Or.inr rfl) ?_
      exact tkQ_yes k3 (by rw [pst_t (by decide) (by decide) (by decide) (by decide)]; exact if_pos hn) k1 k2
    rename_i hn
    obtain ⟨rfl, hμ⟩ := hq
    obtain rfl := hμ.symm
    refine V_zret (pc := 123) dX3_takes_123 rfl (by first | exact Or.inl rfl | exact Or.inr rfl | assumption) ?_
    exact tkQ_no FrM.rf (by rw [pst_t (by decide) (by decide) (by decide) (by decide)]; exact if_neg hn)
  · subst hs4
    refine V_tsIn (pc := 4) (off := 113) (tgt := 117) dX3_takes_4 (by decide) (by decide) (by decide) (by decide) ?_
    refine V_aload_n (pc := 117) dX3_takes_117 rfl rfl ?_
    refine V_iload_n (pc := 118) dX3_takes_118 rfl rfl ?_
    refine V_aload_n (pc := 119) dX3_takes_119 rfl rfl ?_
    refine V_inv2 (pc := 120) (ci := 3) dX3_takes_120 ml_X3_48 (by decide) rfl ⟨by decide, rfl⟩ (by decide) (Nat.le_of_ble_eq_true rfl) (c_X3_takesTenths μ hc (by omega) (by omega) hb hB hR (hok.2.2 w _ (by omega) (Or.inr ⟨rfl, by show _ ≤ _ - 3 + 3; omega⟩))) ?_
    intro r μ1 hq
    split at hq
    · rename_i hn
      obtain ⟨rfl, k1, k2, k3⟩ := hq
      refine V_zret (pc := 123) dX3_takes_123 rfl (Or.inr rfl) ?_
      exact tkQ_yes k3 (by rw [pst_t (by decide) (by decide) (by decide) (by decide)]; exact if_pos hn) k1 k2
    rename_i hn
    obtain ⟨rfl, hμ⟩ := hq
    obtain rfl := hμ.symm
    refine V_zret (pc := 123) dX3_takes_123 rfl (by first | exact Or.inl rfl | exact Or.inr rfl | assumption) ?_
    exact tkQ_no FrM.rf (by rw [pst_t (by decide) (by decide) (by decide) (by decide)]; exact if_neg hn)
  · subst hs4
    refine V_tsIn (pc := 4) (off := 113) (tgt := 117) dX3_takes_4 (by decide) (by decide) (by decide) (by decide) ?_
    refine V_aload_n (pc := 117) dX3_takes_117 rfl rfl ?_
    refine V_iload_n (pc := 118) dX3_takes_118 rfl rfl ?_
    refine V_aload_n (pc := 119) dX3_takes_119 rfl rfl ?_
    refine V_inv2 (pc := 120) (ci := 3) dX3_takes_120 ml_X3_48 (by decide) rfl ⟨by decide, rfl⟩ (by decide) (Nat.le_of_ble_eq_true rfl) (c_X3_takesTenths μ hc (by omega) (by omega) hb hB hR (hok.2.2 w _ (by omega) (Or.inr ⟨rfl, by show _ ≤ _ - 3 + 3; omega⟩))) ?_
    intro r μ1 hq
    split at hq
    · rename_i hn
      obtain ⟨rfl, k1, k2, k3⟩ := hq
      refine V_zret (pc := 123) dX3_takes_123 rfl (Or.inr rfl) ?_
      exact tkQ_yes k3 (by rw [pst_t (by decide) (by decide) (by decide) (by decide)]; exact if_pos hn) k1 k2
    rename_i hn
    obtain ⟨rfl, hμ⟩ := hq
    obtain rfl := hμ.symm
    refine V_zret (pc := 123) dX3_takes_123 rfl (by first | exact Or.inl rfl | exact Or.inr rfl | assumption) ?_
    exact tkQ_no FrM.rf (by rw [pst_t (by decide) (by decide) (by decide) (by decide)]; exact if_neg hn)
  · subst hs4
    refine V_tsIn (pc := 4) (off := 107) (tgt := 111) dX3_takes_4 (by decide) (by decide) (by decide) (by decide) ?_
    refine V_aload_n (pc := 111) dX3_takes_111 rfl rfl ?_
    refine V_iload_n (pc := 112) dX3_takes_112 rfl rfl ?_
    refine V_inv1 (pc := 113) (ci := 3) dX3_takes_113 ml_X3_44 (by decide) rfl ⟨by decide, rfl⟩ (by decide) (Nat.le_of_ble_eq_true rfl) (c_X3_takesNextWind μ hc hR) ?_
    intro r μ1 hq
    by_cases hn : w < 3 ∧ c = 47
    · rw [if_pos hn] at hq
      obtain ⟨rfl, k1, k2⟩ := hq
      refine V_zret (pc := 116) dX3_takes_116 rfl (Or.inr rfl) ?_
      exact tkQ_yes (x := 0) (w := w + 1) (tn := tn) (ow := ow) (k2.wk (fun k hk => Or.inl hk)) (by simp [pst, hn]) k1 (hB.kept k2 (fun k h1 h2 q => by have : k = 3 := q; omega))
    rw [if_neg hn] at hq
    obtain ⟨rfl, hμ⟩ := hq
    obtain rfl := hμ.symm
    refine V_zret (pc := 116) dX3_takes_116 rfl (by first | exact Or.inl rfl | exact Or.inr rfl | assumption) ?_
    exact tkQ_no FrM.rf (by simp [pst]; intro a1 a2; exact hn ⟨a1, a2⟩)
theorem dX3_read_0 : decode cX3_read 0 = .ok (.aload_n 2, 1) := by decide +kernel
theorem dX3_read_1 : decode cX3_read 1 = .ok (.invokevirtual 11, 3) := by decide +kernel
theorem dX3_read_4 : decode cX3_read 4 = .ok (.aload_n 0, 1) := by decide +kernel
theorem dX3_read_5 : decode cX3_read 5 = .ok (.iconst 0, 1) := by decide +kernel
theorem dX3_read_6 : decode cX3_read 6 = .ok (.putfield 16, 3) := by decide +kernel
theorem dX3_read_9 : decode cX3_read 9 = .ok (.aload_n 0, 1) := by decide +kernel
theorem dX3_read_10 : decode cX3_read 10 = .ok (.iconst 0, 1) := by decide +kernel
theorem dX3_read_11 : decode cX3_read 11 = .ok (.putfield 20, 3) := by decide +kernel
theorem dX3_read_14 : decode cX3_read 14 = .ok (.iconst 0, 1) := by decide +kernel
theorem dX3_read_15 : decode cX3_read 15 = .ok (.istore_n 3, 1) := by decide +kernel
theorem dX3_read_16 : decode cX3_read 16 = .ok (.iload_n 3, 1) := by decide +kernel
theorem dX3_read_17 : decode cX3_read 17 = .ok (.aload_n 1, 1) := by decide +kernel
theorem dX3_read_18 : decode cX3_read 18 = .ok (.getfield 23, 3) := by decide +kernel
theorem dX3_read_21 : decode cX3_read 21 = .ok (.if_icmp .ge 25, 3) := by decide +kernel
theorem dX3_read_24 : decode cX3_read 24 = .ok (.aload_n 0, 1) := by decide +kernel
theorem dX3_read_25 : decode cX3_read 25 = .ok (.aload_n 1, 1) := by decide +kernel
theorem dX3_read_26 : decode cX3_read 26 = .ok (.getfield 28, 3) := by decide +kernel
theorem dX3_read_29 : decode cX3_read 29 = .ok (.iload_n 3, 1) := by decide +kernel
theorem dX3_read_30 : decode cX3_read 30 = .ok (.iaload, 1) := by decide +kernel
theorem dX3_read_31 : decode cX3_read 31 = .ok (.aload_n 2, 1) := by decide +kernel
theorem dX3_read_32 : decode cX3_read 32 = .ok (.invokevirtual 32, 3) := by decide +kernel
theorem dX3_read_35 : decode cX3_read 35 = .ok (.ifCond .ne 5, 3) := by decide +kernel
theorem dX3_read_38 : decode cX3_read 38 = .ok (.iload_n 3, 1) := by decide +kernel
theorem dX3_read_39 : decode cX3_read 39 = .ok (.ireturn, 1) := by decide +kernel
theorem dX3_read_40 : decode cX3_read 40 = .ok (.iinc 3 1, 3) := by decide +kernel
theorem dX3_read_43 : decode cX3_read 43 = .ok (.goto (-27), 3) := by decide +kernel
theorem dX3_read_46 : decode cX3_read 46 = .ok (.aload_n 1, 1) := by decide +kernel
theorem dX3_read_47 : decode cX3_read 47 = .ok (.getfield 23, 3) := by decide +kernel
theorem dX3_read_50 : decode cX3_read 50 = .ok (.ireturn, 1) := by decide +kernel
set_option maxHeartbeats 4000000 in
set_option maxRecDepth 100000 in
theorem c_X3_read {l : Launch} {g : GW} {b n : Nat} {cd : Nat → Nat} (μ : Mm) (hb : b = 49 ∨ b = 57) (hP : PgR μ n cd) : Con l g yX3_read cX3_read 4 (some .int) 3 [.ref 3, .ref 1, .ref b] μ (fun r μ' => r = some (.int (nI (faT cd n))) ∧ FrM (rdS b) μ μ' ∧ ∀ q, prT cd n = some q → RdR μ' q.1 q.2.1 ∧ BkR μ' b q.2.2.1 q.2.2.2) := by
  obtain ⟨hb1, hb2, hb3, hb4, hb5, hb6, hrow⟩ := bkF hb
  obtain ⟨p1, p2, p3⟩ := id hP
  have hb3 : b ≠ 3 := by omega
  refine Con.of [.ref 3, .ref 1, .ref b, .null] 1 (by decide +kernel) (Nat.le_of_ble_eq_true rfl) rfl ?_
  refine V_aload_n (pc := 0) dX3_read_0 rfl rfl ?_
  refine V_inv0 (pc := 1) (ci := 0) dX3_read_1 ml_X3_11 (by first | decide | omega) (by first | rfl | assumption | decide) ⟨by decide, rfl⟩ (by decide) (Nat.le_of_ble_eq_true rfl) (c_X0_clear μ hb) ?_
  rintro _ μ1 ⟨rfl, k1, k2⟩
  refine V_aload_n (pc := 4) dX3_read_4 rfl rfl ?_
  refine V_iconst (pc := 5) (v := 0) dX3_read_5 (by decide) ?_
  refine V_putI (pc := 6) (ci := 3) (j := 0) dX3_read_6 fl_X3_16 (fun _ _ _ _ _ => rfl) rfl rfl (by decide) rfl ?_
  refine V_aload_n (pc := 9) dX3_read_9 rfl rfl ?_
  refine V_iconst (pc := 10) (v := 0) dX3_read_10 (by decide) ?_
  refine V_putI (pc := 11) (ci := 3) (j := 1) dX3_read_11 fl_X3_20 (fun _ _ _ _ _ => rfl) rfl rfl (by decide) rfl ?_
  refine V_iconst (pc := 14) (v := 0) dX3_read_14 (by decide) ?_
  refine V_istore3 (pc := 15) dX3_read_15 (by decide) rfl ?_
  have loopA : ∀ (nA i : Nat) (μ2 : Mm) (x w : Nat) (tn : Nat → Nat → Nat) (ow : Nat → Nat), i ≤ n → n < i + nA → (prT cd i = some (x, w, tn, ow)) → (RdR μ2 x w) → (BkR μ2 b tn ow) → (FrM (rdS b) μ μ2) → V l g RX3 cX3_read 4 (some .int) 3 16 [.ref 3, .ref 1, .ref b, .int (nI i)] [] μ2 (fun r μ' => r = some (.int (nI (faT cd n))) ∧ FrM (rdS b) μ μ' ∧ ∀ q, prT cd n = some q → RdR μ' q.1 q.2.1 ∧ BkR μ' b q.2.2.1 q.2.2.2) := by
    intro nA
    induction nA with
    | zero => intro i μ2 x w tn ow h1 h2; exact absurd h2 (by omega)
    | succ nA ihA =>
      intro i μ2 x w tn ow hleA hfuA q1 q2 q3 q4
      refine V_iload_n (pc := 16) dX3_read_16 rfl rfl ?_
      refine V_aload_n (pc := 17) dX3_read_17 rfl rfl ?_
      refine V_getI (pc := 18) (ci := 2) (j := 1) dX3_read_18 fl_X3_23 (fun _ _ _ _ => rfl) (by decide) rfl ?_
      refine V_icmpge (pc := 21) (tgt := 46) dX3_read_21 (by decide) (fun h21 => ?_) (fun h21 => ?_)
      · rw [q4.1 1 (fun q => by rcases q with q | q <;> omega), p1, nI_leI (by omega) (by omega)] at h21; obtain rfl : i = n := by omega
        refine V_aload_n (pc := 46) dX3_read_46 rfl rfl ?_
        refine V_getI (pc := 47) (ci := 2) (j := 1) dX3_read_47 fl_X3_23 (fun _ _ _ _ => rfl) (by decide) rfl ?_
        refine V_iret (pc := 50) dX3_read_50 rfl ?_
        exact ⟨by rw [q4.1 1 (fun q => by rcases q with q | q <;> omega), p1, faT_all q1], q4, fun q hq => by rw [q1] at hq; cases hq; exact ⟨q2, q3⟩⟩
      rw [q4.1 1 (fun q => by rcases q with q | q <;> omega), p1, nI_leI (by omega) (by omega)] at h21; have hlt : i < n := (by omega)
      refine V_aload_n (pc := 24) dX3_read_24 rfl rfl ?_
      refine V_aload_n (pc := 25) dX3_read_25 rfl rfl ?_
      refine V_getR (pc := 26) (ci := 2) (j := 0) (k2 := 2) dX3_read_26 fl_X3_28 (fun _ _ _ _ => rfl) (by decide) rfl (rf_2_0 rfl) ?_
      refine V_iload_n (pc := 29) dX3_read_29 rfl rfl ?_
      refine V_iald (pc := 30) (j := i) dX3_read_30 (by decide) rfl rfl (by show i < 30; omega) ?_
      rw [q4.1 2 (fun q => by rcases q with q | q <;> omega), (p3 i (by omega)).1]
      refine V_aload_n (pc := 31) dX3_read_31 rfl rfl ?_
      refine V_inv2 (pc := 32) (ci := 3) dX3_read_32 ml_X3_32 (by decide) rfl ⟨by decide, rfl⟩ (by decide) (Nat.le_of_ble_eq_true rfl) (c_X3_takes μ2 (show cd i < 127 by have := (p3 i (by omega)).2; omega) hb q3 q2 (prT_ok q1)) ?_
      intro r μ3 hq
      obtain ⟨k3, k4⟩ := hq
      cases hp : pst (cd i) (x, w, tn, ow) with
      | none =>
        rw [hp] at k4
        have k4 : r = some (.int 0) := k4
        subst k4
        refine V_ifne (pc := 35) (tgt := 40) dX3_read_35 (by decide) (fun h => absurd rfl h) (fun _ => ?_)
        refine V_iload_n (pc := 38) dX3_read_38 rfl rfl ?_
        refine V_iret (pc := 39) dX3_read_39 rfl ?_
        have hno : prT cd (i + 1) = none := by simp only [prT]; rw [q1]; exact hp
        exact ⟨by rw [faT_at q1 hno n (by omega)], q4.tr k3 (fun _ q => q), fun q hq => by rw [prT_none (i + 1) n hno (by omega)] at hq; cases hq⟩
      | some q' =>
        obtain ⟨x', w', tn', ow'⟩ := q'
        rw [hp] at k4
        obtain ⟨k5, k6, k7⟩ := k4
        subst k5
        refine V_ifne (pc := 35) (tgt := 40) dX3_read_35 (by decide) (fun _ => ?_) (fun h => absurd h (by decide))
        refine V_iinc3 (pc := 40) (v := nI (i + 1)) dX3_read_40 (nI_1 i) (by decide) rfl ?_
        refine V_goto (pc := 43) (tgt := 16) dX3_read_43 (by decide) ?_
        exact ihA (i + 1) μ3 x' w' tn' ow' (by omega) (by omega) (by simp only [prT]; rw [q1]; exact hp) k6 k7 (q4.tr k3 (fun _ q => q))
  exact loopA (n + 1) 0 _ 0 0 _ _ (by omega) (by omega) rfl ⟨by rw [get_ne (by omega), get_eq]; rfl, by decide, by rw [get_eq]; rfl, by decide⟩ (k1.kept (FrM.set (S := fun k => k = 3) (FrM.rf.set rfl) rfl) (fun k h1 h2 q => by have : k = 3 := q; omega)) ((((FrM.rf (S := rdS b)).tr k2 (fun k hk => Or.inr hk)).set (Or.inl rfl)).set (Or.inl rfl))
end
section

/-! ===== the state of a sea as both sides tell it ===== -/
abbrev AT : Type := (Nat × (Nat → Nat)) × (Nat × (Nat → Nat → Nat) × (Nat → Nat)) × SeaT × (Bool × SeaT) × (Bool × Nat × Nat × (Nat → Nat))
def mkA (pn : Nat) (pc : Nat → Nat) (nb : Nat) (tn : Nat → Nat → Nat) (ow : Nat → Nat) (σ : SeaT) (kf : Bool) (ks : SeaT) (wb : Bool) (wk wn : Nat) (wp : Nat → Nat) : AT := ((pn, pc), (nb, tn, ow), σ, (kf, ks), (wb, wk, wn, wp))
def aPn (a : AT) : Nat := a.1.1
def aPc (a : AT) : Nat → Nat := a.1.2
def aNb (a : AT) : Nat := a.2.1.1
def aTn (a : AT) : Nat → Nat → Nat := a.2.1.2.1
def aOw (a : AT) : Nat → Nat := a.2.1.2.2
def aS (a : AT) : SeaT := a.2.2.1
def aKf (a : AT) : Bool := a.2.2.2.1.1
def aKs (a : AT) : SeaT := a.2.2.2.1.2
def aWb (a : AT) : Bool := a.2.2.2.2.1
def aWk (a : AT) : Nat := a.2.2.2.2.2.1
def aWn (a : AT) : Nat := a.2.2.2.2.2.2.1
def aWp (a : AT) : Nat → Nat := a.2.2.2.2.2.2.2
/-- the class's cells hold a state -/
def RC (μ : Mm) (a : AT) : Prop := PgR μ (aPn a) (aPc a) ∧ μ.1 0 9 = nI (aNb a) ∧ aNb a ≤ 600 ∧ μ.1 0 10 = bI (aKf a) ∧ (∃ b, (b = 49 ∨ b = 57) ∧ μ.2.2.1 = b ∧ μ.2.2.2 = 106 - b ∧ BkR μ b (aTn a) (aOw a)) ∧ SeaR μ 4 (aS a) ∧ SeaR μ 13 (aKs a) ∧ (∃ τ, SeaR μ 22 τ) ∧ WkR μ (aWb a) (aWk a) (aWn a) (aWp a)
/-- a call of the class leaves the reference's cells -/
def FrC (μ μ' : Mm) : Prop := (∀ k, 65 ≤ k → μ'.1 k = μ.1 k) ∧ μ'.2.1 = μ.2.1
theorem FrC.rf {μ : Mm} : FrC μ μ := ⟨fun _ _ => rfl, rfl⟩
theorem FrM.C {S : Nat → Prop} {μ μ' : Mm} (h : FrM S μ μ') (hS : ∀ k, S k → k < 65) : FrC μ μ' := ⟨fun k hk => h.1 k (fun q => by have := hS k q; omega), by rw [h.2]⟩
theorem FrC.tr {μ μ' μ2 : Mm} (h : FrC μ μ') (h2 : FrC μ' μ2) : FrC μ μ2 := ⟨fun k hk => (h2.1 k hk).trans (h.1 k hk), h2.2.trans h.2⟩
/-- an int names one of n things -/
def inN (x : Int32) (n : Nat) : Bool := decide (0 ≤ x.toInt ∧ x.toInt < (n : Int))
def inD (x : Int32) (n : Nat) : Bool := decide (1 ≤ x.toInt ∧ x.toInt ≤ (n : Int))
def nn (x : Int32) : Nat := x.toNatClampNeg
theorem nn_nI {j : Nat} (h : j < 2 ^ 31) : nn (nI j) = j := nI_clamp h
theorem i0 : (0 : Int32).toInt = 0 := by decide
theorem i1 : (1 : Int32).toInt = 1 := by decide
theorem inR_N {x M : Int32} {n : Nat} (hM : M.toInt = (n : Int)) : inR x M = inN x n := by
  unfold inR inN
  rw [Bool.eq_iff_iff, Bool.and_eq_true, decide_eq_true_eq, decide_eq_true_eq, decide_eq_true_eq, Int32.lt_iff_toInt_lt, Int32.le_iff_toInt_le, hM, i0]
  omega
theorem inN_of {x : Int32} {n : Nat} (hn : n < 2 ^ 31) (h : inN x n = true) : ∃ j, j < n ∧ x = nI j := by
  rw [← inR_N (M := nI n) (nI_toInt hn)] at h
  exact inR_of rfl hn h
theorem inN_nI {j n : Nat} (hj : j < 2 ^ 31) : inN (nI j) n = decide (j < n) := by
  unfold inN
  rw [nI_toInt hj]
  congr 1
  rw [eq_iff_iff]
  omega
theorem inN_t {x M : Int32} {n : Nat} (hM : M.toInt = (n : Int)) (h : ¬ x < 0) (h2 : ¬ M ≤ x) : inN x n = true := by
  unfold inN
  rw [decide_eq_true_eq]
  rw [Int32.lt_iff_toInt_lt, i0] at h
  rw [Int32.le_iff_toInt_le, hM] at h2
  omega
theorem inN_f1 {x : Int32} {n : Nat} (h : x < 0) : inN x n = false := by
  unfold inN
  rw [decide_eq_false_iff_not]
  rw [Int32.lt_iff_toInt_lt, i0] at h
  omega
theorem inN_f2 {x M : Int32} {n : Nat} (hM : M.toInt = (n : Int)) (h2 : M ≤ x) : inN x n = false := by
  unfold inN
  rw [decide_eq_false_iff_not]
  rw [Int32.le_iff_toInt_le, hM] at h2
  omega
theorem inN_t' {x M : Int32} {n : Nat} (hM : M.toInt + 1 = (n : Int)) (h : ¬ x < 0) (h2 : ¬ M < x) : inN x n = true := by
  unfold inN
  rw [decide_eq_true_eq]
  rw [Int32.lt_iff_toInt_lt, i0] at h
  rw [Int32.lt_iff_toInt_lt] at h2
  omega
theorem inN_f2' {x M : Int32} {n : Nat} (hM : M.toInt + 1 = (n : Int)) (h2 : M < x) : inN x n = false := by
  unfold inN
  rw [decide_eq_false_iff_not]
  rw [Int32.lt_iff_toInt_lt] at h2
  omega
theorem inD_t {x M : Int32} {n : Nat} (hM : M.toInt = (n : Int)) (h : ¬ x < 1) (h2 : ¬ M < x) : inD x n = true := by
  unfold inD
  rw [decide_eq_true_eq]
  rw [Int32.lt_iff_toInt_lt, i1] at h
  rw [Int32.lt_iff_toInt_lt] at h2
  omega
theorem inD_f1 {x : Int32} {n : Nat} (h : x < 1) : inD x n = false := by
  unfold inD
  rw [decide_eq_false_iff_not]
  rw [Int32.lt_iff_toInt_lt, i1] at h
  omega
theorem inD_f2 {x M : Int32} {n : Nat} (hM : M.toInt = (n : Int)) (h2 : M < x) : inD x n = false := by
  unfold inD
  rw [decide_eq_false_iff_not]
  rw [Int32.lt_iff_toInt_lt] at h2
  omega
theorem inD_of {x : Int32} {n : Nat} (hn : n < 2 ^ 31) (h : inD x n = true) : ∃ d, d + 1 ≤ n ∧ x = nI (d + 1) := by
  have h2 : 1 ≤ x.toInt ∧ x.toInt ≤ (n : Int) := of_decide_eq_true h
  obtain ⟨j, hj, rfl⟩ := nI_of (x := x) (by rw [Int32.lt_iff_toInt_lt, i0]; omega)
  rw [nI_toInt hj] at h2
  exact ⟨j - 1, by omega, by rw [Nat.sub_add_cancel (by omega)]⟩
theorem bI_ne {b : Bool} (h : ¬ bI b = 0) : b = true := by cases b; exact absurd rfl h; rfl
theorem bI_e {b : Bool} (h : bI b = 0) : b = false := (bI_0 b).mp h
def tel (σ : SeaT) (i q : Nat) : Int32 := if q = 0 then nI (sK σ i) else if q = 1 then nI (sP σ i) else if q = 2 then cI (sC σ i) else if q = 3 then sV σ i else sT σ i
theorem tel_eq {μ : Mm} {z i q : Nat} {σ : SeaT} (h : ShR μ z (sK σ i) (sP σ i) (sC σ i) (sV σ i) (sT σ i)) (hq : q ≤ 4) : μ.1 z q = tel σ i q := by
  obtain ⟨z1, z2, z3, z4, z5, z6, z7, z8⟩ := h
  rcases (show q = 0 ∨ q = 1 ∨ q = 2 ∨ q = 3 ∨ q = 4 by omega) with rfl | rfl | rfl | rfl | rfl
  · exact z1
  · exact z3
  · exact z5
  · exact z7
  · exact z8
/-! what each call answers -/
def fTenths (a : AT) (x y : Int32) : Int32 := if inN x 5 && inN y 3 then (if 0 < aNb a then nI (aTn a (nn x) (nn y)) else -103) else -101
def fWindOf (a : AT) (x : Int32) : Int32 := if inN x 6 then (if 0 < aNb a then cI (aOw a (nn x)) else -103) else -101
def fAbout (a : AT) (x y : Int32) : Int32 := if inN x (sN (aS a)) then (if inN y 5 then tel (aS a) (nn x) (nn y) else -102) else -101
def isA (κ q : Nat) : Bool := q == 0 || q == κ || (q == 3 && κ == 4)
def fAs (a : AT) (x y : Int32) : Int32 := if inN x (sN (aS a)) then (if inN y 5 then (if isA (sK (aS a) (nn x)) (nn y) then x else -1) else -102) else -101
def fSpent (a : AT) (x : Int32) : Int32 := if inN x 6 then bI ((sS (aS a)).testBit (nn x)) else -101
def fGuess (a : AT) (x : Int32) : Int32 := if inN x 6 then sG (aS a) (nn x) else -101
def fTells (a : AT) : Int32 := if 0 < aNb a then nI (tellT (aTn a) 3) else -103
def fCalled (a : AT) : Int32 := if aWb a then nI (wyT (aTn a) (aOw a) (aWk a) (aWp a) (aWn a)) else -103
def fBy (a : AT) (x : Int32) : Int32 := if aWb a then (if inN x (aWn a) then cI (byT (aTn a) (aOw a) (aWk a) (aWp a) (aWn a) (nn x)) else -101) else -103
def isPt (z : Int32) : Bool := decide (z = 0) || decide (z = 1)
def fLikely (a : AT) (x y z : Int32) : Int64 := if inN x (sN (aS a)) then (if inD y 4 && isPt z then
    (let c := chT (aTn a) (aOw a) (sK (aS a) (nn x)) (nn y) (sP (aS a) (nn x)) (63 - sS (aS a)); lN ((if z = 0 then c else 30 ^ nn y) / Nat.gcd c (30 ^ nn y))) else -102) else -101
def fWhat (a : AT) (x y z : Int32) : Int32 := if inN x (sN (aS a)) && inN y 3 then (if inD z 4 then
    cI (beT (aTn a) (aOw a) (sK (aS a) (nn x)) (chT (aTn a) (aOw a) (sK (aS a) (nn x)) (nn z - 1)) (sP (aS a) (nn x)) (63 - sS (aS a)) (nn y) 6).1 else -102) else -101
def suD (tn : Nat → Nat → Nat) (ow : Nat → Nat) (κ p F : Nat) : Nat → Nat
  | 0 => 5
  | n + 1 => if chT tn ow κ (4 - n) p F = 30 ^ (4 - n) then 4 - n else suD tn ow κ p F n
def fSure (a : AT) (x : Int32) : Int32 := if inN x (sN (aS a)) then
    (let d := suD (aTn a) (aOw a) (sK (aS a) (nn x)) (sP (aS a) (nn x)) (63 - sS (aS a)) 5; if d = 5 then -1 else nI d) else -101
def fRace (a : AT) (x y z p : Int32) : Int64 := if inN x (sN (aS a)) && inN y (sN (aS a)) && !(decide (x = y)) then (if inD z 6 && isPt p then
    (let c := raT (aTn a) (aOw a) (nn z) (sP (aS a) (nn x)) (sP (aS a) (nn y)); lN ((if p = 0 then c else 30 ^ nn z) / Nat.gcd c (30 ^ nn z))) else -102) else -101
def fCount (a : AT) (x : Int32) : Int32 := if inN x 9 then (if nn x = 0 then nI (nmT (aOw a) 6) else if nn x = 1 then nI (sN (aS a)) else if nn x = 2 then nI (homeT (sP (aS a)) (sN (aS a))) else if nn x = 3 then nI (cntB (sS (aS a))) else if nn x = 4 then sD (aS a) else if nn x = 5 then nI (sA (aS a)) else if nn x = 6 then nI (aWn a) else if nn x = 7 then nI (aPn a) else nI (aNb a)) else -102
def fYears (a : AT) (x y z : Int32) : Int32 := if inD x 60 && decide (¬ y < 0) && inN z 4 then (if 0 < aNb a then
    (let q := yrT (aTn a) (aOw a) (mkSea (sN (aS a)) (sK (aS a)) (sP (aS a)) (fun _ => 0) (sV (aS a)) (sT (aS a)) (sS (aS a)) (sD (aS a)) (sA (aS a)) (sG (aS a))) (nn y) (nn x)
     if nn z = 0 then nI (homeT (sP q.1) (sN q.1)) else if nn z = 1 then nI (sumP (sP q.1) (sN q.1)) else if nn z = 2 then nI (cntB (sS q.1)) else nI q.2) else -103) else -102
end
section
theorem dX7_isWindOrCalm_0 : decode cX7_isWindOrCalm 0 = .ok (.iload_n 0, 1) := by decide +kernel
theorem dX7_isWindOrCalm_1 : decode cX7_isWindOrCalm 1 = .ok (.ifCond .lt 12, 3) := by decide +kernel
theorem dX7_isWindOrCalm_4 : decode cX7_isWindOrCalm 4 = .ok (.iload_n 0, 1) := by decide +kernel
theorem dX7_isWindOrCalm_5 : decode cX7_isWindOrCalm 5 = .ok (.iconst 4, 1) := by decide +kernel
theorem dX7_isWindOrCalm_6 : decode cX7_isWindOrCalm 6 = .ok (.if_icmp .gt 7, 3) := by decide +kernel
theorem dX7_isWindOrCalm_9 : decode cX7_isWindOrCalm 9 = .ok (.iconst 1, 1) := by decide +kernel
theorem dX7_isWindOrCalm_10 : decode cX7_isWindOrCalm 10 = .ok (.goto 4, 3) := by decide +kernel
theorem dX7_isWindOrCalm_13 : decode cX7_isWindOrCalm 13 = .ok (.iconst 0, 1) := by decide +kernel
theorem dX7_isWindOrCalm_14 : decode cX7_isWindOrCalm 14 = .ok (.ireturn, 1) := by decide +kernel
set_option maxHeartbeats 4000000 in
set_option maxRecDepth 100000 in
theorem c_X7_isWindOrCalm {l : Launch} {g : GW} {x : Int32} (μ : Mm)  : Con l g yX7_isWindOrCalm cX7_isWindOrCalm 1 (some .boolean) 0 [.int x] μ (fun r μ' => r = some (.int (bI (inN x 5))) ∧ μ' = μ) := by
  refine Con.of [.int x] 0 (by decide +kernel) (Nat.le_of_ble_eq_true rfl) rfl ?_
  refine V_iload_n (pc := 0) dX7_isWindOrCalm_0 rfl rfl ?_
  refine V_iflt (pc := 1) (tgt := 13) dX7_isWindOrCalm_1 (by decide) (fun h1 => ?_) (fun h1 => ?_)
  · have e9 := inN_f1 (n := 5) h1
    refine V_iconst (pc := 13) (v := 0) dX7_isWindOrCalm_13 (by decide) ?_
    refine V_zret (pc := 14) dX7_isWindOrCalm_14 rfl (by first | exact Or.inl rfl | exact Or.inr rfl | assumption) ?_
    exact ⟨by rw [e9]; rfl, rfl⟩
  refine V_iload_n (pc := 4) dX7_isWindOrCalm_4 rfl rfl ?_
  refine V_iconst (pc := 5) (v := 4) dX7_isWindOrCalm_5 (by decide) ?_
  refine V_icmpgt (pc := 6) (tgt := 13) dX7_isWindOrCalm_6 (by decide) (fun h6 => ?_) (fun h6 => ?_)
  · have e9 := inN_f2' (n := 5) (M := 4) (by decide) h6
    refine V_iconst (pc := 13) (v := 0) dX7_isWindOrCalm_13 (by decide) ?_
    refine V_zret (pc := 14) dX7_isWindOrCalm_14 rfl (by first | exact Or.inl rfl | exact Or.inr rfl | assumption) ?_
    exact ⟨by rw [e9]; rfl, rfl⟩
  have e9 := inN_t' (n := 5) (M := 4) (by decide) h1 h6
  refine V_iconst (pc := 9) (v := 1) dX7_isWindOrCalm_9 (by decide) ?_
  refine V_goto (pc := 10) (tgt := 14) dX7_isWindOrCalm_10 (by decide) ?_
  refine V_zret (pc := 14) dX7_isWindOrCalm_14 rfl (by first | exact Or.inl rfl | exact Or.inr rfl | assumption) ?_
  exact ⟨by rw [e9]; rfl, rfl⟩
theorem dX7_isPlace_0 : decode cX7_isPlace 0 = .ok (.iload_n 0, 1) := by decide +kernel
theorem dX7_isPlace_1 : decode cX7_isPlace 1 = .ok (.ifCond .lt 13, 3) := by decide +kernel
theorem dX7_isPlace_4 : decode cX7_isPlace 4 = .ok (.iload_n 0, 1) := by decide +kernel
theorem dX7_isPlace_5 : decode cX7_isPlace 5 = .ok (.bipush 9, 2) := by decide +kernel
theorem dX7_isPlace_7 : decode cX7_isPlace 7 = .ok (.if_icmp .gt 7, 3) := by decide +kernel
theorem dX7_isPlace_10 : decode cX7_isPlace 10 = .ok (.iconst 1, 1) := by decide +kernel
theorem dX7_isPlace_11 : decode cX7_isPlace 11 = .ok (.goto 4, 3) := by decide +kernel
theorem dX7_isPlace_14 : decode cX7_isPlace 14 = .ok (.iconst 0, 1) := by decide +kernel
theorem dX7_isPlace_15 : decode cX7_isPlace 15 = .ok (.ireturn, 1) := by decide +kernel
set_option maxHeartbeats 4000000 in
set_option maxRecDepth 100000 in
theorem c_X7_isPlace {l : Launch} {g : GW} {x : Int32} (μ : Mm)  : Con l g yX7_isPlace cX7_isPlace 1 (some .boolean) 0 [.int x] μ (fun r μ' => r = some (.int (bI (inN x 10))) ∧ μ' = μ) := by
  refine Con.of [.int x] 0 (by decide +kernel) (Nat.le_of_ble_eq_true rfl) rfl ?_
  refine V_iload_n (pc := 0) dX7_isPlace_0 rfl rfl ?_
  refine V_iflt (pc := 1) (tgt := 14) dX7_isPlace_1 (by decide) (fun h1 => ?_) (fun h1 => ?_)
  · have e9 := inN_f1 (n := 10) h1
    refine V_iconst (pc := 14) (v := 0) dX7_isPlace_14 (by decide) ?_
    refine V_zret (pc := 15) dX7_isPlace_15 rfl (by first | exact Or.inl rfl | exact Or.inr rfl | assumption) ?_
    exact ⟨by rw [e9]; rfl, rfl⟩
  refine V_iload_n (pc := 4) dX7_isPlace_4 rfl rfl ?_
  refine V_bipush (pc := 5) (v := 9) dX7_isPlace_5 (by decide) ?_
  refine V_icmpgt (pc := 7) (tgt := 14) dX7_isPlace_7 (by decide) (fun h7 => ?_) (fun h7 => ?_)
  · have e9 := inN_f2' (n := 10) (M := 9) (by decide) h7
    refine V_iconst (pc := 14) (v := 0) dX7_isPlace_14 (by decide) ?_
    refine V_zret (pc := 15) dX7_isPlace_15 rfl (by first | exact Or.inl rfl | exact Or.inr rfl | assumption) ?_
    exact ⟨by rw [e9]; rfl, rfl⟩
  have e9 := inN_t' (n := 10) (M := 9) (by decide) h1 h7
  refine V_iconst (pc := 10) (v := 1) dX7_isPlace_10 (by decide) ?_
  refine V_goto (pc := 11) (tgt := 15) dX7_isPlace_11 (by decide) ?_
  refine V_zret (pc := 15) dX7_isPlace_15 rfl (by first | exact Or.inl rfl | exact Or.inr rfl | assumption) ?_
  exact ⟨by rw [e9]; rfl, rfl⟩
theorem dX7_isPart_0 : decode cX7_isPart 0 = .ok (.iload_n 0, 1) := by decide +kernel
theorem dX7_isPart_1 : decode cX7_isPart 1 = .ok (.ifCond .eq 8, 3) := by decide +kernel
theorem dX7_isPart_4 : decode cX7_isPart 4 = .ok (.iload_n 0, 1) := by decide +kernel
theorem dX7_isPart_5 : decode cX7_isPart 5 = .ok (.iconst 1, 1) := by decide +kernel
theorem dX7_isPart_6 : decode cX7_isPart 6 = .ok (.if_icmp .ne 7, 3) := by decide +kernel
theorem dX7_isPart_9 : decode cX7_isPart 9 = .ok (.iconst 1, 1) := by decide +kernel
theorem dX7_isPart_10 : decode cX7_isPart 10 = .ok (.goto 4, 3) := by decide +kernel
theorem dX7_isPart_13 : decode cX7_isPart 13 = .ok (.iconst 0, 1) := by decide +kernel
theorem dX7_isPart_14 : decode cX7_isPart 14 = .ok (.ireturn, 1) := by decide +kernel
set_option maxHeartbeats 4000000 in
set_option maxRecDepth 100000 in
theorem c_X7_isPart {l : Launch} {g : GW} {x : Int32} (μ : Mm)  : Con l g yX7_isPart cX7_isPart 1 (some .boolean) 0 [.int x] μ (fun r μ' => r = some (.int (bI (isPt x))) ∧ μ' = μ) := by
  refine Con.of [.int x] 0 (by decide +kernel) (Nat.le_of_ble_eq_true rfl) rfl ?_
  refine V_iload_n (pc := 0) dX7_isPart_0 rfl rfl ?_
  refine V_ifeq (pc := 1) (tgt := 9) dX7_isPart_1 (by decide) (fun h1 => ?_) (fun h1 => ?_)
  · refine V_iconst (pc := 9) (v := 1) dX7_isPart_9 (by decide) ?_
    refine V_goto (pc := 10) (tgt := 14) dX7_isPart_10 (by decide) ?_
    refine V_zret (pc := 14) dX7_isPart_14 rfl (by first | exact Or.inl rfl | exact Or.inr rfl | assumption) ?_
    exact ⟨congrArg (fun z => some (Value.int z)) (by simp [isPt, bI, *]), rfl⟩
  refine V_iload_n (pc := 4) dX7_isPart_4 rfl rfl ?_
  refine V_iconst (pc := 5) (v := 1) dX7_isPart_5 (by decide) ?_
  refine V_icmpne (pc := 6) (tgt := 13) dX7_isPart_6 (by decide) (fun h6 => ?_) (fun h6 => ?_)
  · refine V_iconst (pc := 13) (v := 0) dX7_isPart_13 (by decide) ?_
    refine V_zret (pc := 14) dX7_isPart_14 rfl (by first | exact Or.inl rfl | exact Or.inr rfl | assumption) ?_
    exact ⟨congrArg (fun z => some (Value.int z)) (by simp [isPt, bI, *]), rfl⟩
  refine V_iconst (pc := 9) (v := 1) dX7_isPart_9 (by decide) ?_
  refine V_goto (pc := 10) (tgt := 14) dX7_isPart_10 (by decide) ?_
  refine V_zret (pc := 14) dX7_isPart_14 rfl (by first | exact Or.inl rfl | exact Or.inr rfl | assumption) ?_
  exact ⟨congrArg (fun z => some (Value.int z)) (by simp [isPt, bI, *]), rfl⟩
theorem dX7_isShip_0 : decode cX7_isShip 0 = .ok (.iload_n 1, 1) := by decide +kernel
theorem dX7_isShip_1 : decode cX7_isShip 1 = .ok (.ifCond .lt 18, 3) := by decide +kernel
theorem dX7_isShip_4 : decode cX7_isShip 4 = .ok (.iload_n 1, 1) := by decide +kernel
theorem dX7_isShip_5 : decode cX7_isShip 5 = .ok (.aload_n 0, 1) := by decide +kernel
theorem dX7_isShip_6 : decode cX7_isShip 6 = .ok (.getfield 26, 3) := by decide +kernel
theorem dX7_isShip_9 : decode cX7_isShip 9 = .ok (.getfield 236, 3) := by decide +kernel
theorem dX7_isShip_12 : decode cX7_isShip 12 = .ok (.if_icmp .ge 7, 3) := by decide +kernel
theorem dX7_isShip_15 : decode cX7_isShip 15 = .ok (.iconst 1, 1) := by decide +kernel
theorem dX7_isShip_16 : decode cX7_isShip 16 = .ok (.goto 4, 3) := by decide +kernel
theorem dX7_isShip_19 : decode cX7_isShip 19 = .ok (.iconst 0, 1) := by decide +kernel
theorem dX7_isShip_20 : decode cX7_isShip 20 = .ok (.ireturn, 1) := by decide +kernel
set_option maxHeartbeats 4000000 in
set_option maxRecDepth 100000 in
theorem c_X7_isShip {l : Launch} {g : GW} {a : AT} {x : Int32} (μ : Mm) (hA : RC μ a)  : Con l g yX7_isShip cX7_isShip 2 (some .boolean) 0 [.ref 0, .int x] μ (fun r μ' => r = some (.int (bI (inN x (sN (aS a))))) ∧ μ' = μ) := by
  obtain ⟨a1, a2, a3, a4, ⟨b, hb, hcur, hdrf, hB⟩, hS, hK, hD, hW⟩ := id hA
  obtain ⟨r1, r2, r3, r4, r5, r6, r7, r8, r9⟩ := id hS
  obtain ⟨w1, w2, w3, w4, w5, w6⟩ := id hW
  obtain ⟨p1, p2, p3⟩ := id a1
  obtain ⟨hb1, hb2, hb3, hb4, hb5, hb6, hrow⟩ := bkF hb
  have hship : ∀ i, i < 6 → 4 + 1 + 1 + i < 88 ∧ kt (4 + 1 + 1 + i) = 5 := (seaF (Or.inl rfl)).2.2.2.2.2.2
  have h4 : (4 : Nat) = 4 ∨ (4 : Nat) = 13 ∨ (4 : Nat) = 22 := Or.inl rfl
  refine Con.of [.ref 0, .int x] 0 (by decide +kernel) (Nat.le_of_ble_eq_true rfl) rfl ?_
  refine V_iload_n (pc := 0) dX7_isShip_0 rfl rfl ?_
  refine V_iflt (pc := 1) (tgt := 19) dX7_isShip_1 (by decide) (fun h1 => ?_) (fun h1 => ?_)
  · have e9 := inN_f1 (n := sN (aS a)) h1
    refine V_iconst (pc := 19) (v := 0) dX7_isShip_19 (by decide) ?_
    refine V_zret (pc := 20) dX7_isShip_20 rfl (by first | exact Or.inl rfl | exact Or.inr rfl | assumption) ?_
    exact ⟨by rw [e9]; rfl, rfl⟩
  refine V_iload_n (pc := 4) dX7_isShip_4 rfl rfl ?_
  refine V_aload_n (pc := 5) dX7_isShip_5 rfl rfl ?_
  refine V_getR (pc := 6) (ci := 7) (j := 2) (k2 := 4) dX7_isShip_6 fl_X7_26 (fun _ _ _ _ => rfl) (by decide) rfl (rf_7_2 rfl) ?_
  refine V_getI (pc := 9) (ci := 4) (j := 2) dX7_isShip_9 fl_X7_236 (fun _ _ _ _ => rfl) (by decide) rfl ?_
  refine V_icmpge (pc := 12) (tgt := 19) dX7_isShip_12 (by decide) (fun h12 => ?_) (fun h12 => ?_)
  · rw [r1] at h12; have e9 := inN_f2 (n := sN (aS a)) (nI_toInt (by omega)) h12
    refine V_iconst (pc := 19) (v := 0) dX7_isShip_19 (by decide) ?_
    refine V_zret (pc := 20) dX7_isShip_20 rfl (by first | exact Or.inl rfl | exact Or.inr rfl | assumption) ?_
    exact ⟨by rw [e9]; rfl, rfl⟩
  rw [r1] at h12; have e9 := inN_t (n := sN (aS a)) (nI_toInt (by omega)) h1 h12
  refine V_iconst (pc := 15) (v := 1) dX7_isShip_15 (by decide) ?_
  refine V_goto (pc := 16) (tgt := 20) dX7_isShip_16 (by decide) ?_
  refine V_zret (pc := 20) dX7_isShip_20 rfl (by first | exact Or.inl rfl | exact Or.inr rfl | assumption) ?_
  exact ⟨by rw [e9]; rfl, rfl⟩
theorem dX7_hasBook_0 : decode cX7_hasBook 0 = .ok (.aload_n 0, 1) := by decide +kernel
theorem dX7_hasBook_1 : decode cX7_hasBook 1 = .ok (.getfield 80, 3) := by decide +kernel
theorem dX7_hasBook_4 : decode cX7_hasBook 4 = .ok (.ifCond .le 7, 3) := by decide +kernel
theorem dX7_hasBook_7 : decode cX7_hasBook 7 = .ok (.iconst 1, 1) := by decide +kernel
theorem dX7_hasBook_8 : decode cX7_hasBook 8 = .ok (.goto 4, 3) := by decide +kernel
theorem dX7_hasBook_11 : decode cX7_hasBook 11 = .ok (.iconst 0, 1) := by decide +kernel
theorem dX7_hasBook_12 : decode cX7_hasBook 12 = .ok (.ireturn, 1) := by decide +kernel
set_option maxHeartbeats 4000000 in
set_option maxRecDepth 100000 in
theorem c_X7_hasBook {l : Launch} {g : GW} {a : AT}  (μ : Mm) (hA : RC μ a)  : Con l g yX7_hasBook cX7_hasBook 1 (some .boolean) 0 [.ref 0] μ (fun r μ' => r = some (.int (bI (decide (0 < aNb a)))) ∧ μ' = μ) := by
  obtain ⟨a1, a2, a3, a4, ⟨b, hb, hcur, hdrf, hB⟩, hS, hK, hD, hW⟩ := id hA
  obtain ⟨r1, r2, r3, r4, r5, r6, r7, r8, r9⟩ := id hS
  obtain ⟨w1, w2, w3, w4, w5, w6⟩ := id hW
  obtain ⟨p1, p2, p3⟩ := id a1
  obtain ⟨hb1, hb2, hb3, hb4, hb5, hb6, hrow⟩ := bkF hb
  have hship : ∀ i, i < 6 → 4 + 1 + 1 + i < 88 ∧ kt (4 + 1 + 1 + i) = 5 := (seaF (Or.inl rfl)).2.2.2.2.2.2
  refine Con.of [.ref 0] 0 (by decide +kernel) (Nat.le_of_ble_eq_true rfl) rfl ?_
  refine V_aload_n (pc := 0) dX7_hasBook_0 rfl rfl ?_
  refine V_getI (pc := 1) (ci := 7) (j := 9) dX7_hasBook_1 fl_X7_80 (fun _ _ _ _ => rfl) (by decide) rfl ?_
  refine V_ifle (pc := 4) (tgt := 11) dX7_hasBook_4 (by decide) (fun h4 => ?_) (fun h4 => ?_)
  · rw [a2] at h4; have h4 := (nI_leI (a := aNb a) (b := 0) (by omega) (by decide)).mp h4; have e9 : decide (0 < aNb a) = false := decide_eq_false (by omega)
    refine V_iconst (pc := 11) (v := 0) dX7_hasBook_11 (by decide) ?_
    refine V_zret (pc := 12) dX7_hasBook_12 rfl (by first | exact Or.inl rfl | exact Or.inr rfl | assumption) ?_
    exact ⟨by rw [e9]; rfl, rfl⟩
  rw [a2] at h4; have h4 := mt (nI_leI (a := aNb a) (b := 0) (by omega) (by decide)).mpr h4; have e9 : decide (0 < aNb a) = true := decide_eq_true (by omega)
  refine V_iconst (pc := 7) (v := 1) dX7_hasBook_7 (by decide) ?_
  refine V_goto (pc := 8) (tgt := 12) dX7_hasBook_8 (by decide) ?_
  refine V_zret (pc := 12) dX7_hasBook_12 rfl (by first | exact Or.inl rfl | exact Or.inr rfl | assumption) ?_
  exact ⟨by rw [e9]; rfl, rfl⟩
theorem dX7_tenths_0 : decode cX7_tenths 0 = .ok (.iload_n 1, 1) := by decide +kernel
theorem dX7_tenths_1 : decode cX7_tenths 1 = .ok (.invokestatic 96, 3) := by decide +kernel
theorem dX7_tenths_4 : decode cX7_tenths 4 = .ok (.ifCond .eq 10, 3) := by decide +kernel
theorem dX7_tenths_7 : decode cX7_tenths 7 = .ok (.iload_n 2, 1) := by decide +kernel
theorem dX7_tenths_8 : decode cX7_tenths 8 = .ok (.invokestatic 100, 3) := by decide +kernel
theorem dX7_tenths_11 : decode cX7_tenths 11 = .ok (.ifCond .ne 6, 3) := by decide +kernel
theorem dX7_tenths_14 : decode cX7_tenths 14 = .ok (.bipush (-101), 2) := by decide +kernel
theorem dX7_tenths_16 : decode cX7_tenths 16 = .ok (.ireturn, 1) := by decide +kernel
theorem dX7_tenths_17 : decode cX7_tenths 17 = .ok (.aload_n 0, 1) := by decide +kernel
theorem dX7_tenths_18 : decode cX7_tenths 18 = .ok (.invokevirtual 103, 3) := by decide +kernel
theorem dX7_tenths_21 : decode cX7_tenths 21 = .ok (.ifCond .eq 17, 3) := by decide +kernel
theorem dX7_tenths_24 : decode cX7_tenths 24 = .ok (.aload_n 0, 1) := by decide +kernel
theorem dX7_tenths_25 : decode cX7_tenths 25 = .ok (.getfield 53, 3) := by decide +kernel
theorem dX7_tenths_28 : decode cX7_tenths 28 = .ok (.getfield 106, 3) := by decide +kernel
theorem dX7_tenths_31 : decode cX7_tenths 31 = .ok (.iload_n 1, 1) := by decide +kernel
theorem dX7_tenths_32 : decode cX7_tenths 32 = .ok (.aaload, 1) := by decide +kernel
theorem dX7_tenths_33 : decode cX7_tenths 33 = .ok (.iload_n 2, 1) := by decide +kernel
theorem dX7_tenths_34 : decode cX7_tenths 34 = .ok (.iaload, 1) := by decide +kernel
theorem dX7_tenths_35 : decode cX7_tenths 35 = .ok (.goto 5, 3) := by decide +kernel
theorem dX7_tenths_38 : decode cX7_tenths 38 = .ok (.bipush (-103), 2) := by decide +kernel
theorem dX7_tenths_40 : decode cX7_tenths 40 = .ok (.ireturn, 1) := by decide +kernel
set_option maxHeartbeats 4000000 in
set_option maxRecDepth 100000 in
theorem c_X7_tenths {l : Launch} {g : GW} {a : AT} {x y : Int32} (μ : Mm) (hA : RC μ a)  : Con l g yX7_tenths cX7_tenths 3 (some .int) 1 [.ref 0, .int x, .int y] μ (fun r μ' => r = some (.int (fTenths a x y)) ∧ μ' = μ) := by
  obtain ⟨a1, a2, a3, a4, ⟨b, hb, hcur, hdrf, hB⟩, hS, hK, hD, hW⟩ := id hA
  obtain ⟨r1, r2, r3, r4, r5, r6, r7, r8, r9⟩ := id hS
  obtain ⟨w1, w2, w3, w4, w5, w6⟩ := id hW
  obtain ⟨p1, p2, p3⟩ := id a1
  obtain ⟨hb1, hb2, hb3, hb4, hb5, hb6, hrow⟩ := bkF hb
  have hship : ∀ i, i < 6 → 4 + 1 + 1 + i < 88 ∧ kt (4 + 1 + 1 + i) = 5 := (seaF (Or.inl rfl)).2.2.2.2.2.2
  have hs4 : (4 : Nat) = 4 ∨ (4 : Nat) = 13 ∨ (4 : Nat) = 22 := Or.inl rfl
  refine Con.of [.ref 0, .int x, .int y] 0 (by decide +kernel) (Nat.le_of_ble_eq_true rfl) rfl ?_
  refine V_iload_n (pc := 0) dX7_tenths_0 rfl rfl ?_
  refine V_ins1 (pc := 1) dX7_tenths_1 ml_X7_96 (by first | decide | omega) (Nat.le_of_ble_eq_true rfl) (c_X7_isWindOrCalm μ) ?_
  rintro _ μ2 ⟨rfl, hμ⟩
  obtain rfl := hμ.symm
  refine V_ifeq (pc := 4) (tgt := 14) dX7_tenths_4 (by decide) (fun h4 => ?_) (fun h4 => ?_)
  · have h4 := bI_e h4
    refine V_bipush (pc := 14) (v := (-101)) dX7_tenths_14 (by decide) ?_
    refine V_iret (pc := 16) dX7_tenths_16 rfl ?_
    refine ⟨congrArg (fun z => some (Value.int z)) ?_, rfl⟩
    first
    | (simp [fTenths, h4]; done)
    | (simp [fTenths, h4, h11]; done)
  have h4 := bI_ne h4
  refine V_iload_n (pc := 7) dX7_tenths_7 rfl rfl ?_
  refine V_ins1 (pc := 8) dX7_tenths_8 ml_X7_100 (by first | decide | omega) (Nat.le_of_ble_eq_true rfl) (c_X7_isSign μ) ?_
  rintro _ μ2 ⟨rfl, hμ⟩
  obtain rfl := hμ.symm
  refine V_ifne (pc := 11) (tgt := 17) dX7_tenths_11 (by decide) (fun h11 => ?_) (fun h11 => ?_)
  · have h11 := bI_ne h11; rw [inR_N (n := 3) (by decide)] at h11
    obtain ⟨i, hi, rfl⟩ := inN_of (by decide) h4
    obtain ⟨j, hj, rfl⟩ := inN_of (by decide) h11
    refine V_aload_n (pc := 17) dX7_tenths_17 rfl rfl ?_
    refine V_inv0 (pc := 18) (ci := 7) dX7_tenths_18 ml_X7_103 (by decide) rfl ⟨by decide, rfl⟩ (by decide) (Nat.le_of_ble_eq_true rfl) (c_X7_hasBook μ hA) ?_
    rintro _ μ2 ⟨rfl, hμ⟩
    obtain rfl := hμ.symm
    refine V_ifeq (pc := 21) (tgt := 38) dX7_tenths_21 (by decide) (fun h21 => ?_) (fun h21 => ?_)
    · have h21 := of_decide_eq_false (bI_e h21)
      refine V_bipush (pc := 38) (v := (-103)) dX7_tenths_38 (by decide) ?_
      refine V_iret (pc := 40) dX7_tenths_40 rfl ?_
      refine ⟨congrArg (fun z => some (Value.int z)) ?_, rfl⟩
      first
      | (simp only [fTenths, h4, h11, nn_nI (j := i) (by omega), nn_nI (j := j) (by omega), Bool.and_self, if_true]; rw [if_pos h21]; exact hB.1 i j hi hj; done)
      | (simp only [fTenths, h4, h11, Bool.and_self, if_true]; rw [if_neg h21]; done)
    have h21 := of_decide_eq_true (bI_ne h21)
    refine V_aload_n (pc := 24) dX7_tenths_24 rfl rfl ?_
    refine V_getR (pc := 25) (ci := 7) (j := 7) (k2 := b) dX7_tenths_25 fl_X7_53 (fun _ _ _ _ => rfl) (by decide) rfl ((rf_7_7 rfl).trans hcur) ?_
    refine V_getR (pc := 28) (ci := 0) (j := 0) (k2 := (b + 1)) dX7_tenths_28 fl_X7_106 (fun _ _ _ _ => rfl) (by first | decide | omega) (by first | rfl | assumption | exact (hship _ (by omega)).2 | exact (hrow _ (by omega)).2.1 | decide) (rf_0_0 (by first | rfl | assumption | exact (hship _ (by omega)).2 | exact (hrow _ (by omega)).2.1 | decide)) ?_
    refine V_iload_n (pc := 31) dX7_tenths_31 rfl rfl ?_
    refine V_aald15 (pc := 32) (j := i) dX7_tenths_32 (by first | decide | omega) (by first | rfl | assumption | exact (hship _ (by omega)).2 | exact (hrow _ (by omega)).2.1 | decide) rfl (by omega) ?_
    refine V_iload_n (pc := 33) dX7_tenths_33 rfl rfl ?_
    refine V_iald (pc := 34) (j := j) dX7_tenths_34 (by first | decide | omega) (by first | rfl | assumption | exact (hship _ (by omega)).2 | exact (hrow _ (by omega)).2.1 | decide) rfl (by have := (hrow i (by omega)).2.2; omega) ?_
    refine V_goto (pc := 35) (tgt := 40) dX7_tenths_35 (by decide) ?_
    refine V_iret (pc := 40) dX7_tenths_40 rfl ?_
    refine ⟨congrArg (fun z => some (Value.int z)) ?_, rfl⟩
    first
    | (simp only [fTenths, h4, h11, nn_nI (j := i) (by omega), nn_nI (j := j) (by omega), Bool.and_self, if_true]; rw [if_pos h21]; exact hB.1 i j hi hj; done)
    | (simp only [fTenths, h4, h11, Bool.and_self, if_true]; rw [if_neg h21]; done)
  have h11 := bI_e h11; rw [inR_N (n := 3) (by decide)] at h11
  refine V_bipush (pc := 14) (v := (-101)) dX7_tenths_14 (by decide) ?_
  refine V_iret (pc := 16) dX7_tenths_16 rfl ?_
  refine ⟨congrArg (fun z => some (Value.int z)) ?_, rfl⟩
  first
  | (simp [fTenths, h4]; done)
  | (simp [fTenths, h4, h11]; done)
theorem dX7_windOf_0 : decode cX7_windOf 0 = .ok (.iload_n 1, 1) := by decide +kernel
theorem dX7_windOf_1 : decode cX7_windOf 1 = .ok (.invokestatic 110, 3) := by decide +kernel
theorem dX7_windOf_4 : decode cX7_windOf 4 = .ok (.ifCond .ne 6, 3) := by decide +kernel
theorem dX7_windOf_7 : decode cX7_windOf 7 = .ok (.bipush (-101), 2) := by decide +kernel
theorem dX7_windOf_9 : decode cX7_windOf 9 = .ok (.ireturn, 1) := by decide +kernel
theorem dX7_windOf_10 : decode cX7_windOf 10 = .ok (.aload_n 0, 1) := by decide +kernel
theorem dX7_windOf_11 : decode cX7_windOf 11 = .ok (.invokevirtual 103, 3) := by decide +kernel
theorem dX7_windOf_14 : decode cX7_windOf 14 = .ok (.ifCond .eq 15, 3) := by decide +kernel
theorem dX7_windOf_17 : decode cX7_windOf 17 = .ok (.aload_n 0, 1) := by decide +kernel
theorem dX7_windOf_18 : decode cX7_windOf 18 = .ok (.getfield 53, 3) := by decide +kernel
theorem dX7_windOf_21 : decode cX7_windOf 21 = .ok (.getfield 113, 3) := by decide +kernel
theorem dX7_windOf_24 : decode cX7_windOf 24 = .ok (.iload_n 1, 1) := by decide +kernel
theorem dX7_windOf_25 : decode cX7_windOf 25 = .ok (.iaload, 1) := by decide +kernel
theorem dX7_windOf_26 : decode cX7_windOf 26 = .ok (.goto 5, 3) := by decide +kernel
theorem dX7_windOf_29 : decode cX7_windOf 29 = .ok (.bipush (-103), 2) := by decide +kernel
theorem dX7_windOf_31 : decode cX7_windOf 31 = .ok (.ireturn, 1) := by decide +kernel
set_option maxHeartbeats 4000000 in
set_option maxRecDepth 100000 in
theorem c_X7_windOf {l : Launch} {g : GW} {a : AT} {x : Int32} (μ : Mm) (hA : RC μ a)  : Con l g yX7_windOf cX7_windOf 2 (some .int) 1 [.ref 0, .int x] μ (fun r μ' => r = some (.int (fWindOf a x)) ∧ μ' = μ) := by
  obtain ⟨a1, a2, a3, a4, ⟨b, hb, hcur, hdrf, hB⟩, hS, hK, hD, hW⟩ := id hA
  obtain ⟨r1, r2, r3, r4, r5, r6, r7, r8, r9⟩ := id hS
  obtain ⟨w1, w2, w3, w4, w5, w6⟩ := id hW
  obtain ⟨p1, p2, p3⟩ := id a1
  obtain ⟨hb1, hb2, hb3, hb4, hb5, hb6, hrow⟩ := bkF hb
  have hship : ∀ i, i < 6 → 4 + 1 + 1 + i < 88 ∧ kt (4 + 1 + 1 + i) = 5 := (seaF (Or.inl rfl)).2.2.2.2.2.2
  have hs4 : (4 : Nat) = 4 ∨ (4 : Nat) = 13 ∨ (4 : Nat) = 22 := Or.inl rfl
  refine Con.of [.ref 0, .int x] 0 (by decide +kernel) (Nat.le_of_ble_eq_true rfl) rfl ?_
  refine V_iload_n (pc := 0) dX7_windOf_0 rfl rfl ?_
  refine V_ins1 (pc := 1) dX7_windOf_1 ml_X7_110 (by first | decide | omega) (Nat.le_of_ble_eq_true rfl) (c_X7_isName μ) ?_
  rintro _ μ2 ⟨rfl, hμ⟩
  obtain rfl := hμ.symm
  refine V_ifne (pc := 4) (tgt := 10) dX7_windOf_4 (by decide) (fun h4 => ?_) (fun h4 => ?_)
  · have h4 := bI_ne h4; rw [inR_N (n := 6) (by decide)] at h4; obtain ⟨i, hi, rfl⟩ := inN_of (by decide) h4
    refine V_aload_n (pc := 10) dX7_windOf_10 rfl rfl ?_
    refine V_inv0 (pc := 11) (ci := 7) dX7_windOf_11 ml_X7_103 (by decide) rfl ⟨by decide, rfl⟩ (by decide) (Nat.le_of_ble_eq_true rfl) (c_X7_hasBook μ hA) ?_
    rintro _ μ2 ⟨rfl, hμ⟩
    obtain rfl := hμ.symm
    refine V_ifeq (pc := 14) (tgt := 29) dX7_windOf_14 (by decide) (fun h14 => ?_) (fun h14 => ?_)
    · have h14 := of_decide_eq_false (bI_e h14)
      refine V_bipush (pc := 29) (v := (-103)) dX7_windOf_29 (by decide) ?_
      refine V_iret (pc := 31) dX7_windOf_31 rfl ?_
      refine ⟨congrArg (fun z => some (Value.int z)) ?_, rfl⟩
      first
      | (simp only [fWindOf, h4, nn_nI (j := i) (by omega), if_true]; rw [if_pos h14]; exact hB.2.1 i hi; done)
      | (simp only [fWindOf, h4, if_true]; rw [if_neg h14]; done)
    have h14 := of_decide_eq_true (bI_ne h14)
    refine V_aload_n (pc := 17) dX7_windOf_17 rfl rfl ?_
    refine V_getR (pc := 18) (ci := 7) (j := 7) (k2 := b) dX7_windOf_18 fl_X7_53 (fun _ _ _ _ => rfl) (by decide) rfl ((rf_7_7 rfl).trans hcur) ?_
    refine V_getR (pc := 21) (ci := 0) (j := 1) (k2 := (b + 7)) dX7_windOf_21 fl_X7_113 (fun _ _ _ _ => rfl) (by first | decide | omega) (by first | rfl | assumption | exact (hship _ (by omega)).2 | exact (hrow _ (by omega)).2.1 | decide) (rf_0_1 (by first | rfl | assumption | exact (hship _ (by omega)).2 | exact (hrow _ (by omega)).2.1 | decide)) ?_
    refine V_iload_n (pc := 24) dX7_windOf_24 rfl rfl ?_
    refine V_iald (pc := 25) (j := i) dX7_windOf_25 (by first | decide | omega) (by first | rfl | assumption | exact (hship _ (by omega)).2 | exact (hrow _ (by omega)).2.1 | decide) rfl (by omega) ?_
    refine V_goto (pc := 26) (tgt := 31) dX7_windOf_26 (by decide) ?_
    refine V_iret (pc := 31) dX7_windOf_31 rfl ?_
    refine ⟨congrArg (fun z => some (Value.int z)) ?_, rfl⟩
    first
    | (simp only [fWindOf, h4, nn_nI (j := i) (by omega), if_true]; rw [if_pos h14]; exact hB.2.1 i hi; done)
    | (simp only [fWindOf, h4, if_true]; rw [if_neg h14]; done)
  have h4 := bI_e h4; rw [inR_N (n := 6) (by decide)] at h4
  refine V_bipush (pc := 7) (v := (-101)) dX7_windOf_7 (by decide) ?_
  refine V_iret (pc := 9) dX7_windOf_9 rfl ?_
  exact ⟨congrArg (fun z => some (Value.int z)) (by simp [fWindOf, h4]), rfl⟩
theorem dX7_about_0 : decode cX7_about 0 = .ok (.aload_n 0, 1) := by decide +kernel
theorem dX7_about_1 : decode cX7_about 1 = .ok (.iload_n 1, 1) := by decide +kernel
theorem dX7_about_2 : decode cX7_about 2 = .ok (.invokevirtual 126, 3) := by decide +kernel
theorem dX7_about_5 : decode cX7_about 5 = .ok (.ifCond .ne 6, 3) := by decide +kernel
theorem dX7_about_8 : decode cX7_about 8 = .ok (.bipush (-101), 2) := by decide +kernel
theorem dX7_about_10 : decode cX7_about 10 = .ok (.ireturn, 1) := by decide +kernel
theorem dX7_about_11 : decode cX7_about 11 = .ok (.iload_n 2, 1) := by decide +kernel
theorem dX7_about_12 : decode cX7_about 12 = .ok (.ifCond .lt 24, 3) := by decide +kernel
theorem dX7_about_15 : decode cX7_about 15 = .ok (.iload_n 2, 1) := by decide +kernel
theorem dX7_about_16 : decode cX7_about 16 = .ok (.iconst 5, 1) := by decide +kernel
theorem dX7_about_17 : decode cX7_about 17 = .ok (.if_icmp .ge 19, 3) := by decide +kernel
theorem dX7_about_20 : decode cX7_about 20 = .ok (.aload_n 0, 1) := by decide +kernel
theorem dX7_about_21 : decode cX7_about 21 = .ok (.getfield 26, 3) := by decide +kernel
theorem dX7_about_24 : decode cX7_about 24 = .ok (.getfield 129, 3) := by decide +kernel
theorem dX7_about_27 : decode cX7_about 27 = .ok (.iload_n 1, 1) := by decide +kernel
theorem dX7_about_28 : decode cX7_about 28 = .ok (.aaload, 1) := by decide +kernel
theorem dX7_about_29 : decode cX7_about 29 = .ok (.iload_n 2, 1) := by decide +kernel
theorem dX7_about_30 : decode cX7_about 30 = .ok (.invokevirtual 133, 3) := by decide +kernel
theorem dX7_about_33 : decode cX7_about 33 = .ok (.goto 5, 3) := by decide +kernel
theorem dX7_about_36 : decode cX7_about 36 = .ok (.bipush (-102), 2) := by decide +kernel
theorem dX7_about_38 : decode cX7_about 38 = .ok (.ireturn, 1) := by decide +kernel
set_option maxHeartbeats 4000000 in
set_option maxRecDepth 100000 in
theorem c_X7_about {l : Launch} {g : GW} {a : AT} {x y : Int32} (μ : Mm) (hA : RC μ a)  : Con l g yX7_about cX7_about 3 (some .int) 1 [.ref 0, .int x, .int y] μ (fun r μ' => r = some (.int (fAbout a x y)) ∧ μ' = μ) := by
  obtain ⟨a1, a2, a3, a4, ⟨b, hb, hcur, hdrf, hB⟩, hS, hK, hD, hW⟩ := id hA
  obtain ⟨r1, r2, r3, r4, r5, r6, r7, r8, r9⟩ := id hS
  obtain ⟨w1, w2, w3, w4, w5, w6⟩ := id hW
  obtain ⟨p1, p2, p3⟩ := id a1
  obtain ⟨hb1, hb2, hb3, hb4, hb5, hb6, hrow⟩ := bkF hb
  have hship : ∀ i, i < 6 → 4 + 1 + 1 + i < 88 ∧ kt (4 + 1 + 1 + i) = 5 := (seaF (Or.inl rfl)).2.2.2.2.2.2
  have h4 : (4 : Nat) = 4 ∨ (4 : Nat) = 13 ∨ (4 : Nat) = 22 := Or.inl rfl
  refine Con.of [.ref 0, .int x, .int y] 0 (by decide +kernel) (Nat.le_of_ble_eq_true rfl) rfl ?_
  refine V_aload_n (pc := 0) dX7_about_0 rfl rfl ?_
  refine V_iload_n (pc := 1) dX7_about_1 rfl rfl ?_
  refine V_inv1 (pc := 2) (ci := 7) dX7_about_2 ml_X7_126 (by decide) rfl ⟨by decide, rfl⟩ (by decide) (Nat.le_of_ble_eq_true rfl) (c_X7_isShip μ hA) ?_
  rintro _ μ2 ⟨rfl, hμ⟩
  obtain rfl := hμ.symm
  refine V_ifne (pc := 5) (tgt := 11) dX7_about_5 (by decide) (fun h5 => ?_) (fun h5 => ?_)
  · have h5 := bI_ne h5; obtain ⟨i, hi, rfl⟩ := inN_of (by omega) h5
    refine V_iload_n (pc := 11) dX7_about_11 rfl rfl ?_
    refine V_iflt (pc := 12) (tgt := 36) dX7_about_12 (by decide) (fun h12 => ?_) (fun h12 => ?_)
    · have e9 := inN_f1 (n := 5) h12
      refine V_bipush (pc := 36) (v := (-102)) dX7_about_36 (by decide) ?_
      refine V_iret (pc := 38) dX7_about_38 rfl ?_
      refine ⟨congrArg (fun z => some (Value.int z)) ?_, rfl⟩
      first
      | (simp only [fAbout, h5, e9, nn_nI (j := i) (by omega), nn_nI (j := j) (by omega), if_true]; exact tel_eq (r8 i (by omega)) (by omega); done)
      | (simp [fAbout, h5, e9]; done)
    refine V_iload_n (pc := 15) dX7_about_15 rfl rfl ?_
    refine V_iconst (pc := 16) (v := 5) dX7_about_16 (by decide) ?_
    refine V_icmpge (pc := 17) (tgt := 36) dX7_about_17 (by decide) (fun h17 => ?_) (fun h17 => ?_)
    · have e9 := inN_f2 (n := 5) (M := 5) (by decide) h17
      refine V_bipush (pc := 36) (v := (-102)) dX7_about_36 (by decide) ?_
      refine V_iret (pc := 38) dX7_about_38 rfl ?_
      refine ⟨congrArg (fun z => some (Value.int z)) ?_, rfl⟩
      first
      | (simp only [fAbout, h5, e9, nn_nI (j := i) (by omega), nn_nI (j := j) (by omega), if_true]; exact tel_eq (r8 i (by omega)) (by omega); done)
      | (simp [fAbout, h5, e9]; done)
    have e9 := inN_t (n := 5) (M := 5) (by decide) h12 h17; obtain ⟨j, hj, rfl⟩ := inN_of (by decide) e9
    refine V_aload_n (pc := 20) dX7_about_20 rfl rfl ?_
    refine V_getR (pc := 21) (ci := 7) (j := 2) (k2 := 4) dX7_about_21 fl_X7_26 (fun _ _ _ _ => rfl) (by decide) rfl (rf_7_2 rfl) ?_
    refine V_getR (pc := 24) (ci := 4) (j := 0) (k2 := 5) dX7_about_24 fl_X7_129 (fun _ _ _ _ => rfl) (by decide) rfl (rf_4_0 rfl) ?_
    refine V_iload_n (pc := 27) dX7_about_27 rfl rfl ?_
    refine V_aald14 (pc := 28) (j := i) dX7_about_28 (by decide) rfl rfl (by show i < 6; omega) ?_
    refine V_iload_n (pc := 29) dX7_about_29 rfl rfl ?_
    refine V_inv1 (pc := 30) (ci := 5) dX7_about_30 ml_X7_133 (by first | decide | omega) (by first | rfl | assumption | exact (hship _ (by omega)).2 | exact (hrow _ (by omega)).2.1 | decide) ⟨by decide, rfl⟩ (by decide) (Nat.le_of_ble_eq_true rfl) (c_X5_tell μ (hship i (by omega)).1 (hship i (by omega)).2 (show j ≤ 4 by omega)) ?_
    rintro _ μ2 ⟨rfl, hμ⟩
    obtain rfl := hμ.symm
    refine V_goto (pc := 33) (tgt := 38) dX7_about_33 (by decide) ?_
    refine V_iret (pc := 38) dX7_about_38 rfl ?_
    refine ⟨congrArg (fun z => some (Value.int z)) ?_, rfl⟩
    first
    | (simp only [fAbout, h5, e9, nn_nI (j := i) (by omega), nn_nI (j := j) (by omega), if_true]; exact tel_eq (r8 i (by omega)) (by omega); done)
    | (simp [fAbout, h5, e9]; done)
  have h5 := bI_e h5
  refine V_bipush (pc := 8) (v := (-101)) dX7_about_8 (by decide) ?_
  refine V_iret (pc := 10) dX7_about_10 rfl ?_
  exact ⟨congrArg (fun z => some (Value.int z)) (by simp [fAbout, h5]), rfl⟩
theorem dX7_as_0 : decode cX7_as 0 = .ok (.aload_n 0, 1) := by decide +kernel
theorem dX7_as_1 : decode cX7_as 1 = .ok (.iload_n 1, 1) := by decide +kernel
theorem dX7_as_2 : decode cX7_as 2 = .ok (.invokevirtual 126, 3) := by decide +kernel
theorem dX7_as_5 : decode cX7_as 5 = .ok (.ifCond .ne 6, 3) := by decide +kernel
theorem dX7_as_8 : decode cX7_as 8 = .ok (.bipush (-101), 2) := by decide +kernel
theorem dX7_as_10 : decode cX7_as 10 = .ok (.ireturn, 1) := by decide +kernel
theorem dX7_as_11 : decode cX7_as 11 = .ok (.iload_n 2, 1) := by decide +kernel
theorem dX7_as_12 : decode cX7_as 12 = .ok (.invokestatic 120, 3) := by decide +kernel
theorem dX7_as_15 : decode cX7_as 15 = .ok (.ifCond .ne 6, 3) := by decide +kernel
theorem dX7_as_18 : decode cX7_as 18 = .ok (.bipush (-102), 2) := by decide +kernel
theorem dX7_as_20 : decode cX7_as 20 = .ok (.ireturn, 1) := by decide +kernel
theorem dX7_as_21 : decode cX7_as 21 = .ok (.aload_n 0, 1) := by decide +kernel
theorem dX7_as_22 : decode cX7_as 22 = .ok (.getfield 26, 3) := by decide +kernel
theorem dX7_as_25 : decode cX7_as 25 = .ok (.getfield 129, 3) := by decide +kernel
theorem dX7_as_28 : decode cX7_as 28 = .ok (.iload_n 1, 1) := by decide +kernel
theorem dX7_as_29 : decode cX7_as 29 = .ok (.aaload, 1) := by decide +kernel
theorem dX7_as_30 : decode cX7_as 30 = .ok (.iload_n 2, 1) := by decide +kernel
theorem dX7_as_31 : decode cX7_as 31 = .ok (.invokevirtual 139, 3) := by decide +kernel
theorem dX7_as_34 : decode cX7_as 34 = .ok (.ifCond .eq 7, 3) := by decide +kernel
theorem dX7_as_37 : decode cX7_as 37 = .ok (.iload_n 1, 1) := by decide +kernel
theorem dX7_as_38 : decode cX7_as 38 = .ok (.goto 4, 3) := by decide +kernel
theorem dX7_as_41 : decode cX7_as 41 = .ok (.iconst (-1), 1) := by decide +kernel
theorem dX7_as_42 : decode cX7_as 42 = .ok (.ireturn, 1) := by decide +kernel
set_option maxHeartbeats 4000000 in
set_option maxRecDepth 100000 in
theorem c_X7_as {l : Launch} {g : GW} {a : AT} {x y : Int32} (μ : Mm) (hA : RC μ a)  : Con l g yX7_as cX7_as 3 (some .int) 1 [.ref 0, .int x, .int y] μ (fun r μ' => r = some (.int (fAs a x y)) ∧ μ' = μ) := by
  obtain ⟨a1, a2, a3, a4, ⟨b, hb, hcur, hdrf, hB⟩, hS, hK, hD, hW⟩ := id hA
  obtain ⟨r1, r2, r3, r4, r5, r6, r7, r8, r9⟩ := id hS
  obtain ⟨w1, w2, w3, w4, w5, w6⟩ := id hW
  obtain ⟨p1, p2, p3⟩ := id a1
  obtain ⟨hb1, hb2, hb3, hb4, hb5, hb6, hrow⟩ := bkF hb
  have hship : ∀ i, i < 6 → 4 + 1 + 1 + i < 88 ∧ kt (4 + 1 + 1 + i) = 5 := (seaF (Or.inl rfl)).2.2.2.2.2.2
  have h4 : (4 : Nat) = 4 ∨ (4 : Nat) = 13 ∨ (4 : Nat) = 22 := Or.inl rfl
  refine Con.of [.ref 0, .int x, .int y] 0 (by decide +kernel) (Nat.le_of_ble_eq_true rfl) rfl ?_
  refine V_aload_n (pc := 0) dX7_as_0 rfl rfl ?_
  refine V_iload_n (pc := 1) dX7_as_1 rfl rfl ?_
  refine V_inv1 (pc := 2) (ci := 7) dX7_as_2 ml_X7_126 (by decide) rfl ⟨by decide, rfl⟩ (by decide) (Nat.le_of_ble_eq_true rfl) (c_X7_isShip μ hA) ?_
  rintro _ μ2 ⟨rfl, hμ⟩
  obtain rfl := hμ.symm
  refine V_ifne (pc := 5) (tgt := 11) dX7_as_5 (by decide) (fun h5 => ?_) (fun h5 => ?_)
  · have h5 := bI_ne h5; obtain ⟨i, hi, rfl⟩ := inN_of (by omega) h5
    refine V_iload_n (pc := 11) dX7_as_11 rfl rfl ?_
    refine V_ins1 (pc := 12) dX7_as_12 ml_X7_120 (by first | decide | omega) (Nat.le_of_ble_eq_true rfl) (c_X7_isKind μ) ?_
    rintro _ μ2 ⟨rfl, hμ⟩
    obtain rfl := hμ.symm
    refine V_ifne (pc := 15) (tgt := 21) dX7_as_15 (by decide) (fun h15 => ?_) (fun h15 => ?_)
    · have h15 := bI_ne h15; rw [inR_N (n := 5) (by decide)] at h15; obtain ⟨j, hj, rfl⟩ := inN_of (by decide) h15
      refine V_aload_n (pc := 21) dX7_as_21 rfl rfl ?_
      refine V_getR (pc := 22) (ci := 7) (j := 2) (k2 := 4) dX7_as_22 fl_X7_26 (fun _ _ _ _ => rfl) (by decide) rfl (rf_7_2 rfl) ?_
      refine V_getR (pc := 25) (ci := 4) (j := 0) (k2 := 5) dX7_as_25 fl_X7_129 (fun _ _ _ _ => rfl) (by decide) rfl (rf_4_0 rfl) ?_
      refine V_iload_n (pc := 28) dX7_as_28 rfl rfl ?_
      refine V_aald14 (pc := 29) (j := i) dX7_as_29 (by decide) rfl rfl (by show i < 6; omega) ?_
      refine V_iload_n (pc := 30) dX7_as_30 rfl rfl ?_
      refine V_inv1 (pc := 31) (ci := 5) dX7_as_31 ml_X7_139 (by first | decide | omega) (by first | rfl | assumption | exact (hship _ (by omega)).2 | exact (hrow _ (by omega)).2.1 | decide) ⟨by decide, rfl⟩ (by decide) (Nat.le_of_ble_eq_true rfl) (c_X5_isA μ (hship i (by omega)).1 (hship i (by omega)).2 (r8 i (by omega)) (show j ≤ 4 by omega)) ?_
      rintro _ μ2 ⟨rfl, hμ⟩
      obtain rfl := hμ.symm
      refine V_ifeq (pc := 34) (tgt := 41) dX7_as_34 (by decide) (fun h34 => ?_) (fun h34 => ?_)
      · have h34 := bI_e h34
        refine V_iconst (pc := 41) (v := (-1)) dX7_as_41 (by decide) ?_
        refine V_iret (pc := 42) dX7_as_42 rfl ?_
        exact ⟨congrArg (fun z => some (Value.int z)) (by simp [fAs, h5, h15, nn_nI (j := i) (by omega), nn_nI (j := j) (by omega), isA, h34]), rfl⟩
      have h34 := bI_ne h34
      refine V_iload_n (pc := 37) dX7_as_37 rfl rfl ?_
      refine V_goto (pc := 38) (tgt := 42) dX7_as_38 (by decide) ?_
      refine V_iret (pc := 42) dX7_as_42 rfl ?_
      exact ⟨congrArg (fun z => some (Value.int z)) (by simp [fAs, h5, h15, nn_nI (j := i) (by omega), nn_nI (j := j) (by omega), isA, h34]), rfl⟩
    have h15 := bI_e h15; rw [inR_N (n := 5) (by decide)] at h15
    refine V_bipush (pc := 18) (v := (-102)) dX7_as_18 (by decide) ?_
    refine V_iret (pc := 20) dX7_as_20 rfl ?_
    exact ⟨congrArg (fun z => some (Value.int z)) (by simp [fAs, h5, h15]), rfl⟩
  have h5 := bI_e h5
  refine V_bipush (pc := 8) (v := (-101)) dX7_as_8 (by decide) ?_
  refine V_iret (pc := 10) dX7_as_10 rfl ?_
  exact ⟨congrArg (fun z => some (Value.int z)) (by simp [fAs, h5]), rfl⟩
theorem dX7_spent_0 : decode cX7_spent 0 = .ok (.iload_n 1, 1) := by decide +kernel
theorem dX7_spent_1 : decode cX7_spent 1 = .ok (.invokestatic 110, 3) := by decide +kernel
theorem dX7_spent_4 : decode cX7_spent 4 = .ok (.ifCond .ne 6, 3) := by decide +kernel
theorem dX7_spent_7 : decode cX7_spent 7 = .ok (.bipush (-101), 2) := by decide +kernel
theorem dX7_spent_9 : decode cX7_spent 9 = .ok (.ireturn, 1) := by decide +kernel
theorem dX7_spent_10 : decode cX7_spent 10 = .ok (.aload_n 0, 1) := by decide +kernel
theorem dX7_spent_11 : decode cX7_spent 11 = .ok (.getfield 26, 3) := by decide +kernel
theorem dX7_spent_14 : decode cX7_spent 14 = .ok (.iload_n 1, 1) := by decide +kernel
theorem dX7_spent_15 : decode cX7_spent 15 = .ok (.invokevirtual 145, 3) := by decide +kernel
theorem dX7_spent_18 : decode cX7_spent 18 = .ok (.ifCond .eq 7, 3) := by decide +kernel
theorem dX7_spent_21 : decode cX7_spent 21 = .ok (.iconst 1, 1) := by decide +kernel
theorem dX7_spent_22 : decode cX7_spent 22 = .ok (.goto 4, 3) := by decide +kernel
theorem dX7_spent_25 : decode cX7_spent 25 = .ok (.iconst 0, 1) := by decide +kernel
theorem dX7_spent_26 : decode cX7_spent 26 = .ok (.ireturn, 1) := by decide +kernel
set_option maxHeartbeats 4000000 in
set_option maxRecDepth 100000 in
theorem c_X7_spent {l : Launch} {g : GW} {a : AT} {x : Int32} (μ : Mm) (hA : RC μ a)  : Con l g yX7_spent cX7_spent 2 (some .int) 1 [.ref 0, .int x] μ (fun r μ' => r = some (.int (fSpent a x)) ∧ μ' = μ) := by
  obtain ⟨a1, a2, a3, a4, ⟨b, hb, hcur, hdrf, hB⟩, hS, hK, hD, hW⟩ := id hA
  obtain ⟨r1, r2, r3, r4, r5, r6, r7, r8, r9⟩ := id hS
  obtain ⟨w1, w2, w3, w4, w5, w6⟩ := id hW
  obtain ⟨p1, p2, p3⟩ := id a1
  obtain ⟨hb1, hb2, hb3, hb4, hb5, hb6, hrow⟩ := bkF hb
  have hship : ∀ i, i < 6 → 4 + 1 + 1 + i < 88 ∧ kt (4 + 1 + 1 + i) = 5 := (seaF (Or.inl rfl)).2.2.2.2.2.2
  have hs4 : (4 : Nat) = 4 ∨ (4 : Nat) = 13 ∨ (4 : Nat) = 22 := Or.inl rfl
  refine Con.of [.ref 0, .int x] 0 (by decide +kernel) (Nat.le_of_ble_eq_true rfl) rfl ?_
  refine V_iload_n (pc := 0) dX7_spent_0 rfl rfl ?_
  refine V_ins1 (pc := 1) dX7_spent_1 ml_X7_110 (by first | decide | omega) (Nat.le_of_ble_eq_true rfl) (c_X7_isName μ) ?_
  rintro _ μ2 ⟨rfl, hμ⟩
  obtain rfl := hμ.symm
  refine V_ifne (pc := 4) (tgt := 10) dX7_spent_4 (by decide) (fun h4 => ?_) (fun h4 => ?_)
  · have h4 := bI_ne h4; rw [inR_N (n := 6) (by decide)] at h4; obtain ⟨i, hi, rfl⟩ := inN_of (by decide) h4
    refine V_aload_n (pc := 10) dX7_spent_10 rfl rfl ?_
    refine V_getR (pc := 11) (ci := 7) (j := 2) (k2 := 4) dX7_spent_11 fl_X7_26 (fun _ _ _ _ => rfl) (by decide) rfl (rf_7_2 rfl) ?_
    refine V_iload_n (pc := 14) dX7_spent_14 rfl rfl ?_
    refine V_inv1 (pc := 15) (ci := 4) dX7_spent_15 ml_X7_145 (by decide) rfl ⟨by decide, rfl⟩ (by decide) (Nat.le_of_ble_eq_true rfl) (c_X4_isSpent μ hs4 hS hi) ?_
    rintro _ μ2 ⟨rfl, hμ⟩
    obtain rfl := hμ.symm
    refine V_ifeq (pc := 18) (tgt := 25) dX7_spent_18 (by decide) (fun h18 => ?_) (fun h18 => ?_)
    · have h18 := bI_e h18
      refine V_iconst (pc := 25) (v := 0) dX7_spent_25 (by decide) ?_
      refine V_iret (pc := 26) dX7_spent_26 rfl ?_
      exact ⟨congrArg (fun z => some (Value.int z)) (by simp only [fSpent, h4, nn_nI (j := i) (by omega), if_true, h18]; rfl), rfl⟩
    have h18 := bI_ne h18
    refine V_iconst (pc := 21) (v := 1) dX7_spent_21 (by decide) ?_
    refine V_goto (pc := 22) (tgt := 26) dX7_spent_22 (by decide) ?_
    refine V_iret (pc := 26) dX7_spent_26 rfl ?_
    exact ⟨congrArg (fun z => some (Value.int z)) (by simp only [fSpent, h4, nn_nI (j := i) (by omega), if_true, h18]; rfl), rfl⟩
  have h4 := bI_e h4; rw [inR_N (n := 6) (by decide)] at h4
  refine V_bipush (pc := 7) (v := (-101)) dX7_spent_7 (by decide) ?_
  refine V_iret (pc := 9) dX7_spent_9 rfl ?_
  exact ⟨congrArg (fun z => some (Value.int z)) (by simp [fSpent, h4]), rfl⟩
theorem dX7_guess_0 : decode cX7_guess 0 = .ok (.iload_n 1, 1) := by decide +kernel
theorem dX7_guess_1 : decode cX7_guess 1 = .ok (.invokestatic 110, 3) := by decide +kernel
theorem dX7_guess_4 : decode cX7_guess 4 = .ok (.ifCond .eq 15, 3) := by decide +kernel
theorem dX7_guess_7 : decode cX7_guess 7 = .ok (.aload_n 0, 1) := by decide +kernel
theorem dX7_guess_8 : decode cX7_guess 8 = .ok (.getfield 26, 3) := by decide +kernel
theorem dX7_guess_11 : decode cX7_guess 11 = .ok (.getfield 203, 3) := by decide +kernel
theorem dX7_guess_14 : decode cX7_guess 14 = .ok (.iload_n 1, 1) := by decide +kernel
theorem dX7_guess_15 : decode cX7_guess 15 = .ok (.iaload, 1) := by decide +kernel
theorem dX7_guess_16 : decode cX7_guess 16 = .ok (.goto 5, 3) := by decide +kernel
theorem dX7_guess_19 : decode cX7_guess 19 = .ok (.bipush (-101), 2) := by decide +kernel
theorem dX7_guess_21 : decode cX7_guess 21 = .ok (.ireturn, 1) := by decide +kernel
set_option maxHeartbeats 4000000 in
set_option maxRecDepth 100000 in
theorem c_X7_guess {l : Launch} {g : GW} {a : AT} {x : Int32} (μ : Mm) (hA : RC μ a)  : Con l g yX7_guess cX7_guess 2 (some .int) 1 [.ref 0, .int x] μ (fun r μ' => r = some (.int (fGuess a x)) ∧ μ' = μ) := by
  obtain ⟨a1, a2, a3, a4, ⟨b, hb, hcur, hdrf, hB⟩, hS, hK, hD, hW⟩ := id hA
  obtain ⟨r1, r2, r3, r4, r5, r6, r7, r8, r9⟩ := id hS
  obtain ⟨w1, w2, w3, w4, w5, w6⟩ := id hW
  obtain ⟨p1, p2, p3⟩ := id a1
  obtain ⟨hb1, hb2, hb3, hb4, hb5, hb6, hrow⟩ := bkF hb
  have hship : ∀ i, i < 6 → 4 + 1 + 1 + i < 88 ∧ kt (4 + 1 + 1 + i) = 5 := (seaF (Or.inl rfl)).2.2.2.2.2.2
  have hs4 : (4 : Nat) = 4 ∨ (4 : Nat) = 13 ∨ (4 : Nat) = 22 := Or.inl rfl
  refine Con.of [.ref 0, .int x] 0 (by decide +kernel) (Nat.le_of_ble_eq_true rfl) rfl ?_
  refine V_iload_n (pc := 0) dX7_guess_0 rfl rfl ?_
  refine V_ins1 (pc := 1) dX7_guess_1 ml_X7_110 (by first | decide | omega) (Nat.le_of_ble_eq_true rfl) (c_X7_isName μ) ?_
  rintro _ μ2 ⟨rfl, hμ⟩
  obtain rfl := hμ.symm
  refine V_ifeq (pc := 4) (tgt := 19) dX7_guess_4 (by decide) (fun h4 => ?_) (fun h4 => ?_)
  · have h4 := bI_e h4; rw [inR_N (n := 6) (by decide)] at h4
    refine V_bipush (pc := 19) (v := (-101)) dX7_guess_19 (by decide) ?_
    refine V_iret (pc := 21) dX7_guess_21 rfl ?_
    refine ⟨congrArg (fun z => some (Value.int z)) ?_, rfl⟩
    first
    | (simp only [fGuess, h4, nn_nI (j := i) (by omega), if_true]; exact r9 i hi; done)
    | (simp [fGuess, h4]; done)
  have h4 := bI_ne h4; rw [inR_N (n := 6) (by decide)] at h4; obtain ⟨i, hi, rfl⟩ := inN_of (by decide) h4
  refine V_aload_n (pc := 7) dX7_guess_7 rfl rfl ?_
  refine V_getR (pc := 8) (ci := 7) (j := 2) (k2 := 4) dX7_guess_8 fl_X7_26 (fun _ _ _ _ => rfl) (by decide) rfl (rf_7_2 rfl) ?_
  refine V_getR (pc := 11) (ci := 4) (j := 1) (k2 := 12) dX7_guess_11 fl_X7_203 (fun _ _ _ _ => rfl) (by decide) rfl (rf_4_1 rfl) ?_
  refine V_iload_n (pc := 14) dX7_guess_14 rfl rfl ?_
  refine V_iald (pc := 15) (j := i) dX7_guess_15 (by decide) rfl rfl (by show i < 6; omega) ?_
  refine V_goto (pc := 16) (tgt := 21) dX7_guess_16 (by decide) ?_
  refine V_iret (pc := 21) dX7_guess_21 rfl ?_
  refine ⟨congrArg (fun z => some (Value.int z)) ?_, rfl⟩
  first
  | (simp only [fGuess, h4, nn_nI (j := i) (by omega), if_true]; exact r9 i hi; done)
  | (simp [fGuess, h4]; done)
theorem dX7_tells_0 : decode cX7_tells 0 = .ok (.aload_n 0, 1) := by decide +kernel
theorem dX7_tells_1 : decode cX7_tells 1 = .ok (.invokevirtual 103, 3) := by decide +kernel
theorem dX7_tells_4 : decode cX7_tells 4 = .ok (.ifCond .eq 13, 3) := by decide +kernel
theorem dX7_tells_7 : decode cX7_tells 7 = .ok (.aload_n 0, 1) := by decide +kernel
theorem dX7_tells_8 : decode cX7_tells 8 = .ok (.getfield 53, 3) := by decide +kernel
theorem dX7_tells_11 : decode cX7_tells 11 = .ok (.invokevirtual 196, 3) := by decide +kernel
theorem dX7_tells_14 : decode cX7_tells 14 = .ok (.goto 5, 3) := by decide +kernel
theorem dX7_tells_17 : decode cX7_tells 17 = .ok (.bipush (-103), 2) := by decide +kernel
theorem dX7_tells_19 : decode cX7_tells 19 = .ok (.ireturn, 1) := by decide +kernel
set_option maxHeartbeats 4000000 in
set_option maxRecDepth 100000 in
theorem c_X7_tells {l : Launch} {g : GW} {a : AT}  (μ : Mm) (hA : RC μ a)  : Con l g yX7_tells cX7_tells 1 (some .int) 3 [.ref 0] μ (fun r μ' => r = some (.int (fTells a)) ∧ μ' = μ) := by
  obtain ⟨a1, a2, a3, a4, ⟨b, hb, hcur, hdrf, hB⟩, hS, hK, hD, hW⟩ := id hA
  obtain ⟨r1, r2, r3, r4, r5, r6, r7, r8, r9⟩ := id hS
  obtain ⟨w1, w2, w3, w4, w5, w6⟩ := id hW
  obtain ⟨p1, p2, p3⟩ := id a1
  obtain ⟨hb1, hb2, hb3, hb4, hb5, hb6, hrow⟩ := bkF hb
  have hship : ∀ i, i < 6 → 4 + 1 + 1 + i < 88 ∧ kt (4 + 1 + 1 + i) = 5 := (seaF (Or.inl rfl)).2.2.2.2.2.2
  have hs4 : (4 : Nat) = 4 ∨ (4 : Nat) = 13 ∨ (4 : Nat) = 22 := Or.inl rfl
  refine Con.of [.ref 0] 0 (by decide +kernel) (Nat.le_of_ble_eq_true rfl) rfl ?_
  refine V_aload_n (pc := 0) dX7_tells_0 rfl rfl ?_
  refine V_inv0 (pc := 1) (ci := 7) dX7_tells_1 ml_X7_103 (by decide) rfl ⟨by decide, rfl⟩ (by decide) (Nat.le_of_ble_eq_true rfl) (c_X7_hasBook μ hA) ?_
  rintro _ μ2 ⟨rfl, hμ⟩
  obtain rfl := hμ.symm
  refine V_ifeq (pc := 4) (tgt := 17) dX7_tells_4 (by decide) (fun h4 => ?_) (fun h4 => ?_)
  · have h4 := of_decide_eq_false (bI_e h4)
    refine V_bipush (pc := 17) (v := (-103)) dX7_tells_17 (by decide) ?_
    refine V_iret (pc := 19) dX7_tells_19 rfl ?_
    refine ⟨?_, rfl⟩
    first
    | (simp only [fTells]; rw [if_pos h4]; done)
    | (simp only [fTells]; rw [if_neg h4]; done)
  have h4 := of_decide_eq_true (bI_ne h4)
  refine V_aload_n (pc := 7) dX7_tells_7 rfl rfl ?_
  refine V_getR (pc := 8) (ci := 7) (j := 7) (k2 := b) dX7_tells_8 fl_X7_53 (fun _ _ _ _ => rfl) (by decide) rfl ((rf_7_7 rfl).trans hcur) ?_
  refine V_inv0 (pc := 11) (ci := 0) dX7_tells_11 ml_X7_196 (by first | decide | omega) (by first | rfl | assumption | exact (hship _ (by omega)).2 | exact (hrow _ (by omega)).2.1 | decide) ⟨by decide, rfl⟩ (by decide) (Nat.le_of_ble_eq_true rfl) (c_X0_tellingSign μ hb hB) ?_
  rintro _ μ2 ⟨rfl, hμ⟩
  obtain rfl := hμ.symm
  refine V_goto (pc := 14) (tgt := 19) dX7_tells_14 (by decide) ?_
  refine V_iret (pc := 19) dX7_tells_19 rfl ?_
  refine ⟨?_, rfl⟩
  first
  | (simp only [fTells]; rw [if_pos h4]; done)
  | (simp only [fTells]; rw [if_neg h4]; done)
theorem dX7_called_0 : decode cX7_called 0 = .ok (.aload_n 0, 1) := by decide +kernel
theorem dX7_called_1 : decode cX7_called 1 = .ok (.getfield 39, 3) := by decide +kernel
theorem dX7_called_4 : decode cX7_called 4 = .ok (.getfield 212, 3) := by decide +kernel
theorem dX7_called_7 : decode cX7_called 7 = .ok (.ifCond .eq 17, 3) := by decide +kernel
theorem dX7_called_10 : decode cX7_called 10 = .ok (.aload_n 0, 1) := by decide +kernel
theorem dX7_called_11 : decode cX7_called 11 = .ok (.getfield 39, 3) := by decide +kernel
theorem dX7_called_14 : decode cX7_called 14 = .ok (.aload_n 0, 1) := by decide +kernel
theorem dX7_called_15 : decode cX7_called 15 = .ok (.getfield 53, 3) := by decide +kernel
theorem dX7_called_18 : decode cX7_called 18 = .ok (.invokevirtual 217, 3) := by decide +kernel
theorem dX7_called_21 : decode cX7_called 21 = .ok (.goto 5, 3) := by decide +kernel
theorem dX7_called_24 : decode cX7_called 24 = .ok (.bipush (-103), 2) := by decide +kernel
theorem dX7_called_26 : decode cX7_called 26 = .ok (.ireturn, 1) := by decide +kernel
set_option maxHeartbeats 4000000 in
set_option maxRecDepth 100000 in
theorem c_X7_called {l : Launch} {g : GW} {a : AT}  (μ : Mm) (hA : RC μ a)  : Con l g yX7_called cX7_called 1 (some .int) 5 [.ref 0] μ (fun r μ' => r = some (.int (fCalled a)) ∧ μ' = μ) := by
  obtain ⟨a1, a2, a3, a4, ⟨b, hb, hcur, hdrf, hB⟩, hS, hK, hD, hW⟩ := id hA
  obtain ⟨r1, r2, r3, r4, r5, r6, r7, r8, r9⟩ := id hS
  obtain ⟨w1, w2, w3, w4, w5, w6⟩ := id hW
  obtain ⟨p1, p2, p3⟩ := id a1
  obtain ⟨hb1, hb2, hb3, hb4, hb5, hb6, hrow⟩ := bkF hb
  have hship : ∀ i, i < 6 → 4 + 1 + 1 + i < 88 ∧ kt (4 + 1 + 1 + i) = 5 := (seaF (Or.inl rfl)).2.2.2.2.2.2
  have h4 : (4 : Nat) = 4 ∨ (4 : Nat) = 13 ∨ (4 : Nat) = 22 := Or.inl rfl
  refine Con.of [.ref 0] 0 (by decide +kernel) (Nat.le_of_ble_eq_true rfl) rfl ?_
  refine V_aload_n (pc := 0) dX7_called_0 rfl rfl ?_
  refine V_getR (pc := 1) (ci := 7) (j := 5) (k2 := 31) dX7_called_1 fl_X7_39 (fun _ _ _ _ => rfl) (by decide) rfl (rf_7_5 rfl) ?_
  refine V_getI (pc := 4) (ci := 6) (j := 1) dX7_called_4 fl_X7_212 (fun _ _ _ _ => rfl) (by decide) rfl ?_
  rw [w1]
  refine V_ifeq (pc := 7) (tgt := 24) dX7_called_7 (by decide) (fun h7 => ?_) (fun h7 => ?_)
  · have h7 := bI_e h7
    refine V_bipush (pc := 24) (v := (-103)) dX7_called_24 (by decide) ?_
    refine V_iret (pc := 26) dX7_called_26 rfl ?_
    refine ⟨?_, rfl⟩
    first
    | (simp only [fCalled, h7, if_true]; done)
    | (simp [fCalled, h7]; done)
  have h7 := bI_ne h7
  refine V_aload_n (pc := 10) dX7_called_10 rfl rfl ?_
  refine V_getR (pc := 11) (ci := 7) (j := 5) (k2 := 31) dX7_called_11 fl_X7_39 (fun _ _ _ _ => rfl) (by decide) rfl (rf_7_5 rfl) ?_
  refine V_aload_n (pc := 14) dX7_called_14 rfl rfl ?_
  refine V_getR (pc := 15) (ci := 7) (j := 7) (k2 := b) dX7_called_15 fl_X7_53 (fun _ _ _ _ => rfl) (by decide) rfl ((rf_7_7 rfl).trans hcur) ?_
  refine V_inv1 (pc := 18) (ci := 6) dX7_called_18 ml_X7_217 (by decide) rfl ⟨by decide, rfl⟩ (by decide) (Nat.le_of_ble_eq_true rfl) (c_X6_ways μ hb hB hW) ?_
  rintro _ μ2 ⟨rfl, hμ⟩
  obtain rfl := hμ.symm
  refine V_goto (pc := 21) (tgt := 26) dX7_called_21 (by decide) ?_
  refine V_iret (pc := 26) dX7_called_26 rfl ?_
  refine ⟨?_, rfl⟩
  first
  | (simp only [fCalled, h7, if_true]; done)
  | (simp [fCalled, h7]; done)
theorem dX7_by_0 : decode cX7_by 0 = .ok (.aload_n 0, 1) := by decide +kernel
theorem dX7_by_1 : decode cX7_by 1 = .ok (.getfield 39, 3) := by decide +kernel
theorem dX7_by_4 : decode cX7_by 4 = .ok (.getfield 212, 3) := by decide +kernel
theorem dX7_by_7 : decode cX7_by 7 = .ok (.ifCond .ne 6, 3) := by decide +kernel
theorem dX7_by_10 : decode cX7_by 10 = .ok (.bipush (-103), 2) := by decide +kernel
theorem dX7_by_12 : decode cX7_by 12 = .ok (.ireturn, 1) := by decide +kernel
theorem dX7_by_13 : decode cX7_by 13 = .ok (.iload_n 1, 1) := by decide +kernel
theorem dX7_by_14 : decode cX7_by 14 = .ok (.ifCond .lt 29, 3) := by decide +kernel
theorem dX7_by_17 : decode cX7_by 17 = .ok (.iload_n 1, 1) := by decide +kernel
theorem dX7_by_18 : decode cX7_by 18 = .ok (.aload_n 0, 1) := by decide +kernel
theorem dX7_by_19 : decode cX7_by 19 = .ok (.getfield 39, 3) := by decide +kernel
theorem dX7_by_22 : decode cX7_by 22 = .ok (.getfield 206, 3) := by decide +kernel
theorem dX7_by_25 : decode cX7_by 25 = .ok (.if_icmp .ge 18, 3) := by decide +kernel
theorem dX7_by_28 : decode cX7_by 28 = .ok (.aload_n 0, 1) := by decide +kernel
theorem dX7_by_29 : decode cX7_by 29 = .ok (.getfield 39, 3) := by decide +kernel
theorem dX7_by_32 : decode cX7_by 32 = .ok (.aload_n 0, 1) := by decide +kernel
theorem dX7_by_33 : decode cX7_by 33 = .ok (.getfield 53, 3) := by decide +kernel
theorem dX7_by_36 : decode cX7_by 36 = .ok (.iload_n 1, 1) := by decide +kernel
theorem dX7_by_37 : decode cX7_by 37 = .ok (.invokevirtual 221, 3) := by decide +kernel
theorem dX7_by_40 : decode cX7_by 40 = .ok (.goto 5, 3) := by decide +kernel
theorem dX7_by_43 : decode cX7_by 43 = .ok (.bipush (-101), 2) := by decide +kernel
theorem dX7_by_45 : decode cX7_by 45 = .ok (.ireturn, 1) := by decide +kernel
set_option maxHeartbeats 4000000 in
set_option maxRecDepth 100000 in
theorem c_X7_by {l : Launch} {g : GW} {a : AT} {x : Int32} (μ : Mm) (hA : RC μ a)  : Con l g yX7_by cX7_by 2 (some .int) 6 [.ref 0, .int x] μ (fun r μ' => r = some (.int (fBy a x)) ∧ μ' = μ) := by
  obtain ⟨a1, a2, a3, a4, ⟨b, hb, hcur, hdrf, hB⟩, hS, hK, hD, hW⟩ := id hA
  obtain ⟨r1, r2, r3, r4, r5, r6, r7, r8, r9⟩ := id hS
  obtain ⟨w1, w2, w3, w4, w5, w6⟩ := id hW
  obtain ⟨p1, p2, p3⟩ := id a1
  obtain ⟨hb1, hb2, hb3, hb4, hb5, hb6, hrow⟩ := bkF hb
  have hship : ∀ i, i < 6 → 4 + 1 + 1 + i < 88 ∧ kt (4 + 1 + 1 + i) = 5 := (seaF (Or.inl rfl)).2.2.2.2.2.2
  have h4 : (4 : Nat) = 4 ∨ (4 : Nat) = 13 ∨ (4 : Nat) = 22 := Or.inl rfl
  refine Con.of [.ref 0, .int x] 0 (by decide +kernel) (Nat.le_of_ble_eq_true rfl) rfl ?_
  refine V_aload_n (pc := 0) dX7_by_0 rfl rfl ?_
  refine V_getR (pc := 1) (ci := 7) (j := 5) (k2 := 31) dX7_by_1 fl_X7_39 (fun _ _ _ _ => rfl) (by decide) rfl (rf_7_5 rfl) ?_
  refine V_getI (pc := 4) (ci := 6) (j := 1) dX7_by_4 fl_X7_212 (fun _ _ _ _ => rfl) (by decide) rfl ?_
  rw [w1]
  refine V_ifne (pc := 7) (tgt := 13) dX7_by_7 (by decide) (fun h7 => ?_) (fun h7 => ?_)
  · have h7 := bI_ne h7
    refine V_iload_n (pc := 13) dX7_by_13 rfl rfl ?_
    refine V_iflt (pc := 14) (tgt := 43) dX7_by_14 (by decide) (fun h14 => ?_) (fun h14 => ?_)
    · have e9 := inN_f1 (n := aWn a) h14
      refine V_bipush (pc := 43) (v := (-101)) dX7_by_43 (by decide) ?_
      refine V_iret (pc := 45) dX7_by_45 rfl ?_
      refine ⟨congrArg (fun z => some (Value.int z)) ?_, rfl⟩
      first
      | (simp only [fBy, h7, e9, nn_nI (j := d) (by omega), if_true]; done)
      | (simp [fBy, h7, e9]; done)
    refine V_iload_n (pc := 17) dX7_by_17 rfl rfl ?_
    refine V_aload_n (pc := 18) dX7_by_18 rfl rfl ?_
    refine V_getR (pc := 19) (ci := 7) (j := 5) (k2 := 31) dX7_by_19 fl_X7_39 (fun _ _ _ _ => rfl) (by decide) rfl (rf_7_5 rfl) ?_
    refine V_getI (pc := 22) (ci := 6) (j := 3) dX7_by_22 fl_X7_206 (fun _ _ _ _ => rfl) (by decide) rfl ?_
    refine V_icmpge (pc := 25) (tgt := 43) dX7_by_25 (by decide) (fun h25 => ?_) (fun h25 => ?_)
    · rw [w4] at h25; have e9 := inN_f2 (n := aWn a) (nI_toInt (by omega)) h25
      refine V_bipush (pc := 43) (v := (-101)) dX7_by_43 (by decide) ?_
      refine V_iret (pc := 45) dX7_by_45 rfl ?_
      refine ⟨congrArg (fun z => some (Value.int z)) ?_, rfl⟩
      first
      | (simp only [fBy, h7, e9, nn_nI (j := d) (by omega), if_true]; done)
      | (simp [fBy, h7, e9]; done)
    rw [w4] at h25; have e9 := inN_t (n := aWn a) (nI_toInt (by omega)) h14 h25; obtain ⟨d, hd, rfl⟩ := inN_of (by omega) e9
    refine V_aload_n (pc := 28) dX7_by_28 rfl rfl ?_
    refine V_getR (pc := 29) (ci := 7) (j := 5) (k2 := 31) dX7_by_29 fl_X7_39 (fun _ _ _ _ => rfl) (by decide) rfl (rf_7_5 rfl) ?_
    refine V_aload_n (pc := 32) dX7_by_32 rfl rfl ?_
    refine V_getR (pc := 33) (ci := 7) (j := 7) (k2 := b) dX7_by_33 fl_X7_53 (fun _ _ _ _ => rfl) (by decide) rfl ((rf_7_7 rfl).trans hcur) ?_
    refine V_iload_n (pc := 36) dX7_by_36 rfl rfl ?_
    refine V_inv2 (pc := 37) (ci := 6) dX7_by_37 ml_X7_221 (by decide) rfl ⟨by decide, rfl⟩ (by decide) (Nat.le_of_ble_eq_true rfl) (c_X6_callOn μ hb hB hW (show d < 6 by omega)) ?_
    rintro _ μ2 ⟨rfl, hμ⟩
    obtain rfl := hμ.symm
    refine V_goto (pc := 40) (tgt := 45) dX7_by_40 (by decide) ?_
    refine V_iret (pc := 45) dX7_by_45 rfl ?_
    refine ⟨congrArg (fun z => some (Value.int z)) ?_, rfl⟩
    first
    | (simp only [fBy, h7, e9, nn_nI (j := d) (by omega), if_true]; done)
    | (simp [fBy, h7, e9]; done)
  have h7 := bI_e h7
  refine V_bipush (pc := 10) (v := (-103)) dX7_by_10 (by decide) ?_
  refine V_iret (pc := 12) dX7_by_12 rfl ?_
  exact ⟨congrArg (fun z => some (Value.int z)) (by simp [fBy, h7]), rfl⟩
end
section

/-! ===== what a forecast leaves, and the digest ===== -/
theorem RC.kept {S : Nat → Prop} {μ μ' : Mm} {a : AT} (h : RC μ a) (hf : FrM S μ μ') (hS : ∀ k, S k → k = 3 ∨ (22 ≤ k ∧ k ≤ 30) ∨ (33 ≤ k ∧ k ≤ 48)) (h22 : ∃ τ, SeaR μ' 22 τ) : RC μ' a := by
  obtain ⟨a1, a2, a3, a4, ⟨b, hb, hcur, hdrf, hB⟩, hA, hK, hD, hW⟩ := h
  have n : ∀ k, ¬ (k = 3 ∨ (22 ≤ k ∧ k ≤ 30) ∨ (33 ≤ k ∧ k ≤ 48)) → ¬ S k := fun k q z => q (hS k z)
  refine ⟨a1.kept hf (n 1 (by omega)) (n 2 (by omega)), by rw [hf.1 0 (n 0 (by omega))]; exact a2, a3, by rw [hf.1 0 (n 0 (by omega))]; exact a4, ⟨b, hb, by rw [hf.2]; exact hcur, by rw [hf.2]; exact hdrf, hB.kept hf (fun k h1 h2 => n k (by omega))⟩, hA.kept hf (fun k hk => n k (by rcases hk with q | q <;> omega)), hK.kept hf (fun k hk => n k (by rcases hk with q | q <;> omega)), h22, hW.kept hf (n 31 (by omega)) (n 32 (by omega))⟩
theorem RC.fc {S : Nat → Prop} {μ μ' : Mm} {a : AT} (h : RC μ a) (hf : FrM S μ μ') (hS : ∀ k, S k → 33 ≤ k ∧ k ≤ 48) : RC μ' a := by
  obtain ⟨τ, hτ⟩ := h.2.2.2.2.2.2.2.1
  exact h.kept hf (fun k hk => Or.inr (Or.inr (hS k hk))) ⟨τ, hτ.kept hf (fun k hk q => by have := hS k q; rcases hk with z | z <;> omega)⟩
theorem suD_step {tn : Nat → Nat → Nat} {ow : Nat → Nat} {κ p F d : Nat} (h : d ≤ 4) : suD tn ow κ p F (5 - d) = if chT tn ow κ d p F = 30 ^ d then d else suD tn ow κ p F (5 - (d + 1)) := by
  rcases (show d = 0 ∨ d = 1 ∨ d = 2 ∨ d = 3 ∨ d = 4 by omega) with rfl | rfl | rfl | rfl | rfl <;> rfl
def mx (h v : Int64) : Int64 := 31 * h + v
def mxF (f : Nat → Int64) (h : Int64) : Nat → Int64
  | 0 => h
  | n + 1 => mx (mxF f h n) (f n)
def dBk (a : AT) (h : Int64) : Int64 := mx (mxF (fun n => (cI (aOw a n)).toInt64) (mxF (fun k => (nI (aTn a (k / 3) (k % 3))).toInt64) h 15) 6) (nI (tellT (aTn a) 3)).toInt64
def dSh (a : AT) (h : Int64) (i : Nat) : Int64 := mx (mx (mxF (fun q => (tel (aS a) i q).toInt64) h 5) (fLikely a (nI i) 2 0)) (fLikely a (nI i) 2 1)
def dNm (a : AT) (h : Int64) : Nat → Int64
  | 0 => h
  | n + 1 => mx (mx (dNm a h n) (bI ((sS (aS a)).testBit n)).toInt64) (sG (aS a) n).toInt64
def dSs (a : AT) (h : Int64) : Nat → Int64
  | 0 => h
  | n + 1 => dSh a (dSs a h n) n
def fDigest (a : AT) : Int64 :=
  let h0 : Int64 := 661
  let h1 := if 0 < aNb a then dBk a h0 else h0
  let h2 := dNm a h1 6
  let h3 := dSs a h2 (sN (aS a))
  let h4 := if aWb a then mx h3 (fCalled a).toInt64 else h3
  let h5 := mxF (fun i => (nI (aPc a i)).toInt64) h4 (aPn a)
  mxF (fun q => (fCount a (nI q)).toInt64) h5 9
end
section
theorem dX7_likely_0 : decode cX7_likely 0 = .ok (.aload_n 0, 1) := by decide +kernel
theorem dX7_likely_1 : decode cX7_likely 1 = .ok (.iload_n 1, 1) := by decide +kernel
theorem dX7_likely_2 : decode cX7_likely 2 = .ok (.invokevirtual 126, 3) := by decide +kernel
theorem dX7_likely_5 : decode cX7_likely 5 = .ok (.ifCond .ne 7, 3) := by decide +kernel
theorem dX7_likely_8 : decode cX7_likely 8 = .ok (.ldc2_w 164, 3) := by decide +kernel
theorem dX7_likely_11 : decode cX7_likely 11 = .ok (.lreturn, 1) := by decide +kernel
theorem dX7_likely_12 : decode cX7_likely 12 = .ok (.iload_n 2, 1) := by decide +kernel
theorem dX7_likely_13 : decode cX7_likely 13 = .ok (.iconst 1, 1) := by decide +kernel
theorem dX7_likely_14 : decode cX7_likely 14 = .ok (.if_icmp .lt 15, 3) := by decide +kernel
theorem dX7_likely_17 : decode cX7_likely 17 = .ok (.iload_n 2, 1) := by decide +kernel
theorem dX7_likely_18 : decode cX7_likely 18 = .ok (.iconst 4, 1) := by decide +kernel
theorem dX7_likely_19 : decode cX7_likely 19 = .ok (.if_icmp .gt 10, 3) := by decide +kernel
theorem dX7_likely_22 : decode cX7_likely 22 = .ok (.iload_n 3, 1) := by decide +kernel
theorem dX7_likely_23 : decode cX7_likely 23 = .ok (.invokestatic 166, 3) := by decide +kernel
theorem dX7_likely_26 : decode cX7_likely 26 = .ok (.ifCond .ne 7, 3) := by decide +kernel
theorem dX7_likely_29 : decode cX7_likely 29 = .ok (.ldc2_w 169, 3) := by decide +kernel
theorem dX7_likely_32 : decode cX7_likely 32 = .ok (.lreturn, 1) := by decide +kernel
theorem dX7_likely_33 : decode cX7_likely 33 = .ok (.aload_n 0, 1) := by decide +kernel
theorem dX7_likely_34 : decode cX7_likely 34 = .ok (.getfield 26, 3) := by decide +kernel
theorem dX7_likely_37 : decode cX7_likely 37 = .ok (.getfield 129, 3) := by decide +kernel
theorem dX7_likely_40 : decode cX7_likely 40 = .ok (.iload_n 1, 1) := by decide +kernel
theorem dX7_likely_41 : decode cX7_likely 41 = .ok (.aaload, 1) := by decide +kernel
theorem dX7_likely_42 : decode cX7_likely 42 = .ok (.astore 4, 2) := by decide +kernel
theorem dX7_likely_44 : decode cX7_likely 44 = .ok (.aload_n 0, 1) := by decide +kernel
theorem dX7_likely_45 : decode cX7_likely 45 = .ok (.getfield 46, 3) := by decide +kernel
theorem dX7_likely_48 : decode cX7_likely 48 = .ok (.aload_n 0, 1) := by decide +kernel
theorem dX7_likely_49 : decode cX7_likely 49 = .ok (.getfield 53, 3) := by decide +kernel
theorem dX7_likely_52 : decode cX7_likely 52 = .ok (.aload 4, 2) := by decide +kernel
theorem dX7_likely_54 : decode cX7_likely 54 = .ok (.getfield 171, 3) := by decide +kernel
theorem dX7_likely_57 : decode cX7_likely 57 = .ok (.iload_n 2, 1) := by decide +kernel
theorem dX7_likely_58 : decode cX7_likely 58 = .ok (.invokevirtual 174, 3) := by decide +kernel
theorem dX7_likely_61 : decode cX7_likely 61 = .ok (.aload_n 0, 1) := by decide +kernel
theorem dX7_likely_62 : decode cX7_likely 62 = .ok (.getfield 46, 3) := by decide +kernel
theorem dX7_likely_65 : decode cX7_likely 65 = .ok (.iload_n 2, 1) := by decide +kernel
theorem dX7_likely_66 : decode cX7_likely 66 = .ok (.aload 4, 2) := by decide +kernel
theorem dX7_likely_68 : decode cX7_likely 68 = .ok (.getfield 142, 3) := by decide +kernel
theorem dX7_likely_71 : decode cX7_likely 71 = .ok (.aload_n 0, 1) := by decide +kernel
theorem dX7_likely_72 : decode cX7_likely 72 = .ok (.getfield 26, 3) := by decide +kernel
theorem dX7_likely_75 : decode cX7_likely 75 = .ok (.invokevirtual 178, 3) := by decide +kernel
theorem dX7_likely_78 : decode cX7_likely 78 = .ok (.invokevirtual 181, 3) := by decide +kernel
theorem dX7_likely_81 : decode cX7_likely 81 = .ok (.getstatic 185, 3) := by decide +kernel
theorem dX7_likely_84 : decode cX7_likely 84 = .ok (.iload_n 2, 1) := by decide +kernel
theorem dX7_likely_85 : decode cX7_likely 85 = .ok (.iaload, 1) := by decide +kernel
theorem dX7_likely_86 : decode cX7_likely 86 = .ok (.iload_n 3, 1) := by decide +kernel
theorem dX7_likely_87 : decode cX7_likely 87 = .ok (.invokestatic 188, 3) := by decide +kernel
theorem dX7_likely_90 : decode cX7_likely 90 = .ok (.lreturn, 1) := by decide +kernel
set_option maxHeartbeats 4000000 in
set_option maxRecDepth 100000 in
theorem c_X7_likely {l : Launch} {g : GW} {a : AT} {x y z : Int32} (μ : Mm) (hA : RC μ a)  : Con l g yX7_likely cX7_likely 5 (some .long) 14 [.ref 0, .int x, .int y, .int z] μ (fun r μ' => r = some (.long (fLikely a x y z)) ∧ RC μ' a ∧ FrC μ μ') := by
  obtain ⟨a1, a2, a3, a4, ⟨b, hb, hcur, hdrf, hB⟩, hS, hK, hD, hW⟩ := id hA
  obtain ⟨r1, r2, r3, r4, r5, r6, r7, r8, r9⟩ := id hS
  obtain ⟨w1, w2, w3, w4, w5, w6⟩ := id hW
  obtain ⟨p1, p2, p3⟩ := id a1
  obtain ⟨hb1, hb2, hb3, hb4, hb5, hb6, hrow⟩ := bkF hb
  have hship : ∀ i, i < 6 → 4 + 1 + 1 + i < 88 ∧ kt (4 + 1 + 1 + i) = 5 := (seaF (Or.inl rfl)).2.2.2.2.2.2
  have h4 : (4 : Nat) = 4 ∨ (4 : Nat) = 13 ∨ (4 : Nat) = 22 := Or.inl rfl
  refine Con.of [.ref 0, .int x, .int y, .int z, .null] 1 (by decide +kernel) (Nat.le_of_ble_eq_true rfl) rfl ?_
  refine V_aload_n (pc := 0) dX7_likely_0 rfl rfl ?_
  refine V_iload_n (pc := 1) dX7_likely_1 rfl rfl ?_
  refine V_inv1 (pc := 2) (ci := 7) dX7_likely_2 ml_X7_126 (by decide) rfl ⟨by decide, rfl⟩ (by first | decide | omega) (Nat.le_of_ble_eq_true rfl) (c_X7_isShip μ hA) ?_
  rintro _ μ2 ⟨rfl, hμ⟩
  obtain rfl := hμ.symm
  refine V_ifne (pc := 5) (tgt := 12) dX7_likely_5 (by decide) (fun h5 => ?_) (fun h5 => ?_)
  · have h5 := bI_ne h5; obtain ⟨i, hi, rfl⟩ := inN_of (by omega) h5; obtain ⟨z1, z2, z3, z4, z5, z6, z7, z8⟩ := id (r8 i (by omega))
    refine V_iload_n (pc := 12) dX7_likely_12 rfl rfl ?_
    refine V_iconst (pc := 13) (v := 1) dX7_likely_13 (by decide) ?_
    refine V_icmplt (pc := 14) (tgt := 29) dX7_likely_14 (by decide) (fun h14 => ?_) (fun h14 => ?_)
    · have e9 : inD y 4 = false := inD_f1 h14
      refine V_ldc2 (pc := 29) (v := (-102)) ct_X7_169 dX7_likely_29 ?_
      refine V_lret (pc := 32) dX7_likely_32 rfl ?_
      refine ⟨congrArg (fun z => some (Value.long z)) ?_, hA, FrC.rf⟩
      first
      | (simp [fLikely, h5, e9]; done)
      | (simp [fLikely, h5, e9, h26]; done)
    refine V_iload_n (pc := 17) dX7_likely_17 rfl rfl ?_
    refine V_iconst (pc := 18) (v := 4) dX7_likely_18 (by decide) ?_
    refine V_icmpgt (pc := 19) (tgt := 29) dX7_likely_19 (by decide) (fun h19 => ?_) (fun h19 => ?_)
    · have e9 : inD y 4 = false := inD_f2 (M := 4) (by decide) h19
      refine V_ldc2 (pc := 29) (v := (-102)) ct_X7_169 dX7_likely_29 ?_
      refine V_lret (pc := 32) dX7_likely_32 rfl ?_
      refine ⟨congrArg (fun z => some (Value.long z)) ?_, hA, FrC.rf⟩
      first
      | (simp [fLikely, h5, e9]; done)
      | (simp [fLikely, h5, e9, h26]; done)
    have e9 : inD y 4 = true := inD_t (M := 4) (by decide) h14 h19
    refine V_iload_n (pc := 22) dX7_likely_22 rfl rfl ?_
    refine V_ins1 (pc := 23) dX7_likely_23 ml_X7_166 (by first | decide | omega) (Nat.le_of_ble_eq_true rfl) (c_X7_isPart μ) ?_
    rintro _ μ2 ⟨rfl, hμ⟩
    obtain rfl := hμ.symm
    refine V_ifne (pc := 26) (tgt := 33) dX7_likely_26 (by decide) (fun h26 => ?_) (fun h26 => ?_)
    · have h26 := bI_ne h26
      obtain ⟨d, hd, rfl⟩ := inD_of (by decide) e9
      have hT : TnOK (aTn a) := hB.2.2.2
      obtain ⟨q, hq, rfl⟩ : ∃ q, q ≤ 1 ∧ z = nI q := by
        unfold isPt at h26
        rw [Bool.or_eq_true, decide_eq_true_eq, decide_eq_true_eq] at h26
        rcases h26 with h | h
        · exact ⟨0, by omega, h⟩
        · exact ⟨1, by omega, h⟩
      refine V_aload_n (pc := 33) dX7_likely_33 rfl rfl ?_
      refine V_getR (pc := 34) (ci := 7) (j := 2) (k2 := 4) dX7_likely_34 fl_X7_26 (fun _ _ _ _ => rfl) (by decide) rfl (rf_7_2 rfl) ?_
      refine V_getR (pc := 37) (ci := 4) (j := 0) (k2 := 5) dX7_likely_37 fl_X7_129 (fun _ _ _ _ => rfl) (by decide) rfl (rf_4_0 rfl) ?_
      refine V_iload_n (pc := 40) dX7_likely_40 rfl rfl ?_
      refine V_aald14 (pc := 41) (j := i) dX7_likely_41 (by decide) rfl rfl (by show i < 6; omega) ?_
      refine V_astore4 (pc := 42) dX7_likely_42 (by decide) rfl ?_
      refine V_aload_n (pc := 44) dX7_likely_44 rfl rfl ?_
      refine V_getR (pc := 45) (ci := 7) (j := 6) (k2 := 33) dX7_likely_45 fl_X7_46 (fun _ _ _ _ => rfl) (by decide) rfl (rf_7_6 rfl) ?_
      refine V_aload_n (pc := 48) dX7_likely_48 rfl rfl ?_
      refine V_getR (pc := 49) (ci := 7) (j := 7) (k2 := b) dX7_likely_49 fl_X7_53 (fun _ _ _ _ => rfl) (by decide) rfl ((rf_7_7 rfl).trans hcur) ?_
      refine V_aload (pc := 52) dX7_likely_52 rfl ?_
      refine V_getI (pc := 54) (ci := 5) (j := 0) dX7_likely_54 fl_X7_171 (fun _ _ _ _ => rfl) (by first | decide | omega) (by first | rfl | assumption | exact (hship _ (by omega)).2 | exact (hrow _ (by omega)).2.1 | decide) ?_
      rw [z1]
      refine V_iload_n (pc := 57) dX7_likely_57 rfl rfl ?_
      refine V_inv3 (pc := 58) (ci := 1) dX7_likely_58 ml_X7_174 (by decide) rfl ⟨by decide, rfl⟩ (by first | decide | omega) (Nat.le_of_ble_eq_true rfl) (c_X1_begin μ hb hB z2 hd) ?_
      rintro _ μ1 ⟨rfl, k1, k2, k3⟩
      have hS1 : SeaR μ1 4 (aS a) := hS.kept k3 (fun k hk q => by rcases hk with z | z <;> omega)
      refine V_aload_n (pc := 61) dX7_likely_61 rfl rfl ?_
      refine V_getR (pc := 62) (ci := 7) (j := 6) (k2 := 33) dX7_likely_62 fl_X7_46 (fun _ _ _ _ => rfl) (by decide) rfl (rf_7_6 rfl) ?_
      refine V_iload_n (pc := 65) dX7_likely_65 rfl rfl ?_
      refine V_aload (pc := 66) dX7_likely_66 rfl ?_
      refine V_getI (pc := 68) (ci := 5) (j := 1) dX7_likely_68 fl_X7_142 (fun _ _ _ _ => rfl) (by first | decide | omega) (by first | rfl | assumption | exact (hship _ (by omega)).2 | exact (hrow _ (by omega)).2.1 | decide) ?_
      rw [show μ1.1 (4 + 1 + 1 + i) 1 = nI (sP (aS a) i) from by rw [k3.1 _ (fun q => by omega)]; exact z3]
      refine V_aload_n (pc := 71) dX7_likely_71 rfl rfl ?_
      refine V_getR (pc := 72) (ci := 7) (j := 2) (k2 := 4) dX7_likely_72 fl_X7_26 (fun _ _ _ _ => rfl) (by decide) rfl (rf_7_2 rfl) ?_
      refine V_inv0 (pc := 75) (ci := 4) dX7_likely_75 ml_X7_178 (by decide) rfl ⟨by decide, rfl⟩ (by first | decide | omega) (Nat.le_of_ble_eq_true rfl) (c_X4_freeNames μ1 h4 hS1) ?_
      rintro _ μ2 ⟨rfl, hμ⟩
      obtain rfl := hμ.symm
      refine V_inv3 (pc := 78) (ci := 1) dX7_likely_78 ml_X7_181 (by decide) rfl ⟨by decide, rfl⟩ (by first | decide | omega) (Nat.le_of_ble_eq_true rfl) (c_X1_chances hT hd (d + 1) (Nat.le_refl _) μ1 (sP (aS a) i) (63 - sS (aS a)) k1 k2 z4 (by omega)) ?_
      rintro _ μ2 ⟨rfl, m1, m2, m3⟩
      refine V_gets (pc := 81) (k := 90) dX7_likely_81 (by decide) (by decide) gs_X7_185 ?_
      refine V_iload_n (pc := 84) dX7_likely_84 rfl rfl ?_
      refine V_sald (pc := 85) (j := (d + 1)) dX7_likely_85 (by decide) (by decide) rfl (by show d + 1 < 7; omega) ?_
      rw [stT90 (d + 1) (by omega)]
      refine V_iload_n (pc := 86) dX7_likely_86 rfl rfl ?_
      refine V_ins3 (pc := 87) dX7_likely_87 ml_X7_188 (by first | decide | omega) (Nat.le_of_ble_eq_true rfl) (c_X7_inLowestTerms (q := q) μ2 (by have := chT_le (ow := aOw a) (κ := sK (aS a) i) hT (d + 1) (sP (aS a) i) (63 - sS (aS a)); have := p30 (d := d + 1) hd; omega) (by have := p30 (d := d + 1) hd; omega) (Nat.pow_pos (by decide)) hq) ?_
      rintro _ μ3 ⟨rfl, hμ⟩
      obtain rfl := hμ.symm
      refine V_lret (pc := 90) dX7_likely_90 rfl ?_
      have k4 : FrM (fun k => 33 ≤ k ∧ k ≤ 48) μ μ2 := k3.tr m3 (fun k hk => by have := hk.1; have := hk.2; omega)
      refine ⟨congrArg (fun z => some (Value.long z)) ?_, hA.fc k4 (fun k hk => hk), k4.C (fun k hk => by omega)⟩
      have e0 : (nI q = 0) ↔ (q = 0) := nI_eq (a := q) (b := 0) (by omega) (by decide)
      simp only [fLikely, h5, e9, h26, Bool.and_self, if_true, nn_nI (j := i) (by omega), nn_nI (j := d + 1) (by omega), e0]
    have h26 := bI_e h26
    refine V_ldc2 (pc := 29) (v := (-102)) ct_X7_169 dX7_likely_29 ?_
    refine V_lret (pc := 32) dX7_likely_32 rfl ?_
    refine ⟨congrArg (fun z => some (Value.long z)) ?_, hA, FrC.rf⟩
    first
    | (simp [fLikely, h5, e9]; done)
    | (simp [fLikely, h5, e9, h26]; done)
  have h5 := bI_e h5
  refine V_ldc2 (pc := 8) (v := (-101)) ct_X7_164 dX7_likely_8 ?_
  refine V_lret (pc := 11) dX7_likely_11 rfl ?_
  refine ⟨congrArg (fun z => some (Value.long z)) ?_, hA, FrC.rf⟩
  simp [fLikely, h5]
theorem dX7_what_0 : decode cX7_what 0 = .ok (.aload_n 0, 1) := by decide +kernel
theorem dX7_what_1 : decode cX7_what 1 = .ok (.iload_n 1, 1) := by decide +kernel
theorem dX7_what_2 : decode cX7_what 2 = .ok (.invokevirtual 126, 3) := by decide +kernel
theorem dX7_what_5 : decode cX7_what 5 = .ok (.ifCond .eq 10, 3) := by decide +kernel
theorem dX7_what_8 : decode cX7_what 8 = .ok (.iload_n 2, 1) := by decide +kernel
theorem dX7_what_9 : decode cX7_what 9 = .ok (.invokestatic 100, 3) := by decide +kernel
theorem dX7_what_12 : decode cX7_what 12 = .ok (.ifCond .ne 6, 3) := by decide +kernel
theorem dX7_what_15 : decode cX7_what 15 = .ok (.bipush (-101), 2) := by decide +kernel
theorem dX7_what_17 : decode cX7_what 17 = .ok (.ireturn, 1) := by decide +kernel
theorem dX7_what_18 : decode cX7_what 18 = .ok (.iload_n 3, 1) := by decide +kernel
theorem dX7_what_19 : decode cX7_what 19 = .ok (.iconst 1, 1) := by decide +kernel
theorem dX7_what_20 : decode cX7_what 20 = .ok (.if_icmp .lt 8, 3) := by decide +kernel
theorem dX7_what_23 : decode cX7_what 23 = .ok (.iload_n 3, 1) := by decide +kernel
theorem dX7_what_24 : decode cX7_what 24 = .ok (.iconst 4, 1) := by decide +kernel
theorem dX7_what_25 : decode cX7_what 25 = .ok (.if_icmp .le 6, 3) := by decide +kernel
theorem dX7_what_28 : decode cX7_what 28 = .ok (.bipush (-102), 2) := by decide +kernel
theorem dX7_what_30 : decode cX7_what 30 = .ok (.ireturn, 1) := by decide +kernel
theorem dX7_what_31 : decode cX7_what 31 = .ok (.aload_n 0, 1) := by decide +kernel
theorem dX7_what_32 : decode cX7_what 32 = .ok (.getfield 26, 3) := by decide +kernel
theorem dX7_what_35 : decode cX7_what 35 = .ok (.getfield 129, 3) := by decide +kernel
theorem dX7_what_38 : decode cX7_what 38 = .ok (.iload_n 1, 1) := by decide +kernel
theorem dX7_what_39 : decode cX7_what 39 = .ok (.aaload, 1) := by decide +kernel
theorem dX7_what_40 : decode cX7_what 40 = .ok (.astore 4, 2) := by decide +kernel
theorem dX7_what_42 : decode cX7_what 42 = .ok (.aload_n 0, 1) := by decide +kernel
theorem dX7_what_43 : decode cX7_what 43 = .ok (.getfield 46, 3) := by decide +kernel
theorem dX7_what_46 : decode cX7_what 46 = .ok (.aload_n 0, 1) := by decide +kernel
theorem dX7_what_47 : decode cX7_what 47 = .ok (.getfield 53, 3) := by decide +kernel
theorem dX7_what_50 : decode cX7_what 50 = .ok (.aload 4, 2) := by decide +kernel
theorem dX7_what_52 : decode cX7_what 52 = .ok (.getfield 171, 3) := by decide +kernel
theorem dX7_what_55 : decode cX7_what 55 = .ok (.iload_n 3, 1) := by decide +kernel
theorem dX7_what_56 : decode cX7_what 56 = .ok (.invokevirtual 174, 3) := by decide +kernel
theorem dX7_what_59 : decode cX7_what 59 = .ok (.aload_n 0, 1) := by decide +kernel
theorem dX7_what_60 : decode cX7_what 60 = .ok (.getfield 46, 3) := by decide +kernel
theorem dX7_what_63 : decode cX7_what 63 = .ok (.iload_n 2, 1) := by decide +kernel
theorem dX7_what_64 : decode cX7_what 64 = .ok (.iload_n 3, 1) := by decide +kernel
theorem dX7_what_65 : decode cX7_what 65 = .ok (.aload 4, 2) := by decide +kernel
theorem dX7_what_67 : decode cX7_what 67 = .ok (.getfield 142, 3) := by decide +kernel
theorem dX7_what_70 : decode cX7_what 70 = .ok (.aload_n 0, 1) := by decide +kernel
theorem dX7_what_71 : decode cX7_what 71 = .ok (.getfield 26, 3) := by decide +kernel
theorem dX7_what_74 : decode cX7_what 74 = .ok (.invokevirtual 178, 3) := by decide +kernel
theorem dX7_what_77 : decode cX7_what 77 = .ok (.invokevirtual 192, 3) := by decide +kernel
theorem dX7_what_80 : decode cX7_what 80 = .ok (.ireturn, 1) := by decide +kernel
set_option maxHeartbeats 4000000 in
set_option maxRecDepth 100000 in
theorem c_X7_what {l : Launch} {g : GW} {a : AT} {x y z : Int32} (μ : Mm) (hA : RC μ a)  : Con l g yX7_what cX7_what 5 (some .int) 14 [.ref 0, .int x, .int y, .int z] μ (fun r μ' => r = some (.int (fWhat a x y z)) ∧ RC μ' a ∧ FrC μ μ') := by
  obtain ⟨a1, a2, a3, a4, ⟨b, hb, hcur, hdrf, hB⟩, hS, hK, hD, hW⟩ := id hA
  obtain ⟨r1, r2, r3, r4, r5, r6, r7, r8, r9⟩ := id hS
  obtain ⟨w1, w2, w3, w4, w5, w6⟩ := id hW
  obtain ⟨p1, p2, p3⟩ := id a1
  obtain ⟨hb1, hb2, hb3, hb4, hb5, hb6, hrow⟩ := bkF hb
  have hship : ∀ i, i < 6 → 4 + 1 + 1 + i < 88 ∧ kt (4 + 1 + 1 + i) = 5 := (seaF (Or.inl rfl)).2.2.2.2.2.2
  have h4 : (4 : Nat) = 4 ∨ (4 : Nat) = 13 ∨ (4 : Nat) = 22 := Or.inl rfl
  refine Con.of [.ref 0, .int x, .int y, .int z, .null] 1 (by decide +kernel) (Nat.le_of_ble_eq_true rfl) rfl ?_
  refine V_aload_n (pc := 0) dX7_what_0 rfl rfl ?_
  refine V_iload_n (pc := 1) dX7_what_1 rfl rfl ?_
  refine V_inv1 (pc := 2) (ci := 7) dX7_what_2 ml_X7_126 (by decide) rfl ⟨by decide, rfl⟩ (by first | decide | omega) (Nat.le_of_ble_eq_true rfl) (c_X7_isShip μ hA) ?_
  rintro _ μ2 ⟨rfl, hμ⟩
  obtain rfl := hμ.symm
  refine V_ifeq (pc := 5) (tgt := 15) dX7_what_5 (by decide) (fun h5 => ?_) (fun h5 => ?_)
  · have h5 := bI_e h5
    refine V_bipush (pc := 15) (v := (-101)) dX7_what_15 (by decide) ?_
    refine V_iret (pc := 17) dX7_what_17 rfl ?_
    refine ⟨congrArg (fun z => some (Value.int z)) ?_, hA, FrC.rf⟩
    first
    | (simp [fWhat, h5]; done)
    | (simp [fWhat, h5, h12]; done)
  have h5 := bI_ne h5
  refine V_iload_n (pc := 8) dX7_what_8 rfl rfl ?_
  refine V_ins1 (pc := 9) dX7_what_9 ml_X7_100 (by first | decide | omega) (Nat.le_of_ble_eq_true rfl) (c_X7_isSign μ) ?_
  rintro _ μ2 ⟨rfl, hμ⟩
  obtain rfl := hμ.symm
  refine V_ifne (pc := 12) (tgt := 18) dX7_what_12 (by decide) (fun h12 => ?_) (fun h12 => ?_)
  · have h12 := bI_ne h12; rw [inR_N (n := 3) (by decide)] at h12
    refine V_iload_n (pc := 18) dX7_what_18 rfl rfl ?_
    refine V_iconst (pc := 19) (v := 1) dX7_what_19 (by decide) ?_
    refine V_icmplt (pc := 20) (tgt := 28) dX7_what_20 (by decide) (fun h20 => ?_) (fun h20 => ?_)
    · have e9 : inD z 4 = false := inD_f1 h20
      refine V_bipush (pc := 28) (v := (-102)) dX7_what_28 (by decide) ?_
      refine V_iret (pc := 30) dX7_what_30 rfl ?_
      refine ⟨congrArg (fun z => some (Value.int z)) ?_, hA, FrC.rf⟩
      simp [fWhat, h5, h12, e9]
    refine V_iload_n (pc := 23) dX7_what_23 rfl rfl ?_
    refine V_iconst (pc := 24) (v := 4) dX7_what_24 (by decide) ?_
    refine V_icmple (pc := 25) (tgt := 31) dX7_what_25 (by decide) (fun h25 => ?_) (fun h25 => ?_)
    · have e9 : inD z 4 = true := inD_t (M := 4) (by decide) h20 (fun q => absurd h25 (by rw [Int32.lt_iff_toInt_lt] at q; rw [Int32.le_iff_toInt_le]; omega))
      obtain ⟨i, hi, rfl⟩ := inN_of (by omega) h5
      obtain ⟨z1, z2, z3, z4, z5, z6, z7, z8⟩ := id (r8 i (by omega))
      obtain ⟨j, hj, rfl⟩ := inN_of (by decide) h12
      obtain ⟨d, hd, rfl⟩ := inD_of (by decide) e9
      have hT : TnOK (aTn a) := hB.2.2.2
      refine V_aload_n (pc := 31) dX7_what_31 rfl rfl ?_
      refine V_getR (pc := 32) (ci := 7) (j := 2) (k2 := 4) dX7_what_32 fl_X7_26 (fun _ _ _ _ => rfl) (by decide) rfl (rf_7_2 rfl) ?_
      refine V_getR (pc := 35) (ci := 4) (j := 0) (k2 := 5) dX7_what_35 fl_X7_129 (fun _ _ _ _ => rfl) (by decide) rfl (rf_4_0 rfl) ?_
      refine V_iload_n (pc := 38) dX7_what_38 rfl rfl ?_
      refine V_aald14 (pc := 39) (j := i) dX7_what_39 (by decide) rfl rfl (by show i < 6; omega) ?_
      refine V_astore4 (pc := 40) dX7_what_40 (by decide) rfl ?_
      refine V_aload_n (pc := 42) dX7_what_42 rfl rfl ?_
      refine V_getR (pc := 43) (ci := 7) (j := 6) (k2 := 33) dX7_what_43 fl_X7_46 (fun _ _ _ _ => rfl) (by decide) rfl (rf_7_6 rfl) ?_
      refine V_aload_n (pc := 46) dX7_what_46 rfl rfl ?_
      refine V_getR (pc := 47) (ci := 7) (j := 7) (k2 := b) dX7_what_47 fl_X7_53 (fun _ _ _ _ => rfl) (by decide) rfl ((rf_7_7 rfl).trans hcur) ?_
      refine V_aload (pc := 50) dX7_what_50 rfl ?_
      refine V_getI (pc := 52) (ci := 5) (j := 0) dX7_what_52 fl_X7_171 (fun _ _ _ _ => rfl) (by first | decide | omega) (by first | rfl | assumption | exact (hship _ (by omega)).2 | exact (hrow _ (by omega)).2.1 | decide) ?_
      rw [z1]
      refine V_iload_n (pc := 55) dX7_what_55 rfl rfl ?_
      refine V_inv3 (pc := 56) (ci := 1) dX7_what_56 ml_X7_174 (by decide) rfl ⟨by decide, rfl⟩ (by first | decide | omega) (Nat.le_of_ble_eq_true rfl) (c_X1_begin μ hb hB z2 hd) ?_
      rintro _ μ1 ⟨rfl, k1, k2, k3⟩
      have hS1 : SeaR μ1 4 (aS a) := hS.kept k3 (fun k hk q => by rcases hk with z | z <;> omega)
      refine V_aload_n (pc := 59) dX7_what_59 rfl rfl ?_
      refine V_getR (pc := 60) (ci := 7) (j := 6) (k2 := 33) dX7_what_60 fl_X7_46 (fun _ _ _ _ => rfl) (by decide) rfl (rf_7_6 rfl) ?_
      refine V_iload_n (pc := 63) dX7_what_63 rfl rfl ?_
      refine V_iload_n (pc := 64) dX7_what_64 rfl rfl ?_
      refine V_aload (pc := 65) dX7_what_65 rfl ?_
      refine V_getI (pc := 67) (ci := 5) (j := 1) dX7_what_67 fl_X7_142 (fun _ _ _ _ => rfl) (by first | decide | omega) (by first | rfl | assumption | exact (hship _ (by omega)).2 | exact (hrow _ (by omega)).2.1 | decide) ?_
      rw [show μ1.1 (4 + 1 + 1 + i) 1 = nI (sP (aS a) i) from by rw [k3.1 _ (fun q => by omega)]; exact z3]
      refine V_aload_n (pc := 70) dX7_what_70 rfl rfl ?_
      refine V_getR (pc := 71) (ci := 7) (j := 2) (k2 := 4) dX7_what_71 fl_X7_26 (fun _ _ _ _ => rfl) (by decide) rfl (rf_7_2 rfl) ?_
      refine V_inv0 (pc := 74) (ci := 4) dX7_what_74 ml_X7_178 (by decide) rfl ⟨by decide, rfl⟩ (by first | decide | omega) (Nat.le_of_ble_eq_true rfl) (c_X4_freeNames μ1 h4 hS1) ?_
      rintro _ μ2 ⟨rfl, hμ⟩
      obtain rfl := hμ.symm
      refine V_inv4 (pc := 77) (ci := 1) dX7_what_77 ml_X7_192 (by decide) rfl ⟨by decide, rfl⟩ (by first | decide | omega) (Nat.le_of_ble_eq_true rfl) (c_X1_best (d := d) μ1 hT hd (Nat.le_refl _) hj k1 k2 z4 (by omega)) ?_
      rintro _ μ2 ⟨rfl, m1, m2, m3⟩
      refine V_iret (pc := 80) dX7_what_80 rfl ?_
      have k4 : FrM (fun k => 33 ≤ k ∧ k ≤ 48) μ μ2 := k3.tr m3 (fun k hk => by have := hk.1; have := hk.2; omega)
      refine ⟨congrArg (fun z => some (Value.int z)) ?_, hA.fc k4 (fun k hk => hk), k4.C (fun k hk => by omega)⟩
      simp only [fWhat, h5, e9, h12, Bool.and_self, if_true, nn_nI (j := i) (by omega), nn_nI (j := j) (by omega), nn_nI (j := d + 1) (by omega), Nat.add_sub_cancel]
    have e9 : inD z 4 = false := inD_f2 (M := 4) (by decide) (by rw [Int32.le_iff_toInt_le] at h25; rw [Int32.lt_iff_toInt_lt]; omega)
    refine V_bipush (pc := 28) (v := (-102)) dX7_what_28 (by decide) ?_
    refine V_iret (pc := 30) dX7_what_30 rfl ?_
    refine ⟨congrArg (fun z => some (Value.int z)) ?_, hA, FrC.rf⟩
    simp [fWhat, h5, h12, e9]
  have h12 := bI_e h12; rw [inR_N (n := 3) (by decide)] at h12
  refine V_bipush (pc := 15) (v := (-101)) dX7_what_15 (by decide) ?_
  refine V_iret (pc := 17) dX7_what_17 rfl ?_
  refine ⟨congrArg (fun z => some (Value.int z)) ?_, hA, FrC.rf⟩
  first
  | (simp [fWhat, h5]; done)
  | (simp [fWhat, h5, h12]; done)
theorem dX7_sure_0 : decode cX7_sure 0 = .ok (.aload_n 0, 1) := by decide +kernel
theorem dX7_sure_1 : decode cX7_sure 1 = .ok (.iload_n 1, 1) := by decide +kernel
theorem dX7_sure_2 : decode cX7_sure 2 = .ok (.invokevirtual 126, 3) := by decide +kernel
theorem dX7_sure_5 : decode cX7_sure 5 = .ok (.ifCond .ne 6, 3) := by decide +kernel
theorem dX7_sure_8 : decode cX7_sure 8 = .ok (.bipush (-101), 2) := by decide +kernel
theorem dX7_sure_10 : decode cX7_sure 10 = .ok (.ireturn, 1) := by decide +kernel
theorem dX7_sure_11 : decode cX7_sure 11 = .ok (.aload_n 0, 1) := by decide +kernel
theorem dX7_sure_12 : decode cX7_sure 12 = .ok (.getfield 26, 3) := by decide +kernel
theorem dX7_sure_15 : decode cX7_sure 15 = .ok (.getfield 129, 3) := by decide +kernel
theorem dX7_sure_18 : decode cX7_sure 18 = .ok (.iload_n 1, 1) := by decide +kernel
theorem dX7_sure_19 : decode cX7_sure 19 = .ok (.aaload, 1) := by decide +kernel
theorem dX7_sure_20 : decode cX7_sure 20 = .ok (.astore_n 2, 1) := by decide +kernel
theorem dX7_sure_21 : decode cX7_sure 21 = .ok (.aload_n 0, 1) := by decide +kernel
theorem dX7_sure_22 : decode cX7_sure 22 = .ok (.getfield 46, 3) := by decide +kernel
theorem dX7_sure_25 : decode cX7_sure 25 = .ok (.aload_n 0, 1) := by decide +kernel
theorem dX7_sure_26 : decode cX7_sure 26 = .ok (.getfield 53, 3) := by decide +kernel
theorem dX7_sure_29 : decode cX7_sure 29 = .ok (.aload_n 2, 1) := by decide +kernel
theorem dX7_sure_30 : decode cX7_sure 30 = .ok (.getfield 171, 3) := by decide +kernel
theorem dX7_sure_33 : decode cX7_sure 33 = .ok (.iconst 4, 1) := by decide +kernel
theorem dX7_sure_34 : decode cX7_sure 34 = .ok (.invokevirtual 174, 3) := by decide +kernel
theorem dX7_sure_37 : decode cX7_sure 37 = .ok (.iconst 0, 1) := by decide +kernel
theorem dX7_sure_38 : decode cX7_sure 38 = .ok (.istore_n 3, 1) := by decide +kernel
theorem dX7_sure_39 : decode cX7_sure 39 = .ok (.iload_n 3, 1) := by decide +kernel
theorem dX7_sure_40 : decode cX7_sure 40 = .ok (.iconst 4, 1) := by decide +kernel
theorem dX7_sure_41 : decode cX7_sure 41 = .ok (.if_icmp .gt 38, 3) := by decide +kernel
theorem dX7_sure_44 : decode cX7_sure 44 = .ok (.aload_n 0, 1) := by decide +kernel
theorem dX7_sure_45 : decode cX7_sure 45 = .ok (.getfield 46, 3) := by decide +kernel
theorem dX7_sure_48 : decode cX7_sure 48 = .ok (.iload_n 3, 1) := by decide +kernel
theorem dX7_sure_49 : decode cX7_sure 49 = .ok (.aload_n 2, 1) := by decide +kernel
theorem dX7_sure_50 : decode cX7_sure 50 = .ok (.getfield 142, 3) := by decide +kernel
theorem dX7_sure_53 : decode cX7_sure 53 = .ok (.aload_n 0, 1) := by decide +kernel
theorem dX7_sure_54 : decode cX7_sure 54 = .ok (.getfield 26, 3) := by decide +kernel
theorem dX7_sure_57 : decode cX7_sure 57 = .ok (.invokevirtual 178, 3) := by decide +kernel
theorem dX7_sure_60 : decode cX7_sure 60 = .ok (.invokevirtual 181, 3) := by decide +kernel
theorem dX7_sure_63 : decode cX7_sure 63 = .ok (.getstatic 185, 3) := by decide +kernel
theorem dX7_sure_66 : decode cX7_sure 66 = .ok (.iload_n 3, 1) := by decide +kernel
theorem dX7_sure_67 : decode cX7_sure 67 = .ok (.iaload, 1) := by decide +kernel
theorem dX7_sure_68 : decode cX7_sure 68 = .ok (.if_icmp .ne 5, 3) := by decide +kernel
theorem dX7_sure_71 : decode cX7_sure 71 = .ok (.iload_n 3, 1) := by decide +kernel
theorem dX7_sure_72 : decode cX7_sure 72 = .ok (.ireturn, 1) := by decide +kernel
theorem dX7_sure_73 : decode cX7_sure 73 = .ok (.iinc 3 1, 3) := by decide +kernel
theorem dX7_sure_76 : decode cX7_sure 76 = .ok (.goto (-37), 3) := by decide +kernel
theorem dX7_sure_79 : decode cX7_sure 79 = .ok (.iconst (-1), 1) := by decide +kernel
theorem dX7_sure_80 : decode cX7_sure 80 = .ok (.ireturn, 1) := by decide +kernel
set_option maxHeartbeats 4000000 in
set_option maxRecDepth 100000 in
theorem c_X7_sure {l : Launch} {g : GW} {a : AT} {x : Int32} (μ : Mm) (hA : RC μ a)  : Con l g yX7_sure cX7_sure 4 (some .int) 14 [.ref 0, .int x] μ (fun r μ' => r = some (.int (fSure a x)) ∧ RC μ' a ∧ FrC μ μ') := by
  obtain ⟨a1, a2, a3, a4, ⟨b, hb, hcur, hdrf, hB⟩, hS, hK, hD, hW⟩ := id hA
  obtain ⟨r1, r2, r3, r4, r5, r6, r7, r8, r9⟩ := id hS
  obtain ⟨w1, w2, w3, w4, w5, w6⟩ := id hW
  obtain ⟨p1, p2, p3⟩ := id a1
  obtain ⟨hb1, hb2, hb3, hb4, hb5, hb6, hrow⟩ := bkF hb
  have hship : ∀ i, i < 6 → 4 + 1 + 1 + i < 88 ∧ kt (4 + 1 + 1 + i) = 5 := (seaF (Or.inl rfl)).2.2.2.2.2.2
  have h4 : (4 : Nat) = 4 ∨ (4 : Nat) = 13 ∨ (4 : Nat) = 22 := Or.inl rfl
  refine Con.of [.ref 0, .int x, .null, .null] 2 (by decide +kernel) (Nat.le_of_ble_eq_true rfl) rfl ?_
  refine V_aload_n (pc := 0) dX7_sure_0 rfl rfl ?_
  refine V_iload_n (pc := 1) dX7_sure_1 rfl rfl ?_
  refine V_inv1 (pc := 2) (ci := 7) dX7_sure_2 ml_X7_126 (by decide) rfl ⟨by decide, rfl⟩ (by first | decide | omega) (Nat.le_of_ble_eq_true rfl) (c_X7_isShip μ hA) ?_
  rintro _ μ2 ⟨rfl, hμ⟩
  obtain rfl := hμ.symm
  refine V_ifne (pc := 5) (tgt := 11) dX7_sure_5 (by decide) (fun h5 => ?_) (fun h5 => ?_)
  · have h5 := bI_ne h5; obtain ⟨i, hi, rfl⟩ := inN_of (by omega) h5; obtain ⟨z1, z2, z3, z4, z5, z6, z7, z8⟩ := id (r8 i (by omega)); have hT : TnOK (aTn a) := hB.2.2.2
    refine V_aload_n (pc := 11) dX7_sure_11 rfl rfl ?_
    refine V_getR (pc := 12) (ci := 7) (j := 2) (k2 := 4) dX7_sure_12 fl_X7_26 (fun _ _ _ _ => rfl) (by decide) rfl (rf_7_2 rfl) ?_
    refine V_getR (pc := 15) (ci := 4) (j := 0) (k2 := 5) dX7_sure_15 fl_X7_129 (fun _ _ _ _ => rfl) (by decide) rfl (rf_4_0 rfl) ?_
    refine V_iload_n (pc := 18) dX7_sure_18 rfl rfl ?_
    refine V_aald14 (pc := 19) (j := i) dX7_sure_19 (by decide) rfl rfl (by show i < 6; omega) ?_
    refine V_astore2 (pc := 20) dX7_sure_20 (by decide) rfl ?_
    refine V_aload_n (pc := 21) dX7_sure_21 rfl rfl ?_
    refine V_getR (pc := 22) (ci := 7) (j := 6) (k2 := 33) dX7_sure_22 fl_X7_46 (fun _ _ _ _ => rfl) (by decide) rfl (rf_7_6 rfl) ?_
    refine V_aload_n (pc := 25) dX7_sure_25 rfl rfl ?_
    refine V_getR (pc := 26) (ci := 7) (j := 7) (k2 := b) dX7_sure_26 fl_X7_53 (fun _ _ _ _ => rfl) (by decide) rfl ((rf_7_7 rfl).trans hcur) ?_
    refine V_aload_n (pc := 29) dX7_sure_29 rfl rfl ?_
    refine V_getI (pc := 30) (ci := 5) (j := 0) dX7_sure_30 fl_X7_171 (fun _ _ _ _ => rfl) (by first | decide | omega) (by first | rfl | assumption | exact (hship _ (by omega)).2 | exact (hrow _ (by omega)).2.1 | decide) ?_
    rw [z1]
    refine V_iconst (pc := 33) (v := 4) dX7_sure_33 (by decide) ?_
    refine V_inv3 (pc := 34) (ci := 1) dX7_sure_34 ml_X7_174 (by decide) rfl ⟨by decide, rfl⟩ (by first | decide | omega) (Nat.le_of_ble_eq_true rfl) (c_X1_begin (N := 4) μ hb hB z2 (by omega)) ?_
    rintro _ μ1 ⟨rfl, k1, k2, k3⟩
    refine V_iconst (pc := 37) (v := 0) dX7_sure_37 (by decide) ?_
    refine V_istore3 (pc := 38) dX7_sure_38 (by decide) rfl ?_
    have loopA : ∀ (nA d : Nat) (μ2 : Mm), d ≤ 5 → 5 < d + nA → (FcR μ2 (aTn a) (aOw a) (sK (aS a) i)) → (MmR μ2 (aTn a) (aOw a) (sK (aS a) i) 4) → (FrM (fun k => 33 ≤ k ∧ k ≤ 48) μ μ2) → (suD (aTn a) (aOw a) (sK (aS a) i) (sP (aS a) i) (63 - sS (aS a)) 5 = suD (aTn a) (aOw a) (sK (aS a) i) (sP (aS a) i) (63 - sS (aS a)) (5 - d)) → V l g RX7 cX7_sure 4 (some .int) 14 39 [.ref 0, .int (nI i), .ref (4 + 1 + 1 + i), .int (nI d)] [] μ2 (fun r μ' => r = some (.int (fSure a (nI i))) ∧ RC μ' a ∧ FrC μ μ') := by
      intro nA
      induction nA with
      | zero => intro d μ2 h1 h2; exact absurd h2 (by omega)
      | succ nA ihA =>
        intro d μ2 hleA hfuA q1 q2 q3 q4
        refine V_iload_n (pc := 39) dX7_sure_39 rfl rfl ?_
        refine V_iconst (pc := 40) (v := 4) dX7_sure_40 (by decide) ?_
        refine V_icmpgt (pc := 41) (tgt := 79) dX7_sure_41 (by decide) (fun h41 => ?_) (fun h41 => ?_)
        · have h41 := (nI_ltI (a := 4) (b := d) (by decide) (by omega)).mp h41; obtain rfl : d = 5 := by omega
          refine V_iconst (pc := 79) (v := (-1)) dX7_sure_79 (by decide) ?_
          refine V_iret (pc := 80) dX7_sure_80 rfl ?_
          refine ⟨congrArg (fun z => some (Value.int z)) ?_, hA.fc q3 (fun k hk => hk), q3.C (fun k hk => by omega)⟩
          simp only [fSure, h5, if_true, nn_nI (j := i) (by omega), q4]
          rfl
        have hlt : d < 5 := by have := mt (nI_ltI (a := 4) (b := d) (by decide) (by omega)).mpr h41; omega
        refine V_aload_n (pc := 44) dX7_sure_44 rfl rfl ?_
        refine V_getR (pc := 45) (ci := 7) (j := 6) (k2 := 33) dX7_sure_45 fl_X7_46 (fun _ _ _ _ => rfl) (by decide) rfl (rf_7_6 rfl) ?_
        refine V_iload_n (pc := 48) dX7_sure_48 rfl rfl ?_
        refine V_aload_n (pc := 49) dX7_sure_49 rfl rfl ?_
        refine V_getI (pc := 50) (ci := 5) (j := 1) dX7_sure_50 fl_X7_142 (fun _ _ _ _ => rfl) (by first | decide | omega) (by first | rfl | assumption | exact (hship _ (by omega)).2 | exact (hrow _ (by omega)).2.1 | decide) ?_
        rw [show μ2.1 (4 + 1 + 1 + i) 1 = nI (sP (aS a) i) from by rw [q3.1 _ (fun q => by omega)]; exact z3]
        refine V_aload_n (pc := 53) dX7_sure_53 rfl rfl ?_
        refine V_getR (pc := 54) (ci := 7) (j := 2) (k2 := 4) dX7_sure_54 fl_X7_26 (fun _ _ _ _ => rfl) (by decide) rfl (rf_7_2 rfl) ?_
        refine V_inv0 (pc := 57) (ci := 4) dX7_sure_57 ml_X7_178 (by decide) rfl ⟨by decide, rfl⟩ (by first | decide | omega) (Nat.le_of_ble_eq_true rfl) (c_X4_freeNames μ2 h4 (hS.kept q3 (fun k hk q => by rcases hk with z | z <;> omega))) ?_
        rintro _ μ3 ⟨rfl, hμ⟩
        obtain rfl := hμ.symm
        refine V_inv3 (pc := 60) (ci := 1) dX7_sure_60 ml_X7_181 (by decide) rfl ⟨by decide, rfl⟩ (by first | decide | omega) (Nat.le_of_ble_eq_true rfl) (c_X1_chances hT (by omega) d (by omega) μ2 (sP (aS a) i) (63 - sS (aS a)) q1 q2 z4 (by omega)) ?_
        rintro _ μ3 ⟨rfl, m1, m2, m3⟩
        refine V_gets (pc := 63) (k := 90) dX7_sure_63 (by decide) (by decide) gs_X7_185 ?_
        refine V_iload_n (pc := 66) dX7_sure_66 rfl rfl ?_
        refine V_sald (pc := 67) (j := d) dX7_sure_67 (by decide) (by decide) rfl (by show d < 7; omega) ?_
        rw [stT90 d (by omega)]
        have hst := suD_step (tn := aTn a) (ow := aOw a) (κ := sK (aS a) i) (p := sP (aS a) i) (F := 63 - sS (aS a)) (d := d) (by omega)
        have k4 : FrM (fun k => 33 ≤ k ∧ k ≤ 48) μ μ3 := q3.tr m3 (fun k hk => by have := hk.1; have := hk.2; omega)
        have hcl := chT_le (ow := aOw a) (κ := sK (aS a) i) hT d (sP (aS a) i) (63 - sS (aS a))
        have hp30 := p30 (d := d) (by omega)
        refine V_icmpne (pc := 68) (tgt := 73) dX7_sure_68 (by decide) (fun h68 => ?_) (fun h68 => ?_)
        · have h68 := mt (nI_eq (a := chT (aTn a) (aOw a) (sK (aS a) i) d (sP (aS a) i) (63 - sS (aS a))) (b := 30 ^ d) (by omega) (by omega)).mpr h68
          refine V_iinc3 (pc := 73) (v := nI (d + 1)) dX7_sure_73 (nI_1 d) (by decide) rfl ?_
          refine V_goto (pc := 76) (tgt := 39) dX7_sure_76 (by decide) ?_
          exact ihA (d + 1) μ3 (by omega) (by omega) m1 m2 k4 (by rw [q4, hst, if_neg h68])
        have h68 := (nI_eq (a := chT (aTn a) (aOw a) (sK (aS a) i) d (sP (aS a) i) (63 - sS (aS a))) (b := 30 ^ d) (by omega) (by omega)).mp h68
        refine V_iload_n (pc := 71) dX7_sure_71 rfl rfl ?_
        refine V_iret (pc := 72) dX7_sure_72 rfl ?_
        refine ⟨congrArg (fun z => some (Value.int z)) ?_, hA.fc k4 (fun k hk => hk), k4.C (fun k hk => by omega)⟩
        simp only [fSure, h5, if_true, nn_nI (j := i) (by omega), q4, hst]
        rw [if_pos h68, if_neg (by omega)]
    exact loopA (5 + 1) 0 _ (by omega) (by omega) k1 k2 k3 rfl
  have h5 := bI_e h5
  refine V_bipush (pc := 8) (v := (-101)) dX7_sure_8 (by decide) ?_
  refine V_iret (pc := 10) dX7_sure_10 rfl ?_
  refine ⟨congrArg (fun z => some (Value.int z)) ?_, hA, FrC.rf⟩
  simp [fSure, h5]
theorem dX7_race_0 : decode cX7_race 0 = .ok (.aload_n 0, 1) := by decide +kernel
theorem dX7_race_1 : decode cX7_race 1 = .ok (.iload_n 1, 1) := by decide +kernel
theorem dX7_race_2 : decode cX7_race 2 = .ok (.invokevirtual 126, 3) := by decide +kernel
theorem dX7_race_5 : decode cX7_race 5 = .ok (.ifCond .eq 16, 3) := by decide +kernel
theorem dX7_race_8 : decode cX7_race 8 = .ok (.aload_n 0, 1) := by decide +kernel
theorem dX7_race_9 : decode cX7_race 9 = .ok (.iload_n 2, 1) := by decide +kernel
theorem dX7_race_10 : decode cX7_race 10 = .ok (.invokevirtual 126, 3) := by decide +kernel
theorem dX7_race_13 : decode cX7_race 13 = .ok (.ifCond .eq 8, 3) := by decide +kernel
theorem dX7_race_16 : decode cX7_race 16 = .ok (.iload_n 1, 1) := by decide +kernel
theorem dX7_race_17 : decode cX7_race 17 = .ok (.iload_n 2, 1) := by decide +kernel
theorem dX7_race_18 : decode cX7_race 18 = .ok (.if_icmp .ne 7, 3) := by decide +kernel
theorem dX7_race_21 : decode cX7_race 21 = .ok (.ldc2_w 164, 3) := by decide +kernel
theorem dX7_race_24 : decode cX7_race 24 = .ok (.lreturn, 1) := by decide +kernel
theorem dX7_race_25 : decode cX7_race 25 = .ok (.iload_n 3, 1) := by decide +kernel
theorem dX7_race_26 : decode cX7_race 26 = .ok (.iconst 1, 1) := by decide +kernel
theorem dX7_race_27 : decode cX7_race 27 = .ok (.if_icmp .lt 17, 3) := by decide +kernel
theorem dX7_race_30 : decode cX7_race 30 = .ok (.iload_n 3, 1) := by decide +kernel
theorem dX7_race_31 : decode cX7_race 31 = .ok (.bipush 6, 2) := by decide +kernel
theorem dX7_race_33 : decode cX7_race 33 = .ok (.if_icmp .gt 11, 3) := by decide +kernel
theorem dX7_race_36 : decode cX7_race 36 = .ok (.iload 4, 2) := by decide +kernel
theorem dX7_race_38 : decode cX7_race 38 = .ok (.invokestatic 166, 3) := by decide +kernel
theorem dX7_race_41 : decode cX7_race 41 = .ok (.ifCond .ne 7, 3) := by decide +kernel
theorem dX7_race_44 : decode cX7_race 44 = .ok (.ldc2_w 169, 3) := by decide +kernel
theorem dX7_race_47 : decode cX7_race 47 = .ok (.lreturn, 1) := by decide +kernel
theorem dX7_race_48 : decode cX7_race 48 = .ok (.aload_n 0, 1) := by decide +kernel
theorem dX7_race_49 : decode cX7_race 49 = .ok (.getfield 53, 3) := by decide +kernel
theorem dX7_race_52 : decode cX7_race 52 = .ok (.iload_n 3, 1) := by decide +kernel
theorem dX7_race_53 : decode cX7_race 53 = .ok (.aload_n 0, 1) := by decide +kernel
theorem dX7_race_54 : decode cX7_race 54 = .ok (.getfield 26, 3) := by decide +kernel
theorem dX7_race_57 : decode cX7_race 57 = .ok (.getfield 129, 3) := by decide +kernel
theorem dX7_race_60 : decode cX7_race 60 = .ok (.iload_n 1, 1) := by decide +kernel
theorem dX7_race_61 : decode cX7_race 61 = .ok (.aaload, 1) := by decide +kernel
theorem dX7_race_62 : decode cX7_race 62 = .ok (.getfield 142, 3) := by decide +kernel
theorem dX7_race_65 : decode cX7_race 65 = .ok (.aload_n 0, 1) := by decide +kernel
theorem dX7_race_66 : decode cX7_race 66 = .ok (.getfield 26, 3) := by decide +kernel
theorem dX7_race_69 : decode cX7_race 69 = .ok (.getfield 129, 3) := by decide +kernel
theorem dX7_race_72 : decode cX7_race 72 = .ok (.iload_n 2, 1) := by decide +kernel
theorem dX7_race_73 : decode cX7_race 73 = .ok (.aaload, 1) := by decide +kernel
theorem dX7_race_74 : decode cX7_race 74 = .ok (.getfield 142, 3) := by decide +kernel
theorem dX7_race_77 : decode cX7_race 77 = .ok (.invokestatic 199, 3) := by decide +kernel
theorem dX7_race_80 : decode cX7_race 80 = .ok (.istore 5, 2) := by decide +kernel
theorem dX7_race_82 : decode cX7_race 82 = .ok (.iload 5, 2) := by decide +kernel
theorem dX7_race_84 : decode cX7_race 84 = .ok (.getstatic 185, 3) := by decide +kernel
theorem dX7_race_87 : decode cX7_race 87 = .ok (.iload_n 3, 1) := by decide +kernel
theorem dX7_race_88 : decode cX7_race 88 = .ok (.iaload, 1) := by decide +kernel
theorem dX7_race_89 : decode cX7_race 89 = .ok (.iload 4, 2) := by decide +kernel
theorem dX7_race_91 : decode cX7_race 91 = .ok (.invokestatic 188, 3) := by decide +kernel
theorem dX7_race_94 : decode cX7_race 94 = .ok (.lreturn, 1) := by decide +kernel
set_option maxHeartbeats 4000000 in
set_option maxRecDepth 100000 in
theorem c_X7_race {l : Launch} {g : GW} {a : AT} {x y z p : Int32} (μ : Mm) (hA : RC μ a)  : Con l g yX7_race cX7_race 6 (some .long) 9 [.ref 0, .int x, .int y, .int z, .int p] μ (fun r μ' => r = some (.long (fRace a x y z p)) ∧ μ' = μ) := by
  obtain ⟨a1, a2, a3, a4, ⟨b, hb, hcur, hdrf, hB⟩, hS, hK, hD, hW⟩ := id hA
  obtain ⟨r1, r2, r3, r4, r5, r6, r7, r8, r9⟩ := id hS
  obtain ⟨w1, w2, w3, w4, w5, w6⟩ := id hW
  obtain ⟨p1, p2, p3⟩ := id a1
  obtain ⟨hb1, hb2, hb3, hb4, hb5, hb6, hrow⟩ := bkF hb
  have hship : ∀ i, i < 6 → 4 + 1 + 1 + i < 88 ∧ kt (4 + 1 + 1 + i) = 5 := (seaF (Or.inl rfl)).2.2.2.2.2.2
  have h4 : (4 : Nat) = 4 ∨ (4 : Nat) = 13 ∨ (4 : Nat) = 22 := Or.inl rfl
  refine Con.of [.ref 0, .int x, .int y, .int z, .int p, .null] 1 (by decide +kernel) (Nat.le_of_ble_eq_true rfl) rfl ?_
  refine V_aload_n (pc := 0) dX7_race_0 rfl rfl ?_
  refine V_iload_n (pc := 1) dX7_race_1 rfl rfl ?_
  refine V_inv1 (pc := 2) (ci := 7) dX7_race_2 ml_X7_126 (by decide) rfl ⟨by decide, rfl⟩ (by first | decide | omega) (Nat.le_of_ble_eq_true rfl) (c_X7_isShip μ hA) ?_
  rintro _ μ2 ⟨rfl, hμ⟩
  obtain rfl := hμ.symm
  refine V_ifeq (pc := 5) (tgt := 21) dX7_race_5 (by decide) (fun h5 => ?_) (fun h5 => ?_)
  · have h5 := bI_e h5
    refine V_ldc2 (pc := 21) (v := (-101)) ct_X7_164 dX7_race_21 ?_
    refine V_lret (pc := 24) dX7_race_24 rfl ?_
    refine ⟨congrArg (fun z => some (Value.long z)) ?_, rfl⟩
    first
    | (simp [fRace, h5]; done)
    | (simp [fRace, h13]; done)
    | (simp [fRace, h18]; done)
  have h5 := bI_ne h5
  refine V_aload_n (pc := 8) dX7_race_8 rfl rfl ?_
  refine V_iload_n (pc := 9) dX7_race_9 rfl rfl ?_
  refine V_inv1 (pc := 10) (ci := 7) dX7_race_10 ml_X7_126 (by decide) rfl ⟨by decide, rfl⟩ (by first | decide | omega) (Nat.le_of_ble_eq_true rfl) (c_X7_isShip μ hA) ?_
  rintro _ μ2 ⟨rfl, hμ⟩
  obtain rfl := hμ.symm
  refine V_ifeq (pc := 13) (tgt := 21) dX7_race_13 (by decide) (fun h13 => ?_) (fun h13 => ?_)
  · have h13 := bI_e h13
    refine V_ldc2 (pc := 21) (v := (-101)) ct_X7_164 dX7_race_21 ?_
    refine V_lret (pc := 24) dX7_race_24 rfl ?_
    refine ⟨congrArg (fun z => some (Value.long z)) ?_, rfl⟩
    first
    | (simp [fRace, h5]; done)
    | (simp [fRace, h13]; done)
    | (simp [fRace, h18]; done)
  have h13 := bI_ne h13
  refine V_iload_n (pc := 16) dX7_race_16 rfl rfl ?_
  refine V_iload_n (pc := 17) dX7_race_17 rfl rfl ?_
  refine V_icmpne (pc := 18) (tgt := 25) dX7_race_18 (by decide) (fun h18 => ?_) (fun h18 => ?_)
  · refine V_iload_n (pc := 25) dX7_race_25 rfl rfl ?_
    refine V_iconst (pc := 26) (v := 1) dX7_race_26 (by decide) ?_
    refine V_icmplt (pc := 27) (tgt := 44) dX7_race_27 (by decide) (fun h27 => ?_) (fun h27 => ?_)
    · have e9 : inD z 6 = false := inD_f1 h27
      refine V_ldc2 (pc := 44) (v := (-102)) ct_X7_169 dX7_race_44 ?_
      refine V_lret (pc := 47) dX7_race_47 rfl ?_
      refine ⟨congrArg (fun z => some (Value.long z)) ?_, rfl⟩
      first
      | (simp [fRace, h5, h13, h18, e9]; done)
      | (simp [fRace, h5, h13, h18, h41]; done)
    refine V_iload_n (pc := 30) dX7_race_30 rfl rfl ?_
    refine V_bipush (pc := 31) (v := 6) dX7_race_31 (by decide) ?_
    refine V_icmpgt (pc := 33) (tgt := 44) dX7_race_33 (by decide) (fun h33 => ?_) (fun h33 => ?_)
    · have e9 : inD z 6 = false := inD_f2 (M := 6) (by decide) h33
      refine V_ldc2 (pc := 44) (v := (-102)) ct_X7_169 dX7_race_44 ?_
      refine V_lret (pc := 47) dX7_race_47 rfl ?_
      refine ⟨congrArg (fun z => some (Value.long z)) ?_, rfl⟩
      first
      | (simp [fRace, h5, h13, h18, e9]; done)
      | (simp [fRace, h5, h13, h18, h41]; done)
    have e9 : inD z 6 = true := inD_t (M := 6) (by decide) h27 h33
    refine V_iload (pc := 36) dX7_race_36 rfl ?_
    refine V_ins1 (pc := 38) dX7_race_38 ml_X7_166 (by first | decide | omega) (Nat.le_of_ble_eq_true rfl) (c_X7_isPart μ) ?_
    rintro _ μ2 ⟨rfl, hμ⟩
    obtain rfl := hμ.symm
    refine V_ifne (pc := 41) (tgt := 48) dX7_race_41 (by decide) (fun h41 => ?_) (fun h41 => ?_)
    · have h41 := bI_ne h41
      obtain ⟨i, hi, rfl⟩ := inN_of (by omega) h5
      obtain ⟨z1, z2, z3, z4, z5, z6, z7, z8⟩ := id (r8 i (by omega))
      obtain ⟨j, hj, rfl⟩ := inN_of (by omega) h13
      obtain ⟨y1, y2, y3, y4, y5, y6, y7, y8⟩ := id (r8 j (by omega))
      obtain ⟨d, hd, rfl⟩ := inD_of (by decide) e9
      have hT : TnOK (aTn a) := hB.2.2.2
      obtain ⟨q, hq, rfl⟩ : ∃ q, q ≤ 1 ∧ p = nI q := by
        unfold isPt at h41
        rw [Bool.or_eq_true, decide_eq_true_eq, decide_eq_true_eq] at h41
        rcases h41 with h | h
        · exact ⟨0, by omega, h⟩
        · exact ⟨1, by omega, h⟩
      refine V_aload_n (pc := 48) dX7_race_48 rfl rfl ?_
      refine V_getR (pc := 49) (ci := 7) (j := 7) (k2 := b) dX7_race_49 fl_X7_53 (fun _ _ _ _ => rfl) (by decide) rfl ((rf_7_7 rfl).trans hcur) ?_
      refine V_iload_n (pc := 52) dX7_race_52 rfl rfl ?_
      refine V_aload_n (pc := 53) dX7_race_53 rfl rfl ?_
      refine V_getR (pc := 54) (ci := 7) (j := 2) (k2 := 4) dX7_race_54 fl_X7_26 (fun _ _ _ _ => rfl) (by decide) rfl (rf_7_2 rfl) ?_
      refine V_getR (pc := 57) (ci := 4) (j := 0) (k2 := 5) dX7_race_57 fl_X7_129 (fun _ _ _ _ => rfl) (by decide) rfl (rf_4_0 rfl) ?_
      refine V_iload_n (pc := 60) dX7_race_60 rfl rfl ?_
      refine V_aald14 (pc := 61) (j := i) dX7_race_61 (by decide) rfl rfl (by show i < 6; omega) ?_
      refine V_getI (pc := 62) (ci := 5) (j := 1) dX7_race_62 fl_X7_142 (fun _ _ _ _ => rfl) (by first | decide | omega) (by first | rfl | assumption | exact (hship _ (by omega)).2 | exact (hrow _ (by omega)).2.1 | decide) ?_
      rw [z3]
      refine V_aload_n (pc := 65) dX7_race_65 rfl rfl ?_
      refine V_getR (pc := 66) (ci := 7) (j := 2) (k2 := 4) dX7_race_66 fl_X7_26 (fun _ _ _ _ => rfl) (by decide) rfl (rf_7_2 rfl) ?_
      refine V_getR (pc := 69) (ci := 4) (j := 0) (k2 := 5) dX7_race_69 fl_X7_129 (fun _ _ _ _ => rfl) (by decide) rfl (rf_4_0 rfl) ?_
      refine V_iload_n (pc := 72) dX7_race_72 rfl rfl ?_
      refine V_aald14 (pc := 73) (j := j) dX7_race_73 (by decide) rfl rfl (by show j < 6; omega) ?_
      refine V_getI (pc := 74) (ci := 5) (j := 1) dX7_race_74 fl_X7_142 (fun _ _ _ _ => rfl) (by first | decide | omega) (by first | rfl | assumption | exact (hship _ (by omega)).2 | exact (hrow _ (by omega)).2.1 | decide) ?_
      rw [y3]
      refine V_ins4 (pc := 77) dX7_race_77 ml_X7_199 (by first | decide | omega) (Nat.le_of_ble_eq_true rfl) (c_X7_raceChances μ hb hB (d + 1) (sP (aS a) i) (sP (aS a) j) hd z4 y4) ?_
      rintro _ μ2 ⟨rfl, hμ⟩
      obtain rfl := hμ.symm
      refine V_istore5 (pc := 80) dX7_race_80 (by decide) rfl ?_
      refine V_iload (pc := 82) dX7_race_82 rfl ?_
      refine V_gets (pc := 84) (k := 90) dX7_race_84 (by decide) (by decide) gs_X7_185 ?_
      refine V_iload_n (pc := 87) dX7_race_87 rfl rfl ?_
      refine V_sald (pc := 88) (j := (d + 1)) dX7_race_88 (by decide) (by decide) rfl (by show d + 1 < 7; omega) ?_
      rw [stT90 (d + 1) (by omega)]
      refine V_iload (pc := 89) dX7_race_89 rfl ?_
      refine V_ins3 (pc := 91) dX7_race_91 ml_X7_188 (by first | decide | omega) (Nat.le_of_ble_eq_true rfl) (c_X7_inLowestTerms (q := q) μ (by have := raT_le (ow := aOw a) hT (d + 1) (sP (aS a) i) (sP (aS a) j); have := p30_6 (d := d + 1) hd; omega) (by have := p30_6 (d := d + 1) hd; omega) (Nat.pow_pos (by decide)) hq) ?_
      rintro _ μ2 ⟨rfl, hμ⟩
      obtain rfl := hμ.symm
      refine V_lret (pc := 94) dX7_race_94 rfl ?_
      refine ⟨congrArg (fun z => some (Value.long z)) ?_, rfl⟩
      have e0 : (nI q = 0) ↔ (q = 0) := nI_eq (a := q) (b := 0) (by omega) (by decide)
      simp only [fRace, h5, h13, e9, h41, h18, decide_false, Bool.not_false, Bool.and_self, if_true, nn_nI (j := i) (by omega), nn_nI (j := j) (by omega), nn_nI (j := d + 1) (by omega), e0]
    have h41 := bI_e h41
    refine V_ldc2 (pc := 44) (v := (-102)) ct_X7_169 dX7_race_44 ?_
    refine V_lret (pc := 47) dX7_race_47 rfl ?_
    refine ⟨congrArg (fun z => some (Value.long z)) ?_, rfl⟩
    first
    | (simp [fRace, h5, h13, h18, e9]; done)
    | (simp [fRace, h5, h13, h18, h41]; done)
  refine V_ldc2 (pc := 21) (v := (-101)) ct_X7_164 dX7_race_21 ?_
  refine V_lret (pc := 24) dX7_race_24 rfl ?_
  refine ⟨congrArg (fun z => some (Value.long z)) ?_, rfl⟩
  first
  | (simp [fRace, h5]; done)
  | (simp [fRace, h13]; done)
  | (simp [fRace, h18]; done)
end
section

theorem mxF_s (f : Nat → Int64) (h : Int64) (n : Nat) : mx (mxF f h n) (f n) = mxF f h (n + 1) := rfl
theorem inN_lt {i n : Nat} (h : i < n) (hn : n < 2 ^ 31) : inN (nI i) n = true := by rw [inN_nI (by omega)]; exact decide_eq_true h
end
section
theorem dX7_mix_0 : decode cX7_mix 0 = .ok (.ldc2_w 278, 3) := by decide +kernel
theorem dX7_mix_3 : decode cX7_mix 3 = .ok (.lload_n 0, 1) := by decide +kernel
theorem dX7_mix_4 : decode cX7_mix 4 = .ok (.lmul, 1) := by decide +kernel
theorem dX7_mix_5 : decode cX7_mix 5 = .ok (.lload_n 2, 1) := by decide +kernel
theorem dX7_mix_6 : decode cX7_mix 6 = .ok (.ladd, 1) := by decide +kernel
theorem dX7_mix_7 : decode cX7_mix 7 = .ok (.lreturn, 1) := by decide +kernel
set_option maxHeartbeats 4000000 in
set_option maxRecDepth 100000 in
theorem c_X7_mix {l : Launch} {g : GW} {h v : Int64} (μ : Mm)  : Con l g yX7_mix cX7_mix 4 (some .long) 0 [.long h, .long v] μ (fun r μ' => r = some (.long (mx h v)) ∧ μ' = μ) := by
  refine Con.of [.long h, .null, .long v, .null] 0 (by decide +kernel) (Nat.le_of_ble_eq_true rfl) rfl ?_
  refine V_ldc2 (pc := 0) (v := 31) ct_X7_278 dX7_mix_0 ?_
  refine V_lload_n (pc := 3) dX7_mix_3 rfl rfl ?_
  refine V_lmul (pc := 4) dX7_mix_4 ?_
  refine V_lload_n (pc := 5) dX7_mix_5 rfl rfl ?_
  refine V_ladd (pc := 6) dX7_mix_6 ?_
  refine V_lret (pc := 7) dX7_mix_7 rfl ?_
  exact ⟨rfl, rfl⟩
theorem dX7_count_0 : decode cX7_count 0 = .ok (.iload_n 1, 1) := by decide +kernel
theorem dX7_count_1 : decode cX7_count 1 = .ok (.tableswitch 120 0 8 #[51, 59, 67, 75, 83, 91, 99, 107, 115], 51) := by decide +kernel
theorem dX7_count_52 : decode cX7_count 52 = .ok (.aload_n 0, 1) := by decide +kernel
theorem dX7_count_53 : decode cX7_count 53 = .ok (.getfield 53, 3) := by decide +kernel
theorem dX7_count_56 : decode cX7_count 56 = .ok (.invokevirtual 93, 3) := by decide +kernel
theorem dX7_count_59 : decode cX7_count 59 = .ok (.ireturn, 1) := by decide +kernel
theorem dX7_count_60 : decode cX7_count 60 = .ok (.aload_n 0, 1) := by decide +kernel
theorem dX7_count_61 : decode cX7_count 61 = .ok (.getfield 26, 3) := by decide +kernel
theorem dX7_count_64 : decode cX7_count 64 = .ok (.getfield 236, 3) := by decide +kernel
theorem dX7_count_67 : decode cX7_count 67 = .ok (.ireturn, 1) := by decide +kernel
theorem dX7_count_68 : decode cX7_count 68 = .ok (.aload_n 0, 1) := by decide +kernel
theorem dX7_count_69 : decode cX7_count 69 = .ok (.getfield 26, 3) := by decide +kernel
theorem dX7_count_72 : decode cX7_count 72 = .ok (.invokevirtual 155, 3) := by decide +kernel
theorem dX7_count_75 : decode cX7_count 75 = .ok (.ireturn, 1) := by decide +kernel
theorem dX7_count_76 : decode cX7_count 76 = .ok (.aload_n 0, 1) := by decide +kernel
theorem dX7_count_77 : decode cX7_count 77 = .ok (.getfield 26, 3) := by decide +kernel
theorem dX7_count_80 : decode cX7_count 80 = .ok (.invokevirtual 158, 3) := by decide +kernel
theorem dX7_count_83 : decode cX7_count 83 = .ok (.ireturn, 1) := by decide +kernel
theorem dX7_count_84 : decode cX7_count 84 = .ok (.aload_n 0, 1) := by decide +kernel
theorem dX7_count_85 : decode cX7_count 85 = .ok (.getfield 26, 3) := by decide +kernel
theorem dX7_count_88 : decode cX7_count 88 = .ok (.getfield 239, 3) := by decide +kernel
theorem dX7_count_91 : decode cX7_count 91 = .ok (.ireturn, 1) := by decide +kernel
theorem dX7_count_92 : decode cX7_count 92 = .ok (.aload_n 0, 1) := by decide +kernel
theorem dX7_count_93 : decode cX7_count 93 = .ok (.getfield 26, 3) := by decide +kernel
theorem dX7_count_96 : decode cX7_count 96 = .ok (.getfield 240, 3) := by decide +kernel
theorem dX7_count_99 : decode cX7_count 99 = .ok (.ireturn, 1) := by decide +kernel
theorem dX7_count_100 : decode cX7_count 100 = .ok (.aload_n 0, 1) := by decide +kernel
theorem dX7_count_101 : decode cX7_count 101 = .ok (.getfield 39, 3) := by decide +kernel
theorem dX7_count_104 : decode cX7_count 104 = .ok (.getfield 206, 3) := by decide +kernel
theorem dX7_count_107 : decode cX7_count 107 = .ok (.ireturn, 1) := by decide +kernel
theorem dX7_count_108 : decode cX7_count 108 = .ok (.aload_n 0, 1) := by decide +kernel
theorem dX7_count_109 : decode cX7_count 109 = .ok (.getfield 12, 3) := by decide +kernel
theorem dX7_count_112 : decode cX7_count 112 = .ok (.getfield 72, 3) := by decide +kernel
theorem dX7_count_115 : decode cX7_count 115 = .ok (.ireturn, 1) := by decide +kernel
theorem dX7_count_116 : decode cX7_count 116 = .ok (.aload_n 0, 1) := by decide +kernel
theorem dX7_count_117 : decode cX7_count 117 = .ok (.getfield 80, 3) := by decide +kernel
theorem dX7_count_120 : decode cX7_count 120 = .ok (.ireturn, 1) := by decide +kernel
theorem dX7_count_121 : decode cX7_count 121 = .ok (.bipush (-102), 2) := by decide +kernel
theorem dX7_count_123 : decode cX7_count 123 = .ok (.ireturn, 1) := by decide +kernel
set_option maxHeartbeats 4000000 in
set_option maxRecDepth 100000 in
theorem c_X7_count {l : Launch} {g : GW} {a : AT} {x : Int32} (μ : Mm) (hA : RC μ a)  : Con l g yX7_count cX7_count 2 (some .int) 2 [.ref 0, .int x] μ (fun r μ' => r = some (.int (fCount a x)) ∧ μ' = μ) := by
  obtain ⟨a1, a2, a3, a4, ⟨b, hb, hcur, hdrf, hB⟩, hS, hK, hD, hW⟩ := id hA
  obtain ⟨r1, r2, r3, r4, r5, r6, r7, r8, r9⟩ := id hS
  obtain ⟨w1, w2, w3, w4, w5, w6⟩ := id hW
  obtain ⟨p1, p2, p3⟩ := id a1
  obtain ⟨hb1, hb2, hb3, hb4, hb5, hb6, hrow⟩ := bkF hb
  have hship : ∀ i, i < 6 → 4 + 1 + 1 + i < 88 ∧ kt (4 + 1 + 1 + i) = 5 := (seaF (Or.inl rfl)).2.2.2.2.2.2
  have h4 : (4 : Nat) = 4 ∨ (4 : Nat) = 13 ∨ (4 : Nat) = 22 := Or.inl rfl
  refine Con.of [.ref 0, .int x] 0 (by decide +kernel) (Nat.le_of_ble_eq_true rfl) rfl ?_
  refine V_iload_n (pc := 0) dX7_count_0 rfl rfl ?_
  cases hx : inN x 9 with
  | false =>
    have ho : x.toInt < 0 ∨ 8 < x.toInt := by
      have h2 := of_decide_eq_false hx
      omega
    refine V_tsOut (pc := 1) (tgt := 121) dX7_count_1 ho (by decide) ?_
    refine V_bipush (pc := 121) (v := (-102)) dX7_count_121 (by decide) ?_
    refine V_iret (pc := 123) dX7_count_123 rfl ?_
    exact ⟨by simp [fCount, hx], rfl⟩
  | true =>
    obtain ⟨i, hi, rfl⟩ := inN_of (by decide) hx
    have e9 : fCount a (nI i) = (if i = 0 then nI (nmT (aOw a) 6) else if i = 1 then nI (sN (aS a)) else if i = 2 then nI (homeT (sP (aS a)) (sN (aS a))) else if i = 3 then nI (cntB (sS (aS a))) else if i = 4 then sD (aS a) else if i = 5 then nI (sA (aS a)) else if i = 6 then nI (aWn a) else if i = 7 then nI (aPn a) else nI (aNb a)) := by
      simp only [fCount, hx, if_true, nn_nI (j := i) (by omega)]
    rw [e9]
    clear e9 hx
    have hsel : i = 0 ∨ i = 1 ∨ i = 2 ∨ i = 3 ∨ i = 4 ∨ i = 5 ∨ i = 6 ∨ i = 7 ∨ i = 8 := by omega
    rcases hsel with hs1 | hs1 | hs1 | hs1 | hs1 | hs1 | hs1 | hs1 | hs1
    · subst hs1
      refine V_tsIn (pc := 1) (off := 51) (tgt := 52) dX7_count_1 (by decide) (by decide) (by decide) (by decide) ?_
      refine V_aload_n (pc := 52) dX7_count_52 rfl rfl ?_
      refine V_getR (pc := 53) (ci := 7) (j := 7) (k2 := b) dX7_count_53 fl_X7_53 (fun _ _ _ _ => rfl) (by decide) rfl ((rf_7_7 rfl).trans hcur) ?_
      refine V_inv0 (pc := 56) (ci := 0) dX7_count_56 ml_X7_93 (by first | decide | omega) (by first | rfl | assumption | exact (hship _ (by omega)).2 | exact (hrow _ (by omega)).2.1 | decide) ⟨by decide, rfl⟩ (by first | decide | omega) (Nat.le_of_ble_eq_true rfl) (c_X0_nameCount μ hb hB) ?_
      rintro _ μ2 ⟨rfl, hμ⟩
      obtain rfl := hμ.symm
      refine V_iret (pc := 59) dX7_count_59 rfl ?_
      exact ⟨congrArg (fun z => some (Value.int z)) (rfl), rfl⟩
    · subst hs1
      refine V_tsIn (pc := 1) (off := 59) (tgt := 60) dX7_count_1 (by decide) (by decide) (by decide) (by decide) ?_
      refine V_aload_n (pc := 60) dX7_count_60 rfl rfl ?_
      refine V_getR (pc := 61) (ci := 7) (j := 2) (k2 := 4) dX7_count_61 fl_X7_26 (fun _ _ _ _ => rfl) (by decide) rfl (rf_7_2 rfl) ?_
      refine V_getI (pc := 64) (ci := 4) (j := 2) dX7_count_64 fl_X7_236 (fun _ _ _ _ => rfl) (by decide) rfl ?_
      refine V_iret (pc := 67) dX7_count_67 rfl ?_
      exact ⟨congrArg (fun z => some (Value.int z)) (r1), rfl⟩
    · subst hs1
      refine V_tsIn (pc := 1) (off := 67) (tgt := 68) dX7_count_1 (by decide) (by decide) (by decide) (by decide) ?_
      refine V_aload_n (pc := 68) dX7_count_68 rfl rfl ?_
      refine V_getR (pc := 69) (ci := 7) (j := 2) (k2 := 4) dX7_count_69 fl_X7_26 (fun _ _ _ _ => rfl) (by decide) rfl (rf_7_2 rfl) ?_
      refine V_inv0 (pc := 72) (ci := 4) dX7_count_72 ml_X7_155 (by decide) rfl ⟨by decide, rfl⟩ (by first | decide | omega) (Nat.le_of_ble_eq_true rfl) (c_X4_homeCount μ h4 hS) ?_
      rintro _ μ2 ⟨rfl, hμ⟩
      obtain rfl := hμ.symm
      refine V_iret (pc := 75) dX7_count_75 rfl ?_
      exact ⟨congrArg (fun z => some (Value.int z)) (rfl), rfl⟩
    · subst hs1
      refine V_tsIn (pc := 1) (off := 75) (tgt := 76) dX7_count_1 (by decide) (by decide) (by decide) (by decide) ?_
      refine V_aload_n (pc := 76) dX7_count_76 rfl rfl ?_
      refine V_getR (pc := 77) (ci := 7) (j := 2) (k2 := 4) dX7_count_77 fl_X7_26 (fun _ _ _ _ => rfl) (by decide) rfl (rf_7_2 rfl) ?_
      refine V_inv0 (pc := 80) (ci := 4) dX7_count_80 ml_X7_158 (by decide) rfl ⟨by decide, rfl⟩ (by first | decide | omega) (Nat.le_of_ble_eq_true rfl) (c_X4_spentCount μ h4 hS) ?_
      rintro _ μ2 ⟨rfl, hμ⟩
      obtain rfl := hμ.symm
      refine V_iret (pc := 83) dX7_count_83 rfl ?_
      exact ⟨congrArg (fun z => some (Value.int z)) (rfl), rfl⟩
    · subst hs1
      refine V_tsIn (pc := 1) (off := 83) (tgt := 84) dX7_count_1 (by decide) (by decide) (by decide) (by decide) ?_
      refine V_aload_n (pc := 84) dX7_count_84 rfl rfl ?_
      refine V_getR (pc := 85) (ci := 7) (j := 2) (k2 := 4) dX7_count_85 fl_X7_26 (fun _ _ _ _ => rfl) (by decide) rfl (rf_7_2 rfl) ?_
      refine V_getI (pc := 88) (ci := 4) (j := 4) dX7_count_88 fl_X7_239 (fun _ _ _ _ => rfl) (by decide) rfl ?_
      refine V_iret (pc := 91) dX7_count_91 rfl ?_
      exact ⟨congrArg (fun z => some (Value.int z)) (r5), rfl⟩
    · subst hs1
      refine V_tsIn (pc := 1) (off := 91) (tgt := 92) dX7_count_1 (by decide) (by decide) (by decide) (by decide) ?_
      refine V_aload_n (pc := 92) dX7_count_92 rfl rfl ?_
      refine V_getR (pc := 93) (ci := 7) (j := 2) (k2 := 4) dX7_count_93 fl_X7_26 (fun _ _ _ _ => rfl) (by decide) rfl (rf_7_2 rfl) ?_
      refine V_getI (pc := 96) (ci := 4) (j := 5) dX7_count_96 fl_X7_240 (fun _ _ _ _ => rfl) (by decide) rfl ?_
      refine V_iret (pc := 99) dX7_count_99 rfl ?_
      exact ⟨congrArg (fun z => some (Value.int z)) (r6), rfl⟩
    · subst hs1
      refine V_tsIn (pc := 1) (off := 99) (tgt := 100) dX7_count_1 (by decide) (by decide) (by decide) (by decide) ?_
      refine V_aload_n (pc := 100) dX7_count_100 rfl rfl ?_
      refine V_getR (pc := 101) (ci := 7) (j := 5) (k2 := 31) dX7_count_101 fl_X7_39 (fun _ _ _ _ => rfl) (by decide) rfl (rf_7_5 rfl) ?_
      refine V_getI (pc := 104) (ci := 6) (j := 3) dX7_count_104 fl_X7_206 (fun _ _ _ _ => rfl) (by decide) rfl ?_
      refine V_iret (pc := 107) dX7_count_107 rfl ?_
      exact ⟨congrArg (fun z => some (Value.int z)) (w4), rfl⟩
    · subst hs1
      refine V_tsIn (pc := 1) (off := 107) (tgt := 108) dX7_count_1 (by decide) (by decide) (by decide) (by decide) ?_
      refine V_aload_n (pc := 108) dX7_count_108 rfl rfl ?_
      refine V_getR (pc := 109) (ci := 7) (j := 0) (k2 := 1) dX7_count_109 fl_X7_12 (fun _ _ _ _ => rfl) (by decide) rfl (rf_7_0 rfl) ?_
      refine V_getI (pc := 112) (ci := 2) (j := 1) dX7_count_112 fl_X7_72 (fun _ _ _ _ => rfl) (by decide) rfl ?_
      refine V_iret (pc := 115) dX7_count_115 rfl ?_
      exact ⟨congrArg (fun z => some (Value.int z)) (p1), rfl⟩
    · subst hs1
      refine V_tsIn (pc := 1) (off := 115) (tgt := 116) dX7_count_1 (by decide) (by decide) (by decide) (by decide) ?_
      refine V_aload_n (pc := 116) dX7_count_116 rfl rfl ?_
      refine V_getI (pc := 117) (ci := 7) (j := 9) dX7_count_117 fl_X7_80 (fun _ _ _ _ => rfl) (by decide) rfl ?_
      refine V_iret (pc := 120) dX7_count_120 rfl ?_
      exact ⟨congrArg (fun z => some (Value.int z)) (a2), rfl⟩
theorem dX7_years_0 : decode cX7_years 0 = .ok (.iload_n 1, 1) := by decide +kernel
theorem dX7_years_1 : decode cX7_years 1 = .ok (.iconst 1, 1) := by decide +kernel
theorem dX7_years_2 : decode cX7_years 2 = .ok (.if_icmp .lt 22, 3) := by decide +kernel
theorem dX7_years_5 : decode cX7_years 5 = .ok (.iload_n 1, 1) := by decide +kernel
theorem dX7_years_6 : decode cX7_years 6 = .ok (.bipush 60, 2) := by decide +kernel
theorem dX7_years_8 : decode cX7_years 8 = .ok (.if_icmp .gt 16, 3) := by decide +kernel
theorem dX7_years_11 : decode cX7_years 11 = .ok (.iload_n 2, 1) := by decide +kernel
theorem dX7_years_12 : decode cX7_years 12 = .ok (.ifCond .lt 12, 3) := by decide +kernel
theorem dX7_years_15 : decode cX7_years 15 = .ok (.iload_n 3, 1) := by decide +kernel
theorem dX7_years_16 : decode cX7_years 16 = .ok (.ifCond .lt 8, 3) := by decide +kernel
theorem dX7_years_19 : decode cX7_years 19 = .ok (.iload_n 3, 1) := by decide +kernel
theorem dX7_years_20 : decode cX7_years 20 = .ok (.iconst 4, 1) := by decide +kernel
theorem dX7_years_21 : decode cX7_years 21 = .ok (.if_icmp .lt 6, 3) := by decide +kernel
theorem dX7_years_24 : decode cX7_years 24 = .ok (.bipush (-102), 2) := by decide +kernel
theorem dX7_years_26 : decode cX7_years 26 = .ok (.ireturn, 1) := by decide +kernel
theorem dX7_years_27 : decode cX7_years 27 = .ok (.aload_n 0, 1) := by decide +kernel
theorem dX7_years_28 : decode cX7_years 28 = .ok (.invokevirtual 103, 3) := by decide +kernel
theorem dX7_years_31 : decode cX7_years 31 = .ok (.ifCond .ne 6, 3) := by decide +kernel
theorem dX7_years_34 : decode cX7_years 34 = .ok (.bipush (-103), 2) := by decide +kernel
theorem dX7_years_36 : decode cX7_years 36 = .ok (.ireturn, 1) := by decide +kernel
theorem dX7_years_37 : decode cX7_years 37 = .ok (.aload_n 0, 1) := by decide +kernel
theorem dX7_years_38 : decode cX7_years 38 = .ok (.getfield 33, 3) := by decide +kernel
theorem dX7_years_41 : decode cX7_years 41 = .ok (.aload_n 0, 1) := by decide +kernel
theorem dX7_years_42 : decode cX7_years 42 = .ok (.getfield 26, 3) := by decide +kernel
theorem dX7_years_45 : decode cX7_years 45 = .ok (.invokevirtual 225, 3) := by decide +kernel
theorem dX7_years_48 : decode cX7_years 48 = .ok (.aload_n 0, 1) := by decide +kernel
theorem dX7_years_49 : decode cX7_years 49 = .ok (.getfield 33, 3) := by decide +kernel
theorem dX7_years_52 : decode cX7_years 52 = .ok (.aload_n 0, 1) := by decide +kernel
theorem dX7_years_53 : decode cX7_years 53 = .ok (.getfield 53, 3) := by decide +kernel
theorem dX7_years_56 : decode cX7_years 56 = .ok (.iload_n 1, 1) := by decide +kernel
theorem dX7_years_57 : decode cX7_years 57 = .ok (.iload_n 2, 1) := by decide +kernel
theorem dX7_years_58 : decode cX7_years 58 = .ok (.invokevirtual 229, 3) := by decide +kernel
theorem dX7_years_61 : decode cX7_years 61 = .ok (.istore 4, 2) := by decide +kernel
theorem dX7_years_63 : decode cX7_years 63 = .ok (.iload_n 3, 1) := by decide +kernel
theorem dX7_years_64 : decode cX7_years 64 = .ok (.tableswitch 52 0 2 #[28, 36, 44], 28) := by decide +kernel
theorem dX7_years_92 : decode cX7_years 92 = .ok (.aload_n 0, 1) := by decide +kernel
theorem dX7_years_93 : decode cX7_years 93 = .ok (.getfield 33, 3) := by decide +kernel
theorem dX7_years_96 : decode cX7_years 96 = .ok (.invokevirtual 155, 3) := by decide +kernel
theorem dX7_years_99 : decode cX7_years 99 = .ok (.ireturn, 1) := by decide +kernel
theorem dX7_years_100 : decode cX7_years 100 = .ok (.aload_n 0, 1) := by decide +kernel
theorem dX7_years_101 : decode cX7_years 101 = .ok (.getfield 33, 3) := by decide +kernel
theorem dX7_years_104 : decode cX7_years 104 = .ok (.invokevirtual 233, 3) := by decide +kernel
theorem dX7_years_107 : decode cX7_years 107 = .ok (.ireturn, 1) := by decide +kernel
theorem dX7_years_108 : decode cX7_years 108 = .ok (.aload_n 0, 1) := by decide +kernel
theorem dX7_years_109 : decode cX7_years 109 = .ok (.getfield 33, 3) := by decide +kernel
theorem dX7_years_112 : decode cX7_years 112 = .ok (.invokevirtual 158, 3) := by decide +kernel
theorem dX7_years_115 : decode cX7_years 115 = .ok (.ireturn, 1) := by decide +kernel
theorem dX7_years_116 : decode cX7_years 116 = .ok (.iload 4, 2) := by decide +kernel
theorem dX7_years_118 : decode cX7_years 118 = .ok (.ireturn, 1) := by decide +kernel
set_option maxHeartbeats 4000000 in
set_option maxRecDepth 100000 in
theorem c_X7_years {l : Launch} {g : GW} {a : AT} {x y z : Int32} (μ : Mm) (hA : RC μ a)  : Con l g yX7_years cX7_years 5 (some .int) 5 [.ref 0, .int x, .int y, .int z] μ (fun r μ' => r = some (.int (fYears a x y z)) ∧ RC μ' a ∧ FrC μ μ') := by
  obtain ⟨a1, a2, a3, a4, ⟨b, hb, hcur, hdrf, hB⟩, hS, hK, hD, hW⟩ := id hA
  obtain ⟨r1, r2, r3, r4, r5, r6, r7, r8, r9⟩ := id hS
  obtain ⟨w1, w2, w3, w4, w5, w6⟩ := id hW
  obtain ⟨p1, p2, p3⟩ := id a1
  obtain ⟨hb1, hb2, hb3, hb4, hb5, hb6, hrow⟩ := bkF hb
  have hship : ∀ i, i < 6 → 4 + 1 + 1 + i < 88 ∧ kt (4 + 1 + 1 + i) = 5 := (seaF (Or.inl rfl)).2.2.2.2.2.2
  have h4 : (4 : Nat) = 4 ∨ (4 : Nat) = 13 ∨ (4 : Nat) = 22 := Or.inl rfl
  refine Con.of [.ref 0, .int x, .int y, .int z, .null] 1 (by decide +kernel) (Nat.le_of_ble_eq_true rfl) rfl ?_
  refine V_iload_n (pc := 0) dX7_years_0 rfl rfl ?_
  refine V_iconst (pc := 1) (v := 1) dX7_years_1 (by decide) ?_
  refine V_icmplt (pc := 2) (tgt := 24) dX7_years_2 (by decide) (fun h2 => ?_) (fun h2 => ?_)
  · have e9 : inD x 60 = false := inD_f1 h2
    refine V_bipush (pc := 24) (v := (-102)) dX7_years_24 (by decide) ?_
    refine V_iret (pc := 26) dX7_years_26 rfl ?_
    refine ⟨congrArg (fun z => some (Value.int z)) ?_, hA, FrC.rf⟩
    first
    | (simp [fYears, e9]; done)
    | (simp [fYears, h12]; done)
    | (simp [fYears, e8]; done)
  refine V_iload_n (pc := 5) dX7_years_5 rfl rfl ?_
  refine V_bipush (pc := 6) (v := 60) dX7_years_6 (by decide) ?_
  refine V_icmpgt (pc := 8) (tgt := 24) dX7_years_8 (by decide) (fun h8 => ?_) (fun h8 => ?_)
  · have e9 : inD x 60 = false := inD_f2 (M := 60) (by decide) h8
    refine V_bipush (pc := 24) (v := (-102)) dX7_years_24 (by decide) ?_
    refine V_iret (pc := 26) dX7_years_26 rfl ?_
    refine ⟨congrArg (fun z => some (Value.int z)) ?_, hA, FrC.rf⟩
    first
    | (simp [fYears, e9]; done)
    | (simp [fYears, h12]; done)
    | (simp [fYears, e8]; done)
  have e9 : inD x 60 = true := inD_t (M := 60) (by decide) h2 h8
  refine V_iload_n (pc := 11) dX7_years_11 rfl rfl ?_
  refine V_iflt (pc := 12) (tgt := 24) dX7_years_12 (by decide) (fun h12 => ?_) (fun h12 => ?_)
  · refine V_bipush (pc := 24) (v := (-102)) dX7_years_24 (by decide) ?_
    refine V_iret (pc := 26) dX7_years_26 rfl ?_
    refine ⟨congrArg (fun z => some (Value.int z)) ?_, hA, FrC.rf⟩
    first
    | (simp [fYears, e9]; done)
    | (simp [fYears, h12]; done)
    | (simp [fYears, e8]; done)
  refine V_iload_n (pc := 15) dX7_years_15 rfl rfl ?_
  refine V_iflt (pc := 16) (tgt := 24) dX7_years_16 (by decide) (fun h16 => ?_) (fun h16 => ?_)
  · have e8 : inN z 4 = false := inN_f1 h16
    refine V_bipush (pc := 24) (v := (-102)) dX7_years_24 (by decide) ?_
    refine V_iret (pc := 26) dX7_years_26 rfl ?_
    refine ⟨congrArg (fun z => some (Value.int z)) ?_, hA, FrC.rf⟩
    first
    | (simp [fYears, e9]; done)
    | (simp [fYears, h12]; done)
    | (simp [fYears, e8]; done)
  refine V_iload_n (pc := 19) dX7_years_19 rfl rfl ?_
  refine V_iconst (pc := 20) (v := 4) dX7_years_20 (by decide) ?_
  refine V_icmplt (pc := 21) (tgt := 27) dX7_years_21 (by decide) (fun h21 => ?_) (fun h21 => ?_)
  · have e8 : inN z 4 = true := inN_t (M := 4) (by decide) h16 (fun q => absurd h21 (by rw [Int32.lt_iff_toInt_lt]; rw [Int32.le_iff_toInt_le] at q; omega))
    refine V_aload_n (pc := 27) dX7_years_27 rfl rfl ?_
    refine V_inv0 (pc := 28) (ci := 7) dX7_years_28 ml_X7_103 (by decide) rfl ⟨by decide, rfl⟩ (by first | decide | omega) (Nat.le_of_ble_eq_true rfl) (c_X7_hasBook μ hA) ?_
    rintro _ μ2 ⟨rfl, hμ⟩
    obtain rfl := hμ.symm
    refine V_ifne (pc := 31) (tgt := 37) dX7_years_31 (by decide) (fun h31 => ?_) (fun h31 => ?_)
    · have h31 := of_decide_eq_true (bI_ne h31)
      obtain ⟨d, hd, rfl⟩ := inD_of (by decide) e9
      obtain ⟨s, hs, rfl⟩ := nI_of h12
      obtain ⟨q, hq, rfl⟩ := inN_of (by decide) e8
      obtain ⟨τ, hD2⟩ := hD
      have e7 : fYears a (nI (d + 1)) (nI s) (nI q) = (let w := yrT (aTn a) (aOw a) (mkSea (sN (aS a)) (sK (aS a)) (sP (aS a)) (fun _ => 0) (sV (aS a)) (sT (aS a)) (sS (aS a)) (sD (aS a)) (sA (aS a)) (sG (aS a))) s (d + 1); if q = 0 then nI (homeT (sP w.1) (sN w.1)) else if q = 1 then nI (sumP (sP w.1) (sN w.1)) else if q = 2 then nI (cntB (sS w.1)) else nI w.2) := by
        simp only [fYears, e9, e8, h12, not_false_eq_true, decide_true, Bool.and_self, if_true, nn_nI (j := d + 1) (by omega), nn_nI (j := s) hs, nn_nI (j := q) (by omega)]
        rw [if_pos h31]
      rw [e7]
      clear e7
      refine V_aload_n (pc := 37) dX7_years_37 rfl rfl ?_
      refine V_getR (pc := 38) (ci := 7) (j := 4) (k2 := 22) dX7_years_38 fl_X7_33 (fun _ _ _ _ => rfl) (by decide) rfl (rf_7_4 rfl) ?_
      refine V_aload_n (pc := 41) dX7_years_41 rfl rfl ?_
      refine V_getR (pc := 42) (ci := 7) (j := 2) (k2 := 4) dX7_years_42 fl_X7_26 (fun _ _ _ _ => rfl) (by decide) rfl (rf_7_2 rfl) ?_
      refine V_inv1 (pc := 45) (ci := 4) dX7_years_45 ml_X7_225 (by decide) rfl ⟨by decide, rfl⟩ (by first | decide | omega) (Nat.le_of_ble_eq_true rfl) (c_X4_copyFrom μ (Or.inr (Or.inr rfl)) hD2 h4 hS (by decide)) ?_
      rintro _ μ1 ⟨rfl, k1, k2⟩
      have hB1 : BkR μ1 b (aTn a) (aOw a) := hB.kept k2 (fun k h1 h2 q => by rcases q with q | q <;> omega)
      refine V_aload_n (pc := 48) dX7_years_48 rfl rfl ?_
      refine V_getR (pc := 49) (ci := 7) (j := 4) (k2 := 22) dX7_years_49 fl_X7_33 (fun _ _ _ _ => rfl) (by decide) rfl (rf_7_4 rfl) ?_
      refine V_aload_n (pc := 52) dX7_years_52 rfl rfl ?_
      refine V_getR (pc := 53) (ci := 7) (j := 7) (k2 := b) dX7_years_53 fl_X7_53 (fun _ _ _ _ => rfl) (by decide) rfl ((rf_7_7 rfl).trans (by rw [k2.2]; exact hcur)) ?_
      refine V_iload_n (pc := 56) dX7_years_56 rfl rfl ?_
      refine V_iload_n (pc := 57) dX7_years_57 rfl rfl ?_
      refine V_inv3 (pc := 58) (ci := 4) dX7_years_58 ml_X7_229 (by decide) rfl ⟨by decide, rfl⟩ (by first | decide | omega) (Nat.le_of_ble_eq_true rfl) (c_X4_passYears (n := d + 1) (x := s) μ1 (Or.inr (Or.inr rfl)) k1 hb hB1 hd hs) ?_
      rintro _ μ2 ⟨rfl, m1, m2⟩
      have k4 : FrM (seaS 22) μ μ2 := k2.tr m2 (fun _ q => q)
      have hR2 : RC μ2 a := hA.kept k4 (fun k hk => by rcases hk with q | q <;> omega) ⟨_, m1⟩
      have hC2 : FrC μ μ2 := k4.C (fun k hk => by rcases hk with q | q <;> omega)
      refine V_istore4 (pc := 61) dX7_years_61 (by decide) rfl ?_
      refine V_iload_n (pc := 63) dX7_years_63 rfl rfl ?_
      have hsel : q = 0 ∨ q = 1 ∨ q = 2 ∨ q = 3 := by omega
      rcases hsel with hs64 | hs64 | hs64 | hs64
      · subst hs64
        refine V_tsIn (pc := 64) (off := 28) (tgt := 92) dX7_years_64 (by decide) (by decide) (by decide) (by decide) ?_
        refine V_aload_n (pc := 92) dX7_years_92 rfl rfl ?_
        refine V_getR (pc := 93) (ci := 7) (j := 4) (k2 := 22) dX7_years_93 fl_X7_33 (fun _ _ _ _ => rfl) (by decide) rfl (rf_7_4 rfl) ?_
        refine V_inv0 (pc := 96) (ci := 4) dX7_years_96 ml_X7_155 (by decide) rfl ⟨by decide, rfl⟩ (by first | decide | omega) (Nat.le_of_ble_eq_true rfl) (c_X4_homeCount μ2 (Or.inr (Or.inr rfl)) m1) ?_
        rintro _ μ3 ⟨rfl, hμ⟩
        obtain rfl := hμ.symm
        refine V_iret (pc := 99) dX7_years_99 rfl ?_
        exact ⟨rfl, hR2, hC2⟩
      · subst hs64
        refine V_tsIn (pc := 64) (off := 36) (tgt := 100) dX7_years_64 (by decide) (by decide) (by decide) (by decide) ?_
        refine V_aload_n (pc := 100) dX7_years_100 rfl rfl ?_
        refine V_getR (pc := 101) (ci := 7) (j := 4) (k2 := 22) dX7_years_101 fl_X7_33 (fun _ _ _ _ => rfl) (by decide) rfl (rf_7_4 rfl) ?_
        refine V_inv0 (pc := 104) (ci := 4) dX7_years_104 ml_X7_233 (by decide) rfl ⟨by decide, rfl⟩ (by first | decide | omega) (Nat.le_of_ble_eq_true rfl) (c_X4_placesTogether μ2 (Or.inr (Or.inr rfl)) m1) ?_
        rintro _ μ3 ⟨rfl, hμ⟩
        obtain rfl := hμ.symm
        refine V_iret (pc := 107) dX7_years_107 rfl ?_
        exact ⟨rfl, hR2, hC2⟩
      · subst hs64
        refine V_tsIn (pc := 64) (off := 44) (tgt := 108) dX7_years_64 (by decide) (by decide) (by decide) (by decide) ?_
        refine V_aload_n (pc := 108) dX7_years_108 rfl rfl ?_
        refine V_getR (pc := 109) (ci := 7) (j := 4) (k2 := 22) dX7_years_109 fl_X7_33 (fun _ _ _ _ => rfl) (by decide) rfl (rf_7_4 rfl) ?_
        refine V_inv0 (pc := 112) (ci := 4) dX7_years_112 ml_X7_158 (by decide) rfl ⟨by decide, rfl⟩ (by first | decide | omega) (Nat.le_of_ble_eq_true rfl) (c_X4_spentCount μ2 (Or.inr (Or.inr rfl)) m1) ?_
        rintro _ μ3 ⟨rfl, hμ⟩
        obtain rfl := hμ.symm
        refine V_iret (pc := 115) dX7_years_115 rfl ?_
        exact ⟨rfl, hR2, hC2⟩
      subst hs64
      refine V_tsOut (pc := 64) (tgt := 116) dX7_years_64 (by decide) (by decide) ?_
      refine V_iload (pc := 116) dX7_years_116 rfl ?_
      refine V_iret (pc := 118) dX7_years_118 rfl ?_
      exact ⟨rfl, hR2, hC2⟩
    have h31 := of_decide_eq_false (bI_e h31)
    refine V_bipush (pc := 34) (v := (-103)) dX7_years_34 (by decide) ?_
    refine V_iret (pc := 36) dX7_years_36 rfl ?_
    refine ⟨congrArg (fun z => some (Value.int z)) ?_, hA, FrC.rf⟩
    simp [fYears, e9, e8, h12, h31]
  have e8 : inN z 4 = false := inN_f2 (M := 4) (by decide) (by rw [Int32.lt_iff_toInt_lt] at h21; rw [Int32.le_iff_toInt_le]; omega)
  refine V_bipush (pc := 24) (v := (-102)) dX7_years_24 (by decide) ?_
  refine V_iret (pc := 26) dX7_years_26 rfl ?_
  refine ⟨congrArg (fun z => some (Value.int z)) ?_, hA, FrC.rf⟩
  first
  | (simp [fYears, e9]; done)
  | (simp [fYears, h12]; done)
  | (simp [fYears, e8]; done)
theorem dX7_mixBook_0 : decode cX7_mixBook 0 = .ok (.lload_n 1, 1) := by decide +kernel
theorem dX7_mixBook_1 : decode cX7_mixBook 1 = .ok (.lstore_n 3, 1) := by decide +kernel
theorem dX7_mixBook_2 : decode cX7_mixBook 2 = .ok (.iconst 0, 1) := by decide +kernel
theorem dX7_mixBook_3 : decode cX7_mixBook 3 = .ok (.istore 5, 2) := by decide +kernel
theorem dX7_mixBook_5 : decode cX7_mixBook 5 = .ok (.iload 5, 2) := by decide +kernel
theorem dX7_mixBook_7 : decode cX7_mixBook 7 = .ok (.iconst 4, 1) := by decide +kernel
theorem dX7_mixBook_8 : decode cX7_mixBook 8 = .ok (.if_icmp .gt 43, 3) := by decide +kernel
theorem dX7_mixBook_11 : decode cX7_mixBook 11 = .ok (.iconst 0, 1) := by decide +kernel
theorem dX7_mixBook_12 : decode cX7_mixBook 12 = .ok (.istore 6, 2) := by decide +kernel
theorem dX7_mixBook_14 : decode cX7_mixBook 14 = .ok (.iload 6, 2) := by decide +kernel
theorem dX7_mixBook_16 : decode cX7_mixBook 16 = .ok (.iconst 3, 1) := by decide +kernel
theorem dX7_mixBook_17 : decode cX7_mixBook 17 = .ok (.if_icmp .ge 28, 3) := by decide +kernel
theorem dX7_mixBook_20 : decode cX7_mixBook 20 = .ok (.lload_n 3, 1) := by decide +kernel
theorem dX7_mixBook_21 : decode cX7_mixBook 21 = .ok (.aload_n 0, 1) := by decide +kernel
theorem dX7_mixBook_22 : decode cX7_mixBook 22 = .ok (.getfield 53, 3) := by decide +kernel
theorem dX7_mixBook_25 : decode cX7_mixBook 25 = .ok (.getfield 106, 3) := by decide +kernel
theorem dX7_mixBook_28 : decode cX7_mixBook 28 = .ok (.iload 5, 2) := by decide +kernel
theorem dX7_mixBook_30 : decode cX7_mixBook 30 = .ok (.aaload, 1) := by decide +kernel
theorem dX7_mixBook_31 : decode cX7_mixBook 31 = .ok (.iload 6, 2) := by decide +kernel
theorem dX7_mixBook_33 : decode cX7_mixBook 33 = .ok (.iaload, 1) := by decide +kernel
theorem dX7_mixBook_34 : decode cX7_mixBook 34 = .ok (.i2l, 1) := by decide +kernel
theorem dX7_mixBook_35 : decode cX7_mixBook 35 = .ok (.invokestatic 252, 3) := by decide +kernel
theorem dX7_mixBook_38 : decode cX7_mixBook 38 = .ok (.lstore_n 3, 1) := by decide +kernel
theorem dX7_mixBook_39 : decode cX7_mixBook 39 = .ok (.iinc 6 1, 3) := by decide +kernel
theorem dX7_mixBook_42 : decode cX7_mixBook 42 = .ok (.goto (-28), 3) := by decide +kernel
theorem dX7_mixBook_45 : decode cX7_mixBook 45 = .ok (.iinc 5 1, 3) := by decide +kernel
theorem dX7_mixBook_48 : decode cX7_mixBook 48 = .ok (.goto (-43), 3) := by decide +kernel
theorem dX7_mixBook_51 : decode cX7_mixBook 51 = .ok (.iconst 0, 1) := by decide +kernel
theorem dX7_mixBook_52 : decode cX7_mixBook 52 = .ok (.istore 5, 2) := by decide +kernel
theorem dX7_mixBook_54 : decode cX7_mixBook 54 = .ok (.iload 5, 2) := by decide +kernel
theorem dX7_mixBook_56 : decode cX7_mixBook 56 = .ok (.bipush 6, 2) := by decide +kernel
theorem dX7_mixBook_58 : decode cX7_mixBook 58 = .ok (.if_icmp .ge 25, 3) := by decide +kernel
theorem dX7_mixBook_61 : decode cX7_mixBook 61 = .ok (.lload_n 3, 1) := by decide +kernel
theorem dX7_mixBook_62 : decode cX7_mixBook 62 = .ok (.aload_n 0, 1) := by decide +kernel
theorem dX7_mixBook_63 : decode cX7_mixBook 63 = .ok (.getfield 53, 3) := by decide +kernel
theorem dX7_mixBook_66 : decode cX7_mixBook 66 = .ok (.getfield 113, 3) := by decide +kernel
theorem dX7_mixBook_69 : decode cX7_mixBook 69 = .ok (.iload 5, 2) := by decide +kernel
theorem dX7_mixBook_71 : decode cX7_mixBook 71 = .ok (.iaload, 1) := by decide +kernel
theorem dX7_mixBook_72 : decode cX7_mixBook 72 = .ok (.i2l, 1) := by decide +kernel
theorem dX7_mixBook_73 : decode cX7_mixBook 73 = .ok (.invokestatic 252, 3) := by decide +kernel
theorem dX7_mixBook_76 : decode cX7_mixBook 76 = .ok (.lstore_n 3, 1) := by decide +kernel
theorem dX7_mixBook_77 : decode cX7_mixBook 77 = .ok (.iinc 5 1, 3) := by decide +kernel
theorem dX7_mixBook_80 : decode cX7_mixBook 80 = .ok (.goto (-26), 3) := by decide +kernel
theorem dX7_mixBook_83 : decode cX7_mixBook 83 = .ok (.lload_n 3, 1) := by decide +kernel
theorem dX7_mixBook_84 : decode cX7_mixBook 84 = .ok (.aload_n 0, 1) := by decide +kernel
theorem dX7_mixBook_85 : decode cX7_mixBook 85 = .ok (.getfield 53, 3) := by decide +kernel
theorem dX7_mixBook_88 : decode cX7_mixBook 88 = .ok (.invokevirtual 196, 3) := by decide +kernel
theorem dX7_mixBook_91 : decode cX7_mixBook 91 = .ok (.i2l, 1) := by decide +kernel
theorem dX7_mixBook_92 : decode cX7_mixBook 92 = .ok (.invokestatic 252, 3) := by decide +kernel
theorem dX7_mixBook_95 : decode cX7_mixBook 95 = .ok (.lreturn, 1) := by decide +kernel
set_option maxHeartbeats 4000000 in
set_option maxRecDepth 100000 in
theorem c_X7_mixBook {l : Launch} {g : GW} {a : AT} {h : Int64} (μ : Mm) (hA : RC μ a)  : Con l g yX7_mixBook cX7_mixBook 7 (some .long) 3 [.ref 0, .long h] μ (fun r μ' => r = some (.long (dBk a h)) ∧ μ' = μ) := by
  obtain ⟨a1, a2, a3, a4, ⟨b, hb, hcur, hdrf, hB⟩, hS, hK, hD, hW⟩ := id hA
  obtain ⟨r1, r2, r3, r4, r5, r6, r7, r8, r9⟩ := id hS
  obtain ⟨w1, w2, w3, w4, w5, w6⟩ := id hW
  obtain ⟨p1, p2, p3⟩ := id a1
  obtain ⟨hb1, hb2, hb3, hb4, hb5, hb6, hrow⟩ := bkF hb
  have hship : ∀ i, i < 6 → 4 + 1 + 1 + i < 88 ∧ kt (4 + 1 + 1 + i) = 5 := (seaF (Or.inl rfl)).2.2.2.2.2.2
  have h4 : (4 : Nat) = 4 ∨ (4 : Nat) = 13 ∨ (4 : Nat) = 22 := Or.inl rfl
  have hf : ∀ w s, s < 3 → (nI (aTn a ((3 * w + s) / 3) ((3 * w + s) % 3))).toInt64 = (nI (aTn a w s)).toInt64 := fun w s hs => by rw [show (3 * w + s) / 3 = w by omega, show (3 * w + s) % 3 = s by omega]
  refine Con.of [.ref 0, .long h, .null, .null, .null, .null, .null] 4 (by decide +kernel) (Nat.le_of_ble_eq_true rfl) rfl ?_
  refine V_lload_n (pc := 0) dX7_mixBook_0 rfl rfl ?_
  refine V_lstore3 (pc := 1) dX7_mixBook_1 (by decide) rfl ?_
  refine V_iconst (pc := 2) (v := 0) dX7_mixBook_2 (by decide) ?_
  refine V_istore5 (pc := 3) dX7_mixBook_3 (by decide) rfl ?_
  have loopA : ∀ (nA w : Nat) (u : Int64) (y6 : Value), w ≤ 5 → 5 < w + nA → (u = mxF (fun k => (nI (aTn a (k / 3) (k % 3))).toInt64) h (3 * w)) → V l g RX7 cX7_mixBook 7 (some .long) 3 5 [.ref 0, .long h, .null, .long u, .null, .int (nI w), y6] [] μ (fun r μ' => r = some (.long (dBk a h)) ∧ μ' = μ) := by
    intro nA
    induction nA with
    | zero => intro w u y6 h1 h2; exact absurd h2 (by omega)
    | succ nA ihA =>
      intro w u y6 hleA hfuA hu
      refine V_iload (pc := 5) dX7_mixBook_5 rfl ?_
      refine V_iconst (pc := 7) (v := 4) dX7_mixBook_7 (by decide) ?_
      refine V_icmpgt (pc := 8) (tgt := 51) dX7_mixBook_8 (by decide) (fun h8 => ?_) (fun h8 => ?_)
      · have h8 := (nI_ltI (a := 4) (b := w) (by decide) (by omega)).mp h8; obtain rfl : w = 5 := by omega
        refine V_iconst (pc := 51) (v := 0) dX7_mixBook_51 (by decide) ?_
        refine V_istore5 (pc := 52) dX7_mixBook_52 (by decide) rfl ?_
        have loopC : ∀ (nC n : Nat) (v : Int64) (y6 : Value), n ≤ 6 → 6 < n + nC → (v = mxF (fun n => (cI (aOw a n)).toInt64) (mxF (fun k => (nI (aTn a (k / 3) (k % 3))).toInt64) h 15) n) → V l g RX7 cX7_mixBook 7 (some .long) 3 54 [.ref 0, .long h, .null, .long v, .null, .int (nI n), y6] [] μ (fun r μ' => r = some (.long (dBk a h)) ∧ μ' = μ) := by
          intro nC
          induction nC with
          | zero => intro n v y6 h1 h2; exact absurd h2 (by omega)
          | succ nC ihC =>
            intro n v y6 hleC hfuC hv
            refine V_iload (pc := 54) dX7_mixBook_54 rfl ?_
            refine V_bipush (pc := 56) (v := 6) dX7_mixBook_56 (by decide) ?_
            refine V_icmpge (pc := 58) (tgt := 83) dX7_mixBook_58 (by decide) (fun h58 => ?_) (fun h58 => ?_)
            · have h58 := (nI_leI (a := 6) (b := n) (by decide) (by omega)).mp h58; obtain rfl : n = 6 := by omega
              refine V_lload_n (pc := 83) dX7_mixBook_83 rfl rfl ?_
              refine V_aload_n (pc := 84) dX7_mixBook_84 rfl rfl ?_
              refine V_getR (pc := 85) (ci := 7) (j := 7) (k2 := b) dX7_mixBook_85 fl_X7_53 (fun _ _ _ _ => rfl) (by decide) rfl ((rf_7_7 rfl).trans hcur) ?_
              refine V_inv0 (pc := 88) (ci := 0) dX7_mixBook_88 ml_X7_196 (by first | decide | omega) (by first | rfl | assumption | exact (hship _ (by omega)).2 | exact (hrow _ (by omega)).2.1 | decide) ⟨by decide, rfl⟩ (by first | decide | omega) (Nat.le_of_ble_eq_true rfl) (c_X0_tellingSign μ hb hB) ?_
              rintro _ μ2 ⟨rfl, hμ⟩
              obtain rfl := hμ.symm
              refine V_i2l (pc := 91) dX7_mixBook_91 ?_
              refine V_ins2 (pc := 92) dX7_mixBook_92 ml_X7_252 (by first | decide | omega) (Nat.le_of_ble_eq_true rfl) (c_X7_mix μ) ?_
              rintro _ μ2 ⟨rfl, hμ⟩
              obtain rfl := hμ.symm
              refine V_lret (pc := 95) dX7_mixBook_95 rfl ?_
              exact ⟨by rw [hv]; rfl, rfl⟩
            have hlt : n < 6 := nI_l3 (a := 6) (by decide) (by omega) h58
            refine V_lload_n (pc := 61) dX7_mixBook_61 rfl rfl ?_
            refine V_aload_n (pc := 62) dX7_mixBook_62 rfl rfl ?_
            refine V_getR (pc := 63) (ci := 7) (j := 7) (k2 := b) dX7_mixBook_63 fl_X7_53 (fun _ _ _ _ => rfl) (by decide) rfl ((rf_7_7 rfl).trans hcur) ?_
            refine V_getR (pc := 66) (ci := 0) (j := 1) (k2 := (b + 7)) dX7_mixBook_66 fl_X7_113 (fun _ _ _ _ => rfl) (by first | decide | omega) (by first | rfl | assumption | exact (hship _ (by omega)).2 | exact (hrow _ (by omega)).2.1 | decide) (rf_0_1 (by first | rfl | assumption | exact (hship _ (by omega)).2 | exact (hrow _ (by omega)).2.1 | decide)) ?_
            refine V_iload (pc := 69) dX7_mixBook_69 rfl ?_
            refine V_iald (pc := 71) (j := n) dX7_mixBook_71 (by first | decide | omega) (by first | rfl | assumption | exact (hship _ (by omega)).2 | exact (hrow _ (by omega)).2.1 | decide) rfl (by omega) ?_
            rw [hB.2.1 n (by omega)]
            refine V_i2l (pc := 72) dX7_mixBook_72 ?_
            refine V_ins2 (pc := 73) dX7_mixBook_73 ml_X7_252 (by first | decide | omega) (Nat.le_of_ble_eq_true rfl) (c_X7_mix μ) ?_
            rintro _ μ2 ⟨rfl, hμ⟩
            obtain rfl := hμ.symm
            refine V_lstore3 (pc := 76) dX7_mixBook_76 (by decide) rfl ?_
            refine V_iinc5 (pc := 77) (v := nI (n + 1)) dX7_mixBook_77 (nI_1 n) (by decide) rfl ?_
            refine V_goto (pc := 80) (tgt := 54) dX7_mixBook_80 (by decide) ?_
            exact ihC (n + 1) _ _ (by omega) (by omega) (by rw [hv]; rfl)
        exact loopC (6 + 1) 0 _ _ (by omega) (by omega) hu
      have hlt : w < 5 := by have := mt (nI_ltI (a := 4) (b := w) (by decide) (by omega)).mpr h8; omega
      refine V_iconst (pc := 11) (v := 0) dX7_mixBook_11 (by decide) ?_
      refine V_istore6 (pc := 12) dX7_mixBook_12 (by decide) rfl ?_
      have loopB : ∀ (nB s : Nat) (v : Int64), s ≤ 3 → 3 < s + nB → (v = mxF (fun k => (nI (aTn a (k / 3) (k % 3))).toInt64) h (3 * w + s)) → V l g RX7 cX7_mixBook 7 (some .long) 3 14 [.ref 0, .long h, .null, .long v, .null, .int (nI w), .int (nI s)] [] μ (fun r μ' => r = some (.long (dBk a h)) ∧ μ' = μ) := by
        intro nB
        induction nB with
        | zero => intro s v h1 h2; exact absurd h2 (by omega)
        | succ nB ihB =>
          intro s v hleB hfuB hv
          refine V_iload (pc := 14) dX7_mixBook_14 rfl ?_
          refine V_iconst (pc := 16) (v := 3) dX7_mixBook_16 (by decide) ?_
          refine V_icmpge (pc := 17) (tgt := 45) dX7_mixBook_17 (by decide) (fun h17 => ?_) (fun h17 => ?_)
          · have h17 := (nI_leI (a := 3) (b := s) (by decide) (by omega)).mp h17; obtain rfl : s = 3 := by omega
            refine V_iinc5 (pc := 45) (v := nI (w + 1)) dX7_mixBook_45 (nI_1 w) (by decide) rfl ?_
            refine V_goto (pc := 48) (tgt := 5) dX7_mixBook_48 (by decide) ?_
            exact ihA (w + 1) _ _ (by omega) (by omega) hv
          have hlt : s < 3 := nI_l3 (a := 3) (by decide) (by omega) h17
          refine V_lload_n (pc := 20) dX7_mixBook_20 rfl rfl ?_
          refine V_aload_n (pc := 21) dX7_mixBook_21 rfl rfl ?_
          refine V_getR (pc := 22) (ci := 7) (j := 7) (k2 := b) dX7_mixBook_22 fl_X7_53 (fun _ _ _ _ => rfl) (by decide) rfl ((rf_7_7 rfl).trans hcur) ?_
          refine V_getR (pc := 25) (ci := 0) (j := 0) (k2 := (b + 1)) dX7_mixBook_25 fl_X7_106 (fun _ _ _ _ => rfl) (by first | decide | omega) (by first | rfl | assumption | exact (hship _ (by omega)).2 | exact (hrow _ (by omega)).2.1 | decide) (rf_0_0 (by first | rfl | assumption | exact (hship _ (by omega)).2 | exact (hrow _ (by omega)).2.1 | decide)) ?_
          refine V_iload (pc := 28) dX7_mixBook_28 rfl ?_
          refine V_aald15 (pc := 30) (j := w) dX7_mixBook_30 (by first | decide | omega) (by first | rfl | assumption | exact (hship _ (by omega)).2 | exact (hrow _ (by omega)).2.1 | decide) rfl (by omega) ?_
          refine V_iload (pc := 31) dX7_mixBook_31 rfl ?_
          refine V_iald (pc := 33) (j := s) dX7_mixBook_33 (by first | decide | omega) (by first | rfl | assumption | exact (hship _ (by omega)).2 | exact (hrow _ (by omega)).2.1 | decide) rfl (by have := (hrow w (by omega)).2.2; omega) ?_
          rw [hB.1 w s (by omega) (by omega)]
          refine V_i2l (pc := 34) dX7_mixBook_34 ?_
          refine V_ins2 (pc := 35) dX7_mixBook_35 ml_X7_252 (by first | decide | omega) (Nat.le_of_ble_eq_true rfl) (c_X7_mix μ) ?_
          rintro _ μ2 ⟨rfl, hμ⟩
          obtain rfl := hμ.symm
          refine V_lstore3 (pc := 38) dX7_mixBook_38 (by decide) rfl ?_
          refine V_iinc6 (pc := 39) (v := nI (s + 1)) dX7_mixBook_39 (nI_1 s) (by decide) rfl ?_
          refine V_goto (pc := 42) (tgt := 14) dX7_mixBook_42 (by decide) ?_
          exact ihB (s + 1) _ (by omega) (by omega) (by rw [hv, ← hf w s (by omega)]; rfl)
      exact loopB (3 + 1) 0 _ (by omega) (by omega) hu
  exact loopA (5 + 1) 0 _ _ (by omega) (by omega) rfl
theorem dX7_mixShip_0 : decode cX7_mixShip 0 = .ok (.lload_n 1, 1) := by decide +kernel
theorem dX7_mixShip_1 : decode cX7_mixShip 1 = .ok (.lstore 4, 2) := by decide +kernel
theorem dX7_mixShip_3 : decode cX7_mixShip 3 = .ok (.iconst 0, 1) := by decide +kernel
theorem dX7_mixShip_4 : decode cX7_mixShip 4 = .ok (.istore 6, 2) := by decide +kernel
theorem dX7_mixShip_6 : decode cX7_mixShip 6 = .ok (.iload 6, 2) := by decide +kernel
theorem dX7_mixShip_8 : decode cX7_mixShip 8 = .ok (.iconst 5, 1) := by decide +kernel
theorem dX7_mixShip_9 : decode cX7_mixShip 9 = .ok (.if_icmp .ge 24, 3) := by decide +kernel
theorem dX7_mixShip_12 : decode cX7_mixShip 12 = .ok (.lload 4, 2) := by decide +kernel
theorem dX7_mixShip_14 : decode cX7_mixShip 14 = .ok (.aload_n 0, 1) := by decide +kernel
theorem dX7_mixShip_15 : decode cX7_mixShip 15 = .ok (.iload_n 3, 1) := by decide +kernel
theorem dX7_mixShip_16 : decode cX7_mixShip 16 = .ok (.iload 6, 2) := by decide +kernel
theorem dX7_mixShip_18 : decode cX7_mixShip 18 = .ok (.invokevirtual 272, 3) := by decide +kernel
theorem dX7_mixShip_21 : decode cX7_mixShip 21 = .ok (.i2l, 1) := by decide +kernel
theorem dX7_mixShip_22 : decode cX7_mixShip 22 = .ok (.invokestatic 252, 3) := by decide +kernel
theorem dX7_mixShip_25 : decode cX7_mixShip 25 = .ok (.lstore 4, 2) := by decide +kernel
theorem dX7_mixShip_27 : decode cX7_mixShip 27 = .ok (.iinc 6 1, 3) := by decide +kernel
theorem dX7_mixShip_30 : decode cX7_mixShip 30 = .ok (.goto (-24), 3) := by decide +kernel
theorem dX7_mixShip_33 : decode cX7_mixShip 33 = .ok (.lload 4, 2) := by decide +kernel
theorem dX7_mixShip_35 : decode cX7_mixShip 35 = .ok (.aload_n 0, 1) := by decide +kernel
theorem dX7_mixShip_36 : decode cX7_mixShip 36 = .ok (.iload_n 3, 1) := by decide +kernel
theorem dX7_mixShip_37 : decode cX7_mixShip 37 = .ok (.iconst 2, 1) := by decide +kernel
theorem dX7_mixShip_38 : decode cX7_mixShip 38 = .ok (.iconst 0, 1) := by decide +kernel
theorem dX7_mixShip_39 : decode cX7_mixShip 39 = .ok (.invokevirtual 275, 3) := by decide +kernel
theorem dX7_mixShip_42 : decode cX7_mixShip 42 = .ok (.invokestatic 252, 3) := by decide +kernel
theorem dX7_mixShip_45 : decode cX7_mixShip 45 = .ok (.lstore 4, 2) := by decide +kernel
theorem dX7_mixShip_47 : decode cX7_mixShip 47 = .ok (.lload 4, 2) := by decide +kernel
theorem dX7_mixShip_49 : decode cX7_mixShip 49 = .ok (.aload_n 0, 1) := by decide +kernel
theorem dX7_mixShip_50 : decode cX7_mixShip 50 = .ok (.iload_n 3, 1) := by decide +kernel
theorem dX7_mixShip_51 : decode cX7_mixShip 51 = .ok (.iconst 2, 1) := by decide +kernel
theorem dX7_mixShip_52 : decode cX7_mixShip 52 = .ok (.iconst 1, 1) := by decide +kernel
theorem dX7_mixShip_53 : decode cX7_mixShip 53 = .ok (.invokevirtual 275, 3) := by decide +kernel
theorem dX7_mixShip_56 : decode cX7_mixShip 56 = .ok (.invokestatic 252, 3) := by decide +kernel
theorem dX7_mixShip_59 : decode cX7_mixShip 59 = .ok (.lreturn, 1) := by decide +kernel
set_option maxHeartbeats 4000000 in
set_option maxRecDepth 100000 in
theorem c_X7_mixShip {l : Launch} {g : GW} {a : AT} {h : Int64} {i : Nat} (μ : Mm) (hA : RC μ a) (hi : i < sN (aS a)) : Con l g yX7_mixShip cX7_mixShip 7 (some .long) 15 [.ref 0, .long h, .int (nI i)] μ (fun r μ' => r = some (.long (dSh a h i)) ∧ RC μ' a ∧ FrC μ μ') := by
  obtain ⟨a1, a2, a3, a4, ⟨b, hb, hcur, hdrf, hB⟩, hS, hK, hD, hW⟩ := id hA
  obtain ⟨r1, r2, r3, r4, r5, r6, r7, r8, r9⟩ := id hS
  obtain ⟨w1, w2, w3, w4, w5, w6⟩ := id hW
  obtain ⟨p1, p2, p3⟩ := id a1
  obtain ⟨hb1, hb2, hb3, hb4, hb5, hb6, hrow⟩ := bkF hb
  have hship : ∀ i, i < 6 → 4 + 1 + 1 + i < 88 ∧ kt (4 + 1 + 1 + i) = 5 := (seaF (Or.inl rfl)).2.2.2.2.2.2
  have h4 : (4 : Nat) = 4 ∨ (4 : Nat) = 13 ∨ (4 : Nat) = 22 := Or.inl rfl
  refine Con.of [.ref 0, .long h, .null, .int (nI i), .null, .null, .null] 3 (by decide +kernel) (Nat.le_of_ble_eq_true rfl) rfl ?_
  refine V_lload_n (pc := 0) dX7_mixShip_0 rfl rfl ?_
  refine V_lstore4 (pc := 1) dX7_mixShip_1 (by decide) rfl ?_
  refine V_iconst (pc := 3) (v := 0) dX7_mixShip_3 (by decide) ?_
  refine V_istore6 (pc := 4) dX7_mixShip_4 (by decide) rfl ?_
  have loopA : ∀ (nA q : Nat) (u : Int64), q ≤ 5 → 5 < q + nA → (u = mxF (fun q => (tel (aS a) i q).toInt64) h q) → V l g RX7 cX7_mixShip 7 (some .long) 15 6 [.ref 0, .long h, .null, .int (nI i), .long u, .null, .int (nI q)] [] μ (fun r μ' => r = some (.long (dSh a h i)) ∧ RC μ' a ∧ FrC μ μ') := by
    intro nA
    induction nA with
    | zero => intro q u h1 h2; exact absurd h2 (by omega)
    | succ nA ihA =>
      intro q u hleA hfuA hu
      refine V_iload (pc := 6) dX7_mixShip_6 rfl ?_
      refine V_iconst (pc := 8) (v := 5) dX7_mixShip_8 (by decide) ?_
      refine V_icmpge (pc := 9) (tgt := 33) dX7_mixShip_9 (by decide) (fun h9 => ?_) (fun h9 => ?_)
      · have h9 := (nI_leI (a := 5) (b := q) (by decide) (by omega)).mp h9; obtain rfl : q = 5 := by omega
        refine V_lload (pc := 33) dX7_mixShip_33 rfl ?_
        refine V_aload_n (pc := 35) dX7_mixShip_35 rfl rfl ?_
        refine V_iload_n (pc := 36) dX7_mixShip_36 rfl rfl ?_
        refine V_iconst (pc := 37) (v := 2) dX7_mixShip_37 (by decide) ?_
        refine V_iconst (pc := 38) (v := 0) dX7_mixShip_38 (by decide) ?_
        refine V_inv3 (pc := 39) (ci := 7) dX7_mixShip_39 ml_X7_275 (by decide) rfl ⟨by decide, rfl⟩ (by first | decide | omega) (Nat.le_of_ble_eq_true rfl) (c_X7_likely (x := nI i) (y := 2) (z := 0) μ hA) ?_
        rintro _ μ1 ⟨rfl, k1, k2⟩
        refine V_ins2 (pc := 42) dX7_mixShip_42 ml_X7_252 (by first | decide | omega) (Nat.le_of_ble_eq_true rfl) (c_X7_mix μ1) ?_
        rintro _ μ3 ⟨rfl, hμ⟩
        obtain rfl := hμ.symm
        refine V_lstore4 (pc := 45) dX7_mixShip_45 (by decide) rfl ?_
        refine V_lload (pc := 47) dX7_mixShip_47 rfl ?_
        refine V_aload_n (pc := 49) dX7_mixShip_49 rfl rfl ?_
        refine V_iload_n (pc := 50) dX7_mixShip_50 rfl rfl ?_
        refine V_iconst (pc := 51) (v := 2) dX7_mixShip_51 (by decide) ?_
        refine V_iconst (pc := 52) (v := 1) dX7_mixShip_52 (by decide) ?_
        refine V_inv3 (pc := 53) (ci := 7) dX7_mixShip_53 ml_X7_275 (by decide) rfl ⟨by decide, rfl⟩ (by first | decide | omega) (Nat.le_of_ble_eq_true rfl) (c_X7_likely (x := nI i) (y := 2) (z := 1) μ1 k1) ?_
        rintro _ μ2 ⟨rfl, m1, m2⟩
        refine V_ins2 (pc := 56) dX7_mixShip_56 ml_X7_252 (by first | decide | omega) (Nat.le_of_ble_eq_true rfl) (c_X7_mix μ2) ?_
        rintro _ μ3 ⟨rfl, hμ⟩
        obtain rfl := hμ.symm
        refine V_lret (pc := 59) dX7_mixShip_59 rfl ?_
        exact ⟨by rw [hu]; rfl, m1, k2.tr m2⟩
      have hlt : q < 5 := nI_l3 (a := 5) (by decide) (by omega) h9
      refine V_lload (pc := 12) dX7_mixShip_12 rfl ?_
      refine V_aload_n (pc := 14) dX7_mixShip_14 rfl rfl ?_
      refine V_iload_n (pc := 15) dX7_mixShip_15 rfl rfl ?_
      refine V_iload (pc := 16) dX7_mixShip_16 rfl ?_
      refine V_inv2 (pc := 18) (ci := 7) dX7_mixShip_18 ml_X7_272 (by decide) rfl ⟨by decide, rfl⟩ (by first | decide | omega) (Nat.le_of_ble_eq_true rfl) (c_X7_about (x := nI i) (y := nI q) μ hA) ?_
      rintro _ μ2 ⟨rfl, hμ⟩
      obtain rfl := hμ.symm
      rw [show fAbout a (nI i) (nI q) = tel (aS a) i q from by simp only [fAbout, inN_lt hi (by omega), inN_lt hlt (by decide), if_true, nn_nI (j := i) (by omega), nn_nI (j := q) (by omega)]]
      refine V_i2l (pc := 21) dX7_mixShip_21 ?_
      refine V_ins2 (pc := 22) dX7_mixShip_22 ml_X7_252 (by first | decide | omega) (Nat.le_of_ble_eq_true rfl) (c_X7_mix μ) ?_
      rintro _ μ2 ⟨rfl, hμ⟩
      obtain rfl := hμ.symm
      refine V_lstore4 (pc := 25) dX7_mixShip_25 (by decide) rfl ?_
      refine V_iinc6 (pc := 27) (v := nI (q + 1)) dX7_mixShip_27 (nI_1 q) (by decide) rfl ?_
      refine V_goto (pc := 30) (tgt := 6) dX7_mixShip_30 (by decide) ?_
      exact ihA (q + 1) _ (by omega) (by omega) (by rw [hu]; rfl)
  exact loopA (5 + 1) 0 _ (by omega) (by omega) rfl
theorem dX7_digest_0 : decode cX7_digest 0 = .ok (.ldc2_w 243, 3) := by decide +kernel
theorem dX7_digest_3 : decode cX7_digest 3 = .ok (.lstore_n 1, 1) := by decide +kernel
theorem dX7_digest_4 : decode cX7_digest 4 = .ok (.aload_n 0, 1) := by decide +kernel
theorem dX7_digest_5 : decode cX7_digest 5 = .ok (.invokevirtual 103, 3) := by decide +kernel
theorem dX7_digest_8 : decode cX7_digest 8 = .ok (.ifCond .eq 9, 3) := by decide +kernel
theorem dX7_digest_11 : decode cX7_digest 11 = .ok (.aload_n 0, 1) := by decide +kernel
theorem dX7_digest_12 : decode cX7_digest 12 = .ok (.lload_n 1, 1) := by decide +kernel
theorem dX7_digest_13 : decode cX7_digest 13 = .ok (.invokevirtual 245, 3) := by decide +kernel
theorem dX7_digest_16 : decode cX7_digest 16 = .ok (.lstore_n 1, 1) := by decide +kernel
theorem dX7_digest_17 : decode cX7_digest 17 = .ok (.iconst 0, 1) := by decide +kernel
theorem dX7_digest_18 : decode cX7_digest 18 = .ok (.istore_n 3, 1) := by decide +kernel
theorem dX7_digest_19 : decode cX7_digest 19 = .ok (.iload_n 3, 1) := by decide +kernel
theorem dX7_digest_20 : decode cX7_digest 20 = .ok (.bipush 6, 2) := by decide +kernel
theorem dX7_digest_22 : decode cX7_digest 22 = .ok (.if_icmp .ge 29, 3) := by decide +kernel
theorem dX7_digest_25 : decode cX7_digest 25 = .ok (.lload_n 1, 1) := by decide +kernel
theorem dX7_digest_26 : decode cX7_digest 26 = .ok (.aload_n 0, 1) := by decide +kernel
theorem dX7_digest_27 : decode cX7_digest 27 = .ok (.iload_n 3, 1) := by decide +kernel
theorem dX7_digest_28 : decode cX7_digest 28 = .ok (.invokevirtual 249, 3) := by decide +kernel
theorem dX7_digest_31 : decode cX7_digest 31 = .ok (.i2l, 1) := by decide +kernel
theorem dX7_digest_32 : decode cX7_digest 32 = .ok (.invokestatic 252, 3) := by decide +kernel
theorem dX7_digest_35 : decode cX7_digest 35 = .ok (.aload_n 0, 1) := by decide +kernel
theorem dX7_digest_36 : decode cX7_digest 36 = .ok (.iload_n 3, 1) := by decide +kernel
theorem dX7_digest_37 : decode cX7_digest 37 = .ok (.invokevirtual 256, 3) := by decide +kernel
theorem dX7_digest_40 : decode cX7_digest 40 = .ok (.i2l, 1) := by decide +kernel
theorem dX7_digest_41 : decode cX7_digest 41 = .ok (.invokestatic 252, 3) := by decide +kernel
theorem dX7_digest_44 : decode cX7_digest 44 = .ok (.lstore_n 1, 1) := by decide +kernel
theorem dX7_digest_45 : decode cX7_digest 45 = .ok (.iinc 3 1, 3) := by decide +kernel
theorem dX7_digest_48 : decode cX7_digest 48 = .ok (.goto (-29), 3) := by decide +kernel
theorem dX7_digest_51 : decode cX7_digest 51 = .ok (.iconst 0, 1) := by decide +kernel
theorem dX7_digest_52 : decode cX7_digest 52 = .ok (.istore_n 3, 1) := by decide +kernel
theorem dX7_digest_53 : decode cX7_digest 53 = .ok (.iload_n 3, 1) := by decide +kernel
theorem dX7_digest_54 : decode cX7_digest 54 = .ok (.aload_n 0, 1) := by decide +kernel
theorem dX7_digest_55 : decode cX7_digest 55 = .ok (.getfield 26, 3) := by decide +kernel
theorem dX7_digest_58 : decode cX7_digest 58 = .ok (.getfield 236, 3) := by decide +kernel
theorem dX7_digest_61 : decode cX7_digest 61 = .ok (.if_icmp .ge 16, 3) := by decide +kernel
theorem dX7_digest_64 : decode cX7_digest 64 = .ok (.aload_n 0, 1) := by decide +kernel
theorem dX7_digest_65 : decode cX7_digest 65 = .ok (.lload_n 1, 1) := by decide +kernel
theorem dX7_digest_66 : decode cX7_digest 66 = .ok (.iload_n 3, 1) := by decide +kernel
theorem dX7_digest_67 : decode cX7_digest 67 = .ok (.invokevirtual 259, 3) := by decide +kernel
theorem dX7_digest_70 : decode cX7_digest 70 = .ok (.lstore_n 1, 1) := by decide +kernel
theorem dX7_digest_71 : decode cX7_digest 71 = .ok (.iinc 3 1, 3) := by decide +kernel
theorem dX7_digest_74 : decode cX7_digest 74 = .ok (.goto (-21), 3) := by decide +kernel
theorem dX7_digest_77 : decode cX7_digest 77 = .ok (.aload_n 0, 1) := by decide +kernel
theorem dX7_digest_78 : decode cX7_digest 78 = .ok (.getfield 39, 3) := by decide +kernel
theorem dX7_digest_81 : decode cX7_digest 81 = .ok (.getfield 212, 3) := by decide +kernel
theorem dX7_digest_84 : decode cX7_digest 84 = .ok (.ifCond .eq 13, 3) := by decide +kernel
theorem dX7_digest_87 : decode cX7_digest 87 = .ok (.lload_n 1, 1) := by decide +kernel
theorem dX7_digest_88 : decode cX7_digest 88 = .ok (.aload_n 0, 1) := by decide +kernel
theorem dX7_digest_89 : decode cX7_digest 89 = .ok (.invokevirtual 263, 3) := by decide +kernel
theorem dX7_digest_92 : decode cX7_digest 92 = .ok (.i2l, 1) := by decide +kernel
theorem dX7_digest_93 : decode cX7_digest 93 = .ok (.invokestatic 252, 3) := by decide +kernel
theorem dX7_digest_96 : decode cX7_digest 96 = .ok (.lstore_n 1, 1) := by decide +kernel
theorem dX7_digest_97 : decode cX7_digest 97 = .ok (.iconst 0, 1) := by decide +kernel
theorem dX7_digest_98 : decode cX7_digest 98 = .ok (.istore_n 3, 1) := by decide +kernel
theorem dX7_digest_99 : decode cX7_digest 99 = .ok (.iload_n 3, 1) := by decide +kernel
theorem dX7_digest_100 : decode cX7_digest 100 = .ok (.aload_n 0, 1) := by decide +kernel
theorem dX7_digest_101 : decode cX7_digest 101 = .ok (.getfield 12, 3) := by decide +kernel
theorem dX7_digest_104 : decode cX7_digest 104 = .ok (.getfield 72, 3) := by decide +kernel
theorem dX7_digest_107 : decode cX7_digest 107 = .ok (.if_icmp .ge 24, 3) := by decide +kernel
theorem dX7_digest_110 : decode cX7_digest 110 = .ok (.lload_n 1, 1) := by decide +kernel
theorem dX7_digest_111 : decode cX7_digest 111 = .ok (.aload_n 0, 1) := by decide +kernel
theorem dX7_digest_112 : decode cX7_digest 112 = .ok (.getfield 12, 3) := by decide +kernel
theorem dX7_digest_115 : decode cX7_digest 115 = .ok (.getfield 266, 3) := by decide +kernel
theorem dX7_digest_118 : decode cX7_digest 118 = .ok (.iload_n 3, 1) := by decide +kernel
theorem dX7_digest_119 : decode cX7_digest 119 = .ok (.iaload, 1) := by decide +kernel
theorem dX7_digest_120 : decode cX7_digest 120 = .ok (.i2l, 1) := by decide +kernel
theorem dX7_digest_121 : decode cX7_digest 121 = .ok (.invokestatic 252, 3) := by decide +kernel
theorem dX7_digest_124 : decode cX7_digest 124 = .ok (.lstore_n 1, 1) := by decide +kernel
theorem dX7_digest_125 : decode cX7_digest 125 = .ok (.iinc 3 1, 3) := by decide +kernel
theorem dX7_digest_128 : decode cX7_digest 128 = .ok (.goto (-29), 3) := by decide +kernel
theorem dX7_digest_131 : decode cX7_digest 131 = .ok (.iconst 0, 1) := by decide +kernel
theorem dX7_digest_132 : decode cX7_digest 132 = .ok (.istore_n 3, 1) := by decide +kernel
theorem dX7_digest_133 : decode cX7_digest 133 = .ok (.iload_n 3, 1) := by decide +kernel
theorem dX7_digest_134 : decode cX7_digest 134 = .ok (.bipush 9, 2) := by decide +kernel
theorem dX7_digest_136 : decode cX7_digest 136 = .ok (.if_icmp .ge 20, 3) := by decide +kernel
theorem dX7_digest_139 : decode cX7_digest 139 = .ok (.lload_n 1, 1) := by decide +kernel
theorem dX7_digest_140 : decode cX7_digest 140 = .ok (.aload_n 0, 1) := by decide +kernel
theorem dX7_digest_141 : decode cX7_digest 141 = .ok (.iload_n 3, 1) := by decide +kernel
theorem dX7_digest_142 : decode cX7_digest 142 = .ok (.invokevirtual 269, 3) := by decide +kernel
theorem dX7_digest_145 : decode cX7_digest 145 = .ok (.i2l, 1) := by decide +kernel
theorem dX7_digest_146 : decode cX7_digest 146 = .ok (.invokestatic 252, 3) := by decide +kernel
theorem dX7_digest_149 : decode cX7_digest 149 = .ok (.lstore_n 1, 1) := by decide +kernel
theorem dX7_digest_150 : decode cX7_digest 150 = .ok (.iinc 3 1, 3) := by decide +kernel
theorem dX7_digest_153 : decode cX7_digest 153 = .ok (.goto (-20), 3) := by decide +kernel
theorem dX7_digest_156 : decode cX7_digest 156 = .ok (.lload_n 1, 1) := by decide +kernel
theorem dX7_digest_157 : decode cX7_digest 157 = .ok (.lreturn, 1) := by decide +kernel
set_option maxHeartbeats 4000000 in
set_option maxRecDepth 100000 in
theorem c_X7_digest {l : Launch} {g : GW} {a : AT}  (μ : Mm) (hA : RC μ a)  : Con l g yX7_digest cX7_digest 4 (some .long) 16 [.ref 0] μ (fun r μ' => r = some (.long (fDigest a)) ∧ RC μ' a ∧ FrC μ μ') := by
  obtain ⟨a1, a2, a3, a4, ⟨b, hb, hcur, hdrf, hB⟩, hS, hK, hD, hW⟩ := id hA
  obtain ⟨r1, r2, r3, r4, r5, r6, r7, r8, r9⟩ := id hS
  obtain ⟨w1, w2, w3, w4, w5, w6⟩ := id hW
  obtain ⟨p1, p2, p3⟩ := id a1
  obtain ⟨hb1, hb2, hb3, hb4, hb5, hb6, hrow⟩ := bkF hb
  have hship : ∀ i, i < 6 → 4 + 1 + 1 + i < 88 ∧ kt (4 + 1 + 1 + i) = 5 := (seaF (Or.inl rfl)).2.2.2.2.2.2
  have h4 : (4 : Nat) = 4 ∨ (4 : Nat) = 13 ∨ (4 : Nat) = 22 := Or.inl rfl
  refine Con.of [.ref 0, .null, .null, .null] 3 (by decide +kernel) (Nat.le_of_ble_eq_true rfl) rfl ?_
  have J17 : ∀ (u : Int64) (y3 : Value), u = (if 0 < aNb a then dBk a 661 else 661) → V l g RX7 cX7_digest 4 (some .long) 16 17 [.ref 0, .long u, .null, y3] [] μ (fun r μ' => r = some (.long (fDigest a)) ∧ RC μ' a ∧ FrC μ μ') := by
    intro u y3 hu
    refine V_iconst (pc := 17) (v := 0) dX7_digest_17 (by decide) ?_
    refine V_istore3 (pc := 18) dX7_digest_18 (by decide) rfl ?_
    have loopA : ∀ (nA n : Nat) (v : Int64), n ≤ 6 → 6 < n + nA → (v = dNm a (if 0 < aNb a then dBk a 661 else 661) n) → V l g RX7 cX7_digest 4 (some .long) 16 19 [.ref 0, .long v, .null, .int (nI n)] [] μ (fun r μ' => r = some (.long (fDigest a)) ∧ RC μ' a ∧ FrC μ μ') := by
      intro nA
      induction nA with
      | zero => intro n v h1 h2; exact absurd h2 (by omega)
      | succ nA ihA =>
        intro n v hleA hfuA hv
        refine V_iload_n (pc := 19) dX7_digest_19 rfl rfl ?_
        refine V_bipush (pc := 20) (v := 6) dX7_digest_20 (by decide) ?_
        refine V_icmpge (pc := 22) (tgt := 51) dX7_digest_22 (by decide) (fun h22 => ?_) (fun h22 => ?_)
        · have h22 := (nI_leI (a := 6) (b := n) (by decide) (by omega)).mp h22; obtain rfl : n = 6 := by omega
          refine V_iconst (pc := 51) (v := 0) dX7_digest_51 (by decide) ?_
          refine V_istore3 (pc := 52) dX7_digest_52 (by decide) rfl ?_
          have loopB : ∀ (nB i : Nat) (μ1 : Mm) (v : Int64), i ≤ sN (aS a) → sN (aS a) < i + nB → (v = dSs a (dNm a (if 0 < aNb a then dBk a 661 else 661) 6) i) → (RC μ1 a) → (FrC μ μ1) → V l g RX7 cX7_digest 4 (some .long) 16 53 [.ref 0, .long v, .null, .int (nI i)] [] μ1 (fun r μ' => r = some (.long (fDigest a)) ∧ RC μ' a ∧ FrC μ μ') := by
            intro nB
            induction nB with
            | zero => intro i μ1 v h1 h2; exact absurd h2 (by omega)
            | succ nB ihB =>
              intro i μ1 v hleB hfuB hw2 q1 q2
              refine V_iload_n (pc := 53) dX7_digest_53 rfl rfl ?_
              refine V_aload_n (pc := 54) dX7_digest_54 rfl rfl ?_
              refine V_getR (pc := 55) (ci := 7) (j := 2) (k2 := 4) dX7_digest_55 fl_X7_26 (fun _ _ _ _ => rfl) (by decide) rfl (rf_7_2 rfl) ?_
              refine V_getI (pc := 58) (ci := 4) (j := 2) dX7_digest_58 fl_X7_236 (fun _ _ _ _ => rfl) (by decide) rfl ?_
              refine V_icmpge (pc := 61) (tgt := 77) dX7_digest_61 (by decide) (fun h61 => ?_) (fun h61 => ?_)
              · rw [q1.2.2.2.2.2.1.1, nI_leI (by omega) (by omega)] at h61; obtain rfl : i = sN (aS a) := by omega
                have J97 : ∀ (u : Int64) (y3 : Value), u = (if aWb a then mx (dSs a (dNm a (if 0 < aNb a then dBk a 661 else 661) 6) (sN (aS a))) (fCalled a).toInt64 else (dSs a (dNm a (if 0 < aNb a then dBk a 661 else 661) 6) (sN (aS a)))) → V l g RX7 cX7_digest 4 (some .long) 16 97 [.ref 0, .long u, .null, y3] [] μ1 (fun r μ' => r = some (.long (fDigest a)) ∧ RC μ' a ∧ FrC μ μ') := by
                  intro u y3 hu4
                  obtain ⟨s1, s2, s3⟩ := id q1.1
                  refine V_iconst (pc := 97) (v := 0) dX7_digest_97 (by decide) ?_
                  refine V_istore3 (pc := 98) dX7_digest_98 (by decide) rfl ?_
                  have loopC : ∀ (nC i : Nat) (v : Int64), i ≤ aPn a → aPn a < i + nC → (v = mxF (fun i => (nI (aPc a i)).toInt64) (if aWb a then mx (dSs a (dNm a (if 0 < aNb a then dBk a 661 else 661) 6) (sN (aS a))) (fCalled a).toInt64 else (dSs a (dNm a (if 0 < aNb a then dBk a 661 else 661) 6) (sN (aS a)))) i) → V l g RX7 cX7_digest 4 (some .long) 16 99 [.ref 0, .long v, .null, .int (nI i)] [] μ1 (fun r μ' => r = some (.long (fDigest a)) ∧ RC μ' a ∧ FrC μ μ') := by
                    intro nC
                    induction nC with
                    | zero => intro i v h1 h2; exact absurd h2 (by omega)
                    | succ nC ihC =>
                      intro i v hleC hfuC hv5
                      refine V_iload_n (pc := 99) dX7_digest_99 rfl rfl ?_
                      refine V_aload_n (pc := 100) dX7_digest_100 rfl rfl ?_
                      refine V_getR (pc := 101) (ci := 7) (j := 0) (k2 := 1) dX7_digest_101 fl_X7_12 (fun _ _ _ _ => rfl) (by decide) rfl (rf_7_0 rfl) ?_
                      refine V_getI (pc := 104) (ci := 2) (j := 1) dX7_digest_104 fl_X7_72 (fun _ _ _ _ => rfl) (by decide) rfl ?_
                      refine V_icmpge (pc := 107) (tgt := 131) dX7_digest_107 (by decide) (fun h107 => ?_) (fun h107 => ?_)
                      · rw [s1, nI_leI (by omega) (by omega)] at h107; obtain rfl : i = aPn a := by omega
                        refine V_iconst (pc := 131) (v := 0) dX7_digest_131 (by decide) ?_
                        refine V_istore3 (pc := 132) dX7_digest_132 (by decide) rfl ?_
                        have loopD : ∀ (nD q : Nat) (v : Int64), q ≤ 9 → 9 < q + nD → (v = mxF (fun q => (fCount a (nI q)).toInt64) (mxF (fun i => (nI (aPc a i)).toInt64) (if aWb a then mx (dSs a (dNm a (if 0 < aNb a then dBk a 661 else 661) 6) (sN (aS a))) (fCalled a).toInt64 else (dSs a (dNm a (if 0 < aNb a then dBk a 661 else 661) 6) (sN (aS a)))) (aPn a)) q) → V l g RX7 cX7_digest 4 (some .long) 16 133 [.ref 0, .long v, .null, .int (nI q)] [] μ1 (fun r μ' => r = some (.long (fDigest a)) ∧ RC μ' a ∧ FrC μ μ') := by
                          intro nD
                          induction nD with
                          | zero => intro q v h1 h2; exact absurd h2 (by omega)
                          | succ nD ihD =>
                            intro q v hleD hfuD hv6
                            refine V_iload_n (pc := 133) dX7_digest_133 rfl rfl ?_
                            refine V_bipush (pc := 134) (v := 9) dX7_digest_134 (by decide) ?_
                            refine V_icmpge (pc := 136) (tgt := 156) dX7_digest_136 (by decide) (fun h136 => ?_) (fun h136 => ?_)
                            · have h136 := (nI_leI (a := 9) (b := q) (by decide) (by omega)).mp h136; obtain rfl : q = 9 := by omega
                              refine V_lload_n (pc := 156) dX7_digest_156 rfl rfl ?_
                              refine V_lret (pc := 157) dX7_digest_157 rfl ?_
                              exact ⟨by rw [hv6]; rfl, q1, q2⟩
                            have hlt : q < 9 := nI_l3 (a := 9) (by decide) (by omega) h136
                            refine V_lload_n (pc := 139) dX7_digest_139 rfl rfl ?_
                            refine V_aload_n (pc := 140) dX7_digest_140 rfl rfl ?_
                            refine V_iload_n (pc := 141) dX7_digest_141 rfl rfl ?_
                            refine V_inv1 (pc := 142) (ci := 7) dX7_digest_142 ml_X7_269 (by decide) rfl ⟨by decide, rfl⟩ (by first | decide | omega) (Nat.le_of_ble_eq_true rfl) (c_X7_count (x := nI q) μ1 q1) ?_
                            rintro _ μ9 ⟨rfl, hμ⟩
                            obtain rfl := hμ.symm
                            refine V_i2l (pc := 145) dX7_digest_145 ?_
                            refine V_ins2 (pc := 146) dX7_digest_146 ml_X7_252 (by first | decide | omega) (Nat.le_of_ble_eq_true rfl) (c_X7_mix μ1) ?_
                            rintro _ μ9 ⟨rfl, hμ⟩
                            obtain rfl := hμ.symm
                            refine V_lstore1 (pc := 149) dX7_digest_149 (by decide) rfl ?_
                            refine V_iinc3 (pc := 150) (v := nI (q + 1)) dX7_digest_150 (nI_1 q) (by decide) rfl ?_
                            refine V_goto (pc := 153) (tgt := 133) dX7_digest_153 (by decide) ?_
                            exact ihD (q + 1) _ (by omega) (by omega) (by rw [hv6]; rfl)
                        exact loopD (9 + 1) 0 _ (by omega) (by omega) hv5
                      rw [s1, nI_leI (by omega) (by omega)] at h107; have hlt : i < aPn a := (by omega)
                      refine V_lload_n (pc := 110) dX7_digest_110 rfl rfl ?_
                      refine V_aload_n (pc := 111) dX7_digest_111 rfl rfl ?_
                      refine V_getR (pc := 112) (ci := 7) (j := 0) (k2 := 1) dX7_digest_112 fl_X7_12 (fun _ _ _ _ => rfl) (by decide) rfl (rf_7_0 rfl) ?_
                      refine V_getR (pc := 115) (ci := 2) (j := 0) (k2 := 2) dX7_digest_115 fl_X7_266 (fun _ _ _ _ => rfl) (by decide) rfl (rf_2_0 rfl) ?_
                      refine V_iload_n (pc := 118) dX7_digest_118 rfl rfl ?_
                      refine V_iald (pc := 119) (j := i) dX7_digest_119 (by decide) rfl rfl (by show i < 30; omega) ?_
                      rw [(s3 i (by omega)).1]
                      refine V_i2l (pc := 120) dX7_digest_120 ?_
                      refine V_ins2 (pc := 121) dX7_digest_121 ml_X7_252 (by first | decide | omega) (Nat.le_of_ble_eq_true rfl) (c_X7_mix μ1) ?_
                      rintro _ μ9 ⟨rfl, hμ⟩
                      obtain rfl := hμ.symm
                      refine V_lstore1 (pc := 124) dX7_digest_124 (by decide) rfl ?_
                      refine V_iinc3 (pc := 125) (v := nI (i + 1)) dX7_digest_125 (nI_1 i) (by decide) rfl ?_
                      refine V_goto (pc := 128) (tgt := 99) dX7_digest_128 (by decide) ?_
                      exact ihC (i + 1) _ (by omega) (by omega) (by rw [hv5]; rfl)
                  exact loopC (aPn a + 1) 0 _ (by omega) (by omega) hu4
                refine V_aload_n (pc := 77) dX7_digest_77 rfl rfl ?_
                refine V_getR (pc := 78) (ci := 7) (j := 5) (k2 := 31) dX7_digest_78 fl_X7_39 (fun _ _ _ _ => rfl) (by decide) rfl (rf_7_5 rfl) ?_
                refine V_getI (pc := 81) (ci := 6) (j := 1) dX7_digest_81 fl_X7_212 (fun _ _ _ _ => rfl) (by decide) rfl ?_
                rw [q1.2.2.2.2.2.2.2.2.1]
                refine V_ifeq (pc := 84) (tgt := 97) dX7_digest_84 (by decide) (fun h84 => ?_) (fun h84 => ?_)
                · have h84 := bI_e h84
                  first
                  | exact J97 _ _ (by rw [h84, hw2]; rfl)
                have h84 := bI_ne h84
                refine V_lload_n (pc := 87) dX7_digest_87 rfl rfl ?_
                refine V_aload_n (pc := 88) dX7_digest_88 rfl rfl ?_
                refine V_inv0 (pc := 89) (ci := 7) dX7_digest_89 ml_X7_263 (by decide) rfl ⟨by decide, rfl⟩ (by first | decide | omega) (Nat.le_of_ble_eq_true rfl) (c_X7_called μ1 q1) ?_
                rintro _ μ9 ⟨rfl, hμ⟩
                obtain rfl := hμ.symm
                refine V_i2l (pc := 92) dX7_digest_92 ?_
                refine V_ins2 (pc := 93) dX7_digest_93 ml_X7_252 (by first | decide | omega) (Nat.le_of_ble_eq_true rfl) (c_X7_mix μ1) ?_
                rintro _ μ9 ⟨rfl, hμ⟩
                obtain rfl := hμ.symm
                refine V_lstore1 (pc := 96) dX7_digest_96 (by decide) rfl ?_
                first
                | exact J97 _ _ (by rw [h84, hw2]; rfl)
              rw [q1.2.2.2.2.2.1.1, nI_leI (by omega) (by omega)] at h61; have hlt : i < sN (aS a) := (by omega)
              refine V_aload_n (pc := 64) dX7_digest_64 rfl rfl ?_
              refine V_lload_n (pc := 65) dX7_digest_65 rfl rfl ?_
              refine V_iload_n (pc := 66) dX7_digest_66 rfl rfl ?_
              refine V_inv2 (pc := 67) (ci := 7) dX7_digest_67 ml_X7_259 (by decide) rfl ⟨by decide, rfl⟩ (by first | decide | omega) (Nat.le_of_ble_eq_true rfl) (c_X7_mixShip μ1 q1 hlt) ?_
              rintro _ μ2 ⟨rfl, m1, m2⟩
              refine V_lstore1 (pc := 70) dX7_digest_70 (by decide) rfl ?_
              refine V_iinc3 (pc := 71) (v := nI (i + 1)) dX7_digest_71 (nI_1 i) (by decide) rfl ?_
              refine V_goto (pc := 74) (tgt := 53) dX7_digest_74 (by decide) ?_
              exact ihB (i + 1) μ2 _ (by omega) (by omega) (by rw [hw2]; rfl) m1 (q2.tr m2)
          exact loopB (sN (aS a) + 1) 0 _ _ (by omega) (by omega) hv hA FrC.rf
        have hlt : n < 6 := nI_l3 (a := 6) (by decide) (by omega) h22
        refine V_lload_n (pc := 25) dX7_digest_25 rfl rfl ?_
        refine V_aload_n (pc := 26) dX7_digest_26 rfl rfl ?_
        refine V_iload_n (pc := 27) dX7_digest_27 rfl rfl ?_
        refine V_inv1 (pc := 28) (ci := 7) dX7_digest_28 ml_X7_249 (by decide) rfl ⟨by decide, rfl⟩ (by first | decide | omega) (Nat.le_of_ble_eq_true rfl) (c_X7_spent (x := nI n) μ hA) ?_
        rintro _ μ2 ⟨rfl, hμ⟩
        obtain rfl := hμ.symm
        rw [show fSpent a (nI n) = bI ((sS (aS a)).testBit n) from by simp only [fSpent, inN_lt hlt (by decide), if_true, nn_nI (j := n) (by omega)]]
        refine V_i2l (pc := 31) dX7_digest_31 ?_
        refine V_ins2 (pc := 32) dX7_digest_32 ml_X7_252 (by first | decide | omega) (Nat.le_of_ble_eq_true rfl) (c_X7_mix μ) ?_
        rintro _ μ2 ⟨rfl, hμ⟩
        obtain rfl := hμ.symm
        refine V_aload_n (pc := 35) dX7_digest_35 rfl rfl ?_
        refine V_iload_n (pc := 36) dX7_digest_36 rfl rfl ?_
        refine V_inv1 (pc := 37) (ci := 7) dX7_digest_37 ml_X7_256 (by decide) rfl ⟨by decide, rfl⟩ (by first | decide | omega) (Nat.le_of_ble_eq_true rfl) (c_X7_guess (x := nI n) μ hA) ?_
        rintro _ μ2 ⟨rfl, hμ⟩
        obtain rfl := hμ.symm
        rw [show fGuess a (nI n) = sG (aS a) n from by simp only [fGuess, inN_lt hlt (by decide), if_true, nn_nI (j := n) (by omega)]]
        refine V_i2l (pc := 40) dX7_digest_40 ?_
        refine V_ins2 (pc := 41) dX7_digest_41 ml_X7_252 (by first | decide | omega) (Nat.le_of_ble_eq_true rfl) (c_X7_mix μ) ?_
        rintro _ μ2 ⟨rfl, hμ⟩
        obtain rfl := hμ.symm
        refine V_lstore1 (pc := 44) dX7_digest_44 (by decide) rfl ?_
        refine V_iinc3 (pc := 45) (v := nI (n + 1)) dX7_digest_45 (nI_1 n) (by decide) rfl ?_
        refine V_goto (pc := 48) (tgt := 19) dX7_digest_48 (by decide) ?_
        exact ihA (n + 1) _ (by omega) (by omega) (by rw [hv]; rfl)
    exact loopA (6 + 1) 0 _ (by omega) (by omega) hu
  refine V_ldc2 (pc := 0) (v := 661) ct_X7_243 dX7_digest_0 ?_
  refine V_lstore1 (pc := 3) dX7_digest_3 (by decide) rfl ?_
  refine V_aload_n (pc := 4) dX7_digest_4 rfl rfl ?_
  refine V_inv0 (pc := 5) (ci := 7) dX7_digest_5 ml_X7_103 (by decide) rfl ⟨by decide, rfl⟩ (by first | decide | omega) (Nat.le_of_ble_eq_true rfl) (c_X7_hasBook μ hA) ?_
  rintro _ μ2 ⟨rfl, hμ⟩
  obtain rfl := hμ.symm
  refine V_ifeq (pc := 8) (tgt := 17) dX7_digest_8 (by decide) (fun h8 => ?_) (fun h8 => ?_)
  · have h8 := of_decide_eq_false (bI_e h8)
    first
    | exact J17 _ _ (by rw [if_neg h8])
    | exact J17 _ _ (by rw [if_pos h8])
  have h8 := of_decide_eq_true (bI_ne h8)
  refine V_aload_n (pc := 11) dX7_digest_11 rfl rfl ?_
  refine V_lload_n (pc := 12) dX7_digest_12 rfl rfl ?_
  refine V_inv1 (pc := 13) (ci := 7) dX7_digest_13 ml_X7_245 (by decide) rfl ⟨by decide, rfl⟩ (by first | decide | omega) (Nat.le_of_ble_eq_true rfl) (c_X7_mixBook μ hA) ?_
  rintro _ μ2 ⟨rfl, hμ⟩
  obtain rfl := hμ.symm
  refine V_lstore1 (pc := 16) dX7_digest_16 (by decide) rfl ?_
  first
  | exact J17 _ _ (by rw [if_neg h8])
  | exact J17 _ _ (by rw [if_pos h8])
end
