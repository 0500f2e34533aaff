-- ===== PART A: goes FIRST, ahead of the names: the tables' words, and 'selects' of the private methods out of them =====
/-- a private method of a class that the tables say can be made, by its rows of tables_1 -/
def lw_okq (q : MethodName × Nat) : Prop := (q.1.cls ≠ "java/lang/invoke/MethodHandle" ∧ q.1.cls ≠ "java/lang/invoke/VarHandle") ∧ Cond.instantiable q.1.cls q.2 ∈ tables_1 ∧ Cond.privateMethod q.1 ∈ tables_1 ∧ Cond.instanceMethod q.1 ∈ tables_1
theorem lw_p0 : lw_okq (⟨"VineLaws", "rowAt", "(I)LVineLaws$Row;"⟩, 10) := ⟨⟨by decide +kernel, by decide +kernel⟩, List.mem_of_getElem? (i := 14) (by decide +kernel), List.mem_of_getElem? (i := 267) (by decide +kernel), List.mem_of_getElem? (i := 268) (by decide +kernel)⟩
theorem lw_p1 : lw_okq (⟨"VineLaws", "found", "(I)I"⟩, 10) := ⟨⟨by decide +kernel, by decide +kernel⟩, List.mem_of_getElem? (i := 14) (by decide +kernel), List.mem_of_getElem? (i := 275) (by decide +kernel), List.mem_of_getElem? (i := 276) (by decide +kernel)⟩
theorem lw_p2 : lw_okq (⟨"VineLaws$Row", "begin", "(II)V"⟩, 4) := ⟨⟨by decide +kernel, by decide +kernel⟩, List.mem_of_getElem? (i := 209) (by decide +kernel), List.mem_of_getElem? (i := 280) (by decide +kernel), List.mem_of_getElem? (i := 281) (by decide +kernel)⟩
theorem lw_p3 : lw_okq (⟨"VineLaws$Row", "hasPlaces", "(II)Z"⟩, 4) := ⟨⟨by decide +kernel, by decide +kernel⟩, List.mem_of_getElem? (i := 209) (by decide +kernel), List.mem_of_getElem? (i := 294) (by decide +kernel), List.mem_of_getElem? (i := 295) (by decide +kernel)⟩
theorem lw_p4 : lw_okq (⟨"VineLaws$Row", "put", "(II)I"⟩, 4) := ⟨⟨by decide +kernel, by decide +kernel⟩, List.mem_of_getElem? (i := 209) (by decide +kernel), List.mem_of_getElem? (i := 298) (by decide +kernel), List.mem_of_getElem? (i := 299) (by decide +kernel)⟩
theorem lw_p5 : lw_okq (⟨"VineLaws$Tape", "add", "(I)Z"⟩, 7) := ⟨⟨by decide +kernel, by decide +kernel⟩, List.mem_of_getElem? (i := 24) (by decide +kernel), List.mem_of_getElem? (i := 317) (by decide +kernel), List.mem_of_getElem? (i := 318) (by decide +kernel)⟩
theorem lw_p6 : lw_okq (⟨"VineLaws$Tape", "readInto", "(LVineLaws$Square;)Z"⟩, 7) := ⟨⟨by decide +kernel, by decide +kernel⟩, List.mem_of_getElem? (i := 24) (by decide +kernel), List.mem_of_getElem? (i := 326) (by decide +kernel), List.mem_of_getElem? (i := 327) (by decide +kernel)⟩
theorem lw_p7 : lw_okq (⟨"VineLaws$Square", "clear", "()V"⟩, 8) := ⟨⟨by decide +kernel, by decide +kernel⟩, List.mem_of_getElem? (i := 63) (by decide +kernel), List.mem_of_getElem? (i := 330) (by decide +kernel), List.mem_of_getElem? (i := 331) (by decide +kernel)⟩
theorem lw_p8 : lw_okq (⟨"VineLaws$Tape", "advance", "()V"⟩, 7) := ⟨⟨by decide +kernel, by decide +kernel⟩, List.mem_of_getElem? (i := 24) (by decide +kernel), List.mem_of_getElem? (i := 334) (by decide +kernel), List.mem_of_getElem? (i := 335) (by decide +kernel)⟩
theorem lw_p9 : lw_okq (⟨"VineLaws$Tape", "byteAt", "(I)I"⟩, 7) := ⟨⟨by decide +kernel, by decide +kernel⟩, List.mem_of_getElem? (i := 24) (by decide +kernel), List.mem_of_getElem? (i := 338) (by decide +kernel), List.mem_of_getElem? (i := 339) (by decide +kernel)⟩
theorem lw_p10 : lw_okq (⟨"VineLaws$Tape", "takeSign", "(I)V"⟩, 7) := ⟨⟨by decide +kernel, by decide +kernel⟩, List.mem_of_getElem? (i := 24) (by decide +kernel), List.mem_of_getElem? (i := 342) (by decide +kernel), List.mem_of_getElem? (i := 343) (by decide +kernel)⟩
theorem lw_p11 : lw_okq (⟨"VineLaws$Tape", "takeNumber", "(II)I"⟩, 7) := ⟨⟨by decide +kernel, by decide +kernel⟩, List.mem_of_getElem? (i := 24) (by decide +kernel), List.mem_of_getElem? (i := 346) (by decide +kernel), List.mem_of_getElem? (i := 347) (by decide +kernel)⟩
theorem lw_p12 : lw_okq (⟨"VineLaws$Tape", "readLeaf", "(LVineLaws$Square;)V"⟩, 7) := ⟨⟨by decide +kernel, by decide +kernel⟩, List.mem_of_getElem? (i := 24) (by decide +kernel), List.mem_of_getElem? (i := 353) (by decide +kernel), List.mem_of_getElem? (i := 354) (by decide +kernel)⟩
theorem lw_p13 : lw_okq (⟨"VineLaws$Tape", "readGoat", "(LVineLaws$Square;)V"⟩, 7) := ⟨⟨by decide +kernel, by decide +kernel⟩, List.mem_of_getElem? (i := 24) (by decide +kernel), List.mem_of_getElem? (i := 357) (by decide +kernel), List.mem_of_getElem? (i := 358) (by decide +kernel)⟩
theorem lw_p14 : lw_okq (⟨"VineLaws$Square", "take", "(LVineLaws$Square;)V"⟩, 8) := ⟨⟨by decide +kernel, by decide +kernel⟩, List.mem_of_getElem? (i := 63) (by decide +kernel), List.mem_of_getElem? (i := 362) (by decide +kernel), List.mem_of_getElem? (i := 363) (by decide +kernel)⟩
theorem lw_p15 : lw_okq (⟨"VineLaws$Leaf", "take", "(LVineLaws$Leaf;)V"⟩, 7) := ⟨⟨by decide +kernel, by decide +kernel⟩, List.mem_of_getElem? (i := 72) (by decide +kernel), List.mem_of_getElem? (i := 366) (by decide +kernel), List.mem_of_getElem? (i := 367) (by decide +kernel)⟩
def lw_privs_1 : List (MethodName × Nat) := [(⟨"VineLaws", "rowAt", "(I)LVineLaws$Row;"⟩, 10), (⟨"VineLaws", "found", "(I)I"⟩, 10), (⟨"VineLaws$Row", "begin", "(II)V"⟩, 4), (⟨"VineLaws$Row", "hasPlaces", "(II)Z"⟩, 4), (⟨"VineLaws$Row", "put", "(II)I"⟩, 4), (⟨"VineLaws$Tape", "add", "(I)Z"⟩, 7), (⟨"VineLaws$Tape", "readInto", "(LVineLaws$Square;)Z"⟩, 7), (⟨"VineLaws$Square", "clear", "()V"⟩, 8), (⟨"VineLaws$Tape", "advance", "()V"⟩, 7), (⟨"VineLaws$Tape", "byteAt", "(I)I"⟩, 7), (⟨"VineLaws$Tape", "takeSign", "(I)V"⟩, 7), (⟨"VineLaws$Tape", "takeNumber", "(II)I"⟩, 7), (⟨"VineLaws$Tape", "readLeaf", "(LVineLaws$Square;)V"⟩, 7), (⟨"VineLaws$Tape", "readGoat", "(LVineLaws$Square;)V"⟩, 7), (⟨"VineLaws$Square", "take", "(LVineLaws$Square;)V"⟩, 8), (⟨"VineLaws$Leaf", "take", "(LVineLaws$Leaf;)V"⟩, 7)]
theorem lw_r1 : ∀ q ∈ lw_privs_1, lw_okq q := List.forall_mem_cons.mpr ⟨lw_p0, List.forall_mem_cons.mpr ⟨lw_p1, List.forall_mem_cons.mpr ⟨lw_p2, List.forall_mem_cons.mpr ⟨lw_p3, List.forall_mem_cons.mpr ⟨lw_p4, List.forall_mem_cons.mpr ⟨lw_p5, List.forall_mem_cons.mpr ⟨lw_p6, List.forall_mem_cons.mpr ⟨lw_p7, List.forall_mem_cons.mpr ⟨lw_p8, List.forall_mem_cons.mpr ⟨lw_p9, List.forall_mem_cons.mpr ⟨lw_p10, List.forall_mem_cons.mpr ⟨lw_p11, List.forall_mem_cons.mpr ⟨lw_p12, List.forall_mem_cons.mpr ⟨lw_p13, List.forall_mem_cons.mpr ⟨lw_p14, List.forall_mem_cons.mpr ⟨lw_p15, fun _ h => absurd h List.not_mem_nil⟩⟩⟩⟩⟩⟩⟩⟩⟩⟩⟩⟩⟩⟩⟩⟩
theorem lw_p16 : lw_okq (⟨"VineLaws$Goat", "take", "(LVineLaws$Goat;)V"⟩, 5) := ⟨⟨by decide +kernel, by decide +kernel⟩, List.mem_of_getElem? (i := 115) (by decide +kernel), List.mem_of_getElem? (i := 370) (by decide +kernel), List.mem_of_getElem? (i := 371) (by decide +kernel)⟩
theorem lw_p17 : lw_okq (⟨"VineLaws$Past", "forget", "()V"⟩, 3) := ⟨⟨by decide +kernel, by decide +kernel⟩, List.mem_of_getElem? (i := 56) (by decide +kernel), List.mem_of_getElem? (i := 374) (by decide +kernel), List.mem_of_getElem? (i := 375) (by decide +kernel)⟩
theorem lw_p18 : lw_okq (⟨"VineLaws$Past", "bringBack", "(LVineLaws$Square;)Z"⟩, 3) := ⟨⟨by decide +kernel, by decide +kernel⟩, List.mem_of_getElem? (i := 56) (by decide +kernel), List.mem_of_getElem? (i := 386) (by decide +kernel), List.mem_of_getElem? (i := 387) (by decide +kernel)⟩
theorem lw_p19 : lw_okq (⟨"VineLaws$Square", "isThere", "()Z"⟩, 8) := ⟨⟨by decide +kernel, by decide +kernel⟩, List.mem_of_getElem? (i := 63) (by decide +kernel), List.mem_of_getElem? (i := 396) (by decide +kernel), List.mem_of_getElem? (i := 397) (by decide +kernel)⟩
theorem lw_p20 : lw_okq (⟨"VineLaws$Past", "keep", "(LVineLaws$Square;)V"⟩, 3) := ⟨⟨by decide +kernel, by decide +kernel⟩, List.mem_of_getElem? (i := 56) (by decide +kernel), List.mem_of_getElem? (i := 400) (by decide +kernel), List.mem_of_getElem? (i := 401) (by decide +kernel)⟩
theorem lw_p21 : lw_okq (⟨"VineLaws$Square", "passHour", "()I"⟩, 8) := ⟨⟨by decide +kernel, by decide +kernel⟩, List.mem_of_getElem? (i := 63) (by decide +kernel), List.mem_of_getElem? (i := 405) (by decide +kernel), List.mem_of_getElem? (i := 406) (by decide +kernel)⟩
theorem lw_p22 : lw_okq (⟨"VineLaws$Square", "letBite", "(LVineLaws$Goat;)I"⟩, 8) := ⟨⟨by decide +kernel, by decide +kernel⟩, List.mem_of_getElem? (i := 63) (by decide +kernel), List.mem_of_getElem? (i := 409) (by decide +kernel), List.mem_of_getElem? (i := 410) (by decide +kernel)⟩
theorem lw_p23 : lw_okq (⟨"VineLaws$Square", "choiceOf", "(LVineLaws$Goat;)LVineLaws$Leaf;"⟩, 8) := ⟨⟨by decide +kernel, by decide +kernel⟩, List.mem_of_getElem? (i := 63) (by decide +kernel), List.mem_of_getElem? (i := 413) (by decide +kernel), List.mem_of_getElem? (i := 414) (by decide +kernel)⟩
theorem lw_p24 : lw_okq (⟨"VineLaws$Goat", "isBiting", "()Z"⟩, 5) := ⟨⟨by decide +kernel, by decide +kernel⟩, List.mem_of_getElem? (i := 115) (by decide +kernel), List.mem_of_getElem? (i := 417) (by decide +kernel), List.mem_of_getElem? (i := 418) (by decide +kernel)⟩
theorem lw_p25 : lw_okq (⟨"VineLaws$Leaf", "liking", "(II)I"⟩, 7) := ⟨⟨by decide +kernel, by decide +kernel⟩, List.mem_of_getElem? (i := 72) (by decide +kernel), List.mem_of_getElem? (i := 422) (by decide +kernel), List.mem_of_getElem? (i := 423) (by decide +kernel)⟩
theorem lw_p26 : lw_okq (⟨"VineLaws$Leaf", "loseBite", "(I)I"⟩, 7) := ⟨⟨by decide +kernel, by decide +kernel⟩, List.mem_of_getElem? (i := 72) (by decide +kernel), List.mem_of_getElem? (i := 427) (by decide +kernel), List.mem_of_getElem? (i := 428) (by decide +kernel)⟩
theorem lw_p27 : lw_okq (⟨"VineLaws$Goat", "swallow", "(I)V"⟩, 5) := ⟨⟨by decide +kernel, by decide +kernel⟩, List.mem_of_getElem? (i := 115) (by decide +kernel), List.mem_of_getElem? (i := 432) (by decide +kernel), List.mem_of_getElem? (i := 433) (by decide +kernel)⟩
theorem lw_p28 : lw_okq (⟨"VineLaws$Goat", "endHour", "(I)V"⟩, 5) := ⟨⟨by decide +kernel, by decide +kernel⟩, List.mem_of_getElem? (i := 115) (by decide +kernel), List.mem_of_getElem? (i := 437) (by decide +kernel), List.mem_of_getElem? (i := 438) (by decide +kernel)⟩
theorem lw_p29 : lw_okq (⟨"VineLaws$Square", "leafAt", "(I)LVineLaws$Leaf;"⟩, 8) := ⟨⟨by decide +kernel, by decide +kernel⟩, List.mem_of_getElem? (i := 63) (by decide +kernel), List.mem_of_getElem? (i := 446) (by decide +kernel), List.mem_of_getElem? (i := 447) (by decide +kernel)⟩
theorem lw_p30 : lw_okq (⟨"VineLaws$Leaf", "isVoid", "()Z"⟩, 7) := ⟨⟨by decide +kernel, by decide +kernel⟩, List.mem_of_getElem? (i := 72) (by decide +kernel), List.mem_of_getElem? (i := 450) (by decide +kernel), List.mem_of_getElem? (i := 451) (by decide +kernel)⟩
theorem lw_p31 : lw_okq (⟨"VineLaws$Square", "goatAt", "(I)LVineLaws$Goat;"⟩, 8) := ⟨⟨by decide +kernel, by decide +kernel⟩, List.mem_of_getElem? (i := 63) (by decide +kernel), List.mem_of_getElem? (i := 466) (by decide +kernel), List.mem_of_getElem? (i := 467) (by decide +kernel)⟩
def lw_privs_2 : List (MethodName × Nat) := [(⟨"VineLaws$Goat", "take", "(LVineLaws$Goat;)V"⟩, 5), (⟨"VineLaws$Past", "forget", "()V"⟩, 3), (⟨"VineLaws$Past", "bringBack", "(LVineLaws$Square;)Z"⟩, 3), (⟨"VineLaws$Square", "isThere", "()Z"⟩, 8), (⟨"VineLaws$Past", "keep", "(LVineLaws$Square;)V"⟩, 3), (⟨"VineLaws$Square", "passHour", "()I"⟩, 8), (⟨"VineLaws$Square", "letBite", "(LVineLaws$Goat;)I"⟩, 8), (⟨"VineLaws$Square", "choiceOf", "(LVineLaws$Goat;)LVineLaws$Leaf;"⟩, 8), (⟨"VineLaws$Goat", "isBiting", "()Z"⟩, 5), (⟨"VineLaws$Leaf", "liking", "(II)I"⟩, 7), (⟨"VineLaws$Leaf", "loseBite", "(I)I"⟩, 7), (⟨"VineLaws$Goat", "swallow", "(I)V"⟩, 5), (⟨"VineLaws$Goat", "endHour", "(I)V"⟩, 5), (⟨"VineLaws$Square", "leafAt", "(I)LVineLaws$Leaf;"⟩, 8), (⟨"VineLaws$Leaf", "isVoid", "()Z"⟩, 7), (⟨"VineLaws$Square", "goatAt", "(I)LVineLaws$Goat;"⟩, 8)]
theorem lw_r2 : ∀ q ∈ lw_privs_2, lw_okq q := List.forall_mem_cons.mpr ⟨lw_p16, List.forall_mem_cons.mpr ⟨lw_p17, List.forall_mem_cons.mpr ⟨lw_p18, List.forall_mem_cons.mpr ⟨lw_p19, List.forall_mem_cons.mpr ⟨lw_p20, List.forall_mem_cons.mpr ⟨lw_p21, List.forall_mem_cons.mpr ⟨lw_p22, List.forall_mem_cons.mpr ⟨lw_p23, List.forall_mem_cons.mpr ⟨lw_p24, List.forall_mem_cons.mpr ⟨lw_p25, List.forall_mem_cons.mpr ⟨lw_p26, List.forall_mem_cons.mpr ⟨lw_p27, List.forall_mem_cons.mpr ⟨lw_p28, List.forall_mem_cons.mpr ⟨lw_p29, List.forall_mem_cons.mpr ⟨lw_p30, List.forall_mem_cons.mpr ⟨lw_p31, fun _ h => absurd h List.not_mem_nil⟩⟩⟩⟩⟩⟩⟩⟩⟩⟩⟩⟩⟩⟩⟩⟩
theorem lw_p32 : lw_okq (⟨"VineLaws$Leaf", "standing", "()I"⟩, 7) := ⟨⟨by decide +kernel, by decide +kernel⟩, List.mem_of_getElem? (i := 72) (by decide +kernel), List.mem_of_getElem? (i := 479) (by decide +kernel), List.mem_of_getElem? (i := 480) (by decide +kernel)⟩
theorem lw_p33 : lw_okq (⟨"VineLaws$Leaf", "isInForce", "()Z"⟩, 7) := ⟨⟨by decide +kernel, by decide +kernel⟩, List.mem_of_getElem? (i := 72) (by decide +kernel), List.mem_of_getElem? (i := 484) (by decide +kernel), List.mem_of_getElem? (i := 485) (by decide +kernel)⟩
theorem lw_p34 : lw_okq (⟨"VineLaws$Square", "leafIn", "(LVineLaws$Square;I)LVineLaws$Leaf;"⟩, 8) := ⟨⟨by decide +kernel, by decide +kernel⟩, List.mem_of_getElem? (i := 63) (by decide +kernel), List.mem_of_getElem? (i := 498) (by decide +kernel), List.mem_of_getElem? (i := 499) (by decide +kernel)⟩
theorem lw_p35 : lw_okq (⟨"VineLaws$Square", "passHours", "(I)V"⟩, 8) := ⟨⟨by decide +kernel, by decide +kernel⟩, List.mem_of_getElem? (i := 63) (by decide +kernel), List.mem_of_getElem? (i := 504) (by decide +kernel), List.mem_of_getElem? (i := 505) (by decide +kernel)⟩
theorem lw_p36 : lw_okq (⟨"VineLaws$Square", "inForce", "()I"⟩, 8) := ⟨⟨by decide +kernel, by decide +kernel⟩, List.mem_of_getElem? (i := 63) (by decide +kernel), List.mem_of_getElem? (i := 513) (by decide +kernel), List.mem_of_getElem? (i := 514) (by decide +kernel)⟩
theorem lw_p37 : lw_okq (⟨"VineLaws$Square", "hasLeaves", "(I)Z"⟩, 8) := ⟨⟨by decide +kernel, by decide +kernel⟩, List.mem_of_getElem? (i := 63) (by decide +kernel), List.mem_of_getElem? (i := 534) (by decide +kernel), List.mem_of_getElem? (i := 535) (by decide +kernel)⟩
theorem lw_p38 : lw_okq (⟨"VineLaws$Square", "notVoid", "()I"⟩, 8) := ⟨⟨by decide +kernel, by decide +kernel⟩, List.mem_of_getElem? (i := 63) (by decide +kernel), List.mem_of_getElem? (i := 542) (by decide +kernel), List.mem_of_getElem? (i := 543) (by decide +kernel)⟩
theorem lw_p39 : lw_okq (⟨"VineLaws", "fewest", "(IZII)I"⟩, 10) := ⟨⟨by decide +kernel, by decide +kernel⟩, List.mem_of_getElem? (i := 14) (by decide +kernel), List.mem_of_getElem? (i := 547) (by decide +kernel), List.mem_of_getElem? (i := 548) (by decide +kernel)⟩
theorem lw_p40 : lw_okq (⟨"VineLaws$Square", "driveOff", "(II)V"⟩, 8) := ⟨⟨by decide +kernel, by decide +kernel⟩, List.mem_of_getElem? (i := 63) (by decide +kernel), List.mem_of_getElem? (i := 557) (by decide +kernel), List.mem_of_getElem? (i := 558) (by decide +kernel)⟩
theorem lw_p41 : lw_okq (⟨"VineLaws$Square", "hangOnTop", "(I)V"⟩, 8) := ⟨⟨by decide +kernel, by decide +kernel⟩, List.mem_of_getElem? (i := 63) (by decide +kernel), List.mem_of_getElem? (i := 561) (by decide +kernel), List.mem_of_getElem? (i := 562) (by decide +kernel)⟩
theorem lw_p42 : lw_okq (⟨"VineLaws$Square", "keepsInForce", "(II)Z"⟩, 8) := ⟨⟨by decide +kernel, by decide +kernel⟩, List.mem_of_getElem? (i := 63) (by decide +kernel), List.mem_of_getElem? (i := 565) (by decide +kernel), List.mem_of_getElem? (i := 566) (by decide +kernel)⟩
theorem lw_p43 : lw_okq (⟨"VineLaws", "leftByBait", "(III)I"⟩, 10) := ⟨⟨by decide +kernel, by decide +kernel⟩, List.mem_of_getElem? (i := 14) (by decide +kernel), List.mem_of_getElem? (i := 582) (by decide +kernel), List.mem_of_getElem? (i := 583) (by decide +kernel)⟩
theorem lw_p44 : lw_okq (⟨"VineLaws$Leaf", "become", "(II)V"⟩, 7) := ⟨⟨by decide +kernel, by decide +kernel⟩, List.mem_of_getElem? (i := 72) (by decide +kernel), List.mem_of_getElem? (i := 594) (by decide +kernel), List.mem_of_getElem? (i := 595) (by decide +kernel)⟩
theorem lw_p45 : lw_okq (⟨"VineLaws$Square", "goesAs", "(ILVineLaws$Row;II)Z"⟩, 8) := ⟨⟨by decide +kernel, by decide +kernel⟩, List.mem_of_getElem? (i := 63) (by decide +kernel), List.mem_of_getElem? (i := 598) (by decide +kernel), List.mem_of_getElem? (i := 599) (by decide +kernel)⟩
theorem lw_p46 : lw_okq (⟨"VineLaws$Row", "at", "(I)I"⟩, 4) := ⟨⟨by decide +kernel, by decide +kernel⟩, List.mem_of_getElem? (i := 209) (by decide +kernel), List.mem_of_getElem? (i := 602) (by decide +kernel), List.mem_of_getElem? (i := 603) (by decide +kernel)⟩
theorem lw_p47 : lw_okq (⟨"VineLaws$Square", "likesAlike", "(LVineLaws$Leaf;LVineLaws$Leaf;)Z"⟩, 8) := ⟨⟨by decide +kernel, by decide +kernel⟩, List.mem_of_getElem? (i := 63) (by decide +kernel), List.mem_of_getElem? (i := 614) (by decide +kernel), List.mem_of_getElem? (i := 615) (by decide +kernel)⟩
def lw_privs_3 : List (MethodName × Nat) := [(⟨"VineLaws$Leaf", "standing", "()I"⟩, 7), (⟨"VineLaws$Leaf", "isInForce", "()Z"⟩, 7), (⟨"VineLaws$Square", "leafIn", "(LVineLaws$Square;I)LVineLaws$Leaf;"⟩, 8), (⟨"VineLaws$Square", "passHours", "(I)V"⟩, 8), (⟨"VineLaws$Square", "inForce", "()I"⟩, 8), (⟨"VineLaws$Square", "hasLeaves", "(I)Z"⟩, 8), (⟨"VineLaws$Square", "notVoid", "()I"⟩, 8), (⟨"VineLaws", "fewest", "(IZII)I"⟩, 10), (⟨"VineLaws$Square", "driveOff", "(II)V"⟩, 8), (⟨"VineLaws$Square", "hangOnTop", "(I)V"⟩, 8), (⟨"VineLaws$Square", "keepsInForce", "(II)Z"⟩, 8), (⟨"VineLaws", "leftByBait", "(III)I"⟩, 10), (⟨"VineLaws$Leaf", "become", "(II)V"⟩, 7), (⟨"VineLaws$Square", "goesAs", "(ILVineLaws$Row;II)Z"⟩, 8), (⟨"VineLaws$Row", "at", "(I)I"⟩, 4), (⟨"VineLaws$Square", "likesAlike", "(LVineLaws$Leaf;LVineLaws$Leaf;)Z"⟩, 8)]
theorem lw_r3 : ∀ q ∈ lw_privs_3, lw_okq q := List.forall_mem_cons.mpr ⟨lw_p32, List.forall_mem_cons.mpr ⟨lw_p33, List.forall_mem_cons.mpr ⟨lw_p34, List.forall_mem_cons.mpr ⟨lw_p35, List.forall_mem_cons.mpr ⟨lw_p36, List.forall_mem_cons.mpr ⟨lw_p37, List.forall_mem_cons.mpr ⟨lw_p38, List.forall_mem_cons.mpr ⟨lw_p39, List.forall_mem_cons.mpr ⟨lw_p40, List.forall_mem_cons.mpr ⟨lw_p41, List.forall_mem_cons.mpr ⟨lw_p42, List.forall_mem_cons.mpr ⟨lw_p43, List.forall_mem_cons.mpr ⟨lw_p44, List.forall_mem_cons.mpr ⟨lw_p45, List.forall_mem_cons.mpr ⟨lw_p46, List.forall_mem_cons.mpr ⟨lw_p47, fun _ h => absurd h List.not_mem_nil⟩⟩⟩⟩⟩⟩⟩⟩⟩⟩⟩⟩⟩⟩⟩⟩
theorem lw_p48 : lw_okq (⟨"VineLaws", "standingInWind", "(I)I"⟩, 10) := ⟨⟨by decide +kernel, by decide +kernel⟩, List.mem_of_getElem? (i := 14) (by decide +kernel), List.mem_of_getElem? (i := 624) (by decide +kernel), List.mem_of_getElem? (i := 625) (by decide +kernel)⟩
theorem lw_p49 : lw_okq (⟨"VineLaws$Square", "tear", "(I)V"⟩, 8) := ⟨⟨by decide +kernel, by decide +kernel⟩, List.mem_of_getElem? (i := 63) (by decide +kernel), List.mem_of_getElem? (i := 628) (by decide +kernel), List.mem_of_getElem? (i := 629) (by decide +kernel)⟩
theorem lw_p50 : lw_okq (⟨"VineLaws$Square", "befall", "(I)V"⟩, 8) := ⟨⟨by decide +kernel, by decide +kernel⟩, List.mem_of_getElem? (i := 63) (by decide +kernel), List.mem_of_getElem? (i := 645) (by decide +kernel), List.mem_of_getElem? (i := 646) (by decide +kernel)⟩
theorem lw_p51 : lw_okq (⟨"VineLaws$Square", "leftOfAll", "()I"⟩, 8) := ⟨⟨by decide +kernel, by decide +kernel⟩, List.mem_of_getElem? (i := 63) (by decide +kernel), List.mem_of_getElem? (i := 650) (by decide +kernel), List.mem_of_getElem? (i := 651) (by decide +kernel)⟩
theorem lw_p52 : lw_okq (⟨"VineLaws", "imageAt", "(I)LVineLaws$Square;"⟩, 10) := ⟨⟨by decide +kernel, by decide +kernel⟩, List.mem_of_getElem? (i := 14) (by decide +kernel), List.mem_of_getElem? (i := 658) (by decide +kernel), List.mem_of_getElem? (i := 659) (by decide +kernel)⟩
theorem lw_p53 : lw_okq (⟨"VineLaws$Notes", "add", "(I)V"⟩, 2) := ⟨⟨by decide +kernel, by decide +kernel⟩, List.mem_of_getElem? (i := 194) (by decide +kernel), List.mem_of_getElem? (i := 687) (by decide +kernel), List.mem_of_getElem? (i := 688) (by decide +kernel)⟩
theorem lw_p54 : lw_okq (⟨"VineLaws$Notes", "at", "(I)I"⟩, 2) := ⟨⟨by decide +kernel, by decide +kernel⟩, List.mem_of_getElem? (i := 194) (by decide +kernel), List.mem_of_getElem? (i := 695) (by decide +kernel), List.mem_of_getElem? (i := 696) (by decide +kernel)⟩
theorem lw_p55 : lw_okq (⟨"VineLaws", "rowsThere", "()I"⟩, 10) := ⟨⟨by decide +kernel, by decide +kernel⟩, List.mem_of_getElem? (i := 14) (by decide +kernel), List.mem_of_getElem? (i := 704) (by decide +kernel), List.mem_of_getElem? (i := 705) (by decide +kernel)⟩
theorem lw_p56 : lw_okq (⟨"VineLawsModel", "finding", "(I)I"⟩, 25) := ⟨⟨by decide +kernel, by decide +kernel⟩, List.mem_of_getElem? (i := 712) (by decide +kernel), List.mem_of_getElem? (i := 808) (by decide +kernel), List.mem_of_getElem? (i := 809) (by decide +kernel)⟩
theorem lw_p57 : lw_okq (⟨"VineLawsModel", "begin", "()V"⟩, 25) := ⟨⟨by decide +kernel, by decide +kernel⟩, List.mem_of_getElem? (i := 712) (by decide +kernel), List.mem_of_getElem? (i := 839) (by decide +kernel), List.mem_of_getElem? (i := 840) (by decide +kernel)⟩
theorem lw_p58 : lw_okq (⟨"VineLawsModel", "nextToken", "()V"⟩, 25) := ⟨⟨by decide +kernel, by decide +kernel⟩, List.mem_of_getElem? (i := 712) (by decide +kernel), List.mem_of_getElem? (i := 843) (by decide +kernel), List.mem_of_getElem? (i := 844) (by decide +kernel)⟩
theorem lw_p59 : lw_okq (⟨"VineLawsModel", "isLetter", "(I)Z"⟩, 25) := ⟨⟨by decide +kernel, by decide +kernel⟩, List.mem_of_getElem? (i := 712) (by decide +kernel), List.mem_of_getElem? (i := 852) (by decide +kernel), List.mem_of_getElem? (i := 853) (by decide +kernel)⟩
theorem lw_p60 : lw_okq (⟨"VineLawsModel", "must", "(Z)V"⟩, 25) := ⟨⟨by decide +kernel, by decide +kernel⟩, List.mem_of_getElem? (i := 712) (by decide +kernel), List.mem_of_getElem? (i := 856) (by decide +kernel), List.mem_of_getElem? (i := 857) (by decide +kernel)⟩
theorem lw_p61 : lw_okq (⟨"VineLawsModel", "bad", "(I)V"⟩, 25) := ⟨⟨by decide +kernel, by decide +kernel⟩, List.mem_of_getElem? (i := 712) (by decide +kernel), List.mem_of_getElem? (i := 860) (by decide +kernel), List.mem_of_getElem? (i := 861) (by decide +kernel)⟩
theorem lw_p62 : lw_okq (⟨"VineLawsModel", "number", "(II)I"⟩, 25) := ⟨⟨by decide +kernel, by decide +kernel⟩, List.mem_of_getElem? (i := 712) (by decide +kernel), List.mem_of_getElem? (i := 864) (by decide +kernel), List.mem_of_getElem? (i := 865) (by decide +kernel)⟩
theorem lw_p63 : lw_okq (⟨"VineLawsModel", "mustSign", "(I)V"⟩, 25) := ⟨⟨by decide +kernel, by decide +kernel⟩, List.mem_of_getElem? (i := 712) (by decide +kernel), List.mem_of_getElem? (i := 868) (by decide +kernel), List.mem_of_getElem? (i := 869) (by decide +kernel)⟩
def lw_privs_4 : List (MethodName × Nat) := [(⟨"VineLaws", "standingInWind", "(I)I"⟩, 10), (⟨"VineLaws$Square", "tear", "(I)V"⟩, 8), (⟨"VineLaws$Square", "befall", "(I)V"⟩, 8), (⟨"VineLaws$Square", "leftOfAll", "()I"⟩, 8), (⟨"VineLaws", "imageAt", "(I)LVineLaws$Square;"⟩, 10), (⟨"VineLaws$Notes", "add", "(I)V"⟩, 2), (⟨"VineLaws$Notes", "at", "(I)I"⟩, 2), (⟨"VineLaws", "rowsThere", "()I"⟩, 10), (⟨"VineLawsModel", "finding", "(I)I"⟩, 25), (⟨"VineLawsModel", "begin", "()V"⟩, 25), (⟨"VineLawsModel", "nextToken", "()V"⟩, 25), (⟨"VineLawsModel", "isLetter", "(I)Z"⟩, 25), (⟨"VineLawsModel", "must", "(Z)V"⟩, 25), (⟨"VineLawsModel", "bad", "(I)V"⟩, 25), (⟨"VineLawsModel", "number", "(II)I"⟩, 25), (⟨"VineLawsModel", "mustSign", "(I)V"⟩, 25)]
theorem lw_r4 : ∀ q ∈ lw_privs_4, lw_okq q := List.forall_mem_cons.mpr ⟨lw_p48, List.forall_mem_cons.mpr ⟨lw_p49, List.forall_mem_cons.mpr ⟨lw_p50, List.forall_mem_cons.mpr ⟨lw_p51, List.forall_mem_cons.mpr ⟨lw_p52, List.forall_mem_cons.mpr ⟨lw_p53, List.forall_mem_cons.mpr ⟨lw_p54, List.forall_mem_cons.mpr ⟨lw_p55, List.forall_mem_cons.mpr ⟨lw_p56, List.forall_mem_cons.mpr ⟨lw_p57, List.forall_mem_cons.mpr ⟨lw_p58, List.forall_mem_cons.mpr ⟨lw_p59, List.forall_mem_cons.mpr ⟨lw_p60, List.forall_mem_cons.mpr ⟨lw_p61, List.forall_mem_cons.mpr ⟨lw_p62, List.forall_mem_cons.mpr ⟨lw_p63, fun _ h => absurd h List.not_mem_nil⟩⟩⟩⟩⟩⟩⟩⟩⟩⟩⟩⟩⟩⟩⟩⟩
theorem lw_p64 : lw_okq (⟨"VineLawsModel", "isSort", "()Z"⟩, 25) := ⟨⟨by decide +kernel, by decide +kernel⟩, List.mem_of_getElem? (i := 712) (by decide +kernel), List.mem_of_getElem? (i := 872) (by decide +kernel), List.mem_of_getElem? (i := 873) (by decide +kernel)⟩
theorem lw_p65 : lw_okq (⟨"VineLawsModel", "readLeaf", "()V"⟩, 25) := ⟨⟨by decide +kernel, by decide +kernel⟩, List.mem_of_getElem? (i := 712) (by decide +kernel), List.mem_of_getElem? (i := 879) (by decide +kernel), List.mem_of_getElem? (i := 880) (by decide +kernel)⟩
theorem lw_p66 : lw_okq (⟨"VineLawsModel", "readGoat", "()V"⟩, 25) := ⟨⟨by decide +kernel, by decide +kernel⟩, List.mem_of_getElem? (i := 712) (by decide +kernel), List.mem_of_getElem? (i := 883) (by decide +kernel), List.mem_of_getElem? (i := 884) (by decide +kernel)⟩
theorem lw_p67 : lw_okq (⟨"VineLawsModel", "failed", "()Z"⟩, 25) := ⟨⟨by decide +kernel, by decide +kernel⟩, List.mem_of_getElem? (i := 712) (by decide +kernel), List.mem_of_getElem? (i := 887) (by decide +kernel), List.mem_of_getElem? (i := 888) (by decide +kernel)⟩
theorem lw_p68 : lw_okq (⟨"VineLawsModel", "isThere", "()Z"⟩, 25) := ⟨⟨by decide +kernel, by decide +kernel⟩, List.mem_of_getElem? (i := 712) (by decide +kernel), List.mem_of_getElem? (i := 896) (by decide +kernel), List.mem_of_getElem? (i := 897) (by decide +kernel)⟩
theorem lw_p69 : lw_okq (⟨"VineLawsModel", "keep", "()V"⟩, 25) := ⟨⟨by decide +kernel, by decide +kernel⟩, List.mem_of_getElem? (i := 712) (by decide +kernel), List.mem_of_getElem? (i := 902) (by decide +kernel), List.mem_of_getElem? (i := 903) (by decide +kernel)⟩
theorem lw_p70 : lw_okq (⟨"VineLawsModel", "hour", "([I)I"⟩, 25) := ⟨⟨by decide +kernel, by decide +kernel⟩, List.mem_of_getElem? (i := 712) (by decide +kernel), List.mem_of_getElem? (i := 906) (by decide +kernel), List.mem_of_getElem? (i := 907) (by decide +kernel)⟩
theorem lw_p71 : lw_okq (⟨"VineLawsModel", "isLeaf", "(I)Z"⟩, 25) := ⟨⟨by decide +kernel, by decide +kernel⟩, List.mem_of_getElem? (i := 712) (by decide +kernel), List.mem_of_getElem? (i := 926) (by decide +kernel), List.mem_of_getElem? (i := 927) (by decide +kernel)⟩
theorem lw_p72 : lw_okq (⟨"VineLawsModel", "isGoat", "(I)Z"⟩, 25) := ⟨⟨by decide +kernel, by decide +kernel⟩, List.mem_of_getElem? (i := 712) (by decide +kernel), List.mem_of_getElem? (i := 943) (by decide +kernel), List.mem_of_getElem? (i := 944) (by decide +kernel)⟩
theorem lw_p73 : lw_okq (⟨"VineLawsModel", "layThen", "()V"⟩, 25) := ⟨⟨by decide +kernel, by decide +kernel⟩, List.mem_of_getElem? (i := 712) (by decide +kernel), List.mem_of_getElem? (i := 973) (by decide +kernel), List.mem_of_getElem? (i := 974) (by decide +kernel)⟩
theorem lw_p74 : lw_okq (⟨"VineLawsModel", "hoursOf", "([II)I"⟩, 25) := ⟨⟨by decide +kernel, by decide +kernel⟩, List.mem_of_getElem? (i := 712) (by decide +kernel), List.mem_of_getElem? (i := 977) (by decide +kernel), List.mem_of_getElem? (i := 978) (by decide +kernel)⟩
theorem lw_p75 : lw_okq (⟨"VineLawsModel", "biters", "(II)I"⟩, 25) := ⟨⟨by decide +kernel, by decide +kernel⟩, List.mem_of_getElem? (i := 712) (by decide +kernel), List.mem_of_getElem? (i := 1000) (by decide +kernel), List.mem_of_getElem? (i := 1001) (by decide +kernel)⟩
theorem lw_p76 : lw_okq (⟨"VineLawsModel", "areLeaves", "(I)Z"⟩, 25) := ⟨⟨by decide +kernel, by decide +kernel⟩, List.mem_of_getElem? (i := 712) (by decide +kernel), List.mem_of_getElem? (i := 1008) (by decide +kernel), List.mem_of_getElem? (i := 1009) (by decide +kernel)⟩
theorem lw_p77 : lw_okq (⟨"VineLawsModel", "layOff", "(II)V"⟩, 25) := ⟨⟨by decide +kernel, by decide +kernel⟩, List.mem_of_getElem? (i := 712) (by decide +kernel), List.mem_of_getElem? (i := 1027) (by decide +kernel), List.mem_of_getElem? (i := 1028) (by decide +kernel)⟩
theorem lw_p78 : lw_okq (⟨"VineLawsModel", "isSo", "(III)Z"⟩, 25) := ⟨⟨by decide +kernel, by decide +kernel⟩, List.mem_of_getElem? (i := 712) (by decide +kernel), List.mem_of_getElem? (i := 1048) (by decide +kernel), List.mem_of_getElem? (i := 1049) (by decide +kernel)⟩
theorem lw_p79 : lw_okq (⟨"VineLawsModel", "sizeOf", "(I)I"⟩, 25) := ⟨⟨by decide +kernel, by decide +kernel⟩, List.mem_of_getElem? (i := 712) (by decide +kernel), List.mem_of_getElem? (i := 1103) (by decide +kernel), List.mem_of_getElem? (i := 1104) (by decide +kernel)⟩
def lw_privs_5 : List (MethodName × Nat) := [(⟨"VineLawsModel", "isSort", "()Z"⟩, 25), (⟨"VineLawsModel", "readLeaf", "()V"⟩, 25), (⟨"VineLawsModel", "readGoat", "()V"⟩, 25), (⟨"VineLawsModel", "failed", "()Z"⟩, 25), (⟨"VineLawsModel", "isThere", "()Z"⟩, 25), (⟨"VineLawsModel", "keep", "()V"⟩, 25), (⟨"VineLawsModel", "hour", "([I)I"⟩, 25), (⟨"VineLawsModel", "isLeaf", "(I)Z"⟩, 25), (⟨"VineLawsModel", "isGoat", "(I)Z"⟩, 25), (⟨"VineLawsModel", "layThen", "()V"⟩, 25), (⟨"VineLawsModel", "hoursOf", "([II)I"⟩, 25), (⟨"VineLawsModel", "biters", "(II)I"⟩, 25), (⟨"VineLawsModel", "areLeaves", "(I)Z"⟩, 25), (⟨"VineLawsModel", "layOff", "(II)V"⟩, 25), (⟨"VineLawsModel", "isSo", "(III)Z"⟩, 25), (⟨"VineLawsModel", "sizeOf", "(I)I"⟩, 25)]
theorem lw_r5 : ∀ q ∈ lw_privs_5, lw_okq q := List.forall_mem_cons.mpr ⟨lw_p64, List.forall_mem_cons.mpr ⟨lw_p65, List.forall_mem_cons.mpr ⟨lw_p66, List.forall_mem_cons.mpr ⟨lw_p67, List.forall_mem_cons.mpr ⟨lw_p68, List.forall_mem_cons.mpr ⟨lw_p69, List.forall_mem_cons.mpr ⟨lw_p70, List.forall_mem_cons.mpr ⟨lw_p71, List.forall_mem_cons.mpr ⟨lw_p72, List.forall_mem_cons.mpr ⟨lw_p73, List.forall_mem_cons.mpr ⟨lw_p74, List.forall_mem_cons.mpr ⟨lw_p75, List.forall_mem_cons.mpr ⟨lw_p76, List.forall_mem_cons.mpr ⟨lw_p77, List.forall_mem_cons.mpr ⟨lw_p78, List.forall_mem_cons.mpr ⟨lw_p79, fun _ h => absurd h List.not_mem_nil⟩⟩⟩⟩⟩⟩⟩⟩⟩⟩⟩⟩⟩⟩⟩⟩
theorem lw_p80 : lw_okq (⟨"VineLawsModel", "bitterSize", "(I)I"⟩, 25) := ⟨⟨by decide +kernel, by decide +kernel⟩, List.mem_of_getElem? (i := 712) (by decide +kernel), List.mem_of_getElem? (i := 1107) (by decide +kernel), List.mem_of_getElem? (i := 1108) (by decide +kernel)⟩
theorem lw_p81 : lw_okq (⟨"VineLawsModel", "began", "(I)V"⟩, 25) := ⟨⟨by decide +kernel, by decide +kernel⟩, List.mem_of_getElem? (i := 712) (by decide +kernel), List.mem_of_getElem? (i := 1111) (by decide +kernel), List.mem_of_getElem? (i := 1112) (by decide +kernel)⟩
theorem lw_p82 : lw_okq (⟨"VineLawsModel", "plainSize", "(I)I"⟩, 25) := ⟨⟨by decide +kernel, by decide +kernel⟩, List.mem_of_getElem? (i := 712) (by decide +kernel), List.mem_of_getElem? (i := 1115) (by decide +kernel), List.mem_of_getElem? (i := 1116) (by decide +kernel)⟩
theorem lw_p83 : lw_okq (⟨"VineLawsModel", "markOf", "(I)I"⟩, 25) := ⟨⟨by decide +kernel, by decide +kernel⟩, List.mem_of_getElem? (i := 712) (by decide +kernel), List.mem_of_getElem? (i := 1119) (by decide +kernel), List.mem_of_getElem? (i := 1120) (by decide +kernel)⟩
def lw_privs_6 : List (MethodName × Nat) := [(⟨"VineLawsModel", "bitterSize", "(I)I"⟩, 25), (⟨"VineLawsModel", "began", "(I)V"⟩, 25), (⟨"VineLawsModel", "plainSize", "(I)I"⟩, 25), (⟨"VineLawsModel", "markOf", "(I)I"⟩, 25)]
theorem lw_r6 : ∀ q ∈ lw_privs_6, lw_okq q := List.forall_mem_cons.mpr ⟨lw_p80, List.forall_mem_cons.mpr ⟨lw_p81, List.forall_mem_cons.mpr ⟨lw_p82, List.forall_mem_cons.mpr ⟨lw_p83, fun _ h => absurd h List.not_mem_nil⟩⟩⟩⟩
def lw_privs : List (MethodName × Nat) := lw_privs_1 ++ (lw_privs_2 ++ (lw_privs_3 ++ (lw_privs_4 ++ (lw_privs_5 ++ (lw_privs_6)))))
def lw_tbl : List Cond := k2_sels lw_privs ++ tables_1
theorem lw_privs_ok : ∀ q ∈ lw_privs, lw_okq q := by
  show ∀ q ∈ lw_privs_1 ++ (lw_privs_2 ++ (lw_privs_3 ++ (lw_privs_4 ++ (lw_privs_5 ++ (lw_privs_6))))), lw_okq q
  exact List.forall_mem_append.mpr ⟨lw_r1, List.forall_mem_append.mpr ⟨lw_r2, List.forall_mem_append.mpr ⟨lw_r3, List.forall_mem_append.mpr ⟨lw_r4, List.forall_mem_append.mpr ⟨lw_r5, lw_r6⟩⟩⟩⟩⟩
def RX0 : String := "VineLaws$Goat"
def TX0 : u_T := fun k => match k with
  | 0 => ("VineLaws$Goat", "number", "I", true)
  | 1 => ("VineLaws$Goat", "hunger", "I", false)
  | 2 => ("VineLaws$Goat", "reach", "I", false)
  | 3 => ("VineLaws$Goat", "away", "I", false)
  | _ => ("VineLaws$Goat", "eaten", "I", false)
def tyX0 : Nat → FieldType := fun k => match k with
  | 0 => .int
  | 1 => .int
  | 2 => .int
  | 3 => .int
  | _ => .int
abbrev wsX00 : List Cond := u_ws RX0 TX0 5
theorem nmX0 : ∀ a, a < 5 → ∀ b, b < 5 → a ≠ b → (TX0 a).2.1 ≠ (TX0 b).2.1 := by decide +kernel
theorem tyX0_ok : ∀ k, k < 5 → parseFieldDescriptor (TX0 k).2.2.1 = some (tyX0 k) := by decide +kernel
abbrev cX0_init : ByteArray := prog_2_method_1_code
def yX0_init : MethodName := ⟨RX0, "<init>", "(I)V"⟩
abbrev cX0_take : ByteArray := prog_2_method_2_code
def yX0_take : MethodName := ⟨RX0, "take", "(LVineLaws$Goat;)V"⟩
abbrev cX0_isBiting : ByteArray := prog_2_method_3_code
def yX0_isBiting : MethodName := ⟨RX0, "isBiting", "()Z"⟩
abbrev cX0_swallow : ByteArray := prog_2_method_4_code
def yX0_swallow : MethodName := ⟨RX0, "swallow", "(I)V"⟩
abbrev cX0_endHour : ByteArray := prog_2_method_5_code
def yX0_endHour : MethodName := ⟨RX0, "endHour", "(I)V"⟩
def RX1 : String := "VineLaws$Leaf"
def TX1 : u_T := fun k => match k with
  | 0 => ("VineLaws$Leaf", "number", "I", true)
  | 1 => ("VineLaws$Leaf", "kind", "I", false)
  | 2 => ("VineLaws$Leaf", "size", "I", false)
  | 3 => ("VineLaws$Leaf", "height", "I", false)
  | 4 => ("VineLaws$Leaf", "taste", "I", false)
  | 5 => ("VineLaws$Leaf", "left", "I", false)
  | _ => ("VineLaws$Leaf", "biters", "I", false)
def tyX1 : Nat → FieldType := fun k => match k with
  | 0 => .int
  | 1 => .int
  | 2 => .int
  | 3 => .int
  | 4 => .int
  | 5 => .int
  | _ => .int
abbrev wsX10 : List Cond := u_ws RX1 TX1 7
theorem nmX1 : ∀ a, a < 7 → ∀ b, b < 7 → a ≠ b → (TX1 a).2.1 ≠ (TX1 b).2.1 := by decide +kernel
theorem tyX1_ok : ∀ k, k < 7 → parseFieldDescriptor (TX1 k).2.2.1 = some (tyX1 k) := by decide +kernel
abbrev cX1_init : ByteArray := prog_3_method_1_code
def yX1_init : MethodName := ⟨RX1, "<init>", "(I)V"⟩
abbrev cX1_take : ByteArray := prog_3_method_2_code
def yX1_take : MethodName := ⟨RX1, "take", "(LVineLaws$Leaf;)V"⟩
abbrev cX1_isVoid : ByteArray := prog_3_method_3_code
def yX1_isVoid : MethodName := ⟨RX1, "isVoid", "()Z"⟩
abbrev cX1_isInForce : ByteArray := prog_3_method_4_code
def yX1_isInForce : MethodName := ⟨RX1, "isInForce", "()Z"⟩
abbrev cX1_standing : ByteArray := prog_3_method_5_code
def yX1_standing : MethodName := ⟨RX1, "standing", "()I"⟩
abbrev cX1_liking : ByteArray := prog_3_method_6_code
def yX1_liking : MethodName := ⟨RX1, "liking", "(II)I"⟩
abbrev cX1_loseBite : ByteArray := prog_3_method_7_code
def yX1_loseBite : MethodName := ⟨RX1, "loseBite", "(I)I"⟩
abbrev cX1_become : ByteArray := prog_3_method_8_code
def yX1_become : MethodName := ⟨RX1, "become", "(II)V"⟩
def RX2 : String := "VineLaws$Notes"
def TX2 : u_T := fun k => match k with
  | 0 => ("VineLaws$Notes", "numbers", "[I", true)
  | _ => ("VineLaws$Notes", "length", "I", false)
def tyX2 : Nat → FieldType := fun k => match k with
  | 0 => .array .int
  | _ => .int
abbrev wsX20 : List Cond := u_ws RX2 TX2 2
theorem nmX2 : ∀ a, a < 2 → ∀ b, b < 2 → a ≠ b → (TX2 a).2.1 ≠ (TX2 b).2.1 := by decide +kernel
theorem tyX2_ok : ∀ k, k < 2 → parseFieldDescriptor (TX2 k).2.2.1 = some (tyX2 k) := by decide +kernel
abbrev cX2_init : ByteArray := prog_4_method_1_code
def yX2_init : MethodName := ⟨RX2, "<init>", "()V"⟩
abbrev cX2_add : ByteArray := prog_4_method_2_code
def yX2_add : MethodName := ⟨RX2, "add", "(I)V"⟩
abbrev cX2_at : ByteArray := prog_4_method_3_code
def yX2_at : MethodName := ⟨RX2, "at", "(I)I"⟩
def RX3 : String := "VineLaws$Past"
def TX3 : u_T := fun k => match k with
  | 0 => ("VineLaws$Past", "squares", "[LVineLaws$Square;", true)
  | 1 => ("VineLaws$Past", "next", "I", false)
  | _ => ("VineLaws$Past", "kept", "I", false)
def tyX3 : Nat → FieldType := fun k => match k with
  | 0 => .array (.object "VineLaws$Square")
  | 1 => .int
  | _ => .int
abbrev wsX30 : List Cond := u_ws RX3 TX3 3
theorem nmX3 : ∀ a, a < 3 → ∀ b, b < 3 → a ≠ b → (TX3 a).2.1 ≠ (TX3 b).2.1 := by decide +kernel
theorem tyX3_ok : ∀ k, k < 3 → parseFieldDescriptor (TX3 k).2.2.1 = some (tyX3 k) := by decide +kernel
abbrev cX3_init : ByteArray := prog_5_method_1_code
def yX3_init : MethodName := ⟨RX3, "<init>", "()V"⟩
abbrev cX3_forget : ByteArray := prog_5_method_2_code
def yX3_forget : MethodName := ⟨RX3, "forget", "()V"⟩
abbrev cX3_keep : ByteArray := prog_5_method_3_code
def yX3_keep : MethodName := ⟨RX3, "keep", "(LVineLaws$Square;)V"⟩
abbrev cX3_bringBack : ByteArray := prog_5_method_4_code
def yX3_bringBack : MethodName := ⟨RX3, "bringBack", "(LVineLaws$Square;)Z"⟩
def RX4 : String := "VineLaws$Row"
def TX4 : u_T := fun k => match k with
  | 0 => ("VineLaws$Row", "items", "[I", true)
  | 1 => ("VineLaws$Row", "there", "Z", false)
  | 2 => ("VineLaws$Row", "lane", "I", false)
  | _ => ("VineLaws$Row", "length", "I", false)
def tyX4 : Nat → FieldType := fun k => match k with
  | 0 => .array .int
  | 1 => .boolean
  | 2 => .int
  | _ => .int
abbrev wsX40 : List Cond := u_ws RX4 TX4 4
theorem nmX4 : ∀ a, a < 4 → ∀ b, b < 4 → a ≠ b → (TX4 a).2.1 ≠ (TX4 b).2.1 := by decide +kernel
theorem tyX4_ok : ∀ k, k < 4 → parseFieldDescriptor (TX4 k).2.2.1 = some (tyX4 k) := by decide +kernel
abbrev cX4_init : ByteArray := prog_6_method_1_code
def yX4_init : MethodName := ⟨RX4, "<init>", "()V"⟩
abbrev cX4_begin : ByteArray := prog_6_method_2_code
def yX4_begin : MethodName := ⟨RX4, "begin", "(II)V"⟩
abbrev cX4_hasPlaces : ByteArray := prog_6_method_3_code
def yX4_hasPlaces : MethodName := ⟨RX4, "hasPlaces", "(II)Z"⟩
abbrev cX4_at : ByteArray := prog_6_method_4_code
def yX4_at : MethodName := ⟨RX4, "at", "(I)I"⟩
abbrev cX4_put : ByteArray := prog_6_method_5_code
def yX4_put : MethodName := ⟨RX4, "put", "(II)I"⟩
def RX5 : String := "VineLaws$Square"
def TX5 : u_T := fun k => match k with
  | 0 => ("VineLaws$Square", "leaves", "[LVineLaws$Leaf;", true)
  | 1 => ("VineLaws$Square", "goats", "[LVineLaws$Goat;", true)
  | 2 => ("VineLaws$Square", "leafCount", "I", false)
  | 3 => ("VineLaws$Square", "goatCount", "I", false)
  | 4 => ("VineLaws$Square", "grows", "I", false)
  | 5 => ("VineLaws$Square", "salt", "I", false)
  | 6 => ("VineLaws$Square", "hour", "I", false)
  | _ => ("VineLaws$Square", "voided", "I", false)
def tyX5 : Nat → FieldType := fun k => match k with
  | 0 => .array (.object "VineLaws$Leaf")
  | 1 => .array (.object "VineLaws$Goat")
  | 2 => .int
  | 3 => .int
  | 4 => .int
  | 5 => .int
  | 6 => .int
  | _ => .int
abbrev wsX50 : List Cond := u_ws RX5 TX5 8
theorem nmX5 : ∀ a, a < 8 → ∀ b, b < 8 → a ≠ b → (TX5 a).2.1 ≠ (TX5 b).2.1 := by decide +kernel
theorem tyX5_ok : ∀ k, k < 8 → parseFieldDescriptor (TX5 k).2.2.1 = some (tyX5 k) := by decide +kernel
abbrev cX5_init : ByteArray := prog_7_method_1_code
def yX5_init : MethodName := ⟨RX5, "<init>", "()V"⟩
abbrev cX5_take : ByteArray := prog_7_method_2_code
def yX5_take : MethodName := ⟨RX5, "take", "(LVineLaws$Square;)V"⟩
abbrev cX5_clear : ByteArray := prog_7_method_3_code
def yX5_clear : MethodName := ⟨RX5, "clear", "()V"⟩
abbrev cX5_isThere : ByteArray := prog_7_method_4_code
def yX5_isThere : MethodName := ⟨RX5, "isThere", "()Z"⟩
abbrev cX5_leafAt : ByteArray := prog_7_method_5_code
def yX5_leafAt : MethodName := ⟨RX5, "leafAt", "(I)LVineLaws$Leaf;"⟩
abbrev cX5_goatAt : ByteArray := prog_7_method_6_code
def yX5_goatAt : MethodName := ⟨RX5, "goatAt", "(I)LVineLaws$Goat;"⟩
abbrev cX5_leafIn : ByteArray := prog_7_method_7_code
def yX5_leafIn : MethodName := ⟨RX5, "leafIn", "(LVineLaws$Square;I)LVineLaws$Leaf;"⟩
abbrev cX5_hasLeaves : ByteArray := prog_7_method_8_code
def yX5_hasLeaves : MethodName := ⟨RX5, "hasLeaves", "(I)Z"⟩
abbrev cX5_inForce : ByteArray := prog_7_method_9_code
def yX5_inForce : MethodName := ⟨RX5, "inForce", "()I"⟩
abbrev cX5_notVoid : ByteArray := prog_7_method_10_code
def yX5_notVoid : MethodName := ⟨RX5, "notVoid", "()I"⟩
abbrev cX5_leftOfAll : ByteArray := prog_7_method_11_code
def yX5_leftOfAll : MethodName := ⟨RX5, "leftOfAll", "()I"⟩
abbrev cX5_likesAlike : ByteArray := prog_7_method_12_code
def yX5_likesAlike : MethodName := ⟨RX5, "likesAlike", "(LVineLaws$Leaf;LVineLaws$Leaf;)Z"⟩
abbrev cX5_choiceOf : ByteArray := prog_7_method_13_code
def yX5_choiceOf : MethodName := ⟨RX5, "choiceOf", "(LVineLaws$Goat;)LVineLaws$Leaf;"⟩
abbrev cX5_letBite : ByteArray := prog_7_method_14_code
def yX5_letBite : MethodName := ⟨RX5, "letBite", "(LVineLaws$Goat;)I"⟩
abbrev cX5_passHour : ByteArray := prog_7_method_15_code
def yX5_passHour : MethodName := ⟨RX5, "passHour", "()I"⟩
abbrev cX5_passHours : ByteArray := prog_7_method_16_code
def yX5_passHours : MethodName := ⟨RX5, "passHours", "(I)V"⟩
abbrev cX5_keepsInForce : ByteArray := prog_7_method_17_code
def yX5_keepsInForce : MethodName := ⟨RX5, "keepsInForce", "(II)Z"⟩
abbrev cX5_goesAs : ByteArray := prog_7_method_18_code
def yX5_goesAs : MethodName := ⟨RX5, "goesAs", "(ILVineLaws$Row;II)Z"⟩
abbrev cX5_driveOff : ByteArray := prog_7_method_19_code
def yX5_driveOff : MethodName := ⟨RX5, "driveOff", "(II)V"⟩
abbrev cX5_hangOnTop : ByteArray := prog_7_method_20_code
def yX5_hangOnTop : MethodName := ⟨RX5, "hangOnTop", "(I)V"⟩
abbrev cX5_tear : ByteArray := prog_7_method_21_code
def yX5_tear : MethodName := ⟨RX5, "tear", "(I)V"⟩
abbrev cX5_befall : ByteArray := prog_7_method_22_code
def yX5_befall : MethodName := ⟨RX5, "befall", "(I)V"⟩
def RX6 : String := "VineLaws$Tape"
def TX6 : u_T := fun k => match k with
  | 0 => ("VineLaws$Tape", "bytes", "[I", true)
  | 1 => ("VineLaws$Tape", "length", "I", false)
  | 2 => ("VineLaws$Tape", "place", "I", false)
  | 3 => ("VineLaws$Tape", "behind", "I", false)
  | 4 => ("VineLaws$Tape", "token", "I", false)
  | 5 => ("VineLaws$Tape", "value", "I", false)
  | _ => ("VineLaws$Tape", "wrong", "I", false)
def tyX6 : Nat → FieldType := fun k => match k with
  | 0 => .array .int
  | 1 => .int
  | 2 => .int
  | 3 => .int
  | 4 => .int
  | 5 => .int
  | _ => .int
abbrev wsX60 : List Cond := u_ws RX6 TX6 7
theorem nmX6 : ∀ a, a < 7 → ∀ b, b < 7 → a ≠ b → (TX6 a).2.1 ≠ (TX6 b).2.1 := by decide +kernel
theorem tyX6_ok : ∀ k, k < 7 → parseFieldDescriptor (TX6 k).2.2.1 = some (tyX6 k) := by decide +kernel
abbrev cX6_init : ByteArray := prog_8_method_1_code
def yX6_init : MethodName := ⟨RX6, "<init>", "()V"⟩
abbrev cX6_add : ByteArray := prog_8_method_2_code
def yX6_add : MethodName := ⟨RX6, "add", "(I)Z"⟩
abbrev cX6_readInto : ByteArray := prog_8_method_3_code
def yX6_readInto : MethodName := ⟨RX6, "readInto", "(LVineLaws$Square;)Z"⟩
abbrev cX6_readLeaf : ByteArray := prog_8_method_4_code
def yX6_readLeaf : MethodName := ⟨RX6, "readLeaf", "(LVineLaws$Square;)V"⟩
abbrev cX6_readGoat : ByteArray := prog_8_method_5_code
def yX6_readGoat : MethodName := ⟨RX6, "readGoat", "(LVineLaws$Square;)V"⟩
abbrev cX6_sortOf : ByteArray := prog_8_method_6_code
def yX6_sortOf : MethodName := ⟨RX6, "sortOf", "(I)I"⟩
abbrev cX6_takeSign : ByteArray := prog_8_method_7_code
def yX6_takeSign : MethodName := ⟨RX6, "takeSign", "(I)V"⟩
abbrev cX6_takeNumber : ByteArray := prog_8_method_8_code
def yX6_takeNumber : MethodName := ⟨RX6, "takeNumber", "(II)I"⟩
abbrev cX6_advance : ByteArray := prog_8_method_9_code
def yX6_advance : MethodName := ⟨RX6, "advance", "()V"⟩
abbrev cX6_byteAt : ByteArray := prog_8_method_10_code
def yX6_byteAt : MethodName := ⟨RX6, "byteAt", "(I)I"⟩
def RX7 : String := "VineLaws"
def TX7 : u_T := fun k => match k with
  | 0 => ("VineLaws", "rows", "[LVineLaws$Row;", true)
  | 1 => ("VineLaws", "tape", "LVineLaws$Tape;", true)
  | 2 => ("VineLaws", "past", "LVineLaws$Past;", true)
  | 3 => ("VineLaws", "notes", "LVineLaws$Notes;", true)
  | 4 => ("VineLaws", "now", "LVineLaws$Square;", true)
  | 5 => ("VineLaws", "trial", "LVineLaws$Square;", true)
  | 6 => ("VineLaws", "firstImage", "LVineLaws$Square;", true)
  | 7 => ("VineLaws", "secondImage", "LVineLaws$Square;", true)
  | 8 => ("VineLaws", "finding", "I", false)
  | _ => ("VineLaws", "latestFault", "I", false)
def tyX7 : Nat → FieldType := fun k => match k with
  | 0 => .array (.object "VineLaws$Row")
  | 1 => .object "VineLaws$Tape"
  | 2 => .object "VineLaws$Past"
  | 3 => .object "VineLaws$Notes"
  | 4 => .object "VineLaws$Square"
  | 5 => .object "VineLaws$Square"
  | 6 => .object "VineLaws$Square"
  | 7 => .object "VineLaws$Square"
  | 8 => .int
  | _ => .int
abbrev wsX70 : List Cond := u_ws RX7 TX7 10
theorem nmX7 : ∀ a, a < 10 → ∀ b, b < 10 → a ≠ b → (TX7 a).2.1 ≠ (TX7 b).2.1 := by decide +kernel
theorem tyX7_ok : ∀ k, k < 10 → parseFieldDescriptor (TX7 k).2.2.1 = some (tyX7 k) := by decide +kernel
abbrev cX7_init : ByteArray := prog_1_method_1_code
def yX7_init : MethodName := ⟨RX7, "<init>", "()V"⟩
abbrev cX7_row : ByteArray := prog_1_method_2_code
def yX7_row : MethodName := ⟨RX7, "row", "(III)I"⟩
abbrev cX7_set : ByteArray := prog_1_method_3_code
def yX7_set : MethodName := ⟨RX7, "set", "(III)I"⟩
abbrev cX7_copy : ByteArray := prog_1_method_4_code
def yX7_copy : MethodName := ⟨RX7, "copy", "(IIIII)I"⟩
abbrev cX7_drop : ByteArray := prog_1_method_5_code
def yX7_drop : MethodName := ⟨RX7, "drop", "(I)I"⟩
abbrev cX7_feed : ByteArray := prog_1_method_6_code
def yX7_feed : MethodName := ⟨RX7, "feed", "(I)I"⟩
abbrev cX7_square : ByteArray := prog_1_method_7_code
def yX7_square : MethodName := ⟨RX7, "square", "()I"⟩
abbrev cX7_fault : ByteArray := prog_1_method_8_code
def yX7_fault : MethodName := ⟨RX7, "fault", "()I"⟩
abbrev cX7_undo : ByteArray := prog_1_method_9_code
def yX7_undo : MethodName := ⟨RX7, "undo", "()I"⟩
abbrev cX7_hours : ByteArray := prog_1_method_10_code
def yX7_hours : MethodName := ⟨RX7, "hours", "(I)I"⟩
abbrev cX7_hang : ByteArray := prog_1_method_11_code
def yX7_hang : MethodName := ⟨RX7, "hang", "(II)I"⟩
abbrev cX7_salt : ByteArray := prog_1_method_12_code
def yX7_salt : MethodName := ⟨RX7, "salt", "(I)I"⟩
abbrev cX7_transcribe : ByteArray := prog_1_method_13_code
def yX7_transcribe : MethodName := ⟨RX7, "transcribe", "(I)I"⟩
abbrev cX7_drive : ByteArray := prog_1_method_14_code
def yX7_drive : MethodName := ⟨RX7, "drive", "(II)I"⟩
abbrev cX7_fodder : ByteArray := prog_1_method_15_code
def yX7_fodder : MethodName := ⟨RX7, "fodder", "(I)I"⟩
abbrev cX7_leaf : ByteArray := prog_1_method_16_code
def yX7_leaf : MethodName := ⟨RX7, "leaf", "(II)I"⟩
abbrev cX7_goat : ByteArray := prog_1_method_17_code
def yX7_goat : MethodName := ⟨RX7, "goat", "(II)I"⟩
abbrev cX7_ahead : ByteArray := prog_1_method_18_code
def yX7_ahead : MethodName := ⟨RX7, "ahead", "(II)I"⟩
abbrev cX7_force : ByteArray := prog_1_method_19_code
def yX7_force : MethodName := ⟨RX7, "force", "(I)I"⟩
abbrev cX7_emptied : ByteArray := prog_1_method_20_code
def yX7_emptied : MethodName := ⟨RX7, "emptied", "(I)I"⟩
abbrev cX7_eats : ByteArray := prog_1_method_21_code
def yX7_eats : MethodName := ⟨RX7, "eats", "(II)I"⟩
abbrev cX7_guilt : ByteArray := prog_1_method_22_code
def yX7_guilt : MethodName := ⟨RX7, "guilt", "(II)I"⟩
abbrev cX7_gap : ByteArray := prog_1_method_23_code
def yX7_gap : MethodName := ⟨RX7, "gap", "(I)I"⟩
abbrev cX7_hangs : ByteArray := prog_1_method_24_code
def yX7_hangs : MethodName := ⟨RX7, "hangs", "(III)I"⟩
abbrev cX7_drives : ByteArray := prog_1_method_25_code
def yX7_drives : MethodName := ⟨RX7, "drives", "(III)I"⟩
abbrev cX7_harm : ByteArray := prog_1_method_26_code
def yX7_harm : MethodName := ⟨RX7, "harm", "(II)I"⟩
abbrev cX7_bait : ByteArray := prog_1_method_27_code
def yX7_bait : MethodName := ⟨RX7, "bait", "(III)I"⟩
abbrev cX7_safeHeight : ByteArray := prog_1_method_28_code
def yX7_safeHeight : MethodName := ⟨RX7, "safeHeight", "(II)I"⟩
abbrev cX7_who : ByteArray := prog_1_method_29_code
def yX7_who : MethodName := ⟨RX7, "who", "(IIIIII)I"⟩
abbrev cX7_strayed : ByteArray := prog_1_method_30_code
def yX7_strayed : MethodName := ⟨RX7, "strayed", "(IIII)I"⟩
abbrev cX7_rivals : ByteArray := prog_1_method_31_code
def yX7_rivals : MethodName := ⟨RX7, "rivals", "(I)I"⟩
abbrev cX7_wind : ByteArray := prog_1_method_32_code
def yX7_wind : MethodName := ⟨RX7, "wind", "(III)J"⟩
abbrev cX7_drawn : ByteArray := prog_1_method_33_code
def yX7_drawn : MethodName := ⟨RX7, "drawn", "(III)I"⟩
abbrev cX7_image : ByteArray := prog_1_method_34_code
def yX7_image : MethodName := ⟨RX7, "image", "(I)I"⟩
abbrev cX7_restore : ByteArray := prog_1_method_35_code
def yX7_restore : MethodName := ⟨RX7, "restore", "(I)I"⟩
abbrev cX7_kind : ByteArray := prog_1_method_36_code
def yX7_kind : MethodName := ⟨RX7, "kind", "(I)I"⟩
abbrev cX7_as : ByteArray := prog_1_method_37_code
def yX7_as : MethodName := ⟨RX7, "as", "(II)I"⟩
abbrev cX7_ask : ByteArray := prog_1_method_38_code
def yX7_ask : MethodName := ⟨RX7, "ask", "(II)I"⟩
abbrev cX7_trace : ByteArray := prog_1_method_39_code
def yX7_trace : MethodName := ⟨RX7, "trace", "(I)I"⟩
abbrev cX7_count : ByteArray := prog_1_method_40_code
def yX7_count : MethodName := ⟨RX7, "count", "(I)I"⟩
abbrev cX7_status : ByteArray := prog_1_method_41_code
def yX7_status : MethodName := ⟨RX7, "status", "()I"⟩
abbrev cX7_isWithin : ByteArray := prog_1_method_42_code
def yX7_isWithin : MethodName := ⟨RX7, "isWithin", "(III)Z"⟩
abbrev cX7_found : ByteArray := prog_1_method_43_code
def yX7_found : MethodName := ⟨RX7, "found", "(I)I"⟩
abbrev cX7_rowAt : ByteArray := prog_1_method_44_code
def yX7_rowAt : MethodName := ⟨RX7, "rowAt", "(I)LVineLaws$Row;"⟩
abbrev cX7_rowsThere : ByteArray := prog_1_method_45_code
def yX7_rowsThere : MethodName := ⟨RX7, "rowsThere", "()I"⟩
abbrev cX7_imageAt : ByteArray := prog_1_method_46_code
def yX7_imageAt : MethodName := ⟨RX7, "imageAt", "(I)LVineLaws$Square;"⟩
abbrev cX7_fewest : ByteArray := prog_1_method_47_code
def yX7_fewest : MethodName := ⟨RX7, "fewest", "(IZII)I"⟩
abbrev cX7_leftByBait : ByteArray := prog_1_method_48_code
def yX7_leftByBait : MethodName := ⟨RX7, "leftByBait", "(III)I"⟩
abbrev cX7_standingInWind : ByteArray := prog_1_method_49_code
def yX7_standingInWind : MethodName := ⟨RX7, "standingInWind", "(I)I"⟩
abbrev cX7_power : ByteArray := prog_1_method_50_code
def yX7_power : MethodName := ⟨RX7, "power", "(II)J"⟩
abbrev cX7_commonDivisor : ByteArray := prog_1_method_51_code
def yX7_commonDivisor : MethodName := ⟨RX7, "commonDivisor", "(JJ)J"⟩
abbrev cX7_broader : ByteArray := prog_1_method_52_code
def yX7_broader : MethodName := ⟨RX7, "broader", "(I)I"⟩
abbrev cX7_bodyOf : ByteArray := prog_1_method_53_code
def yX7_bodyOf : MethodName := ⟨RX7, "bodyOf", "(II)I"⟩
abbrev cX7_give : ByteArray := prog_1_method_54_code
def yX7_give : MethodName := ⟨RX7, "give", "(ILVineLaws$Leaf;LVineLaws$Notes;I)I"⟩
def RX8 : String := "VineLawsModel"
def TX8 : u_T := fun k => match k with
  | 0 => ("VineLawsModel", "thrown", "I", false)
  | 1 => ("VineLawsModel", "status", "I", false)
  | 2 => ("VineLawsModel", "lane", "[I", true)
  | 3 => ("VineLawsModel", "many", "[I", true)
  | 4 => ("VineLawsModel", "item", "[I", true)
  | 5 => ("VineLawsModel", "square", "[I", true)
  | 6 => ("VineLawsModel", "fresh", "[I", true)
  | 7 => ("VineLawsModel", "then", "[I", true)
  | 8 => ("VineLawsModel", "was", "[I", true)
  | 9 => ("VineLawsModel", "acts", "I", false)
  | 10 => ("VineLawsModel", "tape", "[I", true)
  | 11 => ("VineLawsModel", "taped", "I", false)
  | 12 => ("VineLawsModel", "cursor", "I", false)
  | 13 => ("VineLawsModel", "start", "I", false)
  | 14 => ("VineLawsModel", "token", "I", false)
  | 15 => ("VineLawsModel", "value", "I", false)
  | 16 => ("VineLawsModel", "fault", "I", false)
  | 17 => ("VineLawsModel", "faultAt", "I", false)
  | 18 => ("VineLawsModel", "latest", "I", false)
  | 19 => ("VineLawsModel", "bites", "[I", true)
  | 20 => ("VineLawsModel", "much", "[I", true)
  | 21 => ("VineLawsModel", "isKept", "[Z", true)
  | 22 => ("VineLawsModel", "kept", "[I", true)
  | 23 => ("VineLawsModel", "trace", "[I", true)
  | _ => ("VineLawsModel", "traced", "I", false)
def tyX8 : Nat → FieldType := fun k => match k with
  | 0 => .int
  | 1 => .int
  | 2 => .array .int
  | 3 => .array .int
  | 4 => .array .int
  | 5 => .array .int
  | 6 => .array .int
  | 7 => .array .int
  | 8 => .array .int
  | 9 => .int
  | 10 => .array .int
  | 11 => .int
  | 12 => .int
  | 13 => .int
  | 14 => .int
  | 15 => .int
  | 16 => .int
  | 17 => .int
  | 18 => .int
  | 19 => .array .int
  | 20 => .array .int
  | 21 => .array .boolean
  | 22 => .array .int
  | 23 => .array .int
  | _ => .int
abbrev wsX80 : List Cond := u_ws RX8 TX8 25
theorem nmX8 : ∀ a, a < 25 → ∀ b, b < 25 → a ≠ b → (TX8 a).2.1 ≠ (TX8 b).2.1 := by decide +kernel
theorem tyX8_ok : ∀ k, k < 25 → parseFieldDescriptor (TX8 k).2.2.1 = some (tyX8 k) := by decide +kernel
abbrev cX8_init : ByteArray := prog_10_method_1_code
def yX8_init : MethodName := ⟨RX8, "<init>", "()V"⟩
abbrev cX8_in : ByteArray := prog_10_method_3_code
def yX8_in : MethodName := ⟨RX8, "in", "(JJJ)Z"⟩
abbrev cX8_finding : ByteArray := prog_10_method_4_code
def yX8_finding : MethodName := ⟨RX8, "finding", "(I)I"⟩
abbrev cX8_isRow : ByteArray := prog_10_method_5_code
def yX8_isRow : MethodName := ⟨RX8, "isRow", "(I)Z"⟩
abbrev cX8_row : ByteArray := prog_10_method_6_code
def yX8_row : MethodName := ⟨RX8, "row", "(III)I"⟩
abbrev cX8_set : ByteArray := prog_10_method_7_code
def yX8_set : MethodName := ⟨RX8, "set", "(III)I"⟩
abbrev cX8_copy : ByteArray := prog_10_method_8_code
def yX8_copy : MethodName := ⟨RX8, "copy", "(IIIII)I"⟩
abbrev cX8_drop : ByteArray := prog_10_method_9_code
def yX8_drop : MethodName := ⟨RX8, "drop", "(I)I"⟩
abbrev cX8_feed : ByteArray := prog_10_method_10_code
def yX8_feed : MethodName := ⟨RX8, "feed", "(I)I"⟩
abbrev cX8_bad : ByteArray := prog_10_method_11_code
def yX8_bad : MethodName := ⟨RX8, "bad", "(I)V"⟩
abbrev cX8_nextToken : ByteArray := prog_10_method_12_code
def yX8_nextToken : MethodName := ⟨RX8, "nextToken", "()V"⟩
abbrev cX8_must : ByteArray := prog_10_method_13_code
def yX8_must : MethodName := ⟨RX8, "must", "(Z)V"⟩
abbrev cX8_isLetter : ByteArray := prog_10_method_14_code
def yX8_isLetter : MethodName := ⟨RX8, "isLetter", "(I)Z"⟩
abbrev cX8_number : ByteArray := prog_10_method_15_code
def yX8_number : MethodName := ⟨RX8, "number", "(II)I"⟩
abbrev cX8_mustSign : ByteArray := prog_10_method_16_code
def yX8_mustSign : MethodName := ⟨RX8, "mustSign", "(I)V"⟩
abbrev cX8_begin : ByteArray := prog_10_method_17_code
def yX8_begin : MethodName := ⟨RX8, "begin", "()V"⟩
abbrev cX8_failed : ByteArray := prog_10_method_18_code
def yX8_failed : MethodName := ⟨RX8, "failed", "()Z"⟩
abbrev cX8_fault : ByteArray := prog_10_method_19_code
def yX8_fault : MethodName := ⟨RX8, "fault", "()I"⟩
abbrev cX8_kindBy : ByteArray := prog_10_method_20_code
def yX8_kindBy : MethodName := ⟨RX8, "kindBy", "(I)I"⟩
abbrev cX8_isSort : ByteArray := prog_10_method_21_code
def yX8_isSort : MethodName := ⟨RX8, "isSort", "()Z"⟩
abbrev cX8_readLeaf : ByteArray := prog_10_method_22_code
def yX8_readLeaf : MethodName := ⟨RX8, "readLeaf", "()V"⟩
abbrev cX8_readGoat : ByteArray := prog_10_method_23_code
def yX8_readGoat : MethodName := ⟨RX8, "readGoat", "()V"⟩
abbrev cX8_square : ByteArray := prog_10_method_24_code
def yX8_square : MethodName := ⟨RX8, "square", "()I"⟩
abbrev cX8_isThere : ByteArray := prog_10_method_25_code
def yX8_isThere : MethodName := ⟨RX8, "isThere", "()Z"⟩
abbrev cX8_isLeaf : ByteArray := prog_10_method_26_code
def yX8_isLeaf : MethodName := ⟨RX8, "isLeaf", "(I)Z"⟩
abbrev cX8_isGoat : ByteArray := prog_10_method_27_code
def yX8_isGoat : MethodName := ⟨RX8, "isGoat", "(I)Z"⟩
abbrev cX8_areLeaves : ByteArray := prog_10_method_28_code
def yX8_areLeaves : MethodName := ⟨RX8, "areLeaves", "(I)Z"⟩
abbrev cX8_bits : ByteArray := prog_10_method_29_code
def yX8_bits : MethodName := ⟨RX8, "bits", "(I)I"⟩
abbrev cX8_has : ByteArray := prog_10_method_30_code
def yX8_has : MethodName := ⟨RX8, "has", "(II)Z"⟩
abbrev cX8_of : ByteArray := prog_10_method_31_code
def yX8_of : MethodName := ⟨RX8, "of", "([III)I"⟩
abbrev cX8_its : ByteArray := prog_10_method_32_code
def yX8_its : MethodName := ⟨RX8, "its", "([III)I"⟩
abbrev cX8_liked : ByteArray := prog_10_method_33_code
def yX8_liked : MethodName := ⟨RX8, "liked", "([II)I"⟩
abbrev cX8_bitten : ByteArray := prog_10_method_34_code
def yX8_bitten : MethodName := ⟨RX8, "bitten", "([II)I"⟩
abbrev cX8_hour : ByteArray := prog_10_method_35_code
def yX8_hour : MethodName := ⟨RX8, "hour", "([I)I"⟩
abbrev cX8_hoursOf : ByteArray := prog_10_method_36_code
def yX8_hoursOf : MethodName := ⟨RX8, "hoursOf", "([II)I"⟩
abbrev cX8_isForce : ByteArray := prog_10_method_37_code
def yX8_isForce : MethodName := ⟨RX8, "isForce", "([II)Z"⟩
abbrev cX8_forced : ByteArray := prog_10_method_38_code
def yX8_forced : MethodName := ⟨RX8, "forced", "([I)I"⟩
abbrev cX8_leftOf : ByteArray := prog_10_method_39_code
def yX8_leftOf : MethodName := ⟨RX8, "leftOf", "([I)I"⟩
abbrev cX8_layThen : ByteArray := prog_10_method_40_code
def yX8_layThen : MethodName := ⟨RX8, "layThen", "()V"⟩
abbrev cX8_layOff : ByteArray := prog_10_method_41_code
def yX8_layOff : MethodName := ⟨RX8, "layOff", "(II)V"⟩
abbrev cX8_keep : ByteArray := prog_10_method_42_code
def yX8_keep : MethodName := ⟨RX8, "keep", "()V"⟩
abbrev cX8_hours : ByteArray := prog_10_method_43_code
def yX8_hours : MethodName := ⟨RX8, "hours", "(I)I"⟩
abbrev cX8_hang : ByteArray := prog_10_method_44_code
def yX8_hang : MethodName := ⟨RX8, "hang", "(II)I"⟩
abbrev cX8_salt : ByteArray := prog_10_method_45_code
def yX8_salt : MethodName := ⟨RX8, "salt", "(I)I"⟩
abbrev cX8_transcribe : ByteArray := prog_10_method_46_code
def yX8_transcribe : MethodName := ⟨RX8, "transcribe", "(I)I"⟩
abbrev cX8_drive : ByteArray := prog_10_method_47_code
def yX8_drive : MethodName := ⟨RX8, "drive", "(II)I"⟩
abbrev cX8_fodder : ByteArray := prog_10_method_48_code
def yX8_fodder : MethodName := ⟨RX8, "fodder", "(I)I"⟩
abbrev cX8_undo : ByteArray := prog_10_method_49_code
def yX8_undo : MethodName := ⟨RX8, "undo", "()I"⟩
abbrev cX8_leaf : ByteArray := prog_10_method_50_code
def yX8_leaf : MethodName := ⟨RX8, "leaf", "(II)I"⟩
abbrev cX8_goat : ByteArray := prog_10_method_51_code
def yX8_goat : MethodName := ⟨RX8, "goat", "(II)I"⟩
abbrev cX8_ahead : ByteArray := prog_10_method_52_code
def yX8_ahead : MethodName := ⟨RX8, "ahead", "(II)I"⟩
abbrev cX8_force : ByteArray := prog_10_method_53_code
def yX8_force : MethodName := ⟨RX8, "force", "(I)I"⟩
abbrev cX8_emptied : ByteArray := prog_10_method_54_code
def yX8_emptied : MethodName := ⟨RX8, "emptied", "(I)I"⟩
abbrev cX8_eats : ByteArray := prog_10_method_55_code
def yX8_eats : MethodName := ⟨RX8, "eats", "(II)I"⟩
abbrev cX8_biters : ByteArray := prog_10_method_56_code
def yX8_biters : MethodName := ⟨RX8, "biters", "(II)I"⟩
abbrev cX8_guilt : ByteArray := prog_10_method_57_code
def yX8_guilt : MethodName := ⟨RX8, "guilt", "(II)I"⟩
abbrev cX8_gap : ByteArray := prog_10_method_58_code
def yX8_gap : MethodName := ⟨RX8, "gap", "(I)I"⟩
abbrev cX8_hangs : ByteArray := prog_10_method_59_code
def yX8_hangs : MethodName := ⟨RX8, "hangs", "(III)I"⟩
abbrev cX8_drives : ByteArray := prog_10_method_60_code
def yX8_drives : MethodName := ⟨RX8, "drives", "(III)I"⟩
abbrev cX8_harm : ByteArray := prog_10_method_61_code
def yX8_harm : MethodName := ⟨RX8, "harm", "(II)I"⟩
abbrev cX8_bait : ByteArray := prog_10_method_62_code
def yX8_bait : MethodName := ⟨RX8, "bait", "(III)I"⟩
abbrev cX8_safeHeight : ByteArray := prog_10_method_63_code
def yX8_safeHeight : MethodName := ⟨RX8, "safeHeight", "(II)I"⟩
abbrev cX8_isSo : ByteArray := prog_10_method_64_code
def yX8_isSo : MethodName := ⟨RX8, "isSo", "(III)Z"⟩
abbrev cX8_who : ByteArray := prog_10_method_65_code
def yX8_who : MethodName := ⟨RX8, "who", "(IIIIII)I"⟩
abbrev cX8_strayed : ByteArray := prog_10_method_66_code
def yX8_strayed : MethodName := ⟨RX8, "strayed", "(IIII)I"⟩
abbrev cX8_rivals : ByteArray := prog_10_method_67_code
def yX8_rivals : MethodName := ⟨RX8, "rivals", "(I)I"⟩
abbrev cX8_wind : ByteArray := prog_10_method_68_code
def yX8_wind : MethodName := ⟨RX8, "wind", "(III)J"⟩
abbrev cX8_voids : ByteArray := prog_10_method_69_code
def yX8_voids : MethodName := ⟨RX8, "voids", "([I)I"⟩
abbrev cX8_drawn : ByteArray := prog_10_method_70_code
def yX8_drawn : MethodName := ⟨RX8, "drawn", "(III)I"⟩
abbrev cX8_image : ByteArray := prog_10_method_71_code
def yX8_image : MethodName := ⟨RX8, "image", "(I)I"⟩
abbrev cX8_restore : ByteArray := prog_10_method_72_code
def yX8_restore : MethodName := ⟨RX8, "restore", "(I)I"⟩
abbrev cX8_isOf : ByteArray := prog_10_method_73_code
def yX8_isOf : MethodName := ⟨RX8, "isOf", "(II)Z"⟩
abbrev cX8_kind : ByteArray := prog_10_method_74_code
def yX8_kind : MethodName := ⟨RX8, "kind", "(I)I"⟩
abbrev cX8_as : ByteArray := prog_10_method_75_code
def yX8_as : MethodName := ⟨RX8, "as", "(II)I"⟩
abbrev cX8_began : ByteArray := prog_10_method_76_code
def yX8_began : MethodName := ⟨RX8, "began", "(I)V"⟩
abbrev cX8_plainSize : ByteArray := prog_10_method_77_code
def yX8_plainSize : MethodName := ⟨RX8, "plainSize", "(I)I"⟩
abbrev cX8_bitterSize : ByteArray := prog_10_method_78_code
def yX8_bitterSize : MethodName := ⟨RX8, "bitterSize", "(I)I"⟩
abbrev cX8_markOf : ByteArray := prog_10_method_79_code
def yX8_markOf : MethodName := ⟨RX8, "markOf", "(I)I"⟩
abbrev cX8_sizeOf : ByteArray := prog_10_method_80_code
def yX8_sizeOf : MethodName := ⟨RX8, "sizeOf", "(I)I"⟩
abbrev cX8_ask : ByteArray := prog_10_method_81_code
def yX8_ask : MethodName := ⟨RX8, "ask", "(II)I"⟩
abbrev cX8_trace : ByteArray := prog_10_method_82_code
def yX8_trace : MethodName := ⟨RX8, "trace", "(I)I"⟩
abbrev cX8_count : ByteArray := prog_10_method_83_code
def yX8_count : MethodName := ⟨RX8, "count", "(I)I"⟩
abbrev cX8_status : ByteArray := prog_10_method_84_code
def yX8_status : MethodName := ⟨RX8, "status", "()I"⟩
def RJ6 : String := "java/lang/Integer"
def TJ6 : u_T := fun k => match k with
  | _ => ("", "", "", false)
def tyJ6 : Nat → FieldType := fun k => match k with
  | _ => .int
abbrev cJ6_bitCount_0f7a4 : ByteArray := prog_11_method_49_code
def yJ6_bitCount_0f7a4 : MethodName := ⟨RJ6, "bitCount", "(I)I"⟩
def RJ9 : String := "java/lang/Math"
def TJ9 : u_T := fun k => match k with
  | _ => ("", "", "", false)
def tyJ9 : Nat → FieldType := fun k => match k with
  | _ => .int
abbrev cJ9_max_7cf53 : ByteArray := prog_12_method_65_code
def yJ9_max_7cf53 : MethodName := ⟨RJ9, "max", "(II)I"⟩
abbrev cJ9_min_7cf53 : ByteArray := prog_12_method_69_code
def yJ9_min_7cf53 : MethodName := ⟨RJ9, "min", "(II)I"⟩
def RJ10 : String := "java/lang/System"
def TJ10 : u_T := fun k => match k with
  | _ => ("", "", "", false)
def tyJ10 : Nat → FieldType := fun k => match k with
  | _ => .int
def RL : String := "VineLawsLaw"
abbrev cL_law : ByteArray := code
def yL_law : MethodName := ⟨RL, "law", "([I)Z"⟩
abbrev vwCl : List vw_C := [(RX0, TX0, 5), (RX1, TX1, 7), (RX2, TX2, 2), (RX3, TX3, 3), (RX4, TX4, 4), (RX5, TX5, 8), (RX6, TX6, 7), (RX7, TX7, 10), (RX8, TX8, 25)]
