section
-- ===== PART A: goes FIRST, ahead of the names: the tables' words, and 'selects' of the private methods out of them =====
/-- a private method of a class that the tables say can be made, by its rows of tables_1 -/
def lw_okq (q : MethodName × Nat) : Prop := (q.1.cls ≠ "java/lang/invoke/MethodHandle" ∧ q.1.cls ≠ "java/lang/invoke/VarHandle") ∧ Cond.instantiable q.1.cls q.2 ∈ tables_1 ∧ Cond.privateMethod q.1 ∈ tables_1 ∧ Cond.instanceMethod q.1 ∈ tables_1
theorem lw_p0 : lw_okq (⟨"VineLaws", "rowAt", "(I)LVineLaws$Row;"⟩, 10) := ⟨⟨by decide +kernel, by decide +kernel⟩, List.mem_of_getElem? (i := 14) (by decide +kernel), List.mem_of_getElem? (i := 267) (by decide +kernel), List.mem_of_getElem? (i := 268) (by decide +kernel)⟩
theorem lw_p1 : lw_okq (⟨"VineLaws", "found", "(I)I"⟩, 10) := ⟨⟨by decide +kernel, by decide +kernel⟩, List.mem_of_getElem? (i := 14) (by decide +kernel), List.mem_of_getElem? (i := 275) (by decide +kernel), List.mem_of_getElem? (i := 276) (by decide +kernel)⟩
theorem lw_p2 : lw_okq (⟨"VineLaws$Row", "begin", "(II)V"⟩, 4) := ⟨⟨by decide +kernel, by decide +kernel⟩, List.mem_of_getElem? (i := 209) (by decide +kernel), List.mem_of_getElem? (i := 280) (by decide +kernel), List.mem_of_getElem? (i := 281) (by decide +kernel)⟩
theorem lw_p3 : lw_okq (⟨"VineLaws$Row", "hasPlaces", "(II)Z"⟩, 4) := ⟨⟨by decide +kernel, by decide +kernel⟩, List.mem_of_getElem? (i := 209) (by decide +kernel), List.mem_of_getElem? (i := 294) (by decide +kernel), List.mem_of_getElem? (i := 295) (by decide +kernel)⟩
theorem lw_p4 : lw_okq (⟨"VineLaws$Row", "put", "(II)I"⟩, 4) := ⟨⟨by decide +kernel, by decide +kernel⟩, List.mem_of_getElem? (i := 209) (by decide +kernel), List.mem_of_getElem? (i := 298) (by decide +kernel), List.mem_of_getElem? (i := 299) (by decide +kernel)⟩
theorem lw_p5 : lw_okq (⟨"VineLaws$Tape", "add", "(I)Z"⟩, 7) := ⟨⟨by decide +kernel, by decide +kernel⟩, List.mem_of_getElem? (i := 24) (by decide +kernel), List.mem_of_getElem? (i := 317) (by decide +kernel), List.mem_of_getElem? (i := 318) (by decide +kernel)⟩
theorem lw_p6 : lw_okq (⟨"VineLaws$Tape", "readInto", "(LVineLaws$Square;)Z"⟩, 7) := ⟨⟨by decide +kernel, by decide +kernel⟩, List.mem_of_getElem? (i := 24) (by decide +kernel), List.mem_of_getElem? (i := 326) (by decide +kernel), List.mem_of_getElem? (i := 327) (by decide +kernel)⟩
theorem lw_p7 : lw_okq (⟨"VineLaws$Square", "clear", "()V"⟩, 8) := ⟨⟨by decide +kernel, by decide +kernel⟩, List.mem_of_getElem? (i := 63) (by decide +kernel), List.mem_of_getElem? (i := 330) (by decide +kernel), List.mem_of_getElem? (i := 331) (by decide +kernel)⟩
theorem lw_p8 : lw_okq (⟨"VineLaws$Tape", "advance", "()V"⟩, 7) := ⟨⟨by decide +kernel, by decide +kernel⟩, List.mem_of_getElem? (i := 24) (by decide +kernel), List.mem_of_getElem? (i := 334) (by decide +kernel), List.mem_of_getElem? (i := 335) (by decide +kernel)⟩
theorem lw_p9 : lw_okq (⟨"VineLaws$Tape", "byteAt", "(I)I"⟩, 7) := ⟨⟨by decide +kernel, by decide +kernel⟩, List.mem_of_getElem? (i := 24) (by decide +kernel), List.mem_of_getElem? (i := 338) (by decide +kernel), List.mem_of_getElem? (i := 339) (by decide +kernel)⟩
theorem lw_p10 : lw_okq (⟨"VineLaws$Tape", "takeSign", "(I)V"⟩, 7) := ⟨⟨by decide +kernel, by decide +kernel⟩, List.mem_of_getElem? (i := 24) (by decide +kernel), List.mem_of_getElem? (i := 342) (by decide +kernel), List.mem_of_getElem? (i := 343) (by decide +kernel)⟩
theorem lw_p11 : lw_okq (⟨"VineLaws$Tape", "takeNumber", "(II)I"⟩, 7) := ⟨⟨by decide +kernel, by decide +kernel⟩, List.mem_of_getElem? (i := 24) (by decide +kernel), List.mem_of_getElem? (i := 346) (by decide +kernel), List.mem_of_getElem? (i := 347) (by decide +kernel)⟩
theorem lw_p12 : lw_okq (⟨"VineLaws$Tape", "readLeaf", "(LVineLaws$Square;)V"⟩, 7) := ⟨⟨by decide +kernel, by decide +kernel⟩, List.mem_of_getElem? (i := 24) (by decide +kernel), List.mem_of_getElem? (i := 353) (by decide +kernel), List.mem_of_getElem? (i := 354) (by decide +kernel)⟩
theorem lw_p13 : lw_okq (⟨"VineLaws$Tape", "readGoat", "(LVineLaws$Square;)V"⟩, 7) := ⟨⟨by decide +kernel, by decide +kernel⟩, List.mem_of_getElem? (i := 24) (by decide +kernel), List.mem_of_getElem? (i := 357) (by decide +kernel), List.mem_of_getElem? (i := 358) (by decide +kernel)⟩
theorem lw_p14 : lw_okq (⟨"VineLaws$Square", "take", "(LVineLaws$Square;)V"⟩, 8) := ⟨⟨by decide +kernel, by decide +kernel⟩, List.mem_of_getElem? (i := 63) (by decide +kernel), List.mem_of_getElem? (i := 362) (by decide +kernel), List.mem_of_getElem? (i := 363) (by decide +kernel)⟩
theorem lw_p15 : lw_okq (⟨"VineLaws$Leaf", "take", "(LVineLaws$Leaf;)V"⟩, 7) := ⟨⟨by decide +kernel, by decide +kernel⟩, List.mem_of_getElem? (i := 72) (by decide +kernel), List.mem_of_getElem? (i := 366) (by decide +kernel), List.mem_of_getElem? (i := 367) (by decide +kernel)⟩
def lw_privs_1 : List (MethodName × Nat) := [(⟨"VineLaws", "rowAt", "(I)LVineLaws$Row;"⟩, 10), (⟨"VineLaws", "found", "(I)I"⟩, 10), (⟨"VineLaws$Row", "begin", "(II)V"⟩, 4), (⟨"VineLaws$Row", "hasPlaces", "(II)Z"⟩, 4), (⟨"VineLaws$Row", "put", "(II)I"⟩, 4), (⟨"VineLaws$Tape", "add", "(I)Z"⟩, 7), (⟨"VineLaws$Tape", "readInto", "(LVineLaws$Square;)Z"⟩, 7), (⟨"VineLaws$Square", "clear", "()V"⟩, 8), (⟨"VineLaws$Tape", "advance", "()V"⟩, 7), (⟨"VineLaws$Tape", "byteAt", "(I)I"⟩, 7), (⟨"VineLaws$Tape", "takeSign", "(I)V"⟩, 7), (⟨"VineLaws$Tape", "takeNumber", "(II)I"⟩, 7), (⟨"VineLaws$Tape", "readLeaf", "(LVineLaws$Square;)V"⟩, 7), (⟨"VineLaws$Tape", "readGoat", "(LVineLaws$Square;)V"⟩, 7), (⟨"VineLaws$Square", "take", "(LVineLaws$Square;)V"⟩, 8), (⟨"VineLaws$Leaf", "take", "(LVineLaws$Leaf;)V"⟩, 7)]
theorem lw_r1 : ∀ q ∈ lw_privs_1, lw_okq q := List.forall_mem_cons.mpr ⟨lw_p0, List.forall_mem_cons.mpr ⟨lw_p1, List.forall_mem_cons.mpr ⟨lw_p2, List.forall_mem_cons.mpr ⟨lw_p3, List.forall_mem_cons.mpr ⟨lw_p4, List.forall_mem_cons.mpr ⟨lw_p5, List.forall_mem_cons.mpr ⟨lw_p6, List.forall_mem_cons.mpr ⟨lw_p7, List.forall_mem_cons.mpr ⟨lw_p8, List.forall_mem_cons.mpr ⟨lw_p9, List.forall_mem_cons.mpr ⟨lw_p10, List.forall_mem_cons.mpr ⟨lw_p11, List.forall_mem_cons.mpr ⟨lw_p12, List.forall_mem_cons.mpr ⟨lw_p13, List.forall_mem_cons.mpr ⟨lw_p14, List.forall_mem_cons.mpr ⟨lw_p15, fun _ h => absurd h List.not_mem_nil⟩⟩⟩⟩⟩⟩⟩⟩⟩⟩⟩⟩⟩⟩⟩⟩
theorem lw_p16 : lw_okq (⟨"VineLaws$Goat", "take", "(LVineLaws$Goat;)V"⟩, 5) := ⟨⟨by decide +kernel, by decide +kernel⟩, List.mem_of_getElem? (i := 115) (by decide +kernel), List.mem_of_getElem? (i := 370) (by decide +kernel), List.mem_of_getElem? (i := 371) (by decide +kernel)⟩
theorem lw_p17 : lw_okq (⟨"VineLaws$Past", "forget", "()V"⟩, 3) := ⟨⟨by decide +kernel, by decide +kernel⟩, List.mem_of_getElem? (i := 56) (by decide +kernel), List.mem_of_getElem? (i := 374) (by decide +kernel), List.mem_of_getElem? (i := 375) (by decide +kernel)⟩
theorem lw_p18 : lw_okq (⟨"VineLaws$Past", "bringBack", "(LVineLaws$Square;)Z"⟩, 3) := ⟨⟨by decide +kernel, by decide +kernel⟩, List.mem_of_getElem? (i := 56) (by decide +kernel), List.mem_of_getElem? (i := 386) (by decide +kernel), List.mem_of_getElem? (i := 387) (by decide +kernel)⟩
theorem lw_p19 : lw_okq (⟨"VineLaws$Square", "isThere", "()Z"⟩, 8) := ⟨⟨by decide +kernel, by decide +kernel⟩, List.mem_of_getElem? (i := 63) (by decide +kernel), List.mem_of_getElem? (i := 396) (by decide +kernel), List.mem_of_getElem? (i := 397) (by decide +kernel)⟩
theorem lw_p20 : lw_okq (⟨"VineLaws$Past", "keep", "(LVineLaws$Square;)V"⟩, 3) := ⟨⟨by decide +kernel, by decide +kernel⟩, List.mem_of_getElem? (i := 56) (by decide +kernel), List.mem_of_getElem? (i := 400) (by decide +kernel), List.mem_of_getElem? (i := 401) (by decide +kernel)⟩
theorem lw_p21 : lw_okq (⟨"VineLaws$Square", "passHour", "()I"⟩, 8) := ⟨⟨by decide +kernel, by decide +kernel⟩, List.mem_of_getElem? (i := 63) (by decide +kernel), List.mem_of_getElem? (i := 405) (by decide +kernel), List.mem_of_getElem? (i := 406) (by decide +kernel)⟩
theorem lw_p22 : lw_okq (⟨"VineLaws$Square", "letBite", "(LVineLaws$Goat;)I"⟩, 8) := ⟨⟨by decide +kernel, by decide +kernel⟩, List.mem_of_getElem? (i := 63) (by decide +kernel), List.mem_of_getElem? (i := 409) (by decide +kernel), List.mem_of_getElem? (i := 410) (by decide +kernel)⟩
theorem lw_p23 : lw_okq (⟨"VineLaws$Square", "choiceOf", "(LVineLaws$Goat;)LVineLaws$Leaf;"⟩, 8) := ⟨⟨by decide +kernel, by decide +kernel⟩, List.mem_of_getElem? (i := 63) (by decide +kernel), List.mem_of_getElem? (i := 413) (by decide +kernel), List.mem_of_getElem? (i := 414) (by decide +kernel)⟩
theorem lw_p24 : lw_okq (⟨"VineLaws$Goat", "isBiting", "()Z"⟩, 5) := ⟨⟨by decide +kernel, by decide +kernel⟩, List.mem_of_getElem? (i := 115) (by decide +kernel), List.mem_of_getElem? (i := 417) (by decide +kernel), List.mem_of_getElem? (i := 418) (by decide +kernel)⟩
theorem lw_p25 : lw_okq (⟨"VineLaws$Leaf", "liking", "(II)I"⟩, 7) := ⟨⟨by decide +kernel, by decide +kernel⟩, List.mem_of_getElem? (i := 72) (by decide +kernel), List.mem_of_getElem? (i := 422) (by decide +kernel), List.mem_of_getElem? (i := 423) (by decide +kernel)⟩
theorem lw_p26 : lw_okq (⟨"VineLaws$Leaf", "loseBite", "(I)I"⟩, 7) := ⟨⟨by decide +kernel, by decide +kernel⟩, List.mem_of_getElem? (i := 72) (by decide +kernel), List.mem_of_getElem? (i := 427) (by decide +kernel), List.mem_of_getElem? (i := 428) (by decide +kernel)⟩
theorem lw_p27 : lw_okq (⟨"VineLaws$Goat", "swallow", "(I)V"⟩, 5) := ⟨⟨by decide +kernel, by decide +kernel⟩, List.mem_of_getElem? (i := 115) (by decide +kernel), List.mem_of_getElem? (i := 432) (by decide +kernel), List.mem_of_getElem? (i := 433) (by decide +kernel)⟩
theorem lw_p28 : lw_okq (⟨"VineLaws$Goat", "endHour", "(I)V"⟩, 5) := ⟨⟨by decide +kernel, by decide +kernel⟩, List.mem_of_getElem? (i := 115) (by decide +kernel), List.mem_of_getElem? (i := 437) (by decide +kernel), List.mem_of_getElem? (i := 438) (by decide +kernel)⟩
theorem lw_p29 : lw_okq (⟨"VineLaws$Square", "leafAt", "(I)LVineLaws$Leaf;"⟩, 8) := ⟨⟨by decide +kernel, by decide +kernel⟩, List.mem_of_getElem? (i := 63) (by decide +kernel), List.mem_of_getElem? (i := 446) (by decide +kernel), List.mem_of_getElem? (i := 447) (by decide +kernel)⟩
theorem lw_p30 : lw_okq (⟨"VineLaws$Leaf", "isVoid", "()Z"⟩, 7) := ⟨⟨by decide +kernel, by decide +kernel⟩, List.mem_of_getElem? (i := 72) (by decide +kernel), List.mem_of_getElem? (i := 450) (by decide +kernel), List.mem_of_getElem? (i := 451) (by decide +kernel)⟩
theorem lw_p31 : lw_okq (⟨"VineLaws$Square", "goatAt", "(I)LVineLaws$Goat;"⟩, 8) := ⟨⟨by decide +kernel, by decide +kernel⟩, List.mem_of_getElem? (i := 63) (by decide +kernel), List.mem_of_getElem? (i := 466) (by decide +kernel), List.mem_of_getElem? (i := 467) (by decide +kernel)⟩
def lw_privs_2 : List (MethodName × Nat) := [(⟨"VineLaws$Goat", "take", "(LVineLaws$Goat;)V"⟩, 5), (⟨"VineLaws$Past", "forget", "()V"⟩, 3), (⟨"VineLaws$Past", "bringBack", "(LVineLaws$Square;)Z"⟩, 3), (⟨"VineLaws$Square", "isThere", "()Z"⟩, 8), (⟨"VineLaws$Past", "keep", "(LVineLaws$Square;)V"⟩, 3), (⟨"VineLaws$Square", "passHour", "()I"⟩, 8), (⟨"VineLaws$Square", "letBite", "(LVineLaws$Goat;)I"⟩, 8), (⟨"VineLaws$Square", "choiceOf", "(LVineLaws$Goat;)LVineLaws$Leaf;"⟩, 8), (⟨"VineLaws$Goat", "isBiting", "()Z"⟩, 5), (⟨"VineLaws$Leaf", "liking", "(II)I"⟩, 7), (⟨"VineLaws$Leaf", "loseBite", "(I)I"⟩, 7), (⟨"VineLaws$Goat", "swallow", "(I)V"⟩, 5), (⟨"VineLaws$Goat", "endHour", "(I)V"⟩, 5), (⟨"VineLaws$Square", "leafAt", "(I)LVineLaws$Leaf;"⟩, 8), (⟨"VineLaws$Leaf", "isVoid", "()Z"⟩, 7), (⟨"VineLaws$Square", "goatAt", "(I)LVineLaws$Goat;"⟩, 8)]
theorem lw_r2 : ∀ q ∈ lw_privs_2, lw_okq q := List.forall_mem_cons.mpr ⟨lw_p16, List.forall_mem_cons.mpr ⟨lw_p17, List.forall_mem_cons.mpr ⟨lw_p18, List.forall_mem_cons.mpr ⟨lw_p19, List.forall_mem_cons.mpr ⟨lw_p20, List.forall_mem_cons.mpr ⟨lw_p21, List.forall_mem_cons.mpr ⟨lw_p22, List.forall_mem_cons.mpr ⟨lw_p23, List.forall_mem_cons.mpr ⟨lw_p24, List.forall_mem_cons.mpr ⟨lw_p25, List.forall_mem_cons.mpr ⟨lw_p26, List.forall_mem_cons.mpr ⟨lw_p27, List.forall_mem_cons.mpr ⟨lw_p28, List.forall_mem_cons.mpr ⟨lw_p29, List.forall_mem_cons.mpr ⟨lw_p30, List.forall_mem_cons.mpr ⟨lw_p31, fun _ h => absurd h List.not_mem_nil⟩⟩⟩⟩⟩⟩⟩⟩⟩⟩⟩⟩⟩⟩⟩⟩
theorem lw_p32 : lw_okq (⟨"VineLaws$Leaf", "standing", "()I"⟩, 7) := ⟨⟨by decide +kernel, by decide +kernel⟩, List.mem_of_getElem? (i := 72) (by decide +kernel), List.mem_of_getElem? (i := 479) (by decide +kernel), List.mem_of_getElem? (i := 480) (by decide +kernel)⟩
theorem lw_p33 : lw_okq (⟨"VineLaws$Leaf", "isInForce", "()Z"⟩, 7) := ⟨⟨by decide +kernel, by decide +kernel⟩, List.mem_of_getElem? (i := 72) (by decide +kernel), List.mem_of_getElem? (i := 484) (by decide +kernel), List.mem_of_getElem? (i := 485) (by decide +kernel)⟩
theorem lw_p34 : lw_okq (⟨"VineLaws$Square", "leafIn", "(LVineLaws$Square;I)LVineLaws$Leaf;"⟩, 8) := ⟨⟨by decide +kernel, by decide +kernel⟩, List.mem_of_getElem? (i := 63) (by decide +kernel), List.mem_of_getElem? (i := 498) (by decide +kernel), List.mem_of_getElem? (i := 499) (by decide +kernel)⟩
theorem lw_p35 : lw_okq (⟨"VineLaws$Square", "passHours", "(I)V"⟩, 8) := ⟨⟨by decide +kernel, by decide +kernel⟩, List.mem_of_getElem? (i := 63) (by decide +kernel), List.mem_of_getElem? (i := 504) (by decide +kernel), List.mem_of_getElem? (i := 505) (by decide +kernel)⟩
theorem lw_p36 : lw_okq (⟨"VineLaws$Square", "inForce", "()I"⟩, 8) := ⟨⟨by decide +kernel, by decide +kernel⟩, List.mem_of_getElem? (i := 63) (by decide +kernel), List.mem_of_getElem? (i := 513) (by decide +kernel), List.mem_of_getElem? (i := 514) (by decide +kernel)⟩
theorem lw_p37 : lw_okq (⟨"VineLaws$Square", "hasLeaves", "(I)Z"⟩, 8) := ⟨⟨by decide +kernel, by decide +kernel⟩, List.mem_of_getElem? (i := 63) (by decide +kernel), List.mem_of_getElem? (i := 534) (by decide +kernel), List.mem_of_getElem? (i := 535) (by decide +kernel)⟩
theorem lw_p38 : lw_okq (⟨"VineLaws$Square", "notVoid", "()I"⟩, 8) := ⟨⟨by decide +kernel, by decide +kernel⟩, List.mem_of_getElem? (i := 63) (by decide +kernel), List.mem_of_getElem? (i := 542) (by decide +kernel), List.mem_of_getElem? (i := 543) (by decide +kernel)⟩
theorem lw_p39 : lw_okq (⟨"VineLaws", "fewest", "(IZII)I"⟩, 10) := ⟨⟨by decide +kernel, by decide +kernel⟩, List.mem_of_getElem? (i := 14) (by decide +kernel), List.mem_of_getElem? (i := 547) (by decide +kernel), List.mem_of_getElem? (i := 548) (by decide +kernel)⟩
theorem lw_p40 : lw_okq (⟨"VineLaws$Square", "driveOff", "(II)V"⟩, 8) := ⟨⟨by decide +kernel, by decide +kernel⟩, List.mem_of_getElem? (i := 63) (by decide +kernel), List.mem_of_getElem? (i := 557) (by decide +kernel), List.mem_of_getElem? (i := 558) (by decide +kernel)⟩
theorem lw_p41 : lw_okq (⟨"VineLaws$Square", "hangOnTop", "(I)V"⟩, 8) := ⟨⟨by decide +kernel, by decide +kernel⟩, List.mem_of_getElem? (i := 63) (by decide +kernel), List.mem_of_getElem? (i := 561) (by decide +kernel), List.mem_of_getElem? (i := 562) (by decide +kernel)⟩
theorem lw_p42 : lw_okq (⟨"VineLaws$Square", "keepsInForce", "(II)Z"⟩, 8) := ⟨⟨by decide +kernel, by decide +kernel⟩, List.mem_of_getElem? (i := 63) (by decide +kernel), List.mem_of_getElem? (i := 565) (by decide +kernel), List.mem_of_getElem? (i := 566) (by decide +kernel)⟩
theorem lw_p43 : lw_okq (⟨"VineLaws", "leftByBait", "(III)I"⟩, 10) := ⟨⟨by decide +kernel, by decide +kernel⟩, List.mem_of_getElem? (i := 14) (by decide +kernel), List.mem_of_getElem? (i := 582) (by decide +kernel), List.mem_of_getElem? (i := 583) (by decide +kernel)⟩
theorem lw_p44 : lw_okq (⟨"VineLaws$Leaf", "become", "(II)V"⟩, 7) := ⟨⟨by decide +kernel, by decide +kernel⟩, List.mem_of_getElem? (i := 72) (by decide +kernel), List.mem_of_getElem? (i := 594) (by decide +kernel), List.mem_of_getElem? (i := 595) (by decide +kernel)⟩
theorem lw_p45 : lw_okq (⟨"VineLaws$Square", "goesAs", "(ILVineLaws$Row;II)Z"⟩, 8) := ⟨⟨by decide +kernel, by decide +kernel⟩, List.mem_of_getElem? (i := 63) (by decide +kernel), List.mem_of_getElem? (i := 598) (by decide +kernel), List.mem_of_getElem? (i := 599) (by decide +kernel)⟩
theorem lw_p46 : lw_okq (⟨"VineLaws$Row", "at", "(I)I"⟩, 4) := ⟨⟨by decide +kernel, by decide +kernel⟩, List.mem_of_getElem? (i := 209) (by decide +kernel), List.mem_of_getElem? (i := 602) (by decide +kernel), List.mem_of_getElem? (i := 603) (by decide +kernel)⟩
theorem lw_p47 : lw_okq (⟨"VineLaws$Square", "likesAlike", "(LVineLaws$Leaf;LVineLaws$Leaf;)Z"⟩, 8) := ⟨⟨by decide +kernel, by decide +kernel⟩, List.mem_of_getElem? (i := 63) (by decide +kernel), List.mem_of_getElem? (i := 614) (by decide +kernel), List.mem_of_getElem? (i := 615) (by decide +kernel)⟩
def lw_privs_3 : List (MethodName × Nat) := [(⟨"VineLaws$Leaf", "standing", "()I"⟩, 7), (⟨"VineLaws$Leaf", "isInForce", "()Z"⟩, 7), (⟨"VineLaws$Square", "leafIn", "(LVineLaws$Square;I)LVineLaws$Leaf;"⟩, 8), (⟨"VineLaws$Square", "passHours", "(I)V"⟩, 8), (⟨"VineLaws$Square", "inForce", "()I"⟩, 8), (⟨"VineLaws$Square", "hasLeaves", "(I)Z"⟩, 8), (⟨"VineLaws$Square", "notVoid", "()I"⟩, 8), (⟨"VineLaws", "fewest", "(IZII)I"⟩, 10), (⟨"VineLaws$Square", "driveOff", "(II)V"⟩, 8), (⟨"VineLaws$Square", "hangOnTop", "(I)V"⟩, 8), (⟨"VineLaws$Square", "keepsInForce", "(II)Z"⟩, 8), (⟨"VineLaws", "leftByBait", "(III)I"⟩, 10), (⟨"VineLaws$Leaf", "become", "(II)V"⟩, 7), (⟨"VineLaws$Square", "goesAs", "(ILVineLaws$Row;II)Z"⟩, 8), (⟨"VineLaws$Row", "at", "(I)I"⟩, 4), (⟨"VineLaws$Square", "likesAlike", "(LVineLaws$Leaf;LVineLaws$Leaf;)Z"⟩, 8)]
theorem lw_r3 : ∀ q ∈ lw_privs_3, lw_okq q := List.forall_mem_cons.mpr ⟨lw_p32, List.forall_mem_cons.mpr ⟨lw_p33, List.forall_mem_cons.mpr ⟨lw_p34, List.forall_mem_cons.mpr ⟨lw_p35, List.forall_mem_cons.mpr ⟨lw_p36, List.forall_mem_cons.mpr ⟨lw_p37, List.forall_mem_cons.mpr ⟨lw_p38, List.forall_mem_cons.mpr ⟨lw_p39, List.forall_mem_cons.mpr ⟨lw_p40, List.forall_mem_cons.mpr ⟨lw_p41, List.forall_mem_cons.mpr ⟨lw_p42, List.forall_mem_cons.mpr ⟨lw_p43, List.forall_mem_cons.mpr ⟨lw_p44, List.forall_mem_cons.mpr ⟨lw_p45, List.forall_mem_cons.mpr ⟨lw_p46, List.forall_mem_cons.mpr ⟨lw_p47, fun _ h => absurd h List.not_mem_nil⟩⟩⟩⟩⟩⟩⟩⟩⟩⟩⟩⟩⟩⟩⟩⟩
theorem lw_p48 : lw_okq (⟨"VineLaws", "standingInWind", "(I)I"⟩, 10) := ⟨⟨by decide +kernel, by decide +kernel⟩, List.mem_of_getElem? (i := 14) (by decide +kernel), List.mem_of_getElem? (i := 624) (by decide +kernel), List.mem_of_getElem? (i := 625) (by decide +kernel)⟩
theorem lw_p49 : lw_okq (⟨"VineLaws$Square", "tear", "(I)V"⟩, 8) := ⟨⟨by decide +kernel, by decide +kernel⟩, List.mem_of_getElem? (i := 63) (by decide +kernel), List.mem_of_getElem? (i := 628) (by decide +kernel), List.mem_of_getElem? (i := 629) (by decide +kernel)⟩
theorem lw_p50 : lw_okq (⟨"VineLaws$Square", "befall", "(I)V"⟩, 8) := ⟨⟨by decide +kernel, by decide +kernel⟩, List.mem_of_getElem? (i := 63) (by decide +kernel), List.mem_of_getElem? (i := 645) (by decide +kernel), List.mem_of_getElem? (i := 646) (by decide +kernel)⟩
theorem lw_p51 : lw_okq (⟨"VineLaws$Square", "leftOfAll", "()I"⟩, 8) := ⟨⟨by decide +kernel, by decide +kernel⟩, List.mem_of_getElem? (i := 63) (by decide +kernel), List.mem_of_getElem? (i := 650) (by decide +kernel), List.mem_of_getElem? (i := 651) (by decide +kernel)⟩
theorem lw_p52 : lw_okq (⟨"VineLaws", "imageAt", "(I)LVineLaws$Square;"⟩, 10) := ⟨⟨by decide +kernel, by decide +kernel⟩, List.mem_of_getElem? (i := 14) (by decide +kernel), List.mem_of_getElem? (i := 658) (by decide +kernel), List.mem_of_getElem? (i := 659) (by decide +kernel)⟩
theorem lw_p53 : lw_okq (⟨"VineLaws$Notes", "add", "(I)V"⟩, 2) := ⟨⟨by decide +kernel, by decide +kernel⟩, List.mem_of_getElem? (i := 194) (by decide +kernel), List.mem_of_getElem? (i := 687) (by decide +kernel), List.mem_of_getElem? (i := 688) (by decide +kernel)⟩
theorem lw_p54 : lw_okq (⟨"VineLaws$Notes", "at", "(I)I"⟩, 2) := ⟨⟨by decide +kernel, by decide +kernel⟩, List.mem_of_getElem? (i := 194) (by decide +kernel), List.mem_of_getElem? (i := 695) (by decide +kernel), List.mem_of_getElem? (i := 696) (by decide +kernel)⟩
theorem lw_p55 : lw_okq (⟨"VineLaws", "rowsThere", "()I"⟩, 10) := ⟨⟨by decide +kernel, by decide +kernel⟩, List.mem_of_getElem? (i := 14) (by decide +kernel), List.mem_of_getElem? (i := 704) (by decide +kernel), List.mem_of_getElem? (i := 705) (by decide +kernel)⟩
theorem lw_p56 : lw_okq (⟨"VineLawsModel", "finding", "(I)I"⟩, 25) := ⟨⟨by decide +kernel, by decide +kernel⟩, List.mem_of_getElem? (i := 712) (by decide +kernel), List.mem_of_getElem? (i := 808) (by decide +kernel), List.mem_of_getElem? (i := 809) (by decide +kernel)⟩
theorem lw_p57 : lw_okq (⟨"VineLawsModel", "begin", "()V"⟩, 25) := ⟨⟨by decide +kernel, by decide +kernel⟩, List.mem_of_getElem? (i := 712) (by decide +kernel), List.mem_of_getElem? (i := 839) (by decide +kernel), List.mem_of_getElem? (i := 840) (by decide +kernel)⟩
theorem lw_p58 : lw_okq (⟨"VineLawsModel", "nextToken", "()V"⟩, 25) := ⟨⟨by decide +kernel, by decide +kernel⟩, List.mem_of_getElem? (i := 712) (by decide +kernel), List.mem_of_getElem? (i := 843) (by decide +kernel), List.mem_of_getElem? (i := 844) (by decide +kernel)⟩
theorem lw_p59 : lw_okq (⟨"VineLawsModel", "isLetter", "(I)Z"⟩, 25) := ⟨⟨by decide +kernel, by decide +kernel⟩, List.mem_of_getElem? (i := 712) (by decide +kernel), List.mem_of_getElem? (i := 852) (by decide +kernel), List.mem_of_getElem? (i := 853) (by decide +kernel)⟩
theorem lw_p60 : lw_okq (⟨"VineLawsModel", "must", "(Z)V"⟩, 25) := ⟨⟨by decide +kernel, by decide +kernel⟩, List.mem_of_getElem? (i := 712) (by decide +kernel), List.mem_of_getElem? (i := 856) (by decide +kernel), List.mem_of_getElem? (i := 857) (by decide +kernel)⟩
theorem lw_p61 : lw_okq (⟨"VineLawsModel", "bad", "(I)V"⟩, 25) := ⟨⟨by decide +kernel, by decide +kernel⟩, List.mem_of_getElem? (i := 712) (by decide +kernel), List.mem_of_getElem? (i := 860) (by decide +kernel), List.mem_of_getElem? (i := 861) (by decide +kernel)⟩
theorem lw_p62 : lw_okq (⟨"VineLawsModel", "number", "(II)I"⟩, 25) := ⟨⟨by decide +kernel, by decide +kernel⟩, List.mem_of_getElem? (i := 712) (by decide +kernel), List.mem_of_getElem? (i := 864) (by decide +kernel), List.mem_of_getElem? (i := 865) (by decide +kernel)⟩
theorem lw_p63 : lw_okq (⟨"VineLawsModel", "mustSign", "(I)V"⟩, 25) := ⟨⟨by decide +kernel, by decide +kernel⟩, List.mem_of_getElem? (i := 712) (by decide +kernel), List.mem_of_getElem? (i := 868) (by decide +kernel), List.mem_of_getElem? (i := 869) (by decide +kernel)⟩
def lw_privs_4 : List (MethodName × Nat) := [(⟨"VineLaws", "standingInWind", "(I)I"⟩, 10), (⟨"VineLaws$Square", "tear", "(I)V"⟩, 8), (⟨"VineLaws$Square", "befall", "(I)V"⟩, 8), (⟨"VineLaws$Square", "leftOfAll", "()I"⟩, 8), (⟨"VineLaws", "imageAt", "(I)LVineLaws$Square;"⟩, 10), (⟨"VineLaws$Notes", "add", "(I)V"⟩, 2), (⟨"VineLaws$Notes", "at", "(I)I"⟩, 2), (⟨"VineLaws", "rowsThere", "()I"⟩, 10), (⟨"VineLawsModel", "finding", "(I)I"⟩, 25), (⟨"VineLawsModel", "begin", "()V"⟩, 25), (⟨"VineLawsModel", "nextToken", "()V"⟩, 25), (⟨"VineLawsModel", "isLetter", "(I)Z"⟩, 25), (⟨"VineLawsModel", "must", "(Z)V"⟩, 25), (⟨"VineLawsModel", "bad", "(I)V"⟩, 25), (⟨"VineLawsModel", "number", "(II)I"⟩, 25), (⟨"VineLawsModel", "mustSign", "(I)V"⟩, 25)]
theorem lw_r4 : ∀ q ∈ lw_privs_4, lw_okq q := List.forall_mem_cons.mpr ⟨lw_p48, List.forall_mem_cons.mpr ⟨lw_p49, List.forall_mem_cons.mpr ⟨lw_p50, List.forall_mem_cons.mpr ⟨lw_p51, List.forall_mem_cons.mpr ⟨lw_p52, List.forall_mem_cons.mpr ⟨lw_p53, List.forall_mem_cons.mpr ⟨lw_p54, List.forall_mem_cons.mpr ⟨lw_p55, List.forall_mem_cons.mpr ⟨lw_p56, List.forall_mem_cons.mpr ⟨lw_p57, List.forall_mem_cons.mpr ⟨lw_p58, List.forall_mem_cons.mpr ⟨lw_p59, List.forall_mem_cons.mpr ⟨lw_p60, List.forall_mem_cons.mpr ⟨lw_p61, List.forall_mem_cons.mpr ⟨lw_p62, List.forall_mem_cons.mpr ⟨lw_p63, fun _ h => absurd h List.not_mem_nil⟩⟩⟩⟩⟩⟩⟩⟩⟩⟩⟩⟩⟩⟩⟩⟩
theorem lw_p64 : lw_okq (⟨"VineLawsModel", "isSort", "()Z"⟩, 25) := ⟨⟨by decide +kernel, by decide +kernel⟩, List.mem_of_getElem? (i := 712) (by decide +kernel), List.mem_of_getElem? (i := 872) (by decide +kernel), List.mem_of_getElem? (i := 873) (by decide +kernel)⟩
theorem lw_p65 : lw_okq (⟨"VineLawsModel", "readLeaf", "()V"⟩, 25) := ⟨⟨by decide +kernel, by decide +kernel⟩, List.mem_of_getElem? (i := 712) (by decide +kernel), List.mem_of_getElem? (i := 879) (by decide +kernel), List.mem_of_getElem? (i := 880) (by decide +kernel)⟩
theorem lw_p66 : lw_okq (⟨"VineLawsModel", "readGoat", "()V"⟩, 25) := ⟨⟨by decide +kernel, by decide +kernel⟩, List.mem_of_getElem? (i := 712) (by decide +kernel), List.mem_of_getElem? (i := 883) (by decide +kernel), List.mem_of_getElem? (i := 884) (by decide +kernel)⟩
theorem lw_p67 : lw_okq (⟨"VineLawsModel", "failed", "()Z"⟩, 25) := ⟨⟨by decide +kernel, by decide +kernel⟩, List.mem_of_getElem? (i := 712) (by decide +kernel), List.mem_of_getElem? (i := 887) (by decide +kernel), List.mem_of_getElem? (i := 888) (by decide +kernel)⟩
theorem lw_p68 : lw_okq (⟨"VineLawsModel", "isThere", "()Z"⟩, 25) := ⟨⟨by decide +kernel, by decide +kernel⟩, List.mem_of_getElem? (i := 712) (by decide +kernel), List.mem_of_getElem? (i := 896) (by decide +kernel), List.mem_of_getElem? (i := 897) (by decide +kernel)⟩
theorem lw_p69 : lw_okq (⟨"VineLawsModel", "keep", "()V"⟩, 25) := ⟨⟨by decide +kernel, by decide +kernel⟩, List.mem_of_getElem? (i := 712) (by decide +kernel), List.mem_of_getElem? (i := 902) (by decide +kernel), List.mem_of_getElem? (i := 903) (by decide +kernel)⟩
theorem lw_p70 : lw_okq (⟨"VineLawsModel", "hour", "([I)I"⟩, 25) := ⟨⟨by decide +kernel, by decide +kernel⟩, List.mem_of_getElem? (i := 712) (by decide +kernel), List.mem_of_getElem? (i := 906) (by decide +kernel), List.mem_of_getElem? (i := 907) (by decide +kernel)⟩
theorem lw_p71 : lw_okq (⟨"VineLawsModel", "isLeaf", "(I)Z"⟩, 25) := ⟨⟨by decide +kernel, by decide +kernel⟩, List.mem_of_getElem? (i := 712) (by decide +kernel), List.mem_of_getElem? (i := 926) (by decide +kernel), List.mem_of_getElem? (i := 927) (by decide +kernel)⟩
theorem lw_p72 : lw_okq (⟨"VineLawsModel", "isGoat", "(I)Z"⟩, 25) := ⟨⟨by decide +kernel, by decide +kernel⟩, List.mem_of_getElem? (i := 712) (by decide +kernel), List.mem_of_getElem? (i := 943) (by decide +kernel), List.mem_of_getElem? (i := 944) (by decide +kernel)⟩
theorem lw_p73 : lw_okq (⟨"VineLawsModel", "layThen", "()V"⟩, 25) := ⟨⟨by decide +kernel, by decide +kernel⟩, List.mem_of_getElem? (i := 712) (by decide +kernel), List.mem_of_getElem? (i := 973) (by decide +kernel), List.mem_of_getElem? (i := 974) (by decide +kernel)⟩
theorem lw_p74 : lw_okq (⟨"VineLawsModel", "hoursOf", "([II)I"⟩, 25) := ⟨⟨by decide +kernel, by decide +kernel⟩, List.mem_of_getElem? (i := 712) (by decide +kernel), List.mem_of_getElem? (i := 977) (by decide +kernel), List.mem_of_getElem? (i := 978) (by decide +kernel)⟩
theorem lw_p75 : lw_okq (⟨"VineLawsModel", "biters", "(II)I"⟩, 25) := ⟨⟨by decide +kernel, by decide +kernel⟩, List.mem_of_getElem? (i := 712) (by decide +kernel), List.mem_of_getElem? (i := 1000) (by decide +kernel), List.mem_of_getElem? (i := 1001) (by decide +kernel)⟩
theorem lw_p76 : lw_okq (⟨"VineLawsModel", "areLeaves", "(I)Z"⟩, 25) := ⟨⟨by decide +kernel, by decide +kernel⟩, List.mem_of_getElem? (i := 712) (by decide +kernel), List.mem_of_getElem? (i := 1008) (by decide +kernel), List.mem_of_getElem? (i := 1009) (by decide +kernel)⟩
theorem lw_p77 : lw_okq (⟨"VineLawsModel", "layOff", "(II)V"⟩, 25) := ⟨⟨by decide +kernel, by decide +kernel⟩, List.mem_of_getElem? (i := 712) (by decide +kernel), List.mem_of_getElem? (i := 1027) (by decide +kernel), List.mem_of_getElem? (i := 1028) (by decide +kernel)⟩
theorem lw_p78 : lw_okq (⟨"VineLawsModel", "isSo", "(III)Z"⟩, 25) := ⟨⟨by decide +kernel, by decide +kernel⟩, List.mem_of_getElem? (i := 712) (by decide +kernel), List.mem_of_getElem? (i := 1048) (by decide +kernel), List.mem_of_getElem? (i := 1049) (by decide +kernel)⟩
theorem lw_p79 : lw_okq (⟨"VineLawsModel", "sizeOf", "(I)I"⟩, 25) := ⟨⟨by decide +kernel, by decide +kernel⟩, List.mem_of_getElem? (i := 712) (by decide +kernel), List.mem_of_getElem? (i := 1103) (by decide +kernel), List.mem_of_getElem? (i := 1104) (by decide +kernel)⟩
def lw_privs_5 : List (MethodName × Nat) := [(⟨"VineLawsModel", "isSort", "()Z"⟩, 25), (⟨"VineLawsModel", "readLeaf", "()V"⟩, 25), (⟨"VineLawsModel", "readGoat", "()V"⟩, 25), (⟨"VineLawsModel", "failed", "()Z"⟩, 25), (⟨"VineLawsModel", "isThere", "()Z"⟩, 25), (⟨"VineLawsModel", "keep", "()V"⟩, 25), (⟨"VineLawsModel", "hour", "([I)I"⟩, 25), (⟨"VineLawsModel", "isLeaf", "(I)Z"⟩, 25), (⟨"VineLawsModel", "isGoat", "(I)Z"⟩, 25), (⟨"VineLawsModel", "layThen", "()V"⟩, 25), (⟨"VineLawsModel", "hoursOf", "([II)I"⟩, 25), (⟨"VineLawsModel", "biters", "(II)I"⟩, 25), (⟨"VineLawsModel", "areLeaves", "(I)Z"⟩, 25), (⟨"VineLawsModel", "layOff", "(II)V"⟩, 25), (⟨"VineLawsModel", "isSo", "(III)Z"⟩, 25), (⟨"VineLawsModel", "sizeOf", "(I)I"⟩, 25)]
theorem lw_r5 : ∀ q ∈ lw_privs_5, lw_okq q := List.forall_mem_cons.mpr ⟨lw_p64, List.forall_mem_cons.mpr ⟨lw_p65, List.forall_mem_cons.mpr ⟨lw_p66, List.forall_mem_cons.mpr ⟨lw_p67, List.forall_mem_cons.mpr ⟨lw_p68, List.forall_mem_cons.mpr ⟨lw_p69, List.forall_mem_cons.mpr ⟨lw_p70, List.forall_mem_cons.mpr ⟨lw_p71, List.forall_mem_cons.mpr ⟨lw_p72, List.forall_mem_cons.mpr ⟨lw_p73, List.forall_mem_cons.mpr ⟨lw_p74, List.forall_mem_cons.mpr ⟨lw_p75, List.forall_mem_cons.mpr ⟨lw_p76, List.forall_mem_cons.mpr ⟨lw_p77, List.forall_mem_cons.mpr ⟨lw_p78, List.forall_mem_cons.mpr ⟨lw_p79, fun _ h => absurd h List.not_mem_nil⟩⟩⟩⟩⟩⟩⟩⟩⟩⟩⟩⟩⟩⟩⟩⟩
theorem lw_p80 : lw_okq (⟨"VineLawsModel", "bitterSize", "(I)I"⟩, 25) := ⟨⟨by decide +kernel, by decide +kernel⟩, List.mem_of_getElem? (i := 712) (by decide +kernel), List.mem_of_getElem? (i := 1107) (by decide +kernel), List.mem_of_getElem? (i := 1108) (by decide +kernel)⟩
theorem lw_p81 : lw_okq (⟨"VineLawsModel", "began", "(I)V"⟩, 25) := ⟨⟨by decide +kernel, by decide +kernel⟩, List.mem_of_getElem? (i := 712) (by decide +kernel), List.mem_of_getElem? (i := 1111) (by decide +kernel), List.mem_of_getElem? (i := 1112) (by decide +kernel)⟩
theorem lw_p82 : lw_okq (⟨"VineLawsModel", "plainSize", "(I)I"⟩, 25) := ⟨⟨by decide +kernel, by decide +kernel⟩, List.mem_of_getElem? (i := 712) (by decide +kernel), List.mem_of_getElem? (i := 1115) (by decide +kernel), List.mem_of_getElem? (i := 1116) (by decide +kernel)⟩
theorem lw_p83 : lw_okq (⟨"VineLawsModel", "markOf", "(I)I"⟩, 25) := ⟨⟨by decide +kernel, by decide +kernel⟩, List.mem_of_getElem? (i := 712) (by decide +kernel), List.mem_of_getElem? (i := 1119) (by decide +kernel), List.mem_of_getElem? (i := 1120) (by decide +kernel)⟩
def lw_privs_6 : List (MethodName × Nat) := [(⟨"VineLawsModel", "bitterSize", "(I)I"⟩, 25), (⟨"VineLawsModel", "began", "(I)V"⟩, 25), (⟨"VineLawsModel", "plainSize", "(I)I"⟩, 25), (⟨"VineLawsModel", "markOf", "(I)I"⟩, 25)]
theorem lw_r6 : ∀ q ∈ lw_privs_6, lw_okq q := List.forall_mem_cons.mpr ⟨lw_p80, List.forall_mem_cons.mpr ⟨lw_p81, List.forall_mem_cons.mpr ⟨lw_p82, List.forall_mem_cons.mpr ⟨lw_p83, fun _ h => absurd h List.not_mem_nil⟩⟩⟩⟩
def lw_privs : List (MethodName × Nat) := lw_privs_1 ++ (lw_privs_2 ++ (lw_privs_3 ++ (lw_privs_4 ++ (lw_privs_5 ++ (lw_privs_6)))))
def lw_tbl : List Cond := k2_sels lw_privs ++ tables_1
theorem lw_privs_ok : ∀ q ∈ lw_privs, lw_okq q := by
  show ∀ q ∈ lw_privs_1 ++ (lw_privs_2 ++ (lw_privs_3 ++ (lw_privs_4 ++ (lw_privs_5 ++ (lw_privs_6))))), lw_okq q
  exact List.forall_mem_append.mpr ⟨lw_r1, List.forall_mem_append.mpr ⟨lw_r2, List.forall_mem_append.mpr ⟨lw_r3, List.forall_mem_append.mpr ⟨lw_r4, List.forall_mem_append.mpr ⟨lw_r5, lw_r6⟩⟩⟩⟩⟩
def RX0 : String := "VineLaws$Goat"
def TX0 : u_T := fun k => match k with
  | 0 => ("VineLaws$Goat", "number", "I", true)
  | 1 => ("VineLaws$Goat", "hunger", "I", false)
  | 2 => ("VineLaws$Goat", "reach", "I", false)
  | 3 => ("VineLaws$Goat", "away", "I", false)
  | _ => ("VineLaws$Goat", "eaten", "I", false)
def tyX0 : Nat → FieldType := fun k => match k with
  | 0 => .int
  | 1 => .int
  | 2 => .int
  | 3 => .int
  | _ => .int
abbrev wsX00 : List Cond := u_ws RX0 TX0 5
theorem nmX0 : ∀ a, a < 5 → ∀ b, b < 5 → a ≠ b → (TX0 a).2.1 ≠ (TX0 b).2.1 := by decide +kernel
theorem tyX0_ok : ∀ k, k < 5 → parseFieldDescriptor (TX0 k).2.2.1 = some (tyX0 k) := by decide +kernel
abbrev cX0_init : ByteArray := prog_2_method_1_code
def yX0_init : MethodName := ⟨RX0, "<init>", "(I)V"⟩
abbrev cX0_take : ByteArray := prog_2_method_2_code
def yX0_take : MethodName := ⟨RX0, "take", "(LVineLaws$Goat;)V"⟩
abbrev cX0_isBiting : ByteArray := prog_2_method_3_code
def yX0_isBiting : MethodName := ⟨RX0, "isBiting", "()Z"⟩
abbrev cX0_swallow : ByteArray := prog_2_method_4_code
def yX0_swallow : MethodName := ⟨RX0, "swallow", "(I)V"⟩
abbrev cX0_endHour : ByteArray := prog_2_method_5_code
def yX0_endHour : MethodName := ⟨RX0, "endHour", "(I)V"⟩
def RX1 : String := "VineLaws$Leaf"
def TX1 : u_T := fun k => match k with
  | 0 => ("VineLaws$Leaf", "number", "I", true)
  | 1 => ("VineLaws$Leaf", "kind", "I", false)
  | 2 => ("VineLaws$Leaf", "size", "I", false)
  | 3 => ("VineLaws$Leaf", "height", "I", false)
  | 4 => ("VineLaws$Leaf", "taste", "I", false)
  | 5 => ("VineLaws$Leaf", "left", "I", false)
  | _ => ("VineLaws$Leaf", "biters", "I", false)
def tyX1 : Nat → FieldType := fun k => match k with
  | 0 => .int
  | 1 => .int
  | 2 => .int
  | 3 => .int
  | 4 => .int
  | 5 => .int
  | _ => .int
abbrev wsX10 : List Cond := u_ws RX1 TX1 7
theorem nmX1 : ∀ a, a < 7 → ∀ b, b < 7 → a ≠ b → (TX1 a).2.1 ≠ (TX1 b).2.1 := by decide +kernel
theorem tyX1_ok : ∀ k, k < 7 → parseFieldDescriptor (TX1 k).2.2.1 = some (tyX1 k) := by decide +kernel
abbrev cX1_init : ByteArray := prog_3_method_1_code
def yX1_init : MethodName := ⟨RX1, "<init>", "(I)V"⟩
abbrev cX1_take : ByteArray := prog_3_method_2_code
def yX1_take : MethodName := ⟨RX1, "take", "(LVineLaws$Leaf;)V"⟩
abbrev cX1_isVoid : ByteArray := prog_3_method_3_code
def yX1_isVoid : MethodName := ⟨RX1, "isVoid", "()Z"⟩
abbrev cX1_isInForce : ByteArray := prog_3_method_4_code
def yX1_isInForce : MethodName := ⟨RX1, "isInForce", "()Z"⟩
abbrev cX1_standing : ByteArray := prog_3_method_5_code
def yX1_standing : MethodName := ⟨RX1, "standing", "()I"⟩
abbrev cX1_liking : ByteArray := prog_3_method_6_code
def yX1_liking : MethodName := ⟨RX1, "liking", "(II)I"⟩
abbrev cX1_loseBite : ByteArray := prog_3_method_7_code
def yX1_loseBite : MethodName := ⟨RX1, "loseBite", "(I)I"⟩
abbrev cX1_become : ByteArray := prog_3_method_8_code
def yX1_become : MethodName := ⟨RX1, "become", "(II)V"⟩
def RX2 : String := "VineLaws$Notes"
def TX2 : u_T := fun k => match k with
  | 0 => ("VineLaws$Notes", "numbers", "[I", true)
  | _ => ("VineLaws$Notes", "length", "I", false)
def tyX2 : Nat → FieldType := fun k => match k with
  | 0 => .array .int
  | _ => .int
abbrev wsX20 : List Cond := u_ws RX2 TX2 2
theorem nmX2 : ∀ a, a < 2 → ∀ b, b < 2 → a ≠ b → (TX2 a).2.1 ≠ (TX2 b).2.1 := by decide +kernel
theorem tyX2_ok : ∀ k, k < 2 → parseFieldDescriptor (TX2 k).2.2.1 = some (tyX2 k) := by decide +kernel
abbrev cX2_init : ByteArray := prog_4_method_1_code
def yX2_init : MethodName := ⟨RX2, "<init>", "()V"⟩
abbrev cX2_add : ByteArray := prog_4_method_2_code
def yX2_add : MethodName := ⟨RX2, "add", "(I)V"⟩
abbrev cX2_at : ByteArray := prog_4_method_3_code
def yX2_at : MethodName := ⟨RX2, "at", "(I)I"⟩
def RX3 : String := "VineLaws$Past"
def TX3 : u_T := fun k => match k with
  | 0 => ("VineLaws$Past", "squares", "[LVineLaws$Square;", true)
  | 1 => ("VineLaws$Past", "next", "I", false)
  | _ => ("VineLaws$Past", "kept", "I", false)
def tyX3 : Nat → FieldType := fun k => match k with
  | 0 => .array (.object "VineLaws$Square")
  | 1 => .int
  | _ => .int
abbrev wsX30 : List Cond := u_ws RX3 TX3 3
theorem nmX3 : ∀ a, a < 3 → ∀ b, b < 3 → a ≠ b → (TX3 a).2.1 ≠ (TX3 b).2.1 := by decide +kernel
theorem tyX3_ok : ∀ k, k < 3 → parseFieldDescriptor (TX3 k).2.2.1 = some (tyX3 k) := by decide +kernel
abbrev cX3_init : ByteArray := prog_5_method_1_code
def yX3_init : MethodName := ⟨RX3, "<init>", "()V"⟩
abbrev cX3_forget : ByteArray := prog_5_method_2_code
def yX3_forget : MethodName := ⟨RX3, "forget", "()V"⟩
abbrev cX3_keep : ByteArray := prog_5_method_3_code
def yX3_keep : MethodName := ⟨RX3, "keep", "(LVineLaws$Square;)V"⟩
abbrev cX3_bringBack : ByteArray := prog_5_method_4_code
def yX3_bringBack : MethodName := ⟨RX3, "bringBack", "(LVineLaws$Square;)Z"⟩
def RX4 : String := "VineLaws$Row"
def TX4 : u_T := fun k => match k with
  | 0 => ("VineLaws$Row", "items", "[I", true)
  | 1 => ("VineLaws$Row", "there", "Z", false)
  | 2 => ("VineLaws$Row", "lane", "I", false)
  | _ => ("VineLaws$Row", "length", "I", false)
def tyX4 : Nat → FieldType := fun k => match k with
  | 0 => .array .int
  | 1 => .boolean
  | 2 => .int
  | _ => .int
abbrev wsX40 : List Cond := u_ws RX4 TX4 4
theorem nmX4 : ∀ a, a < 4 → ∀ b, b < 4 → a ≠ b → (TX4 a).2.1 ≠ (TX4 b).2.1 := by decide +kernel
theorem tyX4_ok : ∀ k, k < 4 → parseFieldDescriptor (TX4 k).2.2.1 = some (tyX4 k) := by decide +kernel
abbrev cX4_init : ByteArray := prog_6_method_1_code
def yX4_init : MethodName := ⟨RX4, "<init>", "()V"⟩
abbrev cX4_begin : ByteArray := prog_6_method_2_code
def yX4_begin : MethodName := ⟨RX4, "begin", "(II)V"⟩
abbrev cX4_hasPlaces : ByteArray := prog_6_method_3_code
def yX4_hasPlaces : MethodName := ⟨RX4, "hasPlaces", "(II)Z"⟩
abbrev cX4_at : ByteArray := prog_6_method_4_code
def yX4_at : MethodName := ⟨RX4, "at", "(I)I"⟩
abbrev cX4_put : ByteArray := prog_6_method_5_code
def yX4_put : MethodName := ⟨RX4, "put", "(II)I"⟩
def RX5 : String := "VineLaws$Square"
def TX5 : u_T := fun k => match k with
  | 0 => ("VineLaws$Square", "leaves", "[LVineLaws$Leaf;", true)
  | 1 => ("VineLaws$Square", "goats", "[LVineLaws$Goat;", true)
  | 2 => ("VineLaws$Square", "leafCount", "I", false)
  | 3 => ("VineLaws$Square", "goatCount", "I", false)
  | 4 => ("VineLaws$Square", "grows", "I", false)
  | 5 => ("VineLaws$Square", "salt", "I", false)
  | 6 => ("VineLaws$Square", "hour", "I", false)
  | _ => ("VineLaws$Square", "voided", "I", false)
def tyX5 : Nat → FieldType := fun k => match k with
  | 0 => .array (.object "VineLaws$Leaf")
  | 1 => .array (.object "VineLaws$Goat")
  | 2 => .int
  | 3 => .int
  | 4 => .int
  | 5 => .int
  | 6 => .int
  | _ => .int
abbrev wsX50 : List Cond := u_ws RX5 TX5 8
theorem nmX5 : ∀ a, a < 8 → ∀ b, b < 8 → a ≠ b → (TX5 a).2.1 ≠ (TX5 b).2.1 := by decide +kernel
theorem tyX5_ok : ∀ k, k < 8 → parseFieldDescriptor (TX5 k).2.2.1 = some (tyX5 k) := by decide +kernel
abbrev cX5_init : ByteArray := prog_7_method_1_code
def yX5_init : MethodName := ⟨RX5, "<init>", "()V"⟩
abbrev cX5_take : ByteArray := prog_7_method_2_code
def yX5_take : MethodName := ⟨RX5, "take", "(LVineLaws$Square;)V"⟩
abbrev cX5_clear : ByteArray := prog_7_method_3_code
def yX5_clear : MethodName := ⟨RX5, "clear", "()V"⟩
abbrev cX5_isThere : ByteArray := prog_7_method_4_code
def yX5_isThere : MethodName := ⟨RX5, "isThere", "()Z"⟩
abbrev cX5_leafAt : ByteArray := prog_7_method_5_code
def yX5_leafAt : MethodName := ⟨RX5, "leafAt", "(I)LVineLaws$Leaf;"⟩
abbrev cX5_goatAt : ByteArray := prog_7_method_6_code
def yX5_goatAt : MethodName := ⟨RX5, "goatAt", "(I)LVineLaws$Goat;"⟩
abbrev cX5_leafIn : ByteArray := prog_7_method_7_code
def yX5_leafIn : MethodName := ⟨RX5, "leafIn", "(LVineLaws$Square;I)LVineLaws$Leaf;"⟩
abbrev cX5_hasLeaves : ByteArray := prog_7_method_8_code
def yX5_hasLeaves : MethodName := ⟨RX5, "hasLeaves", "(I)Z"⟩
abbrev cX5_inForce : ByteArray := prog_7_method_9_code
def yX5_inForce : MethodName := ⟨RX5, "inForce", "()I"⟩
abbrev cX5_notVoid : ByteArray := prog_7_method_10_code
def yX5_notVoid : MethodName := ⟨RX5, "notVoid", "()I"⟩
abbrev cX5_leftOfAll : ByteArray := prog_7_method_11_code
def yX5_leftOfAll : MethodName := ⟨RX5, "leftOfAll", "()I"⟩
abbrev cX5_likesAlike : ByteArray := prog_7_method_12_code
def yX5_likesAlike : MethodName := ⟨RX5, "likesAlike", "(LVineLaws$Leaf;LVineLaws$Leaf;)Z"⟩
abbrev cX5_choiceOf : ByteArray := prog_7_method_13_code
def yX5_choiceOf : MethodName := ⟨RX5, "choiceOf", "(LVineLaws$Goat;)LVineLaws$Leaf;"⟩
abbrev cX5_letBite : ByteArray := prog_7_method_14_code
def yX5_letBite : MethodName := ⟨RX5, "letBite", "(LVineLaws$Goat;)I"⟩
abbrev cX5_passHour : ByteArray := prog_7_method_15_code
def yX5_passHour : MethodName := ⟨RX5, "passHour", "()I"⟩
abbrev cX5_passHours : ByteArray := prog_7_method_16_code
def yX5_passHours : MethodName := ⟨RX5, "passHours", "(I)V"⟩
abbrev cX5_keepsInForce : ByteArray := prog_7_method_17_code
def yX5_keepsInForce : MethodName := ⟨RX5, "keepsInForce", "(II)Z"⟩
abbrev cX5_goesAs : ByteArray := prog_7_method_18_code
def yX5_goesAs : MethodName := ⟨RX5, "goesAs", "(ILVineLaws$Row;II)Z"⟩
abbrev cX5_driveOff : ByteArray := prog_7_method_19_code
def yX5_driveOff : MethodName := ⟨RX5, "driveOff", "(II)V"⟩
abbrev cX5_hangOnTop : ByteArray := prog_7_method_20_code
def yX5_hangOnTop : MethodName := ⟨RX5, "hangOnTop", "(I)V"⟩
abbrev cX5_tear : ByteArray := prog_7_method_21_code
def yX5_tear : MethodName := ⟨RX5, "tear", "(I)V"⟩
abbrev cX5_befall : ByteArray := prog_7_method_22_code
def yX5_befall : MethodName := ⟨RX5, "befall", "(I)V"⟩
def RX6 : String := "VineLaws$Tape"
def TX6 : u_T := fun k => match k with
  | 0 => ("VineLaws$Tape", "bytes", "[I", true)
  | 1 => ("VineLaws$Tape", "length", "I", false)
  | 2 => ("VineLaws$Tape", "place", "I", false)
  | 3 => ("VineLaws$Tape", "behind", "I", false)
  | 4 => ("VineLaws$Tape", "token", "I", false)
  | 5 => ("VineLaws$Tape", "value", "I", false)
  | _ => ("VineLaws$Tape", "wrong", "I", false)
def tyX6 : Nat → FieldType := fun k => match k with
  | 0 => .array .int
  | 1 => .int
  | 2 => .int
  | 3 => .int
  | 4 => .int
  | 5 => .int
  | _ => .int
abbrev wsX60 : List Cond := u_ws RX6 TX6 7
theorem nmX6 : ∀ a, a < 7 → ∀ b, b < 7 → a ≠ b → (TX6 a).2.1 ≠ (TX6 b).2.1 := by decide +kernel
theorem tyX6_ok : ∀ k, k < 7 → parseFieldDescriptor (TX6 k).2.2.1 = some (tyX6 k) := by decide +kernel
abbrev cX6_init : ByteArray := prog_8_method_1_code
def yX6_init : MethodName := ⟨RX6, "<init>", "()V"⟩
abbrev cX6_add : ByteArray := prog_8_method_2_code
def yX6_add : MethodName := ⟨RX6, "add", "(I)Z"⟩
abbrev cX6_readInto : ByteArray := prog_8_method_3_code
def yX6_readInto : MethodName := ⟨RX6, "readInto", "(LVineLaws$Square;)Z"⟩
abbrev cX6_readLeaf : ByteArray := prog_8_method_4_code
def yX6_readLeaf : MethodName := ⟨RX6, "readLeaf", "(LVineLaws$Square;)V"⟩
abbrev cX6_readGoat : ByteArray := prog_8_method_5_code
def yX6_readGoat : MethodName := ⟨RX6, "readGoat", "(LVineLaws$Square;)V"⟩
abbrev cX6_sortOf : ByteArray := prog_8_method_6_code
def yX6_sortOf : MethodName := ⟨RX6, "sortOf", "(I)I"⟩
abbrev cX6_takeSign : ByteArray := prog_8_method_7_code
def yX6_takeSign : MethodName := ⟨RX6, "takeSign", "(I)V"⟩
abbrev cX6_takeNumber : ByteArray := prog_8_method_8_code
def yX6_takeNumber : MethodName := ⟨RX6, "takeNumber", "(II)I"⟩
abbrev cX6_advance : ByteArray := prog_8_method_9_code
def yX6_advance : MethodName := ⟨RX6, "advance", "()V"⟩
abbrev cX6_byteAt : ByteArray := prog_8_method_10_code
def yX6_byteAt : MethodName := ⟨RX6, "byteAt", "(I)I"⟩
def RX7 : String := "VineLaws"
def TX7 : u_T := fun k => match k with
  | 0 => ("VineLaws", "rows", "[LVineLaws$Row;", true)
  | 1 => ("VineLaws", "tape", "LVineLaws$Tape;", true)
  | 2 => ("VineLaws", "past", "LVineLaws$Past;", true)
  | 3 => ("VineLaws", "notes", "LVineLaws$Notes;", true)
  | 4 => ("VineLaws", "now", "LVineLaws$Square;", true)
  | 5 => ("VineLaws", "trial", "LVineLaws$Square;", true)
  | 6 => ("VineLaws", "firstImage", "LVineLaws$Square;", true)
  | 7 => ("VineLaws", "secondImage", "LVineLaws$Square;", true)
  | 8 => ("VineLaws", "finding", "I", false)
  | _ => ("VineLaws", "latestFault", "I", false)
def tyX7 : Nat → FieldType := fun k => match k with
  | 0 => .array (.object "VineLaws$Row")
  | 1 => .object "VineLaws$Tape"
  | 2 => .object "VineLaws$Past"
  | 3 => .object "VineLaws$Notes"
  | 4 => .object "VineLaws$Square"
  | 5 => .object "VineLaws$Square"
  | 6 => .object "VineLaws$Square"
  | 7 => .object "VineLaws$Square"
  | 8 => .int
  | _ => .int
abbrev wsX70 : List Cond := u_ws RX7 TX7 10
theorem nmX7 : ∀ a, a < 10 → ∀ b, b < 10 → a ≠ b → (TX7 a).2.1 ≠ (TX7 b).2.1 := by decide +kernel
theorem tyX7_ok : ∀ k, k < 10 → parseFieldDescriptor (TX7 k).2.2.1 = some (tyX7 k) := by decide +kernel
abbrev cX7_init : ByteArray := prog_1_method_1_code
def yX7_init : MethodName := ⟨RX7, "<init>", "()V"⟩
abbrev cX7_row : ByteArray := prog_1_method_2_code
def yX7_row : MethodName := ⟨RX7, "row", "(III)I"⟩
abbrev cX7_set : ByteArray := prog_1_method_3_code
def yX7_set : MethodName := ⟨RX7, "set", "(III)I"⟩
abbrev cX7_copy : ByteArray := prog_1_method_4_code
def yX7_copy : MethodName := ⟨RX7, "copy", "(IIIII)I"⟩
abbrev cX7_drop : ByteArray := prog_1_method_5_code
def yX7_drop : MethodName := ⟨RX7, "drop", "(I)I"⟩
abbrev cX7_feed : ByteArray := prog_1_method_6_code
def yX7_feed : MethodName := ⟨RX7, "feed", "(I)I"⟩
abbrev cX7_square : ByteArray := prog_1_method_7_code
def yX7_square : MethodName := ⟨RX7, "square", "()I"⟩
abbrev cX7_fault : ByteArray := prog_1_method_8_code
def yX7_fault : MethodName := ⟨RX7, "fault", "()I"⟩
abbrev cX7_undo : ByteArray := prog_1_method_9_code
def yX7_undo : MethodName := ⟨RX7, "undo", "()I"⟩
abbrev cX7_hours : ByteArray := prog_1_method_10_code
def yX7_hours : MethodName := ⟨RX7, "hours", "(I)I"⟩
abbrev cX7_hang : ByteArray := prog_1_method_11_code
def yX7_hang : MethodName := ⟨RX7, "hang", "(II)I"⟩
abbrev cX7_salt : ByteArray := prog_1_method_12_code
def yX7_salt : MethodName := ⟨RX7, "salt", "(I)I"⟩
abbrev cX7_transcribe : ByteArray := prog_1_method_13_code
def yX7_transcribe : MethodName := ⟨RX7, "transcribe", "(I)I"⟩
abbrev cX7_drive : ByteArray := prog_1_method_14_code
def yX7_drive : MethodName := ⟨RX7, "drive", "(II)I"⟩
abbrev cX7_fodder : ByteArray := prog_1_method_15_code
def yX7_fodder : MethodName := ⟨RX7, "fodder", "(I)I"⟩
abbrev cX7_leaf : ByteArray := prog_1_method_16_code
def yX7_leaf : MethodName := ⟨RX7, "leaf", "(II)I"⟩
abbrev cX7_goat : ByteArray := prog_1_method_17_code
def yX7_goat : MethodName := ⟨RX7, "goat", "(II)I"⟩
abbrev cX7_ahead : ByteArray := prog_1_method_18_code
def yX7_ahead : MethodName := ⟨RX7, "ahead", "(II)I"⟩
abbrev cX7_force : ByteArray := prog_1_method_19_code
def yX7_force : MethodName := ⟨RX7, "force", "(I)I"⟩
abbrev cX7_emptied : ByteArray := prog_1_method_20_code
def yX7_emptied : MethodName := ⟨RX7, "emptied", "(I)I"⟩
abbrev cX7_eats : ByteArray := prog_1_method_21_code
def yX7_eats : MethodName := ⟨RX7, "eats", "(II)I"⟩
abbrev cX7_guilt : ByteArray := prog_1_method_22_code
def yX7_guilt : MethodName := ⟨RX7, "guilt", "(II)I"⟩
abbrev cX7_gap : ByteArray := prog_1_method_23_code
def yX7_gap : MethodName := ⟨RX7, "gap", "(I)I"⟩
abbrev cX7_hangs : ByteArray := prog_1_method_24_code
def yX7_hangs : MethodName := ⟨RX7, "hangs", "(III)I"⟩
abbrev cX7_drives : ByteArray := prog_1_method_25_code
def yX7_drives : MethodName := ⟨RX7, "drives", "(III)I"⟩
abbrev cX7_harm : ByteArray := prog_1_method_26_code
def yX7_harm : MethodName := ⟨RX7, "harm", "(II)I"⟩
abbrev cX7_bait : ByteArray := prog_1_method_27_code
def yX7_bait : MethodName := ⟨RX7, "bait", "(III)I"⟩
abbrev cX7_safeHeight : ByteArray := prog_1_method_28_code
def yX7_safeHeight : MethodName := ⟨RX7, "safeHeight", "(II)I"⟩
abbrev cX7_who : ByteArray := prog_1_method_29_code
def yX7_who : MethodName := ⟨RX7, "who", "(IIIIII)I"⟩
abbrev cX7_strayed : ByteArray := prog_1_method_30_code
def yX7_strayed : MethodName := ⟨RX7, "strayed", "(IIII)I"⟩
abbrev cX7_rivals : ByteArray := prog_1_method_31_code
def yX7_rivals : MethodName := ⟨RX7, "rivals", "(I)I"⟩
abbrev cX7_wind : ByteArray := prog_1_method_32_code
def yX7_wind : MethodName := ⟨RX7, "wind", "(III)J"⟩
abbrev cX7_drawn : ByteArray := prog_1_method_33_code
def yX7_drawn : MethodName := ⟨RX7, "drawn", "(III)I"⟩
abbrev cX7_image : ByteArray := prog_1_method_34_code
def yX7_image : MethodName := ⟨RX7, "image", "(I)I"⟩
abbrev cX7_restore : ByteArray := prog_1_method_35_code
def yX7_restore : MethodName := ⟨RX7, "restore", "(I)I"⟩
abbrev cX7_kind : ByteArray := prog_1_method_36_code
def yX7_kind : MethodName := ⟨RX7, "kind", "(I)I"⟩
abbrev cX7_as : ByteArray := prog_1_method_37_code
def yX7_as : MethodName := ⟨RX7, "as", "(II)I"⟩
abbrev cX7_ask : ByteArray := prog_1_method_38_code
def yX7_ask : MethodName := ⟨RX7, "ask", "(II)I"⟩
abbrev cX7_trace : ByteArray := prog_1_method_39_code
def yX7_trace : MethodName := ⟨RX7, "trace", "(I)I"⟩
abbrev cX7_count : ByteArray := prog_1_method_40_code
def yX7_count : MethodName := ⟨RX7, "count", "(I)I"⟩
abbrev cX7_status : ByteArray := prog_1_method_41_code
def yX7_status : MethodName := ⟨RX7, "status", "()I"⟩
abbrev cX7_isWithin : ByteArray := prog_1_method_42_code
def yX7_isWithin : MethodName := ⟨RX7, "isWithin", "(III)Z"⟩
abbrev cX7_found : ByteArray := prog_1_method_43_code
def yX7_found : MethodName := ⟨RX7, "found", "(I)I"⟩
abbrev cX7_rowAt : ByteArray := prog_1_method_44_code
def yX7_rowAt : MethodName := ⟨RX7, "rowAt", "(I)LVineLaws$Row;"⟩
abbrev cX7_rowsThere : ByteArray := prog_1_method_45_code
def yX7_rowsThere : MethodName := ⟨RX7, "rowsThere", "()I"⟩
abbrev cX7_imageAt : ByteArray := prog_1_method_46_code
def yX7_imageAt : MethodName := ⟨RX7, "imageAt", "(I)LVineLaws$Square;"⟩
abbrev cX7_fewest : ByteArray := prog_1_method_47_code
def yX7_fewest : MethodName := ⟨RX7, "fewest", "(IZII)I"⟩
abbrev cX7_leftByBait : ByteArray := prog_1_method_48_code
def yX7_leftByBait : MethodName := ⟨RX7, "leftByBait", "(III)I"⟩
abbrev cX7_standingInWind : ByteArray := prog_1_method_49_code
def yX7_standingInWind : MethodName := ⟨RX7, "standingInWind", "(I)I"⟩
abbrev cX7_power : ByteArray := prog_1_method_50_code
def yX7_power : MethodName := ⟨RX7, "power", "(II)J"⟩
abbrev cX7_commonDivisor : ByteArray := prog_1_method_51_code
def yX7_commonDivisor : MethodName := ⟨RX7, "commonDivisor", "(JJ)J"⟩
abbrev cX7_broader : ByteArray := prog_1_method_52_code
def yX7_broader : MethodName := ⟨RX7, "broader", "(I)I"⟩
abbrev cX7_bodyOf : ByteArray := prog_1_method_53_code
def yX7_bodyOf : MethodName := ⟨RX7, "bodyOf", "(II)I"⟩
abbrev cX7_give : ByteArray := prog_1_method_54_code
def yX7_give : MethodName := ⟨RX7, "give", "(ILVineLaws$Leaf;LVineLaws$Notes;I)I"⟩
def RX8 : String := "VineLawsModel"
def TX8 : u_T := fun k => match k with
  | 0 => ("VineLawsModel", "thrown", "I", false)
  | 1 => ("VineLawsModel", "status", "I", false)
  | 2 => ("VineLawsModel", "lane", "[I", true)
  | 3 => ("VineLawsModel", "many", "[I", true)
  | 4 => ("VineLawsModel", "item", "[I", true)
  | 5 => ("VineLawsModel", "square", "[I", true)
  | 6 => ("VineLawsModel", "fresh", "[I", true)
  | 7 => ("VineLawsModel", "then", "[I", true)
  | 8 => ("VineLawsModel", "was", "[I", true)
  | 9 => ("VineLawsModel", "acts", "I", false)
  | 10 => ("VineLawsModel", "tape", "[I", true)
  | 11 => ("VineLawsModel", "taped", "I", false)
  | 12 => ("VineLawsModel", "cursor", "I", false)
  | 13 => ("VineLawsModel", "start", "I", false)
  | 14 => ("VineLawsModel", "token", "I", false)
  | 15 => ("VineLawsModel", "value", "I", false)
  | 16 => ("VineLawsModel", "fault", "I", false)
  | 17 => ("VineLawsModel", "faultAt", "I", false)
  | 18 => ("VineLawsModel", "latest", "I", false)
  | 19 => ("VineLawsModel", "bites", "[I", true)
  | 20 => ("VineLawsModel", "much", "[I", true)
  | 21 => ("VineLawsModel", "isKept", "[Z", true)
  | 22 => ("VineLawsModel", "kept", "[I", true)
  | 23 => ("VineLawsModel", "trace", "[I", true)
  | _ => ("VineLawsModel", "traced", "I", false)
def tyX8 : Nat → FieldType := fun k => match k with
  | 0 => .int
  | 1 => .int
  | 2 => .array .int
  | 3 => .array .int
  | 4 => .array .int
  | 5 => .array .int
  | 6 => .array .int
  | 7 => .array .int
  | 8 => .array .int
  | 9 => .int
  | 10 => .array .int
  | 11 => .int
  | 12 => .int
  | 13 => .int
  | 14 => .int
  | 15 => .int
  | 16 => .int
  | 17 => .int
  | 18 => .int
  | 19 => .array .int
  | 20 => .array .int
  | 21 => .array .boolean
  | 22 => .array .int
  | 23 => .array .int
  | _ => .int
abbrev wsX80 : List Cond := u_ws RX8 TX8 25
theorem nmX8 : ∀ a, a < 25 → ∀ b, b < 25 → a ≠ b → (TX8 a).2.1 ≠ (TX8 b).2.1 := by decide +kernel
theorem tyX8_ok : ∀ k, k < 25 → parseFieldDescriptor (TX8 k).2.2.1 = some (tyX8 k) := by decide +kernel
abbrev cX8_init : ByteArray := prog_10_method_1_code
def yX8_init : MethodName := ⟨RX8, "<init>", "()V"⟩
abbrev cX8_in : ByteArray := prog_10_method_3_code
def yX8_in : MethodName := ⟨RX8, "in", "(JJJ)Z"⟩
abbrev cX8_finding : ByteArray := prog_10_method_4_code
def yX8_finding : MethodName := ⟨RX8, "finding", "(I)I"⟩
abbrev cX8_isRow : ByteArray := prog_10_method_5_code
def yX8_isRow : MethodName := ⟨RX8, "isRow", "(I)Z"⟩
abbrev cX8_row : ByteArray := prog_10_method_6_code
def yX8_row : MethodName := ⟨RX8, "row", "(III)I"⟩
abbrev cX8_set : ByteArray := prog_10_method_7_code
def yX8_set : MethodName := ⟨RX8, "set", "(III)I"⟩
abbrev cX8_copy : ByteArray := prog_10_method_8_code
def yX8_copy : MethodName := ⟨RX8, "copy", "(IIIII)I"⟩
abbrev cX8_drop : ByteArray := prog_10_method_9_code
def yX8_drop : MethodName := ⟨RX8, "drop", "(I)I"⟩
abbrev cX8_feed : ByteArray := prog_10_method_10_code
def yX8_feed : MethodName := ⟨RX8, "feed", "(I)I"⟩
abbrev cX8_bad : ByteArray := prog_10_method_11_code
def yX8_bad : MethodName := ⟨RX8, "bad", "(I)V"⟩
abbrev cX8_nextToken : ByteArray := prog_10_method_12_code
def yX8_nextToken : MethodName := ⟨RX8, "nextToken", "()V"⟩
abbrev cX8_must : ByteArray := prog_10_method_13_code
def yX8_must : MethodName := ⟨RX8, "must", "(Z)V"⟩
abbrev cX8_isLetter : ByteArray := prog_10_method_14_code
def yX8_isLetter : MethodName := ⟨RX8, "isLetter", "(I)Z"⟩
abbrev cX8_number : ByteArray := prog_10_method_15_code
def yX8_number : MethodName := ⟨RX8, "number", "(II)I"⟩
abbrev cX8_mustSign : ByteArray := prog_10_method_16_code
def yX8_mustSign : MethodName := ⟨RX8, "mustSign", "(I)V"⟩
abbrev cX8_begin : ByteArray := prog_10_method_17_code
def yX8_begin : MethodName := ⟨RX8, "begin", "()V"⟩
abbrev cX8_failed : ByteArray := prog_10_method_18_code
def yX8_failed : MethodName := ⟨RX8, "failed", "()Z"⟩
abbrev cX8_fault : ByteArray := prog_10_method_19_code
def yX8_fault : MethodName := ⟨RX8, "fault", "()I"⟩
abbrev cX8_kindBy : ByteArray := prog_10_method_20_code
def yX8_kindBy : MethodName := ⟨RX8, "kindBy", "(I)I"⟩
abbrev cX8_isSort : ByteArray := prog_10_method_21_code
def yX8_isSort : MethodName := ⟨RX8, "isSort", "()Z"⟩
abbrev cX8_readLeaf : ByteArray := prog_10_method_22_code
def yX8_readLeaf : MethodName := ⟨RX8, "readLeaf", "()V"⟩
abbrev cX8_readGoat : ByteArray := prog_10_method_23_code
def yX8_readGoat : MethodName := ⟨RX8, "readGoat", "()V"⟩
abbrev cX8_square : ByteArray := prog_10_method_24_code
def yX8_square : MethodName := ⟨RX8, "square", "()I"⟩
abbrev cX8_isThere : ByteArray := prog_10_method_25_code
def yX8_isThere : MethodName := ⟨RX8, "isThere", "()Z"⟩
abbrev cX8_isLeaf : ByteArray := prog_10_method_26_code
def yX8_isLeaf : MethodName := ⟨RX8, "isLeaf", "(I)Z"⟩
abbrev cX8_isGoat : ByteArray := prog_10_method_27_code
def yX8_isGoat : MethodName := ⟨RX8, "isGoat", "(I)Z"⟩
abbrev cX8_areLeaves : ByteArray := prog_10_method_28_code
def yX8_areLeaves : MethodName := ⟨RX8, "areLeaves", "(I)Z"⟩
abbrev cX8_bits : ByteArray := prog_10_method_29_code
def yX8_bits : MethodName := ⟨RX8, "bits", "(I)I"⟩
abbrev cX8_has : ByteArray := prog_10_method_30_code
def yX8_has : MethodName := ⟨RX8, "has", "(II)Z"⟩
abbrev cX8_of : ByteArray := prog_10_method_31_code
def yX8_of : MethodName := ⟨RX8, "of", "([III)I"⟩
abbrev cX8_its : ByteArray := prog_10_method_32_code
def yX8_its : MethodName := ⟨RX8, "its", "([III)I"⟩
abbrev cX8_liked : ByteArray := prog_10_method_33_code
def yX8_liked : MethodName := ⟨RX8, "liked", "([II)I"⟩
abbrev cX8_bitten : ByteArray := prog_10_method_34_code
def yX8_bitten : MethodName := ⟨RX8, "bitten", "([II)I"⟩
abbrev cX8_hour : ByteArray := prog_10_method_35_code
def yX8_hour : MethodName := ⟨RX8, "hour", "([I)I"⟩
abbrev cX8_hoursOf : ByteArray := prog_10_method_36_code
def yX8_hoursOf : MethodName := ⟨RX8, "hoursOf", "([II)I"⟩
abbrev cX8_isForce : ByteArray := prog_10_method_37_code
def yX8_isForce : MethodName := ⟨RX8, "isForce", "([II)Z"⟩
abbrev cX8_forced : ByteArray := prog_10_method_38_code
def yX8_forced : MethodName := ⟨RX8, "forced", "([I)I"⟩
abbrev cX8_leftOf : ByteArray := prog_10_method_39_code
def yX8_leftOf : MethodName := ⟨RX8, "leftOf", "([I)I"⟩
abbrev cX8_layThen : ByteArray := prog_10_method_40_code
def yX8_layThen : MethodName := ⟨RX8, "layThen", "()V"⟩
abbrev cX8_layOff : ByteArray := prog_10_method_41_code
def yX8_layOff : MethodName := ⟨RX8, "layOff", "(II)V"⟩
abbrev cX8_keep : ByteArray := prog_10_method_42_code
def yX8_keep : MethodName := ⟨RX8, "keep", "()V"⟩
abbrev cX8_hours : ByteArray := prog_10_method_43_code
def yX8_hours : MethodName := ⟨RX8, "hours", "(I)I"⟩
abbrev cX8_hang : ByteArray := prog_10_method_44_code
def yX8_hang : MethodName := ⟨RX8, "hang", "(II)I"⟩
abbrev cX8_salt : ByteArray := prog_10_method_45_code
def yX8_salt : MethodName := ⟨RX8, "salt", "(I)I"⟩
abbrev cX8_transcribe : ByteArray := prog_10_method_46_code
def yX8_transcribe : MethodName := ⟨RX8, "transcribe", "(I)I"⟩
abbrev cX8_drive : ByteArray := prog_10_method_47_code
def yX8_drive : MethodName := ⟨RX8, "drive", "(II)I"⟩
abbrev cX8_fodder : ByteArray := prog_10_method_48_code
def yX8_fodder : MethodName := ⟨RX8, "fodder", "(I)I"⟩
abbrev cX8_undo : ByteArray := prog_10_method_49_code
def yX8_undo : MethodName := ⟨RX8, "undo", "()I"⟩
abbrev cX8_leaf : ByteArray := prog_10_method_50_code
def yX8_leaf : MethodName := ⟨RX8, "leaf", "(II)I"⟩
abbrev cX8_goat : ByteArray := prog_10_method_51_code
def yX8_goat : MethodName := ⟨RX8, "goat", "(II)I"⟩
abbrev cX8_ahead : ByteArray := prog_10_method_52_code
def yX8_ahead : MethodName := ⟨RX8, "ahead", "(II)I"⟩
abbrev cX8_force : ByteArray := prog_10_method_53_code
def yX8_force : MethodName := ⟨RX8, "force", "(I)I"⟩
abbrev cX8_emptied : ByteArray := prog_10_method_54_code
def yX8_emptied : MethodName := ⟨RX8, "emptied", "(I)I"⟩
abbrev cX8_eats : ByteArray := prog_10_method_55_code
def yX8_eats : MethodName := ⟨RX8, "eats", "(II)I"⟩
abbrev cX8_biters : ByteArray := prog_10_method_56_code
def yX8_biters : MethodName := ⟨RX8, "biters", "(II)I"⟩
abbrev cX8_guilt : ByteArray := prog_10_method_57_code
def yX8_guilt : MethodName := ⟨RX8, "guilt", "(II)I"⟩
abbrev cX8_gap : ByteArray := prog_10_method_58_code
def yX8_gap : MethodName := ⟨RX8, "gap", "(I)I"⟩
abbrev cX8_hangs : ByteArray := prog_10_method_59_code
def yX8_hangs : MethodName := ⟨RX8, "hangs", "(III)I"⟩
abbrev cX8_drives : ByteArray := prog_10_method_60_code
def yX8_drives : MethodName := ⟨RX8, "drives", "(III)I"⟩
abbrev cX8_harm : ByteArray := prog_10_method_61_code
def yX8_harm : MethodName := ⟨RX8, "harm", "(II)I"⟩
abbrev cX8_bait : ByteArray := prog_10_method_62_code
def yX8_bait : MethodName := ⟨RX8, "bait", "(III)I"⟩
abbrev cX8_safeHeight : ByteArray := prog_10_method_63_code
def yX8_safeHeight : MethodName := ⟨RX8, "safeHeight", "(II)I"⟩
abbrev cX8_isSo : ByteArray := prog_10_method_64_code
def yX8_isSo : MethodName := ⟨RX8, "isSo", "(III)Z"⟩
abbrev cX8_who : ByteArray := prog_10_method_65_code
def yX8_who : MethodName := ⟨RX8, "who", "(IIIIII)I"⟩
abbrev cX8_strayed : ByteArray := prog_10_method_66_code
def yX8_strayed : MethodName := ⟨RX8, "strayed", "(IIII)I"⟩
abbrev cX8_rivals : ByteArray := prog_10_method_67_code
def yX8_rivals : MethodName := ⟨RX8, "rivals", "(I)I"⟩
abbrev cX8_wind : ByteArray := prog_10_method_68_code
def yX8_wind : MethodName := ⟨RX8, "wind", "(III)J"⟩
abbrev cX8_voids : ByteArray := prog_10_method_69_code
def yX8_voids : MethodName := ⟨RX8, "voids", "([I)I"⟩
abbrev cX8_drawn : ByteArray := prog_10_method_70_code
def yX8_drawn : MethodName := ⟨RX8, "drawn", "(III)I"⟩
abbrev cX8_image : ByteArray := prog_10_method_71_code
def yX8_image : MethodName := ⟨RX8, "image", "(I)I"⟩
abbrev cX8_restore : ByteArray := prog_10_method_72_code
def yX8_restore : MethodName := ⟨RX8, "restore", "(I)I"⟩
abbrev cX8_isOf : ByteArray := prog_10_method_73_code
def yX8_isOf : MethodName := ⟨RX8, "isOf", "(II)Z"⟩
abbrev cX8_kind : ByteArray := prog_10_method_74_code
def yX8_kind : MethodName := ⟨RX8, "kind", "(I)I"⟩
abbrev cX8_as : ByteArray := prog_10_method_75_code
def yX8_as : MethodName := ⟨RX8, "as", "(II)I"⟩
abbrev cX8_began : ByteArray := prog_10_method_76_code
def yX8_began : MethodName := ⟨RX8, "began", "(I)V"⟩
abbrev cX8_plainSize : ByteArray := prog_10_method_77_code
def yX8_plainSize : MethodName := ⟨RX8, "plainSize", "(I)I"⟩
abbrev cX8_bitterSize : ByteArray := prog_10_method_78_code
def yX8_bitterSize : MethodName := ⟨RX8, "bitterSize", "(I)I"⟩
abbrev cX8_markOf : ByteArray := prog_10_method_79_code
def yX8_markOf : MethodName := ⟨RX8, "markOf", "(I)I"⟩
abbrev cX8_sizeOf : ByteArray := prog_10_method_80_code
def yX8_sizeOf : MethodName := ⟨RX8, "sizeOf", "(I)I"⟩
abbrev cX8_ask : ByteArray := prog_10_method_81_code
def yX8_ask : MethodName := ⟨RX8, "ask", "(II)I"⟩
abbrev cX8_trace : ByteArray := prog_10_method_82_code
def yX8_trace : MethodName := ⟨RX8, "trace", "(I)I"⟩
abbrev cX8_count : ByteArray := prog_10_method_83_code
def yX8_count : MethodName := ⟨RX8, "count", "(I)I"⟩
abbrev cX8_status : ByteArray := prog_10_method_84_code
def yX8_status : MethodName := ⟨RX8, "status", "()I"⟩
def RJ6 : String := "java/lang/Integer"
def TJ6 : u_T := fun k => match k with
  | _ => ("", "", "", false)
def tyJ6 : Nat → FieldType := fun k => match k with
  | _ => .int
abbrev cJ6_bitCount_0f7a4 : ByteArray := prog_11_method_49_code
def yJ6_bitCount_0f7a4 : MethodName := ⟨RJ6, "bitCount", "(I)I"⟩
def RJ9 : String := "java/lang/Math"
def TJ9 : u_T := fun k => match k with
  | _ => ("", "", "", false)
def tyJ9 : Nat → FieldType := fun k => match k with
  | _ => .int
abbrev cJ9_max_7cf53 : ByteArray := prog_12_method_65_code
def yJ9_max_7cf53 : MethodName := ⟨RJ9, "max", "(II)I"⟩
abbrev cJ9_min_7cf53 : ByteArray := prog_12_method_69_code
def yJ9_min_7cf53 : MethodName := ⟨RJ9, "min", "(II)I"⟩
def RJ10 : String := "java/lang/System"
def TJ10 : u_T := fun k => match k with
  | _ => ("", "", "", false)
def tyJ10 : Nat → FieldType := fun k => match k with
  | _ => .int
def RL : String := "VineLawsLaw"
abbrev cL_law : ByteArray := code
def yL_law : MethodName := ⟨RL, "law", "([I)Z"⟩
abbrev vwCl : List vw_C := [(RX0, TX0, 5), (RX1, TX1, 7), (RX2, TX2, 2), (RX3, TX3, 3), (RX4, TX4, 4), (RX5, TX5, 8), (RX6, TX6, 7), (RX7, TX7, 10), (RX8, TX8, 25)]
end
section
theorem dX0_init_0 : decode cX0_init 0 = .ok (.aload_n 0, 1) := by decide +kernel
theorem dX0_init_1 : decode cX0_init 1 = .ok (.invokespecial 3, 3) := by decide +kernel
theorem dX0_init_4 : decode cX0_init 4 = .ok (.aload_n 0, 1) := by decide +kernel
theorem dX0_init_5 : decode cX0_init 5 = .ok (.iload_n 1, 1) := by decide +kernel
theorem dX0_init_6 : decode cX0_init 6 = .ok (.putfield 9, 3) := by decide +kernel
theorem dX0_init_9 : decode cX0_init 9 = .ok (.return_, 1) := by decide +kernel
theorem dX0_take_0 : decode cX0_take 0 = .ok (.aload_n 0, 1) := by decide +kernel
theorem dX0_take_1 : decode cX0_take 1 = .ok (.aload_n 1, 1) := by decide +kernel
theorem dX0_take_2 : decode cX0_take 2 = .ok (.getfield 15, 3) := by decide +kernel
theorem dX0_take_5 : decode cX0_take 5 = .ok (.putfield 15, 3) := by decide +kernel
theorem dX0_take_8 : decode cX0_take 8 = .ok (.aload_n 0, 1) := by decide +kernel
theorem dX0_take_9 : decode cX0_take 9 = .ok (.aload_n 1, 1) := by decide +kernel
theorem dX0_take_10 : decode cX0_take 10 = .ok (.getfield 18, 3) := by decide +kernel
theorem dX0_take_13 : decode cX0_take 13 = .ok (.putfield 18, 3) := by decide +kernel
theorem dX0_take_16 : decode cX0_take 16 = .ok (.aload_n 0, 1) := by decide +kernel
theorem dX0_take_17 : decode cX0_take 17 = .ok (.aload_n 1, 1) := by decide +kernel
theorem dX0_take_18 : decode cX0_take 18 = .ok (.getfield 21, 3) := by decide +kernel
theorem dX0_take_21 : decode cX0_take 21 = .ok (.putfield 21, 3) := by decide +kernel
theorem dX0_take_24 : decode cX0_take 24 = .ok (.aload_n 0, 1) := by decide +kernel
theorem dX0_take_25 : decode cX0_take 25 = .ok (.iconst 0, 1) := by decide +kernel
theorem dX0_take_26 : decode cX0_take 26 = .ok (.putfield 24, 3) := by decide +kernel
theorem dX0_take_29 : decode cX0_take 29 = .ok (.return_, 1) := by decide +kernel
theorem dX0_isBiting_0 : decode cX0_isBiting 0 = .ok (.aload_n 0, 1) := by decide +kernel
theorem dX0_isBiting_1 : decode cX0_isBiting 1 = .ok (.getfield 21, 3) := by decide +kernel
theorem dX0_isBiting_4 : decode cX0_isBiting 4 = .ok (.ifCond .gt 14, 3) := by decide +kernel
theorem dX0_isBiting_7 : decode cX0_isBiting 7 = .ok (.aload_n 0, 1) := by decide +kernel
theorem dX0_isBiting_8 : decode cX0_isBiting 8 = .ok (.getfield 15, 3) := by decide +kernel
theorem dX0_isBiting_11 : decode cX0_isBiting 11 = .ok (.ifCond .le 7, 3) := by decide +kernel
theorem dX0_isBiting_14 : decode cX0_isBiting 14 = .ok (.iconst 1, 1) := by decide +kernel
theorem dX0_isBiting_15 : decode cX0_isBiting 15 = .ok (.goto 4, 3) := by decide +kernel
theorem dX0_isBiting_18 : decode cX0_isBiting 18 = .ok (.iconst 0, 1) := by decide +kernel
theorem dX0_isBiting_19 : decode cX0_isBiting 19 = .ok (.ireturn, 1) := by decide +kernel
theorem dX0_swallow_0 : decode cX0_swallow 0 = .ok (.aload_n 0, 1) := by decide +kernel
theorem dX0_swallow_1 : decode cX0_swallow 1 = .ok (.iconst 0, 1) := by decide +kernel
theorem dX0_swallow_2 : decode cX0_swallow 2 = .ok (.aload_n 0, 1) := by decide +kernel
theorem dX0_swallow_3 : decode cX0_swallow 3 = .ok (.getfield 15, 3) := by decide +kernel
theorem dX0_swallow_6 : decode cX0_swallow 6 = .ok (.iload_n 1, 1) := by decide +kernel
theorem dX0_swallow_7 : decode cX0_swallow 7 = .ok (.isub, 1) := by decide +kernel
theorem dX0_swallow_8 : decode cX0_swallow 8 = .ok (.invokestatic 27, 3) := by decide +kernel
theorem dX0_swallow_11 : decode cX0_swallow 11 = .ok (.putfield 15, 3) := by decide +kernel
theorem dX0_swallow_14 : decode cX0_swallow 14 = .ok (.aload_n 0, 1) := by decide +kernel
theorem dX0_swallow_15 : decode cX0_swallow 15 = .ok (.dup, 1) := by decide +kernel
theorem dX0_swallow_16 : decode cX0_swallow 16 = .ok (.getfield 24, 3) := by decide +kernel
theorem dX0_swallow_19 : decode cX0_swallow 19 = .ok (.iload_n 1, 1) := by decide +kernel
theorem dX0_swallow_20 : decode cX0_swallow 20 = .ok (.iadd, 1) := by decide +kernel
theorem dX0_swallow_21 : decode cX0_swallow 21 = .ok (.putfield 24, 3) := by decide +kernel
theorem dX0_swallow_24 : decode cX0_swallow 24 = .ok (.return_, 1) := by decide +kernel
theorem dX0_endHour_0 : decode cX0_endHour 0 = .ok (.aload_n 0, 1) := by decide +kernel
theorem dX0_endHour_1 : decode cX0_endHour 1 = .ok (.bipush 99, 2) := by decide +kernel
theorem dX0_endHour_3 : decode cX0_endHour 3 = .ok (.aload_n 0, 1) := by decide +kernel
theorem dX0_endHour_4 : decode cX0_endHour 4 = .ok (.getfield 15, 3) := by decide +kernel
theorem dX0_endHour_7 : decode cX0_endHour 7 = .ok (.iload_n 1, 1) := by decide +kernel
theorem dX0_endHour_8 : decode cX0_endHour 8 = .ok (.iadd, 1) := by decide +kernel
theorem dX0_endHour_9 : decode cX0_endHour 9 = .ok (.invokestatic 33, 3) := by decide +kernel
theorem dX0_endHour_12 : decode cX0_endHour 12 = .ok (.putfield 15, 3) := by decide +kernel
theorem dX0_endHour_15 : decode cX0_endHour 15 = .ok (.aload_n 0, 1) := by decide +kernel
theorem dX0_endHour_16 : decode cX0_endHour 16 = .ok (.iconst 0, 1) := by decide +kernel
theorem dX0_endHour_17 : decode cX0_endHour 17 = .ok (.aload_n 0, 1) := by decide +kernel
theorem dX0_endHour_18 : decode cX0_endHour 18 = .ok (.getfield 21, 3) := by decide +kernel
theorem dX0_endHour_21 : decode cX0_endHour 21 = .ok (.iconst 1, 1) := by decide +kernel
theorem dX0_endHour_22 : decode cX0_endHour 22 = .ok (.isub, 1) := by decide +kernel
theorem dX0_endHour_23 : decode cX0_endHour 23 = .ok (.invokestatic 27, 3) := by decide +kernel
theorem dX0_endHour_26 : decode cX0_endHour 26 = .ok (.putfield 21, 3) := by decide +kernel
theorem dX0_endHour_29 : decode cX0_endHour 29 = .ok (.return_, 1) := by decide +kernel
theorem dX1_init_0 : decode cX1_init 0 = .ok (.aload_n 0, 1) := by decide +kernel
theorem dX1_init_1 : decode cX1_init 1 = .ok (.invokespecial 3, 3) := by decide +kernel
theorem dX1_init_4 : decode cX1_init 4 = .ok (.aload_n 0, 1) := by decide +kernel
theorem dX1_init_5 : decode cX1_init 5 = .ok (.iload_n 1, 1) := by decide +kernel
theorem dX1_init_6 : decode cX1_init 6 = .ok (.putfield 9, 3) := by decide +kernel
theorem dX1_init_9 : decode cX1_init 9 = .ok (.return_, 1) := by decide +kernel
theorem dX1_take_0 : decode cX1_take 0 = .ok (.aload_n 0, 1) := by decide +kernel
theorem dX1_take_1 : decode cX1_take 1 = .ok (.aload_n 1, 1) := by decide +kernel
theorem dX1_take_2 : decode cX1_take 2 = .ok (.getfield 15, 3) := by decide +kernel
theorem dX1_take_5 : decode cX1_take 5 = .ok (.putfield 15, 3) := by decide +kernel
theorem dX1_take_8 : decode cX1_take 8 = .ok (.aload_n 0, 1) := by decide +kernel
theorem dX1_take_9 : decode cX1_take 9 = .ok (.aload_n 1, 1) := by decide +kernel
theorem dX1_take_10 : decode cX1_take 10 = .ok (.getfield 18, 3) := by decide +kernel
theorem dX1_take_13 : decode cX1_take 13 = .ok (.putfield 18, 3) := by decide +kernel
theorem dX1_take_16 : decode cX1_take 16 = .ok (.aload_n 0, 1) := by decide +kernel
theorem dX1_take_17 : decode cX1_take 17 = .ok (.aload_n 1, 1) := by decide +kernel
theorem dX1_take_18 : decode cX1_take 18 = .ok (.getfield 21, 3) := by decide +kernel
theorem dX1_take_21 : decode cX1_take 21 = .ok (.putfield 21, 3) := by decide +kernel
theorem dX1_take_24 : decode cX1_take 24 = .ok (.aload_n 0, 1) := by decide +kernel
theorem dX1_take_25 : decode cX1_take 25 = .ok (.aload_n 1, 1) := by decide +kernel
theorem dX1_take_26 : decode cX1_take 26 = .ok (.getfield 24, 3) := by decide +kernel
theorem dX1_take_29 : decode cX1_take 29 = .ok (.putfield 24, 3) := by decide +kernel
theorem dX1_take_32 : decode cX1_take 32 = .ok (.aload_n 0, 1) := by decide +kernel
theorem dX1_take_33 : decode cX1_take 33 = .ok (.aload_n 1, 1) := by decide +kernel
theorem dX1_take_34 : decode cX1_take 34 = .ok (.getfield 27, 3) := by decide +kernel
theorem dX1_take_37 : decode cX1_take 37 = .ok (.putfield 27, 3) := by decide +kernel
theorem dX1_take_40 : decode cX1_take 40 = .ok (.aload_n 0, 1) := by decide +kernel
theorem dX1_take_41 : decode cX1_take 41 = .ok (.iconst 0, 1) := by decide +kernel
theorem dX1_take_42 : decode cX1_take 42 = .ok (.putfield 30, 3) := by decide +kernel
theorem dX1_take_45 : decode cX1_take 45 = .ok (.return_, 1) := by decide +kernel
theorem dX1_isVoid_0 : decode cX1_isVoid 0 = .ok (.aload_n 0, 1) := by decide +kernel
theorem dX1_isVoid_1 : decode cX1_isVoid 1 = .ok (.getfield 27, 3) := by decide +kernel
theorem dX1_isVoid_4 : decode cX1_isVoid 4 = .ok (.ifCond .gt 7, 3) := by decide +kernel
theorem dX1_isVoid_7 : decode cX1_isVoid 7 = .ok (.iconst 1, 1) := by decide +kernel
theorem dX1_isVoid_8 : decode cX1_isVoid 8 = .ok (.goto 4, 3) := by decide +kernel
theorem dX1_isVoid_11 : decode cX1_isVoid 11 = .ok (.iconst 0, 1) := by decide +kernel
theorem dX1_isVoid_12 : decode cX1_isVoid 12 = .ok (.ireturn, 1) := by decide +kernel
theorem dX1_isInForce_0 : decode cX1_isInForce 0 = .ok (.aload_n 0, 1) := by decide +kernel
theorem dX1_isInForce_1 : decode cX1_isInForce 1 = .ok (.getfield 27, 3) := by decide +kernel
theorem dX1_isInForce_4 : decode cX1_isInForce 4 = .ok (.ifCond .le 20, 3) := by decide +kernel
theorem dX1_isInForce_7 : decode cX1_isInForce 7 = .ok (.iconst 2, 1) := by decide +kernel
theorem dX1_isInForce_8 : decode cX1_isInForce 8 = .ok (.aload_n 0, 1) := by decide +kernel
theorem dX1_isInForce_9 : decode cX1_isInForce 9 = .ok (.getfield 27, 3) := by decide +kernel
theorem dX1_isInForce_12 : decode cX1_isInForce 12 = .ok (.imul, 1) := by decide +kernel
theorem dX1_isInForce_13 : decode cX1_isInForce 13 = .ok (.aload_n 0, 1) := by decide +kernel
theorem dX1_isInForce_14 : decode cX1_isInForce 14 = .ok (.getfield 18, 3) := by decide +kernel
theorem dX1_isInForce_17 : decode cX1_isInForce 17 = .ok (.if_icmp .lt 7, 3) := by decide +kernel
theorem dX1_isInForce_20 : decode cX1_isInForce 20 = .ok (.iconst 1, 1) := by decide +kernel
theorem dX1_isInForce_21 : decode cX1_isInForce 21 = .ok (.goto 4, 3) := by decide +kernel
theorem dX1_isInForce_24 : decode cX1_isInForce 24 = .ok (.iconst 0, 1) := by decide +kernel
theorem dX1_isInForce_25 : decode cX1_isInForce 25 = .ok (.ireturn, 1) := by decide +kernel
theorem dX1_standing_0 : decode cX1_standing 0 = .ok (.aload_n 0, 1) := by decide +kernel
theorem dX1_standing_1 : decode cX1_standing 1 = .ok (.invokevirtual 33, 3) := by decide +kernel
theorem dX1_standing_4 : decode cX1_standing 4 = .ok (.ifCond .eq 7, 3) := by decide +kernel
theorem dX1_standing_7 : decode cX1_standing 7 = .ok (.iconst 0, 1) := by decide +kernel
theorem dX1_standing_8 : decode cX1_standing 8 = .ok (.goto 15, 3) := by decide +kernel
theorem dX1_standing_11 : decode cX1_standing 11 = .ok (.aload_n 0, 1) := by decide +kernel
theorem dX1_standing_12 : decode cX1_standing 12 = .ok (.invokevirtual 37, 3) := by decide +kernel
theorem dX1_standing_15 : decode cX1_standing 15 = .ok (.ifCond .eq 7, 3) := by decide +kernel
theorem dX1_standing_18 : decode cX1_standing 18 = .ok (.iconst 2, 1) := by decide +kernel
theorem dX1_standing_19 : decode cX1_standing 19 = .ok (.goto 4, 3) := by decide +kernel
theorem dX1_standing_22 : decode cX1_standing 22 = .ok (.iconst 1, 1) := by decide +kernel
theorem dX1_standing_23 : decode cX1_standing 23 = .ok (.ireturn, 1) := by decide +kernel
theorem dX1_liking_0 : decode cX1_liking 0 = .ok (.aload_n 0, 1) := by decide +kernel
theorem dX1_liking_1 : decode cX1_liking 1 = .ok (.getfield 27, 3) := by decide +kernel
theorem dX1_liking_4 : decode cX1_liking 4 = .ok (.ifCond .le 17, 3) := by decide +kernel
theorem dX1_liking_7 : decode cX1_liking 7 = .ok (.aload_n 0, 1) := by decide +kernel
theorem dX1_liking_8 : decode cX1_liking 8 = .ok (.getfield 15, 3) := by decide +kernel
theorem dX1_liking_11 : decode cX1_liking 11 = .ok (.iconst 5, 1) := by decide +kernel
theorem dX1_liking_12 : decode cX1_liking 12 = .ok (.if_icmp .ne 12, 3) := by decide +kernel
theorem dX1_liking_15 : decode cX1_liking 15 = .ok (.iload_n 1, 1) := by decide +kernel
theorem dX1_liking_16 : decode cX1_liking 16 = .ok (.iconst 2, 1) := by decide +kernel
theorem dX1_liking_17 : decode cX1_liking 17 = .ok (.irem, 1) := by decide +kernel
theorem dX1_liking_18 : decode cX1_liking 18 = .ok (.ifCond .eq 6, 3) := by decide +kernel
theorem dX1_liking_21 : decode cX1_liking 21 = .ok (.ldc 40, 2) := by decide +kernel
theorem dX1_liking_23 : decode cX1_liking 23 = .ok (.ireturn, 1) := by decide +kernel
theorem dX1_liking_24 : decode cX1_liking 24 = .ok (.aload_n 0, 1) := by decide +kernel
theorem dX1_liking_25 : decode cX1_liking 25 = .ok (.getfield 24, 3) := by decide +kernel
theorem dX1_liking_28 : decode cX1_liking 28 = .ok (.istore_n 3, 1) := by decide +kernel
theorem dX1_liking_29 : decode cX1_liking 29 = .ok (.aload_n 0, 1) := by decide +kernel
theorem dX1_liking_30 : decode cX1_liking 30 = .ok (.getfield 15, 3) := by decide +kernel
theorem dX1_liking_33 : decode cX1_liking 33 = .ok (.iconst 2, 1) := by decide +kernel
theorem dX1_liking_34 : decode cX1_liking 34 = .ok (.if_icmp .ne 10, 3) := by decide +kernel
theorem dX1_liking_37 : decode cX1_liking 37 = .ok (.iload_n 3, 1) := by decide +kernel
theorem dX1_liking_38 : decode cX1_liking 38 = .ok (.iload_n 2, 1) := by decide +kernel
theorem dX1_liking_39 : decode cX1_liking 39 = .ok (.iadd, 1) := by decide +kernel
theorem dX1_liking_40 : decode cX1_liking 40 = .ok (.istore_n 3, 1) := by decide +kernel
theorem dX1_liking_41 : decode cX1_liking 41 = .ok (.goto 22, 3) := by decide +kernel
theorem dX1_liking_44 : decode cX1_liking 44 = .ok (.aload_n 0, 1) := by decide +kernel
theorem dX1_liking_45 : decode cX1_liking 45 = .ok (.getfield 15, 3) := by decide +kernel
theorem dX1_liking_48 : decode cX1_liking 48 = .ok (.iconst 4, 1) := by decide +kernel
theorem dX1_liking_49 : decode cX1_liking 49 = .ok (.if_icmp .eq 11, 3) := by decide +kernel
theorem dX1_liking_52 : decode cX1_liking 52 = .ok (.aload_n 0, 1) := by decide +kernel
theorem dX1_liking_53 : decode cX1_liking 53 = .ok (.getfield 15, 3) := by decide +kernel
theorem dX1_liking_56 : decode cX1_liking 56 = .ok (.iconst 5, 1) := by decide +kernel
theorem dX1_liking_57 : decode cX1_liking 57 = .ok (.if_icmp .ne 6, 3) := by decide +kernel
theorem dX1_liking_60 : decode cX1_liking 60 = .ok (.iinc 3 (-3), 3) := by decide +kernel
theorem dX1_liking_63 : decode cX1_liking 63 = .ok (.iload_n 3, 1) := by decide +kernel
theorem dX1_liking_64 : decode cX1_liking 64 = .ok (.ifCond .ge 8, 3) := by decide +kernel
theorem dX1_liking_67 : decode cX1_liking 67 = .ok (.ldc 40, 2) := by decide +kernel
theorem dX1_liking_69 : decode cX1_liking 69 = .ok (.goto 4, 3) := by decide +kernel
theorem dX1_liking_72 : decode cX1_liking 72 = .ok (.iload_n 3, 1) := by decide +kernel
theorem dX1_liking_73 : decode cX1_liking 73 = .ok (.ireturn, 1) := by decide +kernel
theorem dX1_loseBite_0 : decode cX1_loseBite 0 = .ok (.aload_n 0, 1) := by decide +kernel
theorem dX1_loseBite_1 : decode cX1_loseBite 1 = .ok (.getfield 27, 3) := by decide +kernel
theorem dX1_loseBite_4 : decode cX1_loseBite 4 = .ok (.aload_n 0, 1) := by decide +kernel
theorem dX1_loseBite_5 : decode cX1_loseBite 5 = .ok (.getfield 15, 3) := by decide +kernel
theorem dX1_loseBite_8 : decode cX1_loseBite 8 = .ok (.iconst 1, 1) := by decide +kernel
theorem dX1_loseBite_9 : decode cX1_loseBite 9 = .ok (.if_icmp .eq 11, 3) := by decide +kernel
theorem dX1_loseBite_12 : decode cX1_loseBite 12 = .ok (.aload_n 0, 1) := by decide +kernel
theorem dX1_loseBite_13 : decode cX1_loseBite 13 = .ok (.getfield 15, 3) := by decide +kernel
theorem dX1_loseBite_16 : decode cX1_loseBite 16 = .ok (.iconst 2, 1) := by decide +kernel
theorem dX1_loseBite_17 : decode cX1_loseBite 17 = .ok (.if_icmp .ne 7, 3) := by decide +kernel
theorem dX1_loseBite_20 : decode cX1_loseBite 20 = .ok (.iconst 2, 1) := by decide +kernel
theorem dX1_loseBite_21 : decode cX1_loseBite 21 = .ok (.goto 4, 3) := by decide +kernel
theorem dX1_loseBite_24 : decode cX1_loseBite 24 = .ok (.iconst 1, 1) := by decide +kernel
theorem dX1_loseBite_25 : decode cX1_loseBite 25 = .ok (.invokestatic 41, 3) := by decide +kernel
theorem dX1_loseBite_28 : decode cX1_loseBite 28 = .ok (.istore_n 2, 1) := by decide +kernel
theorem dX1_loseBite_29 : decode cX1_loseBite 29 = .ok (.aload_n 0, 1) := by decide +kernel
theorem dX1_loseBite_30 : decode cX1_loseBite 30 = .ok (.dup, 1) := by decide +kernel
theorem dX1_loseBite_31 : decode cX1_loseBite 31 = .ok (.getfield 27, 3) := by decide +kernel
theorem dX1_loseBite_34 : decode cX1_loseBite 34 = .ok (.iload_n 2, 1) := by decide +kernel
theorem dX1_loseBite_35 : decode cX1_loseBite 35 = .ok (.isub, 1) := by decide +kernel
theorem dX1_loseBite_36 : decode cX1_loseBite 36 = .ok (.putfield 27, 3) := by decide +kernel
theorem dX1_loseBite_39 : decode cX1_loseBite 39 = .ok (.aload_n 0, 1) := by decide +kernel
theorem dX1_loseBite_40 : decode cX1_loseBite 40 = .ok (.dup, 1) := by decide +kernel
theorem dX1_loseBite_41 : decode cX1_loseBite 41 = .ok (.getfield 30, 3) := by decide +kernel
theorem dX1_loseBite_44 : decode cX1_loseBite 44 = .ok (.iconst 1, 1) := by decide +kernel
theorem dX1_loseBite_45 : decode cX1_loseBite 45 = .ok (.iload_n 1, 1) := by decide +kernel
theorem dX1_loseBite_46 : decode cX1_loseBite 46 = .ok (.ishl, 1) := by decide +kernel
theorem dX1_loseBite_47 : decode cX1_loseBite 47 = .ok (.ior, 1) := by decide +kernel
theorem dX1_loseBite_48 : decode cX1_loseBite 48 = .ok (.putfield 30, 3) := by decide +kernel
theorem dX1_loseBite_51 : decode cX1_loseBite 51 = .ok (.iload_n 2, 1) := by decide +kernel
theorem dX1_loseBite_52 : decode cX1_loseBite 52 = .ok (.ireturn, 1) := by decide +kernel
theorem dX1_become_0 : decode cX1_become 0 = .ok (.iload_n 1, 1) := by decide +kernel
theorem dX1_become_1 : decode cX1_become 1 = .ok (.ifCond .ne 11, 3) := by decide +kernel
theorem dX1_become_4 : decode cX1_become 4 = .ok (.aload_n 0, 1) := by decide +kernel
theorem dX1_become_5 : decode cX1_become 5 = .ok (.iload_n 2, 1) := by decide +kernel
theorem dX1_become_6 : decode cX1_become 6 = .ok (.putfield 15, 3) := by decide +kernel
theorem dX1_become_9 : decode cX1_become 9 = .ok (.goto 21, 3) := by decide +kernel
theorem dX1_become_12 : decode cX1_become 12 = .ok (.iload_n 1, 1) := by decide +kernel
theorem dX1_become_13 : decode cX1_become 13 = .ok (.iconst 1, 1) := by decide +kernel
theorem dX1_become_14 : decode cX1_become 14 = .ok (.if_icmp .ne 11, 3) := by decide +kernel
theorem dX1_become_17 : decode cX1_become 17 = .ok (.aload_n 0, 1) := by decide +kernel
theorem dX1_become_18 : decode cX1_become 18 = .ok (.iload_n 2, 1) := by decide +kernel
theorem dX1_become_19 : decode cX1_become 19 = .ok (.putfield 21, 3) := by decide +kernel
theorem dX1_become_22 : decode cX1_become 22 = .ok (.goto 8, 3) := by decide +kernel
theorem dX1_become_25 : decode cX1_become 25 = .ok (.aload_n 0, 1) := by decide +kernel
theorem dX1_become_26 : decode cX1_become 26 = .ok (.iload_n 2, 1) := by decide +kernel
theorem dX1_become_27 : decode cX1_become 27 = .ok (.putfield 24, 3) := by decide +kernel
theorem dX1_become_30 : decode cX1_become 30 = .ok (.return_, 1) := by decide +kernel
theorem dX2_init_0 : decode cX2_init 0 = .ok (.aload_n 0, 1) := by decide +kernel
theorem dX2_init_1 : decode cX2_init 1 = .ok (.invokespecial 3, 3) := by decide +kernel
theorem dX2_init_4 : decode cX2_init 4 = .ok (.aload_n 0, 1) := by decide +kernel
theorem dX2_init_5 : decode cX2_init 5 = .ok (.bipush 16, 2) := by decide +kernel
theorem dX2_init_7 : decode cX2_init 7 = .ok (.newarray .int, 2) := by decide +kernel
theorem dX2_init_9 : decode cX2_init 9 = .ok (.putfield 9, 3) := by decide +kernel
theorem dX2_init_12 : decode cX2_init 12 = .ok (.return_, 1) := by decide +kernel
theorem dX2_add_0 : decode cX2_add 0 = .ok (.aload_n 0, 1) := by decide +kernel
theorem dX2_add_1 : decode cX2_add 1 = .ok (.getfield 15, 3) := by decide +kernel
theorem dX2_add_4 : decode cX2_add 4 = .ok (.ifCond .lt 35, 3) := by decide +kernel
theorem dX2_add_7 : decode cX2_add 7 = .ok (.aload_n 0, 1) := by decide +kernel
theorem dX2_add_8 : decode cX2_add 8 = .ok (.getfield 15, 3) := by decide +kernel
theorem dX2_add_11 : decode cX2_add 11 = .ok (.aload_n 0, 1) := by decide +kernel
theorem dX2_add_12 : decode cX2_add 12 = .ok (.getfield 9, 3) := by decide +kernel
theorem dX2_add_15 : decode cX2_add 15 = .ok (.arraylength, 1) := by decide +kernel
theorem dX2_add_16 : decode cX2_add 16 = .ok (.if_icmp .ge 23, 3) := by decide +kernel
theorem dX2_add_19 : decode cX2_add 19 = .ok (.aload_n 0, 1) := by decide +kernel
theorem dX2_add_20 : decode cX2_add 20 = .ok (.getfield 9, 3) := by decide +kernel
theorem dX2_add_23 : decode cX2_add 23 = .ok (.aload_n 0, 1) := by decide +kernel
theorem dX2_add_24 : decode cX2_add 24 = .ok (.getfield 15, 3) := by decide +kernel
theorem dX2_add_27 : decode cX2_add 27 = .ok (.iload_n 1, 1) := by decide +kernel
theorem dX2_add_28 : decode cX2_add 28 = .ok (.iastore, 1) := by decide +kernel
theorem dX2_add_29 : decode cX2_add 29 = .ok (.aload_n 0, 1) := by decide +kernel
theorem dX2_add_30 : decode cX2_add 30 = .ok (.dup, 1) := by decide +kernel
theorem dX2_add_31 : decode cX2_add 31 = .ok (.getfield 15, 3) := by decide +kernel
theorem dX2_add_34 : decode cX2_add 34 = .ok (.iconst 1, 1) := by decide +kernel
theorem dX2_add_35 : decode cX2_add 35 = .ok (.iadd, 1) := by decide +kernel
theorem dX2_add_36 : decode cX2_add 36 = .ok (.putfield 15, 3) := by decide +kernel
theorem dX2_add_39 : decode cX2_add 39 = .ok (.return_, 1) := by decide +kernel
theorem dX2_at_0 : decode cX2_at 0 = .ok (.iload_n 1, 1) := by decide +kernel
theorem dX2_at_1 : decode cX2_at 1 = .ok (.ifCond .lt 29, 3) := by decide +kernel
theorem dX2_at_4 : decode cX2_at 4 = .ok (.iload_n 1, 1) := by decide +kernel
theorem dX2_at_5 : decode cX2_at 5 = .ok (.aload_n 0, 1) := by decide +kernel
theorem dX2_at_6 : decode cX2_at 6 = .ok (.getfield 15, 3) := by decide +kernel
theorem dX2_at_9 : decode cX2_at 9 = .ok (.if_icmp .ge 21, 3) := by decide +kernel
theorem dX2_at_12 : decode cX2_at 12 = .ok (.iload_n 1, 1) := by decide +kernel
theorem dX2_at_13 : decode cX2_at 13 = .ok (.aload_n 0, 1) := by decide +kernel
theorem dX2_at_14 : decode cX2_at 14 = .ok (.getfield 9, 3) := by decide +kernel
theorem dX2_at_17 : decode cX2_at 17 = .ok (.arraylength, 1) := by decide +kernel
theorem dX2_at_18 : decode cX2_at 18 = .ok (.if_icmp .ge 12, 3) := by decide +kernel
theorem dX2_at_21 : decode cX2_at 21 = .ok (.aload_n 0, 1) := by decide +kernel
theorem dX2_at_22 : decode cX2_at 22 = .ok (.getfield 9, 3) := by decide +kernel
theorem dX2_at_25 : decode cX2_at 25 = .ok (.iload_n 1, 1) := by decide +kernel
theorem dX2_at_26 : decode cX2_at 26 = .ok (.iaload, 1) := by decide +kernel
theorem dX2_at_27 : decode cX2_at 27 = .ok (.goto 5, 3) := by decide +kernel
theorem dX2_at_30 : decode cX2_at 30 = .ok (.ldc 19, 2) := by decide +kernel
theorem dX2_at_32 : decode cX2_at 32 = .ok (.ireturn, 1) := by decide +kernel
theorem dX3_init_0 : decode cX3_init 0 = .ok (.aload_n 0, 1) := by decide +kernel
theorem dX3_init_1 : decode cX3_init 1 = .ok (.invokespecial 3, 3) := by decide +kernel
theorem dX3_init_4 : decode cX3_init 4 = .ok (.aload_n 0, 1) := by decide +kernel
theorem dX3_init_5 : decode cX3_init 5 = .ok (.bipush 24, 2) := by decide +kernel
theorem dX3_init_7 : decode cX3_init 7 = .ok (.anewarray 9, 3) := by decide +kernel
theorem dX3_init_10 : decode cX3_init 10 = .ok (.putfield 11, 3) := by decide +kernel
theorem dX3_init_13 : decode cX3_init 13 = .ok (.iconst 0, 1) := by decide +kernel
theorem dX3_init_14 : decode cX3_init 14 = .ok (.istore_n 1, 1) := by decide +kernel
theorem dX3_init_15 : decode cX3_init 15 = .ok (.iload_n 1, 1) := by decide +kernel
theorem dX3_init_16 : decode cX3_init 16 = .ok (.aload_n 0, 1) := by decide +kernel
theorem dX3_init_17 : decode cX3_init 17 = .ok (.getfield 11, 3) := by decide +kernel
theorem dX3_init_20 : decode cX3_init 20 = .ok (.arraylength, 1) := by decide +kernel
theorem dX3_init_21 : decode cX3_init 21 = .ok (.if_icmp .ge 22, 3) := by decide +kernel
theorem dX3_init_24 : decode cX3_init 24 = .ok (.aload_n 0, 1) := by decide +kernel
theorem dX3_init_25 : decode cX3_init 25 = .ok (.getfield 11, 3) := by decide +kernel
theorem dX3_init_28 : decode cX3_init 28 = .ok (.iload_n 1, 1) := by decide +kernel
theorem dX3_init_29 : decode cX3_init 29 = .ok (.new 9, 3) := by decide +kernel
theorem dX3_init_32 : decode cX3_init 32 = .ok (.dup, 1) := by decide +kernel
theorem dX3_init_33 : decode cX3_init 33 = .ok (.invokespecial 17, 3) := by decide +kernel
theorem dX3_init_36 : decode cX3_init 36 = .ok (.aastore, 1) := by decide +kernel
theorem dX3_init_37 : decode cX3_init 37 = .ok (.iinc 1 1, 3) := by decide +kernel
theorem dX3_init_40 : decode cX3_init 40 = .ok (.goto (-25), 3) := by decide +kernel
theorem dX3_init_43 : decode cX3_init 43 = .ok (.return_, 1) := by decide +kernel
theorem dX3_forget_0 : decode cX3_forget 0 = .ok (.aload_n 0, 1) := by decide +kernel
theorem dX3_forget_1 : decode cX3_forget 1 = .ok (.iconst 0, 1) := by decide +kernel
theorem dX3_forget_2 : decode cX3_forget 2 = .ok (.putfield 18, 3) := by decide +kernel
theorem dX3_forget_5 : decode cX3_forget 5 = .ok (.return_, 1) := by decide +kernel
theorem dX3_keep_0 : decode cX3_keep 0 = .ok (.aload_n 0, 1) := by decide +kernel
theorem dX3_keep_1 : decode cX3_keep 1 = .ok (.getfield 22, 3) := by decide +kernel
theorem dX3_keep_4 : decode cX3_keep 4 = .ok (.ifCond .lt 15, 3) := by decide +kernel
theorem dX3_keep_7 : decode cX3_keep 7 = .ok (.aload_n 0, 1) := by decide +kernel
theorem dX3_keep_8 : decode cX3_keep 8 = .ok (.getfield 22, 3) := by decide +kernel
theorem dX3_keep_11 : decode cX3_keep 11 = .ok (.aload_n 0, 1) := by decide +kernel
theorem dX3_keep_12 : decode cX3_keep 12 = .ok (.getfield 11, 3) := by decide +kernel
theorem dX3_keep_15 : decode cX3_keep 15 = .ok (.arraylength, 1) := by decide +kernel
theorem dX3_keep_16 : decode cX3_keep 16 = .ok (.if_icmp .lt 4, 3) := by decide +kernel
theorem dX3_keep_19 : decode cX3_keep 19 = .ok (.return_, 1) := by decide +kernel
theorem dX3_keep_20 : decode cX3_keep 20 = .ok (.aload_n 0, 1) := by decide +kernel
theorem dX3_keep_21 : decode cX3_keep 21 = .ok (.getfield 11, 3) := by decide +kernel
theorem dX3_keep_24 : decode cX3_keep 24 = .ok (.aload_n 0, 1) := by decide +kernel
theorem dX3_keep_25 : decode cX3_keep 25 = .ok (.getfield 22, 3) := by decide +kernel
theorem dX3_keep_28 : decode cX3_keep 28 = .ok (.aaload, 1) := by decide +kernel
theorem dX3_keep_29 : decode cX3_keep 29 = .ok (.aload_n 1, 1) := by decide +kernel
theorem dX3_keep_30 : decode cX3_keep 30 = .ok (.invokevirtual 25, 3) := by decide +kernel
theorem dX3_keep_33 : decode cX3_keep 33 = .ok (.aload_n 0, 1) := by decide +kernel
theorem dX3_keep_34 : decode cX3_keep 34 = .ok (.aload_n 0, 1) := by decide +kernel
theorem dX3_keep_35 : decode cX3_keep 35 = .ok (.getfield 22, 3) := by decide +kernel
theorem dX3_keep_38 : decode cX3_keep 38 = .ok (.iconst 1, 1) := by decide +kernel
theorem dX3_keep_39 : decode cX3_keep 39 = .ok (.iadd, 1) := by decide +kernel
theorem dX3_keep_40 : decode cX3_keep 40 = .ok (.aload_n 0, 1) := by decide +kernel
theorem dX3_keep_41 : decode cX3_keep 41 = .ok (.getfield 11, 3) := by decide +kernel
theorem dX3_keep_44 : decode cX3_keep 44 = .ok (.arraylength, 1) := by decide +kernel
theorem dX3_keep_45 : decode cX3_keep 45 = .ok (.if_icmp .ge 12, 3) := by decide +kernel
theorem dX3_keep_48 : decode cX3_keep 48 = .ok (.aload_n 0, 1) := by decide +kernel
theorem dX3_keep_49 : decode cX3_keep 49 = .ok (.getfield 22, 3) := by decide +kernel
theorem dX3_keep_52 : decode cX3_keep 52 = .ok (.iconst 1, 1) := by decide +kernel
theorem dX3_keep_53 : decode cX3_keep 53 = .ok (.iadd, 1) := by decide +kernel
theorem dX3_keep_54 : decode cX3_keep 54 = .ok (.goto 4, 3) := by decide +kernel
theorem dX3_keep_57 : decode cX3_keep 57 = .ok (.iconst 0, 1) := by decide +kernel
theorem dX3_keep_58 : decode cX3_keep 58 = .ok (.putfield 22, 3) := by decide +kernel
theorem dX3_keep_61 : decode cX3_keep 61 = .ok (.aload_n 0, 1) := by decide +kernel
theorem dX3_keep_62 : decode cX3_keep 62 = .ok (.aload_n 0, 1) := by decide +kernel
theorem dX3_keep_63 : decode cX3_keep 63 = .ok (.getfield 18, 3) := by decide +kernel
theorem dX3_keep_66 : decode cX3_keep 66 = .ok (.iconst 1, 1) := by decide +kernel
theorem dX3_keep_67 : decode cX3_keep 67 = .ok (.iadd, 1) := by decide +kernel
theorem dX3_keep_68 : decode cX3_keep 68 = .ok (.aload_n 0, 1) := by decide +kernel
theorem dX3_keep_69 : decode cX3_keep 69 = .ok (.getfield 11, 3) := by decide +kernel
theorem dX3_keep_72 : decode cX3_keep 72 = .ok (.arraylength, 1) := by decide +kernel
theorem dX3_keep_73 : decode cX3_keep 73 = .ok (.invokestatic 29, 3) := by decide +kernel
theorem dX3_keep_76 : decode cX3_keep 76 = .ok (.putfield 18, 3) := by decide +kernel
theorem dX3_keep_79 : decode cX3_keep 79 = .ok (.return_, 1) := by decide +kernel
theorem dX3_bringBack_0 : decode cX3_bringBack 0 = .ok (.aload_n 0, 1) := by decide +kernel
theorem dX3_bringBack_1 : decode cX3_bringBack 1 = .ok (.getfield 22, 3) := by decide +kernel
theorem dX3_bringBack_4 : decode cX3_bringBack 4 = .ok (.ifCond .le 12, 3) := by decide +kernel
theorem dX3_bringBack_7 : decode cX3_bringBack 7 = .ok (.aload_n 0, 1) := by decide +kernel
theorem dX3_bringBack_8 : decode cX3_bringBack 8 = .ok (.getfield 22, 3) := by decide +kernel
theorem dX3_bringBack_11 : decode cX3_bringBack 11 = .ok (.iconst 1, 1) := by decide +kernel
theorem dX3_bringBack_12 : decode cX3_bringBack 12 = .ok (.isub, 1) := by decide +kernel
theorem dX3_bringBack_13 : decode cX3_bringBack 13 = .ok (.goto 10, 3) := by decide +kernel
theorem dX3_bringBack_16 : decode cX3_bringBack 16 = .ok (.aload_n 0, 1) := by decide +kernel
theorem dX3_bringBack_17 : decode cX3_bringBack 17 = .ok (.getfield 11, 3) := by decide +kernel
theorem dX3_bringBack_20 : decode cX3_bringBack 20 = .ok (.arraylength, 1) := by decide +kernel
theorem dX3_bringBack_21 : decode cX3_bringBack 21 = .ok (.iconst 1, 1) := by decide +kernel
theorem dX3_bringBack_22 : decode cX3_bringBack 22 = .ok (.isub, 1) := by decide +kernel
theorem dX3_bringBack_23 : decode cX3_bringBack 23 = .ok (.istore_n 2, 1) := by decide +kernel
theorem dX3_bringBack_24 : decode cX3_bringBack 24 = .ok (.aload_n 0, 1) := by decide +kernel
theorem dX3_bringBack_25 : decode cX3_bringBack 25 = .ok (.getfield 18, 3) := by decide +kernel
theorem dX3_bringBack_28 : decode cX3_bringBack 28 = .ok (.ifCond .le 16, 3) := by decide +kernel
theorem dX3_bringBack_31 : decode cX3_bringBack 31 = .ok (.iload_n 2, 1) := by decide +kernel
theorem dX3_bringBack_32 : decode cX3_bringBack 32 = .ok (.ifCond .lt 12, 3) := by decide +kernel
theorem dX3_bringBack_35 : decode cX3_bringBack 35 = .ok (.iload_n 2, 1) := by decide +kernel
theorem dX3_bringBack_36 : decode cX3_bringBack 36 = .ok (.aload_n 0, 1) := by decide +kernel
theorem dX3_bringBack_37 : decode cX3_bringBack 37 = .ok (.getfield 11, 3) := by decide +kernel
theorem dX3_bringBack_40 : decode cX3_bringBack 40 = .ok (.arraylength, 1) := by decide +kernel
theorem dX3_bringBack_41 : decode cX3_bringBack 41 = .ok (.if_icmp .lt 5, 3) := by decide +kernel
theorem dX3_bringBack_44 : decode cX3_bringBack 44 = .ok (.iconst 0, 1) := by decide +kernel
theorem dX3_bringBack_45 : decode cX3_bringBack 45 = .ok (.ireturn, 1) := by decide +kernel
theorem dX3_bringBack_46 : decode cX3_bringBack 46 = .ok (.aload_n 1, 1) := by decide +kernel
theorem dX3_bringBack_47 : decode cX3_bringBack 47 = .ok (.aload_n 0, 1) := by decide +kernel
theorem dX3_bringBack_48 : decode cX3_bringBack 48 = .ok (.getfield 11, 3) := by decide +kernel
theorem dX3_bringBack_51 : decode cX3_bringBack 51 = .ok (.iload_n 2, 1) := by decide +kernel
theorem dX3_bringBack_52 : decode cX3_bringBack 52 = .ok (.aaload, 1) := by decide +kernel
theorem dX3_bringBack_53 : decode cX3_bringBack 53 = .ok (.invokevirtual 25, 3) := by decide +kernel
theorem dX3_bringBack_56 : decode cX3_bringBack 56 = .ok (.aload_n 0, 1) := by decide +kernel
theorem dX3_bringBack_57 : decode cX3_bringBack 57 = .ok (.iload_n 2, 1) := by decide +kernel
theorem dX3_bringBack_58 : decode cX3_bringBack 58 = .ok (.putfield 22, 3) := by decide +kernel
theorem dX3_bringBack_61 : decode cX3_bringBack 61 = .ok (.aload_n 0, 1) := by decide +kernel
theorem dX3_bringBack_62 : decode cX3_bringBack 62 = .ok (.dup, 1) := by decide +kernel
theorem dX3_bringBack_63 : decode cX3_bringBack 63 = .ok (.getfield 18, 3) := by decide +kernel
theorem dX3_bringBack_66 : decode cX3_bringBack 66 = .ok (.iconst 1, 1) := by decide +kernel
theorem dX3_bringBack_67 : decode cX3_bringBack 67 = .ok (.isub, 1) := by decide +kernel
theorem dX3_bringBack_68 : decode cX3_bringBack 68 = .ok (.putfield 18, 3) := by decide +kernel
theorem dX3_bringBack_71 : decode cX3_bringBack 71 = .ok (.iconst 1, 1) := by decide +kernel
theorem dX3_bringBack_72 : decode cX3_bringBack 72 = .ok (.ireturn, 1) := by decide +kernel
theorem dX4_init_0 : decode cX4_init 0 = .ok (.aload_n 0, 1) := by decide +kernel
theorem dX4_init_1 : decode cX4_init 1 = .ok (.invokespecial 3, 3) := by decide +kernel
theorem dX4_init_4 : decode cX4_init 4 = .ok (.aload_n 0, 1) := by decide +kernel
theorem dX4_init_5 : decode cX4_init 5 = .ok (.bipush 40, 2) := by decide +kernel
theorem dX4_init_7 : decode cX4_init 7 = .ok (.newarray .int, 2) := by decide +kernel
theorem dX4_init_9 : decode cX4_init 9 = .ok (.putfield 9, 3) := by decide +kernel
theorem dX4_init_12 : decode cX4_init 12 = .ok (.return_, 1) := by decide +kernel
theorem dX4_begin_0 : decode cX4_begin 0 = .ok (.aload_n 0, 1) := by decide +kernel
theorem dX4_begin_1 : decode cX4_begin 1 = .ok (.iconst 1, 1) := by decide +kernel
theorem dX4_begin_2 : decode cX4_begin 2 = .ok (.putfield 15, 3) := by decide +kernel
theorem dX4_begin_5 : decode cX4_begin 5 = .ok (.aload_n 0, 1) := by decide +kernel
theorem dX4_begin_6 : decode cX4_begin 6 = .ok (.iload_n 1, 1) := by decide +kernel
theorem dX4_begin_7 : decode cX4_begin 7 = .ok (.putfield 19, 3) := by decide +kernel
theorem dX4_begin_10 : decode cX4_begin 10 = .ok (.aload_n 0, 1) := by decide +kernel
theorem dX4_begin_11 : decode cX4_begin 11 = .ok (.iconst 0, 1) := by decide +kernel
theorem dX4_begin_12 : decode cX4_begin 12 = .ok (.iload_n 2, 1) := by decide +kernel
theorem dX4_begin_13 : decode cX4_begin 13 = .ok (.aload_n 0, 1) := by decide +kernel
theorem dX4_begin_14 : decode cX4_begin 14 = .ok (.getfield 9, 3) := by decide +kernel
theorem dX4_begin_17 : decode cX4_begin 17 = .ok (.arraylength, 1) := by decide +kernel
theorem dX4_begin_18 : decode cX4_begin 18 = .ok (.invokestatic 23, 3) := by decide +kernel
theorem dX4_begin_21 : decode cX4_begin 21 = .ok (.invokestatic 29, 3) := by decide +kernel
theorem dX4_begin_24 : decode cX4_begin 24 = .ok (.putfield 32, 3) := by decide +kernel
theorem dX4_begin_27 : decode cX4_begin 27 = .ok (.iconst 0, 1) := by decide +kernel
theorem dX4_begin_28 : decode cX4_begin 28 = .ok (.istore_n 3, 1) := by decide +kernel
theorem dX4_begin_29 : decode cX4_begin 29 = .ok (.iload_n 3, 1) := by decide +kernel
theorem dX4_begin_30 : decode cX4_begin 30 = .ok (.aload_n 0, 1) := by decide +kernel
theorem dX4_begin_31 : decode cX4_begin 31 = .ok (.getfield 9, 3) := by decide +kernel
theorem dX4_begin_34 : decode cX4_begin 34 = .ok (.arraylength, 1) := by decide +kernel
theorem dX4_begin_35 : decode cX4_begin 35 = .ok (.if_icmp .ge 16, 3) := by decide +kernel
theorem dX4_begin_38 : decode cX4_begin 38 = .ok (.aload_n 0, 1) := by decide +kernel
theorem dX4_begin_39 : decode cX4_begin 39 = .ok (.getfield 9, 3) := by decide +kernel
theorem dX4_begin_42 : decode cX4_begin 42 = .ok (.iload_n 3, 1) := by decide +kernel
theorem dX4_begin_43 : decode cX4_begin 43 = .ok (.iconst 0, 1) := by decide +kernel
theorem dX4_begin_44 : decode cX4_begin 44 = .ok (.iastore, 1) := by decide +kernel
theorem dX4_begin_45 : decode cX4_begin 45 = .ok (.iinc 3 1, 3) := by decide +kernel
theorem dX4_begin_48 : decode cX4_begin 48 = .ok (.goto (-19), 3) := by decide +kernel
theorem dX4_begin_51 : decode cX4_begin 51 = .ok (.return_, 1) := by decide +kernel
theorem dX4_hasPlaces_0 : decode cX4_hasPlaces 0 = .ok (.iload_n 1, 1) := by decide +kernel
theorem dX4_hasPlaces_1 : decode cX4_hasPlaces 1 = .ok (.ifCond .lt 29, 3) := by decide +kernel
theorem dX4_hasPlaces_4 : decode cX4_hasPlaces 4 = .ok (.iload_n 2, 1) := by decide +kernel
theorem dX4_hasPlaces_5 : decode cX4_hasPlaces 5 = .ok (.ifCond .lt 25, 3) := by decide +kernel
theorem dX4_hasPlaces_8 : decode cX4_hasPlaces 8 = .ok (.iload_n 1, 1) := by decide +kernel
theorem dX4_hasPlaces_9 : decode cX4_hasPlaces 9 = .ok (.aload_n 0, 1) := by decide +kernel
theorem dX4_hasPlaces_10 : decode cX4_hasPlaces 10 = .ok (.getfield 32, 3) := by decide +kernel
theorem dX4_hasPlaces_13 : decode cX4_hasPlaces 13 = .ok (.if_icmp .gt 17, 3) := by decide +kernel
theorem dX4_hasPlaces_16 : decode cX4_hasPlaces 16 = .ok (.iload_n 2, 1) := by decide +kernel
theorem dX4_hasPlaces_17 : decode cX4_hasPlaces 17 = .ok (.aload_n 0, 1) := by decide +kernel
theorem dX4_hasPlaces_18 : decode cX4_hasPlaces 18 = .ok (.getfield 32, 3) := by decide +kernel
theorem dX4_hasPlaces_21 : decode cX4_hasPlaces 21 = .ok (.iload_n 1, 1) := by decide +kernel
theorem dX4_hasPlaces_22 : decode cX4_hasPlaces 22 = .ok (.isub, 1) := by decide +kernel
theorem dX4_hasPlaces_23 : decode cX4_hasPlaces 23 = .ok (.if_icmp .gt 7, 3) := by decide +kernel
theorem dX4_hasPlaces_26 : decode cX4_hasPlaces 26 = .ok (.iconst 1, 1) := by decide +kernel
theorem dX4_hasPlaces_27 : decode cX4_hasPlaces 27 = .ok (.goto 4, 3) := by decide +kernel
theorem dX4_hasPlaces_30 : decode cX4_hasPlaces 30 = .ok (.iconst 0, 1) := by decide +kernel
theorem dX4_hasPlaces_31 : decode cX4_hasPlaces 31 = .ok (.ireturn, 1) := by decide +kernel
theorem dX4_at_0 : decode cX4_at 0 = .ok (.iload_n 1, 1) := by decide +kernel
theorem dX4_at_1 : decode cX4_at 1 = .ok (.ifCond .lt 21, 3) := by decide +kernel
theorem dX4_at_4 : decode cX4_at 4 = .ok (.iload_n 1, 1) := by decide +kernel
theorem dX4_at_5 : decode cX4_at 5 = .ok (.aload_n 0, 1) := by decide +kernel
theorem dX4_at_6 : decode cX4_at 6 = .ok (.getfield 9, 3) := by decide +kernel
theorem dX4_at_9 : decode cX4_at 9 = .ok (.arraylength, 1) := by decide +kernel
theorem dX4_at_10 : decode cX4_at 10 = .ok (.if_icmp .ge 12, 3) := by decide +kernel
theorem dX4_at_13 : decode cX4_at 13 = .ok (.aload_n 0, 1) := by decide +kernel
theorem dX4_at_14 : decode cX4_at 14 = .ok (.getfield 9, 3) := by decide +kernel
theorem dX4_at_17 : decode cX4_at 17 = .ok (.iload_n 1, 1) := by decide +kernel
theorem dX4_at_18 : decode cX4_at 18 = .ok (.iaload, 1) := by decide +kernel
theorem dX4_at_19 : decode cX4_at 19 = .ok (.goto 4, 3) := by decide +kernel
theorem dX4_at_22 : decode cX4_at 22 = .ok (.iconst 0, 1) := by decide +kernel
theorem dX4_at_23 : decode cX4_at 23 = .ok (.ireturn, 1) := by decide +kernel
theorem dX4_put_0 : decode cX4_put 0 = .ok (.aload_n 0, 1) := by decide +kernel
theorem dX4_put_1 : decode cX4_put 1 = .ok (.getfield 19, 3) := by decide +kernel
theorem dX4_put_4 : decode cX4_put 4 = .ok (.ifCond .ne 8, 3) := by decide +kernel
theorem dX4_put_7 : decode cX4_put 7 = .ok (.iload_n 2, 1) := by decide +kernel
theorem dX4_put_8 : decode cX4_put 8 = .ok (.i2b, 1) := by decide +kernel
theorem dX4_put_9 : decode cX4_put 9 = .ok (.goto 17, 3) := by decide +kernel
theorem dX4_put_12 : decode cX4_put 12 = .ok (.aload_n 0, 1) := by decide +kernel
theorem dX4_put_13 : decode cX4_put 13 = .ok (.getfield 19, 3) := by decide +kernel
theorem dX4_put_16 : decode cX4_put 16 = .ok (.iconst 1, 1) := by decide +kernel
theorem dX4_put_17 : decode cX4_put 17 = .ok (.if_icmp .ne 8, 3) := by decide +kernel
theorem dX4_put_20 : decode cX4_put 20 = .ok (.iload_n 2, 1) := by decide +kernel
theorem dX4_put_21 : decode cX4_put 21 = .ok (.i2s, 1) := by decide +kernel
theorem dX4_put_22 : decode cX4_put 22 = .ok (.goto 4, 3) := by decide +kernel
theorem dX4_put_25 : decode cX4_put 25 = .ok (.iload_n 2, 1) := by decide +kernel
theorem dX4_put_26 : decode cX4_put 26 = .ok (.istore_n 3, 1) := by decide +kernel
theorem dX4_put_27 : decode cX4_put 27 = .ok (.iload_n 1, 1) := by decide +kernel
theorem dX4_put_28 : decode cX4_put 28 = .ok (.ifCond .lt 19, 3) := by decide +kernel
theorem dX4_put_31 : decode cX4_put 31 = .ok (.iload_n 1, 1) := by decide +kernel
theorem dX4_put_32 : decode cX4_put 32 = .ok (.aload_n 0, 1) := by decide +kernel
theorem dX4_put_33 : decode cX4_put 33 = .ok (.getfield 9, 3) := by decide +kernel
theorem dX4_put_36 : decode cX4_put 36 = .ok (.arraylength, 1) := by decide +kernel
theorem dX4_put_37 : decode cX4_put 37 = .ok (.if_icmp .ge 10, 3) := by decide +kernel
theorem dX4_put_40 : decode cX4_put 40 = .ok (.aload_n 0, 1) := by decide +kernel
theorem dX4_put_41 : decode cX4_put 41 = .ok (.getfield 9, 3) := by decide +kernel
theorem dX4_put_44 : decode cX4_put 44 = .ok (.iload_n 1, 1) := by decide +kernel
theorem dX4_put_45 : decode cX4_put 45 = .ok (.iload_n 3, 1) := by decide +kernel
theorem dX4_put_46 : decode cX4_put 46 = .ok (.iastore, 1) := by decide +kernel
theorem dX4_put_47 : decode cX4_put 47 = .ok (.iload_n 3, 1) := by decide +kernel
theorem dX4_put_48 : decode cX4_put 48 = .ok (.ireturn, 1) := by decide +kernel
theorem dX5_init_0 : decode cX5_init 0 = .ok (.aload_n 0, 1) := by decide +kernel
theorem dX5_init_1 : decode cX5_init 1 = .ok (.invokespecial 3, 3) := by decide +kernel
theorem dX5_init_4 : decode cX5_init 4 = .ok (.aload_n 0, 1) := by decide +kernel
theorem dX5_init_5 : decode cX5_init 5 = .ok (.bipush 7, 2) := by decide +kernel
theorem dX5_init_7 : decode cX5_init 7 = .ok (.anewarray 9, 3) := by decide +kernel
theorem dX5_init_10 : decode cX5_init 10 = .ok (.putfield 11, 3) := by decide +kernel
theorem dX5_init_13 : decode cX5_init 13 = .ok (.aload_n 0, 1) := by decide +kernel
theorem dX5_init_14 : decode cX5_init 14 = .ok (.iconst 4, 1) := by decide +kernel
theorem dX5_init_15 : decode cX5_init 15 = .ok (.anewarray 17, 3) := by decide +kernel
theorem dX5_init_18 : decode cX5_init 18 = .ok (.putfield 19, 3) := by decide +kernel
theorem dX5_init_21 : decode cX5_init 21 = .ok (.iconst 0, 1) := by decide +kernel
theorem dX5_init_22 : decode cX5_init 22 = .ok (.istore_n 1, 1) := by decide +kernel
theorem dX5_init_23 : decode cX5_init 23 = .ok (.iload_n 1, 1) := by decide +kernel
theorem dX5_init_24 : decode cX5_init 24 = .ok (.aload_n 0, 1) := by decide +kernel
theorem dX5_init_25 : decode cX5_init 25 = .ok (.getfield 11, 3) := by decide +kernel
theorem dX5_init_28 : decode cX5_init 28 = .ok (.arraylength, 1) := by decide +kernel
theorem dX5_init_29 : decode cX5_init 29 = .ok (.if_icmp .ge 23, 3) := by decide +kernel
theorem dX5_init_32 : decode cX5_init 32 = .ok (.aload_n 0, 1) := by decide +kernel
theorem dX5_init_33 : decode cX5_init 33 = .ok (.getfield 11, 3) := by decide +kernel
theorem dX5_init_36 : decode cX5_init 36 = .ok (.iload_n 1, 1) := by decide +kernel
theorem dX5_init_37 : decode cX5_init 37 = .ok (.new 9, 3) := by decide +kernel
theorem dX5_init_40 : decode cX5_init 40 = .ok (.dup, 1) := by decide +kernel
theorem dX5_init_41 : decode cX5_init 41 = .ok (.iload_n 1, 1) := by decide +kernel
theorem dX5_init_42 : decode cX5_init 42 = .ok (.invokespecial 23, 3) := by decide +kernel
theorem dX5_init_45 : decode cX5_init 45 = .ok (.aastore, 1) := by decide +kernel
theorem dX5_init_46 : decode cX5_init 46 = .ok (.iinc 1 1, 3) := by decide +kernel
theorem dX5_init_49 : decode cX5_init 49 = .ok (.goto (-26), 3) := by decide +kernel
theorem dX5_init_52 : decode cX5_init 52 = .ok (.iconst 0, 1) := by decide +kernel
theorem dX5_init_53 : decode cX5_init 53 = .ok (.istore_n 1, 1) := by decide +kernel
theorem dX5_init_54 : decode cX5_init 54 = .ok (.iload_n 1, 1) := by decide +kernel
theorem dX5_init_55 : decode cX5_init 55 = .ok (.aload_n 0, 1) := by decide +kernel
theorem dX5_init_56 : decode cX5_init 56 = .ok (.getfield 19, 3) := by decide +kernel
theorem dX5_init_59 : decode cX5_init 59 = .ok (.arraylength, 1) := by decide +kernel
theorem dX5_init_60 : decode cX5_init 60 = .ok (.if_icmp .ge 23, 3) := by decide +kernel
theorem dX5_init_63 : decode cX5_init 63 = .ok (.aload_n 0, 1) := by decide +kernel
theorem dX5_init_64 : decode cX5_init 64 = .ok (.getfield 19, 3) := by decide +kernel
theorem dX5_init_67 : decode cX5_init 67 = .ok (.iload_n 1, 1) := by decide +kernel
theorem dX5_init_68 : decode cX5_init 68 = .ok (.new 17, 3) := by decide +kernel
theorem dX5_init_71 : decode cX5_init 71 = .ok (.dup, 1) := by decide +kernel
theorem dX5_init_72 : decode cX5_init 72 = .ok (.iload_n 1, 1) := by decide +kernel
theorem dX5_init_73 : decode cX5_init 73 = .ok (.invokespecial 26, 3) := by decide +kernel
theorem dX5_init_76 : decode cX5_init 76 = .ok (.aastore, 1) := by decide +kernel
theorem dX5_init_77 : decode cX5_init 77 = .ok (.iinc 1 1, 3) := by decide +kernel
theorem dX5_init_80 : decode cX5_init 80 = .ok (.goto (-26), 3) := by decide +kernel
theorem dX5_init_83 : decode cX5_init 83 = .ok (.return_, 1) := by decide +kernel
theorem dX5_take_0 : decode cX5_take 0 = .ok (.aload_n 0, 1) := by decide +kernel
theorem dX5_take_1 : decode cX5_take 1 = .ok (.aload_n 1, 1) := by decide +kernel
theorem dX5_take_2 : decode cX5_take 2 = .ok (.getfield 27, 3) := by decide +kernel
theorem dX5_take_5 : decode cX5_take 5 = .ok (.putfield 27, 3) := by decide +kernel
theorem dX5_take_8 : decode cX5_take 8 = .ok (.aload_n 0, 1) := by decide +kernel
theorem dX5_take_9 : decode cX5_take 9 = .ok (.aload_n 1, 1) := by decide +kernel
theorem dX5_take_10 : decode cX5_take 10 = .ok (.getfield 31, 3) := by decide +kernel
theorem dX5_take_13 : decode cX5_take 13 = .ok (.putfield 31, 3) := by decide +kernel
theorem dX5_take_16 : decode cX5_take 16 = .ok (.aload_n 0, 1) := by decide +kernel
theorem dX5_take_17 : decode cX5_take 17 = .ok (.aload_n 1, 1) := by decide +kernel
theorem dX5_take_18 : decode cX5_take 18 = .ok (.getfield 34, 3) := by decide +kernel
theorem dX5_take_21 : decode cX5_take 21 = .ok (.putfield 34, 3) := by decide +kernel
theorem dX5_take_24 : decode cX5_take 24 = .ok (.aload_n 0, 1) := by decide +kernel
theorem dX5_take_25 : decode cX5_take 25 = .ok (.aload_n 1, 1) := by decide +kernel
theorem dX5_take_26 : decode cX5_take 26 = .ok (.getfield 37, 3) := by decide +kernel
theorem dX5_take_29 : decode cX5_take 29 = .ok (.putfield 37, 3) := by decide +kernel
theorem dX5_take_32 : decode cX5_take 32 = .ok (.aload_n 0, 1) := by decide +kernel
theorem dX5_take_33 : decode cX5_take 33 = .ok (.aload_n 1, 1) := by decide +kernel
theorem dX5_take_34 : decode cX5_take 34 = .ok (.getfield 40, 3) := by decide +kernel
theorem dX5_take_37 : decode cX5_take 37 = .ok (.putfield 40, 3) := by decide +kernel
theorem dX5_take_40 : decode cX5_take 40 = .ok (.aload_n 0, 1) := by decide +kernel
theorem dX5_take_41 : decode cX5_take 41 = .ok (.iconst 0, 1) := by decide +kernel
theorem dX5_take_42 : decode cX5_take 42 = .ok (.putfield 43, 3) := by decide +kernel
theorem dX5_take_45 : decode cX5_take 45 = .ok (.iconst 0, 1) := by decide +kernel
theorem dX5_take_46 : decode cX5_take 46 = .ok (.istore_n 2, 1) := by decide +kernel
theorem dX5_take_47 : decode cX5_take 47 = .ok (.iload_n 2, 1) := by decide +kernel
theorem dX5_take_48 : decode cX5_take 48 = .ok (.aload_n 0, 1) := by decide +kernel
theorem dX5_take_49 : decode cX5_take 49 = .ok (.getfield 11, 3) := by decide +kernel
theorem dX5_take_52 : decode cX5_take 52 = .ok (.arraylength, 1) := by decide +kernel
theorem dX5_take_53 : decode cX5_take 53 = .ok (.if_icmp .ge 33, 3) := by decide +kernel
theorem dX5_take_56 : decode cX5_take 56 = .ok (.iload_n 2, 1) := by decide +kernel
theorem dX5_take_57 : decode cX5_take 57 = .ok (.aload_n 1, 1) := by decide +kernel
theorem dX5_take_58 : decode cX5_take 58 = .ok (.getfield 11, 3) := by decide +kernel
theorem dX5_take_61 : decode cX5_take 61 = .ok (.arraylength, 1) := by decide +kernel
theorem dX5_take_62 : decode cX5_take 62 = .ok (.if_icmp .ge 24, 3) := by decide +kernel
theorem dX5_take_65 : decode cX5_take 65 = .ok (.aload_n 0, 1) := by decide +kernel
theorem dX5_take_66 : decode cX5_take 66 = .ok (.getfield 11, 3) := by decide +kernel
theorem dX5_take_69 : decode cX5_take 69 = .ok (.iload_n 2, 1) := by decide +kernel
theorem dX5_take_70 : decode cX5_take 70 = .ok (.aaload, 1) := by decide +kernel
theorem dX5_take_71 : decode cX5_take 71 = .ok (.aload_n 1, 1) := by decide +kernel
theorem dX5_take_72 : decode cX5_take 72 = .ok (.getfield 11, 3) := by decide +kernel
theorem dX5_take_75 : decode cX5_take 75 = .ok (.iload_n 2, 1) := by decide +kernel
theorem dX5_take_76 : decode cX5_take 76 = .ok (.aaload, 1) := by decide +kernel
theorem dX5_take_77 : decode cX5_take 77 = .ok (.invokevirtual 46, 3) := by decide +kernel
theorem dX5_take_80 : decode cX5_take 80 = .ok (.iinc 2 1, 3) := by decide +kernel
theorem dX5_take_83 : decode cX5_take 83 = .ok (.goto (-36), 3) := by decide +kernel
theorem dX5_take_86 : decode cX5_take 86 = .ok (.iconst 0, 1) := by decide +kernel
theorem dX5_take_87 : decode cX5_take 87 = .ok (.istore_n 2, 1) := by decide +kernel
theorem dX5_take_88 : decode cX5_take 88 = .ok (.iload_n 2, 1) := by decide +kernel
theorem dX5_take_89 : decode cX5_take 89 = .ok (.aload_n 0, 1) := by decide +kernel
theorem dX5_take_90 : decode cX5_take 90 = .ok (.getfield 19, 3) := by decide +kernel
theorem dX5_take_93 : decode cX5_take 93 = .ok (.arraylength, 1) := by decide +kernel
theorem dX5_take_94 : decode cX5_take 94 = .ok (.if_icmp .ge 33, 3) := by decide +kernel
theorem dX5_take_97 : decode cX5_take 97 = .ok (.iload_n 2, 1) := by decide +kernel
theorem dX5_take_98 : decode cX5_take 98 = .ok (.aload_n 1, 1) := by decide +kernel
theorem dX5_take_99 : decode cX5_take 99 = .ok (.getfield 19, 3) := by decide +kernel
theorem dX5_take_102 : decode cX5_take 102 = .ok (.arraylength, 1) := by decide +kernel
theorem dX5_take_103 : decode cX5_take 103 = .ok (.if_icmp .ge 24, 3) := by decide +kernel
theorem dX5_take_106 : decode cX5_take 106 = .ok (.aload_n 0, 1) := by decide +kernel
theorem dX5_take_107 : decode cX5_take 107 = .ok (.getfield 19, 3) := by decide +kernel
theorem dX5_take_110 : decode cX5_take 110 = .ok (.iload_n 2, 1) := by decide +kernel
theorem dX5_take_111 : decode cX5_take 111 = .ok (.aaload, 1) := by decide +kernel
theorem dX5_take_112 : decode cX5_take 112 = .ok (.aload_n 1, 1) := by decide +kernel
theorem dX5_take_113 : decode cX5_take 113 = .ok (.getfield 19, 3) := by decide +kernel
theorem dX5_take_116 : decode cX5_take 116 = .ok (.iload_n 2, 1) := by decide +kernel
theorem dX5_take_117 : decode cX5_take 117 = .ok (.aaload, 1) := by decide +kernel
theorem dX5_take_118 : decode cX5_take 118 = .ok (.invokevirtual 50, 3) := by decide +kernel
theorem dX5_take_121 : decode cX5_take 121 = .ok (.iinc 2 1, 3) := by decide +kernel
theorem dX5_take_124 : decode cX5_take 124 = .ok (.goto (-36), 3) := by decide +kernel
theorem dX5_take_127 : decode cX5_take 127 = .ok (.return_, 1) := by decide +kernel
theorem dX5_clear_0 : decode cX5_clear 0 = .ok (.aload_n 0, 1) := by decide +kernel
theorem dX5_clear_1 : decode cX5_clear 1 = .ok (.iconst 0, 1) := by decide +kernel
theorem dX5_clear_2 : decode cX5_clear 2 = .ok (.putfield 27, 3) := by decide +kernel
theorem dX5_clear_5 : decode cX5_clear 5 = .ok (.aload_n 0, 1) := by decide +kernel
theorem dX5_clear_6 : decode cX5_clear 6 = .ok (.iconst 0, 1) := by decide +kernel
theorem dX5_clear_7 : decode cX5_clear 7 = .ok (.putfield 31, 3) := by decide +kernel
theorem dX5_clear_10 : decode cX5_clear 10 = .ok (.aload_n 0, 1) := by decide +kernel
theorem dX5_clear_11 : decode cX5_clear 11 = .ok (.iconst 0, 1) := by decide +kernel
theorem dX5_clear_12 : decode cX5_clear 12 = .ok (.putfield 40, 3) := by decide +kernel
theorem dX5_clear_15 : decode cX5_clear 15 = .ok (.aload_n 0, 1) := by decide +kernel
theorem dX5_clear_16 : decode cX5_clear 16 = .ok (.getfield 11, 3) := by decide +kernel
theorem dX5_clear_19 : decode cX5_clear 19 = .ok (.astore_n 1, 1) := by decide +kernel
theorem dX5_clear_20 : decode cX5_clear 20 = .ok (.aload_n 1, 1) := by decide +kernel
theorem dX5_clear_21 : decode cX5_clear 21 = .ok (.arraylength, 1) := by decide +kernel
theorem dX5_clear_22 : decode cX5_clear 22 = .ok (.istore_n 2, 1) := by decide +kernel
theorem dX5_clear_23 : decode cX5_clear 23 = .ok (.iconst 0, 1) := by decide +kernel
theorem dX5_clear_24 : decode cX5_clear 24 = .ok (.istore_n 3, 1) := by decide +kernel
theorem dX5_clear_25 : decode cX5_clear 25 = .ok (.iload_n 3, 1) := by decide +kernel
theorem dX5_clear_26 : decode cX5_clear 26 = .ok (.iload_n 2, 1) := by decide +kernel
theorem dX5_clear_27 : decode cX5_clear 27 = .ok (.if_icmp .ge 20, 3) := by decide +kernel
theorem dX5_clear_30 : decode cX5_clear 30 = .ok (.aload_n 1, 1) := by decide +kernel
theorem dX5_clear_31 : decode cX5_clear 31 = .ok (.iload_n 3, 1) := by decide +kernel
theorem dX5_clear_32 : decode cX5_clear 32 = .ok (.aaload, 1) := by decide +kernel
theorem dX5_clear_33 : decode cX5_clear 33 = .ok (.astore 4, 2) := by decide +kernel
theorem dX5_clear_35 : decode cX5_clear 35 = .ok (.aload 4, 2) := by decide +kernel
theorem dX5_clear_37 : decode cX5_clear 37 = .ok (.iconst 0, 1) := by decide +kernel
theorem dX5_clear_38 : decode cX5_clear 38 = .ok (.putfield 53, 3) := by decide +kernel
theorem dX5_clear_41 : decode cX5_clear 41 = .ok (.iinc 3 1, 3) := by decide +kernel
theorem dX5_clear_44 : decode cX5_clear 44 = .ok (.goto (-19), 3) := by decide +kernel
theorem dX5_clear_47 : decode cX5_clear 47 = .ok (.aload_n 0, 1) := by decide +kernel
theorem dX5_clear_48 : decode cX5_clear 48 = .ok (.getfield 19, 3) := by decide +kernel
theorem dX5_clear_51 : decode cX5_clear 51 = .ok (.astore_n 1, 1) := by decide +kernel
theorem dX5_clear_52 : decode cX5_clear 52 = .ok (.aload_n 1, 1) := by decide +kernel
theorem dX5_clear_53 : decode cX5_clear 53 = .ok (.arraylength, 1) := by decide +kernel
theorem dX5_clear_54 : decode cX5_clear 54 = .ok (.istore_n 2, 1) := by decide +kernel
theorem dX5_clear_55 : decode cX5_clear 55 = .ok (.iconst 0, 1) := by decide +kernel
theorem dX5_clear_56 : decode cX5_clear 56 = .ok (.istore_n 3, 1) := by decide +kernel
theorem dX5_clear_57 : decode cX5_clear 57 = .ok (.iload_n 3, 1) := by decide +kernel
theorem dX5_clear_58 : decode cX5_clear 58 = .ok (.iload_n 2, 1) := by decide +kernel
theorem dX5_clear_59 : decode cX5_clear 59 = .ok (.if_icmp .ge 20, 3) := by decide +kernel
theorem dX5_clear_62 : decode cX5_clear 62 = .ok (.aload_n 1, 1) := by decide +kernel
theorem dX5_clear_63 : decode cX5_clear 63 = .ok (.iload_n 3, 1) := by decide +kernel
theorem dX5_clear_64 : decode cX5_clear 64 = .ok (.aaload, 1) := by decide +kernel
theorem dX5_clear_65 : decode cX5_clear 65 = .ok (.astore 4, 2) := by decide +kernel
theorem dX5_clear_67 : decode cX5_clear 67 = .ok (.aload 4, 2) := by decide +kernel
theorem dX5_clear_69 : decode cX5_clear 69 = .ok (.iconst 0, 1) := by decide +kernel
theorem dX5_clear_70 : decode cX5_clear 70 = .ok (.putfield 56, 3) := by decide +kernel
theorem dX5_clear_73 : decode cX5_clear 73 = .ok (.iinc 3 1, 3) := by decide +kernel
theorem dX5_clear_76 : decode cX5_clear 76 = .ok (.goto (-19), 3) := by decide +kernel
theorem dX5_clear_79 : decode cX5_clear 79 = .ok (.return_, 1) := by decide +kernel
theorem dX5_isThere_0 : decode cX5_isThere 0 = .ok (.aload_n 0, 1) := by decide +kernel
theorem dX5_isThere_1 : decode cX5_isThere 1 = .ok (.getfield 27, 3) := by decide +kernel
theorem dX5_isThere_4 : decode cX5_isThere 4 = .ok (.ifCond .le 7, 3) := by decide +kernel
theorem dX5_isThere_7 : decode cX5_isThere 7 = .ok (.iconst 1, 1) := by decide +kernel
theorem dX5_isThere_8 : decode cX5_isThere 8 = .ok (.goto 4, 3) := by decide +kernel
theorem dX5_isThere_11 : decode cX5_isThere 11 = .ok (.iconst 0, 1) := by decide +kernel
theorem dX5_isThere_12 : decode cX5_isThere 12 = .ok (.ireturn, 1) := by decide +kernel
theorem dX5_leafAt_0 : decode cX5_leafAt 0 = .ok (.iload_n 1, 1) := by decide +kernel
theorem dX5_leafAt_1 : decode cX5_leafAt 1 = .ok (.ifCond .lt 29, 3) := by decide +kernel
theorem dX5_leafAt_4 : decode cX5_leafAt 4 = .ok (.iload_n 1, 1) := by decide +kernel
theorem dX5_leafAt_5 : decode cX5_leafAt 5 = .ok (.aload_n 0, 1) := by decide +kernel
theorem dX5_leafAt_6 : decode cX5_leafAt 6 = .ok (.getfield 27, 3) := by decide +kernel
theorem dX5_leafAt_9 : decode cX5_leafAt 9 = .ok (.if_icmp .ge 21, 3) := by decide +kernel
theorem dX5_leafAt_12 : decode cX5_leafAt 12 = .ok (.iload_n 1, 1) := by decide +kernel
theorem dX5_leafAt_13 : decode cX5_leafAt 13 = .ok (.aload_n 0, 1) := by decide +kernel
theorem dX5_leafAt_14 : decode cX5_leafAt 14 = .ok (.getfield 11, 3) := by decide +kernel
theorem dX5_leafAt_17 : decode cX5_leafAt 17 = .ok (.arraylength, 1) := by decide +kernel
theorem dX5_leafAt_18 : decode cX5_leafAt 18 = .ok (.if_icmp .ge 12, 3) := by decide +kernel
theorem dX5_leafAt_21 : decode cX5_leafAt 21 = .ok (.aload_n 0, 1) := by decide +kernel
theorem dX5_leafAt_22 : decode cX5_leafAt 22 = .ok (.getfield 11, 3) := by decide +kernel
theorem dX5_leafAt_25 : decode cX5_leafAt 25 = .ok (.iload_n 1, 1) := by decide +kernel
theorem dX5_leafAt_26 : decode cX5_leafAt 26 = .ok (.aaload, 1) := by decide +kernel
theorem dX5_leafAt_27 : decode cX5_leafAt 27 = .ok (.goto 4, 3) := by decide +kernel
theorem dX5_leafAt_30 : decode cX5_leafAt 30 = .ok (.aconst_null, 1) := by decide +kernel
theorem dX5_leafAt_31 : decode cX5_leafAt 31 = .ok (.areturn, 1) := by decide +kernel
theorem dX5_goatAt_0 : decode cX5_goatAt 0 = .ok (.iload_n 1, 1) := by decide +kernel
theorem dX5_goatAt_1 : decode cX5_goatAt 1 = .ok (.ifCond .lt 29, 3) := by decide +kernel
theorem dX5_goatAt_4 : decode cX5_goatAt 4 = .ok (.iload_n 1, 1) := by decide +kernel
theorem dX5_goatAt_5 : decode cX5_goatAt 5 = .ok (.aload_n 0, 1) := by decide +kernel
theorem dX5_goatAt_6 : decode cX5_goatAt 6 = .ok (.getfield 31, 3) := by decide +kernel
theorem dX5_goatAt_9 : decode cX5_goatAt 9 = .ok (.if_icmp .ge 21, 3) := by decide +kernel
theorem dX5_goatAt_12 : decode cX5_goatAt 12 = .ok (.iload_n 1, 1) := by decide +kernel
theorem dX5_goatAt_13 : decode cX5_goatAt 13 = .ok (.aload_n 0, 1) := by decide +kernel
theorem dX5_goatAt_14 : decode cX5_goatAt 14 = .ok (.getfield 19, 3) := by decide +kernel
theorem dX5_goatAt_17 : decode cX5_goatAt 17 = .ok (.arraylength, 1) := by decide +kernel
theorem dX5_goatAt_18 : decode cX5_goatAt 18 = .ok (.if_icmp .ge 12, 3) := by decide +kernel
theorem dX5_goatAt_21 : decode cX5_goatAt 21 = .ok (.aload_n 0, 1) := by decide +kernel
theorem dX5_goatAt_22 : decode cX5_goatAt 22 = .ok (.getfield 19, 3) := by decide +kernel
theorem dX5_goatAt_25 : decode cX5_goatAt 25 = .ok (.iload_n 1, 1) := by decide +kernel
theorem dX5_goatAt_26 : decode cX5_goatAt 26 = .ok (.aaload, 1) := by decide +kernel
theorem dX5_goatAt_27 : decode cX5_goatAt 27 = .ok (.goto 4, 3) := by decide +kernel
theorem dX5_goatAt_30 : decode cX5_goatAt 30 = .ok (.aconst_null, 1) := by decide +kernel
theorem dX5_goatAt_31 : decode cX5_goatAt 31 = .ok (.areturn, 1) := by decide +kernel
theorem dX5_leafIn_0 : decode cX5_leafIn 0 = .ok (.aload_n 0, 1) := by decide +kernel
theorem dX5_leafIn_1 : decode cX5_leafIn 1 = .ok (.aload_n 1, 1) := by decide +kernel
theorem dX5_leafIn_2 : decode cX5_leafIn 2 = .ok (.invokevirtual 59, 3) := by decide +kernel
theorem dX5_leafIn_5 : decode cX5_leafIn 5 = .ok (.aload_n 0, 1) := by decide +kernel
theorem dX5_leafIn_6 : decode cX5_leafIn 6 = .ok (.iload_n 2, 1) := by decide +kernel
theorem dX5_leafIn_7 : decode cX5_leafIn 7 = .ok (.invokevirtual 62, 3) := by decide +kernel
theorem dX5_leafIn_10 : decode cX5_leafIn 10 = .ok (.areturn, 1) := by decide +kernel
theorem dX5_hasLeaves_0 : decode cX5_hasLeaves 0 = .ok (.iload_n 1, 1) := by decide +kernel
theorem dX5_hasLeaves_1 : decode cX5_hasLeaves 1 = .ok (.ifCond .lt 17, 3) := by decide +kernel
theorem dX5_hasLeaves_4 : decode cX5_hasLeaves 4 = .ok (.iload_n 1, 1) := by decide +kernel
theorem dX5_hasLeaves_5 : decode cX5_hasLeaves 5 = .ok (.iconst 1, 1) := by decide +kernel
theorem dX5_hasLeaves_6 : decode cX5_hasLeaves 6 = .ok (.aload_n 0, 1) := by decide +kernel
theorem dX5_hasLeaves_7 : decode cX5_hasLeaves 7 = .ok (.getfield 27, 3) := by decide +kernel
theorem dX5_hasLeaves_10 : decode cX5_hasLeaves 10 = .ok (.ishl, 1) := by decide +kernel
theorem dX5_hasLeaves_11 : decode cX5_hasLeaves 11 = .ok (.if_icmp .ge 7, 3) := by decide +kernel
theorem dX5_hasLeaves_14 : decode cX5_hasLeaves 14 = .ok (.iconst 1, 1) := by decide +kernel
theorem dX5_hasLeaves_15 : decode cX5_hasLeaves 15 = .ok (.goto 4, 3) := by decide +kernel
theorem dX5_hasLeaves_18 : decode cX5_hasLeaves 18 = .ok (.iconst 0, 1) := by decide +kernel
theorem dX5_hasLeaves_19 : decode cX5_hasLeaves 19 = .ok (.ireturn, 1) := by decide +kernel
theorem dX5_inForce_0 : decode cX5_inForce 0 = .ok (.iconst 0, 1) := by decide +kernel
theorem dX5_inForce_1 : decode cX5_inForce 1 = .ok (.istore_n 1, 1) := by decide +kernel
theorem dX5_inForce_2 : decode cX5_inForce 2 = .ok (.aload_n 0, 1) := by decide +kernel
theorem dX5_inForce_3 : decode cX5_inForce 3 = .ok (.getfield 11, 3) := by decide +kernel
theorem dX5_inForce_6 : decode cX5_inForce 6 = .ok (.astore_n 2, 1) := by decide +kernel
theorem dX5_inForce_7 : decode cX5_inForce 7 = .ok (.aload_n 2, 1) := by decide +kernel
theorem dX5_inForce_8 : decode cX5_inForce 8 = .ok (.arraylength, 1) := by decide +kernel
theorem dX5_inForce_9 : decode cX5_inForce 9 = .ok (.istore_n 3, 1) := by decide +kernel
theorem dX5_inForce_10 : decode cX5_inForce 10 = .ok (.iconst 0, 1) := by decide +kernel
theorem dX5_inForce_11 : decode cX5_inForce 11 = .ok (.istore 4, 2) := by decide +kernel
theorem dX5_inForce_13 : decode cX5_inForce 13 = .ok (.iload 4, 2) := by decide +kernel
theorem dX5_inForce_15 : decode cX5_inForce 15 = .ok (.iload_n 3, 1) := by decide +kernel
theorem dX5_inForce_16 : decode cX5_inForce 16 = .ok (.if_icmp .ge 37, 3) := by decide +kernel
theorem dX5_inForce_19 : decode cX5_inForce 19 = .ok (.aload_n 2, 1) := by decide +kernel
theorem dX5_inForce_20 : decode cX5_inForce 20 = .ok (.iload 4, 2) := by decide +kernel
theorem dX5_inForce_22 : decode cX5_inForce 22 = .ok (.aaload, 1) := by decide +kernel
theorem dX5_inForce_23 : decode cX5_inForce 23 = .ok (.astore 5, 2) := by decide +kernel
theorem dX5_inForce_25 : decode cX5_inForce 25 = .ok (.iload_n 1, 1) := by decide +kernel
theorem dX5_inForce_26 : decode cX5_inForce 26 = .ok (.aload 5, 2) := by decide +kernel
theorem dX5_inForce_28 : decode cX5_inForce 28 = .ok (.invokevirtual 66, 3) := by decide +kernel
theorem dX5_inForce_31 : decode cX5_inForce 31 = .ok (.ifCond .eq 13, 3) := by decide +kernel
theorem dX5_inForce_34 : decode cX5_inForce 34 = .ok (.iconst 1, 1) := by decide +kernel
theorem dX5_inForce_35 : decode cX5_inForce 35 = .ok (.aload 5, 2) := by decide +kernel
theorem dX5_inForce_37 : decode cX5_inForce 37 = .ok (.getfield 70, 3) := by decide +kernel
theorem dX5_inForce_40 : decode cX5_inForce 40 = .ok (.ishl, 1) := by decide +kernel
theorem dX5_inForce_41 : decode cX5_inForce 41 = .ok (.goto 4, 3) := by decide +kernel
theorem dX5_inForce_44 : decode cX5_inForce 44 = .ok (.iconst 0, 1) := by decide +kernel
theorem dX5_inForce_45 : decode cX5_inForce 45 = .ok (.ior, 1) := by decide +kernel
theorem dX5_inForce_46 : decode cX5_inForce 46 = .ok (.istore_n 1, 1) := by decide +kernel
theorem dX5_inForce_47 : decode cX5_inForce 47 = .ok (.iinc 4 1, 3) := by decide +kernel
theorem dX5_inForce_50 : decode cX5_inForce 50 = .ok (.goto (-37), 3) := by decide +kernel
theorem dX5_inForce_53 : decode cX5_inForce 53 = .ok (.iload_n 1, 1) := by decide +kernel
theorem dX5_inForce_54 : decode cX5_inForce 54 = .ok (.ireturn, 1) := by decide +kernel
theorem dX5_notVoid_0 : decode cX5_notVoid 0 = .ok (.iconst 0, 1) := by decide +kernel
theorem dX5_notVoid_1 : decode cX5_notVoid 1 = .ok (.istore_n 1, 1) := by decide +kernel
theorem dX5_notVoid_2 : decode cX5_notVoid 2 = .ok (.aload_n 0, 1) := by decide +kernel
theorem dX5_notVoid_3 : decode cX5_notVoid 3 = .ok (.getfield 11, 3) := by decide +kernel
theorem dX5_notVoid_6 : decode cX5_notVoid 6 = .ok (.astore_n 2, 1) := by decide +kernel
theorem dX5_notVoid_7 : decode cX5_notVoid 7 = .ok (.aload_n 2, 1) := by decide +kernel
theorem dX5_notVoid_8 : decode cX5_notVoid 8 = .ok (.arraylength, 1) := by decide +kernel
theorem dX5_notVoid_9 : decode cX5_notVoid 9 = .ok (.istore_n 3, 1) := by decide +kernel
theorem dX5_notVoid_10 : decode cX5_notVoid 10 = .ok (.iconst 0, 1) := by decide +kernel
theorem dX5_notVoid_11 : decode cX5_notVoid 11 = .ok (.istore 4, 2) := by decide +kernel
theorem dX5_notVoid_13 : decode cX5_notVoid 13 = .ok (.iload 4, 2) := by decide +kernel
theorem dX5_notVoid_15 : decode cX5_notVoid 15 = .ok (.iload_n 3, 1) := by decide +kernel
theorem dX5_notVoid_16 : decode cX5_notVoid 16 = .ok (.if_icmp .ge 37, 3) := by decide +kernel
theorem dX5_notVoid_19 : decode cX5_notVoid 19 = .ok (.aload_n 2, 1) := by decide +kernel
theorem dX5_notVoid_20 : decode cX5_notVoid 20 = .ok (.iload 4, 2) := by decide +kernel
theorem dX5_notVoid_22 : decode cX5_notVoid 22 = .ok (.aaload, 1) := by decide +kernel
theorem dX5_notVoid_23 : decode cX5_notVoid 23 = .ok (.astore 5, 2) := by decide +kernel
theorem dX5_notVoid_25 : decode cX5_notVoid 25 = .ok (.iload_n 1, 1) := by decide +kernel
theorem dX5_notVoid_26 : decode cX5_notVoid 26 = .ok (.aload 5, 2) := by decide +kernel
theorem dX5_notVoid_28 : decode cX5_notVoid 28 = .ok (.invokevirtual 73, 3) := by decide +kernel
theorem dX5_notVoid_31 : decode cX5_notVoid 31 = .ok (.ifCond .eq 7, 3) := by decide +kernel
theorem dX5_notVoid_34 : decode cX5_notVoid 34 = .ok (.iconst 0, 1) := by decide +kernel
theorem dX5_notVoid_35 : decode cX5_notVoid 35 = .ok (.goto 10, 3) := by decide +kernel
theorem dX5_notVoid_38 : decode cX5_notVoid 38 = .ok (.iconst 1, 1) := by decide +kernel
theorem dX5_notVoid_39 : decode cX5_notVoid 39 = .ok (.aload 5, 2) := by decide +kernel
theorem dX5_notVoid_41 : decode cX5_notVoid 41 = .ok (.getfield 70, 3) := by decide +kernel
theorem dX5_notVoid_44 : decode cX5_notVoid 44 = .ok (.ishl, 1) := by decide +kernel
theorem dX5_notVoid_45 : decode cX5_notVoid 45 = .ok (.ior, 1) := by decide +kernel
theorem dX5_notVoid_46 : decode cX5_notVoid 46 = .ok (.istore_n 1, 1) := by decide +kernel
theorem dX5_notVoid_47 : decode cX5_notVoid 47 = .ok (.iinc 4 1, 3) := by decide +kernel
theorem dX5_notVoid_50 : decode cX5_notVoid 50 = .ok (.goto (-37), 3) := by decide +kernel
theorem dX5_notVoid_53 : decode cX5_notVoid 53 = .ok (.iload_n 1, 1) := by decide +kernel
theorem dX5_notVoid_54 : decode cX5_notVoid 54 = .ok (.ireturn, 1) := by decide +kernel
theorem dX5_leftOfAll_0 : decode cX5_leftOfAll 0 = .ok (.iconst 0, 1) := by decide +kernel
theorem dX5_leftOfAll_1 : decode cX5_leftOfAll 1 = .ok (.istore_n 1, 1) := by decide +kernel
theorem dX5_leftOfAll_2 : decode cX5_leftOfAll 2 = .ok (.aload_n 0, 1) := by decide +kernel
theorem dX5_leftOfAll_3 : decode cX5_leftOfAll 3 = .ok (.getfield 11, 3) := by decide +kernel
theorem dX5_leftOfAll_6 : decode cX5_leftOfAll 6 = .ok (.astore_n 2, 1) := by decide +kernel
theorem dX5_leftOfAll_7 : decode cX5_leftOfAll 7 = .ok (.aload_n 2, 1) := by decide +kernel
theorem dX5_leftOfAll_8 : decode cX5_leftOfAll 8 = .ok (.arraylength, 1) := by decide +kernel
theorem dX5_leftOfAll_9 : decode cX5_leftOfAll 9 = .ok (.istore_n 3, 1) := by decide +kernel
theorem dX5_leftOfAll_10 : decode cX5_leftOfAll 10 = .ok (.iconst 0, 1) := by decide +kernel
theorem dX5_leftOfAll_11 : decode cX5_leftOfAll 11 = .ok (.istore 4, 2) := by decide +kernel
theorem dX5_leftOfAll_13 : decode cX5_leftOfAll 13 = .ok (.iload 4, 2) := by decide +kernel
theorem dX5_leftOfAll_15 : decode cX5_leftOfAll 15 = .ok (.iload_n 3, 1) := by decide +kernel
theorem dX5_leftOfAll_16 : decode cX5_leftOfAll 16 = .ok (.if_icmp .ge 23, 3) := by decide +kernel
theorem dX5_leftOfAll_19 : decode cX5_leftOfAll 19 = .ok (.aload_n 2, 1) := by decide +kernel
theorem dX5_leftOfAll_20 : decode cX5_leftOfAll 20 = .ok (.iload 4, 2) := by decide +kernel
theorem dX5_leftOfAll_22 : decode cX5_leftOfAll 22 = .ok (.aaload, 1) := by decide +kernel
theorem dX5_leftOfAll_23 : decode cX5_leftOfAll 23 = .ok (.astore 5, 2) := by decide +kernel
theorem dX5_leftOfAll_25 : decode cX5_leftOfAll 25 = .ok (.iload_n 1, 1) := by decide +kernel
theorem dX5_leftOfAll_26 : decode cX5_leftOfAll 26 = .ok (.aload 5, 2) := by decide +kernel
theorem dX5_leftOfAll_28 : decode cX5_leftOfAll 28 = .ok (.getfield 53, 3) := by decide +kernel
theorem dX5_leftOfAll_31 : decode cX5_leftOfAll 31 = .ok (.iadd, 1) := by decide +kernel
theorem dX5_leftOfAll_32 : decode cX5_leftOfAll 32 = .ok (.istore_n 1, 1) := by decide +kernel
theorem dX5_leftOfAll_33 : decode cX5_leftOfAll 33 = .ok (.iinc 4 1, 3) := by decide +kernel
theorem dX5_leftOfAll_36 : decode cX5_leftOfAll 36 = .ok (.goto (-23), 3) := by decide +kernel
theorem dX5_leftOfAll_39 : decode cX5_leftOfAll 39 = .ok (.iload_n 1, 1) := by decide +kernel
theorem dX5_leftOfAll_40 : decode cX5_leftOfAll 40 = .ok (.ireturn, 1) := by decide +kernel
theorem dX5_likesAlike_0 : decode cX5_likesAlike 0 = .ok (.aload_n 1, 1) := by decide +kernel
theorem dX5_likesAlike_1 : decode cX5_likesAlike 1 = .ok (.aload_n 0, 1) := by decide +kernel
theorem dX5_likesAlike_2 : decode cX5_likesAlike 2 = .ok (.getfield 40, 3) := by decide +kernel
theorem dX5_likesAlike_5 : decode cX5_likesAlike 5 = .ok (.aload_n 0, 1) := by decide +kernel
theorem dX5_likesAlike_6 : decode cX5_likesAlike 6 = .ok (.getfield 37, 3) := by decide +kernel
theorem dX5_likesAlike_9 : decode cX5_likesAlike 9 = .ok (.invokevirtual 76, 3) := by decide +kernel
theorem dX5_likesAlike_12 : decode cX5_likesAlike 12 = .ok (.istore_n 3, 1) := by decide +kernel
theorem dX5_likesAlike_13 : decode cX5_likesAlike 13 = .ok (.iload_n 3, 1) := by decide +kernel
theorem dX5_likesAlike_14 : decode cX5_likesAlike 14 = .ok (.ldc 80, 2) := by decide +kernel
theorem dX5_likesAlike_16 : decode cX5_likesAlike 16 = .ok (.if_icmp .eq 23, 3) := by decide +kernel
theorem dX5_likesAlike_19 : decode cX5_likesAlike 19 = .ok (.iload_n 3, 1) := by decide +kernel
theorem dX5_likesAlike_20 : decode cX5_likesAlike 20 = .ok (.aload_n 2, 1) := by decide +kernel
theorem dX5_likesAlike_21 : decode cX5_likesAlike 21 = .ok (.aload_n 0, 1) := by decide +kernel
theorem dX5_likesAlike_22 : decode cX5_likesAlike 22 = .ok (.getfield 40, 3) := by decide +kernel
theorem dX5_likesAlike_25 : decode cX5_likesAlike 25 = .ok (.aload_n 0, 1) := by decide +kernel
theorem dX5_likesAlike_26 : decode cX5_likesAlike 26 = .ok (.getfield 37, 3) := by decide +kernel
theorem dX5_likesAlike_29 : decode cX5_likesAlike 29 = .ok (.invokevirtual 76, 3) := by decide +kernel
theorem dX5_likesAlike_32 : decode cX5_likesAlike 32 = .ok (.if_icmp .ne 7, 3) := by decide +kernel
theorem dX5_likesAlike_35 : decode cX5_likesAlike 35 = .ok (.iconst 1, 1) := by decide +kernel
theorem dX5_likesAlike_36 : decode cX5_likesAlike 36 = .ok (.goto 4, 3) := by decide +kernel
theorem dX5_likesAlike_39 : decode cX5_likesAlike 39 = .ok (.iconst 0, 1) := by decide +kernel
theorem dX5_likesAlike_40 : decode cX5_likesAlike 40 = .ok (.ireturn, 1) := by decide +kernel
theorem dX5_choiceOf_0 : decode cX5_choiceOf 0 = .ok (.aload_n 1, 1) := by decide +kernel
theorem dX5_choiceOf_1 : decode cX5_choiceOf 1 = .ok (.invokevirtual 81, 3) := by decide +kernel
theorem dX5_choiceOf_4 : decode cX5_choiceOf 4 = .ok (.ifCond .ne 5, 3) := by decide +kernel
theorem dX5_choiceOf_7 : decode cX5_choiceOf 7 = .ok (.aconst_null, 1) := by decide +kernel
theorem dX5_choiceOf_8 : decode cX5_choiceOf 8 = .ok (.areturn, 1) := by decide +kernel
theorem dX5_choiceOf_9 : decode cX5_choiceOf 9 = .ok (.aconst_null, 1) := by decide +kernel
theorem dX5_choiceOf_10 : decode cX5_choiceOf 10 = .ok (.astore_n 2, 1) := by decide +kernel
theorem dX5_choiceOf_11 : decode cX5_choiceOf 11 = .ok (.ldc 80, 2) := by decide +kernel
theorem dX5_choiceOf_13 : decode cX5_choiceOf 13 = .ok (.istore_n 3, 1) := by decide +kernel
theorem dX5_choiceOf_14 : decode cX5_choiceOf 14 = .ok (.aload_n 0, 1) := by decide +kernel
theorem dX5_choiceOf_15 : decode cX5_choiceOf 15 = .ok (.getfield 11, 3) := by decide +kernel
theorem dX5_choiceOf_18 : decode cX5_choiceOf 18 = .ok (.astore 4, 2) := by decide +kernel
theorem dX5_choiceOf_20 : decode cX5_choiceOf 20 = .ok (.aload 4, 2) := by decide +kernel
theorem dX5_choiceOf_22 : decode cX5_choiceOf 22 = .ok (.arraylength, 1) := by decide +kernel
theorem dX5_choiceOf_23 : decode cX5_choiceOf 23 = .ok (.istore 5, 2) := by decide +kernel
theorem dX5_choiceOf_25 : decode cX5_choiceOf 25 = .ok (.iconst 0, 1) := by decide +kernel
theorem dX5_choiceOf_26 : decode cX5_choiceOf 26 = .ok (.istore 6, 2) := by decide +kernel
theorem dX5_choiceOf_28 : decode cX5_choiceOf 28 = .ok (.iload 6, 2) := by decide +kernel
theorem dX5_choiceOf_30 : decode cX5_choiceOf 30 = .ok (.iload 5, 2) := by decide +kernel
theorem dX5_choiceOf_32 : decode cX5_choiceOf 32 = .ok (.if_icmp .ge 60, 3) := by decide +kernel
theorem dX5_choiceOf_35 : decode cX5_choiceOf 35 = .ok (.aload 4, 2) := by decide +kernel
theorem dX5_choiceOf_37 : decode cX5_choiceOf 37 = .ok (.iload 6, 2) := by decide +kernel
theorem dX5_choiceOf_39 : decode cX5_choiceOf 39 = .ok (.aaload, 1) := by decide +kernel
theorem dX5_choiceOf_40 : decode cX5_choiceOf 40 = .ok (.astore 7, 2) := by decide +kernel
theorem dX5_choiceOf_42 : decode cX5_choiceOf 42 = .ok (.aload 7, 2) := by decide +kernel
theorem dX5_choiceOf_44 : decode cX5_choiceOf 44 = .ok (.getfield 84, 3) := by decide +kernel
theorem dX5_choiceOf_47 : decode cX5_choiceOf 47 = .ok (.aload_n 1, 1) := by decide +kernel
theorem dX5_choiceOf_48 : decode cX5_choiceOf 48 = .ok (.getfield 87, 3) := by decide +kernel
theorem dX5_choiceOf_51 : decode cX5_choiceOf 51 = .ok (.if_icmp .gt 19, 3) := by decide +kernel
theorem dX5_choiceOf_54 : decode cX5_choiceOf 54 = .ok (.aload 7, 2) := by decide +kernel
theorem dX5_choiceOf_56 : decode cX5_choiceOf 56 = .ok (.aload_n 0, 1) := by decide +kernel
theorem dX5_choiceOf_57 : decode cX5_choiceOf 57 = .ok (.getfield 40, 3) := by decide +kernel
theorem dX5_choiceOf_60 : decode cX5_choiceOf 60 = .ok (.aload_n 0, 1) := by decide +kernel
theorem dX5_choiceOf_61 : decode cX5_choiceOf 61 = .ok (.getfield 37, 3) := by decide +kernel
theorem dX5_choiceOf_64 : decode cX5_choiceOf 64 = .ok (.invokevirtual 76, 3) := by decide +kernel
theorem dX5_choiceOf_67 : decode cX5_choiceOf 67 = .ok (.goto 5, 3) := by decide +kernel
theorem dX5_choiceOf_70 : decode cX5_choiceOf 70 = .ok (.ldc 80, 2) := by decide +kernel
theorem dX5_choiceOf_72 : decode cX5_choiceOf 72 = .ok (.istore 8, 2) := by decide +kernel
theorem dX5_choiceOf_74 : decode cX5_choiceOf 74 = .ok (.iload 8, 2) := by decide +kernel
theorem dX5_choiceOf_76 : decode cX5_choiceOf 76 = .ok (.iload_n 3, 1) := by decide +kernel
theorem dX5_choiceOf_77 : decode cX5_choiceOf 77 = .ok (.if_icmp .le 9, 3) := by decide +kernel
theorem dX5_choiceOf_80 : decode cX5_choiceOf 80 = .ok (.aload 7, 2) := by decide +kernel
theorem dX5_choiceOf_82 : decode cX5_choiceOf 82 = .ok (.astore_n 2, 1) := by decide +kernel
theorem dX5_choiceOf_83 : decode cX5_choiceOf 83 = .ok (.iload 8, 2) := by decide +kernel
theorem dX5_choiceOf_85 : decode cX5_choiceOf 85 = .ok (.istore_n 3, 1) := by decide +kernel
theorem dX5_choiceOf_86 : decode cX5_choiceOf 86 = .ok (.iinc 6 1, 3) := by decide +kernel
theorem dX5_choiceOf_89 : decode cX5_choiceOf 89 = .ok (.goto (-61), 3) := by decide +kernel
theorem dX5_choiceOf_92 : decode cX5_choiceOf 92 = .ok (.aload_n 2, 1) := by decide +kernel
theorem dX5_choiceOf_93 : decode cX5_choiceOf 93 = .ok (.areturn, 1) := by decide +kernel
theorem dX5_letBite_0 : decode cX5_letBite 0 = .ok (.aload_n 0, 1) := by decide +kernel
theorem dX5_letBite_1 : decode cX5_letBite 1 = .ok (.aload_n 1, 1) := by decide +kernel
theorem dX5_letBite_2 : decode cX5_letBite 2 = .ok (.invokevirtual 90, 3) := by decide +kernel
theorem dX5_letBite_5 : decode cX5_letBite 5 = .ok (.astore_n 2, 1) := by decide +kernel
theorem dX5_letBite_6 : decode cX5_letBite 6 = .ok (.aload_n 2, 1) := by decide +kernel
theorem dX5_letBite_7 : decode cX5_letBite 7 = .ok (.ifnonnull 5, 3) := by decide +kernel
theorem dX5_letBite_10 : decode cX5_letBite 10 = .ok (.iconst 0, 1) := by decide +kernel
theorem dX5_letBite_11 : decode cX5_letBite 11 = .ok (.ireturn, 1) := by decide +kernel
theorem dX5_letBite_12 : decode cX5_letBite 12 = .ok (.aload_n 2, 1) := by decide +kernel
theorem dX5_letBite_13 : decode cX5_letBite 13 = .ok (.aload_n 1, 1) := by decide +kernel
theorem dX5_letBite_14 : decode cX5_letBite 14 = .ok (.getfield 94, 3) := by decide +kernel
theorem dX5_letBite_17 : decode cX5_letBite 17 = .ok (.invokevirtual 95, 3) := by decide +kernel
theorem dX5_letBite_20 : decode cX5_letBite 20 = .ok (.istore_n 3, 1) := by decide +kernel
theorem dX5_letBite_21 : decode cX5_letBite 21 = .ok (.aload_n 1, 1) := by decide +kernel
theorem dX5_letBite_22 : decode cX5_letBite 22 = .ok (.iload_n 3, 1) := by decide +kernel
theorem dX5_letBite_23 : decode cX5_letBite 23 = .ok (.invokevirtual 99, 3) := by decide +kernel
theorem dX5_letBite_26 : decode cX5_letBite 26 = .ok (.aload_n 0, 1) := by decide +kernel
theorem dX5_letBite_27 : decode cX5_letBite 27 = .ok (.dup, 1) := by decide +kernel
theorem dX5_letBite_28 : decode cX5_letBite 28 = .ok (.getfield 43, 3) := by decide +kernel
theorem dX5_letBite_31 : decode cX5_letBite 31 = .ok (.aload_n 2, 1) := by decide +kernel
theorem dX5_letBite_32 : decode cX5_letBite 32 = .ok (.getfield 53, 3) := by decide +kernel
theorem dX5_letBite_35 : decode cX5_letBite 35 = .ok (.ifCond .gt 7, 3) := by decide +kernel
theorem dX5_letBite_38 : decode cX5_letBite 38 = .ok (.iconst 1, 1) := by decide +kernel
theorem dX5_letBite_39 : decode cX5_letBite 39 = .ok (.goto 4, 3) := by decide +kernel
theorem dX5_letBite_42 : decode cX5_letBite 42 = .ok (.iconst 0, 1) := by decide +kernel
theorem dX5_letBite_43 : decode cX5_letBite 43 = .ok (.iadd, 1) := by decide +kernel
theorem dX5_letBite_44 : decode cX5_letBite 44 = .ok (.putfield 43, 3) := by decide +kernel
theorem dX5_letBite_47 : decode cX5_letBite 47 = .ok (.iload_n 3, 1) := by decide +kernel
theorem dX5_letBite_48 : decode cX5_letBite 48 = .ok (.ireturn, 1) := by decide +kernel
theorem dX5_passHour_0 : decode cX5_passHour 0 = .ok (.iconst 0, 1) := by decide +kernel
theorem dX5_passHour_1 : decode cX5_passHour 1 = .ok (.istore_n 1, 1) := by decide +kernel
theorem dX5_passHour_2 : decode cX5_passHour 2 = .ok (.aload_n 0, 1) := by decide +kernel
theorem dX5_passHour_3 : decode cX5_passHour 3 = .ok (.getfield 19, 3) := by decide +kernel
theorem dX5_passHour_6 : decode cX5_passHour 6 = .ok (.astore_n 2, 1) := by decide +kernel
theorem dX5_passHour_7 : decode cX5_passHour 7 = .ok (.aload_n 2, 1) := by decide +kernel
theorem dX5_passHour_8 : decode cX5_passHour 8 = .ok (.arraylength, 1) := by decide +kernel
theorem dX5_passHour_9 : decode cX5_passHour 9 = .ok (.istore_n 3, 1) := by decide +kernel
theorem dX5_passHour_10 : decode cX5_passHour 10 = .ok (.iconst 0, 1) := by decide +kernel
theorem dX5_passHour_11 : decode cX5_passHour 11 = .ok (.istore 4, 2) := by decide +kernel
theorem dX5_passHour_13 : decode cX5_passHour 13 = .ok (.iload 4, 2) := by decide +kernel
theorem dX5_passHour_15 : decode cX5_passHour 15 = .ok (.iload_n 3, 1) := by decide +kernel
theorem dX5_passHour_16 : decode cX5_passHour 16 = .ok (.if_icmp .ge 40, 3) := by decide +kernel
theorem dX5_passHour_19 : decode cX5_passHour 19 = .ok (.aload_n 2, 1) := by decide +kernel
theorem dX5_passHour_20 : decode cX5_passHour 20 = .ok (.iload 4, 2) := by decide +kernel
theorem dX5_passHour_22 : decode cX5_passHour 22 = .ok (.aaload, 1) := by decide +kernel
theorem dX5_passHour_23 : decode cX5_passHour 23 = .ok (.astore 5, 2) := by decide +kernel
theorem dX5_passHour_25 : decode cX5_passHour 25 = .ok (.iload_n 1, 1) := by decide +kernel
theorem dX5_passHour_26 : decode cX5_passHour 26 = .ok (.aload 5, 2) := by decide +kernel
theorem dX5_passHour_28 : decode cX5_passHour 28 = .ok (.getfield 94, 3) := by decide +kernel
theorem dX5_passHour_31 : decode cX5_passHour 31 = .ok (.aload_n 0, 1) := by decide +kernel
theorem dX5_passHour_32 : decode cX5_passHour 32 = .ok (.getfield 31, 3) := by decide +kernel
theorem dX5_passHour_35 : decode cX5_passHour 35 = .ok (.if_icmp .ge 12, 3) := by decide +kernel
theorem dX5_passHour_38 : decode cX5_passHour 38 = .ok (.aload_n 0, 1) := by decide +kernel
theorem dX5_passHour_39 : decode cX5_passHour 39 = .ok (.aload 5, 2) := by decide +kernel
theorem dX5_passHour_41 : decode cX5_passHour 41 = .ok (.invokevirtual 102, 3) := by decide +kernel
theorem dX5_passHour_44 : decode cX5_passHour 44 = .ok (.goto 4, 3) := by decide +kernel
theorem dX5_passHour_47 : decode cX5_passHour 47 = .ok (.iconst 0, 1) := by decide +kernel
theorem dX5_passHour_48 : decode cX5_passHour 48 = .ok (.iadd, 1) := by decide +kernel
theorem dX5_passHour_49 : decode cX5_passHour 49 = .ok (.istore_n 1, 1) := by decide +kernel
theorem dX5_passHour_50 : decode cX5_passHour 50 = .ok (.iinc 4 1, 3) := by decide +kernel
theorem dX5_passHour_53 : decode cX5_passHour 53 = .ok (.goto (-40), 3) := by decide +kernel
theorem dX5_passHour_56 : decode cX5_passHour 56 = .ok (.aload_n 0, 1) := by decide +kernel
theorem dX5_passHour_57 : decode cX5_passHour 57 = .ok (.getfield 19, 3) := by decide +kernel
theorem dX5_passHour_60 : decode cX5_passHour 60 = .ok (.astore_n 2, 1) := by decide +kernel
theorem dX5_passHour_61 : decode cX5_passHour 61 = .ok (.aload_n 2, 1) := by decide +kernel
theorem dX5_passHour_62 : decode cX5_passHour 62 = .ok (.arraylength, 1) := by decide +kernel
theorem dX5_passHour_63 : decode cX5_passHour 63 = .ok (.istore_n 3, 1) := by decide +kernel
theorem dX5_passHour_64 : decode cX5_passHour 64 = .ok (.iconst 0, 1) := by decide +kernel
theorem dX5_passHour_65 : decode cX5_passHour 65 = .ok (.istore 4, 2) := by decide +kernel
theorem dX5_passHour_67 : decode cX5_passHour 67 = .ok (.iload 4, 2) := by decide +kernel
theorem dX5_passHour_69 : decode cX5_passHour 69 = .ok (.iload_n 3, 1) := by decide +kernel
theorem dX5_passHour_70 : decode cX5_passHour 70 = .ok (.if_icmp .ge 24, 3) := by decide +kernel
theorem dX5_passHour_73 : decode cX5_passHour 73 = .ok (.aload_n 2, 1) := by decide +kernel
theorem dX5_passHour_74 : decode cX5_passHour 74 = .ok (.iload 4, 2) := by decide +kernel
theorem dX5_passHour_76 : decode cX5_passHour 76 = .ok (.aaload, 1) := by decide +kernel
theorem dX5_passHour_77 : decode cX5_passHour 77 = .ok (.astore 5, 2) := by decide +kernel
theorem dX5_passHour_79 : decode cX5_passHour 79 = .ok (.aload 5, 2) := by decide +kernel
theorem dX5_passHour_81 : decode cX5_passHour 81 = .ok (.aload_n 0, 1) := by decide +kernel
theorem dX5_passHour_82 : decode cX5_passHour 82 = .ok (.getfield 34, 3) := by decide +kernel
theorem dX5_passHour_85 : decode cX5_passHour 85 = .ok (.invokevirtual 106, 3) := by decide +kernel
theorem dX5_passHour_88 : decode cX5_passHour 88 = .ok (.iinc 4 1, 3) := by decide +kernel
theorem dX5_passHour_91 : decode cX5_passHour 91 = .ok (.goto (-24), 3) := by decide +kernel
theorem dX5_passHour_94 : decode cX5_passHour 94 = .ok (.aload_n 0, 1) := by decide +kernel
theorem dX5_passHour_95 : decode cX5_passHour 95 = .ok (.dup, 1) := by decide +kernel
theorem dX5_passHour_96 : decode cX5_passHour 96 = .ok (.getfield 40, 3) := by decide +kernel
theorem dX5_passHour_99 : decode cX5_passHour 99 = .ok (.iconst 1, 1) := by decide +kernel
theorem dX5_passHour_100 : decode cX5_passHour 100 = .ok (.iadd, 1) := by decide +kernel
theorem dX5_passHour_101 : decode cX5_passHour 101 = .ok (.putfield 40, 3) := by decide +kernel
theorem dX5_passHour_104 : decode cX5_passHour 104 = .ok (.iload_n 1, 1) := by decide +kernel
theorem dX5_passHour_105 : decode cX5_passHour 105 = .ok (.ireturn, 1) := by decide +kernel
theorem dX5_passHours_0 : decode cX5_passHours 0 = .ok (.iconst 0, 1) := by decide +kernel
theorem dX5_passHours_1 : decode cX5_passHours 1 = .ok (.istore_n 2, 1) := by decide +kernel
theorem dX5_passHours_2 : decode cX5_passHours 2 = .ok (.iload_n 2, 1) := by decide +kernel
theorem dX5_passHours_3 : decode cX5_passHours 3 = .ok (.iload_n 1, 1) := by decide +kernel
theorem dX5_passHours_4 : decode cX5_passHours 4 = .ok (.if_icmp .ge 14, 3) := by decide +kernel
theorem dX5_passHours_7 : decode cX5_passHours 7 = .ok (.aload_n 0, 1) := by decide +kernel
theorem dX5_passHours_8 : decode cX5_passHours 8 = .ok (.invokevirtual 109, 3) := by decide +kernel
theorem dX5_passHours_11 : decode cX5_passHours 11 = .ok (.pop, 1) := by decide +kernel
theorem dX5_passHours_12 : decode cX5_passHours 12 = .ok (.iinc 2 1, 3) := by decide +kernel
theorem dX5_passHours_15 : decode cX5_passHours 15 = .ok (.goto (-13), 3) := by decide +kernel
theorem dX5_passHours_18 : decode cX5_passHours 18 = .ok (.return_, 1) := by decide +kernel
theorem dX5_keepsInForce_0 : decode cX5_keepsInForce 0 = .ok (.iconst 0, 1) := by decide +kernel
theorem dX5_keepsInForce_1 : decode cX5_keepsInForce 1 = .ok (.istore_n 3, 1) := by decide +kernel
theorem dX5_keepsInForce_2 : decode cX5_keepsInForce 2 = .ok (.iload_n 3, 1) := by decide +kernel
theorem dX5_keepsInForce_3 : decode cX5_keepsInForce 3 = .ok (.iload_n 2, 1) := by decide +kernel
theorem dX5_keepsInForce_4 : decode cX5_keepsInForce 4 = .ok (.if_icmp .ge 27, 3) := by decide +kernel
theorem dX5_keepsInForce_7 : decode cX5_keepsInForce 7 = .ok (.iload_n 1, 1) := by decide +kernel
theorem dX5_keepsInForce_8 : decode cX5_keepsInForce 8 = .ok (.aload_n 0, 1) := by decide +kernel
theorem dX5_keepsInForce_9 : decode cX5_keepsInForce 9 = .ok (.invokevirtual 113, 3) := by decide +kernel
theorem dX5_keepsInForce_12 : decode cX5_keepsInForce 12 = .ok (.iconst (-1), 1) := by decide +kernel
theorem dX5_keepsInForce_13 : decode cX5_keepsInForce 13 = .ok (.ixor, 1) := by decide +kernel
theorem dX5_keepsInForce_14 : decode cX5_keepsInForce 14 = .ok (.iand, 1) := by decide +kernel
theorem dX5_keepsInForce_15 : decode cX5_keepsInForce 15 = .ok (.ifCond .eq 5, 3) := by decide +kernel
theorem dX5_keepsInForce_18 : decode cX5_keepsInForce 18 = .ok (.iconst 0, 1) := by decide +kernel
theorem dX5_keepsInForce_19 : decode cX5_keepsInForce 19 = .ok (.ireturn, 1) := by decide +kernel
theorem dX5_keepsInForce_20 : decode cX5_keepsInForce 20 = .ok (.aload_n 0, 1) := by decide +kernel
theorem dX5_keepsInForce_21 : decode cX5_keepsInForce 21 = .ok (.invokevirtual 109, 3) := by decide +kernel
theorem dX5_keepsInForce_24 : decode cX5_keepsInForce 24 = .ok (.pop, 1) := by decide +kernel
theorem dX5_keepsInForce_25 : decode cX5_keepsInForce 25 = .ok (.iinc 3 1, 3) := by decide +kernel
theorem dX5_keepsInForce_28 : decode cX5_keepsInForce 28 = .ok (.goto (-26), 3) := by decide +kernel
theorem dX5_keepsInForce_31 : decode cX5_keepsInForce 31 = .ok (.iload_n 1, 1) := by decide +kernel
theorem dX5_keepsInForce_32 : decode cX5_keepsInForce 32 = .ok (.aload_n 0, 1) := by decide +kernel
theorem dX5_keepsInForce_33 : decode cX5_keepsInForce 33 = .ok (.invokevirtual 113, 3) := by decide +kernel
theorem dX5_keepsInForce_36 : decode cX5_keepsInForce 36 = .ok (.iconst (-1), 1) := by decide +kernel
theorem dX5_keepsInForce_37 : decode cX5_keepsInForce 37 = .ok (.ixor, 1) := by decide +kernel
theorem dX5_keepsInForce_38 : decode cX5_keepsInForce 38 = .ok (.iand, 1) := by decide +kernel
theorem dX5_keepsInForce_39 : decode cX5_keepsInForce 39 = .ok (.ifCond .ne 7, 3) := by decide +kernel
theorem dX5_keepsInForce_42 : decode cX5_keepsInForce 42 = .ok (.iconst 1, 1) := by decide +kernel
theorem dX5_keepsInForce_43 : decode cX5_keepsInForce 43 = .ok (.goto 4, 3) := by decide +kernel
theorem dX5_keepsInForce_46 : decode cX5_keepsInForce 46 = .ok (.iconst 0, 1) := by decide +kernel
theorem dX5_keepsInForce_47 : decode cX5_keepsInForce 47 = .ok (.ireturn, 1) := by decide +kernel
theorem dX5_goesAs_0 : decode cX5_goesAs 0 = .ok (.aload_n 0, 1) := by decide +kernel
theorem dX5_goesAs_1 : decode cX5_goesAs 1 = .ok (.iload_n 1, 1) := by decide +kernel
theorem dX5_goesAs_2 : decode cX5_goesAs 2 = .ok (.invokevirtual 62, 3) := by decide +kernel
theorem dX5_goesAs_5 : decode cX5_goesAs 5 = .ok (.astore 5, 2) := by decide +kernel
theorem dX5_goesAs_7 : decode cX5_goesAs 7 = .ok (.aload 5, 2) := by decide +kernel
theorem dX5_goesAs_9 : decode cX5_goesAs 9 = .ok (.ifnonnull 5, 3) := by decide +kernel
theorem dX5_goesAs_12 : decode cX5_goesAs 12 = .ok (.iconst 0, 1) := by decide +kernel
theorem dX5_goesAs_13 : decode cX5_goesAs 13 = .ok (.ireturn, 1) := by decide +kernel
theorem dX5_goesAs_14 : decode cX5_goesAs 14 = .ok (.iconst 0, 1) := by decide +kernel
theorem dX5_goesAs_15 : decode cX5_goesAs 15 = .ok (.istore 6, 2) := by decide +kernel
theorem dX5_goesAs_17 : decode cX5_goesAs 17 = .ok (.iload 6, 2) := by decide +kernel
theorem dX5_goesAs_19 : decode cX5_goesAs 19 = .ok (.iload 4, 2) := by decide +kernel
theorem dX5_goesAs_21 : decode cX5_goesAs 21 = .ok (.if_icmp .ge 32, 3) := by decide +kernel
theorem dX5_goesAs_24 : decode cX5_goesAs 24 = .ok (.aload_n 0, 1) := by decide +kernel
theorem dX5_goesAs_25 : decode cX5_goesAs 25 = .ok (.invokevirtual 109, 3) := by decide +kernel
theorem dX5_goesAs_28 : decode cX5_goesAs 28 = .ok (.pop, 1) := by decide +kernel
theorem dX5_goesAs_29 : decode cX5_goesAs 29 = .ok (.aload 5, 2) := by decide +kernel
theorem dX5_goesAs_31 : decode cX5_goesAs 31 = .ok (.getfield 53, 3) := by decide +kernel
theorem dX5_goesAs_34 : decode cX5_goesAs 34 = .ok (.aload_n 2, 1) := by decide +kernel
theorem dX5_goesAs_35 : decode cX5_goesAs 35 = .ok (.iload_n 3, 1) := by decide +kernel
theorem dX5_goesAs_36 : decode cX5_goesAs 36 = .ok (.iload 6, 2) := by decide +kernel
theorem dX5_goesAs_38 : decode cX5_goesAs 38 = .ok (.iadd, 1) := by decide +kernel
theorem dX5_goesAs_39 : decode cX5_goesAs 39 = .ok (.invokevirtual 116, 3) := by decide +kernel
theorem dX5_goesAs_42 : decode cX5_goesAs 42 = .ok (.if_icmp .eq 5, 3) := by decide +kernel
theorem dX5_goesAs_45 : decode cX5_goesAs 45 = .ok (.iconst 0, 1) := by decide +kernel
theorem dX5_goesAs_46 : decode cX5_goesAs 46 = .ok (.ireturn, 1) := by decide +kernel
theorem dX5_goesAs_47 : decode cX5_goesAs 47 = .ok (.iinc 6 1, 3) := by decide +kernel
theorem dX5_goesAs_50 : decode cX5_goesAs 50 = .ok (.goto (-33), 3) := by decide +kernel
theorem dX5_goesAs_53 : decode cX5_goesAs 53 = .ok (.iconst 1, 1) := by decide +kernel
theorem dX5_goesAs_54 : decode cX5_goesAs 54 = .ok (.ireturn, 1) := by decide +kernel
theorem dX5_driveOff_0 : decode cX5_driveOff 0 = .ok (.aload_n 0, 1) := by decide +kernel
theorem dX5_driveOff_1 : decode cX5_driveOff 1 = .ok (.getfield 19, 3) := by decide +kernel
theorem dX5_driveOff_4 : decode cX5_driveOff 4 = .ok (.astore_n 3, 1) := by decide +kernel
theorem dX5_driveOff_5 : decode cX5_driveOff 5 = .ok (.aload_n 3, 1) := by decide +kernel
theorem dX5_driveOff_6 : decode cX5_driveOff 6 = .ok (.arraylength, 1) := by decide +kernel
theorem dX5_driveOff_7 : decode cX5_driveOff 7 = .ok (.istore 4, 2) := by decide +kernel
theorem dX5_driveOff_9 : decode cX5_driveOff 9 = .ok (.iconst 0, 1) := by decide +kernel
theorem dX5_driveOff_10 : decode cX5_driveOff 10 = .ok (.istore 5, 2) := by decide +kernel
theorem dX5_driveOff_12 : decode cX5_driveOff 12 = .ok (.iload 5, 2) := by decide +kernel
theorem dX5_driveOff_14 : decode cX5_driveOff 14 = .ok (.iload 4, 2) := by decide +kernel
theorem dX5_driveOff_16 : decode cX5_driveOff 16 = .ok (.if_icmp .ge 33, 3) := by decide +kernel
theorem dX5_driveOff_19 : decode cX5_driveOff 19 = .ok (.aload_n 3, 1) := by decide +kernel
theorem dX5_driveOff_20 : decode cX5_driveOff 20 = .ok (.iload 5, 2) := by decide +kernel
theorem dX5_driveOff_22 : decode cX5_driveOff 22 = .ok (.aaload, 1) := by decide +kernel
theorem dX5_driveOff_23 : decode cX5_driveOff 23 = .ok (.astore 6, 2) := by decide +kernel
theorem dX5_driveOff_25 : decode cX5_driveOff 25 = .ok (.iload_n 1, 1) := by decide +kernel
theorem dX5_driveOff_26 : decode cX5_driveOff 26 = .ok (.aload 6, 2) := by decide +kernel
theorem dX5_driveOff_28 : decode cX5_driveOff 28 = .ok (.getfield 94, 3) := by decide +kernel
theorem dX5_driveOff_31 : decode cX5_driveOff 31 = .ok (.ishr, 1) := by decide +kernel
theorem dX5_driveOff_32 : decode cX5_driveOff 32 = .ok (.iconst 1, 1) := by decide +kernel
theorem dX5_driveOff_33 : decode cX5_driveOff 33 = .ok (.iand, 1) := by decide +kernel
theorem dX5_driveOff_34 : decode cX5_driveOff 34 = .ok (.ifCond .eq 9, 3) := by decide +kernel
theorem dX5_driveOff_37 : decode cX5_driveOff 37 = .ok (.aload 6, 2) := by decide +kernel
theorem dX5_driveOff_39 : decode cX5_driveOff 39 = .ok (.iload_n 2, 1) := by decide +kernel
theorem dX5_driveOff_40 : decode cX5_driveOff 40 = .ok (.putfield 56, 3) := by decide +kernel
theorem dX5_driveOff_43 : decode cX5_driveOff 43 = .ok (.iinc 5 1, 3) := by decide +kernel
theorem dX5_driveOff_46 : decode cX5_driveOff 46 = .ok (.goto (-34), 3) := by decide +kernel
theorem dX5_driveOff_49 : decode cX5_driveOff 49 = .ok (.return_, 1) := by decide +kernel
theorem dX5_hangOnTop_0 : decode cX5_hangOnTop 0 = .ok (.aload_n 0, 1) := by decide +kernel
theorem dX5_hangOnTop_1 : decode cX5_hangOnTop 1 = .ok (.getfield 11, 3) := by decide +kernel
theorem dX5_hangOnTop_4 : decode cX5_hangOnTop 4 = .ok (.astore_n 2, 1) := by decide +kernel
theorem dX5_hangOnTop_5 : decode cX5_hangOnTop 5 = .ok (.aload_n 2, 1) := by decide +kernel
theorem dX5_hangOnTop_6 : decode cX5_hangOnTop 6 = .ok (.arraylength, 1) := by decide +kernel
theorem dX5_hangOnTop_7 : decode cX5_hangOnTop 7 = .ok (.istore_n 3, 1) := by decide +kernel
theorem dX5_hangOnTop_8 : decode cX5_hangOnTop 8 = .ok (.iconst 0, 1) := by decide +kernel
theorem dX5_hangOnTop_9 : decode cX5_hangOnTop 9 = .ok (.istore 4, 2) := by decide +kernel
theorem dX5_hangOnTop_11 : decode cX5_hangOnTop 11 = .ok (.iload 4, 2) := by decide +kernel
theorem dX5_hangOnTop_13 : decode cX5_hangOnTop 13 = .ok (.iload_n 3, 1) := by decide +kernel
theorem dX5_hangOnTop_14 : decode cX5_hangOnTop 14 = .ok (.if_icmp .ge 34, 3) := by decide +kernel
theorem dX5_hangOnTop_17 : decode cX5_hangOnTop 17 = .ok (.aload_n 2, 1) := by decide +kernel
theorem dX5_hangOnTop_18 : decode cX5_hangOnTop 18 = .ok (.iload 4, 2) := by decide +kernel
theorem dX5_hangOnTop_20 : decode cX5_hangOnTop 20 = .ok (.aaload, 1) := by decide +kernel
theorem dX5_hangOnTop_21 : decode cX5_hangOnTop 21 = .ok (.astore 5, 2) := by decide +kernel
theorem dX5_hangOnTop_23 : decode cX5_hangOnTop 23 = .ok (.iload_n 1, 1) := by decide +kernel
theorem dX5_hangOnTop_24 : decode cX5_hangOnTop 24 = .ok (.aload 5, 2) := by decide +kernel
theorem dX5_hangOnTop_26 : decode cX5_hangOnTop 26 = .ok (.getfield 70, 3) := by decide +kernel
theorem dX5_hangOnTop_29 : decode cX5_hangOnTop 29 = .ok (.ishr, 1) := by decide +kernel
theorem dX5_hangOnTop_30 : decode cX5_hangOnTop 30 = .ok (.iconst 1, 1) := by decide +kernel
theorem dX5_hangOnTop_31 : decode cX5_hangOnTop 31 = .ok (.iand, 1) := by decide +kernel
theorem dX5_hangOnTop_32 : decode cX5_hangOnTop 32 = .ok (.ifCond .eq 10, 3) := by decide +kernel
theorem dX5_hangOnTop_35 : decode cX5_hangOnTop 35 = .ok (.aload 5, 2) := by decide +kernel
theorem dX5_hangOnTop_37 : decode cX5_hangOnTop 37 = .ok (.bipush 9, 2) := by decide +kernel
theorem dX5_hangOnTop_39 : decode cX5_hangOnTop 39 = .ok (.putfield 84, 3) := by decide +kernel
theorem dX5_hangOnTop_42 : decode cX5_hangOnTop 42 = .ok (.iinc 4 1, 3) := by decide +kernel
theorem dX5_hangOnTop_45 : decode cX5_hangOnTop 45 = .ok (.goto (-34), 3) := by decide +kernel
theorem dX5_hangOnTop_48 : decode cX5_hangOnTop 48 = .ok (.return_, 1) := by decide +kernel
theorem dX5_tear_0 : decode cX5_tear 0 = .ok (.aload_n 0, 1) := by decide +kernel
theorem dX5_tear_1 : decode cX5_tear 1 = .ok (.getfield 11, 3) := by decide +kernel
theorem dX5_tear_4 : decode cX5_tear 4 = .ok (.astore_n 2, 1) := by decide +kernel
theorem dX5_tear_5 : decode cX5_tear 5 = .ok (.aload_n 2, 1) := by decide +kernel
theorem dX5_tear_6 : decode cX5_tear 6 = .ok (.arraylength, 1) := by decide +kernel
theorem dX5_tear_7 : decode cX5_tear 7 = .ok (.istore_n 3, 1) := by decide +kernel
theorem dX5_tear_8 : decode cX5_tear 8 = .ok (.iconst 0, 1) := by decide +kernel
theorem dX5_tear_9 : decode cX5_tear 9 = .ok (.istore 4, 2) := by decide +kernel
theorem dX5_tear_11 : decode cX5_tear 11 = .ok (.iload 4, 2) := by decide +kernel
theorem dX5_tear_13 : decode cX5_tear 13 = .ok (.iload_n 3, 1) := by decide +kernel
theorem dX5_tear_14 : decode cX5_tear 14 = .ok (.if_icmp .ge 38, 3) := by decide +kernel
theorem dX5_tear_17 : decode cX5_tear 17 = .ok (.aload_n 2, 1) := by decide +kernel
theorem dX5_tear_18 : decode cX5_tear 18 = .ok (.iload 4, 2) := by decide +kernel
theorem dX5_tear_20 : decode cX5_tear 20 = .ok (.aaload, 1) := by decide +kernel
theorem dX5_tear_21 : decode cX5_tear 21 = .ok (.astore 5, 2) := by decide +kernel
theorem dX5_tear_23 : decode cX5_tear 23 = .ok (.iload_n 1, 1) := by decide +kernel
theorem dX5_tear_24 : decode cX5_tear 24 = .ok (.aload 5, 2) := by decide +kernel
theorem dX5_tear_26 : decode cX5_tear 26 = .ok (.getfield 70, 3) := by decide +kernel
theorem dX5_tear_29 : decode cX5_tear 29 = .ok (.ishr, 1) := by decide +kernel
theorem dX5_tear_30 : decode cX5_tear 30 = .ok (.iconst 1, 1) := by decide +kernel
theorem dX5_tear_31 : decode cX5_tear 31 = .ok (.iand, 1) := by decide +kernel
theorem dX5_tear_32 : decode cX5_tear 32 = .ok (.ifCond .eq 14, 3) := by decide +kernel
theorem dX5_tear_35 : decode cX5_tear 35 = .ok (.aload 5, 2) := by decide +kernel
theorem dX5_tear_37 : decode cX5_tear 37 = .ok (.dup, 1) := by decide +kernel
theorem dX5_tear_38 : decode cX5_tear 38 = .ok (.getfield 53, 3) := by decide +kernel
theorem dX5_tear_41 : decode cX5_tear 41 = .ok (.iconst 2, 1) := by decide +kernel
theorem dX5_tear_42 : decode cX5_tear 42 = .ok (.idiv, 1) := by decide +kernel
theorem dX5_tear_43 : decode cX5_tear 43 = .ok (.putfield 53, 3) := by decide +kernel
theorem dX5_tear_46 : decode cX5_tear 46 = .ok (.iinc 4 1, 3) := by decide +kernel
theorem dX5_tear_49 : decode cX5_tear 49 = .ok (.goto (-38), 3) := by decide +kernel
theorem dX5_tear_52 : decode cX5_tear 52 = .ok (.return_, 1) := by decide +kernel
theorem dX5_befall_0 : decode cX5_befall 0 = .ok (.iload_n 1, 1) := by decide +kernel
theorem dX5_befall_1 : decode cX5_befall 1 = .ok (.iconst 3, 1) := by decide +kernel
theorem dX5_befall_2 : decode cX5_befall 2 = .ok (.irem, 1) := by decide +kernel
theorem dX5_befall_3 : decode cX5_befall 3 = .ok (.ifCond .ne 23, 3) := by decide +kernel
theorem dX5_befall_6 : decode cX5_befall 6 = .ok (.aload_n 0, 1) := by decide +kernel
theorem dX5_befall_7 : decode cX5_befall 7 = .ok (.getfield 31, 3) := by decide +kernel
theorem dX5_befall_10 : decode cX5_befall 10 = .ok (.ifCond .le 16, 3) := by decide +kernel
theorem dX5_befall_13 : decode cX5_befall 13 = .ok (.aload_n 0, 1) := by decide +kernel
theorem dX5_befall_14 : decode cX5_befall 14 = .ok (.iload_n 1, 1) := by decide +kernel
theorem dX5_befall_15 : decode cX5_befall 15 = .ok (.aload_n 0, 1) := by decide +kernel
theorem dX5_befall_16 : decode cX5_befall 16 = .ok (.getfield 31, 3) := by decide +kernel
theorem dX5_befall_19 : decode cX5_befall 19 = .ok (.irem, 1) := by decide +kernel
theorem dX5_befall_20 : decode cX5_befall 20 = .ok (.invokevirtual 121, 3) := by decide +kernel
theorem dX5_befall_23 : decode cX5_befall 23 = .ok (.goto 4, 3) := by decide +kernel
theorem dX5_befall_26 : decode cX5_befall 26 = .ok (.aconst_null, 1) := by decide +kernel
theorem dX5_befall_27 : decode cX5_befall 27 = .ok (.astore_n 2, 1) := by decide +kernel
theorem dX5_befall_28 : decode cX5_befall 28 = .ok (.aload_n 2, 1) := by decide +kernel
theorem dX5_befall_29 : decode cX5_befall 29 = .ok (.ifnull 8, 3) := by decide +kernel
theorem dX5_befall_32 : decode cX5_befall 32 = .ok (.aload_n 2, 1) := by decide +kernel
theorem dX5_befall_33 : decode cX5_befall 33 = .ok (.iconst 2, 1) := by decide +kernel
theorem dX5_befall_34 : decode cX5_befall 34 = .ok (.putfield 56, 3) := by decide +kernel
theorem dX5_befall_37 : decode cX5_befall 37 = .ok (.iload_n 1, 1) := by decide +kernel
theorem dX5_befall_38 : decode cX5_befall 38 = .ok (.iconst 5, 1) := by decide +kernel
theorem dX5_befall_39 : decode cX5_befall 39 = .ok (.irem, 1) := by decide +kernel
theorem dX5_befall_40 : decode cX5_befall 40 = .ok (.ifCond .ne 23, 3) := by decide +kernel
theorem dX5_befall_43 : decode cX5_befall 43 = .ok (.aload_n 0, 1) := by decide +kernel
theorem dX5_befall_44 : decode cX5_befall 44 = .ok (.getfield 27, 3) := by decide +kernel
theorem dX5_befall_47 : decode cX5_befall 47 = .ok (.ifCond .le 16, 3) := by decide +kernel
theorem dX5_befall_50 : decode cX5_befall 50 = .ok (.aload_n 0, 1) := by decide +kernel
theorem dX5_befall_51 : decode cX5_befall 51 = .ok (.iload_n 1, 1) := by decide +kernel
theorem dX5_befall_52 : decode cX5_befall 52 = .ok (.aload_n 0, 1) := by decide +kernel
theorem dX5_befall_53 : decode cX5_befall 53 = .ok (.getfield 27, 3) := by decide +kernel
theorem dX5_befall_56 : decode cX5_befall 56 = .ok (.irem, 1) := by decide +kernel
theorem dX5_befall_57 : decode cX5_befall 57 = .ok (.invokevirtual 62, 3) := by decide +kernel
theorem dX5_befall_60 : decode cX5_befall 60 = .ok (.goto 4, 3) := by decide +kernel
theorem dX5_befall_63 : decode cX5_befall 63 = .ok (.aconst_null, 1) := by decide +kernel
theorem dX5_befall_64 : decode cX5_befall 64 = .ok (.astore_n 3, 1) := by decide +kernel
theorem dX5_befall_65 : decode cX5_befall 65 = .ok (.aload_n 3, 1) := by decide +kernel
theorem dX5_befall_66 : decode cX5_befall 66 = .ok (.ifnull 11, 3) := by decide +kernel
theorem dX5_befall_69 : decode cX5_befall 69 = .ok (.aload_n 3, 1) := by decide +kernel
theorem dX5_befall_70 : decode cX5_befall 70 = .ok (.aload_n 3, 1) := by decide +kernel
theorem dX5_befall_71 : decode cX5_befall 71 = .ok (.getfield 125, 3) := by decide +kernel
theorem dX5_befall_74 : decode cX5_befall 74 = .ok (.putfield 53, 3) := by decide +kernel
theorem dX5_befall_77 : decode cX5_befall 77 = .ok (.return_, 1) := by decide +kernel
theorem dX6_init_0 : decode cX6_init 0 = .ok (.aload_n 0, 1) := by decide +kernel
theorem dX6_init_1 : decode cX6_init 1 = .ok (.invokespecial 3, 3) := by decide +kernel
theorem dX6_init_4 : decode cX6_init 4 = .ok (.aload_n 0, 1) := by decide +kernel
theorem dX6_init_5 : decode cX6_init 5 = .ok (.bipush 120, 2) := by decide +kernel
theorem dX6_init_7 : decode cX6_init 7 = .ok (.newarray .int, 2) := by decide +kernel
theorem dX6_init_9 : decode cX6_init 9 = .ok (.putfield 9, 3) := by decide +kernel
theorem dX6_init_12 : decode cX6_init 12 = .ok (.return_, 1) := by decide +kernel
theorem dX6_add_0 : decode cX6_add 0 = .ok (.aload_n 0, 1) := by decide +kernel
theorem dX6_add_1 : decode cX6_add 1 = .ok (.getfield 15, 3) := by decide +kernel
theorem dX6_add_4 : decode cX6_add 4 = .ok (.ifCond .lt 15, 3) := by decide +kernel
theorem dX6_add_7 : decode cX6_add 7 = .ok (.aload_n 0, 1) := by decide +kernel
theorem dX6_add_8 : decode cX6_add 8 = .ok (.getfield 15, 3) := by decide +kernel
theorem dX6_add_11 : decode cX6_add 11 = .ok (.aload_n 0, 1) := by decide +kernel
theorem dX6_add_12 : decode cX6_add 12 = .ok (.getfield 9, 3) := by decide +kernel
theorem dX6_add_15 : decode cX6_add 15 = .ok (.arraylength, 1) := by decide +kernel
theorem dX6_add_16 : decode cX6_add 16 = .ok (.if_icmp .lt 5, 3) := by decide +kernel
theorem dX6_add_19 : decode cX6_add 19 = .ok (.iconst 0, 1) := by decide +kernel
theorem dX6_add_20 : decode cX6_add 20 = .ok (.ireturn, 1) := by decide +kernel
theorem dX6_add_21 : decode cX6_add 21 = .ok (.aload_n 0, 1) := by decide +kernel
theorem dX6_add_22 : decode cX6_add 22 = .ok (.getfield 9, 3) := by decide +kernel
theorem dX6_add_25 : decode cX6_add 25 = .ok (.aload_n 0, 1) := by decide +kernel
theorem dX6_add_26 : decode cX6_add 26 = .ok (.getfield 15, 3) := by decide +kernel
theorem dX6_add_29 : decode cX6_add 29 = .ok (.iload_n 1, 1) := by decide +kernel
theorem dX6_add_30 : decode cX6_add 30 = .ok (.iastore, 1) := by decide +kernel
theorem dX6_add_31 : decode cX6_add 31 = .ok (.aload_n 0, 1) := by decide +kernel
theorem dX6_add_32 : decode cX6_add 32 = .ok (.dup, 1) := by decide +kernel
theorem dX6_add_33 : decode cX6_add 33 = .ok (.getfield 15, 3) := by decide +kernel
theorem dX6_add_36 : decode cX6_add 36 = .ok (.iconst 1, 1) := by decide +kernel
theorem dX6_add_37 : decode cX6_add 37 = .ok (.iadd, 1) := by decide +kernel
theorem dX6_add_38 : decode cX6_add 38 = .ok (.putfield 15, 3) := by decide +kernel
theorem dX6_add_41 : decode cX6_add 41 = .ok (.iconst 1, 1) := by decide +kernel
theorem dX6_add_42 : decode cX6_add 42 = .ok (.ireturn, 1) := by decide +kernel
theorem dX6_readInto_0 : decode cX6_readInto 0 = .ok (.aload_n 1, 1) := by decide +kernel
theorem dX6_readInto_1 : decode cX6_readInto 1 = .ok (.invokevirtual 19, 3) := by decide +kernel
theorem dX6_readInto_4 : decode cX6_readInto 4 = .ok (.aload_n 0, 1) := by decide +kernel
theorem dX6_readInto_5 : decode cX6_readInto 5 = .ok (.iconst 0, 1) := by decide +kernel
theorem dX6_readInto_6 : decode cX6_readInto 6 = .ok (.putfield 24, 3) := by decide +kernel
theorem dX6_readInto_9 : decode cX6_readInto 9 = .ok (.aload_n 0, 1) := by decide +kernel
theorem dX6_readInto_10 : decode cX6_readInto 10 = .ok (.iconst 0, 1) := by decide +kernel
theorem dX6_readInto_11 : decode cX6_readInto 11 = .ok (.putfield 27, 3) := by decide +kernel
theorem dX6_readInto_14 : decode cX6_readInto 14 = .ok (.aload_n 0, 1) := by decide +kernel
theorem dX6_readInto_15 : decode cX6_readInto 15 = .ok (.invokevirtual 30, 3) := by decide +kernel
theorem dX6_readInto_18 : decode cX6_readInto 18 = .ok (.aload_n 0, 1) := by decide +kernel
theorem dX6_readInto_19 : decode cX6_readInto 19 = .ok (.bipush 118, 2) := by decide +kernel
theorem dX6_readInto_21 : decode cX6_readInto 21 = .ok (.invokevirtual 33, 3) := by decide +kernel
theorem dX6_readInto_24 : decode cX6_readInto 24 = .ok (.aload_n 1, 1) := by decide +kernel
theorem dX6_readInto_25 : decode cX6_readInto 25 = .ok (.aload_n 0, 1) := by decide +kernel
theorem dX6_readInto_26 : decode cX6_readInto 26 = .ok (.iconst 0, 1) := by decide +kernel
theorem dX6_readInto_27 : decode cX6_readInto 27 = .ok (.bipush 9, 2) := by decide +kernel
theorem dX6_readInto_29 : decode cX6_readInto 29 = .ok (.invokevirtual 37, 3) := by decide +kernel
theorem dX6_readInto_32 : decode cX6_readInto 32 = .ok (.putfield 41, 3) := by decide +kernel
theorem dX6_readInto_35 : decode cX6_readInto 35 = .ok (.aload_n 0, 1) := by decide +kernel
theorem dX6_readInto_36 : decode cX6_readInto 36 = .ok (.bipush 44, 2) := by decide +kernel
theorem dX6_readInto_38 : decode cX6_readInto 38 = .ok (.invokevirtual 33, 3) := by decide +kernel
theorem dX6_readInto_41 : decode cX6_readInto 41 = .ok (.aload_n 1, 1) := by decide +kernel
theorem dX6_readInto_42 : decode cX6_readInto 42 = .ok (.aload_n 0, 1) := by decide +kernel
theorem dX6_readInto_43 : decode cX6_readInto 43 = .ok (.iconst 1, 1) := by decide +kernel
theorem dX6_readInto_44 : decode cX6_readInto 44 = .ok (.bipush 9, 2) := by decide +kernel
theorem dX6_readInto_46 : decode cX6_readInto 46 = .ok (.invokevirtual 37, 3) := by decide +kernel
theorem dX6_readInto_49 : decode cX6_readInto 49 = .ok (.putfield 44, 3) := by decide +kernel
theorem dX6_readInto_52 : decode cX6_readInto 52 = .ok (.aload_n 0, 1) := by decide +kernel
theorem dX6_readInto_53 : decode cX6_readInto 53 = .ok (.bipush 59, 2) := by decide +kernel
theorem dX6_readInto_55 : decode cX6_readInto 55 = .ok (.invokevirtual 33, 3) := by decide +kernel
theorem dX6_readInto_58 : decode cX6_readInto 58 = .ok (.iconst 0, 1) := by decide +kernel
theorem dX6_readInto_59 : decode cX6_readInto 59 = .ok (.istore_n 2, 1) := by decide +kernel
theorem dX6_readInto_60 : decode cX6_readInto 60 = .ok (.iload_n 2, 1) := by decide +kernel
theorem dX6_readInto_61 : decode cX6_readInto 61 = .ok (.bipush 7, 2) := by decide +kernel
theorem dX6_readInto_63 : decode cX6_readInto 63 = .ok (.if_icmp .gt 35, 3) := by decide +kernel
theorem dX6_readInto_66 : decode cX6_readInto 66 = .ok (.aload_n 0, 1) := by decide +kernel
theorem dX6_readInto_67 : decode cX6_readInto 67 = .ok (.getfield 24, 3) := by decide +kernel
theorem dX6_readInto_70 : decode cX6_readInto 70 = .ok (.ifCond .ne 28, 3) := by decide +kernel
theorem dX6_readInto_73 : decode cX6_readInto 73 = .ok (.iload_n 2, 1) := by decide +kernel
theorem dX6_readInto_74 : decode cX6_readInto 74 = .ok (.ifCond .eq 13, 3) := by decide +kernel
theorem dX6_readInto_77 : decode cX6_readInto 77 = .ok (.aload_n 0, 1) := by decide +kernel
theorem dX6_readInto_78 : decode cX6_readInto 78 = .ok (.getfield 47, 3) := by decide +kernel
theorem dX6_readInto_81 : decode cX6_readInto 81 = .ok (.invokestatic 50, 3) := by decide +kernel
theorem dX6_readInto_84 : decode cX6_readInto 84 = .ok (.ifCond .eq 14, 3) := by decide +kernel
theorem dX6_readInto_87 : decode cX6_readInto 87 = .ok (.aload_n 0, 1) := by decide +kernel
theorem dX6_readInto_88 : decode cX6_readInto 88 = .ok (.aload_n 1, 1) := by decide +kernel
theorem dX6_readInto_89 : decode cX6_readInto 89 = .ok (.invokevirtual 54, 3) := by decide +kernel
theorem dX6_readInto_92 : decode cX6_readInto 92 = .ok (.iinc 2 1, 3) := by decide +kernel
theorem dX6_readInto_95 : decode cX6_readInto 95 = .ok (.goto (-35), 3) := by decide +kernel
theorem dX6_readInto_98 : decode cX6_readInto 98 = .ok (.iconst 0, 1) := by decide +kernel
theorem dX6_readInto_99 : decode cX6_readInto 99 = .ok (.istore_n 2, 1) := by decide +kernel
theorem dX6_readInto_100 : decode cX6_readInto 100 = .ok (.iload_n 2, 1) := by decide +kernel
theorem dX6_readInto_101 : decode cX6_readInto 101 = .ok (.iconst 4, 1) := by decide +kernel
theorem dX6_readInto_102 : decode cX6_readInto 102 = .ok (.if_icmp .gt 33, 3) := by decide +kernel
theorem dX6_readInto_105 : decode cX6_readInto 105 = .ok (.aload_n 0, 1) := by decide +kernel
theorem dX6_readInto_106 : decode cX6_readInto 106 = .ok (.getfield 24, 3) := by decide +kernel
theorem dX6_readInto_109 : decode cX6_readInto 109 = .ok (.ifCond .ne 26, 3) := by decide +kernel
theorem dX6_readInto_112 : decode cX6_readInto 112 = .ok (.iload_n 2, 1) := by decide +kernel
theorem dX6_readInto_113 : decode cX6_readInto 113 = .ok (.ifCond .eq 11, 3) := by decide +kernel
theorem dX6_readInto_116 : decode cX6_readInto 116 = .ok (.aload_n 0, 1) := by decide +kernel
theorem dX6_readInto_117 : decode cX6_readInto 117 = .ok (.getfield 47, 3) := by decide +kernel
theorem dX6_readInto_120 : decode cX6_readInto 120 = .ok (.iconst (-1), 1) := by decide +kernel
theorem dX6_readInto_121 : decode cX6_readInto 121 = .ok (.if_icmp .eq 14, 3) := by decide +kernel
theorem dX6_readInto_124 : decode cX6_readInto 124 = .ok (.aload_n 0, 1) := by decide +kernel
theorem dX6_readInto_125 : decode cX6_readInto 125 = .ok (.aload_n 1, 1) := by decide +kernel
theorem dX6_readInto_126 : decode cX6_readInto 126 = .ok (.invokevirtual 58, 3) := by decide +kernel
theorem dX6_readInto_129 : decode cX6_readInto 129 = .ok (.iinc 2 1, 3) := by decide +kernel
theorem dX6_readInto_132 : decode cX6_readInto 132 = .ok (.goto (-32), 3) := by decide +kernel
theorem dX6_readInto_135 : decode cX6_readInto 135 = .ok (.aload_n 0, 1) := by decide +kernel
theorem dX6_readInto_136 : decode cX6_readInto 136 = .ok (.getfield 24, 3) := by decide +kernel
theorem dX6_readInto_139 : decode cX6_readInto 139 = .ok (.ifCond .ne 7, 3) := by decide +kernel
theorem dX6_readInto_142 : decode cX6_readInto 142 = .ok (.iconst 1, 1) := by decide +kernel
theorem dX6_readInto_143 : decode cX6_readInto 143 = .ok (.goto 4, 3) := by decide +kernel
theorem dX6_readInto_146 : decode cX6_readInto 146 = .ok (.iconst 0, 1) := by decide +kernel
theorem dX6_readInto_147 : decode cX6_readInto 147 = .ok (.ireturn, 1) := by decide +kernel
theorem dX6_readLeaf_0 : decode cX6_readLeaf 0 = .ok (.aload_n 0, 1) := by decide +kernel
theorem dX6_readLeaf_1 : decode cX6_readLeaf 1 = .ok (.getfield 47, 3) := by decide +kernel
theorem dX6_readLeaf_4 : decode cX6_readLeaf 4 = .ok (.invokestatic 50, 3) := by decide +kernel
theorem dX6_readLeaf_7 : decode cX6_readLeaf 7 = .ok (.istore_n 2, 1) := by decide +kernel
theorem dX6_readLeaf_8 : decode cX6_readLeaf 8 = .ok (.aload_n 1, 1) := by decide +kernel
theorem dX6_readLeaf_9 : decode cX6_readLeaf 9 = .ok (.getfield 61, 3) := by decide +kernel
theorem dX6_readLeaf_12 : decode cX6_readLeaf 12 = .ok (.istore_n 3, 1) := by decide +kernel
theorem dX6_readLeaf_13 : decode cX6_readLeaf 13 = .ok (.iload_n 2, 1) := by decide +kernel
theorem dX6_readLeaf_14 : decode cX6_readLeaf 14 = .ok (.ifCond .ne 9, 3) := by decide +kernel
theorem dX6_readLeaf_17 : decode cX6_readLeaf 17 = .ok (.aload_n 0, 1) := by decide +kernel
theorem dX6_readLeaf_18 : decode cX6_readLeaf 18 = .ok (.iconst 1, 1) := by decide +kernel
theorem dX6_readLeaf_19 : decode cX6_readLeaf 19 = .ok (.putfield 24, 3) := by decide +kernel
theorem dX6_readLeaf_22 : decode cX6_readLeaf 22 = .ok (.return_, 1) := by decide +kernel
theorem dX6_readLeaf_23 : decode cX6_readLeaf 23 = .ok (.iload_n 3, 1) := by decide +kernel
theorem dX6_readLeaf_24 : decode cX6_readLeaf 24 = .ok (.ifCond .lt 12, 3) := by decide +kernel
theorem dX6_readLeaf_27 : decode cX6_readLeaf 27 = .ok (.iload_n 3, 1) := by decide +kernel
theorem dX6_readLeaf_28 : decode cX6_readLeaf 28 = .ok (.aload_n 1, 1) := by decide +kernel
theorem dX6_readLeaf_29 : decode cX6_readLeaf 29 = .ok (.getfield 64, 3) := by decide +kernel
theorem dX6_readLeaf_32 : decode cX6_readLeaf 32 = .ok (.arraylength, 1) := by decide +kernel
theorem dX6_readLeaf_33 : decode cX6_readLeaf 33 = .ok (.if_icmp .lt 9, 3) := by decide +kernel
theorem dX6_readLeaf_36 : decode cX6_readLeaf 36 = .ok (.aload_n 0, 1) := by decide +kernel
theorem dX6_readLeaf_37 : decode cX6_readLeaf 37 = .ok (.iconst 3, 1) := by decide +kernel
theorem dX6_readLeaf_38 : decode cX6_readLeaf 38 = .ok (.putfield 24, 3) := by decide +kernel
theorem dX6_readLeaf_41 : decode cX6_readLeaf 41 = .ok (.return_, 1) := by decide +kernel
theorem dX6_readLeaf_42 : decode cX6_readLeaf 42 = .ok (.aload_n 1, 1) := by decide +kernel
theorem dX6_readLeaf_43 : decode cX6_readLeaf 43 = .ok (.getfield 64, 3) := by decide +kernel
theorem dX6_readLeaf_46 : decode cX6_readLeaf 46 = .ok (.iload_n 3, 1) := by decide +kernel
theorem dX6_readLeaf_47 : decode cX6_readLeaf 47 = .ok (.aaload, 1) := by decide +kernel
theorem dX6_readLeaf_48 : decode cX6_readLeaf 48 = .ok (.astore 4, 2) := by decide +kernel
theorem dX6_readLeaf_50 : decode cX6_readLeaf 50 = .ok (.aload_n 0, 1) := by decide +kernel
theorem dX6_readLeaf_51 : decode cX6_readLeaf 51 = .ok (.invokevirtual 30, 3) := by decide +kernel
theorem dX6_readLeaf_54 : decode cX6_readLeaf 54 = .ok (.aload 4, 2) := by decide +kernel
theorem dX6_readLeaf_56 : decode cX6_readLeaf 56 = .ok (.iload_n 2, 1) := by decide +kernel
theorem dX6_readLeaf_57 : decode cX6_readLeaf 57 = .ok (.putfield 68, 3) := by decide +kernel
theorem dX6_readLeaf_60 : decode cX6_readLeaf 60 = .ok (.aload 4, 2) := by decide +kernel
theorem dX6_readLeaf_62 : decode cX6_readLeaf 62 = .ok (.aload_n 0, 1) := by decide +kernel
theorem dX6_readLeaf_63 : decode cX6_readLeaf 63 = .ok (.iconst 1, 1) := by decide +kernel
theorem dX6_readLeaf_64 : decode cX6_readLeaf 64 = .ok (.bipush 20, 2) := by decide +kernel
theorem dX6_readLeaf_66 : decode cX6_readLeaf 66 = .ok (.invokevirtual 37, 3) := by decide +kernel
theorem dX6_readLeaf_69 : decode cX6_readLeaf 69 = .ok (.putfield 73, 3) := by decide +kernel
theorem dX6_readLeaf_72 : decode cX6_readLeaf 72 = .ok (.aload 4, 2) := by decide +kernel
theorem dX6_readLeaf_74 : decode cX6_readLeaf 74 = .ok (.aload 4, 2) := by decide +kernel
theorem dX6_readLeaf_76 : decode cX6_readLeaf 76 = .ok (.getfield 73, 3) := by decide +kernel
theorem dX6_readLeaf_79 : decode cX6_readLeaf 79 = .ok (.putfield 76, 3) := by decide +kernel
theorem dX6_readLeaf_82 : decode cX6_readLeaf 82 = .ok (.aload_n 0, 1) := by decide +kernel
theorem dX6_readLeaf_83 : decode cX6_readLeaf 83 = .ok (.bipush 44, 2) := by decide +kernel
theorem dX6_readLeaf_85 : decode cX6_readLeaf 85 = .ok (.invokevirtual 33, 3) := by decide +kernel
theorem dX6_readLeaf_88 : decode cX6_readLeaf 88 = .ok (.aload 4, 2) := by decide +kernel
theorem dX6_readLeaf_90 : decode cX6_readLeaf 90 = .ok (.aload_n 0, 1) := by decide +kernel
theorem dX6_readLeaf_91 : decode cX6_readLeaf 91 = .ok (.iconst 0, 1) := by decide +kernel
theorem dX6_readLeaf_92 : decode cX6_readLeaf 92 = .ok (.bipush 9, 2) := by decide +kernel
theorem dX6_readLeaf_94 : decode cX6_readLeaf 94 = .ok (.invokevirtual 37, 3) := by decide +kernel
theorem dX6_readLeaf_97 : decode cX6_readLeaf 97 = .ok (.putfield 79, 3) := by decide +kernel
theorem dX6_readLeaf_100 : decode cX6_readLeaf 100 = .ok (.aload_n 0, 1) := by decide +kernel
theorem dX6_readLeaf_101 : decode cX6_readLeaf 101 = .ok (.bipush 44, 2) := by decide +kernel
theorem dX6_readLeaf_103 : decode cX6_readLeaf 103 = .ok (.invokevirtual 33, 3) := by decide +kernel
theorem dX6_readLeaf_106 : decode cX6_readLeaf 106 = .ok (.aload 4, 2) := by decide +kernel
theorem dX6_readLeaf_108 : decode cX6_readLeaf 108 = .ok (.aload_n 0, 1) := by decide +kernel
theorem dX6_readLeaf_109 : decode cX6_readLeaf 109 = .ok (.iconst 0, 1) := by decide +kernel
theorem dX6_readLeaf_110 : decode cX6_readLeaf 110 = .ok (.bipush 9, 2) := by decide +kernel
theorem dX6_readLeaf_112 : decode cX6_readLeaf 112 = .ok (.invokevirtual 37, 3) := by decide +kernel
theorem dX6_readLeaf_115 : decode cX6_readLeaf 115 = .ok (.putfield 82, 3) := by decide +kernel
theorem dX6_readLeaf_118 : decode cX6_readLeaf 118 = .ok (.aload_n 0, 1) := by decide +kernel
theorem dX6_readLeaf_119 : decode cX6_readLeaf 119 = .ok (.bipush 59, 2) := by decide +kernel
theorem dX6_readLeaf_121 : decode cX6_readLeaf 121 = .ok (.invokevirtual 33, 3) := by decide +kernel
theorem dX6_readLeaf_124 : decode cX6_readLeaf 124 = .ok (.aload_n 1, 1) := by decide +kernel
theorem dX6_readLeaf_125 : decode cX6_readLeaf 125 = .ok (.dup, 1) := by decide +kernel
theorem dX6_readLeaf_126 : decode cX6_readLeaf 126 = .ok (.getfield 61, 3) := by decide +kernel
theorem dX6_readLeaf_129 : decode cX6_readLeaf 129 = .ok (.iconst 1, 1) := by decide +kernel
theorem dX6_readLeaf_130 : decode cX6_readLeaf 130 = .ok (.iadd, 1) := by decide +kernel
theorem dX6_readLeaf_131 : decode cX6_readLeaf 131 = .ok (.putfield 61, 3) := by decide +kernel
theorem dX6_readLeaf_134 : decode cX6_readLeaf 134 = .ok (.return_, 1) := by decide +kernel
theorem dX6_readGoat_0 : decode cX6_readGoat 0 = .ok (.aload_n 1, 1) := by decide +kernel
theorem dX6_readGoat_1 : decode cX6_readGoat 1 = .ok (.getfield 85, 3) := by decide +kernel
theorem dX6_readGoat_4 : decode cX6_readGoat 4 = .ok (.istore_n 2, 1) := by decide +kernel
theorem dX6_readGoat_5 : decode cX6_readGoat 5 = .ok (.aload_n 0, 1) := by decide +kernel
theorem dX6_readGoat_6 : decode cX6_readGoat 6 = .ok (.getfield 47, 3) := by decide +kernel
theorem dX6_readGoat_9 : decode cX6_readGoat 9 = .ok (.bipush 103, 2) := by decide +kernel
theorem dX6_readGoat_11 : decode cX6_readGoat 11 = .ok (.if_icmp .eq 9, 3) := by decide +kernel
theorem dX6_readGoat_14 : decode cX6_readGoat 14 = .ok (.aload_n 0, 1) := by decide +kernel
theorem dX6_readGoat_15 : decode cX6_readGoat 15 = .ok (.iconst 1, 1) := by decide +kernel
theorem dX6_readGoat_16 : decode cX6_readGoat 16 = .ok (.putfield 24, 3) := by decide +kernel
theorem dX6_readGoat_19 : decode cX6_readGoat 19 = .ok (.return_, 1) := by decide +kernel
theorem dX6_readGoat_20 : decode cX6_readGoat 20 = .ok (.iload_n 2, 1) := by decide +kernel
theorem dX6_readGoat_21 : decode cX6_readGoat 21 = .ok (.ifCond .lt 12, 3) := by decide +kernel
theorem dX6_readGoat_24 : decode cX6_readGoat 24 = .ok (.iload_n 2, 1) := by decide +kernel
theorem dX6_readGoat_25 : decode cX6_readGoat 25 = .ok (.aload_n 1, 1) := by decide +kernel
theorem dX6_readGoat_26 : decode cX6_readGoat 26 = .ok (.getfield 88, 3) := by decide +kernel
theorem dX6_readGoat_29 : decode cX6_readGoat 29 = .ok (.arraylength, 1) := by decide +kernel
theorem dX6_readGoat_30 : decode cX6_readGoat 30 = .ok (.if_icmp .lt 9, 3) := by decide +kernel
theorem dX6_readGoat_33 : decode cX6_readGoat 33 = .ok (.aload_n 0, 1) := by decide +kernel
theorem dX6_readGoat_34 : decode cX6_readGoat 34 = .ok (.iconst 3, 1) := by decide +kernel
theorem dX6_readGoat_35 : decode cX6_readGoat 35 = .ok (.putfield 24, 3) := by decide +kernel
theorem dX6_readGoat_38 : decode cX6_readGoat 38 = .ok (.return_, 1) := by decide +kernel
theorem dX6_readGoat_39 : decode cX6_readGoat 39 = .ok (.aload_n 1, 1) := by decide +kernel
theorem dX6_readGoat_40 : decode cX6_readGoat 40 = .ok (.getfield 88, 3) := by decide +kernel
theorem dX6_readGoat_43 : decode cX6_readGoat 43 = .ok (.iload_n 2, 1) := by decide +kernel
theorem dX6_readGoat_44 : decode cX6_readGoat 44 = .ok (.aaload, 1) := by decide +kernel
theorem dX6_readGoat_45 : decode cX6_readGoat 45 = .ok (.astore_n 3, 1) := by decide +kernel
theorem dX6_readGoat_46 : decode cX6_readGoat 46 = .ok (.aload_n 0, 1) := by decide +kernel
theorem dX6_readGoat_47 : decode cX6_readGoat 47 = .ok (.invokevirtual 30, 3) := by decide +kernel
theorem dX6_readGoat_50 : decode cX6_readGoat 50 = .ok (.aload_n 3, 1) := by decide +kernel
theorem dX6_readGoat_51 : decode cX6_readGoat 51 = .ok (.aload_n 0, 1) := by decide +kernel
theorem dX6_readGoat_52 : decode cX6_readGoat 52 = .ok (.iconst 0, 1) := by decide +kernel
theorem dX6_readGoat_53 : decode cX6_readGoat 53 = .ok (.bipush 40, 2) := by decide +kernel
theorem dX6_readGoat_55 : decode cX6_readGoat 55 = .ok (.invokevirtual 37, 3) := by decide +kernel
theorem dX6_readGoat_58 : decode cX6_readGoat 58 = .ok (.putfield 92, 3) := by decide +kernel
theorem dX6_readGoat_61 : decode cX6_readGoat 61 = .ok (.aload_n 0, 1) := by decide +kernel
theorem dX6_readGoat_62 : decode cX6_readGoat 62 = .ok (.bipush 44, 2) := by decide +kernel
theorem dX6_readGoat_64 : decode cX6_readGoat 64 = .ok (.invokevirtual 33, 3) := by decide +kernel
theorem dX6_readGoat_67 : decode cX6_readGoat 67 = .ok (.aload_n 3, 1) := by decide +kernel
theorem dX6_readGoat_68 : decode cX6_readGoat 68 = .ok (.aload_n 0, 1) := by decide +kernel
theorem dX6_readGoat_69 : decode cX6_readGoat 69 = .ok (.iconst 0, 1) := by decide +kernel
theorem dX6_readGoat_70 : decode cX6_readGoat 70 = .ok (.bipush 9, 2) := by decide +kernel
theorem dX6_readGoat_72 : decode cX6_readGoat 72 = .ok (.invokevirtual 37, 3) := by decide +kernel
theorem dX6_readGoat_75 : decode cX6_readGoat 75 = .ok (.putfield 97, 3) := by decide +kernel
theorem dX6_readGoat_78 : decode cX6_readGoat 78 = .ok (.aload_n 0, 1) := by decide +kernel
theorem dX6_readGoat_79 : decode cX6_readGoat 79 = .ok (.bipush 59, 2) := by decide +kernel
theorem dX6_readGoat_81 : decode cX6_readGoat 81 = .ok (.invokevirtual 33, 3) := by decide +kernel
theorem dX6_readGoat_84 : decode cX6_readGoat 84 = .ok (.aload_n 1, 1) := by decide +kernel
theorem dX6_readGoat_85 : decode cX6_readGoat 85 = .ok (.dup, 1) := by decide +kernel
theorem dX6_readGoat_86 : decode cX6_readGoat 86 = .ok (.getfield 85, 3) := by decide +kernel
theorem dX6_readGoat_89 : decode cX6_readGoat 89 = .ok (.iconst 1, 1) := by decide +kernel
theorem dX6_readGoat_90 : decode cX6_readGoat 90 = .ok (.iadd, 1) := by decide +kernel
theorem dX6_readGoat_91 : decode cX6_readGoat 91 = .ok (.putfield 85, 3) := by decide +kernel
theorem dX6_readGoat_94 : decode cX6_readGoat 94 = .ok (.return_, 1) := by decide +kernel
theorem dX6_sortOf_0 : decode cX6_sortOf 0 = .ok (.iload_n 0, 1) := by decide +kernel
theorem dX6_sortOf_1 : decode cX6_sortOf 1 = .ok (.lookupswitch 61 #[(97, 53), (98, 57), (104, 55), (115, 51), (116, 59)], 51) := by decide +kernel
theorem dX6_sortOf_52 : decode cX6_sortOf 52 = .ok (.iconst 1, 1) := by decide +kernel
theorem dX6_sortOf_53 : decode cX6_sortOf 53 = .ok (.ireturn, 1) := by decide +kernel
theorem dX6_sortOf_54 : decode cX6_sortOf 54 = .ok (.iconst 2, 1) := by decide +kernel
theorem dX6_sortOf_55 : decode cX6_sortOf 55 = .ok (.ireturn, 1) := by decide +kernel
theorem dX6_sortOf_56 : decode cX6_sortOf 56 = .ok (.iconst 3, 1) := by decide +kernel
theorem dX6_sortOf_57 : decode cX6_sortOf 57 = .ok (.ireturn, 1) := by decide +kernel
theorem dX6_sortOf_58 : decode cX6_sortOf 58 = .ok (.iconst 4, 1) := by decide +kernel
theorem dX6_sortOf_59 : decode cX6_sortOf 59 = .ok (.ireturn, 1) := by decide +kernel
end
section
theorem dX6_sortOf_60 : decode cX6_sortOf 60 = .ok (.iconst 5, 1) := by decide +kernel
theorem dX6_sortOf_61 : decode cX6_sortOf 61 = .ok (.ireturn, 1) := by decide +kernel
theorem dX6_sortOf_62 : decode cX6_sortOf 62 = .ok (.iconst 0, 1) := by decide +kernel
theorem dX6_sortOf_63 : decode cX6_sortOf 63 = .ok (.ireturn, 1) := by decide +kernel
theorem dX6_takeSign_0 : decode cX6_takeSign 0 = .ok (.aload_n 0, 1) := by decide +kernel
theorem dX6_takeSign_1 : decode cX6_takeSign 1 = .ok (.getfield 24, 3) := by decide +kernel
theorem dX6_takeSign_4 : decode cX6_takeSign 4 = .ok (.ifCond .eq 4, 3) := by decide +kernel
theorem dX6_takeSign_7 : decode cX6_takeSign 7 = .ok (.return_, 1) := by decide +kernel
theorem dX6_takeSign_8 : decode cX6_takeSign 8 = .ok (.aload_n 0, 1) := by decide +kernel
theorem dX6_takeSign_9 : decode cX6_takeSign 9 = .ok (.getfield 47, 3) := by decide +kernel
theorem dX6_takeSign_12 : decode cX6_takeSign 12 = .ok (.iload_n 1, 1) := by decide +kernel
theorem dX6_takeSign_13 : decode cX6_takeSign 13 = .ok (.if_icmp .eq 9, 3) := by decide +kernel
theorem dX6_takeSign_16 : decode cX6_takeSign 16 = .ok (.aload_n 0, 1) := by decide +kernel
theorem dX6_takeSign_17 : decode cX6_takeSign 17 = .ok (.iconst 1, 1) := by decide +kernel
theorem dX6_takeSign_18 : decode cX6_takeSign 18 = .ok (.putfield 24, 3) := by decide +kernel
theorem dX6_takeSign_21 : decode cX6_takeSign 21 = .ok (.return_, 1) := by decide +kernel
theorem dX6_takeSign_22 : decode cX6_takeSign 22 = .ok (.aload_n 0, 1) := by decide +kernel
theorem dX6_takeSign_23 : decode cX6_takeSign 23 = .ok (.invokevirtual 30, 3) := by decide +kernel
theorem dX6_takeSign_26 : decode cX6_takeSign 26 = .ok (.return_, 1) := by decide +kernel
theorem dX6_takeNumber_0 : decode cX6_takeNumber 0 = .ok (.aload_n 0, 1) := by decide +kernel
theorem dX6_takeNumber_1 : decode cX6_takeNumber 1 = .ok (.getfield 24, 3) := by decide +kernel
theorem dX6_takeNumber_4 : decode cX6_takeNumber 4 = .ok (.ifCond .eq 5, 3) := by decide +kernel
theorem dX6_takeNumber_7 : decode cX6_takeNumber 7 = .ok (.iconst 0, 1) := by decide +kernel
theorem dX6_takeNumber_8 : decode cX6_takeNumber 8 = .ok (.ireturn, 1) := by decide +kernel
theorem dX6_takeNumber_9 : decode cX6_takeNumber 9 = .ok (.aload_n 0, 1) := by decide +kernel
theorem dX6_takeNumber_10 : decode cX6_takeNumber 10 = .ok (.getfield 47, 3) := by decide +kernel
theorem dX6_takeNumber_13 : decode cX6_takeNumber 13 = .ok (.bipush (-2), 2) := by decide +kernel
theorem dX6_takeNumber_15 : decode cX6_takeNumber 15 = .ok (.if_icmp .eq 10, 3) := by decide +kernel
theorem dX6_takeNumber_18 : decode cX6_takeNumber 18 = .ok (.aload_n 0, 1) := by decide +kernel
theorem dX6_takeNumber_19 : decode cX6_takeNumber 19 = .ok (.iconst 1, 1) := by decide +kernel
theorem dX6_takeNumber_20 : decode cX6_takeNumber 20 = .ok (.putfield 24, 3) := by decide +kernel
theorem dX6_takeNumber_23 : decode cX6_takeNumber 23 = .ok (.iconst 0, 1) := by decide +kernel
theorem dX6_takeNumber_24 : decode cX6_takeNumber 24 = .ok (.ireturn, 1) := by decide +kernel
theorem dX6_takeNumber_25 : decode cX6_takeNumber 25 = .ok (.aload_n 0, 1) := by decide +kernel
theorem dX6_takeNumber_26 : decode cX6_takeNumber 26 = .ok (.getfield 100, 3) := by decide +kernel
theorem dX6_takeNumber_29 : decode cX6_takeNumber 29 = .ok (.istore_n 3, 1) := by decide +kernel
theorem dX6_takeNumber_30 : decode cX6_takeNumber 30 = .ok (.iload_n 3, 1) := by decide +kernel
theorem dX6_takeNumber_31 : decode cX6_takeNumber 31 = .ok (.iload_n 1, 1) := by decide +kernel
theorem dX6_takeNumber_32 : decode cX6_takeNumber 32 = .ok (.if_icmp .lt 8, 3) := by decide +kernel
theorem dX6_takeNumber_35 : decode cX6_takeNumber 35 = .ok (.iload_n 3, 1) := by decide +kernel
theorem dX6_takeNumber_36 : decode cX6_takeNumber 36 = .ok (.iload_n 2, 1) := by decide +kernel
theorem dX6_takeNumber_37 : decode cX6_takeNumber 37 = .ok (.if_icmp .le 10, 3) := by decide +kernel
theorem dX6_takeNumber_40 : decode cX6_takeNumber 40 = .ok (.aload_n 0, 1) := by decide +kernel
theorem dX6_takeNumber_41 : decode cX6_takeNumber 41 = .ok (.iconst 2, 1) := by decide +kernel
theorem dX6_takeNumber_42 : decode cX6_takeNumber 42 = .ok (.putfield 24, 3) := by decide +kernel
theorem dX6_takeNumber_45 : decode cX6_takeNumber 45 = .ok (.iconst 0, 1) := by decide +kernel
theorem dX6_takeNumber_46 : decode cX6_takeNumber 46 = .ok (.ireturn, 1) := by decide +kernel
theorem dX6_takeNumber_47 : decode cX6_takeNumber 47 = .ok (.aload_n 0, 1) := by decide +kernel
theorem dX6_takeNumber_48 : decode cX6_takeNumber 48 = .ok (.invokevirtual 30, 3) := by decide +kernel
theorem dX6_takeNumber_51 : decode cX6_takeNumber 51 = .ok (.iload_n 3, 1) := by decide +kernel
theorem dX6_takeNumber_52 : decode cX6_takeNumber 52 = .ok (.ireturn, 1) := by decide +kernel
theorem dX6_advance_0 : decode cX6_advance 0 = .ok (.aload_n 0, 1) := by decide +kernel
theorem dX6_advance_1 : decode cX6_advance 1 = .ok (.aload_n 0, 1) := by decide +kernel
theorem dX6_advance_2 : decode cX6_advance 2 = .ok (.getfield 27, 3) := by decide +kernel
theorem dX6_advance_5 : decode cX6_advance 5 = .ok (.putfield 103, 3) := by decide +kernel
theorem dX6_advance_8 : decode cX6_advance 8 = .ok (.aload_n 0, 1) := by decide +kernel
theorem dX6_advance_9 : decode cX6_advance 9 = .ok (.iconst 0, 1) := by decide +kernel
theorem dX6_advance_10 : decode cX6_advance 10 = .ok (.putfield 100, 3) := by decide +kernel
theorem dX6_advance_13 : decode cX6_advance 13 = .ok (.iconst 0, 1) := by decide +kernel
theorem dX6_advance_14 : decode cX6_advance 14 = .ok (.istore_n 1, 1) := by decide +kernel
theorem dX6_advance_15 : decode cX6_advance 15 = .ok (.aload_n 0, 1) := by decide +kernel
theorem dX6_advance_16 : decode cX6_advance 16 = .ok (.aload_n 0, 1) := by decide +kernel
theorem dX6_advance_17 : decode cX6_advance 17 = .ok (.getfield 103, 3) := by decide +kernel
theorem dX6_advance_20 : decode cX6_advance 20 = .ok (.invokevirtual 106, 3) := by decide +kernel
theorem dX6_advance_23 : decode cX6_advance 23 = .ok (.istore_n 2, 1) := by decide +kernel
theorem dX6_advance_24 : decode cX6_advance 24 = .ok (.iconst 0, 1) := by decide +kernel
theorem dX6_advance_25 : decode cX6_advance 25 = .ok (.istore_n 3, 1) := by decide +kernel
theorem dX6_advance_26 : decode cX6_advance 26 = .ok (.iload_n 3, 1) := by decide +kernel
theorem dX6_advance_27 : decode cX6_advance 27 = .ok (.bipush 120, 2) := by decide +kernel
theorem dX6_advance_29 : decode cX6_advance 29 = .ok (.if_icmp .ge 63, 3) := by decide +kernel
theorem dX6_advance_32 : decode cX6_advance 32 = .ok (.iload_n 2, 1) := by decide +kernel
theorem dX6_advance_33 : decode cX6_advance 33 = .ok (.bipush 48, 2) := by decide +kernel
theorem dX6_advance_35 : decode cX6_advance 35 = .ok (.if_icmp .lt 57, 3) := by decide +kernel
theorem dX6_advance_38 : decode cX6_advance 38 = .ok (.iload_n 2, 1) := by decide +kernel
theorem dX6_advance_39 : decode cX6_advance 39 = .ok (.bipush 57, 2) := by decide +kernel
theorem dX6_advance_41 : decode cX6_advance 41 = .ok (.if_icmp .gt 51, 3) := by decide +kernel
theorem dX6_advance_44 : decode cX6_advance 44 = .ok (.aload_n 0, 1) := by decide +kernel
theorem dX6_advance_45 : decode cX6_advance 45 = .ok (.iload_n 1, 1) := by decide +kernel
theorem dX6_advance_46 : decode cX6_advance 46 = .ok (.iconst 2, 1) := by decide +kernel
theorem dX6_advance_47 : decode cX6_advance 47 = .ok (.if_icmp .ge 18, 3) := by decide +kernel
theorem dX6_advance_50 : decode cX6_advance 50 = .ok (.bipush 10, 2) := by decide +kernel
theorem dX6_advance_52 : decode cX6_advance 52 = .ok (.aload_n 0, 1) := by decide +kernel
theorem dX6_advance_53 : decode cX6_advance 53 = .ok (.getfield 100, 3) := by decide +kernel
theorem dX6_advance_56 : decode cX6_advance 56 = .ok (.imul, 1) := by decide +kernel
theorem dX6_advance_57 : decode cX6_advance 57 = .ok (.iload_n 2, 1) := by decide +kernel
theorem dX6_advance_58 : decode cX6_advance 58 = .ok (.iadd, 1) := by decide +kernel
theorem dX6_advance_59 : decode cX6_advance 59 = .ok (.bipush 48, 2) := by decide +kernel
theorem dX6_advance_61 : decode cX6_advance 61 = .ok (.isub, 1) := by decide +kernel
theorem dX6_advance_62 : decode cX6_advance 62 = .ok (.goto 7, 3) := by decide +kernel
theorem dX6_advance_65 : decode cX6_advance 65 = .ok (.aload_n 0, 1) := by decide +kernel
theorem dX6_advance_66 : decode cX6_advance 66 = .ok (.getfield 100, 3) := by decide +kernel
theorem dX6_advance_69 : decode cX6_advance 69 = .ok (.putfield 100, 3) := by decide +kernel
theorem dX6_advance_72 : decode cX6_advance 72 = .ok (.iinc 1 1, 3) := by decide +kernel
theorem dX6_advance_75 : decode cX6_advance 75 = .ok (.aload_n 0, 1) := by decide +kernel
theorem dX6_advance_76 : decode cX6_advance 76 = .ok (.aload_n 0, 1) := by decide +kernel
theorem dX6_advance_77 : decode cX6_advance 77 = .ok (.getfield 103, 3) := by decide +kernel
theorem dX6_advance_80 : decode cX6_advance 80 = .ok (.iload_n 1, 1) := by decide +kernel
theorem dX6_advance_81 : decode cX6_advance 81 = .ok (.iadd, 1) := by decide +kernel
theorem dX6_advance_82 : decode cX6_advance 82 = .ok (.invokevirtual 106, 3) := by decide +kernel
theorem dX6_advance_85 : decode cX6_advance 85 = .ok (.istore_n 2, 1) := by decide +kernel
theorem dX6_advance_86 : decode cX6_advance 86 = .ok (.iinc 3 1, 3) := by decide +kernel
theorem dX6_advance_89 : decode cX6_advance 89 = .ok (.goto (-63), 3) := by decide +kernel
theorem dX6_advance_92 : decode cX6_advance 92 = .ok (.iload_n 1, 1) := by decide +kernel
theorem dX6_advance_93 : decode cX6_advance 93 = .ok (.ifCond .le 32, 3) := by decide +kernel
theorem dX6_advance_96 : decode cX6_advance 96 = .ok (.aload_n 0, 1) := by decide +kernel
theorem dX6_advance_97 : decode cX6_advance 97 = .ok (.iload_n 1, 1) := by decide +kernel
theorem dX6_advance_98 : decode cX6_advance 98 = .ok (.iconst 2, 1) := by decide +kernel
theorem dX6_advance_99 : decode cX6_advance 99 = .ok (.if_icmp .gt 8, 3) := by decide +kernel
theorem dX6_advance_102 : decode cX6_advance 102 = .ok (.bipush (-2), 2) := by decide +kernel
theorem dX6_advance_104 : decode cX6_advance 104 = .ok (.goto 5, 3) := by decide +kernel
theorem dX6_advance_107 : decode cX6_advance 107 = .ok (.bipush (-3), 2) := by decide +kernel
theorem dX6_advance_109 : decode cX6_advance 109 = .ok (.putfield 47, 3) := by decide +kernel
theorem dX6_advance_112 : decode cX6_advance 112 = .ok (.aload_n 0, 1) := by decide +kernel
theorem dX6_advance_113 : decode cX6_advance 113 = .ok (.aload_n 0, 1) := by decide +kernel
theorem dX6_advance_114 : decode cX6_advance 114 = .ok (.getfield 103, 3) := by decide +kernel
theorem dX6_advance_117 : decode cX6_advance 117 = .ok (.iload_n 1, 1) := by decide +kernel
theorem dX6_advance_118 : decode cX6_advance 118 = .ok (.iadd, 1) := by decide +kernel
theorem dX6_advance_119 : decode cX6_advance 119 = .ok (.putfield 27, 3) := by decide +kernel
theorem dX6_advance_122 : decode cX6_advance 122 = .ok (.goto 30, 3) := by decide +kernel
theorem dX6_advance_125 : decode cX6_advance 125 = .ok (.aload_n 0, 1) := by decide +kernel
theorem dX6_advance_126 : decode cX6_advance 126 = .ok (.iload_n 2, 1) := by decide +kernel
theorem dX6_advance_127 : decode cX6_advance 127 = .ok (.putfield 47, 3) := by decide +kernel
theorem dX6_advance_130 : decode cX6_advance 130 = .ok (.aload_n 0, 1) := by decide +kernel
theorem dX6_advance_131 : decode cX6_advance 131 = .ok (.iload_n 2, 1) := by decide +kernel
theorem dX6_advance_132 : decode cX6_advance 132 = .ok (.iconst (-1), 1) := by decide +kernel
theorem dX6_advance_133 : decode cX6_advance 133 = .ok (.if_icmp .ne 10, 3) := by decide +kernel
theorem dX6_advance_136 : decode cX6_advance 136 = .ok (.aload_n 0, 1) := by decide +kernel
theorem dX6_advance_137 : decode cX6_advance 137 = .ok (.getfield 103, 3) := by decide +kernel
theorem dX6_advance_140 : decode cX6_advance 140 = .ok (.goto 9, 3) := by decide +kernel
theorem dX6_advance_143 : decode cX6_advance 143 = .ok (.aload_n 0, 1) := by decide +kernel
theorem dX6_advance_144 : decode cX6_advance 144 = .ok (.getfield 103, 3) := by decide +kernel
theorem dX6_advance_147 : decode cX6_advance 147 = .ok (.iconst 1, 1) := by decide +kernel
theorem dX6_advance_148 : decode cX6_advance 148 = .ok (.iadd, 1) := by decide +kernel
theorem dX6_advance_149 : decode cX6_advance 149 = .ok (.putfield 27, 3) := by decide +kernel
theorem dX6_advance_152 : decode cX6_advance 152 = .ok (.return_, 1) := by decide +kernel
theorem dX6_byteAt_0 : decode cX6_byteAt 0 = .ok (.iload_n 1, 1) := by decide +kernel
theorem dX6_byteAt_1 : decode cX6_byteAt 1 = .ok (.ifCond .lt 29, 3) := by decide +kernel
theorem dX6_byteAt_4 : decode cX6_byteAt 4 = .ok (.iload_n 1, 1) := by decide +kernel
theorem dX6_byteAt_5 : decode cX6_byteAt 5 = .ok (.aload_n 0, 1) := by decide +kernel
theorem dX6_byteAt_6 : decode cX6_byteAt 6 = .ok (.getfield 15, 3) := by decide +kernel
theorem dX6_byteAt_9 : decode cX6_byteAt 9 = .ok (.if_icmp .ge 21, 3) := by decide +kernel
theorem dX6_byteAt_12 : decode cX6_byteAt 12 = .ok (.iload_n 1, 1) := by decide +kernel
theorem dX6_byteAt_13 : decode cX6_byteAt 13 = .ok (.aload_n 0, 1) := by decide +kernel
theorem dX6_byteAt_14 : decode cX6_byteAt 14 = .ok (.getfield 9, 3) := by decide +kernel
theorem dX6_byteAt_17 : decode cX6_byteAt 17 = .ok (.arraylength, 1) := by decide +kernel
theorem dX6_byteAt_18 : decode cX6_byteAt 18 = .ok (.if_icmp .ge 12, 3) := by decide +kernel
theorem dX6_byteAt_21 : decode cX6_byteAt 21 = .ok (.aload_n 0, 1) := by decide +kernel
theorem dX6_byteAt_22 : decode cX6_byteAt 22 = .ok (.getfield 9, 3) := by decide +kernel
theorem dX6_byteAt_25 : decode cX6_byteAt 25 = .ok (.iload_n 1, 1) := by decide +kernel
theorem dX6_byteAt_26 : decode cX6_byteAt 26 = .ok (.iaload, 1) := by decide +kernel
theorem dX6_byteAt_27 : decode cX6_byteAt 27 = .ok (.goto 4, 3) := by decide +kernel
theorem dX6_byteAt_30 : decode cX6_byteAt 30 = .ok (.iconst (-1), 1) := by decide +kernel
theorem dX6_byteAt_31 : decode cX6_byteAt 31 = .ok (.ireturn, 1) := by decide +kernel
theorem dX7_init_0 : decode cX7_init 0 = .ok (.aload_n 0, 1) := by decide +kernel
theorem dX7_init_1 : decode cX7_init 1 = .ok (.invokespecial 1, 3) := by decide +kernel
theorem dX7_init_4 : decode cX7_init 4 = .ok (.aload_n 0, 1) := by decide +kernel
theorem dX7_init_5 : decode cX7_init 5 = .ok (.bipush 8, 2) := by decide +kernel
theorem dX7_init_7 : decode cX7_init 7 = .ok (.anewarray 9, 3) := by decide +kernel
theorem dX7_init_10 : decode cX7_init 10 = .ok (.putfield 11, 3) := by decide +kernel
theorem dX7_init_13 : decode cX7_init 13 = .ok (.aload_n 0, 1) := by decide +kernel
theorem dX7_init_14 : decode cX7_init 14 = .ok (.new 15, 3) := by decide +kernel
theorem dX7_init_17 : decode cX7_init 17 = .ok (.dup, 1) := by decide +kernel
theorem dX7_init_18 : decode cX7_init 18 = .ok (.invokespecial 17, 3) := by decide +kernel
theorem dX7_init_21 : decode cX7_init 21 = .ok (.putfield 18, 3) := by decide +kernel
theorem dX7_init_24 : decode cX7_init 24 = .ok (.aload_n 0, 1) := by decide +kernel
theorem dX7_init_25 : decode cX7_init 25 = .ok (.new 22, 3) := by decide +kernel
theorem dX7_init_28 : decode cX7_init 28 = .ok (.dup, 1) := by decide +kernel
theorem dX7_init_29 : decode cX7_init 29 = .ok (.invokespecial 24, 3) := by decide +kernel
theorem dX7_init_32 : decode cX7_init 32 = .ok (.putfield 25, 3) := by decide +kernel
theorem dX7_init_35 : decode cX7_init 35 = .ok (.aload_n 0, 1) := by decide +kernel
theorem dX7_init_36 : decode cX7_init 36 = .ok (.new 29, 3) := by decide +kernel
theorem dX7_init_39 : decode cX7_init 39 = .ok (.dup, 1) := by decide +kernel
theorem dX7_init_40 : decode cX7_init 40 = .ok (.invokespecial 31, 3) := by decide +kernel
theorem dX7_init_43 : decode cX7_init 43 = .ok (.putfield 32, 3) := by decide +kernel
theorem dX7_init_46 : decode cX7_init 46 = .ok (.aload_n 0, 1) := by decide +kernel
theorem dX7_init_47 : decode cX7_init 47 = .ok (.new 36, 3) := by decide +kernel
theorem dX7_init_50 : decode cX7_init 50 = .ok (.dup, 1) := by decide +kernel
theorem dX7_init_51 : decode cX7_init 51 = .ok (.invokespecial 38, 3) := by decide +kernel
theorem dX7_init_54 : decode cX7_init 54 = .ok (.putfield 39, 3) := by decide +kernel
theorem dX7_init_57 : decode cX7_init 57 = .ok (.aload_n 0, 1) := by decide +kernel
theorem dX7_init_58 : decode cX7_init 58 = .ok (.new 36, 3) := by decide +kernel
theorem dX7_init_61 : decode cX7_init 61 = .ok (.dup, 1) := by decide +kernel
theorem dX7_init_62 : decode cX7_init 62 = .ok (.invokespecial 38, 3) := by decide +kernel
theorem dX7_init_65 : decode cX7_init 65 = .ok (.putfield 43, 3) := by decide +kernel
theorem dX7_init_68 : decode cX7_init 68 = .ok (.aload_n 0, 1) := by decide +kernel
theorem dX7_init_69 : decode cX7_init 69 = .ok (.new 36, 3) := by decide +kernel
theorem dX7_init_72 : decode cX7_init 72 = .ok (.dup, 1) := by decide +kernel
theorem dX7_init_73 : decode cX7_init 73 = .ok (.invokespecial 38, 3) := by decide +kernel
theorem dX7_init_76 : decode cX7_init 76 = .ok (.putfield 46, 3) := by decide +kernel
theorem dX7_init_79 : decode cX7_init 79 = .ok (.aload_n 0, 1) := by decide +kernel
theorem dX7_init_80 : decode cX7_init 80 = .ok (.new 36, 3) := by decide +kernel
theorem dX7_init_83 : decode cX7_init 83 = .ok (.dup, 1) := by decide +kernel
theorem dX7_init_84 : decode cX7_init 84 = .ok (.invokespecial 38, 3) := by decide +kernel
theorem dX7_init_87 : decode cX7_init 87 = .ok (.putfield 49, 3) := by decide +kernel
theorem dX7_init_90 : decode cX7_init 90 = .ok (.iconst 0, 1) := by decide +kernel
theorem dX7_init_91 : decode cX7_init 91 = .ok (.istore_n 1, 1) := by decide +kernel
theorem dX7_init_92 : decode cX7_init 92 = .ok (.iload_n 1, 1) := by decide +kernel
theorem dX7_init_93 : decode cX7_init 93 = .ok (.aload_n 0, 1) := by decide +kernel
theorem dX7_init_94 : decode cX7_init 94 = .ok (.getfield 11, 3) := by decide +kernel
theorem dX7_init_97 : decode cX7_init 97 = .ok (.arraylength, 1) := by decide +kernel
theorem dX7_init_98 : decode cX7_init 98 = .ok (.if_icmp .ge 22, 3) := by decide +kernel
theorem dX7_init_101 : decode cX7_init 101 = .ok (.aload_n 0, 1) := by decide +kernel
theorem dX7_init_102 : decode cX7_init 102 = .ok (.getfield 11, 3) := by decide +kernel
theorem dX7_init_105 : decode cX7_init 105 = .ok (.iload_n 1, 1) := by decide +kernel
theorem dX7_init_106 : decode cX7_init 106 = .ok (.new 9, 3) := by decide +kernel
theorem dX7_init_109 : decode cX7_init 109 = .ok (.dup, 1) := by decide +kernel
theorem dX7_init_110 : decode cX7_init 110 = .ok (.invokespecial 52, 3) := by decide +kernel
theorem dX7_init_113 : decode cX7_init 113 = .ok (.aastore, 1) := by decide +kernel
theorem dX7_init_114 : decode cX7_init 114 = .ok (.iinc 1 1, 3) := by decide +kernel
theorem dX7_init_117 : decode cX7_init 117 = .ok (.goto (-25), 3) := by decide +kernel
theorem dX7_init_120 : decode cX7_init 120 = .ok (.return_, 1) := by decide +kernel
theorem dX7_row_0 : decode cX7_row 0 = .ok (.aload_n 0, 1) := by decide +kernel
theorem dX7_row_1 : decode cX7_row 1 = .ok (.iload_n 1, 1) := by decide +kernel
theorem dX7_row_2 : decode cX7_row 2 = .ok (.invokevirtual 53, 3) := by decide +kernel
theorem dX7_row_5 : decode cX7_row 5 = .ok (.astore 4, 2) := by decide +kernel
theorem dX7_row_7 : decode cX7_row 7 = .ok (.aload 4, 2) := by decide +kernel
theorem dX7_row_9 : decode cX7_row 9 = .ok (.ifnull 18, 3) := by decide +kernel
theorem dX7_row_12 : decode cX7_row 12 = .ok (.iload_n 2, 1) := by decide +kernel
theorem dX7_row_13 : decode cX7_row 13 = .ok (.iconst 0, 1) := by decide +kernel
theorem dX7_row_14 : decode cX7_row 14 = .ok (.iconst 2, 1) := by decide +kernel
theorem dX7_row_15 : decode cX7_row 15 = .ok (.invokestatic 57, 3) := by decide +kernel
theorem dX7_row_18 : decode cX7_row 18 = .ok (.ifCond .eq 9, 3) := by decide +kernel
theorem dX7_row_21 : decode cX7_row 21 = .ok (.iload_n 3, 1) := by decide +kernel
theorem dX7_row_22 : decode cX7_row 22 = .ok (.bipush 40, 2) := by decide +kernel
theorem dX7_row_24 : decode cX7_row 24 = .ok (.if_icmp .le 6, 3) := by decide +kernel
theorem dX7_row_27 : decode cX7_row 27 = .ok (.ldc 61, 2) := by decide +kernel
theorem dX7_row_29 : decode cX7_row 29 = .ok (.ireturn, 1) := by decide +kernel
theorem dX7_row_30 : decode cX7_row 30 = .ok (.iload_n 3, 1) := by decide +kernel
theorem dX7_row_31 : decode cX7_row 31 = .ok (.ifCond .ge 9, 3) := by decide +kernel
theorem dX7_row_34 : decode cX7_row 34 = .ok (.aload_n 0, 1) := by decide +kernel
theorem dX7_row_35 : decode cX7_row 35 = .ok (.iconst 4, 1) := by decide +kernel
theorem dX7_row_36 : decode cX7_row 36 = .ok (.invokevirtual 62, 3) := by decide +kernel
theorem dX7_row_39 : decode cX7_row 39 = .ok (.ireturn, 1) := by decide +kernel
theorem dX7_row_40 : decode cX7_row 40 = .ok (.aload_n 0, 1) := by decide +kernel
theorem dX7_row_41 : decode cX7_row 41 = .ok (.iconst 0, 1) := by decide +kernel
theorem dX7_row_42 : decode cX7_row 42 = .ok (.putfield 66, 3) := by decide +kernel
theorem dX7_row_45 : decode cX7_row 45 = .ok (.aload 4, 2) := by decide +kernel
theorem dX7_row_47 : decode cX7_row 47 = .ok (.iload_n 2, 1) := by decide +kernel
theorem dX7_row_48 : decode cX7_row 48 = .ok (.iload_n 3, 1) := by decide +kernel
theorem dX7_row_49 : decode cX7_row 49 = .ok (.invokevirtual 70, 3) := by decide +kernel
theorem dX7_row_52 : decode cX7_row 52 = .ok (.iload_n 3, 1) := by decide +kernel
theorem dX7_row_53 : decode cX7_row 53 = .ok (.ireturn, 1) := by decide +kernel
theorem dX7_set_0 : decode cX7_set 0 = .ok (.aload_n 0, 1) := by decide +kernel
theorem dX7_set_1 : decode cX7_set 1 = .ok (.iload_n 1, 1) := by decide +kernel
theorem dX7_set_2 : decode cX7_set 2 = .ok (.invokevirtual 53, 3) := by decide +kernel
theorem dX7_set_5 : decode cX7_set 5 = .ok (.astore 4, 2) := by decide +kernel
theorem dX7_set_7 : decode cX7_set 7 = .ok (.aload 4, 2) := by decide +kernel
theorem dX7_set_9 : decode cX7_set 9 = .ok (.ifnonnull 6, 3) := by decide +kernel
theorem dX7_set_12 : decode cX7_set 12 = .ok (.ldc 61, 2) := by decide +kernel
theorem dX7_set_14 : decode cX7_set 14 = .ok (.ireturn, 1) := by decide +kernel
theorem dX7_set_15 : decode cX7_set 15 = .ok (.aload 4, 2) := by decide +kernel
theorem dX7_set_17 : decode cX7_set 17 = .ok (.getfield 74, 3) := by decide +kernel
theorem dX7_set_20 : decode cX7_set 20 = .ok (.ifCond .ne 9, 3) := by decide +kernel
theorem dX7_set_23 : decode cX7_set 23 = .ok (.aload_n 0, 1) := by decide +kernel
theorem dX7_set_24 : decode cX7_set 24 = .ok (.iconst 1, 1) := by decide +kernel
theorem dX7_set_25 : decode cX7_set 25 = .ok (.invokevirtual 62, 3) := by decide +kernel
theorem dX7_set_28 : decode cX7_set 28 = .ok (.ireturn, 1) := by decide +kernel
theorem dX7_set_29 : decode cX7_set 29 = .ok (.aload 4, 2) := by decide +kernel
theorem dX7_set_31 : decode cX7_set 31 = .ok (.iload_n 2, 1) := by decide +kernel
theorem dX7_set_32 : decode cX7_set 32 = .ok (.iconst 1, 1) := by decide +kernel
theorem dX7_set_33 : decode cX7_set 33 = .ok (.invokevirtual 78, 3) := by decide +kernel
theorem dX7_set_36 : decode cX7_set 36 = .ok (.ifCond .ne 9, 3) := by decide +kernel
theorem dX7_set_39 : decode cX7_set 39 = .ok (.aload_n 0, 1) := by decide +kernel
theorem dX7_set_40 : decode cX7_set 40 = .ok (.iconst 2, 1) := by decide +kernel
theorem dX7_set_41 : decode cX7_set 41 = .ok (.invokevirtual 62, 3) := by decide +kernel
theorem dX7_set_44 : decode cX7_set 44 = .ok (.ireturn, 1) := by decide +kernel
theorem dX7_set_45 : decode cX7_set 45 = .ok (.aload_n 0, 1) := by decide +kernel
theorem dX7_set_46 : decode cX7_set 46 = .ok (.iconst 0, 1) := by decide +kernel
theorem dX7_set_47 : decode cX7_set 47 = .ok (.putfield 66, 3) := by decide +kernel
theorem dX7_set_50 : decode cX7_set 50 = .ok (.aload 4, 2) := by decide +kernel
theorem dX7_set_52 : decode cX7_set 52 = .ok (.iload_n 2, 1) := by decide +kernel
theorem dX7_set_53 : decode cX7_set 53 = .ok (.iload_n 3, 1) := by decide +kernel
theorem dX7_set_54 : decode cX7_set 54 = .ok (.invokevirtual 82, 3) := by decide +kernel
theorem dX7_set_57 : decode cX7_set 57 = .ok (.ireturn, 1) := by decide +kernel
theorem dX7_copy_0 : decode cX7_copy 0 = .ok (.aload_n 0, 1) := by decide +kernel
theorem dX7_copy_1 : decode cX7_copy 1 = .ok (.iload_n 1, 1) := by decide +kernel
theorem dX7_copy_2 : decode cX7_copy 2 = .ok (.invokevirtual 53, 3) := by decide +kernel
theorem dX7_copy_5 : decode cX7_copy 5 = .ok (.astore 6, 2) := by decide +kernel
theorem dX7_copy_7 : decode cX7_copy 7 = .ok (.aload_n 0, 1) := by decide +kernel
theorem dX7_copy_8 : decode cX7_copy 8 = .ok (.iload_n 3, 1) := by decide +kernel
theorem dX7_copy_9 : decode cX7_copy 9 = .ok (.invokevirtual 53, 3) := by decide +kernel
theorem dX7_copy_12 : decode cX7_copy 12 = .ok (.astore 7, 2) := by decide +kernel
theorem dX7_copy_14 : decode cX7_copy 14 = .ok (.aload 6, 2) := by decide +kernel
theorem dX7_copy_16 : decode cX7_copy 16 = .ok (.ifnull 8, 3) := by decide +kernel
theorem dX7_copy_19 : decode cX7_copy 19 = .ok (.aload 7, 2) := by decide +kernel
theorem dX7_copy_21 : decode cX7_copy 21 = .ok (.ifnonnull 6, 3) := by decide +kernel
theorem dX7_copy_24 : decode cX7_copy 24 = .ok (.ldc 61, 2) := by decide +kernel
theorem dX7_copy_26 : decode cX7_copy 26 = .ok (.ireturn, 1) := by decide +kernel
theorem dX7_copy_27 : decode cX7_copy 27 = .ok (.aload 6, 2) := by decide +kernel
theorem dX7_copy_29 : decode cX7_copy 29 = .ok (.getfield 74, 3) := by decide +kernel
theorem dX7_copy_32 : decode cX7_copy 32 = .ok (.ifCond .eq 11, 3) := by decide +kernel
theorem dX7_copy_35 : decode cX7_copy 35 = .ok (.aload 7, 2) := by decide +kernel
theorem dX7_copy_37 : decode cX7_copy 37 = .ok (.getfield 74, 3) := by decide +kernel
theorem dX7_copy_40 : decode cX7_copy 40 = .ok (.ifCond .ne 9, 3) := by decide +kernel
theorem dX7_copy_43 : decode cX7_copy 43 = .ok (.aload_n 0, 1) := by decide +kernel
theorem dX7_copy_44 : decode cX7_copy 44 = .ok (.iconst 1, 1) := by decide +kernel
theorem dX7_copy_45 : decode cX7_copy 45 = .ok (.invokevirtual 62, 3) := by decide +kernel
theorem dX7_copy_48 : decode cX7_copy 48 = .ok (.ireturn, 1) := by decide +kernel
theorem dX7_copy_49 : decode cX7_copy 49 = .ok (.aload 6, 2) := by decide +kernel
theorem dX7_copy_51 : decode cX7_copy 51 = .ok (.getfield 86, 3) := by decide +kernel
theorem dX7_copy_54 : decode cX7_copy 54 = .ok (.aload 7, 2) := by decide +kernel
theorem dX7_copy_56 : decode cX7_copy 56 = .ok (.getfield 86, 3) := by decide +kernel
theorem dX7_copy_59 : decode cX7_copy 59 = .ok (.if_icmp .eq 9, 3) := by decide +kernel
theorem dX7_copy_62 : decode cX7_copy 62 = .ok (.aload_n 0, 1) := by decide +kernel
theorem dX7_copy_63 : decode cX7_copy 63 = .ok (.iconst 5, 1) := by decide +kernel
theorem dX7_copy_64 : decode cX7_copy 64 = .ok (.invokevirtual 62, 3) := by decide +kernel
theorem dX7_copy_67 : decode cX7_copy 67 = .ok (.ireturn, 1) := by decide +kernel
theorem dX7_copy_68 : decode cX7_copy 68 = .ok (.aload 6, 2) := by decide +kernel
theorem dX7_copy_70 : decode cX7_copy 70 = .ok (.iload_n 2, 1) := by decide +kernel
theorem dX7_copy_71 : decode cX7_copy 71 = .ok (.iload 5, 2) := by decide +kernel
theorem dX7_copy_73 : decode cX7_copy 73 = .ok (.invokevirtual 78, 3) := by decide +kernel
theorem dX7_copy_76 : decode cX7_copy 76 = .ok (.ifCond .eq 15, 3) := by decide +kernel
theorem dX7_copy_79 : decode cX7_copy 79 = .ok (.aload 7, 2) := by decide +kernel
theorem dX7_copy_81 : decode cX7_copy 81 = .ok (.iload 4, 2) := by decide +kernel
theorem dX7_copy_83 : decode cX7_copy 83 = .ok (.iload 5, 2) := by decide +kernel
theorem dX7_copy_85 : decode cX7_copy 85 = .ok (.invokevirtual 78, 3) := by decide +kernel
theorem dX7_copy_88 : decode cX7_copy 88 = .ok (.ifCond .ne 9, 3) := by decide +kernel
theorem dX7_copy_91 : decode cX7_copy 91 = .ok (.aload_n 0, 1) := by decide +kernel
theorem dX7_copy_92 : decode cX7_copy 92 = .ok (.iconst 2, 1) := by decide +kernel
theorem dX7_copy_93 : decode cX7_copy 93 = .ok (.invokevirtual 62, 3) := by decide +kernel
theorem dX7_copy_96 : decode cX7_copy 96 = .ok (.ireturn, 1) := by decide +kernel
theorem dX7_copy_97 : decode cX7_copy 97 = .ok (.aload_n 0, 1) := by decide +kernel
theorem dX7_copy_98 : decode cX7_copy 98 = .ok (.iconst 0, 1) := by decide +kernel
theorem dX7_copy_99 : decode cX7_copy 99 = .ok (.putfield 66, 3) := by decide +kernel
theorem dX7_copy_102 : decode cX7_copy 102 = .ok (.aload 6, 2) := by decide +kernel
theorem dX7_copy_104 : decode cX7_copy 104 = .ok (.getfield 89, 3) := by decide +kernel
theorem dX7_copy_107 : decode cX7_copy 107 = .ok (.iload_n 2, 1) := by decide +kernel
theorem dX7_copy_108 : decode cX7_copy 108 = .ok (.aload 7, 2) := by decide +kernel
theorem dX7_copy_110 : decode cX7_copy 110 = .ok (.getfield 89, 3) := by decide +kernel
theorem dX7_copy_113 : decode cX7_copy 113 = .ok (.iload 4, 2) := by decide +kernel
theorem dX7_copy_115 : decode cX7_copy 115 = .ok (.iload 5, 2) := by decide +kernel
theorem dX7_copy_117 : decode cX7_copy 117 = .ok (.invokestatic 93, 3) := by decide +kernel
theorem dX7_copy_120 : decode cX7_copy 120 = .ok (.iload 5, 2) := by decide +kernel
theorem dX7_copy_122 : decode cX7_copy 122 = .ok (.ireturn, 1) := by decide +kernel
theorem dX7_drop_0 : decode cX7_drop 0 = .ok (.aload_n 0, 1) := by decide +kernel
theorem dX7_drop_1 : decode cX7_drop 1 = .ok (.iload_n 1, 1) := by decide +kernel
theorem dX7_drop_2 : decode cX7_drop 2 = .ok (.invokevirtual 53, 3) := by decide +kernel
theorem dX7_drop_5 : decode cX7_drop 5 = .ok (.astore_n 2, 1) := by decide +kernel
theorem dX7_drop_6 : decode cX7_drop 6 = .ok (.aload_n 2, 1) := by decide +kernel
theorem dX7_drop_7 : decode cX7_drop 7 = .ok (.ifnonnull 6, 3) := by decide +kernel
theorem dX7_drop_10 : decode cX7_drop 10 = .ok (.ldc 61, 2) := by decide +kernel
theorem dX7_drop_12 : decode cX7_drop 12 = .ok (.ireturn, 1) := by decide +kernel
theorem dX7_drop_13 : decode cX7_drop 13 = .ok (.aload_n 2, 1) := by decide +kernel
theorem dX7_drop_14 : decode cX7_drop 14 = .ok (.getfield 74, 3) := by decide +kernel
theorem dX7_drop_17 : decode cX7_drop 17 = .ok (.ifCond .ne 9, 3) := by decide +kernel
theorem dX7_drop_20 : decode cX7_drop 20 = .ok (.aload_n 0, 1) := by decide +kernel
theorem dX7_drop_21 : decode cX7_drop 21 = .ok (.iconst 1, 1) := by decide +kernel
theorem dX7_drop_22 : decode cX7_drop 22 = .ok (.invokevirtual 62, 3) := by decide +kernel
theorem dX7_drop_25 : decode cX7_drop 25 = .ok (.ireturn, 1) := by decide +kernel
theorem dX7_drop_26 : decode cX7_drop 26 = .ok (.aload_n 0, 1) := by decide +kernel
theorem dX7_drop_27 : decode cX7_drop 27 = .ok (.iconst 0, 1) := by decide +kernel
theorem dX7_drop_28 : decode cX7_drop 28 = .ok (.putfield 66, 3) := by decide +kernel
theorem dX7_drop_31 : decode cX7_drop 31 = .ok (.aload_n 2, 1) := by decide +kernel
theorem dX7_drop_32 : decode cX7_drop 32 = .ok (.iconst 0, 1) := by decide +kernel
theorem dX7_drop_33 : decode cX7_drop 33 = .ok (.putfield 74, 3) := by decide +kernel
theorem dX7_drop_36 : decode cX7_drop 36 = .ok (.aload_n 2, 1) := by decide +kernel
theorem dX7_drop_37 : decode cX7_drop 37 = .ok (.getfield 99, 3) := by decide +kernel
theorem dX7_drop_40 : decode cX7_drop 40 = .ok (.ireturn, 1) := by decide +kernel
theorem dX7_feed_0 : decode cX7_feed 0 = .ok (.iload_n 1, 1) := by decide +kernel
theorem dX7_feed_1 : decode cX7_feed 1 = .ok (.iconst 0, 1) := by decide +kernel
theorem dX7_feed_2 : decode cX7_feed 2 = .ok (.sipush 255, 3) := by decide +kernel
theorem dX7_feed_5 : decode cX7_feed 5 = .ok (.invokestatic 57, 3) := by decide +kernel
theorem dX7_feed_8 : decode cX7_feed 8 = .ok (.ifCond .ne 6, 3) := by decide +kernel
theorem dX7_feed_11 : decode cX7_feed 11 = .ok (.ldc 61, 2) := by decide +kernel
theorem dX7_feed_13 : decode cX7_feed 13 = .ok (.ireturn, 1) := by decide +kernel
theorem dX7_feed_14 : decode cX7_feed 14 = .ok (.aload_n 0, 1) := by decide +kernel
theorem dX7_feed_15 : decode cX7_feed 15 = .ok (.getfield 18, 3) := by decide +kernel
theorem dX7_feed_18 : decode cX7_feed 18 = .ok (.iload_n 1, 1) := by decide +kernel
theorem dX7_feed_19 : decode cX7_feed 19 = .ok (.invokevirtual 102, 3) := by decide +kernel
theorem dX7_feed_22 : decode cX7_feed 22 = .ok (.ifCond .eq 13, 3) := by decide +kernel
theorem dX7_feed_25 : decode cX7_feed 25 = .ok (.aload_n 0, 1) := by decide +kernel
theorem dX7_feed_26 : decode cX7_feed 26 = .ok (.getfield 18, 3) := by decide +kernel
theorem dX7_feed_29 : decode cX7_feed 29 = .ok (.getfield 106, 3) := by decide +kernel
theorem dX7_feed_32 : decode cX7_feed 32 = .ok (.goto 5, 3) := by decide +kernel
theorem dX7_feed_35 : decode cX7_feed 35 = .ok (.ldc 107, 2) := by decide +kernel
theorem dX7_feed_37 : decode cX7_feed 37 = .ok (.ireturn, 1) := by decide +kernel
theorem dX7_square_0 : decode cX7_square 0 = .ok (.aload_n 0, 1) := by decide +kernel
theorem dX7_square_1 : decode cX7_square 1 = .ok (.getfield 18, 3) := by decide +kernel
theorem dX7_square_4 : decode cX7_square 4 = .ok (.aload_n 0, 1) := by decide +kernel
theorem dX7_square_5 : decode cX7_square 5 = .ok (.getfield 43, 3) := by decide +kernel
theorem dX7_square_8 : decode cX7_square 8 = .ok (.invokevirtual 108, 3) := by decide +kernel
theorem dX7_square_11 : decode cX7_square 11 = .ok (.istore_n 1, 1) := by decide +kernel
theorem dX7_square_12 : decode cX7_square 12 = .ok (.aload_n 0, 1) := by decide +kernel
theorem dX7_square_13 : decode cX7_square 13 = .ok (.getfield 18, 3) := by decide +kernel
theorem dX7_square_16 : decode cX7_square 16 = .ok (.iconst 0, 1) := by decide +kernel
theorem dX7_square_17 : decode cX7_square 17 = .ok (.putfield 106, 3) := by decide +kernel
theorem dX7_square_20 : decode cX7_square 20 = .ok (.iload_n 1, 1) := by decide +kernel
theorem dX7_square_21 : decode cX7_square 21 = .ok (.ifCond .ne 25, 3) := by decide +kernel
theorem dX7_square_24 : decode cX7_square 24 = .ok (.aload_n 0, 1) := by decide +kernel
theorem dX7_square_25 : decode cX7_square 25 = .ok (.aload_n 0, 1) := by decide +kernel
theorem dX7_square_26 : decode cX7_square 26 = .ok (.getfield 18, 3) := by decide +kernel
theorem dX7_square_29 : decode cX7_square 29 = .ok (.getfield 112, 3) := by decide +kernel
theorem dX7_square_32 : decode cX7_square 32 = .ok (.putfield 115, 3) := by decide +kernel
theorem dX7_square_35 : decode cX7_square 35 = .ok (.ldc 118, 2) := by decide +kernel
theorem dX7_square_37 : decode cX7_square 37 = .ok (.aload_n 0, 1) := by decide +kernel
theorem dX7_square_38 : decode cX7_square 38 = .ok (.getfield 18, 3) := by decide +kernel
theorem dX7_square_41 : decode cX7_square 41 = .ok (.getfield 119, 3) := by decide +kernel
theorem dX7_square_44 : decode cX7_square 44 = .ok (.isub, 1) := by decide +kernel
theorem dX7_square_45 : decode cX7_square 45 = .ok (.ireturn, 1) := by decide +kernel
theorem dX7_square_46 : decode cX7_square 46 = .ok (.aload_n 0, 1) := by decide +kernel
theorem dX7_square_47 : decode cX7_square 47 = .ok (.getfield 39, 3) := by decide +kernel
theorem dX7_square_50 : decode cX7_square 50 = .ok (.aload_n 0, 1) := by decide +kernel
theorem dX7_square_51 : decode cX7_square 51 = .ok (.getfield 43, 3) := by decide +kernel
theorem dX7_square_54 : decode cX7_square 54 = .ok (.invokevirtual 122, 3) := by decide +kernel
theorem dX7_square_57 : decode cX7_square 57 = .ok (.aload_n 0, 1) := by decide +kernel
theorem dX7_square_58 : decode cX7_square 58 = .ok (.getfield 25, 3) := by decide +kernel
theorem dX7_square_61 : decode cX7_square 61 = .ok (.invokevirtual 126, 3) := by decide +kernel
theorem dX7_square_64 : decode cX7_square 64 = .ok (.aload_n 0, 1) := by decide +kernel
theorem dX7_square_65 : decode cX7_square 65 = .ok (.getfield 39, 3) := by decide +kernel
theorem dX7_square_68 : decode cX7_square 68 = .ok (.getfield 129, 3) := by decide +kernel
theorem dX7_square_71 : decode cX7_square 71 = .ok (.ireturn, 1) := by decide +kernel
theorem dX7_fault_0 : decode cX7_fault 0 = .ok (.aload_n 0, 1) := by decide +kernel
theorem dX7_fault_1 : decode cX7_fault 1 = .ok (.getfield 115, 3) := by decide +kernel
theorem dX7_fault_4 : decode cX7_fault 4 = .ok (.ireturn, 1) := by decide +kernel
theorem dX7_undo_0 : decode cX7_undo 0 = .ok (.aload_n 0, 1) := by decide +kernel
theorem dX7_undo_1 : decode cX7_undo 1 = .ok (.getfield 25, 3) := by decide +kernel
theorem dX7_undo_4 : decode cX7_undo 4 = .ok (.aload_n 0, 1) := by decide +kernel
theorem dX7_undo_5 : decode cX7_undo 5 = .ok (.getfield 39, 3) := by decide +kernel
theorem dX7_undo_8 : decode cX7_undo 8 = .ok (.invokevirtual 132, 3) := by decide +kernel
theorem dX7_undo_11 : decode cX7_undo 11 = .ok (.ifCond .eq 13, 3) := by decide +kernel
theorem dX7_undo_14 : decode cX7_undo 14 = .ok (.aload_n 0, 1) := by decide +kernel
theorem dX7_undo_15 : decode cX7_undo 15 = .ok (.getfield 25, 3) := by decide +kernel
theorem dX7_undo_18 : decode cX7_undo 18 = .ok (.getfield 135, 3) := by decide +kernel
theorem dX7_undo_21 : decode cX7_undo 21 = .ok (.goto 5, 3) := by decide +kernel
theorem dX7_undo_24 : decode cX7_undo 24 = .ok (.ldc 138, 2) := by decide +kernel
theorem dX7_undo_26 : decode cX7_undo 26 = .ok (.ireturn, 1) := by decide +kernel
theorem dX7_hours_0 : decode cX7_hours 0 = .ok (.aload_n 0, 1) := by decide +kernel
theorem dX7_hours_1 : decode cX7_hours 1 = .ok (.getfield 39, 3) := by decide +kernel
theorem dX7_hours_4 : decode cX7_hours 4 = .ok (.invokevirtual 139, 3) := by decide +kernel
theorem dX7_hours_7 : decode cX7_hours 7 = .ok (.ifCond .ne 6, 3) := by decide +kernel
theorem dX7_hours_10 : decode cX7_hours 10 = .ok (.ldc 138, 2) := by decide +kernel
theorem dX7_hours_12 : decode cX7_hours 12 = .ok (.ireturn, 1) := by decide +kernel
theorem dX7_hours_13 : decode cX7_hours 13 = .ok (.iload_n 1, 1) := by decide +kernel
theorem dX7_hours_14 : decode cX7_hours 14 = .ok (.iconst 1, 1) := by decide +kernel
theorem dX7_hours_15 : decode cX7_hours 15 = .ok (.bipush 24, 2) := by decide +kernel
theorem dX7_hours_17 : decode cX7_hours 17 = .ok (.invokestatic 57, 3) := by decide +kernel
theorem dX7_hours_20 : decode cX7_hours 20 = .ok (.ifCond .ne 6, 3) := by decide +kernel
theorem dX7_hours_23 : decode cX7_hours 23 = .ok (.ldc 61, 2) := by decide +kernel
theorem dX7_hours_25 : decode cX7_hours 25 = .ok (.ireturn, 1) := by decide +kernel
theorem dX7_hours_26 : decode cX7_hours 26 = .ok (.aload_n 0, 1) := by decide +kernel
theorem dX7_hours_27 : decode cX7_hours 27 = .ok (.getfield 39, 3) := by decide +kernel
theorem dX7_hours_30 : decode cX7_hours 30 = .ok (.getfield 143, 3) := by decide +kernel
theorem dX7_hours_33 : decode cX7_hours 33 = .ok (.iload_n 1, 1) := by decide +kernel
theorem dX7_hours_34 : decode cX7_hours 34 = .ok (.iadd, 1) := by decide +kernel
theorem dX7_hours_35 : decode cX7_hours 35 = .ok (.sipush 999, 3) := by decide +kernel
theorem dX7_hours_38 : decode cX7_hours 38 = .ok (.if_icmp .le 6, 3) := by decide +kernel
theorem dX7_hours_41 : decode cX7_hours 41 = .ok (.ldc 107, 2) := by decide +kernel
theorem dX7_hours_43 : decode cX7_hours 43 = .ok (.ireturn, 1) := by decide +kernel
theorem dX7_hours_44 : decode cX7_hours 44 = .ok (.iconst 0, 1) := by decide +kernel
theorem dX7_hours_45 : decode cX7_hours 45 = .ok (.istore_n 2, 1) := by decide +kernel
theorem dX7_hours_46 : decode cX7_hours 46 = .ok (.iconst 0, 1) := by decide +kernel
theorem dX7_hours_47 : decode cX7_hours 47 = .ok (.istore_n 3, 1) := by decide +kernel
theorem dX7_hours_48 : decode cX7_hours 48 = .ok (.iload_n 3, 1) := by decide +kernel
theorem dX7_hours_49 : decode cX7_hours 49 = .ok (.iload_n 1, 1) := by decide +kernel
theorem dX7_hours_50 : decode cX7_hours 50 = .ok (.if_icmp .ge 30, 3) := by decide +kernel
theorem dX7_hours_53 : decode cX7_hours 53 = .ok (.aload_n 0, 1) := by decide +kernel
theorem dX7_hours_54 : decode cX7_hours 54 = .ok (.getfield 25, 3) := by decide +kernel
theorem dX7_hours_57 : decode cX7_hours 57 = .ok (.aload_n 0, 1) := by decide +kernel
theorem dX7_hours_58 : decode cX7_hours 58 = .ok (.getfield 39, 3) := by decide +kernel
theorem dX7_hours_61 : decode cX7_hours 61 = .ok (.invokevirtual 146, 3) := by decide +kernel
theorem dX7_hours_64 : decode cX7_hours 64 = .ok (.iload_n 2, 1) := by decide +kernel
theorem dX7_hours_65 : decode cX7_hours 65 = .ok (.aload_n 0, 1) := by decide +kernel
theorem dX7_hours_66 : decode cX7_hours 66 = .ok (.getfield 39, 3) := by decide +kernel
theorem dX7_hours_69 : decode cX7_hours 69 = .ok (.invokevirtual 149, 3) := by decide +kernel
theorem dX7_hours_72 : decode cX7_hours 72 = .ok (.iadd, 1) := by decide +kernel
theorem dX7_hours_73 : decode cX7_hours 73 = .ok (.istore_n 2, 1) := by decide +kernel
theorem dX7_hours_74 : decode cX7_hours 74 = .ok (.iinc 3 1, 3) := by decide +kernel
theorem dX7_hours_77 : decode cX7_hours 77 = .ok (.goto (-29), 3) := by decide +kernel
theorem dX7_hours_80 : decode cX7_hours 80 = .ok (.iload_n 2, 1) := by decide +kernel
theorem dX7_hours_81 : decode cX7_hours 81 = .ok (.ireturn, 1) := by decide +kernel
theorem dX7_hang_0 : decode cX7_hang 0 = .ok (.aload_n 0, 1) := by decide +kernel
theorem dX7_hang_1 : decode cX7_hang 1 = .ok (.getfield 39, 3) := by decide +kernel
theorem dX7_hang_4 : decode cX7_hang 4 = .ok (.iload_n 1, 1) := by decide +kernel
theorem dX7_hang_5 : decode cX7_hang 5 = .ok (.invokevirtual 153, 3) := by decide +kernel
theorem dX7_hang_8 : decode cX7_hang 8 = .ok (.astore_n 3, 1) := by decide +kernel
theorem dX7_hang_9 : decode cX7_hang 9 = .ok (.aload_n 3, 1) := by decide +kernel
theorem dX7_hang_10 : decode cX7_hang 10 = .ok (.ifnull 13, 3) := by decide +kernel
theorem dX7_hang_13 : decode cX7_hang 13 = .ok (.iload_n 2, 1) := by decide +kernel
theorem dX7_hang_14 : decode cX7_hang 14 = .ok (.iconst 0, 1) := by decide +kernel
theorem dX7_hang_15 : decode cX7_hang 15 = .ok (.bipush 9, 2) := by decide +kernel
theorem dX7_hang_17 : decode cX7_hang 17 = .ok (.invokestatic 57, 3) := by decide +kernel
theorem dX7_hang_20 : decode cX7_hang 20 = .ok (.ifCond .ne 6, 3) := by decide +kernel
theorem dX7_hang_23 : decode cX7_hang 23 = .ok (.ldc 61, 2) := by decide +kernel
theorem dX7_hang_25 : decode cX7_hang 25 = .ok (.ireturn, 1) := by decide +kernel
theorem dX7_hang_26 : decode cX7_hang 26 = .ok (.aload_n 3, 1) := by decide +kernel
theorem dX7_hang_27 : decode cX7_hang 27 = .ok (.invokevirtual 157, 3) := by decide +kernel
theorem dX7_hang_30 : decode cX7_hang 30 = .ok (.ifCond .eq 6, 3) := by decide +kernel
theorem dX7_hang_33 : decode cX7_hang 33 = .ok (.ldc 138, 2) := by decide +kernel
theorem dX7_hang_35 : decode cX7_hang 35 = .ok (.ireturn, 1) := by decide +kernel
theorem dX7_hang_36 : decode cX7_hang 36 = .ok (.aload_n 0, 1) := by decide +kernel
theorem dX7_hang_37 : decode cX7_hang 37 = .ok (.getfield 25, 3) := by decide +kernel
theorem dX7_hang_40 : decode cX7_hang 40 = .ok (.aload_n 0, 1) := by decide +kernel
theorem dX7_hang_41 : decode cX7_hang 41 = .ok (.getfield 39, 3) := by decide +kernel
theorem dX7_hang_44 : decode cX7_hang 44 = .ok (.invokevirtual 146, 3) := by decide +kernel
theorem dX7_hang_47 : decode cX7_hang 47 = .ok (.aload_n 3, 1) := by decide +kernel
theorem dX7_hang_48 : decode cX7_hang 48 = .ok (.getfield 162, 3) := by decide +kernel
theorem dX7_hang_51 : decode cX7_hang 51 = .ok (.istore 4, 2) := by decide +kernel
theorem dX7_hang_53 : decode cX7_hang 53 = .ok (.aload_n 3, 1) := by decide +kernel
theorem dX7_hang_54 : decode cX7_hang 54 = .ok (.iload_n 2, 1) := by decide +kernel
theorem dX7_hang_55 : decode cX7_hang 55 = .ok (.putfield 162, 3) := by decide +kernel
theorem dX7_hang_58 : decode cX7_hang 58 = .ok (.iload 4, 2) := by decide +kernel
theorem dX7_hang_60 : decode cX7_hang 60 = .ok (.ireturn, 1) := by decide +kernel
theorem dX7_salt_0 : decode cX7_salt 0 = .ok (.aload_n 0, 1) := by decide +kernel
theorem dX7_salt_1 : decode cX7_salt 1 = .ok (.getfield 39, 3) := by decide +kernel
theorem dX7_salt_4 : decode cX7_salt 4 = .ok (.iload_n 1, 1) := by decide +kernel
theorem dX7_salt_5 : decode cX7_salt 5 = .ok (.invokevirtual 153, 3) := by decide +kernel
theorem dX7_salt_8 : decode cX7_salt 8 = .ok (.astore_n 2, 1) := by decide +kernel
theorem dX7_salt_9 : decode cX7_salt 9 = .ok (.aload_n 2, 1) := by decide +kernel
theorem dX7_salt_10 : decode cX7_salt 10 = .ok (.ifnonnull 6, 3) := by decide +kernel
theorem dX7_salt_13 : decode cX7_salt 13 = .ok (.ldc 61, 2) := by decide +kernel
theorem dX7_salt_15 : decode cX7_salt 15 = .ok (.ireturn, 1) := by decide +kernel
theorem dX7_salt_16 : decode cX7_salt 16 = .ok (.aload_n 2, 1) := by decide +kernel
theorem dX7_salt_17 : decode cX7_salt 17 = .ok (.getfield 165, 3) := by decide +kernel
theorem dX7_salt_20 : decode cX7_salt 20 = .ok (.bipush 19, 2) := by decide +kernel
theorem dX7_salt_22 : decode cX7_salt 22 = .ok (.if_icmp .lt 6, 3) := by decide +kernel
theorem dX7_salt_25 : decode cX7_salt 25 = .ok (.ldc 107, 2) := by decide +kernel
theorem dX7_salt_27 : decode cX7_salt 27 = .ok (.ireturn, 1) := by decide +kernel
theorem dX7_salt_28 : decode cX7_salt 28 = .ok (.aload_n 0, 1) := by decide +kernel
theorem dX7_salt_29 : decode cX7_salt 29 = .ok (.getfield 25, 3) := by decide +kernel
theorem dX7_salt_32 : decode cX7_salt 32 = .ok (.aload_n 0, 1) := by decide +kernel
theorem dX7_salt_33 : decode cX7_salt 33 = .ok (.getfield 39, 3) := by decide +kernel
theorem dX7_salt_36 : decode cX7_salt 36 = .ok (.invokevirtual 146, 3) := by decide +kernel
theorem dX7_salt_39 : decode cX7_salt 39 = .ok (.aload_n 2, 1) := by decide +kernel
theorem dX7_salt_40 : decode cX7_salt 40 = .ok (.dup, 1) := by decide +kernel
theorem dX7_salt_41 : decode cX7_salt 41 = .ok (.getfield 165, 3) := by decide +kernel
theorem dX7_salt_44 : decode cX7_salt 44 = .ok (.iconst 1, 1) := by decide +kernel
theorem dX7_salt_45 : decode cX7_salt 45 = .ok (.iadd, 1) := by decide +kernel
theorem dX7_salt_46 : decode cX7_salt 46 = .ok (.putfield 165, 3) := by decide +kernel
theorem dX7_salt_49 : decode cX7_salt 49 = .ok (.aload_n 2, 1) := by decide +kernel
theorem dX7_salt_50 : decode cX7_salt 50 = .ok (.getfield 165, 3) := by decide +kernel
theorem dX7_salt_53 : decode cX7_salt 53 = .ok (.ireturn, 1) := by decide +kernel
theorem dX7_transcribe_0 : decode cX7_transcribe 0 = .ok (.aload_n 0, 1) := by decide +kernel
theorem dX7_transcribe_1 : decode cX7_transcribe 1 = .ok (.getfield 39, 3) := by decide +kernel
theorem dX7_transcribe_4 : decode cX7_transcribe 4 = .ok (.iload_n 1, 1) := by decide +kernel
theorem dX7_transcribe_5 : decode cX7_transcribe 5 = .ok (.invokevirtual 153, 3) := by decide +kernel
theorem dX7_transcribe_8 : decode cX7_transcribe 8 = .ok (.astore_n 2, 1) := by decide +kernel
theorem dX7_transcribe_9 : decode cX7_transcribe 9 = .ok (.aload_n 2, 1) := by decide +kernel
theorem dX7_transcribe_10 : decode cX7_transcribe 10 = .ok (.ifnonnull 6, 3) := by decide +kernel
theorem dX7_transcribe_13 : decode cX7_transcribe 13 = .ok (.ldc 61, 2) := by decide +kernel
theorem dX7_transcribe_15 : decode cX7_transcribe 15 = .ok (.ireturn, 1) := by decide +kernel
theorem dX7_transcribe_16 : decode cX7_transcribe 16 = .ok (.aload_n 0, 1) := by decide +kernel
theorem dX7_transcribe_17 : decode cX7_transcribe 17 = .ok (.getfield 25, 3) := by decide +kernel
theorem dX7_transcribe_20 : decode cX7_transcribe 20 = .ok (.aload_n 0, 1) := by decide +kernel
theorem dX7_transcribe_21 : decode cX7_transcribe 21 = .ok (.getfield 39, 3) := by decide +kernel
theorem dX7_transcribe_24 : decode cX7_transcribe 24 = .ok (.invokevirtual 146, 3) := by decide +kernel
theorem dX7_transcribe_27 : decode cX7_transcribe 27 = .ok (.aload_n 2, 1) := by decide +kernel
theorem dX7_transcribe_28 : decode cX7_transcribe 28 = .ok (.getfield 168, 3) := by decide +kernel
theorem dX7_transcribe_31 : decode cX7_transcribe 31 = .ok (.istore_n 3, 1) := by decide +kernel
theorem dX7_transcribe_32 : decode cX7_transcribe 32 = .ok (.aload_n 2, 1) := by decide +kernel
theorem dX7_transcribe_33 : decode cX7_transcribe 33 = .ok (.aload_n 2, 1) := by decide +kernel
theorem dX7_transcribe_34 : decode cX7_transcribe 34 = .ok (.getfield 171, 3) := by decide +kernel
theorem dX7_transcribe_37 : decode cX7_transcribe 37 = .ok (.putfield 168, 3) := by decide +kernel
theorem dX7_transcribe_40 : decode cX7_transcribe 40 = .ok (.iload_n 3, 1) := by decide +kernel
theorem dX7_transcribe_41 : decode cX7_transcribe 41 = .ok (.ireturn, 1) := by decide +kernel
theorem dX7_drive_0 : decode cX7_drive 0 = .ok (.aload_n 0, 1) := by decide +kernel
theorem dX7_drive_1 : decode cX7_drive 1 = .ok (.getfield 39, 3) := by decide +kernel
theorem dX7_drive_4 : decode cX7_drive 4 = .ok (.iload_n 1, 1) := by decide +kernel
theorem dX7_drive_5 : decode cX7_drive 5 = .ok (.invokevirtual 174, 3) := by decide +kernel
theorem dX7_drive_8 : decode cX7_drive 8 = .ok (.astore_n 3, 1) := by decide +kernel
theorem dX7_drive_9 : decode cX7_drive 9 = .ok (.aload_n 3, 1) := by decide +kernel
theorem dX7_drive_10 : decode cX7_drive 10 = .ok (.ifnull 13, 3) := by decide +kernel
theorem dX7_drive_13 : decode cX7_drive 13 = .ok (.iload_n 2, 1) := by decide +kernel
theorem dX7_drive_14 : decode cX7_drive 14 = .ok (.iconst 0, 1) := by decide +kernel
theorem dX7_drive_15 : decode cX7_drive 15 = .ok (.bipush 60, 2) := by decide +kernel
theorem dX7_drive_17 : decode cX7_drive 17 = .ok (.invokestatic 57, 3) := by decide +kernel
theorem dX7_drive_20 : decode cX7_drive 20 = .ok (.ifCond .ne 6, 3) := by decide +kernel
theorem dX7_drive_23 : decode cX7_drive 23 = .ok (.ldc 61, 2) := by decide +kernel
theorem dX7_drive_25 : decode cX7_drive 25 = .ok (.ireturn, 1) := by decide +kernel
theorem dX7_drive_26 : decode cX7_drive 26 = .ok (.aload_n 0, 1) := by decide +kernel
theorem dX7_drive_27 : decode cX7_drive 27 = .ok (.getfield 25, 3) := by decide +kernel
theorem dX7_drive_30 : decode cX7_drive 30 = .ok (.aload_n 0, 1) := by decide +kernel
theorem dX7_drive_31 : decode cX7_drive 31 = .ok (.getfield 39, 3) := by decide +kernel
theorem dX7_drive_34 : decode cX7_drive 34 = .ok (.invokevirtual 146, 3) := by decide +kernel
theorem dX7_drive_37 : decode cX7_drive 37 = .ok (.aload_n 3, 1) := by decide +kernel
theorem dX7_drive_38 : decode cX7_drive 38 = .ok (.getfield 178, 3) := by decide +kernel
theorem dX7_drive_41 : decode cX7_drive 41 = .ok (.istore 4, 2) := by decide +kernel
theorem dX7_drive_43 : decode cX7_drive 43 = .ok (.aload_n 3, 1) := by decide +kernel
theorem dX7_drive_44 : decode cX7_drive 44 = .ok (.iload_n 2, 1) := by decide +kernel
theorem dX7_drive_45 : decode cX7_drive 45 = .ok (.putfield 178, 3) := by decide +kernel
theorem dX7_drive_48 : decode cX7_drive 48 = .ok (.iload 4, 2) := by decide +kernel
theorem dX7_drive_50 : decode cX7_drive 50 = .ok (.ireturn, 1) := by decide +kernel
theorem dX7_fodder_0 : decode cX7_fodder 0 = .ok (.aload_n 0, 1) := by decide +kernel
theorem dX7_fodder_1 : decode cX7_fodder 1 = .ok (.getfield 39, 3) := by decide +kernel
theorem dX7_fodder_4 : decode cX7_fodder 4 = .ok (.iload_n 1, 1) := by decide +kernel
theorem dX7_fodder_5 : decode cX7_fodder 5 = .ok (.invokevirtual 174, 3) := by decide +kernel
theorem dX7_fodder_8 : decode cX7_fodder 8 = .ok (.astore_n 2, 1) := by decide +kernel
theorem dX7_fodder_9 : decode cX7_fodder 9 = .ok (.aload_n 2, 1) := by decide +kernel
theorem dX7_fodder_10 : decode cX7_fodder 10 = .ok (.ifnonnull 6, 3) := by decide +kernel
theorem dX7_fodder_13 : decode cX7_fodder 13 = .ok (.ldc 61, 2) := by decide +kernel
theorem dX7_fodder_15 : decode cX7_fodder 15 = .ok (.ireturn, 1) := by decide +kernel
theorem dX7_fodder_16 : decode cX7_fodder 16 = .ok (.aload_n 0, 1) := by decide +kernel
theorem dX7_fodder_17 : decode cX7_fodder 17 = .ok (.getfield 25, 3) := by decide +kernel
theorem dX7_fodder_20 : decode cX7_fodder 20 = .ok (.aload_n 0, 1) := by decide +kernel
theorem dX7_fodder_21 : decode cX7_fodder 21 = .ok (.getfield 39, 3) := by decide +kernel
theorem dX7_fodder_24 : decode cX7_fodder 24 = .ok (.invokevirtual 146, 3) := by decide +kernel
theorem dX7_fodder_27 : decode cX7_fodder 27 = .ok (.aload_n 2, 1) := by decide +kernel
theorem dX7_fodder_28 : decode cX7_fodder 28 = .ok (.getfield 183, 3) := by decide +kernel
theorem dX7_fodder_31 : decode cX7_fodder 31 = .ok (.istore_n 3, 1) := by decide +kernel
theorem dX7_fodder_32 : decode cX7_fodder 32 = .ok (.aload_n 2, 1) := by decide +kernel
theorem dX7_fodder_33 : decode cX7_fodder 33 = .ok (.iconst 0, 1) := by decide +kernel
theorem dX7_fodder_34 : decode cX7_fodder 34 = .ok (.putfield 183, 3) := by decide +kernel
theorem dX7_fodder_37 : decode cX7_fodder 37 = .ok (.iload_n 3, 1) := by decide +kernel
theorem dX7_fodder_38 : decode cX7_fodder 38 = .ok (.ireturn, 1) := by decide +kernel
theorem dX7_leaf_0 : decode cX7_leaf 0 = .ok (.aload_n 0, 1) := by decide +kernel
theorem dX7_leaf_1 : decode cX7_leaf 1 = .ok (.getfield 39, 3) := by decide +kernel
theorem dX7_leaf_4 : decode cX7_leaf 4 = .ok (.iload_n 1, 1) := by decide +kernel
theorem dX7_leaf_5 : decode cX7_leaf 5 = .ok (.invokevirtual 153, 3) := by decide +kernel
theorem dX7_leaf_8 : decode cX7_leaf 8 = .ok (.astore_n 3, 1) := by decide +kernel
theorem dX7_leaf_9 : decode cX7_leaf 9 = .ok (.aload_n 3, 1) := by decide +kernel
theorem dX7_leaf_10 : decode cX7_leaf 10 = .ok (.ifnonnull 6, 3) := by decide +kernel
theorem dX7_leaf_13 : decode cX7_leaf 13 = .ok (.ldc 61, 2) := by decide +kernel
theorem dX7_leaf_15 : decode cX7_leaf 15 = .ok (.ireturn, 1) := by decide +kernel
theorem dX7_leaf_16 : decode cX7_leaf 16 = .ok (.iload_n 2, 1) := by decide +kernel
theorem dX7_leaf_17 : decode cX7_leaf 17 = .ok (.tableswitch 83 0 5 #[39, 44, 49, 54, 59, 78], 39) := by decide +kernel
theorem dX7_leaf_56 : decode cX7_leaf 56 = .ok (.aload_n 3, 1) := by decide +kernel
theorem dX7_leaf_57 : decode cX7_leaf 57 = .ok (.getfield 171, 3) := by decide +kernel
theorem dX7_leaf_60 : decode cX7_leaf 60 = .ok (.ireturn, 1) := by decide +kernel
theorem dX7_leaf_61 : decode cX7_leaf 61 = .ok (.aload_n 3, 1) := by decide +kernel
theorem dX7_leaf_62 : decode cX7_leaf 62 = .ok (.getfield 162, 3) := by decide +kernel
theorem dX7_leaf_65 : decode cX7_leaf 65 = .ok (.ireturn, 1) := by decide +kernel
theorem dX7_leaf_66 : decode cX7_leaf 66 = .ok (.aload_n 3, 1) := by decide +kernel
theorem dX7_leaf_67 : decode cX7_leaf 67 = .ok (.getfield 165, 3) := by decide +kernel
theorem dX7_leaf_70 : decode cX7_leaf 70 = .ok (.ireturn, 1) := by decide +kernel
theorem dX7_leaf_71 : decode cX7_leaf 71 = .ok (.aload_n 3, 1) := by decide +kernel
theorem dX7_leaf_72 : decode cX7_leaf 72 = .ok (.getfield 168, 3) := by decide +kernel
theorem dX7_leaf_75 : decode cX7_leaf 75 = .ok (.ireturn, 1) := by decide +kernel
theorem dX7_leaf_76 : decode cX7_leaf 76 = .ok (.aload_n 3, 1) := by decide +kernel
theorem dX7_leaf_77 : decode cX7_leaf 77 = .ok (.aload_n 0, 1) := by decide +kernel
theorem dX7_leaf_78 : decode cX7_leaf 78 = .ok (.getfield 39, 3) := by decide +kernel
theorem dX7_leaf_81 : decode cX7_leaf 81 = .ok (.getfield 143, 3) := by decide +kernel
theorem dX7_leaf_84 : decode cX7_leaf 84 = .ok (.aload_n 0, 1) := by decide +kernel
theorem dX7_leaf_85 : decode cX7_leaf 85 = .ok (.getfield 39, 3) := by decide +kernel
theorem dX7_leaf_88 : decode cX7_leaf 88 = .ok (.getfield 186, 3) := by decide +kernel
theorem dX7_leaf_91 : decode cX7_leaf 91 = .ok (.invokevirtual 189, 3) := by decide +kernel
theorem dX7_leaf_94 : decode cX7_leaf 94 = .ok (.ireturn, 1) := by decide +kernel
theorem dX7_leaf_95 : decode cX7_leaf 95 = .ok (.aload_n 3, 1) := by decide +kernel
theorem dX7_leaf_96 : decode cX7_leaf 96 = .ok (.invokevirtual 192, 3) := by decide +kernel
theorem dX7_leaf_99 : decode cX7_leaf 99 = .ok (.ireturn, 1) := by decide +kernel
theorem dX7_leaf_100 : decode cX7_leaf 100 = .ok (.ldc 61, 2) := by decide +kernel
theorem dX7_leaf_102 : decode cX7_leaf 102 = .ok (.ireturn, 1) := by decide +kernel
theorem dX7_goat_0 : decode cX7_goat 0 = .ok (.aload_n 0, 1) := by decide +kernel
theorem dX7_goat_1 : decode cX7_goat 1 = .ok (.getfield 39, 3) := by decide +kernel
theorem dX7_goat_4 : decode cX7_goat 4 = .ok (.iload_n 1, 1) := by decide +kernel
theorem dX7_goat_5 : decode cX7_goat 5 = .ok (.invokevirtual 174, 3) := by decide +kernel
theorem dX7_goat_8 : decode cX7_goat 8 = .ok (.astore_n 3, 1) := by decide +kernel
theorem dX7_goat_9 : decode cX7_goat 9 = .ok (.aload_n 3, 1) := by decide +kernel
theorem dX7_goat_10 : decode cX7_goat 10 = .ok (.ifnonnull 6, 3) := by decide +kernel
theorem dX7_goat_13 : decode cX7_goat 13 = .ok (.ldc 61, 2) := by decide +kernel
theorem dX7_goat_15 : decode cX7_goat 15 = .ok (.ireturn, 1) := by decide +kernel
theorem dX7_goat_16 : decode cX7_goat 16 = .ok (.iload_n 2, 1) := by decide +kernel
theorem dX7_goat_17 : decode cX7_goat 17 = .ok (.tableswitch 72 0 3 #[31, 36, 41, 46], 31) := by decide +kernel
theorem dX7_goat_48 : decode cX7_goat 48 = .ok (.aload_n 3, 1) := by decide +kernel
theorem dX7_goat_49 : decode cX7_goat 49 = .ok (.getfield 183, 3) := by decide +kernel
theorem dX7_goat_52 : decode cX7_goat 52 = .ok (.ireturn, 1) := by decide +kernel
theorem dX7_goat_53 : decode cX7_goat 53 = .ok (.aload_n 3, 1) := by decide +kernel
theorem dX7_goat_54 : decode cX7_goat 54 = .ok (.getfield 195, 3) := by decide +kernel
theorem dX7_goat_57 : decode cX7_goat 57 = .ok (.ireturn, 1) := by decide +kernel
theorem dX7_goat_58 : decode cX7_goat 58 = .ok (.aload_n 3, 1) := by decide +kernel
theorem dX7_goat_59 : decode cX7_goat 59 = .ok (.getfield 178, 3) := by decide +kernel
theorem dX7_goat_62 : decode cX7_goat 62 = .ok (.ireturn, 1) := by decide +kernel
theorem dX7_goat_63 : decode cX7_goat 63 = .ok (.aload_n 0, 1) := by decide +kernel
theorem dX7_goat_64 : decode cX7_goat 64 = .ok (.getfield 39, 3) := by decide +kernel
theorem dX7_goat_67 : decode cX7_goat 67 = .ok (.aload_n 3, 1) := by decide +kernel
theorem dX7_goat_68 : decode cX7_goat 68 = .ok (.invokevirtual 198, 3) := by decide +kernel
theorem dX7_goat_71 : decode cX7_goat 71 = .ok (.astore 4, 2) := by decide +kernel
theorem dX7_goat_73 : decode cX7_goat 73 = .ok (.aload 4, 2) := by decide +kernel
theorem dX7_goat_75 : decode cX7_goat 75 = .ok (.ifnonnull 8, 3) := by decide +kernel
theorem dX7_goat_78 : decode cX7_goat 78 = .ok (.ldc 202, 2) := by decide +kernel
theorem dX7_goat_80 : decode cX7_goat 80 = .ok (.goto 8, 3) := by decide +kernel
theorem dX7_goat_83 : decode cX7_goat 83 = .ok (.aload 4, 2) := by decide +kernel
theorem dX7_goat_85 : decode cX7_goat 85 = .ok (.getfield 203, 3) := by decide +kernel
theorem dX7_goat_88 : decode cX7_goat 88 = .ok (.ireturn, 1) := by decide +kernel
theorem dX7_goat_89 : decode cX7_goat 89 = .ok (.ldc 61, 2) := by decide +kernel
theorem dX7_goat_91 : decode cX7_goat 91 = .ok (.ireturn, 1) := by decide +kernel
theorem dX7_ahead_0 : decode cX7_ahead 0 = .ok (.aload_n 0, 1) := by decide +kernel
theorem dX7_ahead_1 : decode cX7_ahead 1 = .ok (.getfield 43, 3) := by decide +kernel
theorem dX7_ahead_4 : decode cX7_ahead 4 = .ok (.aload_n 0, 1) := by decide +kernel
theorem dX7_ahead_5 : decode cX7_ahead 5 = .ok (.getfield 39, 3) := by decide +kernel
theorem dX7_ahead_8 : decode cX7_ahead 8 = .ok (.iload_n 1, 1) := by decide +kernel
theorem dX7_ahead_9 : decode cX7_ahead 9 = .ok (.invokevirtual 206, 3) := by decide +kernel
theorem dX7_ahead_12 : decode cX7_ahead 12 = .ok (.astore_n 3, 1) := by decide +kernel
theorem dX7_ahead_13 : decode cX7_ahead 13 = .ok (.aload_n 3, 1) := by decide +kernel
theorem dX7_ahead_14 : decode cX7_ahead 14 = .ok (.ifnull 13, 3) := by decide +kernel
theorem dX7_ahead_17 : decode cX7_ahead 17 = .ok (.iload_n 2, 1) := by decide +kernel
theorem dX7_ahead_18 : decode cX7_ahead 18 = .ok (.iconst 0, 1) := by decide +kernel
theorem dX7_ahead_19 : decode cX7_ahead 19 = .ok (.bipush 60, 2) := by decide +kernel
theorem dX7_ahead_21 : decode cX7_ahead 21 = .ok (.invokestatic 57, 3) := by decide +kernel
theorem dX7_ahead_24 : decode cX7_ahead 24 = .ok (.ifCond .ne 6, 3) := by decide +kernel
theorem dX7_ahead_27 : decode cX7_ahead 27 = .ok (.ldc 61, 2) := by decide +kernel
theorem dX7_ahead_29 : decode cX7_ahead 29 = .ok (.ireturn, 1) := by decide +kernel
theorem dX7_ahead_30 : decode cX7_ahead 30 = .ok (.aload_n 0, 1) := by decide +kernel
theorem dX7_ahead_31 : decode cX7_ahead 31 = .ok (.getfield 43, 3) := by decide +kernel
theorem dX7_ahead_34 : decode cX7_ahead 34 = .ok (.iload_n 2, 1) := by decide +kernel
theorem dX7_ahead_35 : decode cX7_ahead 35 = .ok (.invokevirtual 210, 3) := by decide +kernel
theorem dX7_ahead_38 : decode cX7_ahead 38 = .ok (.aload_n 3, 1) := by decide +kernel
theorem dX7_ahead_39 : decode cX7_ahead 39 = .ok (.getfield 168, 3) := by decide +kernel
theorem dX7_ahead_42 : decode cX7_ahead 42 = .ok (.ireturn, 1) := by decide +kernel
theorem dX7_force_0 : decode cX7_force 0 = .ok (.aload_n 0, 1) := by decide +kernel
theorem dX7_force_1 : decode cX7_force 1 = .ok (.getfield 39, 3) := by decide +kernel
theorem dX7_force_4 : decode cX7_force 4 = .ok (.invokevirtual 139, 3) := by decide +kernel
theorem dX7_force_7 : decode cX7_force 7 = .ok (.ifCond .ne 6, 3) := by decide +kernel
theorem dX7_force_10 : decode cX7_force 10 = .ok (.ldc 138, 2) := by decide +kernel
theorem dX7_force_12 : decode cX7_force 12 = .ok (.ireturn, 1) := by decide +kernel
theorem dX7_force_13 : decode cX7_force 13 = .ok (.iload_n 1, 1) := by decide +kernel
theorem dX7_force_14 : decode cX7_force 14 = .ok (.iconst 0, 1) := by decide +kernel
theorem dX7_force_15 : decode cX7_force 15 = .ok (.bipush 60, 2) := by decide +kernel
theorem dX7_force_17 : decode cX7_force 17 = .ok (.invokestatic 57, 3) := by decide +kernel
theorem dX7_force_20 : decode cX7_force 20 = .ok (.ifCond .ne 6, 3) := by decide +kernel
theorem dX7_force_23 : decode cX7_force 23 = .ok (.ldc 61, 2) := by decide +kernel
theorem dX7_force_25 : decode cX7_force 25 = .ok (.ireturn, 1) := by decide +kernel
theorem dX7_force_26 : decode cX7_force 26 = .ok (.aload_n 0, 1) := by decide +kernel
theorem dX7_force_27 : decode cX7_force 27 = .ok (.getfield 43, 3) := by decide +kernel
theorem dX7_force_30 : decode cX7_force 30 = .ok (.aload_n 0, 1) := by decide +kernel
theorem dX7_force_31 : decode cX7_force 31 = .ok (.getfield 39, 3) := by decide +kernel
theorem dX7_force_34 : decode cX7_force 34 = .ok (.invokevirtual 122, 3) := by decide +kernel
theorem dX7_force_37 : decode cX7_force 37 = .ok (.aload_n 0, 1) := by decide +kernel
theorem dX7_force_38 : decode cX7_force 38 = .ok (.getfield 43, 3) := by decide +kernel
theorem dX7_force_41 : decode cX7_force 41 = .ok (.iload_n 1, 1) := by decide +kernel
theorem dX7_force_42 : decode cX7_force 42 = .ok (.invokevirtual 210, 3) := by decide +kernel
theorem dX7_force_45 : decode cX7_force 45 = .ok (.aload_n 0, 1) := by decide +kernel
theorem dX7_force_46 : decode cX7_force 46 = .ok (.getfield 43, 3) := by decide +kernel
theorem dX7_force_49 : decode cX7_force 49 = .ok (.invokevirtual 214, 3) := by decide +kernel
theorem dX7_force_52 : decode cX7_force 52 = .ok (.ireturn, 1) := by decide +kernel
theorem dX7_emptied_0 : decode cX7_emptied 0 = .ok (.aload_n 0, 1) := by decide +kernel
theorem dX7_emptied_1 : decode cX7_emptied 1 = .ok (.getfield 43, 3) := by decide +kernel
theorem dX7_emptied_4 : decode cX7_emptied 4 = .ok (.aload_n 0, 1) := by decide +kernel
theorem dX7_emptied_5 : decode cX7_emptied 5 = .ok (.getfield 39, 3) := by decide +kernel
theorem dX7_emptied_8 : decode cX7_emptied 8 = .ok (.iload_n 1, 1) := by decide +kernel
theorem dX7_emptied_9 : decode cX7_emptied 9 = .ok (.invokevirtual 206, 3) := by decide +kernel
theorem dX7_emptied_12 : decode cX7_emptied 12 = .ok (.astore_n 2, 1) := by decide +kernel
theorem dX7_emptied_13 : decode cX7_emptied 13 = .ok (.aload_n 2, 1) := by decide +kernel
theorem dX7_emptied_14 : decode cX7_emptied 14 = .ok (.ifnonnull 6, 3) := by decide +kernel
theorem dX7_emptied_17 : decode cX7_emptied 17 = .ok (.ldc 61, 2) := by decide +kernel
theorem dX7_emptied_19 : decode cX7_emptied 19 = .ok (.ireturn, 1) := by decide +kernel
theorem dX7_emptied_20 : decode cX7_emptied 20 = .ok (.iconst 0, 1) := by decide +kernel
theorem dX7_emptied_21 : decode cX7_emptied 21 = .ok (.istore_n 3, 1) := by decide +kernel
theorem dX7_emptied_22 : decode cX7_emptied 22 = .ok (.iload_n 3, 1) := by decide +kernel
theorem dX7_emptied_23 : decode cX7_emptied 23 = .ok (.bipush 60, 2) := by decide +kernel
theorem dX7_emptied_25 : decode cX7_emptied 25 = .ok (.if_icmp .gt 26, 3) := by decide +kernel
theorem dX7_emptied_28 : decode cX7_emptied 28 = .ok (.aload_n 2, 1) := by decide +kernel
theorem dX7_emptied_29 : decode cX7_emptied 29 = .ok (.invokevirtual 157, 3) := by decide +kernel
theorem dX7_emptied_32 : decode cX7_emptied 32 = .ok (.ifCond .eq 5, 3) := by decide +kernel
theorem dX7_emptied_35 : decode cX7_emptied 35 = .ok (.iload_n 3, 1) := by decide +kernel
theorem dX7_emptied_36 : decode cX7_emptied 36 = .ok (.ireturn, 1) := by decide +kernel
theorem dX7_emptied_37 : decode cX7_emptied 37 = .ok (.aload_n 0, 1) := by decide +kernel
theorem dX7_emptied_38 : decode cX7_emptied 38 = .ok (.getfield 43, 3) := by decide +kernel
theorem dX7_emptied_41 : decode cX7_emptied 41 = .ok (.invokevirtual 149, 3) := by decide +kernel
theorem dX7_emptied_44 : decode cX7_emptied 44 = .ok (.pop, 1) := by decide +kernel
theorem dX7_emptied_45 : decode cX7_emptied 45 = .ok (.iinc 3 1, 3) := by decide +kernel
theorem dX7_emptied_48 : decode cX7_emptied 48 = .ok (.goto (-26), 3) := by decide +kernel
theorem dX7_emptied_51 : decode cX7_emptied 51 = .ok (.ldc 202, 2) := by decide +kernel
theorem dX7_emptied_53 : decode cX7_emptied 53 = .ok (.ireturn, 1) := by decide +kernel
theorem dX7_eats_0 : decode cX7_eats 0 = .ok (.aload_n 0, 1) := by decide +kernel
theorem dX7_eats_1 : decode cX7_eats 1 = .ok (.getfield 43, 3) := by decide +kernel
theorem dX7_eats_4 : decode cX7_eats 4 = .ok (.aload_n 0, 1) := by decide +kernel
theorem dX7_eats_5 : decode cX7_eats 5 = .ok (.getfield 39, 3) := by decide +kernel
theorem dX7_eats_8 : decode cX7_eats 8 = .ok (.invokevirtual 122, 3) := by decide +kernel
theorem dX7_eats_11 : decode cX7_eats 11 = .ok (.aload_n 0, 1) := by decide +kernel
theorem dX7_eats_12 : decode cX7_eats 12 = .ok (.getfield 43, 3) := by decide +kernel
theorem dX7_eats_15 : decode cX7_eats 15 = .ok (.iload_n 1, 1) := by decide +kernel
theorem dX7_eats_16 : decode cX7_eats 16 = .ok (.invokevirtual 174, 3) := by decide +kernel
theorem dX7_eats_19 : decode cX7_eats 19 = .ok (.astore_n 3, 1) := by decide +kernel
theorem dX7_eats_20 : decode cX7_eats 20 = .ok (.aload_n 3, 1) := by decide +kernel
theorem dX7_eats_21 : decode cX7_eats 21 = .ok (.ifnull 13, 3) := by decide +kernel
theorem dX7_eats_24 : decode cX7_eats 24 = .ok (.iload_n 2, 1) := by decide +kernel
theorem dX7_eats_25 : decode cX7_eats 25 = .ok (.iconst 0, 1) := by decide +kernel
theorem dX7_eats_26 : decode cX7_eats 26 = .ok (.bipush 60, 2) := by decide +kernel
theorem dX7_eats_28 : decode cX7_eats 28 = .ok (.invokestatic 57, 3) := by decide +kernel
theorem dX7_eats_31 : decode cX7_eats 31 = .ok (.ifCond .ne 6, 3) := by decide +kernel
theorem dX7_eats_34 : decode cX7_eats 34 = .ok (.ldc 61, 2) := by decide +kernel
theorem dX7_eats_36 : decode cX7_eats 36 = .ok (.ireturn, 1) := by decide +kernel
theorem dX7_eats_37 : decode cX7_eats 37 = .ok (.aload_n 0, 1) := by decide +kernel
theorem dX7_eats_38 : decode cX7_eats 38 = .ok (.getfield 43, 3) := by decide +kernel
theorem dX7_eats_41 : decode cX7_eats 41 = .ok (.iload_n 2, 1) := by decide +kernel
theorem dX7_eats_42 : decode cX7_eats 42 = .ok (.invokevirtual 210, 3) := by decide +kernel
theorem dX7_eats_45 : decode cX7_eats 45 = .ok (.aload_n 3, 1) := by decide +kernel
theorem dX7_eats_46 : decode cX7_eats 46 = .ok (.getfield 217, 3) := by decide +kernel
theorem dX7_eats_49 : decode cX7_eats 49 = .ok (.ireturn, 1) := by decide +kernel
theorem dX7_guilt_0 : decode cX7_guilt 0 = .ok (.aload_n 0, 1) := by decide +kernel
theorem dX7_guilt_1 : decode cX7_guilt 1 = .ok (.getfield 43, 3) := by decide +kernel
theorem dX7_guilt_4 : decode cX7_guilt 4 = .ok (.aload_n 0, 1) := by decide +kernel
theorem dX7_guilt_5 : decode cX7_guilt 5 = .ok (.getfield 39, 3) := by decide +kernel
theorem dX7_guilt_8 : decode cX7_guilt 8 = .ok (.iload_n 1, 1) := by decide +kernel
theorem dX7_guilt_9 : decode cX7_guilt 9 = .ok (.invokevirtual 206, 3) := by decide +kernel
theorem dX7_guilt_12 : decode cX7_guilt 12 = .ok (.astore_n 3, 1) := by decide +kernel
theorem dX7_guilt_13 : decode cX7_guilt 13 = .ok (.aload_n 3, 1) := by decide +kernel
theorem dX7_guilt_14 : decode cX7_guilt 14 = .ok (.ifnull 13, 3) := by decide +kernel
theorem dX7_guilt_17 : decode cX7_guilt 17 = .ok (.iload_n 2, 1) := by decide +kernel
theorem dX7_guilt_18 : decode cX7_guilt 18 = .ok (.iconst 1, 1) := by decide +kernel
theorem dX7_guilt_19 : decode cX7_guilt 19 = .ok (.bipush 60, 2) := by decide +kernel
theorem dX7_guilt_21 : decode cX7_guilt 21 = .ok (.invokestatic 57, 3) := by decide +kernel
theorem dX7_guilt_24 : decode cX7_guilt 24 = .ok (.ifCond .ne 6, 3) := by decide +kernel
theorem dX7_guilt_27 : decode cX7_guilt 27 = .ok (.ldc 61, 2) := by decide +kernel
theorem dX7_guilt_29 : decode cX7_guilt 29 = .ok (.ireturn, 1) := by decide +kernel
theorem dX7_guilt_30 : decode cX7_guilt 30 = .ok (.aload_n 0, 1) := by decide +kernel
theorem dX7_guilt_31 : decode cX7_guilt 31 = .ok (.getfield 43, 3) := by decide +kernel
theorem dX7_guilt_34 : decode cX7_guilt 34 = .ok (.iload_n 2, 1) := by decide +kernel
theorem dX7_guilt_35 : decode cX7_guilt 35 = .ok (.invokevirtual 210, 3) := by decide +kernel
theorem dX7_guilt_38 : decode cX7_guilt 38 = .ok (.aload_n 3, 1) := by decide +kernel
theorem dX7_guilt_39 : decode cX7_guilt 39 = .ok (.getfield 220, 3) := by decide +kernel
theorem dX7_guilt_42 : decode cX7_guilt 42 = .ok (.ireturn, 1) := by decide +kernel
theorem dX7_gap_0 : decode cX7_gap 0 = .ok (.aload_n 0, 1) := by decide +kernel
theorem dX7_gap_1 : decode cX7_gap 1 = .ok (.getfield 39, 3) := by decide +kernel
theorem dX7_gap_4 : decode cX7_gap 4 = .ok (.invokevirtual 139, 3) := by decide +kernel
theorem dX7_gap_7 : decode cX7_gap 7 = .ok (.ifCond .ne 6, 3) := by decide +kernel
theorem dX7_gap_10 : decode cX7_gap 10 = .ok (.ldc 138, 2) := by decide +kernel
theorem dX7_gap_12 : decode cX7_gap 12 = .ok (.ireturn, 1) := by decide +kernel
theorem dX7_gap_13 : decode cX7_gap 13 = .ok (.aload_n 0, 1) := by decide +kernel
theorem dX7_gap_14 : decode cX7_gap 14 = .ok (.getfield 39, 3) := by decide +kernel
theorem dX7_gap_17 : decode cX7_gap 17 = .ok (.iload_n 1, 1) := by decide +kernel
theorem dX7_gap_18 : decode cX7_gap 18 = .ok (.invokevirtual 223, 3) := by decide +kernel
theorem dX7_gap_21 : decode cX7_gap 21 = .ok (.ifCond .ne 6, 3) := by decide +kernel
theorem dX7_gap_24 : decode cX7_gap 24 = .ok (.ldc 61, 2) := by decide +kernel
theorem dX7_gap_26 : decode cX7_gap 26 = .ok (.ireturn, 1) := by decide +kernel
theorem dX7_gap_27 : decode cX7_gap 27 = .ok (.aload_n 0, 1) := by decide +kernel
theorem dX7_gap_28 : decode cX7_gap 28 = .ok (.getfield 43, 3) := by decide +kernel
theorem dX7_gap_31 : decode cX7_gap 31 = .ok (.aload_n 0, 1) := by decide +kernel
theorem dX7_gap_32 : decode cX7_gap 32 = .ok (.getfield 39, 3) := by decide +kernel
theorem dX7_gap_35 : decode cX7_gap 35 = .ok (.invokevirtual 122, 3) := by decide +kernel
theorem dX7_gap_38 : decode cX7_gap 38 = .ok (.iconst 0, 1) := by decide +kernel
theorem dX7_gap_39 : decode cX7_gap 39 = .ok (.istore_n 2, 1) := by decide +kernel
theorem dX7_gap_40 : decode cX7_gap 40 = .ok (.iload_n 2, 1) := by decide +kernel
theorem dX7_gap_41 : decode cX7_gap 41 = .ok (.bipush 60, 2) := by decide +kernel
theorem dX7_gap_43 : decode cX7_gap 43 = .ok (.if_icmp .gt 31, 3) := by decide +kernel
theorem dX7_gap_46 : decode cX7_gap 46 = .ok (.aload_n 0, 1) := by decide +kernel
theorem dX7_gap_47 : decode cX7_gap 47 = .ok (.getfield 43, 3) := by decide +kernel
theorem dX7_gap_50 : decode cX7_gap 50 = .ok (.invokevirtual 214, 3) := by decide +kernel
theorem dX7_gap_53 : decode cX7_gap 53 = .ok (.iload_n 1, 1) := by decide +kernel
theorem dX7_gap_54 : decode cX7_gap 54 = .ok (.iand, 1) := by decide +kernel
theorem dX7_gap_55 : decode cX7_gap 55 = .ok (.ifCond .ne 5, 3) := by decide +kernel
theorem dX7_gap_58 : decode cX7_gap 58 = .ok (.iload_n 2, 1) := by decide +kernel
theorem dX7_gap_59 : decode cX7_gap 59 = .ok (.ireturn, 1) := by decide +kernel
theorem dX7_gap_60 : decode cX7_gap 60 = .ok (.aload_n 0, 1) := by decide +kernel
theorem dX7_gap_61 : decode cX7_gap 61 = .ok (.getfield 43, 3) := by decide +kernel
theorem dX7_gap_64 : decode cX7_gap 64 = .ok (.invokevirtual 149, 3) := by decide +kernel
theorem dX7_gap_67 : decode cX7_gap 67 = .ok (.pop, 1) := by decide +kernel
theorem dX7_gap_68 : decode cX7_gap 68 = .ok (.iinc 2 1, 3) := by decide +kernel
theorem dX7_gap_71 : decode cX7_gap 71 = .ok (.goto (-31), 3) := by decide +kernel
theorem dX7_gap_74 : decode cX7_gap 74 = .ok (.ldc 202, 2) := by decide +kernel
theorem dX7_gap_76 : decode cX7_gap 76 = .ok (.ireturn, 1) := by decide +kernel
theorem dX7_hangs_0 : decode cX7_hangs 0 = .ok (.aload_n 0, 1) := by decide +kernel
theorem dX7_hangs_1 : decode cX7_hangs 1 = .ok (.getfield 39, 3) := by decide +kernel
theorem dX7_hangs_4 : decode cX7_hangs 4 = .ok (.invokevirtual 139, 3) := by decide +kernel
theorem dX7_hangs_7 : decode cX7_hangs 7 = .ok (.ifCond .ne 6, 3) := by decide +kernel
theorem dX7_hangs_10 : decode cX7_hangs 10 = .ok (.ldc 138, 2) := by decide +kernel
theorem dX7_hangs_12 : decode cX7_hangs 12 = .ok (.ireturn, 1) := by decide +kernel
theorem dX7_hangs_13 : decode cX7_hangs 13 = .ok (.aload_n 0, 1) := by decide +kernel
theorem dX7_hangs_14 : decode cX7_hangs 14 = .ok (.getfield 39, 3) := by decide +kernel
theorem dX7_hangs_17 : decode cX7_hangs 17 = .ok (.iload_n 1, 1) := by decide +kernel
theorem dX7_hangs_18 : decode cX7_hangs 18 = .ok (.invokevirtual 223, 3) := by decide +kernel
theorem dX7_hangs_21 : decode cX7_hangs 21 = .ok (.ifCond .eq 22, 3) := by decide +kernel
theorem dX7_hangs_24 : decode cX7_hangs 24 = .ok (.iload_n 2, 1) := by decide +kernel
theorem dX7_hangs_25 : decode cX7_hangs 25 = .ok (.iconst 1, 1) := by decide +kernel
theorem dX7_hangs_26 : decode cX7_hangs 26 = .ok (.bipush 30, 2) := by decide +kernel
theorem dX7_hangs_28 : decode cX7_hangs 28 = .ok (.invokestatic 57, 3) := by decide +kernel
theorem dX7_hangs_31 : decode cX7_hangs 31 = .ok (.ifCond .eq 12, 3) := by decide +kernel
theorem dX7_hangs_34 : decode cX7_hangs 34 = .ok (.iload_n 3, 1) := by decide +kernel
theorem dX7_hangs_35 : decode cX7_hangs 35 = .ok (.iconst 0, 1) := by decide +kernel
theorem dX7_hangs_36 : decode cX7_hangs 36 = .ok (.iconst 1, 1) := by decide +kernel
theorem dX7_hangs_37 : decode cX7_hangs 37 = .ok (.invokestatic 57, 3) := by decide +kernel
theorem dX7_hangs_40 : decode cX7_hangs 40 = .ok (.ifCond .ne 6, 3) := by decide +kernel
theorem dX7_hangs_43 : decode cX7_hangs 43 = .ok (.ldc 61, 2) := by decide +kernel
theorem dX7_hangs_45 : decode cX7_hangs 45 = .ok (.ireturn, 1) := by decide +kernel
theorem dX7_hangs_46 : decode cX7_hangs 46 = .ok (.aload_n 0, 1) := by decide +kernel
theorem dX7_hangs_47 : decode cX7_hangs 47 = .ok (.aload_n 0, 1) := by decide +kernel
theorem dX7_hangs_48 : decode cX7_hangs 48 = .ok (.getfield 39, 3) := by decide +kernel
theorem dX7_hangs_51 : decode cX7_hangs 51 = .ok (.invokevirtual 226, 3) := by decide +kernel
theorem dX7_hangs_54 : decode cX7_hangs 54 = .ok (.iconst 0, 1) := by decide +kernel
theorem dX7_hangs_55 : decode cX7_hangs 55 = .ok (.iload_n 1, 1) := by decide +kernel
theorem dX7_hangs_56 : decode cX7_hangs 56 = .ok (.iload_n 2, 1) := by decide +kernel
theorem dX7_hangs_57 : decode cX7_hangs 57 = .ok (.invokevirtual 229, 3) := by decide +kernel
theorem dX7_hangs_60 : decode cX7_hangs 60 = .ok (.istore 4, 2) := by decide +kernel
theorem dX7_hangs_62 : decode cX7_hangs 62 = .ok (.iload_n 3, 1) := by decide +kernel
theorem dX7_hangs_63 : decode cX7_hangs 63 = .ok (.ifCond .ne 18, 3) := by decide +kernel
theorem dX7_hangs_66 : decode cX7_hangs 66 = .ok (.iload 4, 2) := by decide +kernel
theorem dX7_hangs_68 : decode cX7_hangs 68 = .ok (.ldc 202, 2) := by decide +kernel
theorem dX7_hangs_70 : decode cX7_hangs 70 = .ok (.if_icmp .eq 11, 3) := by decide +kernel
theorem dX7_hangs_73 : decode cX7_hangs 73 = .ok (.iload 4, 2) := by decide +kernel
theorem dX7_hangs_75 : decode cX7_hangs 75 = .ok (.invokestatic 233, 3) := by decide +kernel
theorem dX7_hangs_78 : decode cX7_hangs 78 = .ok (.goto 5, 3) := by decide +kernel
theorem dX7_hangs_81 : decode cX7_hangs 81 = .ok (.iload 4, 2) := by decide +kernel
theorem dX7_hangs_83 : decode cX7_hangs 83 = .ok (.ireturn, 1) := by decide +kernel
theorem dX7_drives_0 : decode cX7_drives 0 = .ok (.aload_n 0, 1) := by decide +kernel
theorem dX7_drives_1 : decode cX7_drives 1 = .ok (.getfield 39, 3) := by decide +kernel
theorem dX7_drives_4 : decode cX7_drives 4 = .ok (.invokevirtual 139, 3) := by decide +kernel
theorem dX7_drives_7 : decode cX7_drives 7 = .ok (.ifCond .ne 6, 3) := by decide +kernel
theorem dX7_drives_10 : decode cX7_drives 10 = .ok (.ldc 138, 2) := by decide +kernel
theorem dX7_drives_12 : decode cX7_drives 12 = .ok (.ireturn, 1) := by decide +kernel
theorem dX7_drives_13 : decode cX7_drives 13 = .ok (.aload_n 0, 1) := by decide +kernel
theorem dX7_drives_14 : decode cX7_drives 14 = .ok (.getfield 39, 3) := by decide +kernel
theorem dX7_drives_17 : decode cX7_drives 17 = .ok (.iload_n 1, 1) := by decide +kernel
theorem dX7_drives_18 : decode cX7_drives 18 = .ok (.invokevirtual 223, 3) := by decide +kernel
theorem dX7_drives_21 : decode cX7_drives 21 = .ok (.ifCond .eq 22, 3) := by decide +kernel
theorem dX7_drives_24 : decode cX7_drives 24 = .ok (.iload_n 2, 1) := by decide +kernel
theorem dX7_drives_25 : decode cX7_drives 25 = .ok (.iconst 1, 1) := by decide +kernel
theorem dX7_drives_26 : decode cX7_drives 26 = .ok (.bipush 30, 2) := by decide +kernel
theorem dX7_drives_28 : decode cX7_drives 28 = .ok (.invokestatic 57, 3) := by decide +kernel
theorem dX7_drives_31 : decode cX7_drives 31 = .ok (.ifCond .eq 12, 3) := by decide +kernel
theorem dX7_drives_34 : decode cX7_drives 34 = .ok (.iload_n 3, 1) := by decide +kernel
theorem dX7_drives_35 : decode cX7_drives 35 = .ok (.iconst 0, 1) := by decide +kernel
theorem dX7_drives_36 : decode cX7_drives 36 = .ok (.iconst 1, 1) := by decide +kernel
theorem dX7_drives_37 : decode cX7_drives 37 = .ok (.invokestatic 57, 3) := by decide +kernel
theorem dX7_drives_40 : decode cX7_drives 40 = .ok (.ifCond .ne 6, 3) := by decide +kernel
theorem dX7_drives_43 : decode cX7_drives 43 = .ok (.ldc 61, 2) := by decide +kernel
theorem dX7_drives_45 : decode cX7_drives 45 = .ok (.ireturn, 1) := by decide +kernel
theorem dX7_drives_46 : decode cX7_drives 46 = .ok (.aload_n 0, 1) := by decide +kernel
theorem dX7_drives_47 : decode cX7_drives 47 = .ok (.iconst 1, 1) := by decide +kernel
theorem dX7_drives_48 : decode cX7_drives 48 = .ok (.aload_n 0, 1) := by decide +kernel
theorem dX7_drives_49 : decode cX7_drives 49 = .ok (.getfield 39, 3) := by decide +kernel
theorem dX7_drives_52 : decode cX7_drives 52 = .ok (.getfield 238, 3) := by decide +kernel
theorem dX7_drives_55 : decode cX7_drives 55 = .ok (.ishl, 1) := by decide +kernel
theorem dX7_drives_56 : decode cX7_drives 56 = .ok (.iconst 1, 1) := by decide +kernel
theorem dX7_drives_57 : decode cX7_drives 57 = .ok (.isub, 1) := by decide +kernel
theorem dX7_drives_58 : decode cX7_drives 58 = .ok (.iconst 1, 1) := by decide +kernel
theorem dX7_drives_59 : decode cX7_drives 59 = .ok (.iload_n 1, 1) := by decide +kernel
theorem dX7_drives_60 : decode cX7_drives 60 = .ok (.iload_n 2, 1) := by decide +kernel
theorem dX7_drives_61 : decode cX7_drives 61 = .ok (.invokevirtual 229, 3) := by decide +kernel
theorem dX7_drives_64 : decode cX7_drives 64 = .ok (.istore 4, 2) := by decide +kernel
theorem dX7_drives_66 : decode cX7_drives 66 = .ok (.iload_n 3, 1) := by decide +kernel
theorem dX7_drives_67 : decode cX7_drives 67 = .ok (.ifCond .ne 18, 3) := by decide +kernel
theorem dX7_drives_70 : decode cX7_drives 70 = .ok (.iload 4, 2) := by decide +kernel
theorem dX7_drives_72 : decode cX7_drives 72 = .ok (.ldc 202, 2) := by decide +kernel
theorem dX7_drives_74 : decode cX7_drives 74 = .ok (.if_icmp .eq 11, 3) := by decide +kernel
theorem dX7_drives_77 : decode cX7_drives 77 = .ok (.iload 4, 2) := by decide +kernel
theorem dX7_drives_79 : decode cX7_drives 79 = .ok (.invokestatic 233, 3) := by decide +kernel
theorem dX7_drives_82 : decode cX7_drives 82 = .ok (.goto 5, 3) := by decide +kernel
theorem dX7_drives_85 : decode cX7_drives 85 = .ok (.iload 4, 2) := by decide +kernel
theorem dX7_drives_87 : decode cX7_drives 87 = .ok (.ireturn, 1) := by decide +kernel
theorem dX7_harm_0 : decode cX7_harm 0 = .ok (.aload_n 0, 1) := by decide +kernel
theorem dX7_harm_1 : decode cX7_harm 1 = .ok (.getfield 39, 3) := by decide +kernel
theorem dX7_harm_4 : decode cX7_harm 4 = .ok (.invokevirtual 139, 3) := by decide +kernel
theorem dX7_harm_7 : decode cX7_harm 7 = .ok (.ifCond .ne 6, 3) := by decide +kernel
theorem dX7_harm_10 : decode cX7_harm 10 = .ok (.ldc 138, 2) := by decide +kernel
theorem dX7_harm_12 : decode cX7_harm 12 = .ok (.ireturn, 1) := by decide +kernel
theorem dX7_harm_13 : decode cX7_harm 13 = .ok (.iload_n 1, 1) := by decide +kernel
theorem dX7_harm_14 : decode cX7_harm 14 = .ok (.iconst 1, 1) := by decide +kernel
theorem dX7_harm_15 : decode cX7_harm 15 = .ok (.bipush 60, 2) := by decide +kernel
theorem dX7_harm_17 : decode cX7_harm 17 = .ok (.invokestatic 57, 3) := by decide +kernel
theorem dX7_harm_20 : decode cX7_harm 20 = .ok (.ifCond .eq 12, 3) := by decide +kernel
theorem dX7_harm_23 : decode cX7_harm 23 = .ok (.iload_n 2, 1) := by decide +kernel
theorem dX7_harm_24 : decode cX7_harm 24 = .ok (.iconst 0, 1) := by decide +kernel
theorem dX7_harm_25 : decode cX7_harm 25 = .ok (.iconst 1, 1) := by decide +kernel
theorem dX7_harm_26 : decode cX7_harm 26 = .ok (.invokestatic 57, 3) := by decide +kernel
theorem dX7_harm_29 : decode cX7_harm 29 = .ok (.ifCond .ne 6, 3) := by decide +kernel
theorem dX7_harm_32 : decode cX7_harm 32 = .ok (.ldc 61, 2) := by decide +kernel
theorem dX7_harm_34 : decode cX7_harm 34 = .ok (.ireturn, 1) := by decide +kernel
theorem dX7_harm_35 : decode cX7_harm 35 = .ok (.ldc 202, 2) := by decide +kernel
theorem dX7_harm_37 : decode cX7_harm 37 = .ok (.istore_n 3, 1) := by decide +kernel
theorem dX7_harm_38 : decode cX7_harm 38 = .ok (.ldc 202, 2) := by decide +kernel
theorem dX7_harm_40 : decode cX7_harm 40 = .ok (.istore 4, 2) := by decide +kernel
theorem dX7_harm_42 : decode cX7_harm 42 = .ok (.iconst 0, 1) := by decide +kernel
theorem dX7_harm_43 : decode cX7_harm 43 = .ok (.istore 5, 2) := by decide +kernel
theorem dX7_harm_45 : decode cX7_harm 45 = .ok (.iload 5, 2) := by decide +kernel
theorem dX7_harm_47 : decode cX7_harm 47 = .ok (.aload_n 0, 1) := by decide +kernel
theorem dX7_harm_48 : decode cX7_harm 48 = .ok (.getfield 39, 3) := by decide +kernel
theorem dX7_harm_51 : decode cX7_harm 51 = .ok (.getfield 238, 3) := by decide +kernel
theorem dX7_harm_54 : decode cX7_harm 54 = .ok (.if_icmp .ge 66, 3) := by decide +kernel
theorem dX7_harm_57 : decode cX7_harm 57 = .ok (.aload_n 0, 1) := by decide +kernel
theorem dX7_harm_58 : decode cX7_harm 58 = .ok (.getfield 43, 3) := by decide +kernel
theorem dX7_harm_61 : decode cX7_harm 61 = .ok (.aload_n 0, 1) := by decide +kernel
theorem dX7_harm_62 : decode cX7_harm 62 = .ok (.getfield 39, 3) := by decide +kernel
theorem dX7_harm_65 : decode cX7_harm 65 = .ok (.invokevirtual 122, 3) := by decide +kernel
theorem dX7_harm_68 : decode cX7_harm 68 = .ok (.aload_n 0, 1) := by decide +kernel
theorem dX7_harm_69 : decode cX7_harm 69 = .ok (.getfield 43, 3) := by decide +kernel
theorem dX7_harm_72 : decode cX7_harm 72 = .ok (.iconst 1, 1) := by decide +kernel
theorem dX7_harm_73 : decode cX7_harm 73 = .ok (.iload 5, 2) := by decide +kernel
theorem dX7_harm_75 : decode cX7_harm 75 = .ok (.ishl, 1) := by decide +kernel
theorem dX7_harm_76 : decode cX7_harm 76 = .ok (.iload_n 1, 1) := by decide +kernel
theorem dX7_harm_77 : decode cX7_harm 77 = .ok (.invokevirtual 241, 3) := by decide +kernel
theorem dX7_harm_80 : decode cX7_harm 80 = .ok (.aload_n 0, 1) := by decide +kernel
theorem dX7_harm_81 : decode cX7_harm 81 = .ok (.getfield 43, 3) := by decide +kernel
theorem dX7_harm_84 : decode cX7_harm 84 = .ok (.iload_n 1, 1) := by decide +kernel
theorem dX7_harm_85 : decode cX7_harm 85 = .ok (.invokevirtual 210, 3) := by decide +kernel
theorem dX7_harm_88 : decode cX7_harm 88 = .ok (.aload_n 0, 1) := by decide +kernel
theorem dX7_harm_89 : decode cX7_harm 89 = .ok (.getfield 43, 3) := by decide +kernel
theorem dX7_harm_92 : decode cX7_harm 92 = .ok (.invokevirtual 214, 3) := by decide +kernel
theorem dX7_harm_95 : decode cX7_harm 95 = .ok (.invokestatic 233, 3) := by decide +kernel
theorem dX7_harm_98 : decode cX7_harm 98 = .ok (.istore 6, 2) := by decide +kernel
theorem dX7_harm_100 : decode cX7_harm 100 = .ok (.iload 6, 2) := by decide +kernel
theorem dX7_harm_102 : decode cX7_harm 102 = .ok (.iload 4, 2) := by decide +kernel
theorem dX7_harm_104 : decode cX7_harm 104 = .ok (.if_icmp .le 10, 3) := by decide +kernel
theorem dX7_harm_107 : decode cX7_harm 107 = .ok (.iload 5, 2) := by decide +kernel
theorem dX7_harm_109 : decode cX7_harm 109 = .ok (.istore_n 3, 1) := by decide +kernel
theorem dX7_harm_110 : decode cX7_harm 110 = .ok (.iload 6, 2) := by decide +kernel
theorem dX7_harm_112 : decode cX7_harm 112 = .ok (.istore 4, 2) := by decide +kernel
theorem dX7_harm_114 : decode cX7_harm 114 = .ok (.iinc 5 1, 3) := by decide +kernel
theorem dX7_harm_117 : decode cX7_harm 117 = .ok (.goto (-72), 3) := by decide +kernel
theorem dX7_harm_120 : decode cX7_harm 120 = .ok (.iload_n 2, 1) := by decide +kernel
theorem dX7_harm_121 : decode cX7_harm 121 = .ok (.ifCond .ne 7, 3) := by decide +kernel
theorem dX7_harm_124 : decode cX7_harm 124 = .ok (.iload_n 3, 1) := by decide +kernel
theorem dX7_harm_125 : decode cX7_harm 125 = .ok (.goto 5, 3) := by decide +kernel
theorem dX7_harm_128 : decode cX7_harm 128 = .ok (.iload 4, 2) := by decide +kernel
theorem dX7_harm_130 : decode cX7_harm 130 = .ok (.ireturn, 1) := by decide +kernel
theorem dX7_bait_0 : decode cX7_bait 0 = .ok (.aload_n 0, 1) := by decide +kernel
theorem dX7_bait_1 : decode cX7_bait 1 = .ok (.getfield 39, 3) := by decide +kernel
theorem dX7_bait_4 : decode cX7_bait 4 = .ok (.iload_n 1, 1) := by decide +kernel
theorem dX7_bait_5 : decode cX7_bait 5 = .ok (.invokevirtual 153, 3) := by decide +kernel
theorem dX7_bait_8 : decode cX7_bait 8 = .ok (.ifnull 22, 3) := by decide +kernel
theorem dX7_bait_11 : decode cX7_bait 11 = .ok (.iload_n 2, 1) := by decide +kernel
theorem dX7_bait_12 : decode cX7_bait 12 = .ok (.iconst 1, 1) := by decide +kernel
theorem dX7_bait_13 : decode cX7_bait 13 = .ok (.bipush 30, 2) := by decide +kernel
theorem dX7_bait_15 : decode cX7_bait 15 = .ok (.invokestatic 57, 3) := by decide +kernel
theorem dX7_bait_18 : decode cX7_bait 18 = .ok (.ifCond .eq 12, 3) := by decide +kernel
theorem dX7_bait_21 : decode cX7_bait 21 = .ok (.iload_n 3, 1) := by decide +kernel
theorem dX7_bait_22 : decode cX7_bait 22 = .ok (.iconst 0, 1) := by decide +kernel
theorem dX7_bait_23 : decode cX7_bait 23 = .ok (.iconst 1, 1) := by decide +kernel
theorem dX7_bait_24 : decode cX7_bait 24 = .ok (.invokestatic 57, 3) := by decide +kernel
theorem dX7_bait_27 : decode cX7_bait 27 = .ok (.ifCond .ne 6, 3) := by decide +kernel
theorem dX7_bait_30 : decode cX7_bait 30 = .ok (.ldc 61, 2) := by decide +kernel
theorem dX7_bait_32 : decode cX7_bait 32 = .ok (.ireturn, 1) := by decide +kernel
theorem dX7_bait_33 : decode cX7_bait 33 = .ok (.ldc 202, 2) := by decide +kernel
theorem dX7_bait_35 : decode cX7_bait 35 = .ok (.istore 4, 2) := by decide +kernel
theorem dX7_bait_37 : decode cX7_bait 37 = .ok (.ldc 202, 2) := by decide +kernel
theorem dX7_bait_39 : decode cX7_bait 39 = .ok (.istore 5, 2) := by decide +kernel
theorem dX7_bait_41 : decode cX7_bait 41 = .ok (.iconst 0, 1) := by decide +kernel
theorem dX7_bait_42 : decode cX7_bait 42 = .ok (.istore 6, 2) := by decide +kernel
theorem dX7_bait_44 : decode cX7_bait 44 = .ok (.iload 6, 2) := by decide +kernel
theorem dX7_bait_46 : decode cX7_bait 46 = .ok (.aload_n 0, 1) := by decide +kernel
theorem dX7_bait_47 : decode cX7_bait 47 = .ok (.getfield 39, 3) := by decide +kernel
theorem dX7_bait_50 : decode cX7_bait 50 = .ok (.getfield 129, 3) := by decide +kernel
theorem dX7_bait_53 : decode cX7_bait 53 = .ok (.if_icmp .ge 45, 3) := by decide +kernel
theorem dX7_bait_56 : decode cX7_bait 56 = .ok (.iload 6, 2) := by decide +kernel
theorem dX7_bait_58 : decode cX7_bait 58 = .ok (.iload_n 1, 1) := by decide +kernel
theorem dX7_bait_59 : decode cX7_bait 59 = .ok (.if_icmp .ne 8, 3) := by decide +kernel
theorem dX7_bait_62 : decode cX7_bait 62 = .ok (.ldc 202, 2) := by decide +kernel
theorem dX7_bait_64 : decode cX7_bait 64 = .ok (.goto 11, 3) := by decide +kernel
theorem dX7_bait_67 : decode cX7_bait 67 = .ok (.aload_n 0, 1) := by decide +kernel
theorem dX7_bait_68 : decode cX7_bait 68 = .ok (.iload_n 1, 1) := by decide +kernel
theorem dX7_bait_69 : decode cX7_bait 69 = .ok (.iload 6, 2) := by decide +kernel
theorem dX7_bait_71 : decode cX7_bait 71 = .ok (.iload_n 2, 1) := by decide +kernel
theorem dX7_bait_72 : decode cX7_bait 72 = .ok (.invokevirtual 244, 3) := by decide +kernel
theorem dX7_bait_75 : decode cX7_bait 75 = .ok (.istore 7, 2) := by decide +kernel
theorem dX7_bait_77 : decode cX7_bait 77 = .ok (.iload 7, 2) := by decide +kernel
theorem dX7_bait_79 : decode cX7_bait 79 = .ok (.iload 5, 2) := by decide +kernel
theorem dX7_bait_81 : decode cX7_bait 81 = .ok (.if_icmp .le 11, 3) := by decide +kernel
theorem dX7_bait_84 : decode cX7_bait 84 = .ok (.iload 6, 2) := by decide +kernel
theorem dX7_bait_86 : decode cX7_bait 86 = .ok (.istore 4, 2) := by decide +kernel
theorem dX7_bait_88 : decode cX7_bait 88 = .ok (.iload 7, 2) := by decide +kernel
theorem dX7_bait_90 : decode cX7_bait 90 = .ok (.istore 5, 2) := by decide +kernel
theorem dX7_bait_92 : decode cX7_bait 92 = .ok (.iinc 6 1, 3) := by decide +kernel
theorem dX7_bait_95 : decode cX7_bait 95 = .ok (.goto (-51), 3) := by decide +kernel
theorem dX7_bait_98 : decode cX7_bait 98 = .ok (.iload_n 3, 1) := by decide +kernel
theorem dX7_bait_99 : decode cX7_bait 99 = .ok (.ifCond .ne 8, 3) := by decide +kernel
theorem dX7_bait_102 : decode cX7_bait 102 = .ok (.iload 4, 2) := by decide +kernel
theorem dX7_bait_104 : decode cX7_bait 104 = .ok (.goto 5, 3) := by decide +kernel
theorem dX7_bait_107 : decode cX7_bait 107 = .ok (.iload 5, 2) := by decide +kernel
theorem dX7_bait_109 : decode cX7_bait 109 = .ok (.ireturn, 1) := by decide +kernel
theorem dX7_safeHeight_0 : decode cX7_safeHeight 0 = .ok (.aload_n 0, 1) := by decide +kernel
theorem dX7_safeHeight_1 : decode cX7_safeHeight 1 = .ok (.getfield 39, 3) := by decide +kernel
theorem dX7_safeHeight_4 : decode cX7_safeHeight 4 = .ok (.iload_n 1, 1) := by decide +kernel
theorem dX7_safeHeight_5 : decode cX7_safeHeight 5 = .ok (.invokevirtual 153, 3) := by decide +kernel
theorem dX7_safeHeight_8 : decode cX7_safeHeight 8 = .ok (.astore_n 3, 1) := by decide +kernel
theorem dX7_safeHeight_9 : decode cX7_safeHeight 9 = .ok (.aload_n 3, 1) := by decide +kernel
theorem dX7_safeHeight_10 : decode cX7_safeHeight 10 = .ok (.ifnull 13, 3) := by decide +kernel
theorem dX7_safeHeight_13 : decode cX7_safeHeight 13 = .ok (.iload_n 2, 1) := by decide +kernel
theorem dX7_safeHeight_14 : decode cX7_safeHeight 14 = .ok (.iconst 1, 1) := by decide +kernel
theorem dX7_safeHeight_15 : decode cX7_safeHeight 15 = .ok (.bipush 60, 2) := by decide +kernel
theorem dX7_safeHeight_17 : decode cX7_safeHeight 17 = .ok (.invokestatic 57, 3) := by decide +kernel
theorem dX7_safeHeight_20 : decode cX7_safeHeight 20 = .ok (.ifCond .ne 6, 3) := by decide +kernel
theorem dX7_safeHeight_23 : decode cX7_safeHeight 23 = .ok (.ldc 61, 2) := by decide +kernel
theorem dX7_safeHeight_25 : decode cX7_safeHeight 25 = .ok (.ireturn, 1) := by decide +kernel
theorem dX7_safeHeight_26 : decode cX7_safeHeight 26 = .ok (.aload_n 3, 1) := by decide +kernel
theorem dX7_safeHeight_27 : decode cX7_safeHeight 27 = .ok (.invokevirtual 157, 3) := by decide +kernel
theorem dX7_safeHeight_30 : decode cX7_safeHeight 30 = .ok (.ifCond .eq 6, 3) := by decide +kernel
theorem dX7_safeHeight_33 : decode cX7_safeHeight 33 = .ok (.ldc 138, 2) := by decide +kernel
theorem dX7_safeHeight_35 : decode cX7_safeHeight 35 = .ok (.ireturn, 1) := by decide +kernel
theorem dX7_safeHeight_36 : decode cX7_safeHeight 36 = .ok (.iconst 0, 1) := by decide +kernel
theorem dX7_safeHeight_37 : decode cX7_safeHeight 37 = .ok (.istore 4, 2) := by decide +kernel
theorem dX7_safeHeight_39 : decode cX7_safeHeight 39 = .ok (.iload 4, 2) := by decide +kernel
theorem dX7_safeHeight_41 : decode cX7_safeHeight 41 = .ok (.bipush 9, 2) := by decide +kernel
theorem dX7_safeHeight_43 : decode cX7_safeHeight 43 = .ok (.if_icmp .gt 57, 3) := by decide +kernel
theorem dX7_safeHeight_46 : decode cX7_safeHeight 46 = .ok (.aload_n 0, 1) := by decide +kernel
theorem dX7_safeHeight_47 : decode cX7_safeHeight 47 = .ok (.getfield 43, 3) := by decide +kernel
theorem dX7_safeHeight_50 : decode cX7_safeHeight 50 = .ok (.aload_n 0, 1) := by decide +kernel
theorem dX7_safeHeight_51 : decode cX7_safeHeight 51 = .ok (.getfield 39, 3) := by decide +kernel
theorem dX7_safeHeight_54 : decode cX7_safeHeight 54 = .ok (.iload_n 1, 1) := by decide +kernel
theorem dX7_safeHeight_55 : decode cX7_safeHeight 55 = .ok (.invokevirtual 206, 3) := by decide +kernel
theorem dX7_safeHeight_58 : decode cX7_safeHeight 58 = .ok (.astore 5, 2) := by decide +kernel
theorem dX7_safeHeight_60 : decode cX7_safeHeight 60 = .ok (.aload 5, 2) := by decide +kernel
theorem dX7_safeHeight_62 : decode cX7_safeHeight 62 = .ok (.ifnonnull 6, 3) := by decide +kernel
theorem dX7_safeHeight_65 : decode cX7_safeHeight 65 = .ok (.ldc 61, 2) := by decide +kernel
theorem dX7_safeHeight_67 : decode cX7_safeHeight 67 = .ok (.ireturn, 1) := by decide +kernel
theorem dX7_safeHeight_68 : decode cX7_safeHeight 68 = .ok (.aload 5, 2) := by decide +kernel
theorem dX7_safeHeight_70 : decode cX7_safeHeight 70 = .ok (.iload 4, 2) := by decide +kernel
theorem dX7_safeHeight_72 : decode cX7_safeHeight 72 = .ok (.putfield 162, 3) := by decide +kernel
theorem dX7_safeHeight_75 : decode cX7_safeHeight 75 = .ok (.aload_n 0, 1) := by decide +kernel
theorem dX7_safeHeight_76 : decode cX7_safeHeight 76 = .ok (.getfield 43, 3) := by decide +kernel
theorem dX7_safeHeight_79 : decode cX7_safeHeight 79 = .ok (.iload_n 2, 1) := by decide +kernel
theorem dX7_safeHeight_80 : decode cX7_safeHeight 80 = .ok (.invokevirtual 210, 3) := by decide +kernel
theorem dX7_safeHeight_83 : decode cX7_safeHeight 83 = .ok (.aload 5, 2) := by decide +kernel
theorem dX7_safeHeight_85 : decode cX7_safeHeight 85 = .ok (.getfield 220, 3) := by decide +kernel
theorem dX7_safeHeight_88 : decode cX7_safeHeight 88 = .ok (.ifCond .ne 6, 3) := by decide +kernel
theorem dX7_safeHeight_91 : decode cX7_safeHeight 91 = .ok (.iload 4, 2) := by decide +kernel
theorem dX7_safeHeight_93 : decode cX7_safeHeight 93 = .ok (.ireturn, 1) := by decide +kernel
theorem dX7_safeHeight_94 : decode cX7_safeHeight 94 = .ok (.iinc 4 1, 3) := by decide +kernel
theorem dX7_safeHeight_97 : decode cX7_safeHeight 97 = .ok (.goto (-58), 3) := by decide +kernel
theorem dX7_safeHeight_100 : decode cX7_safeHeight 100 = .ok (.ldc 202, 2) := by decide +kernel
theorem dX7_safeHeight_102 : decode cX7_safeHeight 102 = .ok (.ireturn, 1) := by decide +kernel
theorem dX7_who_0 : decode cX7_who 0 = .ok (.aload_n 0, 1) := by decide +kernel
theorem dX7_who_1 : decode cX7_who 1 = .ok (.iload 4, 2) := by decide +kernel
theorem dX7_who_3 : decode cX7_who 3 = .ok (.invokevirtual 53, 3) := by decide +kernel
theorem dX7_who_6 : decode cX7_who 6 = .ok (.astore 7, 2) := by decide +kernel
theorem dX7_who_8 : decode cX7_who 8 = .ok (.aload_n 0, 1) := by decide +kernel
theorem dX7_who_9 : decode cX7_who 9 = .ok (.getfield 39, 3) := by decide +kernel
theorem dX7_who_12 : decode cX7_who 12 = .ok (.iload_n 1, 1) := by decide +kernel
theorem dX7_who_13 : decode cX7_who 13 = .ok (.invokevirtual 153, 3) := by decide +kernel
theorem dX7_who_16 : decode cX7_who 16 = .ok (.ifnull 39, 3) := by decide +kernel
theorem dX7_who_19 : decode cX7_who 19 = .ok (.aload_n 0, 1) := by decide +kernel
theorem dX7_who_20 : decode cX7_who 20 = .ok (.getfield 39, 3) := by decide +kernel
theorem dX7_who_23 : decode cX7_who 23 = .ok (.iload_n 3, 1) := by decide +kernel
theorem dX7_who_24 : decode cX7_who 24 = .ok (.invokevirtual 153, 3) := by decide +kernel
theorem dX7_who_27 : decode cX7_who 27 = .ok (.ifnull 28, 3) := by decide +kernel
theorem dX7_who_30 : decode cX7_who 30 = .ok (.aload 7, 2) := by decide +kernel
theorem dX7_who_32 : decode cX7_who 32 = .ok (.ifnull 23, 3) := by decide +kernel
theorem dX7_who_35 : decode cX7_who 35 = .ok (.iload_n 2, 1) := by decide +kernel
theorem dX7_who_36 : decode cX7_who 36 = .ok (.iconst 0, 1) := by decide +kernel
theorem dX7_who_37 : decode cX7_who 37 = .ok (.iconst 2, 1) := by decide +kernel
theorem dX7_who_38 : decode cX7_who 38 = .ok (.invokestatic 57, 3) := by decide +kernel
theorem dX7_who_41 : decode cX7_who 41 = .ok (.ifCond .eq 14, 3) := by decide +kernel
theorem dX7_who_44 : decode cX7_who 44 = .ok (.iload 6, 2) := by decide +kernel
theorem dX7_who_46 : decode cX7_who 46 = .ok (.iconst 1, 1) := by decide +kernel
theorem dX7_who_47 : decode cX7_who 47 = .ok (.bipush 12, 2) := by decide +kernel
theorem dX7_who_49 : decode cX7_who 49 = .ok (.invokestatic 57, 3) := by decide +kernel
theorem dX7_who_52 : decode cX7_who 52 = .ok (.ifCond .ne 6, 3) := by decide +kernel
theorem dX7_who_55 : decode cX7_who 55 = .ok (.ldc 61, 2) := by decide +kernel
theorem dX7_who_57 : decode cX7_who 57 = .ok (.ireturn, 1) := by decide +kernel
theorem dX7_who_58 : decode cX7_who 58 = .ok (.aload 7, 2) := by decide +kernel
theorem dX7_who_60 : decode cX7_who 60 = .ok (.getfield 74, 3) := by decide +kernel
theorem dX7_who_63 : decode cX7_who 63 = .ok (.ifCond .ne 9, 3) := by decide +kernel
theorem dX7_who_66 : decode cX7_who 66 = .ok (.aload_n 0, 1) := by decide +kernel
theorem dX7_who_67 : decode cX7_who 67 = .ok (.iconst 1, 1) := by decide +kernel
theorem dX7_who_68 : decode cX7_who 68 = .ok (.invokevirtual 62, 3) := by decide +kernel
theorem dX7_who_71 : decode cX7_who 71 = .ok (.ireturn, 1) := by decide +kernel
theorem dX7_who_72 : decode cX7_who 72 = .ok (.aload 7, 2) := by decide +kernel
theorem dX7_who_74 : decode cX7_who 74 = .ok (.iload 5, 2) := by decide +kernel
theorem dX7_who_76 : decode cX7_who 76 = .ok (.iload 6, 2) := by decide +kernel
theorem dX7_who_78 : decode cX7_who 78 = .ok (.invokevirtual 78, 3) := by decide +kernel
theorem dX7_who_81 : decode cX7_who 81 = .ok (.ifCond .ne 9, 3) := by decide +kernel
theorem dX7_who_84 : decode cX7_who 84 = .ok (.aload_n 0, 1) := by decide +kernel
theorem dX7_who_85 : decode cX7_who 85 = .ok (.iconst 2, 1) := by decide +kernel
theorem dX7_who_86 : decode cX7_who 86 = .ok (.invokevirtual 62, 3) := by decide +kernel
theorem dX7_who_89 : decode cX7_who 89 = .ok (.ireturn, 1) := by decide +kernel
theorem dX7_who_90 : decode cX7_who 90 = .ok (.aload_n 0, 1) := by decide +kernel
theorem dX7_who_91 : decode cX7_who 91 = .ok (.iconst 0, 1) := by decide +kernel
theorem dX7_who_92 : decode cX7_who 92 = .ok (.putfield 66, 3) := by decide +kernel
theorem dX7_who_95 : decode cX7_who 95 = .ok (.iload_n 2, 1) := by decide +kernel
theorem dX7_who_96 : decode cX7_who 96 = .ok (.ifCond .ne 7, 3) := by decide +kernel
theorem dX7_who_99 : decode cX7_who 99 = .ok (.iconst 1, 1) := by decide +kernel
theorem dX7_who_100 : decode cX7_who 100 = .ok (.goto 4, 3) := by decide +kernel
theorem dX7_who_103 : decode cX7_who 103 = .ok (.iconst 0, 1) := by decide +kernel
theorem dX7_who_104 : decode cX7_who 104 = .ok (.istore 8, 2) := by decide +kernel
theorem dX7_who_106 : decode cX7_who 106 = .ok (.iload_n 2, 1) := by decide +kernel
theorem dX7_who_107 : decode cX7_who 107 = .ok (.ifCond .ne 7, 3) := by decide +kernel
theorem dX7_who_110 : decode cX7_who 110 = .ok (.iconst 5, 1) := by decide +kernel
theorem dX7_who_111 : decode cX7_who 111 = .ok (.goto 15, 3) := by decide +kernel
theorem dX7_who_114 : decode cX7_who 114 = .ok (.iload_n 2, 1) := by decide +kernel
theorem dX7_who_115 : decode cX7_who 115 = .ok (.iconst 1, 1) := by decide +kernel
theorem dX7_who_116 : decode cX7_who 116 = .ok (.if_icmp .ne 8, 3) := by decide +kernel
theorem dX7_who_119 : decode cX7_who 119 = .ok (.bipush 9, 2) := by decide +kernel
theorem dX7_who_121 : decode cX7_who 121 = .ok (.goto 5, 3) := by decide +kernel
theorem dX7_who_124 : decode cX7_who 124 = .ok (.bipush 19, 2) := by decide +kernel
theorem dX7_who_126 : decode cX7_who 126 = .ok (.istore 9, 2) := by decide +kernel
theorem dX7_who_128 : decode cX7_who 128 = .ok (.iconst 0, 1) := by decide +kernel
theorem dX7_who_129 : decode cX7_who 129 = .ok (.istore 10, 2) := by decide +kernel
theorem dX7_who_131 : decode cX7_who 131 = .ok (.iload 8, 2) := by decide +kernel
theorem dX7_who_133 : decode cX7_who 133 = .ok (.istore 11, 2) := by decide +kernel
theorem dX7_who_135 : decode cX7_who 135 = .ok (.iload 11, 2) := by decide +kernel
theorem dX7_who_137 : decode cX7_who 137 = .ok (.iload 9, 2) := by decide +kernel
theorem dX7_who_139 : decode cX7_who 139 = .ok (.if_icmp .gt 65, 3) := by decide +kernel
theorem dX7_who_142 : decode cX7_who 142 = .ok (.aload_n 0, 1) := by decide +kernel
theorem dX7_who_143 : decode cX7_who 143 = .ok (.getfield 43, 3) := by decide +kernel
theorem dX7_who_146 : decode cX7_who 146 = .ok (.aload_n 0, 1) := by decide +kernel
theorem dX7_who_147 : decode cX7_who 147 = .ok (.getfield 39, 3) := by decide +kernel
theorem dX7_who_150 : decode cX7_who 150 = .ok (.iload_n 1, 1) := by decide +kernel
theorem dX7_who_151 : decode cX7_who 151 = .ok (.invokevirtual 206, 3) := by decide +kernel
theorem dX7_who_154 : decode cX7_who 154 = .ok (.astore 12, 2) := by decide +kernel
theorem dX7_who_156 : decode cX7_who 156 = .ok (.aload 12, 2) := by decide +kernel
theorem dX7_who_158 : decode cX7_who 158 = .ok (.ifnonnull 6, 3) := by decide +kernel
theorem dX7_who_161 : decode cX7_who 161 = .ok (.ldc 61, 2) := by decide +kernel
theorem dX7_who_163 : decode cX7_who 163 = .ok (.ireturn, 1) := by decide +kernel
theorem dX7_who_164 : decode cX7_who 164 = .ok (.aload 12, 2) := by decide +kernel
theorem dX7_who_166 : decode cX7_who 166 = .ok (.iload_n 2, 1) := by decide +kernel
theorem dX7_who_167 : decode cX7_who 167 = .ok (.iload 11, 2) := by decide +kernel
theorem dX7_who_169 : decode cX7_who 169 = .ok (.invokevirtual 248, 3) := by decide +kernel
theorem dX7_who_172 : decode cX7_who 172 = .ok (.aload_n 0, 1) := by decide +kernel
theorem dX7_who_173 : decode cX7_who 173 = .ok (.getfield 43, 3) := by decide +kernel
theorem dX7_who_176 : decode cX7_who 176 = .ok (.iload_n 3, 1) := by decide +kernel
theorem dX7_who_177 : decode cX7_who 177 = .ok (.aload 7, 2) := by decide +kernel
theorem dX7_who_179 : decode cX7_who 179 = .ok (.iload 5, 2) := by decide +kernel
theorem dX7_who_181 : decode cX7_who 181 = .ok (.iload 6, 2) := by decide +kernel
theorem dX7_who_183 : decode cX7_who 183 = .ok (.invokevirtual 251, 3) := by decide +kernel
theorem dX7_who_186 : decode cX7_who 186 = .ok (.ifCond .eq 12, 3) := by decide +kernel
theorem dX7_who_189 : decode cX7_who 189 = .ok (.iload 10, 2) := by decide +kernel
theorem dX7_who_191 : decode cX7_who 191 = .ok (.iconst 1, 1) := by decide +kernel
theorem dX7_who_192 : decode cX7_who 192 = .ok (.iload 11, 2) := by decide +kernel
theorem dX7_who_194 : decode cX7_who 194 = .ok (.ishl, 1) := by decide +kernel
theorem dX7_who_195 : decode cX7_who 195 = .ok (.ior, 1) := by decide +kernel
theorem dX7_who_196 : decode cX7_who 196 = .ok (.istore 10, 2) := by decide +kernel
theorem dX7_who_198 : decode cX7_who 198 = .ok (.iinc 11 1, 3) := by decide +kernel
theorem dX7_who_201 : decode cX7_who 201 = .ok (.goto (-66), 3) := by decide +kernel
theorem dX7_who_204 : decode cX7_who 204 = .ok (.iload 10, 2) := by decide +kernel
theorem dX7_who_206 : decode cX7_who 206 = .ok (.ireturn, 1) := by decide +kernel
theorem dX7_strayed_0 : decode cX7_strayed 0 = .ok (.aload_n 0, 1) := by decide +kernel
theorem dX7_strayed_1 : decode cX7_strayed 1 = .ok (.iload_n 2, 1) := by decide +kernel
theorem dX7_strayed_2 : decode cX7_strayed 2 = .ok (.invokevirtual 53, 3) := by decide +kernel
theorem dX7_strayed_5 : decode cX7_strayed 5 = .ok (.astore 5, 2) := by decide +kernel
theorem dX7_strayed_7 : decode cX7_strayed 7 = .ok (.aload_n 0, 1) := by decide +kernel
theorem dX7_strayed_8 : decode cX7_strayed 8 = .ok (.getfield 39, 3) := by decide +kernel
theorem dX7_strayed_11 : decode cX7_strayed 11 = .ok (.iload_n 1, 1) := by decide +kernel
theorem dX7_strayed_12 : decode cX7_strayed 12 = .ok (.invokevirtual 153, 3) := by decide +kernel
theorem dX7_strayed_15 : decode cX7_strayed 15 = .ok (.ifnull 19, 3) := by decide +kernel
theorem dX7_strayed_18 : decode cX7_strayed 18 = .ok (.aload 5, 2) := by decide +kernel
theorem dX7_strayed_20 : decode cX7_strayed 20 = .ok (.ifnull 14, 3) := by decide +kernel
theorem dX7_strayed_23 : decode cX7_strayed 23 = .ok (.iload 4, 2) := by decide +kernel
theorem dX7_strayed_25 : decode cX7_strayed 25 = .ok (.iconst 1, 1) := by decide +kernel
theorem dX7_strayed_26 : decode cX7_strayed 26 = .ok (.bipush 12, 2) := by decide +kernel
theorem dX7_strayed_28 : decode cX7_strayed 28 = .ok (.invokestatic 57, 3) := by decide +kernel
theorem dX7_strayed_31 : decode cX7_strayed 31 = .ok (.ifCond .ne 6, 3) := by decide +kernel
theorem dX7_strayed_34 : decode cX7_strayed 34 = .ok (.ldc 61, 2) := by decide +kernel
theorem dX7_strayed_36 : decode cX7_strayed 36 = .ok (.ireturn, 1) := by decide +kernel
theorem dX7_strayed_37 : decode cX7_strayed 37 = .ok (.aload 5, 2) := by decide +kernel
theorem dX7_strayed_39 : decode cX7_strayed 39 = .ok (.getfield 74, 3) := by decide +kernel
theorem dX7_strayed_42 : decode cX7_strayed 42 = .ok (.ifCond .ne 9, 3) := by decide +kernel
theorem dX7_strayed_45 : decode cX7_strayed 45 = .ok (.aload_n 0, 1) := by decide +kernel
theorem dX7_strayed_46 : decode cX7_strayed 46 = .ok (.iconst 1, 1) := by decide +kernel
theorem dX7_strayed_47 : decode cX7_strayed 47 = .ok (.invokevirtual 62, 3) := by decide +kernel
theorem dX7_strayed_50 : decode cX7_strayed 50 = .ok (.ireturn, 1) := by decide +kernel
theorem dX7_strayed_51 : decode cX7_strayed 51 = .ok (.aload 5, 2) := by decide +kernel
theorem dX7_strayed_53 : decode cX7_strayed 53 = .ok (.iload_n 3, 1) := by decide +kernel
theorem dX7_strayed_54 : decode cX7_strayed 54 = .ok (.iload 4, 2) := by decide +kernel
theorem dX7_strayed_56 : decode cX7_strayed 56 = .ok (.invokevirtual 78, 3) := by decide +kernel
theorem dX7_strayed_59 : decode cX7_strayed 59 = .ok (.ifCond .ne 9, 3) := by decide +kernel
theorem dX7_strayed_62 : decode cX7_strayed 62 = .ok (.aload_n 0, 1) := by decide +kernel
theorem dX7_strayed_63 : decode cX7_strayed 63 = .ok (.iconst 2, 1) := by decide +kernel
theorem dX7_strayed_64 : decode cX7_strayed 64 = .ok (.invokevirtual 62, 3) := by decide +kernel
theorem dX7_strayed_67 : decode cX7_strayed 67 = .ok (.ireturn, 1) := by decide +kernel
theorem dX7_strayed_68 : decode cX7_strayed 68 = .ok (.aload_n 0, 1) := by decide +kernel
theorem dX7_strayed_69 : decode cX7_strayed 69 = .ok (.iconst 0, 1) := by decide +kernel
theorem dX7_strayed_70 : decode cX7_strayed 70 = .ok (.putfield 66, 3) := by decide +kernel
theorem dX7_strayed_73 : decode cX7_strayed 73 = .ok (.aload_n 0, 1) := by decide +kernel
theorem dX7_strayed_74 : decode cX7_strayed 74 = .ok (.getfield 43, 3) := by decide +kernel
theorem dX7_strayed_77 : decode cX7_strayed 77 = .ok (.aload_n 0, 1) := by decide +kernel
theorem dX7_strayed_78 : decode cX7_strayed 78 = .ok (.getfield 39, 3) := by decide +kernel
theorem dX7_strayed_81 : decode cX7_strayed 81 = .ok (.invokevirtual 122, 3) := by decide +kernel
theorem dX7_strayed_84 : decode cX7_strayed 84 = .ok (.aload_n 0, 1) := by decide +kernel
theorem dX7_strayed_85 : decode cX7_strayed 85 = .ok (.getfield 43, 3) := by decide +kernel
theorem dX7_strayed_88 : decode cX7_strayed 88 = .ok (.iload_n 1, 1) := by decide +kernel
theorem dX7_strayed_89 : decode cX7_strayed 89 = .ok (.aload 5, 2) := by decide +kernel
theorem dX7_strayed_91 : decode cX7_strayed 91 = .ok (.iload_n 3, 1) := by decide +kernel
theorem dX7_strayed_92 : decode cX7_strayed 92 = .ok (.iload 4, 2) := by decide +kernel
theorem dX7_strayed_94 : decode cX7_strayed 94 = .ok (.invokevirtual 251, 3) := by decide +kernel
theorem dX7_strayed_97 : decode cX7_strayed 97 = .ok (.ifCond .eq 8, 3) := by decide +kernel
theorem dX7_strayed_100 : decode cX7_strayed 100 = .ok (.bipush 16, 2) := by decide +kernel
theorem dX7_strayed_102 : decode cX7_strayed 102 = .ok (.goto 4, 3) := by decide +kernel
theorem dX7_strayed_105 : decode cX7_strayed 105 = .ok (.iconst 0, 1) := by decide +kernel
theorem dX7_strayed_106 : decode cX7_strayed 106 = .ok (.istore 6, 2) := by decide +kernel
theorem dX7_strayed_108 : decode cX7_strayed 108 = .ok (.iconst 0, 1) := by decide +kernel
theorem dX7_strayed_109 : decode cX7_strayed 109 = .ok (.istore 7, 2) := by decide +kernel
theorem dX7_strayed_111 : decode cX7_strayed 111 = .ok (.iload 7, 2) := by decide +kernel
theorem dX7_strayed_113 : decode cX7_strayed 113 = .ok (.aload_n 0, 1) := by decide +kernel
theorem dX7_strayed_114 : decode cX7_strayed 114 = .ok (.getfield 39, 3) := by decide +kernel
theorem dX7_strayed_117 : decode cX7_strayed 117 = .ok (.getfield 238, 3) := by decide +kernel
theorem dX7_strayed_120 : decode cX7_strayed 120 = .ok (.if_icmp .ge 58, 3) := by decide +kernel
theorem dX7_strayed_123 : decode cX7_strayed 123 = .ok (.aload_n 0, 1) := by decide +kernel
theorem dX7_strayed_124 : decode cX7_strayed 124 = .ok (.getfield 43, 3) := by decide +kernel
theorem dX7_strayed_127 : decode cX7_strayed 127 = .ok (.aload_n 0, 1) := by decide +kernel
theorem dX7_strayed_128 : decode cX7_strayed 128 = .ok (.getfield 39, 3) := by decide +kernel
theorem dX7_strayed_131 : decode cX7_strayed 131 = .ok (.invokevirtual 122, 3) := by decide +kernel
theorem dX7_strayed_134 : decode cX7_strayed 134 = .ok (.aload_n 0, 1) := by decide +kernel
theorem dX7_strayed_135 : decode cX7_strayed 135 = .ok (.getfield 43, 3) := by decide +kernel
theorem dX7_strayed_138 : decode cX7_strayed 138 = .ok (.iconst 1, 1) := by decide +kernel
theorem dX7_strayed_139 : decode cX7_strayed 139 = .ok (.iload 7, 2) := by decide +kernel
theorem dX7_strayed_141 : decode cX7_strayed 141 = .ok (.ishl, 1) := by decide +kernel
theorem dX7_strayed_142 : decode cX7_strayed 142 = .ok (.iload 4, 2) := by decide +kernel
theorem dX7_strayed_144 : decode cX7_strayed 144 = .ok (.invokevirtual 241, 3) := by decide +kernel
theorem dX7_strayed_147 : decode cX7_strayed 147 = .ok (.aload_n 0, 1) := by decide +kernel
theorem dX7_strayed_148 : decode cX7_strayed 148 = .ok (.getfield 43, 3) := by decide +kernel
theorem dX7_strayed_151 : decode cX7_strayed 151 = .ok (.iload_n 1, 1) := by decide +kernel
theorem dX7_strayed_152 : decode cX7_strayed 152 = .ok (.aload 5, 2) := by decide +kernel
theorem dX7_strayed_154 : decode cX7_strayed 154 = .ok (.iload_n 3, 1) := by decide +kernel
theorem dX7_strayed_155 : decode cX7_strayed 155 = .ok (.iload 4, 2) := by decide +kernel
theorem dX7_strayed_157 : decode cX7_strayed 157 = .ok (.invokevirtual 251, 3) := by decide +kernel
theorem dX7_strayed_160 : decode cX7_strayed 160 = .ok (.ifCond .eq 12, 3) := by decide +kernel
theorem dX7_strayed_163 : decode cX7_strayed 163 = .ok (.iload 6, 2) := by decide +kernel
theorem dX7_strayed_165 : decode cX7_strayed 165 = .ok (.iconst 1, 1) := by decide +kernel
theorem dX7_strayed_166 : decode cX7_strayed 166 = .ok (.iload 7, 2) := by decide +kernel
theorem dX7_strayed_168 : decode cX7_strayed 168 = .ok (.ishl, 1) := by decide +kernel
theorem dX7_strayed_169 : decode cX7_strayed 169 = .ok (.ior, 1) := by decide +kernel
theorem dX7_strayed_170 : decode cX7_strayed 170 = .ok (.istore 6, 2) := by decide +kernel
theorem dX7_strayed_172 : decode cX7_strayed 172 = .ok (.iinc 7 1, 3) := by decide +kernel
theorem dX7_strayed_175 : decode cX7_strayed 175 = .ok (.goto (-64), 3) := by decide +kernel
theorem dX7_strayed_178 : decode cX7_strayed 178 = .ok (.iload 6, 2) := by decide +kernel
theorem dX7_strayed_180 : decode cX7_strayed 180 = .ok (.ireturn, 1) := by decide +kernel
theorem dX7_rivals_0 : decode cX7_rivals 0 = .ok (.aload_n 0, 1) := by decide +kernel
theorem dX7_rivals_1 : decode cX7_rivals 1 = .ok (.getfield 39, 3) := by decide +kernel
theorem dX7_rivals_4 : decode cX7_rivals 4 = .ok (.invokevirtual 139, 3) := by decide +kernel
theorem dX7_rivals_7 : decode cX7_rivals 7 = .ok (.ifCond .ne 6, 3) := by decide +kernel
theorem dX7_rivals_10 : decode cX7_rivals 10 = .ok (.ldc 138, 2) := by decide +kernel
theorem dX7_rivals_12 : decode cX7_rivals 12 = .ok (.ireturn, 1) := by decide +kernel
theorem dX7_rivals_13 : decode cX7_rivals 13 = .ok (.iload_n 1, 1) := by decide +kernel
theorem dX7_rivals_14 : decode cX7_rivals 14 = .ok (.iconst 0, 1) := by decide +kernel
theorem dX7_rivals_15 : decode cX7_rivals 15 = .ok (.iconst 1, 1) := by decide +kernel
theorem dX7_rivals_16 : decode cX7_rivals 16 = .ok (.invokestatic 57, 3) := by decide +kernel
theorem dX7_rivals_19 : decode cX7_rivals 19 = .ok (.ifCond .ne 6, 3) := by decide +kernel
theorem dX7_rivals_22 : decode cX7_rivals 22 = .ok (.ldc 61, 2) := by decide +kernel
theorem dX7_rivals_24 : decode cX7_rivals 24 = .ok (.ireturn, 1) := by decide +kernel
theorem dX7_rivals_25 : decode cX7_rivals 25 = .ok (.iconst 0, 1) := by decide +kernel
theorem dX7_rivals_26 : decode cX7_rivals 26 = .ok (.istore_n 2, 1) := by decide +kernel
theorem dX7_rivals_27 : decode cX7_rivals 27 = .ok (.ldc 202, 2) := by decide +kernel
theorem dX7_rivals_29 : decode cX7_rivals 29 = .ok (.istore_n 3, 1) := by decide +kernel
theorem dX7_rivals_30 : decode cX7_rivals 30 = .ok (.aload_n 0, 1) := by decide +kernel
theorem dX7_rivals_31 : decode cX7_rivals 31 = .ok (.getfield 39, 3) := by decide +kernel
theorem dX7_rivals_34 : decode cX7_rivals 34 = .ok (.getfield 255, 3) := by decide +kernel
theorem dX7_rivals_37 : decode cX7_rivals 37 = .ok (.astore 4, 2) := by decide +kernel
theorem dX7_rivals_39 : decode cX7_rivals 39 = .ok (.aload 4, 2) := by decide +kernel
theorem dX7_rivals_41 : decode cX7_rivals 41 = .ok (.arraylength, 1) := by decide +kernel
theorem dX7_rivals_42 : decode cX7_rivals 42 = .ok (.istore 5, 2) := by decide +kernel
theorem dX7_rivals_44 : decode cX7_rivals 44 = .ok (.iconst 0, 1) := by decide +kernel
theorem dX7_rivals_45 : decode cX7_rivals 45 = .ok (.istore 6, 2) := by decide +kernel
theorem dX7_rivals_47 : decode cX7_rivals 47 = .ok (.iload 6, 2) := by decide +kernel
theorem dX7_rivals_49 : decode cX7_rivals 49 = .ok (.iload 5, 2) := by decide +kernel
theorem dX7_rivals_51 : decode cX7_rivals 51 = .ok (.if_icmp .ge 106, 3) := by decide +kernel
theorem dX7_rivals_54 : decode cX7_rivals 54 = .ok (.aload 4, 2) := by decide +kernel
theorem dX7_rivals_56 : decode cX7_rivals 56 = .ok (.iload 6, 2) := by decide +kernel
theorem dX7_rivals_58 : decode cX7_rivals 58 = .ok (.aaload, 1) := by decide +kernel
theorem dX7_rivals_59 : decode cX7_rivals 59 = .ok (.astore 7, 2) := by decide +kernel
theorem dX7_rivals_61 : decode cX7_rivals 61 = .ok (.aload_n 0, 1) := by decide +kernel
theorem dX7_rivals_62 : decode cX7_rivals 62 = .ok (.getfield 39, 3) := by decide +kernel
theorem dX7_rivals_65 : decode cX7_rivals 65 = .ok (.getfield 255, 3) := by decide +kernel
theorem dX7_rivals_68 : decode cX7_rivals 68 = .ok (.astore 8, 2) := by decide +kernel
theorem dX7_rivals_70 : decode cX7_rivals 70 = .ok (.aload 8, 2) := by decide +kernel
theorem dX7_rivals_72 : decode cX7_rivals 72 = .ok (.arraylength, 1) := by decide +kernel
theorem dX7_rivals_73 : decode cX7_rivals 73 = .ok (.istore 9, 2) := by decide +kernel
theorem dX7_rivals_75 : decode cX7_rivals 75 = .ok (.iconst 0, 1) := by decide +kernel
theorem dX7_rivals_76 : decode cX7_rivals 76 = .ok (.istore 10, 2) := by decide +kernel
theorem dX7_rivals_78 : decode cX7_rivals 78 = .ok (.iload 10, 2) := by decide +kernel
theorem dX7_rivals_80 : decode cX7_rivals 80 = .ok (.iload 9, 2) := by decide +kernel
theorem dX7_rivals_82 : decode cX7_rivals 82 = .ok (.if_icmp .ge 69, 3) := by decide +kernel
theorem dX7_rivals_85 : decode cX7_rivals 85 = .ok (.aload 8, 2) := by decide +kernel
theorem dX7_rivals_87 : decode cX7_rivals 87 = .ok (.iload 10, 2) := by decide +kernel
theorem dX7_rivals_89 : decode cX7_rivals 89 = .ok (.aaload, 1) := by decide +kernel
theorem dX7_rivals_90 : decode cX7_rivals 90 = .ok (.astore 11, 2) := by decide +kernel
theorem dX7_rivals_92 : decode cX7_rivals 92 = .ok (.aload 7, 2) := by decide +kernel
theorem dX7_rivals_94 : decode cX7_rivals 94 = .ok (.getfield 203, 3) := by decide +kernel
theorem dX7_rivals_97 : decode cX7_rivals 97 = .ok (.aload 11, 2) := by decide +kernel
theorem dX7_rivals_99 : decode cX7_rivals 99 = .ok (.getfield 203, 3) := by decide +kernel
theorem dX7_rivals_102 : decode cX7_rivals 102 = .ok (.if_icmp .ge 43, 3) := by decide +kernel
theorem dX7_rivals_105 : decode cX7_rivals 105 = .ok (.aload_n 0, 1) := by decide +kernel
theorem dX7_rivals_106 : decode cX7_rivals 106 = .ok (.getfield 39, 3) := by decide +kernel
theorem dX7_rivals_109 : decode cX7_rivals 109 = .ok (.aload 7, 2) := by decide +kernel
theorem dX7_rivals_111 : decode cX7_rivals 111 = .ok (.aload 11, 2) := by decide +kernel
theorem dX7_rivals_113 : decode cX7_rivals 113 = .ok (.invokevirtual 259, 3) := by decide +kernel
theorem dX7_rivals_116 : decode cX7_rivals 116 = .ok (.ifCond .eq 29, 3) := by decide +kernel
theorem dX7_rivals_119 : decode cX7_rivals 119 = .ok (.iload_n 2, 1) := by decide +kernel
theorem dX7_rivals_120 : decode cX7_rivals 120 = .ok (.ifCond .ne 20, 3) := by decide +kernel
theorem dX7_rivals_123 : decode cX7_rivals 123 = .ok (.bipush 10, 2) := by decide +kernel
theorem dX7_rivals_125 : decode cX7_rivals 125 = .ok (.aload 7, 2) := by decide +kernel
theorem dX7_rivals_127 : decode cX7_rivals 127 = .ok (.getfield 203, 3) := by decide +kernel
theorem dX7_rivals_130 : decode cX7_rivals 130 = .ok (.imul, 1) := by decide +kernel
theorem dX7_rivals_131 : decode cX7_rivals 131 = .ok (.aload 11, 2) := by decide +kernel
theorem dX7_rivals_133 : decode cX7_rivals 133 = .ok (.getfield 203, 3) := by decide +kernel
theorem dX7_rivals_136 : decode cX7_rivals 136 = .ok (.iadd, 1) := by decide +kernel
theorem dX7_rivals_137 : decode cX7_rivals 137 = .ok (.goto 4, 3) := by decide +kernel
theorem dX7_rivals_140 : decode cX7_rivals 140 = .ok (.iload_n 3, 1) := by decide +kernel
theorem dX7_rivals_141 : decode cX7_rivals 141 = .ok (.istore_n 3, 1) := by decide +kernel
theorem dX7_rivals_142 : decode cX7_rivals 142 = .ok (.iinc 2 1, 3) := by decide +kernel
theorem dX7_rivals_145 : decode cX7_rivals 145 = .ok (.iinc 10 1, 3) := by decide +kernel
theorem dX7_rivals_148 : decode cX7_rivals 148 = .ok (.goto (-70), 3) := by decide +kernel
theorem dX7_rivals_151 : decode cX7_rivals 151 = .ok (.iinc 6 1, 3) := by decide +kernel
theorem dX7_rivals_154 : decode cX7_rivals 154 = .ok (.goto (-107), 3) := by decide +kernel
theorem dX7_rivals_157 : decode cX7_rivals 157 = .ok (.iload_n 1, 1) := by decide +kernel
theorem dX7_rivals_158 : decode cX7_rivals 158 = .ok (.ifCond .ne 7, 3) := by decide +kernel
theorem dX7_rivals_161 : decode cX7_rivals 161 = .ok (.iload_n 2, 1) := by decide +kernel
theorem dX7_rivals_162 : decode cX7_rivals 162 = .ok (.goto 4, 3) := by decide +kernel
theorem dX7_rivals_165 : decode cX7_rivals 165 = .ok (.iload_n 3, 1) := by decide +kernel
theorem dX7_rivals_166 : decode cX7_rivals 166 = .ok (.ireturn, 1) := by decide +kernel
theorem dX7_wind_0 : decode cX7_wind 0 = .ok (.aload_n 0, 1) := by decide +kernel
theorem dX7_wind_1 : decode cX7_wind 1 = .ok (.getfield 39, 3) := by decide +kernel
theorem dX7_wind_4 : decode cX7_wind 4 = .ok (.invokevirtual 139, 3) := by decide +kernel
theorem dX7_wind_7 : decode cX7_wind 7 = .ok (.ifCond .ne 7, 3) := by decide +kernel
theorem dX7_wind_10 : decode cX7_wind 10 = .ok (.ldc2_w 263, 3) := by decide +kernel
theorem dX7_wind_13 : decode cX7_wind 13 = .ok (.lreturn, 1) := by decide +kernel
theorem dX7_wind_14 : decode cX7_wind 14 = .ok (.iload_n 1, 1) := by decide +kernel
theorem dX7_wind_15 : decode cX7_wind 15 = .ok (.iconst 0, 1) := by decide +kernel
theorem dX7_wind_16 : decode cX7_wind 16 = .ok (.bipush 7, 2) := by decide +kernel
theorem dX7_wind_18 : decode cX7_wind 18 = .ok (.invokestatic 57, 3) := by decide +kernel
theorem dX7_wind_21 : decode cX7_wind 21 = .ok (.ifCond .eq 22, 3) := by decide +kernel
theorem dX7_wind_24 : decode cX7_wind 24 = .ok (.iload_n 2, 1) := by decide +kernel
theorem dX7_wind_25 : decode cX7_wind 25 = .ok (.iconst 0, 1) := by decide +kernel
theorem dX7_wind_26 : decode cX7_wind 26 = .ok (.bipush 10, 2) := by decide +kernel
theorem dX7_wind_28 : decode cX7_wind 28 = .ok (.invokestatic 57, 3) := by decide +kernel
theorem dX7_wind_31 : decode cX7_wind 31 = .ok (.ifCond .eq 12, 3) := by decide +kernel
theorem dX7_wind_34 : decode cX7_wind 34 = .ok (.iload_n 3, 1) := by decide +kernel
theorem dX7_wind_35 : decode cX7_wind 35 = .ok (.iconst 0, 1) := by decide +kernel
theorem dX7_wind_36 : decode cX7_wind 36 = .ok (.iconst 1, 1) := by decide +kernel
theorem dX7_wind_37 : decode cX7_wind 37 = .ok (.invokestatic 57, 3) := by decide +kernel
theorem dX7_wind_40 : decode cX7_wind 40 = .ok (.ifCond .ne 7, 3) := by decide +kernel
theorem dX7_wind_43 : decode cX7_wind 43 = .ok (.ldc2_w 265, 3) := by decide +kernel
theorem dX7_wind_46 : decode cX7_wind 46 = .ok (.lreturn, 1) := by decide +kernel
theorem dX7_wind_47 : decode cX7_wind 47 = .ok (.aload_n 0, 1) := by decide +kernel
end
section
theorem dX7_wind_48 : decode cX7_wind 48 = .ok (.getfield 39, 3) := by decide +kernel
theorem dX7_wind_51 : decode cX7_wind 51 = .ok (.invokevirtual 226, 3) := by decide +kernel
theorem dX7_wind_54 : decode cX7_wind 54 = .ok (.istore 4, 2) := by decide +kernel
theorem dX7_wind_56 : decode cX7_wind 56 = .ok (.iload 4, 2) := by decide +kernel
theorem dX7_wind_58 : decode cX7_wind 58 = .ok (.invokestatic 233, 3) := by decide +kernel
theorem dX7_wind_61 : decode cX7_wind 61 = .ok (.istore 5, 2) := by decide +kernel
theorem dX7_wind_63 : decode cX7_wind 63 = .ok (.lconst 0, 1) := by decide +kernel
theorem dX7_wind_64 : decode cX7_wind 64 = .ok (.lstore 6, 2) := by decide +kernel
theorem dX7_wind_66 : decode cX7_wind 66 = .ok (.iconst 0, 1) := by decide +kernel
theorem dX7_wind_67 : decode cX7_wind 67 = .ok (.istore 8, 2) := by decide +kernel
theorem dX7_wind_69 : decode cX7_wind 69 = .ok (.iload 8, 2) := by decide +kernel
theorem dX7_wind_71 : decode cX7_wind 71 = .ok (.iload 4, 2) := by decide +kernel
theorem dX7_wind_73 : decode cX7_wind 73 = .ok (.if_icmp .gt 60, 3) := by decide +kernel
theorem dX7_wind_76 : decode cX7_wind 76 = .ok (.iload 8, 2) := by decide +kernel
theorem dX7_wind_78 : decode cX7_wind 78 = .ok (.iload 4, 2) := by decide +kernel
theorem dX7_wind_80 : decode cX7_wind 80 = .ok (.iconst (-1), 1) := by decide +kernel
theorem dX7_wind_81 : decode cX7_wind 81 = .ok (.ixor, 1) := by decide +kernel
theorem dX7_wind_82 : decode cX7_wind 82 = .ok (.iand, 1) := by decide +kernel
theorem dX7_wind_83 : decode cX7_wind 83 = .ok (.ifCond .ne 44, 3) := by decide +kernel
theorem dX7_wind_86 : decode cX7_wind 86 = .ok (.aload_n 0, 1) := by decide +kernel
theorem dX7_wind_87 : decode cX7_wind 87 = .ok (.iload 8, 2) := by decide +kernel
theorem dX7_wind_89 : decode cX7_wind 89 = .ok (.invokevirtual 267, 3) := by decide +kernel
theorem dX7_wind_92 : decode cX7_wind 92 = .ok (.iload_n 1, 1) := by decide +kernel
theorem dX7_wind_93 : decode cX7_wind 93 = .ok (.if_icmp .lt 34, 3) := by decide +kernel
theorem dX7_wind_96 : decode cX7_wind 96 = .ok (.iload 8, 2) := by decide +kernel
theorem dX7_wind_98 : decode cX7_wind 98 = .ok (.invokestatic 233, 3) := by decide +kernel
theorem dX7_wind_101 : decode cX7_wind 101 = .ok (.istore 9, 2) := by decide +kernel
theorem dX7_wind_103 : decode cX7_wind 103 = .ok (.lload 6, 2) := by decide +kernel
theorem dX7_wind_105 : decode cX7_wind 105 = .ok (.iload_n 2, 1) := by decide +kernel
theorem dX7_wind_106 : decode cX7_wind 106 = .ok (.iload 9, 2) := by decide +kernel
theorem dX7_wind_108 : decode cX7_wind 108 = .ok (.invokestatic 270, 3) := by decide +kernel
theorem dX7_wind_111 : decode cX7_wind 111 = .ok (.bipush 10, 2) := by decide +kernel
theorem dX7_wind_113 : decode cX7_wind 113 = .ok (.iload_n 2, 1) := by decide +kernel
theorem dX7_wind_114 : decode cX7_wind 114 = .ok (.isub, 1) := by decide +kernel
theorem dX7_wind_115 : decode cX7_wind 115 = .ok (.iload 5, 2) := by decide +kernel
theorem dX7_wind_117 : decode cX7_wind 117 = .ok (.iload 9, 2) := by decide +kernel
theorem dX7_wind_119 : decode cX7_wind 119 = .ok (.isub, 1) := by decide +kernel
theorem dX7_wind_120 : decode cX7_wind 120 = .ok (.invokestatic 270, 3) := by decide +kernel
theorem dX7_wind_123 : decode cX7_wind 123 = .ok (.lmul, 1) := by decide +kernel
theorem dX7_wind_124 : decode cX7_wind 124 = .ok (.ladd, 1) := by decide +kernel
theorem dX7_wind_125 : decode cX7_wind 125 = .ok (.lstore 6, 2) := by decide +kernel
theorem dX7_wind_127 : decode cX7_wind 127 = .ok (.iinc 8 1, 3) := by decide +kernel
theorem dX7_wind_130 : decode cX7_wind 130 = .ok (.goto (-61), 3) := by decide +kernel
theorem dX7_wind_133 : decode cX7_wind 133 = .ok (.bipush 10, 2) := by decide +kernel
theorem dX7_wind_135 : decode cX7_wind 135 = .ok (.iload 5, 2) := by decide +kernel
theorem dX7_wind_137 : decode cX7_wind 137 = .ok (.invokestatic 270, 3) := by decide +kernel
theorem dX7_wind_140 : decode cX7_wind 140 = .ok (.lstore 8, 2) := by decide +kernel
theorem dX7_wind_142 : decode cX7_wind 142 = .ok (.lload 6, 2) := by decide +kernel
theorem dX7_wind_144 : decode cX7_wind 144 = .ok (.lload 8, 2) := by decide +kernel
theorem dX7_wind_146 : decode cX7_wind 146 = .ok (.invokestatic 274, 3) := by decide +kernel
theorem dX7_wind_149 : decode cX7_wind 149 = .ok (.lstore 10, 2) := by decide +kernel
theorem dX7_wind_151 : decode cX7_wind 151 = .ok (.iload_n 3, 1) := by decide +kernel
theorem dX7_wind_152 : decode cX7_wind 152 = .ok (.ifCond .ne 8, 3) := by decide +kernel
theorem dX7_wind_155 : decode cX7_wind 155 = .ok (.lload 6, 2) := by decide +kernel
theorem dX7_wind_157 : decode cX7_wind 157 = .ok (.goto 5, 3) := by decide +kernel
theorem dX7_wind_160 : decode cX7_wind 160 = .ok (.lload 8, 2) := by decide +kernel
theorem dX7_wind_162 : decode cX7_wind 162 = .ok (.lstore 12, 2) := by decide +kernel
theorem dX7_wind_164 : decode cX7_wind 164 = .ok (.lload 10, 2) := by decide +kernel
theorem dX7_wind_166 : decode cX7_wind 166 = .ok (.lconst 1, 1) := by decide +kernel
theorem dX7_wind_167 : decode cX7_wind 167 = .ok (.lcmp, 1) := by decide +kernel
theorem dX7_wind_168 : decode cX7_wind 168 = .ok (.ifCond .le 11, 3) := by decide +kernel
theorem dX7_wind_171 : decode cX7_wind 171 = .ok (.lload 12, 2) := by decide +kernel
theorem dX7_wind_173 : decode cX7_wind 173 = .ok (.lload 10, 2) := by decide +kernel
theorem dX7_wind_175 : decode cX7_wind 175 = .ok (.ldiv, 1) := by decide +kernel
theorem dX7_wind_176 : decode cX7_wind 176 = .ok (.goto 5, 3) := by decide +kernel
theorem dX7_wind_179 : decode cX7_wind 179 = .ok (.lload 12, 2) := by decide +kernel
theorem dX7_wind_181 : decode cX7_wind 181 = .ok (.lreturn, 1) := by decide +kernel
theorem dX7_drawn_0 : decode cX7_drawn 0 = .ok (.aload_n 0, 1) := by decide +kernel
theorem dX7_drawn_1 : decode cX7_drawn 1 = .ok (.getfield 39, 3) := by decide +kernel
theorem dX7_drawn_4 : decode cX7_drawn 4 = .ok (.invokevirtual 139, 3) := by decide +kernel
theorem dX7_drawn_7 : decode cX7_drawn 7 = .ok (.ifCond .ne 6, 3) := by decide +kernel
theorem dX7_drawn_10 : decode cX7_drawn 10 = .ok (.ldc 138, 2) := by decide +kernel
theorem dX7_drawn_12 : decode cX7_drawn 12 = .ok (.ireturn, 1) := by decide +kernel
theorem dX7_drawn_13 : decode cX7_drawn 13 = .ok (.iload_n 1, 1) := by decide +kernel
theorem dX7_drawn_14 : decode cX7_drawn 14 = .ok (.iconst 0, 1) := by decide +kernel
theorem dX7_drawn_15 : decode cX7_drawn 15 = .ok (.bipush 60, 2) := by decide +kernel
theorem dX7_drawn_17 : decode cX7_drawn 17 = .ok (.invokestatic 57, 3) := by decide +kernel
theorem dX7_drawn_20 : decode cX7_drawn 20 = .ok (.ifCond .eq 23, 3) := by decide +kernel
theorem dX7_drawn_23 : decode cX7_drawn 23 = .ok (.iload_n 2, 1) := by decide +kernel
theorem dX7_drawn_24 : decode cX7_drawn 24 = .ok (.iconst 1, 1) := by decide +kernel
theorem dX7_drawn_25 : decode cX7_drawn 25 = .ok (.ldc_w 278, 3) := by decide +kernel
theorem dX7_drawn_28 : decode cX7_drawn 28 = .ok (.invokestatic 57, 3) := by decide +kernel
theorem dX7_drawn_31 : decode cX7_drawn 31 = .ok (.ifCond .eq 12, 3) := by decide +kernel
theorem dX7_drawn_34 : decode cX7_drawn 34 = .ok (.iload_n 3, 1) := by decide +kernel
theorem dX7_drawn_35 : decode cX7_drawn 35 = .ok (.iconst 0, 1) := by decide +kernel
theorem dX7_drawn_36 : decode cX7_drawn 36 = .ok (.iconst 1, 1) := by decide +kernel
theorem dX7_drawn_37 : decode cX7_drawn 37 = .ok (.invokestatic 57, 3) := by decide +kernel
theorem dX7_drawn_40 : decode cX7_drawn 40 = .ok (.ifCond .ne 6, 3) := by decide +kernel
theorem dX7_drawn_43 : decode cX7_drawn 43 = .ok (.ldc 61, 2) := by decide +kernel
theorem dX7_drawn_45 : decode cX7_drawn 45 = .ok (.ireturn, 1) := by decide +kernel
theorem dX7_drawn_46 : decode cX7_drawn 46 = .ok (.aload_n 0, 1) := by decide +kernel
theorem dX7_drawn_47 : decode cX7_drawn 47 = .ok (.getfield 43, 3) := by decide +kernel
theorem dX7_drawn_50 : decode cX7_drawn 50 = .ok (.aload_n 0, 1) := by decide +kernel
theorem dX7_drawn_51 : decode cX7_drawn 51 = .ok (.getfield 39, 3) := by decide +kernel
theorem dX7_drawn_54 : decode cX7_drawn 54 = .ok (.invokevirtual 122, 3) := by decide +kernel
theorem dX7_drawn_57 : decode cX7_drawn 57 = .ok (.iload_n 2, 1) := by decide +kernel
theorem dX7_drawn_58 : decode cX7_drawn 58 = .ok (.i2l, 1) := by decide +kernel
theorem dX7_drawn_59 : decode cX7_drawn 59 = .ok (.lstore 4, 2) := by decide +kernel
theorem dX7_drawn_61 : decode cX7_drawn 61 = .ok (.iconst 0, 1) := by decide +kernel
theorem dX7_drawn_62 : decode cX7_drawn 62 = .ok (.istore 6, 2) := by decide +kernel
theorem dX7_drawn_64 : decode cX7_drawn 64 = .ok (.iload 6, 2) := by decide +kernel
theorem dX7_drawn_66 : decode cX7_drawn 66 = .ok (.iload_n 1, 1) := by decide +kernel
theorem dX7_drawn_67 : decode cX7_drawn 67 = .ok (.if_icmp .ge 39, 3) := by decide +kernel
theorem dX7_drawn_70 : decode cX7_drawn 70 = .ok (.lload 4, 2) := by decide +kernel
theorem dX7_drawn_72 : decode cX7_drawn 72 = .ok (.ldc2_w 279, 3) := by decide +kernel
theorem dX7_drawn_75 : decode cX7_drawn 75 = .ok (.lmul, 1) := by decide +kernel
theorem dX7_drawn_76 : decode cX7_drawn 76 = .ok (.ldc2_w 281, 3) := by decide +kernel
theorem dX7_drawn_79 : decode cX7_drawn 79 = .ok (.lrem, 1) := by decide +kernel
theorem dX7_drawn_80 : decode cX7_drawn 80 = .ok (.lstore 4, 2) := by decide +kernel
theorem dX7_drawn_82 : decode cX7_drawn 82 = .ok (.aload_n 0, 1) := by decide +kernel
theorem dX7_drawn_83 : decode cX7_drawn 83 = .ok (.getfield 43, 3) := by decide +kernel
theorem dX7_drawn_86 : decode cX7_drawn 86 = .ok (.lload 4, 2) := by decide +kernel
theorem dX7_drawn_88 : decode cX7_drawn 88 = .ok (.l2i, 1) := by decide +kernel
theorem dX7_drawn_89 : decode cX7_drawn 89 = .ok (.invokevirtual 283, 3) := by decide +kernel
theorem dX7_drawn_92 : decode cX7_drawn 92 = .ok (.aload_n 0, 1) := by decide +kernel
theorem dX7_drawn_93 : decode cX7_drawn 93 = .ok (.getfield 43, 3) := by decide +kernel
theorem dX7_drawn_96 : decode cX7_drawn 96 = .ok (.invokevirtual 149, 3) := by decide +kernel
theorem dX7_drawn_99 : decode cX7_drawn 99 = .ok (.pop, 1) := by decide +kernel
theorem dX7_drawn_100 : decode cX7_drawn 100 = .ok (.iinc 6 1, 3) := by decide +kernel
theorem dX7_drawn_103 : decode cX7_drawn 103 = .ok (.goto (-39), 3) := by decide +kernel
theorem dX7_drawn_106 : decode cX7_drawn 106 = .ok (.iload_n 3, 1) := by decide +kernel
theorem dX7_drawn_107 : decode cX7_drawn 107 = .ok (.ifCond .ne 13, 3) := by decide +kernel
theorem dX7_drawn_110 : decode cX7_drawn 110 = .ok (.aload_n 0, 1) := by decide +kernel
theorem dX7_drawn_111 : decode cX7_drawn 111 = .ok (.getfield 43, 3) := by decide +kernel
theorem dX7_drawn_114 : decode cX7_drawn 114 = .ok (.invokevirtual 286, 3) := by decide +kernel
theorem dX7_drawn_117 : decode cX7_drawn 117 = .ok (.goto 10, 3) := by decide +kernel
theorem dX7_drawn_120 : decode cX7_drawn 120 = .ok (.aload_n 0, 1) := by decide +kernel
theorem dX7_drawn_121 : decode cX7_drawn 121 = .ok (.getfield 43, 3) := by decide +kernel
theorem dX7_drawn_124 : decode cX7_drawn 124 = .ok (.getfield 289, 3) := by decide +kernel
theorem dX7_drawn_127 : decode cX7_drawn 127 = .ok (.ireturn, 1) := by decide +kernel
theorem dX7_image_0 : decode cX7_image 0 = .ok (.aload_n 0, 1) := by decide +kernel
theorem dX7_image_1 : decode cX7_image 1 = .ok (.iload_n 1, 1) := by decide +kernel
theorem dX7_image_2 : decode cX7_image 2 = .ok (.invokevirtual 292, 3) := by decide +kernel
theorem dX7_image_5 : decode cX7_image 5 = .ok (.astore_n 2, 1) := by decide +kernel
theorem dX7_image_6 : decode cX7_image 6 = .ok (.aload_n 2, 1) := by decide +kernel
theorem dX7_image_7 : decode cX7_image 7 = .ok (.ifnonnull 6, 3) := by decide +kernel
theorem dX7_image_10 : decode cX7_image 10 = .ok (.ldc 61, 2) := by decide +kernel
theorem dX7_image_12 : decode cX7_image 12 = .ok (.ireturn, 1) := by decide +kernel
theorem dX7_image_13 : decode cX7_image 13 = .ok (.aload_n 0, 1) := by decide +kernel
theorem dX7_image_14 : decode cX7_image 14 = .ok (.getfield 39, 3) := by decide +kernel
theorem dX7_image_17 : decode cX7_image 17 = .ok (.invokevirtual 139, 3) := by decide +kernel
theorem dX7_image_20 : decode cX7_image 20 = .ok (.ifCond .ne 6, 3) := by decide +kernel
theorem dX7_image_23 : decode cX7_image 23 = .ok (.ldc 138, 2) := by decide +kernel
theorem dX7_image_25 : decode cX7_image 25 = .ok (.ireturn, 1) := by decide +kernel
theorem dX7_image_26 : decode cX7_image 26 = .ok (.aload_n 2, 1) := by decide +kernel
theorem dX7_image_27 : decode cX7_image 27 = .ok (.aload_n 0, 1) := by decide +kernel
theorem dX7_image_28 : decode cX7_image 28 = .ok (.getfield 39, 3) := by decide +kernel
theorem dX7_image_31 : decode cX7_image 31 = .ok (.invokevirtual 122, 3) := by decide +kernel
theorem dX7_image_34 : decode cX7_image 34 = .ok (.iconst 1, 1) := by decide +kernel
theorem dX7_image_35 : decode cX7_image 35 = .ok (.ireturn, 1) := by decide +kernel
theorem dX7_restore_0 : decode cX7_restore 0 = .ok (.aload_n 0, 1) := by decide +kernel
theorem dX7_restore_1 : decode cX7_restore 1 = .ok (.iload_n 1, 1) := by decide +kernel
theorem dX7_restore_2 : decode cX7_restore 2 = .ok (.invokevirtual 292, 3) := by decide +kernel
theorem dX7_restore_5 : decode cX7_restore 5 = .ok (.astore_n 2, 1) := by decide +kernel
theorem dX7_restore_6 : decode cX7_restore 6 = .ok (.aload_n 2, 1) := by decide +kernel
theorem dX7_restore_7 : decode cX7_restore 7 = .ok (.ifnonnull 6, 3) := by decide +kernel
theorem dX7_restore_10 : decode cX7_restore 10 = .ok (.ldc 61, 2) := by decide +kernel
theorem dX7_restore_12 : decode cX7_restore 12 = .ok (.ireturn, 1) := by decide +kernel
theorem dX7_restore_13 : decode cX7_restore 13 = .ok (.aload_n 2, 1) := by decide +kernel
theorem dX7_restore_14 : decode cX7_restore 14 = .ok (.invokevirtual 139, 3) := by decide +kernel
theorem dX7_restore_17 : decode cX7_restore 17 = .ok (.ifCond .ne 6, 3) := by decide +kernel
theorem dX7_restore_20 : decode cX7_restore 20 = .ok (.ldc 138, 2) := by decide +kernel
theorem dX7_restore_22 : decode cX7_restore 22 = .ok (.ireturn, 1) := by decide +kernel
theorem dX7_restore_23 : decode cX7_restore 23 = .ok (.aload_n 0, 1) := by decide +kernel
theorem dX7_restore_24 : decode cX7_restore 24 = .ok (.getfield 39, 3) := by decide +kernel
theorem dX7_restore_27 : decode cX7_restore 27 = .ok (.aload_n 2, 1) := by decide +kernel
theorem dX7_restore_28 : decode cX7_restore 28 = .ok (.invokevirtual 122, 3) := by decide +kernel
theorem dX7_restore_31 : decode cX7_restore 31 = .ok (.aload_n 0, 1) := by decide +kernel
theorem dX7_restore_32 : decode cX7_restore 32 = .ok (.getfield 25, 3) := by decide +kernel
theorem dX7_restore_35 : decode cX7_restore 35 = .ok (.invokevirtual 126, 3) := by decide +kernel
theorem dX7_restore_38 : decode cX7_restore 38 = .ok (.iconst 1, 1) := by decide +kernel
theorem dX7_restore_39 : decode cX7_restore 39 = .ok (.ireturn, 1) := by decide +kernel
theorem dX7_kind_0 : decode cX7_kind 0 = .ok (.aload_n 0, 1) := by decide +kernel
theorem dX7_kind_1 : decode cX7_kind 1 = .ok (.getfield 39, 3) := by decide +kernel
theorem dX7_kind_4 : decode cX7_kind 4 = .ok (.iload_n 1, 1) := by decide +kernel
theorem dX7_kind_5 : decode cX7_kind 5 = .ok (.invokevirtual 153, 3) := by decide +kernel
theorem dX7_kind_8 : decode cX7_kind 8 = .ok (.astore_n 2, 1) := by decide +kernel
theorem dX7_kind_9 : decode cX7_kind 9 = .ok (.aload_n 2, 1) := by decide +kernel
theorem dX7_kind_10 : decode cX7_kind 10 = .ok (.ifnonnull 8, 3) := by decide +kernel
theorem dX7_kind_13 : decode cX7_kind 13 = .ok (.ldc 61, 2) := by decide +kernel
theorem dX7_kind_15 : decode cX7_kind 15 = .ok (.goto 7, 3) := by decide +kernel
theorem dX7_kind_18 : decode cX7_kind 18 = .ok (.aload_n 2, 1) := by decide +kernel
theorem dX7_kind_19 : decode cX7_kind 19 = .ok (.getfield 296, 3) := by decide +kernel
theorem dX7_kind_22 : decode cX7_kind 22 = .ok (.ireturn, 1) := by decide +kernel
theorem dX7_as_0 : decode cX7_as 0 = .ok (.aload_n 0, 1) := by decide +kernel
theorem dX7_as_1 : decode cX7_as 1 = .ok (.getfield 39, 3) := by decide +kernel
theorem dX7_as_4 : decode cX7_as 4 = .ok (.iload_n 1, 1) := by decide +kernel
theorem dX7_as_5 : decode cX7_as 5 = .ok (.invokevirtual 153, 3) := by decide +kernel
theorem dX7_as_8 : decode cX7_as 8 = .ok (.astore_n 3, 1) := by decide +kernel
theorem dX7_as_9 : decode cX7_as 9 = .ok (.aload_n 3, 1) := by decide +kernel
theorem dX7_as_10 : decode cX7_as 10 = .ok (.ifnull 12, 3) := by decide +kernel
theorem dX7_as_13 : decode cX7_as 13 = .ok (.iload_n 2, 1) := by decide +kernel
theorem dX7_as_14 : decode cX7_as 14 = .ok (.iconst 0, 1) := by decide +kernel
theorem dX7_as_15 : decode cX7_as 15 = .ok (.iconst 5, 1) := by decide +kernel
theorem dX7_as_16 : decode cX7_as 16 = .ok (.invokestatic 57, 3) := by decide +kernel
theorem dX7_as_19 : decode cX7_as 19 = .ok (.ifCond .ne 6, 3) := by decide +kernel
theorem dX7_as_22 : decode cX7_as 22 = .ok (.ldc 61, 2) := by decide +kernel
theorem dX7_as_24 : decode cX7_as 24 = .ok (.ireturn, 1) := by decide +kernel
theorem dX7_as_25 : decode cX7_as 25 = .ok (.iload_n 2, 1) := by decide +kernel
theorem dX7_as_26 : decode cX7_as 26 = .ok (.ifCond .eq 28, 3) := by decide +kernel
theorem dX7_as_29 : decode cX7_as 29 = .ok (.iload_n 2, 1) := by decide +kernel
theorem dX7_as_30 : decode cX7_as 30 = .ok (.aload_n 3, 1) := by decide +kernel
theorem dX7_as_31 : decode cX7_as 31 = .ok (.getfield 296, 3) := by decide +kernel
theorem dX7_as_34 : decode cX7_as 34 = .ok (.if_icmp .eq 20, 3) := by decide +kernel
theorem dX7_as_37 : decode cX7_as 37 = .ok (.iload_n 2, 1) := by decide +kernel
theorem dX7_as_38 : decode cX7_as 38 = .ok (.aload_n 3, 1) := by decide +kernel
theorem dX7_as_39 : decode cX7_as 39 = .ok (.getfield 296, 3) := by decide +kernel
theorem dX7_as_42 : decode cX7_as 42 = .ok (.invokestatic 299, 3) := by decide +kernel
theorem dX7_as_45 : decode cX7_as 45 = .ok (.if_icmp .eq 9, 3) := by decide +kernel
theorem dX7_as_48 : decode cX7_as 48 = .ok (.aload_n 0, 1) := by decide +kernel
theorem dX7_as_49 : decode cX7_as 49 = .ok (.iconst 3, 1) := by decide +kernel
theorem dX7_as_50 : decode cX7_as 50 = .ok (.invokevirtual 62, 3) := by decide +kernel
theorem dX7_as_53 : decode cX7_as 53 = .ok (.ireturn, 1) := by decide +kernel
theorem dX7_as_54 : decode cX7_as 54 = .ok (.aload_n 0, 1) := by decide +kernel
theorem dX7_as_55 : decode cX7_as 55 = .ok (.iconst 0, 1) := by decide +kernel
theorem dX7_as_56 : decode cX7_as 56 = .ok (.putfield 66, 3) := by decide +kernel
theorem dX7_as_59 : decode cX7_as 59 = .ok (.iload_n 1, 1) := by decide +kernel
theorem dX7_as_60 : decode cX7_as 60 = .ok (.ireturn, 1) := by decide +kernel
theorem dX7_ask_0 : decode cX7_ask 0 = .ok (.aload_n 0, 1) := by decide +kernel
theorem dX7_ask_1 : decode cX7_ask 1 = .ok (.getfield 39, 3) := by decide +kernel
theorem dX7_ask_4 : decode cX7_ask 4 = .ok (.iload_n 1, 1) := by decide +kernel
theorem dX7_ask_5 : decode cX7_ask 5 = .ok (.invokevirtual 153, 3) := by decide +kernel
theorem dX7_ask_8 : decode cX7_ask 8 = .ok (.astore_n 3, 1) := by decide +kernel
theorem dX7_ask_9 : decode cX7_ask 9 = .ok (.aload_n 3, 1) := by decide +kernel
theorem dX7_ask_10 : decode cX7_ask 10 = .ok (.ifnull 12, 3) := by decide +kernel
theorem dX7_ask_13 : decode cX7_ask 13 = .ok (.iload_n 2, 1) := by decide +kernel
theorem dX7_ask_14 : decode cX7_ask 14 = .ok (.iconst 0, 1) := by decide +kernel
theorem dX7_ask_15 : decode cX7_ask 15 = .ok (.iconst 1, 1) := by decide +kernel
theorem dX7_ask_16 : decode cX7_ask 16 = .ok (.invokestatic 57, 3) := by decide +kernel
theorem dX7_ask_19 : decode cX7_ask 19 = .ok (.ifCond .ne 6, 3) := by decide +kernel
theorem dX7_ask_22 : decode cX7_ask 22 = .ok (.ldc 61, 2) := by decide +kernel
theorem dX7_ask_24 : decode cX7_ask 24 = .ok (.ireturn, 1) := by decide +kernel
theorem dX7_ask_25 : decode cX7_ask 25 = .ok (.aload_n 0, 1) := by decide +kernel
theorem dX7_ask_26 : decode cX7_ask 26 = .ok (.getfield 32, 3) := by decide +kernel
theorem dX7_ask_29 : decode cX7_ask 29 = .ok (.iconst 0, 1) := by decide +kernel
theorem dX7_ask_30 : decode cX7_ask 30 = .ok (.putfield 302, 3) := by decide +kernel
theorem dX7_ask_33 : decode cX7_ask 33 = .ok (.aload_n 3, 1) := by decide +kernel
theorem dX7_ask_34 : decode cX7_ask 34 = .ok (.getfield 296, 3) := by decide +kernel
theorem dX7_ask_37 : decode cX7_ask 37 = .ok (.iload_n 2, 1) := by decide +kernel
theorem dX7_ask_38 : decode cX7_ask 38 = .ok (.invokestatic 303, 3) := by decide +kernel
theorem dX7_ask_41 : decode cX7_ask 41 = .ok (.aload_n 3, 1) := by decide +kernel
theorem dX7_ask_42 : decode cX7_ask 42 = .ok (.aload_n 0, 1) := by decide +kernel
theorem dX7_ask_43 : decode cX7_ask 43 = .ok (.getfield 32, 3) := by decide +kernel
theorem dX7_ask_46 : decode cX7_ask 46 = .ok (.iconst 0, 1) := by decide +kernel
theorem dX7_ask_47 : decode cX7_ask 47 = .ok (.invokestatic 306, 3) := by decide +kernel
theorem dX7_ask_50 : decode cX7_ask 50 = .ok (.ireturn, 1) := by decide +kernel
theorem dX7_trace_0 : decode cX7_trace 0 = .ok (.aload_n 0, 1) := by decide +kernel
theorem dX7_trace_1 : decode cX7_trace 1 = .ok (.getfield 32, 3) := by decide +kernel
theorem dX7_trace_4 : decode cX7_trace 4 = .ok (.iload_n 1, 1) := by decide +kernel
theorem dX7_trace_5 : decode cX7_trace 5 = .ok (.invokevirtual 310, 3) := by decide +kernel
theorem dX7_trace_8 : decode cX7_trace 8 = .ok (.ireturn, 1) := by decide +kernel
theorem dX7_count_0 : decode cX7_count 0 = .ok (.iload_n 1, 1) := by decide +kernel
theorem dX7_count_1 : decode cX7_count 1 = .ok (.tableswitch 108 0 7 #[47, 52, 60, 68, 76, 84, 92, 100], 47) := by decide +kernel
theorem dX7_count_48 : decode cX7_count 48 = .ok (.aload_n 0, 1) := by decide +kernel
theorem dX7_count_49 : decode cX7_count 49 = .ok (.invokevirtual 313, 3) := by decide +kernel
theorem dX7_count_52 : decode cX7_count 52 = .ok (.ireturn, 1) := by decide +kernel
theorem dX7_count_53 : decode cX7_count 53 = .ok (.aload_n 0, 1) := by decide +kernel
theorem dX7_count_54 : decode cX7_count 54 = .ok (.getfield 39, 3) := by decide +kernel
theorem dX7_count_57 : decode cX7_count 57 = .ok (.getfield 129, 3) := by decide +kernel
theorem dX7_count_60 : decode cX7_count 60 = .ok (.ireturn, 1) := by decide +kernel
theorem dX7_count_61 : decode cX7_count 61 = .ok (.aload_n 0, 1) := by decide +kernel
theorem dX7_count_62 : decode cX7_count 62 = .ok (.getfield 39, 3) := by decide +kernel
theorem dX7_count_65 : decode cX7_count 65 = .ok (.getfield 238, 3) := by decide +kernel
theorem dX7_count_68 : decode cX7_count 68 = .ok (.ireturn, 1) := by decide +kernel
theorem dX7_count_69 : decode cX7_count 69 = .ok (.aload_n 0, 1) := by decide +kernel
theorem dX7_count_70 : decode cX7_count 70 = .ok (.getfield 39, 3) := by decide +kernel
theorem dX7_count_73 : decode cX7_count 73 = .ok (.getfield 143, 3) := by decide +kernel
theorem dX7_count_76 : decode cX7_count 76 = .ok (.ireturn, 1) := by decide +kernel
theorem dX7_count_77 : decode cX7_count 77 = .ok (.aload_n 0, 1) := by decide +kernel
theorem dX7_count_78 : decode cX7_count 78 = .ok (.getfield 39, 3) := by decide +kernel
theorem dX7_count_81 : decode cX7_count 81 = .ok (.invokevirtual 214, 3) := by decide +kernel
theorem dX7_count_84 : decode cX7_count 84 = .ok (.ireturn, 1) := by decide +kernel
theorem dX7_count_85 : decode cX7_count 85 = .ok (.aload_n 0, 1) := by decide +kernel
theorem dX7_count_86 : decode cX7_count 86 = .ok (.getfield 39, 3) := by decide +kernel
theorem dX7_count_89 : decode cX7_count 89 = .ok (.invokevirtual 286, 3) := by decide +kernel
theorem dX7_count_92 : decode cX7_count 92 = .ok (.ireturn, 1) := by decide +kernel
theorem dX7_count_93 : decode cX7_count 93 = .ok (.aload_n 0, 1) := by decide +kernel
theorem dX7_count_94 : decode cX7_count 94 = .ok (.getfield 25, 3) := by decide +kernel
theorem dX7_count_97 : decode cX7_count 97 = .ok (.getfield 135, 3) := by decide +kernel
theorem dX7_count_100 : decode cX7_count 100 = .ok (.ireturn, 1) := by decide +kernel
theorem dX7_count_101 : decode cX7_count 101 = .ok (.aload_n 0, 1) := by decide +kernel
theorem dX7_count_102 : decode cX7_count 102 = .ok (.getfield 18, 3) := by decide +kernel
theorem dX7_count_105 : decode cX7_count 105 = .ok (.getfield 106, 3) := by decide +kernel
theorem dX7_count_108 : decode cX7_count 108 = .ok (.ireturn, 1) := by decide +kernel
theorem dX7_count_109 : decode cX7_count 109 = .ok (.ldc 61, 2) := by decide +kernel
theorem dX7_count_111 : decode cX7_count 111 = .ok (.ireturn, 1) := by decide +kernel
theorem dX7_status_0 : decode cX7_status 0 = .ok (.aload_n 0, 1) := by decide +kernel
theorem dX7_status_1 : decode cX7_status 1 = .ok (.getfield 66, 3) := by decide +kernel
theorem dX7_status_4 : decode cX7_status 4 = .ok (.ireturn, 1) := by decide +kernel
theorem dX7_isWithin_0 : decode cX7_isWithin 0 = .ok (.iload_n 0, 1) := by decide +kernel
theorem dX7_isWithin_1 : decode cX7_isWithin 1 = .ok (.iload_n 1, 1) := by decide +kernel
theorem dX7_isWithin_2 : decode cX7_isWithin 2 = .ok (.if_icmp .lt 12, 3) := by decide +kernel
theorem dX7_isWithin_5 : decode cX7_isWithin 5 = .ok (.iload_n 0, 1) := by decide +kernel
theorem dX7_isWithin_6 : decode cX7_isWithin 6 = .ok (.iload_n 2, 1) := by decide +kernel
theorem dX7_isWithin_7 : decode cX7_isWithin 7 = .ok (.if_icmp .gt 7, 3) := by decide +kernel
theorem dX7_isWithin_10 : decode cX7_isWithin 10 = .ok (.iconst 1, 1) := by decide +kernel
theorem dX7_isWithin_11 : decode cX7_isWithin 11 = .ok (.goto 4, 3) := by decide +kernel
theorem dX7_isWithin_14 : decode cX7_isWithin 14 = .ok (.iconst 0, 1) := by decide +kernel
theorem dX7_isWithin_15 : decode cX7_isWithin 15 = .ok (.ireturn, 1) := by decide +kernel
theorem dX7_found_0 : decode cX7_found 0 = .ok (.aload_n 0, 1) := by decide +kernel
theorem dX7_found_1 : decode cX7_found 1 = .ok (.iload_n 1, 1) := by decide +kernel
theorem dX7_found_2 : decode cX7_found 2 = .ok (.putfield 66, 3) := by decide +kernel
theorem dX7_found_5 : decode cX7_found 5 = .ok (.ldc_w 316, 3) := by decide +kernel
theorem dX7_found_8 : decode cX7_found 8 = .ok (.iload_n 1, 1) := by decide +kernel
theorem dX7_found_9 : decode cX7_found 9 = .ok (.isub, 1) := by decide +kernel
theorem dX7_found_10 : decode cX7_found 10 = .ok (.ireturn, 1) := by decide +kernel
theorem dX7_rowAt_0 : decode cX7_rowAt 0 = .ok (.iload_n 1, 1) := by decide +kernel
theorem dX7_rowAt_1 : decode cX7_rowAt 1 = .ok (.ifCond .lt 21, 3) := by decide +kernel
theorem dX7_rowAt_4 : decode cX7_rowAt 4 = .ok (.iload_n 1, 1) := by decide +kernel
theorem dX7_rowAt_5 : decode cX7_rowAt 5 = .ok (.aload_n 0, 1) := by decide +kernel
theorem dX7_rowAt_6 : decode cX7_rowAt 6 = .ok (.getfield 11, 3) := by decide +kernel
theorem dX7_rowAt_9 : decode cX7_rowAt 9 = .ok (.arraylength, 1) := by decide +kernel
theorem dX7_rowAt_10 : decode cX7_rowAt 10 = .ok (.if_icmp .ge 12, 3) := by decide +kernel
theorem dX7_rowAt_13 : decode cX7_rowAt 13 = .ok (.aload_n 0, 1) := by decide +kernel
theorem dX7_rowAt_14 : decode cX7_rowAt 14 = .ok (.getfield 11, 3) := by decide +kernel
theorem dX7_rowAt_17 : decode cX7_rowAt 17 = .ok (.iload_n 1, 1) := by decide +kernel
theorem dX7_rowAt_18 : decode cX7_rowAt 18 = .ok (.aaload, 1) := by decide +kernel
theorem dX7_rowAt_19 : decode cX7_rowAt 19 = .ok (.goto 4, 3) := by decide +kernel
theorem dX7_rowAt_22 : decode cX7_rowAt 22 = .ok (.aconst_null, 1) := by decide +kernel
theorem dX7_rowAt_23 : decode cX7_rowAt 23 = .ok (.areturn, 1) := by decide +kernel
theorem dX7_rowsThere_0 : decode cX7_rowsThere 0 = .ok (.iconst 0, 1) := by decide +kernel
theorem dX7_rowsThere_1 : decode cX7_rowsThere 1 = .ok (.istore_n 1, 1) := by decide +kernel
theorem dX7_rowsThere_2 : decode cX7_rowsThere 2 = .ok (.aload_n 0, 1) := by decide +kernel
theorem dX7_rowsThere_3 : decode cX7_rowsThere 3 = .ok (.getfield 11, 3) := by decide +kernel
theorem dX7_rowsThere_6 : decode cX7_rowsThere 6 = .ok (.astore_n 2, 1) := by decide +kernel
theorem dX7_rowsThere_7 : decode cX7_rowsThere 7 = .ok (.aload_n 2, 1) := by decide +kernel
theorem dX7_rowsThere_8 : decode cX7_rowsThere 8 = .ok (.arraylength, 1) := by decide +kernel
theorem dX7_rowsThere_9 : decode cX7_rowsThere 9 = .ok (.istore_n 3, 1) := by decide +kernel
theorem dX7_rowsThere_10 : decode cX7_rowsThere 10 = .ok (.iconst 0, 1) := by decide +kernel
theorem dX7_rowsThere_11 : decode cX7_rowsThere 11 = .ok (.istore 4, 2) := by decide +kernel
theorem dX7_rowsThere_13 : decode cX7_rowsThere 13 = .ok (.iload 4, 2) := by decide +kernel
theorem dX7_rowsThere_15 : decode cX7_rowsThere 15 = .ok (.iload_n 3, 1) := by decide +kernel
theorem dX7_rowsThere_16 : decode cX7_rowsThere 16 = .ok (.if_icmp .ge 31, 3) := by decide +kernel
theorem dX7_rowsThere_19 : decode cX7_rowsThere 19 = .ok (.aload_n 2, 1) := by decide +kernel
theorem dX7_rowsThere_20 : decode cX7_rowsThere 20 = .ok (.iload 4, 2) := by decide +kernel
theorem dX7_rowsThere_22 : decode cX7_rowsThere 22 = .ok (.aaload, 1) := by decide +kernel
theorem dX7_rowsThere_23 : decode cX7_rowsThere 23 = .ok (.astore 5, 2) := by decide +kernel
theorem dX7_rowsThere_25 : decode cX7_rowsThere 25 = .ok (.iload_n 1, 1) := by decide +kernel
theorem dX7_rowsThere_26 : decode cX7_rowsThere 26 = .ok (.aload 5, 2) := by decide +kernel
theorem dX7_rowsThere_28 : decode cX7_rowsThere 28 = .ok (.getfield 74, 3) := by decide +kernel
theorem dX7_rowsThere_31 : decode cX7_rowsThere 31 = .ok (.ifCond .eq 7, 3) := by decide +kernel
theorem dX7_rowsThere_34 : decode cX7_rowsThere 34 = .ok (.iconst 1, 1) := by decide +kernel
theorem dX7_rowsThere_35 : decode cX7_rowsThere 35 = .ok (.goto 4, 3) := by decide +kernel
theorem dX7_rowsThere_38 : decode cX7_rowsThere 38 = .ok (.iconst 0, 1) := by decide +kernel
theorem dX7_rowsThere_39 : decode cX7_rowsThere 39 = .ok (.iadd, 1) := by decide +kernel
theorem dX7_rowsThere_40 : decode cX7_rowsThere 40 = .ok (.istore_n 1, 1) := by decide +kernel
theorem dX7_rowsThere_41 : decode cX7_rowsThere 41 = .ok (.iinc 4 1, 3) := by decide +kernel
theorem dX7_rowsThere_44 : decode cX7_rowsThere 44 = .ok (.goto (-31), 3) := by decide +kernel
theorem dX7_rowsThere_47 : decode cX7_rowsThere 47 = .ok (.iload_n 1, 1) := by decide +kernel
theorem dX7_rowsThere_48 : decode cX7_rowsThere 48 = .ok (.ireturn, 1) := by decide +kernel
theorem dX7_imageAt_0 : decode cX7_imageAt 0 = .ok (.iload_n 1, 1) := by decide +kernel
theorem dX7_imageAt_1 : decode cX7_imageAt 1 = .ok (.ifCond .ne 10, 3) := by decide +kernel
theorem dX7_imageAt_4 : decode cX7_imageAt 4 = .ok (.aload_n 0, 1) := by decide +kernel
theorem dX7_imageAt_5 : decode cX7_imageAt 5 = .ok (.getfield 46, 3) := by decide +kernel
theorem dX7_imageAt_8 : decode cX7_imageAt 8 = .ok (.goto 16, 3) := by decide +kernel
theorem dX7_imageAt_11 : decode cX7_imageAt 11 = .ok (.iload_n 1, 1) := by decide +kernel
theorem dX7_imageAt_12 : decode cX7_imageAt 12 = .ok (.iconst 1, 1) := by decide +kernel
theorem dX7_imageAt_13 : decode cX7_imageAt 13 = .ok (.if_icmp .ne 10, 3) := by decide +kernel
theorem dX7_imageAt_16 : decode cX7_imageAt 16 = .ok (.aload_n 0, 1) := by decide +kernel
theorem dX7_imageAt_17 : decode cX7_imageAt 17 = .ok (.getfield 49, 3) := by decide +kernel
theorem dX7_imageAt_20 : decode cX7_imageAt 20 = .ok (.goto 4, 3) := by decide +kernel
theorem dX7_imageAt_23 : decode cX7_imageAt 23 = .ok (.aconst_null, 1) := by decide +kernel
theorem dX7_imageAt_24 : decode cX7_imageAt 24 = .ok (.areturn, 1) := by decide +kernel
theorem dX7_fewest_0 : decode cX7_fewest 0 = .ok (.iconst 0, 1) := by decide +kernel
theorem dX7_fewest_1 : decode cX7_fewest 1 = .ok (.istore 5, 2) := by decide +kernel
theorem dX7_fewest_3 : decode cX7_fewest 3 = .ok (.iload 5, 2) := by decide +kernel
theorem dX7_fewest_5 : decode cX7_fewest 5 = .ok (.bipush 7, 2) := by decide +kernel
theorem dX7_fewest_7 : decode cX7_fewest 7 = .ok (.if_icmp .gt 100, 3) := by decide +kernel
theorem dX7_fewest_10 : decode cX7_fewest 10 = .ok (.iconst 0, 1) := by decide +kernel
theorem dX7_fewest_11 : decode cX7_fewest 11 = .ok (.istore 6, 2) := by decide +kernel
theorem dX7_fewest_13 : decode cX7_fewest 13 = .ok (.iload 6, 2) := by decide +kernel
theorem dX7_fewest_15 : decode cX7_fewest 15 = .ok (.iload_n 1, 1) := by decide +kernel
theorem dX7_fewest_16 : decode cX7_fewest 16 = .ok (.if_icmp .gt 85, 3) := by decide +kernel
theorem dX7_fewest_19 : decode cX7_fewest 19 = .ok (.iload 6, 2) := by decide +kernel
theorem dX7_fewest_21 : decode cX7_fewest 21 = .ok (.invokestatic 233, 3) := by decide +kernel
theorem dX7_fewest_24 : decode cX7_fewest 24 = .ok (.iload 5, 2) := by decide +kernel
theorem dX7_fewest_26 : decode cX7_fewest 26 = .ok (.if_icmp .ne 69, 3) := by decide +kernel
theorem dX7_fewest_29 : decode cX7_fewest 29 = .ok (.iload 6, 2) := by decide +kernel
theorem dX7_fewest_31 : decode cX7_fewest 31 = .ok (.iload_n 1, 1) := by decide +kernel
theorem dX7_fewest_32 : decode cX7_fewest 32 = .ok (.iconst (-1), 1) := by decide +kernel
theorem dX7_fewest_33 : decode cX7_fewest 33 = .ok (.ixor, 1) := by decide +kernel
theorem dX7_fewest_34 : decode cX7_fewest 34 = .ok (.iand, 1) := by decide +kernel
theorem dX7_fewest_35 : decode cX7_fewest 35 = .ok (.ifCond .eq 6, 3) := by decide +kernel
theorem dX7_fewest_38 : decode cX7_fewest 38 = .ok (.goto 57, 3) := by decide +kernel
theorem dX7_fewest_41 : decode cX7_fewest 41 = .ok (.aload_n 0, 1) := by decide +kernel
theorem dX7_fewest_42 : decode cX7_fewest 42 = .ok (.getfield 43, 3) := by decide +kernel
theorem dX7_fewest_45 : decode cX7_fewest 45 = .ok (.aload_n 0, 1) := by decide +kernel
theorem dX7_fewest_46 : decode cX7_fewest 46 = .ok (.getfield 39, 3) := by decide +kernel
theorem dX7_fewest_49 : decode cX7_fewest 49 = .ok (.invokevirtual 122, 3) := by decide +kernel
theorem dX7_fewest_52 : decode cX7_fewest 52 = .ok (.iload_n 2, 1) := by decide +kernel
theorem dX7_fewest_53 : decode cX7_fewest 53 = .ok (.ifCond .eq 17, 3) := by decide +kernel
theorem dX7_fewest_56 : decode cX7_fewest 56 = .ok (.aload_n 0, 1) := by decide +kernel
theorem dX7_fewest_57 : decode cX7_fewest 57 = .ok (.getfield 43, 3) := by decide +kernel
theorem dX7_fewest_60 : decode cX7_fewest 60 = .ok (.iload 6, 2) := by decide +kernel
theorem dX7_fewest_62 : decode cX7_fewest 62 = .ok (.iload 4, 2) := by decide +kernel
theorem dX7_fewest_64 : decode cX7_fewest 64 = .ok (.invokevirtual 241, 3) := by decide +kernel
theorem dX7_fewest_67 : decode cX7_fewest 67 = .ok (.goto 12, 3) := by decide +kernel
theorem dX7_fewest_70 : decode cX7_fewest 70 = .ok (.aload_n 0, 1) := by decide +kernel
theorem dX7_fewest_71 : decode cX7_fewest 71 = .ok (.getfield 43, 3) := by decide +kernel
theorem dX7_fewest_74 : decode cX7_fewest 74 = .ok (.iload 6, 2) := by decide +kernel
theorem dX7_fewest_76 : decode cX7_fewest 76 = .ok (.invokevirtual 317, 3) := by decide +kernel
theorem dX7_fewest_79 : decode cX7_fewest 79 = .ok (.aload_n 0, 1) := by decide +kernel
theorem dX7_fewest_80 : decode cX7_fewest 80 = .ok (.getfield 43, 3) := by decide +kernel
theorem dX7_fewest_83 : decode cX7_fewest 83 = .ok (.iload_n 3, 1) := by decide +kernel
theorem dX7_fewest_84 : decode cX7_fewest 84 = .ok (.iload 4, 2) := by decide +kernel
theorem dX7_fewest_86 : decode cX7_fewest 86 = .ok (.invokevirtual 320, 3) := by decide +kernel
theorem dX7_fewest_89 : decode cX7_fewest 89 = .ok (.ifCond .eq 6, 3) := by decide +kernel
theorem dX7_fewest_92 : decode cX7_fewest 92 = .ok (.iload 6, 2) := by decide +kernel
theorem dX7_fewest_94 : decode cX7_fewest 94 = .ok (.ireturn, 1) := by decide +kernel
theorem dX7_fewest_95 : decode cX7_fewest 95 = .ok (.iinc 6 1, 3) := by decide +kernel
theorem dX7_fewest_98 : decode cX7_fewest 98 = .ok (.goto (-85), 3) := by decide +kernel
theorem dX7_fewest_101 : decode cX7_fewest 101 = .ok (.iinc 5 1, 3) := by decide +kernel
theorem dX7_fewest_104 : decode cX7_fewest 104 = .ok (.goto (-101), 3) := by decide +kernel
theorem dX7_fewest_107 : decode cX7_fewest 107 = .ok (.ldc 202, 2) := by decide +kernel
theorem dX7_fewest_109 : decode cX7_fewest 109 = .ok (.ireturn, 1) := by decide +kernel
theorem dX7_leftByBait_0 : decode cX7_leftByBait 0 = .ok (.aload_n 0, 1) := by decide +kernel
theorem dX7_leftByBait_1 : decode cX7_leftByBait 1 = .ok (.getfield 43, 3) := by decide +kernel
theorem dX7_leftByBait_4 : decode cX7_leftByBait 4 = .ok (.aload_n 0, 1) := by decide +kernel
theorem dX7_leftByBait_5 : decode cX7_leftByBait 5 = .ok (.getfield 39, 3) := by decide +kernel
theorem dX7_leftByBait_8 : decode cX7_leftByBait 8 = .ok (.invokevirtual 122, 3) := by decide +kernel
theorem dX7_leftByBait_11 : decode cX7_leftByBait 11 = .ok (.aload_n 0, 1) := by decide +kernel
theorem dX7_leftByBait_12 : decode cX7_leftByBait 12 = .ok (.getfield 43, 3) := by decide +kernel
theorem dX7_leftByBait_15 : decode cX7_leftByBait 15 = .ok (.iload_n 1, 1) := by decide +kernel
theorem dX7_leftByBait_16 : decode cX7_leftByBait 16 = .ok (.invokevirtual 153, 3) := by decide +kernel
theorem dX7_leftByBait_19 : decode cX7_leftByBait 19 = .ok (.astore 4, 2) := by decide +kernel
theorem dX7_leftByBait_21 : decode cX7_leftByBait 21 = .ok (.aload_n 0, 1) := by decide +kernel
theorem dX7_leftByBait_22 : decode cX7_leftByBait 22 = .ok (.getfield 43, 3) := by decide +kernel
theorem dX7_leftByBait_25 : decode cX7_leftByBait 25 = .ok (.iload_n 2, 1) := by decide +kernel
theorem dX7_leftByBait_26 : decode cX7_leftByBait 26 = .ok (.invokevirtual 153, 3) := by decide +kernel
theorem dX7_leftByBait_29 : decode cX7_leftByBait 29 = .ok (.astore 5, 2) := by decide +kernel
theorem dX7_leftByBait_31 : decode cX7_leftByBait 31 = .ok (.aload 4, 2) := by decide +kernel
theorem dX7_leftByBait_33 : decode cX7_leftByBait 33 = .ok (.ifnull 16, 3) := by decide +kernel
theorem dX7_leftByBait_36 : decode cX7_leftByBait 36 = .ok (.aload 5, 2) := by decide +kernel
theorem dX7_leftByBait_38 : decode cX7_leftByBait 38 = .ok (.ifnull 11, 3) := by decide +kernel
theorem dX7_leftByBait_41 : decode cX7_leftByBait 41 = .ok (.aload 5, 2) := by decide +kernel
theorem dX7_leftByBait_43 : decode cX7_leftByBait 43 = .ok (.invokevirtual 157, 3) := by decide +kernel
theorem dX7_leftByBait_46 : decode cX7_leftByBait 46 = .ok (.ifCond .eq 6, 3) := by decide +kernel
theorem dX7_leftByBait_49 : decode cX7_leftByBait 49 = .ok (.ldc 202, 2) := by decide +kernel
theorem dX7_leftByBait_51 : decode cX7_leftByBait 51 = .ok (.ireturn, 1) := by decide +kernel
theorem dX7_leftByBait_52 : decode cX7_leftByBait 52 = .ok (.aload 5, 2) := by decide +kernel
theorem dX7_leftByBait_54 : decode cX7_leftByBait 54 = .ok (.bipush 19, 2) := by decide +kernel
theorem dX7_leftByBait_56 : decode cX7_leftByBait 56 = .ok (.putfield 165, 3) := by decide +kernel
theorem dX7_leftByBait_59 : decode cX7_leftByBait 59 = .ok (.aload_n 0, 1) := by decide +kernel
theorem dX7_leftByBait_60 : decode cX7_leftByBait 60 = .ok (.getfield 43, 3) := by decide +kernel
theorem dX7_leftByBait_63 : decode cX7_leftByBait 63 = .ok (.iload_n 3, 1) := by decide +kernel
theorem dX7_leftByBait_64 : decode cX7_leftByBait 64 = .ok (.invokevirtual 210, 3) := by decide +kernel
theorem dX7_leftByBait_67 : decode cX7_leftByBait 67 = .ok (.aload 4, 2) := by decide +kernel
theorem dX7_leftByBait_69 : decode cX7_leftByBait 69 = .ok (.getfield 168, 3) := by decide +kernel
theorem dX7_leftByBait_72 : decode cX7_leftByBait 72 = .ok (.ireturn, 1) := by decide +kernel
theorem dX7_standingInWind_0 : decode cX7_standingInWind 0 = .ok (.aload_n 0, 1) := by decide +kernel
theorem dX7_standingInWind_1 : decode cX7_standingInWind 1 = .ok (.getfield 43, 3) := by decide +kernel
theorem dX7_standingInWind_4 : decode cX7_standingInWind 4 = .ok (.aload_n 0, 1) := by decide +kernel
theorem dX7_standingInWind_5 : decode cX7_standingInWind 5 = .ok (.getfield 39, 3) := by decide +kernel
theorem dX7_standingInWind_8 : decode cX7_standingInWind 8 = .ok (.invokevirtual 122, 3) := by decide +kernel
theorem dX7_standingInWind_11 : decode cX7_standingInWind 11 = .ok (.aload_n 0, 1) := by decide +kernel
theorem dX7_standingInWind_12 : decode cX7_standingInWind 12 = .ok (.getfield 43, 3) := by decide +kernel
theorem dX7_standingInWind_15 : decode cX7_standingInWind 15 = .ok (.iload_n 1, 1) := by decide +kernel
theorem dX7_standingInWind_16 : decode cX7_standingInWind 16 = .ok (.invokevirtual 323, 3) := by decide +kernel
theorem dX7_standingInWind_19 : decode cX7_standingInWind 19 = .ok (.aload_n 0, 1) := by decide +kernel
theorem dX7_standingInWind_20 : decode cX7_standingInWind 20 = .ok (.getfield 43, 3) := by decide +kernel
theorem dX7_standingInWind_23 : decode cX7_standingInWind 23 = .ok (.invokevirtual 149, 3) := by decide +kernel
theorem dX7_standingInWind_26 : decode cX7_standingInWind 26 = .ok (.pop, 1) := by decide +kernel
theorem dX7_standingInWind_27 : decode cX7_standingInWind 27 = .ok (.aload_n 0, 1) := by decide +kernel
theorem dX7_standingInWind_28 : decode cX7_standingInWind 28 = .ok (.getfield 43, 3) := by decide +kernel
theorem dX7_standingInWind_31 : decode cX7_standingInWind 31 = .ok (.invokevirtual 214, 3) := by decide +kernel
theorem dX7_standingInWind_34 : decode cX7_standingInWind 34 = .ok (.invokestatic 233, 3) := by decide +kernel
theorem dX7_standingInWind_37 : decode cX7_standingInWind 37 = .ok (.ireturn, 1) := by decide +kernel
theorem dX7_power_0 : decode cX7_power 0 = .ok (.lconst 1, 1) := by decide +kernel
theorem dX7_power_1 : decode cX7_power 1 = .ok (.lstore_n 2, 1) := by decide +kernel
theorem dX7_power_2 : decode cX7_power 2 = .ok (.iconst 0, 1) := by decide +kernel
theorem dX7_power_3 : decode cX7_power 3 = .ok (.istore 4, 2) := by decide +kernel
theorem dX7_power_5 : decode cX7_power 5 = .ok (.iload 4, 2) := by decide +kernel
theorem dX7_power_7 : decode cX7_power 7 = .ok (.iload_n 1, 1) := by decide +kernel
theorem dX7_power_8 : decode cX7_power 8 = .ok (.if_icmp .ge 14, 3) := by decide +kernel
theorem dX7_power_11 : decode cX7_power 11 = .ok (.lload_n 2, 1) := by decide +kernel
theorem dX7_power_12 : decode cX7_power 12 = .ok (.iload_n 0, 1) := by decide +kernel
theorem dX7_power_13 : decode cX7_power 13 = .ok (.i2l, 1) := by decide +kernel
theorem dX7_power_14 : decode cX7_power 14 = .ok (.lmul, 1) := by decide +kernel
theorem dX7_power_15 : decode cX7_power 15 = .ok (.lstore_n 2, 1) := by decide +kernel
theorem dX7_power_16 : decode cX7_power 16 = .ok (.iinc 4 1, 3) := by decide +kernel
theorem dX7_power_19 : decode cX7_power 19 = .ok (.goto (-14), 3) := by decide +kernel
theorem dX7_power_22 : decode cX7_power 22 = .ok (.lload_n 2, 1) := by decide +kernel
theorem dX7_power_23 : decode cX7_power 23 = .ok (.lreturn, 1) := by decide +kernel
theorem dX7_commonDivisor_0 : decode cX7_commonDivisor 0 = .ok (.lload_n 0, 1) := by decide +kernel
theorem dX7_commonDivisor_1 : decode cX7_commonDivisor 1 = .ok (.lstore 4, 2) := by decide +kernel
theorem dX7_commonDivisor_3 : decode cX7_commonDivisor 3 = .ok (.lload_n 2, 1) := by decide +kernel
theorem dX7_commonDivisor_4 : decode cX7_commonDivisor 4 = .ok (.lstore 6, 2) := by decide +kernel
theorem dX7_commonDivisor_6 : decode cX7_commonDivisor 6 = .ok (.iconst 0, 1) := by decide +kernel
theorem dX7_commonDivisor_7 : decode cX7_commonDivisor 7 = .ok (.istore 8, 2) := by decide +kernel
theorem dX7_commonDivisor_9 : decode cX7_commonDivisor 9 = .ok (.iload 8, 2) := by decide +kernel
theorem dX7_commonDivisor_11 : decode cX7_commonDivisor 11 = .ok (.bipush 100, 2) := by decide +kernel
theorem dX7_commonDivisor_13 : decode cX7_commonDivisor 13 = .ok (.if_icmp .ge 31, 3) := by decide +kernel
theorem dX7_commonDivisor_16 : decode cX7_commonDivisor 16 = .ok (.lload 6, 2) := by decide +kernel
theorem dX7_commonDivisor_18 : decode cX7_commonDivisor 18 = .ok (.lconst 0, 1) := by decide +kernel
theorem dX7_commonDivisor_19 : decode cX7_commonDivisor 19 = .ok (.lcmp, 1) := by decide +kernel
theorem dX7_commonDivisor_20 : decode cX7_commonDivisor 20 = .ok (.ifCond .eq 24, 3) := by decide +kernel
theorem dX7_commonDivisor_23 : decode cX7_commonDivisor 23 = .ok (.lload 4, 2) := by decide +kernel
theorem dX7_commonDivisor_25 : decode cX7_commonDivisor 25 = .ok (.lload 6, 2) := by decide +kernel
theorem dX7_commonDivisor_27 : decode cX7_commonDivisor 27 = .ok (.lrem, 1) := by decide +kernel
theorem dX7_commonDivisor_28 : decode cX7_commonDivisor 28 = .ok (.lstore 9, 2) := by decide +kernel
theorem dX7_commonDivisor_30 : decode cX7_commonDivisor 30 = .ok (.lload 6, 2) := by decide +kernel
theorem dX7_commonDivisor_32 : decode cX7_commonDivisor 32 = .ok (.lstore 4, 2) := by decide +kernel
theorem dX7_commonDivisor_34 : decode cX7_commonDivisor 34 = .ok (.lload 9, 2) := by decide +kernel
theorem dX7_commonDivisor_36 : decode cX7_commonDivisor 36 = .ok (.lstore 6, 2) := by decide +kernel
theorem dX7_commonDivisor_38 : decode cX7_commonDivisor 38 = .ok (.iinc 8 1, 3) := by decide +kernel
theorem dX7_commonDivisor_41 : decode cX7_commonDivisor 41 = .ok (.goto (-32), 3) := by decide +kernel
theorem dX7_commonDivisor_44 : decode cX7_commonDivisor 44 = .ok (.lload 4, 2) := by decide +kernel
theorem dX7_commonDivisor_46 : decode cX7_commonDivisor 46 = .ok (.lreturn, 1) := by decide +kernel
theorem dX7_broader_0 : decode cX7_broader 0 = .ok (.iload_n 0, 1) := by decide +kernel
theorem dX7_broader_1 : decode cX7_broader 1 = .ok (.tableswitch 35 2 5 #[31, 31, 35, 33], 31) := by decide +kernel
theorem dX7_broader_32 : decode cX7_broader 32 = .ok (.iconst 1, 1) := by decide +kernel
theorem dX7_broader_33 : decode cX7_broader 33 = .ok (.ireturn, 1) := by decide +kernel
theorem dX7_broader_34 : decode cX7_broader 34 = .ok (.iconst 4, 1) := by decide +kernel
theorem dX7_broader_35 : decode cX7_broader 35 = .ok (.ireturn, 1) := by decide +kernel
theorem dX7_broader_36 : decode cX7_broader 36 = .ok (.iconst 0, 1) := by decide +kernel
theorem dX7_broader_37 : decode cX7_broader 37 = .ok (.ireturn, 1) := by decide +kernel
theorem dX7_bodyOf_0 : decode cX7_bodyOf 0 = .ok (.iload_n 0, 1) := by decide +kernel
theorem dX7_bodyOf_1 : decode cX7_bodyOf 1 = .ok (.tableswitch 95 1 5 #[35, 47, 59, 71, 83], 35) := by decide +kernel
theorem dX7_bodyOf_36 : decode cX7_bodyOf 36 = .ok (.iload_n 1, 1) := by decide +kernel
theorem dX7_bodyOf_37 : decode cX7_bodyOf 37 = .ok (.ifCond .ne 8, 3) := by decide +kernel
theorem dX7_bodyOf_40 : decode cX7_bodyOf 40 = .ok (.bipush 11, 2) := by decide +kernel
theorem dX7_bodyOf_42 : decode cX7_bodyOf 42 = .ok (.goto 5, 3) := by decide +kernel
theorem dX7_bodyOf_45 : decode cX7_bodyOf 45 = .ok (.bipush 21, 2) := by decide +kernel
theorem dX7_bodyOf_47 : decode cX7_bodyOf 47 = .ok (.ireturn, 1) := by decide +kernel
theorem dX7_bodyOf_48 : decode cX7_bodyOf 48 = .ok (.iload_n 1, 1) := by decide +kernel
theorem dX7_bodyOf_49 : decode cX7_bodyOf 49 = .ok (.ifCond .ne 8, 3) := by decide +kernel
theorem dX7_bodyOf_52 : decode cX7_bodyOf 52 = .ok (.bipush 12, 2) := by decide +kernel
theorem dX7_bodyOf_54 : decode cX7_bodyOf 54 = .ok (.goto 5, 3) := by decide +kernel
theorem dX7_bodyOf_57 : decode cX7_bodyOf 57 = .ok (.bipush 24, 2) := by decide +kernel
theorem dX7_bodyOf_59 : decode cX7_bodyOf 59 = .ok (.ireturn, 1) := by decide +kernel
theorem dX7_bodyOf_60 : decode cX7_bodyOf 60 = .ok (.iload_n 1, 1) := by decide +kernel
theorem dX7_bodyOf_61 : decode cX7_bodyOf 61 = .ok (.ifCond .ne 8, 3) := by decide +kernel
theorem dX7_bodyOf_64 : decode cX7_bodyOf 64 = .ok (.bipush 11, 2) := by decide +kernel
theorem dX7_bodyOf_66 : decode cX7_bodyOf 66 = .ok (.goto 5, 3) := by decide +kernel
theorem dX7_bodyOf_69 : decode cX7_bodyOf 69 = .ok (.bipush 22, 2) := by decide +kernel
theorem dX7_bodyOf_71 : decode cX7_bodyOf 71 = .ok (.ireturn, 1) := by decide +kernel
theorem dX7_bodyOf_72 : decode cX7_bodyOf 72 = .ok (.iload_n 1, 1) := by decide +kernel
theorem dX7_bodyOf_73 : decode cX7_bodyOf 73 = .ok (.ifCond .ne 8, 3) := by decide +kernel
theorem dX7_bodyOf_76 : decode cX7_bodyOf 76 = .ok (.bipush 13, 2) := by decide +kernel
theorem dX7_bodyOf_78 : decode cX7_bodyOf 78 = .ok (.goto 5, 3) := by decide +kernel
theorem dX7_bodyOf_81 : decode cX7_bodyOf 81 = .ok (.bipush 23, 2) := by decide +kernel
theorem dX7_bodyOf_83 : decode cX7_bodyOf 83 = .ok (.ireturn, 1) := by decide +kernel
theorem dX7_bodyOf_84 : decode cX7_bodyOf 84 = .ok (.iload_n 1, 1) := by decide +kernel
theorem dX7_bodyOf_85 : decode cX7_bodyOf 85 = .ok (.ifCond .ne 8, 3) := by decide +kernel
theorem dX7_bodyOf_88 : decode cX7_bodyOf 88 = .ok (.bipush 14, 2) := by decide +kernel
theorem dX7_bodyOf_90 : decode cX7_bodyOf 90 = .ok (.goto 5, 3) := by decide +kernel
theorem dX7_bodyOf_93 : decode cX7_bodyOf 93 = .ok (.bipush 23, 2) := by decide +kernel
theorem dX7_bodyOf_95 : decode cX7_bodyOf 95 = .ok (.ireturn, 1) := by decide +kernel
theorem dX7_bodyOf_96 : decode cX7_bodyOf 96 = .ok (.iload_n 1, 1) := by decide +kernel
theorem dX7_bodyOf_97 : decode cX7_bodyOf 97 = .ok (.ifCond .ne 8, 3) := by decide +kernel
theorem dX7_bodyOf_100 : decode cX7_bodyOf 100 = .ok (.bipush 10, 2) := by decide +kernel
theorem dX7_bodyOf_102 : decode cX7_bodyOf 102 = .ok (.goto 5, 3) := by decide +kernel
theorem dX7_bodyOf_105 : decode cX7_bodyOf 105 = .ok (.bipush 20, 2) := by decide +kernel
theorem dX7_bodyOf_107 : decode cX7_bodyOf 107 = .ok (.ireturn, 1) := by decide +kernel
theorem dX7_give_0 : decode cX7_give 0 = .ok (.iload_n 3, 1) := by decide +kernel
theorem dX7_give_1 : decode cX7_give 1 = .ok (.bipush 16, 2) := by decide +kernel
theorem dX7_give_3 : decode cX7_give 3 = .ok (.if_icmp .le 5, 3) := by decide +kernel
theorem dX7_give_6 : decode cX7_give 6 = .ok (.iconst 0, 1) := by decide +kernel
theorem dX7_give_7 : decode cX7_give 7 = .ok (.ireturn, 1) := by decide +kernel
theorem dX7_give_8 : decode cX7_give 8 = .ok (.aload_n 2, 1) := by decide +kernel
theorem dX7_give_9 : decode cX7_give 9 = .ok (.iload_n 0, 1) := by decide +kernel
theorem dX7_give_10 : decode cX7_give 10 = .ok (.invokevirtual 326, 3) := by decide +kernel
theorem dX7_give_13 : decode cX7_give 13 = .ok (.iload_n 3, 1) := by decide +kernel
theorem dX7_give_14 : decode cX7_give 14 = .ok (.iconst 1, 1) := by decide +kernel
theorem dX7_give_15 : decode cX7_give 15 = .ok (.iadd, 1) := by decide +kernel
theorem dX7_give_16 : decode cX7_give 16 = .ok (.istore 4, 2) := by decide +kernel
theorem dX7_give_18 : decode cX7_give 18 = .ok (.iload_n 0, 1) := by decide +kernel
theorem dX7_give_19 : decode cX7_give 19 = .ok (.tableswitch 212 10 24 #[73, 78, 104, 115, 128, 212, 212, 212, 212, 212, 140, 145, 160, 174, 200], 73) := by decide +kernel
theorem dX7_give_92 : decode cX7_give 92 = .ok (.aload_n 1, 1) := by decide +kernel
theorem dX7_give_93 : decode cX7_give 93 = .ok (.getfield 171, 3) := by decide +kernel
theorem dX7_give_96 : decode cX7_give 96 = .ok (.ireturn, 1) := by decide +kernel
theorem dX7_give_97 : decode cX7_give 97 = .ok (.bipush 10, 2) := by decide +kernel
theorem dX7_give_99 : decode cX7_give 99 = .ok (.aload_n 1, 1) := by decide +kernel
theorem dX7_give_100 : decode cX7_give 100 = .ok (.aload_n 2, 1) := by decide +kernel
theorem dX7_give_101 : decode cX7_give 101 = .ok (.iload 4, 2) := by decide +kernel
theorem dX7_give_103 : decode cX7_give 103 = .ok (.invokestatic 306, 3) := by decide +kernel
theorem dX7_give_106 : decode cX7_give 106 = .ok (.aload_n 1, 1) := by decide +kernel
theorem dX7_give_107 : decode cX7_give 107 = .ok (.getfield 296, 3) := by decide +kernel
theorem dX7_give_110 : decode cX7_give 110 = .ok (.iconst 1, 1) := by decide +kernel
theorem dX7_give_111 : decode cX7_give 111 = .ok (.invokestatic 303, 3) := by decide +kernel
theorem dX7_give_114 : decode cX7_give 114 = .ok (.aload_n 1, 1) := by decide +kernel
theorem dX7_give_115 : decode cX7_give 115 = .ok (.aload_n 2, 1) := by decide +kernel
theorem dX7_give_116 : decode cX7_give 116 = .ok (.iload 4, 2) := by decide +kernel
theorem dX7_give_118 : decode cX7_give 118 = .ok (.invokestatic 306, 3) := by decide +kernel
theorem dX7_give_121 : decode cX7_give 121 = .ok (.iadd, 1) := by decide +kernel
theorem dX7_give_122 : decode cX7_give 122 = .ok (.ireturn, 1) := by decide +kernel
theorem dX7_give_123 : decode cX7_give 123 = .ok (.bipush 11, 2) := by decide +kernel
theorem dX7_give_125 : decode cX7_give 125 = .ok (.aload_n 1, 1) := by decide +kernel
theorem dX7_give_126 : decode cX7_give 126 = .ok (.aload_n 2, 1) := by decide +kernel
theorem dX7_give_127 : decode cX7_give 127 = .ok (.iload 4, 2) := by decide +kernel
theorem dX7_give_129 : decode cX7_give 129 = .ok (.invokestatic 306, 3) := by decide +kernel
theorem dX7_give_132 : decode cX7_give 132 = .ok (.ineg, 1) := by decide +kernel
theorem dX7_give_133 : decode cX7_give 133 = .ok (.ireturn, 1) := by decide +kernel
theorem dX7_give_134 : decode cX7_give 134 = .ok (.bipush 10, 2) := by decide +kernel
theorem dX7_give_136 : decode cX7_give 136 = .ok (.aload_n 1, 1) := by decide +kernel
theorem dX7_give_137 : decode cX7_give 137 = .ok (.aload_n 2, 1) := by decide +kernel
theorem dX7_give_138 : decode cX7_give 138 = .ok (.iload 4, 2) := by decide +kernel
theorem dX7_give_140 : decode cX7_give 140 = .ok (.invokestatic 306, 3) := by decide +kernel
theorem dX7_give_143 : decode cX7_give 143 = .ok (.bipush 100, 2) := by decide +kernel
theorem dX7_give_145 : decode cX7_give 145 = .ok (.isub, 1) := by decide +kernel
theorem dX7_give_146 : decode cX7_give 146 = .ok (.ireturn, 1) := by decide +kernel
theorem dX7_give_147 : decode cX7_give 147 = .ok (.iconst 2, 1) := by decide +kernel
theorem dX7_give_148 : decode cX7_give 148 = .ok (.bipush 13, 2) := by decide +kernel
theorem dX7_give_150 : decode cX7_give 150 = .ok (.aload_n 1, 1) := by decide +kernel
theorem dX7_give_151 : decode cX7_give 151 = .ok (.aload_n 2, 1) := by decide +kernel
theorem dX7_give_152 : decode cX7_give 152 = .ok (.iload 4, 2) := by decide +kernel
theorem dX7_give_154 : decode cX7_give 154 = .ok (.invokestatic 306, 3) := by decide +kernel
theorem dX7_give_157 : decode cX7_give 157 = .ok (.imul, 1) := by decide +kernel
theorem dX7_give_158 : decode cX7_give 158 = .ok (.ireturn, 1) := by decide +kernel
theorem dX7_give_159 : decode cX7_give 159 = .ok (.aload_n 1, 1) := by decide +kernel
theorem dX7_give_160 : decode cX7_give 160 = .ok (.getfield 203, 3) := by decide +kernel
theorem dX7_give_163 : decode cX7_give 163 = .ok (.ireturn, 1) := by decide +kernel
theorem dX7_give_164 : decode cX7_give 164 = .ok (.bipush 20, 2) := by decide +kernel
theorem dX7_give_166 : decode cX7_give 166 = .ok (.aload_n 1, 1) := by decide +kernel
theorem dX7_give_167 : decode cX7_give 167 = .ok (.aload_n 2, 1) := by decide +kernel
theorem dX7_give_168 : decode cX7_give 168 = .ok (.iload 4, 2) := by decide +kernel
theorem dX7_give_170 : decode cX7_give 170 = .ok (.invokestatic 306, 3) := by decide +kernel
theorem dX7_give_173 : decode cX7_give 173 = .ok (.aload_n 1, 1) := by decide +kernel
theorem dX7_give_174 : decode cX7_give 174 = .ok (.getfield 168, 3) := by decide +kernel
theorem dX7_give_177 : decode cX7_give 177 = .ok (.iadd, 1) := by decide +kernel
theorem dX7_give_178 : decode cX7_give 178 = .ok (.ireturn, 1) := by decide +kernel
theorem dX7_give_179 : decode cX7_give 179 = .ok (.bipush 21, 2) := by decide +kernel
theorem dX7_give_181 : decode cX7_give 181 = .ok (.aload_n 1, 1) := by decide +kernel
theorem dX7_give_182 : decode cX7_give 182 = .ok (.aload_n 2, 1) := by decide +kernel
theorem dX7_give_183 : decode cX7_give 183 = .ok (.iload 4, 2) := by decide +kernel
theorem dX7_give_185 : decode cX7_give 185 = .ok (.invokestatic 306, 3) := by decide +kernel
theorem dX7_give_188 : decode cX7_give 188 = .ok (.sipush 1000, 3) := by decide +kernel
theorem dX7_give_191 : decode cX7_give 191 = .ok (.isub, 1) := by decide +kernel
theorem dX7_give_192 : decode cX7_give 192 = .ok (.ireturn, 1) := by decide +kernel
theorem dX7_give_193 : decode cX7_give 193 = .ok (.bipush 20, 2) := by decide +kernel
theorem dX7_give_195 : decode cX7_give 195 = .ok (.aload_n 1, 1) := by decide +kernel
theorem dX7_give_196 : decode cX7_give 196 = .ok (.aload_n 2, 1) := by decide +kernel
theorem dX7_give_197 : decode cX7_give 197 = .ok (.iload 4, 2) := by decide +kernel
theorem dX7_give_199 : decode cX7_give 199 = .ok (.invokestatic 306, 3) := by decide +kernel
theorem dX7_give_202 : decode cX7_give 202 = .ok (.aload_n 1, 1) := by decide +kernel
theorem dX7_give_203 : decode cX7_give 203 = .ok (.getfield 296, 3) := by decide +kernel
theorem dX7_give_206 : decode cX7_give 206 = .ok (.iconst 0, 1) := by decide +kernel
theorem dX7_give_207 : decode cX7_give 207 = .ok (.invokestatic 303, 3) := by decide +kernel
theorem dX7_give_210 : decode cX7_give 210 = .ok (.aload_n 1, 1) := by decide +kernel
theorem dX7_give_211 : decode cX7_give 211 = .ok (.aload_n 2, 1) := by decide +kernel
theorem dX7_give_212 : decode cX7_give 212 = .ok (.iload 4, 2) := by decide +kernel
theorem dX7_give_214 : decode cX7_give 214 = .ok (.invokestatic 306, 3) := by decide +kernel
theorem dX7_give_217 : decode cX7_give 217 = .ok (.isub, 1) := by decide +kernel
theorem dX7_give_218 : decode cX7_give 218 = .ok (.ireturn, 1) := by decide +kernel
theorem dX7_give_219 : decode cX7_give 219 = .ok (.iconst 2, 1) := by decide +kernel
theorem dX7_give_220 : decode cX7_give 220 = .ok (.bipush 21, 2) := by decide +kernel
theorem dX7_give_222 : decode cX7_give 222 = .ok (.aload_n 1, 1) := by decide +kernel
theorem dX7_give_223 : decode cX7_give 223 = .ok (.aload_n 2, 1) := by decide +kernel
theorem dX7_give_224 : decode cX7_give 224 = .ok (.iload 4, 2) := by decide +kernel
theorem dX7_give_226 : decode cX7_give 226 = .ok (.invokestatic 306, 3) := by decide +kernel
theorem dX7_give_229 : decode cX7_give 229 = .ok (.imul, 1) := by decide +kernel
theorem dX7_give_230 : decode cX7_give 230 = .ok (.ireturn, 1) := by decide +kernel
theorem dX7_give_231 : decode cX7_give 231 = .ok (.iconst 0, 1) := by decide +kernel
theorem dX7_give_232 : decode cX7_give 232 = .ok (.ireturn, 1) := by decide +kernel
theorem dX8_init_0 : decode cX8_init 0 = .ok (.aload_n 0, 1) := by decide +kernel
theorem dX8_init_1 : decode cX8_init 1 = .ok (.invokespecial 1, 3) := by decide +kernel
theorem dX8_init_4 : decode cX8_init 4 = .ok (.aload_n 0, 1) := by decide +kernel
theorem dX8_init_5 : decode cX8_init 5 = .ok (.bipush 8, 2) := by decide +kernel
theorem dX8_init_7 : decode cX8_init 7 = .ok (.newarray .int, 2) := by decide +kernel
theorem dX8_init_9 : decode cX8_init 9 = .ok (.dup, 1) := by decide +kernel
theorem dX8_init_10 : decode cX8_init 10 = .ok (.iconst 0, 1) := by decide +kernel
theorem dX8_init_11 : decode cX8_init 11 = .ok (.iconst (-1), 1) := by decide +kernel
theorem dX8_init_12 : decode cX8_init 12 = .ok (.iastore, 1) := by decide +kernel
theorem dX8_init_13 : decode cX8_init 13 = .ok (.dup, 1) := by decide +kernel
theorem dX8_init_14 : decode cX8_init 14 = .ok (.iconst 1, 1) := by decide +kernel
theorem dX8_init_15 : decode cX8_init 15 = .ok (.iconst (-1), 1) := by decide +kernel
theorem dX8_init_16 : decode cX8_init 16 = .ok (.iastore, 1) := by decide +kernel
theorem dX8_init_17 : decode cX8_init 17 = .ok (.dup, 1) := by decide +kernel
theorem dX8_init_18 : decode cX8_init 18 = .ok (.iconst 2, 1) := by decide +kernel
theorem dX8_init_19 : decode cX8_init 19 = .ok (.iconst (-1), 1) := by decide +kernel
theorem dX8_init_20 : decode cX8_init 20 = .ok (.iastore, 1) := by decide +kernel
theorem dX8_init_21 : decode cX8_init 21 = .ok (.dup, 1) := by decide +kernel
theorem dX8_init_22 : decode cX8_init 22 = .ok (.iconst 3, 1) := by decide +kernel
theorem dX8_init_23 : decode cX8_init 23 = .ok (.iconst (-1), 1) := by decide +kernel
theorem dX8_init_24 : decode cX8_init 24 = .ok (.iastore, 1) := by decide +kernel
theorem dX8_init_25 : decode cX8_init 25 = .ok (.dup, 1) := by decide +kernel
theorem dX8_init_26 : decode cX8_init 26 = .ok (.iconst 4, 1) := by decide +kernel
theorem dX8_init_27 : decode cX8_init 27 = .ok (.iconst (-1), 1) := by decide +kernel
theorem dX8_init_28 : decode cX8_init 28 = .ok (.iastore, 1) := by decide +kernel
theorem dX8_init_29 : decode cX8_init 29 = .ok (.dup, 1) := by decide +kernel
theorem dX8_init_30 : decode cX8_init 30 = .ok (.iconst 5, 1) := by decide +kernel
theorem dX8_init_31 : decode cX8_init 31 = .ok (.iconst (-1), 1) := by decide +kernel
theorem dX8_init_32 : decode cX8_init 32 = .ok (.iastore, 1) := by decide +kernel
theorem dX8_init_33 : decode cX8_init 33 = .ok (.dup, 1) := by decide +kernel
theorem dX8_init_34 : decode cX8_init 34 = .ok (.bipush 6, 2) := by decide +kernel
theorem dX8_init_36 : decode cX8_init 36 = .ok (.iconst (-1), 1) := by decide +kernel
theorem dX8_init_37 : decode cX8_init 37 = .ok (.iastore, 1) := by decide +kernel
theorem dX8_init_38 : decode cX8_init 38 = .ok (.dup, 1) := by decide +kernel
theorem dX8_init_39 : decode cX8_init 39 = .ok (.bipush 7, 2) := by decide +kernel
theorem dX8_init_41 : decode cX8_init 41 = .ok (.iconst (-1), 1) := by decide +kernel
theorem dX8_init_42 : decode cX8_init 42 = .ok (.iastore, 1) := by decide +kernel
theorem dX8_init_43 : decode cX8_init 43 = .ok (.putfield 7, 3) := by decide +kernel
theorem dX8_init_46 : decode cX8_init 46 = .ok (.aload_n 0, 1) := by decide +kernel
theorem dX8_init_47 : decode cX8_init 47 = .ok (.bipush 8, 2) := by decide +kernel
theorem dX8_init_49 : decode cX8_init 49 = .ok (.newarray .int, 2) := by decide +kernel
theorem dX8_init_51 : decode cX8_init 51 = .ok (.putfield 13, 3) := by decide +kernel
theorem dX8_init_54 : decode cX8_init 54 = .ok (.aload_n 0, 1) := by decide +kernel
theorem dX8_init_55 : decode cX8_init 55 = .ok (.sipush 320, 3) := by decide +kernel
theorem dX8_init_58 : decode cX8_init 58 = .ok (.newarray .int, 2) := by decide +kernel
theorem dX8_init_60 : decode cX8_init 60 = .ok (.putfield 16, 3) := by decide +kernel
theorem dX8_init_63 : decode cX8_init 63 = .ok (.aload_n 0, 1) := by decide +kernel
theorem dX8_init_64 : decode cX8_init 64 = .ok (.bipush 53, 2) := by decide +kernel
theorem dX8_init_66 : decode cX8_init 66 = .ok (.newarray .int, 2) := by decide +kernel
theorem dX8_init_68 : decode cX8_init 68 = .ok (.putfield 19, 3) := by decide +kernel
theorem dX8_init_71 : decode cX8_init 71 = .ok (.aload_n 0, 1) := by decide +kernel
theorem dX8_init_72 : decode cX8_init 72 = .ok (.bipush 53, 2) := by decide +kernel
theorem dX8_init_74 : decode cX8_init 74 = .ok (.newarray .int, 2) := by decide +kernel
theorem dX8_init_76 : decode cX8_init 76 = .ok (.putfield 22, 3) := by decide +kernel
theorem dX8_init_79 : decode cX8_init 79 = .ok (.aload_n 0, 1) := by decide +kernel
theorem dX8_init_80 : decode cX8_init 80 = .ok (.bipush 53, 2) := by decide +kernel
theorem dX8_init_82 : decode cX8_init 82 = .ok (.newarray .int, 2) := by decide +kernel
theorem dX8_init_84 : decode cX8_init 84 = .ok (.putfield 25, 3) := by decide +kernel
theorem dX8_init_87 : decode cX8_init 87 = .ok (.aload_n 0, 1) := by decide +kernel
theorem dX8_init_88 : decode cX8_init 88 = .ok (.sipush 1272, 3) := by decide +kernel
theorem dX8_init_91 : decode cX8_init 91 = .ok (.newarray .int, 2) := by decide +kernel
theorem dX8_init_93 : decode cX8_init 93 = .ok (.putfield 28, 3) := by decide +kernel
theorem dX8_init_96 : decode cX8_init 96 = .ok (.aload_n 0, 1) := by decide +kernel
theorem dX8_init_97 : decode cX8_init 97 = .ok (.bipush 120, 2) := by decide +kernel
theorem dX8_init_99 : decode cX8_init 99 = .ok (.newarray .int, 2) := by decide +kernel
theorem dX8_init_101 : decode cX8_init 101 = .ok (.putfield 31, 3) := by decide +kernel
theorem dX8_init_104 : decode cX8_init 104 = .ok (.aload_n 0, 1) := by decide +kernel
theorem dX8_init_105 : decode cX8_init 105 = .ok (.iconst 4, 1) := by decide +kernel
theorem dX8_init_106 : decode cX8_init 106 = .ok (.newarray .int, 2) := by decide +kernel
theorem dX8_init_108 : decode cX8_init 108 = .ok (.putfield 34, 3) := by decide +kernel
theorem dX8_init_111 : decode cX8_init 111 = .ok (.aload_n 0, 1) := by decide +kernel
theorem dX8_init_112 : decode cX8_init 112 = .ok (.iconst 4, 1) := by decide +kernel
theorem dX8_init_113 : decode cX8_init 113 = .ok (.newarray .int, 2) := by decide +kernel
theorem dX8_init_115 : decode cX8_init 115 = .ok (.putfield 37, 3) := by decide +kernel
theorem dX8_init_118 : decode cX8_init 118 = .ok (.aload_n 0, 1) := by decide +kernel
theorem dX8_init_119 : decode cX8_init 119 = .ok (.iconst 2, 1) := by decide +kernel
theorem dX8_init_120 : decode cX8_init 120 = .ok (.newarray .boolean, 2) := by decide +kernel
theorem dX8_init_122 : decode cX8_init 122 = .ok (.putfield 40, 3) := by decide +kernel
theorem dX8_init_125 : decode cX8_init 125 = .ok (.aload_n 0, 1) := by decide +kernel
theorem dX8_init_126 : decode cX8_init 126 = .ok (.bipush 106, 2) := by decide +kernel
theorem dX8_init_128 : decode cX8_init 128 = .ok (.newarray .int, 2) := by decide +kernel
theorem dX8_init_130 : decode cX8_init 130 = .ok (.putfield 44, 3) := by decide +kernel
theorem dX8_init_133 : decode cX8_init 133 = .ok (.aload_n 0, 1) := by decide +kernel
theorem dX8_init_134 : decode cX8_init 134 = .ok (.bipush 16, 2) := by decide +kernel
theorem dX8_init_136 : decode cX8_init 136 = .ok (.newarray .int, 2) := by decide +kernel
theorem dX8_init_138 : decode cX8_init 138 = .ok (.putfield 47, 3) := by decide +kernel
theorem dX8_init_141 : decode cX8_init 141 = .ok (.return_, 1) := by decide +kernel
theorem dX8_in_0 : decode cX8_in 0 = .ok (.lload_n 0, 1) := by decide +kernel
theorem dX8_in_1 : decode cX8_in 1 = .ok (.lload_n 2, 1) := by decide +kernel
theorem dX8_in_2 : decode cX8_in 2 = .ok (.lcmp, 1) := by decide +kernel
theorem dX8_in_3 : decode cX8_in 3 = .ok (.ifCond .lt 14, 3) := by decide +kernel
theorem dX8_in_6 : decode cX8_in 6 = .ok (.lload_n 0, 1) := by decide +kernel
theorem dX8_in_7 : decode cX8_in 7 = .ok (.lload 4, 2) := by decide +kernel
theorem dX8_in_9 : decode cX8_in 9 = .ok (.lcmp, 1) := by decide +kernel
theorem dX8_in_10 : decode cX8_in 10 = .ok (.ifCond .gt 7, 3) := by decide +kernel
theorem dX8_in_13 : decode cX8_in 13 = .ok (.iconst 1, 1) := by decide +kernel
theorem dX8_in_14 : decode cX8_in 14 = .ok (.goto 4, 3) := by decide +kernel
theorem dX8_in_17 : decode cX8_in 17 = .ok (.iconst 0, 1) := by decide +kernel
theorem dX8_in_18 : decode cX8_in 18 = .ok (.ireturn, 1) := by decide +kernel
theorem dX8_finding_0 : decode cX8_finding 0 = .ok (.aload_n 0, 1) := by decide +kernel
theorem dX8_finding_1 : decode cX8_finding 1 = .ok (.iload_n 1, 1) := by decide +kernel
theorem dX8_finding_2 : decode cX8_finding 2 = .ok (.putfield 54, 3) := by decide +kernel
theorem dX8_finding_5 : decode cX8_finding 5 = .ok (.ldc 57, 2) := by decide +kernel
theorem dX8_finding_7 : decode cX8_finding 7 = .ok (.iload_n 1, 1) := by decide +kernel
theorem dX8_finding_8 : decode cX8_finding 8 = .ok (.isub, 1) := by decide +kernel
theorem dX8_finding_9 : decode cX8_finding 9 = .ok (.ireturn, 1) := by decide +kernel
theorem dX8_isRow_0 : decode cX8_isRow 0 = .ok (.iload_n 0, 1) := by decide +kernel
theorem dX8_isRow_1 : decode cX8_isRow 1 = .ok (.i2l, 1) := by decide +kernel
theorem dX8_isRow_2 : decode cX8_isRow 2 = .ok (.lconst 0, 1) := by decide +kernel
theorem dX8_isRow_3 : decode cX8_isRow 3 = .ok (.ldc2_w 58, 3) := by decide +kernel
theorem dX8_isRow_6 : decode cX8_isRow 6 = .ok (.invokestatic 60, 3) := by decide +kernel
theorem dX8_isRow_9 : decode cX8_isRow 9 = .ok (.ireturn, 1) := by decide +kernel
theorem dX8_row_0 : decode cX8_row 0 = .ok (.aload_n 0, 1) := by decide +kernel
theorem dX8_row_1 : decode cX8_row 1 = .ok (.iconst 0, 1) := by decide +kernel
theorem dX8_row_2 : decode cX8_row 2 = .ok (.putfield 50, 3) := by decide +kernel
theorem dX8_row_5 : decode cX8_row 5 = .ok (.iload_n 1, 1) := by decide +kernel
theorem dX8_row_6 : decode cX8_row 6 = .ok (.invokestatic 64, 3) := by decide +kernel
theorem dX8_row_9 : decode cX8_row 9 = .ok (.ifCond .eq 21, 3) := by decide +kernel
theorem dX8_row_12 : decode cX8_row 12 = .ok (.iload_n 2, 1) := by decide +kernel
theorem dX8_row_13 : decode cX8_row 13 = .ok (.i2l, 1) := by decide +kernel
theorem dX8_row_14 : decode cX8_row 14 = .ok (.lconst 0, 1) := by decide +kernel
theorem dX8_row_15 : decode cX8_row 15 = .ok (.ldc2_w 68, 3) := by decide +kernel
theorem dX8_row_18 : decode cX8_row 18 = .ok (.invokestatic 60, 3) := by decide +kernel
theorem dX8_row_21 : decode cX8_row 21 = .ok (.ifCond .eq 9, 3) := by decide +kernel
theorem dX8_row_24 : decode cX8_row 24 = .ok (.iload_n 3, 1) := by decide +kernel
theorem dX8_row_25 : decode cX8_row 25 = .ok (.bipush 40, 2) := by decide +kernel
theorem dX8_row_27 : decode cX8_row 27 = .ok (.if_icmp .le 6, 3) := by decide +kernel
theorem dX8_row_30 : decode cX8_row 30 = .ok (.ldc 70, 2) := by decide +kernel
theorem dX8_row_32 : decode cX8_row 32 = .ok (.ireturn, 1) := by decide +kernel
theorem dX8_row_33 : decode cX8_row 33 = .ok (.aload_n 0, 1) := by decide +kernel
theorem dX8_row_34 : decode cX8_row 34 = .ok (.iconst 0, 1) := by decide +kernel
theorem dX8_row_35 : decode cX8_row 35 = .ok (.putfield 54, 3) := by decide +kernel
theorem dX8_row_38 : decode cX8_row 38 = .ok (.iload_n 3, 1) := by decide +kernel
theorem dX8_row_39 : decode cX8_row 39 = .ok (.ifCond .ge 9, 3) := by decide +kernel
theorem dX8_row_42 : decode cX8_row 42 = .ok (.aload_n 0, 1) := by decide +kernel
theorem dX8_row_43 : decode cX8_row 43 = .ok (.iconst 4, 1) := by decide +kernel
theorem dX8_row_44 : decode cX8_row 44 = .ok (.invokevirtual 71, 3) := by decide +kernel
theorem dX8_row_47 : decode cX8_row 47 = .ok (.ireturn, 1) := by decide +kernel
theorem dX8_row_48 : decode cX8_row 48 = .ok (.aload_n 0, 1) := by decide +kernel
theorem dX8_row_49 : decode cX8_row 49 = .ok (.getfield 7, 3) := by decide +kernel
theorem dX8_row_52 : decode cX8_row 52 = .ok (.iload_n 1, 1) := by decide +kernel
theorem dX8_row_53 : decode cX8_row 53 = .ok (.iload_n 2, 1) := by decide +kernel
theorem dX8_row_54 : decode cX8_row 54 = .ok (.iastore, 1) := by decide +kernel
theorem dX8_row_55 : decode cX8_row 55 = .ok (.aload_n 0, 1) := by decide +kernel
theorem dX8_row_56 : decode cX8_row 56 = .ok (.getfield 13, 3) := by decide +kernel
theorem dX8_row_59 : decode cX8_row 59 = .ok (.iload_n 1, 1) := by decide +kernel
theorem dX8_row_60 : decode cX8_row 60 = .ok (.iload_n 3, 1) := by decide +kernel
theorem dX8_row_61 : decode cX8_row 61 = .ok (.iastore, 1) := by decide +kernel
theorem dX8_row_62 : decode cX8_row 62 = .ok (.iconst 0, 1) := by decide +kernel
theorem dX8_row_63 : decode cX8_row 63 = .ok (.istore 4, 2) := by decide +kernel
theorem dX8_row_65 : decode cX8_row 65 = .ok (.iload 4, 2) := by decide +kernel
theorem dX8_row_67 : decode cX8_row 67 = .ok (.bipush 40, 2) := by decide +kernel
theorem dX8_row_69 : decode cX8_row 69 = .ok (.if_icmp .ge 22, 3) := by decide +kernel
theorem dX8_row_72 : decode cX8_row 72 = .ok (.aload_n 0, 1) := by decide +kernel
theorem dX8_row_73 : decode cX8_row 73 = .ok (.getfield 16, 3) := by decide +kernel
theorem dX8_row_76 : decode cX8_row 76 = .ok (.bipush 40, 2) := by decide +kernel
theorem dX8_row_78 : decode cX8_row 78 = .ok (.iload_n 1, 1) := by decide +kernel
theorem dX8_row_79 : decode cX8_row 79 = .ok (.imul, 1) := by decide +kernel
theorem dX8_row_80 : decode cX8_row 80 = .ok (.iload 4, 2) := by decide +kernel
theorem dX8_row_82 : decode cX8_row 82 = .ok (.iadd, 1) := by decide +kernel
theorem dX8_row_83 : decode cX8_row 83 = .ok (.iconst 0, 1) := by decide +kernel
theorem dX8_row_84 : decode cX8_row 84 = .ok (.iastore, 1) := by decide +kernel
theorem dX8_row_85 : decode cX8_row 85 = .ok (.iinc 4 1, 3) := by decide +kernel
theorem dX8_row_88 : decode cX8_row 88 = .ok (.goto (-23), 3) := by decide +kernel
theorem dX8_row_91 : decode cX8_row 91 = .ok (.iload_n 3, 1) := by decide +kernel
theorem dX8_row_92 : decode cX8_row 92 = .ok (.ireturn, 1) := by decide +kernel
theorem dX8_set_0 : decode cX8_set 0 = .ok (.aload_n 0, 1) := by decide +kernel
theorem dX8_set_1 : decode cX8_set 1 = .ok (.iconst 0, 1) := by decide +kernel
theorem dX8_set_2 : decode cX8_set 2 = .ok (.putfield 50, 3) := by decide +kernel
theorem dX8_set_5 : decode cX8_set 5 = .ok (.iload_n 1, 1) := by decide +kernel
theorem dX8_set_6 : decode cX8_set 6 = .ok (.invokestatic 64, 3) := by decide +kernel
theorem dX8_set_9 : decode cX8_set 9 = .ok (.ifCond .ne 6, 3) := by decide +kernel
theorem dX8_set_12 : decode cX8_set 12 = .ok (.ldc 70, 2) := by decide +kernel
theorem dX8_set_14 : decode cX8_set 14 = .ok (.ireturn, 1) := by decide +kernel
theorem dX8_set_15 : decode cX8_set 15 = .ok (.aload_n 0, 1) := by decide +kernel
theorem dX8_set_16 : decode cX8_set 16 = .ok (.iconst 0, 1) := by decide +kernel
theorem dX8_set_17 : decode cX8_set 17 = .ok (.putfield 54, 3) := by decide +kernel
theorem dX8_set_20 : decode cX8_set 20 = .ok (.aload_n 0, 1) := by decide +kernel
theorem dX8_set_21 : decode cX8_set 21 = .ok (.getfield 7, 3) := by decide +kernel
theorem dX8_set_24 : decode cX8_set 24 = .ok (.iload_n 1, 1) := by decide +kernel
theorem dX8_set_25 : decode cX8_set 25 = .ok (.iaload, 1) := by decide +kernel
theorem dX8_set_26 : decode cX8_set 26 = .ok (.ifCond .ge 9, 3) := by decide +kernel
theorem dX8_set_29 : decode cX8_set 29 = .ok (.aload_n 0, 1) := by decide +kernel
theorem dX8_set_30 : decode cX8_set 30 = .ok (.iconst 1, 1) := by decide +kernel
theorem dX8_set_31 : decode cX8_set 31 = .ok (.invokevirtual 71, 3) := by decide +kernel
theorem dX8_set_34 : decode cX8_set 34 = .ok (.ireturn, 1) := by decide +kernel
theorem dX8_set_35 : decode cX8_set 35 = .ok (.iload_n 2, 1) := by decide +kernel
theorem dX8_set_36 : decode cX8_set 36 = .ok (.i2l, 1) := by decide +kernel
theorem dX8_set_37 : decode cX8_set 37 = .ok (.lconst 0, 1) := by decide +kernel
theorem dX8_set_38 : decode cX8_set 38 = .ok (.aload_n 0, 1) := by decide +kernel
theorem dX8_set_39 : decode cX8_set 39 = .ok (.getfield 13, 3) := by decide +kernel
theorem dX8_set_42 : decode cX8_set 42 = .ok (.iload_n 1, 1) := by decide +kernel
theorem dX8_set_43 : decode cX8_set 43 = .ok (.iaload, 1) := by decide +kernel
theorem dX8_set_44 : decode cX8_set 44 = .ok (.iconst 1, 1) := by decide +kernel
theorem dX8_set_45 : decode cX8_set 45 = .ok (.isub, 1) := by decide +kernel
theorem dX8_set_46 : decode cX8_set 46 = .ok (.i2l, 1) := by decide +kernel
theorem dX8_set_47 : decode cX8_set 47 = .ok (.invokestatic 60, 3) := by decide +kernel
theorem dX8_set_50 : decode cX8_set 50 = .ok (.ifCond .ne 9, 3) := by decide +kernel
theorem dX8_set_53 : decode cX8_set 53 = .ok (.aload_n 0, 1) := by decide +kernel
theorem dX8_set_54 : decode cX8_set 54 = .ok (.iconst 2, 1) := by decide +kernel
theorem dX8_set_55 : decode cX8_set 55 = .ok (.invokevirtual 71, 3) := by decide +kernel
theorem dX8_set_58 : decode cX8_set 58 = .ok (.ireturn, 1) := by decide +kernel
theorem dX8_set_59 : decode cX8_set 59 = .ok (.aload_n 0, 1) := by decide +kernel
theorem dX8_set_60 : decode cX8_set 60 = .ok (.getfield 16, 3) := by decide +kernel
theorem dX8_set_63 : decode cX8_set 63 = .ok (.bipush 40, 2) := by decide +kernel
theorem dX8_set_65 : decode cX8_set 65 = .ok (.iload_n 1, 1) := by decide +kernel
theorem dX8_set_66 : decode cX8_set 66 = .ok (.imul, 1) := by decide +kernel
theorem dX8_set_67 : decode cX8_set 67 = .ok (.iload_n 2, 1) := by decide +kernel
theorem dX8_set_68 : decode cX8_set 68 = .ok (.iadd, 1) := by decide +kernel
theorem dX8_set_69 : decode cX8_set 69 = .ok (.aload_n 0, 1) := by decide +kernel
theorem dX8_set_70 : decode cX8_set 70 = .ok (.getfield 7, 3) := by decide +kernel
theorem dX8_set_73 : decode cX8_set 73 = .ok (.iload_n 1, 1) := by decide +kernel
theorem dX8_set_74 : decode cX8_set 74 = .ok (.iaload, 1) := by decide +kernel
theorem dX8_set_75 : decode cX8_set 75 = .ok (.ifCond .ne 8, 3) := by decide +kernel
theorem dX8_set_78 : decode cX8_set 78 = .ok (.iload_n 3, 1) := by decide +kernel
theorem dX8_set_79 : decode cX8_set 79 = .ok (.i2b, 1) := by decide +kernel
theorem dX8_set_80 : decode cX8_set 80 = .ok (.goto 19, 3) := by decide +kernel
theorem dX8_set_83 : decode cX8_set 83 = .ok (.aload_n 0, 1) := by decide +kernel
theorem dX8_set_84 : decode cX8_set 84 = .ok (.getfield 7, 3) := by decide +kernel
theorem dX8_set_87 : decode cX8_set 87 = .ok (.iload_n 1, 1) := by decide +kernel
theorem dX8_set_88 : decode cX8_set 88 = .ok (.iaload, 1) := by decide +kernel
theorem dX8_set_89 : decode cX8_set 89 = .ok (.iconst 1, 1) := by decide +kernel
theorem dX8_set_90 : decode cX8_set 90 = .ok (.if_icmp .ne 8, 3) := by decide +kernel
theorem dX8_set_93 : decode cX8_set 93 = .ok (.iload_n 3, 1) := by decide +kernel
theorem dX8_set_94 : decode cX8_set 94 = .ok (.i2s, 1) := by decide +kernel
theorem dX8_set_95 : decode cX8_set 95 = .ok (.goto 4, 3) := by decide +kernel
theorem dX8_set_98 : decode cX8_set 98 = .ok (.iload_n 3, 1) := by decide +kernel
theorem dX8_set_99 : decode cX8_set 99 = .ok (.iastore, 1) := by decide +kernel
theorem dX8_set_100 : decode cX8_set 100 = .ok (.aload_n 0, 1) := by decide +kernel
theorem dX8_set_101 : decode cX8_set 101 = .ok (.getfield 16, 3) := by decide +kernel
theorem dX8_set_104 : decode cX8_set 104 = .ok (.bipush 40, 2) := by decide +kernel
theorem dX8_set_106 : decode cX8_set 106 = .ok (.iload_n 1, 1) := by decide +kernel
theorem dX8_set_107 : decode cX8_set 107 = .ok (.imul, 1) := by decide +kernel
theorem dX8_set_108 : decode cX8_set 108 = .ok (.iload_n 2, 1) := by decide +kernel
theorem dX8_set_109 : decode cX8_set 109 = .ok (.iadd, 1) := by decide +kernel
theorem dX8_set_110 : decode cX8_set 110 = .ok (.iaload, 1) := by decide +kernel
theorem dX8_set_111 : decode cX8_set 111 = .ok (.ireturn, 1) := by decide +kernel
theorem dX8_copy_0 : decode cX8_copy 0 = .ok (.aload_n 0, 1) := by decide +kernel
theorem dX8_copy_1 : decode cX8_copy 1 = .ok (.iconst 0, 1) := by decide +kernel
theorem dX8_copy_2 : decode cX8_copy 2 = .ok (.putfield 50, 3) := by decide +kernel
theorem dX8_copy_5 : decode cX8_copy 5 = .ok (.iload_n 1, 1) := by decide +kernel
theorem dX8_copy_6 : decode cX8_copy 6 = .ok (.invokestatic 64, 3) := by decide +kernel
theorem dX8_copy_9 : decode cX8_copy 9 = .ok (.ifCond .eq 10, 3) := by decide +kernel
theorem dX8_copy_12 : decode cX8_copy 12 = .ok (.iload_n 3, 1) := by decide +kernel
theorem dX8_copy_13 : decode cX8_copy 13 = .ok (.invokestatic 64, 3) := by decide +kernel
theorem dX8_copy_16 : decode cX8_copy 16 = .ok (.ifCond .ne 6, 3) := by decide +kernel
theorem dX8_copy_19 : decode cX8_copy 19 = .ok (.ldc 70, 2) := by decide +kernel
theorem dX8_copy_21 : decode cX8_copy 21 = .ok (.ireturn, 1) := by decide +kernel
theorem dX8_copy_22 : decode cX8_copy 22 = .ok (.aload_n 0, 1) := by decide +kernel
theorem dX8_copy_23 : decode cX8_copy 23 = .ok (.iconst 0, 1) := by decide +kernel
theorem dX8_copy_24 : decode cX8_copy 24 = .ok (.putfield 54, 3) := by decide +kernel
theorem dX8_copy_27 : decode cX8_copy 27 = .ok (.aload_n 0, 1) := by decide +kernel
theorem dX8_copy_28 : decode cX8_copy 28 = .ok (.getfield 7, 3) := by decide +kernel
theorem dX8_copy_31 : decode cX8_copy 31 = .ok (.iload_n 1, 1) := by decide +kernel
theorem dX8_copy_32 : decode cX8_copy 32 = .ok (.iaload, 1) := by decide +kernel
theorem dX8_copy_33 : decode cX8_copy 33 = .ok (.ifCond .lt 12, 3) := by decide +kernel
theorem dX8_copy_36 : decode cX8_copy 36 = .ok (.aload_n 0, 1) := by decide +kernel
theorem dX8_copy_37 : decode cX8_copy 37 = .ok (.getfield 7, 3) := by decide +kernel
theorem dX8_copy_40 : decode cX8_copy 40 = .ok (.iload_n 3, 1) := by decide +kernel
theorem dX8_copy_41 : decode cX8_copy 41 = .ok (.iaload, 1) := by decide +kernel
theorem dX8_copy_42 : decode cX8_copy 42 = .ok (.ifCond .ge 9, 3) := by decide +kernel
theorem dX8_copy_45 : decode cX8_copy 45 = .ok (.aload_n 0, 1) := by decide +kernel
theorem dX8_copy_46 : decode cX8_copy 46 = .ok (.iconst 1, 1) := by decide +kernel
theorem dX8_copy_47 : decode cX8_copy 47 = .ok (.invokevirtual 71, 3) := by decide +kernel
theorem dX8_copy_50 : decode cX8_copy 50 = .ok (.ireturn, 1) := by decide +kernel
theorem dX8_copy_51 : decode cX8_copy 51 = .ok (.aload_n 0, 1) := by decide +kernel
theorem dX8_copy_52 : decode cX8_copy 52 = .ok (.getfield 7, 3) := by decide +kernel
theorem dX8_copy_55 : decode cX8_copy 55 = .ok (.iload_n 1, 1) := by decide +kernel
theorem dX8_copy_56 : decode cX8_copy 56 = .ok (.iaload, 1) := by decide +kernel
theorem dX8_copy_57 : decode cX8_copy 57 = .ok (.aload_n 0, 1) := by decide +kernel
theorem dX8_copy_58 : decode cX8_copy 58 = .ok (.getfield 7, 3) := by decide +kernel
theorem dX8_copy_61 : decode cX8_copy 61 = .ok (.iload_n 3, 1) := by decide +kernel
theorem dX8_copy_62 : decode cX8_copy 62 = .ok (.iaload, 1) := by decide +kernel
theorem dX8_copy_63 : decode cX8_copy 63 = .ok (.if_icmp .eq 9, 3) := by decide +kernel
theorem dX8_copy_66 : decode cX8_copy 66 = .ok (.aload_n 0, 1) := by decide +kernel
theorem dX8_copy_67 : decode cX8_copy 67 = .ok (.iconst 5, 1) := by decide +kernel
theorem dX8_copy_68 : decode cX8_copy 68 = .ok (.invokevirtual 71, 3) := by decide +kernel
theorem dX8_copy_71 : decode cX8_copy 71 = .ok (.ireturn, 1) := by decide +kernel
theorem dX8_copy_72 : decode cX8_copy 72 = .ok (.iload_n 2, 1) := by decide +kernel
theorem dX8_copy_73 : decode cX8_copy 73 = .ok (.ifCond .lt 48, 3) := by decide +kernel
theorem dX8_copy_76 : decode cX8_copy 76 = .ok (.iload 4, 2) := by decide +kernel
theorem dX8_copy_78 : decode cX8_copy 78 = .ok (.ifCond .lt 43, 3) := by decide +kernel
theorem dX8_copy_81 : decode cX8_copy 81 = .ok (.iload 5, 2) := by decide +kernel
theorem dX8_copy_83 : decode cX8_copy 83 = .ok (.ifCond .lt 38, 3) := by decide +kernel
theorem dX8_copy_86 : decode cX8_copy 86 = .ok (.iload_n 2, 1) := by decide +kernel
theorem dX8_copy_87 : decode cX8_copy 87 = .ok (.i2l, 1) := by decide +kernel
theorem dX8_copy_88 : decode cX8_copy 88 = .ok (.iload 5, 2) := by decide +kernel
theorem dX8_copy_90 : decode cX8_copy 90 = .ok (.i2l, 1) := by decide +kernel
theorem dX8_copy_91 : decode cX8_copy 91 = .ok (.ladd, 1) := by decide +kernel
theorem dX8_copy_92 : decode cX8_copy 92 = .ok (.aload_n 0, 1) := by decide +kernel
theorem dX8_copy_93 : decode cX8_copy 93 = .ok (.getfield 13, 3) := by decide +kernel
theorem dX8_copy_96 : decode cX8_copy 96 = .ok (.iload_n 1, 1) := by decide +kernel
theorem dX8_copy_97 : decode cX8_copy 97 = .ok (.iaload, 1) := by decide +kernel
theorem dX8_copy_98 : decode cX8_copy 98 = .ok (.i2l, 1) := by decide +kernel
theorem dX8_copy_99 : decode cX8_copy 99 = .ok (.lcmp, 1) := by decide +kernel
theorem dX8_copy_100 : decode cX8_copy 100 = .ok (.ifCond .gt 21, 3) := by decide +kernel
theorem dX8_copy_103 : decode cX8_copy 103 = .ok (.iload 4, 2) := by decide +kernel
theorem dX8_copy_105 : decode cX8_copy 105 = .ok (.i2l, 1) := by decide +kernel
theorem dX8_copy_106 : decode cX8_copy 106 = .ok (.iload 5, 2) := by decide +kernel
theorem dX8_copy_108 : decode cX8_copy 108 = .ok (.i2l, 1) := by decide +kernel
theorem dX8_copy_109 : decode cX8_copy 109 = .ok (.ladd, 1) := by decide +kernel
theorem dX8_copy_110 : decode cX8_copy 110 = .ok (.aload_n 0, 1) := by decide +kernel
theorem dX8_copy_111 : decode cX8_copy 111 = .ok (.getfield 13, 3) := by decide +kernel
theorem dX8_copy_114 : decode cX8_copy 114 = .ok (.iload_n 3, 1) := by decide +kernel
theorem dX8_copy_115 : decode cX8_copy 115 = .ok (.iaload, 1) := by decide +kernel
theorem dX8_copy_116 : decode cX8_copy 116 = .ok (.i2l, 1) := by decide +kernel
theorem dX8_copy_117 : decode cX8_copy 117 = .ok (.lcmp, 1) := by decide +kernel
theorem dX8_copy_118 : decode cX8_copy 118 = .ok (.ifCond .le 9, 3) := by decide +kernel
theorem dX8_copy_121 : decode cX8_copy 121 = .ok (.aload_n 0, 1) := by decide +kernel
theorem dX8_copy_122 : decode cX8_copy 122 = .ok (.iconst 2, 1) := by decide +kernel
theorem dX8_copy_123 : decode cX8_copy 123 = .ok (.invokevirtual 71, 3) := by decide +kernel
theorem dX8_copy_126 : decode cX8_copy 126 = .ok (.ireturn, 1) := by decide +kernel
theorem dX8_copy_127 : decode cX8_copy 127 = .ok (.iload_n 2, 1) := by decide +kernel
theorem dX8_copy_128 : decode cX8_copy 128 = .ok (.iload 4, 2) := by decide +kernel
theorem dX8_copy_130 : decode cX8_copy 130 = .ok (.if_icmp .lt 7, 3) := by decide +kernel
theorem dX8_copy_133 : decode cX8_copy 133 = .ok (.iconst 1, 1) := by decide +kernel
theorem dX8_copy_134 : decode cX8_copy 134 = .ok (.goto 4, 3) := by decide +kernel
theorem dX8_copy_137 : decode cX8_copy 137 = .ok (.iconst 0, 1) := by decide +kernel
theorem dX8_copy_138 : decode cX8_copy 138 = .ok (.istore 6, 2) := by decide +kernel
theorem dX8_copy_140 : decode cX8_copy 140 = .ok (.iconst 0, 1) := by decide +kernel
theorem dX8_copy_141 : decode cX8_copy 141 = .ok (.istore 7, 2) := by decide +kernel
theorem dX8_copy_143 : decode cX8_copy 143 = .ok (.iload 7, 2) := by decide +kernel
theorem dX8_copy_145 : decode cX8_copy 145 = .ok (.iload 5, 2) := by decide +kernel
theorem dX8_copy_147 : decode cX8_copy 147 = .ok (.if_icmp .ge 57, 3) := by decide +kernel
theorem dX8_copy_150 : decode cX8_copy 150 = .ok (.iload 6, 2) := by decide +kernel
theorem dX8_copy_152 : decode cX8_copy 152 = .ok (.ifCond .eq 8, 3) := by decide +kernel
theorem dX8_copy_155 : decode cX8_copy 155 = .ok (.iload 7, 2) := by decide +kernel
theorem dX8_copy_157 : decode cX8_copy 157 = .ok (.goto 10, 3) := by decide +kernel
theorem dX8_copy_160 : decode cX8_copy 160 = .ok (.iload 5, 2) := by decide +kernel
theorem dX8_copy_162 : decode cX8_copy 162 = .ok (.iconst 1, 1) := by decide +kernel
theorem dX8_copy_163 : decode cX8_copy 163 = .ok (.isub, 1) := by decide +kernel
theorem dX8_copy_164 : decode cX8_copy 164 = .ok (.iload 7, 2) := by decide +kernel
theorem dX8_copy_166 : decode cX8_copy 166 = .ok (.isub, 1) := by decide +kernel
theorem dX8_copy_167 : decode cX8_copy 167 = .ok (.istore 8, 2) := by decide +kernel
theorem dX8_copy_169 : decode cX8_copy 169 = .ok (.aload_n 0, 1) := by decide +kernel
theorem dX8_copy_170 : decode cX8_copy 170 = .ok (.getfield 16, 3) := by decide +kernel
theorem dX8_copy_173 : decode cX8_copy 173 = .ok (.bipush 40, 2) := by decide +kernel
theorem dX8_copy_175 : decode cX8_copy 175 = .ok (.iload_n 3, 1) := by decide +kernel
theorem dX8_copy_176 : decode cX8_copy 176 = .ok (.imul, 1) := by decide +kernel
theorem dX8_copy_177 : decode cX8_copy 177 = .ok (.iload 4, 2) := by decide +kernel
theorem dX8_copy_179 : decode cX8_copy 179 = .ok (.iadd, 1) := by decide +kernel
theorem dX8_copy_180 : decode cX8_copy 180 = .ok (.iload 8, 2) := by decide +kernel
theorem dX8_copy_182 : decode cX8_copy 182 = .ok (.iadd, 1) := by decide +kernel
theorem dX8_copy_183 : decode cX8_copy 183 = .ok (.aload_n 0, 1) := by decide +kernel
theorem dX8_copy_184 : decode cX8_copy 184 = .ok (.getfield 16, 3) := by decide +kernel
theorem dX8_copy_187 : decode cX8_copy 187 = .ok (.bipush 40, 2) := by decide +kernel
theorem dX8_copy_189 : decode cX8_copy 189 = .ok (.iload_n 1, 1) := by decide +kernel
theorem dX8_copy_190 : decode cX8_copy 190 = .ok (.imul, 1) := by decide +kernel
theorem dX8_copy_191 : decode cX8_copy 191 = .ok (.iload_n 2, 1) := by decide +kernel
theorem dX8_copy_192 : decode cX8_copy 192 = .ok (.iadd, 1) := by decide +kernel
theorem dX8_copy_193 : decode cX8_copy 193 = .ok (.iload 8, 2) := by decide +kernel
theorem dX8_copy_195 : decode cX8_copy 195 = .ok (.iadd, 1) := by decide +kernel
theorem dX8_copy_196 : decode cX8_copy 196 = .ok (.iaload, 1) := by decide +kernel
theorem dX8_copy_197 : decode cX8_copy 197 = .ok (.iastore, 1) := by decide +kernel
theorem dX8_copy_198 : decode cX8_copy 198 = .ok (.iinc 7 1, 3) := by decide +kernel
theorem dX8_copy_201 : decode cX8_copy 201 = .ok (.goto (-58), 3) := by decide +kernel
theorem dX8_copy_204 : decode cX8_copy 204 = .ok (.iload 5, 2) := by decide +kernel
theorem dX8_copy_206 : decode cX8_copy 206 = .ok (.ireturn, 1) := by decide +kernel
theorem dX8_drop_0 : decode cX8_drop 0 = .ok (.aload_n 0, 1) := by decide +kernel
theorem dX8_drop_1 : decode cX8_drop 1 = .ok (.iconst 0, 1) := by decide +kernel
theorem dX8_drop_2 : decode cX8_drop 2 = .ok (.putfield 50, 3) := by decide +kernel
theorem dX8_drop_5 : decode cX8_drop 5 = .ok (.iload_n 1, 1) := by decide +kernel
theorem dX8_drop_6 : decode cX8_drop 6 = .ok (.invokestatic 64, 3) := by decide +kernel
theorem dX8_drop_9 : decode cX8_drop 9 = .ok (.ifCond .ne 6, 3) := by decide +kernel
theorem dX8_drop_12 : decode cX8_drop 12 = .ok (.ldc 70, 2) := by decide +kernel
theorem dX8_drop_14 : decode cX8_drop 14 = .ok (.ireturn, 1) := by decide +kernel
theorem dX8_drop_15 : decode cX8_drop 15 = .ok (.aload_n 0, 1) := by decide +kernel
theorem dX8_drop_16 : decode cX8_drop 16 = .ok (.iconst 0, 1) := by decide +kernel
theorem dX8_drop_17 : decode cX8_drop 17 = .ok (.putfield 54, 3) := by decide +kernel
theorem dX8_drop_20 : decode cX8_drop 20 = .ok (.aload_n 0, 1) := by decide +kernel
theorem dX8_drop_21 : decode cX8_drop 21 = .ok (.getfield 7, 3) := by decide +kernel
theorem dX8_drop_24 : decode cX8_drop 24 = .ok (.iload_n 1, 1) := by decide +kernel
theorem dX8_drop_25 : decode cX8_drop 25 = .ok (.iaload, 1) := by decide +kernel
theorem dX8_drop_26 : decode cX8_drop 26 = .ok (.ifCond .ge 9, 3) := by decide +kernel
theorem dX8_drop_29 : decode cX8_drop 29 = .ok (.aload_n 0, 1) := by decide +kernel
theorem dX8_drop_30 : decode cX8_drop 30 = .ok (.iconst 1, 1) := by decide +kernel
theorem dX8_drop_31 : decode cX8_drop 31 = .ok (.invokevirtual 71, 3) := by decide +kernel
theorem dX8_drop_34 : decode cX8_drop 34 = .ok (.ireturn, 1) := by decide +kernel
theorem dX8_drop_35 : decode cX8_drop 35 = .ok (.aload_n 0, 1) := by decide +kernel
theorem dX8_drop_36 : decode cX8_drop 36 = .ok (.getfield 7, 3) := by decide +kernel
theorem dX8_drop_39 : decode cX8_drop 39 = .ok (.iload_n 1, 1) := by decide +kernel
theorem dX8_drop_40 : decode cX8_drop 40 = .ok (.iconst (-1), 1) := by decide +kernel
theorem dX8_drop_41 : decode cX8_drop 41 = .ok (.iastore, 1) := by decide +kernel
theorem dX8_drop_42 : decode cX8_drop 42 = .ok (.aload_n 0, 1) := by decide +kernel
theorem dX8_drop_43 : decode cX8_drop 43 = .ok (.getfield 13, 3) := by decide +kernel
theorem dX8_drop_46 : decode cX8_drop 46 = .ok (.iload_n 1, 1) := by decide +kernel
theorem dX8_drop_47 : decode cX8_drop 47 = .ok (.iaload, 1) := by decide +kernel
theorem dX8_drop_48 : decode cX8_drop 48 = .ok (.ireturn, 1) := by decide +kernel
theorem dX8_feed_0 : decode cX8_feed 0 = .ok (.aload_n 0, 1) := by decide +kernel
theorem dX8_feed_1 : decode cX8_feed 1 = .ok (.iconst 0, 1) := by decide +kernel
theorem dX8_feed_2 : decode cX8_feed 2 = .ok (.putfield 50, 3) := by decide +kernel
theorem dX8_feed_5 : decode cX8_feed 5 = .ok (.iload_n 1, 1) := by decide +kernel
theorem dX8_feed_6 : decode cX8_feed 6 = .ok (.i2l, 1) := by decide +kernel
theorem dX8_feed_7 : decode cX8_feed 7 = .ok (.lconst 0, 1) := by decide +kernel
theorem dX8_feed_8 : decode cX8_feed 8 = .ok (.ldc2_w 75, 3) := by decide +kernel
theorem dX8_feed_11 : decode cX8_feed 11 = .ok (.invokestatic 60, 3) := by decide +kernel
theorem dX8_feed_14 : decode cX8_feed 14 = .ok (.ifCond .ne 6, 3) := by decide +kernel
theorem dX8_feed_17 : decode cX8_feed 17 = .ok (.ldc 70, 2) := by decide +kernel
theorem dX8_feed_19 : decode cX8_feed 19 = .ok (.ireturn, 1) := by decide +kernel
theorem dX8_feed_20 : decode cX8_feed 20 = .ok (.aload_n 0, 1) := by decide +kernel
theorem dX8_feed_21 : decode cX8_feed 21 = .ok (.getfield 77, 3) := by decide +kernel
theorem dX8_feed_24 : decode cX8_feed 24 = .ok (.bipush 120, 2) := by decide +kernel
theorem dX8_feed_26 : decode cX8_feed 26 = .ok (.if_icmp .ne 6, 3) := by decide +kernel
theorem dX8_feed_29 : decode cX8_feed 29 = .ok (.ldc 80, 2) := by decide +kernel
theorem dX8_feed_31 : decode cX8_feed 31 = .ok (.ireturn, 1) := by decide +kernel
theorem dX8_feed_32 : decode cX8_feed 32 = .ok (.aload_n 0, 1) := by decide +kernel
theorem dX8_feed_33 : decode cX8_feed 33 = .ok (.getfield 31, 3) := by decide +kernel
theorem dX8_feed_36 : decode cX8_feed 36 = .ok (.aload_n 0, 1) := by decide +kernel
theorem dX8_feed_37 : decode cX8_feed 37 = .ok (.getfield 77, 3) := by decide +kernel
theorem dX8_feed_40 : decode cX8_feed 40 = .ok (.iload_n 1, 1) := by decide +kernel
theorem dX8_feed_41 : decode cX8_feed 41 = .ok (.iastore, 1) := by decide +kernel
theorem dX8_feed_42 : decode cX8_feed 42 = .ok (.aload_n 0, 1) := by decide +kernel
theorem dX8_feed_43 : decode cX8_feed 43 = .ok (.dup, 1) := by decide +kernel
theorem dX8_feed_44 : decode cX8_feed 44 = .ok (.getfield 77, 3) := by decide +kernel
theorem dX8_feed_47 : decode cX8_feed 47 = .ok (.iconst 1, 1) := by decide +kernel
theorem dX8_feed_48 : decode cX8_feed 48 = .ok (.iadd, 1) := by decide +kernel
theorem dX8_feed_49 : decode cX8_feed 49 = .ok (.putfield 77, 3) := by decide +kernel
theorem dX8_feed_52 : decode cX8_feed 52 = .ok (.aload_n 0, 1) := by decide +kernel
theorem dX8_feed_53 : decode cX8_feed 53 = .ok (.getfield 77, 3) := by decide +kernel
theorem dX8_feed_56 : decode cX8_feed 56 = .ok (.ireturn, 1) := by decide +kernel
theorem dX8_bad_0 : decode cX8_bad 0 = .ok (.aload_n 0, 1) := by decide +kernel
theorem dX8_bad_1 : decode cX8_bad 1 = .ok (.getfield 81, 3) := by decide +kernel
theorem dX8_bad_4 : decode cX8_bad 4 = .ok (.ifCond .ne 16, 3) := by decide +kernel
theorem dX8_bad_7 : decode cX8_bad 7 = .ok (.aload_n 0, 1) := by decide +kernel
theorem dX8_bad_8 : decode cX8_bad 8 = .ok (.iload_n 1, 1) := by decide +kernel
theorem dX8_bad_9 : decode cX8_bad 9 = .ok (.putfield 81, 3) := by decide +kernel
theorem dX8_bad_12 : decode cX8_bad 12 = .ok (.aload_n 0, 1) := by decide +kernel
theorem dX8_bad_13 : decode cX8_bad 13 = .ok (.aload_n 0, 1) := by decide +kernel
theorem dX8_bad_14 : decode cX8_bad 14 = .ok (.getfield 84, 3) := by decide +kernel
theorem dX8_bad_17 : decode cX8_bad 17 = .ok (.putfield 87, 3) := by decide +kernel
theorem dX8_bad_20 : decode cX8_bad 20 = .ok (.return_, 1) := by decide +kernel
theorem dX8_nextToken_0 : decode cX8_nextToken 0 = .ok (.aload_n 0, 1) := by decide +kernel
theorem dX8_nextToken_1 : decode cX8_nextToken 1 = .ok (.aload_n 0, 1) := by decide +kernel
theorem dX8_nextToken_2 : decode cX8_nextToken 2 = .ok (.getfield 90, 3) := by decide +kernel
theorem dX8_nextToken_5 : decode cX8_nextToken 5 = .ok (.putfield 84, 3) := by decide +kernel
theorem dX8_nextToken_8 : decode cX8_nextToken 8 = .ok (.aload_n 0, 1) := by decide +kernel
theorem dX8_nextToken_9 : decode cX8_nextToken 9 = .ok (.aload_n 0, 1) := by decide +kernel
theorem dX8_nextToken_10 : decode cX8_nextToken 10 = .ok (.getfield 90, 3) := by decide +kernel
theorem dX8_nextToken_13 : decode cX8_nextToken 13 = .ok (.aload_n 0, 1) := by decide +kernel
theorem dX8_nextToken_14 : decode cX8_nextToken 14 = .ok (.getfield 77, 3) := by decide +kernel
theorem dX8_nextToken_17 : decode cX8_nextToken 17 = .ok (.if_icmp .ge 15, 3) := by decide +kernel
theorem dX8_nextToken_20 : decode cX8_nextToken 20 = .ok (.aload_n 0, 1) := by decide +kernel
theorem dX8_nextToken_21 : decode cX8_nextToken 21 = .ok (.getfield 31, 3) := by decide +kernel
theorem dX8_nextToken_24 : decode cX8_nextToken 24 = .ok (.aload_n 0, 1) := by decide +kernel
theorem dX8_nextToken_25 : decode cX8_nextToken 25 = .ok (.getfield 90, 3) := by decide +kernel
theorem dX8_nextToken_28 : decode cX8_nextToken 28 = .ok (.iaload, 1) := by decide +kernel
theorem dX8_nextToken_29 : decode cX8_nextToken 29 = .ok (.goto 5, 3) := by decide +kernel
theorem dX8_nextToken_32 : decode cX8_nextToken 32 = .ok (.ldc 93, 2) := by decide +kernel
theorem dX8_nextToken_34 : decode cX8_nextToken 34 = .ok (.putfield 94, 3) := by decide +kernel
theorem dX8_nextToken_37 : decode cX8_nextToken 37 = .ok (.aload_n 0, 1) := by decide +kernel
theorem dX8_nextToken_38 : decode cX8_nextToken 38 = .ok (.aload_n 0, 1) := by decide +kernel
theorem dX8_nextToken_39 : decode cX8_nextToken 39 = .ok (.getfield 90, 3) := by decide +kernel
theorem dX8_nextToken_42 : decode cX8_nextToken 42 = .ok (.aload_n 0, 1) := by decide +kernel
theorem dX8_nextToken_43 : decode cX8_nextToken 43 = .ok (.getfield 77, 3) := by decide +kernel
theorem dX8_nextToken_46 : decode cX8_nextToken 46 = .ok (.if_icmp .ne 7, 3) := by decide +kernel
theorem dX8_nextToken_49 : decode cX8_nextToken 49 = .ok (.iconst 1, 1) := by decide +kernel
theorem dX8_nextToken_50 : decode cX8_nextToken 50 = .ok (.goto 68, 3) := by decide +kernel
theorem dX8_nextToken_53 : decode cX8_nextToken 53 = .ok (.aload_n 0, 1) := by decide +kernel
theorem dX8_nextToken_54 : decode cX8_nextToken 54 = .ok (.getfield 94, 3) := by decide +kernel
theorem dX8_nextToken_57 : decode cX8_nextToken 57 = .ok (.i2l, 1) := by decide +kernel
theorem dX8_nextToken_58 : decode cX8_nextToken 58 = .ok (.ldc2_w 97, 3) := by decide +kernel
theorem dX8_nextToken_61 : decode cX8_nextToken 61 = .ok (.ldc2_w 99, 3) := by decide +kernel
theorem dX8_nextToken_64 : decode cX8_nextToken 64 = .ok (.invokestatic 60, 3) := by decide +kernel
theorem dX8_nextToken_67 : decode cX8_nextToken 67 = .ok (.ifCond .eq 7, 3) := by decide +kernel
theorem dX8_nextToken_70 : decode cX8_nextToken 70 = .ok (.iconst 2, 1) := by decide +kernel
theorem dX8_nextToken_71 : decode cX8_nextToken 71 = .ok (.goto 47, 3) := by decide +kernel
theorem dX8_nextToken_74 : decode cX8_nextToken 74 = .ok (.aload_n 0, 1) := by decide +kernel
theorem dX8_nextToken_75 : decode cX8_nextToken 75 = .ok (.getfield 94, 3) := by decide +kernel
theorem dX8_nextToken_78 : decode cX8_nextToken 78 = .ok (.i2l, 1) := by decide +kernel
theorem dX8_nextToken_79 : decode cX8_nextToken 79 = .ok (.ldc2_w 101, 3) := by decide +kernel
theorem dX8_nextToken_82 : decode cX8_nextToken 82 = .ok (.ldc2_w 103, 3) := by decide +kernel
theorem dX8_nextToken_85 : decode cX8_nextToken 85 = .ok (.invokestatic 60, 3) := by decide +kernel
theorem dX8_nextToken_88 : decode cX8_nextToken 88 = .ok (.ifCond .eq 7, 3) := by decide +kernel
theorem dX8_nextToken_91 : decode cX8_nextToken 91 = .ok (.iconst 3, 1) := by decide +kernel
theorem dX8_nextToken_92 : decode cX8_nextToken 92 = .ok (.goto 26, 3) := by decide +kernel
theorem dX8_nextToken_95 : decode cX8_nextToken 95 = .ok (.aload_n 0, 1) := by decide +kernel
theorem dX8_nextToken_96 : decode cX8_nextToken 96 = .ok (.getfield 94, 3) := by decide +kernel
theorem dX8_nextToken_99 : decode cX8_nextToken 99 = .ok (.bipush 44, 2) := by decide +kernel
theorem dX8_nextToken_101 : decode cX8_nextToken 101 = .ok (.if_icmp .eq 12, 3) := by decide +kernel
theorem dX8_nextToken_104 : decode cX8_nextToken 104 = .ok (.aload_n 0, 1) := by decide +kernel
theorem dX8_nextToken_105 : decode cX8_nextToken 105 = .ok (.getfield 94, 3) := by decide +kernel
theorem dX8_nextToken_108 : decode cX8_nextToken 108 = .ok (.bipush 59, 2) := by decide +kernel
theorem dX8_nextToken_110 : decode cX8_nextToken 110 = .ok (.if_icmp .ne 7, 3) := by decide +kernel
theorem dX8_nextToken_113 : decode cX8_nextToken 113 = .ok (.iconst 4, 1) := by decide +kernel
theorem dX8_nextToken_114 : decode cX8_nextToken 114 = .ok (.goto 4, 3) := by decide +kernel
theorem dX8_nextToken_117 : decode cX8_nextToken 117 = .ok (.iconst 0, 1) := by decide +kernel
theorem dX8_nextToken_118 : decode cX8_nextToken 118 = .ok (.putfield 105, 3) := by decide +kernel
theorem dX8_nextToken_121 : decode cX8_nextToken 121 = .ok (.aload_n 0, 1) := by decide +kernel
theorem dX8_nextToken_122 : decode cX8_nextToken 122 = .ok (.dup, 1) := by decide +kernel
theorem dX8_nextToken_123 : decode cX8_nextToken 123 = .ok (.getfield 90, 3) := by decide +kernel
theorem dX8_nextToken_126 : decode cX8_nextToken 126 = .ok (.aload_n 0, 1) := by decide +kernel
theorem dX8_nextToken_127 : decode cX8_nextToken 127 = .ok (.getfield 90, 3) := by decide +kernel
theorem dX8_nextToken_130 : decode cX8_nextToken 130 = .ok (.aload_n 0, 1) := by decide +kernel
theorem dX8_nextToken_131 : decode cX8_nextToken 131 = .ok (.getfield 77, 3) := by decide +kernel
theorem dX8_nextToken_134 : decode cX8_nextToken 134 = .ok (.if_icmp .ge 7, 3) := by decide +kernel
theorem dX8_nextToken_137 : decode cX8_nextToken 137 = .ok (.iconst 1, 1) := by decide +kernel
theorem dX8_nextToken_138 : decode cX8_nextToken 138 = .ok (.goto 4, 3) := by decide +kernel
theorem dX8_nextToken_141 : decode cX8_nextToken 141 = .ok (.iconst 0, 1) := by decide +kernel
theorem dX8_nextToken_142 : decode cX8_nextToken 142 = .ok (.iadd, 1) := by decide +kernel
theorem dX8_nextToken_143 : decode cX8_nextToken 143 = .ok (.putfield 90, 3) := by decide +kernel
theorem dX8_nextToken_146 : decode cX8_nextToken 146 = .ok (.aload_n 0, 1) := by decide +kernel
theorem dX8_nextToken_147 : decode cX8_nextToken 147 = .ok (.getfield 105, 3) := by decide +kernel
theorem dX8_nextToken_150 : decode cX8_nextToken 150 = .ok (.iconst 3, 1) := by decide +kernel
theorem dX8_nextToken_151 : decode cX8_nextToken 151 = .ok (.if_icmp .ne 126, 3) := by decide +kernel
theorem dX8_nextToken_154 : decode cX8_nextToken 154 = .ok (.aload_n 0, 1) := by decide +kernel
theorem dX8_nextToken_155 : decode cX8_nextToken 155 = .ok (.dup, 1) := by decide +kernel
theorem dX8_nextToken_156 : decode cX8_nextToken 156 = .ok (.getfield 94, 3) := by decide +kernel
theorem dX8_nextToken_159 : decode cX8_nextToken 159 = .ok (.bipush 48, 2) := by decide +kernel
theorem dX8_nextToken_161 : decode cX8_nextToken 161 = .ok (.isub, 1) := by decide +kernel
theorem dX8_nextToken_162 : decode cX8_nextToken 162 = .ok (.putfield 94, 3) := by decide +kernel
theorem dX8_nextToken_165 : decode cX8_nextToken 165 = .ok (.aload_n 0, 1) := by decide +kernel
theorem dX8_nextToken_166 : decode cX8_nextToken 166 = .ok (.getfield 90, 3) := by decide +kernel
theorem dX8_nextToken_169 : decode cX8_nextToken 169 = .ok (.aload_n 0, 1) := by decide +kernel
theorem dX8_nextToken_170 : decode cX8_nextToken 170 = .ok (.getfield 77, 3) := by decide +kernel
theorem dX8_nextToken_173 : decode cX8_nextToken 173 = .ok (.if_icmp .ge 82, 3) := by decide +kernel
theorem dX8_nextToken_176 : decode cX8_nextToken 176 = .ok (.aload_n 0, 1) := by decide +kernel
theorem dX8_nextToken_177 : decode cX8_nextToken 177 = .ok (.getfield 31, 3) := by decide +kernel
theorem dX8_nextToken_180 : decode cX8_nextToken 180 = .ok (.aload_n 0, 1) := by decide +kernel
theorem dX8_nextToken_181 : decode cX8_nextToken 181 = .ok (.getfield 90, 3) := by decide +kernel
theorem dX8_nextToken_184 : decode cX8_nextToken 184 = .ok (.iaload, 1) := by decide +kernel
theorem dX8_nextToken_185 : decode cX8_nextToken 185 = .ok (.i2l, 1) := by decide +kernel
theorem dX8_nextToken_186 : decode cX8_nextToken 186 = .ok (.ldc2_w 101, 3) := by decide +kernel
theorem dX8_nextToken_189 : decode cX8_nextToken 189 = .ok (.ldc2_w 103, 3) := by decide +kernel
theorem dX8_nextToken_192 : decode cX8_nextToken 192 = .ok (.invokestatic 60, 3) := by decide +kernel
theorem dX8_nextToken_195 : decode cX8_nextToken 195 = .ok (.ifCond .eq 60, 3) := by decide +kernel
theorem dX8_nextToken_198 : decode cX8_nextToken 198 = .ok (.aload_n 0, 1) := by decide +kernel
theorem dX8_nextToken_199 : decode cX8_nextToken 199 = .ok (.aload_n 0, 1) := by decide +kernel
theorem dX8_nextToken_200 : decode cX8_nextToken 200 = .ok (.getfield 90, 3) := by decide +kernel
theorem dX8_nextToken_203 : decode cX8_nextToken 203 = .ok (.aload_n 0, 1) := by decide +kernel
theorem dX8_nextToken_204 : decode cX8_nextToken 204 = .ok (.getfield 84, 3) := by decide +kernel
theorem dX8_nextToken_207 : decode cX8_nextToken 207 = .ok (.isub, 1) := by decide +kernel
theorem dX8_nextToken_208 : decode cX8_nextToken 208 = .ok (.iconst 2, 1) := by decide +kernel
theorem dX8_nextToken_209 : decode cX8_nextToken 209 = .ok (.if_icmp .ge 26, 3) := by decide +kernel
theorem dX8_nextToken_212 : decode cX8_nextToken 212 = .ok (.bipush 10, 2) := by decide +kernel
theorem dX8_nextToken_214 : decode cX8_nextToken 214 = .ok (.aload_n 0, 1) := by decide +kernel
theorem dX8_nextToken_215 : decode cX8_nextToken 215 = .ok (.getfield 94, 3) := by decide +kernel
theorem dX8_nextToken_218 : decode cX8_nextToken 218 = .ok (.imul, 1) := by decide +kernel
theorem dX8_nextToken_219 : decode cX8_nextToken 219 = .ok (.aload_n 0, 1) := by decide +kernel
theorem dX8_nextToken_220 : decode cX8_nextToken 220 = .ok (.getfield 31, 3) := by decide +kernel
theorem dX8_nextToken_223 : decode cX8_nextToken 223 = .ok (.aload_n 0, 1) := by decide +kernel
theorem dX8_nextToken_224 : decode cX8_nextToken 224 = .ok (.getfield 90, 3) := by decide +kernel
theorem dX8_nextToken_227 : decode cX8_nextToken 227 = .ok (.iaload, 1) := by decide +kernel
theorem dX8_nextToken_228 : decode cX8_nextToken 228 = .ok (.iadd, 1) := by decide +kernel
theorem dX8_nextToken_229 : decode cX8_nextToken 229 = .ok (.bipush 48, 2) := by decide +kernel
theorem dX8_nextToken_231 : decode cX8_nextToken 231 = .ok (.isub, 1) := by decide +kernel
theorem dX8_nextToken_232 : decode cX8_nextToken 232 = .ok (.goto 7, 3) := by decide +kernel
theorem dX8_nextToken_235 : decode cX8_nextToken 235 = .ok (.aload_n 0, 1) := by decide +kernel
theorem dX8_nextToken_236 : decode cX8_nextToken 236 = .ok (.getfield 94, 3) := by decide +kernel
theorem dX8_nextToken_239 : decode cX8_nextToken 239 = .ok (.putfield 94, 3) := by decide +kernel
theorem dX8_nextToken_242 : decode cX8_nextToken 242 = .ok (.aload_n 0, 1) := by decide +kernel
theorem dX8_nextToken_243 : decode cX8_nextToken 243 = .ok (.dup, 1) := by decide +kernel
theorem dX8_nextToken_244 : decode cX8_nextToken 244 = .ok (.getfield 90, 3) := by decide +kernel
theorem dX8_nextToken_247 : decode cX8_nextToken 247 = .ok (.iconst 1, 1) := by decide +kernel
theorem dX8_nextToken_248 : decode cX8_nextToken 248 = .ok (.iadd, 1) := by decide +kernel
theorem dX8_nextToken_249 : decode cX8_nextToken 249 = .ok (.putfield 90, 3) := by decide +kernel
theorem dX8_nextToken_252 : decode cX8_nextToken 252 = .ok (.goto (-87), 3) := by decide +kernel
theorem dX8_nextToken_255 : decode cX8_nextToken 255 = .ok (.aload_n 0, 1) := by decide +kernel
theorem dX8_nextToken_256 : decode cX8_nextToken 256 = .ok (.aload_n 0, 1) := by decide +kernel
theorem dX8_nextToken_257 : decode cX8_nextToken 257 = .ok (.getfield 90, 3) := by decide +kernel
theorem dX8_nextToken_260 : decode cX8_nextToken 260 = .ok (.aload_n 0, 1) := by decide +kernel
theorem dX8_nextToken_261 : decode cX8_nextToken 261 = .ok (.getfield 84, 3) := by decide +kernel
theorem dX8_nextToken_264 : decode cX8_nextToken 264 = .ok (.isub, 1) := by decide +kernel
theorem dX8_nextToken_265 : decode cX8_nextToken 265 = .ok (.iconst 2, 1) := by decide +kernel
theorem dX8_nextToken_266 : decode cX8_nextToken 266 = .ok (.if_icmp .le 7, 3) := by decide +kernel
theorem dX8_nextToken_269 : decode cX8_nextToken 269 = .ok (.iconst 0, 1) := by decide +kernel
theorem dX8_nextToken_270 : decode cX8_nextToken 270 = .ok (.goto 4, 3) := by decide +kernel
theorem dX8_nextToken_273 : decode cX8_nextToken 273 = .ok (.iconst 3, 1) := by decide +kernel
theorem dX8_nextToken_274 : decode cX8_nextToken 274 = .ok (.putfield 105, 3) := by decide +kernel
theorem dX8_nextToken_277 : decode cX8_nextToken 277 = .ok (.return_, 1) := by decide +kernel
theorem dX8_must_0 : decode cX8_must 0 = .ok (.iload_n 1, 1) := by decide +kernel
theorem dX8_must_1 : decode cX8_must 1 = .ok (.ifCond .ne 8, 3) := by decide +kernel
theorem dX8_must_4 : decode cX8_must 4 = .ok (.aload_n 0, 1) := by decide +kernel
theorem dX8_must_5 : decode cX8_must 5 = .ok (.iconst 1, 1) := by decide +kernel
theorem dX8_must_6 : decode cX8_must 6 = .ok (.invokevirtual 108, 3) := by decide +kernel
theorem dX8_must_9 : decode cX8_must 9 = .ok (.aload_n 0, 1) := by decide +kernel
theorem dX8_must_10 : decode cX8_must 10 = .ok (.getfield 81, 3) := by decide +kernel
theorem dX8_must_13 : decode cX8_must 13 = .ok (.ifCond .ne 7, 3) := by decide +kernel
theorem dX8_must_16 : decode cX8_must 16 = .ok (.aload_n 0, 1) := by decide +kernel
theorem dX8_must_17 : decode cX8_must 17 = .ok (.invokevirtual 112, 3) := by decide +kernel
theorem dX8_must_20 : decode cX8_must 20 = .ok (.return_, 1) := by decide +kernel
theorem dX8_isLetter_0 : decode cX8_isLetter 0 = .ok (.aload_n 0, 1) := by decide +kernel
theorem dX8_isLetter_1 : decode cX8_isLetter 1 = .ok (.getfield 81, 3) := by decide +kernel
theorem dX8_isLetter_4 : decode cX8_isLetter 4 = .ok (.ifCond .ne 23, 3) := by decide +kernel
theorem dX8_isLetter_7 : decode cX8_isLetter 7 = .ok (.aload_n 0, 1) := by decide +kernel
theorem dX8_isLetter_8 : decode cX8_isLetter 8 = .ok (.getfield 105, 3) := by decide +kernel
theorem dX8_isLetter_11 : decode cX8_isLetter 11 = .ok (.iconst 2, 1) := by decide +kernel
theorem dX8_isLetter_12 : decode cX8_isLetter 12 = .ok (.if_icmp .ne 15, 3) := by decide +kernel
theorem dX8_isLetter_15 : decode cX8_isLetter 15 = .ok (.aload_n 0, 1) := by decide +kernel
theorem dX8_isLetter_16 : decode cX8_isLetter 16 = .ok (.getfield 94, 3) := by decide +kernel
theorem dX8_isLetter_19 : decode cX8_isLetter 19 = .ok (.iload_n 1, 1) := by decide +kernel
theorem dX8_isLetter_20 : decode cX8_isLetter 20 = .ok (.if_icmp .ne 7, 3) := by decide +kernel
theorem dX8_isLetter_23 : decode cX8_isLetter 23 = .ok (.iconst 1, 1) := by decide +kernel
theorem dX8_isLetter_24 : decode cX8_isLetter 24 = .ok (.goto 4, 3) := by decide +kernel
theorem dX8_isLetter_27 : decode cX8_isLetter 27 = .ok (.iconst 0, 1) := by decide +kernel
theorem dX8_isLetter_28 : decode cX8_isLetter 28 = .ok (.ireturn, 1) := by decide +kernel
theorem dX8_number_0 : decode cX8_number 0 = .ok (.aload_n 0, 1) := by decide +kernel
theorem dX8_number_1 : decode cX8_number 1 = .ok (.getfield 81, 3) := by decide +kernel
theorem dX8_number_4 : decode cX8_number 4 = .ok (.ifCond .ne 16, 3) := by decide +kernel
theorem dX8_number_7 : decode cX8_number 7 = .ok (.aload_n 0, 1) := by decide +kernel
theorem dX8_number_8 : decode cX8_number 8 = .ok (.getfield 105, 3) := by decide +kernel
theorem dX8_number_11 : decode cX8_number 11 = .ok (.iconst 3, 1) := by decide +kernel
theorem dX8_number_12 : decode cX8_number 12 = .ok (.if_icmp .eq 8, 3) := by decide +kernel
theorem dX8_number_15 : decode cX8_number 15 = .ok (.aload_n 0, 1) := by decide +kernel
theorem dX8_number_16 : decode cX8_number 16 = .ok (.iconst 1, 1) := by decide +kernel
theorem dX8_number_17 : decode cX8_number 17 = .ok (.invokevirtual 108, 3) := by decide +kernel
theorem dX8_number_20 : decode cX8_number 20 = .ok (.aload_n 0, 1) := by decide +kernel
theorem dX8_number_21 : decode cX8_number 21 = .ok (.getfield 81, 3) := by decide +kernel
theorem dX8_number_24 : decode cX8_number 24 = .ok (.ifCond .ne 23, 3) := by decide +kernel
theorem dX8_number_27 : decode cX8_number 27 = .ok (.aload_n 0, 1) := by decide +kernel
theorem dX8_number_28 : decode cX8_number 28 = .ok (.getfield 94, 3) := by decide +kernel
theorem dX8_number_31 : decode cX8_number 31 = .ok (.i2l, 1) := by decide +kernel
theorem dX8_number_32 : decode cX8_number 32 = .ok (.iload_n 1, 1) := by decide +kernel
theorem dX8_number_33 : decode cX8_number 33 = .ok (.i2l, 1) := by decide +kernel
theorem dX8_number_34 : decode cX8_number 34 = .ok (.iload_n 2, 1) := by decide +kernel
theorem dX8_number_35 : decode cX8_number 35 = .ok (.i2l, 1) := by decide +kernel
theorem dX8_number_36 : decode cX8_number 36 = .ok (.invokestatic 60, 3) := by decide +kernel
theorem dX8_number_39 : decode cX8_number 39 = .ok (.ifCond .ne 8, 3) := by decide +kernel
theorem dX8_number_42 : decode cX8_number 42 = .ok (.aload_n 0, 1) := by decide +kernel
theorem dX8_number_43 : decode cX8_number 43 = .ok (.iconst 2, 1) := by decide +kernel
theorem dX8_number_44 : decode cX8_number 44 = .ok (.invokevirtual 108, 3) := by decide +kernel
theorem dX8_number_47 : decode cX8_number 47 = .ok (.aload_n 0, 1) := by decide +kernel
theorem dX8_number_48 : decode cX8_number 48 = .ok (.getfield 81, 3) := by decide +kernel
theorem dX8_number_51 : decode cX8_number 51 = .ok (.ifCond .ne 10, 3) := by decide +kernel
theorem dX8_number_54 : decode cX8_number 54 = .ok (.aload_n 0, 1) := by decide +kernel
theorem dX8_number_55 : decode cX8_number 55 = .ok (.getfield 94, 3) := by decide +kernel
theorem dX8_number_58 : decode cX8_number 58 = .ok (.goto 4, 3) := by decide +kernel
theorem dX8_number_61 : decode cX8_number 61 = .ok (.iload_n 1, 1) := by decide +kernel
theorem dX8_number_62 : decode cX8_number 62 = .ok (.istore_n 3, 1) := by decide +kernel
theorem dX8_number_63 : decode cX8_number 63 = .ok (.aload_n 0, 1) := by decide +kernel
theorem dX8_number_64 : decode cX8_number 64 = .ok (.iconst 1, 1) := by decide +kernel
theorem dX8_number_65 : decode cX8_number 65 = .ok (.invokevirtual 115, 3) := by decide +kernel
theorem dX8_number_68 : decode cX8_number 68 = .ok (.iload_n 3, 1) := by decide +kernel
theorem dX8_number_69 : decode cX8_number 69 = .ok (.ireturn, 1) := by decide +kernel
theorem dX8_mustSign_0 : decode cX8_mustSign 0 = .ok (.aload_n 0, 1) := by decide +kernel
theorem dX8_mustSign_1 : decode cX8_mustSign 1 = .ok (.aload_n 0, 1) := by decide +kernel
theorem dX8_mustSign_2 : decode cX8_mustSign 2 = .ok (.getfield 105, 3) := by decide +kernel
theorem dX8_mustSign_5 : decode cX8_mustSign 5 = .ok (.iconst 4, 1) := by decide +kernel
theorem dX8_mustSign_6 : decode cX8_mustSign 6 = .ok (.if_icmp .ne 15, 3) := by decide +kernel
theorem dX8_mustSign_9 : decode cX8_mustSign 9 = .ok (.aload_n 0, 1) := by decide +kernel
theorem dX8_mustSign_10 : decode cX8_mustSign 10 = .ok (.getfield 94, 3) := by decide +kernel
theorem dX8_mustSign_13 : decode cX8_mustSign 13 = .ok (.iload_n 1, 1) := by decide +kernel
theorem dX8_mustSign_14 : decode cX8_mustSign 14 = .ok (.if_icmp .ne 7, 3) := by decide +kernel
theorem dX8_mustSign_17 : decode cX8_mustSign 17 = .ok (.iconst 1, 1) := by decide +kernel
theorem dX8_mustSign_18 : decode cX8_mustSign 18 = .ok (.goto 4, 3) := by decide +kernel
theorem dX8_mustSign_21 : decode cX8_mustSign 21 = .ok (.iconst 0, 1) := by decide +kernel
theorem dX8_mustSign_22 : decode cX8_mustSign 22 = .ok (.invokevirtual 115, 3) := by decide +kernel
theorem dX8_mustSign_25 : decode cX8_mustSign 25 = .ok (.return_, 1) := by decide +kernel
theorem dX8_begin_0 : decode cX8_begin 0 = .ok (.aload_n 0, 1) := by decide +kernel
theorem dX8_begin_1 : decode cX8_begin 1 = .ok (.iconst 0, 1) := by decide +kernel
theorem dX8_begin_2 : decode cX8_begin 2 = .ok (.putfield 90, 3) := by decide +kernel
theorem dX8_begin_5 : decode cX8_begin 5 = .ok (.aload_n 0, 1) := by decide +kernel
theorem dX8_begin_6 : decode cX8_begin 6 = .ok (.iconst 0, 1) := by decide +kernel
theorem dX8_begin_7 : decode cX8_begin 7 = .ok (.putfield 81, 3) := by decide +kernel
theorem dX8_begin_10 : decode cX8_begin 10 = .ok (.aload_n 0, 1) := by decide +kernel
theorem dX8_begin_11 : decode cX8_begin 11 = .ok (.invokevirtual 112, 3) := by decide +kernel
theorem dX8_begin_14 : decode cX8_begin 14 = .ok (.return_, 1) := by decide +kernel
theorem dX8_failed_0 : decode cX8_failed 0 = .ok (.aload_n 0, 1) := by decide +kernel
theorem dX8_failed_1 : decode cX8_failed 1 = .ok (.getfield 81, 3) := by decide +kernel
theorem dX8_failed_4 : decode cX8_failed 4 = .ok (.ifCond .ne 16, 3) := by decide +kernel
theorem dX8_failed_7 : decode cX8_failed 7 = .ok (.aload_n 0, 1) := by decide +kernel
theorem dX8_failed_8 : decode cX8_failed 8 = .ok (.getfield 105, 3) := by decide +kernel
theorem dX8_failed_11 : decode cX8_failed 11 = .ok (.iconst 1, 1) := by decide +kernel
theorem dX8_failed_12 : decode cX8_failed 12 = .ok (.if_icmp .eq 8, 3) := by decide +kernel
theorem dX8_failed_15 : decode cX8_failed 15 = .ok (.aload_n 0, 1) := by decide +kernel
theorem dX8_failed_16 : decode cX8_failed 16 = .ok (.iconst 1, 1) := by decide +kernel
theorem dX8_failed_17 : decode cX8_failed 17 = .ok (.invokevirtual 108, 3) := by decide +kernel
theorem dX8_failed_20 : decode cX8_failed 20 = .ok (.aload_n 0, 1) := by decide +kernel
theorem dX8_failed_21 : decode cX8_failed 21 = .ok (.iconst 0, 1) := by decide +kernel
theorem dX8_failed_22 : decode cX8_failed 22 = .ok (.putfield 77, 3) := by decide +kernel
theorem dX8_failed_25 : decode cX8_failed 25 = .ok (.aload_n 0, 1) := by decide +kernel
theorem dX8_failed_26 : decode cX8_failed 26 = .ok (.aload_n 0, 1) := by decide +kernel
theorem dX8_failed_27 : decode cX8_failed 27 = .ok (.getfield 81, 3) := by decide +kernel
theorem dX8_failed_30 : decode cX8_failed 30 = .ok (.ifCond .le 10, 3) := by decide +kernel
theorem dX8_failed_33 : decode cX8_failed 33 = .ok (.aload_n 0, 1) := by decide +kernel
theorem dX8_failed_34 : decode cX8_failed 34 = .ok (.getfield 81, 3) := by decide +kernel
theorem dX8_failed_37 : decode cX8_failed 37 = .ok (.goto 7, 3) := by decide +kernel
theorem dX8_failed_40 : decode cX8_failed 40 = .ok (.aload_n 0, 1) := by decide +kernel
theorem dX8_failed_41 : decode cX8_failed 41 = .ok (.getfield 119, 3) := by decide +kernel
theorem dX8_failed_44 : decode cX8_failed 44 = .ok (.putfield 119, 3) := by decide +kernel
theorem dX8_failed_47 : decode cX8_failed 47 = .ok (.aload_n 0, 1) := by decide +kernel
theorem dX8_failed_48 : decode cX8_failed 48 = .ok (.getfield 81, 3) := by decide +kernel
theorem dX8_failed_51 : decode cX8_failed 51 = .ok (.ifCond .le 7, 3) := by decide +kernel
theorem dX8_failed_54 : decode cX8_failed 54 = .ok (.iconst 1, 1) := by decide +kernel
theorem dX8_failed_55 : decode cX8_failed 55 = .ok (.goto 4, 3) := by decide +kernel
theorem dX8_failed_58 : decode cX8_failed 58 = .ok (.iconst 0, 1) := by decide +kernel
theorem dX8_failed_59 : decode cX8_failed 59 = .ok (.ireturn, 1) := by decide +kernel
theorem dX8_fault_0 : decode cX8_fault 0 = .ok (.aload_n 0, 1) := by decide +kernel
theorem dX8_fault_1 : decode cX8_fault 1 = .ok (.iconst 0, 1) := by decide +kernel
theorem dX8_fault_2 : decode cX8_fault 2 = .ok (.putfield 50, 3) := by decide +kernel
theorem dX8_fault_5 : decode cX8_fault 5 = .ok (.aload_n 0, 1) := by decide +kernel
theorem dX8_fault_6 : decode cX8_fault 6 = .ok (.getfield 119, 3) := by decide +kernel
theorem dX8_fault_9 : decode cX8_fault 9 = .ok (.ireturn, 1) := by decide +kernel
theorem dX8_kindBy_0 : decode cX8_kindBy 0 = .ok (.iload_n 0, 1) := by decide +kernel
theorem dX8_kindBy_1 : decode cX8_kindBy 1 = .ok (.bipush 115, 2) := by decide +kernel
theorem dX8_kindBy_3 : decode cX8_kindBy 3 = .ok (.if_icmp .ne 7, 3) := by decide +kernel
theorem dX8_kindBy_6 : decode cX8_kindBy 6 = .ok (.iconst 1, 1) := by decide +kernel
theorem dX8_kindBy_7 : decode cX8_kindBy 7 = .ok (.goto 45, 3) := by decide +kernel
theorem dX8_kindBy_10 : decode cX8_kindBy 10 = .ok (.iload_n 0, 1) := by decide +kernel
theorem dX8_kindBy_11 : decode cX8_kindBy 11 = .ok (.bipush 97, 2) := by decide +kernel
theorem dX8_kindBy_13 : decode cX8_kindBy 13 = .ok (.if_icmp .ne 7, 3) := by decide +kernel
theorem dX8_kindBy_16 : decode cX8_kindBy 16 = .ok (.iconst 2, 1) := by decide +kernel
theorem dX8_kindBy_17 : decode cX8_kindBy 17 = .ok (.goto 35, 3) := by decide +kernel
theorem dX8_kindBy_20 : decode cX8_kindBy 20 = .ok (.iload_n 0, 1) := by decide +kernel
theorem dX8_kindBy_21 : decode cX8_kindBy 21 = .ok (.bipush 104, 2) := by decide +kernel
theorem dX8_kindBy_23 : decode cX8_kindBy 23 = .ok (.if_icmp .ne 7, 3) := by decide +kernel
theorem dX8_kindBy_26 : decode cX8_kindBy 26 = .ok (.iconst 3, 1) := by decide +kernel
theorem dX8_kindBy_27 : decode cX8_kindBy 27 = .ok (.goto 25, 3) := by decide +kernel
theorem dX8_kindBy_30 : decode cX8_kindBy 30 = .ok (.iload_n 0, 1) := by decide +kernel
theorem dX8_kindBy_31 : decode cX8_kindBy 31 = .ok (.bipush 98, 2) := by decide +kernel
theorem dX8_kindBy_33 : decode cX8_kindBy 33 = .ok (.if_icmp .ne 7, 3) := by decide +kernel
theorem dX8_kindBy_36 : decode cX8_kindBy 36 = .ok (.iconst 4, 1) := by decide +kernel
theorem dX8_kindBy_37 : decode cX8_kindBy 37 = .ok (.goto 15, 3) := by decide +kernel
theorem dX8_kindBy_40 : decode cX8_kindBy 40 = .ok (.iload_n 0, 1) := by decide +kernel
theorem dX8_kindBy_41 : decode cX8_kindBy 41 = .ok (.bipush 116, 2) := by decide +kernel
theorem dX8_kindBy_43 : decode cX8_kindBy 43 = .ok (.if_icmp .ne 7, 3) := by decide +kernel
theorem dX8_kindBy_46 : decode cX8_kindBy 46 = .ok (.iconst 5, 1) := by decide +kernel
theorem dX8_kindBy_47 : decode cX8_kindBy 47 = .ok (.goto 5, 3) := by decide +kernel
theorem dX8_kindBy_50 : decode cX8_kindBy 50 = .ok (.ldc 93, 2) := by decide +kernel
theorem dX8_kindBy_52 : decode cX8_kindBy 52 = .ok (.ireturn, 1) := by decide +kernel
theorem dX8_isSort_0 : decode cX8_isSort 0 = .ok (.aload_n 0, 1) := by decide +kernel
theorem dX8_isSort_1 : decode cX8_isSort 1 = .ok (.getfield 81, 3) := by decide +kernel
theorem dX8_isSort_4 : decode cX8_isSort 4 = .ok (.ifCond .ne 27, 3) := by decide +kernel
theorem dX8_isSort_7 : decode cX8_isSort 7 = .ok (.aload_n 0, 1) := by decide +kernel
theorem dX8_isSort_8 : decode cX8_isSort 8 = .ok (.getfield 105, 3) := by decide +kernel
theorem dX8_isSort_11 : decode cX8_isSort 11 = .ok (.iconst 2, 1) := by decide +kernel
theorem dX8_isSort_12 : decode cX8_isSort 12 = .ok (.if_icmp .ne 19, 3) := by decide +kernel
theorem dX8_isSort_15 : decode cX8_isSort 15 = .ok (.aload_n 0, 1) := by decide +kernel
theorem dX8_isSort_16 : decode cX8_isSort 16 = .ok (.getfield 94, 3) := by decide +kernel
theorem dX8_isSort_19 : decode cX8_isSort 19 = .ok (.invokestatic 122, 3) := by decide +kernel
theorem dX8_isSort_22 : decode cX8_isSort 22 = .ok (.ldc 93, 2) := by decide +kernel
theorem dX8_isSort_24 : decode cX8_isSort 24 = .ok (.if_icmp .eq 7, 3) := by decide +kernel
theorem dX8_isSort_27 : decode cX8_isSort 27 = .ok (.iconst 1, 1) := by decide +kernel
theorem dX8_isSort_28 : decode cX8_isSort 28 = .ok (.goto 4, 3) := by decide +kernel
theorem dX8_isSort_31 : decode cX8_isSort 31 = .ok (.iconst 0, 1) := by decide +kernel
theorem dX8_isSort_32 : decode cX8_isSort 32 = .ok (.ireturn, 1) := by decide +kernel
theorem dX8_readLeaf_0 : decode cX8_readLeaf 0 = .ok (.aload_n 0, 1) := by decide +kernel
theorem dX8_readLeaf_1 : decode cX8_readLeaf 1 = .ok (.getfield 94, 3) := by decide +kernel
theorem dX8_readLeaf_4 : decode cX8_readLeaf 4 = .ok (.invokestatic 122, 3) := by decide +kernel
theorem dX8_readLeaf_7 : decode cX8_readLeaf 7 = .ok (.istore_n 1, 1) := by decide +kernel
theorem dX8_readLeaf_8 : decode cX8_readLeaf 8 = .ok (.aload_n 0, 1) := by decide +kernel
theorem dX8_readLeaf_9 : decode cX8_readLeaf 9 = .ok (.getfield 22, 3) := by decide +kernel
theorem dX8_readLeaf_12 : decode cX8_readLeaf 12 = .ok (.iconst 3, 1) := by decide +kernel
theorem dX8_readLeaf_13 : decode cX8_readLeaf 13 = .ok (.iaload, 1) := by decide +kernel
theorem dX8_readLeaf_14 : decode cX8_readLeaf 14 = .ok (.bipush 7, 2) := by decide +kernel
theorem dX8_readLeaf_16 : decode cX8_readLeaf 16 = .ok (.if_icmp .ne 8, 3) := by decide +kernel
theorem dX8_readLeaf_19 : decode cX8_readLeaf 19 = .ok (.aload_n 0, 1) := by decide +kernel
end
section
theorem dX8_readLeaf_20 : decode cX8_readLeaf 20 = .ok (.iconst 3, 1) := by decide +kernel
theorem dX8_readLeaf_21 : decode cX8_readLeaf 21 = .ok (.invokevirtual 108, 3) := by decide +kernel
theorem dX8_readLeaf_24 : decode cX8_readLeaf 24 = .ok (.aload_n 0, 1) := by decide +kernel
theorem dX8_readLeaf_25 : decode cX8_readLeaf 25 = .ok (.iconst 1, 1) := by decide +kernel
theorem dX8_readLeaf_26 : decode cX8_readLeaf 26 = .ok (.invokevirtual 115, 3) := by decide +kernel
theorem dX8_readLeaf_29 : decode cX8_readLeaf 29 = .ok (.aload_n 0, 1) := by decide +kernel
theorem dX8_readLeaf_30 : decode cX8_readLeaf 30 = .ok (.iconst 1, 1) := by decide +kernel
theorem dX8_readLeaf_31 : decode cX8_readLeaf 31 = .ok (.bipush 20, 2) := by decide +kernel
theorem dX8_readLeaf_33 : decode cX8_readLeaf 33 = .ok (.invokevirtual 125, 3) := by decide +kernel
theorem dX8_readLeaf_36 : decode cX8_readLeaf 36 = .ok (.istore_n 2, 1) := by decide +kernel
theorem dX8_readLeaf_37 : decode cX8_readLeaf 37 = .ok (.aload_n 0, 1) := by decide +kernel
theorem dX8_readLeaf_38 : decode cX8_readLeaf 38 = .ok (.bipush 44, 2) := by decide +kernel
theorem dX8_readLeaf_40 : decode cX8_readLeaf 40 = .ok (.invokevirtual 129, 3) := by decide +kernel
theorem dX8_readLeaf_43 : decode cX8_readLeaf 43 = .ok (.aload_n 0, 1) := by decide +kernel
theorem dX8_readLeaf_44 : decode cX8_readLeaf 44 = .ok (.iconst 0, 1) := by decide +kernel
theorem dX8_readLeaf_45 : decode cX8_readLeaf 45 = .ok (.bipush 9, 2) := by decide +kernel
theorem dX8_readLeaf_47 : decode cX8_readLeaf 47 = .ok (.invokevirtual 125, 3) := by decide +kernel
theorem dX8_readLeaf_50 : decode cX8_readLeaf 50 = .ok (.istore_n 3, 1) := by decide +kernel
theorem dX8_readLeaf_51 : decode cX8_readLeaf 51 = .ok (.aload_n 0, 1) := by decide +kernel
theorem dX8_readLeaf_52 : decode cX8_readLeaf 52 = .ok (.bipush 44, 2) := by decide +kernel
theorem dX8_readLeaf_54 : decode cX8_readLeaf 54 = .ok (.invokevirtual 129, 3) := by decide +kernel
theorem dX8_readLeaf_57 : decode cX8_readLeaf 57 = .ok (.aload_n 0, 1) := by decide +kernel
theorem dX8_readLeaf_58 : decode cX8_readLeaf 58 = .ok (.iconst 0, 1) := by decide +kernel
theorem dX8_readLeaf_59 : decode cX8_readLeaf 59 = .ok (.bipush 9, 2) := by decide +kernel
theorem dX8_readLeaf_61 : decode cX8_readLeaf 61 = .ok (.invokevirtual 125, 3) := by decide +kernel
theorem dX8_readLeaf_64 : decode cX8_readLeaf 64 = .ok (.istore 4, 2) := by decide +kernel
theorem dX8_readLeaf_66 : decode cX8_readLeaf 66 = .ok (.aload_n 0, 1) := by decide +kernel
theorem dX8_readLeaf_67 : decode cX8_readLeaf 67 = .ok (.bipush 59, 2) := by decide +kernel
theorem dX8_readLeaf_69 : decode cX8_readLeaf 69 = .ok (.invokevirtual 129, 3) := by decide +kernel
theorem dX8_readLeaf_72 : decode cX8_readLeaf 72 = .ok (.aload_n 0, 1) := by decide +kernel
theorem dX8_readLeaf_73 : decode cX8_readLeaf 73 = .ok (.getfield 81, 3) := by decide +kernel
theorem dX8_readLeaf_76 : decode cX8_readLeaf 76 = .ok (.ifCond .ne 75, 3) := by decide +kernel
theorem dX8_readLeaf_79 : decode cX8_readLeaf 79 = .ok (.bipush 6, 2) := by decide +kernel
theorem dX8_readLeaf_81 : decode cX8_readLeaf 81 = .ok (.iconst 5, 1) := by decide +kernel
theorem dX8_readLeaf_82 : decode cX8_readLeaf 82 = .ok (.aload_n 0, 1) := by decide +kernel
theorem dX8_readLeaf_83 : decode cX8_readLeaf 83 = .ok (.getfield 22, 3) := by decide +kernel
theorem dX8_readLeaf_86 : decode cX8_readLeaf 86 = .ok (.iconst 3, 1) := by decide +kernel
theorem dX8_readLeaf_87 : decode cX8_readLeaf 87 = .ok (.iaload, 1) := by decide +kernel
theorem dX8_readLeaf_88 : decode cX8_readLeaf 88 = .ok (.imul, 1) := by decide +kernel
theorem dX8_readLeaf_89 : decode cX8_readLeaf 89 = .ok (.iadd, 1) := by decide +kernel
theorem dX8_readLeaf_90 : decode cX8_readLeaf 90 = .ok (.istore 5, 2) := by decide +kernel
theorem dX8_readLeaf_92 : decode cX8_readLeaf 92 = .ok (.aload_n 0, 1) := by decide +kernel
theorem dX8_readLeaf_93 : decode cX8_readLeaf 93 = .ok (.getfield 22, 3) := by decide +kernel
theorem dX8_readLeaf_96 : decode cX8_readLeaf 96 = .ok (.iload 5, 2) := by decide +kernel
theorem dX8_readLeaf_98 : decode cX8_readLeaf 98 = .ok (.iload_n 1, 1) := by decide +kernel
theorem dX8_readLeaf_99 : decode cX8_readLeaf 99 = .ok (.iastore, 1) := by decide +kernel
theorem dX8_readLeaf_100 : decode cX8_readLeaf 100 = .ok (.aload_n 0, 1) := by decide +kernel
theorem dX8_readLeaf_101 : decode cX8_readLeaf 101 = .ok (.getfield 22, 3) := by decide +kernel
theorem dX8_readLeaf_104 : decode cX8_readLeaf 104 = .ok (.iload 5, 2) := by decide +kernel
theorem dX8_readLeaf_106 : decode cX8_readLeaf 106 = .ok (.iconst 1, 1) := by decide +kernel
theorem dX8_readLeaf_107 : decode cX8_readLeaf 107 = .ok (.iadd, 1) := by decide +kernel
theorem dX8_readLeaf_108 : decode cX8_readLeaf 108 = .ok (.iload_n 2, 1) := by decide +kernel
theorem dX8_readLeaf_109 : decode cX8_readLeaf 109 = .ok (.iastore, 1) := by decide +kernel
theorem dX8_readLeaf_110 : decode cX8_readLeaf 110 = .ok (.aload_n 0, 1) := by decide +kernel
theorem dX8_readLeaf_111 : decode cX8_readLeaf 111 = .ok (.getfield 22, 3) := by decide +kernel
theorem dX8_readLeaf_114 : decode cX8_readLeaf 114 = .ok (.iload 5, 2) := by decide +kernel
theorem dX8_readLeaf_116 : decode cX8_readLeaf 116 = .ok (.iconst 2, 1) := by decide +kernel
theorem dX8_readLeaf_117 : decode cX8_readLeaf 117 = .ok (.iadd, 1) := by decide +kernel
theorem dX8_readLeaf_118 : decode cX8_readLeaf 118 = .ok (.iload_n 3, 1) := by decide +kernel
theorem dX8_readLeaf_119 : decode cX8_readLeaf 119 = .ok (.iastore, 1) := by decide +kernel
theorem dX8_readLeaf_120 : decode cX8_readLeaf 120 = .ok (.aload_n 0, 1) := by decide +kernel
theorem dX8_readLeaf_121 : decode cX8_readLeaf 121 = .ok (.getfield 22, 3) := by decide +kernel
theorem dX8_readLeaf_124 : decode cX8_readLeaf 124 = .ok (.iload 5, 2) := by decide +kernel
theorem dX8_readLeaf_126 : decode cX8_readLeaf 126 = .ok (.iconst 3, 1) := by decide +kernel
theorem dX8_readLeaf_127 : decode cX8_readLeaf 127 = .ok (.iadd, 1) := by decide +kernel
theorem dX8_readLeaf_128 : decode cX8_readLeaf 128 = .ok (.iload 4, 2) := by decide +kernel
theorem dX8_readLeaf_130 : decode cX8_readLeaf 130 = .ok (.iastore, 1) := by decide +kernel
theorem dX8_readLeaf_131 : decode cX8_readLeaf 131 = .ok (.aload_n 0, 1) := by decide +kernel
theorem dX8_readLeaf_132 : decode cX8_readLeaf 132 = .ok (.getfield 22, 3) := by decide +kernel
theorem dX8_readLeaf_135 : decode cX8_readLeaf 135 = .ok (.iload 5, 2) := by decide +kernel
theorem dX8_readLeaf_137 : decode cX8_readLeaf 137 = .ok (.iconst 4, 1) := by decide +kernel
theorem dX8_readLeaf_138 : decode cX8_readLeaf 138 = .ok (.iadd, 1) := by decide +kernel
theorem dX8_readLeaf_139 : decode cX8_readLeaf 139 = .ok (.iload_n 2, 1) := by decide +kernel
theorem dX8_readLeaf_140 : decode cX8_readLeaf 140 = .ok (.iastore, 1) := by decide +kernel
theorem dX8_readLeaf_141 : decode cX8_readLeaf 141 = .ok (.aload_n 0, 1) := by decide +kernel
theorem dX8_readLeaf_142 : decode cX8_readLeaf 142 = .ok (.getfield 22, 3) := by decide +kernel
theorem dX8_readLeaf_145 : decode cX8_readLeaf 145 = .ok (.iconst 3, 1) := by decide +kernel
theorem dX8_readLeaf_146 : decode cX8_readLeaf 146 = .ok (.dup2, 1) := by decide +kernel
theorem dX8_readLeaf_147 : decode cX8_readLeaf 147 = .ok (.iaload, 1) := by decide +kernel
theorem dX8_readLeaf_148 : decode cX8_readLeaf 148 = .ok (.iconst 1, 1) := by decide +kernel
theorem dX8_readLeaf_149 : decode cX8_readLeaf 149 = .ok (.iadd, 1) := by decide +kernel
theorem dX8_readLeaf_150 : decode cX8_readLeaf 150 = .ok (.iastore, 1) := by decide +kernel
theorem dX8_readLeaf_151 : decode cX8_readLeaf 151 = .ok (.return_, 1) := by decide +kernel
theorem dX8_readGoat_0 : decode cX8_readGoat 0 = .ok (.aload_n 0, 1) := by decide +kernel
theorem dX8_readGoat_1 : decode cX8_readGoat 1 = .ok (.getfield 22, 3) := by decide +kernel
theorem dX8_readGoat_4 : decode cX8_readGoat 4 = .ok (.iconst 4, 1) := by decide +kernel
theorem dX8_readGoat_5 : decode cX8_readGoat 5 = .ok (.iaload, 1) := by decide +kernel
theorem dX8_readGoat_6 : decode cX8_readGoat 6 = .ok (.iconst 4, 1) := by decide +kernel
theorem dX8_readGoat_7 : decode cX8_readGoat 7 = .ok (.if_icmp .ne 8, 3) := by decide +kernel
theorem dX8_readGoat_10 : decode cX8_readGoat 10 = .ok (.aload_n 0, 1) := by decide +kernel
theorem dX8_readGoat_11 : decode cX8_readGoat 11 = .ok (.iconst 3, 1) := by decide +kernel
theorem dX8_readGoat_12 : decode cX8_readGoat 12 = .ok (.invokevirtual 108, 3) := by decide +kernel
theorem dX8_readGoat_15 : decode cX8_readGoat 15 = .ok (.aload_n 0, 1) := by decide +kernel
theorem dX8_readGoat_16 : decode cX8_readGoat 16 = .ok (.aload_n 0, 1) := by decide +kernel
theorem dX8_readGoat_17 : decode cX8_readGoat 17 = .ok (.bipush 103, 2) := by decide +kernel
theorem dX8_readGoat_19 : decode cX8_readGoat 19 = .ok (.invokevirtual 132, 3) := by decide +kernel
theorem dX8_readGoat_22 : decode cX8_readGoat 22 = .ok (.invokevirtual 115, 3) := by decide +kernel
theorem dX8_readGoat_25 : decode cX8_readGoat 25 = .ok (.aload_n 0, 1) := by decide +kernel
theorem dX8_readGoat_26 : decode cX8_readGoat 26 = .ok (.iconst 0, 1) := by decide +kernel
theorem dX8_readGoat_27 : decode cX8_readGoat 27 = .ok (.bipush 40, 2) := by decide +kernel
theorem dX8_readGoat_29 : decode cX8_readGoat 29 = .ok (.invokevirtual 125, 3) := by decide +kernel
theorem dX8_readGoat_32 : decode cX8_readGoat 32 = .ok (.istore_n 1, 1) := by decide +kernel
theorem dX8_readGoat_33 : decode cX8_readGoat 33 = .ok (.aload_n 0, 1) := by decide +kernel
theorem dX8_readGoat_34 : decode cX8_readGoat 34 = .ok (.bipush 44, 2) := by decide +kernel
theorem dX8_readGoat_36 : decode cX8_readGoat 36 = .ok (.invokevirtual 129, 3) := by decide +kernel
theorem dX8_readGoat_39 : decode cX8_readGoat 39 = .ok (.aload_n 0, 1) := by decide +kernel
theorem dX8_readGoat_40 : decode cX8_readGoat 40 = .ok (.iconst 0, 1) := by decide +kernel
theorem dX8_readGoat_41 : decode cX8_readGoat 41 = .ok (.bipush 9, 2) := by decide +kernel
theorem dX8_readGoat_43 : decode cX8_readGoat 43 = .ok (.invokevirtual 125, 3) := by decide +kernel
theorem dX8_readGoat_46 : decode cX8_readGoat 46 = .ok (.istore_n 2, 1) := by decide +kernel
theorem dX8_readGoat_47 : decode cX8_readGoat 47 = .ok (.aload_n 0, 1) := by decide +kernel
theorem dX8_readGoat_48 : decode cX8_readGoat 48 = .ok (.bipush 59, 2) := by decide +kernel
theorem dX8_readGoat_50 : decode cX8_readGoat 50 = .ok (.invokevirtual 129, 3) := by decide +kernel
theorem dX8_readGoat_53 : decode cX8_readGoat 53 = .ok (.aload_n 0, 1) := by decide +kernel
theorem dX8_readGoat_54 : decode cX8_readGoat 54 = .ok (.getfield 81, 3) := by decide +kernel
theorem dX8_readGoat_57 : decode cX8_readGoat 57 = .ok (.ifCond .ne 49, 3) := by decide +kernel
theorem dX8_readGoat_60 : decode cX8_readGoat 60 = .ok (.aload_n 0, 1) := by decide +kernel
theorem dX8_readGoat_61 : decode cX8_readGoat 61 = .ok (.getfield 22, 3) := by decide +kernel
theorem dX8_readGoat_64 : decode cX8_readGoat 64 = .ok (.bipush 41, 2) := by decide +kernel
theorem dX8_readGoat_66 : decode cX8_readGoat 66 = .ok (.iconst 3, 1) := by decide +kernel
theorem dX8_readGoat_67 : decode cX8_readGoat 67 = .ok (.aload_n 0, 1) := by decide +kernel
theorem dX8_readGoat_68 : decode cX8_readGoat 68 = .ok (.getfield 22, 3) := by decide +kernel
theorem dX8_readGoat_71 : decode cX8_readGoat 71 = .ok (.iconst 4, 1) := by decide +kernel
theorem dX8_readGoat_72 : decode cX8_readGoat 72 = .ok (.iaload, 1) := by decide +kernel
theorem dX8_readGoat_73 : decode cX8_readGoat 73 = .ok (.imul, 1) := by decide +kernel
theorem dX8_readGoat_74 : decode cX8_readGoat 74 = .ok (.iadd, 1) := by decide +kernel
theorem dX8_readGoat_75 : decode cX8_readGoat 75 = .ok (.iload_n 1, 1) := by decide +kernel
theorem dX8_readGoat_76 : decode cX8_readGoat 76 = .ok (.iastore, 1) := by decide +kernel
theorem dX8_readGoat_77 : decode cX8_readGoat 77 = .ok (.aload_n 0, 1) := by decide +kernel
theorem dX8_readGoat_78 : decode cX8_readGoat 78 = .ok (.getfield 22, 3) := by decide +kernel
theorem dX8_readGoat_81 : decode cX8_readGoat 81 = .ok (.bipush 41, 2) := by decide +kernel
theorem dX8_readGoat_83 : decode cX8_readGoat 83 = .ok (.iconst 3, 1) := by decide +kernel
theorem dX8_readGoat_84 : decode cX8_readGoat 84 = .ok (.aload_n 0, 1) := by decide +kernel
theorem dX8_readGoat_85 : decode cX8_readGoat 85 = .ok (.getfield 22, 3) := by decide +kernel
theorem dX8_readGoat_88 : decode cX8_readGoat 88 = .ok (.iconst 4, 1) := by decide +kernel
theorem dX8_readGoat_89 : decode cX8_readGoat 89 = .ok (.iaload, 1) := by decide +kernel
theorem dX8_readGoat_90 : decode cX8_readGoat 90 = .ok (.imul, 1) := by decide +kernel
theorem dX8_readGoat_91 : decode cX8_readGoat 91 = .ok (.iadd, 1) := by decide +kernel
theorem dX8_readGoat_92 : decode cX8_readGoat 92 = .ok (.iconst 1, 1) := by decide +kernel
theorem dX8_readGoat_93 : decode cX8_readGoat 93 = .ok (.iadd, 1) := by decide +kernel
theorem dX8_readGoat_94 : decode cX8_readGoat 94 = .ok (.iload_n 2, 1) := by decide +kernel
theorem dX8_readGoat_95 : decode cX8_readGoat 95 = .ok (.iastore, 1) := by decide +kernel
theorem dX8_readGoat_96 : decode cX8_readGoat 96 = .ok (.aload_n 0, 1) := by decide +kernel
theorem dX8_readGoat_97 : decode cX8_readGoat 97 = .ok (.getfield 22, 3) := by decide +kernel
theorem dX8_readGoat_100 : decode cX8_readGoat 100 = .ok (.iconst 4, 1) := by decide +kernel
theorem dX8_readGoat_101 : decode cX8_readGoat 101 = .ok (.dup2, 1) := by decide +kernel
theorem dX8_readGoat_102 : decode cX8_readGoat 102 = .ok (.iaload, 1) := by decide +kernel
theorem dX8_readGoat_103 : decode cX8_readGoat 103 = .ok (.iconst 1, 1) := by decide +kernel
theorem dX8_readGoat_104 : decode cX8_readGoat 104 = .ok (.iadd, 1) := by decide +kernel
theorem dX8_readGoat_105 : decode cX8_readGoat 105 = .ok (.iastore, 1) := by decide +kernel
theorem dX8_readGoat_106 : decode cX8_readGoat 106 = .ok (.return_, 1) := by decide +kernel
theorem dX8_square_0 : decode cX8_square 0 = .ok (.aload_n 0, 1) := by decide +kernel
theorem dX8_square_1 : decode cX8_square 1 = .ok (.iconst 0, 1) := by decide +kernel
theorem dX8_square_2 : decode cX8_square 2 = .ok (.putfield 50, 3) := by decide +kernel
theorem dX8_square_5 : decode cX8_square 5 = .ok (.aload_n 0, 1) := by decide +kernel
theorem dX8_square_6 : decode cX8_square 6 = .ok (.invokevirtual 135, 3) := by decide +kernel
theorem dX8_square_9 : decode cX8_square 9 = .ok (.iconst 0, 1) := by decide +kernel
theorem dX8_square_10 : decode cX8_square 10 = .ok (.istore_n 1, 1) := by decide +kernel
theorem dX8_square_11 : decode cX8_square 11 = .ok (.iload_n 1, 1) := by decide +kernel
theorem dX8_square_12 : decode cX8_square 12 = .ok (.bipush 53, 2) := by decide +kernel
theorem dX8_square_14 : decode cX8_square 14 = .ok (.if_icmp .ge 16, 3) := by decide +kernel
theorem dX8_square_17 : decode cX8_square 17 = .ok (.aload_n 0, 1) := by decide +kernel
theorem dX8_square_18 : decode cX8_square 18 = .ok (.getfield 22, 3) := by decide +kernel
theorem dX8_square_21 : decode cX8_square 21 = .ok (.iload_n 1, 1) := by decide +kernel
theorem dX8_square_22 : decode cX8_square 22 = .ok (.iconst 0, 1) := by decide +kernel
theorem dX8_square_23 : decode cX8_square 23 = .ok (.iastore, 1) := by decide +kernel
theorem dX8_square_24 : decode cX8_square 24 = .ok (.iinc 1 1, 3) := by decide +kernel
theorem dX8_square_27 : decode cX8_square 27 = .ok (.goto (-16), 3) := by decide +kernel
theorem dX8_square_30 : decode cX8_square 30 = .ok (.aload_n 0, 1) := by decide +kernel
theorem dX8_square_31 : decode cX8_square 31 = .ok (.getfield 22, 3) := by decide +kernel
theorem dX8_square_34 : decode cX8_square 34 = .ok (.iconst 0, 1) := by decide +kernel
theorem dX8_square_35 : decode cX8_square 35 = .ok (.iconst 1, 1) := by decide +kernel
theorem dX8_square_36 : decode cX8_square 36 = .ok (.iastore, 1) := by decide +kernel
theorem dX8_square_37 : decode cX8_square 37 = .ok (.aload_n 0, 1) := by decide +kernel
theorem dX8_square_38 : decode cX8_square 38 = .ok (.aload_n 0, 1) := by decide +kernel
theorem dX8_square_39 : decode cX8_square 39 = .ok (.bipush 118, 2) := by decide +kernel
theorem dX8_square_41 : decode cX8_square 41 = .ok (.invokevirtual 132, 3) := by decide +kernel
theorem dX8_square_44 : decode cX8_square 44 = .ok (.invokevirtual 115, 3) := by decide +kernel
theorem dX8_square_47 : decode cX8_square 47 = .ok (.aload_n 0, 1) := by decide +kernel
theorem dX8_square_48 : decode cX8_square 48 = .ok (.getfield 22, 3) := by decide +kernel
theorem dX8_square_51 : decode cX8_square 51 = .ok (.iconst 1, 1) := by decide +kernel
theorem dX8_square_52 : decode cX8_square 52 = .ok (.aload_n 0, 1) := by decide +kernel
theorem dX8_square_53 : decode cX8_square 53 = .ok (.iconst 0, 1) := by decide +kernel
theorem dX8_square_54 : decode cX8_square 54 = .ok (.bipush 9, 2) := by decide +kernel
theorem dX8_square_56 : decode cX8_square 56 = .ok (.invokevirtual 125, 3) := by decide +kernel
theorem dX8_square_59 : decode cX8_square 59 = .ok (.iastore, 1) := by decide +kernel
theorem dX8_square_60 : decode cX8_square 60 = .ok (.aload_n 0, 1) := by decide +kernel
theorem dX8_square_61 : decode cX8_square 61 = .ok (.bipush 44, 2) := by decide +kernel
theorem dX8_square_63 : decode cX8_square 63 = .ok (.invokevirtual 129, 3) := by decide +kernel
theorem dX8_square_66 : decode cX8_square 66 = .ok (.aload_n 0, 1) := by decide +kernel
theorem dX8_square_67 : decode cX8_square 67 = .ok (.getfield 22, 3) := by decide +kernel
theorem dX8_square_70 : decode cX8_square 70 = .ok (.iconst 2, 1) := by decide +kernel
theorem dX8_square_71 : decode cX8_square 71 = .ok (.aload_n 0, 1) := by decide +kernel
theorem dX8_square_72 : decode cX8_square 72 = .ok (.iconst 1, 1) := by decide +kernel
theorem dX8_square_73 : decode cX8_square 73 = .ok (.bipush 9, 2) := by decide +kernel
theorem dX8_square_75 : decode cX8_square 75 = .ok (.invokevirtual 125, 3) := by decide +kernel
theorem dX8_square_78 : decode cX8_square 78 = .ok (.iastore, 1) := by decide +kernel
theorem dX8_square_79 : decode cX8_square 79 = .ok (.aload_n 0, 1) := by decide +kernel
theorem dX8_square_80 : decode cX8_square 80 = .ok (.bipush 59, 2) := by decide +kernel
theorem dX8_square_82 : decode cX8_square 82 = .ok (.invokevirtual 129, 3) := by decide +kernel
theorem dX8_square_85 : decode cX8_square 85 = .ok (.aload_n 0, 1) := by decide +kernel
theorem dX8_square_86 : decode cX8_square 86 = .ok (.invokevirtual 138, 3) := by decide +kernel
theorem dX8_square_89 : decode cX8_square 89 = .ok (.ifCond .ne 8, 3) := by decide +kernel
theorem dX8_square_92 : decode cX8_square 92 = .ok (.aload_n 0, 1) := by decide +kernel
theorem dX8_square_93 : decode cX8_square 93 = .ok (.iconst 1, 1) := by decide +kernel
theorem dX8_square_94 : decode cX8_square 94 = .ok (.invokevirtual 108, 3) := by decide +kernel
theorem dX8_square_97 : decode cX8_square 97 = .ok (.aload_n 0, 1) := by decide +kernel
theorem dX8_square_98 : decode cX8_square 98 = .ok (.invokevirtual 138, 3) := by decide +kernel
theorem dX8_square_101 : decode cX8_square 101 = .ok (.ifCond .eq 10, 3) := by decide +kernel
theorem dX8_square_104 : decode cX8_square 104 = .ok (.aload_n 0, 1) := by decide +kernel
theorem dX8_square_105 : decode cX8_square 105 = .ok (.invokevirtual 142, 3) := by decide +kernel
theorem dX8_square_108 : decode cX8_square 108 = .ok (.goto (-11), 3) := by decide +kernel
theorem dX8_square_111 : decode cX8_square 111 = .ok (.aload_n 0, 1) := by decide +kernel
theorem dX8_square_112 : decode cX8_square 112 = .ok (.bipush 103, 2) := by decide +kernel
theorem dX8_square_114 : decode cX8_square 114 = .ok (.invokevirtual 132, 3) := by decide +kernel
theorem dX8_square_117 : decode cX8_square 117 = .ok (.ifCond .ne 8, 3) := by decide +kernel
theorem dX8_square_120 : decode cX8_square 120 = .ok (.aload_n 0, 1) := by decide +kernel
theorem dX8_square_121 : decode cX8_square 121 = .ok (.iconst 1, 1) := by decide +kernel
theorem dX8_square_122 : decode cX8_square 122 = .ok (.invokevirtual 108, 3) := by decide +kernel
theorem dX8_square_125 : decode cX8_square 125 = .ok (.aload_n 0, 1) := by decide +kernel
theorem dX8_square_126 : decode cX8_square 126 = .ok (.bipush 103, 2) := by decide +kernel
theorem dX8_square_128 : decode cX8_square 128 = .ok (.invokevirtual 132, 3) := by decide +kernel
theorem dX8_square_131 : decode cX8_square 131 = .ok (.ifCond .eq 10, 3) := by decide +kernel
theorem dX8_square_134 : decode cX8_square 134 = .ok (.aload_n 0, 1) := by decide +kernel
theorem dX8_square_135 : decode cX8_square 135 = .ok (.invokevirtual 145, 3) := by decide +kernel
theorem dX8_square_138 : decode cX8_square 138 = .ok (.goto (-13), 3) := by decide +kernel
theorem dX8_square_141 : decode cX8_square 141 = .ok (.aload_n 0, 1) := by decide +kernel
theorem dX8_square_142 : decode cX8_square 142 = .ok (.invokevirtual 148, 3) := by decide +kernel
theorem dX8_square_145 : decode cX8_square 145 = .ok (.ifCond .eq 11, 3) := by decide +kernel
theorem dX8_square_148 : decode cX8_square 148 = .ok (.ldc 151, 2) := by decide +kernel
theorem dX8_square_150 : decode cX8_square 150 = .ok (.aload_n 0, 1) := by decide +kernel
theorem dX8_square_151 : decode cX8_square 151 = .ok (.getfield 87, 3) := by decide +kernel
theorem dX8_square_154 : decode cX8_square 154 = .ok (.isub, 1) := by decide +kernel
theorem dX8_square_155 : decode cX8_square 155 = .ok (.ireturn, 1) := by decide +kernel
theorem dX8_square_156 : decode cX8_square 156 = .ok (.aload_n 0, 1) := by decide +kernel
theorem dX8_square_157 : decode cX8_square 157 = .ok (.iconst 0, 1) := by decide +kernel
theorem dX8_square_158 : decode cX8_square 158 = .ok (.putfield 152, 3) := by decide +kernel
theorem dX8_square_161 : decode cX8_square 161 = .ok (.iconst 0, 1) := by decide +kernel
theorem dX8_square_162 : decode cX8_square 162 = .ok (.istore_n 1, 1) := by decide +kernel
theorem dX8_square_163 : decode cX8_square 163 = .ok (.iload_n 1, 1) := by decide +kernel
theorem dX8_square_164 : decode cX8_square 164 = .ok (.bipush 53, 2) := by decide +kernel
theorem dX8_square_166 : decode cX8_square 166 = .ok (.if_icmp .ge 21, 3) := by decide +kernel
theorem dX8_square_169 : decode cX8_square 169 = .ok (.aload_n 0, 1) := by decide +kernel
theorem dX8_square_170 : decode cX8_square 170 = .ok (.getfield 19, 3) := by decide +kernel
theorem dX8_square_173 : decode cX8_square 173 = .ok (.iload_n 1, 1) := by decide +kernel
theorem dX8_square_174 : decode cX8_square 174 = .ok (.aload_n 0, 1) := by decide +kernel
theorem dX8_square_175 : decode cX8_square 175 = .ok (.getfield 22, 3) := by decide +kernel
theorem dX8_square_178 : decode cX8_square 178 = .ok (.iload_n 1, 1) := by decide +kernel
theorem dX8_square_179 : decode cX8_square 179 = .ok (.iaload, 1) := by decide +kernel
theorem dX8_square_180 : decode cX8_square 180 = .ok (.iastore, 1) := by decide +kernel
theorem dX8_square_181 : decode cX8_square 181 = .ok (.iinc 1 1, 3) := by decide +kernel
theorem dX8_square_184 : decode cX8_square 184 = .ok (.goto (-21), 3) := by decide +kernel
theorem dX8_square_187 : decode cX8_square 187 = .ok (.aload_n 0, 1) := by decide +kernel
theorem dX8_square_188 : decode cX8_square 188 = .ok (.getfield 19, 3) := by decide +kernel
theorem dX8_square_191 : decode cX8_square 191 = .ok (.iconst 3, 1) := by decide +kernel
theorem dX8_square_192 : decode cX8_square 192 = .ok (.iaload, 1) := by decide +kernel
theorem dX8_square_193 : decode cX8_square 193 = .ok (.ireturn, 1) := by decide +kernel
theorem dX8_isThere_0 : decode cX8_isThere 0 = .ok (.aload_n 0, 1) := by decide +kernel
theorem dX8_isThere_1 : decode cX8_isThere 1 = .ok (.getfield 19, 3) := by decide +kernel
theorem dX8_isThere_4 : decode cX8_isThere 4 = .ok (.iconst 0, 1) := by decide +kernel
theorem dX8_isThere_5 : decode cX8_isThere 5 = .ok (.iaload, 1) := by decide +kernel
theorem dX8_isThere_6 : decode cX8_isThere 6 = .ok (.iconst 1, 1) := by decide +kernel
theorem dX8_isThere_7 : decode cX8_isThere 7 = .ok (.if_icmp .ne 7, 3) := by decide +kernel
theorem dX8_isThere_10 : decode cX8_isThere 10 = .ok (.iconst 1, 1) := by decide +kernel
theorem dX8_isThere_11 : decode cX8_isThere 11 = .ok (.goto 4, 3) := by decide +kernel
theorem dX8_isThere_14 : decode cX8_isThere 14 = .ok (.iconst 0, 1) := by decide +kernel
theorem dX8_isThere_15 : decode cX8_isThere 15 = .ok (.ireturn, 1) := by decide +kernel
theorem dX8_isLeaf_0 : decode cX8_isLeaf 0 = .ok (.iload_n 1, 1) := by decide +kernel
theorem dX8_isLeaf_1 : decode cX8_isLeaf 1 = .ok (.i2l, 1) := by decide +kernel
theorem dX8_isLeaf_2 : decode cX8_isLeaf 2 = .ok (.lconst 0, 1) := by decide +kernel
theorem dX8_isLeaf_3 : decode cX8_isLeaf 3 = .ok (.aload_n 0, 1) := by decide +kernel
theorem dX8_isLeaf_4 : decode cX8_isLeaf 4 = .ok (.getfield 19, 3) := by decide +kernel
theorem dX8_isLeaf_7 : decode cX8_isLeaf 7 = .ok (.iconst 3, 1) := by decide +kernel
theorem dX8_isLeaf_8 : decode cX8_isLeaf 8 = .ok (.iaload, 1) := by decide +kernel
theorem dX8_isLeaf_9 : decode cX8_isLeaf 9 = .ok (.iconst 1, 1) := by decide +kernel
theorem dX8_isLeaf_10 : decode cX8_isLeaf 10 = .ok (.isub, 1) := by decide +kernel
theorem dX8_isLeaf_11 : decode cX8_isLeaf 11 = .ok (.i2l, 1) := by decide +kernel
theorem dX8_isLeaf_12 : decode cX8_isLeaf 12 = .ok (.invokestatic 60, 3) := by decide +kernel
theorem dX8_isLeaf_15 : decode cX8_isLeaf 15 = .ok (.ireturn, 1) := by decide +kernel
theorem dX8_isGoat_0 : decode cX8_isGoat 0 = .ok (.iload_n 1, 1) := by decide +kernel
theorem dX8_isGoat_1 : decode cX8_isGoat 1 = .ok (.i2l, 1) := by decide +kernel
theorem dX8_isGoat_2 : decode cX8_isGoat 2 = .ok (.lconst 0, 1) := by decide +kernel
theorem dX8_isGoat_3 : decode cX8_isGoat 3 = .ok (.aload_n 0, 1) := by decide +kernel
theorem dX8_isGoat_4 : decode cX8_isGoat 4 = .ok (.getfield 19, 3) := by decide +kernel
theorem dX8_isGoat_7 : decode cX8_isGoat 7 = .ok (.iconst 4, 1) := by decide +kernel
theorem dX8_isGoat_8 : decode cX8_isGoat 8 = .ok (.iaload, 1) := by decide +kernel
theorem dX8_isGoat_9 : decode cX8_isGoat 9 = .ok (.iconst 1, 1) := by decide +kernel
theorem dX8_isGoat_10 : decode cX8_isGoat 10 = .ok (.isub, 1) := by decide +kernel
theorem dX8_isGoat_11 : decode cX8_isGoat 11 = .ok (.i2l, 1) := by decide +kernel
theorem dX8_isGoat_12 : decode cX8_isGoat 12 = .ok (.invokestatic 60, 3) := by decide +kernel
theorem dX8_isGoat_15 : decode cX8_isGoat 15 = .ok (.ireturn, 1) := by decide +kernel
theorem dX8_areLeaves_0 : decode cX8_areLeaves 0 = .ok (.iload_n 1, 1) := by decide +kernel
theorem dX8_areLeaves_1 : decode cX8_areLeaves 1 = .ok (.i2l, 1) := by decide +kernel
theorem dX8_areLeaves_2 : decode cX8_areLeaves 2 = .ok (.lconst 0, 1) := by decide +kernel
theorem dX8_areLeaves_3 : decode cX8_areLeaves 3 = .ok (.iconst 1, 1) := by decide +kernel
theorem dX8_areLeaves_4 : decode cX8_areLeaves 4 = .ok (.aload_n 0, 1) := by decide +kernel
theorem dX8_areLeaves_5 : decode cX8_areLeaves 5 = .ok (.getfield 19, 3) := by decide +kernel
theorem dX8_areLeaves_8 : decode cX8_areLeaves 8 = .ok (.iconst 3, 1) := by decide +kernel
theorem dX8_areLeaves_9 : decode cX8_areLeaves 9 = .ok (.iaload, 1) := by decide +kernel
theorem dX8_areLeaves_10 : decode cX8_areLeaves 10 = .ok (.ishl, 1) := by decide +kernel
theorem dX8_areLeaves_11 : decode cX8_areLeaves 11 = .ok (.iconst 1, 1) := by decide +kernel
theorem dX8_areLeaves_12 : decode cX8_areLeaves 12 = .ok (.isub, 1) := by decide +kernel
theorem dX8_areLeaves_13 : decode cX8_areLeaves 13 = .ok (.i2l, 1) := by decide +kernel
theorem dX8_areLeaves_14 : decode cX8_areLeaves 14 = .ok (.invokestatic 60, 3) := by decide +kernel
theorem dX8_areLeaves_17 : decode cX8_areLeaves 17 = .ok (.ireturn, 1) := by decide +kernel
theorem dX8_bits_0 : decode cX8_bits 0 = .ok (.iconst 0, 1) := by decide +kernel
theorem dX8_bits_1 : decode cX8_bits 1 = .ok (.istore_n 1, 1) := by decide +kernel
theorem dX8_bits_2 : decode cX8_bits 2 = .ok (.iconst 0, 1) := by decide +kernel
theorem dX8_bits_3 : decode cX8_bits 3 = .ok (.istore_n 2, 1) := by decide +kernel
theorem dX8_bits_4 : decode cX8_bits 4 = .ok (.iload_n 2, 1) := by decide +kernel
theorem dX8_bits_5 : decode cX8_bits 5 = .ok (.bipush 7, 2) := by decide +kernel
theorem dX8_bits_7 : decode cX8_bits 7 = .ok (.if_icmp .ge 17, 3) := by decide +kernel
theorem dX8_bits_10 : decode cX8_bits 10 = .ok (.iload_n 1, 1) := by decide +kernel
theorem dX8_bits_11 : decode cX8_bits 11 = .ok (.iload_n 0, 1) := by decide +kernel
theorem dX8_bits_12 : decode cX8_bits 12 = .ok (.iload_n 2, 1) := by decide +kernel
theorem dX8_bits_13 : decode cX8_bits 13 = .ok (.ishr, 1) := by decide +kernel
theorem dX8_bits_14 : decode cX8_bits 14 = .ok (.iconst 1, 1) := by decide +kernel
theorem dX8_bits_15 : decode cX8_bits 15 = .ok (.iand, 1) := by decide +kernel
theorem dX8_bits_16 : decode cX8_bits 16 = .ok (.iadd, 1) := by decide +kernel
theorem dX8_bits_17 : decode cX8_bits 17 = .ok (.istore_n 1, 1) := by decide +kernel
theorem dX8_bits_18 : decode cX8_bits 18 = .ok (.iinc 2 1, 3) := by decide +kernel
theorem dX8_bits_21 : decode cX8_bits 21 = .ok (.goto (-17), 3) := by decide +kernel
theorem dX8_bits_24 : decode cX8_bits 24 = .ok (.iload_n 1, 1) := by decide +kernel
theorem dX8_bits_25 : decode cX8_bits 25 = .ok (.ireturn, 1) := by decide +kernel
theorem dX8_has_0 : decode cX8_has 0 = .ok (.iload_n 0, 1) := by decide +kernel
theorem dX8_has_1 : decode cX8_has 1 = .ok (.iload_n 1, 1) := by decide +kernel
theorem dX8_has_2 : decode cX8_has 2 = .ok (.ishr, 1) := by decide +kernel
theorem dX8_has_3 : decode cX8_has 3 = .ok (.iconst 1, 1) := by decide +kernel
theorem dX8_has_4 : decode cX8_has 4 = .ok (.iand, 1) := by decide +kernel
theorem dX8_has_5 : decode cX8_has 5 = .ok (.iconst 1, 1) := by decide +kernel
theorem dX8_has_6 : decode cX8_has 6 = .ok (.if_icmp .ne 7, 3) := by decide +kernel
theorem dX8_has_9 : decode cX8_has 9 = .ok (.iconst 1, 1) := by decide +kernel
theorem dX8_has_10 : decode cX8_has 10 = .ok (.goto 4, 3) := by decide +kernel
theorem dX8_has_13 : decode cX8_has 13 = .ok (.iconst 0, 1) := by decide +kernel
theorem dX8_has_14 : decode cX8_has 14 = .ok (.ireturn, 1) := by decide +kernel
theorem dX8_of_0 : decode cX8_of 0 = .ok (.aload_n 0, 1) := by decide +kernel
theorem dX8_of_1 : decode cX8_of 1 = .ok (.bipush 6, 2) := by decide +kernel
theorem dX8_of_3 : decode cX8_of 3 = .ok (.iconst 5, 1) := by decide +kernel
theorem dX8_of_4 : decode cX8_of 4 = .ok (.iload_n 1, 1) := by decide +kernel
theorem dX8_of_5 : decode cX8_of 5 = .ok (.imul, 1) := by decide +kernel
theorem dX8_of_6 : decode cX8_of 6 = .ok (.iadd, 1) := by decide +kernel
theorem dX8_of_7 : decode cX8_of 7 = .ok (.iload_n 2, 1) := by decide +kernel
theorem dX8_of_8 : decode cX8_of 8 = .ok (.iadd, 1) := by decide +kernel
theorem dX8_of_9 : decode cX8_of 9 = .ok (.iaload, 1) := by decide +kernel
theorem dX8_of_10 : decode cX8_of 10 = .ok (.ireturn, 1) := by decide +kernel
theorem dX8_its_0 : decode cX8_its 0 = .ok (.aload_n 0, 1) := by decide +kernel
theorem dX8_its_1 : decode cX8_its 1 = .ok (.bipush 41, 2) := by decide +kernel
theorem dX8_its_3 : decode cX8_its 3 = .ok (.iconst 3, 1) := by decide +kernel
theorem dX8_its_4 : decode cX8_its 4 = .ok (.iload_n 1, 1) := by decide +kernel
theorem dX8_its_5 : decode cX8_its 5 = .ok (.imul, 1) := by decide +kernel
theorem dX8_its_6 : decode cX8_its 6 = .ok (.iadd, 1) := by decide +kernel
theorem dX8_its_7 : decode cX8_its 7 = .ok (.iload_n 2, 1) := by decide +kernel
theorem dX8_its_8 : decode cX8_its 8 = .ok (.iadd, 1) := by decide +kernel
theorem dX8_its_9 : decode cX8_its 9 = .ok (.iaload, 1) := by decide +kernel
theorem dX8_its_10 : decode cX8_its 10 = .ok (.ireturn, 1) := by decide +kernel
theorem dX8_liked_0 : decode cX8_liked 0 = .ok (.aload_n 0, 1) := by decide +kernel
theorem dX8_liked_1 : decode cX8_liked 1 = .ok (.iload_n 1, 1) := by decide +kernel
theorem dX8_liked_2 : decode cX8_liked 2 = .ok (.iconst 0, 1) := by decide +kernel
theorem dX8_liked_3 : decode cX8_liked 3 = .ok (.invokestatic 155, 3) := by decide +kernel
theorem dX8_liked_6 : decode cX8_liked 6 = .ok (.istore_n 2, 1) := by decide +kernel
theorem dX8_liked_7 : decode cX8_liked 7 = .ok (.aload_n 0, 1) := by decide +kernel
theorem dX8_liked_8 : decode cX8_liked 8 = .ok (.iload_n 1, 1) := by decide +kernel
theorem dX8_liked_9 : decode cX8_liked 9 = .ok (.iconst 3, 1) := by decide +kernel
theorem dX8_liked_10 : decode cX8_liked 10 = .ok (.invokestatic 155, 3) := by decide +kernel
theorem dX8_liked_13 : decode cX8_liked 13 = .ok (.iload_n 2, 1) := by decide +kernel
theorem dX8_liked_14 : decode cX8_liked 14 = .ok (.iconst 2, 1) := by decide +kernel
theorem dX8_liked_15 : decode cX8_liked 15 = .ok (.if_icmp .ne 9, 3) := by decide +kernel
theorem dX8_liked_18 : decode cX8_liked 18 = .ok (.aload_n 0, 1) := by decide +kernel
theorem dX8_liked_19 : decode cX8_liked 19 = .ok (.iconst 2, 1) := by decide +kernel
theorem dX8_liked_20 : decode cX8_liked 20 = .ok (.iaload, 1) := by decide +kernel
theorem dX8_liked_21 : decode cX8_liked 21 = .ok (.goto 14, 3) := by decide +kernel
theorem dX8_liked_24 : decode cX8_liked 24 = .ok (.iload_n 2, 1) := by decide +kernel
theorem dX8_liked_25 : decode cX8_liked 25 = .ok (.iconst 4, 1) := by decide +kernel
theorem dX8_liked_26 : decode cX8_liked 26 = .ok (.if_icmp .lt 8, 3) := by decide +kernel
theorem dX8_liked_29 : decode cX8_liked 29 = .ok (.bipush (-3), 2) := by decide +kernel
theorem dX8_liked_31 : decode cX8_liked 31 = .ok (.goto 4, 3) := by decide +kernel
theorem dX8_liked_34 : decode cX8_liked 34 = .ok (.iconst 0, 1) := by decide +kernel
theorem dX8_liked_35 : decode cX8_liked 35 = .ok (.iadd, 1) := by decide +kernel
theorem dX8_liked_36 : decode cX8_liked 36 = .ok (.istore_n 3, 1) := by decide +kernel
theorem dX8_liked_37 : decode cX8_liked 37 = .ok (.iload_n 3, 1) := by decide +kernel
theorem dX8_liked_38 : decode cX8_liked 38 = .ok (.ifCond .lt 26, 3) := by decide +kernel
theorem dX8_liked_41 : decode cX8_liked 41 = .ok (.aload_n 0, 1) := by decide +kernel
theorem dX8_liked_42 : decode cX8_liked 42 = .ok (.iload_n 1, 1) := by decide +kernel
theorem dX8_liked_43 : decode cX8_liked 43 = .ok (.iconst 4, 1) := by decide +kernel
theorem dX8_liked_44 : decode cX8_liked 44 = .ok (.invokestatic 155, 3) := by decide +kernel
theorem dX8_liked_47 : decode cX8_liked 47 = .ok (.ifCond .eq 17, 3) := by decide +kernel
theorem dX8_liked_50 : decode cX8_liked 50 = .ok (.iload_n 2, 1) := by decide +kernel
theorem dX8_liked_51 : decode cX8_liked 51 = .ok (.iconst 5, 1) := by decide +kernel
theorem dX8_liked_52 : decode cX8_liked 52 = .ok (.if_icmp .ne 16, 3) := by decide +kernel
theorem dX8_liked_55 : decode cX8_liked 55 = .ok (.aload_n 0, 1) := by decide +kernel
theorem dX8_liked_56 : decode cX8_liked 56 = .ok (.iconst 5, 1) := by decide +kernel
theorem dX8_liked_57 : decode cX8_liked 57 = .ok (.iaload, 1) := by decide +kernel
theorem dX8_liked_58 : decode cX8_liked 58 = .ok (.iconst 2, 1) := by decide +kernel
theorem dX8_liked_59 : decode cX8_liked 59 = .ok (.irem, 1) := by decide +kernel
theorem dX8_liked_60 : decode cX8_liked 60 = .ok (.iconst 1, 1) := by decide +kernel
theorem dX8_liked_61 : decode cX8_liked 61 = .ok (.if_icmp .ne 7, 3) := by decide +kernel
theorem dX8_liked_64 : decode cX8_liked 64 = .ok (.iconst 1, 1) := by decide +kernel
theorem dX8_liked_65 : decode cX8_liked 65 = .ok (.goto 4, 3) := by decide +kernel
theorem dX8_liked_68 : decode cX8_liked 68 = .ok (.iconst 0, 1) := by decide +kernel
theorem dX8_liked_69 : decode cX8_liked 69 = .ok (.istore 4, 2) := by decide +kernel
theorem dX8_liked_71 : decode cX8_liked 71 = .ok (.iload 4, 2) := by decide +kernel
theorem dX8_liked_73 : decode cX8_liked 73 = .ok (.ifCond .eq 8, 3) := by decide +kernel
theorem dX8_liked_76 : decode cX8_liked 76 = .ok (.ldc 93, 2) := by decide +kernel
theorem dX8_liked_78 : decode cX8_liked 78 = .ok (.goto 4, 3) := by decide +kernel
theorem dX8_liked_81 : decode cX8_liked 81 = .ok (.iload_n 3, 1) := by decide +kernel
theorem dX8_liked_82 : decode cX8_liked 82 = .ok (.ireturn, 1) := by decide +kernel
theorem dX8_bitten_0 : decode cX8_bitten 0 = .ok (.aload_n 0, 1) := by decide +kernel
theorem dX8_bitten_1 : decode cX8_bitten 1 = .ok (.iload_n 1, 1) := by decide +kernel
theorem dX8_bitten_2 : decode cX8_bitten 2 = .ok (.iconst 0, 1) := by decide +kernel
theorem dX8_bitten_3 : decode cX8_bitten 3 = .ok (.invokestatic 159, 3) := by decide +kernel
theorem dX8_bitten_6 : decode cX8_bitten 6 = .ok (.ifCond .eq 12, 3) := by decide +kernel
theorem dX8_bitten_9 : decode cX8_bitten 9 = .ok (.aload_n 0, 1) := by decide +kernel
theorem dX8_bitten_10 : decode cX8_bitten 10 = .ok (.iload_n 1, 1) := by decide +kernel
theorem dX8_bitten_11 : decode cX8_bitten 11 = .ok (.iconst 2, 1) := by decide +kernel
theorem dX8_bitten_12 : decode cX8_bitten 12 = .ok (.invokestatic 159, 3) := by decide +kernel
theorem dX8_bitten_15 : decode cX8_bitten 15 = .ok (.ifCond .le 6, 3) := by decide +kernel
theorem dX8_bitten_18 : decode cX8_bitten 18 = .ok (.ldc 93, 2) := by decide +kernel
theorem dX8_bitten_20 : decode cX8_bitten 20 = .ok (.ireturn, 1) := by decide +kernel
theorem dX8_bitten_21 : decode cX8_bitten 21 = .ok (.ldc 93, 2) := by decide +kernel
theorem dX8_bitten_23 : decode cX8_bitten 23 = .ok (.istore_n 2, 1) := by decide +kernel
theorem dX8_bitten_24 : decode cX8_bitten 24 = .ok (.ldc 93, 2) := by decide +kernel
theorem dX8_bitten_26 : decode cX8_bitten 26 = .ok (.istore_n 3, 1) := by decide +kernel
theorem dX8_bitten_27 : decode cX8_bitten 27 = .ok (.iconst 0, 1) := by decide +kernel
theorem dX8_bitten_28 : decode cX8_bitten 28 = .ok (.istore 4, 2) := by decide +kernel
theorem dX8_bitten_30 : decode cX8_bitten 30 = .ok (.iload 4, 2) := by decide +kernel
theorem dX8_bitten_32 : decode cX8_bitten 32 = .ok (.aload_n 0, 1) := by decide +kernel
theorem dX8_bitten_33 : decode cX8_bitten 33 = .ok (.iconst 3, 1) := by decide +kernel
theorem dX8_bitten_34 : decode cX8_bitten 34 = .ok (.iaload, 1) := by decide +kernel
theorem dX8_bitten_35 : decode cX8_bitten 35 = .ok (.if_icmp .ge 64, 3) := by decide +kernel
theorem dX8_bitten_38 : decode cX8_bitten 38 = .ok (.aload_n 0, 1) := by decide +kernel
theorem dX8_bitten_39 : decode cX8_bitten 39 = .ok (.iload 4, 2) := by decide +kernel
theorem dX8_bitten_41 : decode cX8_bitten 41 = .ok (.iconst 2, 1) := by decide +kernel
theorem dX8_bitten_42 : decode cX8_bitten 42 = .ok (.invokestatic 155, 3) := by decide +kernel
theorem dX8_bitten_45 : decode cX8_bitten 45 = .ok (.aload_n 0, 1) := by decide +kernel
theorem dX8_bitten_46 : decode cX8_bitten 46 = .ok (.iload_n 1, 1) := by decide +kernel
theorem dX8_bitten_47 : decode cX8_bitten 47 = .ok (.iconst 1, 1) := by decide +kernel
theorem dX8_bitten_48 : decode cX8_bitten 48 = .ok (.invokestatic 159, 3) := by decide +kernel
theorem dX8_bitten_51 : decode cX8_bitten 51 = .ok (.if_icmp .le 8, 3) := by decide +kernel
theorem dX8_bitten_54 : decode cX8_bitten 54 = .ok (.ldc 93, 2) := by decide +kernel
theorem dX8_bitten_56 : decode cX8_bitten 56 = .ok (.goto 9, 3) := by decide +kernel
theorem dX8_bitten_59 : decode cX8_bitten 59 = .ok (.aload_n 0, 1) := by decide +kernel
theorem dX8_bitten_60 : decode cX8_bitten 60 = .ok (.iload 4, 2) := by decide +kernel
theorem dX8_bitten_62 : decode cX8_bitten 62 = .ok (.invokestatic 162, 3) := by decide +kernel
theorem dX8_bitten_65 : decode cX8_bitten 65 = .ok (.istore 5, 2) := by decide +kernel
theorem dX8_bitten_67 : decode cX8_bitten 67 = .ok (.iload 5, 2) := by decide +kernel
theorem dX8_bitten_69 : decode cX8_bitten 69 = .ok (.iload_n 3, 1) := by decide +kernel
theorem dX8_bitten_70 : decode cX8_bitten 70 = .ok (.if_icmp .le 8, 3) := by decide +kernel
theorem dX8_bitten_73 : decode cX8_bitten 73 = .ok (.iload 4, 2) := by decide +kernel
theorem dX8_bitten_75 : decode cX8_bitten 75 = .ok (.goto 4, 3) := by decide +kernel
theorem dX8_bitten_78 : decode cX8_bitten 78 = .ok (.iload_n 2, 1) := by decide +kernel
theorem dX8_bitten_79 : decode cX8_bitten 79 = .ok (.istore_n 2, 1) := by decide +kernel
theorem dX8_bitten_80 : decode cX8_bitten 80 = .ok (.iload 5, 2) := by decide +kernel
theorem dX8_bitten_82 : decode cX8_bitten 82 = .ok (.iload_n 3, 1) := by decide +kernel
theorem dX8_bitten_83 : decode cX8_bitten 83 = .ok (.if_icmp .le 8, 3) := by decide +kernel
theorem dX8_bitten_86 : decode cX8_bitten 86 = .ok (.iload 5, 2) := by decide +kernel
theorem dX8_bitten_88 : decode cX8_bitten 88 = .ok (.goto 4, 3) := by decide +kernel
theorem dX8_bitten_91 : decode cX8_bitten 91 = .ok (.iload_n 3, 1) := by decide +kernel
theorem dX8_bitten_92 : decode cX8_bitten 92 = .ok (.istore_n 3, 1) := by decide +kernel
theorem dX8_bitten_93 : decode cX8_bitten 93 = .ok (.iinc 4 1, 3) := by decide +kernel
theorem dX8_bitten_96 : decode cX8_bitten 96 = .ok (.goto (-66), 3) := by decide +kernel
theorem dX8_bitten_99 : decode cX8_bitten 99 = .ok (.iload_n 2, 1) := by decide +kernel
theorem dX8_bitten_100 : decode cX8_bitten 100 = .ok (.ireturn, 1) := by decide +kernel
theorem dX8_hour_0 : decode cX8_hour 0 = .ok (.iconst 0, 1) := by decide +kernel
theorem dX8_hour_1 : decode cX8_hour 1 = .ok (.istore_n 2, 1) := by decide +kernel
theorem dX8_hour_2 : decode cX8_hour 2 = .ok (.iconst 0, 1) := by decide +kernel
theorem dX8_hour_3 : decode cX8_hour 3 = .ok (.istore_n 3, 1) := by decide +kernel
theorem dX8_hour_4 : decode cX8_hour 4 = .ok (.iload_n 3, 1) := by decide +kernel
theorem dX8_hour_5 : decode cX8_hour 5 = .ok (.aload_n 1, 1) := by decide +kernel
theorem dX8_hour_6 : decode cX8_hour 6 = .ok (.iconst 4, 1) := by decide +kernel
theorem dX8_hour_7 : decode cX8_hour 7 = .ok (.iaload, 1) := by decide +kernel
theorem dX8_hour_8 : decode cX8_hour 8 = .ok (.if_icmp .ge 154, 3) := by decide +kernel
theorem dX8_hour_11 : decode cX8_hour 11 = .ok (.aload_n 1, 1) := by decide +kernel
theorem dX8_hour_12 : decode cX8_hour 12 = .ok (.iload_n 3, 1) := by decide +kernel
theorem dX8_hour_13 : decode cX8_hour 13 = .ok (.invokestatic 166, 3) := by decide +kernel
theorem dX8_hour_16 : decode cX8_hour 16 = .ok (.istore 4, 2) := by decide +kernel
theorem dX8_hour_18 : decode cX8_hour 18 = .ok (.aload_n 0, 1) := by decide +kernel
theorem dX8_hour_19 : decode cX8_hour 19 = .ok (.getfield 34, 3) := by decide +kernel
theorem dX8_hour_22 : decode cX8_hour 22 = .ok (.iload_n 3, 1) := by decide +kernel
theorem dX8_hour_23 : decode cX8_hour 23 = .ok (.iload 4, 2) := by decide +kernel
theorem dX8_hour_25 : decode cX8_hour 25 = .ok (.iastore, 1) := by decide +kernel
theorem dX8_hour_26 : decode cX8_hour 26 = .ok (.aload_n 0, 1) := by decide +kernel
theorem dX8_hour_27 : decode cX8_hour 27 = .ok (.getfield 37, 3) := by decide +kernel
theorem dX8_hour_30 : decode cX8_hour 30 = .ok (.iload_n 3, 1) := by decide +kernel
theorem dX8_hour_31 : decode cX8_hour 31 = .ok (.iconst 0, 1) := by decide +kernel
theorem dX8_hour_32 : decode cX8_hour 32 = .ok (.iastore, 1) := by decide +kernel
theorem dX8_hour_33 : decode cX8_hour 33 = .ok (.iload 4, 2) := by decide +kernel
theorem dX8_hour_35 : decode cX8_hour 35 = .ok (.ldc 93, 2) := by decide +kernel
theorem dX8_hour_37 : decode cX8_hour 37 = .ok (.if_icmp .eq 119, 3) := by decide +kernel
theorem dX8_hour_40 : decode cX8_hour 40 = .ok (.aload_n 1, 1) := by decide +kernel
theorem dX8_hour_41 : decode cX8_hour 41 = .ok (.iload 4, 2) := by decide +kernel
theorem dX8_hour_43 : decode cX8_hour 43 = .ok (.iconst 0, 1) := by decide +kernel
theorem dX8_hour_44 : decode cX8_hour 44 = .ok (.invokestatic 155, 3) := by decide +kernel
theorem dX8_hour_47 : decode cX8_hour 47 = .ok (.iconst 1, 1) := by decide +kernel
theorem dX8_hour_48 : decode cX8_hour 48 = .ok (.if_icmp .eq 14, 3) := by decide +kernel
theorem dX8_hour_51 : decode cX8_hour 51 = .ok (.aload_n 1, 1) := by decide +kernel
theorem dX8_hour_52 : decode cX8_hour 52 = .ok (.iload 4, 2) := by decide +kernel
theorem dX8_hour_54 : decode cX8_hour 54 = .ok (.iconst 0, 1) := by decide +kernel
theorem dX8_hour_55 : decode cX8_hour 55 = .ok (.invokestatic 155, 3) := by decide +kernel
theorem dX8_hour_58 : decode cX8_hour 58 = .ok (.iconst 2, 1) := by decide +kernel
theorem dX8_hour_59 : decode cX8_hour 59 = .ok (.if_icmp .ne 7, 3) := by decide +kernel
theorem dX8_hour_62 : decode cX8_hour 62 = .ok (.iconst 2, 1) := by decide +kernel
theorem dX8_hour_63 : decode cX8_hour 63 = .ok (.goto 4, 3) := by decide +kernel
theorem dX8_hour_66 : decode cX8_hour 66 = .ok (.iconst 1, 1) := by decide +kernel
theorem dX8_hour_67 : decode cX8_hour 67 = .ok (.istore 5, 2) := by decide +kernel
theorem dX8_hour_69 : decode cX8_hour 69 = .ok (.iload 5, 2) := by decide +kernel
theorem dX8_hour_71 : decode cX8_hour 71 = .ok (.aload_n 1, 1) := by decide +kernel
theorem dX8_hour_72 : decode cX8_hour 72 = .ok (.iload 4, 2) := by decide +kernel
theorem dX8_hour_74 : decode cX8_hour 74 = .ok (.iconst 4, 1) := by decide +kernel
theorem dX8_hour_75 : decode cX8_hour 75 = .ok (.invokestatic 155, 3) := by decide +kernel
theorem dX8_hour_78 : decode cX8_hour 78 = .ok (.if_icmp .le 13, 3) := by decide +kernel
theorem dX8_hour_81 : decode cX8_hour 81 = .ok (.aload_n 1, 1) := by decide +kernel
theorem dX8_hour_82 : decode cX8_hour 82 = .ok (.iload 4, 2) := by decide +kernel
theorem dX8_hour_84 : decode cX8_hour 84 = .ok (.iconst 4, 1) := by decide +kernel
theorem dX8_hour_85 : decode cX8_hour 85 = .ok (.invokestatic 155, 3) := by decide +kernel
theorem dX8_hour_88 : decode cX8_hour 88 = .ok (.goto 5, 3) := by decide +kernel
theorem dX8_hour_91 : decode cX8_hour 91 = .ok (.iload 5, 2) := by decide +kernel
theorem dX8_hour_93 : decode cX8_hour 93 = .ok (.istore 6, 2) := by decide +kernel
theorem dX8_hour_95 : decode cX8_hour 95 = .ok (.aload_n 0, 1) := by decide +kernel
theorem dX8_hour_96 : decode cX8_hour 96 = .ok (.getfield 37, 3) := by decide +kernel
theorem dX8_hour_99 : decode cX8_hour 99 = .ok (.iload_n 3, 1) := by decide +kernel
theorem dX8_hour_100 : decode cX8_hour 100 = .ok (.iload 6, 2) := by decide +kernel
theorem dX8_hour_102 : decode cX8_hour 102 = .ok (.iastore, 1) := by decide +kernel
theorem dX8_hour_103 : decode cX8_hour 103 = .ok (.aload_n 1, 1) := by decide +kernel
theorem dX8_hour_104 : decode cX8_hour 104 = .ok (.bipush 6, 2) := by decide +kernel
theorem dX8_hour_106 : decode cX8_hour 106 = .ok (.iconst 5, 1) := by decide +kernel
theorem dX8_hour_107 : decode cX8_hour 107 = .ok (.iload 4, 2) := by decide +kernel
theorem dX8_hour_109 : decode cX8_hour 109 = .ok (.imul, 1) := by decide +kernel
theorem dX8_hour_110 : decode cX8_hour 110 = .ok (.iadd, 1) := by decide +kernel
theorem dX8_hour_111 : decode cX8_hour 111 = .ok (.iconst 4, 1) := by decide +kernel
theorem dX8_hour_112 : decode cX8_hour 112 = .ok (.iadd, 1) := by decide +kernel
theorem dX8_hour_113 : decode cX8_hour 113 = .ok (.dup2, 1) := by decide +kernel
theorem dX8_hour_114 : decode cX8_hour 114 = .ok (.iaload, 1) := by decide +kernel
theorem dX8_hour_115 : decode cX8_hour 115 = .ok (.iload 6, 2) := by decide +kernel
theorem dX8_hour_117 : decode cX8_hour 117 = .ok (.isub, 1) := by decide +kernel
theorem dX8_hour_118 : decode cX8_hour 118 = .ok (.iastore, 1) := by decide +kernel
theorem dX8_hour_119 : decode cX8_hour 119 = .ok (.aload_n 1, 1) := by decide +kernel
theorem dX8_hour_120 : decode cX8_hour 120 = .ok (.bipush 41, 2) := by decide +kernel
theorem dX8_hour_122 : decode cX8_hour 122 = .ok (.iconst 3, 1) := by decide +kernel
theorem dX8_hour_123 : decode cX8_hour 123 = .ok (.iload_n 3, 1) := by decide +kernel
theorem dX8_hour_124 : decode cX8_hour 124 = .ok (.imul, 1) := by decide +kernel
theorem dX8_hour_125 : decode cX8_hour 125 = .ok (.iadd, 1) := by decide +kernel
theorem dX8_hour_126 : decode cX8_hour 126 = .ok (.aload_n 1, 1) := by decide +kernel
theorem dX8_hour_127 : decode cX8_hour 127 = .ok (.iload_n 3, 1) := by decide +kernel
theorem dX8_hour_128 : decode cX8_hour 128 = .ok (.iconst 0, 1) := by decide +kernel
theorem dX8_hour_129 : decode cX8_hour 129 = .ok (.invokestatic 159, 3) := by decide +kernel
theorem dX8_hour_132 : decode cX8_hour 132 = .ok (.iload 6, 2) := by decide +kernel
theorem dX8_hour_134 : decode cX8_hour 134 = .ok (.if_icmp .le 15, 3) := by decide +kernel
theorem dX8_hour_137 : decode cX8_hour 137 = .ok (.aload_n 1, 1) := by decide +kernel
theorem dX8_hour_138 : decode cX8_hour 138 = .ok (.iload_n 3, 1) := by decide +kernel
theorem dX8_hour_139 : decode cX8_hour 139 = .ok (.iconst 0, 1) := by decide +kernel
theorem dX8_hour_140 : decode cX8_hour 140 = .ok (.invokestatic 159, 3) := by decide +kernel
theorem dX8_hour_143 : decode cX8_hour 143 = .ok (.iload 6, 2) := by decide +kernel
theorem dX8_hour_145 : decode cX8_hour 145 = .ok (.isub, 1) := by decide +kernel
theorem dX8_hour_146 : decode cX8_hour 146 = .ok (.goto 4, 3) := by decide +kernel
theorem dX8_hour_149 : decode cX8_hour 149 = .ok (.iconst 0, 1) := by decide +kernel
theorem dX8_hour_150 : decode cX8_hour 150 = .ok (.iastore, 1) := by decide +kernel
theorem dX8_hour_151 : decode cX8_hour 151 = .ok (.iload_n 2, 1) := by decide +kernel
theorem dX8_hour_152 : decode cX8_hour 152 = .ok (.iload 6, 2) := by decide +kernel
theorem dX8_hour_154 : decode cX8_hour 154 = .ok (.iadd, 1) := by decide +kernel
theorem dX8_hour_155 : decode cX8_hour 155 = .ok (.istore_n 2, 1) := by decide +kernel
theorem dX8_hour_156 : decode cX8_hour 156 = .ok (.iinc 3 1, 3) := by decide +kernel
theorem dX8_hour_159 : decode cX8_hour 159 = .ok (.goto (-155), 3) := by decide +kernel
theorem dX8_hour_162 : decode cX8_hour 162 = .ok (.iconst 0, 1) := by decide +kernel
theorem dX8_hour_163 : decode cX8_hour 163 = .ok (.istore_n 3, 1) := by decide +kernel
theorem dX8_hour_164 : decode cX8_hour 164 = .ok (.iload_n 3, 1) := by decide +kernel
theorem dX8_hour_165 : decode cX8_hour 165 = .ok (.aload_n 1, 1) := by decide +kernel
theorem dX8_hour_166 : decode cX8_hour 166 = .ok (.iconst 4, 1) := by decide +kernel
theorem dX8_hour_167 : decode cX8_hour 167 = .ok (.iaload, 1) := by decide +kernel
theorem dX8_hour_168 : decode cX8_hour 168 = .ok (.if_icmp .ge 70, 3) := by decide +kernel
theorem dX8_hour_171 : decode cX8_hour 171 = .ok (.aload_n 1, 1) := by decide +kernel
theorem dX8_hour_172 : decode cX8_hour 172 = .ok (.iload_n 3, 1) := by decide +kernel
theorem dX8_hour_173 : decode cX8_hour 173 = .ok (.iconst 0, 1) := by decide +kernel
theorem dX8_hour_174 : decode cX8_hour 174 = .ok (.invokestatic 159, 3) := by decide +kernel
theorem dX8_hour_177 : decode cX8_hour 177 = .ok (.aload_n 1, 1) := by decide +kernel
theorem dX8_hour_178 : decode cX8_hour 178 = .ok (.iconst 1, 1) := by decide +kernel
theorem dX8_hour_179 : decode cX8_hour 179 = .ok (.iaload, 1) := by decide +kernel
theorem dX8_hour_180 : decode cX8_hour 180 = .ok (.iadd, 1) := by decide +kernel
theorem dX8_hour_181 : decode cX8_hour 181 = .ok (.istore 4, 2) := by decide +kernel
theorem dX8_hour_183 : decode cX8_hour 183 = .ok (.aload_n 1, 1) := by decide +kernel
theorem dX8_hour_184 : decode cX8_hour 184 = .ok (.bipush 41, 2) := by decide +kernel
theorem dX8_hour_186 : decode cX8_hour 186 = .ok (.iconst 3, 1) := by decide +kernel
theorem dX8_hour_187 : decode cX8_hour 187 = .ok (.iload_n 3, 1) := by decide +kernel
theorem dX8_hour_188 : decode cX8_hour 188 = .ok (.imul, 1) := by decide +kernel
theorem dX8_hour_189 : decode cX8_hour 189 = .ok (.iadd, 1) := by decide +kernel
theorem dX8_hour_190 : decode cX8_hour 190 = .ok (.iload 4, 2) := by decide +kernel
theorem dX8_hour_192 : decode cX8_hour 192 = .ok (.bipush 99, 2) := by decide +kernel
theorem dX8_hour_194 : decode cX8_hour 194 = .ok (.if_icmp .le 8, 3) := by decide +kernel
theorem dX8_hour_197 : decode cX8_hour 197 = .ok (.bipush 99, 2) := by decide +kernel
theorem dX8_hour_199 : decode cX8_hour 199 = .ok (.goto 5, 3) := by decide +kernel
theorem dX8_hour_202 : decode cX8_hour 202 = .ok (.iload 4, 2) := by decide +kernel
theorem dX8_hour_204 : decode cX8_hour 204 = .ok (.iastore, 1) := by decide +kernel
theorem dX8_hour_205 : decode cX8_hour 205 = .ok (.aload_n 1, 1) := by decide +kernel
theorem dX8_hour_206 : decode cX8_hour 206 = .ok (.bipush 41, 2) := by decide +kernel
theorem dX8_hour_208 : decode cX8_hour 208 = .ok (.iconst 3, 1) := by decide +kernel
theorem dX8_hour_209 : decode cX8_hour 209 = .ok (.iload_n 3, 1) := by decide +kernel
theorem dX8_hour_210 : decode cX8_hour 210 = .ok (.imul, 1) := by decide +kernel
theorem dX8_hour_211 : decode cX8_hour 211 = .ok (.iadd, 1) := by decide +kernel
theorem dX8_hour_212 : decode cX8_hour 212 = .ok (.iconst 2, 1) := by decide +kernel
theorem dX8_hour_213 : decode cX8_hour 213 = .ok (.iadd, 1) := by decide +kernel
theorem dX8_hour_214 : decode cX8_hour 214 = .ok (.dup2, 1) := by decide +kernel
theorem dX8_hour_215 : decode cX8_hour 215 = .ok (.iaload, 1) := by decide +kernel
theorem dX8_hour_216 : decode cX8_hour 216 = .ok (.aload_n 1, 1) := by decide +kernel
theorem dX8_hour_217 : decode cX8_hour 217 = .ok (.iload_n 3, 1) := by decide +kernel
theorem dX8_hour_218 : decode cX8_hour 218 = .ok (.iconst 2, 1) := by decide +kernel
theorem dX8_hour_219 : decode cX8_hour 219 = .ok (.invokestatic 159, 3) := by decide +kernel
theorem dX8_hour_222 : decode cX8_hour 222 = .ok (.ifCond .le 7, 3) := by decide +kernel
theorem dX8_hour_225 : decode cX8_hour 225 = .ok (.iconst 1, 1) := by decide +kernel
theorem dX8_hour_226 : decode cX8_hour 226 = .ok (.goto 4, 3) := by decide +kernel
theorem dX8_hour_229 : decode cX8_hour 229 = .ok (.iconst 0, 1) := by decide +kernel
theorem dX8_hour_230 : decode cX8_hour 230 = .ok (.isub, 1) := by decide +kernel
theorem dX8_hour_231 : decode cX8_hour 231 = .ok (.iastore, 1) := by decide +kernel
theorem dX8_hour_232 : decode cX8_hour 232 = .ok (.iinc 3 1, 3) := by decide +kernel
theorem dX8_hour_235 : decode cX8_hour 235 = .ok (.goto (-71), 3) := by decide +kernel
theorem dX8_hour_238 : decode cX8_hour 238 = .ok (.aload_n 1, 1) := by decide +kernel
theorem dX8_hour_239 : decode cX8_hour 239 = .ok (.iconst 5, 1) := by decide +kernel
theorem dX8_hour_240 : decode cX8_hour 240 = .ok (.dup2, 1) := by decide +kernel
theorem dX8_hour_241 : decode cX8_hour 241 = .ok (.iaload, 1) := by decide +kernel
theorem dX8_hour_242 : decode cX8_hour 242 = .ok (.iconst 1, 1) := by decide +kernel
theorem dX8_hour_243 : decode cX8_hour 243 = .ok (.iadd, 1) := by decide +kernel
theorem dX8_hour_244 : decode cX8_hour 244 = .ok (.iastore, 1) := by decide +kernel
theorem dX8_hour_245 : decode cX8_hour 245 = .ok (.iload_n 2, 1) := by decide +kernel
theorem dX8_hour_246 : decode cX8_hour 246 = .ok (.ireturn, 1) := by decide +kernel
theorem dX8_hoursOf_0 : decode cX8_hoursOf 0 = .ok (.iconst 0, 1) := by decide +kernel
theorem dX8_hoursOf_1 : decode cX8_hoursOf 1 = .ok (.istore_n 3, 1) := by decide +kernel
theorem dX8_hoursOf_2 : decode cX8_hoursOf 2 = .ok (.iconst 0, 1) := by decide +kernel
theorem dX8_hoursOf_3 : decode cX8_hoursOf 3 = .ok (.istore 4, 2) := by decide +kernel
theorem dX8_hoursOf_5 : decode cX8_hoursOf 5 = .ok (.iload 4, 2) := by decide +kernel
theorem dX8_hoursOf_7 : decode cX8_hoursOf 7 = .ok (.iload_n 2, 1) := by decide +kernel
theorem dX8_hoursOf_8 : decode cX8_hoursOf 8 = .ok (.if_icmp .ge 17, 3) := by decide +kernel
theorem dX8_hoursOf_11 : decode cX8_hoursOf 11 = .ok (.iload_n 3, 1) := by decide +kernel
theorem dX8_hoursOf_12 : decode cX8_hoursOf 12 = .ok (.aload_n 0, 1) := by decide +kernel
theorem dX8_hoursOf_13 : decode cX8_hoursOf 13 = .ok (.aload_n 1, 1) := by decide +kernel
theorem dX8_hoursOf_14 : decode cX8_hoursOf 14 = .ok (.invokevirtual 169, 3) := by decide +kernel
theorem dX8_hoursOf_17 : decode cX8_hoursOf 17 = .ok (.iadd, 1) := by decide +kernel
theorem dX8_hoursOf_18 : decode cX8_hoursOf 18 = .ok (.istore_n 3, 1) := by decide +kernel
theorem dX8_hoursOf_19 : decode cX8_hoursOf 19 = .ok (.iinc 4 1, 3) := by decide +kernel
theorem dX8_hoursOf_22 : decode cX8_hoursOf 22 = .ok (.goto (-17), 3) := by decide +kernel
theorem dX8_hoursOf_25 : decode cX8_hoursOf 25 = .ok (.iload_n 3, 1) := by decide +kernel
theorem dX8_hoursOf_26 : decode cX8_hoursOf 26 = .ok (.ireturn, 1) := by decide +kernel
theorem dX8_isForce_0 : decode cX8_isForce 0 = .ok (.iconst 2, 1) := by decide +kernel
theorem dX8_isForce_1 : decode cX8_isForce 1 = .ok (.aload_n 0, 1) := by decide +kernel
theorem dX8_isForce_2 : decode cX8_isForce 2 = .ok (.iload_n 1, 1) := by decide +kernel
theorem dX8_isForce_3 : decode cX8_isForce 3 = .ok (.iconst 4, 1) := by decide +kernel
theorem dX8_isForce_4 : decode cX8_isForce 4 = .ok (.invokestatic 155, 3) := by decide +kernel
theorem dX8_isForce_7 : decode cX8_isForce 7 = .ok (.imul, 1) := by decide +kernel
theorem dX8_isForce_8 : decode cX8_isForce 8 = .ok (.aload_n 0, 1) := by decide +kernel
theorem dX8_isForce_9 : decode cX8_isForce 9 = .ok (.iload_n 1, 1) := by decide +kernel
theorem dX8_isForce_10 : decode cX8_isForce 10 = .ok (.iconst 1, 1) := by decide +kernel
theorem dX8_isForce_11 : decode cX8_isForce 11 = .ok (.invokestatic 155, 3) := by decide +kernel
theorem dX8_isForce_14 : decode cX8_isForce 14 = .ok (.if_icmp .lt 7, 3) := by decide +kernel
theorem dX8_isForce_17 : decode cX8_isForce 17 = .ok (.iconst 1, 1) := by decide +kernel
theorem dX8_isForce_18 : decode cX8_isForce 18 = .ok (.goto 4, 3) := by decide +kernel
theorem dX8_isForce_21 : decode cX8_isForce 21 = .ok (.iconst 0, 1) := by decide +kernel
theorem dX8_isForce_22 : decode cX8_isForce 22 = .ok (.ireturn, 1) := by decide +kernel
theorem dX8_forced_0 : decode cX8_forced 0 = .ok (.iconst 0, 1) := by decide +kernel
theorem dX8_forced_1 : decode cX8_forced 1 = .ok (.istore_n 1, 1) := by decide +kernel
theorem dX8_forced_2 : decode cX8_forced 2 = .ok (.iconst 0, 1) := by decide +kernel
theorem dX8_forced_3 : decode cX8_forced 3 = .ok (.istore_n 2, 1) := by decide +kernel
theorem dX8_forced_4 : decode cX8_forced 4 = .ok (.iload_n 2, 1) := by decide +kernel
theorem dX8_forced_5 : decode cX8_forced 5 = .ok (.aload_n 0, 1) := by decide +kernel
theorem dX8_forced_6 : decode cX8_forced 6 = .ok (.iconst 3, 1) := by decide +kernel
theorem dX8_forced_7 : decode cX8_forced 7 = .ok (.iaload, 1) := by decide +kernel
theorem dX8_forced_8 : decode cX8_forced 8 = .ok (.if_icmp .ge 27, 3) := by decide +kernel
theorem dX8_forced_11 : decode cX8_forced 11 = .ok (.iload_n 1, 1) := by decide +kernel
theorem dX8_forced_12 : decode cX8_forced 12 = .ok (.aload_n 0, 1) := by decide +kernel
theorem dX8_forced_13 : decode cX8_forced 13 = .ok (.iload_n 2, 1) := by decide +kernel
theorem dX8_forced_14 : decode cX8_forced 14 = .ok (.invokestatic 173, 3) := by decide +kernel
theorem dX8_forced_17 : decode cX8_forced 17 = .ok (.ifCond .eq 9, 3) := by decide +kernel
theorem dX8_forced_20 : decode cX8_forced 20 = .ok (.iconst 1, 1) := by decide +kernel
theorem dX8_forced_21 : decode cX8_forced 21 = .ok (.iload_n 2, 1) := by decide +kernel
theorem dX8_forced_22 : decode cX8_forced 22 = .ok (.ishl, 1) := by decide +kernel
theorem dX8_forced_23 : decode cX8_forced 23 = .ok (.goto 4, 3) := by decide +kernel
theorem dX8_forced_26 : decode cX8_forced 26 = .ok (.iconst 0, 1) := by decide +kernel
theorem dX8_forced_27 : decode cX8_forced 27 = .ok (.ior, 1) := by decide +kernel
theorem dX8_forced_28 : decode cX8_forced 28 = .ok (.istore_n 1, 1) := by decide +kernel
theorem dX8_forced_29 : decode cX8_forced 29 = .ok (.iinc 2 1, 3) := by decide +kernel
theorem dX8_forced_32 : decode cX8_forced 32 = .ok (.goto (-28), 3) := by decide +kernel
theorem dX8_forced_35 : decode cX8_forced 35 = .ok (.iload_n 1, 1) := by decide +kernel
theorem dX8_forced_36 : decode cX8_forced 36 = .ok (.ireturn, 1) := by decide +kernel
theorem dX8_leftOf_0 : decode cX8_leftOf 0 = .ok (.iconst 0, 1) := by decide +kernel
theorem dX8_leftOf_1 : decode cX8_leftOf 1 = .ok (.istore_n 1, 1) := by decide +kernel
theorem dX8_leftOf_2 : decode cX8_leftOf 2 = .ok (.iconst 0, 1) := by decide +kernel
theorem dX8_leftOf_3 : decode cX8_leftOf 3 = .ok (.istore_n 2, 1) := by decide +kernel
theorem dX8_leftOf_4 : decode cX8_leftOf 4 = .ok (.iload_n 2, 1) := by decide +kernel
theorem dX8_leftOf_5 : decode cX8_leftOf 5 = .ok (.aload_n 0, 1) := by decide +kernel
theorem dX8_leftOf_6 : decode cX8_leftOf 6 = .ok (.iconst 3, 1) := by decide +kernel
theorem dX8_leftOf_7 : decode cX8_leftOf 7 = .ok (.iaload, 1) := by decide +kernel
theorem dX8_leftOf_8 : decode cX8_leftOf 8 = .ok (.if_icmp .ge 18, 3) := by decide +kernel
theorem dX8_leftOf_11 : decode cX8_leftOf 11 = .ok (.iload_n 1, 1) := by decide +kernel
theorem dX8_leftOf_12 : decode cX8_leftOf 12 = .ok (.aload_n 0, 1) := by decide +kernel
theorem dX8_leftOf_13 : decode cX8_leftOf 13 = .ok (.iload_n 2, 1) := by decide +kernel
theorem dX8_leftOf_14 : decode cX8_leftOf 14 = .ok (.iconst 4, 1) := by decide +kernel
theorem dX8_leftOf_15 : decode cX8_leftOf 15 = .ok (.invokestatic 155, 3) := by decide +kernel
theorem dX8_leftOf_18 : decode cX8_leftOf 18 = .ok (.iadd, 1) := by decide +kernel
theorem dX8_leftOf_19 : decode cX8_leftOf 19 = .ok (.istore_n 1, 1) := by decide +kernel
theorem dX8_leftOf_20 : decode cX8_leftOf 20 = .ok (.iinc 2 1, 3) := by decide +kernel
theorem dX8_leftOf_23 : decode cX8_leftOf 23 = .ok (.goto (-19), 3) := by decide +kernel
theorem dX8_leftOf_26 : decode cX8_leftOf 26 = .ok (.iload_n 1, 1) := by decide +kernel
theorem dX8_leftOf_27 : decode cX8_leftOf 27 = .ok (.ireturn, 1) := by decide +kernel
theorem dX8_layThen_0 : decode cX8_layThen 0 = .ok (.iconst 0, 1) := by decide +kernel
theorem dX8_layThen_1 : decode cX8_layThen 1 = .ok (.istore_n 1, 1) := by decide +kernel
theorem dX8_layThen_2 : decode cX8_layThen 2 = .ok (.iload_n 1, 1) := by decide +kernel
theorem dX8_layThen_3 : decode cX8_layThen 3 = .ok (.bipush 53, 2) := by decide +kernel
theorem dX8_layThen_5 : decode cX8_layThen 5 = .ok (.if_icmp .ge 21, 3) := by decide +kernel
theorem dX8_layThen_8 : decode cX8_layThen 8 = .ok (.aload_n 0, 1) := by decide +kernel
theorem dX8_layThen_9 : decode cX8_layThen 9 = .ok (.getfield 25, 3) := by decide +kernel
theorem dX8_layThen_12 : decode cX8_layThen 12 = .ok (.iload_n 1, 1) := by decide +kernel
theorem dX8_layThen_13 : decode cX8_layThen 13 = .ok (.aload_n 0, 1) := by decide +kernel
theorem dX8_layThen_14 : decode cX8_layThen 14 = .ok (.getfield 19, 3) := by decide +kernel
theorem dX8_layThen_17 : decode cX8_layThen 17 = .ok (.iload_n 1, 1) := by decide +kernel
theorem dX8_layThen_18 : decode cX8_layThen 18 = .ok (.iaload, 1) := by decide +kernel
theorem dX8_layThen_19 : decode cX8_layThen 19 = .ok (.iastore, 1) := by decide +kernel
theorem dX8_layThen_20 : decode cX8_layThen 20 = .ok (.iinc 1 1, 3) := by decide +kernel
theorem dX8_layThen_23 : decode cX8_layThen 23 = .ok (.goto (-21), 3) := by decide +kernel
theorem dX8_layThen_26 : decode cX8_layThen 26 = .ok (.return_, 1) := by decide +kernel
theorem dX8_layOff_0 : decode cX8_layOff 0 = .ok (.aload_n 0, 1) := by decide +kernel
theorem dX8_layOff_1 : decode cX8_layOff 1 = .ok (.invokevirtual 177, 3) := by decide +kernel
theorem dX8_layOff_4 : decode cX8_layOff 4 = .ok (.iconst 0, 1) := by decide +kernel
theorem dX8_layOff_5 : decode cX8_layOff 5 = .ok (.istore_n 3, 1) := by decide +kernel
theorem dX8_layOff_6 : decode cX8_layOff 6 = .ok (.iload_n 3, 1) := by decide +kernel
theorem dX8_layOff_7 : decode cX8_layOff 7 = .ok (.aload_n 0, 1) := by decide +kernel
theorem dX8_layOff_8 : decode cX8_layOff 8 = .ok (.getfield 19, 3) := by decide +kernel
theorem dX8_layOff_11 : decode cX8_layOff 11 = .ok (.iconst 4, 1) := by decide +kernel
theorem dX8_layOff_12 : decode cX8_layOff 12 = .ok (.iaload, 1) := by decide +kernel
theorem dX8_layOff_13 : decode cX8_layOff 13 = .ok (.if_icmp .ge 56, 3) := by decide +kernel
theorem dX8_layOff_16 : decode cX8_layOff 16 = .ok (.bipush 41, 2) := by decide +kernel
theorem dX8_layOff_18 : decode cX8_layOff 18 = .ok (.iconst 3, 1) := by decide +kernel
theorem dX8_layOff_19 : decode cX8_layOff 19 = .ok (.iload_n 3, 1) := by decide +kernel
theorem dX8_layOff_20 : decode cX8_layOff 20 = .ok (.imul, 1) := by decide +kernel
theorem dX8_layOff_21 : decode cX8_layOff 21 = .ok (.iadd, 1) := by decide +kernel
theorem dX8_layOff_22 : decode cX8_layOff 22 = .ok (.iconst 2, 1) := by decide +kernel
theorem dX8_layOff_23 : decode cX8_layOff 23 = .ok (.iadd, 1) := by decide +kernel
theorem dX8_layOff_24 : decode cX8_layOff 24 = .ok (.istore 4, 2) := by decide +kernel
theorem dX8_layOff_26 : decode cX8_layOff 26 = .ok (.aload_n 0, 1) := by decide +kernel
theorem dX8_layOff_27 : decode cX8_layOff 27 = .ok (.getfield 25, 3) := by decide +kernel
theorem dX8_layOff_30 : decode cX8_layOff 30 = .ok (.iload 4, 2) := by decide +kernel
theorem dX8_layOff_32 : decode cX8_layOff 32 = .ok (.iload_n 1, 1) := by decide +kernel
theorem dX8_layOff_33 : decode cX8_layOff 33 = .ok (.iload_n 3, 1) := by decide +kernel
theorem dX8_layOff_34 : decode cX8_layOff 34 = .ok (.invokestatic 180, 3) := by decide +kernel
theorem dX8_layOff_37 : decode cX8_layOff 37 = .ok (.ifCond .eq 18, 3) := by decide +kernel
theorem dX8_layOff_40 : decode cX8_layOff 40 = .ok (.aload_n 0, 1) := by decide +kernel
theorem dX8_layOff_41 : decode cX8_layOff 41 = .ok (.getfield 25, 3) := by decide +kernel
theorem dX8_layOff_44 : decode cX8_layOff 44 = .ok (.iload 4, 2) := by decide +kernel
theorem dX8_layOff_46 : decode cX8_layOff 46 = .ok (.iaload, 1) := by decide +kernel
theorem dX8_layOff_47 : decode cX8_layOff 47 = .ok (.iload_n 2, 1) := by decide +kernel
theorem dX8_layOff_48 : decode cX8_layOff 48 = .ok (.if_icmp .ge 7, 3) := by decide +kernel
theorem dX8_layOff_51 : decode cX8_layOff 51 = .ok (.iload_n 2, 1) := by decide +kernel
theorem dX8_layOff_52 : decode cX8_layOff 52 = .ok (.goto 10, 3) := by decide +kernel
theorem dX8_layOff_55 : decode cX8_layOff 55 = .ok (.aload_n 0, 1) := by decide +kernel
theorem dX8_layOff_56 : decode cX8_layOff 56 = .ok (.getfield 25, 3) := by decide +kernel
theorem dX8_layOff_59 : decode cX8_layOff 59 = .ok (.iload 4, 2) := by decide +kernel
theorem dX8_layOff_61 : decode cX8_layOff 61 = .ok (.iaload, 1) := by decide +kernel
theorem dX8_layOff_62 : decode cX8_layOff 62 = .ok (.iastore, 1) := by decide +kernel
theorem dX8_layOff_63 : decode cX8_layOff 63 = .ok (.iinc 3 1, 3) := by decide +kernel
theorem dX8_layOff_66 : decode cX8_layOff 66 = .ok (.goto (-60), 3) := by decide +kernel
theorem dX8_layOff_69 : decode cX8_layOff 69 = .ok (.return_, 1) := by decide +kernel
theorem dX8_keep_0 : decode cX8_keep 0 = .ok (.aload_n 0, 1) := by decide +kernel
theorem dX8_keep_1 : decode cX8_keep 1 = .ok (.getfield 152, 3) := by decide +kernel
theorem dX8_keep_4 : decode cX8_keep 4 = .ok (.bipush 24, 2) := by decide +kernel
theorem dX8_keep_6 : decode cX8_keep 6 = .ok (.if_icmp .ne 43, 3) := by decide +kernel
theorem dX8_keep_9 : decode cX8_keep 9 = .ok (.iconst 0, 1) := by decide +kernel
theorem dX8_keep_10 : decode cX8_keep 10 = .ok (.istore_n 1, 1) := by decide +kernel
theorem dX8_keep_11 : decode cX8_keep 11 = .ok (.iload_n 1, 1) := by decide +kernel
theorem dX8_keep_12 : decode cX8_keep 12 = .ok (.sipush 1219, 3) := by decide +kernel
theorem dX8_keep_15 : decode cX8_keep 15 = .ok (.if_icmp .ge 24, 3) := by decide +kernel
theorem dX8_keep_18 : decode cX8_keep 18 = .ok (.aload_n 0, 1) := by decide +kernel
theorem dX8_keep_19 : decode cX8_keep 19 = .ok (.getfield 28, 3) := by decide +kernel
theorem dX8_keep_22 : decode cX8_keep 22 = .ok (.iload_n 1, 1) := by decide +kernel
theorem dX8_keep_23 : decode cX8_keep 23 = .ok (.aload_n 0, 1) := by decide +kernel
theorem dX8_keep_24 : decode cX8_keep 24 = .ok (.getfield 28, 3) := by decide +kernel
theorem dX8_keep_27 : decode cX8_keep 27 = .ok (.iload_n 1, 1) := by decide +kernel
theorem dX8_keep_28 : decode cX8_keep 28 = .ok (.bipush 53, 2) := by decide +kernel
theorem dX8_keep_30 : decode cX8_keep 30 = .ok (.iadd, 1) := by decide +kernel
theorem dX8_keep_31 : decode cX8_keep 31 = .ok (.iaload, 1) := by decide +kernel
theorem dX8_keep_32 : decode cX8_keep 32 = .ok (.iastore, 1) := by decide +kernel
theorem dX8_keep_33 : decode cX8_keep 33 = .ok (.iinc 1 1, 3) := by decide +kernel
theorem dX8_keep_36 : decode cX8_keep 36 = .ok (.goto (-25), 3) := by decide +kernel
theorem dX8_keep_39 : decode cX8_keep 39 = .ok (.aload_n 0, 1) := by decide +kernel
theorem dX8_keep_40 : decode cX8_keep 40 = .ok (.dup, 1) := by decide +kernel
theorem dX8_keep_41 : decode cX8_keep 41 = .ok (.getfield 152, 3) := by decide +kernel
theorem dX8_keep_44 : decode cX8_keep 44 = .ok (.iconst 1, 1) := by decide +kernel
theorem dX8_keep_45 : decode cX8_keep 45 = .ok (.isub, 1) := by decide +kernel
theorem dX8_keep_46 : decode cX8_keep 46 = .ok (.putfield 152, 3) := by decide +kernel
theorem dX8_keep_49 : decode cX8_keep 49 = .ok (.iconst 0, 1) := by decide +kernel
theorem dX8_keep_50 : decode cX8_keep 50 = .ok (.istore_n 1, 1) := by decide +kernel
theorem dX8_keep_51 : decode cX8_keep 51 = .ok (.iload_n 1, 1) := by decide +kernel
theorem dX8_keep_52 : decode cX8_keep 52 = .ok (.bipush 53, 2) := by decide +kernel
theorem dX8_keep_54 : decode cX8_keep 54 = .ok (.if_icmp .ge 29, 3) := by decide +kernel
theorem dX8_keep_57 : decode cX8_keep 57 = .ok (.aload_n 0, 1) := by decide +kernel
theorem dX8_keep_58 : decode cX8_keep 58 = .ok (.getfield 28, 3) := by decide +kernel
theorem dX8_keep_61 : decode cX8_keep 61 = .ok (.bipush 53, 2) := by decide +kernel
theorem dX8_keep_63 : decode cX8_keep 63 = .ok (.aload_n 0, 1) := by decide +kernel
theorem dX8_keep_64 : decode cX8_keep 64 = .ok (.getfield 152, 3) := by decide +kernel
theorem dX8_keep_67 : decode cX8_keep 67 = .ok (.imul, 1) := by decide +kernel
theorem dX8_keep_68 : decode cX8_keep 68 = .ok (.iload_n 1, 1) := by decide +kernel
theorem dX8_keep_69 : decode cX8_keep 69 = .ok (.iadd, 1) := by decide +kernel
theorem dX8_keep_70 : decode cX8_keep 70 = .ok (.aload_n 0, 1) := by decide +kernel
theorem dX8_keep_71 : decode cX8_keep 71 = .ok (.getfield 19, 3) := by decide +kernel
theorem dX8_keep_74 : decode cX8_keep 74 = .ok (.iload_n 1, 1) := by decide +kernel
theorem dX8_keep_75 : decode cX8_keep 75 = .ok (.iaload, 1) := by decide +kernel
theorem dX8_keep_76 : decode cX8_keep 76 = .ok (.iastore, 1) := by decide +kernel
theorem dX8_keep_77 : decode cX8_keep 77 = .ok (.iinc 1 1, 3) := by decide +kernel
theorem dX8_keep_80 : decode cX8_keep 80 = .ok (.goto (-29), 3) := by decide +kernel
theorem dX8_keep_83 : decode cX8_keep 83 = .ok (.aload_n 0, 1) := by decide +kernel
theorem dX8_keep_84 : decode cX8_keep 84 = .ok (.dup, 1) := by decide +kernel
theorem dX8_keep_85 : decode cX8_keep 85 = .ok (.getfield 152, 3) := by decide +kernel
theorem dX8_keep_88 : decode cX8_keep 88 = .ok (.iconst 1, 1) := by decide +kernel
theorem dX8_keep_89 : decode cX8_keep 89 = .ok (.iadd, 1) := by decide +kernel
theorem dX8_keep_90 : decode cX8_keep 90 = .ok (.putfield 152, 3) := by decide +kernel
theorem dX8_keep_93 : decode cX8_keep 93 = .ok (.return_, 1) := by decide +kernel
theorem dX8_hours_0 : decode cX8_hours 0 = .ok (.aload_n 0, 1) := by decide +kernel
theorem dX8_hours_1 : decode cX8_hours 1 = .ok (.iconst 0, 1) := by decide +kernel
theorem dX8_hours_2 : decode cX8_hours 2 = .ok (.putfield 50, 3) := by decide +kernel
theorem dX8_hours_5 : decode cX8_hours 5 = .ok (.aload_n 0, 1) := by decide +kernel
theorem dX8_hours_6 : decode cX8_hours 6 = .ok (.invokevirtual 184, 3) := by decide +kernel
theorem dX8_hours_9 : decode cX8_hours 9 = .ok (.ifCond .ne 6, 3) := by decide +kernel
theorem dX8_hours_12 : decode cX8_hours 12 = .ok (.ldc 187, 2) := by decide +kernel
theorem dX8_hours_14 : decode cX8_hours 14 = .ok (.ireturn, 1) := by decide +kernel
theorem dX8_hours_15 : decode cX8_hours 15 = .ok (.iload_n 1, 1) := by decide +kernel
theorem dX8_hours_16 : decode cX8_hours 16 = .ok (.i2l, 1) := by decide +kernel
theorem dX8_hours_17 : decode cX8_hours 17 = .ok (.lconst 1, 1) := by decide +kernel
theorem dX8_hours_18 : decode cX8_hours 18 = .ok (.ldc2_w 188, 3) := by decide +kernel
theorem dX8_hours_21 : decode cX8_hours 21 = .ok (.invokestatic 60, 3) := by decide +kernel
theorem dX8_hours_24 : decode cX8_hours 24 = .ok (.ifCond .ne 6, 3) := by decide +kernel
theorem dX8_hours_27 : decode cX8_hours 27 = .ok (.ldc 70, 2) := by decide +kernel
theorem dX8_hours_29 : decode cX8_hours 29 = .ok (.ireturn, 1) := by decide +kernel
theorem dX8_hours_30 : decode cX8_hours 30 = .ok (.aload_n 0, 1) := by decide +kernel
theorem dX8_hours_31 : decode cX8_hours 31 = .ok (.getfield 19, 3) := by decide +kernel
theorem dX8_hours_34 : decode cX8_hours 34 = .ok (.iconst 5, 1) := by decide +kernel
theorem dX8_hours_35 : decode cX8_hours 35 = .ok (.iaload, 1) := by decide +kernel
theorem dX8_hours_36 : decode cX8_hours 36 = .ok (.iload_n 1, 1) := by decide +kernel
theorem dX8_hours_37 : decode cX8_hours 37 = .ok (.iadd, 1) := by decide +kernel
theorem dX8_hours_38 : decode cX8_hours 38 = .ok (.sipush 999, 3) := by decide +kernel
theorem dX8_hours_41 : decode cX8_hours 41 = .ok (.if_icmp .le 6, 3) := by decide +kernel
theorem dX8_hours_44 : decode cX8_hours 44 = .ok (.ldc 80, 2) := by decide +kernel
theorem dX8_hours_46 : decode cX8_hours 46 = .ok (.ireturn, 1) := by decide +kernel
theorem dX8_hours_47 : decode cX8_hours 47 = .ok (.iconst 0, 1) := by decide +kernel
theorem dX8_hours_48 : decode cX8_hours 48 = .ok (.istore_n 2, 1) := by decide +kernel
theorem dX8_hours_49 : decode cX8_hours 49 = .ok (.iconst 0, 1) := by decide +kernel
theorem dX8_hours_50 : decode cX8_hours 50 = .ok (.istore_n 3, 1) := by decide +kernel
theorem dX8_hours_51 : decode cX8_hours 51 = .ok (.iload_n 3, 1) := by decide +kernel
theorem dX8_hours_52 : decode cX8_hours 52 = .ok (.iload_n 1, 1) := by decide +kernel
theorem dX8_hours_53 : decode cX8_hours 53 = .ok (.if_icmp .ge 24, 3) := by decide +kernel
theorem dX8_hours_56 : decode cX8_hours 56 = .ok (.aload_n 0, 1) := by decide +kernel
theorem dX8_hours_57 : decode cX8_hours 57 = .ok (.invokevirtual 190, 3) := by decide +kernel
theorem dX8_hours_60 : decode cX8_hours 60 = .ok (.iload_n 2, 1) := by decide +kernel
theorem dX8_hours_61 : decode cX8_hours 61 = .ok (.aload_n 0, 1) := by decide +kernel
theorem dX8_hours_62 : decode cX8_hours 62 = .ok (.aload_n 0, 1) := by decide +kernel
theorem dX8_hours_63 : decode cX8_hours 63 = .ok (.getfield 19, 3) := by decide +kernel
theorem dX8_hours_66 : decode cX8_hours 66 = .ok (.invokevirtual 169, 3) := by decide +kernel
theorem dX8_hours_69 : decode cX8_hours 69 = .ok (.iadd, 1) := by decide +kernel
theorem dX8_hours_70 : decode cX8_hours 70 = .ok (.istore_n 2, 1) := by decide +kernel
theorem dX8_hours_71 : decode cX8_hours 71 = .ok (.iinc 3 1, 3) := by decide +kernel
theorem dX8_hours_74 : decode cX8_hours 74 = .ok (.goto (-23), 3) := by decide +kernel
theorem dX8_hours_77 : decode cX8_hours 77 = .ok (.iload_n 2, 1) := by decide +kernel
theorem dX8_hours_78 : decode cX8_hours 78 = .ok (.ireturn, 1) := by decide +kernel
theorem dX8_hang_0 : decode cX8_hang 0 = .ok (.aload_n 0, 1) := by decide +kernel
theorem dX8_hang_1 : decode cX8_hang 1 = .ok (.iconst 0, 1) := by decide +kernel
theorem dX8_hang_2 : decode cX8_hang 2 = .ok (.putfield 50, 3) := by decide +kernel
theorem dX8_hang_5 : decode cX8_hang 5 = .ok (.aload_n 0, 1) := by decide +kernel
theorem dX8_hang_6 : decode cX8_hang 6 = .ok (.iload_n 1, 1) := by decide +kernel
theorem dX8_hang_7 : decode cX8_hang 7 = .ok (.invokevirtual 193, 3) := by decide +kernel
theorem dX8_hang_10 : decode cX8_hang 10 = .ok (.ifCond .eq 15, 3) := by decide +kernel
theorem dX8_hang_13 : decode cX8_hang 13 = .ok (.iload_n 2, 1) := by decide +kernel
theorem dX8_hang_14 : decode cX8_hang 14 = .ok (.i2l, 1) := by decide +kernel
theorem dX8_hang_15 : decode cX8_hang 15 = .ok (.lconst 0, 1) := by decide +kernel
theorem dX8_hang_16 : decode cX8_hang 16 = .ok (.ldc2_w 196, 3) := by decide +kernel
theorem dX8_hang_19 : decode cX8_hang 19 = .ok (.invokestatic 60, 3) := by decide +kernel
theorem dX8_hang_22 : decode cX8_hang 22 = .ok (.ifCond .ne 6, 3) := by decide +kernel
theorem dX8_hang_25 : decode cX8_hang 25 = .ok (.ldc 70, 2) := by decide +kernel
theorem dX8_hang_27 : decode cX8_hang 27 = .ok (.ireturn, 1) := by decide +kernel
theorem dX8_hang_28 : decode cX8_hang 28 = .ok (.aload_n 0, 1) := by decide +kernel
theorem dX8_hang_29 : decode cX8_hang 29 = .ok (.getfield 19, 3) := by decide +kernel
theorem dX8_hang_32 : decode cX8_hang 32 = .ok (.iload_n 1, 1) := by decide +kernel
theorem dX8_hang_33 : decode cX8_hang 33 = .ok (.iconst 4, 1) := by decide +kernel
theorem dX8_hang_34 : decode cX8_hang 34 = .ok (.invokestatic 155, 3) := by decide +kernel
theorem dX8_hang_37 : decode cX8_hang 37 = .ok (.ifCond .ne 6, 3) := by decide +kernel
theorem dX8_hang_40 : decode cX8_hang 40 = .ok (.ldc 187, 2) := by decide +kernel
theorem dX8_hang_42 : decode cX8_hang 42 = .ok (.ireturn, 1) := by decide +kernel
theorem dX8_hang_43 : decode cX8_hang 43 = .ok (.aload_n 0, 1) := by decide +kernel
theorem dX8_hang_44 : decode cX8_hang 44 = .ok (.invokevirtual 190, 3) := by decide +kernel
theorem dX8_hang_47 : decode cX8_hang 47 = .ok (.aload_n 0, 1) := by decide +kernel
theorem dX8_hang_48 : decode cX8_hang 48 = .ok (.getfield 19, 3) := by decide +kernel
theorem dX8_hang_51 : decode cX8_hang 51 = .ok (.iload_n 1, 1) := by decide +kernel
theorem dX8_hang_52 : decode cX8_hang 52 = .ok (.iconst 2, 1) := by decide +kernel
theorem dX8_hang_53 : decode cX8_hang 53 = .ok (.invokestatic 155, 3) := by decide +kernel
theorem dX8_hang_56 : decode cX8_hang 56 = .ok (.istore_n 3, 1) := by decide +kernel
theorem dX8_hang_57 : decode cX8_hang 57 = .ok (.aload_n 0, 1) := by decide +kernel
theorem dX8_hang_58 : decode cX8_hang 58 = .ok (.getfield 19, 3) := by decide +kernel
theorem dX8_hang_61 : decode cX8_hang 61 = .ok (.bipush 6, 2) := by decide +kernel
theorem dX8_hang_63 : decode cX8_hang 63 = .ok (.iconst 5, 1) := by decide +kernel
theorem dX8_hang_64 : decode cX8_hang 64 = .ok (.iload_n 1, 1) := by decide +kernel
theorem dX8_hang_65 : decode cX8_hang 65 = .ok (.imul, 1) := by decide +kernel
theorem dX8_hang_66 : decode cX8_hang 66 = .ok (.iadd, 1) := by decide +kernel
theorem dX8_hang_67 : decode cX8_hang 67 = .ok (.iconst 2, 1) := by decide +kernel
theorem dX8_hang_68 : decode cX8_hang 68 = .ok (.iadd, 1) := by decide +kernel
theorem dX8_hang_69 : decode cX8_hang 69 = .ok (.iload_n 2, 1) := by decide +kernel
theorem dX8_hang_70 : decode cX8_hang 70 = .ok (.iastore, 1) := by decide +kernel
theorem dX8_hang_71 : decode cX8_hang 71 = .ok (.iload_n 3, 1) := by decide +kernel
theorem dX8_hang_72 : decode cX8_hang 72 = .ok (.ireturn, 1) := by decide +kernel
theorem dX8_salt_0 : decode cX8_salt 0 = .ok (.aload_n 0, 1) := by decide +kernel
theorem dX8_salt_1 : decode cX8_salt 1 = .ok (.iconst 0, 1) := by decide +kernel
theorem dX8_salt_2 : decode cX8_salt 2 = .ok (.putfield 50, 3) := by decide +kernel
theorem dX8_salt_5 : decode cX8_salt 5 = .ok (.aload_n 0, 1) := by decide +kernel
theorem dX8_salt_6 : decode cX8_salt 6 = .ok (.iload_n 1, 1) := by decide +kernel
theorem dX8_salt_7 : decode cX8_salt 7 = .ok (.invokevirtual 193, 3) := by decide +kernel
theorem dX8_salt_10 : decode cX8_salt 10 = .ok (.ifCond .ne 6, 3) := by decide +kernel
theorem dX8_salt_13 : decode cX8_salt 13 = .ok (.ldc 70, 2) := by decide +kernel
theorem dX8_salt_15 : decode cX8_salt 15 = .ok (.ireturn, 1) := by decide +kernel
theorem dX8_salt_16 : decode cX8_salt 16 = .ok (.aload_n 0, 1) := by decide +kernel
theorem dX8_salt_17 : decode cX8_salt 17 = .ok (.getfield 19, 3) := by decide +kernel
theorem dX8_salt_20 : decode cX8_salt 20 = .ok (.iload_n 1, 1) := by decide +kernel
theorem dX8_salt_21 : decode cX8_salt 21 = .ok (.iconst 3, 1) := by decide +kernel
theorem dX8_salt_22 : decode cX8_salt 22 = .ok (.invokestatic 155, 3) := by decide +kernel
theorem dX8_salt_25 : decode cX8_salt 25 = .ok (.bipush 19, 2) := by decide +kernel
theorem dX8_salt_27 : decode cX8_salt 27 = .ok (.if_icmp .ne 6, 3) := by decide +kernel
theorem dX8_salt_30 : decode cX8_salt 30 = .ok (.ldc 80, 2) := by decide +kernel
theorem dX8_salt_32 : decode cX8_salt 32 = .ok (.ireturn, 1) := by decide +kernel
theorem dX8_salt_33 : decode cX8_salt 33 = .ok (.aload_n 0, 1) := by decide +kernel
theorem dX8_salt_34 : decode cX8_salt 34 = .ok (.invokevirtual 190, 3) := by decide +kernel
theorem dX8_salt_37 : decode cX8_salt 37 = .ok (.aload_n 0, 1) := by decide +kernel
theorem dX8_salt_38 : decode cX8_salt 38 = .ok (.getfield 19, 3) := by decide +kernel
theorem dX8_salt_41 : decode cX8_salt 41 = .ok (.bipush 6, 2) := by decide +kernel
theorem dX8_salt_43 : decode cX8_salt 43 = .ok (.iconst 5, 1) := by decide +kernel
theorem dX8_salt_44 : decode cX8_salt 44 = .ok (.iload_n 1, 1) := by decide +kernel
theorem dX8_salt_45 : decode cX8_salt 45 = .ok (.imul, 1) := by decide +kernel
theorem dX8_salt_46 : decode cX8_salt 46 = .ok (.iadd, 1) := by decide +kernel
theorem dX8_salt_47 : decode cX8_salt 47 = .ok (.iconst 3, 1) := by decide +kernel
theorem dX8_salt_48 : decode cX8_salt 48 = .ok (.iadd, 1) := by decide +kernel
theorem dX8_salt_49 : decode cX8_salt 49 = .ok (.dup2, 1) := by decide +kernel
theorem dX8_salt_50 : decode cX8_salt 50 = .ok (.iaload, 1) := by decide +kernel
theorem dX8_salt_51 : decode cX8_salt 51 = .ok (.iconst 1, 1) := by decide +kernel
theorem dX8_salt_52 : decode cX8_salt 52 = .ok (.iadd, 1) := by decide +kernel
theorem dX8_salt_53 : decode cX8_salt 53 = .ok (.iastore, 1) := by decide +kernel
theorem dX8_salt_54 : decode cX8_salt 54 = .ok (.aload_n 0, 1) := by decide +kernel
theorem dX8_salt_55 : decode cX8_salt 55 = .ok (.getfield 19, 3) := by decide +kernel
theorem dX8_salt_58 : decode cX8_salt 58 = .ok (.iload_n 1, 1) := by decide +kernel
theorem dX8_salt_59 : decode cX8_salt 59 = .ok (.iconst 3, 1) := by decide +kernel
theorem dX8_salt_60 : decode cX8_salt 60 = .ok (.invokestatic 155, 3) := by decide +kernel
theorem dX8_salt_63 : decode cX8_salt 63 = .ok (.ireturn, 1) := by decide +kernel
theorem dX8_transcribe_0 : decode cX8_transcribe 0 = .ok (.aload_n 0, 1) := by decide +kernel
theorem dX8_transcribe_1 : decode cX8_transcribe 1 = .ok (.iconst 0, 1) := by decide +kernel
theorem dX8_transcribe_2 : decode cX8_transcribe 2 = .ok (.putfield 50, 3) := by decide +kernel
theorem dX8_transcribe_5 : decode cX8_transcribe 5 = .ok (.aload_n 0, 1) := by decide +kernel
theorem dX8_transcribe_6 : decode cX8_transcribe 6 = .ok (.iload_n 1, 1) := by decide +kernel
theorem dX8_transcribe_7 : decode cX8_transcribe 7 = .ok (.invokevirtual 193, 3) := by decide +kernel
theorem dX8_transcribe_10 : decode cX8_transcribe 10 = .ok (.ifCond .ne 6, 3) := by decide +kernel
theorem dX8_transcribe_13 : decode cX8_transcribe 13 = .ok (.ldc 70, 2) := by decide +kernel
theorem dX8_transcribe_15 : decode cX8_transcribe 15 = .ok (.ireturn, 1) := by decide +kernel
theorem dX8_transcribe_16 : decode cX8_transcribe 16 = .ok (.aload_n 0, 1) := by decide +kernel
theorem dX8_transcribe_17 : decode cX8_transcribe 17 = .ok (.invokevirtual 190, 3) := by decide +kernel
theorem dX8_transcribe_20 : decode cX8_transcribe 20 = .ok (.aload_n 0, 1) := by decide +kernel
theorem dX8_transcribe_21 : decode cX8_transcribe 21 = .ok (.getfield 19, 3) := by decide +kernel
theorem dX8_transcribe_24 : decode cX8_transcribe 24 = .ok (.iload_n 1, 1) := by decide +kernel
theorem dX8_transcribe_25 : decode cX8_transcribe 25 = .ok (.iconst 4, 1) := by decide +kernel
theorem dX8_transcribe_26 : decode cX8_transcribe 26 = .ok (.invokestatic 155, 3) := by decide +kernel
theorem dX8_transcribe_29 : decode cX8_transcribe 29 = .ok (.istore_n 2, 1) := by decide +kernel
theorem dX8_transcribe_30 : decode cX8_transcribe 30 = .ok (.aload_n 0, 1) := by decide +kernel
theorem dX8_transcribe_31 : decode cX8_transcribe 31 = .ok (.getfield 19, 3) := by decide +kernel
theorem dX8_transcribe_34 : decode cX8_transcribe 34 = .ok (.bipush 6, 2) := by decide +kernel
theorem dX8_transcribe_36 : decode cX8_transcribe 36 = .ok (.iconst 5, 1) := by decide +kernel
theorem dX8_transcribe_37 : decode cX8_transcribe 37 = .ok (.iload_n 1, 1) := by decide +kernel
theorem dX8_transcribe_38 : decode cX8_transcribe 38 = .ok (.imul, 1) := by decide +kernel
theorem dX8_transcribe_39 : decode cX8_transcribe 39 = .ok (.iadd, 1) := by decide +kernel
theorem dX8_transcribe_40 : decode cX8_transcribe 40 = .ok (.iconst 4, 1) := by decide +kernel
theorem dX8_transcribe_41 : decode cX8_transcribe 41 = .ok (.iadd, 1) := by decide +kernel
theorem dX8_transcribe_42 : decode cX8_transcribe 42 = .ok (.aload_n 0, 1) := by decide +kernel
theorem dX8_transcribe_43 : decode cX8_transcribe 43 = .ok (.getfield 19, 3) := by decide +kernel
theorem dX8_transcribe_46 : decode cX8_transcribe 46 = .ok (.iload_n 1, 1) := by decide +kernel
theorem dX8_transcribe_47 : decode cX8_transcribe 47 = .ok (.iconst 1, 1) := by decide +kernel
theorem dX8_transcribe_48 : decode cX8_transcribe 48 = .ok (.invokestatic 155, 3) := by decide +kernel
theorem dX8_transcribe_51 : decode cX8_transcribe 51 = .ok (.iastore, 1) := by decide +kernel
theorem dX8_transcribe_52 : decode cX8_transcribe 52 = .ok (.iload_n 2, 1) := by decide +kernel
theorem dX8_transcribe_53 : decode cX8_transcribe 53 = .ok (.ireturn, 1) := by decide +kernel
theorem dX8_drive_0 : decode cX8_drive 0 = .ok (.aload_n 0, 1) := by decide +kernel
theorem dX8_drive_1 : decode cX8_drive 1 = .ok (.iconst 0, 1) := by decide +kernel
theorem dX8_drive_2 : decode cX8_drive 2 = .ok (.putfield 50, 3) := by decide +kernel
theorem dX8_drive_5 : decode cX8_drive 5 = .ok (.aload_n 0, 1) := by decide +kernel
theorem dX8_drive_6 : decode cX8_drive 6 = .ok (.iload_n 1, 1) := by decide +kernel
theorem dX8_drive_7 : decode cX8_drive 7 = .ok (.invokevirtual 198, 3) := by decide +kernel
theorem dX8_drive_10 : decode cX8_drive 10 = .ok (.ifCond .eq 15, 3) := by decide +kernel
theorem dX8_drive_13 : decode cX8_drive 13 = .ok (.iload_n 2, 1) := by decide +kernel
theorem dX8_drive_14 : decode cX8_drive 14 = .ok (.i2l, 1) := by decide +kernel
theorem dX8_drive_15 : decode cX8_drive 15 = .ok (.lconst 0, 1) := by decide +kernel
theorem dX8_drive_16 : decode cX8_drive 16 = .ok (.ldc2_w 201, 3) := by decide +kernel
theorem dX8_drive_19 : decode cX8_drive 19 = .ok (.invokestatic 60, 3) := by decide +kernel
theorem dX8_drive_22 : decode cX8_drive 22 = .ok (.ifCond .ne 6, 3) := by decide +kernel
theorem dX8_drive_25 : decode cX8_drive 25 = .ok (.ldc 70, 2) := by decide +kernel
theorem dX8_drive_27 : decode cX8_drive 27 = .ok (.ireturn, 1) := by decide +kernel
theorem dX8_drive_28 : decode cX8_drive 28 = .ok (.aload_n 0, 1) := by decide +kernel
theorem dX8_drive_29 : decode cX8_drive 29 = .ok (.invokevirtual 190, 3) := by decide +kernel
theorem dX8_drive_32 : decode cX8_drive 32 = .ok (.aload_n 0, 1) := by decide +kernel
theorem dX8_drive_33 : decode cX8_drive 33 = .ok (.getfield 19, 3) := by decide +kernel
theorem dX8_drive_36 : decode cX8_drive 36 = .ok (.iload_n 1, 1) := by decide +kernel
theorem dX8_drive_37 : decode cX8_drive 37 = .ok (.iconst 2, 1) := by decide +kernel
theorem dX8_drive_38 : decode cX8_drive 38 = .ok (.invokestatic 159, 3) := by decide +kernel
theorem dX8_drive_41 : decode cX8_drive 41 = .ok (.istore_n 3, 1) := by decide +kernel
theorem dX8_drive_42 : decode cX8_drive 42 = .ok (.aload_n 0, 1) := by decide +kernel
theorem dX8_drive_43 : decode cX8_drive 43 = .ok (.getfield 19, 3) := by decide +kernel
theorem dX8_drive_46 : decode cX8_drive 46 = .ok (.bipush 41, 2) := by decide +kernel
theorem dX8_drive_48 : decode cX8_drive 48 = .ok (.iconst 3, 1) := by decide +kernel
theorem dX8_drive_49 : decode cX8_drive 49 = .ok (.iload_n 1, 1) := by decide +kernel
theorem dX8_drive_50 : decode cX8_drive 50 = .ok (.imul, 1) := by decide +kernel
theorem dX8_drive_51 : decode cX8_drive 51 = .ok (.iadd, 1) := by decide +kernel
theorem dX8_drive_52 : decode cX8_drive 52 = .ok (.iconst 2, 1) := by decide +kernel
theorem dX8_drive_53 : decode cX8_drive 53 = .ok (.iadd, 1) := by decide +kernel
theorem dX8_drive_54 : decode cX8_drive 54 = .ok (.iload_n 2, 1) := by decide +kernel
theorem dX8_drive_55 : decode cX8_drive 55 = .ok (.iastore, 1) := by decide +kernel
theorem dX8_drive_56 : decode cX8_drive 56 = .ok (.iload_n 3, 1) := by decide +kernel
theorem dX8_drive_57 : decode cX8_drive 57 = .ok (.ireturn, 1) := by decide +kernel
theorem dX8_fodder_0 : decode cX8_fodder 0 = .ok (.aload_n 0, 1) := by decide +kernel
theorem dX8_fodder_1 : decode cX8_fodder 1 = .ok (.iconst 0, 1) := by decide +kernel
theorem dX8_fodder_2 : decode cX8_fodder 2 = .ok (.putfield 50, 3) := by decide +kernel
theorem dX8_fodder_5 : decode cX8_fodder 5 = .ok (.aload_n 0, 1) := by decide +kernel
theorem dX8_fodder_6 : decode cX8_fodder 6 = .ok (.iload_n 1, 1) := by decide +kernel
theorem dX8_fodder_7 : decode cX8_fodder 7 = .ok (.invokevirtual 198, 3) := by decide +kernel
theorem dX8_fodder_10 : decode cX8_fodder 10 = .ok (.ifCond .ne 6, 3) := by decide +kernel
theorem dX8_fodder_13 : decode cX8_fodder 13 = .ok (.ldc 70, 2) := by decide +kernel
theorem dX8_fodder_15 : decode cX8_fodder 15 = .ok (.ireturn, 1) := by decide +kernel
theorem dX8_fodder_16 : decode cX8_fodder 16 = .ok (.aload_n 0, 1) := by decide +kernel
theorem dX8_fodder_17 : decode cX8_fodder 17 = .ok (.invokevirtual 190, 3) := by decide +kernel
theorem dX8_fodder_20 : decode cX8_fodder 20 = .ok (.aload_n 0, 1) := by decide +kernel
theorem dX8_fodder_21 : decode cX8_fodder 21 = .ok (.getfield 19, 3) := by decide +kernel
theorem dX8_fodder_24 : decode cX8_fodder 24 = .ok (.iload_n 1, 1) := by decide +kernel
theorem dX8_fodder_25 : decode cX8_fodder 25 = .ok (.iconst 0, 1) := by decide +kernel
theorem dX8_fodder_26 : decode cX8_fodder 26 = .ok (.invokestatic 159, 3) := by decide +kernel
theorem dX8_fodder_29 : decode cX8_fodder 29 = .ok (.istore_n 2, 1) := by decide +kernel
theorem dX8_fodder_30 : decode cX8_fodder 30 = .ok (.aload_n 0, 1) := by decide +kernel
theorem dX8_fodder_31 : decode cX8_fodder 31 = .ok (.getfield 19, 3) := by decide +kernel
theorem dX8_fodder_34 : decode cX8_fodder 34 = .ok (.bipush 41, 2) := by decide +kernel
theorem dX8_fodder_36 : decode cX8_fodder 36 = .ok (.iconst 3, 1) := by decide +kernel
theorem dX8_fodder_37 : decode cX8_fodder 37 = .ok (.iload_n 1, 1) := by decide +kernel
theorem dX8_fodder_38 : decode cX8_fodder 38 = .ok (.imul, 1) := by decide +kernel
theorem dX8_fodder_39 : decode cX8_fodder 39 = .ok (.iadd, 1) := by decide +kernel
theorem dX8_fodder_40 : decode cX8_fodder 40 = .ok (.iconst 0, 1) := by decide +kernel
theorem dX8_fodder_41 : decode cX8_fodder 41 = .ok (.iastore, 1) := by decide +kernel
theorem dX8_fodder_42 : decode cX8_fodder 42 = .ok (.iload_n 2, 1) := by decide +kernel
theorem dX8_fodder_43 : decode cX8_fodder 43 = .ok (.ireturn, 1) := by decide +kernel
theorem dX8_undo_0 : decode cX8_undo 0 = .ok (.aload_n 0, 1) := by decide +kernel
theorem dX8_undo_1 : decode cX8_undo 1 = .ok (.iconst 0, 1) := by decide +kernel
theorem dX8_undo_2 : decode cX8_undo 2 = .ok (.putfield 50, 3) := by decide +kernel
theorem dX8_undo_5 : decode cX8_undo 5 = .ok (.aload_n 0, 1) := by decide +kernel
theorem dX8_undo_6 : decode cX8_undo 6 = .ok (.getfield 152, 3) := by decide +kernel
theorem dX8_undo_9 : decode cX8_undo 9 = .ok (.ifCond .ne 6, 3) := by decide +kernel
theorem dX8_undo_12 : decode cX8_undo 12 = .ok (.ldc 187, 2) := by decide +kernel
theorem dX8_undo_14 : decode cX8_undo 14 = .ok (.ireturn, 1) := by decide +kernel
theorem dX8_undo_15 : decode cX8_undo 15 = .ok (.aload_n 0, 1) := by decide +kernel
theorem dX8_undo_16 : decode cX8_undo 16 = .ok (.dup, 1) := by decide +kernel
theorem dX8_undo_17 : decode cX8_undo 17 = .ok (.getfield 152, 3) := by decide +kernel
theorem dX8_undo_20 : decode cX8_undo 20 = .ok (.iconst 1, 1) := by decide +kernel
theorem dX8_undo_21 : decode cX8_undo 21 = .ok (.isub, 1) := by decide +kernel
theorem dX8_undo_22 : decode cX8_undo 22 = .ok (.putfield 152, 3) := by decide +kernel
theorem dX8_undo_25 : decode cX8_undo 25 = .ok (.iconst 0, 1) := by decide +kernel
theorem dX8_undo_26 : decode cX8_undo 26 = .ok (.istore_n 1, 1) := by decide +kernel
theorem dX8_undo_27 : decode cX8_undo 27 = .ok (.iload_n 1, 1) := by decide +kernel
theorem dX8_undo_28 : decode cX8_undo 28 = .ok (.bipush 53, 2) := by decide +kernel
theorem dX8_undo_30 : decode cX8_undo 30 = .ok (.if_icmp .ge 29, 3) := by decide +kernel
theorem dX8_undo_33 : decode cX8_undo 33 = .ok (.aload_n 0, 1) := by decide +kernel
theorem dX8_undo_34 : decode cX8_undo 34 = .ok (.getfield 19, 3) := by decide +kernel
theorem dX8_undo_37 : decode cX8_undo 37 = .ok (.iload_n 1, 1) := by decide +kernel
theorem dX8_undo_38 : decode cX8_undo 38 = .ok (.aload_n 0, 1) := by decide +kernel
theorem dX8_undo_39 : decode cX8_undo 39 = .ok (.getfield 28, 3) := by decide +kernel
theorem dX8_undo_42 : decode cX8_undo 42 = .ok (.bipush 53, 2) := by decide +kernel
theorem dX8_undo_44 : decode cX8_undo 44 = .ok (.aload_n 0, 1) := by decide +kernel
theorem dX8_undo_45 : decode cX8_undo 45 = .ok (.getfield 152, 3) := by decide +kernel
theorem dX8_undo_48 : decode cX8_undo 48 = .ok (.imul, 1) := by decide +kernel
theorem dX8_undo_49 : decode cX8_undo 49 = .ok (.iload_n 1, 1) := by decide +kernel
theorem dX8_undo_50 : decode cX8_undo 50 = .ok (.iadd, 1) := by decide +kernel
theorem dX8_undo_51 : decode cX8_undo 51 = .ok (.iaload, 1) := by decide +kernel
theorem dX8_undo_52 : decode cX8_undo 52 = .ok (.iastore, 1) := by decide +kernel
theorem dX8_undo_53 : decode cX8_undo 53 = .ok (.iinc 1 1, 3) := by decide +kernel
theorem dX8_undo_56 : decode cX8_undo 56 = .ok (.goto (-29), 3) := by decide +kernel
theorem dX8_undo_59 : decode cX8_undo 59 = .ok (.aload_n 0, 1) := by decide +kernel
theorem dX8_undo_60 : decode cX8_undo 60 = .ok (.getfield 152, 3) := by decide +kernel
theorem dX8_undo_63 : decode cX8_undo 63 = .ok (.ireturn, 1) := by decide +kernel
theorem dX8_leaf_0 : decode cX8_leaf 0 = .ok (.aload_n 0, 1) := by decide +kernel
theorem dX8_leaf_1 : decode cX8_leaf 1 = .ok (.iconst 0, 1) := by decide +kernel
theorem dX8_leaf_2 : decode cX8_leaf 2 = .ok (.putfield 50, 3) := by decide +kernel
theorem dX8_leaf_5 : decode cX8_leaf 5 = .ok (.aload_n 0, 1) := by decide +kernel
theorem dX8_leaf_6 : decode cX8_leaf 6 = .ok (.iload_n 1, 1) := by decide +kernel
theorem dX8_leaf_7 : decode cX8_leaf 7 = .ok (.invokevirtual 193, 3) := by decide +kernel
theorem dX8_leaf_10 : decode cX8_leaf 10 = .ok (.ifCond .eq 15, 3) := by decide +kernel
theorem dX8_leaf_13 : decode cX8_leaf 13 = .ok (.iload_n 2, 1) := by decide +kernel
theorem dX8_leaf_14 : decode cX8_leaf 14 = .ok (.i2l, 1) := by decide +kernel
theorem dX8_leaf_15 : decode cX8_leaf 15 = .ok (.lconst 0, 1) := by decide +kernel
theorem dX8_leaf_16 : decode cX8_leaf 16 = .ok (.ldc2_w 203, 3) := by decide +kernel
theorem dX8_leaf_19 : decode cX8_leaf 19 = .ok (.invokestatic 60, 3) := by decide +kernel
theorem dX8_leaf_22 : decode cX8_leaf 22 = .ok (.ifCond .ne 6, 3) := by decide +kernel
theorem dX8_leaf_25 : decode cX8_leaf 25 = .ok (.ldc 70, 2) := by decide +kernel
theorem dX8_leaf_27 : decode cX8_leaf 27 = .ok (.ireturn, 1) := by decide +kernel
theorem dX8_leaf_28 : decode cX8_leaf 28 = .ok (.iload_n 2, 1) := by decide +kernel
theorem dX8_leaf_29 : decode cX8_leaf 29 = .ok (.iconst 4, 1) := by decide +kernel
theorem dX8_leaf_30 : decode cX8_leaf 30 = .ok (.if_icmp .ge 17, 3) := by decide +kernel
theorem dX8_leaf_33 : decode cX8_leaf 33 = .ok (.aload_n 0, 1) := by decide +kernel
theorem dX8_leaf_34 : decode cX8_leaf 34 = .ok (.getfield 19, 3) := by decide +kernel
theorem dX8_leaf_37 : decode cX8_leaf 37 = .ok (.iload_n 1, 1) := by decide +kernel
theorem dX8_leaf_38 : decode cX8_leaf 38 = .ok (.iconst 1, 1) := by decide +kernel
theorem dX8_leaf_39 : decode cX8_leaf 39 = .ok (.iload_n 2, 1) := by decide +kernel
theorem dX8_leaf_40 : decode cX8_leaf 40 = .ok (.iadd, 1) := by decide +kernel
theorem dX8_leaf_41 : decode cX8_leaf 41 = .ok (.invokestatic 155, 3) := by decide +kernel
theorem dX8_leaf_44 : decode cX8_leaf 44 = .ok (.goto 51, 3) := by decide +kernel
theorem dX8_leaf_47 : decode cX8_leaf 47 = .ok (.iload_n 2, 1) := by decide +kernel
theorem dX8_leaf_48 : decode cX8_leaf 48 = .ok (.iconst 4, 1) := by decide +kernel
theorem dX8_leaf_49 : decode cX8_leaf 49 = .ok (.if_icmp .ne 14, 3) := by decide +kernel
theorem dX8_leaf_52 : decode cX8_leaf 52 = .ok (.aload_n 0, 1) := by decide +kernel
theorem dX8_leaf_53 : decode cX8_leaf 53 = .ok (.getfield 19, 3) := by decide +kernel
theorem dX8_leaf_56 : decode cX8_leaf 56 = .ok (.iload_n 1, 1) := by decide +kernel
theorem dX8_leaf_57 : decode cX8_leaf 57 = .ok (.invokestatic 162, 3) := by decide +kernel
theorem dX8_leaf_60 : decode cX8_leaf 60 = .ok (.goto 35, 3) := by decide +kernel
theorem dX8_leaf_63 : decode cX8_leaf 63 = .ok (.aload_n 0, 1) := by decide +kernel
theorem dX8_leaf_64 : decode cX8_leaf 64 = .ok (.getfield 19, 3) := by decide +kernel
theorem dX8_leaf_67 : decode cX8_leaf 67 = .ok (.iload_n 1, 1) := by decide +kernel
theorem dX8_leaf_68 : decode cX8_leaf 68 = .ok (.invokestatic 173, 3) := by decide +kernel
theorem dX8_leaf_71 : decode cX8_leaf 71 = .ok (.ifCond .eq 7, 3) := by decide +kernel
theorem dX8_leaf_74 : decode cX8_leaf 74 = .ok (.iconst 2, 1) := by decide +kernel
theorem dX8_leaf_75 : decode cX8_leaf 75 = .ok (.goto 20, 3) := by decide +kernel
theorem dX8_leaf_78 : decode cX8_leaf 78 = .ok (.aload_n 0, 1) := by decide +kernel
theorem dX8_leaf_79 : decode cX8_leaf 79 = .ok (.getfield 19, 3) := by decide +kernel
theorem dX8_leaf_82 : decode cX8_leaf 82 = .ok (.iload_n 1, 1) := by decide +kernel
theorem dX8_leaf_83 : decode cX8_leaf 83 = .ok (.iconst 4, 1) := by decide +kernel
theorem dX8_leaf_84 : decode cX8_leaf 84 = .ok (.invokestatic 155, 3) := by decide +kernel
theorem dX8_leaf_87 : decode cX8_leaf 87 = .ok (.ifCond .le 7, 3) := by decide +kernel
theorem dX8_leaf_90 : decode cX8_leaf 90 = .ok (.iconst 1, 1) := by decide +kernel
theorem dX8_leaf_91 : decode cX8_leaf 91 = .ok (.goto 4, 3) := by decide +kernel
theorem dX8_leaf_94 : decode cX8_leaf 94 = .ok (.iconst 0, 1) := by decide +kernel
theorem dX8_leaf_95 : decode cX8_leaf 95 = .ok (.ireturn, 1) := by decide +kernel
theorem dX8_goat_0 : decode cX8_goat 0 = .ok (.aload_n 0, 1) := by decide +kernel
theorem dX8_goat_1 : decode cX8_goat 1 = .ok (.iconst 0, 1) := by decide +kernel
theorem dX8_goat_2 : decode cX8_goat 2 = .ok (.putfield 50, 3) := by decide +kernel
theorem dX8_goat_5 : decode cX8_goat 5 = .ok (.aload_n 0, 1) := by decide +kernel
theorem dX8_goat_6 : decode cX8_goat 6 = .ok (.iload_n 1, 1) := by decide +kernel
theorem dX8_goat_7 : decode cX8_goat 7 = .ok (.invokevirtual 198, 3) := by decide +kernel
theorem dX8_goat_10 : decode cX8_goat 10 = .ok (.ifCond .eq 15, 3) := by decide +kernel
theorem dX8_goat_13 : decode cX8_goat 13 = .ok (.iload_n 2, 1) := by decide +kernel
theorem dX8_goat_14 : decode cX8_goat 14 = .ok (.i2l, 1) := by decide +kernel
theorem dX8_goat_15 : decode cX8_goat 15 = .ok (.lconst 0, 1) := by decide +kernel
theorem dX8_goat_16 : decode cX8_goat 16 = .ok (.ldc2_w 205, 3) := by decide +kernel
theorem dX8_goat_19 : decode cX8_goat 19 = .ok (.invokestatic 60, 3) := by decide +kernel
theorem dX8_goat_22 : decode cX8_goat 22 = .ok (.ifCond .ne 6, 3) := by decide +kernel
theorem dX8_goat_25 : decode cX8_goat 25 = .ok (.ldc 70, 2) := by decide +kernel
theorem dX8_goat_27 : decode cX8_goat 27 = .ok (.ireturn, 1) := by decide +kernel
theorem dX8_goat_28 : decode cX8_goat 28 = .ok (.iload_n 2, 1) := by decide +kernel
theorem dX8_goat_29 : decode cX8_goat 29 = .ok (.iconst 3, 1) := by decide +kernel
theorem dX8_goat_30 : decode cX8_goat 30 = .ok (.if_icmp .ge 15, 3) := by decide +kernel
theorem dX8_goat_33 : decode cX8_goat 33 = .ok (.aload_n 0, 1) := by decide +kernel
theorem dX8_goat_34 : decode cX8_goat 34 = .ok (.getfield 19, 3) := by decide +kernel
theorem dX8_goat_37 : decode cX8_goat 37 = .ok (.iload_n 1, 1) := by decide +kernel
theorem dX8_goat_38 : decode cX8_goat 38 = .ok (.iload_n 2, 1) := by decide +kernel
theorem dX8_goat_39 : decode cX8_goat 39 = .ok (.invokestatic 159, 3) := by decide +kernel
theorem dX8_goat_42 : decode cX8_goat 42 = .ok (.goto 11, 3) := by decide +kernel
theorem dX8_goat_45 : decode cX8_goat 45 = .ok (.aload_n 0, 1) := by decide +kernel
theorem dX8_goat_46 : decode cX8_goat 46 = .ok (.getfield 19, 3) := by decide +kernel
theorem dX8_goat_49 : decode cX8_goat 49 = .ok (.iload_n 1, 1) := by decide +kernel
theorem dX8_goat_50 : decode cX8_goat 50 = .ok (.invokestatic 166, 3) := by decide +kernel
theorem dX8_goat_53 : decode cX8_goat 53 = .ok (.ireturn, 1) := by decide +kernel
theorem dX8_ahead_0 : decode cX8_ahead 0 = .ok (.aload_n 0, 1) := by decide +kernel
theorem dX8_ahead_1 : decode cX8_ahead 1 = .ok (.iconst 0, 1) := by decide +kernel
theorem dX8_ahead_2 : decode cX8_ahead 2 = .ok (.putfield 50, 3) := by decide +kernel
theorem dX8_ahead_5 : decode cX8_ahead 5 = .ok (.aload_n 0, 1) := by decide +kernel
theorem dX8_ahead_6 : decode cX8_ahead 6 = .ok (.iload_n 1, 1) := by decide +kernel
theorem dX8_ahead_7 : decode cX8_ahead 7 = .ok (.invokevirtual 193, 3) := by decide +kernel
theorem dX8_ahead_10 : decode cX8_ahead 10 = .ok (.ifCond .eq 15, 3) := by decide +kernel
theorem dX8_ahead_13 : decode cX8_ahead 13 = .ok (.iload_n 2, 1) := by decide +kernel
theorem dX8_ahead_14 : decode cX8_ahead 14 = .ok (.i2l, 1) := by decide +kernel
theorem dX8_ahead_15 : decode cX8_ahead 15 = .ok (.lconst 0, 1) := by decide +kernel
theorem dX8_ahead_16 : decode cX8_ahead 16 = .ok (.ldc2_w 201, 3) := by decide +kernel
theorem dX8_ahead_19 : decode cX8_ahead 19 = .ok (.invokestatic 60, 3) := by decide +kernel
theorem dX8_ahead_22 : decode cX8_ahead 22 = .ok (.ifCond .ne 6, 3) := by decide +kernel
theorem dX8_ahead_25 : decode cX8_ahead 25 = .ok (.ldc 70, 2) := by decide +kernel
theorem dX8_ahead_27 : decode cX8_ahead 27 = .ok (.ireturn, 1) := by decide +kernel
theorem dX8_ahead_28 : decode cX8_ahead 28 = .ok (.aload_n 0, 1) := by decide +kernel
theorem dX8_ahead_29 : decode cX8_ahead 29 = .ok (.invokevirtual 177, 3) := by decide +kernel
theorem dX8_ahead_32 : decode cX8_ahead 32 = .ok (.aload_n 0, 1) := by decide +kernel
theorem dX8_ahead_33 : decode cX8_ahead 33 = .ok (.aload_n 0, 1) := by decide +kernel
theorem dX8_ahead_34 : decode cX8_ahead 34 = .ok (.getfield 25, 3) := by decide +kernel
theorem dX8_ahead_37 : decode cX8_ahead 37 = .ok (.iload_n 2, 1) := by decide +kernel
theorem dX8_ahead_38 : decode cX8_ahead 38 = .ok (.invokevirtual 207, 3) := by decide +kernel
theorem dX8_ahead_41 : decode cX8_ahead 41 = .ok (.istore_n 3, 1) := by decide +kernel
theorem dX8_ahead_42 : decode cX8_ahead 42 = .ok (.aload_n 0, 1) := by decide +kernel
theorem dX8_ahead_43 : decode cX8_ahead 43 = .ok (.getfield 25, 3) := by decide +kernel
theorem dX8_ahead_46 : decode cX8_ahead 46 = .ok (.iload_n 1, 1) := by decide +kernel
theorem dX8_ahead_47 : decode cX8_ahead 47 = .ok (.iconst 4, 1) := by decide +kernel
theorem dX8_ahead_48 : decode cX8_ahead 48 = .ok (.invokestatic 155, 3) := by decide +kernel
theorem dX8_ahead_51 : decode cX8_ahead 51 = .ok (.ireturn, 1) := by decide +kernel
theorem dX8_force_0 : decode cX8_force 0 = .ok (.aload_n 0, 1) := by decide +kernel
theorem dX8_force_1 : decode cX8_force 1 = .ok (.iconst 0, 1) := by decide +kernel
theorem dX8_force_2 : decode cX8_force 2 = .ok (.putfield 50, 3) := by decide +kernel
theorem dX8_force_5 : decode cX8_force 5 = .ok (.aload_n 0, 1) := by decide +kernel
theorem dX8_force_6 : decode cX8_force 6 = .ok (.invokevirtual 184, 3) := by decide +kernel
theorem dX8_force_9 : decode cX8_force 9 = .ok (.ifCond .ne 6, 3) := by decide +kernel
theorem dX8_force_12 : decode cX8_force 12 = .ok (.ldc 187, 2) := by decide +kernel
theorem dX8_force_14 : decode cX8_force 14 = .ok (.ireturn, 1) := by decide +kernel
theorem dX8_force_15 : decode cX8_force 15 = .ok (.iload_n 1, 1) := by decide +kernel
theorem dX8_force_16 : decode cX8_force 16 = .ok (.i2l, 1) := by decide +kernel
theorem dX8_force_17 : decode cX8_force 17 = .ok (.lconst 0, 1) := by decide +kernel
theorem dX8_force_18 : decode cX8_force 18 = .ok (.ldc2_w 201, 3) := by decide +kernel
theorem dX8_force_21 : decode cX8_force 21 = .ok (.invokestatic 60, 3) := by decide +kernel
theorem dX8_force_24 : decode cX8_force 24 = .ok (.ifCond .ne 6, 3) := by decide +kernel
theorem dX8_force_27 : decode cX8_force 27 = .ok (.ldc 70, 2) := by decide +kernel
theorem dX8_force_29 : decode cX8_force 29 = .ok (.ireturn, 1) := by decide +kernel
theorem dX8_force_30 : decode cX8_force 30 = .ok (.aload_n 0, 1) := by decide +kernel
theorem dX8_force_31 : decode cX8_force 31 = .ok (.invokevirtual 177, 3) := by decide +kernel
theorem dX8_force_34 : decode cX8_force 34 = .ok (.aload_n 0, 1) := by decide +kernel
theorem dX8_force_35 : decode cX8_force 35 = .ok (.aload_n 0, 1) := by decide +kernel
theorem dX8_force_36 : decode cX8_force 36 = .ok (.getfield 25, 3) := by decide +kernel
theorem dX8_force_39 : decode cX8_force 39 = .ok (.iload_n 1, 1) := by decide +kernel
theorem dX8_force_40 : decode cX8_force 40 = .ok (.invokevirtual 207, 3) := by decide +kernel
theorem dX8_force_43 : decode cX8_force 43 = .ok (.istore_n 2, 1) := by decide +kernel
theorem dX8_force_44 : decode cX8_force 44 = .ok (.aload_n 0, 1) := by decide +kernel
theorem dX8_force_45 : decode cX8_force 45 = .ok (.getfield 25, 3) := by decide +kernel
theorem dX8_force_48 : decode cX8_force 48 = .ok (.invokestatic 210, 3) := by decide +kernel
theorem dX8_force_51 : decode cX8_force 51 = .ok (.ireturn, 1) := by decide +kernel
theorem dX8_emptied_0 : decode cX8_emptied 0 = .ok (.aload_n 0, 1) := by decide +kernel
theorem dX8_emptied_1 : decode cX8_emptied 1 = .ok (.iconst 0, 1) := by decide +kernel
theorem dX8_emptied_2 : decode cX8_emptied 2 = .ok (.putfield 50, 3) := by decide +kernel
theorem dX8_emptied_5 : decode cX8_emptied 5 = .ok (.aload_n 0, 1) := by decide +kernel
theorem dX8_emptied_6 : decode cX8_emptied 6 = .ok (.iload_n 1, 1) := by decide +kernel
theorem dX8_emptied_7 : decode cX8_emptied 7 = .ok (.invokevirtual 193, 3) := by decide +kernel
theorem dX8_emptied_10 : decode cX8_emptied 10 = .ok (.ifCond .ne 6, 3) := by decide +kernel
theorem dX8_emptied_13 : decode cX8_emptied 13 = .ok (.ldc 70, 2) := by decide +kernel
theorem dX8_emptied_15 : decode cX8_emptied 15 = .ok (.ireturn, 1) := by decide +kernel
theorem dX8_emptied_16 : decode cX8_emptied 16 = .ok (.aload_n 0, 1) := by decide +kernel
theorem dX8_emptied_17 : decode cX8_emptied 17 = .ok (.invokevirtual 177, 3) := by decide +kernel
theorem dX8_emptied_20 : decode cX8_emptied 20 = .ok (.iconst 0, 1) := by decide +kernel
theorem dX8_emptied_21 : decode cX8_emptied 21 = .ok (.istore_n 2, 1) := by decide +kernel
theorem dX8_emptied_22 : decode cX8_emptied 22 = .ok (.iload_n 2, 1) := by decide +kernel
theorem dX8_emptied_23 : decode cX8_emptied 23 = .ok (.bipush 60, 2) := by decide +kernel
theorem dX8_emptied_25 : decode cX8_emptied 25 = .ok (.if_icmp .gt 32, 3) := by decide +kernel
theorem dX8_emptied_28 : decode cX8_emptied 28 = .ok (.aload_n 0, 1) := by decide +kernel
theorem dX8_emptied_29 : decode cX8_emptied 29 = .ok (.getfield 25, 3) := by decide +kernel
theorem dX8_emptied_32 : decode cX8_emptied 32 = .ok (.iload_n 1, 1) := by decide +kernel
theorem dX8_emptied_33 : decode cX8_emptied 33 = .ok (.iconst 4, 1) := by decide +kernel
theorem dX8_emptied_34 : decode cX8_emptied 34 = .ok (.invokestatic 155, 3) := by decide +kernel
theorem dX8_emptied_37 : decode cX8_emptied 37 = .ok (.ifCond .ne 5, 3) := by decide +kernel
theorem dX8_emptied_40 : decode cX8_emptied 40 = .ok (.iload_n 2, 1) := by decide +kernel
theorem dX8_emptied_41 : decode cX8_emptied 41 = .ok (.ireturn, 1) := by decide +kernel
theorem dX8_emptied_42 : decode cX8_emptied 42 = .ok (.aload_n 0, 1) := by decide +kernel
theorem dX8_emptied_43 : decode cX8_emptied 43 = .ok (.aload_n 0, 1) := by decide +kernel
theorem dX8_emptied_44 : decode cX8_emptied 44 = .ok (.getfield 25, 3) := by decide +kernel
theorem dX8_emptied_47 : decode cX8_emptied 47 = .ok (.invokevirtual 169, 3) := by decide +kernel
theorem dX8_emptied_50 : decode cX8_emptied 50 = .ok (.istore_n 3, 1) := by decide +kernel
theorem dX8_emptied_51 : decode cX8_emptied 51 = .ok (.iinc 2 1, 3) := by decide +kernel
theorem dX8_emptied_54 : decode cX8_emptied 54 = .ok (.goto (-32), 3) := by decide +kernel
theorem dX8_emptied_57 : decode cX8_emptied 57 = .ok (.ldc 93, 2) := by decide +kernel
theorem dX8_emptied_59 : decode cX8_emptied 59 = .ok (.ireturn, 1) := by decide +kernel
theorem dX8_eats_0 : decode cX8_eats 0 = .ok (.aload_n 0, 1) := by decide +kernel
theorem dX8_eats_1 : decode cX8_eats 1 = .ok (.iconst 0, 1) := by decide +kernel
theorem dX8_eats_2 : decode cX8_eats 2 = .ok (.putfield 50, 3) := by decide +kernel
theorem dX8_eats_5 : decode cX8_eats 5 = .ok (.aload_n 0, 1) := by decide +kernel
theorem dX8_eats_6 : decode cX8_eats 6 = .ok (.iload_n 1, 1) := by decide +kernel
theorem dX8_eats_7 : decode cX8_eats 7 = .ok (.invokevirtual 198, 3) := by decide +kernel
theorem dX8_eats_10 : decode cX8_eats 10 = .ok (.ifCond .eq 15, 3) := by decide +kernel
theorem dX8_eats_13 : decode cX8_eats 13 = .ok (.iload_n 2, 1) := by decide +kernel
theorem dX8_eats_14 : decode cX8_eats 14 = .ok (.i2l, 1) := by decide +kernel
theorem dX8_eats_15 : decode cX8_eats 15 = .ok (.lconst 0, 1) := by decide +kernel
theorem dX8_eats_16 : decode cX8_eats 16 = .ok (.ldc2_w 201, 3) := by decide +kernel
theorem dX8_eats_19 : decode cX8_eats 19 = .ok (.invokestatic 60, 3) := by decide +kernel
theorem dX8_eats_22 : decode cX8_eats 22 = .ok (.ifCond .ne 6, 3) := by decide +kernel
theorem dX8_eats_25 : decode cX8_eats 25 = .ok (.ldc 70, 2) := by decide +kernel
theorem dX8_eats_27 : decode cX8_eats 27 = .ok (.ireturn, 1) := by decide +kernel
theorem dX8_eats_28 : decode cX8_eats 28 = .ok (.aload_n 0, 1) := by decide +kernel
theorem dX8_eats_29 : decode cX8_eats 29 = .ok (.invokevirtual 177, 3) := by decide +kernel
theorem dX8_eats_32 : decode cX8_eats 32 = .ok (.iconst 0, 1) := by decide +kernel
theorem dX8_eats_33 : decode cX8_eats 33 = .ok (.istore_n 3, 1) := by decide +kernel
theorem dX8_eats_34 : decode cX8_eats 34 = .ok (.iconst 0, 1) := by decide +kernel
theorem dX8_eats_35 : decode cX8_eats 35 = .ok (.istore 4, 2) := by decide +kernel
theorem dX8_eats_37 : decode cX8_eats 37 = .ok (.iload 4, 2) := by decide +kernel
theorem dX8_eats_39 : decode cX8_eats 39 = .ok (.iload_n 2, 1) := by decide +kernel
theorem dX8_eats_40 : decode cX8_eats 40 = .ok (.if_icmp .ge 28, 3) := by decide +kernel
theorem dX8_eats_43 : decode cX8_eats 43 = .ok (.aload_n 0, 1) := by decide +kernel
theorem dX8_eats_44 : decode cX8_eats 44 = .ok (.aload_n 0, 1) := by decide +kernel
theorem dX8_eats_45 : decode cX8_eats 45 = .ok (.getfield 25, 3) := by decide +kernel
theorem dX8_eats_48 : decode cX8_eats 48 = .ok (.invokevirtual 169, 3) := by decide +kernel
theorem dX8_eats_51 : decode cX8_eats 51 = .ok (.istore 5, 2) := by decide +kernel
theorem dX8_eats_53 : decode cX8_eats 53 = .ok (.iload_n 3, 1) := by decide +kernel
theorem dX8_eats_54 : decode cX8_eats 54 = .ok (.aload_n 0, 1) := by decide +kernel
theorem dX8_eats_55 : decode cX8_eats 55 = .ok (.getfield 37, 3) := by decide +kernel
theorem dX8_eats_58 : decode cX8_eats 58 = .ok (.iload_n 1, 1) := by decide +kernel
theorem dX8_eats_59 : decode cX8_eats 59 = .ok (.iaload, 1) := by decide +kernel
theorem dX8_eats_60 : decode cX8_eats 60 = .ok (.iadd, 1) := by decide +kernel
theorem dX8_eats_61 : decode cX8_eats 61 = .ok (.istore_n 3, 1) := by decide +kernel
theorem dX8_eats_62 : decode cX8_eats 62 = .ok (.iinc 4 1, 3) := by decide +kernel
theorem dX8_eats_65 : decode cX8_eats 65 = .ok (.goto (-28), 3) := by decide +kernel
theorem dX8_eats_68 : decode cX8_eats 68 = .ok (.iload_n 3, 1) := by decide +kernel
theorem dX8_eats_69 : decode cX8_eats 69 = .ok (.ireturn, 1) := by decide +kernel
theorem dX8_biters_0 : decode cX8_biters 0 = .ok (.iconst 0, 1) := by decide +kernel
theorem dX8_biters_1 : decode cX8_biters 1 = .ok (.istore_n 3, 1) := by decide +kernel
theorem dX8_biters_2 : decode cX8_biters 2 = .ok (.iconst 0, 1) := by decide +kernel
theorem dX8_biters_3 : decode cX8_biters 3 = .ok (.istore 4, 2) := by decide +kernel
theorem dX8_biters_5 : decode cX8_biters 5 = .ok (.iload 4, 2) := by decide +kernel
theorem dX8_biters_7 : decode cX8_biters 7 = .ok (.iload_n 2, 1) := by decide +kernel
theorem dX8_biters_8 : decode cX8_biters 8 = .ok (.if_icmp .ge 61, 3) := by decide +kernel
theorem dX8_biters_11 : decode cX8_biters 11 = .ok (.aload_n 0, 1) := by decide +kernel
theorem dX8_biters_12 : decode cX8_biters 12 = .ok (.aload_n 0, 1) := by decide +kernel
theorem dX8_biters_13 : decode cX8_biters 13 = .ok (.getfield 25, 3) := by decide +kernel
theorem dX8_biters_16 : decode cX8_biters 16 = .ok (.invokevirtual 169, 3) := by decide +kernel
theorem dX8_biters_19 : decode cX8_biters 19 = .ok (.istore 5, 2) := by decide +kernel
theorem dX8_biters_21 : decode cX8_biters 21 = .ok (.iconst 0, 1) := by decide +kernel
theorem dX8_biters_22 : decode cX8_biters 22 = .ok (.istore 6, 2) := by decide +kernel
theorem dX8_biters_24 : decode cX8_biters 24 = .ok (.iload 6, 2) := by decide +kernel
theorem dX8_biters_26 : decode cX8_biters 26 = .ok (.aload_n 0, 1) := by decide +kernel
theorem dX8_biters_27 : decode cX8_biters 27 = .ok (.getfield 25, 3) := by decide +kernel
theorem dX8_biters_30 : decode cX8_biters 30 = .ok (.iconst 4, 1) := by decide +kernel
theorem dX8_biters_31 : decode cX8_biters 31 = .ok (.iaload, 1) := by decide +kernel
theorem dX8_biters_32 : decode cX8_biters 32 = .ok (.if_icmp .ge 31, 3) := by decide +kernel
theorem dX8_biters_35 : decode cX8_biters 35 = .ok (.iload_n 3, 1) := by decide +kernel
theorem dX8_biters_36 : decode cX8_biters 36 = .ok (.aload_n 0, 1) := by decide +kernel
theorem dX8_biters_37 : decode cX8_biters 37 = .ok (.getfield 34, 3) := by decide +kernel
theorem dX8_biters_40 : decode cX8_biters 40 = .ok (.iload 6, 2) := by decide +kernel
theorem dX8_biters_42 : decode cX8_biters 42 = .ok (.iaload, 1) := by decide +kernel
theorem dX8_biters_43 : decode cX8_biters 43 = .ok (.iload_n 1, 1) := by decide +kernel
theorem dX8_biters_44 : decode cX8_biters 44 = .ok (.if_icmp .ne 10, 3) := by decide +kernel
theorem dX8_biters_47 : decode cX8_biters 47 = .ok (.iconst 1, 1) := by decide +kernel
theorem dX8_biters_48 : decode cX8_biters 48 = .ok (.iload 6, 2) := by decide +kernel
theorem dX8_biters_50 : decode cX8_biters 50 = .ok (.ishl, 1) := by decide +kernel
theorem dX8_biters_51 : decode cX8_biters 51 = .ok (.goto 4, 3) := by decide +kernel
theorem dX8_biters_54 : decode cX8_biters 54 = .ok (.iconst 0, 1) := by decide +kernel
theorem dX8_biters_55 : decode cX8_biters 55 = .ok (.ior, 1) := by decide +kernel
theorem dX8_biters_56 : decode cX8_biters 56 = .ok (.istore_n 3, 1) := by decide +kernel
theorem dX8_biters_57 : decode cX8_biters 57 = .ok (.iinc 6 1, 3) := by decide +kernel
theorem dX8_biters_60 : decode cX8_biters 60 = .ok (.goto (-36), 3) := by decide +kernel
theorem dX8_biters_63 : decode cX8_biters 63 = .ok (.iinc 4 1, 3) := by decide +kernel
theorem dX8_biters_66 : decode cX8_biters 66 = .ok (.goto (-61), 3) := by decide +kernel
theorem dX8_biters_69 : decode cX8_biters 69 = .ok (.iload_n 3, 1) := by decide +kernel
theorem dX8_biters_70 : decode cX8_biters 70 = .ok (.ireturn, 1) := by decide +kernel
theorem dX8_guilt_0 : decode cX8_guilt 0 = .ok (.aload_n 0, 1) := by decide +kernel
theorem dX8_guilt_1 : decode cX8_guilt 1 = .ok (.iconst 0, 1) := by decide +kernel
theorem dX8_guilt_2 : decode cX8_guilt 2 = .ok (.putfield 50, 3) := by decide +kernel
theorem dX8_guilt_5 : decode cX8_guilt 5 = .ok (.aload_n 0, 1) := by decide +kernel
theorem dX8_guilt_6 : decode cX8_guilt 6 = .ok (.iload_n 1, 1) := by decide +kernel
theorem dX8_guilt_7 : decode cX8_guilt 7 = .ok (.invokevirtual 193, 3) := by decide +kernel
theorem dX8_guilt_10 : decode cX8_guilt 10 = .ok (.ifCond .eq 15, 3) := by decide +kernel
theorem dX8_guilt_13 : decode cX8_guilt 13 = .ok (.iload_n 2, 1) := by decide +kernel
theorem dX8_guilt_14 : decode cX8_guilt 14 = .ok (.i2l, 1) := by decide +kernel
theorem dX8_guilt_15 : decode cX8_guilt 15 = .ok (.lconst 1, 1) := by decide +kernel
theorem dX8_guilt_16 : decode cX8_guilt 16 = .ok (.ldc2_w 201, 3) := by decide +kernel
theorem dX8_guilt_19 : decode cX8_guilt 19 = .ok (.invokestatic 60, 3) := by decide +kernel
theorem dX8_guilt_22 : decode cX8_guilt 22 = .ok (.ifCond .ne 6, 3) := by decide +kernel
theorem dX8_guilt_25 : decode cX8_guilt 25 = .ok (.ldc 70, 2) := by decide +kernel
theorem dX8_guilt_27 : decode cX8_guilt 27 = .ok (.ireturn, 1) := by decide +kernel
theorem dX8_guilt_28 : decode cX8_guilt 28 = .ok (.aload_n 0, 1) := by decide +kernel
theorem dX8_guilt_29 : decode cX8_guilt 29 = .ok (.invokevirtual 177, 3) := by decide +kernel
theorem dX8_guilt_32 : decode cX8_guilt 32 = .ok (.aload_n 0, 1) := by decide +kernel
theorem dX8_guilt_33 : decode cX8_guilt 33 = .ok (.iload_n 1, 1) := by decide +kernel
theorem dX8_guilt_34 : decode cX8_guilt 34 = .ok (.iload_n 2, 1) := by decide +kernel
theorem dX8_guilt_35 : decode cX8_guilt 35 = .ok (.invokevirtual 213, 3) := by decide +kernel
theorem dX8_guilt_38 : decode cX8_guilt 38 = .ok (.ireturn, 1) := by decide +kernel
theorem dX8_gap_0 : decode cX8_gap 0 = .ok (.aload_n 0, 1) := by decide +kernel
theorem dX8_gap_1 : decode cX8_gap 1 = .ok (.iconst 0, 1) := by decide +kernel
theorem dX8_gap_2 : decode cX8_gap 2 = .ok (.putfield 50, 3) := by decide +kernel
theorem dX8_gap_5 : decode cX8_gap 5 = .ok (.aload_n 0, 1) := by decide +kernel
theorem dX8_gap_6 : decode cX8_gap 6 = .ok (.invokevirtual 184, 3) := by decide +kernel
theorem dX8_gap_9 : decode cX8_gap 9 = .ok (.ifCond .ne 6, 3) := by decide +kernel
theorem dX8_gap_12 : decode cX8_gap 12 = .ok (.ldc 187, 2) := by decide +kernel
theorem dX8_gap_14 : decode cX8_gap 14 = .ok (.ireturn, 1) := by decide +kernel
theorem dX8_gap_15 : decode cX8_gap 15 = .ok (.aload_n 0, 1) := by decide +kernel
theorem dX8_gap_16 : decode cX8_gap 16 = .ok (.iload_n 1, 1) := by decide +kernel
theorem dX8_gap_17 : decode cX8_gap 17 = .ok (.invokevirtual 216, 3) := by decide +kernel
theorem dX8_gap_20 : decode cX8_gap 20 = .ok (.ifCond .ne 6, 3) := by decide +kernel
theorem dX8_gap_23 : decode cX8_gap 23 = .ok (.ldc 70, 2) := by decide +kernel
theorem dX8_gap_25 : decode cX8_gap 25 = .ok (.ireturn, 1) := by decide +kernel
theorem dX8_gap_26 : decode cX8_gap 26 = .ok (.aload_n 0, 1) := by decide +kernel
theorem dX8_gap_27 : decode cX8_gap 27 = .ok (.invokevirtual 177, 3) := by decide +kernel
theorem dX8_gap_30 : decode cX8_gap 30 = .ok (.iconst 0, 1) := by decide +kernel
theorem dX8_gap_31 : decode cX8_gap 31 = .ok (.istore_n 2, 1) := by decide +kernel
theorem dX8_gap_32 : decode cX8_gap 32 = .ok (.iload_n 2, 1) := by decide +kernel
theorem dX8_gap_33 : decode cX8_gap 33 = .ok (.bipush 60, 2) := by decide +kernel
theorem dX8_gap_35 : decode cX8_gap 35 = .ok (.if_icmp .gt 32, 3) := by decide +kernel
theorem dX8_gap_38 : decode cX8_gap 38 = .ok (.aload_n 0, 1) := by decide +kernel
theorem dX8_gap_39 : decode cX8_gap 39 = .ok (.getfield 25, 3) := by decide +kernel
theorem dX8_gap_42 : decode cX8_gap 42 = .ok (.invokestatic 210, 3) := by decide +kernel
theorem dX8_gap_45 : decode cX8_gap 45 = .ok (.iload_n 1, 1) := by decide +kernel
theorem dX8_gap_46 : decode cX8_gap 46 = .ok (.iand, 1) := by decide +kernel
theorem dX8_gap_47 : decode cX8_gap 47 = .ok (.ifCond .ne 5, 3) := by decide +kernel
theorem dX8_gap_50 : decode cX8_gap 50 = .ok (.iload_n 2, 1) := by decide +kernel
theorem dX8_gap_51 : decode cX8_gap 51 = .ok (.ireturn, 1) := by decide +kernel
theorem dX8_gap_52 : decode cX8_gap 52 = .ok (.aload_n 0, 1) := by decide +kernel
theorem dX8_gap_53 : decode cX8_gap 53 = .ok (.aload_n 0, 1) := by decide +kernel
theorem dX8_gap_54 : decode cX8_gap 54 = .ok (.getfield 25, 3) := by decide +kernel
theorem dX8_gap_57 : decode cX8_gap 57 = .ok (.invokevirtual 169, 3) := by decide +kernel
theorem dX8_gap_60 : decode cX8_gap 60 = .ok (.istore_n 3, 1) := by decide +kernel
theorem dX8_gap_61 : decode cX8_gap 61 = .ok (.iinc 2 1, 3) := by decide +kernel
theorem dX8_gap_64 : decode cX8_gap 64 = .ok (.goto (-32), 3) := by decide +kernel
theorem dX8_gap_67 : decode cX8_gap 67 = .ok (.ldc 93, 2) := by decide +kernel
theorem dX8_gap_69 : decode cX8_gap 69 = .ok (.ireturn, 1) := by decide +kernel
theorem dX8_hangs_0 : decode cX8_hangs 0 = .ok (.aload_n 0, 1) := by decide +kernel
theorem dX8_hangs_1 : decode cX8_hangs 1 = .ok (.iconst 0, 1) := by decide +kernel
theorem dX8_hangs_2 : decode cX8_hangs 2 = .ok (.putfield 50, 3) := by decide +kernel
theorem dX8_hangs_5 : decode cX8_hangs 5 = .ok (.aload_n 0, 1) := by decide +kernel
theorem dX8_hangs_6 : decode cX8_hangs 6 = .ok (.invokevirtual 184, 3) := by decide +kernel
theorem dX8_hangs_9 : decode cX8_hangs 9 = .ok (.ifCond .ne 6, 3) := by decide +kernel
theorem dX8_hangs_12 : decode cX8_hangs 12 = .ok (.ldc 187, 2) := by decide +kernel
theorem dX8_hangs_14 : decode cX8_hangs 14 = .ok (.ireturn, 1) := by decide +kernel
theorem dX8_hangs_15 : decode cX8_hangs 15 = .ok (.aload_n 0, 1) := by decide +kernel
theorem dX8_hangs_16 : decode cX8_hangs 16 = .ok (.iload_n 1, 1) := by decide +kernel
theorem dX8_hangs_17 : decode cX8_hangs 17 = .ok (.invokevirtual 216, 3) := by decide +kernel
theorem dX8_hangs_20 : decode cX8_hangs 20 = .ok (.ifCond .eq 25, 3) := by decide +kernel
theorem dX8_hangs_23 : decode cX8_hangs 23 = .ok (.iload_n 2, 1) := by decide +kernel
theorem dX8_hangs_24 : decode cX8_hangs 24 = .ok (.i2l, 1) := by decide +kernel
theorem dX8_hangs_25 : decode cX8_hangs 25 = .ok (.lconst 1, 1) := by decide +kernel
end
section
theorem dX8_hangs_26 : decode cX8_hangs 26 = .ok (.ldc2_w 219, 3) := by decide +kernel
theorem dX8_hangs_29 : decode cX8_hangs 29 = .ok (.invokestatic 60, 3) := by decide +kernel
theorem dX8_hangs_32 : decode cX8_hangs 32 = .ok (.ifCond .eq 13, 3) := by decide +kernel
theorem dX8_hangs_35 : decode cX8_hangs 35 = .ok (.iload_n 3, 1) := by decide +kernel
theorem dX8_hangs_36 : decode cX8_hangs 36 = .ok (.i2l, 1) := by decide +kernel
theorem dX8_hangs_37 : decode cX8_hangs 37 = .ok (.lconst 0, 1) := by decide +kernel
theorem dX8_hangs_38 : decode cX8_hangs 38 = .ok (.lconst 1, 1) := by decide +kernel
theorem dX8_hangs_39 : decode cX8_hangs 39 = .ok (.invokestatic 60, 3) := by decide +kernel
theorem dX8_hangs_42 : decode cX8_hangs 42 = .ok (.ifCond .ne 6, 3) := by decide +kernel
theorem dX8_hangs_45 : decode cX8_hangs 45 = .ok (.ldc 70, 2) := by decide +kernel
theorem dX8_hangs_47 : decode cX8_hangs 47 = .ok (.ireturn, 1) := by decide +kernel
theorem dX8_hangs_48 : decode cX8_hangs 48 = .ok (.iconst 0, 1) := by decide +kernel
theorem dX8_hangs_49 : decode cX8_hangs 49 = .ok (.istore 4, 2) := by decide +kernel
theorem dX8_hangs_51 : decode cX8_hangs 51 = .ok (.iconst 0, 1) := by decide +kernel
theorem dX8_hangs_52 : decode cX8_hangs 52 = .ok (.istore 5, 2) := by decide +kernel
theorem dX8_hangs_54 : decode cX8_hangs 54 = .ok (.iload 5, 2) := by decide +kernel
theorem dX8_hangs_56 : decode cX8_hangs 56 = .ok (.aload_n 0, 1) := by decide +kernel
theorem dX8_hangs_57 : decode cX8_hangs 57 = .ok (.getfield 19, 3) := by decide +kernel
theorem dX8_hangs_60 : decode cX8_hangs 60 = .ok (.iconst 3, 1) := by decide +kernel
theorem dX8_hangs_61 : decode cX8_hangs 61 = .ok (.iaload, 1) := by decide +kernel
theorem dX8_hangs_62 : decode cX8_hangs 62 = .ok (.if_icmp .ge 35, 3) := by decide +kernel
theorem dX8_hangs_65 : decode cX8_hangs 65 = .ok (.iload 4, 2) := by decide +kernel
theorem dX8_hangs_67 : decode cX8_hangs 67 = .ok (.aload_n 0, 1) := by decide +kernel
theorem dX8_hangs_68 : decode cX8_hangs 68 = .ok (.getfield 19, 3) := by decide +kernel
theorem dX8_hangs_71 : decode cX8_hangs 71 = .ok (.iload 5, 2) := by decide +kernel
theorem dX8_hangs_73 : decode cX8_hangs 73 = .ok (.iconst 4, 1) := by decide +kernel
theorem dX8_hangs_74 : decode cX8_hangs 74 = .ok (.invokestatic 155, 3) := by decide +kernel
theorem dX8_hangs_77 : decode cX8_hangs 77 = .ok (.ifCond .le 10, 3) := by decide +kernel
theorem dX8_hangs_80 : decode cX8_hangs 80 = .ok (.iconst 1, 1) := by decide +kernel
theorem dX8_hangs_81 : decode cX8_hangs 81 = .ok (.iload 5, 2) := by decide +kernel
theorem dX8_hangs_83 : decode cX8_hangs 83 = .ok (.ishl, 1) := by decide +kernel
theorem dX8_hangs_84 : decode cX8_hangs 84 = .ok (.goto 4, 3) := by decide +kernel
theorem dX8_hangs_87 : decode cX8_hangs 87 = .ok (.iconst 0, 1) := by decide +kernel
theorem dX8_hangs_88 : decode cX8_hangs 88 = .ok (.ior, 1) := by decide +kernel
theorem dX8_hangs_89 : decode cX8_hangs 89 = .ok (.istore 4, 2) := by decide +kernel
theorem dX8_hangs_91 : decode cX8_hangs 91 = .ok (.iinc 5 1, 3) := by decide +kernel
theorem dX8_hangs_94 : decode cX8_hangs 94 = .ok (.goto (-40), 3) := by decide +kernel
theorem dX8_hangs_97 : decode cX8_hangs 97 = .ok (.ldc 93, 2) := by decide +kernel
theorem dX8_hangs_99 : decode cX8_hangs 99 = .ok (.istore 5, 2) := by decide +kernel
theorem dX8_hangs_101 : decode cX8_hangs 101 = .ok (.iconst 0, 1) := by decide +kernel
theorem dX8_hangs_102 : decode cX8_hangs 102 = .ok (.istore 6, 2) := by decide +kernel
theorem dX8_hangs_104 : decode cX8_hangs 104 = .ok (.iload 6, 2) := by decide +kernel
theorem dX8_hangs_106 : decode cX8_hangs 106 = .ok (.iload 4, 2) := by decide +kernel
theorem dX8_hangs_108 : decode cX8_hangs 108 = .ok (.if_icmp .gt 135, 3) := by decide +kernel
theorem dX8_hangs_111 : decode cX8_hangs 111 = .ok (.iload 6, 2) := by decide +kernel
theorem dX8_hangs_113 : decode cX8_hangs 113 = .ok (.iload 4, 2) := by decide +kernel
theorem dX8_hangs_115 : decode cX8_hangs 115 = .ok (.iconst (-1), 1) := by decide +kernel
theorem dX8_hangs_116 : decode cX8_hangs 116 = .ok (.ixor, 1) := by decide +kernel
theorem dX8_hangs_117 : decode cX8_hangs 117 = .ok (.iand, 1) := by decide +kernel
theorem dX8_hangs_118 : decode cX8_hangs 118 = .ok (.ifCond .ne 119, 3) := by decide +kernel
theorem dX8_hangs_121 : decode cX8_hangs 121 = .ok (.iload 5, 2) := by decide +kernel
theorem dX8_hangs_123 : decode cX8_hangs 123 = .ok (.ldc 93, 2) := by decide +kernel
theorem dX8_hangs_125 : decode cX8_hangs 125 = .ok (.if_icmp .eq 16, 3) := by decide +kernel
theorem dX8_hangs_128 : decode cX8_hangs 128 = .ok (.iload 6, 2) := by decide +kernel
theorem dX8_hangs_130 : decode cX8_hangs 130 = .ok (.invokestatic 221, 3) := by decide +kernel
theorem dX8_hangs_133 : decode cX8_hangs 133 = .ok (.iload 5, 2) := by decide +kernel
theorem dX8_hangs_135 : decode cX8_hangs 135 = .ok (.invokestatic 221, 3) := by decide +kernel
theorem dX8_hangs_138 : decode cX8_hangs 138 = .ok (.if_icmp .ge 99, 3) := by decide +kernel
theorem dX8_hangs_141 : decode cX8_hangs 141 = .ok (.aload_n 0, 1) := by decide +kernel
theorem dX8_hangs_142 : decode cX8_hangs 142 = .ok (.invokevirtual 177, 3) := by decide +kernel
theorem dX8_hangs_145 : decode cX8_hangs 145 = .ok (.iconst 0, 1) := by decide +kernel
theorem dX8_hangs_146 : decode cX8_hangs 146 = .ok (.istore 7, 2) := by decide +kernel
theorem dX8_hangs_148 : decode cX8_hangs 148 = .ok (.iload 7, 2) := by decide +kernel
theorem dX8_hangs_150 : decode cX8_hangs 150 = .ok (.aload_n 0, 1) := by decide +kernel
theorem dX8_hangs_151 : decode cX8_hangs 151 = .ok (.getfield 19, 3) := by decide +kernel
theorem dX8_hangs_154 : decode cX8_hangs 154 = .ok (.iconst 3, 1) := by decide +kernel
theorem dX8_hangs_155 : decode cX8_hangs 155 = .ok (.iaload, 1) := by decide +kernel
theorem dX8_hangs_156 : decode cX8_hangs 156 = .ok (.if_icmp .ge 48, 3) := by decide +kernel
theorem dX8_hangs_159 : decode cX8_hangs 159 = .ok (.aload_n 0, 1) := by decide +kernel
theorem dX8_hangs_160 : decode cX8_hangs 160 = .ok (.getfield 25, 3) := by decide +kernel
theorem dX8_hangs_163 : decode cX8_hangs 163 = .ok (.bipush 6, 2) := by decide +kernel
theorem dX8_hangs_165 : decode cX8_hangs 165 = .ok (.iconst 5, 1) := by decide +kernel
theorem dX8_hangs_166 : decode cX8_hangs 166 = .ok (.iload 7, 2) := by decide +kernel
theorem dX8_hangs_168 : decode cX8_hangs 168 = .ok (.imul, 1) := by decide +kernel
theorem dX8_hangs_169 : decode cX8_hangs 169 = .ok (.iadd, 1) := by decide +kernel
theorem dX8_hangs_170 : decode cX8_hangs 170 = .ok (.iconst 2, 1) := by decide +kernel
theorem dX8_hangs_171 : decode cX8_hangs 171 = .ok (.iadd, 1) := by decide +kernel
theorem dX8_hangs_172 : decode cX8_hangs 172 = .ok (.iload 6, 2) := by decide +kernel
theorem dX8_hangs_174 : decode cX8_hangs 174 = .ok (.iload 7, 2) := by decide +kernel
theorem dX8_hangs_176 : decode cX8_hangs 176 = .ok (.invokestatic 180, 3) := by decide +kernel
theorem dX8_hangs_179 : decode cX8_hangs 179 = .ok (.ifCond .eq 8, 3) := by decide +kernel
theorem dX8_hangs_182 : decode cX8_hangs 182 = .ok (.bipush 9, 2) := by decide +kernel
theorem dX8_hangs_184 : decode cX8_hangs 184 = .ok (.goto 13, 3) := by decide +kernel
theorem dX8_hangs_187 : decode cX8_hangs 187 = .ok (.aload_n 0, 1) := by decide +kernel
theorem dX8_hangs_188 : decode cX8_hangs 188 = .ok (.getfield 19, 3) := by decide +kernel
theorem dX8_hangs_191 : decode cX8_hangs 191 = .ok (.iload 7, 2) := by decide +kernel
theorem dX8_hangs_193 : decode cX8_hangs 193 = .ok (.iconst 2, 1) := by decide +kernel
theorem dX8_hangs_194 : decode cX8_hangs 194 = .ok (.invokestatic 155, 3) := by decide +kernel
theorem dX8_hangs_197 : decode cX8_hangs 197 = .ok (.iastore, 1) := by decide +kernel
theorem dX8_hangs_198 : decode cX8_hangs 198 = .ok (.iinc 7 1, 3) := by decide +kernel
theorem dX8_hangs_201 : decode cX8_hangs 201 = .ok (.goto (-53), 3) := by decide +kernel
theorem dX8_hangs_204 : decode cX8_hangs 204 = .ok (.aload_n 0, 1) := by decide +kernel
theorem dX8_hangs_205 : decode cX8_hangs 205 = .ok (.aload_n 0, 1) := by decide +kernel
theorem dX8_hangs_206 : decode cX8_hangs 206 = .ok (.getfield 25, 3) := by decide +kernel
theorem dX8_hangs_209 : decode cX8_hangs 209 = .ok (.iload_n 2, 1) := by decide +kernel
theorem dX8_hangs_210 : decode cX8_hangs 210 = .ok (.invokevirtual 207, 3) := by decide +kernel
theorem dX8_hangs_213 : decode cX8_hangs 213 = .ok (.istore 7, 2) := by decide +kernel
theorem dX8_hangs_215 : decode cX8_hangs 215 = .ok (.aload_n 0, 1) := by decide +kernel
theorem dX8_hangs_216 : decode cX8_hangs 216 = .ok (.getfield 25, 3) := by decide +kernel
theorem dX8_hangs_219 : decode cX8_hangs 219 = .ok (.invokestatic 210, 3) := by decide +kernel
theorem dX8_hangs_222 : decode cX8_hangs 222 = .ok (.iload_n 1, 1) := by decide +kernel
theorem dX8_hangs_223 : decode cX8_hangs 223 = .ok (.iand, 1) := by decide +kernel
theorem dX8_hangs_224 : decode cX8_hangs 224 = .ok (.iload_n 1, 1) := by decide +kernel
theorem dX8_hangs_225 : decode cX8_hangs 225 = .ok (.if_icmp .ne 8, 3) := by decide +kernel
theorem dX8_hangs_228 : decode cX8_hangs 228 = .ok (.iload 6, 2) := by decide +kernel
theorem dX8_hangs_230 : decode cX8_hangs 230 = .ok (.goto 5, 3) := by decide +kernel
theorem dX8_hangs_233 : decode cX8_hangs 233 = .ok (.iload 5, 2) := by decide +kernel
theorem dX8_hangs_235 : decode cX8_hangs 235 = .ok (.istore 5, 2) := by decide +kernel
theorem dX8_hangs_237 : decode cX8_hangs 237 = .ok (.iinc 6 1, 3) := by decide +kernel
theorem dX8_hangs_240 : decode cX8_hangs 240 = .ok (.goto (-136), 3) := by decide +kernel
theorem dX8_hangs_243 : decode cX8_hangs 243 = .ok (.iload 5, 2) := by decide +kernel
theorem dX8_hangs_245 : decode cX8_hangs 245 = .ok (.ldc 93, 2) := by decide +kernel
theorem dX8_hangs_247 : decode cX8_hangs 247 = .ok (.if_icmp .eq 8, 3) := by decide +kernel
theorem dX8_hangs_250 : decode cX8_hangs 250 = .ok (.iload_n 3, 1) := by decide +kernel
theorem dX8_hangs_251 : decode cX8_hangs 251 = .ok (.iconst 1, 1) := by decide +kernel
theorem dX8_hangs_252 : decode cX8_hangs 252 = .ok (.if_icmp .ne 8, 3) := by decide +kernel
theorem dX8_hangs_255 : decode cX8_hangs 255 = .ok (.iload 5, 2) := by decide +kernel
theorem dX8_hangs_257 : decode cX8_hangs 257 = .ok (.goto 8, 3) := by decide +kernel
theorem dX8_hangs_260 : decode cX8_hangs 260 = .ok (.iload 5, 2) := by decide +kernel
theorem dX8_hangs_262 : decode cX8_hangs 262 = .ok (.invokestatic 221, 3) := by decide +kernel
theorem dX8_hangs_265 : decode cX8_hangs 265 = .ok (.ireturn, 1) := by decide +kernel
theorem dX8_drives_0 : decode cX8_drives 0 = .ok (.aload_n 0, 1) := by decide +kernel
theorem dX8_drives_1 : decode cX8_drives 1 = .ok (.iconst 0, 1) := by decide +kernel
theorem dX8_drives_2 : decode cX8_drives 2 = .ok (.putfield 50, 3) := by decide +kernel
theorem dX8_drives_5 : decode cX8_drives 5 = .ok (.aload_n 0, 1) := by decide +kernel
theorem dX8_drives_6 : decode cX8_drives 6 = .ok (.invokevirtual 184, 3) := by decide +kernel
theorem dX8_drives_9 : decode cX8_drives 9 = .ok (.ifCond .ne 6, 3) := by decide +kernel
theorem dX8_drives_12 : decode cX8_drives 12 = .ok (.ldc 187, 2) := by decide +kernel
theorem dX8_drives_14 : decode cX8_drives 14 = .ok (.ireturn, 1) := by decide +kernel
theorem dX8_drives_15 : decode cX8_drives 15 = .ok (.aload_n 0, 1) := by decide +kernel
theorem dX8_drives_16 : decode cX8_drives 16 = .ok (.iload_n 1, 1) := by decide +kernel
theorem dX8_drives_17 : decode cX8_drives 17 = .ok (.invokevirtual 216, 3) := by decide +kernel
theorem dX8_drives_20 : decode cX8_drives 20 = .ok (.ifCond .eq 25, 3) := by decide +kernel
theorem dX8_drives_23 : decode cX8_drives 23 = .ok (.iload_n 2, 1) := by decide +kernel
theorem dX8_drives_24 : decode cX8_drives 24 = .ok (.i2l, 1) := by decide +kernel
theorem dX8_drives_25 : decode cX8_drives 25 = .ok (.lconst 1, 1) := by decide +kernel
theorem dX8_drives_26 : decode cX8_drives 26 = .ok (.ldc2_w 219, 3) := by decide +kernel
theorem dX8_drives_29 : decode cX8_drives 29 = .ok (.invokestatic 60, 3) := by decide +kernel
theorem dX8_drives_32 : decode cX8_drives 32 = .ok (.ifCond .eq 13, 3) := by decide +kernel
theorem dX8_drives_35 : decode cX8_drives 35 = .ok (.iload_n 3, 1) := by decide +kernel
theorem dX8_drives_36 : decode cX8_drives 36 = .ok (.i2l, 1) := by decide +kernel
theorem dX8_drives_37 : decode cX8_drives 37 = .ok (.lconst 0, 1) := by decide +kernel
theorem dX8_drives_38 : decode cX8_drives 38 = .ok (.lconst 1, 1) := by decide +kernel
theorem dX8_drives_39 : decode cX8_drives 39 = .ok (.invokestatic 60, 3) := by decide +kernel
theorem dX8_drives_42 : decode cX8_drives 42 = .ok (.ifCond .ne 6, 3) := by decide +kernel
theorem dX8_drives_45 : decode cX8_drives 45 = .ok (.ldc 70, 2) := by decide +kernel
theorem dX8_drives_47 : decode cX8_drives 47 = .ok (.ireturn, 1) := by decide +kernel
theorem dX8_drives_48 : decode cX8_drives 48 = .ok (.ldc 93, 2) := by decide +kernel
theorem dX8_drives_50 : decode cX8_drives 50 = .ok (.istore 4, 2) := by decide +kernel
theorem dX8_drives_52 : decode cX8_drives 52 = .ok (.iconst 0, 1) := by decide +kernel
theorem dX8_drives_53 : decode cX8_drives 53 = .ok (.istore 5, 2) := by decide +kernel
theorem dX8_drives_55 : decode cX8_drives 55 = .ok (.iload 5, 2) := by decide +kernel
theorem dX8_drives_57 : decode cX8_drives 57 = .ok (.iconst 1, 1) := by decide +kernel
theorem dX8_drives_58 : decode cX8_drives 58 = .ok (.aload_n 0, 1) := by decide +kernel
theorem dX8_drives_59 : decode cX8_drives 59 = .ok (.getfield 19, 3) := by decide +kernel
theorem dX8_drives_62 : decode cX8_drives 62 = .ok (.iconst 4, 1) := by decide +kernel
theorem dX8_drives_63 : decode cX8_drives 63 = .ok (.iaload, 1) := by decide +kernel
theorem dX8_drives_64 : decode cX8_drives 64 = .ok (.ishl, 1) := by decide +kernel
theorem dX8_drives_65 : decode cX8_drives 65 = .ok (.if_icmp .ge 69, 3) := by decide +kernel
theorem dX8_drives_68 : decode cX8_drives 68 = .ok (.iload 4, 2) := by decide +kernel
theorem dX8_drives_70 : decode cX8_drives 70 = .ok (.ldc 93, 2) := by decide +kernel
theorem dX8_drives_72 : decode cX8_drives 72 = .ok (.if_icmp .eq 16, 3) := by decide +kernel
theorem dX8_drives_75 : decode cX8_drives 75 = .ok (.iload 5, 2) := by decide +kernel
theorem dX8_drives_77 : decode cX8_drives 77 = .ok (.invokestatic 221, 3) := by decide +kernel
theorem dX8_drives_80 : decode cX8_drives 80 = .ok (.iload 4, 2) := by decide +kernel
theorem dX8_drives_82 : decode cX8_drives 82 = .ok (.invokestatic 221, 3) := by decide +kernel
theorem dX8_drives_85 : decode cX8_drives 85 = .ok (.if_icmp .ge 43, 3) := by decide +kernel
theorem dX8_drives_88 : decode cX8_drives 88 = .ok (.aload_n 0, 1) := by decide +kernel
theorem dX8_drives_89 : decode cX8_drives 89 = .ok (.iload 5, 2) := by decide +kernel
theorem dX8_drives_91 : decode cX8_drives 91 = .ok (.iload_n 2, 1) := by decide +kernel
theorem dX8_drives_92 : decode cX8_drives 92 = .ok (.invokevirtual 224, 3) := by decide +kernel
theorem dX8_drives_95 : decode cX8_drives 95 = .ok (.aload_n 0, 1) := by decide +kernel
theorem dX8_drives_96 : decode cX8_drives 96 = .ok (.aload_n 0, 1) := by decide +kernel
theorem dX8_drives_97 : decode cX8_drives 97 = .ok (.getfield 25, 3) := by decide +kernel
theorem dX8_drives_100 : decode cX8_drives 100 = .ok (.iload_n 2, 1) := by decide +kernel
theorem dX8_drives_101 : decode cX8_drives 101 = .ok (.invokevirtual 207, 3) := by decide +kernel
theorem dX8_drives_104 : decode cX8_drives 104 = .ok (.istore 6, 2) := by decide +kernel
theorem dX8_drives_106 : decode cX8_drives 106 = .ok (.aload_n 0, 1) := by decide +kernel
theorem dX8_drives_107 : decode cX8_drives 107 = .ok (.getfield 25, 3) := by decide +kernel
theorem dX8_drives_110 : decode cX8_drives 110 = .ok (.invokestatic 210, 3) := by decide +kernel
theorem dX8_drives_113 : decode cX8_drives 113 = .ok (.iload_n 1, 1) := by decide +kernel
theorem dX8_drives_114 : decode cX8_drives 114 = .ok (.iand, 1) := by decide +kernel
theorem dX8_drives_115 : decode cX8_drives 115 = .ok (.iload_n 1, 1) := by decide +kernel
theorem dX8_drives_116 : decode cX8_drives 116 = .ok (.if_icmp .ne 8, 3) := by decide +kernel
theorem dX8_drives_119 : decode cX8_drives 119 = .ok (.iload 5, 2) := by decide +kernel
theorem dX8_drives_121 : decode cX8_drives 121 = .ok (.goto 5, 3) := by decide +kernel
theorem dX8_drives_124 : decode cX8_drives 124 = .ok (.iload 4, 2) := by decide +kernel
theorem dX8_drives_126 : decode cX8_drives 126 = .ok (.istore 4, 2) := by decide +kernel
theorem dX8_drives_128 : decode cX8_drives 128 = .ok (.iinc 5 1, 3) := by decide +kernel
theorem dX8_drives_131 : decode cX8_drives 131 = .ok (.goto (-76), 3) := by decide +kernel
theorem dX8_drives_134 : decode cX8_drives 134 = .ok (.iload 4, 2) := by decide +kernel
theorem dX8_drives_136 : decode cX8_drives 136 = .ok (.ldc 93, 2) := by decide +kernel
theorem dX8_drives_138 : decode cX8_drives 138 = .ok (.if_icmp .eq 8, 3) := by decide +kernel
theorem dX8_drives_141 : decode cX8_drives 141 = .ok (.iload_n 3, 1) := by decide +kernel
theorem dX8_drives_142 : decode cX8_drives 142 = .ok (.iconst 1, 1) := by decide +kernel
theorem dX8_drives_143 : decode cX8_drives 143 = .ok (.if_icmp .ne 8, 3) := by decide +kernel
theorem dX8_drives_146 : decode cX8_drives 146 = .ok (.iload 4, 2) := by decide +kernel
theorem dX8_drives_148 : decode cX8_drives 148 = .ok (.goto 8, 3) := by decide +kernel
theorem dX8_drives_151 : decode cX8_drives 151 = .ok (.iload 4, 2) := by decide +kernel
theorem dX8_drives_153 : decode cX8_drives 153 = .ok (.invokestatic 221, 3) := by decide +kernel
theorem dX8_drives_156 : decode cX8_drives 156 = .ok (.ireturn, 1) := by decide +kernel
theorem dX8_harm_0 : decode cX8_harm 0 = .ok (.aload_n 0, 1) := by decide +kernel
theorem dX8_harm_1 : decode cX8_harm 1 = .ok (.iconst 0, 1) := by decide +kernel
theorem dX8_harm_2 : decode cX8_harm 2 = .ok (.putfield 50, 3) := by decide +kernel
theorem dX8_harm_5 : decode cX8_harm 5 = .ok (.aload_n 0, 1) := by decide +kernel
theorem dX8_harm_6 : decode cX8_harm 6 = .ok (.invokevirtual 184, 3) := by decide +kernel
theorem dX8_harm_9 : decode cX8_harm 9 = .ok (.ifCond .ne 6, 3) := by decide +kernel
theorem dX8_harm_12 : decode cX8_harm 12 = .ok (.ldc 187, 2) := by decide +kernel
theorem dX8_harm_14 : decode cX8_harm 14 = .ok (.ireturn, 1) := by decide +kernel
theorem dX8_harm_15 : decode cX8_harm 15 = .ok (.iload_n 1, 1) := by decide +kernel
theorem dX8_harm_16 : decode cX8_harm 16 = .ok (.i2l, 1) := by decide +kernel
theorem dX8_harm_17 : decode cX8_harm 17 = .ok (.lconst 1, 1) := by decide +kernel
theorem dX8_harm_18 : decode cX8_harm 18 = .ok (.ldc2_w 201, 3) := by decide +kernel
theorem dX8_harm_21 : decode cX8_harm 21 = .ok (.invokestatic 60, 3) := by decide +kernel
theorem dX8_harm_24 : decode cX8_harm 24 = .ok (.ifCond .eq 13, 3) := by decide +kernel
theorem dX8_harm_27 : decode cX8_harm 27 = .ok (.iload_n 2, 1) := by decide +kernel
theorem dX8_harm_28 : decode cX8_harm 28 = .ok (.i2l, 1) := by decide +kernel
theorem dX8_harm_29 : decode cX8_harm 29 = .ok (.lconst 0, 1) := by decide +kernel
theorem dX8_harm_30 : decode cX8_harm 30 = .ok (.lconst 1, 1) := by decide +kernel
theorem dX8_harm_31 : decode cX8_harm 31 = .ok (.invokestatic 60, 3) := by decide +kernel
theorem dX8_harm_34 : decode cX8_harm 34 = .ok (.ifCond .ne 6, 3) := by decide +kernel
theorem dX8_harm_37 : decode cX8_harm 37 = .ok (.ldc 70, 2) := by decide +kernel
theorem dX8_harm_39 : decode cX8_harm 39 = .ok (.ireturn, 1) := by decide +kernel
theorem dX8_harm_40 : decode cX8_harm 40 = .ok (.ldc 93, 2) := by decide +kernel
theorem dX8_harm_42 : decode cX8_harm 42 = .ok (.istore_n 3, 1) := by decide +kernel
theorem dX8_harm_43 : decode cX8_harm 43 = .ok (.iconst (-1), 1) := by decide +kernel
theorem dX8_harm_44 : decode cX8_harm 44 = .ok (.istore 4, 2) := by decide +kernel
theorem dX8_harm_46 : decode cX8_harm 46 = .ok (.iconst 0, 1) := by decide +kernel
theorem dX8_harm_47 : decode cX8_harm 47 = .ok (.istore 5, 2) := by decide +kernel
theorem dX8_harm_49 : decode cX8_harm 49 = .ok (.iload 5, 2) := by decide +kernel
theorem dX8_harm_51 : decode cX8_harm 51 = .ok (.aload_n 0, 1) := by decide +kernel
theorem dX8_harm_52 : decode cX8_harm 52 = .ok (.getfield 19, 3) := by decide +kernel
theorem dX8_harm_55 : decode cX8_harm 55 = .ok (.iconst 4, 1) := by decide +kernel
theorem dX8_harm_56 : decode cX8_harm 56 = .ok (.iaload, 1) := by decide +kernel
theorem dX8_harm_57 : decode cX8_harm 57 = .ok (.if_icmp .ge 71, 3) := by decide +kernel
theorem dX8_harm_60 : decode cX8_harm 60 = .ok (.aload_n 0, 1) := by decide +kernel
theorem dX8_harm_61 : decode cX8_harm 61 = .ok (.iconst 1, 1) := by decide +kernel
theorem dX8_harm_62 : decode cX8_harm 62 = .ok (.iload 5, 2) := by decide +kernel
theorem dX8_harm_64 : decode cX8_harm 64 = .ok (.ishl, 1) := by decide +kernel
theorem dX8_harm_65 : decode cX8_harm 65 = .ok (.iload_n 1, 1) := by decide +kernel
theorem dX8_harm_66 : decode cX8_harm 66 = .ok (.invokevirtual 224, 3) := by decide +kernel
theorem dX8_harm_69 : decode cX8_harm 69 = .ok (.aload_n 0, 1) := by decide +kernel
theorem dX8_harm_70 : decode cX8_harm 70 = .ok (.aload_n 0, 1) := by decide +kernel
theorem dX8_harm_71 : decode cX8_harm 71 = .ok (.getfield 25, 3) := by decide +kernel
theorem dX8_harm_74 : decode cX8_harm 74 = .ok (.iload_n 1, 1) := by decide +kernel
theorem dX8_harm_75 : decode cX8_harm 75 = .ok (.invokevirtual 207, 3) := by decide +kernel
theorem dX8_harm_78 : decode cX8_harm 78 = .ok (.istore 6, 2) := by decide +kernel
theorem dX8_harm_80 : decode cX8_harm 80 = .ok (.aload_n 0, 1) := by decide +kernel
theorem dX8_harm_81 : decode cX8_harm 81 = .ok (.getfield 25, 3) := by decide +kernel
theorem dX8_harm_84 : decode cX8_harm 84 = .ok (.invokestatic 210, 3) := by decide +kernel
theorem dX8_harm_87 : decode cX8_harm 87 = .ok (.invokestatic 221, 3) := by decide +kernel
theorem dX8_harm_90 : decode cX8_harm 90 = .ok (.istore 7, 2) := by decide +kernel
theorem dX8_harm_92 : decode cX8_harm 92 = .ok (.iload 7, 2) := by decide +kernel
theorem dX8_harm_94 : decode cX8_harm 94 = .ok (.iload 4, 2) := by decide +kernel
theorem dX8_harm_96 : decode cX8_harm 96 = .ok (.if_icmp .le 8, 3) := by decide +kernel
theorem dX8_harm_99 : decode cX8_harm 99 = .ok (.iload 5, 2) := by decide +kernel
theorem dX8_harm_101 : decode cX8_harm 101 = .ok (.goto 4, 3) := by decide +kernel
theorem dX8_harm_104 : decode cX8_harm 104 = .ok (.iload_n 3, 1) := by decide +kernel
theorem dX8_harm_105 : decode cX8_harm 105 = .ok (.istore_n 3, 1) := by decide +kernel
theorem dX8_harm_106 : decode cX8_harm 106 = .ok (.iload 7, 2) := by decide +kernel
theorem dX8_harm_108 : decode cX8_harm 108 = .ok (.iload 4, 2) := by decide +kernel
theorem dX8_harm_110 : decode cX8_harm 110 = .ok (.if_icmp .le 8, 3) := by decide +kernel
theorem dX8_harm_113 : decode cX8_harm 113 = .ok (.iload 7, 2) := by decide +kernel
theorem dX8_harm_115 : decode cX8_harm 115 = .ok (.goto 5, 3) := by decide +kernel
theorem dX8_harm_118 : decode cX8_harm 118 = .ok (.iload 4, 2) := by decide +kernel
theorem dX8_harm_120 : decode cX8_harm 120 = .ok (.istore 4, 2) := by decide +kernel
theorem dX8_harm_122 : decode cX8_harm 122 = .ok (.iinc 5 1, 3) := by decide +kernel
theorem dX8_harm_125 : decode cX8_harm 125 = .ok (.goto (-76), 3) := by decide +kernel
theorem dX8_harm_128 : decode cX8_harm 128 = .ok (.iload_n 2, 1) := by decide +kernel
theorem dX8_harm_129 : decode cX8_harm 129 = .ok (.ifCond .ne 7, 3) := by decide +kernel
theorem dX8_harm_132 : decode cX8_harm 132 = .ok (.iload_n 3, 1) := by decide +kernel
theorem dX8_harm_133 : decode cX8_harm 133 = .ok (.goto 5, 3) := by decide +kernel
theorem dX8_harm_136 : decode cX8_harm 136 = .ok (.iload 4, 2) := by decide +kernel
theorem dX8_harm_138 : decode cX8_harm 138 = .ok (.ireturn, 1) := by decide +kernel
theorem dX8_bait_0 : decode cX8_bait 0 = .ok (.aload_n 0, 1) := by decide +kernel
theorem dX8_bait_1 : decode cX8_bait 1 = .ok (.iconst 0, 1) := by decide +kernel
theorem dX8_bait_2 : decode cX8_bait 2 = .ok (.putfield 50, 3) := by decide +kernel
theorem dX8_bait_5 : decode cX8_bait 5 = .ok (.aload_n 0, 1) := by decide +kernel
theorem dX8_bait_6 : decode cX8_bait 6 = .ok (.iload_n 1, 1) := by decide +kernel
theorem dX8_bait_7 : decode cX8_bait 7 = .ok (.invokevirtual 193, 3) := by decide +kernel
theorem dX8_bait_10 : decode cX8_bait 10 = .ok (.ifCond .eq 25, 3) := by decide +kernel
theorem dX8_bait_13 : decode cX8_bait 13 = .ok (.iload_n 2, 1) := by decide +kernel
theorem dX8_bait_14 : decode cX8_bait 14 = .ok (.i2l, 1) := by decide +kernel
theorem dX8_bait_15 : decode cX8_bait 15 = .ok (.lconst 1, 1) := by decide +kernel
theorem dX8_bait_16 : decode cX8_bait 16 = .ok (.ldc2_w 219, 3) := by decide +kernel
theorem dX8_bait_19 : decode cX8_bait 19 = .ok (.invokestatic 60, 3) := by decide +kernel
theorem dX8_bait_22 : decode cX8_bait 22 = .ok (.ifCond .eq 13, 3) := by decide +kernel
theorem dX8_bait_25 : decode cX8_bait 25 = .ok (.iload_n 3, 1) := by decide +kernel
theorem dX8_bait_26 : decode cX8_bait 26 = .ok (.i2l, 1) := by decide +kernel
theorem dX8_bait_27 : decode cX8_bait 27 = .ok (.lconst 0, 1) := by decide +kernel
theorem dX8_bait_28 : decode cX8_bait 28 = .ok (.lconst 1, 1) := by decide +kernel
theorem dX8_bait_29 : decode cX8_bait 29 = .ok (.invokestatic 60, 3) := by decide +kernel
theorem dX8_bait_32 : decode cX8_bait 32 = .ok (.ifCond .ne 6, 3) := by decide +kernel
theorem dX8_bait_35 : decode cX8_bait 35 = .ok (.ldc 70, 2) := by decide +kernel
theorem dX8_bait_37 : decode cX8_bait 37 = .ok (.ireturn, 1) := by decide +kernel
theorem dX8_bait_38 : decode cX8_bait 38 = .ok (.ldc 93, 2) := by decide +kernel
theorem dX8_bait_40 : decode cX8_bait 40 = .ok (.istore 4, 2) := by decide +kernel
theorem dX8_bait_42 : decode cX8_bait 42 = .ok (.ldc 93, 2) := by decide +kernel
theorem dX8_bait_44 : decode cX8_bait 44 = .ok (.istore 5, 2) := by decide +kernel
theorem dX8_bait_46 : decode cX8_bait 46 = .ok (.iconst 0, 1) := by decide +kernel
theorem dX8_bait_47 : decode cX8_bait 47 = .ok (.istore 6, 2) := by decide +kernel
theorem dX8_bait_49 : decode cX8_bait 49 = .ok (.iload 6, 2) := by decide +kernel
theorem dX8_bait_51 : decode cX8_bait 51 = .ok (.aload_n 0, 1) := by decide +kernel
theorem dX8_bait_52 : decode cX8_bait 52 = .ok (.getfield 19, 3) := by decide +kernel
theorem dX8_bait_55 : decode cX8_bait 55 = .ok (.iconst 3, 1) := by decide +kernel
theorem dX8_bait_56 : decode cX8_bait 56 = .ok (.iaload, 1) := by decide +kernel
theorem dX8_bait_57 : decode cX8_bait 57 = .ok (.if_icmp .ge 102, 3) := by decide +kernel
theorem dX8_bait_60 : decode cX8_bait 60 = .ok (.iload 6, 2) := by decide +kernel
theorem dX8_bait_62 : decode cX8_bait 62 = .ok (.iload_n 1, 1) := by decide +kernel
theorem dX8_bait_63 : decode cX8_bait 63 = .ok (.if_icmp .eq 90, 3) := by decide +kernel
theorem dX8_bait_66 : decode cX8_bait 66 = .ok (.aload_n 0, 1) := by decide +kernel
theorem dX8_bait_67 : decode cX8_bait 67 = .ok (.getfield 19, 3) := by decide +kernel
theorem dX8_bait_70 : decode cX8_bait 70 = .ok (.iload 6, 2) := by decide +kernel
theorem dX8_bait_72 : decode cX8_bait 72 = .ok (.iconst 4, 1) := by decide +kernel
theorem dX8_bait_73 : decode cX8_bait 73 = .ok (.invokestatic 155, 3) := by decide +kernel
theorem dX8_bait_76 : decode cX8_bait 76 = .ok (.ifCond .le 77, 3) := by decide +kernel
theorem dX8_bait_79 : decode cX8_bait 79 = .ok (.aload_n 0, 1) := by decide +kernel
theorem dX8_bait_80 : decode cX8_bait 80 = .ok (.invokevirtual 177, 3) := by decide +kernel
theorem dX8_bait_83 : decode cX8_bait 83 = .ok (.aload_n 0, 1) := by decide +kernel
theorem dX8_bait_84 : decode cX8_bait 84 = .ok (.getfield 25, 3) := by decide +kernel
theorem dX8_bait_87 : decode cX8_bait 87 = .ok (.bipush 6, 2) := by decide +kernel
theorem dX8_bait_89 : decode cX8_bait 89 = .ok (.iconst 5, 1) := by decide +kernel
theorem dX8_bait_90 : decode cX8_bait 90 = .ok (.iload 6, 2) := by decide +kernel
theorem dX8_bait_92 : decode cX8_bait 92 = .ok (.imul, 1) := by decide +kernel
theorem dX8_bait_93 : decode cX8_bait 93 = .ok (.iadd, 1) := by decide +kernel
theorem dX8_bait_94 : decode cX8_bait 94 = .ok (.iconst 3, 1) := by decide +kernel
theorem dX8_bait_95 : decode cX8_bait 95 = .ok (.iadd, 1) := by decide +kernel
theorem dX8_bait_96 : decode cX8_bait 96 = .ok (.bipush 19, 2) := by decide +kernel
theorem dX8_bait_98 : decode cX8_bait 98 = .ok (.iastore, 1) := by decide +kernel
theorem dX8_bait_99 : decode cX8_bait 99 = .ok (.aload_n 0, 1) := by decide +kernel
theorem dX8_bait_100 : decode cX8_bait 100 = .ok (.aload_n 0, 1) := by decide +kernel
theorem dX8_bait_101 : decode cX8_bait 101 = .ok (.getfield 25, 3) := by decide +kernel
theorem dX8_bait_104 : decode cX8_bait 104 = .ok (.iload_n 2, 1) := by decide +kernel
theorem dX8_bait_105 : decode cX8_bait 105 = .ok (.invokevirtual 207, 3) := by decide +kernel
theorem dX8_bait_108 : decode cX8_bait 108 = .ok (.istore 7, 2) := by decide +kernel
theorem dX8_bait_110 : decode cX8_bait 110 = .ok (.aload_n 0, 1) := by decide +kernel
theorem dX8_bait_111 : decode cX8_bait 111 = .ok (.getfield 25, 3) := by decide +kernel
theorem dX8_bait_114 : decode cX8_bait 114 = .ok (.iload_n 1, 1) := by decide +kernel
theorem dX8_bait_115 : decode cX8_bait 115 = .ok (.iconst 4, 1) := by decide +kernel
theorem dX8_bait_116 : decode cX8_bait 116 = .ok (.invokestatic 155, 3) := by decide +kernel
theorem dX8_bait_119 : decode cX8_bait 119 = .ok (.istore 8, 2) := by decide +kernel
theorem dX8_bait_121 : decode cX8_bait 121 = .ok (.iload 8, 2) := by decide +kernel
theorem dX8_bait_123 : decode cX8_bait 123 = .ok (.iload 5, 2) := by decide +kernel
theorem dX8_bait_125 : decode cX8_bait 125 = .ok (.if_icmp .le 8, 3) := by decide +kernel
theorem dX8_bait_128 : decode cX8_bait 128 = .ok (.iload 6, 2) := by decide +kernel
theorem dX8_bait_130 : decode cX8_bait 130 = .ok (.goto 5, 3) := by decide +kernel
theorem dX8_bait_133 : decode cX8_bait 133 = .ok (.iload 4, 2) := by decide +kernel
theorem dX8_bait_135 : decode cX8_bait 135 = .ok (.istore 4, 2) := by decide +kernel
theorem dX8_bait_137 : decode cX8_bait 137 = .ok (.iload 8, 2) := by decide +kernel
theorem dX8_bait_139 : decode cX8_bait 139 = .ok (.iload 5, 2) := by decide +kernel
theorem dX8_bait_141 : decode cX8_bait 141 = .ok (.if_icmp .le 8, 3) := by decide +kernel
theorem dX8_bait_144 : decode cX8_bait 144 = .ok (.iload 8, 2) := by decide +kernel
theorem dX8_bait_146 : decode cX8_bait 146 = .ok (.goto 5, 3) := by decide +kernel
theorem dX8_bait_149 : decode cX8_bait 149 = .ok (.iload 5, 2) := by decide +kernel
theorem dX8_bait_151 : decode cX8_bait 151 = .ok (.istore 5, 2) := by decide +kernel
theorem dX8_bait_153 : decode cX8_bait 153 = .ok (.iinc 6 1, 3) := by decide +kernel
theorem dX8_bait_156 : decode cX8_bait 156 = .ok (.goto (-107), 3) := by decide +kernel
theorem dX8_bait_159 : decode cX8_bait 159 = .ok (.iload_n 3, 1) := by decide +kernel
theorem dX8_bait_160 : decode cX8_bait 160 = .ok (.ifCond .ne 8, 3) := by decide +kernel
theorem dX8_bait_163 : decode cX8_bait 163 = .ok (.iload 4, 2) := by decide +kernel
theorem dX8_bait_165 : decode cX8_bait 165 = .ok (.goto 5, 3) := by decide +kernel
theorem dX8_bait_168 : decode cX8_bait 168 = .ok (.iload 5, 2) := by decide +kernel
theorem dX8_bait_170 : decode cX8_bait 170 = .ok (.ireturn, 1) := by decide +kernel
theorem dX8_safeHeight_0 : decode cX8_safeHeight 0 = .ok (.aload_n 0, 1) := by decide +kernel
theorem dX8_safeHeight_1 : decode cX8_safeHeight 1 = .ok (.iconst 0, 1) := by decide +kernel
theorem dX8_safeHeight_2 : decode cX8_safeHeight 2 = .ok (.putfield 50, 3) := by decide +kernel
theorem dX8_safeHeight_5 : decode cX8_safeHeight 5 = .ok (.aload_n 0, 1) := by decide +kernel
theorem dX8_safeHeight_6 : decode cX8_safeHeight 6 = .ok (.iload_n 1, 1) := by decide +kernel
theorem dX8_safeHeight_7 : decode cX8_safeHeight 7 = .ok (.invokevirtual 193, 3) := by decide +kernel
theorem dX8_safeHeight_10 : decode cX8_safeHeight 10 = .ok (.ifCond .eq 15, 3) := by decide +kernel
theorem dX8_safeHeight_13 : decode cX8_safeHeight 13 = .ok (.iload_n 2, 1) := by decide +kernel
theorem dX8_safeHeight_14 : decode cX8_safeHeight 14 = .ok (.i2l, 1) := by decide +kernel
theorem dX8_safeHeight_15 : decode cX8_safeHeight 15 = .ok (.lconst 1, 1) := by decide +kernel
theorem dX8_safeHeight_16 : decode cX8_safeHeight 16 = .ok (.ldc2_w 201, 3) := by decide +kernel
theorem dX8_safeHeight_19 : decode cX8_safeHeight 19 = .ok (.invokestatic 60, 3) := by decide +kernel
theorem dX8_safeHeight_22 : decode cX8_safeHeight 22 = .ok (.ifCond .ne 6, 3) := by decide +kernel
theorem dX8_safeHeight_25 : decode cX8_safeHeight 25 = .ok (.ldc 70, 2) := by decide +kernel
theorem dX8_safeHeight_27 : decode cX8_safeHeight 27 = .ok (.ireturn, 1) := by decide +kernel
theorem dX8_safeHeight_28 : decode cX8_safeHeight 28 = .ok (.aload_n 0, 1) := by decide +kernel
theorem dX8_safeHeight_29 : decode cX8_safeHeight 29 = .ok (.getfield 19, 3) := by decide +kernel
theorem dX8_safeHeight_32 : decode cX8_safeHeight 32 = .ok (.iload_n 1, 1) := by decide +kernel
theorem dX8_safeHeight_33 : decode cX8_safeHeight 33 = .ok (.iconst 4, 1) := by decide +kernel
theorem dX8_safeHeight_34 : decode cX8_safeHeight 34 = .ok (.invokestatic 155, 3) := by decide +kernel
theorem dX8_safeHeight_37 : decode cX8_safeHeight 37 = .ok (.ifCond .ne 6, 3) := by decide +kernel
theorem dX8_safeHeight_40 : decode cX8_safeHeight 40 = .ok (.ldc 187, 2) := by decide +kernel
theorem dX8_safeHeight_42 : decode cX8_safeHeight 42 = .ok (.ireturn, 1) := by decide +kernel
theorem dX8_safeHeight_43 : decode cX8_safeHeight 43 = .ok (.iconst 0, 1) := by decide +kernel
theorem dX8_safeHeight_44 : decode cX8_safeHeight 44 = .ok (.istore_n 3, 1) := by decide +kernel
theorem dX8_safeHeight_45 : decode cX8_safeHeight 45 = .ok (.iload_n 3, 1) := by decide +kernel
theorem dX8_safeHeight_46 : decode cX8_safeHeight 46 = .ok (.bipush 10, 2) := by decide +kernel
theorem dX8_safeHeight_48 : decode cX8_safeHeight 48 = .ok (.if_icmp .ge 38, 3) := by decide +kernel
theorem dX8_safeHeight_51 : decode cX8_safeHeight 51 = .ok (.aload_n 0, 1) := by decide +kernel
theorem dX8_safeHeight_52 : decode cX8_safeHeight 52 = .ok (.invokevirtual 177, 3) := by decide +kernel
theorem dX8_safeHeight_55 : decode cX8_safeHeight 55 = .ok (.aload_n 0, 1) := by decide +kernel
theorem dX8_safeHeight_56 : decode cX8_safeHeight 56 = .ok (.getfield 25, 3) := by decide +kernel
theorem dX8_safeHeight_59 : decode cX8_safeHeight 59 = .ok (.bipush 6, 2) := by decide +kernel
theorem dX8_safeHeight_61 : decode cX8_safeHeight 61 = .ok (.iconst 5, 1) := by decide +kernel
theorem dX8_safeHeight_62 : decode cX8_safeHeight 62 = .ok (.iload_n 1, 1) := by decide +kernel
theorem dX8_safeHeight_63 : decode cX8_safeHeight 63 = .ok (.imul, 1) := by decide +kernel
theorem dX8_safeHeight_64 : decode cX8_safeHeight 64 = .ok (.iadd, 1) := by decide +kernel
theorem dX8_safeHeight_65 : decode cX8_safeHeight 65 = .ok (.iconst 2, 1) := by decide +kernel
theorem dX8_safeHeight_66 : decode cX8_safeHeight 66 = .ok (.iadd, 1) := by decide +kernel
theorem dX8_safeHeight_67 : decode cX8_safeHeight 67 = .ok (.iload_n 3, 1) := by decide +kernel
theorem dX8_safeHeight_68 : decode cX8_safeHeight 68 = .ok (.iastore, 1) := by decide +kernel
theorem dX8_safeHeight_69 : decode cX8_safeHeight 69 = .ok (.aload_n 0, 1) := by decide +kernel
theorem dX8_safeHeight_70 : decode cX8_safeHeight 70 = .ok (.iload_n 1, 1) := by decide +kernel
theorem dX8_safeHeight_71 : decode cX8_safeHeight 71 = .ok (.iload_n 2, 1) := by decide +kernel
theorem dX8_safeHeight_72 : decode cX8_safeHeight 72 = .ok (.invokevirtual 213, 3) := by decide +kernel
theorem dX8_safeHeight_75 : decode cX8_safeHeight 75 = .ok (.ifCond .ne 5, 3) := by decide +kernel
theorem dX8_safeHeight_78 : decode cX8_safeHeight 78 = .ok (.iload_n 3, 1) := by decide +kernel
theorem dX8_safeHeight_79 : decode cX8_safeHeight 79 = .ok (.ireturn, 1) := by decide +kernel
theorem dX8_safeHeight_80 : decode cX8_safeHeight 80 = .ok (.iinc 3 1, 3) := by decide +kernel
theorem dX8_safeHeight_83 : decode cX8_safeHeight 83 = .ok (.goto (-38), 3) := by decide +kernel
theorem dX8_safeHeight_86 : decode cX8_safeHeight 86 = .ok (.ldc 93, 2) := by decide +kernel
theorem dX8_safeHeight_88 : decode cX8_safeHeight 88 = .ok (.ireturn, 1) := by decide +kernel
theorem dX8_isSo_0 : decode cX8_isSo 0 = .ok (.iconst 1, 1) := by decide +kernel
theorem dX8_isSo_1 : decode cX8_isSo 1 = .ok (.istore 4, 2) := by decide +kernel
theorem dX8_isSo_3 : decode cX8_isSo 3 = .ok (.iconst 0, 1) := by decide +kernel
theorem dX8_isSo_4 : decode cX8_isSo 4 = .ok (.istore 5, 2) := by decide +kernel
theorem dX8_isSo_6 : decode cX8_isSo 6 = .ok (.iload 5, 2) := by decide +kernel
theorem dX8_isSo_8 : decode cX8_isSo 8 = .ok (.iload_n 3, 1) := by decide +kernel
theorem dX8_isSo_9 : decode cX8_isSo 9 = .ok (.if_icmp .ge 52, 3) := by decide +kernel
theorem dX8_isSo_12 : decode cX8_isSo 12 = .ok (.aload_n 0, 1) := by decide +kernel
theorem dX8_isSo_13 : decode cX8_isSo 13 = .ok (.aload_n 0, 1) := by decide +kernel
theorem dX8_isSo_14 : decode cX8_isSo 14 = .ok (.getfield 25, 3) := by decide +kernel
theorem dX8_isSo_17 : decode cX8_isSo 17 = .ok (.invokevirtual 169, 3) := by decide +kernel
theorem dX8_isSo_20 : decode cX8_isSo 20 = .ok (.istore 6, 2) := by decide +kernel
theorem dX8_isSo_22 : decode cX8_isSo 22 = .ok (.iload 4, 2) := by decide +kernel
theorem dX8_isSo_24 : decode cX8_isSo 24 = .ok (.ifCond .eq 28, 3) := by decide +kernel
theorem dX8_isSo_27 : decode cX8_isSo 27 = .ok (.aload_n 0, 1) := by decide +kernel
theorem dX8_isSo_28 : decode cX8_isSo 28 = .ok (.getfield 25, 3) := by decide +kernel
theorem dX8_isSo_31 : decode cX8_isSo 31 = .ok (.iload_n 1, 1) := by decide +kernel
theorem dX8_isSo_32 : decode cX8_isSo 32 = .ok (.iconst 4, 1) := by decide +kernel
theorem dX8_isSo_33 : decode cX8_isSo 33 = .ok (.invokestatic 155, 3) := by decide +kernel
theorem dX8_isSo_36 : decode cX8_isSo 36 = .ok (.aload_n 0, 1) := by decide +kernel
theorem dX8_isSo_37 : decode cX8_isSo 37 = .ok (.getfield 16, 3) := by decide +kernel
theorem dX8_isSo_40 : decode cX8_isSo 40 = .ok (.iload_n 2, 1) := by decide +kernel
theorem dX8_isSo_41 : decode cX8_isSo 41 = .ok (.iload 5, 2) := by decide +kernel
theorem dX8_isSo_43 : decode cX8_isSo 43 = .ok (.iadd, 1) := by decide +kernel
theorem dX8_isSo_44 : decode cX8_isSo 44 = .ok (.iaload, 1) := by decide +kernel
theorem dX8_isSo_45 : decode cX8_isSo 45 = .ok (.if_icmp .ne 7, 3) := by decide +kernel
theorem dX8_isSo_48 : decode cX8_isSo 48 = .ok (.iconst 1, 1) := by decide +kernel
theorem dX8_isSo_49 : decode cX8_isSo 49 = .ok (.goto 4, 3) := by decide +kernel
theorem dX8_isSo_52 : decode cX8_isSo 52 = .ok (.iconst 0, 1) := by decide +kernel
theorem dX8_isSo_53 : decode cX8_isSo 53 = .ok (.istore 4, 2) := by decide +kernel
theorem dX8_isSo_55 : decode cX8_isSo 55 = .ok (.iinc 5 1, 3) := by decide +kernel
theorem dX8_isSo_58 : decode cX8_isSo 58 = .ok (.goto (-52), 3) := by decide +kernel
theorem dX8_isSo_61 : decode cX8_isSo 61 = .ok (.iload 4, 2) := by decide +kernel
theorem dX8_isSo_63 : decode cX8_isSo 63 = .ok (.ireturn, 1) := by decide +kernel
theorem dX8_who_0 : decode cX8_who 0 = .ok (.aload_n 0, 1) := by decide +kernel
theorem dX8_who_1 : decode cX8_who 1 = .ok (.iconst 0, 1) := by decide +kernel
theorem dX8_who_2 : decode cX8_who 2 = .ok (.putfield 50, 3) := by decide +kernel
theorem dX8_who_5 : decode cX8_who 5 = .ok (.aload_n 0, 1) := by decide +kernel
theorem dX8_who_6 : decode cX8_who 6 = .ok (.iload_n 1, 1) := by decide +kernel
theorem dX8_who_7 : decode cX8_who 7 = .ok (.invokevirtual 193, 3) := by decide +kernel
theorem dX8_who_10 : decode cX8_who 10 = .ok (.ifCond .eq 44, 3) := by decide +kernel
theorem dX8_who_13 : decode cX8_who 13 = .ok (.iload_n 2, 1) := by decide +kernel
theorem dX8_who_14 : decode cX8_who 14 = .ok (.i2l, 1) := by decide +kernel
theorem dX8_who_15 : decode cX8_who 15 = .ok (.lconst 0, 1) := by decide +kernel
theorem dX8_who_16 : decode cX8_who 16 = .ok (.ldc2_w 68, 3) := by decide +kernel
theorem dX8_who_19 : decode cX8_who 19 = .ok (.invokestatic 60, 3) := by decide +kernel
theorem dX8_who_22 : decode cX8_who 22 = .ok (.ifCond .eq 32, 3) := by decide +kernel
theorem dX8_who_25 : decode cX8_who 25 = .ok (.aload_n 0, 1) := by decide +kernel
theorem dX8_who_26 : decode cX8_who 26 = .ok (.iload_n 3, 1) := by decide +kernel
theorem dX8_who_27 : decode cX8_who 27 = .ok (.invokevirtual 193, 3) := by decide +kernel
theorem dX8_who_30 : decode cX8_who 30 = .ok (.ifCond .eq 24, 3) := by decide +kernel
theorem dX8_who_33 : decode cX8_who 33 = .ok (.iload 4, 2) := by decide +kernel
theorem dX8_who_35 : decode cX8_who 35 = .ok (.invokestatic 64, 3) := by decide +kernel
theorem dX8_who_38 : decode cX8_who 38 = .ok (.ifCond .eq 16, 3) := by decide +kernel
theorem dX8_who_41 : decode cX8_who 41 = .ok (.iload 6, 2) := by decide +kernel
theorem dX8_who_43 : decode cX8_who 43 = .ok (.i2l, 1) := by decide +kernel
theorem dX8_who_44 : decode cX8_who 44 = .ok (.lconst 1, 1) := by decide +kernel
theorem dX8_who_45 : decode cX8_who 45 = .ok (.ldc2_w 228, 3) := by decide +kernel
theorem dX8_who_48 : decode cX8_who 48 = .ok (.invokestatic 60, 3) := by decide +kernel
theorem dX8_who_51 : decode cX8_who 51 = .ok (.ifCond .ne 6, 3) := by decide +kernel
theorem dX8_who_54 : decode cX8_who 54 = .ok (.ldc 70, 2) := by decide +kernel
theorem dX8_who_56 : decode cX8_who 56 = .ok (.ireturn, 1) := by decide +kernel
theorem dX8_who_57 : decode cX8_who 57 = .ok (.aload_n 0, 1) := by decide +kernel
theorem dX8_who_58 : decode cX8_who 58 = .ok (.getfield 7, 3) := by decide +kernel
theorem dX8_who_61 : decode cX8_who 61 = .ok (.iload 4, 2) := by decide +kernel
theorem dX8_who_63 : decode cX8_who 63 = .ok (.iaload, 1) := by decide +kernel
theorem dX8_who_64 : decode cX8_who 64 = .ok (.ifCond .ge 9, 3) := by decide +kernel
theorem dX8_who_67 : decode cX8_who 67 = .ok (.aload_n 0, 1) := by decide +kernel
theorem dX8_who_68 : decode cX8_who 68 = .ok (.iconst 1, 1) := by decide +kernel
theorem dX8_who_69 : decode cX8_who 69 = .ok (.invokevirtual 71, 3) := by decide +kernel
theorem dX8_who_72 : decode cX8_who 72 = .ok (.ireturn, 1) := by decide +kernel
theorem dX8_who_73 : decode cX8_who 73 = .ok (.iload 5, 2) := by decide +kernel
theorem dX8_who_75 : decode cX8_who 75 = .ok (.ifCond .lt 22, 3) := by decide +kernel
theorem dX8_who_78 : decode cX8_who 78 = .ok (.iload 5, 2) := by decide +kernel
theorem dX8_who_80 : decode cX8_who 80 = .ok (.i2l, 1) := by decide +kernel
theorem dX8_who_81 : decode cX8_who 81 = .ok (.iload 6, 2) := by decide +kernel
theorem dX8_who_83 : decode cX8_who 83 = .ok (.i2l, 1) := by decide +kernel
theorem dX8_who_84 : decode cX8_who 84 = .ok (.ladd, 1) := by decide +kernel
theorem dX8_who_85 : decode cX8_who 85 = .ok (.aload_n 0, 1) := by decide +kernel
theorem dX8_who_86 : decode cX8_who 86 = .ok (.getfield 13, 3) := by decide +kernel
theorem dX8_who_89 : decode cX8_who 89 = .ok (.iload 4, 2) := by decide +kernel
theorem dX8_who_91 : decode cX8_who 91 = .ok (.iaload, 1) := by decide +kernel
theorem dX8_who_92 : decode cX8_who 92 = .ok (.i2l, 1) := by decide +kernel
theorem dX8_who_93 : decode cX8_who 93 = .ok (.lcmp, 1) := by decide +kernel
theorem dX8_who_94 : decode cX8_who 94 = .ok (.ifCond .le 9, 3) := by decide +kernel
theorem dX8_who_97 : decode cX8_who 97 = .ok (.aload_n 0, 1) := by decide +kernel
theorem dX8_who_98 : decode cX8_who 98 = .ok (.iconst 2, 1) := by decide +kernel
theorem dX8_who_99 : decode cX8_who 99 = .ok (.invokevirtual 71, 3) := by decide +kernel
theorem dX8_who_102 : decode cX8_who 102 = .ok (.ireturn, 1) := by decide +kernel
theorem dX8_who_103 : decode cX8_who 103 = .ok (.aload_n 0, 1) := by decide +kernel
theorem dX8_who_104 : decode cX8_who 104 = .ok (.iconst 0, 1) := by decide +kernel
theorem dX8_who_105 : decode cX8_who 105 = .ok (.putfield 54, 3) := by decide +kernel
theorem dX8_who_108 : decode cX8_who 108 = .ok (.iload_n 2, 1) := by decide +kernel
theorem dX8_who_109 : decode cX8_who 109 = .ok (.ifCond .ne 7, 3) := by decide +kernel
theorem dX8_who_112 : decode cX8_who 112 = .ok (.iconst 0, 1) := by decide +kernel
theorem dX8_who_113 : decode cX8_who 113 = .ok (.goto 13, 3) := by decide +kernel
theorem dX8_who_116 : decode cX8_who 116 = .ok (.iload_n 2, 1) := by decide +kernel
theorem dX8_who_117 : decode cX8_who 117 = .ok (.iconst 1, 1) := by decide +kernel
theorem dX8_who_118 : decode cX8_who 118 = .ok (.if_icmp .ne 7, 3) := by decide +kernel
theorem dX8_who_121 : decode cX8_who 121 = .ok (.iconst 2, 1) := by decide +kernel
theorem dX8_who_122 : decode cX8_who 122 = .ok (.goto 4, 3) := by decide +kernel
theorem dX8_who_125 : decode cX8_who 125 = .ok (.iconst 3, 1) := by decide +kernel
theorem dX8_who_126 : decode cX8_who 126 = .ok (.istore 7, 2) := by decide +kernel
theorem dX8_who_128 : decode cX8_who 128 = .ok (.iconst 0, 1) := by decide +kernel
theorem dX8_who_129 : decode cX8_who 129 = .ok (.istore 8, 2) := by decide +kernel
theorem dX8_who_131 : decode cX8_who 131 = .ok (.iload_n 2, 1) := by decide +kernel
theorem dX8_who_132 : decode cX8_who 132 = .ok (.ifCond .ne 7, 3) := by decide +kernel
theorem dX8_who_135 : decode cX8_who 135 = .ok (.iconst 1, 1) := by decide +kernel
theorem dX8_who_136 : decode cX8_who 136 = .ok (.goto 4, 3) := by decide +kernel
theorem dX8_who_139 : decode cX8_who 139 = .ok (.iconst 0, 1) := by decide +kernel
theorem dX8_who_140 : decode cX8_who 140 = .ok (.istore 9, 2) := by decide +kernel
theorem dX8_who_142 : decode cX8_who 142 = .ok (.iload 9, 2) := by decide +kernel
theorem dX8_who_144 : decode cX8_who 144 = .ok (.iload_n 2, 1) := by decide +kernel
theorem dX8_who_145 : decode cX8_who 145 = .ok (.ifCond .ne 7, 3) := by decide +kernel
theorem dX8_who_148 : decode cX8_who 148 = .ok (.iconst 5, 1) := by decide +kernel
theorem dX8_who_149 : decode cX8_who 149 = .ok (.goto 15, 3) := by decide +kernel
theorem dX8_who_152 : decode cX8_who 152 = .ok (.iload_n 2, 1) := by decide +kernel
theorem dX8_who_153 : decode cX8_who 153 = .ok (.iconst 1, 1) := by decide +kernel
theorem dX8_who_154 : decode cX8_who 154 = .ok (.if_icmp .ne 8, 3) := by decide +kernel
theorem dX8_who_157 : decode cX8_who 157 = .ok (.bipush 9, 2) := by decide +kernel
theorem dX8_who_159 : decode cX8_who 159 = .ok (.goto 5, 3) := by decide +kernel
theorem dX8_who_162 : decode cX8_who 162 = .ok (.bipush 19, 2) := by decide +kernel
theorem dX8_who_164 : decode cX8_who 164 = .ok (.if_icmp .gt 60, 3) := by decide +kernel
theorem dX8_who_167 : decode cX8_who 167 = .ok (.aload_n 0, 1) := by decide +kernel
theorem dX8_who_168 : decode cX8_who 168 = .ok (.invokevirtual 177, 3) := by decide +kernel
theorem dX8_who_171 : decode cX8_who 171 = .ok (.aload_n 0, 1) := by decide +kernel
theorem dX8_who_172 : decode cX8_who 172 = .ok (.getfield 25, 3) := by decide +kernel
theorem dX8_who_175 : decode cX8_who 175 = .ok (.bipush 6, 2) := by decide +kernel
theorem dX8_who_177 : decode cX8_who 177 = .ok (.iconst 5, 1) := by decide +kernel
theorem dX8_who_178 : decode cX8_who 178 = .ok (.iload_n 1, 1) := by decide +kernel
theorem dX8_who_179 : decode cX8_who 179 = .ok (.imul, 1) := by decide +kernel
theorem dX8_who_180 : decode cX8_who 180 = .ok (.iadd, 1) := by decide +kernel
theorem dX8_who_181 : decode cX8_who 181 = .ok (.iload 7, 2) := by decide +kernel
theorem dX8_who_183 : decode cX8_who 183 = .ok (.iadd, 1) := by decide +kernel
theorem dX8_who_184 : decode cX8_who 184 = .ok (.iload 9, 2) := by decide +kernel
theorem dX8_who_186 : decode cX8_who 186 = .ok (.iastore, 1) := by decide +kernel
theorem dX8_who_187 : decode cX8_who 187 = .ok (.iload 8, 2) := by decide +kernel
theorem dX8_who_189 : decode cX8_who 189 = .ok (.aload_n 0, 1) := by decide +kernel
theorem dX8_who_190 : decode cX8_who 190 = .ok (.iload_n 3, 1) := by decide +kernel
theorem dX8_who_191 : decode cX8_who 191 = .ok (.bipush 40, 2) := by decide +kernel
theorem dX8_who_193 : decode cX8_who 193 = .ok (.iload 4, 2) := by decide +kernel
theorem dX8_who_195 : decode cX8_who 195 = .ok (.imul, 1) := by decide +kernel
theorem dX8_who_196 : decode cX8_who 196 = .ok (.iload 5, 2) := by decide +kernel
theorem dX8_who_198 : decode cX8_who 198 = .ok (.iadd, 1) := by decide +kernel
theorem dX8_who_199 : decode cX8_who 199 = .ok (.iload 6, 2) := by decide +kernel
theorem dX8_who_201 : decode cX8_who 201 = .ok (.invokevirtual 230, 3) := by decide +kernel
theorem dX8_who_204 : decode cX8_who 204 = .ok (.ifCond .eq 10, 3) := by decide +kernel
theorem dX8_who_207 : decode cX8_who 207 = .ok (.iconst 1, 1) := by decide +kernel
theorem dX8_who_208 : decode cX8_who 208 = .ok (.iload 9, 2) := by decide +kernel
theorem dX8_who_210 : decode cX8_who 210 = .ok (.ishl, 1) := by decide +kernel
theorem dX8_who_211 : decode cX8_who 211 = .ok (.goto 4, 3) := by decide +kernel
theorem dX8_who_214 : decode cX8_who 214 = .ok (.iconst 0, 1) := by decide +kernel
theorem dX8_who_215 : decode cX8_who 215 = .ok (.ior, 1) := by decide +kernel
theorem dX8_who_216 : decode cX8_who 216 = .ok (.istore 8, 2) := by decide +kernel
theorem dX8_who_218 : decode cX8_who 218 = .ok (.iinc 9 1, 3) := by decide +kernel
theorem dX8_who_221 : decode cX8_who 221 = .ok (.goto (-79), 3) := by decide +kernel
theorem dX8_who_224 : decode cX8_who 224 = .ok (.iload 8, 2) := by decide +kernel
theorem dX8_who_226 : decode cX8_who 226 = .ok (.ireturn, 1) := by decide +kernel
theorem dX8_strayed_0 : decode cX8_strayed 0 = .ok (.aload_n 0, 1) := by decide +kernel
theorem dX8_strayed_1 : decode cX8_strayed 1 = .ok (.iconst 0, 1) := by decide +kernel
theorem dX8_strayed_2 : decode cX8_strayed 2 = .ok (.putfield 50, 3) := by decide +kernel
theorem dX8_strayed_5 : decode cX8_strayed 5 = .ok (.aload_n 0, 1) := by decide +kernel
theorem dX8_strayed_6 : decode cX8_strayed 6 = .ok (.iload_n 1, 1) := by decide +kernel
theorem dX8_strayed_7 : decode cX8_strayed 7 = .ok (.invokevirtual 193, 3) := by decide +kernel
theorem dX8_strayed_10 : decode cX8_strayed 10 = .ok (.ifCond .eq 23, 3) := by decide +kernel
theorem dX8_strayed_13 : decode cX8_strayed 13 = .ok (.iload_n 2, 1) := by decide +kernel
theorem dX8_strayed_14 : decode cX8_strayed 14 = .ok (.invokestatic 64, 3) := by decide +kernel
theorem dX8_strayed_17 : decode cX8_strayed 17 = .ok (.ifCond .eq 16, 3) := by decide +kernel
theorem dX8_strayed_20 : decode cX8_strayed 20 = .ok (.iload 4, 2) := by decide +kernel
theorem dX8_strayed_22 : decode cX8_strayed 22 = .ok (.i2l, 1) := by decide +kernel
theorem dX8_strayed_23 : decode cX8_strayed 23 = .ok (.lconst 1, 1) := by decide +kernel
theorem dX8_strayed_24 : decode cX8_strayed 24 = .ok (.ldc2_w 228, 3) := by decide +kernel
theorem dX8_strayed_27 : decode cX8_strayed 27 = .ok (.invokestatic 60, 3) := by decide +kernel
theorem dX8_strayed_30 : decode cX8_strayed 30 = .ok (.ifCond .ne 6, 3) := by decide +kernel
theorem dX8_strayed_33 : decode cX8_strayed 33 = .ok (.ldc 70, 2) := by decide +kernel
theorem dX8_strayed_35 : decode cX8_strayed 35 = .ok (.ireturn, 1) := by decide +kernel
theorem dX8_strayed_36 : decode cX8_strayed 36 = .ok (.aload_n 0, 1) := by decide +kernel
theorem dX8_strayed_37 : decode cX8_strayed 37 = .ok (.getfield 7, 3) := by decide +kernel
theorem dX8_strayed_40 : decode cX8_strayed 40 = .ok (.iload_n 2, 1) := by decide +kernel
theorem dX8_strayed_41 : decode cX8_strayed 41 = .ok (.iaload, 1) := by decide +kernel
theorem dX8_strayed_42 : decode cX8_strayed 42 = .ok (.ifCond .ge 9, 3) := by decide +kernel
theorem dX8_strayed_45 : decode cX8_strayed 45 = .ok (.aload_n 0, 1) := by decide +kernel
theorem dX8_strayed_46 : decode cX8_strayed 46 = .ok (.iconst 1, 1) := by decide +kernel
theorem dX8_strayed_47 : decode cX8_strayed 47 = .ok (.invokevirtual 71, 3) := by decide +kernel
theorem dX8_strayed_50 : decode cX8_strayed 50 = .ok (.ireturn, 1) := by decide +kernel
theorem dX8_strayed_51 : decode cX8_strayed 51 = .ok (.iload_n 3, 1) := by decide +kernel
theorem dX8_strayed_52 : decode cX8_strayed 52 = .ok (.ifCond .lt 20, 3) := by decide +kernel
theorem dX8_strayed_55 : decode cX8_strayed 55 = .ok (.iload_n 3, 1) := by decide +kernel
theorem dX8_strayed_56 : decode cX8_strayed 56 = .ok (.i2l, 1) := by decide +kernel
theorem dX8_strayed_57 : decode cX8_strayed 57 = .ok (.iload 4, 2) := by decide +kernel
theorem dX8_strayed_59 : decode cX8_strayed 59 = .ok (.i2l, 1) := by decide +kernel
theorem dX8_strayed_60 : decode cX8_strayed 60 = .ok (.ladd, 1) := by decide +kernel
theorem dX8_strayed_61 : decode cX8_strayed 61 = .ok (.aload_n 0, 1) := by decide +kernel
theorem dX8_strayed_62 : decode cX8_strayed 62 = .ok (.getfield 13, 3) := by decide +kernel
theorem dX8_strayed_65 : decode cX8_strayed 65 = .ok (.iload_n 2, 1) := by decide +kernel
theorem dX8_strayed_66 : decode cX8_strayed 66 = .ok (.iaload, 1) := by decide +kernel
theorem dX8_strayed_67 : decode cX8_strayed 67 = .ok (.i2l, 1) := by decide +kernel
theorem dX8_strayed_68 : decode cX8_strayed 68 = .ok (.lcmp, 1) := by decide +kernel
theorem dX8_strayed_69 : decode cX8_strayed 69 = .ok (.ifCond .le 9, 3) := by decide +kernel
theorem dX8_strayed_72 : decode cX8_strayed 72 = .ok (.aload_n 0, 1) := by decide +kernel
theorem dX8_strayed_73 : decode cX8_strayed 73 = .ok (.iconst 2, 1) := by decide +kernel
theorem dX8_strayed_74 : decode cX8_strayed 74 = .ok (.invokevirtual 71, 3) := by decide +kernel
theorem dX8_strayed_77 : decode cX8_strayed 77 = .ok (.ireturn, 1) := by decide +kernel
theorem dX8_strayed_78 : decode cX8_strayed 78 = .ok (.aload_n 0, 1) := by decide +kernel
theorem dX8_strayed_79 : decode cX8_strayed 79 = .ok (.iconst 0, 1) := by decide +kernel
theorem dX8_strayed_80 : decode cX8_strayed 80 = .ok (.putfield 54, 3) := by decide +kernel
theorem dX8_strayed_83 : decode cX8_strayed 83 = .ok (.aload_n 0, 1) := by decide +kernel
theorem dX8_strayed_84 : decode cX8_strayed 84 = .ok (.invokevirtual 177, 3) := by decide +kernel
theorem dX8_strayed_87 : decode cX8_strayed 87 = .ok (.aload_n 0, 1) := by decide +kernel
theorem dX8_strayed_88 : decode cX8_strayed 88 = .ok (.iload_n 1, 1) := by decide +kernel
theorem dX8_strayed_89 : decode cX8_strayed 89 = .ok (.bipush 40, 2) := by decide +kernel
theorem dX8_strayed_91 : decode cX8_strayed 91 = .ok (.iload_n 2, 1) := by decide +kernel
theorem dX8_strayed_92 : decode cX8_strayed 92 = .ok (.imul, 1) := by decide +kernel
theorem dX8_strayed_93 : decode cX8_strayed 93 = .ok (.iload_n 3, 1) := by decide +kernel
theorem dX8_strayed_94 : decode cX8_strayed 94 = .ok (.iadd, 1) := by decide +kernel
theorem dX8_strayed_95 : decode cX8_strayed 95 = .ok (.iload 4, 2) := by decide +kernel
theorem dX8_strayed_97 : decode cX8_strayed 97 = .ok (.invokevirtual 230, 3) := by decide +kernel
theorem dX8_strayed_100 : decode cX8_strayed 100 = .ok (.ifCond .eq 8, 3) := by decide +kernel
theorem dX8_strayed_103 : decode cX8_strayed 103 = .ok (.bipush 16, 2) := by decide +kernel
theorem dX8_strayed_105 : decode cX8_strayed 105 = .ok (.goto 4, 3) := by decide +kernel
theorem dX8_strayed_108 : decode cX8_strayed 108 = .ok (.iconst 0, 1) := by decide +kernel
theorem dX8_strayed_109 : decode cX8_strayed 109 = .ok (.istore 5, 2) := by decide +kernel
theorem dX8_strayed_111 : decode cX8_strayed 111 = .ok (.iconst 0, 1) := by decide +kernel
theorem dX8_strayed_112 : decode cX8_strayed 112 = .ok (.istore 6, 2) := by decide +kernel
theorem dX8_strayed_114 : decode cX8_strayed 114 = .ok (.iload 6, 2) := by decide +kernel
theorem dX8_strayed_116 : decode cX8_strayed 116 = .ok (.aload_n 0, 1) := by decide +kernel
theorem dX8_strayed_117 : decode cX8_strayed 117 = .ok (.getfield 19, 3) := by decide +kernel
theorem dX8_strayed_120 : decode cX8_strayed 120 = .ok (.iconst 4, 1) := by decide +kernel
theorem dX8_strayed_121 : decode cX8_strayed 121 = .ok (.iaload, 1) := by decide +kernel
theorem dX8_strayed_122 : decode cX8_strayed 122 = .ok (.if_icmp .ge 48, 3) := by decide +kernel
theorem dX8_strayed_125 : decode cX8_strayed 125 = .ok (.aload_n 0, 1) := by decide +kernel
theorem dX8_strayed_126 : decode cX8_strayed 126 = .ok (.iconst 1, 1) := by decide +kernel
theorem dX8_strayed_127 : decode cX8_strayed 127 = .ok (.iload 6, 2) := by decide +kernel
theorem dX8_strayed_129 : decode cX8_strayed 129 = .ok (.ishl, 1) := by decide +kernel
theorem dX8_strayed_130 : decode cX8_strayed 130 = .ok (.iload 4, 2) := by decide +kernel
theorem dX8_strayed_132 : decode cX8_strayed 132 = .ok (.invokevirtual 224, 3) := by decide +kernel
theorem dX8_strayed_135 : decode cX8_strayed 135 = .ok (.iload 5, 2) := by decide +kernel
theorem dX8_strayed_137 : decode cX8_strayed 137 = .ok (.aload_n 0, 1) := by decide +kernel
theorem dX8_strayed_138 : decode cX8_strayed 138 = .ok (.iload_n 1, 1) := by decide +kernel
theorem dX8_strayed_139 : decode cX8_strayed 139 = .ok (.bipush 40, 2) := by decide +kernel
theorem dX8_strayed_141 : decode cX8_strayed 141 = .ok (.iload_n 2, 1) := by decide +kernel
theorem dX8_strayed_142 : decode cX8_strayed 142 = .ok (.imul, 1) := by decide +kernel
theorem dX8_strayed_143 : decode cX8_strayed 143 = .ok (.iload_n 3, 1) := by decide +kernel
theorem dX8_strayed_144 : decode cX8_strayed 144 = .ok (.iadd, 1) := by decide +kernel
theorem dX8_strayed_145 : decode cX8_strayed 145 = .ok (.iload 4, 2) := by decide +kernel
theorem dX8_strayed_147 : decode cX8_strayed 147 = .ok (.invokevirtual 230, 3) := by decide +kernel
theorem dX8_strayed_150 : decode cX8_strayed 150 = .ok (.ifCond .eq 10, 3) := by decide +kernel
theorem dX8_strayed_153 : decode cX8_strayed 153 = .ok (.iconst 1, 1) := by decide +kernel
theorem dX8_strayed_154 : decode cX8_strayed 154 = .ok (.iload 6, 2) := by decide +kernel
theorem dX8_strayed_156 : decode cX8_strayed 156 = .ok (.ishl, 1) := by decide +kernel
theorem dX8_strayed_157 : decode cX8_strayed 157 = .ok (.goto 4, 3) := by decide +kernel
theorem dX8_strayed_160 : decode cX8_strayed 160 = .ok (.iconst 0, 1) := by decide +kernel
theorem dX8_strayed_161 : decode cX8_strayed 161 = .ok (.ior, 1) := by decide +kernel
theorem dX8_strayed_162 : decode cX8_strayed 162 = .ok (.istore 5, 2) := by decide +kernel
theorem dX8_strayed_164 : decode cX8_strayed 164 = .ok (.iinc 6 1, 3) := by decide +kernel
theorem dX8_strayed_167 : decode cX8_strayed 167 = .ok (.goto (-53), 3) := by decide +kernel
theorem dX8_strayed_170 : decode cX8_strayed 170 = .ok (.iload 5, 2) := by decide +kernel
theorem dX8_strayed_172 : decode cX8_strayed 172 = .ok (.ireturn, 1) := by decide +kernel
theorem dX8_rivals_0 : decode cX8_rivals 0 = .ok (.aload_n 0, 1) := by decide +kernel
theorem dX8_rivals_1 : decode cX8_rivals 1 = .ok (.iconst 0, 1) := by decide +kernel
theorem dX8_rivals_2 : decode cX8_rivals 2 = .ok (.putfield 50, 3) := by decide +kernel
theorem dX8_rivals_5 : decode cX8_rivals 5 = .ok (.aload_n 0, 1) := by decide +kernel
theorem dX8_rivals_6 : decode cX8_rivals 6 = .ok (.invokevirtual 184, 3) := by decide +kernel
theorem dX8_rivals_9 : decode cX8_rivals 9 = .ok (.ifCond .ne 6, 3) := by decide +kernel
theorem dX8_rivals_12 : decode cX8_rivals 12 = .ok (.ldc 187, 2) := by decide +kernel
theorem dX8_rivals_14 : decode cX8_rivals 14 = .ok (.ireturn, 1) := by decide +kernel
theorem dX8_rivals_15 : decode cX8_rivals 15 = .ok (.iload_n 1, 1) := by decide +kernel
theorem dX8_rivals_16 : decode cX8_rivals 16 = .ok (.i2l, 1) := by decide +kernel
theorem dX8_rivals_17 : decode cX8_rivals 17 = .ok (.lconst 0, 1) := by decide +kernel
theorem dX8_rivals_18 : decode cX8_rivals 18 = .ok (.lconst 1, 1) := by decide +kernel
theorem dX8_rivals_19 : decode cX8_rivals 19 = .ok (.invokestatic 60, 3) := by decide +kernel
theorem dX8_rivals_22 : decode cX8_rivals 22 = .ok (.ifCond .ne 6, 3) := by decide +kernel
theorem dX8_rivals_25 : decode cX8_rivals 25 = .ok (.ldc 70, 2) := by decide +kernel
theorem dX8_rivals_27 : decode cX8_rivals 27 = .ok (.ireturn, 1) := by decide +kernel
theorem dX8_rivals_28 : decode cX8_rivals 28 = .ok (.iconst 0, 1) := by decide +kernel
theorem dX8_rivals_29 : decode cX8_rivals 29 = .ok (.istore_n 2, 1) := by decide +kernel
theorem dX8_rivals_30 : decode cX8_rivals 30 = .ok (.ldc 93, 2) := by decide +kernel
theorem dX8_rivals_32 : decode cX8_rivals 32 = .ok (.istore_n 3, 1) := by decide +kernel
theorem dX8_rivals_33 : decode cX8_rivals 33 = .ok (.aload_n 0, 1) := by decide +kernel
theorem dX8_rivals_34 : decode cX8_rivals 34 = .ok (.getfield 19, 3) := by decide +kernel
theorem dX8_rivals_37 : decode cX8_rivals 37 = .ok (.iconst 3, 1) := by decide +kernel
theorem dX8_rivals_38 : decode cX8_rivals 38 = .ok (.iaload, 1) := by decide +kernel
theorem dX8_rivals_39 : decode cX8_rivals 39 = .ok (.iconst 1, 1) := by decide +kernel
theorem dX8_rivals_40 : decode cX8_rivals 40 = .ok (.isub, 1) := by decide +kernel
theorem dX8_rivals_41 : decode cX8_rivals 41 = .ok (.istore 4, 2) := by decide +kernel
theorem dX8_rivals_43 : decode cX8_rivals 43 = .ok (.iload 4, 2) := by decide +kernel
theorem dX8_rivals_45 : decode cX8_rivals 45 = .ok (.ifCond .lt 105, 3) := by decide +kernel
theorem dX8_rivals_48 : decode cX8_rivals 48 = .ok (.aload_n 0, 1) := by decide +kernel
theorem dX8_rivals_49 : decode cX8_rivals 49 = .ok (.getfield 19, 3) := by decide +kernel
theorem dX8_rivals_52 : decode cX8_rivals 52 = .ok (.iconst 3, 1) := by decide +kernel
theorem dX8_rivals_53 : decode cX8_rivals 53 = .ok (.iaload, 1) := by decide +kernel
theorem dX8_rivals_54 : decode cX8_rivals 54 = .ok (.iconst 1, 1) := by decide +kernel
theorem dX8_rivals_55 : decode cX8_rivals 55 = .ok (.isub, 1) := by decide +kernel
theorem dX8_rivals_56 : decode cX8_rivals 56 = .ok (.istore 5, 2) := by decide +kernel
theorem dX8_rivals_58 : decode cX8_rivals 58 = .ok (.iload 5, 2) := by decide +kernel
theorem dX8_rivals_60 : decode cX8_rivals 60 = .ok (.iload 4, 2) := by decide +kernel
theorem dX8_rivals_62 : decode cX8_rivals 62 = .ok (.if_icmp .le 82, 3) := by decide +kernel
theorem dX8_rivals_65 : decode cX8_rivals 65 = .ok (.aload_n 0, 1) := by decide +kernel
theorem dX8_rivals_66 : decode cX8_rivals 66 = .ok (.getfield 19, 3) := by decide +kernel
theorem dX8_rivals_69 : decode cX8_rivals 69 = .ok (.iload 4, 2) := by decide +kernel
theorem dX8_rivals_71 : decode cX8_rivals 71 = .ok (.invokestatic 162, 3) := by decide +kernel
theorem dX8_rivals_74 : decode cX8_rivals 74 = .ok (.ldc 93, 2) := by decide +kernel
theorem dX8_rivals_76 : decode cX8_rivals 76 = .ok (.if_icmp .eq 28, 3) := by decide +kernel
theorem dX8_rivals_79 : decode cX8_rivals 79 = .ok (.aload_n 0, 1) := by decide +kernel
theorem dX8_rivals_80 : decode cX8_rivals 80 = .ok (.getfield 19, 3) := by decide +kernel
theorem dX8_rivals_83 : decode cX8_rivals 83 = .ok (.iload 4, 2) := by decide +kernel
theorem dX8_rivals_85 : decode cX8_rivals 85 = .ok (.invokestatic 162, 3) := by decide +kernel
theorem dX8_rivals_88 : decode cX8_rivals 88 = .ok (.aload_n 0, 1) := by decide +kernel
theorem dX8_rivals_89 : decode cX8_rivals 89 = .ok (.getfield 19, 3) := by decide +kernel
theorem dX8_rivals_92 : decode cX8_rivals 92 = .ok (.iload 5, 2) := by decide +kernel
theorem dX8_rivals_94 : decode cX8_rivals 94 = .ok (.invokestatic 162, 3) := by decide +kernel
theorem dX8_rivals_97 : decode cX8_rivals 97 = .ok (.if_icmp .ne 7, 3) := by decide +kernel
theorem dX8_rivals_100 : decode cX8_rivals 100 = .ok (.iconst 1, 1) := by decide +kernel
theorem dX8_rivals_101 : decode cX8_rivals 101 = .ok (.goto 4, 3) := by decide +kernel
theorem dX8_rivals_104 : decode cX8_rivals 104 = .ok (.iconst 0, 1) := by decide +kernel
theorem dX8_rivals_105 : decode cX8_rivals 105 = .ok (.istore 6, 2) := by decide +kernel
theorem dX8_rivals_107 : decode cX8_rivals 107 = .ok (.iload_n 2, 1) := by decide +kernel
theorem dX8_rivals_108 : decode cX8_rivals 108 = .ok (.iload 6, 2) := by decide +kernel
theorem dX8_rivals_110 : decode cX8_rivals 110 = .ok (.ifCond .eq 7, 3) := by decide +kernel
theorem dX8_rivals_113 : decode cX8_rivals 113 = .ok (.iconst 1, 1) := by decide +kernel
theorem dX8_rivals_114 : decode cX8_rivals 114 = .ok (.goto 4, 3) := by decide +kernel
theorem dX8_rivals_117 : decode cX8_rivals 117 = .ok (.iconst 0, 1) := by decide +kernel
theorem dX8_rivals_118 : decode cX8_rivals 118 = .ok (.iadd, 1) := by decide +kernel
theorem dX8_rivals_119 : decode cX8_rivals 119 = .ok (.istore_n 2, 1) := by decide +kernel
theorem dX8_rivals_120 : decode cX8_rivals 120 = .ok (.iload 6, 2) := by decide +kernel
theorem dX8_rivals_122 : decode cX8_rivals 122 = .ok (.ifCond .eq 14, 3) := by decide +kernel
theorem dX8_rivals_125 : decode cX8_rivals 125 = .ok (.bipush 10, 2) := by decide +kernel
theorem dX8_rivals_127 : decode cX8_rivals 127 = .ok (.iload 4, 2) := by decide +kernel
theorem dX8_rivals_129 : decode cX8_rivals 129 = .ok (.imul, 1) := by decide +kernel
theorem dX8_rivals_130 : decode cX8_rivals 130 = .ok (.iload 5, 2) := by decide +kernel
theorem dX8_rivals_132 : decode cX8_rivals 132 = .ok (.iadd, 1) := by decide +kernel
theorem dX8_rivals_133 : decode cX8_rivals 133 = .ok (.goto 4, 3) := by decide +kernel
theorem dX8_rivals_136 : decode cX8_rivals 136 = .ok (.iload_n 3, 1) := by decide +kernel
theorem dX8_rivals_137 : decode cX8_rivals 137 = .ok (.istore_n 3, 1) := by decide +kernel
theorem dX8_rivals_138 : decode cX8_rivals 138 = .ok (.iinc 5 (-1), 3) := by decide +kernel
theorem dX8_rivals_141 : decode cX8_rivals 141 = .ok (.goto (-83), 3) := by decide +kernel
theorem dX8_rivals_144 : decode cX8_rivals 144 = .ok (.iinc 4 (-1), 3) := by decide +kernel
theorem dX8_rivals_147 : decode cX8_rivals 147 = .ok (.goto (-104), 3) := by decide +kernel
theorem dX8_rivals_150 : decode cX8_rivals 150 = .ok (.iload_n 1, 1) := by decide +kernel
theorem dX8_rivals_151 : decode cX8_rivals 151 = .ok (.ifCond .ne 7, 3) := by decide +kernel
theorem dX8_rivals_154 : decode cX8_rivals 154 = .ok (.iload_n 2, 1) := by decide +kernel
theorem dX8_rivals_155 : decode cX8_rivals 155 = .ok (.goto 4, 3) := by decide +kernel
theorem dX8_rivals_158 : decode cX8_rivals 158 = .ok (.iload_n 3, 1) := by decide +kernel
theorem dX8_rivals_159 : decode cX8_rivals 159 = .ok (.ireturn, 1) := by decide +kernel
theorem dX8_wind_0 : decode cX8_wind 0 = .ok (.aload_n 0, 1) := by decide +kernel
theorem dX8_wind_1 : decode cX8_wind 1 = .ok (.iconst 0, 1) := by decide +kernel
theorem dX8_wind_2 : decode cX8_wind 2 = .ok (.putfield 50, 3) := by decide +kernel
theorem dX8_wind_5 : decode cX8_wind 5 = .ok (.aload_n 0, 1) := by decide +kernel
theorem dX8_wind_6 : decode cX8_wind 6 = .ok (.invokevirtual 184, 3) := by decide +kernel
theorem dX8_wind_9 : decode cX8_wind 9 = .ok (.ifCond .ne 7, 3) := by decide +kernel
theorem dX8_wind_12 : decode cX8_wind 12 = .ok (.ldc2_w 234, 3) := by decide +kernel
theorem dX8_wind_15 : decode cX8_wind 15 = .ok (.lreturn, 1) := by decide +kernel
theorem dX8_wind_16 : decode cX8_wind 16 = .ok (.iload_n 1, 1) := by decide +kernel
theorem dX8_wind_17 : decode cX8_wind 17 = .ok (.i2l, 1) := by decide +kernel
theorem dX8_wind_18 : decode cX8_wind 18 = .ok (.lconst 0, 1) := by decide +kernel
theorem dX8_wind_19 : decode cX8_wind 19 = .ok (.ldc2_w 58, 3) := by decide +kernel
theorem dX8_wind_22 : decode cX8_wind 22 = .ok (.invokestatic 60, 3) := by decide +kernel
theorem dX8_wind_25 : decode cX8_wind 25 = .ok (.ifCond .eq 25, 3) := by decide +kernel
theorem dX8_wind_28 : decode cX8_wind 28 = .ok (.iload_n 2, 1) := by decide +kernel
theorem dX8_wind_29 : decode cX8_wind 29 = .ok (.i2l, 1) := by decide +kernel
theorem dX8_wind_30 : decode cX8_wind 30 = .ok (.lconst 0, 1) := by decide +kernel
theorem dX8_wind_31 : decode cX8_wind 31 = .ok (.ldc2_w 236, 3) := by decide +kernel
theorem dX8_wind_34 : decode cX8_wind 34 = .ok (.invokestatic 60, 3) := by decide +kernel
theorem dX8_wind_37 : decode cX8_wind 37 = .ok (.ifCond .eq 13, 3) := by decide +kernel
theorem dX8_wind_40 : decode cX8_wind 40 = .ok (.iload_n 3, 1) := by decide +kernel
theorem dX8_wind_41 : decode cX8_wind 41 = .ok (.i2l, 1) := by decide +kernel
theorem dX8_wind_42 : decode cX8_wind 42 = .ok (.lconst 0, 1) := by decide +kernel
theorem dX8_wind_43 : decode cX8_wind 43 = .ok (.lconst 1, 1) := by decide +kernel
theorem dX8_wind_44 : decode cX8_wind 44 = .ok (.invokestatic 60, 3) := by decide +kernel
theorem dX8_wind_47 : decode cX8_wind 47 = .ok (.ifCond .ne 7, 3) := by decide +kernel
theorem dX8_wind_50 : decode cX8_wind 50 = .ok (.ldc2_w 238, 3) := by decide +kernel
theorem dX8_wind_53 : decode cX8_wind 53 = .ok (.lreturn, 1) := by decide +kernel
theorem dX8_wind_54 : decode cX8_wind 54 = .ok (.iconst 0, 1) := by decide +kernel
theorem dX8_wind_55 : decode cX8_wind 55 = .ok (.istore 4, 2) := by decide +kernel
theorem dX8_wind_57 : decode cX8_wind 57 = .ok (.iconst 0, 1) := by decide +kernel
theorem dX8_wind_58 : decode cX8_wind 58 = .ok (.istore 5, 2) := by decide +kernel
theorem dX8_wind_60 : decode cX8_wind 60 = .ok (.iload 5, 2) := by decide +kernel
theorem dX8_wind_62 : decode cX8_wind 62 = .ok (.aload_n 0, 1) := by decide +kernel
theorem dX8_wind_63 : decode cX8_wind 63 = .ok (.getfield 19, 3) := by decide +kernel
theorem dX8_wind_66 : decode cX8_wind 66 = .ok (.iconst 3, 1) := by decide +kernel
theorem dX8_wind_67 : decode cX8_wind 67 = .ok (.iaload, 1) := by decide +kernel
theorem dX8_wind_68 : decode cX8_wind 68 = .ok (.if_icmp .ge 35, 3) := by decide +kernel
theorem dX8_wind_71 : decode cX8_wind 71 = .ok (.iload 4, 2) := by decide +kernel
theorem dX8_wind_73 : decode cX8_wind 73 = .ok (.aload_n 0, 1) := by decide +kernel
theorem dX8_wind_74 : decode cX8_wind 74 = .ok (.getfield 19, 3) := by decide +kernel
theorem dX8_wind_77 : decode cX8_wind 77 = .ok (.iload 5, 2) := by decide +kernel
theorem dX8_wind_79 : decode cX8_wind 79 = .ok (.iconst 4, 1) := by decide +kernel
theorem dX8_wind_80 : decode cX8_wind 80 = .ok (.invokestatic 155, 3) := by decide +kernel
theorem dX8_wind_83 : decode cX8_wind 83 = .ok (.ifCond .le 10, 3) := by decide +kernel
theorem dX8_wind_86 : decode cX8_wind 86 = .ok (.iconst 1, 1) := by decide +kernel
theorem dX8_wind_87 : decode cX8_wind 87 = .ok (.iload 5, 2) := by decide +kernel
theorem dX8_wind_89 : decode cX8_wind 89 = .ok (.ishl, 1) := by decide +kernel
theorem dX8_wind_90 : decode cX8_wind 90 = .ok (.goto 4, 3) := by decide +kernel
theorem dX8_wind_93 : decode cX8_wind 93 = .ok (.iconst 0, 1) := by decide +kernel
theorem dX8_wind_94 : decode cX8_wind 94 = .ok (.ior, 1) := by decide +kernel
theorem dX8_wind_95 : decode cX8_wind 95 = .ok (.istore 4, 2) := by decide +kernel
theorem dX8_wind_97 : decode cX8_wind 97 = .ok (.iinc 5 1, 3) := by decide +kernel
theorem dX8_wind_100 : decode cX8_wind 100 = .ok (.goto (-40), 3) := by decide +kernel
theorem dX8_wind_103 : decode cX8_wind 103 = .ok (.lconst 0, 1) := by decide +kernel
theorem dX8_wind_104 : decode cX8_wind 104 = .ok (.lstore 5, 2) := by decide +kernel
theorem dX8_wind_106 : decode cX8_wind 106 = .ok (.lconst 0, 1) := by decide +kernel
theorem dX8_wind_107 : decode cX8_wind 107 = .ok (.lstore 7, 2) := by decide +kernel
theorem dX8_wind_109 : decode cX8_wind 109 = .ok (.iconst 0, 1) := by decide +kernel
theorem dX8_wind_110 : decode cX8_wind 110 = .ok (.istore 9, 2) := by decide +kernel
theorem dX8_wind_112 : decode cX8_wind 112 = .ok (.iload 9, 2) := by decide +kernel
theorem dX8_wind_114 : decode cX8_wind 114 = .ok (.iload 4, 2) := by decide +kernel
theorem dX8_wind_116 : decode cX8_wind 116 = .ok (.if_icmp .gt 177, 3) := by decide +kernel
theorem dX8_wind_119 : decode cX8_wind 119 = .ok (.iload 9, 2) := by decide +kernel
theorem dX8_wind_121 : decode cX8_wind 121 = .ok (.iload 4, 2) := by decide +kernel
theorem dX8_wind_123 : decode cX8_wind 123 = .ok (.iconst (-1), 1) := by decide +kernel
theorem dX8_wind_124 : decode cX8_wind 124 = .ok (.ixor, 1) := by decide +kernel
theorem dX8_wind_125 : decode cX8_wind 125 = .ok (.iand, 1) := by decide +kernel
theorem dX8_wind_126 : decode cX8_wind 126 = .ok (.ifCond .ne 161, 3) := by decide +kernel
theorem dX8_wind_129 : decode cX8_wind 129 = .ok (.lconst 1, 1) := by decide +kernel
theorem dX8_wind_130 : decode cX8_wind 130 = .ok (.lstore 10, 2) := by decide +kernel
theorem dX8_wind_132 : decode cX8_wind 132 = .ok (.aload_n 0, 1) := by decide +kernel
theorem dX8_wind_133 : decode cX8_wind 133 = .ok (.invokevirtual 177, 3) := by decide +kernel
theorem dX8_wind_136 : decode cX8_wind 136 = .ok (.iconst 0, 1) := by decide +kernel
theorem dX8_wind_137 : decode cX8_wind 137 = .ok (.istore 12, 2) := by decide +kernel
theorem dX8_wind_139 : decode cX8_wind 139 = .ok (.iload 12, 2) := by decide +kernel
theorem dX8_wind_141 : decode cX8_wind 141 = .ok (.aload_n 0, 1) := by decide +kernel
theorem dX8_wind_142 : decode cX8_wind 142 = .ok (.getfield 19, 3) := by decide +kernel
theorem dX8_wind_145 : decode cX8_wind 145 = .ok (.iconst 3, 1) := by decide +kernel
theorem dX8_wind_146 : decode cX8_wind 146 = .ok (.iaload, 1) := by decide +kernel
theorem dX8_wind_147 : decode cX8_wind 147 = .ok (.if_icmp .ge 98, 3) := by decide +kernel
theorem dX8_wind_150 : decode cX8_wind 150 = .ok (.lload 10, 2) := by decide +kernel
theorem dX8_wind_152 : decode cX8_wind 152 = .ok (.iload 4, 2) := by decide +kernel
theorem dX8_wind_154 : decode cX8_wind 154 = .ok (.iload 12, 2) := by decide +kernel
theorem dX8_wind_156 : decode cX8_wind 156 = .ok (.invokestatic 180, 3) := by decide +kernel
theorem dX8_wind_159 : decode cX8_wind 159 = .ok (.ifCond .ne 7, 3) := by decide +kernel
theorem dX8_wind_162 : decode cX8_wind 162 = .ok (.lconst 1, 1) := by decide +kernel
theorem dX8_wind_163 : decode cX8_wind 163 = .ok (.goto 24, 3) := by decide +kernel
theorem dX8_wind_166 : decode cX8_wind 166 = .ok (.iload 9, 2) := by decide +kernel
theorem dX8_wind_168 : decode cX8_wind 168 = .ok (.iload 12, 2) := by decide +kernel
theorem dX8_wind_170 : decode cX8_wind 170 = .ok (.invokestatic 180, 3) := by decide +kernel
theorem dX8_wind_173 : decode cX8_wind 173 = .ok (.ifCond .eq 8, 3) := by decide +kernel
theorem dX8_wind_176 : decode cX8_wind 176 = .ok (.iload_n 2, 1) := by decide +kernel
theorem dX8_wind_177 : decode cX8_wind 177 = .ok (.i2l, 1) := by decide +kernel
theorem dX8_wind_178 : decode cX8_wind 178 = .ok (.goto 9, 3) := by decide +kernel
theorem dX8_wind_181 : decode cX8_wind 181 = .ok (.ldc2_w 236, 3) := by decide +kernel
theorem dX8_wind_184 : decode cX8_wind 184 = .ok (.iload_n 2, 1) := by decide +kernel
theorem dX8_wind_185 : decode cX8_wind 185 = .ok (.i2l, 1) := by decide +kernel
theorem dX8_wind_186 : decode cX8_wind 186 = .ok (.lsub, 1) := by decide +kernel
theorem dX8_wind_187 : decode cX8_wind 187 = .ok (.lmul, 1) := by decide +kernel
theorem dX8_wind_188 : decode cX8_wind 188 = .ok (.lstore 10, 2) := by decide +kernel
theorem dX8_wind_190 : decode cX8_wind 190 = .ok (.aload_n 0, 1) := by decide +kernel
theorem dX8_wind_191 : decode cX8_wind 191 = .ok (.getfield 25, 3) := by decide +kernel
theorem dX8_wind_194 : decode cX8_wind 194 = .ok (.bipush 6, 2) := by decide +kernel
theorem dX8_wind_196 : decode cX8_wind 196 = .ok (.iconst 5, 1) := by decide +kernel
theorem dX8_wind_197 : decode cX8_wind 197 = .ok (.iload 12, 2) := by decide +kernel
theorem dX8_wind_199 : decode cX8_wind 199 = .ok (.imul, 1) := by decide +kernel
theorem dX8_wind_200 : decode cX8_wind 200 = .ok (.iadd, 1) := by decide +kernel
theorem dX8_wind_201 : decode cX8_wind 201 = .ok (.iconst 4, 1) := by decide +kernel
theorem dX8_wind_202 : decode cX8_wind 202 = .ok (.iadd, 1) := by decide +kernel
theorem dX8_wind_203 : decode cX8_wind 203 = .ok (.iload 9, 2) := by decide +kernel
theorem dX8_wind_205 : decode cX8_wind 205 = .ok (.iload 12, 2) := by decide +kernel
theorem dX8_wind_207 : decode cX8_wind 207 = .ok (.invokestatic 180, 3) := by decide +kernel
theorem dX8_wind_210 : decode cX8_wind 210 = .ok (.ifCond .eq 18, 3) := by decide +kernel
theorem dX8_wind_213 : decode cX8_wind 213 = .ok (.aload_n 0, 1) := by decide +kernel
theorem dX8_wind_214 : decode cX8_wind 214 = .ok (.getfield 19, 3) := by decide +kernel
theorem dX8_wind_217 : decode cX8_wind 217 = .ok (.iload 12, 2) := by decide +kernel
theorem dX8_wind_219 : decode cX8_wind 219 = .ok (.iconst 4, 1) := by decide +kernel
theorem dX8_wind_220 : decode cX8_wind 220 = .ok (.invokestatic 155, 3) := by decide +kernel
theorem dX8_wind_223 : decode cX8_wind 223 = .ok (.iconst 2, 1) := by decide +kernel
theorem dX8_wind_224 : decode cX8_wind 224 = .ok (.idiv, 1) := by decide +kernel
theorem dX8_wind_225 : decode cX8_wind 225 = .ok (.goto 13, 3) := by decide +kernel
theorem dX8_wind_228 : decode cX8_wind 228 = .ok (.aload_n 0, 1) := by decide +kernel
theorem dX8_wind_229 : decode cX8_wind 229 = .ok (.getfield 19, 3) := by decide +kernel
theorem dX8_wind_232 : decode cX8_wind 232 = .ok (.iload 12, 2) := by decide +kernel
theorem dX8_wind_234 : decode cX8_wind 234 = .ok (.iconst 4, 1) := by decide +kernel
theorem dX8_wind_235 : decode cX8_wind 235 = .ok (.invokestatic 155, 3) := by decide +kernel
theorem dX8_wind_238 : decode cX8_wind 238 = .ok (.iastore, 1) := by decide +kernel
theorem dX8_wind_239 : decode cX8_wind 239 = .ok (.iinc 12 1, 3) := by decide +kernel
theorem dX8_wind_242 : decode cX8_wind 242 = .ok (.goto (-103), 3) := by decide +kernel
theorem dX8_wind_245 : decode cX8_wind 245 = .ok (.aload_n 0, 1) := by decide +kernel
theorem dX8_wind_246 : decode cX8_wind 246 = .ok (.aload_n 0, 1) := by decide +kernel
theorem dX8_wind_247 : decode cX8_wind 247 = .ok (.getfield 25, 3) := by decide +kernel
theorem dX8_wind_250 : decode cX8_wind 250 = .ok (.invokevirtual 169, 3) := by decide +kernel
theorem dX8_wind_253 : decode cX8_wind 253 = .ok (.istore 12, 2) := by decide +kernel
theorem dX8_wind_255 : decode cX8_wind 255 = .ok (.lload 7, 2) := by decide +kernel
theorem dX8_wind_257 : decode cX8_wind 257 = .ok (.lload 10, 2) := by decide +kernel
theorem dX8_wind_259 : decode cX8_wind 259 = .ok (.ladd, 1) := by decide +kernel
theorem dX8_wind_260 : decode cX8_wind 260 = .ok (.lstore 7, 2) := by decide +kernel
theorem dX8_wind_262 : decode cX8_wind 262 = .ok (.lload 5, 2) := by decide +kernel
theorem dX8_wind_264 : decode cX8_wind 264 = .ok (.aload_n 0, 1) := by decide +kernel
theorem dX8_wind_265 : decode cX8_wind 265 = .ok (.getfield 25, 3) := by decide +kernel
theorem dX8_wind_268 : decode cX8_wind 268 = .ok (.invokestatic 210, 3) := by decide +kernel
theorem dX8_wind_271 : decode cX8_wind 271 = .ok (.invokestatic 221, 3) := by decide +kernel
theorem dX8_wind_274 : decode cX8_wind 274 = .ok (.iload_n 1, 1) := by decide +kernel
theorem dX8_wind_275 : decode cX8_wind 275 = .ok (.if_icmp .lt 8, 3) := by decide +kernel
theorem dX8_wind_278 : decode cX8_wind 278 = .ok (.lload 10, 2) := by decide +kernel
theorem dX8_wind_280 : decode cX8_wind 280 = .ok (.goto 4, 3) := by decide +kernel
theorem dX8_wind_283 : decode cX8_wind 283 = .ok (.lconst 0, 1) := by decide +kernel
theorem dX8_wind_284 : decode cX8_wind 284 = .ok (.ladd, 1) := by decide +kernel
theorem dX8_wind_285 : decode cX8_wind 285 = .ok (.lstore 5, 2) := by decide +kernel
theorem dX8_wind_287 : decode cX8_wind 287 = .ok (.iinc 9 1, 3) := by decide +kernel
theorem dX8_wind_290 : decode cX8_wind 290 = .ok (.goto (-178), 3) := by decide +kernel
theorem dX8_wind_293 : decode cX8_wind 293 = .ok (.lload 5, 2) := by decide +kernel
theorem dX8_wind_295 : decode cX8_wind 295 = .ok (.lstore 9, 2) := by decide +kernel
theorem dX8_wind_297 : decode cX8_wind 297 = .ok (.lload 7, 2) := by decide +kernel
theorem dX8_wind_299 : decode cX8_wind 299 = .ok (.lstore 11, 2) := by decide +kernel
theorem dX8_wind_301 : decode cX8_wind 301 = .ok (.lload 11, 2) := by decide +kernel
theorem dX8_wind_303 : decode cX8_wind 303 = .ok (.lconst 0, 1) := by decide +kernel
theorem dX8_wind_304 : decode cX8_wind 304 = .ok (.lcmp, 1) := by decide +kernel
theorem dX8_wind_305 : decode cX8_wind 305 = .ok (.ifCond .eq 21, 3) := by decide +kernel
theorem dX8_wind_308 : decode cX8_wind 308 = .ok (.lload 9, 2) := by decide +kernel
theorem dX8_wind_310 : decode cX8_wind 310 = .ok (.lload 11, 2) := by decide +kernel
theorem dX8_wind_312 : decode cX8_wind 312 = .ok (.lrem, 1) := by decide +kernel
theorem dX8_wind_313 : decode cX8_wind 313 = .ok (.lstore 13, 2) := by decide +kernel
theorem dX8_wind_315 : decode cX8_wind 315 = .ok (.lload 11, 2) := by decide +kernel
theorem dX8_wind_317 : decode cX8_wind 317 = .ok (.lstore 9, 2) := by decide +kernel
theorem dX8_wind_319 : decode cX8_wind 319 = .ok (.lload 13, 2) := by decide +kernel
theorem dX8_wind_321 : decode cX8_wind 321 = .ok (.lstore 11, 2) := by decide +kernel
theorem dX8_wind_323 : decode cX8_wind 323 = .ok (.goto (-22), 3) := by decide +kernel
theorem dX8_wind_326 : decode cX8_wind 326 = .ok (.iload_n 3, 1) := by decide +kernel
theorem dX8_wind_327 : decode cX8_wind 327 = .ok (.ifCond .ne 8, 3) := by decide +kernel
theorem dX8_wind_330 : decode cX8_wind 330 = .ok (.lload 5, 2) := by decide +kernel
theorem dX8_wind_332 : decode cX8_wind 332 = .ok (.goto 5, 3) := by decide +kernel
theorem dX8_wind_335 : decode cX8_wind 335 = .ok (.lload 7, 2) := by decide +kernel
theorem dX8_wind_337 : decode cX8_wind 337 = .ok (.lload 9, 2) := by decide +kernel
theorem dX8_wind_339 : decode cX8_wind 339 = .ok (.ldiv, 1) := by decide +kernel
theorem dX8_wind_340 : decode cX8_wind 340 = .ok (.lreturn, 1) := by decide +kernel
theorem dX8_voids_0 : decode cX8_voids 0 = .ok (.iconst 0, 1) := by decide +kernel
theorem dX8_voids_1 : decode cX8_voids 1 = .ok (.istore_n 1, 1) := by decide +kernel
theorem dX8_voids_2 : decode cX8_voids 2 = .ok (.iconst 0, 1) := by decide +kernel
theorem dX8_voids_3 : decode cX8_voids 3 = .ok (.istore_n 2, 1) := by decide +kernel
theorem dX8_voids_4 : decode cX8_voids 4 = .ok (.iload_n 2, 1) := by decide +kernel
theorem dX8_voids_5 : decode cX8_voids 5 = .ok (.aload_n 0, 1) := by decide +kernel
theorem dX8_voids_6 : decode cX8_voids 6 = .ok (.iconst 3, 1) := by decide +kernel
theorem dX8_voids_7 : decode cX8_voids 7 = .ok (.iaload, 1) := by decide +kernel
theorem dX8_voids_8 : decode cX8_voids 8 = .ok (.if_icmp .ge 26, 3) := by decide +kernel
theorem dX8_voids_11 : decode cX8_voids 11 = .ok (.iload_n 1, 1) := by decide +kernel
theorem dX8_voids_12 : decode cX8_voids 12 = .ok (.aload_n 0, 1) := by decide +kernel
theorem dX8_voids_13 : decode cX8_voids 13 = .ok (.iload_n 2, 1) := by decide +kernel
theorem dX8_voids_14 : decode cX8_voids 14 = .ok (.iconst 4, 1) := by decide +kernel
theorem dX8_voids_15 : decode cX8_voids 15 = .ok (.invokestatic 155, 3) := by decide +kernel
theorem dX8_voids_18 : decode cX8_voids 18 = .ok (.ifCond .ne 7, 3) := by decide +kernel
theorem dX8_voids_21 : decode cX8_voids 21 = .ok (.iconst 1, 1) := by decide +kernel
theorem dX8_voids_22 : decode cX8_voids 22 = .ok (.goto 4, 3) := by decide +kernel
theorem dX8_voids_25 : decode cX8_voids 25 = .ok (.iconst 0, 1) := by decide +kernel
theorem dX8_voids_26 : decode cX8_voids 26 = .ok (.iadd, 1) := by decide +kernel
theorem dX8_voids_27 : decode cX8_voids 27 = .ok (.istore_n 1, 1) := by decide +kernel
theorem dX8_voids_28 : decode cX8_voids 28 = .ok (.iinc 2 1, 3) := by decide +kernel
theorem dX8_voids_31 : decode cX8_voids 31 = .ok (.goto (-27), 3) := by decide +kernel
theorem dX8_voids_34 : decode cX8_voids 34 = .ok (.iload_n 1, 1) := by decide +kernel
theorem dX8_voids_35 : decode cX8_voids 35 = .ok (.ireturn, 1) := by decide +kernel
theorem dX8_drawn_0 : decode cX8_drawn 0 = .ok (.aload_n 0, 1) := by decide +kernel
theorem dX8_drawn_1 : decode cX8_drawn 1 = .ok (.iconst 0, 1) := by decide +kernel
theorem dX8_drawn_2 : decode cX8_drawn 2 = .ok (.putfield 50, 3) := by decide +kernel
theorem dX8_drawn_5 : decode cX8_drawn 5 = .ok (.aload_n 0, 1) := by decide +kernel
theorem dX8_drawn_6 : decode cX8_drawn 6 = .ok (.invokevirtual 184, 3) := by decide +kernel
theorem dX8_drawn_9 : decode cX8_drawn 9 = .ok (.ifCond .ne 6, 3) := by decide +kernel
theorem dX8_drawn_12 : decode cX8_drawn 12 = .ok (.ldc 187, 2) := by decide +kernel
theorem dX8_drawn_14 : decode cX8_drawn 14 = .ok (.ireturn, 1) := by decide +kernel
theorem dX8_drawn_15 : decode cX8_drawn 15 = .ok (.iload_n 1, 1) := by decide +kernel
theorem dX8_drawn_16 : decode cX8_drawn 16 = .ok (.i2l, 1) := by decide +kernel
theorem dX8_drawn_17 : decode cX8_drawn 17 = .ok (.lconst 0, 1) := by decide +kernel
theorem dX8_drawn_18 : decode cX8_drawn 18 = .ok (.ldc2_w 201, 3) := by decide +kernel
theorem dX8_drawn_21 : decode cX8_drawn 21 = .ok (.invokestatic 60, 3) := by decide +kernel
theorem dX8_drawn_24 : decode cX8_drawn 24 = .ok (.ifCond .eq 25, 3) := by decide +kernel
theorem dX8_drawn_27 : decode cX8_drawn 27 = .ok (.iload_n 2, 1) := by decide +kernel
theorem dX8_drawn_28 : decode cX8_drawn 28 = .ok (.i2l, 1) := by decide +kernel
theorem dX8_drawn_29 : decode cX8_drawn 29 = .ok (.lconst 1, 1) := by decide +kernel
theorem dX8_drawn_30 : decode cX8_drawn 30 = .ok (.ldc2_w 240, 3) := by decide +kernel
theorem dX8_drawn_33 : decode cX8_drawn 33 = .ok (.invokestatic 60, 3) := by decide +kernel
theorem dX8_drawn_36 : decode cX8_drawn 36 = .ok (.ifCond .eq 13, 3) := by decide +kernel
theorem dX8_drawn_39 : decode cX8_drawn 39 = .ok (.iload_n 3, 1) := by decide +kernel
theorem dX8_drawn_40 : decode cX8_drawn 40 = .ok (.i2l, 1) := by decide +kernel
theorem dX8_drawn_41 : decode cX8_drawn 41 = .ok (.lconst 0, 1) := by decide +kernel
theorem dX8_drawn_42 : decode cX8_drawn 42 = .ok (.lconst 1, 1) := by decide +kernel
theorem dX8_drawn_43 : decode cX8_drawn 43 = .ok (.invokestatic 60, 3) := by decide +kernel
theorem dX8_drawn_46 : decode cX8_drawn 46 = .ok (.ifCond .ne 6, 3) := by decide +kernel
theorem dX8_drawn_49 : decode cX8_drawn 49 = .ok (.ldc 70, 2) := by decide +kernel
theorem dX8_drawn_51 : decode cX8_drawn 51 = .ok (.ireturn, 1) := by decide +kernel
theorem dX8_drawn_52 : decode cX8_drawn 52 = .ok (.aload_n 0, 1) := by decide +kernel
theorem dX8_drawn_53 : decode cX8_drawn 53 = .ok (.invokevirtual 177, 3) := by decide +kernel
theorem dX8_drawn_56 : decode cX8_drawn 56 = .ok (.iload_n 2, 1) := by decide +kernel
theorem dX8_drawn_57 : decode cX8_drawn 57 = .ok (.i2l, 1) := by decide +kernel
theorem dX8_drawn_58 : decode cX8_drawn 58 = .ok (.lstore 4, 2) := by decide +kernel
theorem dX8_drawn_60 : decode cX8_drawn 60 = .ok (.iconst 0, 1) := by decide +kernel
theorem dX8_drawn_61 : decode cX8_drawn 61 = .ok (.istore 6, 2) := by decide +kernel
theorem dX8_drawn_63 : decode cX8_drawn 63 = .ok (.iconst 0, 1) := by decide +kernel
theorem dX8_drawn_64 : decode cX8_drawn 64 = .ok (.istore 7, 2) := by decide +kernel
theorem dX8_drawn_66 : decode cX8_drawn 66 = .ok (.iload 7, 2) := by decide +kernel
theorem dX8_drawn_68 : decode cX8_drawn 68 = .ok (.iload_n 1, 1) := by decide +kernel
theorem dX8_drawn_69 : decode cX8_drawn 69 = .ok (.if_icmp .ge 138, 3) := by decide +kernel
theorem dX8_drawn_72 : decode cX8_drawn 72 = .ok (.lload 4, 2) := by decide +kernel
theorem dX8_drawn_74 : decode cX8_drawn 74 = .ok (.ldc2_w 242, 3) := by decide +kernel
theorem dX8_drawn_77 : decode cX8_drawn 77 = .ok (.lmul, 1) := by decide +kernel
theorem dX8_drawn_78 : decode cX8_drawn 78 = .ok (.ldc2_w 244, 3) := by decide +kernel
theorem dX8_drawn_81 : decode cX8_drawn 81 = .ok (.lrem, 1) := by decide +kernel
theorem dX8_drawn_82 : decode cX8_drawn 82 = .ok (.lstore 4, 2) := by decide +kernel
theorem dX8_drawn_84 : decode cX8_drawn 84 = .ok (.lload 4, 2) := by decide +kernel
theorem dX8_drawn_86 : decode cX8_drawn 86 = .ok (.ldc2_w 205, 3) := by decide +kernel
theorem dX8_drawn_89 : decode cX8_drawn 89 = .ok (.lrem, 1) := by decide +kernel
theorem dX8_drawn_90 : decode cX8_drawn 90 = .ok (.lconst 0, 1) := by decide +kernel
theorem dX8_drawn_91 : decode cX8_drawn 91 = .ok (.lcmp, 1) := by decide +kernel
theorem dX8_drawn_92 : decode cX8_drawn 92 = .ok (.ifCond .ne 27, 3) := by decide +kernel
theorem dX8_drawn_95 : decode cX8_drawn 95 = .ok (.aload_n 0, 1) := by decide +kernel
theorem dX8_drawn_96 : decode cX8_drawn 96 = .ok (.getfield 25, 3) := by decide +kernel
theorem dX8_drawn_99 : decode cX8_drawn 99 = .ok (.bipush 41, 2) := by decide +kernel
theorem dX8_drawn_101 : decode cX8_drawn 101 = .ok (.iconst 3, 1) := by decide +kernel
theorem dX8_drawn_102 : decode cX8_drawn 102 = .ok (.lload 4, 2) := by decide +kernel
theorem dX8_drawn_104 : decode cX8_drawn 104 = .ok (.aload_n 0, 1) := by decide +kernel
theorem dX8_drawn_105 : decode cX8_drawn 105 = .ok (.getfield 25, 3) := by decide +kernel
theorem dX8_drawn_108 : decode cX8_drawn 108 = .ok (.iconst 4, 1) := by decide +kernel
theorem dX8_drawn_109 : decode cX8_drawn 109 = .ok (.iaload, 1) := by decide +kernel
theorem dX8_drawn_110 : decode cX8_drawn 110 = .ok (.i2l, 1) := by decide +kernel
theorem dX8_drawn_111 : decode cX8_drawn 111 = .ok (.lrem, 1) := by decide +kernel
theorem dX8_drawn_112 : decode cX8_drawn 112 = .ok (.l2i, 1) := by decide +kernel
theorem dX8_drawn_113 : decode cX8_drawn 113 = .ok (.imul, 1) := by decide +kernel
theorem dX8_drawn_114 : decode cX8_drawn 114 = .ok (.iadd, 1) := by decide +kernel
theorem dX8_drawn_115 : decode cX8_drawn 115 = .ok (.iconst 2, 1) := by decide +kernel
theorem dX8_drawn_116 : decode cX8_drawn 116 = .ok (.iadd, 1) := by decide +kernel
theorem dX8_drawn_117 : decode cX8_drawn 117 = .ok (.iconst 2, 1) := by decide +kernel
theorem dX8_drawn_118 : decode cX8_drawn 118 = .ok (.iastore, 1) := by decide +kernel
theorem dX8_drawn_119 : decode cX8_drawn 119 = .ok (.lload 4, 2) := by decide +kernel
theorem dX8_drawn_121 : decode cX8_drawn 121 = .ok (.ldc2_w 203, 3) := by decide +kernel
theorem dX8_drawn_124 : decode cX8_drawn 124 = .ok (.lrem, 1) := by decide +kernel
theorem dX8_drawn_125 : decode cX8_drawn 125 = .ok (.lconst 0, 1) := by decide +kernel
theorem dX8_drawn_126 : decode cX8_drawn 126 = .ok (.lcmp, 1) := by decide +kernel
theorem dX8_drawn_127 : decode cX8_drawn 127 = .ok (.ifCond .ne 40, 3) := by decide +kernel
theorem dX8_drawn_130 : decode cX8_drawn 130 = .ok (.lload 4, 2) := by decide +kernel
theorem dX8_drawn_132 : decode cX8_drawn 132 = .ok (.aload_n 0, 1) := by decide +kernel
theorem dX8_drawn_133 : decode cX8_drawn 133 = .ok (.getfield 25, 3) := by decide +kernel
theorem dX8_drawn_136 : decode cX8_drawn 136 = .ok (.iconst 3, 1) := by decide +kernel
theorem dX8_drawn_137 : decode cX8_drawn 137 = .ok (.iaload, 1) := by decide +kernel
theorem dX8_drawn_138 : decode cX8_drawn 138 = .ok (.i2l, 1) := by decide +kernel
theorem dX8_drawn_139 : decode cX8_drawn 139 = .ok (.lrem, 1) := by decide +kernel
theorem dX8_drawn_140 : decode cX8_drawn 140 = .ok (.l2i, 1) := by decide +kernel
theorem dX8_drawn_141 : decode cX8_drawn 141 = .ok (.istore 8, 2) := by decide +kernel
theorem dX8_drawn_143 : decode cX8_drawn 143 = .ok (.aload_n 0, 1) := by decide +kernel
theorem dX8_drawn_144 : decode cX8_drawn 144 = .ok (.getfield 25, 3) := by decide +kernel
theorem dX8_drawn_147 : decode cX8_drawn 147 = .ok (.bipush 6, 2) := by decide +kernel
theorem dX8_drawn_149 : decode cX8_drawn 149 = .ok (.iconst 5, 1) := by decide +kernel
theorem dX8_drawn_150 : decode cX8_drawn 150 = .ok (.iload 8, 2) := by decide +kernel
theorem dX8_drawn_152 : decode cX8_drawn 152 = .ok (.imul, 1) := by decide +kernel
theorem dX8_drawn_153 : decode cX8_drawn 153 = .ok (.iadd, 1) := by decide +kernel
theorem dX8_drawn_154 : decode cX8_drawn 154 = .ok (.iconst 4, 1) := by decide +kernel
theorem dX8_drawn_155 : decode cX8_drawn 155 = .ok (.iadd, 1) := by decide +kernel
theorem dX8_drawn_156 : decode cX8_drawn 156 = .ok (.aload_n 0, 1) := by decide +kernel
theorem dX8_drawn_157 : decode cX8_drawn 157 = .ok (.getfield 25, 3) := by decide +kernel
theorem dX8_drawn_160 : decode cX8_drawn 160 = .ok (.iload 8, 2) := by decide +kernel
theorem dX8_drawn_162 : decode cX8_drawn 162 = .ok (.iconst 1, 1) := by decide +kernel
theorem dX8_drawn_163 : decode cX8_drawn 163 = .ok (.invokestatic 155, 3) := by decide +kernel
theorem dX8_drawn_166 : decode cX8_drawn 166 = .ok (.iastore, 1) := by decide +kernel
theorem dX8_drawn_167 : decode cX8_drawn 167 = .ok (.aload_n 0, 1) := by decide +kernel
theorem dX8_drawn_168 : decode cX8_drawn 168 = .ok (.getfield 25, 3) := by decide +kernel
theorem dX8_drawn_171 : decode cX8_drawn 171 = .ok (.invokestatic 246, 3) := by decide +kernel
theorem dX8_drawn_174 : decode cX8_drawn 174 = .ok (.istore 8, 2) := by decide +kernel
theorem dX8_drawn_176 : decode cX8_drawn 176 = .ok (.aload_n 0, 1) := by decide +kernel
theorem dX8_drawn_177 : decode cX8_drawn 177 = .ok (.aload_n 0, 1) := by decide +kernel
theorem dX8_drawn_178 : decode cX8_drawn 178 = .ok (.getfield 25, 3) := by decide +kernel
theorem dX8_drawn_181 : decode cX8_drawn 181 = .ok (.invokevirtual 169, 3) := by decide +kernel
theorem dX8_drawn_184 : decode cX8_drawn 184 = .ok (.istore 9, 2) := by decide +kernel
theorem dX8_drawn_186 : decode cX8_drawn 186 = .ok (.iload 6, 2) := by decide +kernel
theorem dX8_drawn_188 : decode cX8_drawn 188 = .ok (.aload_n 0, 1) := by decide +kernel
theorem dX8_drawn_189 : decode cX8_drawn 189 = .ok (.getfield 25, 3) := by decide +kernel
theorem dX8_drawn_192 : decode cX8_drawn 192 = .ok (.invokestatic 246, 3) := by decide +kernel
theorem dX8_drawn_195 : decode cX8_drawn 195 = .ok (.iload 8, 2) := by decide +kernel
theorem dX8_drawn_197 : decode cX8_drawn 197 = .ok (.isub, 1) := by decide +kernel
theorem dX8_drawn_198 : decode cX8_drawn 198 = .ok (.iadd, 1) := by decide +kernel
theorem dX8_drawn_199 : decode cX8_drawn 199 = .ok (.istore 6, 2) := by decide +kernel
theorem dX8_drawn_201 : decode cX8_drawn 201 = .ok (.iinc 7 1, 3) := by decide +kernel
theorem dX8_drawn_204 : decode cX8_drawn 204 = .ok (.goto (-138), 3) := by decide +kernel
theorem dX8_drawn_207 : decode cX8_drawn 207 = .ok (.iload_n 3, 1) := by decide +kernel
theorem dX8_drawn_208 : decode cX8_drawn 208 = .ok (.ifCond .ne 13, 3) := by decide +kernel
theorem dX8_drawn_211 : decode cX8_drawn 211 = .ok (.aload_n 0, 1) := by decide +kernel
theorem dX8_drawn_212 : decode cX8_drawn 212 = .ok (.getfield 25, 3) := by decide +kernel
theorem dX8_drawn_215 : decode cX8_drawn 215 = .ok (.invokestatic 249, 3) := by decide +kernel
theorem dX8_drawn_218 : decode cX8_drawn 218 = .ok (.goto 5, 3) := by decide +kernel
theorem dX8_drawn_221 : decode cX8_drawn 221 = .ok (.iload 6, 2) := by decide +kernel
theorem dX8_drawn_223 : decode cX8_drawn 223 = .ok (.ireturn, 1) := by decide +kernel
theorem dX8_image_0 : decode cX8_image 0 = .ok (.aload_n 0, 1) := by decide +kernel
theorem dX8_image_1 : decode cX8_image 1 = .ok (.iconst 0, 1) := by decide +kernel
theorem dX8_image_2 : decode cX8_image 2 = .ok (.putfield 50, 3) := by decide +kernel
theorem dX8_image_5 : decode cX8_image 5 = .ok (.iload_n 1, 1) := by decide +kernel
theorem dX8_image_6 : decode cX8_image 6 = .ok (.i2l, 1) := by decide +kernel
theorem dX8_image_7 : decode cX8_image 7 = .ok (.lconst 0, 1) := by decide +kernel
theorem dX8_image_8 : decode cX8_image 8 = .ok (.lconst 1, 1) := by decide +kernel
theorem dX8_image_9 : decode cX8_image 9 = .ok (.invokestatic 60, 3) := by decide +kernel
theorem dX8_image_12 : decode cX8_image 12 = .ok (.ifCond .ne 6, 3) := by decide +kernel
theorem dX8_image_15 : decode cX8_image 15 = .ok (.ldc 70, 2) := by decide +kernel
theorem dX8_image_17 : decode cX8_image 17 = .ok (.ireturn, 1) := by decide +kernel
theorem dX8_image_18 : decode cX8_image 18 = .ok (.aload_n 0, 1) := by decide +kernel
theorem dX8_image_19 : decode cX8_image 19 = .ok (.invokevirtual 184, 3) := by decide +kernel
theorem dX8_image_22 : decode cX8_image 22 = .ok (.ifCond .ne 6, 3) := by decide +kernel
theorem dX8_image_25 : decode cX8_image 25 = .ok (.ldc 187, 2) := by decide +kernel
theorem dX8_image_27 : decode cX8_image 27 = .ok (.ireturn, 1) := by decide +kernel
theorem dX8_image_28 : decode cX8_image 28 = .ok (.iconst 0, 1) := by decide +kernel
theorem dX8_image_29 : decode cX8_image 29 = .ok (.istore_n 2, 1) := by decide +kernel
theorem dX8_image_30 : decode cX8_image 30 = .ok (.iload_n 2, 1) := by decide +kernel
theorem dX8_image_31 : decode cX8_image 31 = .ok (.bipush 53, 2) := by decide +kernel
theorem dX8_image_33 : decode cX8_image 33 = .ok (.if_icmp .ge 26, 3) := by decide +kernel
theorem dX8_image_36 : decode cX8_image 36 = .ok (.aload_n 0, 1) := by decide +kernel
theorem dX8_image_37 : decode cX8_image 37 = .ok (.getfield 44, 3) := by decide +kernel
theorem dX8_image_40 : decode cX8_image 40 = .ok (.bipush 53, 2) := by decide +kernel
theorem dX8_image_42 : decode cX8_image 42 = .ok (.iload_n 1, 1) := by decide +kernel
theorem dX8_image_43 : decode cX8_image 43 = .ok (.imul, 1) := by decide +kernel
theorem dX8_image_44 : decode cX8_image 44 = .ok (.iload_n 2, 1) := by decide +kernel
theorem dX8_image_45 : decode cX8_image 45 = .ok (.iadd, 1) := by decide +kernel
theorem dX8_image_46 : decode cX8_image 46 = .ok (.aload_n 0, 1) := by decide +kernel
theorem dX8_image_47 : decode cX8_image 47 = .ok (.getfield 19, 3) := by decide +kernel
theorem dX8_image_50 : decode cX8_image 50 = .ok (.iload_n 2, 1) := by decide +kernel
theorem dX8_image_51 : decode cX8_image 51 = .ok (.iaload, 1) := by decide +kernel
theorem dX8_image_52 : decode cX8_image 52 = .ok (.iastore, 1) := by decide +kernel
theorem dX8_image_53 : decode cX8_image 53 = .ok (.iinc 2 1, 3) := by decide +kernel
theorem dX8_image_56 : decode cX8_image 56 = .ok (.goto (-26), 3) := by decide +kernel
theorem dX8_image_59 : decode cX8_image 59 = .ok (.aload_n 0, 1) := by decide +kernel
theorem dX8_image_60 : decode cX8_image 60 = .ok (.getfield 40, 3) := by decide +kernel
theorem dX8_image_63 : decode cX8_image 63 = .ok (.iload_n 1, 1) := by decide +kernel
theorem dX8_image_64 : decode cX8_image 64 = .ok (.iconst 1, 1) := by decide +kernel
theorem dX8_image_65 : decode cX8_image 65 = .ok (.bastore, 1) := by decide +kernel
theorem dX8_image_66 : decode cX8_image 66 = .ok (.iconst 1, 1) := by decide +kernel
theorem dX8_image_67 : decode cX8_image 67 = .ok (.ireturn, 1) := by decide +kernel
theorem dX8_restore_0 : decode cX8_restore 0 = .ok (.aload_n 0, 1) := by decide +kernel
theorem dX8_restore_1 : decode cX8_restore 1 = .ok (.iconst 0, 1) := by decide +kernel
theorem dX8_restore_2 : decode cX8_restore 2 = .ok (.putfield 50, 3) := by decide +kernel
theorem dX8_restore_5 : decode cX8_restore 5 = .ok (.iload_n 1, 1) := by decide +kernel
theorem dX8_restore_6 : decode cX8_restore 6 = .ok (.i2l, 1) := by decide +kernel
theorem dX8_restore_7 : decode cX8_restore 7 = .ok (.lconst 0, 1) := by decide +kernel
theorem dX8_restore_8 : decode cX8_restore 8 = .ok (.lconst 1, 1) := by decide +kernel
theorem dX8_restore_9 : decode cX8_restore 9 = .ok (.invokestatic 60, 3) := by decide +kernel
theorem dX8_restore_12 : decode cX8_restore 12 = .ok (.ifCond .ne 6, 3) := by decide +kernel
theorem dX8_restore_15 : decode cX8_restore 15 = .ok (.ldc 70, 2) := by decide +kernel
theorem dX8_restore_17 : decode cX8_restore 17 = .ok (.ireturn, 1) := by decide +kernel
theorem dX8_restore_18 : decode cX8_restore 18 = .ok (.aload_n 0, 1) := by decide +kernel
theorem dX8_restore_19 : decode cX8_restore 19 = .ok (.getfield 40, 3) := by decide +kernel
theorem dX8_restore_22 : decode cX8_restore 22 = .ok (.iload_n 1, 1) := by decide +kernel
theorem dX8_restore_23 : decode cX8_restore 23 = .ok (.baload, 1) := by decide +kernel
theorem dX8_restore_24 : decode cX8_restore 24 = .ok (.ifCond .ne 6, 3) := by decide +kernel
theorem dX8_restore_27 : decode cX8_restore 27 = .ok (.ldc 187, 2) := by decide +kernel
theorem dX8_restore_29 : decode cX8_restore 29 = .ok (.ireturn, 1) := by decide +kernel
theorem dX8_restore_30 : decode cX8_restore 30 = .ok (.iconst 0, 1) := by decide +kernel
theorem dX8_restore_31 : decode cX8_restore 31 = .ok (.istore_n 2, 1) := by decide +kernel
theorem dX8_restore_32 : decode cX8_restore 32 = .ok (.iload_n 2, 1) := by decide +kernel
theorem dX8_restore_33 : decode cX8_restore 33 = .ok (.bipush 53, 2) := by decide +kernel
theorem dX8_restore_35 : decode cX8_restore 35 = .ok (.if_icmp .ge 26, 3) := by decide +kernel
theorem dX8_restore_38 : decode cX8_restore 38 = .ok (.aload_n 0, 1) := by decide +kernel
theorem dX8_restore_39 : decode cX8_restore 39 = .ok (.getfield 19, 3) := by decide +kernel
theorem dX8_restore_42 : decode cX8_restore 42 = .ok (.iload_n 2, 1) := by decide +kernel
theorem dX8_restore_43 : decode cX8_restore 43 = .ok (.aload_n 0, 1) := by decide +kernel
theorem dX8_restore_44 : decode cX8_restore 44 = .ok (.getfield 44, 3) := by decide +kernel
theorem dX8_restore_47 : decode cX8_restore 47 = .ok (.bipush 53, 2) := by decide +kernel
theorem dX8_restore_49 : decode cX8_restore 49 = .ok (.iload_n 1, 1) := by decide +kernel
theorem dX8_restore_50 : decode cX8_restore 50 = .ok (.imul, 1) := by decide +kernel
theorem dX8_restore_51 : decode cX8_restore 51 = .ok (.iload_n 2, 1) := by decide +kernel
theorem dX8_restore_52 : decode cX8_restore 52 = .ok (.iadd, 1) := by decide +kernel
theorem dX8_restore_53 : decode cX8_restore 53 = .ok (.iaload, 1) := by decide +kernel
theorem dX8_restore_54 : decode cX8_restore 54 = .ok (.iastore, 1) := by decide +kernel
theorem dX8_restore_55 : decode cX8_restore 55 = .ok (.iinc 2 1, 3) := by decide +kernel
theorem dX8_restore_58 : decode cX8_restore 58 = .ok (.goto (-26), 3) := by decide +kernel
theorem dX8_restore_61 : decode cX8_restore 61 = .ok (.aload_n 0, 1) := by decide +kernel
theorem dX8_restore_62 : decode cX8_restore 62 = .ok (.iconst 0, 1) := by decide +kernel
theorem dX8_restore_63 : decode cX8_restore 63 = .ok (.putfield 152, 3) := by decide +kernel
theorem dX8_restore_66 : decode cX8_restore 66 = .ok (.iconst 1, 1) := by decide +kernel
theorem dX8_restore_67 : decode cX8_restore 67 = .ok (.ireturn, 1) := by decide +kernel
theorem dX8_isOf_0 : decode cX8_isOf 0 = .ok (.iload_n 1, 1) := by decide +kernel
theorem dX8_isOf_1 : decode cX8_isOf 1 = .ok (.ifCond .eq 28, 3) := by decide +kernel
theorem dX8_isOf_4 : decode cX8_isOf 4 = .ok (.iload_n 0, 1) := by decide +kernel
theorem dX8_isOf_5 : decode cX8_isOf 5 = .ok (.iload_n 1, 1) := by decide +kernel
theorem dX8_isOf_6 : decode cX8_isOf 6 = .ok (.if_icmp .eq 23, 3) := by decide +kernel
theorem dX8_isOf_9 : decode cX8_isOf 9 = .ok (.iload_n 1, 1) := by decide +kernel
theorem dX8_isOf_10 : decode cX8_isOf 10 = .ok (.iconst 1, 1) := by decide +kernel
theorem dX8_isOf_11 : decode cX8_isOf 11 = .ok (.if_icmp .ne 8, 3) := by decide +kernel
theorem dX8_isOf_14 : decode cX8_isOf 14 = .ok (.iload_n 0, 1) := by decide +kernel
theorem dX8_isOf_15 : decode cX8_isOf 15 = .ok (.iconst 4, 1) := by decide +kernel
theorem dX8_isOf_16 : decode cX8_isOf 16 = .ok (.if_icmp .lt 13, 3) := by decide +kernel
theorem dX8_isOf_19 : decode cX8_isOf 19 = .ok (.iload_n 1, 1) := by decide +kernel
theorem dX8_isOf_20 : decode cX8_isOf 20 = .ok (.iconst 4, 1) := by decide +kernel
theorem dX8_isOf_21 : decode cX8_isOf 21 = .ok (.if_icmp .ne 12, 3) := by decide +kernel
theorem dX8_isOf_24 : decode cX8_isOf 24 = .ok (.iload_n 0, 1) := by decide +kernel
theorem dX8_isOf_25 : decode cX8_isOf 25 = .ok (.iconst 5, 1) := by decide +kernel
theorem dX8_isOf_26 : decode cX8_isOf 26 = .ok (.if_icmp .ne 7, 3) := by decide +kernel
theorem dX8_isOf_29 : decode cX8_isOf 29 = .ok (.iconst 1, 1) := by decide +kernel
theorem dX8_isOf_30 : decode cX8_isOf 30 = .ok (.goto 4, 3) := by decide +kernel
theorem dX8_isOf_33 : decode cX8_isOf 33 = .ok (.iconst 0, 1) := by decide +kernel
theorem dX8_isOf_34 : decode cX8_isOf 34 = .ok (.ireturn, 1) := by decide +kernel
theorem dX8_kind_0 : decode cX8_kind 0 = .ok (.aload_n 0, 1) := by decide +kernel
theorem dX8_kind_1 : decode cX8_kind 1 = .ok (.iconst 0, 1) := by decide +kernel
theorem dX8_kind_2 : decode cX8_kind 2 = .ok (.putfield 50, 3) := by decide +kernel
theorem dX8_kind_5 : decode cX8_kind 5 = .ok (.aload_n 0, 1) := by decide +kernel
theorem dX8_kind_6 : decode cX8_kind 6 = .ok (.iload_n 1, 1) := by decide +kernel
theorem dX8_kind_7 : decode cX8_kind 7 = .ok (.invokevirtual 193, 3) := by decide +kernel
theorem dX8_kind_10 : decode cX8_kind 10 = .ok (.ifCond .eq 15, 3) := by decide +kernel
theorem dX8_kind_13 : decode cX8_kind 13 = .ok (.aload_n 0, 1) := by decide +kernel
theorem dX8_kind_14 : decode cX8_kind 14 = .ok (.getfield 19, 3) := by decide +kernel
theorem dX8_kind_17 : decode cX8_kind 17 = .ok (.iload_n 1, 1) := by decide +kernel
theorem dX8_kind_18 : decode cX8_kind 18 = .ok (.iconst 0, 1) := by decide +kernel
theorem dX8_kind_19 : decode cX8_kind 19 = .ok (.invokestatic 155, 3) := by decide +kernel
theorem dX8_kind_22 : decode cX8_kind 22 = .ok (.goto 5, 3) := by decide +kernel
theorem dX8_kind_25 : decode cX8_kind 25 = .ok (.ldc 70, 2) := by decide +kernel
theorem dX8_kind_27 : decode cX8_kind 27 = .ok (.ireturn, 1) := by decide +kernel
theorem dX8_as_0 : decode cX8_as 0 = .ok (.aload_n 0, 1) := by decide +kernel
theorem dX8_as_1 : decode cX8_as 1 = .ok (.iconst 0, 1) := by decide +kernel
theorem dX8_as_2 : decode cX8_as 2 = .ok (.putfield 50, 3) := by decide +kernel
theorem dX8_as_5 : decode cX8_as 5 = .ok (.aload_n 0, 1) := by decide +kernel
theorem dX8_as_6 : decode cX8_as 6 = .ok (.iload_n 1, 1) := by decide +kernel
theorem dX8_as_7 : decode cX8_as 7 = .ok (.invokevirtual 193, 3) := by decide +kernel
theorem dX8_as_10 : decode cX8_as 10 = .ok (.ifCond .eq 15, 3) := by decide +kernel
theorem dX8_as_13 : decode cX8_as 13 = .ok (.iload_n 2, 1) := by decide +kernel
theorem dX8_as_14 : decode cX8_as 14 = .ok (.i2l, 1) := by decide +kernel
theorem dX8_as_15 : decode cX8_as 15 = .ok (.lconst 0, 1) := by decide +kernel
theorem dX8_as_16 : decode cX8_as 16 = .ok (.ldc2_w 203, 3) := by decide +kernel
theorem dX8_as_19 : decode cX8_as 19 = .ok (.invokestatic 60, 3) := by decide +kernel
theorem dX8_as_22 : decode cX8_as 22 = .ok (.ifCond .ne 6, 3) := by decide +kernel
theorem dX8_as_25 : decode cX8_as 25 = .ok (.ldc 70, 2) := by decide +kernel
theorem dX8_as_27 : decode cX8_as 27 = .ok (.ireturn, 1) := by decide +kernel
theorem dX8_as_28 : decode cX8_as 28 = .ok (.aload_n 0, 1) := by decide +kernel
theorem dX8_as_29 : decode cX8_as 29 = .ok (.iconst 0, 1) := by decide +kernel
theorem dX8_as_30 : decode cX8_as 30 = .ok (.putfield 54, 3) := by decide +kernel
theorem dX8_as_33 : decode cX8_as 33 = .ok (.aload_n 0, 1) := by decide +kernel
theorem dX8_as_34 : decode cX8_as 34 = .ok (.getfield 19, 3) := by decide +kernel
theorem dX8_as_37 : decode cX8_as 37 = .ok (.iload_n 1, 1) := by decide +kernel
theorem dX8_as_38 : decode cX8_as 38 = .ok (.iconst 0, 1) := by decide +kernel
theorem dX8_as_39 : decode cX8_as 39 = .ok (.invokestatic 155, 3) := by decide +kernel
theorem dX8_as_42 : decode cX8_as 42 = .ok (.iload_n 2, 1) := by decide +kernel
theorem dX8_as_43 : decode cX8_as 43 = .ok (.invokestatic 252, 3) := by decide +kernel
theorem dX8_as_46 : decode cX8_as 46 = .ok (.ifCond .eq 7, 3) := by decide +kernel
theorem dX8_as_49 : decode cX8_as 49 = .ok (.iload_n 1, 1) := by decide +kernel
theorem dX8_as_50 : decode cX8_as 50 = .ok (.goto 8, 3) := by decide +kernel
theorem dX8_as_53 : decode cX8_as 53 = .ok (.aload_n 0, 1) := by decide +kernel
theorem dX8_as_54 : decode cX8_as 54 = .ok (.iconst 3, 1) := by decide +kernel
theorem dX8_as_55 : decode cX8_as 55 = .ok (.invokevirtual 71, 3) := by decide +kernel
theorem dX8_as_58 : decode cX8_as 58 = .ok (.ireturn, 1) := by decide +kernel
theorem dX8_began_0 : decode cX8_began 0 = .ok (.aload_n 0, 1) := by decide +kernel
theorem dX8_began_1 : decode cX8_began 1 = .ok (.getfield 255, 3) := by decide +kernel
theorem dX8_began_4 : decode cX8_began 4 = .ok (.bipush 16, 2) := by decide +kernel
theorem dX8_began_6 : decode cX8_began 6 = .ok (.if_icmp .ge 23, 3) := by decide +kernel
theorem dX8_began_9 : decode cX8_began 9 = .ok (.aload_n 0, 1) := by decide +kernel
theorem dX8_began_10 : decode cX8_began 10 = .ok (.getfield 47, 3) := by decide +kernel
theorem dX8_began_13 : decode cX8_began 13 = .ok (.aload_n 0, 1) := by decide +kernel
theorem dX8_began_14 : decode cX8_began 14 = .ok (.getfield 255, 3) := by decide +kernel
theorem dX8_began_17 : decode cX8_began 17 = .ok (.iload_n 1, 1) := by decide +kernel
theorem dX8_began_18 : decode cX8_began 18 = .ok (.iastore, 1) := by decide +kernel
theorem dX8_began_19 : decode cX8_began 19 = .ok (.aload_n 0, 1) := by decide +kernel
theorem dX8_began_20 : decode cX8_began 20 = .ok (.dup, 1) := by decide +kernel
theorem dX8_began_21 : decode cX8_began 21 = .ok (.getfield 255, 3) := by decide +kernel
theorem dX8_began_24 : decode cX8_began 24 = .ok (.iconst 1, 1) := by decide +kernel
theorem dX8_began_25 : decode cX8_began 25 = .ok (.iadd, 1) := by decide +kernel
theorem dX8_began_26 : decode cX8_began 26 = .ok (.putfield 255, 3) := by decide +kernel
theorem dX8_began_29 : decode cX8_began 29 = .ok (.return_, 1) := by decide +kernel
theorem dX8_plainSize_0 : decode cX8_plainSize 0 = .ok (.aload_n 0, 1) := by decide +kernel
theorem dX8_plainSize_1 : decode cX8_plainSize 1 = .ok (.bipush 10, 2) := by decide +kernel
theorem dX8_plainSize_3 : decode cX8_plainSize 3 = .ok (.invokevirtual 258, 3) := by decide +kernel
theorem dX8_plainSize_6 : decode cX8_plainSize 6 = .ok (.aload_n 0, 1) := by decide +kernel
theorem dX8_plainSize_7 : decode cX8_plainSize 7 = .ok (.getfield 19, 3) := by decide +kernel
theorem dX8_plainSize_10 : decode cX8_plainSize 10 = .ok (.iload_n 1, 1) := by decide +kernel
theorem dX8_plainSize_11 : decode cX8_plainSize 11 = .ok (.iconst 1, 1) := by decide +kernel
theorem dX8_plainSize_12 : decode cX8_plainSize 12 = .ok (.invokestatic 155, 3) := by decide +kernel
theorem dX8_plainSize_15 : decode cX8_plainSize 15 = .ok (.ireturn, 1) := by decide +kernel
theorem dX8_bitterSize_0 : decode cX8_bitterSize 0 = .ok (.aload_n 0, 1) := by decide +kernel
theorem dX8_bitterSize_1 : decode cX8_bitterSize 1 = .ok (.getfield 19, 3) := by decide +kernel
theorem dX8_bitterSize_4 : decode cX8_bitterSize 4 = .ok (.iload_n 1, 1) := by decide +kernel
theorem dX8_bitterSize_5 : decode cX8_bitterSize 5 = .ok (.iconst 0, 1) := by decide +kernel
theorem dX8_bitterSize_6 : decode cX8_bitterSize 6 = .ok (.invokestatic 155, 3) := by decide +kernel
theorem dX8_bitterSize_9 : decode cX8_bitterSize 9 = .ok (.iconst 5, 1) := by decide +kernel
theorem dX8_bitterSize_10 : decode cX8_bitterSize 10 = .ok (.if_icmp .ne 7, 3) := by decide +kernel
theorem dX8_bitterSize_13 : decode cX8_bitterSize 13 = .ok (.iconst 1, 1) := by decide +kernel
theorem dX8_bitterSize_14 : decode cX8_bitterSize 14 = .ok (.goto 4, 3) := by decide +kernel
theorem dX8_bitterSize_17 : decode cX8_bitterSize 17 = .ok (.iconst 0, 1) := by decide +kernel
theorem dX8_bitterSize_18 : decode cX8_bitterSize 18 = .ok (.istore_n 2, 1) := by decide +kernel
theorem dX8_bitterSize_19 : decode cX8_bitterSize 19 = .ok (.iload_n 2, 1) := by decide +kernel
theorem dX8_bitterSize_20 : decode cX8_bitterSize 20 = .ok (.ifCond .eq 9, 3) := by decide +kernel
theorem dX8_bitterSize_23 : decode cX8_bitterSize 23 = .ok (.aload_n 0, 1) := by decide +kernel
theorem dX8_bitterSize_24 : decode cX8_bitterSize 24 = .ok (.bipush 14, 2) := by decide +kernel
theorem dX8_bitterSize_26 : decode cX8_bitterSize 26 = .ok (.invokevirtual 258, 3) := by decide +kernel
theorem dX8_bitterSize_29 : decode cX8_bitterSize 29 = .ok (.aload_n 0, 1) := by decide +kernel
theorem dX8_bitterSize_30 : decode cX8_bitterSize 30 = .ok (.bipush 13, 2) := by decide +kernel
theorem dX8_bitterSize_32 : decode cX8_bitterSize 32 = .ok (.invokevirtual 258, 3) := by decide +kernel
theorem dX8_bitterSize_35 : decode cX8_bitterSize 35 = .ok (.aload_n 0, 1) := by decide +kernel
theorem dX8_bitterSize_36 : decode cX8_bitterSize 36 = .ok (.iload_n 1, 1) := by decide +kernel
theorem dX8_bitterSize_37 : decode cX8_bitterSize 37 = .ok (.invokevirtual 261, 3) := by decide +kernel
theorem dX8_bitterSize_40 : decode cX8_bitterSize 40 = .ok (.bipush 100, 2) := by decide +kernel
theorem dX8_bitterSize_42 : decode cX8_bitterSize 42 = .ok (.isub, 1) := by decide +kernel
theorem dX8_bitterSize_43 : decode cX8_bitterSize 43 = .ok (.istore_n 3, 1) := by decide +kernel
theorem dX8_bitterSize_44 : decode cX8_bitterSize 44 = .ok (.iload_n 2, 1) := by decide +kernel
theorem dX8_bitterSize_45 : decode cX8_bitterSize 45 = .ok (.ifCond .eq 9, 3) := by decide +kernel
theorem dX8_bitterSize_48 : decode cX8_bitterSize 48 = .ok (.iconst 2, 1) := by decide +kernel
theorem dX8_bitterSize_49 : decode cX8_bitterSize 49 = .ok (.iload_n 3, 1) := by decide +kernel
theorem dX8_bitterSize_50 : decode cX8_bitterSize 50 = .ok (.imul, 1) := by decide +kernel
theorem dX8_bitterSize_51 : decode cX8_bitterSize 51 = .ok (.goto 4, 3) := by decide +kernel
theorem dX8_bitterSize_54 : decode cX8_bitterSize 54 = .ok (.iload_n 3, 1) := by decide +kernel
theorem dX8_bitterSize_55 : decode cX8_bitterSize 55 = .ok (.ireturn, 1) := by decide +kernel
theorem dX8_markOf_0 : decode cX8_markOf 0 = .ok (.aload_n 0, 1) := by decide +kernel
theorem dX8_markOf_1 : decode cX8_markOf 1 = .ok (.getfield 19, 3) := by decide +kernel
theorem dX8_markOf_4 : decode cX8_markOf 4 = .ok (.iload_n 1, 1) := by decide +kernel
theorem dX8_markOf_5 : decode cX8_markOf 5 = .ok (.iconst 0, 1) := by decide +kernel
theorem dX8_markOf_6 : decode cX8_markOf 6 = .ok (.invokestatic 155, 3) := by decide +kernel
theorem dX8_markOf_9 : decode cX8_markOf 9 = .ok (.istore_n 2, 1) := by decide +kernel
theorem dX8_markOf_10 : decode cX8_markOf 10 = .ok (.iload_n 2, 1) := by decide +kernel
theorem dX8_markOf_11 : decode cX8_markOf 11 = .ok (.iconst 4, 1) := by decide +kernel
theorem dX8_markOf_12 : decode cX8_markOf 12 = .ok (.if_icmp .lt 23, 3) := by decide +kernel
theorem dX8_markOf_15 : decode cX8_markOf 15 = .ok (.aload_n 0, 1) := by decide +kernel
theorem dX8_markOf_16 : decode cX8_markOf 16 = .ok (.bipush 23, 2) := by decide +kernel
theorem dX8_markOf_18 : decode cX8_markOf 18 = .ok (.invokevirtual 258, 3) := by decide +kernel
theorem dX8_markOf_21 : decode cX8_markOf 21 = .ok (.aload_n 0, 1) := by decide +kernel
theorem dX8_markOf_22 : decode cX8_markOf 22 = .ok (.bipush 20, 2) := by decide +kernel
theorem dX8_markOf_24 : decode cX8_markOf 24 = .ok (.invokevirtual 258, 3) := by decide +kernel
theorem dX8_markOf_27 : decode cX8_markOf 27 = .ok (.iload_n 1, 1) := by decide +kernel
theorem dX8_markOf_28 : decode cX8_markOf 28 = .ok (.aload_n 0, 1) := by decide +kernel
theorem dX8_markOf_29 : decode cX8_markOf 29 = .ok (.iload_n 1, 1) := by decide +kernel
theorem dX8_markOf_30 : decode cX8_markOf 30 = .ok (.invokevirtual 264, 3) := by decide +kernel
theorem dX8_markOf_33 : decode cX8_markOf 33 = .ok (.isub, 1) := by decide +kernel
theorem dX8_markOf_34 : decode cX8_markOf 34 = .ok (.ireturn, 1) := by decide +kernel
theorem dX8_markOf_35 : decode cX8_markOf 35 = .ok (.iload_n 2, 1) := by decide +kernel
theorem dX8_markOf_36 : decode cX8_markOf 36 = .ok (.iconst 1, 1) := by decide +kernel
theorem dX8_markOf_37 : decode cX8_markOf 37 = .ok (.if_icmp .eq 19, 3) := by decide +kernel
theorem dX8_markOf_40 : decode cX8_markOf 40 = .ok (.aload_n 0, 1) := by decide +kernel
theorem dX8_markOf_41 : decode cX8_markOf 41 = .ok (.iload_n 2, 1) := by decide +kernel
theorem dX8_markOf_42 : decode cX8_markOf 42 = .ok (.iconst 3, 1) := by decide +kernel
theorem dX8_markOf_43 : decode cX8_markOf 43 = .ok (.if_icmp .ne 8, 3) := by decide +kernel
theorem dX8_markOf_46 : decode cX8_markOf 46 = .ok (.bipush 22, 2) := by decide +kernel
theorem dX8_markOf_48 : decode cX8_markOf 48 = .ok (.goto 5, 3) := by decide +kernel
theorem dX8_markOf_51 : decode cX8_markOf 51 = .ok (.bipush 24, 2) := by decide +kernel
theorem dX8_markOf_53 : decode cX8_markOf 53 = .ok (.invokevirtual 258, 3) := by decide +kernel
theorem dX8_markOf_56 : decode cX8_markOf 56 = .ok (.aload_n 0, 1) := by decide +kernel
theorem dX8_markOf_57 : decode cX8_markOf 57 = .ok (.bipush 21, 2) := by decide +kernel
theorem dX8_markOf_59 : decode cX8_markOf 59 = .ok (.invokevirtual 258, 3) := by decide +kernel
theorem dX8_markOf_62 : decode cX8_markOf 62 = .ok (.aload_n 0, 1) := by decide +kernel
theorem dX8_markOf_63 : decode cX8_markOf 63 = .ok (.bipush 20, 2) := by decide +kernel
theorem dX8_markOf_65 : decode cX8_markOf 65 = .ok (.invokevirtual 258, 3) := by decide +kernel
theorem dX8_markOf_68 : decode cX8_markOf 68 = .ok (.iload_n 1, 1) := by decide +kernel
theorem dX8_markOf_69 : decode cX8_markOf 69 = .ok (.aload_n 0, 1) := by decide +kernel
theorem dX8_markOf_70 : decode cX8_markOf 70 = .ok (.getfield 19, 3) := by decide +kernel
theorem dX8_markOf_73 : decode cX8_markOf 73 = .ok (.iload_n 1, 1) := by decide +kernel
theorem dX8_markOf_74 : decode cX8_markOf 74 = .ok (.iconst 4, 1) := by decide +kernel
theorem dX8_markOf_75 : decode cX8_markOf 75 = .ok (.invokestatic 155, 3) := by decide +kernel
theorem dX8_markOf_78 : decode cX8_markOf 78 = .ok (.iadd, 1) := by decide +kernel
theorem dX8_markOf_79 : decode cX8_markOf 79 = .ok (.istore_n 3, 1) := by decide +kernel
theorem dX8_markOf_80 : decode cX8_markOf 80 = .ok (.iload_n 2, 1) := by decide +kernel
theorem dX8_markOf_81 : decode cX8_markOf 81 = .ok (.iconst 1, 1) := by decide +kernel
theorem dX8_markOf_82 : decode cX8_markOf 82 = .ok (.if_icmp .ne 7, 3) := by decide +kernel
theorem dX8_markOf_85 : decode cX8_markOf 85 = .ok (.iload_n 3, 1) := by decide +kernel
theorem dX8_markOf_86 : decode cX8_markOf 86 = .ok (.goto 19, 3) := by decide +kernel
theorem dX8_markOf_89 : decode cX8_markOf 89 = .ok (.iload_n 2, 1) := by decide +kernel
theorem dX8_markOf_90 : decode cX8_markOf 90 = .ok (.iconst 3, 1) := by decide +kernel
theorem dX8_markOf_91 : decode cX8_markOf 91 = .ok (.if_icmp .ne 11, 3) := by decide +kernel
theorem dX8_markOf_94 : decode cX8_markOf 94 = .ok (.iload_n 3, 1) := by decide +kernel
theorem dX8_markOf_95 : decode cX8_markOf 95 = .ok (.sipush 1000, 3) := by decide +kernel
theorem dX8_markOf_98 : decode cX8_markOf 98 = .ok (.isub, 1) := by decide +kernel
theorem dX8_markOf_99 : decode cX8_markOf 99 = .ok (.goto 6, 3) := by decide +kernel
theorem dX8_markOf_102 : decode cX8_markOf 102 = .ok (.iconst 2, 1) := by decide +kernel
theorem dX8_markOf_103 : decode cX8_markOf 103 = .ok (.iload_n 3, 1) := by decide +kernel
theorem dX8_markOf_104 : decode cX8_markOf 104 = .ok (.imul, 1) := by decide +kernel
theorem dX8_markOf_105 : decode cX8_markOf 105 = .ok (.ireturn, 1) := by decide +kernel
theorem dX8_sizeOf_0 : decode cX8_sizeOf 0 = .ok (.aload_n 0, 1) := by decide +kernel
theorem dX8_sizeOf_1 : decode cX8_sizeOf 1 = .ok (.getfield 19, 3) := by decide +kernel
theorem dX8_sizeOf_4 : decode cX8_sizeOf 4 = .ok (.iload_n 1, 1) := by decide +kernel
theorem dX8_sizeOf_5 : decode cX8_sizeOf 5 = .ok (.iconst 0, 1) := by decide +kernel
theorem dX8_sizeOf_6 : decode cX8_sizeOf 6 = .ok (.invokestatic 155, 3) := by decide +kernel
theorem dX8_sizeOf_9 : decode cX8_sizeOf 9 = .ok (.istore_n 2, 1) := by decide +kernel
theorem dX8_sizeOf_10 : decode cX8_sizeOf 10 = .ok (.iload_n 2, 1) := by decide +kernel
theorem dX8_sizeOf_11 : decode cX8_sizeOf 11 = .ok (.iconst 4, 1) := by decide +kernel
theorem dX8_sizeOf_12 : decode cX8_sizeOf 12 = .ok (.if_icmp .lt 9, 3) := by decide +kernel
theorem dX8_sizeOf_15 : decode cX8_sizeOf 15 = .ok (.aload_n 0, 1) := by decide +kernel
theorem dX8_sizeOf_16 : decode cX8_sizeOf 16 = .ok (.iload_n 1, 1) := by decide +kernel
theorem dX8_sizeOf_17 : decode cX8_sizeOf 17 = .ok (.invokevirtual 264, 3) := by decide +kernel
theorem dX8_sizeOf_20 : decode cX8_sizeOf 20 = .ok (.ireturn, 1) := by decide +kernel
theorem dX8_sizeOf_21 : decode cX8_sizeOf 21 = .ok (.iload_n 2, 1) := by decide +kernel
theorem dX8_sizeOf_22 : decode cX8_sizeOf 22 = .ok (.iconst 2, 1) := by decide +kernel
theorem dX8_sizeOf_23 : decode cX8_sizeOf 23 = .ok (.if_icmp .ne 9, 3) := by decide +kernel
theorem dX8_sizeOf_26 : decode cX8_sizeOf 26 = .ok (.aload_n 0, 1) := by decide +kernel
theorem dX8_sizeOf_27 : decode cX8_sizeOf 27 = .ok (.bipush 12, 2) := by decide +kernel
theorem dX8_sizeOf_29 : decode cX8_sizeOf 29 = .ok (.invokevirtual 258, 3) := by decide +kernel
theorem dX8_sizeOf_32 : decode cX8_sizeOf 32 = .ok (.aload_n 0, 1) := by decide +kernel
theorem dX8_sizeOf_33 : decode cX8_sizeOf 33 = .ok (.bipush 11, 2) := by decide +kernel
theorem dX8_sizeOf_35 : decode cX8_sizeOf 35 = .ok (.invokevirtual 258, 3) := by decide +kernel
theorem dX8_sizeOf_38 : decode cX8_sizeOf 38 = .ok (.aload_n 0, 1) := by decide +kernel
theorem dX8_sizeOf_39 : decode cX8_sizeOf 39 = .ok (.iload_n 1, 1) := by decide +kernel
theorem dX8_sizeOf_40 : decode cX8_sizeOf 40 = .ok (.invokevirtual 261, 3) := by decide +kernel
theorem dX8_sizeOf_43 : decode cX8_sizeOf 43 = .ok (.istore_n 3, 1) := by decide +kernel
theorem dX8_sizeOf_44 : decode cX8_sizeOf 44 = .ok (.iload_n 3, 1) := by decide +kernel
theorem dX8_sizeOf_45 : decode cX8_sizeOf 45 = .ok (.aload_n 0, 1) := by decide +kernel
theorem dX8_sizeOf_46 : decode cX8_sizeOf 46 = .ok (.iload_n 1, 1) := by decide +kernel
theorem dX8_sizeOf_47 : decode cX8_sizeOf 47 = .ok (.invokevirtual 267, 3) := by decide +kernel
theorem dX8_sizeOf_50 : decode cX8_sizeOf 50 = .ok (.iadd, 1) := by decide +kernel
theorem dX8_sizeOf_51 : decode cX8_sizeOf 51 = .ok (.istore_n 3, 1) := by decide +kernel
theorem dX8_sizeOf_52 : decode cX8_sizeOf 52 = .ok (.iload_n 2, 1) := by decide +kernel
theorem dX8_sizeOf_53 : decode cX8_sizeOf 53 = .ok (.iconst 2, 1) := by decide +kernel
theorem dX8_sizeOf_54 : decode cX8_sizeOf 54 = .ok (.if_icmp .ne 8, 3) := by decide +kernel
theorem dX8_sizeOf_57 : decode cX8_sizeOf 57 = .ok (.iload_n 3, 1) := by decide +kernel
theorem dX8_sizeOf_58 : decode cX8_sizeOf 58 = .ok (.ineg, 1) := by decide +kernel
theorem dX8_sizeOf_59 : decode cX8_sizeOf 59 = .ok (.goto 4, 3) := by decide +kernel
theorem dX8_sizeOf_62 : decode cX8_sizeOf 62 = .ok (.iload_n 3, 1) := by decide +kernel
end
section
theorem dX8_sizeOf_63 : decode cX8_sizeOf 63 = .ok (.ireturn, 1) := by decide +kernel
theorem dX8_ask_0 : decode cX8_ask 0 = .ok (.aload_n 0, 1) := by decide +kernel
theorem dX8_ask_1 : decode cX8_ask 1 = .ok (.iconst 0, 1) := by decide +kernel
theorem dX8_ask_2 : decode cX8_ask 2 = .ok (.putfield 50, 3) := by decide +kernel
theorem dX8_ask_5 : decode cX8_ask 5 = .ok (.aload_n 0, 1) := by decide +kernel
theorem dX8_ask_6 : decode cX8_ask 6 = .ok (.iload_n 1, 1) := by decide +kernel
theorem dX8_ask_7 : decode cX8_ask 7 = .ok (.invokevirtual 193, 3) := by decide +kernel
theorem dX8_ask_10 : decode cX8_ask 10 = .ok (.ifCond .eq 13, 3) := by decide +kernel
theorem dX8_ask_13 : decode cX8_ask 13 = .ok (.iload_n 2, 1) := by decide +kernel
theorem dX8_ask_14 : decode cX8_ask 14 = .ok (.i2l, 1) := by decide +kernel
theorem dX8_ask_15 : decode cX8_ask 15 = .ok (.lconst 0, 1) := by decide +kernel
theorem dX8_ask_16 : decode cX8_ask 16 = .ok (.lconst 1, 1) := by decide +kernel
theorem dX8_ask_17 : decode cX8_ask 17 = .ok (.invokestatic 60, 3) := by decide +kernel
theorem dX8_ask_20 : decode cX8_ask 20 = .ok (.ifCond .ne 6, 3) := by decide +kernel
theorem dX8_ask_23 : decode cX8_ask 23 = .ok (.ldc 70, 2) := by decide +kernel
theorem dX8_ask_25 : decode cX8_ask 25 = .ok (.ireturn, 1) := by decide +kernel
theorem dX8_ask_26 : decode cX8_ask 26 = .ok (.aload_n 0, 1) := by decide +kernel
theorem dX8_ask_27 : decode cX8_ask 27 = .ok (.iconst 0, 1) := by decide +kernel
theorem dX8_ask_28 : decode cX8_ask 28 = .ok (.putfield 255, 3) := by decide +kernel
theorem dX8_ask_31 : decode cX8_ask 31 = .ok (.iload_n 2, 1) := by decide +kernel
theorem dX8_ask_32 : decode cX8_ask 32 = .ok (.ifCond .ne 11, 3) := by decide +kernel
theorem dX8_ask_35 : decode cX8_ask 35 = .ok (.aload_n 0, 1) := by decide +kernel
theorem dX8_ask_36 : decode cX8_ask 36 = .ok (.iload_n 1, 1) := by decide +kernel
theorem dX8_ask_37 : decode cX8_ask 37 = .ok (.invokevirtual 270, 3) := by decide +kernel
theorem dX8_ask_40 : decode cX8_ask 40 = .ok (.goto 8, 3) := by decide +kernel
theorem dX8_ask_43 : decode cX8_ask 43 = .ok (.aload_n 0, 1) := by decide +kernel
theorem dX8_ask_44 : decode cX8_ask 44 = .ok (.iload_n 1, 1) := by decide +kernel
theorem dX8_ask_45 : decode cX8_ask 45 = .ok (.invokevirtual 267, 3) := by decide +kernel
theorem dX8_ask_48 : decode cX8_ask 48 = .ok (.ireturn, 1) := by decide +kernel
theorem dX8_trace_0 : decode cX8_trace 0 = .ok (.aload_n 0, 1) := by decide +kernel
theorem dX8_trace_1 : decode cX8_trace 1 = .ok (.iconst 0, 1) := by decide +kernel
theorem dX8_trace_2 : decode cX8_trace 2 = .ok (.putfield 50, 3) := by decide +kernel
theorem dX8_trace_5 : decode cX8_trace 5 = .ok (.iload_n 1, 1) := by decide +kernel
theorem dX8_trace_6 : decode cX8_trace 6 = .ok (.i2l, 1) := by decide +kernel
theorem dX8_trace_7 : decode cX8_trace 7 = .ok (.lconst 0, 1) := by decide +kernel
theorem dX8_trace_8 : decode cX8_trace 8 = .ok (.aload_n 0, 1) := by decide +kernel
theorem dX8_trace_9 : decode cX8_trace 9 = .ok (.getfield 255, 3) := by decide +kernel
theorem dX8_trace_12 : decode cX8_trace 12 = .ok (.iconst 1, 1) := by decide +kernel
theorem dX8_trace_13 : decode cX8_trace 13 = .ok (.isub, 1) := by decide +kernel
theorem dX8_trace_14 : decode cX8_trace 14 = .ok (.i2l, 1) := by decide +kernel
theorem dX8_trace_15 : decode cX8_trace 15 = .ok (.invokestatic 60, 3) := by decide +kernel
theorem dX8_trace_18 : decode cX8_trace 18 = .ok (.ifCond .eq 12, 3) := by decide +kernel
theorem dX8_trace_21 : decode cX8_trace 21 = .ok (.aload_n 0, 1) := by decide +kernel
theorem dX8_trace_22 : decode cX8_trace 22 = .ok (.getfield 47, 3) := by decide +kernel
theorem dX8_trace_25 : decode cX8_trace 25 = .ok (.iload_n 1, 1) := by decide +kernel
theorem dX8_trace_26 : decode cX8_trace 26 = .ok (.iaload, 1) := by decide +kernel
theorem dX8_trace_27 : decode cX8_trace 27 = .ok (.goto 5, 3) := by decide +kernel
theorem dX8_trace_30 : decode cX8_trace 30 = .ok (.ldc 93, 2) := by decide +kernel
theorem dX8_trace_32 : decode cX8_trace 32 = .ok (.ireturn, 1) := by decide +kernel
theorem dX8_count_0 : decode cX8_count 0 = .ok (.aload_n 0, 1) := by decide +kernel
theorem dX8_count_1 : decode cX8_count 1 = .ok (.iconst 0, 1) := by decide +kernel
theorem dX8_count_2 : decode cX8_count 2 = .ok (.putfield 50, 3) := by decide +kernel
theorem dX8_count_5 : decode cX8_count 5 = .ok (.iconst 0, 1) := by decide +kernel
theorem dX8_count_6 : decode cX8_count 6 = .ok (.istore_n 2, 1) := by decide +kernel
theorem dX8_count_7 : decode cX8_count 7 = .ok (.iload_n 1, 1) := by decide +kernel
theorem dX8_count_8 : decode cX8_count 8 = .ok (.tableswitch 128 0 7 #[48, 81, 88, 95, 102, 110, 118, 123], 48) := by decide +kernel
theorem dX8_count_56 : decode cX8_count 56 = .ok (.iconst 0, 1) := by decide +kernel
theorem dX8_count_57 : decode cX8_count 57 = .ok (.istore_n 3, 1) := by decide +kernel
theorem dX8_count_58 : decode cX8_count 58 = .ok (.iload_n 3, 1) := by decide +kernel
theorem dX8_count_59 : decode cX8_count 59 = .ok (.bipush 8, 2) := by decide +kernel
theorem dX8_count_61 : decode cX8_count 61 = .ok (.if_icmp .ge 26, 3) := by decide +kernel
theorem dX8_count_64 : decode cX8_count 64 = .ok (.iload_n 2, 1) := by decide +kernel
theorem dX8_count_65 : decode cX8_count 65 = .ok (.aload_n 0, 1) := by decide +kernel
theorem dX8_count_66 : decode cX8_count 66 = .ok (.getfield 7, 3) := by decide +kernel
theorem dX8_count_69 : decode cX8_count 69 = .ok (.iload_n 3, 1) := by decide +kernel
theorem dX8_count_70 : decode cX8_count 70 = .ok (.iaload, 1) := by decide +kernel
theorem dX8_count_71 : decode cX8_count 71 = .ok (.ifCond .lt 7, 3) := by decide +kernel
theorem dX8_count_74 : decode cX8_count 74 = .ok (.iconst 1, 1) := by decide +kernel
theorem dX8_count_75 : decode cX8_count 75 = .ok (.goto 4, 3) := by decide +kernel
theorem dX8_count_78 : decode cX8_count 78 = .ok (.iconst 0, 1) := by decide +kernel
theorem dX8_count_79 : decode cX8_count 79 = .ok (.iadd, 1) := by decide +kernel
theorem dX8_count_80 : decode cX8_count 80 = .ok (.istore_n 2, 1) := by decide +kernel
theorem dX8_count_81 : decode cX8_count 81 = .ok (.iinc 3 1, 3) := by decide +kernel
theorem dX8_count_84 : decode cX8_count 84 = .ok (.goto (-26), 3) := by decide +kernel
theorem dX8_count_87 : decode cX8_count 87 = .ok (.iload_n 2, 1) := by decide +kernel
theorem dX8_count_88 : decode cX8_count 88 = .ok (.ireturn, 1) := by decide +kernel
theorem dX8_count_89 : decode cX8_count 89 = .ok (.aload_n 0, 1) := by decide +kernel
theorem dX8_count_90 : decode cX8_count 90 = .ok (.getfield 19, 3) := by decide +kernel
theorem dX8_count_93 : decode cX8_count 93 = .ok (.iconst 3, 1) := by decide +kernel
theorem dX8_count_94 : decode cX8_count 94 = .ok (.iaload, 1) := by decide +kernel
theorem dX8_count_95 : decode cX8_count 95 = .ok (.ireturn, 1) := by decide +kernel
theorem dX8_count_96 : decode cX8_count 96 = .ok (.aload_n 0, 1) := by decide +kernel
theorem dX8_count_97 : decode cX8_count 97 = .ok (.getfield 19, 3) := by decide +kernel
theorem dX8_count_100 : decode cX8_count 100 = .ok (.iconst 4, 1) := by decide +kernel
theorem dX8_count_101 : decode cX8_count 101 = .ok (.iaload, 1) := by decide +kernel
theorem dX8_count_102 : decode cX8_count 102 = .ok (.ireturn, 1) := by decide +kernel
theorem dX8_count_103 : decode cX8_count 103 = .ok (.aload_n 0, 1) := by decide +kernel
theorem dX8_count_104 : decode cX8_count 104 = .ok (.getfield 19, 3) := by decide +kernel
theorem dX8_count_107 : decode cX8_count 107 = .ok (.iconst 5, 1) := by decide +kernel
theorem dX8_count_108 : decode cX8_count 108 = .ok (.iaload, 1) := by decide +kernel
theorem dX8_count_109 : decode cX8_count 109 = .ok (.ireturn, 1) := by decide +kernel
theorem dX8_count_110 : decode cX8_count 110 = .ok (.aload_n 0, 1) := by decide +kernel
theorem dX8_count_111 : decode cX8_count 111 = .ok (.getfield 19, 3) := by decide +kernel
theorem dX8_count_114 : decode cX8_count 114 = .ok (.invokestatic 210, 3) := by decide +kernel
theorem dX8_count_117 : decode cX8_count 117 = .ok (.ireturn, 1) := by decide +kernel
theorem dX8_count_118 : decode cX8_count 118 = .ok (.aload_n 0, 1) := by decide +kernel
theorem dX8_count_119 : decode cX8_count 119 = .ok (.getfield 19, 3) := by decide +kernel
theorem dX8_count_122 : decode cX8_count 122 = .ok (.invokestatic 249, 3) := by decide +kernel
theorem dX8_count_125 : decode cX8_count 125 = .ok (.ireturn, 1) := by decide +kernel
theorem dX8_count_126 : decode cX8_count 126 = .ok (.aload_n 0, 1) := by decide +kernel
theorem dX8_count_127 : decode cX8_count 127 = .ok (.getfield 152, 3) := by decide +kernel
theorem dX8_count_130 : decode cX8_count 130 = .ok (.ireturn, 1) := by decide +kernel
theorem dX8_count_131 : decode cX8_count 131 = .ok (.aload_n 0, 1) := by decide +kernel
theorem dX8_count_132 : decode cX8_count 132 = .ok (.getfield 77, 3) := by decide +kernel
theorem dX8_count_135 : decode cX8_count 135 = .ok (.ireturn, 1) := by decide +kernel
theorem dX8_count_136 : decode cX8_count 136 = .ok (.ldc 70, 2) := by decide +kernel
theorem dX8_count_138 : decode cX8_count 138 = .ok (.ireturn, 1) := by decide +kernel
theorem dX8_status_0 : decode cX8_status 0 = .ok (.aload_n 0, 1) := by decide +kernel
theorem dX8_status_1 : decode cX8_status 1 = .ok (.iconst 0, 1) := by decide +kernel
theorem dX8_status_2 : decode cX8_status 2 = .ok (.putfield 50, 3) := by decide +kernel
theorem dX8_status_5 : decode cX8_status 5 = .ok (.aload_n 0, 1) := by decide +kernel
theorem dX8_status_6 : decode cX8_status 6 = .ok (.getfield 54, 3) := by decide +kernel
theorem dX8_status_9 : decode cX8_status 9 = .ok (.ireturn, 1) := by decide +kernel
theorem dJ6_bitCount_0f7a4_0 : decode cJ6_bitCount_0f7a4 0 = .ok (.iload_n 0, 1) := by decide +kernel
theorem dJ6_bitCount_0f7a4_1 : decode cJ6_bitCount_0f7a4 1 = .ok (.iload_n 0, 1) := by decide +kernel
theorem dJ6_bitCount_0f7a4_2 : decode cJ6_bitCount_0f7a4 2 = .ok (.iconst 1, 1) := by decide +kernel
theorem dJ6_bitCount_0f7a4_3 : decode cJ6_bitCount_0f7a4 3 = .ok (.iushr, 1) := by decide +kernel
theorem dJ6_bitCount_0f7a4_4 : decode cJ6_bitCount_0f7a4 4 = .ok (.ldc_w 265, 3) := by decide +kernel
theorem dJ6_bitCount_0f7a4_7 : decode cJ6_bitCount_0f7a4 7 = .ok (.iand, 1) := by decide +kernel
theorem dJ6_bitCount_0f7a4_8 : decode cJ6_bitCount_0f7a4 8 = .ok (.isub, 1) := by decide +kernel
theorem dJ6_bitCount_0f7a4_9 : decode cJ6_bitCount_0f7a4 9 = .ok (.istore_n 0, 1) := by decide +kernel
theorem dJ6_bitCount_0f7a4_10 : decode cJ6_bitCount_0f7a4 10 = .ok (.iload_n 0, 1) := by decide +kernel
theorem dJ6_bitCount_0f7a4_11 : decode cJ6_bitCount_0f7a4 11 = .ok (.ldc_w 266, 3) := by decide +kernel
theorem dJ6_bitCount_0f7a4_14 : decode cJ6_bitCount_0f7a4 14 = .ok (.iand, 1) := by decide +kernel
theorem dJ6_bitCount_0f7a4_15 : decode cJ6_bitCount_0f7a4 15 = .ok (.iload_n 0, 1) := by decide +kernel
theorem dJ6_bitCount_0f7a4_16 : decode cJ6_bitCount_0f7a4 16 = .ok (.iconst 2, 1) := by decide +kernel
theorem dJ6_bitCount_0f7a4_17 : decode cJ6_bitCount_0f7a4 17 = .ok (.iushr, 1) := by decide +kernel
theorem dJ6_bitCount_0f7a4_18 : decode cJ6_bitCount_0f7a4 18 = .ok (.ldc_w 266, 3) := by decide +kernel
theorem dJ6_bitCount_0f7a4_21 : decode cJ6_bitCount_0f7a4 21 = .ok (.iand, 1) := by decide +kernel
theorem dJ6_bitCount_0f7a4_22 : decode cJ6_bitCount_0f7a4 22 = .ok (.iadd, 1) := by decide +kernel
theorem dJ6_bitCount_0f7a4_23 : decode cJ6_bitCount_0f7a4 23 = .ok (.istore_n 0, 1) := by decide +kernel
theorem dJ6_bitCount_0f7a4_24 : decode cJ6_bitCount_0f7a4 24 = .ok (.iload_n 0, 1) := by decide +kernel
theorem dJ6_bitCount_0f7a4_25 : decode cJ6_bitCount_0f7a4 25 = .ok (.iload_n 0, 1) := by decide +kernel
theorem dJ6_bitCount_0f7a4_26 : decode cJ6_bitCount_0f7a4 26 = .ok (.iconst 4, 1) := by decide +kernel
theorem dJ6_bitCount_0f7a4_27 : decode cJ6_bitCount_0f7a4 27 = .ok (.iushr, 1) := by decide +kernel
theorem dJ6_bitCount_0f7a4_28 : decode cJ6_bitCount_0f7a4 28 = .ok (.iadd, 1) := by decide +kernel
theorem dJ6_bitCount_0f7a4_29 : decode cJ6_bitCount_0f7a4 29 = .ok (.ldc_w 267, 3) := by decide +kernel
theorem dJ6_bitCount_0f7a4_32 : decode cJ6_bitCount_0f7a4 32 = .ok (.iand, 1) := by decide +kernel
theorem dJ6_bitCount_0f7a4_33 : decode cJ6_bitCount_0f7a4 33 = .ok (.istore_n 0, 1) := by decide +kernel
theorem dJ6_bitCount_0f7a4_34 : decode cJ6_bitCount_0f7a4 34 = .ok (.iload_n 0, 1) := by decide +kernel
theorem dJ6_bitCount_0f7a4_35 : decode cJ6_bitCount_0f7a4 35 = .ok (.iload_n 0, 1) := by decide +kernel
theorem dJ6_bitCount_0f7a4_36 : decode cJ6_bitCount_0f7a4 36 = .ok (.bipush 8, 2) := by decide +kernel
theorem dJ6_bitCount_0f7a4_38 : decode cJ6_bitCount_0f7a4 38 = .ok (.iushr, 1) := by decide +kernel
theorem dJ6_bitCount_0f7a4_39 : decode cJ6_bitCount_0f7a4 39 = .ok (.iadd, 1) := by decide +kernel
theorem dJ6_bitCount_0f7a4_40 : decode cJ6_bitCount_0f7a4 40 = .ok (.istore_n 0, 1) := by decide +kernel
theorem dJ6_bitCount_0f7a4_41 : decode cJ6_bitCount_0f7a4 41 = .ok (.iload_n 0, 1) := by decide +kernel
theorem dJ6_bitCount_0f7a4_42 : decode cJ6_bitCount_0f7a4 42 = .ok (.iload_n 0, 1) := by decide +kernel
theorem dJ6_bitCount_0f7a4_43 : decode cJ6_bitCount_0f7a4 43 = .ok (.bipush 16, 2) := by decide +kernel
theorem dJ6_bitCount_0f7a4_45 : decode cJ6_bitCount_0f7a4 45 = .ok (.iushr, 1) := by decide +kernel
theorem dJ6_bitCount_0f7a4_46 : decode cJ6_bitCount_0f7a4 46 = .ok (.iadd, 1) := by decide +kernel
theorem dJ6_bitCount_0f7a4_47 : decode cJ6_bitCount_0f7a4 47 = .ok (.istore_n 0, 1) := by decide +kernel
theorem dJ6_bitCount_0f7a4_48 : decode cJ6_bitCount_0f7a4 48 = .ok (.iload_n 0, 1) := by decide +kernel
theorem dJ6_bitCount_0f7a4_49 : decode cJ6_bitCount_0f7a4 49 = .ok (.bipush 63, 2) := by decide +kernel
theorem dJ6_bitCount_0f7a4_51 : decode cJ6_bitCount_0f7a4 51 = .ok (.iand, 1) := by decide +kernel
theorem dJ6_bitCount_0f7a4_52 : decode cJ6_bitCount_0f7a4 52 = .ok (.ireturn, 1) := by decide +kernel
theorem dJ9_max_7cf53_0 : decode cJ9_max_7cf53 0 = .ok (.iload_n 0, 1) := by decide +kernel
theorem dJ9_max_7cf53_1 : decode cJ9_max_7cf53 1 = .ok (.iload_n 1, 1) := by decide +kernel
theorem dJ9_max_7cf53_2 : decode cJ9_max_7cf53 2 = .ok (.if_icmp .lt 7, 3) := by decide +kernel
theorem dJ9_max_7cf53_5 : decode cJ9_max_7cf53 5 = .ok (.iload_n 0, 1) := by decide +kernel
theorem dJ9_max_7cf53_6 : decode cJ9_max_7cf53 6 = .ok (.goto 4, 3) := by decide +kernel
theorem dJ9_max_7cf53_9 : decode cJ9_max_7cf53 9 = .ok (.iload_n 1, 1) := by decide +kernel
theorem dJ9_max_7cf53_10 : decode cJ9_max_7cf53 10 = .ok (.ireturn, 1) := by decide +kernel
theorem dJ9_min_7cf53_0 : decode cJ9_min_7cf53 0 = .ok (.iload_n 0, 1) := by decide +kernel
theorem dJ9_min_7cf53_1 : decode cJ9_min_7cf53 1 = .ok (.iload_n 1, 1) := by decide +kernel
theorem dJ9_min_7cf53_2 : decode cJ9_min_7cf53 2 = .ok (.if_icmp .gt 7, 3) := by decide +kernel
theorem dJ9_min_7cf53_5 : decode cJ9_min_7cf53 5 = .ok (.iload_n 0, 1) := by decide +kernel
theorem dJ9_min_7cf53_6 : decode cJ9_min_7cf53 6 = .ok (.goto 4, 3) := by decide +kernel
theorem dJ9_min_7cf53_9 : decode cJ9_min_7cf53 9 = .ok (.iload_n 1, 1) := by decide +kernel
theorem dJ9_min_7cf53_10 : decode cJ9_min_7cf53 10 = .ok (.ireturn, 1) := by decide +kernel
theorem dL_law_0 : decode cL_law 0 = .ok (.new 7, 3) := by decide +kernel
theorem dL_law_3 : decode cL_law 3 = .ok (.dup, 1) := by decide +kernel
theorem dL_law_4 : decode cL_law 4 = .ok (.invokespecial 9, 3) := by decide +kernel
theorem dL_law_7 : decode cL_law 7 = .ok (.astore_n 1, 1) := by decide +kernel
theorem dL_law_8 : decode cL_law 8 = .ok (.new 10, 3) := by decide +kernel
theorem dL_law_11 : decode cL_law 11 = .ok (.dup, 1) := by decide +kernel
theorem dL_law_12 : decode cL_law 12 = .ok (.invokespecial 12, 3) := by decide +kernel
theorem dL_law_15 : decode cL_law 15 = .ok (.astore_n 2, 1) := by decide +kernel
theorem dL_law_16 : decode cL_law 16 = .ok (.iconst 0, 1) := by decide +kernel
theorem dL_law_17 : decode cL_law 17 = .ok (.istore_n 3, 1) := by decide +kernel
theorem dL_law_18 : decode cL_law 18 = .ok (.iload_n 3, 1) := by decide +kernel
theorem dL_law_19 : decode cL_law 19 = .ok (.aload_n 0, 1) := by decide +kernel
theorem dL_law_20 : decode cL_law 20 = .ok (.arraylength, 1) := by decide +kernel
theorem dL_law_21 : decode cL_law 21 = .ok (.bipush 7, 2) := by decide +kernel
theorem dL_law_23 : decode cL_law 23 = .ok (.isub, 1) := by decide +kernel
theorem dL_law_24 : decode cL_law 24 = .ok (.if_icmp .gt 1443, 3) := by decide +kernel
theorem dL_law_27 : decode cL_law 27 = .ok (.aload_n 0, 1) := by decide +kernel
theorem dL_law_28 : decode cL_law 28 = .ok (.iload_n 3, 1) := by decide +kernel
theorem dL_law_29 : decode cL_law 29 = .ok (.iaload, 1) := by decide +kernel
theorem dL_law_30 : decode cL_law 30 = .ok (.bipush 63, 2) := by decide +kernel
theorem dL_law_32 : decode cL_law 32 = .ok (.iand, 1) := by decide +kernel
theorem dL_law_33 : decode cL_law 33 = .ok (.tableswitch 1428 0 39 #[175, 218, 261, 324, 347, 370, 383, 396, 409, 432, 465, 488, 511, 544, 567, 600, 633, 666, 689, 712, 745, 778, 801, 844, 887, 920, 963, 996, 1071, 1124, 1147, 1191, 1234, 1257, 1280, 1303, 1336, 1369, 1392, 1415], 175) := by decide +kernel
theorem dL_law_208 : decode cL_law 208 = .ok (.aload_n 1, 1) := by decide +kernel
theorem dL_law_209 : decode cL_law 209 = .ok (.aload_n 0, 1) := by decide +kernel
theorem dL_law_210 : decode cL_law 210 = .ok (.iload_n 3, 1) := by decide +kernel
theorem dL_law_211 : decode cL_law 211 = .ok (.iconst 1, 1) := by decide +kernel
theorem dL_law_212 : decode cL_law 212 = .ok (.iadd, 1) := by decide +kernel
theorem dL_law_213 : decode cL_law 213 = .ok (.iaload, 1) := by decide +kernel
theorem dL_law_214 : decode cL_law 214 = .ok (.aload_n 0, 1) := by decide +kernel
theorem dL_law_215 : decode cL_law 215 = .ok (.iload_n 3, 1) := by decide +kernel
theorem dL_law_216 : decode cL_law 216 = .ok (.iconst 2, 1) := by decide +kernel
theorem dL_law_217 : decode cL_law 217 = .ok (.iadd, 1) := by decide +kernel
theorem dL_law_218 : decode cL_law 218 = .ok (.iaload, 1) := by decide +kernel
theorem dL_law_219 : decode cL_law 219 = .ok (.aload_n 0, 1) := by decide +kernel
theorem dL_law_220 : decode cL_law 220 = .ok (.iload_n 3, 1) := by decide +kernel
theorem dL_law_221 : decode cL_law 221 = .ok (.iconst 3, 1) := by decide +kernel
theorem dL_law_222 : decode cL_law 222 = .ok (.iadd, 1) := by decide +kernel
theorem dL_law_223 : decode cL_law 223 = .ok (.iaload, 1) := by decide +kernel
theorem dL_law_224 : decode cL_law 224 = .ok (.invokevirtual 13, 3) := by decide +kernel
theorem dL_law_227 : decode cL_law 227 = .ok (.aload_n 2, 1) := by decide +kernel
theorem dL_law_228 : decode cL_law 228 = .ok (.aload_n 0, 1) := by decide +kernel
theorem dL_law_229 : decode cL_law 229 = .ok (.iload_n 3, 1) := by decide +kernel
theorem dL_law_230 : decode cL_law 230 = .ok (.iconst 1, 1) := by decide +kernel
theorem dL_law_231 : decode cL_law 231 = .ok (.iadd, 1) := by decide +kernel
theorem dL_law_232 : decode cL_law 232 = .ok (.iaload, 1) := by decide +kernel
theorem dL_law_233 : decode cL_law 233 = .ok (.aload_n 0, 1) := by decide +kernel
theorem dL_law_234 : decode cL_law 234 = .ok (.iload_n 3, 1) := by decide +kernel
theorem dL_law_235 : decode cL_law 235 = .ok (.iconst 2, 1) := by decide +kernel
theorem dL_law_236 : decode cL_law 236 = .ok (.iadd, 1) := by decide +kernel
theorem dL_law_237 : decode cL_law 237 = .ok (.iaload, 1) := by decide +kernel
theorem dL_law_238 : decode cL_law 238 = .ok (.aload_n 0, 1) := by decide +kernel
theorem dL_law_239 : decode cL_law 239 = .ok (.iload_n 3, 1) := by decide +kernel
theorem dL_law_240 : decode cL_law 240 = .ok (.iconst 3, 1) := by decide +kernel
theorem dL_law_241 : decode cL_law 241 = .ok (.iadd, 1) := by decide +kernel
theorem dL_law_242 : decode cL_law 242 = .ok (.iaload, 1) := by decide +kernel
theorem dL_law_243 : decode cL_law 243 = .ok (.invokevirtual 17, 3) := by decide +kernel
theorem dL_law_246 : decode cL_law 246 = .ok (.if_icmp .eq 1215, 3) := by decide +kernel
theorem dL_law_249 : decode cL_law 249 = .ok (.iconst 0, 1) := by decide +kernel
theorem dL_law_250 : decode cL_law 250 = .ok (.ireturn, 1) := by decide +kernel
theorem dL_law_251 : decode cL_law 251 = .ok (.aload_n 1, 1) := by decide +kernel
theorem dL_law_252 : decode cL_law 252 = .ok (.aload_n 0, 1) := by decide +kernel
theorem dL_law_253 : decode cL_law 253 = .ok (.iload_n 3, 1) := by decide +kernel
theorem dL_law_254 : decode cL_law 254 = .ok (.iconst 1, 1) := by decide +kernel
theorem dL_law_255 : decode cL_law 255 = .ok (.iadd, 1) := by decide +kernel
theorem dL_law_256 : decode cL_law 256 = .ok (.iaload, 1) := by decide +kernel
theorem dL_law_257 : decode cL_law 257 = .ok (.aload_n 0, 1) := by decide +kernel
theorem dL_law_258 : decode cL_law 258 = .ok (.iload_n 3, 1) := by decide +kernel
theorem dL_law_259 : decode cL_law 259 = .ok (.iconst 2, 1) := by decide +kernel
theorem dL_law_260 : decode cL_law 260 = .ok (.iadd, 1) := by decide +kernel
theorem dL_law_261 : decode cL_law 261 = .ok (.iaload, 1) := by decide +kernel
theorem dL_law_262 : decode cL_law 262 = .ok (.aload_n 0, 1) := by decide +kernel
theorem dL_law_263 : decode cL_law 263 = .ok (.iload_n 3, 1) := by decide +kernel
theorem dL_law_264 : decode cL_law 264 = .ok (.iconst 3, 1) := by decide +kernel
theorem dL_law_265 : decode cL_law 265 = .ok (.iadd, 1) := by decide +kernel
theorem dL_law_266 : decode cL_law 266 = .ok (.iaload, 1) := by decide +kernel
theorem dL_law_267 : decode cL_law 267 = .ok (.invokevirtual 18, 3) := by decide +kernel
theorem dL_law_270 : decode cL_law 270 = .ok (.aload_n 2, 1) := by decide +kernel
theorem dL_law_271 : decode cL_law 271 = .ok (.aload_n 0, 1) := by decide +kernel
theorem dL_law_272 : decode cL_law 272 = .ok (.iload_n 3, 1) := by decide +kernel
theorem dL_law_273 : decode cL_law 273 = .ok (.iconst 1, 1) := by decide +kernel
theorem dL_law_274 : decode cL_law 274 = .ok (.iadd, 1) := by decide +kernel
theorem dL_law_275 : decode cL_law 275 = .ok (.iaload, 1) := by decide +kernel
theorem dL_law_276 : decode cL_law 276 = .ok (.aload_n 0, 1) := by decide +kernel
theorem dL_law_277 : decode cL_law 277 = .ok (.iload_n 3, 1) := by decide +kernel
theorem dL_law_278 : decode cL_law 278 = .ok (.iconst 2, 1) := by decide +kernel
theorem dL_law_279 : decode cL_law 279 = .ok (.iadd, 1) := by decide +kernel
theorem dL_law_280 : decode cL_law 280 = .ok (.iaload, 1) := by decide +kernel
theorem dL_law_281 : decode cL_law 281 = .ok (.aload_n 0, 1) := by decide +kernel
theorem dL_law_282 : decode cL_law 282 = .ok (.iload_n 3, 1) := by decide +kernel
theorem dL_law_283 : decode cL_law 283 = .ok (.iconst 3, 1) := by decide +kernel
theorem dL_law_284 : decode cL_law 284 = .ok (.iadd, 1) := by decide +kernel
theorem dL_law_285 : decode cL_law 285 = .ok (.iaload, 1) := by decide +kernel
theorem dL_law_286 : decode cL_law 286 = .ok (.invokevirtual 21, 3) := by decide +kernel
theorem dL_law_289 : decode cL_law 289 = .ok (.if_icmp .eq 1172, 3) := by decide +kernel
theorem dL_law_292 : decode cL_law 292 = .ok (.iconst 0, 1) := by decide +kernel
theorem dL_law_293 : decode cL_law 293 = .ok (.ireturn, 1) := by decide +kernel
theorem dL_law_294 : decode cL_law 294 = .ok (.aload_n 1, 1) := by decide +kernel
theorem dL_law_295 : decode cL_law 295 = .ok (.aload_n 0, 1) := by decide +kernel
theorem dL_law_296 : decode cL_law 296 = .ok (.iload_n 3, 1) := by decide +kernel
theorem dL_law_297 : decode cL_law 297 = .ok (.iconst 1, 1) := by decide +kernel
theorem dL_law_298 : decode cL_law 298 = .ok (.iadd, 1) := by decide +kernel
theorem dL_law_299 : decode cL_law 299 = .ok (.iaload, 1) := by decide +kernel
theorem dL_law_300 : decode cL_law 300 = .ok (.aload_n 0, 1) := by decide +kernel
theorem dL_law_301 : decode cL_law 301 = .ok (.iload_n 3, 1) := by decide +kernel
theorem dL_law_302 : decode cL_law 302 = .ok (.iconst 2, 1) := by decide +kernel
theorem dL_law_303 : decode cL_law 303 = .ok (.iadd, 1) := by decide +kernel
theorem dL_law_304 : decode cL_law 304 = .ok (.iaload, 1) := by decide +kernel
theorem dL_law_305 : decode cL_law 305 = .ok (.aload_n 0, 1) := by decide +kernel
theorem dL_law_306 : decode cL_law 306 = .ok (.iload_n 3, 1) := by decide +kernel
theorem dL_law_307 : decode cL_law 307 = .ok (.iconst 3, 1) := by decide +kernel
theorem dL_law_308 : decode cL_law 308 = .ok (.iadd, 1) := by decide +kernel
theorem dL_law_309 : decode cL_law 309 = .ok (.iaload, 1) := by decide +kernel
theorem dL_law_310 : decode cL_law 310 = .ok (.aload_n 0, 1) := by decide +kernel
theorem dL_law_311 : decode cL_law 311 = .ok (.iload_n 3, 1) := by decide +kernel
theorem dL_law_312 : decode cL_law 312 = .ok (.iconst 4, 1) := by decide +kernel
theorem dL_law_313 : decode cL_law 313 = .ok (.iadd, 1) := by decide +kernel
theorem dL_law_314 : decode cL_law 314 = .ok (.iaload, 1) := by decide +kernel
theorem dL_law_315 : decode cL_law 315 = .ok (.aload_n 0, 1) := by decide +kernel
theorem dL_law_316 : decode cL_law 316 = .ok (.iload_n 3, 1) := by decide +kernel
theorem dL_law_317 : decode cL_law 317 = .ok (.iconst 5, 1) := by decide +kernel
theorem dL_law_318 : decode cL_law 318 = .ok (.iadd, 1) := by decide +kernel
theorem dL_law_319 : decode cL_law 319 = .ok (.iaload, 1) := by decide +kernel
theorem dL_law_320 : decode cL_law 320 = .ok (.invokevirtual 22, 3) := by decide +kernel
theorem dL_law_323 : decode cL_law 323 = .ok (.aload_n 2, 1) := by decide +kernel
theorem dL_law_324 : decode cL_law 324 = .ok (.aload_n 0, 1) := by decide +kernel
theorem dL_law_325 : decode cL_law 325 = .ok (.iload_n 3, 1) := by decide +kernel
theorem dL_law_326 : decode cL_law 326 = .ok (.iconst 1, 1) := by decide +kernel
theorem dL_law_327 : decode cL_law 327 = .ok (.iadd, 1) := by decide +kernel
theorem dL_law_328 : decode cL_law 328 = .ok (.iaload, 1) := by decide +kernel
theorem dL_law_329 : decode cL_law 329 = .ok (.aload_n 0, 1) := by decide +kernel
theorem dL_law_330 : decode cL_law 330 = .ok (.iload_n 3, 1) := by decide +kernel
theorem dL_law_331 : decode cL_law 331 = .ok (.iconst 2, 1) := by decide +kernel
theorem dL_law_332 : decode cL_law 332 = .ok (.iadd, 1) := by decide +kernel
theorem dL_law_333 : decode cL_law 333 = .ok (.iaload, 1) := by decide +kernel
theorem dL_law_334 : decode cL_law 334 = .ok (.aload_n 0, 1) := by decide +kernel
theorem dL_law_335 : decode cL_law 335 = .ok (.iload_n 3, 1) := by decide +kernel
theorem dL_law_336 : decode cL_law 336 = .ok (.iconst 3, 1) := by decide +kernel
theorem dL_law_337 : decode cL_law 337 = .ok (.iadd, 1) := by decide +kernel
theorem dL_law_338 : decode cL_law 338 = .ok (.iaload, 1) := by decide +kernel
theorem dL_law_339 : decode cL_law 339 = .ok (.aload_n 0, 1) := by decide +kernel
theorem dL_law_340 : decode cL_law 340 = .ok (.iload_n 3, 1) := by decide +kernel
theorem dL_law_341 : decode cL_law 341 = .ok (.iconst 4, 1) := by decide +kernel
theorem dL_law_342 : decode cL_law 342 = .ok (.iadd, 1) := by decide +kernel
theorem dL_law_343 : decode cL_law 343 = .ok (.iaload, 1) := by decide +kernel
theorem dL_law_344 : decode cL_law 344 = .ok (.aload_n 0, 1) := by decide +kernel
theorem dL_law_345 : decode cL_law 345 = .ok (.iload_n 3, 1) := by decide +kernel
theorem dL_law_346 : decode cL_law 346 = .ok (.iconst 5, 1) := by decide +kernel
theorem dL_law_347 : decode cL_law 347 = .ok (.iadd, 1) := by decide +kernel
theorem dL_law_348 : decode cL_law 348 = .ok (.iaload, 1) := by decide +kernel
theorem dL_law_349 : decode cL_law 349 = .ok (.invokevirtual 26, 3) := by decide +kernel
theorem dL_law_352 : decode cL_law 352 = .ok (.if_icmp .eq 1109, 3) := by decide +kernel
theorem dL_law_355 : decode cL_law 355 = .ok (.iconst 0, 1) := by decide +kernel
theorem dL_law_356 : decode cL_law 356 = .ok (.ireturn, 1) := by decide +kernel
theorem dL_law_357 : decode cL_law 357 = .ok (.aload_n 1, 1) := by decide +kernel
theorem dL_law_358 : decode cL_law 358 = .ok (.aload_n 0, 1) := by decide +kernel
theorem dL_law_359 : decode cL_law 359 = .ok (.iload_n 3, 1) := by decide +kernel
theorem dL_law_360 : decode cL_law 360 = .ok (.iconst 1, 1) := by decide +kernel
theorem dL_law_361 : decode cL_law 361 = .ok (.iadd, 1) := by decide +kernel
theorem dL_law_362 : decode cL_law 362 = .ok (.iaload, 1) := by decide +kernel
theorem dL_law_363 : decode cL_law 363 = .ok (.invokevirtual 27, 3) := by decide +kernel
theorem dL_law_366 : decode cL_law 366 = .ok (.aload_n 2, 1) := by decide +kernel
theorem dL_law_367 : decode cL_law 367 = .ok (.aload_n 0, 1) := by decide +kernel
theorem dL_law_368 : decode cL_law 368 = .ok (.iload_n 3, 1) := by decide +kernel
theorem dL_law_369 : decode cL_law 369 = .ok (.iconst 1, 1) := by decide +kernel
theorem dL_law_370 : decode cL_law 370 = .ok (.iadd, 1) := by decide +kernel
theorem dL_law_371 : decode cL_law 371 = .ok (.iaload, 1) := by decide +kernel
theorem dL_law_372 : decode cL_law 372 = .ok (.invokevirtual 31, 3) := by decide +kernel
theorem dL_law_375 : decode cL_law 375 = .ok (.if_icmp .eq 1086, 3) := by decide +kernel
theorem dL_law_378 : decode cL_law 378 = .ok (.iconst 0, 1) := by decide +kernel
theorem dL_law_379 : decode cL_law 379 = .ok (.ireturn, 1) := by decide +kernel
theorem dL_law_380 : decode cL_law 380 = .ok (.aload_n 1, 1) := by decide +kernel
theorem dL_law_381 : decode cL_law 381 = .ok (.aload_n 0, 1) := by decide +kernel
theorem dL_law_382 : decode cL_law 382 = .ok (.iload_n 3, 1) := by decide +kernel
theorem dL_law_383 : decode cL_law 383 = .ok (.iconst 1, 1) := by decide +kernel
theorem dL_law_384 : decode cL_law 384 = .ok (.iadd, 1) := by decide +kernel
theorem dL_law_385 : decode cL_law 385 = .ok (.iaload, 1) := by decide +kernel
theorem dL_law_386 : decode cL_law 386 = .ok (.invokevirtual 32, 3) := by decide +kernel
theorem dL_law_389 : decode cL_law 389 = .ok (.aload_n 2, 1) := by decide +kernel
theorem dL_law_390 : decode cL_law 390 = .ok (.aload_n 0, 1) := by decide +kernel
theorem dL_law_391 : decode cL_law 391 = .ok (.iload_n 3, 1) := by decide +kernel
theorem dL_law_392 : decode cL_law 392 = .ok (.iconst 1, 1) := by decide +kernel
theorem dL_law_393 : decode cL_law 393 = .ok (.iadd, 1) := by decide +kernel
theorem dL_law_394 : decode cL_law 394 = .ok (.iaload, 1) := by decide +kernel
theorem dL_law_395 : decode cL_law 395 = .ok (.invokevirtual 35, 3) := by decide +kernel
theorem dL_law_398 : decode cL_law 398 = .ok (.if_icmp .eq 1063, 3) := by decide +kernel
theorem dL_law_401 : decode cL_law 401 = .ok (.iconst 0, 1) := by decide +kernel
theorem dL_law_402 : decode cL_law 402 = .ok (.ireturn, 1) := by decide +kernel
theorem dL_law_403 : decode cL_law 403 = .ok (.aload_n 1, 1) := by decide +kernel
theorem dL_law_404 : decode cL_law 404 = .ok (.invokevirtual 36, 3) := by decide +kernel
theorem dL_law_407 : decode cL_law 407 = .ok (.aload_n 2, 1) := by decide +kernel
theorem dL_law_408 : decode cL_law 408 = .ok (.invokevirtual 40, 3) := by decide +kernel
theorem dL_law_411 : decode cL_law 411 = .ok (.if_icmp .eq 1050, 3) := by decide +kernel
theorem dL_law_414 : decode cL_law 414 = .ok (.iconst 0, 1) := by decide +kernel
theorem dL_law_415 : decode cL_law 415 = .ok (.ireturn, 1) := by decide +kernel
theorem dL_law_416 : decode cL_law 416 = .ok (.aload_n 1, 1) := by decide +kernel
theorem dL_law_417 : decode cL_law 417 = .ok (.invokevirtual 41, 3) := by decide +kernel
theorem dL_law_420 : decode cL_law 420 = .ok (.aload_n 2, 1) := by decide +kernel
theorem dL_law_421 : decode cL_law 421 = .ok (.invokevirtual 44, 3) := by decide +kernel
theorem dL_law_424 : decode cL_law 424 = .ok (.if_icmp .eq 1037, 3) := by decide +kernel
theorem dL_law_427 : decode cL_law 427 = .ok (.iconst 0, 1) := by decide +kernel
theorem dL_law_428 : decode cL_law 428 = .ok (.ireturn, 1) := by decide +kernel
theorem dL_law_429 : decode cL_law 429 = .ok (.aload_n 1, 1) := by decide +kernel
theorem dL_law_430 : decode cL_law 430 = .ok (.invokevirtual 45, 3) := by decide +kernel
theorem dL_law_433 : decode cL_law 433 = .ok (.aload_n 2, 1) := by decide +kernel
theorem dL_law_434 : decode cL_law 434 = .ok (.invokevirtual 48, 3) := by decide +kernel
theorem dL_law_437 : decode cL_law 437 = .ok (.if_icmp .eq 1024, 3) := by decide +kernel
theorem dL_law_440 : decode cL_law 440 = .ok (.iconst 0, 1) := by decide +kernel
theorem dL_law_441 : decode cL_law 441 = .ok (.ireturn, 1) := by decide +kernel
theorem dL_law_442 : decode cL_law 442 = .ok (.aload_n 1, 1) := by decide +kernel
theorem dL_law_443 : decode cL_law 443 = .ok (.aload_n 0, 1) := by decide +kernel
theorem dL_law_444 : decode cL_law 444 = .ok (.iload_n 3, 1) := by decide +kernel
theorem dL_law_445 : decode cL_law 445 = .ok (.iconst 1, 1) := by decide +kernel
theorem dL_law_446 : decode cL_law 446 = .ok (.iadd, 1) := by decide +kernel
theorem dL_law_447 : decode cL_law 447 = .ok (.iaload, 1) := by decide +kernel
theorem dL_law_448 : decode cL_law 448 = .ok (.invokevirtual 49, 3) := by decide +kernel
theorem dL_law_451 : decode cL_law 451 = .ok (.aload_n 2, 1) := by decide +kernel
theorem dL_law_452 : decode cL_law 452 = .ok (.aload_n 0, 1) := by decide +kernel
theorem dL_law_453 : decode cL_law 453 = .ok (.iload_n 3, 1) := by decide +kernel
theorem dL_law_454 : decode cL_law 454 = .ok (.iconst 1, 1) := by decide +kernel
theorem dL_law_455 : decode cL_law 455 = .ok (.iadd, 1) := by decide +kernel
theorem dL_law_456 : decode cL_law 456 = .ok (.iaload, 1) := by decide +kernel
theorem dL_law_457 : decode cL_law 457 = .ok (.invokevirtual 52, 3) := by decide +kernel
theorem dL_law_460 : decode cL_law 460 = .ok (.if_icmp .eq 1001, 3) := by decide +kernel
theorem dL_law_463 : decode cL_law 463 = .ok (.iconst 0, 1) := by decide +kernel
theorem dL_law_464 : decode cL_law 464 = .ok (.ireturn, 1) := by decide +kernel
theorem dL_law_465 : decode cL_law 465 = .ok (.aload_n 1, 1) := by decide +kernel
theorem dL_law_466 : decode cL_law 466 = .ok (.aload_n 0, 1) := by decide +kernel
theorem dL_law_467 : decode cL_law 467 = .ok (.iload_n 3, 1) := by decide +kernel
theorem dL_law_468 : decode cL_law 468 = .ok (.iconst 1, 1) := by decide +kernel
theorem dL_law_469 : decode cL_law 469 = .ok (.iadd, 1) := by decide +kernel
theorem dL_law_470 : decode cL_law 470 = .ok (.iaload, 1) := by decide +kernel
theorem dL_law_471 : decode cL_law 471 = .ok (.aload_n 0, 1) := by decide +kernel
theorem dL_law_472 : decode cL_law 472 = .ok (.iload_n 3, 1) := by decide +kernel
theorem dL_law_473 : decode cL_law 473 = .ok (.iconst 2, 1) := by decide +kernel
theorem dL_law_474 : decode cL_law 474 = .ok (.iadd, 1) := by decide +kernel
theorem dL_law_475 : decode cL_law 475 = .ok (.iaload, 1) := by decide +kernel
theorem dL_law_476 : decode cL_law 476 = .ok (.invokevirtual 53, 3) := by decide +kernel
theorem dL_law_479 : decode cL_law 479 = .ok (.aload_n 2, 1) := by decide +kernel
theorem dL_law_480 : decode cL_law 480 = .ok (.aload_n 0, 1) := by decide +kernel
theorem dL_law_481 : decode cL_law 481 = .ok (.iload_n 3, 1) := by decide +kernel
theorem dL_law_482 : decode cL_law 482 = .ok (.iconst 1, 1) := by decide +kernel
theorem dL_law_483 : decode cL_law 483 = .ok (.iadd, 1) := by decide +kernel
theorem dL_law_484 : decode cL_law 484 = .ok (.iaload, 1) := by decide +kernel
theorem dL_law_485 : decode cL_law 485 = .ok (.aload_n 0, 1) := by decide +kernel
theorem dL_law_486 : decode cL_law 486 = .ok (.iload_n 3, 1) := by decide +kernel
theorem dL_law_487 : decode cL_law 487 = .ok (.iconst 2, 1) := by decide +kernel
theorem dL_law_488 : decode cL_law 488 = .ok (.iadd, 1) := by decide +kernel
theorem dL_law_489 : decode cL_law 489 = .ok (.iaload, 1) := by decide +kernel
theorem dL_law_490 : decode cL_law 490 = .ok (.invokevirtual 57, 3) := by decide +kernel
theorem dL_law_493 : decode cL_law 493 = .ok (.if_icmp .eq 968, 3) := by decide +kernel
theorem dL_law_496 : decode cL_law 496 = .ok (.iconst 0, 1) := by decide +kernel
theorem dL_law_497 : decode cL_law 497 = .ok (.ireturn, 1) := by decide +kernel
theorem dL_law_498 : decode cL_law 498 = .ok (.aload_n 1, 1) := by decide +kernel
theorem dL_law_499 : decode cL_law 499 = .ok (.aload_n 0, 1) := by decide +kernel
theorem dL_law_500 : decode cL_law 500 = .ok (.iload_n 3, 1) := by decide +kernel
theorem dL_law_501 : decode cL_law 501 = .ok (.iconst 1, 1) := by decide +kernel
theorem dL_law_502 : decode cL_law 502 = .ok (.iadd, 1) := by decide +kernel
theorem dL_law_503 : decode cL_law 503 = .ok (.iaload, 1) := by decide +kernel
theorem dL_law_504 : decode cL_law 504 = .ok (.invokevirtual 58, 3) := by decide +kernel
theorem dL_law_507 : decode cL_law 507 = .ok (.aload_n 2, 1) := by decide +kernel
theorem dL_law_508 : decode cL_law 508 = .ok (.aload_n 0, 1) := by decide +kernel
theorem dL_law_509 : decode cL_law 509 = .ok (.iload_n 3, 1) := by decide +kernel
theorem dL_law_510 : decode cL_law 510 = .ok (.iconst 1, 1) := by decide +kernel
theorem dL_law_511 : decode cL_law 511 = .ok (.iadd, 1) := by decide +kernel
theorem dL_law_512 : decode cL_law 512 = .ok (.iaload, 1) := by decide +kernel
theorem dL_law_513 : decode cL_law 513 = .ok (.invokevirtual 61, 3) := by decide +kernel
theorem dL_law_516 : decode cL_law 516 = .ok (.if_icmp .eq 945, 3) := by decide +kernel
theorem dL_law_519 : decode cL_law 519 = .ok (.iconst 0, 1) := by decide +kernel
theorem dL_law_520 : decode cL_law 520 = .ok (.ireturn, 1) := by decide +kernel
theorem dL_law_521 : decode cL_law 521 = .ok (.aload_n 1, 1) := by decide +kernel
theorem dL_law_522 : decode cL_law 522 = .ok (.aload_n 0, 1) := by decide +kernel
theorem dL_law_523 : decode cL_law 523 = .ok (.iload_n 3, 1) := by decide +kernel
theorem dL_law_524 : decode cL_law 524 = .ok (.iconst 1, 1) := by decide +kernel
theorem dL_law_525 : decode cL_law 525 = .ok (.iadd, 1) := by decide +kernel
theorem dL_law_526 : decode cL_law 526 = .ok (.iaload, 1) := by decide +kernel
theorem dL_law_527 : decode cL_law 527 = .ok (.invokevirtual 62, 3) := by decide +kernel
theorem dL_law_530 : decode cL_law 530 = .ok (.aload_n 2, 1) := by decide +kernel
theorem dL_law_531 : decode cL_law 531 = .ok (.aload_n 0, 1) := by decide +kernel
theorem dL_law_532 : decode cL_law 532 = .ok (.iload_n 3, 1) := by decide +kernel
theorem dL_law_533 : decode cL_law 533 = .ok (.iconst 1, 1) := by decide +kernel
theorem dL_law_534 : decode cL_law 534 = .ok (.iadd, 1) := by decide +kernel
theorem dL_law_535 : decode cL_law 535 = .ok (.iaload, 1) := by decide +kernel
theorem dL_law_536 : decode cL_law 536 = .ok (.invokevirtual 65, 3) := by decide +kernel
theorem dL_law_539 : decode cL_law 539 = .ok (.if_icmp .eq 922, 3) := by decide +kernel
theorem dL_law_542 : decode cL_law 542 = .ok (.iconst 0, 1) := by decide +kernel
theorem dL_law_543 : decode cL_law 543 = .ok (.ireturn, 1) := by decide +kernel
theorem dL_law_544 : decode cL_law 544 = .ok (.aload_n 1, 1) := by decide +kernel
theorem dL_law_545 : decode cL_law 545 = .ok (.aload_n 0, 1) := by decide +kernel
theorem dL_law_546 : decode cL_law 546 = .ok (.iload_n 3, 1) := by decide +kernel
theorem dL_law_547 : decode cL_law 547 = .ok (.iconst 1, 1) := by decide +kernel
theorem dL_law_548 : decode cL_law 548 = .ok (.iadd, 1) := by decide +kernel
theorem dL_law_549 : decode cL_law 549 = .ok (.iaload, 1) := by decide +kernel
theorem dL_law_550 : decode cL_law 550 = .ok (.aload_n 0, 1) := by decide +kernel
theorem dL_law_551 : decode cL_law 551 = .ok (.iload_n 3, 1) := by decide +kernel
theorem dL_law_552 : decode cL_law 552 = .ok (.iconst 2, 1) := by decide +kernel
theorem dL_law_553 : decode cL_law 553 = .ok (.iadd, 1) := by decide +kernel
theorem dL_law_554 : decode cL_law 554 = .ok (.iaload, 1) := by decide +kernel
theorem dL_law_555 : decode cL_law 555 = .ok (.invokevirtual 66, 3) := by decide +kernel
theorem dL_law_558 : decode cL_law 558 = .ok (.aload_n 2, 1) := by decide +kernel
theorem dL_law_559 : decode cL_law 559 = .ok (.aload_n 0, 1) := by decide +kernel
theorem dL_law_560 : decode cL_law 560 = .ok (.iload_n 3, 1) := by decide +kernel
theorem dL_law_561 : decode cL_law 561 = .ok (.iconst 1, 1) := by decide +kernel
theorem dL_law_562 : decode cL_law 562 = .ok (.iadd, 1) := by decide +kernel
theorem dL_law_563 : decode cL_law 563 = .ok (.iaload, 1) := by decide +kernel
theorem dL_law_564 : decode cL_law 564 = .ok (.aload_n 0, 1) := by decide +kernel
theorem dL_law_565 : decode cL_law 565 = .ok (.iload_n 3, 1) := by decide +kernel
theorem dL_law_566 : decode cL_law 566 = .ok (.iconst 2, 1) := by decide +kernel
theorem dL_law_567 : decode cL_law 567 = .ok (.iadd, 1) := by decide +kernel
theorem dL_law_568 : decode cL_law 568 = .ok (.iaload, 1) := by decide +kernel
theorem dL_law_569 : decode cL_law 569 = .ok (.invokevirtual 69, 3) := by decide +kernel
theorem dL_law_572 : decode cL_law 572 = .ok (.if_icmp .eq 889, 3) := by decide +kernel
theorem dL_law_575 : decode cL_law 575 = .ok (.iconst 0, 1) := by decide +kernel
theorem dL_law_576 : decode cL_law 576 = .ok (.ireturn, 1) := by decide +kernel
theorem dL_law_577 : decode cL_law 577 = .ok (.aload_n 1, 1) := by decide +kernel
theorem dL_law_578 : decode cL_law 578 = .ok (.aload_n 0, 1) := by decide +kernel
theorem dL_law_579 : decode cL_law 579 = .ok (.iload_n 3, 1) := by decide +kernel
theorem dL_law_580 : decode cL_law 580 = .ok (.iconst 1, 1) := by decide +kernel
theorem dL_law_581 : decode cL_law 581 = .ok (.iadd, 1) := by decide +kernel
theorem dL_law_582 : decode cL_law 582 = .ok (.iaload, 1) := by decide +kernel
theorem dL_law_583 : decode cL_law 583 = .ok (.invokevirtual 70, 3) := by decide +kernel
theorem dL_law_586 : decode cL_law 586 = .ok (.aload_n 2, 1) := by decide +kernel
theorem dL_law_587 : decode cL_law 587 = .ok (.aload_n 0, 1) := by decide +kernel
theorem dL_law_588 : decode cL_law 588 = .ok (.iload_n 3, 1) := by decide +kernel
theorem dL_law_589 : decode cL_law 589 = .ok (.iconst 1, 1) := by decide +kernel
theorem dL_law_590 : decode cL_law 590 = .ok (.iadd, 1) := by decide +kernel
theorem dL_law_591 : decode cL_law 591 = .ok (.iaload, 1) := by decide +kernel
theorem dL_law_592 : decode cL_law 592 = .ok (.invokevirtual 73, 3) := by decide +kernel
theorem dL_law_595 : decode cL_law 595 = .ok (.if_icmp .eq 866, 3) := by decide +kernel
theorem dL_law_598 : decode cL_law 598 = .ok (.iconst 0, 1) := by decide +kernel
theorem dL_law_599 : decode cL_law 599 = .ok (.ireturn, 1) := by decide +kernel
theorem dL_law_600 : decode cL_law 600 = .ok (.aload_n 1, 1) := by decide +kernel
theorem dL_law_601 : decode cL_law 601 = .ok (.aload_n 0, 1) := by decide +kernel
theorem dL_law_602 : decode cL_law 602 = .ok (.iload_n 3, 1) := by decide +kernel
theorem dL_law_603 : decode cL_law 603 = .ok (.iconst 1, 1) := by decide +kernel
theorem dL_law_604 : decode cL_law 604 = .ok (.iadd, 1) := by decide +kernel
theorem dL_law_605 : decode cL_law 605 = .ok (.iaload, 1) := by decide +kernel
theorem dL_law_606 : decode cL_law 606 = .ok (.aload_n 0, 1) := by decide +kernel
theorem dL_law_607 : decode cL_law 607 = .ok (.iload_n 3, 1) := by decide +kernel
theorem dL_law_608 : decode cL_law 608 = .ok (.iconst 2, 1) := by decide +kernel
theorem dL_law_609 : decode cL_law 609 = .ok (.iadd, 1) := by decide +kernel
theorem dL_law_610 : decode cL_law 610 = .ok (.iaload, 1) := by decide +kernel
theorem dL_law_611 : decode cL_law 611 = .ok (.invokevirtual 74, 3) := by decide +kernel
theorem dL_law_614 : decode cL_law 614 = .ok (.aload_n 2, 1) := by decide +kernel
theorem dL_law_615 : decode cL_law 615 = .ok (.aload_n 0, 1) := by decide +kernel
theorem dL_law_616 : decode cL_law 616 = .ok (.iload_n 3, 1) := by decide +kernel
theorem dL_law_617 : decode cL_law 617 = .ok (.iconst 1, 1) := by decide +kernel
theorem dL_law_618 : decode cL_law 618 = .ok (.iadd, 1) := by decide +kernel
theorem dL_law_619 : decode cL_law 619 = .ok (.iaload, 1) := by decide +kernel
theorem dL_law_620 : decode cL_law 620 = .ok (.aload_n 0, 1) := by decide +kernel
theorem dL_law_621 : decode cL_law 621 = .ok (.iload_n 3, 1) := by decide +kernel
theorem dL_law_622 : decode cL_law 622 = .ok (.iconst 2, 1) := by decide +kernel
theorem dL_law_623 : decode cL_law 623 = .ok (.iadd, 1) := by decide +kernel
theorem dL_law_624 : decode cL_law 624 = .ok (.iaload, 1) := by decide +kernel
theorem dL_law_625 : decode cL_law 625 = .ok (.invokevirtual 77, 3) := by decide +kernel
theorem dL_law_628 : decode cL_law 628 = .ok (.if_icmp .eq 833, 3) := by decide +kernel
theorem dL_law_631 : decode cL_law 631 = .ok (.iconst 0, 1) := by decide +kernel
theorem dL_law_632 : decode cL_law 632 = .ok (.ireturn, 1) := by decide +kernel
theorem dL_law_633 : decode cL_law 633 = .ok (.aload_n 1, 1) := by decide +kernel
theorem dL_law_634 : decode cL_law 634 = .ok (.aload_n 0, 1) := by decide +kernel
theorem dL_law_635 : decode cL_law 635 = .ok (.iload_n 3, 1) := by decide +kernel
theorem dL_law_636 : decode cL_law 636 = .ok (.iconst 1, 1) := by decide +kernel
theorem dL_law_637 : decode cL_law 637 = .ok (.iadd, 1) := by decide +kernel
theorem dL_law_638 : decode cL_law 638 = .ok (.iaload, 1) := by decide +kernel
theorem dL_law_639 : decode cL_law 639 = .ok (.aload_n 0, 1) := by decide +kernel
theorem dL_law_640 : decode cL_law 640 = .ok (.iload_n 3, 1) := by decide +kernel
theorem dL_law_641 : decode cL_law 641 = .ok (.iconst 2, 1) := by decide +kernel
theorem dL_law_642 : decode cL_law 642 = .ok (.iadd, 1) := by decide +kernel
theorem dL_law_643 : decode cL_law 643 = .ok (.iaload, 1) := by decide +kernel
theorem dL_law_644 : decode cL_law 644 = .ok (.invokevirtual 78, 3) := by decide +kernel
theorem dL_law_647 : decode cL_law 647 = .ok (.aload_n 2, 1) := by decide +kernel
theorem dL_law_648 : decode cL_law 648 = .ok (.aload_n 0, 1) := by decide +kernel
theorem dL_law_649 : decode cL_law 649 = .ok (.iload_n 3, 1) := by decide +kernel
theorem dL_law_650 : decode cL_law 650 = .ok (.iconst 1, 1) := by decide +kernel
theorem dL_law_651 : decode cL_law 651 = .ok (.iadd, 1) := by decide +kernel
theorem dL_law_652 : decode cL_law 652 = .ok (.iaload, 1) := by decide +kernel
theorem dL_law_653 : decode cL_law 653 = .ok (.aload_n 0, 1) := by decide +kernel
theorem dL_law_654 : decode cL_law 654 = .ok (.iload_n 3, 1) := by decide +kernel
theorem dL_law_655 : decode cL_law 655 = .ok (.iconst 2, 1) := by decide +kernel
theorem dL_law_656 : decode cL_law 656 = .ok (.iadd, 1) := by decide +kernel
theorem dL_law_657 : decode cL_law 657 = .ok (.iaload, 1) := by decide +kernel
theorem dL_law_658 : decode cL_law 658 = .ok (.invokevirtual 81, 3) := by decide +kernel
theorem dL_law_661 : decode cL_law 661 = .ok (.if_icmp .eq 800, 3) := by decide +kernel
theorem dL_law_664 : decode cL_law 664 = .ok (.iconst 0, 1) := by decide +kernel
theorem dL_law_665 : decode cL_law 665 = .ok (.ireturn, 1) := by decide +kernel
theorem dL_law_666 : decode cL_law 666 = .ok (.aload_n 1, 1) := by decide +kernel
theorem dL_law_667 : decode cL_law 667 = .ok (.aload_n 0, 1) := by decide +kernel
theorem dL_law_668 : decode cL_law 668 = .ok (.iload_n 3, 1) := by decide +kernel
theorem dL_law_669 : decode cL_law 669 = .ok (.iconst 1, 1) := by decide +kernel
theorem dL_law_670 : decode cL_law 670 = .ok (.iadd, 1) := by decide +kernel
theorem dL_law_671 : decode cL_law 671 = .ok (.iaload, 1) := by decide +kernel
theorem dL_law_672 : decode cL_law 672 = .ok (.aload_n 0, 1) := by decide +kernel
theorem dL_law_673 : decode cL_law 673 = .ok (.iload_n 3, 1) := by decide +kernel
theorem dL_law_674 : decode cL_law 674 = .ok (.iconst 2, 1) := by decide +kernel
theorem dL_law_675 : decode cL_law 675 = .ok (.iadd, 1) := by decide +kernel
theorem dL_law_676 : decode cL_law 676 = .ok (.iaload, 1) := by decide +kernel
theorem dL_law_677 : decode cL_law 677 = .ok (.invokevirtual 82, 3) := by decide +kernel
theorem dL_law_680 : decode cL_law 680 = .ok (.aload_n 2, 1) := by decide +kernel
theorem dL_law_681 : decode cL_law 681 = .ok (.aload_n 0, 1) := by decide +kernel
theorem dL_law_682 : decode cL_law 682 = .ok (.iload_n 3, 1) := by decide +kernel
theorem dL_law_683 : decode cL_law 683 = .ok (.iconst 1, 1) := by decide +kernel
theorem dL_law_684 : decode cL_law 684 = .ok (.iadd, 1) := by decide +kernel
theorem dL_law_685 : decode cL_law 685 = .ok (.iaload, 1) := by decide +kernel
theorem dL_law_686 : decode cL_law 686 = .ok (.aload_n 0, 1) := by decide +kernel
theorem dL_law_687 : decode cL_law 687 = .ok (.iload_n 3, 1) := by decide +kernel
theorem dL_law_688 : decode cL_law 688 = .ok (.iconst 2, 1) := by decide +kernel
theorem dL_law_689 : decode cL_law 689 = .ok (.iadd, 1) := by decide +kernel
theorem dL_law_690 : decode cL_law 690 = .ok (.iaload, 1) := by decide +kernel
theorem dL_law_691 : decode cL_law 691 = .ok (.invokevirtual 85, 3) := by decide +kernel
theorem dL_law_694 : decode cL_law 694 = .ok (.if_icmp .eq 767, 3) := by decide +kernel
theorem dL_law_697 : decode cL_law 697 = .ok (.iconst 0, 1) := by decide +kernel
theorem dL_law_698 : decode cL_law 698 = .ok (.ireturn, 1) := by decide +kernel
theorem dL_law_699 : decode cL_law 699 = .ok (.aload_n 1, 1) := by decide +kernel
theorem dL_law_700 : decode cL_law 700 = .ok (.aload_n 0, 1) := by decide +kernel
theorem dL_law_701 : decode cL_law 701 = .ok (.iload_n 3, 1) := by decide +kernel
theorem dL_law_702 : decode cL_law 702 = .ok (.iconst 1, 1) := by decide +kernel
theorem dL_law_703 : decode cL_law 703 = .ok (.iadd, 1) := by decide +kernel
theorem dL_law_704 : decode cL_law 704 = .ok (.iaload, 1) := by decide +kernel
theorem dL_law_705 : decode cL_law 705 = .ok (.invokevirtual 86, 3) := by decide +kernel
theorem dL_law_708 : decode cL_law 708 = .ok (.aload_n 2, 1) := by decide +kernel
theorem dL_law_709 : decode cL_law 709 = .ok (.aload_n 0, 1) := by decide +kernel
theorem dL_law_710 : decode cL_law 710 = .ok (.iload_n 3, 1) := by decide +kernel
theorem dL_law_711 : decode cL_law 711 = .ok (.iconst 1, 1) := by decide +kernel
theorem dL_law_712 : decode cL_law 712 = .ok (.iadd, 1) := by decide +kernel
theorem dL_law_713 : decode cL_law 713 = .ok (.iaload, 1) := by decide +kernel
theorem dL_law_714 : decode cL_law 714 = .ok (.invokevirtual 89, 3) := by decide +kernel
theorem dL_law_717 : decode cL_law 717 = .ok (.if_icmp .eq 744, 3) := by decide +kernel
theorem dL_law_720 : decode cL_law 720 = .ok (.iconst 0, 1) := by decide +kernel
theorem dL_law_721 : decode cL_law 721 = .ok (.ireturn, 1) := by decide +kernel
theorem dL_law_722 : decode cL_law 722 = .ok (.aload_n 1, 1) := by decide +kernel
theorem dL_law_723 : decode cL_law 723 = .ok (.aload_n 0, 1) := by decide +kernel
theorem dL_law_724 : decode cL_law 724 = .ok (.iload_n 3, 1) := by decide +kernel
theorem dL_law_725 : decode cL_law 725 = .ok (.iconst 1, 1) := by decide +kernel
theorem dL_law_726 : decode cL_law 726 = .ok (.iadd, 1) := by decide +kernel
theorem dL_law_727 : decode cL_law 727 = .ok (.iaload, 1) := by decide +kernel
theorem dL_law_728 : decode cL_law 728 = .ok (.invokevirtual 90, 3) := by decide +kernel
theorem dL_law_731 : decode cL_law 731 = .ok (.aload_n 2, 1) := by decide +kernel
theorem dL_law_732 : decode cL_law 732 = .ok (.aload_n 0, 1) := by decide +kernel
theorem dL_law_733 : decode cL_law 733 = .ok (.iload_n 3, 1) := by decide +kernel
theorem dL_law_734 : decode cL_law 734 = .ok (.iconst 1, 1) := by decide +kernel
theorem dL_law_735 : decode cL_law 735 = .ok (.iadd, 1) := by decide +kernel
theorem dL_law_736 : decode cL_law 736 = .ok (.iaload, 1) := by decide +kernel
theorem dL_law_737 : decode cL_law 737 = .ok (.invokevirtual 93, 3) := by decide +kernel
theorem dL_law_740 : decode cL_law 740 = .ok (.if_icmp .eq 721, 3) := by decide +kernel
theorem dL_law_743 : decode cL_law 743 = .ok (.iconst 0, 1) := by decide +kernel
theorem dL_law_744 : decode cL_law 744 = .ok (.ireturn, 1) := by decide +kernel
theorem dL_law_745 : decode cL_law 745 = .ok (.aload_n 1, 1) := by decide +kernel
theorem dL_law_746 : decode cL_law 746 = .ok (.aload_n 0, 1) := by decide +kernel
theorem dL_law_747 : decode cL_law 747 = .ok (.iload_n 3, 1) := by decide +kernel
theorem dL_law_748 : decode cL_law 748 = .ok (.iconst 1, 1) := by decide +kernel
theorem dL_law_749 : decode cL_law 749 = .ok (.iadd, 1) := by decide +kernel
theorem dL_law_750 : decode cL_law 750 = .ok (.iaload, 1) := by decide +kernel
theorem dL_law_751 : decode cL_law 751 = .ok (.aload_n 0, 1) := by decide +kernel
theorem dL_law_752 : decode cL_law 752 = .ok (.iload_n 3, 1) := by decide +kernel
theorem dL_law_753 : decode cL_law 753 = .ok (.iconst 2, 1) := by decide +kernel
theorem dL_law_754 : decode cL_law 754 = .ok (.iadd, 1) := by decide +kernel
theorem dL_law_755 : decode cL_law 755 = .ok (.iaload, 1) := by decide +kernel
theorem dL_law_756 : decode cL_law 756 = .ok (.invokevirtual 94, 3) := by decide +kernel
theorem dL_law_759 : decode cL_law 759 = .ok (.aload_n 2, 1) := by decide +kernel
theorem dL_law_760 : decode cL_law 760 = .ok (.aload_n 0, 1) := by decide +kernel
theorem dL_law_761 : decode cL_law 761 = .ok (.iload_n 3, 1) := by decide +kernel
theorem dL_law_762 : decode cL_law 762 = .ok (.iconst 1, 1) := by decide +kernel
theorem dL_law_763 : decode cL_law 763 = .ok (.iadd, 1) := by decide +kernel
theorem dL_law_764 : decode cL_law 764 = .ok (.iaload, 1) := by decide +kernel
theorem dL_law_765 : decode cL_law 765 = .ok (.aload_n 0, 1) := by decide +kernel
theorem dL_law_766 : decode cL_law 766 = .ok (.iload_n 3, 1) := by decide +kernel
theorem dL_law_767 : decode cL_law 767 = .ok (.iconst 2, 1) := by decide +kernel
theorem dL_law_768 : decode cL_law 768 = .ok (.iadd, 1) := by decide +kernel
theorem dL_law_769 : decode cL_law 769 = .ok (.iaload, 1) := by decide +kernel
theorem dL_law_770 : decode cL_law 770 = .ok (.invokevirtual 97, 3) := by decide +kernel
theorem dL_law_773 : decode cL_law 773 = .ok (.if_icmp .eq 688, 3) := by decide +kernel
theorem dL_law_776 : decode cL_law 776 = .ok (.iconst 0, 1) := by decide +kernel
theorem dL_law_777 : decode cL_law 777 = .ok (.ireturn, 1) := by decide +kernel
theorem dL_law_778 : decode cL_law 778 = .ok (.aload_n 1, 1) := by decide +kernel
theorem dL_law_779 : decode cL_law 779 = .ok (.aload_n 0, 1) := by decide +kernel
theorem dL_law_780 : decode cL_law 780 = .ok (.iload_n 3, 1) := by decide +kernel
theorem dL_law_781 : decode cL_law 781 = .ok (.iconst 1, 1) := by decide +kernel
theorem dL_law_782 : decode cL_law 782 = .ok (.iadd, 1) := by decide +kernel
theorem dL_law_783 : decode cL_law 783 = .ok (.iaload, 1) := by decide +kernel
theorem dL_law_784 : decode cL_law 784 = .ok (.aload_n 0, 1) := by decide +kernel
theorem dL_law_785 : decode cL_law 785 = .ok (.iload_n 3, 1) := by decide +kernel
theorem dL_law_786 : decode cL_law 786 = .ok (.iconst 2, 1) := by decide +kernel
theorem dL_law_787 : decode cL_law 787 = .ok (.iadd, 1) := by decide +kernel
theorem dL_law_788 : decode cL_law 788 = .ok (.iaload, 1) := by decide +kernel
theorem dL_law_789 : decode cL_law 789 = .ok (.invokevirtual 98, 3) := by decide +kernel
theorem dL_law_792 : decode cL_law 792 = .ok (.aload_n 2, 1) := by decide +kernel
theorem dL_law_793 : decode cL_law 793 = .ok (.aload_n 0, 1) := by decide +kernel
theorem dL_law_794 : decode cL_law 794 = .ok (.iload_n 3, 1) := by decide +kernel
theorem dL_law_795 : decode cL_law 795 = .ok (.iconst 1, 1) := by decide +kernel
theorem dL_law_796 : decode cL_law 796 = .ok (.iadd, 1) := by decide +kernel
theorem dL_law_797 : decode cL_law 797 = .ok (.iaload, 1) := by decide +kernel
theorem dL_law_798 : decode cL_law 798 = .ok (.aload_n 0, 1) := by decide +kernel
theorem dL_law_799 : decode cL_law 799 = .ok (.iload_n 3, 1) := by decide +kernel
theorem dL_law_800 : decode cL_law 800 = .ok (.iconst 2, 1) := by decide +kernel
theorem dL_law_801 : decode cL_law 801 = .ok (.iadd, 1) := by decide +kernel
theorem dL_law_802 : decode cL_law 802 = .ok (.iaload, 1) := by decide +kernel
theorem dL_law_803 : decode cL_law 803 = .ok (.invokevirtual 101, 3) := by decide +kernel
theorem dL_law_806 : decode cL_law 806 = .ok (.if_icmp .eq 655, 3) := by decide +kernel
theorem dL_law_809 : decode cL_law 809 = .ok (.iconst 0, 1) := by decide +kernel
theorem dL_law_810 : decode cL_law 810 = .ok (.ireturn, 1) := by decide +kernel
theorem dL_law_811 : decode cL_law 811 = .ok (.aload_n 1, 1) := by decide +kernel
theorem dL_law_812 : decode cL_law 812 = .ok (.aload_n 0, 1) := by decide +kernel
theorem dL_law_813 : decode cL_law 813 = .ok (.iload_n 3, 1) := by decide +kernel
theorem dL_law_814 : decode cL_law 814 = .ok (.iconst 1, 1) := by decide +kernel
theorem dL_law_815 : decode cL_law 815 = .ok (.iadd, 1) := by decide +kernel
theorem dL_law_816 : decode cL_law 816 = .ok (.iaload, 1) := by decide +kernel
theorem dL_law_817 : decode cL_law 817 = .ok (.invokevirtual 102, 3) := by decide +kernel
theorem dL_law_820 : decode cL_law 820 = .ok (.aload_n 2, 1) := by decide +kernel
theorem dL_law_821 : decode cL_law 821 = .ok (.aload_n 0, 1) := by decide +kernel
theorem dL_law_822 : decode cL_law 822 = .ok (.iload_n 3, 1) := by decide +kernel
theorem dL_law_823 : decode cL_law 823 = .ok (.iconst 1, 1) := by decide +kernel
theorem dL_law_824 : decode cL_law 824 = .ok (.iadd, 1) := by decide +kernel
theorem dL_law_825 : decode cL_law 825 = .ok (.iaload, 1) := by decide +kernel
theorem dL_law_826 : decode cL_law 826 = .ok (.invokevirtual 105, 3) := by decide +kernel
theorem dL_law_829 : decode cL_law 829 = .ok (.if_icmp .eq 632, 3) := by decide +kernel
theorem dL_law_832 : decode cL_law 832 = .ok (.iconst 0, 1) := by decide +kernel
theorem dL_law_833 : decode cL_law 833 = .ok (.ireturn, 1) := by decide +kernel
theorem dL_law_834 : decode cL_law 834 = .ok (.aload_n 1, 1) := by decide +kernel
theorem dL_law_835 : decode cL_law 835 = .ok (.aload_n 0, 1) := by decide +kernel
theorem dL_law_836 : decode cL_law 836 = .ok (.iload_n 3, 1) := by decide +kernel
theorem dL_law_837 : decode cL_law 837 = .ok (.iconst 1, 1) := by decide +kernel
theorem dL_law_838 : decode cL_law 838 = .ok (.iadd, 1) := by decide +kernel
theorem dL_law_839 : decode cL_law 839 = .ok (.iaload, 1) := by decide +kernel
theorem dL_law_840 : decode cL_law 840 = .ok (.aload_n 0, 1) := by decide +kernel
theorem dL_law_841 : decode cL_law 841 = .ok (.iload_n 3, 1) := by decide +kernel
theorem dL_law_842 : decode cL_law 842 = .ok (.iconst 2, 1) := by decide +kernel
theorem dL_law_843 : decode cL_law 843 = .ok (.iadd, 1) := by decide +kernel
theorem dL_law_844 : decode cL_law 844 = .ok (.iaload, 1) := by decide +kernel
theorem dL_law_845 : decode cL_law 845 = .ok (.aload_n 0, 1) := by decide +kernel
theorem dL_law_846 : decode cL_law 846 = .ok (.iload_n 3, 1) := by decide +kernel
theorem dL_law_847 : decode cL_law 847 = .ok (.iconst 3, 1) := by decide +kernel
theorem dL_law_848 : decode cL_law 848 = .ok (.iadd, 1) := by decide +kernel
theorem dL_law_849 : decode cL_law 849 = .ok (.iaload, 1) := by decide +kernel
theorem dL_law_850 : decode cL_law 850 = .ok (.invokevirtual 106, 3) := by decide +kernel
theorem dL_law_853 : decode cL_law 853 = .ok (.aload_n 2, 1) := by decide +kernel
theorem dL_law_854 : decode cL_law 854 = .ok (.aload_n 0, 1) := by decide +kernel
theorem dL_law_855 : decode cL_law 855 = .ok (.iload_n 3, 1) := by decide +kernel
theorem dL_law_856 : decode cL_law 856 = .ok (.iconst 1, 1) := by decide +kernel
theorem dL_law_857 : decode cL_law 857 = .ok (.iadd, 1) := by decide +kernel
theorem dL_law_858 : decode cL_law 858 = .ok (.iaload, 1) := by decide +kernel
theorem dL_law_859 : decode cL_law 859 = .ok (.aload_n 0, 1) := by decide +kernel
theorem dL_law_860 : decode cL_law 860 = .ok (.iload_n 3, 1) := by decide +kernel
theorem dL_law_861 : decode cL_law 861 = .ok (.iconst 2, 1) := by decide +kernel
theorem dL_law_862 : decode cL_law 862 = .ok (.iadd, 1) := by decide +kernel
theorem dL_law_863 : decode cL_law 863 = .ok (.iaload, 1) := by decide +kernel
theorem dL_law_864 : decode cL_law 864 = .ok (.aload_n 0, 1) := by decide +kernel
theorem dL_law_865 : decode cL_law 865 = .ok (.iload_n 3, 1) := by decide +kernel
theorem dL_law_866 : decode cL_law 866 = .ok (.iconst 3, 1) := by decide +kernel
theorem dL_law_867 : decode cL_law 867 = .ok (.iadd, 1) := by decide +kernel
theorem dL_law_868 : decode cL_law 868 = .ok (.iaload, 1) := by decide +kernel
theorem dL_law_869 : decode cL_law 869 = .ok (.invokevirtual 109, 3) := by decide +kernel
theorem dL_law_872 : decode cL_law 872 = .ok (.if_icmp .eq 589, 3) := by decide +kernel
theorem dL_law_875 : decode cL_law 875 = .ok (.iconst 0, 1) := by decide +kernel
theorem dL_law_876 : decode cL_law 876 = .ok (.ireturn, 1) := by decide +kernel
theorem dL_law_877 : decode cL_law 877 = .ok (.aload_n 1, 1) := by decide +kernel
theorem dL_law_878 : decode cL_law 878 = .ok (.aload_n 0, 1) := by decide +kernel
theorem dL_law_879 : decode cL_law 879 = .ok (.iload_n 3, 1) := by decide +kernel
theorem dL_law_880 : decode cL_law 880 = .ok (.iconst 1, 1) := by decide +kernel
theorem dL_law_881 : decode cL_law 881 = .ok (.iadd, 1) := by decide +kernel
theorem dL_law_882 : decode cL_law 882 = .ok (.iaload, 1) := by decide +kernel
theorem dL_law_883 : decode cL_law 883 = .ok (.aload_n 0, 1) := by decide +kernel
theorem dL_law_884 : decode cL_law 884 = .ok (.iload_n 3, 1) := by decide +kernel
theorem dL_law_885 : decode cL_law 885 = .ok (.iconst 2, 1) := by decide +kernel
theorem dL_law_886 : decode cL_law 886 = .ok (.iadd, 1) := by decide +kernel
theorem dL_law_887 : decode cL_law 887 = .ok (.iaload, 1) := by decide +kernel
theorem dL_law_888 : decode cL_law 888 = .ok (.aload_n 0, 1) := by decide +kernel
theorem dL_law_889 : decode cL_law 889 = .ok (.iload_n 3, 1) := by decide +kernel
theorem dL_law_890 : decode cL_law 890 = .ok (.iconst 3, 1) := by decide +kernel
theorem dL_law_891 : decode cL_law 891 = .ok (.iadd, 1) := by decide +kernel
theorem dL_law_892 : decode cL_law 892 = .ok (.iaload, 1) := by decide +kernel
theorem dL_law_893 : decode cL_law 893 = .ok (.invokevirtual 110, 3) := by decide +kernel
theorem dL_law_896 : decode cL_law 896 = .ok (.aload_n 2, 1) := by decide +kernel
theorem dL_law_897 : decode cL_law 897 = .ok (.aload_n 0, 1) := by decide +kernel
theorem dL_law_898 : decode cL_law 898 = .ok (.iload_n 3, 1) := by decide +kernel
theorem dL_law_899 : decode cL_law 899 = .ok (.iconst 1, 1) := by decide +kernel
theorem dL_law_900 : decode cL_law 900 = .ok (.iadd, 1) := by decide +kernel
theorem dL_law_901 : decode cL_law 901 = .ok (.iaload, 1) := by decide +kernel
theorem dL_law_902 : decode cL_law 902 = .ok (.aload_n 0, 1) := by decide +kernel
theorem dL_law_903 : decode cL_law 903 = .ok (.iload_n 3, 1) := by decide +kernel
theorem dL_law_904 : decode cL_law 904 = .ok (.iconst 2, 1) := by decide +kernel
theorem dL_law_905 : decode cL_law 905 = .ok (.iadd, 1) := by decide +kernel
theorem dL_law_906 : decode cL_law 906 = .ok (.iaload, 1) := by decide +kernel
theorem dL_law_907 : decode cL_law 907 = .ok (.aload_n 0, 1) := by decide +kernel
theorem dL_law_908 : decode cL_law 908 = .ok (.iload_n 3, 1) := by decide +kernel
theorem dL_law_909 : decode cL_law 909 = .ok (.iconst 3, 1) := by decide +kernel
theorem dL_law_910 : decode cL_law 910 = .ok (.iadd, 1) := by decide +kernel
theorem dL_law_911 : decode cL_law 911 = .ok (.iaload, 1) := by decide +kernel
theorem dL_law_912 : decode cL_law 912 = .ok (.invokevirtual 113, 3) := by decide +kernel
theorem dL_law_915 : decode cL_law 915 = .ok (.if_icmp .eq 546, 3) := by decide +kernel
theorem dL_law_918 : decode cL_law 918 = .ok (.iconst 0, 1) := by decide +kernel
theorem dL_law_919 : decode cL_law 919 = .ok (.ireturn, 1) := by decide +kernel
theorem dL_law_920 : decode cL_law 920 = .ok (.aload_n 1, 1) := by decide +kernel
theorem dL_law_921 : decode cL_law 921 = .ok (.aload_n 0, 1) := by decide +kernel
theorem dL_law_922 : decode cL_law 922 = .ok (.iload_n 3, 1) := by decide +kernel
theorem dL_law_923 : decode cL_law 923 = .ok (.iconst 1, 1) := by decide +kernel
theorem dL_law_924 : decode cL_law 924 = .ok (.iadd, 1) := by decide +kernel
theorem dL_law_925 : decode cL_law 925 = .ok (.iaload, 1) := by decide +kernel
theorem dL_law_926 : decode cL_law 926 = .ok (.aload_n 0, 1) := by decide +kernel
theorem dL_law_927 : decode cL_law 927 = .ok (.iload_n 3, 1) := by decide +kernel
theorem dL_law_928 : decode cL_law 928 = .ok (.iconst 2, 1) := by decide +kernel
theorem dL_law_929 : decode cL_law 929 = .ok (.iadd, 1) := by decide +kernel
theorem dL_law_930 : decode cL_law 930 = .ok (.iaload, 1) := by decide +kernel
theorem dL_law_931 : decode cL_law 931 = .ok (.invokevirtual 114, 3) := by decide +kernel
theorem dL_law_934 : decode cL_law 934 = .ok (.aload_n 2, 1) := by decide +kernel
theorem dL_law_935 : decode cL_law 935 = .ok (.aload_n 0, 1) := by decide +kernel
theorem dL_law_936 : decode cL_law 936 = .ok (.iload_n 3, 1) := by decide +kernel
theorem dL_law_937 : decode cL_law 937 = .ok (.iconst 1, 1) := by decide +kernel
theorem dL_law_938 : decode cL_law 938 = .ok (.iadd, 1) := by decide +kernel
theorem dL_law_939 : decode cL_law 939 = .ok (.iaload, 1) := by decide +kernel
theorem dL_law_940 : decode cL_law 940 = .ok (.aload_n 0, 1) := by decide +kernel
theorem dL_law_941 : decode cL_law 941 = .ok (.iload_n 3, 1) := by decide +kernel
theorem dL_law_942 : decode cL_law 942 = .ok (.iconst 2, 1) := by decide +kernel
theorem dL_law_943 : decode cL_law 943 = .ok (.iadd, 1) := by decide +kernel
theorem dL_law_944 : decode cL_law 944 = .ok (.iaload, 1) := by decide +kernel
theorem dL_law_945 : decode cL_law 945 = .ok (.invokevirtual 117, 3) := by decide +kernel
theorem dL_law_948 : decode cL_law 948 = .ok (.if_icmp .eq 513, 3) := by decide +kernel
theorem dL_law_951 : decode cL_law 951 = .ok (.iconst 0, 1) := by decide +kernel
theorem dL_law_952 : decode cL_law 952 = .ok (.ireturn, 1) := by decide +kernel
theorem dL_law_953 : decode cL_law 953 = .ok (.aload_n 1, 1) := by decide +kernel
theorem dL_law_954 : decode cL_law 954 = .ok (.aload_n 0, 1) := by decide +kernel
theorem dL_law_955 : decode cL_law 955 = .ok (.iload_n 3, 1) := by decide +kernel
theorem dL_law_956 : decode cL_law 956 = .ok (.iconst 1, 1) := by decide +kernel
theorem dL_law_957 : decode cL_law 957 = .ok (.iadd, 1) := by decide +kernel
theorem dL_law_958 : decode cL_law 958 = .ok (.iaload, 1) := by decide +kernel
theorem dL_law_959 : decode cL_law 959 = .ok (.aload_n 0, 1) := by decide +kernel
theorem dL_law_960 : decode cL_law 960 = .ok (.iload_n 3, 1) := by decide +kernel
theorem dL_law_961 : decode cL_law 961 = .ok (.iconst 2, 1) := by decide +kernel
theorem dL_law_962 : decode cL_law 962 = .ok (.iadd, 1) := by decide +kernel
theorem dL_law_963 : decode cL_law 963 = .ok (.iaload, 1) := by decide +kernel
theorem dL_law_964 : decode cL_law 964 = .ok (.aload_n 0, 1) := by decide +kernel
theorem dL_law_965 : decode cL_law 965 = .ok (.iload_n 3, 1) := by decide +kernel
theorem dL_law_966 : decode cL_law 966 = .ok (.iconst 3, 1) := by decide +kernel
theorem dL_law_967 : decode cL_law 967 = .ok (.iadd, 1) := by decide +kernel
theorem dL_law_968 : decode cL_law 968 = .ok (.iaload, 1) := by decide +kernel
theorem dL_law_969 : decode cL_law 969 = .ok (.invokevirtual 118, 3) := by decide +kernel
theorem dL_law_972 : decode cL_law 972 = .ok (.aload_n 2, 1) := by decide +kernel
theorem dL_law_973 : decode cL_law 973 = .ok (.aload_n 0, 1) := by decide +kernel
theorem dL_law_974 : decode cL_law 974 = .ok (.iload_n 3, 1) := by decide +kernel
theorem dL_law_975 : decode cL_law 975 = .ok (.iconst 1, 1) := by decide +kernel
theorem dL_law_976 : decode cL_law 976 = .ok (.iadd, 1) := by decide +kernel
theorem dL_law_977 : decode cL_law 977 = .ok (.iaload, 1) := by decide +kernel
theorem dL_law_978 : decode cL_law 978 = .ok (.aload_n 0, 1) := by decide +kernel
theorem dL_law_979 : decode cL_law 979 = .ok (.iload_n 3, 1) := by decide +kernel
theorem dL_law_980 : decode cL_law 980 = .ok (.iconst 2, 1) := by decide +kernel
theorem dL_law_981 : decode cL_law 981 = .ok (.iadd, 1) := by decide +kernel
theorem dL_law_982 : decode cL_law 982 = .ok (.iaload, 1) := by decide +kernel
theorem dL_law_983 : decode cL_law 983 = .ok (.aload_n 0, 1) := by decide +kernel
theorem dL_law_984 : decode cL_law 984 = .ok (.iload_n 3, 1) := by decide +kernel
theorem dL_law_985 : decode cL_law 985 = .ok (.iconst 3, 1) := by decide +kernel
theorem dL_law_986 : decode cL_law 986 = .ok (.iadd, 1) := by decide +kernel
theorem dL_law_987 : decode cL_law 987 = .ok (.iaload, 1) := by decide +kernel
theorem dL_law_988 : decode cL_law 988 = .ok (.invokevirtual 121, 3) := by decide +kernel
theorem dL_law_991 : decode cL_law 991 = .ok (.if_icmp .eq 470, 3) := by decide +kernel
theorem dL_law_994 : decode cL_law 994 = .ok (.iconst 0, 1) := by decide +kernel
theorem dL_law_995 : decode cL_law 995 = .ok (.ireturn, 1) := by decide +kernel
theorem dL_law_996 : decode cL_law 996 = .ok (.aload_n 1, 1) := by decide +kernel
theorem dL_law_997 : decode cL_law 997 = .ok (.aload_n 0, 1) := by decide +kernel
theorem dL_law_998 : decode cL_law 998 = .ok (.iload_n 3, 1) := by decide +kernel
theorem dL_law_999 : decode cL_law 999 = .ok (.iconst 1, 1) := by decide +kernel
theorem dL_law_1000 : decode cL_law 1000 = .ok (.iadd, 1) := by decide +kernel
theorem dL_law_1001 : decode cL_law 1001 = .ok (.iaload, 1) := by decide +kernel
theorem dL_law_1002 : decode cL_law 1002 = .ok (.aload_n 0, 1) := by decide +kernel
theorem dL_law_1003 : decode cL_law 1003 = .ok (.iload_n 3, 1) := by decide +kernel
theorem dL_law_1004 : decode cL_law 1004 = .ok (.iconst 2, 1) := by decide +kernel
theorem dL_law_1005 : decode cL_law 1005 = .ok (.iadd, 1) := by decide +kernel
theorem dL_law_1006 : decode cL_law 1006 = .ok (.iaload, 1) := by decide +kernel
theorem dL_law_1007 : decode cL_law 1007 = .ok (.invokevirtual 122, 3) := by decide +kernel
theorem dL_law_1010 : decode cL_law 1010 = .ok (.aload_n 2, 1) := by decide +kernel
theorem dL_law_1011 : decode cL_law 1011 = .ok (.aload_n 0, 1) := by decide +kernel
theorem dL_law_1012 : decode cL_law 1012 = .ok (.iload_n 3, 1) := by decide +kernel
theorem dL_law_1013 : decode cL_law 1013 = .ok (.iconst 1, 1) := by decide +kernel
theorem dL_law_1014 : decode cL_law 1014 = .ok (.iadd, 1) := by decide +kernel
theorem dL_law_1015 : decode cL_law 1015 = .ok (.iaload, 1) := by decide +kernel
theorem dL_law_1016 : decode cL_law 1016 = .ok (.aload_n 0, 1) := by decide +kernel
theorem dL_law_1017 : decode cL_law 1017 = .ok (.iload_n 3, 1) := by decide +kernel
theorem dL_law_1018 : decode cL_law 1018 = .ok (.iconst 2, 1) := by decide +kernel
theorem dL_law_1019 : decode cL_law 1019 = .ok (.iadd, 1) := by decide +kernel
theorem dL_law_1020 : decode cL_law 1020 = .ok (.iaload, 1) := by decide +kernel
theorem dL_law_1021 : decode cL_law 1021 = .ok (.invokevirtual 125, 3) := by decide +kernel
theorem dL_law_1024 : decode cL_law 1024 = .ok (.if_icmp .eq 437, 3) := by decide +kernel
theorem dL_law_1027 : decode cL_law 1027 = .ok (.iconst 0, 1) := by decide +kernel
theorem dL_law_1028 : decode cL_law 1028 = .ok (.ireturn, 1) := by decide +kernel
theorem dL_law_1029 : decode cL_law 1029 = .ok (.aload_n 1, 1) := by decide +kernel
theorem dL_law_1030 : decode cL_law 1030 = .ok (.aload_n 0, 1) := by decide +kernel
theorem dL_law_1031 : decode cL_law 1031 = .ok (.iload_n 3, 1) := by decide +kernel
theorem dL_law_1032 : decode cL_law 1032 = .ok (.iconst 1, 1) := by decide +kernel
theorem dL_law_1033 : decode cL_law 1033 = .ok (.iadd, 1) := by decide +kernel
theorem dL_law_1034 : decode cL_law 1034 = .ok (.iaload, 1) := by decide +kernel
theorem dL_law_1035 : decode cL_law 1035 = .ok (.aload_n 0, 1) := by decide +kernel
theorem dL_law_1036 : decode cL_law 1036 = .ok (.iload_n 3, 1) := by decide +kernel
theorem dL_law_1037 : decode cL_law 1037 = .ok (.iconst 2, 1) := by decide +kernel
theorem dL_law_1038 : decode cL_law 1038 = .ok (.iadd, 1) := by decide +kernel
theorem dL_law_1039 : decode cL_law 1039 = .ok (.iaload, 1) := by decide +kernel
theorem dL_law_1040 : decode cL_law 1040 = .ok (.aload_n 0, 1) := by decide +kernel
theorem dL_law_1041 : decode cL_law 1041 = .ok (.iload_n 3, 1) := by decide +kernel
theorem dL_law_1042 : decode cL_law 1042 = .ok (.iconst 3, 1) := by decide +kernel
theorem dL_law_1043 : decode cL_law 1043 = .ok (.iadd, 1) := by decide +kernel
theorem dL_law_1044 : decode cL_law 1044 = .ok (.iaload, 1) := by decide +kernel
theorem dL_law_1045 : decode cL_law 1045 = .ok (.aload_n 0, 1) := by decide +kernel
theorem dL_law_1046 : decode cL_law 1046 = .ok (.iload_n 3, 1) := by decide +kernel
theorem dL_law_1047 : decode cL_law 1047 = .ok (.iconst 4, 1) := by decide +kernel
theorem dL_law_1048 : decode cL_law 1048 = .ok (.iadd, 1) := by decide +kernel
theorem dL_law_1049 : decode cL_law 1049 = .ok (.iaload, 1) := by decide +kernel
theorem dL_law_1050 : decode cL_law 1050 = .ok (.aload_n 0, 1) := by decide +kernel
theorem dL_law_1051 : decode cL_law 1051 = .ok (.iload_n 3, 1) := by decide +kernel
theorem dL_law_1052 : decode cL_law 1052 = .ok (.iconst 5, 1) := by decide +kernel
theorem dL_law_1053 : decode cL_law 1053 = .ok (.iadd, 1) := by decide +kernel
theorem dL_law_1054 : decode cL_law 1054 = .ok (.iaload, 1) := by decide +kernel
theorem dL_law_1055 : decode cL_law 1055 = .ok (.aload_n 0, 1) := by decide +kernel
theorem dL_law_1056 : decode cL_law 1056 = .ok (.iload_n 3, 1) := by decide +kernel
theorem dL_law_1057 : decode cL_law 1057 = .ok (.bipush 6, 2) := by decide +kernel
theorem dL_law_1059 : decode cL_law 1059 = .ok (.iadd, 1) := by decide +kernel
theorem dL_law_1060 : decode cL_law 1060 = .ok (.iaload, 1) := by decide +kernel
theorem dL_law_1061 : decode cL_law 1061 = .ok (.invokevirtual 126, 3) := by decide +kernel
theorem dL_law_1064 : decode cL_law 1064 = .ok (.aload_n 2, 1) := by decide +kernel
theorem dL_law_1065 : decode cL_law 1065 = .ok (.aload_n 0, 1) := by decide +kernel
theorem dL_law_1066 : decode cL_law 1066 = .ok (.iload_n 3, 1) := by decide +kernel
theorem dL_law_1067 : decode cL_law 1067 = .ok (.iconst 1, 1) := by decide +kernel
theorem dL_law_1068 : decode cL_law 1068 = .ok (.iadd, 1) := by decide +kernel
theorem dL_law_1069 : decode cL_law 1069 = .ok (.iaload, 1) := by decide +kernel
theorem dL_law_1070 : decode cL_law 1070 = .ok (.aload_n 0, 1) := by decide +kernel
theorem dL_law_1071 : decode cL_law 1071 = .ok (.iload_n 3, 1) := by decide +kernel
theorem dL_law_1072 : decode cL_law 1072 = .ok (.iconst 2, 1) := by decide +kernel
theorem dL_law_1073 : decode cL_law 1073 = .ok (.iadd, 1) := by decide +kernel
theorem dL_law_1074 : decode cL_law 1074 = .ok (.iaload, 1) := by decide +kernel
theorem dL_law_1075 : decode cL_law 1075 = .ok (.aload_n 0, 1) := by decide +kernel
theorem dL_law_1076 : decode cL_law 1076 = .ok (.iload_n 3, 1) := by decide +kernel
theorem dL_law_1077 : decode cL_law 1077 = .ok (.iconst 3, 1) := by decide +kernel
theorem dL_law_1078 : decode cL_law 1078 = .ok (.iadd, 1) := by decide +kernel
theorem dL_law_1079 : decode cL_law 1079 = .ok (.iaload, 1) := by decide +kernel
theorem dL_law_1080 : decode cL_law 1080 = .ok (.aload_n 0, 1) := by decide +kernel
theorem dL_law_1081 : decode cL_law 1081 = .ok (.iload_n 3, 1) := by decide +kernel
theorem dL_law_1082 : decode cL_law 1082 = .ok (.iconst 4, 1) := by decide +kernel
theorem dL_law_1083 : decode cL_law 1083 = .ok (.iadd, 1) := by decide +kernel
theorem dL_law_1084 : decode cL_law 1084 = .ok (.iaload, 1) := by decide +kernel
theorem dL_law_1085 : decode cL_law 1085 = .ok (.aload_n 0, 1) := by decide +kernel
theorem dL_law_1086 : decode cL_law 1086 = .ok (.iload_n 3, 1) := by decide +kernel
theorem dL_law_1087 : decode cL_law 1087 = .ok (.iconst 5, 1) := by decide +kernel
theorem dL_law_1088 : decode cL_law 1088 = .ok (.iadd, 1) := by decide +kernel
theorem dL_law_1089 : decode cL_law 1089 = .ok (.iaload, 1) := by decide +kernel
theorem dL_law_1090 : decode cL_law 1090 = .ok (.aload_n 0, 1) := by decide +kernel
theorem dL_law_1091 : decode cL_law 1091 = .ok (.iload_n 3, 1) := by decide +kernel
theorem dL_law_1092 : decode cL_law 1092 = .ok (.bipush 6, 2) := by decide +kernel
theorem dL_law_1094 : decode cL_law 1094 = .ok (.iadd, 1) := by decide +kernel
theorem dL_law_1095 : decode cL_law 1095 = .ok (.iaload, 1) := by decide +kernel
theorem dL_law_1096 : decode cL_law 1096 = .ok (.invokevirtual 130, 3) := by decide +kernel
theorem dL_law_1099 : decode cL_law 1099 = .ok (.if_icmp .eq 362, 3) := by decide +kernel
theorem dL_law_1102 : decode cL_law 1102 = .ok (.iconst 0, 1) := by decide +kernel
theorem dL_law_1103 : decode cL_law 1103 = .ok (.ireturn, 1) := by decide +kernel
theorem dL_law_1104 : decode cL_law 1104 = .ok (.aload_n 1, 1) := by decide +kernel
theorem dL_law_1105 : decode cL_law 1105 = .ok (.aload_n 0, 1) := by decide +kernel
theorem dL_law_1106 : decode cL_law 1106 = .ok (.iload_n 3, 1) := by decide +kernel
theorem dL_law_1107 : decode cL_law 1107 = .ok (.iconst 1, 1) := by decide +kernel
theorem dL_law_1108 : decode cL_law 1108 = .ok (.iadd, 1) := by decide +kernel
theorem dL_law_1109 : decode cL_law 1109 = .ok (.iaload, 1) := by decide +kernel
theorem dL_law_1110 : decode cL_law 1110 = .ok (.aload_n 0, 1) := by decide +kernel
theorem dL_law_1111 : decode cL_law 1111 = .ok (.iload_n 3, 1) := by decide +kernel
theorem dL_law_1112 : decode cL_law 1112 = .ok (.iconst 2, 1) := by decide +kernel
theorem dL_law_1113 : decode cL_law 1113 = .ok (.iadd, 1) := by decide +kernel
theorem dL_law_1114 : decode cL_law 1114 = .ok (.iaload, 1) := by decide +kernel
theorem dL_law_1115 : decode cL_law 1115 = .ok (.aload_n 0, 1) := by decide +kernel
theorem dL_law_1116 : decode cL_law 1116 = .ok (.iload_n 3, 1) := by decide +kernel
theorem dL_law_1117 : decode cL_law 1117 = .ok (.iconst 3, 1) := by decide +kernel
theorem dL_law_1118 : decode cL_law 1118 = .ok (.iadd, 1) := by decide +kernel
theorem dL_law_1119 : decode cL_law 1119 = .ok (.iaload, 1) := by decide +kernel
theorem dL_law_1120 : decode cL_law 1120 = .ok (.aload_n 0, 1) := by decide +kernel
theorem dL_law_1121 : decode cL_law 1121 = .ok (.iload_n 3, 1) := by decide +kernel
theorem dL_law_1122 : decode cL_law 1122 = .ok (.iconst 4, 1) := by decide +kernel
theorem dL_law_1123 : decode cL_law 1123 = .ok (.iadd, 1) := by decide +kernel
theorem dL_law_1124 : decode cL_law 1124 = .ok (.iaload, 1) := by decide +kernel
theorem dL_law_1125 : decode cL_law 1125 = .ok (.invokevirtual 131, 3) := by decide +kernel
theorem dL_law_1128 : decode cL_law 1128 = .ok (.aload_n 2, 1) := by decide +kernel
theorem dL_law_1129 : decode cL_law 1129 = .ok (.aload_n 0, 1) := by decide +kernel
theorem dL_law_1130 : decode cL_law 1130 = .ok (.iload_n 3, 1) := by decide +kernel
theorem dL_law_1131 : decode cL_law 1131 = .ok (.iconst 1, 1) := by decide +kernel
theorem dL_law_1132 : decode cL_law 1132 = .ok (.iadd, 1) := by decide +kernel
theorem dL_law_1133 : decode cL_law 1133 = .ok (.iaload, 1) := by decide +kernel
theorem dL_law_1134 : decode cL_law 1134 = .ok (.aload_n 0, 1) := by decide +kernel
theorem dL_law_1135 : decode cL_law 1135 = .ok (.iload_n 3, 1) := by decide +kernel
theorem dL_law_1136 : decode cL_law 1136 = .ok (.iconst 2, 1) := by decide +kernel
theorem dL_law_1137 : decode cL_law 1137 = .ok (.iadd, 1) := by decide +kernel
theorem dL_law_1138 : decode cL_law 1138 = .ok (.iaload, 1) := by decide +kernel
theorem dL_law_1139 : decode cL_law 1139 = .ok (.aload_n 0, 1) := by decide +kernel
theorem dL_law_1140 : decode cL_law 1140 = .ok (.iload_n 3, 1) := by decide +kernel
theorem dL_law_1141 : decode cL_law 1141 = .ok (.iconst 3, 1) := by decide +kernel
theorem dL_law_1142 : decode cL_law 1142 = .ok (.iadd, 1) := by decide +kernel
theorem dL_law_1143 : decode cL_law 1143 = .ok (.iaload, 1) := by decide +kernel
theorem dL_law_1144 : decode cL_law 1144 = .ok (.aload_n 0, 1) := by decide +kernel
theorem dL_law_1145 : decode cL_law 1145 = .ok (.iload_n 3, 1) := by decide +kernel
theorem dL_law_1146 : decode cL_law 1146 = .ok (.iconst 4, 1) := by decide +kernel
theorem dL_law_1147 : decode cL_law 1147 = .ok (.iadd, 1) := by decide +kernel
theorem dL_law_1148 : decode cL_law 1148 = .ok (.iaload, 1) := by decide +kernel
theorem dL_law_1149 : decode cL_law 1149 = .ok (.invokevirtual 135, 3) := by decide +kernel
theorem dL_law_1152 : decode cL_law 1152 = .ok (.if_icmp .eq 309, 3) := by decide +kernel
theorem dL_law_1155 : decode cL_law 1155 = .ok (.iconst 0, 1) := by decide +kernel
theorem dL_law_1156 : decode cL_law 1156 = .ok (.ireturn, 1) := by decide +kernel
theorem dL_law_1157 : decode cL_law 1157 = .ok (.aload_n 1, 1) := by decide +kernel
theorem dL_law_1158 : decode cL_law 1158 = .ok (.aload_n 0, 1) := by decide +kernel
theorem dL_law_1159 : decode cL_law 1159 = .ok (.iload_n 3, 1) := by decide +kernel
theorem dL_law_1160 : decode cL_law 1160 = .ok (.iconst 1, 1) := by decide +kernel
theorem dL_law_1161 : decode cL_law 1161 = .ok (.iadd, 1) := by decide +kernel
theorem dL_law_1162 : decode cL_law 1162 = .ok (.iaload, 1) := by decide +kernel
theorem dL_law_1163 : decode cL_law 1163 = .ok (.invokevirtual 136, 3) := by decide +kernel
theorem dL_law_1166 : decode cL_law 1166 = .ok (.aload_n 2, 1) := by decide +kernel
theorem dL_law_1167 : decode cL_law 1167 = .ok (.aload_n 0, 1) := by decide +kernel
theorem dL_law_1168 : decode cL_law 1168 = .ok (.iload_n 3, 1) := by decide +kernel
theorem dL_law_1169 : decode cL_law 1169 = .ok (.iconst 1, 1) := by decide +kernel
theorem dL_law_1170 : decode cL_law 1170 = .ok (.iadd, 1) := by decide +kernel
theorem dL_law_1171 : decode cL_law 1171 = .ok (.iaload, 1) := by decide +kernel
theorem dL_law_1172 : decode cL_law 1172 = .ok (.invokevirtual 139, 3) := by decide +kernel
theorem dL_law_1175 : decode cL_law 1175 = .ok (.if_icmp .eq 286, 3) := by decide +kernel
theorem dL_law_1178 : decode cL_law 1178 = .ok (.iconst 0, 1) := by decide +kernel
theorem dL_law_1179 : decode cL_law 1179 = .ok (.ireturn, 1) := by decide +kernel
theorem dL_law_1180 : decode cL_law 1180 = .ok (.aload_n 1, 1) := by decide +kernel
theorem dL_law_1181 : decode cL_law 1181 = .ok (.aload_n 0, 1) := by decide +kernel
theorem dL_law_1182 : decode cL_law 1182 = .ok (.iload_n 3, 1) := by decide +kernel
theorem dL_law_1183 : decode cL_law 1183 = .ok (.iconst 1, 1) := by decide +kernel
theorem dL_law_1184 : decode cL_law 1184 = .ok (.iadd, 1) := by decide +kernel
theorem dL_law_1185 : decode cL_law 1185 = .ok (.iaload, 1) := by decide +kernel
theorem dL_law_1186 : decode cL_law 1186 = .ok (.aload_n 0, 1) := by decide +kernel
theorem dL_law_1187 : decode cL_law 1187 = .ok (.iload_n 3, 1) := by decide +kernel
theorem dL_law_1188 : decode cL_law 1188 = .ok (.iconst 2, 1) := by decide +kernel
theorem dL_law_1189 : decode cL_law 1189 = .ok (.iadd, 1) := by decide +kernel
theorem dL_law_1190 : decode cL_law 1190 = .ok (.iaload, 1) := by decide +kernel
theorem dL_law_1191 : decode cL_law 1191 = .ok (.aload_n 0, 1) := by decide +kernel
theorem dL_law_1192 : decode cL_law 1192 = .ok (.iload_n 3, 1) := by decide +kernel
theorem dL_law_1193 : decode cL_law 1193 = .ok (.iconst 3, 1) := by decide +kernel
theorem dL_law_1194 : decode cL_law 1194 = .ok (.iadd, 1) := by decide +kernel
theorem dL_law_1195 : decode cL_law 1195 = .ok (.iaload, 1) := by decide +kernel
theorem dL_law_1196 : decode cL_law 1196 = .ok (.invokevirtual 140, 3) := by decide +kernel
theorem dL_law_1199 : decode cL_law 1199 = .ok (.aload_n 2, 1) := by decide +kernel
theorem dL_law_1200 : decode cL_law 1200 = .ok (.aload_n 0, 1) := by decide +kernel
theorem dL_law_1201 : decode cL_law 1201 = .ok (.iload_n 3, 1) := by decide +kernel
theorem dL_law_1202 : decode cL_law 1202 = .ok (.iconst 1, 1) := by decide +kernel
theorem dL_law_1203 : decode cL_law 1203 = .ok (.iadd, 1) := by decide +kernel
theorem dL_law_1204 : decode cL_law 1204 = .ok (.iaload, 1) := by decide +kernel
theorem dL_law_1205 : decode cL_law 1205 = .ok (.aload_n 0, 1) := by decide +kernel
theorem dL_law_1206 : decode cL_law 1206 = .ok (.iload_n 3, 1) := by decide +kernel
theorem dL_law_1207 : decode cL_law 1207 = .ok (.iconst 2, 1) := by decide +kernel
theorem dL_law_1208 : decode cL_law 1208 = .ok (.iadd, 1) := by decide +kernel
theorem dL_law_1209 : decode cL_law 1209 = .ok (.iaload, 1) := by decide +kernel
theorem dL_law_1210 : decode cL_law 1210 = .ok (.aload_n 0, 1) := by decide +kernel
theorem dL_law_1211 : decode cL_law 1211 = .ok (.iload_n 3, 1) := by decide +kernel
theorem dL_law_1212 : decode cL_law 1212 = .ok (.iconst 3, 1) := by decide +kernel
theorem dL_law_1213 : decode cL_law 1213 = .ok (.iadd, 1) := by decide +kernel
theorem dL_law_1214 : decode cL_law 1214 = .ok (.iaload, 1) := by decide +kernel
theorem dL_law_1215 : decode cL_law 1215 = .ok (.invokevirtual 144, 3) := by decide +kernel
theorem dL_law_1218 : decode cL_law 1218 = .ok (.lcmp, 1) := by decide +kernel
theorem dL_law_1219 : decode cL_law 1219 = .ok (.ifCond .eq 242, 3) := by decide +kernel
theorem dL_law_1222 : decode cL_law 1222 = .ok (.iconst 0, 1) := by decide +kernel
theorem dL_law_1223 : decode cL_law 1223 = .ok (.ireturn, 1) := by decide +kernel
theorem dL_law_1224 : decode cL_law 1224 = .ok (.aload_n 1, 1) := by decide +kernel
theorem dL_law_1225 : decode cL_law 1225 = .ok (.aload_n 0, 1) := by decide +kernel
theorem dL_law_1226 : decode cL_law 1226 = .ok (.iload_n 3, 1) := by decide +kernel
theorem dL_law_1227 : decode cL_law 1227 = .ok (.iconst 1, 1) := by decide +kernel
theorem dL_law_1228 : decode cL_law 1228 = .ok (.iadd, 1) := by decide +kernel
theorem dL_law_1229 : decode cL_law 1229 = .ok (.iaload, 1) := by decide +kernel
theorem dL_law_1230 : decode cL_law 1230 = .ok (.aload_n 0, 1) := by decide +kernel
theorem dL_law_1231 : decode cL_law 1231 = .ok (.iload_n 3, 1) := by decide +kernel
theorem dL_law_1232 : decode cL_law 1232 = .ok (.iconst 2, 1) := by decide +kernel
theorem dL_law_1233 : decode cL_law 1233 = .ok (.iadd, 1) := by decide +kernel
theorem dL_law_1234 : decode cL_law 1234 = .ok (.iaload, 1) := by decide +kernel
theorem dL_law_1235 : decode cL_law 1235 = .ok (.aload_n 0, 1) := by decide +kernel
theorem dL_law_1236 : decode cL_law 1236 = .ok (.iload_n 3, 1) := by decide +kernel
theorem dL_law_1237 : decode cL_law 1237 = .ok (.iconst 3, 1) := by decide +kernel
theorem dL_law_1238 : decode cL_law 1238 = .ok (.iadd, 1) := by decide +kernel
theorem dL_law_1239 : decode cL_law 1239 = .ok (.iaload, 1) := by decide +kernel
theorem dL_law_1240 : decode cL_law 1240 = .ok (.invokevirtual 145, 3) := by decide +kernel
theorem dL_law_1243 : decode cL_law 1243 = .ok (.aload_n 2, 1) := by decide +kernel
theorem dL_law_1244 : decode cL_law 1244 = .ok (.aload_n 0, 1) := by decide +kernel
theorem dL_law_1245 : decode cL_law 1245 = .ok (.iload_n 3, 1) := by decide +kernel
theorem dL_law_1246 : decode cL_law 1246 = .ok (.iconst 1, 1) := by decide +kernel
theorem dL_law_1247 : decode cL_law 1247 = .ok (.iadd, 1) := by decide +kernel
theorem dL_law_1248 : decode cL_law 1248 = .ok (.iaload, 1) := by decide +kernel
theorem dL_law_1249 : decode cL_law 1249 = .ok (.aload_n 0, 1) := by decide +kernel
theorem dL_law_1250 : decode cL_law 1250 = .ok (.iload_n 3, 1) := by decide +kernel
theorem dL_law_1251 : decode cL_law 1251 = .ok (.iconst 2, 1) := by decide +kernel
theorem dL_law_1252 : decode cL_law 1252 = .ok (.iadd, 1) := by decide +kernel
theorem dL_law_1253 : decode cL_law 1253 = .ok (.iaload, 1) := by decide +kernel
theorem dL_law_1254 : decode cL_law 1254 = .ok (.aload_n 0, 1) := by decide +kernel
theorem dL_law_1255 : decode cL_law 1255 = .ok (.iload_n 3, 1) := by decide +kernel
theorem dL_law_1256 : decode cL_law 1256 = .ok (.iconst 3, 1) := by decide +kernel
theorem dL_law_1257 : decode cL_law 1257 = .ok (.iadd, 1) := by decide +kernel
theorem dL_law_1258 : decode cL_law 1258 = .ok (.iaload, 1) := by decide +kernel
theorem dL_law_1259 : decode cL_law 1259 = .ok (.invokevirtual 148, 3) := by decide +kernel
theorem dL_law_1262 : decode cL_law 1262 = .ok (.if_icmp .eq 199, 3) := by decide +kernel
theorem dL_law_1265 : decode cL_law 1265 = .ok (.iconst 0, 1) := by decide +kernel
theorem dL_law_1266 : decode cL_law 1266 = .ok (.ireturn, 1) := by decide +kernel
theorem dL_law_1267 : decode cL_law 1267 = .ok (.aload_n 1, 1) := by decide +kernel
theorem dL_law_1268 : decode cL_law 1268 = .ok (.aload_n 0, 1) := by decide +kernel
theorem dL_law_1269 : decode cL_law 1269 = .ok (.iload_n 3, 1) := by decide +kernel
theorem dL_law_1270 : decode cL_law 1270 = .ok (.iconst 1, 1) := by decide +kernel
theorem dL_law_1271 : decode cL_law 1271 = .ok (.iadd, 1) := by decide +kernel
theorem dL_law_1272 : decode cL_law 1272 = .ok (.iaload, 1) := by decide +kernel
theorem dL_law_1273 : decode cL_law 1273 = .ok (.invokevirtual 149, 3) := by decide +kernel
theorem dL_law_1276 : decode cL_law 1276 = .ok (.aload_n 2, 1) := by decide +kernel
theorem dL_law_1277 : decode cL_law 1277 = .ok (.aload_n 0, 1) := by decide +kernel
theorem dL_law_1278 : decode cL_law 1278 = .ok (.iload_n 3, 1) := by decide +kernel
theorem dL_law_1279 : decode cL_law 1279 = .ok (.iconst 1, 1) := by decide +kernel
theorem dL_law_1280 : decode cL_law 1280 = .ok (.iadd, 1) := by decide +kernel
theorem dL_law_1281 : decode cL_law 1281 = .ok (.iaload, 1) := by decide +kernel
theorem dL_law_1282 : decode cL_law 1282 = .ok (.invokevirtual 152, 3) := by decide +kernel
theorem dL_law_1285 : decode cL_law 1285 = .ok (.if_icmp .eq 176, 3) := by decide +kernel
theorem dL_law_1288 : decode cL_law 1288 = .ok (.iconst 0, 1) := by decide +kernel
theorem dL_law_1289 : decode cL_law 1289 = .ok (.ireturn, 1) := by decide +kernel
theorem dL_law_1290 : decode cL_law 1290 = .ok (.aload_n 1, 1) := by decide +kernel
theorem dL_law_1291 : decode cL_law 1291 = .ok (.aload_n 0, 1) := by decide +kernel
theorem dL_law_1292 : decode cL_law 1292 = .ok (.iload_n 3, 1) := by decide +kernel
theorem dL_law_1293 : decode cL_law 1293 = .ok (.iconst 1, 1) := by decide +kernel
theorem dL_law_1294 : decode cL_law 1294 = .ok (.iadd, 1) := by decide +kernel
theorem dL_law_1295 : decode cL_law 1295 = .ok (.iaload, 1) := by decide +kernel
theorem dL_law_1296 : decode cL_law 1296 = .ok (.invokevirtual 153, 3) := by decide +kernel
theorem dL_law_1299 : decode cL_law 1299 = .ok (.aload_n 2, 1) := by decide +kernel
theorem dL_law_1300 : decode cL_law 1300 = .ok (.aload_n 0, 1) := by decide +kernel
theorem dL_law_1301 : decode cL_law 1301 = .ok (.iload_n 3, 1) := by decide +kernel
theorem dL_law_1302 : decode cL_law 1302 = .ok (.iconst 1, 1) := by decide +kernel
theorem dL_law_1303 : decode cL_law 1303 = .ok (.iadd, 1) := by decide +kernel
theorem dL_law_1304 : decode cL_law 1304 = .ok (.iaload, 1) := by decide +kernel
theorem dL_law_1305 : decode cL_law 1305 = .ok (.invokevirtual 156, 3) := by decide +kernel
theorem dL_law_1308 : decode cL_law 1308 = .ok (.if_icmp .eq 153, 3) := by decide +kernel
theorem dL_law_1311 : decode cL_law 1311 = .ok (.iconst 0, 1) := by decide +kernel
theorem dL_law_1312 : decode cL_law 1312 = .ok (.ireturn, 1) := by decide +kernel
theorem dL_law_1313 : decode cL_law 1313 = .ok (.aload_n 1, 1) := by decide +kernel
theorem dL_law_1314 : decode cL_law 1314 = .ok (.aload_n 0, 1) := by decide +kernel
theorem dL_law_1315 : decode cL_law 1315 = .ok (.iload_n 3, 1) := by decide +kernel
theorem dL_law_1316 : decode cL_law 1316 = .ok (.iconst 1, 1) := by decide +kernel
theorem dL_law_1317 : decode cL_law 1317 = .ok (.iadd, 1) := by decide +kernel
theorem dL_law_1318 : decode cL_law 1318 = .ok (.iaload, 1) := by decide +kernel
theorem dL_law_1319 : decode cL_law 1319 = .ok (.invokevirtual 157, 3) := by decide +kernel
theorem dL_law_1322 : decode cL_law 1322 = .ok (.aload_n 2, 1) := by decide +kernel
theorem dL_law_1323 : decode cL_law 1323 = .ok (.aload_n 0, 1) := by decide +kernel
theorem dL_law_1324 : decode cL_law 1324 = .ok (.iload_n 3, 1) := by decide +kernel
theorem dL_law_1325 : decode cL_law 1325 = .ok (.iconst 1, 1) := by decide +kernel
theorem dL_law_1326 : decode cL_law 1326 = .ok (.iadd, 1) := by decide +kernel
theorem dL_law_1327 : decode cL_law 1327 = .ok (.iaload, 1) := by decide +kernel
theorem dL_law_1328 : decode cL_law 1328 = .ok (.invokevirtual 160, 3) := by decide +kernel
theorem dL_law_1331 : decode cL_law 1331 = .ok (.if_icmp .eq 130, 3) := by decide +kernel
theorem dL_law_1334 : decode cL_law 1334 = .ok (.iconst 0, 1) := by decide +kernel
theorem dL_law_1335 : decode cL_law 1335 = .ok (.ireturn, 1) := by decide +kernel
theorem dL_law_1336 : decode cL_law 1336 = .ok (.aload_n 1, 1) := by decide +kernel
theorem dL_law_1337 : decode cL_law 1337 = .ok (.aload_n 0, 1) := by decide +kernel
theorem dL_law_1338 : decode cL_law 1338 = .ok (.iload_n 3, 1) := by decide +kernel
theorem dL_law_1339 : decode cL_law 1339 = .ok (.iconst 1, 1) := by decide +kernel
theorem dL_law_1340 : decode cL_law 1340 = .ok (.iadd, 1) := by decide +kernel
theorem dL_law_1341 : decode cL_law 1341 = .ok (.iaload, 1) := by decide +kernel
theorem dL_law_1342 : decode cL_law 1342 = .ok (.aload_n 0, 1) := by decide +kernel
theorem dL_law_1343 : decode cL_law 1343 = .ok (.iload_n 3, 1) := by decide +kernel
theorem dL_law_1344 : decode cL_law 1344 = .ok (.iconst 2, 1) := by decide +kernel
theorem dL_law_1345 : decode cL_law 1345 = .ok (.iadd, 1) := by decide +kernel
theorem dL_law_1346 : decode cL_law 1346 = .ok (.iaload, 1) := by decide +kernel
theorem dL_law_1347 : decode cL_law 1347 = .ok (.invokevirtual 161, 3) := by decide +kernel
theorem dL_law_1350 : decode cL_law 1350 = .ok (.aload_n 2, 1) := by decide +kernel
theorem dL_law_1351 : decode cL_law 1351 = .ok (.aload_n 0, 1) := by decide +kernel
theorem dL_law_1352 : decode cL_law 1352 = .ok (.iload_n 3, 1) := by decide +kernel
theorem dL_law_1353 : decode cL_law 1353 = .ok (.iconst 1, 1) := by decide +kernel
theorem dL_law_1354 : decode cL_law 1354 = .ok (.iadd, 1) := by decide +kernel
theorem dL_law_1355 : decode cL_law 1355 = .ok (.iaload, 1) := by decide +kernel
theorem dL_law_1356 : decode cL_law 1356 = .ok (.aload_n 0, 1) := by decide +kernel
theorem dL_law_1357 : decode cL_law 1357 = .ok (.iload_n 3, 1) := by decide +kernel
theorem dL_law_1358 : decode cL_law 1358 = .ok (.iconst 2, 1) := by decide +kernel
theorem dL_law_1359 : decode cL_law 1359 = .ok (.iadd, 1) := by decide +kernel
theorem dL_law_1360 : decode cL_law 1360 = .ok (.iaload, 1) := by decide +kernel
theorem dL_law_1361 : decode cL_law 1361 = .ok (.invokevirtual 164, 3) := by decide +kernel
theorem dL_law_1364 : decode cL_law 1364 = .ok (.if_icmp .eq 97, 3) := by decide +kernel
theorem dL_law_1367 : decode cL_law 1367 = .ok (.iconst 0, 1) := by decide +kernel
theorem dL_law_1368 : decode cL_law 1368 = .ok (.ireturn, 1) := by decide +kernel
theorem dL_law_1369 : decode cL_law 1369 = .ok (.aload_n 1, 1) := by decide +kernel
theorem dL_law_1370 : decode cL_law 1370 = .ok (.aload_n 0, 1) := by decide +kernel
theorem dL_law_1371 : decode cL_law 1371 = .ok (.iload_n 3, 1) := by decide +kernel
theorem dL_law_1372 : decode cL_law 1372 = .ok (.iconst 1, 1) := by decide +kernel
theorem dL_law_1373 : decode cL_law 1373 = .ok (.iadd, 1) := by decide +kernel
theorem dL_law_1374 : decode cL_law 1374 = .ok (.iaload, 1) := by decide +kernel
theorem dL_law_1375 : decode cL_law 1375 = .ok (.aload_n 0, 1) := by decide +kernel
theorem dL_law_1376 : decode cL_law 1376 = .ok (.iload_n 3, 1) := by decide +kernel
theorem dL_law_1377 : decode cL_law 1377 = .ok (.iconst 2, 1) := by decide +kernel
theorem dL_law_1378 : decode cL_law 1378 = .ok (.iadd, 1) := by decide +kernel
theorem dL_law_1379 : decode cL_law 1379 = .ok (.iaload, 1) := by decide +kernel
theorem dL_law_1380 : decode cL_law 1380 = .ok (.invokevirtual 165, 3) := by decide +kernel
theorem dL_law_1383 : decode cL_law 1383 = .ok (.aload_n 2, 1) := by decide +kernel
theorem dL_law_1384 : decode cL_law 1384 = .ok (.aload_n 0, 1) := by decide +kernel
theorem dL_law_1385 : decode cL_law 1385 = .ok (.iload_n 3, 1) := by decide +kernel
theorem dL_law_1386 : decode cL_law 1386 = .ok (.iconst 1, 1) := by decide +kernel
theorem dL_law_1387 : decode cL_law 1387 = .ok (.iadd, 1) := by decide +kernel
theorem dL_law_1388 : decode cL_law 1388 = .ok (.iaload, 1) := by decide +kernel
theorem dL_law_1389 : decode cL_law 1389 = .ok (.aload_n 0, 1) := by decide +kernel
theorem dL_law_1390 : decode cL_law 1390 = .ok (.iload_n 3, 1) := by decide +kernel
theorem dL_law_1391 : decode cL_law 1391 = .ok (.iconst 2, 1) := by decide +kernel
theorem dL_law_1392 : decode cL_law 1392 = .ok (.iadd, 1) := by decide +kernel
theorem dL_law_1393 : decode cL_law 1393 = .ok (.iaload, 1) := by decide +kernel
theorem dL_law_1394 : decode cL_law 1394 = .ok (.invokevirtual 168, 3) := by decide +kernel
theorem dL_law_1397 : decode cL_law 1397 = .ok (.if_icmp .eq 64, 3) := by decide +kernel
theorem dL_law_1400 : decode cL_law 1400 = .ok (.iconst 0, 1) := by decide +kernel
theorem dL_law_1401 : decode cL_law 1401 = .ok (.ireturn, 1) := by decide +kernel
theorem dL_law_1402 : decode cL_law 1402 = .ok (.aload_n 1, 1) := by decide +kernel
theorem dL_law_1403 : decode cL_law 1403 = .ok (.aload_n 0, 1) := by decide +kernel
theorem dL_law_1404 : decode cL_law 1404 = .ok (.iload_n 3, 1) := by decide +kernel
theorem dL_law_1405 : decode cL_law 1405 = .ok (.iconst 1, 1) := by decide +kernel
theorem dL_law_1406 : decode cL_law 1406 = .ok (.iadd, 1) := by decide +kernel
theorem dL_law_1407 : decode cL_law 1407 = .ok (.iaload, 1) := by decide +kernel
theorem dL_law_1408 : decode cL_law 1408 = .ok (.invokevirtual 169, 3) := by decide +kernel
theorem dL_law_1411 : decode cL_law 1411 = .ok (.aload_n 2, 1) := by decide +kernel
theorem dL_law_1412 : decode cL_law 1412 = .ok (.aload_n 0, 1) := by decide +kernel
theorem dL_law_1413 : decode cL_law 1413 = .ok (.iload_n 3, 1) := by decide +kernel
theorem dL_law_1414 : decode cL_law 1414 = .ok (.iconst 1, 1) := by decide +kernel
theorem dL_law_1415 : decode cL_law 1415 = .ok (.iadd, 1) := by decide +kernel
theorem dL_law_1416 : decode cL_law 1416 = .ok (.iaload, 1) := by decide +kernel
theorem dL_law_1417 : decode cL_law 1417 = .ok (.invokevirtual 172, 3) := by decide +kernel
theorem dL_law_1420 : decode cL_law 1420 = .ok (.if_icmp .eq 41, 3) := by decide +kernel
theorem dL_law_1423 : decode cL_law 1423 = .ok (.iconst 0, 1) := by decide +kernel
theorem dL_law_1424 : decode cL_law 1424 = .ok (.ireturn, 1) := by decide +kernel
theorem dL_law_1425 : decode cL_law 1425 = .ok (.aload_n 1, 1) := by decide +kernel
theorem dL_law_1426 : decode cL_law 1426 = .ok (.aload_n 0, 1) := by decide +kernel
theorem dL_law_1427 : decode cL_law 1427 = .ok (.iload_n 3, 1) := by decide +kernel
theorem dL_law_1428 : decode cL_law 1428 = .ok (.iconst 1, 1) := by decide +kernel
theorem dL_law_1429 : decode cL_law 1429 = .ok (.iadd, 1) := by decide +kernel
theorem dL_law_1430 : decode cL_law 1430 = .ok (.iaload, 1) := by decide +kernel
theorem dL_law_1431 : decode cL_law 1431 = .ok (.invokevirtual 173, 3) := by decide +kernel
theorem dL_law_1434 : decode cL_law 1434 = .ok (.aload_n 2, 1) := by decide +kernel
theorem dL_law_1435 : decode cL_law 1435 = .ok (.aload_n 0, 1) := by decide +kernel
theorem dL_law_1436 : decode cL_law 1436 = .ok (.iload_n 3, 1) := by decide +kernel
theorem dL_law_1437 : decode cL_law 1437 = .ok (.iconst 1, 1) := by decide +kernel
theorem dL_law_1438 : decode cL_law 1438 = .ok (.iadd, 1) := by decide +kernel
theorem dL_law_1439 : decode cL_law 1439 = .ok (.iaload, 1) := by decide +kernel
theorem dL_law_1440 : decode cL_law 1440 = .ok (.invokevirtual 176, 3) := by decide +kernel
theorem dL_law_1443 : decode cL_law 1443 = .ok (.if_icmp .eq 18, 3) := by decide +kernel
theorem dL_law_1446 : decode cL_law 1446 = .ok (.iconst 0, 1) := by decide +kernel
theorem dL_law_1447 : decode cL_law 1447 = .ok (.ireturn, 1) := by decide +kernel
theorem dL_law_1448 : decode cL_law 1448 = .ok (.aload_n 1, 1) := by decide +kernel
theorem dL_law_1449 : decode cL_law 1449 = .ok (.invokevirtual 177, 3) := by decide +kernel
theorem dL_law_1452 : decode cL_law 1452 = .ok (.aload_n 2, 1) := by decide +kernel
theorem dL_law_1453 : decode cL_law 1453 = .ok (.invokevirtual 180, 3) := by decide +kernel
theorem dL_law_1456 : decode cL_law 1456 = .ok (.if_icmp .eq 5, 3) := by decide +kernel
theorem dL_law_1459 : decode cL_law 1459 = .ok (.iconst 0, 1) := by decide +kernel
theorem dL_law_1460 : decode cL_law 1460 = .ok (.ireturn, 1) := by decide +kernel
theorem dL_law_1461 : decode cL_law 1461 = .ok (.iinc 3 7, 3) := by decide +kernel
theorem dL_law_1464 : decode cL_law 1464 = .ok (.goto (-1446), 3) := by decide +kernel
theorem dL_law_1467 : decode cL_law 1467 = .ok (.iconst 1, 1) := by decide +kernel
theorem dL_law_1468 : decode cL_law 1468 = .ok (.ireturn, 1) := by decide +kernel
end
section
/-! values -/
abbrev jz_V : Type := Int ⊕ Int ⊕ Option Nat
abbrev ji (z : Int) : jz_V := Sum.inl z
abbrev jl (z : Int) : jz_V := Sum.inr (Sum.inl z)
abbrev jr (k : Nat) : jz_V := Sum.inr (Sum.inr (some k))
abbrev jn : jz_V := Sum.inr (Sum.inr none)
abbrev jI (z : Int) : Prop := -2147483648 ≤ z ∧ z < 2147483648
abbrev jL (z : Int) : Prop := -9223372036854775808 ≤ z ∧ z < 9223372036854775808
def jz_ok (v : jz_V) : Prop := match v with
  | .inl z => jI z
  | .inr (.inl z) => jL z
  | .inr (.inr _) => True
theorem jz_ok_i {z : Int} : jz_ok (ji z) = jI z := rfl
theorem jz_ok_l {z : Int} : jz_ok (jl z) = jL z := rfl
theorem jz_ok_r {o : Option Nat} : jz_ok (Sum.inr (Sum.inr o)) := trivial
/-! the numbers of a run: launch, tables, array classes, first cell, the script's cell, length, contents -/
abbrev jz_G : Type := Launch × va_G × (Nat → ClassId) × Nat × Nat × Nat × (Nat → Int)
def jz_l (g : jz_G) : Launch := g.1
def jz_D (g : jz_G) : va_G := g.2.1
def jz_c (g : jz_G) : Nat → ClassId := g.2.2.1
def jz_B (g : jz_G) : Nat := g.2.2.2.1
def jz_b (g : jz_G) : Nat := g.2.2.2.2.1
def jz_L (g : jz_G) : Nat := g.2.2.2.2.2.1
def jz_x (g : jz_G) : Nat → Int := g.2.2.2.2.2.2
def jz_ad (g : jz_G) (k : Nat) : Nat := if k = 1000 then jz_b g else jz_B g + k
def jz_cv (g : jz_G) (v : jz_V) : Value := match v with
  | .inl z => .int (Int32.ofInt z)
  | .inr (.inl z) => .long (Int64.ofInt z)
  | .inr (.inr none) => .null
  | .inr (.inr (some k)) => .ref (jz_ad g k)
/-! what the cells are: class number, or array kind and length -/
abbrev jz_T : Type := Nat ⊕ (Nat × Nat)
def jz_sqt (r : Nat) : jz_T := if r = 0 then .inl 5 else if r = 1 then .inr (2, 7) else if r = 2 then .inr (3, 4) else if r < 10 then .inl 1 else .inl 0
def jz_loT (k : Nat) : jz_T := match k with
  | 0 => .inl 7
  | 1 => .inr (5, 8)
  | 2 => .inl 6
  | 3 => .inr (0, 120)
  | 4 => .inl 3
  | _ => .inr (4, 24)
def jz_hiT (k : Nat) : jz_T := match k with
  | 0 => .inl 8
  | 1 => .inr (0, 8)
  | 2 => .inr (0, 8)
  | 3 => .inr (0, 320)
  | 4 => .inr (0, 53)
  | 5 => .inr (0, 53)
  | 6 => .inr (0, 53)
  | 7 => .inr (0, 1272)
  | 8 => .inr (0, 120)
  | 9 => .inr (0, 4)
  | 10 => .inr (0, 4)
  | 11 => .inr (1, 2)
  | 12 => .inr (0, 106)
  | 13 => .inr (0, 16)
  | _ => .inr (9, 0)
def jz_t (k : Nat) : jz_T :=
  if k < 6 then jz_loT k
  else if k < 342 then jz_sqt ((k - 6) % 14)
  else if k = 342 then .inl 2
  else if k = 343 then .inr (0, 16)
  else if k < 400 then jz_sqt ((k - 344) % 14)
  else if k < 416 then (if k % 2 = 0 then .inl 4 else .inr (0, 40))
  else jz_hiT (k - 416)
theorem jz_hiT_big (j : Nat) : jz_hiT (j + 14) = .inr (9, 0) := rfl
theorem jz_t_lt {k : Nat} (h : jz_t k ≠ .inr (9, 0)) : k < 430 := by
  rcases Nat.lt_or_ge k 430 with q | q
  · exact q
  · refine absurd ?_ h
    obtain ⟨j, rfl⟩ : ∃ j, k = j + 430 := ⟨k - 430, by omega⟩
    unfold jz_t
    rw [if_neg (by omega), if_neg (by omega), if_neg (by omega), if_neg (by omega), if_neg (by omega), if_neg (by omega), show j + 430 - 416 = j + 14 by omega]
    exact jz_hiT_big j
/-- how many fields -/
def jz_f (ci : Nat) : Nat := match ci with
  | 0 => 5
  | 1 => 7
  | 2 => 2
  | 3 => 3
  | 4 => 4
  | 5 => 8
  | 6 => 7
  | 7 => 10
  | _ => 25
abbrev jz_S : Type := Nat → Nat → jz_V
def jz_toI (v : jz_V) : Int32 := match v with
  | .inl z => Int32.ofInt z
  | _ => 0
def jz_toR (g : jz_G) (v : jz_V) : Option Nat := match v with
  | .inr (.inr (some k)) => some (jz_ad g k)
  | _ => none
def jz_ar (g : jz_G) (t n : Nat) (f : Nat → jz_V) : vp_A := match t with
  | 0 => (n, .inl fun i => jz_toI (f i))
  | 1 => (n, .inl fun i => jz_toI (f i))
  | _ => (n, .inr (.inr (.inr (.inr fun i => jz_toR g (f i)))))
def jz_e (g : jz_G) (V : jz_S) (k : Nat) : va_E := match jz_t k with
  | .inl ci => .inr (ci, (List.range (jz_f ci)).map fun i => jz_cv g (V k i))
  | .inr (t, n) => .inl (jz_c g t, jz_ar g t n (V k))
def jz_w (g : jz_G) (n : Nat) (V : jz_S) : va_W := (List.range n).map fun k => (jz_B g + k, jz_e g V k)
theorem jz_w_at {g : jz_G} {n k : Nat} {V : jz_S} (h : k < n) : (jz_w g n V)[k]? = some (jz_B g + k, jz_e g V k) := by
  simp [jz_w, h]
theorem jz_w_some {g : jz_G} {n k : Nat} {V : jz_S} {q : Nat × va_E} (h : (jz_w g n V)[k]? = some q) : k < n ∧ q = (jz_B g + k, jz_e g V k) := by
  have hk : k < n := by
    have := (List.getElem?_eq_some_iff.mp h).1
    simpa [jz_w] using this
  rw [jz_w_at hk] at h
  exact ⟨hk, (Option.some.inj h).symm⟩
theorem jz_w_set {g : jz_G} {n k : Nat} {V V' : jz_S} {e : va_E} (he : jz_e g V' k = e) (ho : ∀ j, j ≠ k → V' j = V j) : (jz_w g n V).set k (jz_B g + k, e) = jz_w g n V' := by
  apply List.ext_getElem?
  intro j
  by_cases hjn : j < n
  · by_cases hjk : j = k
    · subst hjk
      rw [List.getElem?_set_self (by simpa [jz_w] using hjn), jz_w_at hjn, he]
    · rw [List.getElem?_set_ne (Ne.symm hjk), jz_w_at hjn, jz_w_at hjn]
      simp only [jz_e, ho j hjk]
  · rw [List.getElem?_eq_none (by simp [jz_w]; omega), List.getElem?_eq_none (by simp [jz_w]; omega)]
theorem jz_w_D {g : jz_G} {n : Nat} {V : jz_S} : va_D (fun q => jz_B g ≤ q) (jz_w g n V) := by
  refine ⟨fun i j p q hi hj h => ?_, fun k q h => ?_⟩
  · obtain ⟨-, rfl⟩ := jz_w_some hi
    obtain ⟨-, rfl⟩ := jz_w_some hj
    exact Nat.add_left_cancel h
  · obtain ⟨-, rfl⟩ := jz_w_some h
    exact Nat.le_add_right _ _
theorem jz_w_snoc {g : jz_G} {n : Nat} {V : jz_S} : jz_w g (n + 1) V = jz_w g n V ++ [(jz_B g + n, jz_e g V n)] := by
  simp [jz_w, List.range_succ]
/-! words -/
def jz_GW : List Cond := lw_tbl.filter goodWord
theorem jz_in {w : Cond} (i : Nat) (h : lw_tbl[i]? = some w) (hg : goodWord w = true) : w ∈ jz_GW := List.mem_filter.mpr ⟨List.mem_of_getElem? h, hg⟩
theorem jz_good : ∀ w ∈ jz_GW, (w.onTables && w.keeps) = true ∨ ∃ ty, w = .arrayClass ty := fun w h => good_of_word (List.mem_filter.mp h).2
def jz_isN (w : Cond) : Bool := match w with
  | .fieldLinkNest .. => true
  | .methodLinkNest .. => true
  | .arrayOver (.object _) => true
  | _ => false
def jz_NW : List Cond := lw_tbl.filter jz_isN
theorem jz_inN {w : Cond} (i : Nat) (h : lw_tbl[i]? = some w) (hg : jz_isN w = true) : w ∈ jz_NW := List.mem_filter.mpr ⟨List.mem_of_getElem? h, hg⟩
theorem jz_nw_warm {s U : State} (hW : s.WarmedH U.vm) (h : ∀ w ∈ jz_NW, va_Nw w s) : ∀ w ∈ jz_NW, va_Nw w U := by
  intro w hw
  have h1 := h w hw
  have h2 := (List.mem_filter.mp hw).2
  cases w <;> first | (simp [jz_isN] at h2; done) | exact va_Nw.warmF hW h1 | exact va_Nw.warmM hW h1 | skip
  rename_i ty
  cases ty <;> first | exact va_AO.moved hW.alike h1 | (simp [jz_isN] at h2; done)
/-! a method: class, code, locals, return type, name, depth, cells -/
abbrev jz_M : Type := String × ByteArray × Nat × Option FieldType × MethodName × Nat × Nat
def jm_o (x : jz_M) : String := x.1
def jm_c (x : jz_M) : ByteArray := x.2.1
def jm_L (x : jz_M) : Nat := x.2.2.1
def jm_r (x : jz_M) : Option FieldType := x.2.2.2.1
def jm_y (x : jz_M) : MethodName := x.2.2.2.2.1
def jm_d (x : jz_M) : Nat := x.2.2.2.2.2.1
def jm_k (x : jz_M) : Nat := x.2.2.2.2.2.2
def jm_ws (x : jz_M) : List Cond := Cond.code (jm_y x) (jm_c x) (jm_L x) (jm_r x) :: jz_GW
def jm_rm (x : jz_M) : Room := { frames := jm_d x, cells := jm_k x, slots := 1300 * jm_k x, locals := 64 * jm_d x }
def jz_tys (g : jz_G) : List (ClassId × FieldType) := [(jz_c g 0, .int), (jz_c g 1, .boolean), (jz_c g 2, .object RX1), (jz_c g 3, .object RX0), (jz_c g 4, .object RX5), (jz_c g 5, .object RX4)]
/-- the world -/
def jz_P (g : jz_G) (n : Nat) (V : jz_S) (H : Heap) : Prop := va_P (jz_D g) vwCl (jz_w g n V) H ∧ ∀ k i, jz_ok (V k i)
def jz_A (g : jz_G) : Nat → Prop := fun q => jz_B g ≤ q
def jz_rv (v : Option jz_V) : Instr := match v with
  | none => .return_
  | some (.inl _) => .ireturn
  | some (.inr (.inl _)) => .lreturn
  | some (.inr (.inr _)) => .areturn
def jz_rok (r : Option FieldType) (v : Option jz_V) : Prop := match r, v with
  | none, none => True
  | some .int, some (.inl _) => True
  | some .boolean, some (.inl z) => z = 0 ∨ z = 1
  | some .long, some (.inr (.inl _)) => True
  | some (.object _), some (.inr (.inr _)) => True
  | _, _ => False
abbrev jz_Q : Type := Option jz_V → Nat → jz_S → Prop
def jz_Lh (g : jz_G) (lsA : Array Slot) (nL : Nat) (ls : List (Option jz_V)) : Prop := lsA.size = nL ∧ lv_wf lsA ∧ ∀ (i : Nat) (v : jz_V), ls[i]? = some (some v) → lsA[i]? = some (.val (jz_cv g v))
def jz_X (g : jz_G) (x : jz_M) (Q : jz_Q) (n0 : Nat) (p : Program) (e : Env) (R : Room) (s : State) (m : MethodId) (args : Array Value) (below : List Frame) (meth : Method) (c : Code) (Qf : State → Prop) : Prop :=
  p.tables.exec = Jvm.exec ∧ c.code = jm_c x ∧ c.maxLocals = jm_L x ∧ s.vm.findClass (jm_o x) = some m.cls ∧ (∀ w ∈ jz_GW, w.before args s = true) ∧ (∀ w ∈ jz_NW, va_Nw w s) ∧ va_K (jz_D g) vwCl (jz_tys g) s ∧
  (jm_d x ≤ R.frames ∧ 64 * jm_d x ≤ R.locals ∧ jm_k x ≤ R.cells ∧ 1300 * jm_k x ≤ R.slots) ∧ meth.name = (jm_y x).name ∧ s.heap.size = jz_B g + n0 ∧
  ((jm_o x = RL) → va_X (jz_b g) (jz_L g) (fun i => Int32.ofInt (jz_x g i)) s s.heap ∧ jz_b g < jz_B g ∧ jz_L g < 2147483648 ∧ ∀ i, jI (jz_x g i)) ∧
  (∀ (v : Option jz_V) (n : Nat) (V : jz_S) (H : Heap) (locs : List Loc) (pc : Nat) (lsA : Array Slot), jz_P g n V H → va_S (jz_A g) s.heap H locs → n = n0 + jm_k x → (∀ u, v = some u → jz_ok u) → jz_rok (jm_r x) v → Q v n V →
    decode (jm_c x) pc = .ok (jz_rv v, 1) → W p (jz_l g) e R s m args below meth c H locs (n - n0) (1300 * (n - n0)) Qf (F0 m pc lsA (v.toList.map (jz_cv g))))
def jz_J (g : jz_G) (x : jz_M) (n0 : Nat) (Q : jz_Q) (pc : Nat) (ls : List (Option jz_V)) (st : List jz_V) (n : Nat) (V : jz_S) : Prop :=
  ∀ p e R s m args below meth c Qf, jz_X g x Q n0 p e R s m args below meth c Qf → ∀ H locs lsA, jz_P g n V H → va_S (jz_A g) s.heap H locs → n0 ≤ n → n ≤ n0 + jm_k x → jz_Lh g lsA (jm_L x) ls → (∀ v ∈ st, jz_ok v) → (∀ v, some v ∈ ls → jz_ok v) →
    W p (jz_l g) e R s m args below meth c H locs (n - n0) (1300 * (n - n0)) Qf (F0 m pc lsA (st.map (jz_cv g)))
/-- a contract: from the store V with n cells, at these arguments -/
def jz_Pc (g : jz_G) (n : Nat) (V : jz_S) : State → Prop := fun U => jz_P g n V U.heap ∧ U.heap.size = jz_B g + n ∧ va_K (jz_D g) vwCl (jz_tys g) U ∧ ∀ w ∈ jz_NW, va_Nw w U
def jz_Qc (g : jz_G) (n : Nat) (Q : jz_Q) : Array Value → State → Outcome → State → Prop := fun _ st o t =>
  (∃ (v : Option jz_V) (V' : jz_S), o = .returned (v.map (jz_cv g)) ∧ (∀ u, v = some u → jz_ok u) ∧ jz_P g n V' t.heap ∧ Q v n V') ∧ va_F (jz_A g) st t
def jz_K (g : jz_G) (x : jz_M) (n0 : Nat) (av : List jz_V) (V : jz_S) (Q : jz_Q) : Prop :=
  (∀ v ∈ av, jz_ok v) → Met (jz_l g) (jm_y x) (jm_ws x) (jm_rm x) (va_Pc (av.map (jz_cv g)) (jz_Pc g n0 V)) (jz_Qc g (n0 + jm_k x) Q) (jm_k x) (1300 * jm_k x) (jz_A g)
def jz_ent : List jz_V → List (Option jz_V)
  | [] => []
  | .inr (.inl z) :: r => some (jl z) :: none :: jz_ent r
  | v :: r => some v :: jz_ent r
theorem jz_ent_cons1 {v : jz_V} {r : List jz_V} (h : ∀ z, v ≠ jl z) : jz_ent (v :: r) = some v :: jz_ent r := by
  rcases v with z | z | o
  · rfl
  · exact absurd rfl (h z)
  · rfl
theorem jz_cat {g : jz_G} {v : jz_V} : (jz_cv g v).category = 2 ↔ ∃ z, v = jl z := by
  rcases v with z | z | (_ | k)
  · simp [jz_cv, Value.category]
  · simp [jz_cv, Value.category]
  · simp [jz_cv, Value.category]
  · simp [jz_cv, Value.category]
theorem jz_ent_args (g : jz_G) : ∀ (av : List jz_V) (i j : Nat) (v : jz_V), (jz_ent av)[j]? = some (some v) → (i + j, jz_cv g v) ∈ lv_args i (av.map (jz_cv g)) := by
  intro av
  induction av with
  | nil => intro i j v h; simp [jz_ent] at h
  | cons a r ih =>
    intro i j v h
    by_cases ha : ∃ z, a = jl z
    · obtain ⟨z, rfl⟩ := ha
      have hc : (jz_cv g (jl z)).category = 2 := rfl
      simp only [List.map_cons, lv_args, hc, if_true]
      match j, h with
      | 0, h =>
        simp only [jz_ent, List.getElem?_cons_zero, Option.some.injEq] at h
        subst h
        exact List.mem_cons_self
      | 1, h => simp [jz_ent] at h
      | j + 2, h =>
        simp only [jz_ent, List.getElem?_cons_succ] at h
        have := ih (i + 2) j v h
        rw [show i + (j + 2) = i + 2 + j by omega]
        exact List.mem_cons_of_mem _ this
    · rw [jz_ent_cons1 (fun z hz => ha ⟨z, hz⟩)] at h
      have hc : ¬ (jz_cv g a).category = 2 := fun q => ha (jz_cat.mp q)
      simp only [List.map_cons, lv_args, hc, if_false]
      match j, h with
      | 0, h =>
        simp only [List.getElem?_cons_zero, Option.some.injEq] at h
        subst h
        exact List.mem_cons_self
      | j + 1, h =>
        simp only [List.getElem?_cons_succ] at h
        have := ih (i + 1) j v h
        rw [show i + (j + 1) = i + 1 + j by omega]
        exact List.mem_cons_of_mem _ this
theorem jz_ent_mem : ∀ (av : List jz_V) (v : jz_V), some v ∈ jz_ent av → v ∈ av := by
  intro av
  induction av with
  | nil => intro v h; simp [jz_ent] at h
  | cons a r ih =>
    intro v h
    by_cases ha : ∃ z, a = jl z
    · obtain ⟨z, rfl⟩ := ha
      simp only [jz_ent, List.mem_cons, Option.some.injEq, reduceCtorEq, false_or] at h
      rcases h with h | h
      · rw [h]; exact List.mem_cons_self
      · exact List.mem_cons_of_mem _ (ih v h)
    · rw [jz_ent_cons1 (fun z hz => ha ⟨z, hz⟩)] at h
      simp only [List.mem_cons, Option.some.injEq] at h
      rcases h with h | h
      · rw [h]; exact List.mem_cons_self
      · exact List.mem_cons_of_mem _ (ih v h)
/-- what is asked of a method's numbers, once -/
def jz_mok (x : jz_M) : Prop := plainName (jm_y x).cls = true ∧ (jm_y x).cls = jm_o x ∧ jm_o x ≠ RL
theorem jz_entryN {g : jz_G} {m : MethodId} {av : List jz_V} {n : Nat} (h : (lg_sl (av.map (jz_cv g))).length ≤ n) : ∃ lsA, entryFrame m ((av.map (jz_cv g)).toArray) n = F0 m 0 lsA [] ∧ jz_Lh g lsA n (jz_ent av) := by
  have hl := lv_entry (av.map (jz_cv g)) (n := n) h
  refine ⟨_, lg_entry_eq .., hl.1, hl.2.1, fun i v hv => ?_⟩
  have := jz_ent_args g av 0 i v hv
  rw [Nat.zero_add] at this
  exact hl.2.2 _ this
theorem jz_slen {g : jz_G} : ∀ (av : List jz_V), (lg_sl (av.map (jz_cv g))).length = (jz_ent av).length := by
  intro av
  induction av with
  | nil => rfl
  | cons a r ih =>
    rcases a with z | z | (_ | k)
    · simpa [lg_sl, jz_ent, jz_cv, Value.category] using ih
    · simpa [lg_sl, jz_ent, jz_cv, Value.category] using ih
    · simpa [lg_sl, jz_ent, jz_cv, Value.category] using ih
    · simpa [lg_sl, jz_ent, jz_cv, Value.category] using ih
theorem jz_retv {p : Program} {l : Launch} {e : Env} {R : Room} {s : State} {m : MethodId} {args : Array Value} {below : List Frame} {meth : Method} {c : Code} {H : Heap} {locs : List Loc} {cells slots : Nat} {cc : ByteArray} {Qc : Array Value → State → Outcome → State → Prop} {free : Addr → Prop}
    {g : jz_G} {r : Option FieldType} {v : Option jz_V} (hexec : p.tables.exec = Jvm.exec) (hb : c.code = cc) (hr : meth.sig.returnType = r) (hlocks : meth.locks = false) (hv : jz_rok r v)
    (hq : ∀ t : State, t.heap = H → s.WarmedH t.vm → Qc args s (.returned (v.map (jz_cv g))) t) (hf : ∀ q ∈ locs, free q.base) {pc : Nat} {ls : Array Slot} (hdg : decode cc pc = .ok (jz_rv v, 1)) :
    W p l e R s m args below meth c H locs cells slots (MQ below Qc args s cells slots free) (F0 m pc ls (v.toList.map (jz_cv g))) := by
  rcases v with _ | z | z | o
  · cases r with
    | none => exact W.vret hexec hb hr hq hf hdg hlocks
    | some r => cases r <;> exact hv.elim
  · cases r with
    | none => exact hv.elim
    | some r =>
      cases r with
      | int => exact W.iret hexec hb hr hq hf hdg hlocks
      | boolean =>
        rcases hv with rfl | rfl
        · exact W.zret (ty := .boolean) hexec hb hr narrow_b0 hq hf hdg hlocks
        · exact W.zret (ty := .boolean) hexec hb hr narrow_b1 hq hf hdg hlocks
      | _ => exact hv.elim
  · cases r with
    | none => exact hv.elim
    | some r =>
      cases r with
      | long => exact W.lret hexec hb hr hq hf hdg hlocks
      | _ => exact hv.elim
  · cases r with
    | none => exact hv.elim
    | some r =>
      cases r with
      | object C =>
        refine W.aret (v := jz_cv g (.inr (.inr o))) hexec hb hr (Or.inl ⟨_, rfl⟩) ?_ hq hf hdg hlocks
        rcases o with _ | k
        · exact Or.inl rfl
        · exact Or.inr ⟨_, rfl⟩
      | _ => exact hv.elim
/-- A METHOD's CONTRACT out of the walk of its body -/
theorem jz_K_of {g : jz_G} {x : jz_M} {n0 : Nat} {av : List jz_V} {V : jz_S} {Q : jz_Q} (hm : jz_mok x) (hlen : (jz_ent av).length ≤ jm_L x) (h : jz_J g x n0 Q 0 (jz_ent av) [] n0 V) : jz_K g x n0 av V Q := by
  intro hav
  refine Met.ofW (cc := jm_c x) (maxL := jm_L x) (ret := jm_r x) hm.1 rfl ?_
  intro p e s m args below meth c s₁ B hml hv
  obtain ⟨rfl, hP, hz, hK, hN⟩ := hv
  have hts := atoms_spec (ws := jm_ws x) B.pre
  obtain ⟨lsA, e1, hL⟩ := jz_entryN (g := g) (m := m) (av := av) (n := jm_L x) (by rw [jz_slen]; exact hlen)
  rw [e1]
  have hown : s.vm.findClass (jm_o x) = some m.cls := by rw [← hm.2.1]; exact findClass_of_methodNamed B.named
  have hX : jz_X g x Q n0 p e (headSpec (jm_ws x) (jm_rm x)).room s m ((av.map (jz_cv g)).toArray) below meth c (MQ below (jz_Qc g (n0 + jm_k x) Q) ((av.map (jz_cv g)).toArray) s (jm_k x) (1300 * jm_k x) (jz_A g)) := by
    refine ⟨B.exec, B.bytes, hml, hown, fun w hw => hts w (List.mem_cons_of_mem _ hw), hN, hK, ⟨Nat.le_refl _, Nat.le_refl _, Nat.le_refl _, Nat.le_refl _⟩, (name_of_methodNamed B.named B.method).1, hz, fun hh => absurd hh hm.2.2, ?_⟩
    intro v n V' H locs pc lsA' hP' hS' hn hvo hro hq hd
    have e2 : n - n0 = jm_k x := by omega
    rw [e2]
    refine jz_retv B.exec B.bytes B.returns B.notSynchronized hro (fun t ht hW => ⟨⟨v, V', rfl, hvo, ?_, ?_⟩, hS'.F ht⟩) (fun q hq' => hS'.2.2 q hq') hd
    · rw [ht, ← hn]; exact hP'
    · rw [← hn]; exact hq
  have := h p e _ s m _ below meth c _ hX s.heap [] lsA hP va_S.rf (Nat.le_refl _) (Nat.le_add_right _ _) hL (fun v hv => by simp at hv) (fun v hv => hav v (jz_ent_mem av v hv))
  rw [Nat.sub_self, Nat.mul_zero] at this
  exact this
end
section
/-! numbers -/
theorem jz_toInt {z : Int} (h : jI z) : (Int32.ofInt z).toInt = z := Int32.toInt_ofInt_of_le (by omega) (by omega)
theorem jz_toIntL {z : Int} (h : jL z) : (Int64.ofInt z).toInt = z := Int64.toInt_ofInt_of_le (by omega) (by omega)
theorem jz_rng (x : Int32) : jI x.toInt := ⟨by have := x.le_toInt; omega, by have := x.toInt_lt; omega⟩
theorem jz_rngL (x : Int64) : jL x.toInt := ⟨by have := x.le_toInt; omega, by have := x.toInt_lt; omega⟩
theorem jz_eqI {a b : Int} (ha : jI a) (hb : jI b) : Int32.ofInt a = Int32.ofInt b ↔ a = b := by
  rw [← Int32.toInt_inj, jz_toInt ha, jz_toInt hb]
theorem jz_ltI {a b : Int} (ha : jI a) (hb : jI b) : Int32.ofInt a < Int32.ofInt b ↔ a < b := by
  rw [Int32.lt_iff_toInt_lt, jz_toInt ha, jz_toInt hb]
theorem jz_leI {a b : Int} (ha : jI a) (hb : jI b) : Int32.ofInt a ≤ Int32.ofInt b ↔ a ≤ b := by
  rw [Int32.le_iff_toInt_le, jz_toInt ha, jz_toInt hb]
theorem jz_eqL {a b : Int} (ha : jL a) (hb : jL b) : Int64.ofInt a = Int64.ofInt b ↔ a = b := by
  rw [← Int64.toInt_inj, jz_toIntL ha, jz_toIntL hb]
theorem jz_ltL {a b : Int} (ha : jL a) (hb : jL b) : Int64.ofInt a < Int64.ofInt b ↔ a < b := by
  rw [Int64.lt_iff_toInt_lt, jz_toIntL ha, jz_toIntL hb]
theorem jz_o0 : Int32.ofInt 0 = 0 := rfl
theorem jz_in' {z : Int} {n : Nat} (h : jI z) (h0 : 0 ≤ z) (h1 : z < n) : vp_in (Int32.ofInt z) n := vp_in_iff.mpr (by rw [jz_toInt h]; exact ⟨h0, h1⟩)
theorem jz_cl {z : Int} (h : jI z) : (Int32.ofInt z).toNatClampNeg = z.toNat := by
  show (Int32.ofInt z).toInt.toNat = _
  rw [jz_toInt h]
def jand (a b : Int) : Int := (Int32.ofInt a &&& Int32.ofInt b).toInt
def jor (a b : Int) : Int := (Int32.ofInt a ||| Int32.ofInt b).toInt
def jxor (a b : Int) : Int := (Int32.ofInt a ^^^ Int32.ofInt b).toInt
def jshl (a b : Int) : Int := (Int32.ofInt a <<< (Int32.ofInt b &&& 31)).toInt
def jshr (a b : Int) : Int := (Int32.ofInt a >>> (Int32.ofInt b &&& 31)).toInt
def jushr (a b : Int) : Int := ((Int32.ofInt a).toUInt32 >>> ((Int32.ofInt b).toUInt32 &&& Int32.toUInt32 31)).toInt32.toInt
def jb (a : Int) : Int := (Int32.ofInt a).toInt8.toInt32.toInt
def js (a : Int) : Int := (Int32.ofInt a).toInt16.toInt32.toInt
def jcmp (a b : Int) : Int := if a > b then 1 else if a = b then 0 else -1
/-! lists of held locals -/
def jz_as (g : jz_G) (ls : List (Option jz_V)) : List (Nat × Value) := ls.zipIdx.filterMap fun q => q.1.map fun v => (q.2, jz_cv g v)
theorem jz_as_mem {g : jz_G} {ls : List (Option jz_V)} {i : Nat} {w : Value} : (i, w) ∈ jz_as g ls ↔ ∃ v, ls[i]? = some (some v) ∧ w = jz_cv g v := by
  unfold jz_as
  rw [List.mem_filterMap]
  constructor
  · rintro ⟨⟨o, j⟩, h1, h2⟩
    cases o with
    | none => simp at h2
    | some v =>
      simp only [Option.map_some, Option.some.injEq, Prod.mk.injEq] at h2
      obtain ⟨rfl, rfl⟩ := h2
      exact ⟨v, List.mem_zipIdx_iff_getElem?.mp h1, rfl⟩
  · rintro ⟨v, h1, rfl⟩
    exact ⟨(some v, i), List.mem_zipIdx_iff_getElem?.mpr h1, rfl⟩
theorem jz_has {g : jz_G} {lsA : Array Slot} {nL : Nat} {ls : List (Option jz_V)} (h : jz_Lh g lsA nL ls) : lv_has lsA nL (jz_as g ls) := by
  refine ⟨h.1, h.2.1, fun q hq => ?_⟩
  obtain ⟨i, w⟩ := q
  obtain ⟨v, h1, rfl⟩ := jz_as_mem.mp hq
  exact h.2.2 i v h1
/-- the local before i holds no long -/
def jz_nl (ls : List (Option jz_V)) (i : Nat) : Bool := match i with
  | 0 => true
  | i + 1 => match ls[i]? with
    | some (some (.inr (.inl _))) => false
    | _ => true
def jz_c1 (v : jz_V) : Bool := match v with
  | .inr (.inl _) => false
  | _ => true
theorem jz_c1_cat {g : jz_G} {v : jz_V} (h : jz_c1 v = true) : (jz_cv g v).category = 1 := by
  rcases v with z | z | (_ | k)
  · rfl
  · cases h
  · rfl
  · rfl
theorem jz_nl_of {g : jz_G} {ls : List (Option jz_V)} {i j : Nat} {w : jz_V} (h : jz_nl ls i = true) (hj : ls[j]? = some (some w)) (e : j + 1 = i) (hc : (jz_cv g w).category = 2) : False := by
  subst e
  obtain ⟨z, rfl⟩ := jz_cat.mp hc
  simp only [jz_nl, hj] at h
  cases h
theorem jz_Lh_set {g : jz_G} {lsA : Array Slot} {nL i : Nat} {ls : List (Option jz_V)} {v : jz_V} (hn : jz_nl ls i = true) (h : lv_has lsA nL ((i, jz_cv g v) :: (jz_as g ls).filter (fun q => !(q.1 == i) && !(q.1 + 1 == i && q.2.category == 2)))) : jz_Lh g lsA nL (ls.set i (some v)) := by
  refine ⟨h.1, h.2.1, fun j w hj => ?_⟩
  by_cases e : i = j
  · subst e
    rw [List.getElem?_set] at hj
    split at hj
    · split at hj
      · simp only [Option.some.injEq] at hj
        subst hj
        exact h.2.2 (i, jz_cv g v) List.mem_cons_self
      · cases hj
    · exact absurd rfl ‹_›
  · rw [List.getElem?_set_ne e] at hj
    refine h.2.2 (j, jz_cv g w) (List.mem_cons_of_mem _ (List.mem_filter.mpr ⟨jz_as_mem.mpr ⟨w, hj, rfl⟩, ?_⟩))
    have e1 : (j == i) = false := by simp; exact fun q => e q.symm
    have e2 : (j + 1 == i && (jz_cv g w).category == 2) = false := by
      rw [Bool.and_eq_false_iff]
      by_cases q : j + 1 = i
      · right
        simp only [beq_eq_false_iff_ne, ne_eq]
        exact fun hc => jz_nl_of hn hj q hc
      · left
        simpa using q
    simp only [e1, e2]
    rfl
theorem jz_Lh_set2 {g : jz_G} {lsA : Array Slot} {nL i : Nat} {ls : List (Option jz_V)} {v : jz_V} (hn : jz_nl ls i = true) (h : lv_has lsA nL ((i, jz_cv g v) :: (jz_as g ls).filter (fun q => !(q.1 == i) && (!(q.1 == i + 1) && !(q.1 + 1 == i && q.2.category == 2))))) : jz_Lh g lsA nL ((ls.set i (some v)).set (i + 1) none) := by
  refine ⟨h.1, h.2.1, fun j w hj => ?_⟩
  by_cases e1 : i + 1 = j
  · subst e1
    rw [List.getElem?_set] at hj
    split at hj
    · split at hj <;> cases hj
    · exact absurd rfl ‹_›
  · rw [List.getElem?_set_ne e1] at hj
    by_cases e : i = j
    · subst e
      rw [List.getElem?_set] at hj
      split at hj
      · split at hj
        · simp only [Option.some.injEq] at hj
          subst hj
          exact h.2.2 (i, jz_cv g v) List.mem_cons_self
        · cases hj
      · exact absurd rfl ‹_›
    · rw [List.getElem?_set_ne e] at hj
      refine h.2.2 (j, jz_cv g w) (List.mem_cons_of_mem _ (List.mem_filter.mpr ⟨jz_as_mem.mpr ⟨w, hj, rfl⟩, ?_⟩))
      have a1 : (j == i) = false := by simp; exact fun q => e q.symm
      have a2 : (j == i + 1) = false := by simp; exact fun q => e1 q.symm
      have a3 : (j + 1 == i && (jz_cv g w).category == 2) = false := by
        rw [Bool.and_eq_false_iff]
        by_cases q : j + 1 = i
        · right
          simp only [beq_eq_false_iff_ne, ne_eq]
          exact fun hc => jz_nl_of hn hj q hc
        · left
          simpa using q
      simp only [a1, a2, a3]
      rfl
theorem jz_consv {v : jz_V} {st : List jz_V} (h : jz_ok v) (hs : ∀ u ∈ st, jz_ok u) : ∀ u ∈ v :: st, jz_ok u := fun u hu => (List.mem_cons.mp hu).elim (fun q => q ▸ h) (hs u)
theorem jz_hd {v : jz_V} {st : List jz_V} (hs : ∀ u ∈ v :: st, jz_ok u) : jz_ok v := hs v List.mem_cons_self
theorem jz_tl {v : jz_V} {st : List jz_V} (hs : ∀ u ∈ v :: st, jz_ok u) : ∀ u ∈ st, jz_ok u := fun u hu => hs u (List.mem_cons_of_mem _ hu)
theorem jz_setok {ls : List (Option jz_V)} {i : Nat} {v : jz_V} (h : jz_ok v) (hl : ∀ u, some u ∈ ls → jz_ok u) : ∀ u, some u ∈ ls.set i (some v) → jz_ok u := fun u hu => by
  rcases List.mem_or_eq_of_mem_set hu with q | q
  · exact hl u q
  · rw [Option.some.inj q]; exact h
theorem jz_setnone {ls : List (Option jz_V)} {i : Nat} (hl : ∀ u, some u ∈ ls → jz_ok u) : ∀ u, some u ∈ ls.set i none → jz_ok u := fun u hu => by
  rcases List.mem_or_eq_of_mem_set hu with q | q
  · exact hl u q
  · cases q
section NUL
variable {p : Program} {l : Launch} {e : Env} {R : Room} {s : State} {m : MethodId} {args : Array Value} {below : List Frame} {meth : Method} {c : Code} {H : Heap} {locs : List Loc} {cells slots : Nat} {Q : State → Prop}
variable {cc : ByteArray} {pc : Nat} {ls : Array Slot} {rest : List Value}
theorem jz_null1 (hexec : p.tables.exec = Jvm.exec) (hb : c.code = cc) {off : Int} {tgt : Nat} (hdg : decode cc pc = .ok (.ifnull off, 3)) (ht : (pc : Int) + off = (tgt : Int)) (k : W p l e R s m args below meth c H locs cells slots Q (F0 m tgt ls rest)) : W p l e R s m args below meth c H locs cells slots Q (F0 m pc ls (.null :: rest)) := by
  intro T hT X
  obtain ⟨t, a, b⟩ := k T hT X
  refine ⟨t, ?_, b⟩
  jvm_step X.here [X.here.top, hexec, hb, hdg, ht, Value.isRef]
  exact a
theorem jz_null2 (hexec : p.tables.exec = Jvm.exec) (hb : c.code = cc) {off : Int} (hdg : decode cc pc = .ok (.ifnonnull off, 3)) (k : W p l e R s m args below meth c H locs cells slots Q (F0 m (pc + 3) ls rest)) : W p l e R s m args below meth c H locs cells slots Q (F0 m pc ls (.null :: rest)) := by
  intro T hT X
  obtain ⟨t, a, b⟩ := k T hT X
  refine ⟨t, ?_, b⟩
  jvm_step X.here [X.here.top, hexec, hb, hdg, Value.isRef]
  exact a
end NUL
section JR
variable {g : jz_G} {x : jz_M} {n0 : Nat} {Q : jz_Q} {pc : Nat} {ls : List (Option jz_V)} {st : List jz_V} {n : Nat} {V : jz_S}
/-- a step that moves no cell and no local -/
theorem jj_step {pc' : Nat} {st' : List jz_V}
    (h : ∀ (p : Program) (e : Env) (R : Room) (s : State) (m : MethodId) (args : Array Value) (below : List Frame) (meth : Method) (c : Code) (Qf : State → Prop) (H : Heap) (locs : List Loc) (cells slots : Nat) (lsA : Array Slot), p.tables.exec = Jvm.exec → c.code = jm_c x → s.vm.findClass (jm_o x) = some m.cls → (∀ w ∈ jz_GW, w.before args s = true) → (∀ v ∈ st, jz_ok v) →
      W p (jz_l g) e R s m args below meth c H locs cells slots Qf (F0 m pc' lsA (st'.map (jz_cv g))) → W p (jz_l g) e R s m args below meth c H locs cells slots Qf (F0 m pc lsA (st.map (jz_cv g))))
    (hok : (∀ v ∈ st, jz_ok v) → ∀ v ∈ st', jz_ok v) (kk : jz_J g x n0 Q pc' ls st' n V) : jz_J g x n0 Q pc ls st n V := by
  intro p e R s m args below meth c Qf C H locs lsA hP hS hn hn2 hL hst hls
  exact h p e R s m args below meth c Qf H locs _ _ lsA C.1 C.2.1 C.2.2.2.1 C.2.2.2.2.1 hst (kk p e R s m args below meth c Qf C H locs lsA hP hS hn hn2 hL (hok hst) hls)
theorem jj_iload_n {k : Fin 4} {z : Int} (hd : decode (jm_c x) pc = .ok (.iload_n k, 1)) (hv : ls[(k : Nat)]? = some (some (ji z))) (kk : jz_J g x n0 Q (pc + 1) ls (ji z :: st) n V) : jz_J g x n0 Q pc ls st n V := by
  intro p e R s m args below meth c Qf C H locs lsA hP hS hn hn2 hL hst hls
  exact lv_iload_n C.1 C.2.1 hd rfl (hL.2.2 _ _ hv) (kk p e R s m args below meth c Qf C H locs lsA hP hS hn hn2 hL (jz_consv (hls _ (List.mem_of_getElem? hv)) hst) hls)
theorem jj_iload {i : Nat} {z : Int} (hd : decode (jm_c x) pc = .ok (.iload i, 2)) (hv : ls[i]? = some (some (ji z))) (kk : jz_J g x n0 Q (pc + 2) ls (ji z :: st) n V) : jz_J g x n0 Q pc ls st n V := by
  intro p e R s m args below meth c Qf C H locs lsA hP hS hn hn2 hL hst hls
  exact lv_iload C.1 C.2.1 hd (hL.2.2 _ _ hv) (kk p e R s m args below meth c Qf C H locs lsA hP hS hn hn2 hL (jz_consv (hls _ (List.mem_of_getElem? hv)) hst) hls)
theorem jj_lload_n {k : Fin 4} {z : Int} (hd : decode (jm_c x) pc = .ok (.lload_n k, 1)) (hv : ls[(k : Nat)]? = some (some (jl z))) (kk : jz_J g x n0 Q (pc + 1) ls (jl z :: st) n V) : jz_J g x n0 Q pc ls st n V := by
  intro p e R s m args below meth c Qf C H locs lsA hP hS hn hn2 hL hst hls
  exact lv_lload_n C.1 C.2.1 hd rfl (hL.2.2 _ _ hv) (kk p e R s m args below meth c Qf C H locs lsA hP hS hn hn2 hL (jz_consv (hls _ (List.mem_of_getElem? hv)) hst) hls)
theorem jj_lload {i : Nat} {z : Int} (hd : decode (jm_c x) pc = .ok (.lload i, 2)) (hv : ls[i]? = some (some (jl z))) (kk : jz_J g x n0 Q (pc + 2) ls (jl z :: st) n V) : jz_J g x n0 Q pc ls st n V := by
  intro p e R s m args below meth c Qf C H locs lsA hP hS hn hn2 hL hst hls
  exact lv_lload C.1 C.2.1 hd (hL.2.2 _ _ hv) (kk p e R s m args below meth c Qf C H locs lsA hP hS hn hn2 hL (jz_consv (hls _ (List.mem_of_getElem? hv)) hst) hls)
theorem jj_aload_n {k : Fin 4} {a : Nat} (hd : decode (jm_c x) pc = .ok (.aload_n k, 1)) (hv : ls[(k : Nat)]? = some (some (jr a))) (kk : jz_J g x n0 Q (pc + 1) ls (jr a :: st) n V) : jz_J g x n0 Q pc ls st n V := by
  intro p e R s m args below meth c Qf C H locs lsA hP hS hn hn2 hL hst hls
  exact lv_aload_n C.1 C.2.1 hd rfl (hL.2.2 _ _ hv) (kk p e R s m args below meth c Qf C H locs lsA hP hS hn hn2 hL (jz_consv (hls _ (List.mem_of_getElem? hv)) hst) hls)
theorem jj_aload {i a : Nat} (hd : decode (jm_c x) pc = .ok (.aload i, 2)) (hv : ls[i]? = some (some (jr a))) (kk : jz_J g x n0 Q (pc + 2) ls (jr a :: st) n V) : jz_J g x n0 Q pc ls st n V := by
  intro p e R s m args below meth c Qf C H locs lsA hP hS hn hn2 hL hst hls
  exact lv_aload C.1 C.2.1 hd (hL.2.2 _ _ hv) (kk p e R s m args below meth c Qf C H locs lsA hP hS hn hn2 hL (jz_consv (hls _ (List.mem_of_getElem? hv)) hst) hls)
theorem jj_istore_n {k : Fin 4} {z : Int} {ls' : List (Option jz_V)} (hd : decode (jm_c x) pc = .ok (.istore_n k, 1)) (hi : (k : Nat) < jm_L x) (hn : jz_nl ls k = true) (hs : ls.set k (some (ji z)) = ls') (kk : jz_J g x n0 Q (pc + 1) ls' st n V) : jz_J g x n0 Q pc ls (ji z :: st) n V := by
  intro p e R s m args below meth c Qf C H locs lsA hP hS hn1 hn2 hL hst hls
  subst hs
  exact lv_istore_n C.1 C.2.1 hd rfl (jz_has hL) hi rfl (fun ls1 h1 => kk p e R s m args below meth c Qf C H locs ls1 hP hS hn1 hn2 (jz_Lh_set (v := ji z) hn h1) (jz_tl hst) (jz_setok (jz_hd hst) hls))
theorem jj_istore {i : Nat} {z : Int} {ls' : List (Option jz_V)} (hd : decode (jm_c x) pc = .ok (.istore i, 2)) (hi : i < jm_L x) (hn : jz_nl ls i = true) (hs : ls.set i (some (ji z)) = ls') (kk : jz_J g x n0 Q (pc + 2) ls' st n V) : jz_J g x n0 Q pc ls (ji z :: st) n V := by
  intro p e R s m args below meth c Qf C H locs lsA hP hS hn1 hn2 hL hst hls
  subst hs
  exact lv_istore C.1 C.2.1 hd (jz_has hL) hi rfl (fun ls1 h1 => kk p e R s m args below meth c Qf C H locs ls1 hP hS hn1 hn2 (jz_Lh_set (v := ji z) hn h1) (jz_tl hst) (jz_setok (jz_hd hst) hls))
theorem jj_astore_n {k : Fin 4} {a : Nat} {ls' : List (Option jz_V)} (hd : decode (jm_c x) pc = .ok (.astore_n k, 1)) (hi : (k : Nat) < jm_L x) (hn : jz_nl ls k = true) (hs : ls.set k (some (jr a)) = ls') (kk : jz_J g x n0 Q (pc + 1) ls' st n V) : jz_J g x n0 Q pc ls (jr a :: st) n V := by
  intro p e R s m args below meth c Qf C H locs lsA hP hS hn1 hn2 hL hst hls
  subst hs
  exact lv_astore_n C.1 C.2.1 hd rfl (jz_has hL) hi rfl (fun ls1 h1 => kk p e R s m args below meth c Qf C H locs ls1 hP hS hn1 hn2 (jz_Lh_set (v := jr a) hn h1) (jz_tl hst) (jz_setok (jz_hd hst) hls))
theorem jj_astore {i a : Nat} {ls' : List (Option jz_V)} (hd : decode (jm_c x) pc = .ok (.astore i, 2)) (hi : i < jm_L x) (hn : jz_nl ls i = true) (hs : ls.set i (some (jr a)) = ls') (kk : jz_J g x n0 Q (pc + 2) ls' st n V) : jz_J g x n0 Q pc ls (jr a :: st) n V := by
  intro p e R s m args below meth c Qf C H locs lsA hP hS hn1 hn2 hL hst hls
  subst hs
  exact lv_astore C.1 C.2.1 hd (jz_has hL) hi rfl (fun ls1 h1 => kk p e R s m args below meth c Qf C H locs ls1 hP hS hn1 hn2 (jz_Lh_set (v := jr a) hn h1) (jz_tl hst) (jz_setok (jz_hd hst) hls))
theorem jj_lstore_n {k : Fin 4} {z : Int} {ls' : List (Option jz_V)} (hd : decode (jm_c x) pc = .ok (.lstore_n k, 1)) (hi : (k : Nat) + 1 < jm_L x) (hn : jz_nl ls k = true) (hs : (ls.set k (some (jl z))).set ((k : Nat) + 1) none = ls') (kk : jz_J g x n0 Q (pc + 1) ls' st n V) : jz_J g x n0 Q pc ls (jl z :: st) n V := by
  intro p e R s m args below meth c Qf C H locs lsA hP hS hn1 hn2 hL hst hls
  subst hs
  exact lv_lstore_n C.1 C.2.1 hd rfl (jz_has hL) hi rfl (fun ls1 h1 => kk p e R s m args below meth c Qf C H locs ls1 hP hS hn1 hn2 (jz_Lh_set2 (v := jl z) hn h1) (jz_tl hst) (jz_setnone (jz_setok (jz_hd hst) hls)))
theorem jj_lstore {i : Nat} {z : Int} {ls' : List (Option jz_V)} (hd : decode (jm_c x) pc = .ok (.lstore i, 2)) (hi : i + 1 < jm_L x) (hn : jz_nl ls i = true) (hs : (ls.set i (some (jl z))).set (i + 1) none = ls') (kk : jz_J g x n0 Q (pc + 2) ls' st n V) : jz_J g x n0 Q pc ls (jl z :: st) n V := by
  intro p e R s m args below meth c Qf C H locs lsA hP hS hn1 hn2 hL hst hls
  subst hs
  exact lv_lstore C.1 C.2.1 hd (jz_has hL) hi rfl (fun ls1 h1 => kk p e R s m args below meth c Qf C H locs ls1 hP hS hn1 hn2 (jz_Lh_set2 (v := jl z) hn h1) (jz_tl hst) (jz_setnone (jz_setok (jz_hd hst) hls)))
theorem jj_iinc {i : Nat} {z c0 : Int} {ls' : List (Option jz_V)} (hd : decode (jm_c x) pc = .ok (.iinc i c0, 3)) (hv : ls[i]? = some (some (ji z))) (hi : i < jm_L x) (hn : jz_nl ls i = true) (hr : jI (z + c0)) (hs : ls.set i (some (ji (z + c0))) = ls') (kk : jz_J g x n0 Q (pc + 3) ls' st n V) : jz_J g x n0 Q pc ls st n V := by
  intro p e R s m args below meth c Qf C H locs lsA hP hS hn1 hn2 hL hst hls
  subst hs
  obtain ⟨k, hk⟩ := List.getElem?_of_mem (jz_as_mem (g := g).mpr ⟨ji z, hv, rfl⟩)
  exact lv_iinc C.1 C.2.1 hd (jz_has hL) hk (v := Int32.ofInt (z + c0)) (Int32.ofInt_add z c0).symm hi rfl (fun ls1 h1 => kk p e R s m args below meth c Qf C H locs ls1 hP hS hn1 hn2 (jz_Lh_set (v := ji (z + c0)) hn h1) hst (jz_setok (v := ji (z + c0)) hr hls))
theorem jj_iconst {c0 : Int} (hd : decode (jm_c x) pc = .ok (.iconst c0, 1)) (hr : jI c0 := by decide) (kk : jz_J g x n0 Q (pc + 1) ls (ji c0 :: st) n V) : jz_J g x n0 Q pc ls st n V :=
  jj_step (fun _ _ _ _ _ _ _ _ _ _ _ _ _ _ _ hx hb _ _ _ k => lv_iconst hx hb hd rfl k) (jz_consv (v := ji c0) hr) kk
theorem jj_bipush {c0 : Int} (hd : decode (jm_c x) pc = .ok (.bipush c0, 2)) (hv : (Int8.ofInt c0).toInt32 = Int32.ofInt c0 := by decide +kernel) (hr : jI c0 := by decide) (kk : jz_J g x n0 Q (pc + 2) ls (ji c0 :: st) n V) : jz_J g x n0 Q pc ls st n V :=
  jj_step (fun _ _ _ _ _ _ _ _ _ _ _ _ _ _ _ hx hb _ _ _ k => lv_bipush hx hb hd hv k) (jz_consv (v := ji c0) hr) kk
theorem jj_sipush {c0 : Int} (hd : decode (jm_c x) pc = .ok (.sipush c0, 3)) (hv : (Int16.ofInt c0).toInt32 = Int32.ofInt c0 := by decide +kernel) (hr : jI c0 := by decide) (kk : jz_J g x n0 Q (pc + 3) ls (ji c0 :: st) n V) : jz_J g x n0 Q pc ls st n V :=
  jj_step (fun _ _ _ _ _ _ _ _ _ _ _ _ _ _ _ hx hb _ _ _ k => lv_sipush hx hb hd hv k) (jz_consv (v := ji c0) hr) kk
theorem jj_lconst {c0 : Fin 2} {z : Int} (hd : decode (jm_c x) pc = .ok (.lconst c0, 1)) (hz : (c0 : Nat) = z := by rfl) (hr : jL z := by decide) (kk : jz_J g x n0 Q (pc + 1) ls (jl z :: st) n V) : jz_J g x n0 Q pc ls st n V :=
  jj_step (fun _ _ _ _ _ _ _ _ _ _ _ _ _ _ _ hx hb _ _ _ k => lv_lconst hx hb hd (v := Int64.ofInt z) (by rw [← hz, Int64.ofInt_eq_ofNat]) k) (jz_consv (v := jl z) hr) kk
theorem jj_ldc {idx : Nat} {z : Int} (hd : decode (jm_c x) pc = .ok (.ldc idx, 2)) (hw : Cond.constant (jm_o x) idx (Int32.ofInt z) ∈ jz_GW) (hr : jI z := by decide) (kk : jz_J g x n0 Q (pc + 2) ls (ji z :: st) n V) : jz_J g x n0 Q pc ls st n V :=
  jj_step (fun _ _ _ _ _ _ _ _ _ _ _ _ _ _ _ hx hb ho ht _ k => lv_ldc hx hb ho (ht _ hw) hd k) (jz_consv (v := ji z) hr) kk
theorem jj_ldcw {idx : Nat} {z : Int} (hd : decode (jm_c x) pc = .ok (.ldc_w idx, 3)) (hw : Cond.constant (jm_o x) idx (Int32.ofInt z) ∈ jz_GW) (hr : jI z := by decide) (kk : jz_J g x n0 Q (pc + 3) ls (ji z :: st) n V) : jz_J g x n0 Q pc ls st n V :=
  jj_step (fun _ _ _ _ _ _ _ _ _ _ _ _ _ _ _ hx hb ho ht _ k => lv_ldcw hx hb ho (ht _ hw) hd k) (jz_consv (v := ji z) hr) kk
theorem jj_ldc2 {idx : Nat} {z : Int} (hd : decode (jm_c x) pc = .ok (.ldc2_w idx, 3)) (hw : Cond.constantLong (jm_o x) idx (Int64.ofInt z) ∈ jz_GW) (hr : jL z := by decide) (kk : jz_J g x n0 Q (pc + 3) ls (jl z :: st) n V) : jz_J g x n0 Q pc ls st n V :=
  jj_step (fun _ _ _ _ _ _ _ _ _ _ _ _ _ _ _ hx hb ho ht _ k => lv_ldc2 hx hb ho (ht _ hw) hd k) (jz_consv (v := jl z) hr) kk
theorem jj_null (hd : decode (jm_c x) pc = .ok (.aconst_null, 1)) (kk : jz_J g x n0 Q (pc + 1) ls (jn :: st) n V) : jz_J g x n0 Q pc ls st n V :=
  jj_step (fun _ _ _ _ _ _ _ _ _ _ _ _ _ _ _ hx hb _ _ _ k => lv_null hx hb hd k) (jz_consv (v := jn) trivial) kk
theorem jj_iadd {a b : Int} (hd : decode (jm_c x) pc = .ok (.iadd, 1)) (hr : jI (a + b)) (kk : jz_J g x n0 Q (pc + 1) ls (ji (a + b) :: st) n V) : jz_J g x n0 Q pc ls (ji b :: ji a :: st) n V :=
  jj_step (fun _ _ _ _ _ _ _ _ _ _ _ _ _ _ _ hx hb _ _ _ k => lv_iadd hx hb hd (by rw [← Int32.ofInt_add]; exact k)) (fun h => jz_consv (v := ji (a + b)) hr (jz_tl (jz_tl h))) kk
theorem jj_isub {a b : Int} (hd : decode (jm_c x) pc = .ok (.isub, 1)) (hr : jI (a - b)) (kk : jz_J g x n0 Q (pc + 1) ls (ji (a - b) :: st) n V) : jz_J g x n0 Q pc ls (ji b :: ji a :: st) n V :=
  jj_step (fun _ _ _ _ _ _ _ _ _ _ _ _ _ _ _ hx hb _ _ _ k => lv_isub hx hb hd (by rw [← Int32.ofInt_sub]; exact k)) (fun h => jz_consv (v := ji (a - b)) hr (jz_tl (jz_tl h))) kk
theorem jj_imul {a b : Int} (hd : decode (jm_c x) pc = .ok (.imul, 1)) (hr : jI (a * b)) (kk : jz_J g x n0 Q (pc + 1) ls (ji (a * b) :: st) n V) : jz_J g x n0 Q pc ls (ji b :: ji a :: st) n V :=
  jj_step (fun _ _ _ _ _ _ _ _ _ _ _ _ _ _ _ hx hb _ _ _ k => lv_imul hx hb hd (by rw [← Int32.ofInt_mul]; exact k)) (fun h => jz_consv (v := ji (a * b)) hr (jz_tl (jz_tl h))) kk
theorem jj_ineg {a : Int} (hd : decode (jm_c x) pc = .ok (.ineg, 1)) (hr : jI (-a)) (kk : jz_J g x n0 Q (pc + 1) ls (ji (-a) :: st) n V) : jz_J g x n0 Q pc ls (ji a :: st) n V :=
  jj_step (fun _ _ _ _ _ _ _ _ _ _ _ _ _ _ _ hx hb _ _ _ k => lv_ineg hx hb hd (by rw [← Int32.ofInt_neg]; exact k)) (fun h => jz_consv (v := ji (-a)) hr (jz_tl h)) kk
theorem jz_tdI {a b : Int} (ha : jI a) (hb : jI b) : Int32.ofInt a / Int32.ofInt b = Int32.ofInt (a.tdiv b) :=
  (Int32.ofInt_tdiv (by rw [Int32.toInt_minValue]; omega) (by rw [Int32.toInt_maxValue]; omega) (by rw [Int32.toInt_minValue]; omega) (by rw [Int32.toInt_maxValue]; omega)).symm
theorem jz_tdL {a b : Int} (ha : jL a) (hb : jL b) : Int64.ofInt a / Int64.ofInt b = Int64.ofInt (a.tdiv b) :=
  (Int64.ofInt_tdiv (by rw [Int64.toInt_minValue]; omega) (by rw [Int64.toInt_maxValue]; omega) (by rw [Int64.toInt_minValue]; omega) (by rw [Int64.toInt_maxValue]; omega)).symm
theorem jz_ne0 {b : Int} (hb : jI b) (h : b ≠ 0) : ¬ Int32.ofInt b = 0 := fun q => h ((jz_eqI hb (by decide)).mp (q.trans jz_o0.symm))
theorem jz_ne0L {b : Int} (hb : jL b) (h : b ≠ 0) : ¬ Int64.ofInt b = 0 := fun q => h ((jz_eqL hb (by decide)).mp (q.trans (rfl : Int64.ofInt 0 = 0).symm))
theorem jj_idiv {a b : Int} (hd : decode (jm_c x) pc = .ok (.idiv, 1)) (hb0 : b ≠ 0) (hr : jI (a.tdiv b)) (kk : jz_J g x n0 Q (pc + 1) ls (ji (a.tdiv b) :: st) n V) : jz_J g x n0 Q pc ls (ji b :: ji a :: st) n V :=
  jj_step (fun _ _ _ _ _ _ _ _ _ _ _ _ _ _ _ hx hb _ _ hs k => lv_idiv hx hb hd (jz_ne0 (jz_hd hs) hb0) (by rw [jz_tdI (jz_hd (jz_tl hs)) (jz_hd hs)]; exact k)) (fun h => jz_consv (v := ji (a.tdiv b)) hr (jz_tl (jz_tl h))) kk
theorem jj_irem {a b : Int} (hd : decode (jm_c x) pc = .ok (.irem, 1)) (hb0 : b ≠ 0) (hr : jI (a.tmod b)) (kk : jz_J g x n0 Q (pc + 1) ls (ji (a.tmod b) :: st) n V) : jz_J g x n0 Q pc ls (ji b :: ji a :: st) n V :=
  jj_step (fun _ _ _ _ _ _ _ _ _ _ _ _ _ _ _ hx hb _ _ hs k => lv_irem hx hb hd (jz_ne0 (jz_hd hs) hb0) (by
    rw [jz_tdI (jz_hd (jz_tl hs)) (jz_hd hs), ← Int32.ofInt_mul, ← Int32.ofInt_sub]
    rw [show a - a.tdiv b * b = a.tmod b by rw [Int.tmod_def, Int.mul_comm]]
    exact k)) (fun h => jz_consv (v := ji (a.tmod b)) hr (jz_tl (jz_tl h))) kk
theorem jj_ladd {a b : Int} (hd : decode (jm_c x) pc = .ok (.ladd, 1)) (hr : jL (a + b)) (kk : jz_J g x n0 Q (pc + 1) ls (jl (a + b) :: st) n V) : jz_J g x n0 Q pc ls (jl b :: jl a :: st) n V :=
  jj_step (fun _ _ _ _ _ _ _ _ _ _ _ _ _ _ _ hx hb _ _ _ k => lv_ladd hx hb hd (by rw [← Int64.ofInt_add]; exact k)) (fun h => jz_consv (v := jl (a + b)) hr (jz_tl (jz_tl h))) kk
theorem jj_lsub {a b : Int} (hd : decode (jm_c x) pc = .ok (.lsub, 1)) (hr : jL (a - b)) (kk : jz_J g x n0 Q (pc + 1) ls (jl (a - b) :: st) n V) : jz_J g x n0 Q pc ls (jl b :: jl a :: st) n V :=
  jj_step (fun _ _ _ _ _ _ _ _ _ _ _ _ _ _ _ hx hb _ _ _ k => lv_lsub hx hb hd (by rw [← Int64.ofInt_sub]; exact k)) (fun h => jz_consv (v := jl (a - b)) hr (jz_tl (jz_tl h))) kk
theorem jj_lmul {a b : Int} (hd : decode (jm_c x) pc = .ok (.lmul, 1)) (hr : jL (a * b)) (kk : jz_J g x n0 Q (pc + 1) ls (jl (a * b) :: st) n V) : jz_J g x n0 Q pc ls (jl b :: jl a :: st) n V :=
  jj_step (fun _ _ _ _ _ _ _ _ _ _ _ _ _ _ _ hx hb _ _ _ k => lv_lmul hx hb hd (by rw [← Int64.ofInt_mul]; exact k)) (fun h => jz_consv (v := jl (a * b)) hr (jz_tl (jz_tl h))) kk
theorem jj_ldiv {a b : Int} (hd : decode (jm_c x) pc = .ok (.ldiv, 1)) (hb0 : b ≠ 0) (hr : jL (a.tdiv b)) (kk : jz_J g x n0 Q (pc + 1) ls (jl (a.tdiv b) :: st) n V) : jz_J g x n0 Q pc ls (jl b :: jl a :: st) n V :=
  jj_step (fun _ _ _ _ _ _ _ _ _ _ _ _ _ _ _ hx hb _ _ hs k => lv_ldiv hx hb hd (jz_ne0L (jz_hd hs) hb0) (by rw [jz_tdL (jz_hd (jz_tl hs)) (jz_hd hs)]; exact k)) (fun h => jz_consv (v := jl (a.tdiv b)) hr (jz_tl (jz_tl h))) kk
theorem jj_lrem {a b : Int} (hd : decode (jm_c x) pc = .ok (.lrem, 1)) (hb0 : b ≠ 0) (hr : jL (a.tmod b)) (kk : jz_J g x n0 Q (pc + 1) ls (jl (a.tmod b) :: st) n V) : jz_J g x n0 Q pc ls (jl b :: jl a :: st) n V :=
  jj_step (fun _ _ _ _ _ _ _ _ _ _ _ _ _ _ _ hx hb _ _ hs k => lv_lrem hx hb hd (jz_ne0L (jz_hd hs) hb0) (by
    rw [jz_tdL (jz_hd (jz_tl hs)) (jz_hd hs), ← Int64.ofInt_mul, ← Int64.ofInt_sub]
    rw [show a - a.tdiv b * b = a.tmod b by rw [Int.tmod_def, Int.mul_comm]]
    exact k)) (fun h => jz_consv (v := jl (a.tmod b)) hr (jz_tl (jz_tl h))) kk
theorem jj_iand {a b : Int} (hd : decode (jm_c x) pc = .ok (.iand, 1)) (kk : jz_J g x n0 Q (pc + 1) ls (ji (jand a b) :: st) n V) : jz_J g x n0 Q pc ls (ji b :: ji a :: st) n V :=
  jj_step (fun _ _ _ _ _ _ _ _ _ _ _ _ _ _ _ hx hb _ _ _ k => lv_iand hx hb hd (by rw [← Int32.ofInt_toInt (Int32.ofInt a &&& Int32.ofInt b)]; exact k)) (fun h => jz_consv (v := ji (jand a b)) (jz_rng _) (jz_tl (jz_tl h))) kk
theorem jj_ior {a b : Int} (hd : decode (jm_c x) pc = .ok (.ior, 1)) (kk : jz_J g x n0 Q (pc + 1) ls (ji (jor a b) :: st) n V) : jz_J g x n0 Q pc ls (ji b :: ji a :: st) n V :=
  jj_step (fun _ _ _ _ _ _ _ _ _ _ _ _ _ _ _ hx hb _ _ _ k => lv_ior hx hb hd (by rw [← Int32.ofInt_toInt (Int32.ofInt a ||| Int32.ofInt b)]; exact k)) (fun h => jz_consv (v := ji (jor a b)) (jz_rng _) (jz_tl (jz_tl h))) kk
theorem jj_ixor {a b : Int} (hd : decode (jm_c x) pc = .ok (.ixor, 1)) (kk : jz_J g x n0 Q (pc + 1) ls (ji (jxor a b) :: st) n V) : jz_J g x n0 Q pc ls (ji b :: ji a :: st) n V :=
  jj_step (fun _ _ _ _ _ _ _ _ _ _ _ _ _ _ _ hx hb _ _ _ k => lv_ixor hx hb hd (by rw [← Int32.ofInt_toInt (Int32.ofInt a ^^^ Int32.ofInt b)]; exact k)) (fun h => jz_consv (v := ji (jxor a b)) (jz_rng _) (jz_tl (jz_tl h))) kk
theorem jj_ishl {a b : Int} (hd : decode (jm_c x) pc = .ok (.ishl, 1)) (kk : jz_J g x n0 Q (pc + 1) ls (ji (jshl a b) :: st) n V) : jz_J g x n0 Q pc ls (ji b :: ji a :: st) n V :=
  jj_step (fun _ _ _ _ _ _ _ _ _ _ _ _ _ _ _ hx hb _ _ _ k => lv_ishl hx hb hd (by rw [← Int32.ofInt_toInt (Int32.ofInt a <<< (Int32.ofInt b &&& 31))]; exact k)) (fun h => jz_consv (v := ji (jshl a b)) (jz_rng _) (jz_tl (jz_tl h))) kk
theorem jj_ishr {a b : Int} (hd : decode (jm_c x) pc = .ok (.ishr, 1)) (kk : jz_J g x n0 Q (pc + 1) ls (ji (jshr a b) :: st) n V) : jz_J g x n0 Q pc ls (ji b :: ji a :: st) n V :=
  jj_step (fun _ _ _ _ _ _ _ _ _ _ _ _ _ _ _ hx hb _ _ _ k => lv_ishr hx hb hd (by rw [← Int32.ofInt_toInt (Int32.ofInt a >>> (Int32.ofInt b &&& 31))]; exact k)) (fun h => jz_consv (v := ji (jshr a b)) (jz_rng _) (jz_tl (jz_tl h))) kk
theorem jj_iushr {a b : Int} (hd : decode (jm_c x) pc = .ok (.iushr, 1)) (kk : jz_J g x n0 Q (pc + 1) ls (ji (jushr a b) :: st) n V) : jz_J g x n0 Q pc ls (ji b :: ji a :: st) n V :=
  jj_step (fun _ _ _ _ _ _ _ _ _ _ _ _ _ _ _ hx hb _ _ _ k => lv_iushr hx hb hd (v := Int32.ofInt (jushr a b)) (by unfold jushr; rw [Int32.ofInt_toInt]) k) (fun h => jz_consv (v := ji (jushr a b)) (jz_rng _) (jz_tl (jz_tl h))) kk
theorem jj_i2b {a : Int} (hd : decode (jm_c x) pc = .ok (.i2b, 1)) (kk : jz_J g x n0 Q (pc + 1) ls (ji (jb a) :: st) n V) : jz_J g x n0 Q pc ls (ji a :: st) n V :=
  jj_step (fun _ _ _ _ _ _ _ _ _ _ _ _ _ _ _ hx hb _ _ _ k => lv_i2b hx hb hd (v := Int32.ofInt (jb a)) (by unfold jb; rw [Int32.ofInt_toInt]) k) (fun h => jz_consv (v := ji (jb a)) (jz_rng _) (jz_tl h)) kk
theorem jj_i2s {a : Int} (hd : decode (jm_c x) pc = .ok (.i2s, 1)) (kk : jz_J g x n0 Q (pc + 1) ls (ji (js a) :: st) n V) : jz_J g x n0 Q pc ls (ji a :: st) n V :=
  jj_step (fun _ _ _ _ _ _ _ _ _ _ _ _ _ _ _ hx hb _ _ _ k => lv_i2s hx hb hd (v := Int32.ofInt (js a)) (by unfold js; rw [Int32.ofInt_toInt]) k) (fun h => jz_consv (v := ji (js a)) (jz_rng _) (jz_tl h)) kk
theorem jj_i2l {a : Int} (hd : decode (jm_c x) pc = .ok (.i2l, 1)) (kk : jz_J g x n0 Q (pc + 1) ls (jl a :: st) n V) : jz_J g x n0 Q pc ls (ji a :: st) n V :=
  jj_step (fun _ _ _ _ _ _ _ _ _ _ _ _ _ _ _ hx hb _ _ hs k => lv_i2l hx hb hd (v := Int64.ofInt a) (by
    have h : jI a := jz_hd hs
    rw [← Int64.toInt_inj, Int32.toInt_toInt64, jz_toInt h, jz_toIntL (by omega)]) k) (fun h => jz_consv (v := jl a) (by have h1 : jI a := jz_hd h; show jL a; omega) (jz_tl h)) kk
theorem jj_l2i {a : Int} (hd : decode (jm_c x) pc = .ok (.l2i, 1)) (hr : jI a) (kk : jz_J g x n0 Q (pc + 1) ls (ji a :: st) n V) : jz_J g x n0 Q pc ls (jl a :: st) n V :=
  jj_step (fun _ _ _ _ _ _ _ _ _ _ _ _ _ _ _ hx hb _ _ _ k => lv_l2i hx hb hd (v := Int32.ofInt a) Int64.toInt32_ofInt k) (fun h => jz_consv (v := ji a) hr (jz_tl h)) kk
theorem jz_lcmp {a b : Int} (ha : jL a) (hb : jL b) : lg_cmp (Int64.ofInt a) (Int64.ofInt b) = Int32.ofInt (jcmp a b) := by
  unfold lg_cmp jcmp
  simp only [gt_iff_lt, jz_ltL hb ha, jz_eqL ha hb]
  split
  · rfl
  · split <;> rfl
theorem jz_cmp_rng (a b : Int) : jI (jcmp a b) := by
  unfold jcmp
  split
  · decide
  · split <;> decide
theorem jj_lcmp {a b : Int} (hd : decode (jm_c x) pc = .ok (.lcmp, 1)) (kk : jz_J g x n0 Q (pc + 1) ls (ji (jcmp a b) :: st) n V) : jz_J g x n0 Q pc ls (jl b :: jl a :: st) n V :=
  jj_step (fun _ _ _ _ _ _ _ _ _ _ _ _ _ _ _ hx hb _ _ hs k => W.lcmp hx hb hd (by rw [jz_lcmp (jz_hd (jz_tl hs)) (jz_hd hs)]; exact k)) (fun h => jz_consv (v := ji (jcmp a b)) (jz_cmp_rng a b) (jz_tl (jz_tl h))) kk
theorem jj_dup {v : jz_V} (hd : decode (jm_c x) pc = .ok (.dup, 1)) (hc : jz_c1 v = true := by rfl) (kk : jz_J g x n0 Q (pc + 1) ls (v :: v :: st) n V) : jz_J g x n0 Q pc ls (v :: st) n V :=
  jj_step (fun _ _ _ _ _ _ _ _ _ _ _ _ _ _ _ hx hb _ _ _ k => lv_dup hx hb hd (jz_c1_cat hc) k) (fun h => jz_consv (jz_hd h) h) kk
theorem jj_pop {v : jz_V} (hd : decode (jm_c x) pc = .ok (.pop, 1)) (hc : jz_c1 v = true := by rfl) (kk : jz_J g x n0 Q (pc + 1) ls st n V) : jz_J g x n0 Q pc ls (v :: st) n V :=
  jj_step (fun _ _ _ _ _ _ _ _ _ _ _ _ _ _ _ hx hb _ _ _ k => lv_pop hx hb hd (jz_c1_cat hc) k) (fun h => jz_tl h) kk
theorem jj_dup_x1 {v w : jz_V} (hd : decode (jm_c x) pc = .ok (.dup_x1, 1)) (hc : jz_c1 v = true := by rfl) (hc2 : jz_c1 w = true := by rfl) (kk : jz_J g x n0 Q (pc + 1) ls (v :: w :: v :: st) n V) : jz_J g x n0 Q pc ls (v :: w :: st) n V :=
  jj_step (fun _ _ _ _ _ _ _ _ _ _ _ _ _ _ _ hx hb _ _ _ k => lv_dup_x1 hx hb hd (jz_c1_cat hc) (jz_c1_cat hc2) k) (fun h => jz_consv (jz_hd h) (jz_consv (jz_hd (jz_tl h)) (jz_consv (jz_hd h) (jz_tl (jz_tl h))))) kk
theorem jj_dup2 {v w : jz_V} (hd : decode (jm_c x) pc = .ok (.dup2, 1)) (hc : jz_c1 v = true := by rfl) (hc2 : jz_c1 w = true := by rfl) (kk : jz_J g x n0 Q (pc + 1) ls (v :: w :: v :: w :: st) n V) : jz_J g x n0 Q pc ls (v :: w :: st) n V :=
  jj_step (fun _ _ _ _ _ _ _ _ _ _ _ _ _ _ _ hx hb _ _ _ k => lv_dup2_11 hx hb hd (jz_c1_cat hc) (jz_c1_cat hc2) k) (fun h => jz_consv (jz_hd h) (jz_consv (jz_hd (jz_tl h)) h)) kk
theorem jj_goto {off : Int} {tgt : Nat} (hd : decode (jm_c x) pc = .ok (.goto off, 3)) (ht : (pc : Int) + off = (tgt : Int)) (kk : jz_J g x n0 Q tgt ls st n V) : jz_J g x n0 Q pc ls st n V :=
  jj_step (fun _ _ _ _ _ _ _ _ _ _ _ _ _ _ _ hx hb _ _ _ k => lv_goto hx hb hd ht k) (fun h => h) kk
theorem jj_icmp_eq {a b : Int} {off : Int} {tgt : Nat} (hd : decode (jm_c x) pc = .ok (.if_icmp .eq off, 3)) (ht : (pc : Int) + off = (tgt : Int)) (kt : a = b → jz_J g x n0 Q tgt ls st n V) (kf : ¬ a = b → jz_J g x n0 Q (pc + 3) ls st n V) : jz_J g x n0 Q pc ls (ji b :: ji a :: st) n V := by
  intro p e R s m args below meth c Qf C H locs lsA hP hS hn hn2 hL hst hls
  have he : (Int32.ofInt a = Int32.ofInt b) ↔ (a = b) := jz_eqI (jz_hd (jz_tl hst)) (jz_hd hst)
  exact lv_icmp_eq C.1 C.2.1 hd ht (fun q => kt (he.mp q) p e R s m args below meth c Qf C H locs lsA hP hS hn hn2 hL (jz_tl (jz_tl hst)) hls) (fun q => kf (fun z => q (he.mpr z)) p e R s m args below meth c Qf C H locs lsA hP hS hn hn2 hL (jz_tl (jz_tl hst)) hls)
theorem jj_if_eq {a : Int} {off : Int} {tgt : Nat} (hd : decode (jm_c x) pc = .ok (.ifCond .eq off, 3)) (ht : (pc : Int) + off = (tgt : Int)) (kt : a = 0 → jz_J g x n0 Q tgt ls st n V) (kf : ¬ a = 0 → jz_J g x n0 Q (pc + 3) ls st n V) : jz_J g x n0 Q pc ls (ji a :: st) n V := by
  intro p e R s m args below meth c Qf C H locs lsA hP hS hn hn2 hL hst hls
  have he : (Int32.ofInt a = Int32.ofInt 0) ↔ (a = 0) := jz_eqI (jz_hd hst) (by decide)
  exact lv_if_eq C.1 C.2.1 hd ht (fun q => kt (he.mp q) p e R s m args below meth c Qf C H locs lsA hP hS hn hn2 hL (jz_tl hst) hls) (fun q => kf (fun z => q (he.mpr z)) p e R s m args below meth c Qf C H locs lsA hP hS hn hn2 hL (jz_tl hst) hls)
theorem jj_icmp_ne {a b : Int} {off : Int} {tgt : Nat} (hd : decode (jm_c x) pc = .ok (.if_icmp .ne off, 3)) (ht : (pc : Int) + off = (tgt : Int)) (kt : ¬ a = b → jz_J g x n0 Q tgt ls st n V) (kf : a = b → jz_J g x n0 Q (pc + 3) ls st n V) : jz_J g x n0 Q pc ls (ji b :: ji a :: st) n V := by
  intro p e R s m args below meth c Qf C H locs lsA hP hS hn hn2 hL hst hls
  have he : (Int32.ofInt a = Int32.ofInt b) ↔ (a = b) := jz_eqI (jz_hd (jz_tl hst)) (jz_hd hst)
  exact lv_icmp_ne C.1 C.2.1 hd ht (fun q => kt (fun z => q (he.mpr z)) p e R s m args below meth c Qf C H locs lsA hP hS hn hn2 hL (jz_tl (jz_tl hst)) hls) (fun q => kf (he.mp q) p e R s m args below meth c Qf C H locs lsA hP hS hn hn2 hL (jz_tl (jz_tl hst)) hls)
theorem jj_if_ne {a : Int} {off : Int} {tgt : Nat} (hd : decode (jm_c x) pc = .ok (.ifCond .ne off, 3)) (ht : (pc : Int) + off = (tgt : Int)) (kt : ¬ a = 0 → jz_J g x n0 Q tgt ls st n V) (kf : a = 0 → jz_J g x n0 Q (pc + 3) ls st n V) : jz_J g x n0 Q pc ls (ji a :: st) n V := by
  intro p e R s m args below meth c Qf C H locs lsA hP hS hn hn2 hL hst hls
  have he : (Int32.ofInt a = Int32.ofInt 0) ↔ (a = 0) := jz_eqI (jz_hd hst) (by decide)
  exact lv_if_ne C.1 C.2.1 hd ht (fun q => kt (fun z => q (he.mpr z)) p e R s m args below meth c Qf C H locs lsA hP hS hn hn2 hL (jz_tl hst) hls) (fun q => kf (he.mp q) p e R s m args below meth c Qf C H locs lsA hP hS hn hn2 hL (jz_tl hst) hls)
theorem jj_icmp_lt {a b : Int} {off : Int} {tgt : Nat} (hd : decode (jm_c x) pc = .ok (.if_icmp .lt off, 3)) (ht : (pc : Int) + off = (tgt : Int)) (kt : a < b → jz_J g x n0 Q tgt ls st n V) (kf : b ≤ a → jz_J g x n0 Q (pc + 3) ls st n V) : jz_J g x n0 Q pc ls (ji b :: ji a :: st) n V := by
  intro p e R s m args below meth c Qf C H locs lsA hP hS hn hn2 hL hst hls
  have he : (Int32.ofInt a < Int32.ofInt b) ↔ (a < b) := jz_ltI (jz_hd (jz_tl hst)) (jz_hd hst)
  exact lv_icmp_lt C.1 C.2.1 hd ht (fun q => kt (he.mp q) p e R s m args below meth c Qf C H locs lsA hP hS hn hn2 hL (jz_tl (jz_tl hst)) hls) (fun q => kf (Int.not_lt.mp (fun z => q (he.mpr z))) p e R s m args below meth c Qf C H locs lsA hP hS hn hn2 hL (jz_tl (jz_tl hst)) hls)
theorem jj_if_lt {a : Int} {off : Int} {tgt : Nat} (hd : decode (jm_c x) pc = .ok (.ifCond .lt off, 3)) (ht : (pc : Int) + off = (tgt : Int)) (kt : a < 0 → jz_J g x n0 Q tgt ls st n V) (kf : 0 ≤ a → jz_J g x n0 Q (pc + 3) ls st n V) : jz_J g x n0 Q pc ls (ji a :: st) n V := by
  intro p e R s m args below meth c Qf C H locs lsA hP hS hn hn2 hL hst hls
  have he : (Int32.ofInt a < Int32.ofInt 0) ↔ (a < 0) := jz_ltI (jz_hd hst) (by decide)
  exact lv_if_lt C.1 C.2.1 hd ht (fun q => kt (he.mp q) p e R s m args below meth c Qf C H locs lsA hP hS hn hn2 hL (jz_tl hst) hls) (fun q => kf (Int.not_lt.mp (fun z => q (he.mpr z))) p e R s m args below meth c Qf C H locs lsA hP hS hn hn2 hL (jz_tl hst) hls)
theorem jj_icmp_ge {a b : Int} {off : Int} {tgt : Nat} (hd : decode (jm_c x) pc = .ok (.if_icmp .ge off, 3)) (ht : (pc : Int) + off = (tgt : Int)) (kt : b ≤ a → jz_J g x n0 Q tgt ls st n V) (kf : a < b → jz_J g x n0 Q (pc + 3) ls st n V) : jz_J g x n0 Q pc ls (ji b :: ji a :: st) n V := by
  intro p e R s m args below meth c Qf C H locs lsA hP hS hn hn2 hL hst hls
  have he : (Int32.ofInt b ≤ Int32.ofInt a) ↔ (b ≤ a) := jz_leI (jz_hd hst) (jz_hd (jz_tl hst))
  exact lv_icmp_ge C.1 C.2.1 hd ht (fun q => kt (he.mp q) p e R s m args below meth c Qf C H locs lsA hP hS hn hn2 hL (jz_tl (jz_tl hst)) hls) (fun q => kf (Int.not_le.mp (fun z => q (he.mpr z))) p e R s m args below meth c Qf C H locs lsA hP hS hn hn2 hL (jz_tl (jz_tl hst)) hls)
theorem jj_if_ge {a : Int} {off : Int} {tgt : Nat} (hd : decode (jm_c x) pc = .ok (.ifCond .ge off, 3)) (ht : (pc : Int) + off = (tgt : Int)) (kt : 0 ≤ a → jz_J g x n0 Q tgt ls st n V) (kf : a < 0 → jz_J g x n0 Q (pc + 3) ls st n V) : jz_J g x n0 Q pc ls (ji a :: st) n V := by
  intro p e R s m args below meth c Qf C H locs lsA hP hS hn hn2 hL hst hls
  have he : (Int32.ofInt 0 ≤ Int32.ofInt a) ↔ (0 ≤ a) := jz_leI (by decide) (jz_hd hst)
  exact lv_if_ge C.1 C.2.1 hd ht (fun q => kt (he.mp q) p e R s m args below meth c Qf C H locs lsA hP hS hn hn2 hL (jz_tl hst) hls) (fun q => kf (Int.not_le.mp (fun z => q (he.mpr z))) p e R s m args below meth c Qf C H locs lsA hP hS hn hn2 hL (jz_tl hst) hls)
theorem jj_icmp_gt {a b : Int} {off : Int} {tgt : Nat} (hd : decode (jm_c x) pc = .ok (.if_icmp .gt off, 3)) (ht : (pc : Int) + off = (tgt : Int)) (kt : b < a → jz_J g x n0 Q tgt ls st n V) (kf : a ≤ b → jz_J g x n0 Q (pc + 3) ls st n V) : jz_J g x n0 Q pc ls (ji b :: ji a :: st) n V := by
  intro p e R s m args below meth c Qf C H locs lsA hP hS hn hn2 hL hst hls
  have he : (Int32.ofInt b < Int32.ofInt a) ↔ (b < a) := jz_ltI (jz_hd hst) (jz_hd (jz_tl hst))
  exact lv_icmp_gt C.1 C.2.1 hd ht (fun q => kt (he.mp q) p e R s m args below meth c Qf C H locs lsA hP hS hn hn2 hL (jz_tl (jz_tl hst)) hls) (fun q => kf (Int.not_lt.mp (fun z => q (he.mpr z))) p e R s m args below meth c Qf C H locs lsA hP hS hn hn2 hL (jz_tl (jz_tl hst)) hls)
theorem jj_if_gt {a : Int} {off : Int} {tgt : Nat} (hd : decode (jm_c x) pc = .ok (.ifCond .gt off, 3)) (ht : (pc : Int) + off = (tgt : Int)) (kt : 0 < a → jz_J g x n0 Q tgt ls st n V) (kf : a ≤ 0 → jz_J g x n0 Q (pc + 3) ls st n V) : jz_J g x n0 Q pc ls (ji a :: st) n V := by
  intro p e R s m args below meth c Qf C H locs lsA hP hS hn hn2 hL hst hls
  have he : (Int32.ofInt 0 < Int32.ofInt a) ↔ (0 < a) := jz_ltI (by decide) (jz_hd hst)
  exact lv_if_gt C.1 C.2.1 hd ht (fun q => kt (he.mp q) p e R s m args below meth c Qf C H locs lsA hP hS hn hn2 hL (jz_tl hst) hls) (fun q => kf (Int.not_lt.mp (fun z => q (he.mpr z))) p e R s m args below meth c Qf C H locs lsA hP hS hn hn2 hL (jz_tl hst) hls)
theorem jj_icmp_le {a b : Int} {off : Int} {tgt : Nat} (hd : decode (jm_c x) pc = .ok (.if_icmp .le off, 3)) (ht : (pc : Int) + off = (tgt : Int)) (kt : a ≤ b → jz_J g x n0 Q tgt ls st n V) (kf : b < a → jz_J g x n0 Q (pc + 3) ls st n V) : jz_J g x n0 Q pc ls (ji b :: ji a :: st) n V := by
  intro p e R s m args below meth c Qf C H locs lsA hP hS hn hn2 hL hst hls
  have he : (Int32.ofInt a ≤ Int32.ofInt b) ↔ (a ≤ b) := jz_leI (jz_hd (jz_tl hst)) (jz_hd hst)
  exact lv_icmp_le C.1 C.2.1 hd ht (fun q => kt (he.mp q) p e R s m args below meth c Qf C H locs lsA hP hS hn hn2 hL (jz_tl (jz_tl hst)) hls) (fun q => kf (Int.not_le.mp (fun z => q (he.mpr z))) p e R s m args below meth c Qf C H locs lsA hP hS hn hn2 hL (jz_tl (jz_tl hst)) hls)
theorem jj_if_le {a : Int} {off : Int} {tgt : Nat} (hd : decode (jm_c x) pc = .ok (.ifCond .le off, 3)) (ht : (pc : Int) + off = (tgt : Int)) (kt : a ≤ 0 → jz_J g x n0 Q tgt ls st n V) (kf : 0 < a → jz_J g x n0 Q (pc + 3) ls st n V) : jz_J g x n0 Q pc ls (ji a :: st) n V := by
  intro p e R s m args below meth c Qf C H locs lsA hP hS hn hn2 hL hst hls
  have he : (Int32.ofInt a ≤ Int32.ofInt 0) ↔ (a ≤ 0) := jz_leI (jz_hd hst) (by decide)
  exact lv_if_le C.1 C.2.1 hd ht (fun q => kt (he.mp q) p e R s m args below meth c Qf C H locs lsA hP hS hn hn2 hL (jz_tl hst) hls) (fun q => kf (Int.not_le.mp (fun z => q (he.mpr z))) p e R s m args below meth c Qf C H locs lsA hP hS hn hn2 hL (jz_tl hst) hls)
theorem jj_ifnull {o : Option Nat} {off : Int} {tgt : Nat} (hd : decode (jm_c x) pc = .ok (.ifnull off, 3)) (ht : (pc : Int) + off = (tgt : Int)) (kt : o = none → jz_J g x n0 Q tgt ls st n V) (kf : ∀ a, o = some a → jz_J g x n0 Q (pc + 3) ls st n V) : jz_J g x n0 Q pc ls (.inr (.inr o) :: st) n V := by
  intro p e R s m args below meth c Qf C H locs lsA hP hS hn hn2 hL hst hls
  rcases o with _ | a
  · exact jz_null1 C.1 C.2.1 hd ht (kt rfl p e R s m args below meth c Qf C H locs lsA hP hS hn hn2 hL (jz_tl hst) hls)
  · exact lv_ifnull C.1 C.2.1 hd (kf a rfl p e R s m args below meth c Qf C H locs lsA hP hS hn hn2 hL (jz_tl hst) hls)
theorem jj_ifnonnull {o : Option Nat} {off : Int} {tgt : Nat} (hd : decode (jm_c x) pc = .ok (.ifnonnull off, 3)) (ht : (pc : Int) + off = (tgt : Int)) (kt : ∀ a, o = some a → jz_J g x n0 Q tgt ls st n V) (kf : o = none → jz_J g x n0 Q (pc + 3) ls st n V) : jz_J g x n0 Q pc ls (.inr (.inr o) :: st) n V := by
  intro p e R s m args below meth c Qf C H locs lsA hP hS hn hn2 hL hst hls
  rcases o with _ | a
  · exact jz_null2 C.1 C.2.1 hd (kf rfl p e R s m args below meth c Qf C H locs lsA hP hS hn hn2 hL (jz_tl hst) hls)
  · exact lv_ifnonnull C.1 C.2.1 hd ht (kt a rfl p e R s m args below meth c Qf C H locs lsA hP hS hn hn2 hL (jz_tl hst) hls)
theorem jj_tswO {a dflt lo hi : Int} {offs : Array Int} {len tgt : Nat} (hd : decode (jm_c x) pc = .ok (.tableswitch dflt lo hi offs, len)) (h : a < lo ∨ hi < a) (ht : (pc : Int) + dflt = (tgt : Int)) (kk : jz_J g x n0 Q tgt ls st n V) : jz_J g x n0 Q pc ls (ji a :: st) n V :=
  jj_step (fun _ _ _ _ _ _ _ _ _ _ _ _ _ _ _ hx hb _ _ hs k => lv_tableOut hx hb hd (by rw [jz_toInt (jz_hd hs)]; exact h) ht k) (fun h => jz_tl h) kk
theorem jj_tswI {a dflt lo hi off : Int} {offs : Array Int} {len tgt : Nat} (hd : decode (jm_c x) pc = .ok (.tableswitch dflt lo hi offs, len)) (h1 : ¬ a < lo) (h2 : ¬ hi < a) (ho : offs[(a - lo).toNat]? = some off) (ht : (pc : Int) + off = (tgt : Int)) (kk : jz_J g x n0 Q tgt ls st n V) : jz_J g x n0 Q pc ls (ji a :: st) n V :=
  jj_step (fun _ _ _ _ _ _ _ _ _ _ _ _ _ _ _ hx hb _ _ hs k => lv_tableIn hx hb hd (by rw [jz_toInt (jz_hd hs)]; exact h1) (by rw [jz_toInt (jz_hd hs)]; exact h2) (by rw [jz_toInt (jz_hd hs)]; exact ho) ht k) (fun h => jz_tl h) kk
theorem jj_lsw {a dflt off : Int} {ps : Array (Int × Int)} {len tgt : Nat} (hd : decode (jm_c x) pc = .ok (.lookupswitch dflt ps, len)) (hp : (ps.toList.zip (ps.toList.drop 1)).all (fun (a, next) => a.1 < next.1) = true) (ho : Op.lookupswitch.offset ps.toList dflt a = off) (ht : (pc : Int) + off = (tgt : Int)) (kk : jz_J g x n0 Q tgt ls st n V) : jz_J g x n0 Q pc ls (ji a :: st) n V :=
  jj_step (fun _ _ _ _ _ _ _ _ _ _ _ _ _ _ _ hx hb _ _ hs k => lv_lookup hx hb hd hp (by rw [jz_toInt (jz_hd hs)]; exact ho) ht k) (fun h => jz_tl h) kk
/-- the end -/
theorem jj_ret {v : Option jz_V} {st0 : List jz_V} (hd : decode (jm_c x) pc = .ok (jz_rv v, 1)) (hs : st0 = v.toList) (hr : jz_rok (jm_r x) v) (hn : n = n0 + jm_k x) (hq : (∀ u, v = some u → jz_ok u) → Q v n V) : jz_J g x n0 Q pc ls st0 n V := by
  intro p e R s m args below meth c Qf C H locs lsA hP hS hn1 hn2 hL hst hls
  subst hs
  have hv : ∀ u, v = some u → jz_ok u := fun u hu => hst u (by rw [hu]; exact List.mem_cons_self)
  exact C.2.2.2.2.2.2.2.2.2.2.2 v n V H locs pc lsA hP hS hn hv hr (hq hv) hd
/-- fewer locals known -/
theorem jj_less {ls' : List (Option jz_V)} (h : ∀ (i : Nat) (v : jz_V), ls'[i]? = some (some v) → ls[i]? = some (some v)) (kk : jz_J g x n0 Q pc ls' st n V) : jz_J g x n0 Q pc ls st n V := by
  intro p e R s m args below meth c Qf C H locs lsA hP hS hn1 hn2 hL hst hls
  refine kk p e R s m args below meth c Qf C H locs lsA hP hS hn1 hn2 ⟨hL.1, hL.2.1, fun i v hv => hL.2.2 i v (h i v hv)⟩ hst (fun v hv => ?_)
  obtain ⟨i, hi⟩ := List.getElem?_of_mem hv
  exact hls v (List.mem_of_getElem? (h i v hi))
/-- what is known of the numbers -/
theorem jj_rng (kk : (∀ k i, jz_ok (V k i)) → (∀ v ∈ st, jz_ok v) → (∀ v, some v ∈ ls → jz_ok v) → jz_J g x n0 Q pc ls st n V) : jz_J g x n0 Q pc ls st n V := by
  intro p e R s m args below meth c Qf C H locs lsA hP hS hn1 hn2 hL hst hls
  exact kk hP.2 hst hls p e R s m args below meth c Qf C H locs lsA hP hS hn1 hn2 hL hst hls
theorem jj_mono {Q' : jz_Q} (h : ∀ v n V, Q' v n V → Q v n V) (kk : jz_J g x n0 Q' pc ls st n V) : jz_J g x n0 Q pc ls st n V := by
  intro p e R s m args below meth c Qf C H locs lsA hP hS hn1 hn2 hL hst hls
  refine kk p e R s m args below meth c Qf ⟨C.1, C.2.1, C.2.2.1, C.2.2.2.1, C.2.2.2.2.1, C.2.2.2.2.2.1, C.2.2.2.2.2.2.1, C.2.2.2.2.2.2.2.1, C.2.2.2.2.2.2.2.2.1, C.2.2.2.2.2.2.2.2.2.1, C.2.2.2.2.2.2.2.2.2.2.1, ?_⟩ H locs lsA hP hS hn1 hn2 hL hst hls
  intro v n V H locs pc lsA h1 h2 h3 h4 h5 h6 h7
  exact C.2.2.2.2.2.2.2.2.2.2.2 v n V H locs pc lsA h1 h2 h3 h4 h5 (h v n V h6) h7
end JR
end
section
/-! fields and cells -/
def jz_cf (ci : Nat) (C : String) (T : u_T) (N : Nat) : Prop := vwCl[ci]? = some (C, T, N) ∧ N = jz_f ci ∧ (∀ w ∈ u_ws C T N, w ∈ jz_GW) ∧ (∀ a, a < N → ∀ b, b < N → a ≠ b → (T a).2.1 ≠ (T b).2.1) ∧ ∃ ty0 : Nat → FieldType, ∀ k, k < N → parseFieldDescriptor (T k).2.2.1 = some (ty0 k)
def jz_Fd (own : String) (idx ci i : Nat) : Prop := ∃ (C : String) (T : u_T) (N : Nat), jz_cf ci C T N ∧ i < N ∧ (T i).1 = C ∧ (Cond.fieldLink own idx C (T i).2.1 (T i).2.2.1 ∈ jz_GW ∨ ∃ host : String, Cond.fieldLinkNest own idx C (T i).2.1 (T i).2.2.1 host ∈ jz_NW)
def jz_Fw (own : String) (idx ci i : Nat) (ty : FieldType) (fin : Bool) : Prop := ∃ (C : String) (T : u_T) (N : Nat), jz_cf ci C T N ∧ i < N ∧ (T i).1 = C ∧ (Cond.fieldLink own idx C (T i).2.1 (T i).2.2.1 ∈ jz_GW ∨ (fin = false ∧ ∃ host : String, Cond.fieldLinkNest own idx C (T i).2.1 (T i).2.2.1 host ∈ jz_NW)) ∧ parseFieldDescriptor (T i).2.2.1 = some ty ∧ (T i).2.2.2 = fin ∧ (fin = true → C = own)
def jz_up (V : jz_S) (k i : Nat) (v : jz_V) : jz_S := fun a b => if a = k ∧ b = i then v else V a b
theorem jz_up_o {V : jz_S} {k i : Nat} {v : jz_V} {j : Nat} (h : j ≠ k) : jz_up V k i v j = V j := by
  funext b
  simp [jz_up, h]
theorem jz_up_ok {V : jz_S} {k i : Nat} {v : jz_V} (h : ∀ a b, jz_ok (V a b)) (hv : jz_ok v) : ∀ a b, jz_ok (jz_up V k i v a b) := by
  intro a b
  unfold jz_up
  split
  · exact hv
  · exact h a b
theorem jz_ad_lo {g : jz_G} {k : Nat} {t : jz_T} (h : jz_t k = t) (ht : t ≠ .inr (9, 0)) : jz_ad g k = jz_B g + k := by
  have := jz_t_lt (k := k) (by rw [h]; exact ht)
  unfold jz_ad
  rw [if_neg (by omega)]
theorem jz_e_obj {g : jz_G} {V : jz_S} {k ci : Nat} (hk : jz_t k = .inl ci) : jz_e g V k = .inr (ci, (List.range (jz_f ci)).map fun i => jz_cv g (V k i)) := by
  simp only [jz_e, hk]
theorem jz_e_arr {g : jz_G} {V : jz_S} {k t len : Nat} (hk : jz_t k = .inr (t, len)) : jz_e g V k = .inl (jz_c g t, jz_ar g t len (V k)) := by
  simp only [jz_e, hk]
theorem jz_map_set {N i : Nat} {f f' : Nat → Value} {y : Value} (hi : f' i = y) (ho : ∀ j, j ≠ i → f' j = f j) : ((List.range N).map f).set i y = (List.range N).map f' := by
  apply List.ext_getElem?
  intro j
  by_cases hjN : j < N
  · by_cases hji : j = i
    · subst hji
      rw [List.getElem?_set_self (by simpa using hjN)]
      simp [hjN, hi]
    · rw [List.getElem?_set_ne (Ne.symm hji)]
      simp [hjN, ho j hji]
  · rw [List.getElem?_eq_none (by simp; omega), List.getElem?_eq_none (by simp; omega)]
theorem jz_nw_same {u U : State} (h : u.vm = U.vm) (hZ : ∀ w ∈ jz_NW, va_Nw w u) : ∀ w ∈ jz_NW, va_Nw w U := by
  intro w hw
  have h1 := hZ w hw
  have h2 := (List.mem_filter.mp hw).2
  cases w <;> first | (simp [jz_isN] at h2; done) | exact va_Nw.same rfl h h1 | skip
  rename_i ty
  cases ty <;> first | exact va_AO.moved (by rw [h]; exact Vm.Alike.refl _) h1 | (simp [jz_isN] at h2; done)
def jz_fit (ty : FieldType) (v : jz_V) : Prop := match ty, v with
  | .int, .inl _ => True
  | .boolean, .inl z => z = 0 ∨ z = 1
  | .object _, .inr (.inr (some _)) => True
  | .array _, .inr (.inr (some _)) => True
  | _, _ => False
theorem jz_fit_ok {g : jz_G} {ty : FieldType} {v : jz_V} (h : jz_fit ty v) : narrow ty (jz_cv g v) = jz_cv g v ∧ fits ty (jz_cv g v) = true := by
  rcases v with z | z | (_ | k)
  · cases ty with
    | int => exact ⟨rfl, rfl⟩
    | boolean => rcases h with rfl | rfl <;> exact ⟨rfl, rfl⟩
    | _ => exact h.elim
  · cases ty <;> exact h.elim
  · cases ty <;> exact h.elim
  · cases ty with
    | object C => exact ⟨rfl, rfl⟩
    | array t => exact ⟨rfl, rfl⟩
    | _ => exact h.elim
section JM
variable {g : jz_G} {x : jz_M} {n0 : Nat} {Q : jz_Q} {pc : Nat} {ls : List (Option jz_V)} {st : List jz_V} {n : Nat} {V : jz_S}
theorem jj_getf {idx ci i k : Nat} {v : jz_V} (hd : decode (jm_c x) pc = .ok (.getfield idx, 3)) (hF : jz_Fd (jm_o x) idx ci i) (hk : jz_t k = .inl ci) (hkn : k < n) (hv : V k i = v) (kk : jz_J g x n0 Q (pc + 3) ls (v :: st) n V) : jz_J g x n0 Q pc ls (jr k :: st) n V := by
  intro p e R s m args below meth c Qf C H locs lsA hP hS hn hn2 hL hst hls
  obtain ⟨C0, T, N, ⟨hc, hN, hin, hnm, ty0, hty⟩, hi, hC, hl⟩ := hF
  have he : (jz_w g n V)[k]? = some (jz_B g + k, .inr (ci, (List.range (jz_f ci)).map fun i => jz_cv g (V k i))) := by
    rw [jz_w_at hkn, jz_e_obj hk]
  have hfs : ((List.range (jz_f ci)).map fun i => jz_cv g (V k i))[i]? = some (jz_cv g v) := by
    rw [← hv]
    simp [← hN, hi]
  have hsame : ∀ z, s.fieldFound? (T i).1 (T i).2.1 (T i).2.2.1 = some z → s.fieldFound? C0 (T i).2.1 (T i).2.2.1 = some z := fun z hz => by rw [← hC]; exact hz
  have hkk := kk p e R s m args below meth c Qf C H locs lsA hP hS hn hn2 hL (jz_consv (by rw [← hv]; exact hP.2 k i) (jz_tl hst)) hls
  show W _ _ _ _ _ _ _ _ _ _ _ _ _ _ _ (F0 m pc lsA (.ref (jz_ad g k) :: st.map (jz_cv g)))
  rw [jz_ad_lo hk (by simp)]
  rcases hl with hl | ⟨host, hl⟩
  · exact va_get C.1 C.2.1 C.2.2.2.2.1 hin C.2.2.2.1 C.2.2.2.2.2.2.1 hP.1 k he hc i hi (C.2.2.2.2.1 _ hl) hsame hfs hd hkk
  · exact va_getN C.1 C.2.1 C.2.2.2.2.1 hin C.2.2.2.1 C.2.2.2.2.2.2.1 hP.1 k he hc i hi (va_Nw.use rfl (C.2.2.2.2.2.1 _ hl)) hsame hfs hd hkk
theorem jj_putf {idx ci i k : Nat} {ty : FieldType} {fin : Bool} {v : jz_V} (hd : decode (jm_c x) pc = .ok (.putfield idx, 3)) (hF : jz_Fw (jm_o x) idx ci i ty fin) (hfin : fin = true → (jm_y x).name = "<init>") (hk : jz_t k = .inl ci) (hkn : k < n) (hv : jz_fit ty v) (kk : jz_J g x n0 Q (pc + 3) ls st n (jz_up V k i v)) : jz_J g x n0 Q pc ls (v :: jr k :: st) n V := by
  intro p e R s m args below meth c Qf C H locs lsA hP hS hn hn2 hL hst hls
  obtain ⟨C0, T, N, ⟨hc, hN, hin, hnm, ty0, hty⟩, hi, hC, hl, hpar, hfi, hown⟩ := hF
  have he : (jz_w g n V)[k]? = some (jz_B g + k, .inr (ci, (List.range (jz_f ci)).map fun i => jz_cv g (V k i))) := by
    rw [jz_w_at hkn, jz_e_obj hk]
  have hsame : ∀ z, s.fieldFound? (T i).1 (T i).2.1 (T i).2.2.1 = some z → s.fieldFound? C0 (T i).2.1 (T i).2.2.1 = some z := fun z hz => by rw [← hC]; exact hz
  have hset : (jz_w g n V).set k (jz_B g + k, .inr (ci, ((List.range (jz_f ci)).map fun i => jz_cv g (V k i)).set i (jz_cv g v))) = jz_w g n (jz_up V k i v) := by
    refine jz_w_set ?_ (fun j hj => jz_up_o hj)
    rw [jz_e_obj hk, jz_map_set (f' := fun b => jz_cv g (jz_up V k i v k b)) (by simp [jz_up]) (fun j hj => by simp [jz_up, hj])]
  obtain ⟨f1, f2⟩ := jz_fit_ok (g := g) hv
  have hkk : ∀ (H1 : Heap) (locs1 : List Loc), va_P (jz_D g) vwCl ((jz_w g n V).set k (jz_B g + k, .inr (ci, ((List.range (jz_f ci)).map fun i => jz_cv g (V k i)).set i (jz_cv g v)))) H1 → va_D (jz_A g) ((jz_w g n V).set k (jz_B g + k, .inr (ci, ((List.range (jz_f ci)).map fun i => jz_cv g (V k i)).set i (jz_cv g v)))) → va_S (jz_A g) s.heap H1 locs1 → W p (jz_l g) e R s m args below meth c H1 locs1 (n - n0) (1300 * (n - n0)) Qf (F0 m (pc + 3) lsA (st.map (jz_cv g))) := by
    intro H1 locs1 hP1 _ hS1
    rw [hset] at hP1
    exact kk p e R s m args below meth c Qf C H1 locs1 lsA ⟨hP1, jz_up_ok hP.2 (jz_hd hst)⟩ hS1 hn hn2 hL (jz_tl (jz_tl hst)) hls
  have hlen : i < ((List.range (jz_f ci)).map fun i => jz_cv g (V k i)).length := by simp [← hN, hi]
  show W _ _ _ _ _ _ _ _ _ _ _ _ _ _ _ (F0 m pc lsA (jz_cv g v :: .ref (jz_ad g k) :: st.map (jz_cv g)))
  rw [jz_ad_lo hk (by simp)]
  rcases hl with hl | ⟨hff, host, hl⟩
  · cases fin with
    | false => exact va_put C.1 C.2.1 C.2.2.2.2.1 hin ty0 hty hnm C.2.2.2.1 C.2.2.2.2.2.2.1 hP.1 jz_w_D hS k he hc i hi (C.2.2.2.2.1 _ hl) hsame hfi hpar f1 f2 hlen hd hkk
    | true => exact va_putF C.1 C.2.1 C.2.2.2.2.1 hin ty0 hty hnm C.2.2.2.1 C.2.2.2.2.2.2.1 hP.1 jz_w_D hS k he hc i hi (C.2.2.2.2.1 _ hl) hsame hfi (C.2.2.2.2.2.2.2.2.1.trans (hfin rfl)) (hC.trans (hown rfl)) hpar f1 f2 hlen hd hkk
  · subst hff
    exact va_putN C.1 C.2.1 C.2.2.2.2.1 hin ty0 hty hnm C.2.2.2.1 C.2.2.2.2.2.2.1 hP.1 jz_w_D hS k he hc i hi (va_Nw.use rfl (C.2.2.2.2.2.1 _ hl)) hsame hfi hpar f1 f2 hlen hd hkk
theorem jz_set_arr {t len j : Nat} {k : Nat} {w : jz_V} {y : vp_A} (hk : jz_t k = .inr (t, len)) (hy : jz_ar g t len (jz_up V k j w k) = y) : (jz_w g n V).set k (jz_B g + k, .inl (jz_c g t, y)) = jz_w g n (jz_up V k j w) :=
  jz_w_set (by rw [jz_e_arr hk, hy]) (fun _ hj => jz_up_o hj)
theorem jj_iald {k len : Nat} {j z : Int} (hd : decode (jm_c x) pc = .ok (.iaload, 1)) (hk : jz_t k = .inr (0, len)) (hkn : k < n) (h0 : 0 ≤ j) (h1 : j < len) (hv : V k j.toNat = ji z) (kk : jz_J g x n0 Q (pc + 1) ls (ji z :: st) n V) : jz_J g x n0 Q pc ls (ji j :: jr k :: st) n V := by
  intro p e R s m args below meth c Qf C H locs lsA hP hS hn hn2 hL hst hls
  have he : (jz_w g n V)[k]? = some (jz_B g + k, .inl (jz_c g 0, len, .inl fun i => jz_toI (V k i))) := by
    rw [jz_w_at hkn, jz_e_arr hk]; rfl
  have hj : jI j := jz_hd hst
  have hkk := kk p e R s m args below meth c Qf C H locs lsA hP hS hn hn2 hL (jz_consv (by rw [← hv]; exact hP.2 k _) (jz_tl (jz_tl hst))) hls
  show W _ _ _ _ _ _ _ _ _ _ _ _ _ _ _ (F0 m pc lsA (.int (Int32.ofInt j) :: .ref (jz_ad g k) :: st.map (jz_cv g)))
  rw [jz_ad_lo hk (by simp)]
  refine va_iald C.1 C.2.1 C.2.2.2.2.2.2.1 hP.1 k 0 he rfl (jz_in' hj h0 h1) hd ?_
  show W _ _ _ _ _ _ _ _ _ _ _ _ _ _ _ (F0 m (pc + 1) lsA (.int (jz_toI (V k (Int32.ofInt j).toNatClampNeg)) :: st.map (jz_cv g)))
  rw [jz_cl hj, hv]
  exact hkk
theorem jj_iast {k len : Nat} {j z : Int} (hd : decode (jm_c x) pc = .ok (.iastore, 1)) (hk : jz_t k = .inr (0, len)) (hkn : k < n) (h0 : 0 ≤ j) (h1 : j < len) (kk : jz_J g x n0 Q (pc + 1) ls st n (jz_up V k j.toNat (ji z))) : jz_J g x n0 Q pc ls (ji z :: ji j :: jr k :: st) n V := by
  intro p e R s m args below meth c Qf C H locs lsA hP hS hn hn2 hL hst hls
  have he : (jz_w g n V)[k]? = some (jz_B g + k, .inl (jz_c g 0, len, .inl fun i => jz_toI (V k i))) := by
    rw [jz_w_at hkn, jz_e_arr hk]; rfl
  have hj : jI j := jz_hd (jz_tl hst)
  show W _ _ _ _ _ _ _ _ _ _ _ _ _ _ _ (F0 m pc lsA (.int (Int32.ofInt z) :: .int (Int32.ofInt j) :: .ref (jz_ad g k) :: st.map (jz_cv g)))
  rw [jz_ad_lo hk (by simp)]
  refine va_iast C.1 C.2.1 C.2.2.2.2.2.2.1 hP.1 jz_w_D hS k 0 he rfl (jz_in' hj h0 h1) hd fun H1 locs1 hP1 _ hS1 => ?_
  rw [jz_set_arr (g := g) (n := n) (V := V) (j := j.toNat) (w := ji z) hk (by
    show (len, Sum.inl _) = _
    congr 2
    funext b
    rw [jz_cl hj]
    by_cases hb : b = j.toNat
    · subst hb; simp [jz_up, upd, jz_toI]
    · simp [jz_up, upd, hb])] at hP1
  exact kk p e R s m args below meth c Qf C H1 locs1 lsA ⟨hP1, jz_up_ok hP.2 (jz_hd hst)⟩ hS1 hn hn2 hL (jz_tl (jz_tl (jz_tl hst))) hls
theorem jj_bald {k len : Nat} {j z : Int} (hd : decode (jm_c x) pc = .ok (.baload, 1)) (hk : jz_t k = .inr (1, len)) (hkn : k < n) (h0 : 0 ≤ j) (h1 : j < len) (hv : V k j.toNat = ji z) (kk : jz_J g x n0 Q (pc + 1) ls (ji z :: st) n V) : jz_J g x n0 Q pc ls (ji j :: jr k :: st) n V := by
  intro p e R s m args below meth c Qf C H locs lsA hP hS hn hn2 hL hst hls
  have he : (jz_w g n V)[k]? = some (jz_B g + k, .inl (jz_c g 1, len, .inl fun i => jz_toI (V k i))) := by
    rw [jz_w_at hkn, jz_e_arr hk]; rfl
  have hj : jI j := jz_hd hst
  have hkk := kk p e R s m args below meth c Qf C H locs lsA hP hS hn hn2 hL (jz_consv (by rw [← hv]; exact hP.2 k _) (jz_tl (jz_tl hst))) hls
  show W _ _ _ _ _ _ _ _ _ _ _ _ _ _ _ (F0 m pc lsA (.int (Int32.ofInt j) :: .ref (jz_ad g k) :: st.map (jz_cv g)))
  rw [jz_ad_lo hk (by simp)]
  refine va_zald C.1 C.2.1 C.2.2.2.2.2.2.1 hP.1 k 1 he rfl (jz_in' hj h0 h1) hd ?_
  show W _ _ _ _ _ _ _ _ _ _ _ _ _ _ _ (F0 m (pc + 1) lsA (.int (jz_toI (V k (Int32.ofInt j).toNatClampNeg)) :: st.map (jz_cv g)))
  rw [jz_cl hj, hv]
  exact hkk
theorem jj_bast {k len : Nat} {j z : Int} (hd : decode (jm_c x) pc = .ok (.bastore, 1)) (hk : jz_t k = .inr (1, len)) (hkn : k < n) (h0 : 0 ≤ j) (h1 : j < len) (hz : z = 0 ∨ z = 1) (kk : jz_J g x n0 Q (pc + 1) ls st n (jz_up V k j.toNat (ji z))) : jz_J g x n0 Q pc ls (ji z :: ji j :: jr k :: st) n V := by
  intro p e R s m args below meth c Qf C H locs lsA hP hS hn hn2 hL hst hls
  have he : (jz_w g n V)[k]? = some (jz_B g + k, .inl (jz_c g 1, len, .inl fun i => jz_toI (V k i))) := by
    rw [jz_w_at hkn, jz_e_arr hk]; rfl
  have hj : jI j := jz_hd (jz_tl hst)
  have hnar : vp_nar .boolean (Int32.ofInt z) = Int32.ofInt z := by rcases hz with rfl | rfl <;> rfl
  show W _ _ _ _ _ _ _ _ _ _ _ _ _ _ _ (F0 m pc lsA (.int (Int32.ofInt z) :: .int (Int32.ofInt j) :: .ref (jz_ad g k) :: st.map (jz_cv g)))
  rw [jz_ad_lo hk (by simp)]
  refine va_zast C.1 C.2.1 C.2.2.2.2.2.2.1 hP.1 jz_w_D hS k 1 he rfl (jz_in' hj h0 h1) hd fun H1 locs1 hP1 _ hS1 => ?_
  rw [jz_set_arr (g := g) (n := n) (V := V) (j := j.toNat) (w := ji z) hk (by
    show (len, Sum.inl _) = _
    congr 2
    funext b
    rw [jz_cl hj, hnar]
    by_cases hb : b = j.toNat
    · subst hb; simp [jz_up, upd, jz_toI]
    · simp [jz_up, upd, hb])] at hP1
  exact kk p e R s m args below meth c Qf C H1 locs1 lsA ⟨hP1, jz_up_ok hP.2 (jz_hd hst)⟩ hS1 hn hn2 hL (jz_tl (jz_tl (jz_tl hst))) hls
theorem jz_ar_q {t len : Nat} {f : Nat → jz_V} (h : 2 ≤ t) : jz_ar g t len f = (len, .inr (.inr (.inr (.inr fun i => jz_toR g (f i))))) := by
  match t, h with
  | t + 2, _ => rfl
theorem jz_tys_q {t : Nat} (h : 2 ≤ t) (h5 : t ≤ 5) : ∃ C, (jz_tys g)[t]? = some (jz_c g t, .object C) := by
  match t, h, h5 with
  | 2, _, _ => exact ⟨_, rfl⟩
  | 3, _, _ => exact ⟨_, rfl⟩
  | 4, _, _ => exact ⟨_, rfl⟩
  | 5, _, _ => exact ⟨_, rfl⟩
theorem jz_rf_cv {o : Option Nat} : va_rf (jz_toR g (.inr (.inr o))) = jz_cv g (.inr (.inr o)) := by cases o <;> rfl
theorem jj_aald {k t len : Nat} {j : Int} {o : Option Nat} (hd : decode (jm_c x) pc = .ok (.aaload, 1)) (hk : jz_t k = .inr (t, len)) (ht : 2 ≤ t) (ht5 : t ≤ 5) (hkn : k < n) (h0 : 0 ≤ j) (h1 : j < len) (hv : V k j.toNat = .inr (.inr o)) (kk : jz_J g x n0 Q (pc + 1) ls (.inr (.inr o) :: st) n V) : jz_J g x n0 Q pc ls (ji j :: jr k :: st) n V := by
  intro p e R s m args below meth c Qf C H locs lsA hP hS hn hn2 hL hst hls
  have he : (jz_w g n V)[k]? = some (jz_B g + k, .inl (jz_c g t, len, .inr (.inr (.inr (.inr fun i => jz_toR g (V k i)))))) := by
    rw [jz_w_at hkn, jz_e_arr hk, jz_ar_q ht]
  obtain ⟨Cn, hty⟩ := jz_tys_q (g := g) ht ht5
  have hj : jI j := jz_hd hst
  have hkk := kk p e R s m args below meth c Qf C H locs lsA hP hS hn hn2 hL (jz_consv trivial (jz_tl (jz_tl hst))) hls
  show W _ _ _ _ _ _ _ _ _ _ _ _ _ _ _ (F0 m pc lsA (.int (Int32.ofInt j) :: .ref (jz_ad g k) :: st.map (jz_cv g)))
  rw [jz_ad_lo hk (by intro q; cases q; omega)]
  refine va_aldq C.1 C.2.1 C.2.2.2.2.2.2.1 hP.1 k t he hty (jz_in' hj h0 h1) hd ?_
  show W _ _ _ _ _ _ _ _ _ _ _ _ _ _ _ (F0 m (pc + 1) lsA (va_rf (jz_toR g (V k (Int32.ofInt j).toNatClampNeg)) :: st.map (jz_cv g)))
  rw [jz_cl hj, hv, jz_rf_cv]
  exact hkk
theorem jj_aast {k t len k2 ci : Nat} {r : vw_C} {j : Int} (hd : decode (jm_c x) pc = .ok (.aastore, 1)) (hk : jz_t k = .inr (t, len)) (ht : 2 ≤ t) (hkn : k < n) (h0 : 0 ≤ j) (h1 : j < len) (hk2 : jz_t k2 = .inl ci) (hkn2 : k2 < n) (hr : vwCl[ci]? = some r) (hty : (jz_tys g)[t]? = some (jz_c g t, .object r.1)) (kk : jz_J g x n0 Q (pc + 1) ls st n (jz_up V k j.toNat (jr k2))) : jz_J g x n0 Q pc ls (jr k2 :: ji j :: jr k :: st) n V := by
  intro p e R s m args below meth c Qf C H locs lsA hP hS hn hn2 hL hst hls
  have he : (jz_w g n V)[k]? = some (jz_B g + k, .inl (jz_c g t, len, .inr (.inr (.inr (.inr fun i => jz_toR g (V k i)))))) := by
    rw [jz_w_at hkn, jz_e_arr hk, jz_ar_q ht]
  have he2 : (jz_w g n V)[k2]? = some (jz_B g + k2, .inr (ci, (List.range (jz_f ci)).map fun i => jz_cv g (V k2 i))) := by
    rw [jz_w_at hkn2, jz_e_obj hk2]
  have hj : jI j := jz_hd (jz_tl hst)
  show W _ _ _ _ _ _ _ _ _ _ _ _ _ _ _ (F0 m pc lsA (.ref (jz_ad g k2) :: .int (Int32.ofInt j) :: .ref (jz_ad g k) :: st.map (jz_cv g)))
  rw [jz_ad_lo hk (by intro q; cases q; simp [jz_tys] at hty), jz_ad_lo hk2 (by simp)]
  refine va_astq C.1 C.2.1 C.2.2.2.2.2.2.1 hP.1 jz_w_D hS k t k2 ci he hty he2 hr (jz_in' hj h0 h1) hd fun H1 locs1 hP1 _ hS1 => ?_
  rw [jz_set_arr (g := g) (n := n) (V := V) (j := j.toNat) (w := jr k2) hk (by
    rw [jz_ar_q ht]
    congr 6
    funext b
    rw [jz_cl hj]
    by_cases hb : b = j.toNat
    · subst hb; simp [jz_up, va_up, jz_toR, jz_ad_lo hk2]
    · simp [jz_up, va_up, hb])] at hP1
  exact kk p e R s m args below meth c Qf C H1 locs1 lsA ⟨hP1, jz_up_ok hP.2 (jz_hd hst)⟩ hS1 hn hn2 hL (jz_tl (jz_tl (jz_tl hst))) hls
theorem jj_alen {k t len : Nat} {z : Int} (hd : decode (jm_c x) pc = .ok (.arraylength, 1)) (hk : jz_t k = .inr (t, len)) (ht5 : t ≤ 5) (hkn : k < n) (hz : (len : Int) = z) (hr : jI z) (kk : jz_J g x n0 Q (pc + 1) ls (ji z :: st) n V) : jz_J g x n0 Q pc ls (jr k :: st) n V := by
  intro p e R s m args below meth c Qf C H locs lsA hP hS hn hn2 hL hst hls
  have he : (jz_w g n V)[k]? = some (jz_B g + k, .inl (jz_c g t, jz_ar g t len (V k))) := by
    rw [jz_w_at hkn, jz_e_arr hk]
  have hty : ∃ ty, (jz_tys g)[t]? = some (jz_c g t, ty) := by
    match t, ht5 with
    | 0, _ => exact ⟨_, rfl⟩
    | 1, _ => exact ⟨_, rfl⟩
    | 2, _ => exact ⟨_, rfl⟩
    | 3, _ => exact ⟨_, rfl⟩
    | 4, _ => exact ⟨_, rfl⟩
    | 5, _ => exact ⟨_, rfl⟩
  obtain ⟨ty, hty⟩ := hty
  have hl : (jz_ar g t len (V k)).1 = len := by
    match t with
    | 0 => rfl
    | 1 => rfl
    | t + 2 => rfl
  subst hz
  show W _ _ _ _ _ _ _ _ _ _ _ _ _ _ _ (F0 m pc lsA (.ref (jz_ad g k) :: st.map (jz_cv g)))
  rw [jz_ad_lo hk (by intro q; cases q; omega)]
  exact va_alen C.1 C.2.1 C.2.2.2.2.2.2.1 hP.1 k t he hty (v := Int32.ofInt len) (by rw [hl, Int32.ofInt_eq_ofNat]) hd (kk p e R s m args below meth c Qf C H locs lsA hP hS hn hn2 hL (jz_consv (v := ji len) hr (jz_tl hst)) hls)
end JM
end
section
def jz_dv (ty : FieldType) : jz_V := match ty with
  | .int => ji 0
  | .boolean => ji 0
  | .object _ => jn
  | .array _ => jn
  | _ => jl 0
def jz_dvt (ty : FieldType) : Bool := match ty with
  | .int => true
  | .boolean => true
  | .object _ => true
  | .array _ => true
  | _ => false
theorem jz_dv_cv {g : jz_G} {ty : FieldType} (h : jz_dvt ty = true) : jz_cv g (jz_dv ty) = defaultValue ty := by
  cases ty <;> first | rfl | cases h
theorem jz_P_lt {g : jz_G} {n k : Nat} {V : jz_S} {H : Heap} (h : jz_P g n V H) (hk : k < n) : jz_B g + k < H.size := (h.1 k _ (jz_w_at hk)).lt
section JC
variable {g : jz_G} {x : jz_M} {n0 : Nat} {Q : jz_Q} {pc : Nat} {ls : List (Option jz_V)} {st : List jz_V} {n : Nat} {V : jz_S}
theorem jz_size {p : Program} {e : Env} {R : Room} {s : State} {m : MethodId} {args : Array Value} {below : List Frame} {meth : Method} {c : Code} {Qf : State → Prop} {H : Heap} {locs : List Loc} {slots : Nat} {f : JFrame}
    (hs0 : s.heap.size = jz_B g + n0) (hP : jz_P g n V H) (hS : va_S (jz_A g) s.heap H locs) (hn : n0 ≤ n)
    (k : H.size = jz_B g + n → W p (jz_l g) e R s m args below meth c H locs (n - n0) slots Qf f) : W p (jz_l g) e R s m args below meth c H locs (n - n0) slots Qf f := by
  intro T hT X
  have h1 := X.heapSize
  rw [hT, hs0] at h1
  have h2 : jz_B g + n ≤ H.size := by
    rcases Nat.eq_or_lt_of_le hn with q | q
    · have := hS.1
      omega
    · have := jz_P_lt hP (k := n - 1) (by omega)
      omega
  exact k (by omega) T hT X
/-- behind a call -/
theorem jz_after {p : Program} {e : Env} {R : Room} {s : State} {m : MethodId} {args a : Array Value} {below : List Frame} {meth : Method} {c : Code} {Qf : State → Prop} {H : Heap} {locs : List Loc} {cells slots mc ms : Nat} {lsA : Array Slot} {rest st0 : List Value} {n' : Nat} {Q1 : jz_Q}
    (hr : va_Run p (jz_l g) e R s m args below meth c H locs cells slots mc ms (F0 m pc lsA st0) rest (jz_Qc g n' Q1 a) (jz_A g)) (hS : va_S (jz_A g) s.heap H locs)
    (kk : ∀ (v : Option jz_V) (V' : jz_S) (H1 : Heap) (locs1 : List Loc), (∀ u, v = some u → jz_ok u) → jz_P g n' V' H1 → Q1 v n' V' → va_S (jz_A g) s.heap H1 locs1 → W p (jz_l g) e R s m args below meth c H1 locs1 (cells + mc) (slots + ms) Qf (F0 m (pc + 3) lsA (v.toList.map (jz_cv g) ++ rest))) :
    W p (jz_l g) e R s m args below meth c H locs cells slots Qf (F0 m pc lsA st0) := by
  intro T hT X
  obtain ⟨v, st₀, t, T', L, h0, X', hL, e1, e2, ⟨⟨u, V', hv, hok, hp, hq⟩, hz, hk⟩, st⟩ := hr T hT X
  cases hv
  rw [h0] at hz hk
  have hS1 : va_S (jz_A g) s.heap T'.heap (locs ++ L) := ⟨Nat.le_trans hS.1 (by rw [e1]; exact hz), fun q h1 h2 => by rw [e1, hk q (Nat.lt_of_lt_of_le h1 hS.1) h2]; exact hS.2.1 q h1 h2, fun q hq => by
      rcases List.mem_append.mp hq with h | h
      · exact hS.2.2 q h
      · exact hL q h⟩
  obtain ⟨t2, a1, b1⟩ := kk u V' T'.heap (locs ++ L) hok (by rw [e1]; exact hp) hq hS1 T' rfl X'
  refine ⟨t2, st t2 ?_, b1⟩
  have e3 : (u.map (jz_cv g)).toList = u.toList.map (jz_cv g) := by cases u <;> rfl
  rw [← e3] at a1
  exact a1
def jz_ln (own : String) (idx : Nat) (y : jz_M) : Prop := Cond.methodLink own idx (jm_y y) ∈ jz_GW ∨ ∃ host : String, Cond.methodLinkNest own idx (jm_y y) host ∈ jz_NW
/-- a method's own words -/
def jz_my (y : jz_M) (np : Nat) : Prop := Cond.initialized (jm_y y).cls ∈ jz_GW ∧ Cond.code (jm_y y) (jm_c y) (jm_L y) (jm_r y) ∈ jz_GW ∧ ((jm_y y).cls ≠ "java/lang/invoke/MethodHandle" ∧ (jm_y y).cls ≠ "java/lang/invoke/VarHandle") ∧ (parseMethodDescriptor (jm_y y).desc).map (fun d => d.parameters.length) = some np ∧ jm_L y ≤ 45
def jz_myV (y : jz_M) (np : Nat) : Prop := jz_my y np ∧ Cond.instanceMethod (jm_y y) ∈ jz_GW ∧ Cond.selects (jm_y y).cls (jm_y y) (jm_y y) ∈ jz_GW
def jz_myS (y : jz_M) (np : Nat) : Prop := jz_my y np ∧ Cond.static (jm_y y) ∈ jz_GW
def jz_myI (y : jz_M) (np : Nat) : Prop := jz_my y np ∧ Cond.instanceMethod (jm_y y) ∈ jz_GW ∧ (jm_y y).name = "<init>" ∧ jm_r y = none
def jz_ct (v : jz_V) : Nat := match v with
  | .inr (.inl _) => 2
  | _ => 1
theorem jz_ct_sum : ∀ (st : List jz_V), ((st.map (jz_cv g)).map fun v => v.category).sum = (st.map jz_ct).sum := by
  intro st
  induction st with
  | nil => rfl
  | cons a r ih =>
    simp only [List.map_cons, List.sum_cons]
    rw [ih]
    congr 1
    rcases a with z | z | (_ | k) <;> rfl
theorem jz_blind {n : Nat} {av : List Value} : FrameBlind (va_Pc av (jz_Pc g n V)) := fun a U f mk q => ⟨q.1, q.2.1, q.2.2.1, va_K.moved (u := U) (U := U.calling f mk a) (Vm.Alike.refl U.vm) q.2.2.2.1, jz_nw_same (u := U) (U := U.calling f mk a) rfl q.2.2.2.2⟩
theorem jz_callB {s : State} {args : Array Value} {R : Room} {idx np : Nat} {y : jz_M} {own : String} (hts : ∀ w ∈ jz_GW, w.before args s = true) (hm : jz_my y np) (hR : jm_d y + 1 ≤ R.frames) (hL : 64 * (jm_d y + 1) ≤ R.locals) (hl : (Cond.methodLink own idx (jm_y y)).before args s = true) :
    CallB R s args own idx (jm_y y) (jm_c y) (jm_L y) (jm_r y) (jm_ws y) (jm_rm y) (jm_k y) (1300 * jm_k y) np := by
  obtain ⟨h1, h2, h3, h4, h5⟩ := hm
  refine callB_of (ws' := jz_GW) np hts ?_ rfl rfl rfl (hts _ h1) hl ⟨h3.1, h3.2, h4⟩ ⟨hR, ?_⟩
  · intro w hw
    rcases List.mem_cons.mp hw with rfl | hw
    · exact ⟨h2, jz_good _ h2⟩
    · exact ⟨hw, jz_good _ hw⟩
  · show 8 + (jm_L y + 11) + 64 * jm_d y ≤ R.locals
    omega
theorem jz_callN {s : State} {args : Array Value} {R : Room} {idx np : Nat} {y : jz_M} {own host : String} (hts : ∀ w ∈ jz_GW, w.before args s = true) (hm : jz_my y np) (hR : jm_d y + 1 ≤ R.frames) (hL : 64 * (jm_d y + 1) ≤ R.locals) (hl : va_Nw (.methodLinkNest own idx (jm_y y) host) s) :
    va_CN R s args own idx (jm_y y) host (jm_c y) (jm_L y) (jm_r y) (jm_ws y) (jm_rm y) (jm_k y) (1300 * jm_k y) np := by
  obtain ⟨h1, h2, h3, h4, h5⟩ := hm
  refine va_cnB (ws' := jz_GW) np hts ?_ rfl rfl rfl hl (hts _ h1) ⟨h3.1, h3.2, h4⟩ ⟨hR, ?_⟩
  · intro w hw
    rcases List.mem_cons.mp hw with rfl | hw
    · exact ⟨h2, jz_good _ h2⟩
    · exact ⟨hw, jz_good _ hw⟩
  · show 8 + (jm_L y + 11) + 64 * jm_d y ≤ R.locals
    omega
theorem jj_callV {idx k ci np : Nat} {y : jz_M} {av st' : List jz_V} {Q1 : jz_Q} (hd : decode (jm_c x) pc = .ok (.invokevirtual idx, 3)) (hl : jz_ln (jm_o x) idx y) (hm : jz_myV y np) (hk : jz_t k = .inl ci) (hkn : k < n) (hC : (vwCl[ci]?).map (fun q => q.1) = some (jm_y y).cls) (hnp : av.length = np) (hst0 : st = av.reverse ++ jr k :: st') (hcat : (st'.map jz_ct).sum ≤ 8) (hdp : jm_d y + 1 ≤ jm_d x) (hcl : n + jm_k y ≤ n0 + jm_k x) (hc : jz_K g y n (jr k :: av) V Q1)
    (kk : ∀ (v : Option jz_V) (V' : jz_S), (∀ u, v = some u → jz_ok u) → (∀ k i, jz_ok (V' k i)) → Q1 v (n + jm_k y) V' → jz_J g x n0 Q (pc + 3) ls (v.toList ++ st') (n + jm_k y) V') : jz_J g x n0 Q pc ls st n V := by
  intro p e R s m args below meth c Qf C H locs lsA hP hS hn hn2 hL hst hls
  subst hst0
  have hav : ∀ v ∈ jr k :: av, jz_ok v := fun v hv => by
    rcases List.mem_cons.mp hv with rfl | hv
    · trivial
    · exact hst v (List.mem_append.mpr (Or.inl (List.mem_reverse.mpr hv)))
  have hrest : ∀ v ∈ st', jz_ok v := fun v hv => hst v (List.mem_append.mpr (Or.inr (List.mem_cons_of_mem _ hv)))
  obtain ⟨r1, r2, r3, r4⟩ := C.2.2.2.2.2.2.2.1
  refine jz_size C.2.2.2.2.2.2.2.2.2.1 hP hS hn fun hz => ?_
  have he : (jz_w g n V)[k]? = some (jz_B g + k, .inr (ci, (List.range (jz_f ci)).map fun i => jz_cv g (V k i))) := by
    rw [jz_w_at hkn, jz_e_obj hk]
  obtain ⟨q, hq1, hq2⟩ := Option.map_eq_some_iff.mp hC
  have hrecv := va_recv C.2.2.2.2.2.2.1 hP.1 hq1 he
  rw [hq2] at hrecv
  have hpre : PreV s H (jm_y y).cls (jz_B g + k) (va_Pc ((jr k :: av).map (jz_cv g)) (jz_Pc g n V)) (av.map (jz_cv g)) := by
    refine ⟨jz_blind, hrecv, fun U hU hW => ⟨?_, by rw [hU]; exact hP, by rw [hU]; exact hz, va_K.moved hW.alike C.2.2.2.2.2.2.1, jz_nw_warm hW C.2.2.2.2.2.1⟩⟩
    show (Value.ref (jz_B g + k) :: av.map (jz_cv g)).toArray = (Value.ref (jz_ad g k) :: av.map (jz_cv g)).toArray
    rw [jz_ad_lo hk (by simp)]
  have hstack : (av.reverse ++ jr k :: st').map (jz_cv g) = (av.map (jz_cv g)).reverse ++ .ref (jz_B g + k) :: st'.map (jz_cv g) := by
    rw [List.map_append, List.map_reverse]
    show _ ++ Value.ref (jz_ad g k) :: _ = _
    rw [jz_ad_lo hk (by simp)]
  have hfit : n - n0 + jm_k y ≤ R.cells ∧ 1300 * (n - n0) + 1300 * jm_k y ≤ R.slots := ⟨by omega, by omega⟩
  have hnL : lsA.size = jm_L x := hL.1
  have hroom : 2 * (F0 m pc lsA ((av.reverse ++ jr k :: st').map (jz_cv g))).monitorRoom + ((st'.map (jz_cv g)).map fun v => v.category).sum ≤ 8 := lv_room (by rw [jz_ct_sum]; exact hcat)
  have hfix : CallFix p m c (jm_c x) (jm_L x) s args jz_GW (jm_o x) := ⟨C.1, C.2.1, C.2.2.1, C.2.2.2.1, C.2.2.2.2.1⟩
  have hrun : va_Run p (jz_l g) e R s m args below meth c H locs (n - n0) (1300 * (n - n0)) (jm_k y) (1300 * jm_k y) (F0 m pc lsA ((av.reverse ++ jr k :: st').map (jz_cv g))) (st'.map (jz_cv g)) (jz_Qc g (n + jm_k y) Q1 (Value.ref (jz_B g + k) :: av.map (jz_cv g)).toArray) (jz_A g) := by
    rcases hl with hl | ⟨host, hl⟩
    · exact va_runV hfix (hc hav) ⟨jz_callB C.2.2.2.2.1 hm.1 (by omega) (by omega) (C.2.2.2.2.1 _ hl), C.2.2.2.2.1 _ hm.2.1, C.2.2.2.2.1 _ hm.2.2⟩ hpre rfl (by simpa using hnp) hnL hstack hroom hd hfit
    · exact va_runVN hfix (hc hav) ⟨jz_callN C.2.2.2.2.1 hm.1 (by omega) (by omega) (C.2.2.2.2.2.1 _ hl), C.2.2.2.2.1 _ hm.2.1, C.2.2.2.2.1 _ hm.2.2⟩ hpre rfl (by simpa using hnp) hnL hstack hroom hd hfit
  refine jz_after hrun hS fun v V' H1 locs1 hok hP1 hq1 hS1 => ?_
  have h2 := kk v V' hok hP1.2 hq1 p e R s m args below meth c Qf C H1 locs1 lsA hP1 hS1 (by omega) hcl hL (fun w hw => by
    rcases List.mem_append.mp hw with h | h
    · exact hok w (by cases v with | none => simp at h | some u => simp at h; rw [h])
    · exact hrest w h) hls
  rw [show n + jm_k y - n0 = n - n0 + jm_k y by omega, Nat.mul_add, List.map_append] at h2
  exact h2
theorem jj_callS {idx np : Nat} {y : jz_M} {av st' : List jz_V} {Q1 : jz_Q} (hd : decode (jm_c x) pc = .ok (.invokestatic idx, 3)) (hl : jz_ln (jm_o x) idx y) (hm : jz_myS y np) (hnp : av.length = np) (hst0 : st = av.reverse ++ st') (hcat : (st'.map jz_ct).sum ≤ 8) (hdp : jm_d y + 1 ≤ jm_d x) (hcl : n + jm_k y ≤ n0 + jm_k x) (hc : jz_K g y n av V Q1)
    (kk : ∀ (v : Option jz_V) (V' : jz_S), (∀ u, v = some u → jz_ok u) → (∀ k i, jz_ok (V' k i)) → Q1 v (n + jm_k y) V' → jz_J g x n0 Q (pc + 3) ls (v.toList ++ st') (n + jm_k y) V') : jz_J g x n0 Q pc ls st n V := by
  intro p e R s m args below meth c Qf C H locs lsA hP hS hn hn2 hL hst hls
  subst hst0
  have hav : ∀ v ∈ av, jz_ok v := fun v hv => hst v (List.mem_append.mpr (Or.inl (List.mem_reverse.mpr hv)))
  have hrest : ∀ v ∈ st', jz_ok v := fun v hv => hst v (List.mem_append.mpr (Or.inr hv))
  obtain ⟨r1, r2, r3, r4⟩ := C.2.2.2.2.2.2.2.1
  refine jz_size C.2.2.2.2.2.2.2.2.2.1 hP hS hn fun hz => ?_
  have hpre : PreS s H (va_Pc (av.map (jz_cv g)) (jz_Pc g n V)) (av.map (jz_cv g)) :=
    ⟨jz_blind, fun U hU hW => ⟨rfl, by rw [hU]; exact hP, by rw [hU]; exact hz, va_K.moved hW.alike C.2.2.2.2.2.2.1, jz_nw_warm hW C.2.2.2.2.2.1⟩⟩
  have hstack : (av.reverse ++ st').map (jz_cv g) = (av.map (jz_cv g)).reverse ++ st'.map (jz_cv g) := by
    rw [List.map_append, List.map_reverse]
  have hfit : n - n0 + jm_k y ≤ R.cells ∧ 1300 * (n - n0) + 1300 * jm_k y ≤ R.slots := ⟨by omega, by omega⟩
  have hnL : lsA.size = jm_L x := hL.1
  have hroom : 2 * (F0 m pc lsA ((av.reverse ++ st').map (jz_cv g))).monitorRoom + ((st'.map (jz_cv g)).map fun v => v.category).sum ≤ 8 := lv_room (by rw [jz_ct_sum]; exact hcat)
  have hfix : CallFix p m c (jm_c x) (jm_L x) s args jz_GW (jm_o x) := ⟨C.1, C.2.1, C.2.2.1, C.2.2.2.1, C.2.2.2.2.1⟩
  have hrun : va_Run p (jz_l g) e R s m args below meth c H locs (n - n0) (1300 * (n - n0)) (jm_k y) (1300 * jm_k y) (F0 m pc lsA ((av.reverse ++ st').map (jz_cv g))) (st'.map (jz_cv g)) (jz_Qc g (n + jm_k y) Q1 (av.map (jz_cv g)).toArray) (jz_A g) := by
    rcases hl with hl | ⟨host, hl⟩
    · exact va_runS hfix (hc hav) ⟨jz_callB C.2.2.2.2.1 hm.1 (by omega) (by omega) (C.2.2.2.2.1 _ hl), C.2.2.2.2.1 _ hm.2⟩ hpre rfl (by simpa using hnp) hnL hstack hroom hd hfit
    · exact va_runSN hfix (hc hav) ⟨jz_callN C.2.2.2.2.1 hm.1 (by omega) (by omega) (C.2.2.2.2.2.1 _ hl), C.2.2.2.2.1 _ hm.2, trivial⟩ hpre rfl (by simpa using hnp) hnL hstack hroom hd hfit
  refine jz_after hrun hS fun v V' H1 locs1 hok hP1 hq1 hS1 => ?_
  have h2 := kk v V' hok hP1.2 hq1 p e R s m args below meth c Qf C H1 locs1 lsA hP1 hS1 (by omega) hcl hL (fun w hw => by
    rcases List.mem_append.mp hw with h | h
    · exact hok w (by cases v with | none => simp at h | some u => simp at h; rw [h])
    · exact hrest w h) hls
  rw [show n + jm_k y - n0 = n - n0 + jm_k y by omega, Nat.mul_add, List.map_append] at h2
  exact h2
theorem jj_callI {idx k ci np : Nat} {y : jz_M} {av st' : List jz_V} {Q1 : jz_Q} (hd : decode (jm_c x) pc = .ok (.invokespecial idx, 3)) (hl : jz_ln (jm_o x) idx y) (hm : jz_myI y np) (hk : jz_t k = .inl ci) (hnp : av.length = np) (hst0 : st = av.reverse ++ jr k :: st') (hcat : (st'.map jz_ct).sum ≤ 8) (hdp : jm_d y + 1 ≤ jm_d x) (hcl : n + jm_k y ≤ n0 + jm_k x) (hc : jz_K g y n (jr k :: av) V Q1)
    (kk : ∀ (v : Option jz_V) (V' : jz_S), (∀ u, v = some u → jz_ok u) → (∀ k i, jz_ok (V' k i)) → Q1 v (n + jm_k y) V' → jz_J g x n0 Q (pc + 3) ls (v.toList ++ st') (n + jm_k y) V') : jz_J g x n0 Q pc ls st n V := by
  intro p e R s m args below meth c Qf C H locs lsA hP hS hn hn2 hL hst hls
  subst hst0
  have hav : ∀ v ∈ jr k :: av, jz_ok v := fun v hv => by
    rcases List.mem_cons.mp hv with rfl | hv
    · trivial
    · exact hst v (List.mem_append.mpr (Or.inl (List.mem_reverse.mpr hv)))
  have hrest : ∀ v ∈ st', jz_ok v := fun v hv => hst v (List.mem_append.mpr (Or.inr (List.mem_cons_of_mem _ hv)))
  obtain ⟨r1, r2, r3, r4⟩ := C.2.2.2.2.2.2.2.1
  obtain ⟨hm0, hmi, hmn, hmr⟩ := hm
  refine jz_size C.2.2.2.2.2.2.2.2.2.1 hP hS hn fun hz => ?_
  have hpre : PreS s H (va_Pc ((jr k :: av).map (jz_cv g)) (jz_Pc g n V)) (.ref (jz_B g + k) :: av.map (jz_cv g)) := by
    refine ⟨jz_blind, fun U hU hW => ⟨?_, by rw [hU]; exact hP, by rw [hU]; exact hz, va_K.moved hW.alike C.2.2.2.2.2.2.1, jz_nw_warm hW C.2.2.2.2.2.1⟩⟩
    show (Value.ref (jz_B g + k) :: av.map (jz_cv g)).toArray = (Value.ref (jz_ad g k) :: av.map (jz_cv g)).toArray
    rw [jz_ad_lo hk (by simp)]
  have hstack : (av.reverse ++ jr k :: st').map (jz_cv g) = (av.map (jz_cv g)).reverse ++ .ref (jz_B g + k) :: st'.map (jz_cv g) := by
    rw [List.map_append, List.map_reverse]
    show _ ++ Value.ref (jz_ad g k) :: _ = _
    rw [jz_ad_lo hk (by simp)]
  have hfit : n - n0 + jm_k y ≤ R.cells ∧ 1300 * (n - n0) + 1300 * jm_k y ≤ R.slots := ⟨by omega, by omega⟩
  have hnL : lsA.size = jm_L x := hL.1
  have hroom : 2 * (F0 m pc lsA ((av.reverse ++ jr k :: st').map (jz_cv g))).monitorRoom + ((st'.map (jz_cv g)).map fun v => v.category).sum ≤ 8 := lv_room (by rw [jz_ct_sum]; exact hcat)
  have hfix : CallFix p m c (jm_c x) (jm_L x) s args jz_GW (jm_o x) := ⟨C.1, C.2.1, C.2.2.1, C.2.2.2.1, C.2.2.2.2.1⟩
  have hrun : va_Run p (jz_l g) e R s m args below meth c H locs (n - n0) (1300 * (n - n0)) (jm_k y) (1300 * jm_k y) (F0 m pc lsA ((av.reverse ++ jr k :: st').map (jz_cv g))) (st'.map (jz_cv g)) (jz_Qc g (n + jm_k y) Q1 (Value.ref (jz_B g + k) :: av.map (jz_cv g)).toArray) (jz_A g) := by
    rcases hl with hl | ⟨host, hl⟩
    · have hb := jz_callB (R := R) (own := jm_o x) (idx := idx) C.2.2.2.2.1 hm0 (by omega) (by omega) (C.2.2.2.2.1 _ hl)
      rw [hmr] at hb
      exact va_runI hfix (hc hav) ⟨hb, hmn, C.2.2.2.2.1 _ hmi⟩ hpre rfl (by simpa using hnp) hnL hstack hroom hd hfit
    · have hb := jz_callN (R := R) (own := jm_o x) (idx := idx) C.2.2.2.2.1 hm0 (by omega) (by omega) (C.2.2.2.2.2.1 _ hl)
      rw [hmr] at hb
      exact va_runIN hfix (hc hav) ⟨hb, hmn, C.2.2.2.2.1 _ hmi⟩ hpre rfl (by simpa using hnp) hnL hstack hroom hd hfit
  refine jz_after hrun hS fun v V' H1 locs1 hok hP1 hq1 hS1 => ?_
  have h2 := kk v V' hok hP1.2 hq1 p e R s m args below meth c Qf C H1 locs1 lsA hP1 hS1 (by omega) hcl hL (fun w hw => by
    rcases List.mem_append.mp hw with h | h
    · exact hok w (by cases v with | none => simp at h | some u => simp at h; rw [h])
    · exact hrest w h) hls
  rw [show n + jm_k y - n0 = n - n0 + jm_k y by omega, Nat.mul_add, List.map_append] at h2
  exact h2
/-- making a cell -/
theorem jz_push {a : Cell} {H : Heap} (hP : jz_P g n V H) (hz : H.size = jz_B g + n) (he : ∀ H1 : Heap, H1[H.size]? = some a → va_at (jz_D g) vwCl (jz_B g + n, jz_e g V n) H1) : jz_P g (n + 1) V (H.push a) := by
  refine ⟨?_, hP.2⟩
  rw [jz_w_snoc]
  have hk : ∀ (k : Nat) (q : Nat × va_E), (jz_w g n V)[k]? = some q → (H.push a)[q.1]? = H[q.1]? := fun k q hq => by
    rw [Array.getElem?_push, if_neg (Nat.ne_of_lt (hP.1 k q hq).lt)]
  refine (hP.1.kept hk).app (fun k q hq => ?_)
  have hk0 : k < 1 := (List.getElem?_eq_some_iff.mp hq).1
  rw [show k = 0 by omega] at hq
  cases hq
  exact he _ (by simp)
theorem jz_pushS {a : Cell} {H H0 : Heap} {locs : List Loc} (hS : va_S (jz_A g) H0 H locs) : va_S (jz_A g) H0 (H.push a) locs :=
  ⟨Nat.le_trans hS.1 (by simp), fun q h1 h2 => by rw [Array.getElem?_push, if_neg (Nat.ne_of_lt (Nat.lt_of_lt_of_le h1 hS.1))]; exact hS.2.1 q h1 h2, hS.2.2⟩
theorem jj_new {idx ci N : Nat} {Cn : String} {T : u_T} (ty : Nat → FieldType) (hd : decode (jm_c x) pc = .ok (.new idx, 3)) (hcl : Cond.classLink (jm_o x) idx Cn ∈ jz_GW) (hinst : Cond.instantiable Cn N ∈ jz_GW) (hini : Cond.initialized Cn ∈ jz_GW) (hc : vwCl[ci]? = some (Cn, T, N)) (hN : N = jz_f ci) (hin : ∀ w ∈ u_ws Cn T N, w ∈ jz_GW) (hty : ∀ k, k < N → parseFieldDescriptor (T k).2.2.1 = some (ty k)) (hk : jz_t n = .inl ci) (hdv : ∀ k, k < N → V n k = jz_dv (ty k) ∧ jz_dvt (ty k) = true) (hN2 : N ≤ 1300) (hroom : n + 1 ≤ n0 + jm_k x)
    (kk : jz_J g x n0 Q (pc + 3) ls (jr n :: st) (n + 1) V) : jz_J g x n0 Q pc ls st n V := by
  intro p e R s m args below meth c Qf C H locs lsA hP hS hn hn2 hL hst hls
  obtain ⟨r1, r2, r3, r4⟩ := C.2.2.2.2.2.2.2.1
  refine jz_size C.2.2.2.2.2.2.2.2.2.1 hP hS hn fun hz => ?_
  have hKn := C.2.2.2.2.2.2.1.1 ci _ hc
  refine W.newc C.1 C.2.1 C.2.2.2.1 (C.2.2.2.2.1 _ hcl) (C.2.2.2.2.1 _ hinst) (C.2.2.2.2.1 _ hini) rfl hd (by omega) (by omega) fun cC kC h1 h2 h3 h4 => ?_
  have hcC : cC = (jz_D g).1 ci := Option.some.inj (h1.symm.trans hKn.2.1)
  subst hcC
  have hP1 : jz_P g (n + 1) V (H.push { cls := (jz_D g).1 ci, slots := kC.instanceTypes.map defaultValue, vm := .none }) := by
    refine jz_push hP hz fun H1 he => ?_
    rw [hz] at he
    rw [jz_e_obj hk]
    refine ⟨_, hc, (u_born ty C.2.2.2.2.1 hin hKn h2 he hty).to fun k hk1 => ?_⟩
    show defaultValue (ty k) = vp_V _ k
    rw [← jz_dv_cv (g := g) (hdv k hk1).2, ← (hdv k hk1).1]
    simp [vp_V, ← hN, hk1]
  have h5 := kk p e R s m args below meth c Qf C _ locs lsA hP1 (jz_pushS hS) (by omega) hroom hL (jz_consv trivial hst) hls
  refine W.widen (k := n + 1 - n0) (n := 1300 * (n + 1 - n0)) (by omega) (by omega) ?_
  have h6 : (List.map (jz_cv g) (jr n :: st)) = .ref H.size :: st.map (jz_cv g) := by
    show Value.ref (jz_ad g n) :: _ = _
    rw [jz_ad_lo hk (by simp), hz]
  rw [h6] at h5
  exact h5
theorem jz_tys_K {s : State} {t : Nat} {ty : FieldType} (hK : va_K (jz_D g) vwCl (jz_tys g) s) (h : (jz_tys g)[t]? = some (jz_c g t, ty)) : va_RA s (jz_c g t) ty := (hK.2 t _ h).2
theorem jj_newa {t len : Nat} {at0 : ArrayType} {ty : FieldType} {z : Int} (hd : decode (jm_c x) pc = .ok (.newarray at0, 2)) (hty : newarray.typeOf at0 = ty) (hw : Cond.arrayClass ty ∈ jz_GW) (ht : (jz_tys g)[t]? = some (jz_c g t, ty)) (hp : ty = .int ∨ ty = .boolean) (ht1 : t ≤ 1) (hk : jz_t n = .inr (t, len)) (hz : z = len) (hlen : len ≤ 1300) (hdv : ∀ i, V n i = ji 0) (hroom : n + 1 ≤ n0 + jm_k x)
    (kk : jz_J g x n0 Q (pc + 2) ls (jr n :: st) (n + 1) V) : jz_J g x n0 Q pc ls (ji z :: st) n V := by
  intro p e R s m args below meth c Qf C H locs lsA hP hS hn hn2 hL hst hls
  obtain ⟨r1, r2, r3, r4⟩ := C.2.2.2.2.2.2.2.1
  refine jz_size C.2.2.2.2.2.2.2.2.2.1 hP hS hn fun hsz => ?_
  subst hz
  subst hty
  have hI : jI (len : Int) := jz_hd hst
  have hcl : (Int32.ofInt len).toNatClampNeg = len := by rw [jz_cl hI]; simp
  have hbytes : (Int32.ofInt (len : Int)).toNatClampNeg * componentBytes (newarray.typeOf at0) ≤ 536870912 := by
    rw [hcl]
    rcases hp with h | h <;> rw [h] <;> simp only [componentBytes] <;> omega
  refine W.newa C.1 C.2.1 (C.2.2.2.2.1 _ hw) rfl hd rfl (fun q => ?_) hbytes (by omega) (by rw [hcl]; omega) fun cA kA comp h1 h2 h3 => ?_
  · have := (jz_ltI hI (by decide : jI 0)).mp q
    omega
  · rw [hcl]
    have hR := jz_tys_K C.2.2.2.2.2.2.1 ht
    have hcA : cA = jz_c g t := by
      have h5 : s.vm.findClass ("[" ++ (newarray.typeOf at0).toString) = some (jz_c g t) := by
        rcases hp with h | h
        · rw [h] at hR ⊢; exact hR
        · rw [h] at hR ⊢; exact hR
      exact Option.some.inj (h1.symm.trans h5)
    subst hcA
    have hP1 : jz_P g (n + 1) V (H.push { cls := jz_c g t, slots := Array.replicate len (defaultValue (newarray.typeOf at0)), vm := .none }) := by
      refine jz_push hP hsz fun H1 he => ?_
      rw [hsz] at he
      rw [jz_e_arr hk]
      show H1[jz_B g + n]? = some (vp_cell (jz_c g t) (jz_ar g t len (V n)))
      rw [he, arrV_new]
      have e1 : jz_ar g t len (V n) = (len, .inl fun _ => 0) := by
        match t, ht1 with
        | 0, _ => simp only [jz_ar, hdv]; rfl
        | 1, _ => simp only [jz_ar, hdv]; rfl
      have e2 : defaultValue (newarray.typeOf at0) = .int 0 := by rcases hp with h | h <;> rw [h] <;> rfl
      rw [e1, e2]
      rfl
    have h5 := kk p e R s m args below meth c Qf C _ locs lsA hP1 (jz_pushS hS) (by omega) hroom hL (jz_consv trivial (jz_tl hst)) hls
    refine W.widen (k := n + 1 - n0) (n := 1300 * (n + 1 - n0)) (by omega) (by omega) ?_
    have h6 : (List.map (jz_cv g) (jr n :: st)) = .ref H.size :: st.map (jz_cv g) := by
      show Value.ref (jz_ad g n) :: _ = _
      rw [jz_ad_lo hk (by intro q; cases q; omega), hsz]
    rw [h6] at h5
    exact h5
theorem jj_anew {idx t len : Nat} {Cn : String} {z : Int} (hd : decode (jm_c x) pc = .ok (.anewarray idx, 3)) (hcl0 : Cond.classLink (jm_o x) idx Cn ∈ jz_GW) (hov : Cond.arrayOver (.object Cn) ∈ jz_NW) (ht : (jz_tys g)[t]? = some (jz_c g t, .object Cn)) (ht2 : 2 ≤ t) (hk : jz_t n = .inr (t, len)) (hk9 : t ≤ 5) (hz : z = len) (hlen : len ≤ 1300) (hdv : ∀ i, V n i = jn) (hroom : n + 1 ≤ n0 + jm_k x)
    (kk : jz_J g x n0 Q (pc + 3) ls (jr n :: st) (n + 1) V) : jz_J g x n0 Q pc ls (ji z :: st) n V := by
  intro p e R s m args below meth c Qf C H locs lsA hP hS hn hn2 hL hst hls
  obtain ⟨r1, r2, r3, r4⟩ := C.2.2.2.2.2.2.2.1
  refine jz_size C.2.2.2.2.2.2.2.2.2.1 hP hS hn fun hsz => ?_
  subst hz
  have hI : jI (len : Int) := jz_hd hst
  have hcl : (Int32.ofInt len).toNatClampNeg = len := by rw [jz_cl hI]; simp
  refine W.anew C.1 C.2.1 C.2.2.2.1 (C.2.2.2.2.1 _ hcl0) (va_AO.use (C.2.2.2.2.2.1 _ hov)) rfl hd rfl (fun q => ?_) (by rw [hcl]; omega) (by omega) (by rw [hcl]; omega) fun cA kA comp h1 h2 h3 h4 => ?_
  · have := (jz_ltI hI (by decide : jI 0)).mp q
    omega
  · rw [hcl]
    obtain ⟨kA', comp', k1, k2, k3, k4⟩ := jz_tys_K C.2.2.2.2.2.2.1 ht
    have hcA : cA = jz_c g t := Option.some.inj (h1.symm.trans k4)
    subst hcA
    have hP1 : jz_P g (n + 1) V (H.push { cls := jz_c g t, slots := Array.replicate len .null, vm := .none }) := by
      refine jz_push hP hsz fun H1 he => ?_
      rw [hsz] at he
      rw [jz_e_arr hk]
      show H1[jz_B g + n]? = some (vp_cell (jz_c g t) (jz_ar g t len (V n)))
      rw [he, arrV_new, jz_ar_q ht2, vp_cell_q]
      simp only [hdv]
      rfl
    have h5 := kk p e R s m args below meth c Qf C _ locs lsA hP1 (jz_pushS hS) (by omega) hroom hL (jz_consv trivial (jz_tl hst)) hls
    refine W.widen (k := n + 1 - n0) (n := 1300 * (n + 1 - n0)) (by omega) (by omega) ?_
    have h6 : (List.map (jz_cv g) (jr n :: st)) = .ref H.size :: st.map (jz_cv g) := by
      show Value.ref (jz_ad g n) :: _ = _
      rw [jz_ad_lo hk (by intro q; cases q; omega), hsz]
    rw [h6] at h5
    exact h5
theorem jj_objInit {idx k : Nat} (hd : decode (jm_c x) pc = .ok (.invokespecial idx, 3)) (hl : Cond.methodLink (jm_o x) idx Lib.objectInit ∈ jz_GW) (hi : Cond.instanceMethod Lib.objectInit ∈ jz_GW) (hco : Cond.code Lib.objectInit ⟨#[0xb1]⟩ 1 none ∈ jz_GW) (hst8 : (st.map jz_ct).sum ≤ 8) (hdp : 1 ≤ jm_d x) (kk : jz_J g x n0 Q (pc + 3) ls st n V) : jz_J g x n0 Q pc ls (jr k :: st) n V := by
  intro p e R s m args below meth c Qf C H locs lsA hP hS hn hn2 hL hst hls
  obtain ⟨r1, r2, r3, r4⟩ := C.2.2.2.2.2.2.2.1
  refine W.objInit C.1 C.2.1 C.2.2.2.1 (C.2.2.2.2.1 _ hl) (C.2.2.2.2.1 _ hi) (C.2.2.2.2.1 _ hco) rfl (hL.1.trans C.2.2.1.symm) rfl hd (by omega) ?_ (kk p e R s m args below meth c Qf C H locs lsA hP hS hn hn2 hL (jz_tl hst) hls)
  have := lv_room (m := m) (pc := pc) (ls := lsA) (rest := (jr k :: st).map (jz_cv g)) (st := st.map (jz_cv g)) (by rw [jz_ct_sum]; exact hst8)
  omega
/-- the script -/
theorem jj_sld {j : Int} (hd : decode (jm_c x) pc = .ok (.iaload, 1)) (ho : jm_o x = RL) (h0 : 0 ≤ j) (h1 : j < jz_L g) (kk : jz_J g x n0 Q (pc + 1) ls (ji (jz_x g j.toNat) :: st) n V) : jz_J g x n0 Q pc ls (ji j :: jr 1000 :: st) n V := by
  intro p e R s m args below meth c Qf C H locs lsA hP hS hn hn2 hL hst hls
  obtain ⟨hX, hb, hLl, hxi⟩ := C.2.2.2.2.2.2.2.2.2.2.1 ho
  have hj : jI j := jz_hd hst
  have hkk := kk p e R s m args below meth c Qf C H locs lsA hP hS hn hn2 hL (jz_consv (v := ji (jz_x g j.toNat)) (hxi _) (jz_tl (jz_tl hst))) hls
  refine va_sld (b := jz_b g) C.1 C.2.1 hX (by rw [C.2.2.2.2.2.2.2.2.2.1]; omega) (by show ¬ (jz_B g ≤ jz_b g); omega) hS (jz_in' hj h0 h1) hd ?_
  rw [jz_cl hj]
  exact hkk
theorem jj_slen (hd : decode (jm_c x) pc = .ok (.arraylength, 1)) (ho : jm_o x = RL) (kk : jz_J g x n0 Q (pc + 1) ls (ji (jz_L g) :: st) n V) : jz_J g x n0 Q pc ls (jr 1000 :: st) n V := by
  intro p e R s m args below meth c Qf C H locs lsA hP hS hn hn2 hL hst hls
  obtain ⟨hX, hb, hLl, hxi⟩ := C.2.2.2.2.2.2.2.2.2.2.1 ho
  have hkk := kk p e R s m args below meth c Qf C H locs lsA hP hS hn hn2 hL (jz_consv (v := ji (jz_L g)) (by show jI _; omega) (jz_tl hst)) hls
  refine va_slen (b := jz_b g) C.1 C.2.1 hX (by rw [C.2.2.2.2.2.2.2.2.2.1]; omega) (by show ¬ (jz_B g ≤ jz_b g); omega) hS hd ?_
  rw [← Int32.ofInt_eq_ofNat]
  exact hkk
end JC
end
section
/-! a run: all cells are there, references stand, numbers change -/
abbrev jz_St : Type := Nat → Nat → Int
def jz_rfc (t : jz_T) (k i : Nat) : Option Nat := match t with
  | .inl 2 => if i = 0 then some (k + 1) else none
  | .inl 3 => if i = 0 then some (k + 1) else none
  | .inl 4 => if i = 0 then some (k + 1) else none
  | .inl 5 => if i = 0 then some (k + 1) else if i = 1 then some (k + 2) else none
  | .inl 6 => if i = 0 then some (k + 1) else none
  | .inl 7 => match i with
    | 0 => some 1
    | 1 => some 2
    | 2 => some 4
    | 3 => some 342
    | 4 => some 344
    | 5 => some 358
    | 6 => some 372
    | 7 => some 386
    | _ => none
  | .inl 8 => match i with
    | 2 => some 417
    | 3 => some 418
    | 4 => some 419
    | 5 => some 420
    | 6 => some 421
    | 7 => some 422
    | 8 => some 423
    | 10 => some 424
    | 19 => some 425
    | 20 => some 426
    | 21 => some 427
    | 22 => some 428
    | 23 => some 429
    | _ => none
  | .inr (2, _) => some (k + 2 + i)
  | .inr (3, _) => some (k + 8 + i)
  | .inr (4, _) => some (6 + 14 * i)
  | .inr (5, _) => some (400 + 2 * i)
  | _ => none
def jz_rf (k i : Nat) : Option Nat := jz_rfc (jz_t k) k i
def jz_mk (s : jz_St) : jz_S := fun k i => match jz_rf k i with
  | some r => jr r
  | none => ji (s k i)
def jz_su (s : jz_St) (k i : Nat) (z : Int) : jz_St := fun a b => if a = k ∧ b = i then z else s a b
def jz_sok (s : jz_St) : Prop := ∀ k i, jz_rf k i = none → jI (s k i)
theorem jz_mk_i {s : jz_St} {k i : Nat} (h : jz_rf k i = none) : jz_mk s k i = ji (s k i) := by simp only [jz_mk, h]
theorem jz_mk_r {s : jz_St} {k i r : Nat} (h : jz_rf k i = some r) : jz_mk s k i = jr r := by simp only [jz_mk, h]
theorem jz_mk_up {s : jz_St} {k i : Nat} {z : Int} (h : jz_rf k i = none) : jz_up (jz_mk s) k i (ji z) = jz_mk (jz_su s k i z) := by
  funext a b
  by_cases e : a = k ∧ b = i
  · obtain ⟨rfl, rfl⟩ := e
    simp [jz_up, jz_mk, jz_su, h]
  · simp [jz_up, jz_mk, jz_su, e]
theorem jz_mk_ok {s : jz_St} (h : ∀ k i, jz_ok (jz_mk s k i)) : jz_sok s := fun k i hr => by
  have := h k i
  rw [jz_mk_i hr] at this
  exact this
theorem jz_su_s (s : jz_St) (k i : Nat) (z : Int) : jz_su s k i z k i = z := by simp [jz_su]
theorem jz_su_n {s : jz_St} {k i a b : Nat} {z : Int} (h : a ≠ k ∨ b ≠ i) : jz_su s k i z a b = s a b := by
  unfold jz_su
  rw [if_neg]
  rintro ⟨h1, h2⟩
  rcases h with h | h
  · exact h h1
  · exact h h2
theorem jz_su_o {s : jz_St} {k i a : Nat} {z : Int} (h : a ≠ k) : jz_su s k i z a = s a := by
  funext b
  exact jz_su_n (Or.inl h)
theorem jz_su_f {s : jz_St} {k i b : Nat} {z : Int} (h : b ≠ i) {a : Nat} : jz_su s k i z a b = s a b := jz_su_n (Or.inr h)
def jz_zq (Q : Option jz_V → jz_St → Prop) : jz_Q := fun v n V => n = 430 ∧ ∃ s, V = jz_mk s ∧ Q v s
abbrev jz_Z (g : jz_G) (x : jz_M) (Q : Option jz_V → jz_St → Prop) (pc : Nat) (ls : List (Option jz_V)) (st : List jz_V) (s : jz_St) : Prop := jz_J g x (430 - jm_k x) (jz_zq Q) pc ls st 430 (jz_mk s)
def jz_C (g : jz_G) (x : jz_M) (av : List jz_V) (s : jz_St) (Q : Option jz_V → jz_St → Prop) : Prop := jz_K g x 430 av (jz_mk s) (jz_zq Q)
def jq_i (P : Int → jz_St → Prop) : Option jz_V → jz_St → Prop := fun v s => ∃ z, v = some (ji z) ∧ P z s
def jq_l (P : Int → jz_St → Prop) : Option jz_V → jz_St → Prop := fun v s => ∃ z, v = some (jl z) ∧ P z s
def jq_v (P : jz_St → Prop) : Option jz_V → jz_St → Prop := fun v s => v = none ∧ P s
def jq_r (P : Option Nat → jz_St → Prop) : Option jz_V → jz_St → Prop := fun v s => ∃ o, v = some (.inr (.inr o)) ∧ P o s
section ZZ
variable {g : jz_G} {x : jz_M} {Q : Option jz_V → jz_St → Prop} {pc : Nat} {ls : List (Option jz_V)} {st : List jz_V} {s : jz_St}
theorem zz_C_of {av : List jz_V} (hm : jz_mok x) (hk : jm_k x = 0) (hlen : (jz_ent av).length ≤ jm_L x) (h : jz_Z g x Q 0 (jz_ent av) [] s) : jz_C g x av s Q := by
  refine jz_K_of hm hlen ?_
  unfold jz_Z at h
  rw [hk] at h
  exact h
theorem zz_rng (kk : jz_sok s → (∀ v ∈ st, jz_ok v) → (∀ v, some v ∈ ls → jz_ok v) → jz_Z g x Q pc ls st s) : jz_Z g x Q pc ls st s :=
  jj_rng fun h1 h2 h3 => kk (jz_mk_ok h1) h2 h3
theorem zz_ret {v : Option jz_V} {st0 : List jz_V} (hd : decode (jm_c x) pc = .ok (jz_rv v, 1)) (hs : st0 = v.toList) (hr : jz_rok (jm_r x) v) (hk : jm_k x ≤ 430) (hq : Q v s) : jz_Z g x Q pc ls st0 s :=
  jj_ret hd hs hr (by omega) (fun _ => ⟨rfl, s, rfl, hq⟩)
theorem zz_reti {P : Int → jz_St → Prop} {z : Int} (hd : decode (jm_c x) pc = .ok (.ireturn, 1)) (hr : jm_r x = some .int) (hk : jm_k x ≤ 430) (hq : P z s) : jz_Z g x (jq_i P) pc ls [ji z] s :=
  zz_ret (v := some (ji z)) hd rfl (by rw [hr]; trivial) hk ⟨z, rfl, hq⟩
theorem zz_retz {P : Int → jz_St → Prop} {z : Int} (hd : decode (jm_c x) pc = .ok (.ireturn, 1)) (hr : jm_r x = some .boolean) (hz : z = 0 ∨ z = 1) (hk : jm_k x ≤ 430) (hq : P z s) : jz_Z g x (jq_i P) pc ls [ji z] s :=
  zz_ret (v := some (ji z)) hd rfl (by rw [hr]; exact hz) hk ⟨z, rfl, hq⟩
theorem zz_retl {P : Int → jz_St → Prop} {z : Int} (hd : decode (jm_c x) pc = .ok (.lreturn, 1)) (hr : jm_r x = some .long) (hk : jm_k x ≤ 430) (hq : P z s) : jz_Z g x (jq_l P) pc ls [jl z] s :=
  zz_ret (v := some (jl z)) hd rfl (by rw [hr]; trivial) hk ⟨z, rfl, hq⟩
theorem zz_retr {P : Option Nat → jz_St → Prop} {o : Option Nat} {C : String} (hd : decode (jm_c x) pc = .ok (.areturn, 1)) (hr : jm_r x = some (.object C)) (hk : jm_k x ≤ 430) (hq : P o s) : jz_Z g x (jq_r P) pc ls [.inr (.inr o)] s :=
  zz_ret (v := some (.inr (.inr o))) hd rfl (by rw [hr]; trivial) hk ⟨o, rfl, hq⟩
theorem zz_retv {P : jz_St → Prop} (hd : decode (jm_c x) pc = .ok (.return_, 1)) (hr : jm_r x = none) (hk : jm_k x ≤ 430) (hq : P s) : jz_Z g x (jq_v P) pc ls [] s :=
  zz_ret (v := none) hd rfl (by rw [hr]; trivial) hk ⟨rfl, hq⟩
theorem zz_getI {idx ci i k : Nat} (hd : decode (jm_c x) pc = .ok (.getfield idx, 3)) (hF : jz_Fd (jm_o x) idx ci i) (hk : jz_t k = .inl ci) (hr : jz_rfc (.inl ci) k i = none) (kk : jz_Z g x Q (pc + 3) ls (ji (s k i) :: st) s) : jz_Z g x Q pc ls (jr k :: st) s :=
  jj_getf hd hF hk (jz_t_lt (by rw [hk]; simp)) (jz_mk_i (by unfold jz_rf; rw [hk]; exact hr)) kk
theorem zz_getR {idx ci i k r : Nat} (hd : decode (jm_c x) pc = .ok (.getfield idx, 3)) (hF : jz_Fd (jm_o x) idx ci i) (hk : jz_t k = .inl ci) (hr : jz_rfc (.inl ci) k i = some r) (kk : jz_Z g x Q (pc + 3) ls (jr r :: st) s) : jz_Z g x Q pc ls (jr k :: st) s :=
  jj_getf hd hF hk (jz_t_lt (by rw [hk]; simp)) (jz_mk_r (by unfold jz_rf; rw [hk]; exact hr)) kk
theorem zz_putI {idx ci i k : Nat} {z : Int} (hd : decode (jm_c x) pc = .ok (.putfield idx, 3)) (hF : jz_Fw (jm_o x) idx ci i .int false) (hk : jz_t k = .inl ci) (hr : jz_rfc (.inl ci) k i = none) (kk : jz_Z g x Q (pc + 3) ls st (jz_su s k i z)) : jz_Z g x Q pc ls (ji z :: jr k :: st) s := by
  refine jj_putf hd hF (fun h => by cases h) hk (jz_t_lt (by rw [hk]; simp)) trivial ?_
  rw [jz_mk_up (by unfold jz_rf; rw [hk]; exact hr)]
  exact kk
theorem zz_putZ {idx ci i k : Nat} {z : Int} (hd : decode (jm_c x) pc = .ok (.putfield idx, 3)) (hF : jz_Fw (jm_o x) idx ci i .boolean false) (hk : jz_t k = .inl ci) (hr : jz_rfc (.inl ci) k i = none) (hz : z = 0 ∨ z = 1) (kk : jz_Z g x Q (pc + 3) ls st (jz_su s k i z)) : jz_Z g x Q pc ls (ji z :: jr k :: st) s := by
  refine jj_putf hd hF (fun h => by cases h) hk (jz_t_lt (by rw [hk]; simp)) hz ?_
  rw [jz_mk_up (by unfold jz_rf; rw [hk]; exact hr)]
  exact kk
theorem zz_iald {k len : Nat} {j : Int} (hd : decode (jm_c x) pc = .ok (.iaload, 1)) (hk : jz_t k = .inr (0, len)) (h0 : 0 ≤ j) (h1 : j < len) (kk : jz_Z g x Q (pc + 1) ls (ji (s k j.toNat) :: st) s) : jz_Z g x Q pc ls (ji j :: jr k :: st) s :=
  jj_iald hd hk (jz_t_lt (by rw [hk]; simp)) h0 h1 (jz_mk_i (by unfold jz_rf; rw [hk]; rfl)) kk
theorem zz_iast {k len : Nat} {j z : Int} (hd : decode (jm_c x) pc = .ok (.iastore, 1)) (hk : jz_t k = .inr (0, len)) (h0 : 0 ≤ j) (h1 : j < len) (kk : jz_Z g x Q (pc + 1) ls st (jz_su s k j.toNat z)) : jz_Z g x Q pc ls (ji z :: ji j :: jr k :: st) s := by
  refine jj_iast hd hk (jz_t_lt (by rw [hk]; simp)) h0 h1 ?_
  rw [jz_mk_up (by unfold jz_rf; rw [hk]; rfl)]
  exact kk
theorem zz_bald {k len : Nat} {j : Int} (hd : decode (jm_c x) pc = .ok (.baload, 1)) (hk : jz_t k = .inr (1, len)) (h0 : 0 ≤ j) (h1 : j < len) (kk : jz_Z g x Q (pc + 1) ls (ji (s k j.toNat) :: st) s) : jz_Z g x Q pc ls (ji j :: jr k :: st) s :=
  jj_bald hd hk (jz_t_lt (by rw [hk]; simp)) h0 h1 (jz_mk_i (by unfold jz_rf; rw [hk]; rfl)) kk
theorem zz_bast {k len : Nat} {j z : Int} (hd : decode (jm_c x) pc = .ok (.bastore, 1)) (hk : jz_t k = .inr (1, len)) (h0 : 0 ≤ j) (h1 : j < len) (hz : z = 0 ∨ z = 1) (kk : jz_Z g x Q (pc + 1) ls st (jz_su s k j.toNat z)) : jz_Z g x Q pc ls (ji z :: ji j :: jr k :: st) s := by
  refine jj_bast hd hk (jz_t_lt (by rw [hk]; simp)) h0 h1 hz ?_
  rw [jz_mk_up (by unfold jz_rf; rw [hk]; rfl)]
  exact kk
theorem zz_aald {k t len r : Nat} {j : Int} (hd : decode (jm_c x) pc = .ok (.aaload, 1)) (hk : jz_t k = .inr (t, len)) (ht : 2 ≤ t ∧ t ≤ 5) (h0 : 0 ≤ j) (h1 : j < len) (hr : jz_rfc (.inr (t, len)) k j.toNat = some r) (kk : jz_Z g x Q (pc + 1) ls (jr r :: st) s) : jz_Z g x Q pc ls (ji j :: jr k :: st) s :=
  jj_aald (o := some r) hd hk ht.1 ht.2 (jz_t_lt (by rw [hk]; intro q; cases q; omega)) h0 h1 (jz_mk_r (by unfold jz_rf; rw [hk]; exact hr)) kk
theorem zz_alen {k t len : Nat} {z : Int} (hd : decode (jm_c x) pc = .ok (.arraylength, 1)) (hk : jz_t k = .inr (t, len)) (ht5 : t ≤ 5) (hz : (len : Int) = z) (hr : jI z) (kk : jz_Z g x Q (pc + 1) ls (ji z :: st) s) : jz_Z g x Q pc ls (jr k :: st) s :=
  jj_alen hd hk ht5 (jz_t_lt (by rw [hk]; intro q; cases q; omega)) hz hr kk
theorem jz_430 {y : jz_M} (h : jm_k y = 0) : 430 + jm_k y = 430 := by omega
theorem zz_callV {idx k ci np : Nat} {y : jz_M} {av st' : List jz_V} {Q1 : Option jz_V → jz_St → Prop} (hd : decode (jm_c x) pc = .ok (.invokevirtual idx, 3)) (hl : jz_ln (jm_o x) idx y) (hm : jz_myV y np) (hk : jz_t k = .inl ci) (hC : (vwCl[ci]?).map (fun q => q.1) = some (jm_y y).cls) (hnp : av.length = np) (hst0 : st = av.reverse ++ jr k :: st') (hcat : (st'.map jz_ct).sum ≤ 8) (hdp : jm_d y + 1 ≤ jm_d x) (hk0 : jm_k y = 0) (hc : jz_C g y (jr k :: av) s Q1)
    (kk : ∀ (v : Option jz_V) (s' : jz_St), (∀ u, v = some u → jz_ok u) → jz_sok s' → Q1 v s' → jz_Z g x Q (pc + 3) ls (v.toList ++ st') s') : jz_Z g x Q pc ls st s := by
  refine jj_callV hd hl hm hk (jz_t_lt (by rw [hk]; simp)) hC hnp hst0 hcat hdp (by omega) hc fun v V' hv hV hq => ?_
  obtain ⟨-, s', rfl, hq⟩ := hq
  rw [jz_430 hk0]
  exact kk v s' hv (jz_mk_ok hV) hq
theorem zz_callS {idx np : Nat} {y : jz_M} {av st' : List jz_V} {Q1 : Option jz_V → jz_St → Prop} (hd : decode (jm_c x) pc = .ok (.invokestatic idx, 3)) (hl : jz_ln (jm_o x) idx y) (hm : jz_myS y np) (hnp : av.length = np) (hst0 : st = av.reverse ++ st') (hcat : (st'.map jz_ct).sum ≤ 8) (hdp : jm_d y + 1 ≤ jm_d x) (hk0 : jm_k y = 0) (hc : jz_C g y av s Q1)
    (kk : ∀ (v : Option jz_V) (s' : jz_St), (∀ u, v = some u → jz_ok u) → jz_sok s' → Q1 v s' → jz_Z g x Q (pc + 3) ls (v.toList ++ st') s') : jz_Z g x Q pc ls st s := by
  refine jj_callS hd hl hm hnp hst0 hcat hdp (by omega) hc fun v V' hv hV hq => ?_
  obtain ⟨-, s', rfl, hq⟩ := hq
  rw [jz_430 hk0]
  exact kk v s' hv (jz_mk_ok hV) hq
theorem zz_callVi {idx k ci np : Nat} {y : jz_M} {av st' : List jz_V} {P : Int → jz_St → Prop} (hd : decode (jm_c x) pc = .ok (.invokevirtual idx, 3)) (hl : jz_ln (jm_o x) idx y) (hm : jz_myV y np) (hk : jz_t k = .inl ci) (hC : (vwCl[ci]?).map (fun q => q.1) = some (jm_y y).cls) (hnp : av.length = np) (hst0 : st = av.reverse ++ jr k :: st') (hcat : (st'.map jz_ct).sum ≤ 8) (hdp : jm_d y + 1 ≤ jm_d x) (hk0 : jm_k y = 0) (hc : jz_C g y (jr k :: av) s (jq_i P))
    (kk : ∀ (z : Int) (s' : jz_St), jI z → jz_sok s' → P z s' → jz_Z g x Q (pc + 3) ls (ji z :: st') s') : jz_Z g x Q pc ls st s :=
  zz_callV hd hl hm hk hC hnp hst0 hcat hdp hk0 hc fun v s' hv hs hq => by
    obtain ⟨z, rfl, hq⟩ := hq
    exact kk z s' (hv _ rfl) hs hq
theorem zz_callVl {idx k ci np : Nat} {y : jz_M} {av st' : List jz_V} {P : Int → jz_St → Prop} (hd : decode (jm_c x) pc = .ok (.invokevirtual idx, 3)) (hl : jz_ln (jm_o x) idx y) (hm : jz_myV y np) (hk : jz_t k = .inl ci) (hC : (vwCl[ci]?).map (fun q => q.1) = some (jm_y y).cls) (hnp : av.length = np) (hst0 : st = av.reverse ++ jr k :: st') (hcat : (st'.map jz_ct).sum ≤ 8) (hdp : jm_d y + 1 ≤ jm_d x) (hk0 : jm_k y = 0) (hc : jz_C g y (jr k :: av) s (jq_l P))
    (kk : ∀ (z : Int) (s' : jz_St), jL z → jz_sok s' → P z s' → jz_Z g x Q (pc + 3) ls (jl z :: st') s') : jz_Z g x Q pc ls st s :=
  zz_callV hd hl hm hk hC hnp hst0 hcat hdp hk0 hc fun v s' hv hs hq => by
    obtain ⟨z, rfl, hq⟩ := hq
    exact kk z s' (hv _ rfl) hs hq
theorem zz_callVv {idx k ci np : Nat} {y : jz_M} {av st' : List jz_V} {P : jz_St → Prop} (hd : decode (jm_c x) pc = .ok (.invokevirtual idx, 3)) (hl : jz_ln (jm_o x) idx y) (hm : jz_myV y np) (hk : jz_t k = .inl ci) (hC : (vwCl[ci]?).map (fun q => q.1) = some (jm_y y).cls) (hnp : av.length = np) (hst0 : st = av.reverse ++ jr k :: st') (hcat : (st'.map jz_ct).sum ≤ 8) (hdp : jm_d y + 1 ≤ jm_d x) (hk0 : jm_k y = 0) (hc : jz_C g y (jr k :: av) s (jq_v P))
    (kk : ∀ (s' : jz_St), jz_sok s' → P s' → jz_Z g x Q (pc + 3) ls st' s') : jz_Z g x Q pc ls st s :=
  zz_callV hd hl hm hk hC hnp hst0 hcat hdp hk0 hc fun v s' hv hs hq => by
    obtain ⟨rfl, hq⟩ := hq
    exact kk s' hs hq
theorem zz_callVr {idx k ci np : Nat} {y : jz_M} {av st' : List jz_V} {P : Option Nat → jz_St → Prop} (hd : decode (jm_c x) pc = .ok (.invokevirtual idx, 3)) (hl : jz_ln (jm_o x) idx y) (hm : jz_myV y np) (hk : jz_t k = .inl ci) (hC : (vwCl[ci]?).map (fun q => q.1) = some (jm_y y).cls) (hnp : av.length = np) (hst0 : st = av.reverse ++ jr k :: st') (hcat : (st'.map jz_ct).sum ≤ 8) (hdp : jm_d y + 1 ≤ jm_d x) (hk0 : jm_k y = 0) (hc : jz_C g y (jr k :: av) s (jq_r P))
    (kk : ∀ (o : Option Nat) (s' : jz_St), jz_sok s' → P o s' → jz_Z g x Q (pc + 3) ls (.inr (.inr o) :: st') s') : jz_Z g x Q pc ls st s :=
  zz_callV hd hl hm hk hC hnp hst0 hcat hdp hk0 hc fun v s' hv hs hq => by
    obtain ⟨o, rfl, hq⟩ := hq
    exact kk o s' hs hq
theorem zz_callSi {idx np : Nat} {y : jz_M} {av st' : List jz_V} {P : Int → jz_St → Prop} (hd : decode (jm_c x) pc = .ok (.invokestatic idx, 3)) (hl : jz_ln (jm_o x) idx y) (hm : jz_myS y np) (hnp : av.length = np) (hst0 : st = av.reverse ++ st') (hcat : (st'.map jz_ct).sum ≤ 8) (hdp : jm_d y + 1 ≤ jm_d x) (hk0 : jm_k y = 0) (hc : jz_C g y av s (jq_i P))
    (kk : ∀ (z : Int) (s' : jz_St), jI z → jz_sok s' → P z s' → jz_Z g x Q (pc + 3) ls (ji z :: st') s') : jz_Z g x Q pc ls st s :=
  zz_callS hd hl hm hnp hst0 hcat hdp hk0 hc fun v s' hv hs hq => by
    obtain ⟨z, rfl, hq⟩ := hq
    exact kk z s' (hv _ rfl) hs hq
theorem zz_callSl {idx np : Nat} {y : jz_M} {av st' : List jz_V} {P : Int → jz_St → Prop} (hd : decode (jm_c x) pc = .ok (.invokestatic idx, 3)) (hl : jz_ln (jm_o x) idx y) (hm : jz_myS y np) (hnp : av.length = np) (hst0 : st = av.reverse ++ st') (hcat : (st'.map jz_ct).sum ≤ 8) (hdp : jm_d y + 1 ≤ jm_d x) (hk0 : jm_k y = 0) (hc : jz_C g y av s (jq_l P))
    (kk : ∀ (z : Int) (s' : jz_St), jL z → jz_sok s' → P z s' → jz_Z g x Q (pc + 3) ls (jl z :: st') s') : jz_Z g x Q pc ls st s :=
  zz_callS hd hl hm hnp hst0 hcat hdp hk0 hc fun v s' hv hs hq => by
    obtain ⟨z, rfl, hq⟩ := hq
    exact kk z s' (hv _ rfl) hs hq
theorem zz_mono {P : Option jz_V → jz_St → Prop} (h : ∀ v s, P v s → Q v s) (kk : jz_Z g x P pc ls st s) : jz_Z g x Q pc ls st s :=
  jj_mono (fun _ _ _ ⟨h1, s, h2, h3⟩ => ⟨h1, s, h2, h _ s h3⟩) kk
end ZZ
/-! squares -/
theorem jz_sqt0 {r : Nat} (h : jz_sqt r = .inl 5) : r = 0 := by
  unfold jz_sqt at h
  split at h
  · assumption
  · split at h
    · cases h
    · split at h
      · cases h
      · split at h <;> cases h
set_option maxRecDepth 20000 in
theorem jz_t_sq {k : Nat} (h : jz_t k = .inl 5) (r : Nat) (hr : r < 14) : jz_t (k + r) = jz_sqt r := by
  have hk := jz_t_lt (k := k) (by rw [h]; simp)
  unfold jz_t at h
  split at h
  · next h6 =>
    exfalso
    have : ∀ k, k < 6 → jz_loT k ≠ .inl 5 := by decide
    exact this k h6 h
  · split at h
    · have := jz_sqt0 h
      unfold jz_t
      rw [if_neg (by omega), if_pos (by omega), show (k + r - 6) % 14 = r by omega]
    · split at h
      · cases h
      · split at h
        · cases h
        · split at h
          · have := jz_sqt0 h
            unfold jz_t
            rw [if_neg (by omega), if_neg (by omega), if_neg (by omega), if_neg (by omega), if_pos (by omega), show (k + r - 344) % 14 = r by omega]
          · split at h
            · split at h <;> cases h
            · exfalso
              obtain ⟨j, rfl⟩ : ∃ j, k = 416 + j := ⟨k - 416, by omega⟩
              rw [Nat.add_sub_cancel_left] at h
              have : ∀ k, k < 14 → jz_hiT k ≠ .inl 5 := by decide
              exact this j (by omega) h
theorem jz_t_sqL {k : Nat} (h : jz_t k = .inl 5) : jz_t (k + 1) = .inr (2, 7) := jz_t_sq h 1 (by decide)
theorem jz_t_sqG {k : Nat} (h : jz_t k = .inl 5) : jz_t (k + 2) = .inr (3, 4) := jz_t_sq h 2 (by decide)
theorem jz_t_leaf {k j : Nat} (h : jz_t k = .inl 5) (hj : j < 7) : jz_t (k + 3 + j) = .inl 1 := by
  rw [Nat.add_assoc, jz_t_sq h (3 + j) (by omega)]
  unfold jz_sqt
  rw [if_neg (by omega), if_neg (by omega), if_neg (by omega), if_pos (by omega)]
theorem jz_t_goat {k j : Nat} (h : jz_t k = .inl 5) (hj : j < 4) : jz_t (k + 10 + j) = .inl 0 := by
  rw [Nat.add_assoc, jz_t_sq h (10 + j) (by omega)]
  unfold jz_sqt
  rw [if_neg (by omega), if_neg (by omega), if_neg (by omega), if_neg (by omega)]
theorem jz_sq_apart {k k2 : Nat} (h : jz_t k = .inl 5) (h2 : jz_t k2 = .inl 5) (hne : k ≠ k2) : k + 14 ≤ k2 ∨ k2 + 14 ≤ k := by
  rcases Nat.lt_or_gt_of_ne hne with q | q
  · left
    rcases Nat.lt_or_ge k2 (k + 14) with z | z
    · obtain ⟨r, rfl⟩ : ∃ r, k2 = k + r := ⟨k2 - k, by omega⟩
      have := jz_t_sq h r (by omega)
      rw [h2] at this
      have := jz_sqt0 this.symm
      omega
    · exact z
  · right
    rcases Nat.lt_or_ge k (k2 + 14) with z | z
    · obtain ⟨r, rfl⟩ : ∃ r, k = k2 + r := ⟨k - k2, by omega⟩
      have := jz_t_sq h2 r (by omega)
      rw [h] at this
      have := jz_sqt0 this.symm
      omega
    · exact z
end
