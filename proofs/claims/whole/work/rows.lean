section
-- ===== PART A: goes FIRST, ahead of the names: the tables' words, and 'selects' of the private methods out of them =====
/-- a private method of a class that the tables say can be made, by its rows of tables_1 -/
def lw_okq (q : MethodName × Nat) : Prop := (q.1.cls ≠ "java/lang/invoke/MethodHandle" ∧ q.1.cls ≠ "java/lang/invoke/VarHandle") ∧ Cond.instantiable q.1.cls q.2 ∈ tables_1 ∧ Cond.privateMethod q.1 ∈ tables_1 ∧ Cond.instanceMethod q.1 ∈ tables_1
theorem lw_p0 : lw_okq (⟨"HiddenCandles$Palette", "lightCandles", "()V"⟩, 4) := ⟨⟨by decide +kernel, by decide +kernel⟩, List.mem_of_getElem? (i := 21) (by decide +kernel), List.mem_of_getElem? (i := 29) (by decide +kernel), List.mem_of_getElem? (i := 30) (by decide +kernel)⟩
theorem lw_p1 : lw_okq (⟨"HiddenCandles$Palette", "tallies", "()[[I"⟩, 4) := ⟨⟨by decide +kernel, by decide +kernel⟩, List.mem_of_getElem? (i := 21) (by decide +kernel), List.mem_of_getElem? (i := 33) (by decide +kernel), List.mem_of_getElem? (i := 34) (by decide +kernel)⟩
theorem lw_p2 : lw_okq (⟨"HiddenCandles$Palette", "fillTable", "([[I)V"⟩, 4) := ⟨⟨by decide +kernel, by decide +kernel⟩, List.mem_of_getElem? (i := 21) (by decide +kernel), List.mem_of_getElem? (i := 37) (by decide +kernel), List.mem_of_getElem? (i := 38) (by decide +kernel)⟩
theorem lw_p3 : lw_okq (⟨"HiddenCandles", "sieve", "()V"⟩, 11) := ⟨⟨by decide +kernel, by decide +kernel⟩, List.mem_of_getElem? (i := 13) (by decide +kernel), List.mem_of_getElem? (i := 66) (by decide +kernel), List.mem_of_getElem? (i := 67) (by decide +kernel)⟩
theorem lw_p4 : lw_okq (⟨"HiddenCandles$Palette", "hasCode", "(I)Z"⟩, 4) := ⟨⟨by decide +kernel, by decide +kernel⟩, List.mem_of_getElem? (i := 21) (by decide +kernel), List.mem_of_getElem? (i := 70) (by decide +kernel), List.mem_of_getElem? (i := 71) (by decide +kernel)⟩
theorem lw_p5 : lw_okq (⟨"HiddenCandles", "fits", "(II)Z"⟩, 11) := ⟨⟨by decide +kernel, by decide +kernel⟩, List.mem_of_getElem? (i := 13) (by decide +kernel), List.mem_of_getElem? (i := 74) (by decide +kernel), List.mem_of_getElem? (i := 75) (by decide +kernel)⟩
theorem lw_p6 : lw_okq (⟨"HiddenCandles$Palette", "answerTo", "(II)I"⟩, 4) := ⟨⟨by decide +kernel, by decide +kernel⟩, List.mem_of_getElem? (i := 21) (by decide +kernel), List.mem_of_getElem? (i := 78) (by decide +kernel), List.mem_of_getElem? (i := 79) (by decide +kernel)⟩
theorem lw_p7 : lw_okq (⟨"HiddenCandles", "leastBad", "([ZZ)I"⟩, 11) := ⟨⟨by decide +kernel, by decide +kernel⟩, List.mem_of_getElem? (i := 13) (by decide +kernel), List.mem_of_getElem? (i := 122) (by decide +kernel), List.mem_of_getElem? (i := 123) (by decide +kernel)⟩
theorem lw_p8 : lw_okq (⟨"HiddenCandles", "greatestHeap", "(I[Z)I"⟩, 11) := ⟨⟨by decide +kernel, by decide +kernel⟩, List.mem_of_getElem? (i := 13) (by decide +kernel), List.mem_of_getElem? (i := 132) (by decide +kernel), List.mem_of_getElem? (i := 133) (by decide +kernel)⟩
theorem lw_p9 : lw_okq (⟨"HiddenCandles", "heapUp", "(I[Z)V"⟩, 11) := ⟨⟨by decide +kernel, by decide +kernel⟩, List.mem_of_getElem? (i := 13) (by decide +kernel), List.mem_of_getElem? (i := 136) (by decide +kernel), List.mem_of_getElem? (i := 137) (by decide +kernel)⟩
theorem lw_p10 : lw_okq (⟨"HiddenCandles", "countAllBlack", "()I"⟩, 11) := ⟨⟨by decide +kernel, by decide +kernel⟩, List.mem_of_getElem? (i := 13) (by decide +kernel), List.mem_of_getElem? (i := 159) (by decide +kernel), List.mem_of_getElem? (i := 160) (by decide +kernel)⟩
theorem lw_p11 : lw_okq (⟨"HiddenCandles", "countDoubted", "()I"⟩, 11) := ⟨⟨by decide +kernel, by decide +kernel⟩, List.mem_of_getElem? (i := 13) (by decide +kernel), List.mem_of_getElem? (i := 163) (by decide +kernel), List.mem_of_getElem? (i := 164) (by decide +kernel)⟩
theorem lw_p12 : lw_okq (⟨"java/lang/Throwable", "fillInStackTrace", "(I)Ljava/lang/Throwable;"⟩, 6) := ⟨⟨by decide +kernel, by decide +kernel⟩, List.mem_of_getElem? (i := 205) (by decide +kernel), List.mem_of_getElem? (i := 203) (by decide +kernel), List.mem_of_getElem? (i := 204) (by decide +kernel)⟩
theorem lw_p13 : lw_okq (⟨"HiddenCandles", "hasGuess", "(I)Z"⟩, 11) := ⟨⟨by decide +kernel, by decide +kernel⟩, List.mem_of_getElem? (i := 13) (by decide +kernel), List.mem_of_getElem? (i := 243) (by decide +kernel), List.mem_of_getElem? (i := 244) (by decide +kernel)⟩
theorem lw_p14 : lw_okq (⟨"HiddenCandles", "countFitting", "(I)I"⟩, 11) := ⟨⟨by decide +kernel, by decide +kernel⟩, List.mem_of_getElem? (i := 13) (by decide +kernel), List.mem_of_getElem? (i := 248) (by decide +kernel), List.mem_of_getElem? (i := 249) (by decide +kernel)⟩
theorem lw_p15 : lw_okq (⟨"HiddenCandles", "countAnswering", "(II)I"⟩, 11) := ⟨⟨by decide +kernel, by decide +kernel⟩, List.mem_of_getElem? (i := 13) (by decide +kernel), List.mem_of_getElem? (i := 252) (by decide +kernel), List.mem_of_getElem? (i := 253) (by decide +kernel)⟩
def lw_privs_1 : List (MethodName × Nat) := [(⟨"HiddenCandles$Palette", "lightCandles", "()V"⟩, 4), (⟨"HiddenCandles$Palette", "tallies", "()[[I"⟩, 4), (⟨"HiddenCandles$Palette", "fillTable", "([[I)V"⟩, 4), (⟨"HiddenCandles", "sieve", "()V"⟩, 11), (⟨"HiddenCandles$Palette", "hasCode", "(I)Z"⟩, 4), (⟨"HiddenCandles", "fits", "(II)Z"⟩, 11), (⟨"HiddenCandles$Palette", "answerTo", "(II)I"⟩, 4), (⟨"HiddenCandles", "leastBad", "([ZZ)I"⟩, 11), (⟨"HiddenCandles", "greatestHeap", "(I[Z)I"⟩, 11), (⟨"HiddenCandles", "heapUp", "(I[Z)V"⟩, 11), (⟨"HiddenCandles", "countAllBlack", "()I"⟩, 11), (⟨"HiddenCandles", "countDoubted", "()I"⟩, 11), (⟨"java/lang/Throwable", "fillInStackTrace", "(I)Ljava/lang/Throwable;"⟩, 6), (⟨"HiddenCandles", "hasGuess", "(I)Z"⟩, 11), (⟨"HiddenCandles", "countFitting", "(I)I"⟩, 11), (⟨"HiddenCandles", "countAnswering", "(II)I"⟩, 11)]
theorem lw_r1 : ∀ q ∈ lw_privs_1, lw_okq q := List.forall_mem_cons.mpr ⟨lw_p0, List.forall_mem_cons.mpr ⟨lw_p1, List.forall_mem_cons.mpr ⟨lw_p2, List.forall_mem_cons.mpr ⟨lw_p3, List.forall_mem_cons.mpr ⟨lw_p4, List.forall_mem_cons.mpr ⟨lw_p5, List.forall_mem_cons.mpr ⟨lw_p6, List.forall_mem_cons.mpr ⟨lw_p7, List.forall_mem_cons.mpr ⟨lw_p8, List.forall_mem_cons.mpr ⟨lw_p9, List.forall_mem_cons.mpr ⟨lw_p10, List.forall_mem_cons.mpr ⟨lw_p11, List.forall_mem_cons.mpr ⟨lw_p12, List.forall_mem_cons.mpr ⟨lw_p13, List.forall_mem_cons.mpr ⟨lw_p14, List.forall_mem_cons.mpr ⟨lw_p15, fun _ h => absurd h List.not_mem_nil⟩⟩⟩⟩⟩⟩⟩⟩⟩⟩⟩⟩⟩⟩⟩⟩
theorem lw_p16 : lw_okq (⟨"HiddenCandles$Palette", "colourOf", "(II)I"⟩, 4) := ⟨⟨by decide +kernel, by decide +kernel⟩, List.mem_of_getElem? (i := 21) (by decide +kernel), List.mem_of_getElem? (i := 268) (by decide +kernel), List.mem_of_getElem? (i := 269) (by decide +kernel)⟩
theorem lw_p17 : lw_okq (⟨"HiddenCandles", "countHaving", "(II)I"⟩, 11) := ⟨⟨by decide +kernel, by decide +kernel⟩, List.mem_of_getElem? (i := 13) (by decide +kernel), List.mem_of_getElem? (i := 272) (by decide +kernel), List.mem_of_getElem? (i := 273) (by decide +kernel)⟩
theorem lw_p18 : lw_okq (⟨"HiddenCandles", "needCode", "(I)V"⟩, 11) := ⟨⟨by decide +kernel, by decide +kernel⟩, List.mem_of_getElem? (i := 13) (by decide +kernel), List.mem_of_getElem? (i := 313) (by decide +kernel), List.mem_of_getElem? (i := 314) (by decide +kernel)⟩
theorem lw_p19 : lw_okq (⟨"HiddenCandles", "needHidden", "()V"⟩, 11) := ⟨⟨by decide +kernel, by decide +kernel⟩, List.mem_of_getElem? (i := 13) (by decide +kernel), List.mem_of_getElem? (i := 326) (by decide +kernel), List.mem_of_getElem? (i := 327) (by decide +kernel)⟩
theorem lw_p20 : lw_okq (⟨"HiddenCandles", "append", "(II)V"⟩, 11) := ⟨⟨by decide +kernel, by decide +kernel⟩, List.mem_of_getElem? (i := 13) (by decide +kernel), List.mem_of_getElem? (i := 353) (by decide +kernel), List.mem_of_getElem? (i := 354) (by decide +kernel)⟩
theorem lw_p21 : lw_okq (⟨"HiddenCandles", "keepAnswering", "([ZII)V"⟩, 11) := ⟨⟨by decide +kernel, by decide +kernel⟩, List.mem_of_getElem? (i := 13) (by decide +kernel), List.mem_of_getElem? (i := 451) (by decide +kernel), List.mem_of_getElem? (i := 452) (by decide +kernel)⟩
theorem lw_p22 : lw_okq (⟨"HiddenCandlesModel", "no", "(I)I"⟩, 12) := ⟨⟨by decide +kernel, by decide +kernel⟩, List.mem_of_getElem? (i := 455) (by decide +kernel), List.mem_of_getElem? (i := 509) (by decide +kernel), List.mem_of_getElem? (i := 510) (by decide +kernel)⟩
theorem lw_p23 : lw_okq (⟨"HiddenCandlesModel", "isCode", "(I)Z"⟩, 12) := ⟨⟨by decide +kernel, by decide +kernel⟩, List.mem_of_getElem? (i := 455) (by decide +kernel), List.mem_of_getElem? (i := 517) (by decide +kernel), List.mem_of_getElem? (i := 518) (by decide +kernel)⟩
theorem lw_p24 : lw_okq (⟨"HiddenCandlesModel", "codes", "()I"⟩, 12) := ⟨⟨by decide +kernel, by decide +kernel⟩, List.mem_of_getElem? (i := 455) (by decide +kernel), List.mem_of_getElem? (i := 521) (by decide +kernel), List.mem_of_getElem? (i := 522) (by decide +kernel)⟩
theorem lw_p25 : lw_okq (⟨"HiddenCandlesModel", "at", "(II)I"⟩, 12) := ⟨⟨by decide +kernel, by decide +kernel⟩, List.mem_of_getElem? (i := 455) (by decide +kernel), List.mem_of_getElem? (i := 532) (by decide +kernel), List.mem_of_getElem? (i := 533) (by decide +kernel)⟩
theorem lw_p26 : lw_okq (⟨"HiddenCandlesModel", "weight", "(I)I"⟩, 12) := ⟨⟨by decide +kernel, by decide +kernel⟩, List.mem_of_getElem? (i := 455) (by decide +kernel), List.mem_of_getElem? (i := 536) (by decide +kernel), List.mem_of_getElem? (i := 537) (by decide +kernel)⟩
theorem lw_p27 : lw_okq (⟨"HiddenCandlesModel", "answerTo", "(II)I"⟩, 12) := ⟨⟨by decide +kernel, by decide +kernel⟩, List.mem_of_getElem? (i := 455) (by decide +kernel), List.mem_of_getElem? (i := 544) (by decide +kernel), List.mem_of_getElem? (i := 545) (by decide +kernel)⟩
theorem lw_p28 : lw_okq (⟨"HiddenCandlesModel", "note", "(II)V"⟩, 12) := ⟨⟨by decide +kernel, by decide +kernel⟩, List.mem_of_getElem? (i := 455) (by decide +kernel), List.mem_of_getElem? (i := 549) (by decide +kernel), List.mem_of_getElem? (i := 550) (by decide +kernel)⟩
theorem lw_p29 : lw_okq (⟨"HiddenCandlesModel", "look", "(I)I"⟩, 12) := ⟨⟨by decide +kernel, by decide +kernel⟩, List.mem_of_getElem? (i := 455) (by decide +kernel), List.mem_of_getElem? (i := 557) (by decide +kernel), List.mem_of_getElem? (i := 558) (by decide +kernel)⟩
theorem lw_p30 : lw_okq (⟨"HiddenCandlesModel", "fits", "(II)Z"⟩, 12) := ⟨⟨by decide +kernel, by decide +kernel⟩, List.mem_of_getElem? (i := 455) (by decide +kernel), List.mem_of_getElem? (i := 561) (by decide +kernel), List.mem_of_getElem? (i := 562) (by decide +kernel)⟩
theorem lw_p31 : lw_okq (⟨"HiddenCandlesModel", "isGuess", "(I)Z"⟩, 12) := ⟨⟨by decide +kernel, by decide +kernel⟩, List.mem_of_getElem? (i := 455) (by decide +kernel), List.mem_of_getElem? (i := 569) (by decide +kernel), List.mem_of_getElem? (i := 570) (by decide +kernel)⟩
def lw_privs_2 : List (MethodName × Nat) := [(⟨"HiddenCandles$Palette", "colourOf", "(II)I"⟩, 4), (⟨"HiddenCandles", "countHaving", "(II)I"⟩, 11), (⟨"HiddenCandles", "needCode", "(I)V"⟩, 11), (⟨"HiddenCandles", "needHidden", "()V"⟩, 11), (⟨"HiddenCandles", "append", "(II)V"⟩, 11), (⟨"HiddenCandles", "keepAnswering", "([ZII)V"⟩, 11), (⟨"HiddenCandlesModel", "no", "(I)I"⟩, 12), (⟨"HiddenCandlesModel", "isCode", "(I)Z"⟩, 12), (⟨"HiddenCandlesModel", "codes", "()I"⟩, 12), (⟨"HiddenCandlesModel", "at", "(II)I"⟩, 12), (⟨"HiddenCandlesModel", "weight", "(I)I"⟩, 12), (⟨"HiddenCandlesModel", "answerTo", "(II)I"⟩, 12), (⟨"HiddenCandlesModel", "note", "(II)V"⟩, 12), (⟨"HiddenCandlesModel", "look", "(I)I"⟩, 12), (⟨"HiddenCandlesModel", "fits", "(II)Z"⟩, 12), (⟨"HiddenCandlesModel", "isGuess", "(I)Z"⟩, 12)]
theorem lw_r2 : ∀ q ∈ lw_privs_2, lw_okq q := List.forall_mem_cons.mpr ⟨lw_p16, List.forall_mem_cons.mpr ⟨lw_p17, List.forall_mem_cons.mpr ⟨lw_p18, List.forall_mem_cons.mpr ⟨lw_p19, List.forall_mem_cons.mpr ⟨lw_p20, List.forall_mem_cons.mpr ⟨lw_p21, List.forall_mem_cons.mpr ⟨lw_p22, List.forall_mem_cons.mpr ⟨lw_p23, List.forall_mem_cons.mpr ⟨lw_p24, List.forall_mem_cons.mpr ⟨lw_p25, List.forall_mem_cons.mpr ⟨lw_p26, List.forall_mem_cons.mpr ⟨lw_p27, List.forall_mem_cons.mpr ⟨lw_p28, List.forall_mem_cons.mpr ⟨lw_p29, List.forall_mem_cons.mpr ⟨lw_p30, List.forall_mem_cons.mpr ⟨lw_p31, fun _ h => absurd h List.not_mem_nil⟩⟩⟩⟩⟩⟩⟩⟩⟩⟩⟩⟩⟩⟩⟩⟩
theorem lw_p32 : lw_okq (⟨"HiddenCandlesModel", "guessTold", "(II)I"⟩, 12) := ⟨⟨by decide +kernel, by decide +kernel⟩, List.mem_of_getElem? (i := 455) (by decide +kernel), List.mem_of_getElem? (i := 589) (by decide +kernel), List.mem_of_getElem? (i := 590) (by decide +kernel)⟩
theorem lw_p33 : lw_okq (⟨"HiddenCandlesModel", "alike", "(I)I"⟩, 12) := ⟨⟨by decide +kernel, by decide +kernel⟩, List.mem_of_getElem? (i := 455) (by decide +kernel), List.mem_of_getElem? (i := 593) (by decide +kernel), List.mem_of_getElem? (i := 594) (by decide +kernel)⟩
theorem lw_p34 : lw_okq (⟨"HiddenCandlesModel", "counted", "(I)I"⟩, 12) := ⟨⟨by decide +kernel, by decide +kernel⟩, List.mem_of_getElem? (i := 455) (by decide +kernel), List.mem_of_getElem? (i := 601) (by decide +kernel), List.mem_of_getElem? (i := 602) (by decide +kernel)⟩
theorem lw_p35 : lw_okq (⟨"HiddenCandlesModel", "have", "(III)I"⟩, 12) := ⟨⟨by decide +kernel, by decide +kernel⟩, List.mem_of_getElem? (i := 455) (by decide +kernel), List.mem_of_getElem? (i := 617) (by decide +kernel), List.mem_of_getElem? (i := 618) (by decide +kernel)⟩
theorem lw_p36 : lw_okq (⟨"HiddenCandlesModel", "sureAt", "(I)I"⟩, 12) := ⟨⟨by decide +kernel, by decide +kernel⟩, List.mem_of_getElem? (i := 455) (by decide +kernel), List.mem_of_getElem? (i := 625) (by decide +kernel), List.mem_of_getElem? (i := 626) (by decide +kernel)⟩
theorem lw_p37 : lw_okq (⟨"HiddenCandlesModel", "greatest", "(I)I"⟩, 12) := ⟨⟨by decide +kernel, by decide +kernel⟩, List.mem_of_getElem? (i := 455) (by decide +kernel), List.mem_of_getElem? (i := 633) (by decide +kernel), List.mem_of_getElem? (i := 634) (by decide +kernel)⟩
theorem lw_p38 : lw_okq (⟨"HiddenCandlesModel", "pile", "(I)V"⟩, 12) := ⟨⟨by decide +kernel, by decide +kernel⟩, List.mem_of_getElem? (i := 455) (by decide +kernel), List.mem_of_getElem? (i := 637) (by decide +kernel), List.mem_of_getElem? (i := 638) (by decide +kernel)⟩
theorem lw_p39 : lw_okq (⟨"HiddenCandlesModel", "heaps", "(I)I"⟩, 12) := ⟨⟨by decide +kernel, by decide +kernel⟩, List.mem_of_getElem? (i := 455) (by decide +kernel), List.mem_of_getElem? (i := 646) (by decide +kernel), List.mem_of_getElem? (i := 647) (by decide +kernel)⟩
theorem lw_p40 : lw_okq (⟨"HiddenCandlesModel", "place", "(I)I"⟩, 12) := ⟨⟨by decide +kernel, by decide +kernel⟩, List.mem_of_getElem? (i := 455) (by decide +kernel), List.mem_of_getElem? (i := 654) (by decide +kernel), List.mem_of_getElem? (i := 655) (by decide +kernel)⟩
theorem lw_p41 : lw_okq (⟨"HiddenCandlesModel", "keep", "(II)V"⟩, 12) := ⟨⟨by decide +kernel, by decide +kernel⟩, List.mem_of_getElem? (i := 455) (by decide +kernel), List.mem_of_getElem? (i := 662) (by decide +kernel), List.mem_of_getElem? (i := 663) (by decide +kernel)⟩
theorem lw_p42 : lw_okq (⟨"HiddenCandlesModel", "ofRow", "()I"⟩, 12) := ⟨⟨by decide +kernel, by decide +kernel⟩, List.mem_of_getElem? (i := 455) (by decide +kernel), List.mem_of_getElem? (i := 666) (by decide +kernel), List.mem_of_getElem? (i := 667) (by decide +kernel)⟩
def lw_privs_3 : List (MethodName × Nat) := [(⟨"HiddenCandlesModel", "guessTold", "(II)I"⟩, 12), (⟨"HiddenCandlesModel", "alike", "(I)I"⟩, 12), (⟨"HiddenCandlesModel", "counted", "(I)I"⟩, 12), (⟨"HiddenCandlesModel", "have", "(III)I"⟩, 12), (⟨"HiddenCandlesModel", "sureAt", "(I)I"⟩, 12), (⟨"HiddenCandlesModel", "greatest", "(I)I"⟩, 12), (⟨"HiddenCandlesModel", "pile", "(I)V"⟩, 12), (⟨"HiddenCandlesModel", "heaps", "(I)I"⟩, 12), (⟨"HiddenCandlesModel", "place", "(I)I"⟩, 12), (⟨"HiddenCandlesModel", "keep", "(II)V"⟩, 12), (⟨"HiddenCandlesModel", "ofRow", "()I"⟩, 12)]
theorem lw_r3 : ∀ q ∈ lw_privs_3, lw_okq q := List.forall_mem_cons.mpr ⟨lw_p32, List.forall_mem_cons.mpr ⟨lw_p33, List.forall_mem_cons.mpr ⟨lw_p34, List.forall_mem_cons.mpr ⟨lw_p35, List.forall_mem_cons.mpr ⟨lw_p36, List.forall_mem_cons.mpr ⟨lw_p37, List.forall_mem_cons.mpr ⟨lw_p38, List.forall_mem_cons.mpr ⟨lw_p39, List.forall_mem_cons.mpr ⟨lw_p40, List.forall_mem_cons.mpr ⟨lw_p41, List.forall_mem_cons.mpr ⟨lw_p42, fun _ h => absurd h List.not_mem_nil⟩⟩⟩⟩⟩⟩⟩⟩⟩⟩⟩
def lw_privs : List (MethodName × Nat) := lw_privs_1 ++ (lw_privs_2 ++ (lw_privs_3))
def lw_tbl : List Cond := k2_sels lw_privs ++ tables_1
theorem lw_privs_ok : ∀ q ∈ lw_privs, lw_okq q := by
  show ∀ q ∈ lw_privs_1 ++ (lw_privs_2 ++ (lw_privs_3)), lw_okq q
  exact List.forall_mem_append.mpr ⟨lw_r1, List.forall_mem_append.mpr ⟨lw_r2, lw_r3⟩⟩
/-- the streams that the claim lets the run draw from -/
abbrev lw_cs : List Choice := [Jvm.Choice.named "NaN.bits"]
theorem lw_bits : nanBits ∈ lw_cs := by first | decide | exact List.mem_cons_self | simp [lw_cs, nanBits]
-- ===== end of PART A; then your names; then what follows =====
end
section
/-! ===== BEGIN words of one list among another's, by their places ===== -/
theorem goodIn_r {big : List Cond} (ws : List Cond) (ps : List Nat) (hp : ws = ps.filterMap (fun i => big[i]?)) (h : ws.all goodWord = true) : GoodIn big ws := by
  intro w hw
  have h1 := List.all_eq_true.mp h w hw
  rw [hp] at hw
  obtain ⟨i, -, hi⟩ := List.mem_filterMap.mp hw
  have hm : w ∈ big := by first | exact List.mem_of_getElem? hi | exact List.getElem?_mem hi
  exact ⟨hm, good_of_word h1⟩
theorem goodIn_app {big a b : List Cond} (ha : GoodIn big a) (hb : GoodIn big b) : GoodIn big (a ++ b) := fun w h => (List.mem_append.mp h).elim (ha w) (hb w)
theorem goodIn_ca {big a b : List Cond} {c : Cond} (ha : GoodIn big (c :: a)) (hb : GoodIn big b) : GoodIn big (c :: (a ++ b)) := fun w h => (List.mem_cons.mp h).elim (fun e => ha w (List.mem_cons.mpr (Or.inl e))) (fun h => (List.mem_append.mp h).elim (fun h => ha w (List.mem_cons.mpr (Or.inr h))) (hb w))
theorem goodIn_sub {big ws : List Cond} (hm : ∀ w ∈ ws, w ∈ big) (h : ws.all goodWord = true) : GoodIn big ws := fun w hw => ⟨hm w hw, good_of_word (List.all_eq_true.mp h w hw)⟩
/-! ===== END ===== -/

/-! ===== BEGIN exceptions that leave a method, and their catching by the caller (launches without stack traces) ===== -/
section VXA
/-! The laws vx_back, vx_callV, vx_callS, vx_callSW, vx_throw0, vx_throwS follow proofs of the library, with one case more: JvmDerived/Free/Laws.lean (Back.of_free), Shelf42/LK1.lean (callV, callS), Shelf/KitTraced.lean (throwNew0V, throwNewS). -/
/-- where a method has thrown q: the class by its name, the cell, what was written, the world -/
def vx_T (XC : String → State → State → Prop) (st : State) (q : Addr) (t : State) (mc ms : Nat) (free : Addr → Prop) : Prop :=
  ∃ (E : String) (ce : Cell) (L : List Loc), XC E st t ∧ t.heap[q]? = some ce ∧ ce.vm = .none ∧ st.vm.findClass E = some ce.cls ∧ st.WarmedH t.vm ∧ st.sameButNew ({ t with vm := st.vm } : State) L mc ms ∧ ∀ z ∈ L, free z.base
def vx_Q (Qc : Array Value → State → Outcome → State → Prop) (XC : String → State → State → Prop) (mc ms : Nat) (free : Addr → Prop) : Array Value → State → Outcome → State → Prop := fun a st o t =>
  (Qc a st o t ∧ ∃ L, FrameEnd st o t L mc ms ∧ ∀ q ∈ L, free q.base) ∨ ∃ q, o = .threw q ∧ vx_T XC st q t mc ms free
/-- a callee that returns or throws -/
def vx_Met (l : Launch) (y : MethodName) (ws : List Cond) (rm : Room) (Pc : Array Value → State → Prop) (Qc : Array Value → State → Outcome → State → Prop) (XC : String → State → State → Prop) (mc ms : Nat) (free : Addr → Prop) : Prop :=
  MetFree l y (headSpec ws rm) Pc (fun _ _ _ _ _ => True) (vx_Q Qc XC mc ms free)
def vx_Post (XC : String → State → State → Prop) (mc ms : Nat) (free : Addr → Prop) : Pt → Array Value → Addr → Pt → Prop := fun A a q B =>
  ∃ (g : JFrame) (mk : MethodId) (t : State) (L : List Loc) (E : String) (ce : Cell), B.U.heap = t.heap ∧ B.U.vm = t.vm ∧ XC E (A.U.calling g mk a) t ∧ t.heap[q]? = some ce ∧ ce.vm = .none ∧ A.U.vm.findClass E = some ce.cls ∧ B.locs = A.locs ++ L ∧ (∀ z ∈ L, free z.base) ∧ B.cells = A.cells + mc ∧ B.slots = A.slots + ms
def vx_Back (l : Launch) (R : Room) (p : Program) (e : Env) (below : List Frame) (s : State) (sargs : Array Value) (y : MethodName) (len W9 : Nat)
    (Pre : Pt → Array Value → Prop) (Post : Pt → Array Value → Option Value → Pt → Prop) (PostX : Pt → Array Value → Addr → Pt → Prop) : Prop :=
  ∀ (m : MethodId) (meth : Method) (c : Code) (A : Pt) (g : JFrame) (ig : Instr) (mk : MethodId) (a : Array Value),
    Stand p l e R s m sargs below meth c A.U A.locs A.cells A.slots → g.method = m → g.locals.size = c.maxLocals → decode c.code g.pc = .ok (ig, len) →
    2 * g.monitorRoom + (g.stack.map fun v => v.category).sum ≤ W9 → A.U.methodNamed? y = some mk → Pre A a →
    (∃ (v : Option Value) (B : Pt), Stand p l e R s m sargs below meth c B.U B.locs B.cells B.slots ∧ Post A a v B ∧
      Steps p.tables e below (doInvoke e (A.U.setTop g) [] mk a).1 (B.U.setTop { g with pc := g.pc + len, stack := v.toList ++ g.stack })) ∨
    (∃ (q : Addr) (B : Pt), Stand p l e R s m sargs below meth c B.U B.locs B.cells B.slots ∧ PostX A a q B ∧
      Steps p.tables e below (doInvoke e (A.U.setTop g) [] mk a).1 ((B.U.setTop g).pushFrame (.throwing q)))
section Payer
variable {l : Launch} {R : Room} {p : Program} {e : Env} {below : List Frame} {s : State} {sargs : Array Value} {y : MethodName} {len W9 : Nat}
theorem vx_back {ws : List Cond} {rm : Room} {Pc : Array Value → State → Prop} {Qc : Array Value → State → Outcome → State → Prop} {XC : String → State → State → Prop} {mc ms : Nat} {free : Addr → Prop} {bytes : ByteArray} {maxL : Nat} {ret : Option FieldType}
    (hM : vx_Met l y ws rm Pc Qc XC mc ms free) (hblind : FrameBlind Pc) (hrc : rm.cells = mc) (hrs : rm.slots = ms)
    (hframes : rm.frames + 1 ≤ R.frames) (hlocals : W9 + (maxL + 11) + rm.locals ≤ R.locals)
    (hws : ∀ w ∈ ws, ∀ a' U, s.WarmedH U.vm → w.before a' U = true) (hcode : Cond.code y bytes maxL ret ∈ ws) (hinit : ∀ a' U, s.WarmedH U.vm → (Cond.initialized y.cls).before a' U = true) :
    vx_Back l R p e below s sargs y len W9 (PreOf R mc ms Pc) (PostOf Qc mc ms free) (vx_Post XC mc ms free) := by
  intro m meth c A g ig mk a X hg hsize hdg hW hn hp
  have h1 : (headSpec ws rm).pre.before a A.U = true := atoms_intro fun w hw => hws w hw _ _ X.warmed
  have h2 : (Cond.code y bytes maxL ret).before a A.U = true := hws _ hcode _ _ X.warmed
  have h3 : (Cond.initialized y.cls).before a A.U = true := hinit _ _ X.warmed
  have h4 : A.cells + (headSpec ws rm).room.cells ≤ R.cells := by rw [show (headSpec ws rm).room.cells = mc from hrc]; exact hp.1
  have h5 : A.slots + (headSpec ws rm).room.slots ≤ R.slots := by rw [show (headSpec ws rm).room.slots = ms from hrs]; exact hp.2.1
  have hPc : Pc a (A.U.calling g mk a) := hblind _ _ _ _ hp.2.2
  obtain ⟨U, Ls, c0, s0⟩ := A
  dsimp only [Pt.U, Pt.locs, Pt.cells, Pt.slots] at h1 h2 h3 h4 h5 X hn hPc ⊢
  obtain ⟨methY, cY, hmY, hcY, -, hlY, -, -, -, -⟩ := Cond.code_spec hn h2
  obtain ⟨kY, hkY, -⟩ := className_of_methodNamed hn
  have hinitY : kY.init = .initialized := Cond.initialized_spec (findClass_of_methodNamed hn) hkY h3
  have h : At U g.method c below := by rw [hg]; exact X.here
  have hlocals9 : W9 + (maxL + 11) + (headSpec ws rm).room.locals ≤ R.locals := hlocals
  have happ : (headSpec ws rm).appliesLoose y e.platform (U.calling g mk a) = true :=
    Spec.appliesLoose_calling (g := g) h hdg hn hkY hinitY
      (X.room_calling (g := g) (R' := (headSpec ws rm).room) hsize hmY hcY hframes (by rw [hlY]; omega) h4 h5) h1
  obtain ⟨mid, hmid⟩ := h.above
  have hfr : (U.setTop g).frames = (.java g :: mid) ++ below := by rw [State.frames_setTop' g h.top, hmid]; rfl
  obtain ⟨o, s₂, hsteps, -, hend, hq⟩ := Steps.callFree hM p X.admits X.cas X.clock (acts := []) hfr happ hPc trivial
  have hq' : vx_Q Qc XC mc ms free a (U.calling g mk a) o s₂ := hq
  rw [State.frames_setTop' g h.top] at hend
  obtain ⟨g₀, hg0⟩ := Option.isSome_iff_exists.mp h.top
  obtain ⟨r, hr⟩ := State.topJava?_eq_some.mp hg0
  have hr' : (({ U with heap := s₂.heap, slotsUsed := s₂.slotsUsed } : State).setVm s₂.vm).frames = .java g₀ :: r := hr
  rcases hq' with ⟨hqc, L, hfe, hL⟩ | ⟨q, rfl, E, ce, L, hx, hce, hcv, hcl, hW₂, hsm, hL⟩
  · obtain ⟨⟨v, rfl⟩, hW₂, e2, q2, q3, q4, q5, q6⟩ := id hfe
    have e3 : s₂ = ({ (U.calling g mk a).setFrames s₂.frames with heap := s₂.heap, slotsUsed := s₂.slotsUsed } : State).setVm s₂.vm := by
      have : s₂ = ({ s₂ with vm := (U.calling g mk a).vm } : State).setVm s₂.vm := rfl
      rw [e2] at this
      exact this
    obtain ⟨c₂, i₂, len₂, hc₂, hd₂, hf₂⟩ := hend
    have hW' : U.WarmedH s₂.vm := hW₂
    have hcc : c₂ = c := by
      have h1 : s₂.code? g.method = U.code? g.method := by
        rw [State.code?_eq, State.code?_eq, hW'.alike.method?]
      exact Option.some.inj (hc₂.symm.trans (h1.trans h.code))
    subst hcc
    have hlen : len₂ = len := by rw [hdg] at hd₂; cases hd₂; rfl
    subst hlen
    have hs₂ : s₂ = (({ U with heap := s₂.heap, slotsUsed := s₂.slotsUsed } : State).setVm s₂.vm).setTop { g with pc := g.pc + len₂, stack := v.toList ++ g.stack } := by
      refine e3.trans ?_
      rw [hf₂, State.calling_eq h.top, State.setFrames_setFrames, State.setTop_of_frames _ hr', hr]
      rfl
    have hsame : U.sameButNew ({ U with heap := s₂.heap, slotsUsed := s₂.slotsUsed } : State) L mc ms := by
      refine ⟨?_, q2, q3, q4, q5, q6⟩
      obtain ⟨t, ht, -⟩ := State.frames_cons hr
      show ({ U with heap := s₂.heap, slotsUsed := s₂.slotsUsed } : State) = { U.setFrames U.frames with heap := s₂.heap, slotsUsed := s₂.slotsUsed }
      rw [State.setFrames_self ht]
    subst hg
    refine Or.inl ⟨v, ⟨(({ U with heap := s₂.heap, slotsUsed := s₂.slotsUsed } : State).setVm s₂.vm), Ls ++ L, c0 + mc, s0 + ms⟩,
      ⟨X.admits, X.cas, X.clock, X.frames, X.room, X.hears, X.method, X.code, (X.here.setHeapUsed s₂.heap s₂.slotsUsed).setVm hW'.alike, X.tail, State.WarmedH.trans X.warmed hW', X.limits, X.bytes, X.same.trans (hsame.setVm s.vm)⟩,
      ⟨g, mk, s₂, L, rfl, rfl, hqc, rfl, hL, rfl, rfl⟩, ?_⟩
    show Steps p.tables e below _ ((({ U with heap := s₂.heap, slotsUsed := s₂.slotsUsed } : State).setVm s₂.vm).setTop { g with pc := g.pc + len₂, stack := v.toList ++ g.stack })
    rw [← hs₂]
    exact hsteps
  · obtain ⟨e2, q2, q3, q4, q5, q6⟩ := id hsm
    have e3 : s₂ = ({ (U.calling g mk a).setFrames s₂.frames with heap := s₂.heap, slotsUsed := s₂.slotsUsed } : State).setVm s₂.vm := by
      have : s₂ = ({ s₂ with vm := (U.calling g mk a).vm } : State).setVm s₂.vm := rfl
      rw [e2] at this
      exact this
    have hf₂ : s₂.frames = .throwing q :: .java g :: U.frames.tail := hend
    have hW' : U.WarmedH s₂.vm := hW₂
    have hs₂ : s₂ = ((({ U with heap := s₂.heap, slotsUsed := s₂.slotsUsed } : State).setVm s₂.vm).setTop g).pushFrame (.throwing q) := by
      refine e3.trans ?_
      rw [hf₂, State.calling_eq h.top, State.setFrames_setFrames, State.pushFrame, State.frames_setTop _ hr', State.setTop_of_frames _ hr', State.setFrames_setFrames, hr]
      rfl
    have hsame : U.sameButNew ({ U with heap := s₂.heap, slotsUsed := s₂.slotsUsed } : State) L mc ms := by
      refine ⟨?_, q2, q3, q4, q5, q6⟩
      obtain ⟨t, ht, -⟩ := State.frames_cons hr
      show ({ U with heap := s₂.heap, slotsUsed := s₂.slotsUsed } : State) = { U.setFrames U.frames with heap := s₂.heap, slotsUsed := s₂.slotsUsed }
      rw [State.setFrames_self ht]
    subst hg
    refine Or.inr ⟨q, ⟨(({ U with heap := s₂.heap, slotsUsed := s₂.slotsUsed } : State).setVm s₂.vm), Ls ++ L, c0 + mc, s0 + ms⟩,
      ⟨X.admits, X.cas, X.clock, X.frames, X.room, X.hears, X.method, X.code, (X.here.setHeapUsed s₂.heap s₂.slotsUsed).setVm hW'.alike, X.tail, State.WarmedH.trans X.warmed hW', X.limits, X.bytes, X.same.trans (hsame.setVm s.vm)⟩,
      ⟨g, mk, s₂, L, E, ce, rfl, rfl, hx, hce, hcv, hcl, rfl, hL, rfl, rfl⟩, ?_⟩
    show Steps p.tables e below _ (((({ U with heap := s₂.heap, slotsUsed := s₂.slotsUsed } : State).setVm s₂.vm).setTop g).pushFrame (.throwing q))
    rw [← hs₂]
    exact hsteps
end Payer
section Calls
variable {p : Program} {l : Launch} {e : Env} {R : Room} {s : State} {m : MethodId} {args : Array Value} {below : List Frame} {meth : Method} {c : Code} {T : State} {locs : List Loc} {cells slots : Nat}
theorem vx_callV (X : Stand p l e R s m args below meth c T locs cells slots) (hexec : p.tables.exec = Jvm.exec) {own C : String} {index : Nat} {y : MethodName} {bytes : ByteArray} {maxL : Nat} {ret : Option FieldType}
    (hown : s.vm.findClass own = some m.cls) (hlink : (Cond.methodLink own index y).before args s = true) (hinst : (Cond.instanceMethod y).before args s = true) (hsel : (Cond.selects C y y).before args s = true)
    (hcode : (Cond.code y bytes maxL ret).before args s = true) (hy : y.cls ≠ "java/lang/invoke/MethodHandle" ∧ y.cls ≠ "java/lang/invoke/VarHandle")
    {W9 : Nat} {Pre : Pt → Array Value → Prop} {Post : Pt → Array Value → Option Value → Pt → Prop} {PostX : Pt → Array Value → Addr → Pt → Prop} (hK : vx_Back l R p e below s args y 3 W9 Pre Post PostX)
    {b : Addr} {cellB : Cell} (hcell : T.heap[b]? = some cellB) (hobj : cellB.vm.isStatics = false) (hcls : s.vm.findClass C = some cellB.cls)
    {g : JFrame} (hg : g.method = m) (hsize : g.locals.size = c.maxLocals) {argsL rest : List Value} (hlen : ∀ sig, parseMethodDescriptor y.desc = some sig → argsL.length = sig.parameters.length)
    (hstack : g.stack = argsL.reverse ++ .ref b :: rest) (hW : 2 * g.monitorRoom + (rest.map fun v => v.category).sum ≤ W9) (hdg : decode c.code g.pc = .ok (.invokevirtual index, 3))
    (hpre : ∀ vm₁, s.WarmedH vm₁ → Pre ⟨T.setVm vm₁, locs, cells, slots⟩ (Value.ref b :: argsL).toArray) :
    (∃ (v : Option Value) (vm₁ : Vm) (B : Pt), s.WarmedH vm₁ ∧ Stand p l e R s m args below meth c B.U B.locs B.cells B.slots ∧ Post ⟨T.setVm vm₁, locs, cells, slots⟩ (Value.ref b :: argsL).toArray v B ∧
      ∀ target, Steps p.tables e below (B.U.setTop { g with pc := g.pc + 3, stack := v.toList ++ rest }) target → Steps p.tables e below (T.setTop g) target) ∨
    (∃ (q : Addr) (vm₁ : Vm) (B : Pt), s.WarmedH vm₁ ∧ Stand p l e R s m args below meth c B.U B.locs B.cells B.slots ∧ PostX ⟨T.setVm vm₁, locs, cells, slots⟩ (Value.ref b :: argsL).toArray q B ∧
      Steps p.tables e below (T.setTop g) ((B.U.setTop { g with stack := rest }).pushFrame (.throwing q))) := by
  obtain ⟨mk, methM, hnamed, hmethM, hstM, habM⟩ := Cond.instanceMethod_spec hinst
  obtain ⟨methM', cM, hmethM', -, -, -, -, -, -, hsigM⟩ := Cond.code_spec hnamed hcode
  cases hmethM.symm.trans hmethM'
  obtain ⟨c2, r2, m2, q1, q2, q3, q4, kP, hkP, hkPi⟩ := Cond.selects_spec hsel
  cases hcls.symm.trans q1
  cases (State.methodFound?_of_named hnamed hy).symm.trans q2
  cases hnamed.symm.trans q3
  have hselP : selectMethod e.platform s.vm cellB.cls mk = .method mk := by rw [Launch.admits_selectMethod X.admits]; exact q4
  obtain ⟨vm₁, X₁, hstep₁⟩ := X.invokevirtual hexec hown hlink hnamed hmethM hstM hkP hkPi hy (a := b) (cell := cellB) hcell
    (fun z h => by rw [h] at hobj; cases hobj) hselP hmethM habM hkP hkPi (g := g) hg (argsL := argsL) (rest := rest) (hlen _ hsigM) hstack hdg
  rcases hK m meth c ⟨T.setVm vm₁, locs, cells, slots⟩ { g with stack := rest } (.invokevirtual index) mk (Value.ref b :: argsL).toArray X₁ hg hsize hdg hW (X₁.named hnamed) (hpre vm₁ X₁.warmed) with ⟨v, B, X', hpost, hsteps⟩ | ⟨q, B, X', hpost, hsteps⟩
  · exact Or.inl ⟨v, vm₁, B, X₁.warmed, X', hpost, fun target h => hstep₁ _ fun acts => by rw [doInvoke_state]; exact hsteps.trans h⟩
  · exact Or.inr ⟨q, vm₁, B, X₁.warmed, X', hpost, hstep₁ _ fun acts => by rw [doInvoke_state]; exact hsteps⟩
theorem vx_callS (X : Stand p l e R s m args below meth c T locs cells slots) (hexec : p.tables.exec = Jvm.exec) {own : String} {index : Nat} {y : MethodName} {bytes : ByteArray} {maxL : Nat} {ret : Option FieldType}
    (hown : s.vm.findClass own = some m.cls) (hlink : (Cond.methodLink own index y).before args s = true) (hstat : (Cond.static y).before args s = true) (hinit : (Cond.initialized y.cls).before args s = true)
    (hcode : (Cond.code y bytes maxL ret).before args s = true) (hy : y.cls ≠ "java/lang/invoke/MethodHandle" ∧ y.cls ≠ "java/lang/invoke/VarHandle")
    {W9 : Nat} {Pre : Pt → Array Value → Prop} {Post : Pt → Array Value → Option Value → Pt → Prop} {PostX : Pt → Array Value → Addr → Pt → Prop} (hK : vx_Back l R p e below s args y 3 W9 Pre Post PostX)
    {g : JFrame} (hg : g.method = m) (hsize : g.locals.size = c.maxLocals) {argsL rest : List Value} (hlen : ∀ sig, parseMethodDescriptor y.desc = some sig → argsL.length = sig.parameters.length)
    (hstack : g.stack = argsL.reverse ++ rest) (hW : 2 * g.monitorRoom + (rest.map fun v => v.category).sum ≤ W9) (hdg : decode c.code g.pc = .ok (.invokestatic index, 3))
    (hpre : ∀ vm₁, s.WarmedH vm₁ → Pre ⟨T.setVm vm₁, locs, cells, slots⟩ argsL.toArray) :
    (∃ (v : Option Value) (vm₁ : Vm) (B : Pt), s.WarmedH vm₁ ∧ Stand p l e R s m args below meth c B.U B.locs B.cells B.slots ∧ Post ⟨T.setVm vm₁, locs, cells, slots⟩ argsL.toArray v B ∧
      ∀ target, Steps p.tables e below (B.U.setTop { g with pc := g.pc + 3, stack := v.toList ++ rest }) target → Steps p.tables e below (T.setTop g) target) ∨
    (∃ (q : Addr) (vm₁ : Vm) (B : Pt), s.WarmedH vm₁ ∧ Stand p l e R s m args below meth c B.U B.locs B.cells B.slots ∧ PostX ⟨T.setVm vm₁, locs, cells, slots⟩ argsL.toArray q B ∧
      Steps p.tables e below (T.setTop g) ((B.U.setTop { g with stack := rest }).pushFrame (.throwing q))) := by
  obtain ⟨mk, hnamed⟩ := Cond.code_named hcode
  obtain ⟨methM, cM, hmethM, -, -, -, -, -, -, hsigM⟩ := Cond.code_spec hnamed hcode
  have hstatic : methM.isStatic = true := Cond.static_spec hnamed hmethM hstat
  obtain ⟨kP, hkP, -⟩ := className_of_methodNamed hnamed
  have hinitP : kP.init = .initialized := Cond.initialized_spec (findClass_of_methodNamed hnamed) hkP hinit
  obtain ⟨vm₁, X₁, hstep₁⟩ := X.invokestatic hexec hown hlink hnamed hmethM hstatic hkP hinitP hy (g := g) hg (argsL := argsL) (rest := rest) (hlen _ hsigM) hstack hdg
  rcases hK m meth c ⟨T.setVm vm₁, locs, cells, slots⟩ { g with stack := rest } (.invokestatic index) mk argsL.toArray X₁ hg hsize hdg hW (X₁.named hnamed) (hpre vm₁ X₁.warmed) with ⟨v, B, X', hpost, hsteps⟩ | ⟨q, B, X', hpost, hsteps⟩
  · exact Or.inl ⟨v, vm₁, B, X₁.warmed, X', hpost, fun target h => hstep₁ _ fun acts => by rw [doInvoke_state]; exact hsteps.trans h⟩
  · exact Or.inr ⟨q, vm₁, B, X₁.warmed, X', hpost, hstep₁ _ fun acts => by rw [doInvoke_state]; exact hsteps⟩
end Calls
theorem vx_cls {s : State} {T : State} {vm₁ : Vm} {E : String} {k : ClassId} (hW : s.WarmedH vm₁) (h : (T.setVm vm₁).vm.findClass E = some k) : s.vm.findClass E = some k := by
  have h1 : vm₁.findClass E = some k := h
  rw [hW.alike.findClass] at h1
  exact h1
/-- the method's frame g, with q thrown over it -/
def vx_W (p : Program) (l : Launch) (e : Env) (R : Room) (s : State) (m : MethodId) (args : Array Value) (below : List Frame) (meth : Method) (c : Code) (H : Heap) (locs : List Loc) (cells slots : Nat) (Q : State → Prop) (g : JFrame) (q : Addr) : Prop :=
  ∀ T : State, T.heap = H → Stand p l e R s m args below meth c T locs cells slots → ∃ t, Steps p.tables e below ((T.setTop g).pushFrame (.throwing q)) t ∧ Q t
def vx_Run (p : Program) (l : Launch) (e : Env) (R : Room) (s : State) (m : MethodId) (args : Array Value) (below : List Frame) (meth : Method) (c : Code) (H : Heap) (locs : List Loc) (cells slots mc ms : Nat) (g : JFrame) (rest : List Value) (Qa : State → Outcome → State → Prop) (XC : String → State → State → Prop) (free : Addr → Prop) : Prop :=
  ∀ T : State, T.heap = H → Stand p l e R s m args below meth c T locs cells slots →
    (∃ (v : Option Value) (st₀ t T' : State) (L : List Loc), st₀.heap = H ∧ Stand p l e R s m args below meth c T' (locs ++ L) (cells + mc) (slots + ms) ∧ (∀ q ∈ L, free q.base) ∧ T'.heap = t.heap ∧ T'.vm = t.vm ∧ Qa st₀ (.returned v) t ∧
      Goes p e below T g T' { g with pc := g.pc + 3, stack := v.toList ++ rest }) ∨
    (∃ (q : Addr) (st₀ t T' : State) (L : List Loc) (E : String) (ce : Cell), st₀.heap = H ∧ Stand p l e R s m args below meth c T' (locs ++ L) (cells + mc) (slots + ms) ∧ (∀ z ∈ L, free z.base) ∧ T'.heap = t.heap ∧ T'.vm = t.vm ∧ XC E st₀ t ∧ t.heap[q]? = some ce ∧ ce.vm = .none ∧ s.vm.findClass E = some ce.cls ∧
      Steps p.tables e below (T.setTop g) ((T'.setTop { g with stack := rest }).pushFrame (.throwing q)))
def vx_X {S : Type} (px : S → Prop) (B : String → S → State → Prop) (A : Nat → Prop) : String → State → State → Prop := fun E st t => ∃ u : S, px u ∧ B E u t ∧ va_F A st t
section Runs
variable {p : Program} {l : Launch} {e : Env} {R : Room} {s : State} {m : MethodId} {args : Array Value} {below : List Frame} {meth : Method} {c : Code} {H : Heap} {locs : List Loc} {cells slots : Nat}
variable {y : MethodName} {bytes cc : ByteArray} {maxL nL mc ms n index : Nat} {ret : Option FieldType} {ws : List Cond} {rm : Room} {Pc : Array Value → State → Prop} {Qc : Array Value → State → Outcome → State → Prop} {XC : String → State → State → Prop} {free : Addr → Prop} {Ts : List Cond} {own C : String} {b : Addr} {As rest : List Value} {g : JFrame}
theorem vx_callBack (cb : CallB R s args own index y bytes maxL ret ws rm mc ms n) (hM : vx_Met l y ws rm Pc Qc XC mc ms free) (hbl : FrameBlind Pc) : vx_Back l R p e below s args y 3 8 (PreOf R mc ms Pc) (PostOf Qc mc ms free) (vx_Post XC mc ms free) := by
  obtain ⟨hrc, hrs, hfr, hlo, hws, hcw, -, hini, -⟩ := cb
  exact vx_back (bytes := bytes) (maxL := maxL) (ret := ret) hM hbl hrc hrs hfr hlo hws hcw (fun a' U hW => word_at hW (Or.inl (by first | rfl | simp [Cond.onTables, Cond.keeps, Cond.steady])) hini)
theorem vx_runV (S : CallFix p m c cc nL s args Ts own) (hM : vx_Met l y ws rm Pc Qc XC mc ms free) (cw : CallW R s args own C index y bytes maxL ret ws rm mc ms n) (hp : PreV s H C b Pc As)
    (hg : g.method = m) (hn : As.length = n) (hsize : g.locals.size = nL) (hstack : g.stack = As.reverse ++ .ref b :: rest) (hW : 2 * g.monitorRoom + (rest.map fun v => v.category).sum ≤ 8) (hdg : decode cc g.pc = .ok (.invokevirtual index, 3)) (hf : cells + mc ≤ R.cells ∧ slots + ms ≤ R.slots) :
    vx_Run p l e R s m args below meth c H locs cells slots mc ms g rest (Qc (Value.ref b :: As).toArray) XC free := by
  have hK : vx_Back l R p e below s args y 3 8 (PreOf R mc ms Pc) (PostOf Qc mc ms free) (vx_Post XC mc ms free) := vx_callBack cw.1 hM hp.1
  obtain ⟨⟨-, -, -, -, -, -, hcode, -, hy, hlen, hl⟩, hin, hse⟩ := cw
  obtain ⟨hx, hb, hml, ho, -⟩ := S
  obtain ⟨-, ⟨cellB, hcB, hoB, hclB⟩, hPc⟩ := hp
  intro T hT X
  rcases vx_callV X hx (C := C) (bytes := bytes) (maxL := maxL) (ret := ret) ho hl hin hse hcode hy hK (by rw [hT]; exact hcB) hoB hclB hg (hsize.trans hml.symm) (argsL := As) (rest := rest) (fun sig h => hn.trans (hlen sig h)) hstack hW (by rw [hb]; exact hdg)
    (fun vm₁ hW₁ => ⟨hf.1, hf.2, hPc (T.setVm vm₁) hT hW₁⟩) with ⟨v, vm₁, ⟨U', l2, c2, s2⟩, hW₁, X', ⟨g', mk, t, L, e1, e2, hq, h1, hL, h2, h3⟩, st⟩ | ⟨q, vm₁, ⟨U', l2, c2, s2⟩, hW₁, X', ⟨g', mk, t, L, E, ce, e1, e2, hq, hce, hcv, hcl, h1, hL, h2, h3⟩, st⟩
  · dsimp only [Pt.U, Pt.locs, Pt.cells, Pt.slots] at X' e1 e2 h1 h2 h3 st
    subst h1; subst h2; subst h3
    exact Or.inl ⟨v, (T.setVm vm₁).calling g' mk (Value.ref b :: As).toArray, t, U', L, hT, X', hL, e1, e2, hq, st⟩
  · dsimp only [Pt.U, Pt.locs, Pt.cells, Pt.slots] at X' e1 e2 h1 h2 h3 st hcl
    subst h1; subst h2; subst h3
    exact Or.inr ⟨q, (T.setVm vm₁).calling g' mk (Value.ref b :: As).toArray, t, U', L, E, ce, hT, X', hL, e1, e2, hq, hce, hcv, vx_cls hW₁ hcl, st⟩
theorem vx_runS (S : CallFix p m c cc nL s args Ts own) (hM : vx_Met l y ws rm Pc Qc XC mc ms free) (cw : CallB R s args own index y bytes maxL ret ws rm mc ms n ∧ (Cond.static y).before args s = true) (hp : PreS s H Pc As)
    (hg : g.method = m) (hn : As.length = n) (hsize : g.locals.size = nL) (hstack : g.stack = As.reverse ++ rest) (hW : 2 * g.monitorRoom + (rest.map fun v => v.category).sum ≤ 8) (hdg : decode cc g.pc = .ok (.invokestatic index, 3)) (hf : cells + mc ≤ R.cells ∧ slots + ms ≤ R.slots) :
    vx_Run p l e R s m args below meth c H locs cells slots mc ms g rest (Qc As.toArray) XC free := by
  have hK : vx_Back l R p e below s args y 3 8 (PreOf R mc ms Pc) (PostOf Qc mc ms free) (vx_Post XC mc ms free) := vx_callBack cw.1 hM hp.1
  obtain ⟨⟨-, -, -, -, -, -, hcode, hini, hy, hlen, hl⟩, hstt⟩ := cw
  obtain ⟨hx, hb, hml, ho, -⟩ := S
  intro T hT X
  rcases vx_callS X hx (bytes := bytes) (maxL := maxL) (ret := ret) ho hl hstt hini hcode hy hK hg (hsize.trans hml.symm) (argsL := As) (rest := rest) (fun sig h => hn.trans (hlen sig h)) hstack hW (by rw [hb]; exact hdg)
    (fun vm₁ hW₁ => ⟨hf.1, hf.2, hp.2 (T.setVm vm₁) hT hW₁⟩) with ⟨v, vm₁, ⟨U', l2, c2, s2⟩, hW₁, X', ⟨g', mk, t, L, e1, e2, hq, h1, hL, h2, h3⟩, st⟩ | ⟨q, vm₁, ⟨U', l2, c2, s2⟩, hW₁, X', ⟨g', mk, t, L, E, ce, e1, e2, hq, hce, hcv, hcl, h1, hL, h2, h3⟩, st⟩
  · dsimp only [Pt.U, Pt.locs, Pt.cells, Pt.slots] at X' e1 e2 h1 h2 h3 st
    subst h1; subst h2; subst h3
    exact Or.inl ⟨v, (T.setVm vm₁).calling g' mk As.toArray, t, U', L, hT, X', hL, e1, e2, hq, st⟩
  · dsimp only [Pt.U, Pt.locs, Pt.cells, Pt.slots] at X' e1 e2 h1 h2 h3 st hcl
    subst h1; subst h2; subst h3
    exact Or.inr ⟨q, (T.setVm vm₁).calling g' mk As.toArray, t, U', L, E, ce, hT, X', hL, e1, e2, hq, hce, hcv, vx_cls hW₁ hcl, st⟩
end Runs
section Rows
variable {p : Program} {l : Launch} {e : Env} {R : Room} {s : State} {m : MethodId} {args : Array Value} {below : List Frame} {meth : Method} {c : Code} {H : Heap} {locs : List Loc} {cells slots : Nat} {Q : State → Prop}
variable {mc ms : Nat} {free : Addr → Prop} {A0 A1 : Nat → Prop} {H0 : Heap} {a : Array Value} {pc : Nat} {ls : Array Slot} {st0 rest : List Value}
theorem vx_keep {st₀ t T' : State} {L : List Loc} (h0 : st₀.heap = H) (e1 : T'.heap = t.heap) (hS : va_S A0 H0 H locs) (hA : ∀ q, q < H.size → A1 q → A0 q) (hf : ∀ q, free q → A0 q) (hL : ∀ q ∈ L, free q.base) (hF : va_F A1 st₀ t) :
    H.size ≤ T'.heap.size ∧ (∀ q : Nat, q < H.size → ¬ A1 q → T'.heap[q]? = H[q]?) ∧ va_S A0 H0 T'.heap (locs ++ L) := by
  obtain ⟨hz, hk⟩ := hF
  rw [h0] at hz hk
  exact ⟨by rw [e1]; exact hz, fun q h1 h2 => by rw [e1]; exact hk q h1 h2,
    ⟨Nat.le_trans hS.1 (by rw [e1]; exact hz), fun q h1 h2 => by rw [e1, hk q (Nat.lt_of_lt_of_le h1 hS.1) (fun z => h2 (hA q (Nat.lt_of_lt_of_le h1 hS.1) z))]; exact hS.2.1 q h1 h2, fun q hq => by
      rcases List.mem_append.mp hq with h | h
      · exact hS.2.2 q h
      · exact hf _ (hL q h)⟩⟩
theorem vx_calli {S SX : Type} {post : Int32 → S → Prop} {px : SX → Prop} {B : S → State → Prop} {BX : String → SX → State → Prop} {AX : Nat → Prop} (hr : vx_Run p l e R s m args below meth c H locs cells slots mc ms (F0 m pc ls st0) rest (va_Qi post B A1 a) (vx_X px BX AX) free) (hS : va_S A0 H0 H locs) (hA : ∀ q, q < H.size → A1 q → A0 q) (hf : ∀ q, free q → A0 q) (hAX : ∀ q, q < H.size → AX q → A0 q)
    (kx : ∀ (E : String) (ce : Cell) (q9 : Addr) (u : SX) (t : State) (H1 : Heap) (locs1 : List Loc), t.heap = H1 → s.vm.Alike t.vm → px u → BX E u t → H.size ≤ H1.size → (∀ q : Nat, q < H.size → ¬ AX q → H1[q]? = H[q]?) → va_S A0 H0 H1 locs1 → H1[q9]? = some ce → ce.vm = .none → s.vm.findClass E = some ce.cls → vx_W p l e R s m args below meth c H1 locs1 (cells + mc) (slots + ms) Q (F0 m pc ls rest) q9)
    (kk : ∀ (r : Int32) (u : S) (t : State) (H1 : Heap) (locs1 : List Loc), t.heap = H1 → s.vm.Alike t.vm → post r u → B u t → H.size ≤ H1.size → (∀ q : Nat, q < H.size → ¬ A1 q → H1[q]? = H[q]?) → va_S A0 H0 H1 locs1 → W p l e R s m args below meth c H1 locs1 (cells + mc) (slots + ms) Q (F0 m (pc + 3) ls (.int r :: rest))) : W p l e R s m args below meth c H locs cells slots Q (F0 m pc ls st0) := by
  intro T hT X
  rcases hr T hT X with ⟨v, st₀, t, T', L, h0, X', hL, e1, e2, ⟨⟨r, u, hv, hp, hb⟩, hF⟩, st⟩ | ⟨q, st₀, t, T', L, E, ce, h0, X', hL, e1, e2, ⟨u, hp, hb, hF⟩, hce, hcv, hcl, st⟩
  · cases hv
    obtain ⟨k1, k2, k3⟩ := vx_keep h0 e1 hS hA hf hL hF
    obtain ⟨t2, a1, b1⟩ := kk r u t T'.heap (locs ++ L) e1.symm (by rw [← e2]; exact X'.warmed.alike) hp hb k1 k2 k3 T' rfl X'
    exact ⟨t2, st t2 a1, b1⟩
  · obtain ⟨k1, k2, k3⟩ := vx_keep h0 e1 hS hAX hf hL hF
    obtain ⟨t2, a1, b1⟩ := kx E ce q u t T'.heap (locs ++ L) e1.symm (by rw [← e2]; exact X'.warmed.alike) hp hb k1 k2 k3 (by rw [e1]; exact hce) hcv hcl T' rfl X'
    exact ⟨t2, st.trans a1, b1⟩
theorem vx_calll {S SX : Type} {post : Int64 → S → Prop} {px : SX → Prop} {B : S → State → Prop} {BX : String → SX → State → Prop} {AX : Nat → Prop} (hr : vx_Run p l e R s m args below meth c H locs cells slots mc ms (F0 m pc ls st0) rest (va_Ql post B A1 a) (vx_X px BX AX) free) (hS : va_S A0 H0 H locs) (hA : ∀ q, q < H.size → A1 q → A0 q) (hf : ∀ q, free q → A0 q) (hAX : ∀ q, q < H.size → AX q → A0 q)
    (kx : ∀ (E : String) (ce : Cell) (q9 : Addr) (u : SX) (t : State) (H1 : Heap) (locs1 : List Loc), t.heap = H1 → s.vm.Alike t.vm → px u → BX E u t → H.size ≤ H1.size → (∀ q : Nat, q < H.size → ¬ AX q → H1[q]? = H[q]?) → va_S A0 H0 H1 locs1 → H1[q9]? = some ce → ce.vm = .none → s.vm.findClass E = some ce.cls → vx_W p l e R s m args below meth c H1 locs1 (cells + mc) (slots + ms) Q (F0 m pc ls rest) q9)
    (kk : ∀ (r : Int64) (u : S) (t : State) (H1 : Heap) (locs1 : List Loc), t.heap = H1 → s.vm.Alike t.vm → post r u → B u t → H.size ≤ H1.size → (∀ q : Nat, q < H.size → ¬ A1 q → H1[q]? = H[q]?) → va_S A0 H0 H1 locs1 → W p l e R s m args below meth c H1 locs1 (cells + mc) (slots + ms) Q (F0 m (pc + 3) ls (.long r :: rest))) : W p l e R s m args below meth c H locs cells slots Q (F0 m pc ls st0) := by
  intro T hT X
  rcases hr T hT X with ⟨v, st₀, t, T', L, h0, X', hL, e1, e2, ⟨⟨r, u, hv, hp, hb⟩, hF⟩, st⟩ | ⟨q, st₀, t, T', L, E, ce, h0, X', hL, e1, e2, ⟨u, hp, hb, hF⟩, hce, hcv, hcl, st⟩
  · cases hv
    obtain ⟨k1, k2, k3⟩ := vx_keep h0 e1 hS hA hf hL hF
    obtain ⟨t2, a1, b1⟩ := kk r u t T'.heap (locs ++ L) e1.symm (by rw [← e2]; exact X'.warmed.alike) hp hb k1 k2 k3 T' rfl X'
    exact ⟨t2, st t2 a1, b1⟩
  · obtain ⟨k1, k2, k3⟩ := vx_keep h0 e1 hS hAX hf hL hF
    obtain ⟨t2, a1, b1⟩ := kx E ce q u t T'.heap (locs ++ L) e1.symm (by rw [← e2]; exact X'.warmed.alike) hp hb k1 k2 k3 (by rw [e1]; exact hce) hcv hcl T' rfl X'
    exact ⟨t2, st.trans a1, b1⟩
theorem vx_callf {S SX : Type} {post : UInt32 → S → Prop} {px : SX → Prop} {B : S → State → Prop} {BX : String → SX → State → Prop} {AX : Nat → Prop} (hr : vx_Run p l e R s m args below meth c H locs cells slots mc ms (F0 m pc ls st0) rest (va_Qf post B A1 a) (vx_X px BX AX) free) (hS : va_S A0 H0 H locs) (hA : ∀ q, q < H.size → A1 q → A0 q) (hf : ∀ q, free q → A0 q) (hAX : ∀ q, q < H.size → AX q → A0 q)
    (kx : ∀ (E : String) (ce : Cell) (q9 : Addr) (u : SX) (t : State) (H1 : Heap) (locs1 : List Loc), t.heap = H1 → s.vm.Alike t.vm → px u → BX E u t → H.size ≤ H1.size → (∀ q : Nat, q < H.size → ¬ AX q → H1[q]? = H[q]?) → va_S A0 H0 H1 locs1 → H1[q9]? = some ce → ce.vm = .none → s.vm.findClass E = some ce.cls → vx_W p l e R s m args below meth c H1 locs1 (cells + mc) (slots + ms) Q (F0 m pc ls rest) q9)
    (kk : ∀ (r : UInt32) (u : S) (t : State) (H1 : Heap) (locs1 : List Loc), t.heap = H1 → s.vm.Alike t.vm → post r u → B u t → H.size ≤ H1.size → (∀ q : Nat, q < H.size → ¬ A1 q → H1[q]? = H[q]?) → va_S A0 H0 H1 locs1 → W p l e R s m args below meth c H1 locs1 (cells + mc) (slots + ms) Q (F0 m (pc + 3) ls (.float r :: rest))) : W p l e R s m args below meth c H locs cells slots Q (F0 m pc ls st0) := by
  intro T hT X
  rcases hr T hT X with ⟨v, st₀, t, T', L, h0, X', hL, e1, e2, ⟨⟨r, u, hv, hp, hb⟩, hF⟩, st⟩ | ⟨q, st₀, t, T', L, E, ce, h0, X', hL, e1, e2, ⟨u, hp, hb, hF⟩, hce, hcv, hcl, st⟩
  · cases hv
    obtain ⟨k1, k2, k3⟩ := vx_keep h0 e1 hS hA hf hL hF
    obtain ⟨t2, a1, b1⟩ := kk r u t T'.heap (locs ++ L) e1.symm (by rw [← e2]; exact X'.warmed.alike) hp hb k1 k2 k3 T' rfl X'
    exact ⟨t2, st t2 a1, b1⟩
  · obtain ⟨k1, k2, k3⟩ := vx_keep h0 e1 hS hAX hf hL hF
    obtain ⟨t2, a1, b1⟩ := kx E ce q u t T'.heap (locs ++ L) e1.symm (by rw [← e2]; exact X'.warmed.alike) hp hb k1 k2 k3 (by rw [e1]; exact hce) hcv hcl T' rfl X'
    exact ⟨t2, st.trans a1, b1⟩
theorem vx_calld {S SX : Type} {post : UInt64 → S → Prop} {px : SX → Prop} {B : S → State → Prop} {BX : String → SX → State → Prop} {AX : Nat → Prop} (hr : vx_Run p l e R s m args below meth c H locs cells slots mc ms (F0 m pc ls st0) rest (va_Qd post B A1 a) (vx_X px BX AX) free) (hS : va_S A0 H0 H locs) (hA : ∀ q, q < H.size → A1 q → A0 q) (hf : ∀ q, free q → A0 q) (hAX : ∀ q, q < H.size → AX q → A0 q)
    (kx : ∀ (E : String) (ce : Cell) (q9 : Addr) (u : SX) (t : State) (H1 : Heap) (locs1 : List Loc), t.heap = H1 → s.vm.Alike t.vm → px u → BX E u t → H.size ≤ H1.size → (∀ q : Nat, q < H.size → ¬ AX q → H1[q]? = H[q]?) → va_S A0 H0 H1 locs1 → H1[q9]? = some ce → ce.vm = .none → s.vm.findClass E = some ce.cls → vx_W p l e R s m args below meth c H1 locs1 (cells + mc) (slots + ms) Q (F0 m pc ls rest) q9)
    (kk : ∀ (r : UInt64) (u : S) (t : State) (H1 : Heap) (locs1 : List Loc), t.heap = H1 → s.vm.Alike t.vm → post r u → B u t → H.size ≤ H1.size → (∀ q : Nat, q < H.size → ¬ A1 q → H1[q]? = H[q]?) → va_S A0 H0 H1 locs1 → W p l e R s m args below meth c H1 locs1 (cells + mc) (slots + ms) Q (F0 m (pc + 3) ls (.double r :: rest))) : W p l e R s m args below meth c H locs cells slots Q (F0 m pc ls st0) := by
  intro T hT X
  rcases hr T hT X with ⟨v, st₀, t, T', L, h0, X', hL, e1, e2, ⟨⟨r, u, hv, hp, hb⟩, hF⟩, st⟩ | ⟨q, st₀, t, T', L, E, ce, h0, X', hL, e1, e2, ⟨u, hp, hb, hF⟩, hce, hcv, hcl, st⟩
  · cases hv
    obtain ⟨k1, k2, k3⟩ := vx_keep h0 e1 hS hA hf hL hF
    obtain ⟨t2, a1, b1⟩ := kk r u t T'.heap (locs ++ L) e1.symm (by rw [← e2]; exact X'.warmed.alike) hp hb k1 k2 k3 T' rfl X'
    exact ⟨t2, st t2 a1, b1⟩
  · obtain ⟨k1, k2, k3⟩ := vx_keep h0 e1 hS hAX hf hL hF
    obtain ⟨t2, a1, b1⟩ := kx E ce q u t T'.heap (locs ++ L) e1.symm (by rw [← e2]; exact X'.warmed.alike) hp hb k1 k2 k3 (by rw [e1]; exact hce) hcv hcl T' rfl X'
    exact ⟨t2, st.trans a1, b1⟩
theorem vx_callv {S SX : Type} {post : S → Prop} {px : SX → Prop} {B : S → State → Prop} {BX : String → SX → State → Prop} {AX : Nat → Prop} (hr : vx_Run p l e R s m args below meth c H locs cells slots mc ms (F0 m pc ls st0) rest (va_Qv post B A1 a) (vx_X px BX AX) free) (hS : va_S A0 H0 H locs) (hA : ∀ q, q < H.size → A1 q → A0 q) (hf : ∀ q, free q → A0 q) (hAX : ∀ q, q < H.size → AX q → A0 q)
    (kx : ∀ (E : String) (ce : Cell) (q9 : Addr) (u : SX) (t : State) (H1 : Heap) (locs1 : List Loc), t.heap = H1 → s.vm.Alike t.vm → px u → BX E u t → H.size ≤ H1.size → (∀ q : Nat, q < H.size → ¬ AX q → H1[q]? = H[q]?) → va_S A0 H0 H1 locs1 → H1[q9]? = some ce → ce.vm = .none → s.vm.findClass E = some ce.cls → vx_W p l e R s m args below meth c H1 locs1 (cells + mc) (slots + ms) Q (F0 m pc ls rest) q9)
    (kk : ∀ (u : S) (t : State) (H1 : Heap) (locs1 : List Loc), t.heap = H1 → s.vm.Alike t.vm → post u → B u t → H.size ≤ H1.size → (∀ q : Nat, q < H.size → ¬ A1 q → H1[q]? = H[q]?) → va_S A0 H0 H1 locs1 → W p l e R s m args below meth c H1 locs1 (cells + mc) (slots + ms) Q (F0 m (pc + 3) ls (rest))) : W p l e R s m args below meth c H locs cells slots Q (F0 m pc ls st0) := by
  intro T hT X
  rcases hr T hT X with ⟨v, st₀, t, T', L, h0, X', hL, e1, e2, ⟨⟨u, hv, hp, hb⟩, hF⟩, st⟩ | ⟨q, st₀, t, T', L, E, ce, h0, X', hL, e1, e2, ⟨u, hp, hb, hF⟩, hce, hcv, hcl, st⟩
  · cases hv
    obtain ⟨k1, k2, k3⟩ := vx_keep h0 e1 hS hA hf hL hF
    obtain ⟨t2, a1, b1⟩ := kk u t T'.heap (locs ++ L) e1.symm (by rw [← e2]; exact X'.warmed.alike) hp hb k1 k2 k3 T' rfl X'
    exact ⟨t2, st t2 a1, b1⟩
  · obtain ⟨k1, k2, k3⟩ := vx_keep h0 e1 hS hAX hf hL hF
    obtain ⟨t2, a1, b1⟩ := kx E ce q u t T'.heap (locs ++ L) e1.symm (by rw [← e2]; exact X'.warmed.alike) hp hb k1 k2 k3 (by rw [e1]; exact hce) hcv hcl T' rfl X'
    exact ⟨t2, st.trans a1, b1⟩
/-- caught by the row x of this method's table; the rows ahead don't take it -/
theorem vx_catch {own name : String} {E : String} {ce : Cell} {q : Addr} (hown : s.vm.findClass own = some m.cls) (pre : List ExceptionTableEntry) (x : ExceptionTableEntry) (suf : List ExceptionTableEntry) (hsplit : c.exceptionTable.toList = pre ++ x :: suf)
    (hpass : ∀ z ∈ pre, covers z pc = false ∨ (z.catchType ≠ 0 ∧ ∃ nm : String, (Cond.classLink own z.catchType nm).before args s = true ∧ va_Nc E nm s)) (hx : covers x pc = true) (h0 : x.catchType ≠ 0)
    (hlink : (Cond.classLink own x.catchType name).before args s = true) (hcast : (Cond.castable E name).before args s = true) (hcell : H[q]? = some ce) (hv : ce.vm = .none) (hcl : s.vm.findClass E = some ce.cls)
    (kk : W p l e R s m args below meth c H locs cells slots Q (F0 m x.handlerPc ls [.ref q])) : vx_W p l e R s m args below meth c H locs cells slots Q (F0 m pc ls rest) q := by
  intro T hT X
  have hpl : e.platform.magicAccessors = ({} : Platform).magicAccessors := by rw [X.admits.platform]
  obtain ⟨c3, c4, hc3, hc4, hasg⟩ := Cond.castable_spec hcast
  cases Option.some.inj (hc3.symm.trans hcl)
  obtain ⟨c5, hc5, hcl5⟩ := Cond.classLink_spec hown hlink e.platform hpl
  cases Option.some.inj (hc4.symm.trans hc5)
  obtain ⟨vm', X', st⟩ := X.thenCaughtThrough q (g := F0 m pc ls rest) rfl (Steps.refl _) (by rw [hT]; exact hcell) (by rw [hv]; rfl) (by obtain ⟨k9, h9, -⟩ := Vm.findClass_spec hcl; exact ⟨k9, h9⟩) pre x suf hsplit
    (fun z hz => by
      rcases hpass z hz with h | ⟨hz0, nm, hl1, hn1⟩
      · exact Or.inl h
      · obtain ⟨c6, hc6, hcl6⟩ := Cond.classLink_spec hown hl1 e.platform hpl
        obtain ⟨a8, b8, h1, h2, h3⟩ := hn1
        cases Option.some.inj (h1.symm.trans hcl)
        cases Option.some.inj (h2.symm.trans hc6)
        exact Or.inr ⟨hz0, _, hcl6, h3⟩) hx (Or.inr ⟨h0, c4, hcl5, hasg⟩)
  obtain ⟨t, a1, b1⟩ := kk (T.setVm vm') hT X'
  exact ⟨t, st.trans a1, b1⟩
end Rows
section Ends
variable {p : Program} {l : Launch} {e : Env} {R : Room} {s : State} {m : MethodId} {args : Array Value} {below : List Frame} {meth : Method} {c : Code} {H : Heap} {locs : List Loc} {cells slots : Nat} {Q : State → Prop}
variable {mc ms : Nat} {free : Addr → Prop} {A0 A1 : Nat → Prop} {H0 : Heap} {a : Array Value} {ls : Array Slot} {st0 rest : List Value}
variable {Qc : Array Value → State → Outcome → State → Prop} {XC : String → State → State → Prop}
/-- what a body that may throw owes at its end -/
def vx_MQ (below : List Frame) (Qc : Array Value → State → Outcome → State → Prop) (XC : String → State → State → Prop) (a : Array Value) (s : State) (mc ms : Nat) (free : Addr → Prop) : State → Prop := fun t =>
  ∃ o, t.status = .running ∧ Ended t below o ∧ vx_Q Qc XC mc ms free a s o t
theorem vx_ret {g : JFrame} {mc ms : Nat} (k : W p l e R s m args below meth c H locs cells slots (MQ below Qc args s mc ms free) g) : W p l e R s m args below meth c H locs cells slots (vx_MQ below Qc XC args s mc ms free) g := by
  intro T hT X
  obtain ⟨t, a1, o, b1, b2, b3, b4⟩ := k T hT X
  exact ⟨t, a1, o, b1, b2, Or.inl ⟨b3, b4⟩⟩
/-- not caught here: it goes on to the caller -/
theorem vx_widen {g : JFrame} {q : Addr} {k n : Nat} (h1 : cells ≤ k) (h2 : slots ≤ n) (kk : vx_W p l e R s m args below meth c H locs k n Q g q) : vx_W p l e R s m args below meth c H locs cells slots Q g q := fun T hT X => kk T hT (stand_widen X h1 h2)
theorem vx_out {pc : Nat} {E : String} {ce : Cell} {q : Addr} {mc ms : Nat} (hout : ∀ x ∈ c.exceptionTable.toList, covers x pc = false) (hlocks : meth.locks = false) (hcell : H[q]? = some ce) (hv : ce.vm = .none) (hcl : s.vm.findClass E = some ce.cls)
    (hx : ∀ t : State, t.heap = H → s.vm.Alike t.vm → XC E s t) (hf : ∀ z ∈ locs, free z.base) (hc : cells ≤ mc) (hs : slots ≤ ms) :
    vx_W p l e R s m args below meth c H locs cells slots (vx_MQ below Qc XC args s mc ms free) (F0 m pc ls rest) q := by
  intro T hT X
  obtain ⟨st1, hrun, hend, hW, hsm⟩ := X.leaveThrown q (g := F0 m pc ls rest) rfl rfl rfl hout hlocks
  have hcell9 : (T.setFrames (.throwing q :: below)).heap[q]? = some ce := by
    show T.heap[q]? = some ce
    rw [hT]; exact hcell
  exact ⟨_, st1, .threw q, hrun, hend, Or.inr ⟨q, rfl, E, ce, locs, hx _ hT hW.alike, hcell9, hv, hcl, hW, hsm.mono hc hs, hf⟩⟩
theorem vx_frame {U : State} {k n : Nat} (h : s.sameButNew ({ U with vm := s.vm } : State) locs k n) : s.heap.size ≤ U.heap.size ∧ ∀ q : Nat, q < s.heap.size → (∀ z ∈ locs, z.base ≠ q) → U.heap[q]? = s.heap[q]? := by
  obtain ⟨-, h2, -, -, -, h6⟩ := h
  refine ⟨h2, fun q hq hz => ?_⟩
  obtain ⟨c9, e1, e2, e3, e4⟩ := h6 q _ (Array.getElem?_eq_getElem hq)
  have hs : c9.slots = (s.heap[q]).slots := Array.ext_getElem? fun i => e4 i fun hm => hz _ hm rfl
  have h9 : c9 = s.heap[q] := by
    rw [hs] at e2
    exact e2
  have e5 : U.heap[q]? = some c9 := e1
  rw [e5, h9, Array.getElem?_eq_getElem hq]
/-- the words of a throw but the four that speak of the heap -/
def vx_no (w : Cond) : Bool := decide (w ≠ .isRef (.static Bundle.tN "UNASSIGNED_STACK" Bundle.steD)) && decide (w ≠ .isRef (.static Bundle.tN "SUPPRESSED_SENTINEL" Bundle.listD)) && decide (w ≠ .laysStatic Bundle.tN "UNASSIGNED_STACK" Bundle.steD) && decide (w ≠ .laysStatic Bundle.tN "SUPPRESSED_SENTINEL" Bundle.listD)
def vx_at0 (own : String) (ic : Nat) (X : String) (names : List String) : List Cond := (Bundle.ownAtoms0 own ic X names).filter vx_no
def vx_atS (own : String) (ic : Nat) (X : String) (names : List String) : List Cond := (Bundle.ownAtoms own ic X names).filter vx_no
/-- a word that the tables alone decide, or a good one -/
def vx_ot (w : Cond) : Bool := w.onTables || goodWord w
theorem vx_ot_at {args a' : Array Value} {s U : State} {w : Cond} (hW : s.WarmedH U.vm) (hvm : s.vm = U.vm) (hg : vx_ot w = true) (h : w.before args s = true) : w.before a' U = true := by
  simp only [vx_ot, Bool.or_eq_true] at hg
  rcases hg with hg | hg
  · exact va_tabs hg hvm h
  · exact word_at hW (good_of_word hg) h
/-- a list's words: the good ones out of the method's own list, the others by premises of their own -/
theorem vx_hat {args : Array Value} {s : State} {L B : List Cond} (h1 : ∀ w ∈ L.filter goodWord, w.before args s = true) (h2 : ∀ w ∈ L.filter (fun w => !goodWord w), w ∈ B) (h3 : ∀ w ∈ B, w.before args s = true) : ∀ w ∈ L, w.before args s = true := by
  intro w hw
  by_cases g : goodWord w = true
  · exact h1 w (List.mem_filter.mpr ⟨hw, g⟩)
  · refine h3 w (h2 w (List.mem_filter.mpr ⟨hw, ?_⟩))
    show (!goodWord w) = true
    cases hgw : goodWord w
    · rfl
    · exact absurd hgw g
theorem vx_c {args : Array Value} {s : State} {w : Cond} {B : List Cond} (h : w.before args s = true) (t : ∀ w ∈ B, w.before args s = true) : ∀ w' ∈ w :: B, w'.before args s = true := fun w' h' => (List.mem_cons.mp h').elim (fun e => by rw [e]; exact h) (t w')
theorem vx_n {args : Array Value} {s : State} : ∀ w ∈ ([] : List Cond), w.before args s = true := fun _ h => nomatch h
theorem vx_own {args : Array Value} {s : State} {L : List Cond} (h1 : ∀ w ∈ L.filter vx_no, w.before args s = true)
    (hU : (Cond.isRef (.static Bundle.tN "UNASSIGNED_STACK" Bundle.steD)).before args s = true) (hN : (Cond.isRef (.static Bundle.tN "SUPPRESSED_SENTINEL" Bundle.listD)).before args s = true)
    (lU : (Cond.laysStatic Bundle.tN "UNASSIGNED_STACK" Bundle.steD).before args s = true) (lN : (Cond.laysStatic Bundle.tN "SUPPRESSED_SENTINEL" Bundle.listD).before args s = true) : ∀ w ∈ L, w.before args s = true := by
  intro w hw
  by_cases e1 : w = .isRef (.static Bundle.tN "UNASSIGNED_STACK" Bundle.steD)
  · rw [e1]; exact hU
  · by_cases e2 : w = .isRef (.static Bundle.tN "SUPPRESSED_SENTINEL" Bundle.listD)
    · rw [e2]; exact hN
    · by_cases e3 : w = .laysStatic Bundle.tN "UNASSIGNED_STACK" Bundle.steD
      · rw [e3]; exact lU
      · by_cases e4 : w = .laysStatic Bundle.tN "SUPPRESSED_SENTINEL" Bundle.listD
        · rw [e4]; exact lN
        · exact h1 w (List.mem_filter.mpr ⟨hw, by unfold vx_no; rw [decide_eq_true e1, decide_eq_true e2, decide_eq_true e3, decide_eq_true e4]; rfl⟩)
/-- where a static field lies, its class's statics cell in H -/
def vx_L (C n d : String) (A : Nat → Prop) (U : State) (H : Heap) : Prop := ∃ (c : ClassId) (k : Class) (i : Nat) (f : Field) (a : Nat) (cell : Cell), U.vm.findClass C = some c ∧ U.fieldFound? C n d = some (c, k, i, f) ∧ f.isStatic = true ∧ k.statics = some a ∧ H[a]? = some cell ∧ cell.vm.isStatics = true ∧ cell.cls = c ∧ f.slot < cell.slots.size ∧ k.staticTypes[f.slot]? = some f.type ∧ ¬ A a
theorem vx_L.moved {C n d : String} {A : Nat → Prop} {u U : State} {H : Heap} (hvm : u.vm.Alike U.vm) (h : vx_L C n d A u H) : vx_L C n d A U H := by
  obtain ⟨c, k, i, f, a, cell, h1, h2, h3, h4, h5, h6, h7, h8, h9, h10⟩ := h
  obtain ⟨k', hi', he⟩ := State.fieldFound?_setVm hvm h2
  exact ⟨c, k', i, f, a, cell, by rw [hvm.findClass]; exact h1, hi', h3, by rw [he]; exact h4, h5, h6, h7, h8, by rw [he]; exact h9, h10⟩
theorem vx_L.kept {C n d : String} {A : Nat → Prop} {U : State} {H H1 : Heap} (h : vx_L C n d A U H) (hq : ∀ a : Nat, a < H.size → ¬ A a → H1[a]? = H[a]?) : vx_L C n d A U H1 := by
  obtain ⟨c, k, i, f, a, cell, h1, h2, h3, h4, h5, h6, h7, h8, h9, h10⟩ := h
  exact ⟨c, k, i, f, a, cell, h1, h2, h3, h4, by rw [hq a (Array.getElem?_eq_some_iff.mp h5).1 h10]; exact h5, h6, h7, h8, h9, h10⟩
theorem vx_L.narrow {C n d : String} {A B : Nat → Prop} {U : State} {H : Heap} (h : vx_L C n d A U H) (hAB : ∀ q, B q → A q) : vx_L C n d B U H := by
  obtain ⟨c, k, i, f, a, cell, h1, h2, h3, h4, h5, h6, h7, h8, h9, h10⟩ := h
  exact ⟨c, k, i, f, a, cell, h1, h2, h3, h4, h5, h6, h7, h8, h9, fun z => h10 (hAB _ z)⟩
theorem vx_L.word {C n d : String} {A : Nat → Prop} {s : State} {args : Array Value} (h : vx_L C n d A s s.heap) : (Cond.laysStatic C n d).before args s = true := by
  obtain ⟨c, k, i, f, a, cell, h1, h2, h3, h4, h5, h6, h7, h8, h9, -⟩ := h
  show (Cond.laysStatic C n d).holds args s none s [] = true
  exact Cond.laysStatic_of h1 h2 h3 h4 h5 h6 h7 h8 h9
/-- .. and what it holds: null or some reference -/
def vx_Zq (C n d : String) (A : Nat → Prop) (U : State) (H : Heap) : Prop := va_Zq C n d A U H ∧ vx_L C n d A U H
theorem vx_Zq.moved {C n d : String} {A : Nat → Prop} {u U : State} {H : Heap} (hvm : u.vm.Alike U.vm) (h : vx_Zq C n d A u H) : vx_Zq C n d A U H := ⟨va_Zq.moved hvm h.1, vx_L.moved hvm h.2⟩
theorem vx_Zq.kept {C n d : String} {A : Nat → Prop} {U : State} {H H1 : Heap} (h : vx_Zq C n d A U H) (hq : ∀ a : Nat, a < H.size → ¬ A a → H1[a]? = H[a]?) : vx_Zq C n d A U H1 := ⟨va_Zq.kept h.1 hq, vx_L.kept h.2 hq⟩
theorem vx_Zq.narrow {C n d : String} {A B : Nat → Prop} {U : State} {H : Heap} (h : vx_Zq C n d A U H) (hAB : ∀ q, B q → A q) : vx_Zq C n d B U H := ⟨va_Zq.narrow h.1 hAB, vx_L.narrow h.2 hAB⟩
theorem vx_Zqof {args : Array Value} {s : State} {C n d : String} {A : Nat → Prop} (hl : (Cond.laysStatic C n d).before args s = true) (hini : (Cond.initialized C).before args s = true) (h : (Cond.isRef (.static C n d)).before args s = true) (hA : ∀ a : Nat, a < s.heap.size → ¬ A a) : vx_Zq C n d A s s.heap := by
  refine ⟨va_Zqof hl hini h hA, ?_⟩
  obtain ⟨c, k, i, f, a, cell, h1, h2, h3, h4, h5, h6, h7, h8, h9⟩ := Cond.laysStatic_spec hl
  exact ⟨c, k, i, f, a, cell, h1, h2, h3, h4, h5, h6, h7, h8, h9, hA a (Array.getElem?_eq_some_iff.mp h5).1⟩
theorem vx_isRef {C n d : String} {v : Value} {A : Nat → Prop} {s : State} {args : Array Value} (h : va_Z C n d v A s s.heap) (hv : v.isRef = true) : (Cond.isRef (.static C n d)).before args s = true := by
  obtain ⟨cf, kf, fi, f, a, cell, h1, h2, h3, h4, h5, h6, h7, -⟩ := h
  have he : (Term.static C n d).eval args s none [] s = some v := by
    simp [Term.eval, State.fieldNamed?, h1, h2, h4, h5, h6, h7]
  simp only [Cond.before, Cond.holds, Cond.value, he]
  cases v <;> simp_all [Value.isRef]
theorem vx_isRefq {C n d : String} {A : Nat → Prop} {s : State} {args : Array Value} (h : va_Zq C n d A s s.heap) : (Cond.isRef (.static C n d)).before args s = true := by
  rcases h with h | ⟨t, h⟩
  · exact vx_isRef h rfl
  · exact vx_isRef h rfl
/-- the same frame, seen from here: as if the method were called anew in this heap -/
theorem vx_rebase {T : State} (X : Stand p l e R s m args below meth c T locs cells slots) {R' : Room} (hf : R'.frames ≤ R.frames) (hl : R'.locals ≤ R.locals) (hc : cells + R'.cells ≤ R.cells) (hs : slots + R'.slots ≤ R.slots) :
    Stand p l e R' ((T.setVm s.vm).setFrames (.invoking m args :: below)) m args below meth c T [] 0 0 := by
  have htop : (T.setVm s.vm).topJava?.isSome := X.here.top
  have hF : ((T.setVm s.vm).setFrames (.invoking m args :: below)).frames = .invoking m args :: below := State.frames_setFrames _ (State.cur_lt_of_top htop)
  obtain ⟨g₀, hg0⟩ := Option.isSome_iff_exists.mp htop
  obtain ⟨r, hr⟩ := State.topJava?_eq_some.mp hg0
  have hl9 : e.platform.stackLimits (T.setVm s.vm).me = e.platform.stackLimits s.me := X.limits
  have hb9 : (T.setVm s.vm).me.stackBytes = s.me.stackBytes := X.bytes
  refine ⟨X.admits, X.cas, X.clock, hF, ?_, X.hears, X.method, X.code, X.here, X.tail, X.warmed, ?_, ?_, ?_⟩
  · have h := X.room
    have hU : ((T.setVm s.vm).setFrames (.invoking m args :: below)).localsInUse = s.localsInUse := by
      rw [State.localsInUse_invoking hF (meth := meth) (c := c) X.method X.code, State.localsInUse_invoking X.frames X.method X.code]
    simp only [State.hasRoom, Bool.and_eq_true, decide_eq_true_eq] at h ⊢
    obtain ⟨⟨⟨⟨h1, h2, h3, h4, h5, h6⟩, h7⟩, h8⟩, h9⟩ := h
    rw [X.frames, List.length_cons] at h2 h3
    have q1 := X.heapSize
    have q2 := X.used
    simp only [hF, hU, List.length_cons, State.stackLimits_setFrames, State.stackBytes_setFrames, hl9, hb9]
    refine ⟨⟨⟨⟨by omega, by omega, by omega, by omega, by omega, h6⟩, ?_⟩, ?_⟩, X.book⟩
    · show T.heap.size + R'.cells ≤ e.platform.maxCells
      omega
    · show T.slotsUsed + R'.slots ≤ e.platform.maxSlots
      omega
  · rw [State.stackLimits_setFrames]; rfl
  · rw [State.stackBytes_setFrames]; rfl
  · refine ⟨?_, Nat.le_refl _, Nat.le_refl _, ?_, ?_, fun a c9 h9 => ⟨c9, h9, rfl, rfl, fun _ _ => rfl⟩⟩
    · obtain ⟨t, ht, -⟩ := State.frames_cons hr
      show T.setVm s.vm = { ((T.setVm s.vm).setFrames (.invoking m args :: below)).setFrames (T.setVm s.vm).frames with heap := T.heap, slotsUsed := T.slotsUsed }
      rw [State.setFrames_setFrames, State.setFrames_self ht]
      rfl
    · show T.slotsUsed = T.slotsUsed + ((T.heap.toList.drop T.heap.size).map (·.slots.size)).sum
      rw [List.drop_eq_nil_of_le (Nat.le_of_eq Array.length_toList)]
      rfl
    · show ((T.heap.toList.drop T.heap.size).map (·.slots.size)).sum ≤ 0
      rw [List.drop_eq_nil_of_le (Nat.le_of_eq Array.length_toList)]
      exact Nat.le_refl _
/-- 'throw new E()': new; dup; invokespecial; athrow -/
theorem vx_throw0 {cc : ByteArray} {pc : Nat} (hexec : p.tables.exec = Jvm.exec) (hb : c.code = cc) (hl : l.stackTraces = false) {own cls : String} {names : List String} {ik ic mc ms : Nat} {A : Nat → Prop}
    (hown : s.vm.findClass own = some m.cls) (hcls : Bundle.fit cls = true) (hnames : ∀ n ∈ names, Bundle.fit n = true)
    (hk : (Cond.classLink own ik cls).before args s = true) (hini : (Cond.initialized cls).before args s = true) (hat : ∀ w ∈ vx_at0 own ic cls names, w.before args s = true)
    (hgood : ∀ w ∈ Cond.classLink own ik cls :: Cond.initialized cls :: vx_at0 own ic cls names, vx_ot w = true)
    (hU : vx_Zq Bundle.tN "UNASSIGNED_STACK" Bundle.steD A s s.heap) (hN : vx_Zq Bundle.tN "SUPPRESSED_SENTINEL" Bundle.listD A s s.heap) (hS : va_S A s.heap H locs) (hsize : ls.size = c.maxLocals)
    (d0 : decode cc pc = .ok (.new ik, 3)) (d3 : decode cc (pc + 3) = .ok (.dup, 1)) (d4 : decode cc (pc + 4) = .ok (.invokespecial ic, 3)) (d7 : decode cc (pc + 7) = .ok (.athrow, 1))
    (hout : ∀ x ∈ c.exceptionTable.toList, covers x (pc + 7) = false)
    (hRframes : names.length + 3 < R.frames) (hRlocals : (rest.map fun v => v.category).sum + (13 * (names.length + 1) + 42) ≤ R.locals) (hRcells : cells + 1 ≤ R.cells) (hRslots : slots + 6 ≤ R.slots) (hlocks : meth.locks = false)
    (hx : ∀ t : State, s.vm.Alike t.vm → H.size ≤ t.heap.size → (∀ q : Nat, q < H.size → t.heap[q]? = H[q]?) → XC cls s t)
    (hf : ∀ z ∈ locs, free z.base) (hc : cells + 1 ≤ mc) (hs : slots + 6 ≤ ms) :
    W p l e R s m args below meth c H locs cells slots (vx_MQ below Qc XC args s mc ms free) (F0 m pc ls rest) := by
  intro T hT X
  have htr : e.platform.stackTraces = false := (show e.platform.stackTraces = l.stackTraces by rw [X.admits.platform]).trans hl
  have Y := vx_rebase X (R' := { frames := R.frames, locals := R.locals, cells := 1, slots := 6 }) (Nat.le_refl _) (Nat.le_refl _) hRcells hRslots
  obtain ⟨s', hA⟩ : ∃ z, z = (T.setVm s.vm).setFrames (.invoking m args :: below) := ⟨_, rfl⟩
  rw [← hA] at Y
  have hvm : s'.vm = s.vm := by rw [hA]; rfl
  have hhp : s'.heap = H := by rw [hA]; exact hT
  have hW0 : s.WarmedH s'.vm := by rw [hvm]; exact State.WarmedH.refl s
  have hat' : ∀ w ∈ vx_at0 own ic cls names, w.before args s' = true := fun w hw => vx_ot_at hW0 hvm.symm (hgood w (List.mem_cons_of_mem _ (List.mem_cons_of_mem _ hw))) (hat w hw)
  have hk' : (Cond.classLink own ik cls).before args s' = true := vx_ot_at hW0 hvm.symm (hgood _ List.mem_cons_self) hk
  have hini' : (Cond.initialized cls).before args s' = true := vx_ot_at hW0 hvm.symm (hgood _ (List.mem_cons_of_mem _ List.mem_cons_self)) hini
  have hU' : vx_Zq Bundle.tN "UNASSIGNED_STACK" Bundle.steD A s' s'.heap := by rw [hhp]; exact vx_Zq.moved hW0.alike (hU.kept hS.2.1)
  have hN' : vx_Zq Bundle.tN "SUPPRESSED_SENTINEL" Bundle.listD A s' s'.heap := by rw [hhp]; exact vx_Zq.moved hW0.alike (hN.kept hS.2.1)
  have h : ∀ w ∈ Bundle.ownAtoms0 own ic cls names, w.before args s' = true := vx_own hat' (vx_isRefq hU'.1) (vx_isRefq hN'.1) hU'.2.word hN'.2.word
  have hown' : s'.vm.findClass own = some m.cls := by rw [hvm]; exact hown
  have hins : (Cond.instantiable cls 6).before args s' = true := h _ (by simp [Bundle.ownAtoms0])
  obtain ⟨vm₁, cX, kX, hfX, hkX, -, -, X₁, st1⟩ := Y.newCold hexec (own := own) (C := cls) (index := ik) (n := 6) hown' hk' hins hini'
    (g := F0 m pc ls rest) rfl (by rw [hb]; exact d0) (Nat.le_refl _) (Nat.le_refl _)
  generalize hT1 : (T.setVm vm₁).pushCell { cls := cX, slots := kX.instanceTypes.map defaultValue, vm := .none } = T1 at X₁ st1
  have hcat : (Value.ref T.heap.size).category = 1 := rfl
  have hcellA : T1.heap[T.heap.size]? = some (freshCell cX kX) := by rw [← hT1]; exact State.heap_pushCell_size _ _
  have d3' : decode c.code (pc + 3) = .ok (.dup, 1) := by rw [hb]; exact d3
  obtain ⟨U, hsteps, hrun, hend, hW, hsame, ce, hce, hO⟩ := X₁.ctorThrow0 hexec htr (own := own) (cls := cls) (names := names) (ic := ic) hown' hcls hnames h (fun x hx => nomatch hx) hfX hkX hcellA (by rw [hhp, hT]; exact Nat.le_refl _)
    (g := { method := m, pc := pc + 4, locals := ls, stack := .ref T.heap.size :: .ref T.heap.size :: rest, locked := none }) rfl hsize rfl rfl (rest := rest) rfl
    (by rw [hb]; exact d4) (by rw [hb]; exact d7) hout hRframes (by simp only [List.map_cons, List.sum_cons, hcat]; omega) hlocks
  obtain ⟨f1, f2⟩ := vx_frame hsame
  rw [hhp] at f1 f2
  have hWs : s.WarmedH U.vm := State.WarmedH.trans hW0 hW
  have hcl : s.vm.findClass cls = some ce.cls := by
    have h9 := hO.cls
    rw [hvm] at h9
    exact h9
  have hall : s.sameButNew ({ U with vm := s.vm } : State) locs mc ms := by
    subst hA
    obtain ⟨e1, e2⟩ := hsame
    rw [State.setFrames_setFrames] at e1
    have h2 : (T.setVm s.vm).sameButNew ({ U with vm := s.vm } : State) [] (0 + 1) (0 + 6) := ⟨e1, e2⟩
    have h3 := X.same.trans h2
    rw [List.append_nil] at h3
    exact h3.mono hc hs
  refine ⟨U, ?_, .threw T.heap.size, hrun, hend, Or.inr ⟨T.heap.size, rfl, cls, ce, locs, hx U hWs.alike f1 (fun q hq => f2 q hq (fun z hz => nomatch hz)), hce, hO.vm, hcl, hWs, hall, hf⟩⟩
  refine st1 _ ?_
  show Steps p.tables e below (T1.setTop { method := m, pc := pc + 3, locals := ls, stack := .ref T.heap.size :: rest, locked := none }) _
  jvm_step X₁.here [X₁.here.top, hexec, d3', Value.category]
  exact hsteps
/-- 'throw new E("text")': new; dup; ldc; invokespecial; athrow -/
theorem vx_throwS {cc : ByteArray} {pc : Nat} (hexec : p.tables.exec = Jvm.exec) (hb : c.code = cc) (hl : l.stackTraces = false) {own cls text : String} {names : List String} {ik is ic mc ms sa : Nat} {A : Nat → Prop}
    (hown : s.vm.findClass own = some m.cls) (hcls : Bundle.fit cls = true) (hnames : ∀ n ∈ names, Bundle.fit n = true)
    (hk : (Cond.classLink own ik cls).before args s = true) (hini : (Cond.initialized cls).before args s = true) (hstr : vk_R own is text sa s) (hat : ∀ w ∈ vx_atS own ic cls names, w.before args s = true)
    (hgood : ∀ w ∈ Cond.classLink own ik cls :: Cond.initialized cls :: vx_atS own ic cls names, vx_ot w = true)
    (hU : vx_Zq Bundle.tN "UNASSIGNED_STACK" Bundle.steD A s s.heap) (hN : vx_Zq Bundle.tN "SUPPRESSED_SENTINEL" Bundle.listD A s s.heap) (hS : va_S A s.heap H locs) (hsize : ls.size = c.maxLocals)
    (d0 : decode cc pc = .ok (.new ik, 3)) (d3 : decode cc (pc + 3) = .ok (.dup, 1)) (d4 : decode cc (pc + 4) = .ok (.ldc is, 2)) (d6 : decode cc (pc + 6) = .ok (.invokespecial ic, 3)) (d9 : decode cc (pc + 9) = .ok (.athrow, 1))
    (hout : ∀ x ∈ c.exceptionTable.toList, covers x (pc + 9) = false)
    (hRframes : names.length + 3 < R.frames) (hRlocals : (rest.map fun v => v.category).sum + (13 * (names.length + 1) + 43) ≤ R.locals) (hRcells : cells + 1 ≤ R.cells) (hRslots : slots + 6 ≤ R.slots) (hlocks : meth.locks = false)
    (hx : ∀ t : State, s.vm.Alike t.vm → H.size ≤ t.heap.size → (∀ q : Nat, q < H.size → t.heap[q]? = H[q]?) → XC cls s t)
    (hf : ∀ z ∈ locs, free z.base) (hc : cells + 1 ≤ mc) (hs : slots + 6 ≤ ms) :
    W p l e R s m args below meth c H locs cells slots (vx_MQ below Qc XC args s mc ms free) (F0 m pc ls rest) := by
  intro T hT X
  have htr : e.platform.stackTraces = false := (show e.platform.stackTraces = l.stackTraces by rw [X.admits.platform]).trans hl
  have Y := vx_rebase X (R' := { frames := R.frames, locals := R.locals, cells := 1, slots := 6 }) (Nat.le_refl _) (Nat.le_refl _) hRcells hRslots
  obtain ⟨s', hA⟩ : ∃ z, z = (T.setVm s.vm).setFrames (.invoking m args :: below) := ⟨_, rfl⟩
  rw [← hA] at Y
  have hvm : s'.vm = s.vm := by rw [hA]; rfl
  have hhp : s'.heap = H := by rw [hA]; exact hT
  have hW0 : s.WarmedH s'.vm := by rw [hvm]; exact State.WarmedH.refl s
  have hat' : ∀ w ∈ vx_atS own ic cls names, w.before args s' = true := fun w hw => vx_ot_at hW0 hvm.symm (hgood w (List.mem_cons_of_mem _ (List.mem_cons_of_mem _ hw))) (hat w hw)
  have hk' : (Cond.classLink own ik cls).before args s' = true := vx_ot_at hW0 hvm.symm (hgood _ List.mem_cons_self) hk
  have hini' : (Cond.initialized cls).before args s' = true := vx_ot_at hW0 hvm.symm (hgood _ (List.mem_cons_of_mem _ List.mem_cons_self)) hini
  have hU' : vx_Zq Bundle.tN "UNASSIGNED_STACK" Bundle.steD A s' s'.heap := by rw [hhp]; exact vx_Zq.moved hW0.alike (hU.kept hS.2.1)
  have hN' : vx_Zq Bundle.tN "SUPPRESSED_SENTINEL" Bundle.listD A s' s'.heap := by rw [hhp]; exact vx_Zq.moved hW0.alike (hN.kept hS.2.1)
  have h : ∀ w ∈ Bundle.ownAtoms own ic cls names, w.before args s' = true := vx_own hat' (vx_isRefq hU'.1) (vx_isRefq hN'.1) hU'.2.word hN'.2.word
  have hown' : s'.vm.findClass own = some m.cls := by rw [hvm]; exact hown
  have hins : (Cond.instantiable cls 6).before args s' = true := h _ (by simp [Bundle.ownAtoms])
  obtain ⟨vm₁, cX, kX, hfX, hkX, -, -, X₁, st1⟩ := Y.newCold hexec (own := own) (C := cls) (index := ik) (n := 6) hown' hk' hins hini'
    (g := F0 m pc ls rest) rfl (by rw [hb]; exact d0) (Nat.le_refl _) (Nat.le_refl _)
  generalize hT1 : (T.setVm vm₁).pushCell { cls := cX, slots := kX.instanceTypes.map defaultValue, vm := .none } = T1 at X₁ st1
  have hcat : (Value.ref T.heap.size).category = 1 := rfl
  have hcellA : T1.heap[T.heap.size]? = some (freshCell cX kX) := by rw [← hT1]; exact State.heap_pushCell_size _ _
  have d3' : decode c.code (pc + 3) = .ok (.dup, 1) := by rw [hb]; exact d3
  have d4' : decode c.code (pc + 4) = .ok (.ldc is, 2) := by rw [hb]; exact d4
  have hstr' : vk_R own is text sa s' := vk_R.warm hW0 hstr
  obtain ⟨U, hsteps, hrun, hend, hW, hsame, ce, hce, hO⟩ := X₁.ctorThrowS hexec htr (own := own) (cls := cls) (names := names) (ic := ic) hown' hcls hnames h (fun x hx => nomatch hx) hfX hkX hcellA (by rw [hhp, hT]; exact Nat.le_refl _) (msg := .ref sa) rfl
    (g := { method := m, pc := pc + 6, locals := ls, stack := .ref sa :: .ref T.heap.size :: .ref T.heap.size :: rest, locked := none }) rfl hsize rfl rfl (rest := rest) rfl
    (by rw [hb]; exact d6) (by rw [hb]; exact d9) hout hRframes (by simp only [List.map_cons, List.sum_cons, hcat]; omega) hlocks
  obtain ⟨f1, f2⟩ := vx_frame hsame
  rw [hhp] at f1 f2
  have hWs : s.WarmedH U.vm := State.WarmedH.trans hW0 hW
  have hcl : s.vm.findClass cls = some ce.cls := by
    have h9 := hO.cls
    rw [hvm] at h9
    exact h9
  have hall : s.sameButNew ({ U with vm := s.vm } : State) locs mc ms := by
    subst hA
    obtain ⟨e1, e2⟩ := hsame
    rw [State.setFrames_setFrames] at e1
    have h2 : (T.setVm s.vm).sameButNew ({ U with vm := s.vm } : State) [] (0 + 1) (0 + 6) := ⟨e1, e2⟩
    have h3 := X.same.trans h2
    rw [List.append_nil] at h3
    exact h3.mono hc hs
  refine ⟨U, ?_, .threw T.heap.size, hrun, hend, Or.inr ⟨T.heap.size, rfl, cls, ce, locs, hx U hWs.alike f1 (fun q hq => f2 q hq (fun z hz => nomatch hz)), hce, hO.vm, hcl, hWs, hall, hf⟩⟩
  refine st1 _ ?_
  show Steps p.tables e below (T1.setTop { method := m, pc := pc + 3, locals := ls, stack := .ref T.heap.size :: rest, locked := none }) _
  jvm_step X₁.here [X₁.here.top, hexec, d3', Value.category]
  exact X₁.ldcString hexec (own := own) (text := text) (index := is) (a := sa) hown' hstr'.1 hstr'.2
    (g := { method := m, pc := pc + 4, locals := ls, stack := .ref T.heap.size :: .ref T.heap.size :: rest, locked := none }) rfl d4' _ hsteps
/-- 'throw new E("text")', the text by a wide index -/
theorem vx_throwSW {cc : ByteArray} {pc : Nat} (hexec : p.tables.exec = Jvm.exec) (hb : c.code = cc) (hl : l.stackTraces = false) {own cls text : String} {names : List String} {ik is ic mc ms sa : Nat} {A : Nat → Prop}
    (hown : s.vm.findClass own = some m.cls) (hcls : Bundle.fit cls = true) (hnames : ∀ n ∈ names, Bundle.fit n = true)
    (hk : (Cond.classLink own ik cls).before args s = true) (hini : (Cond.initialized cls).before args s = true) (hstr : vk_R own is text sa s) (hat : ∀ w ∈ vx_atS own ic cls names, w.before args s = true)
    (hgood : ∀ w ∈ Cond.classLink own ik cls :: Cond.initialized cls :: vx_atS own ic cls names, vx_ot w = true)
    (hU : vx_Zq Bundle.tN "UNASSIGNED_STACK" Bundle.steD A s s.heap) (hN : vx_Zq Bundle.tN "SUPPRESSED_SENTINEL" Bundle.listD A s s.heap) (hS : va_S A s.heap H locs) (hsize : ls.size = c.maxLocals)
    (d0 : decode cc pc = .ok (.new ik, 3)) (d3 : decode cc (pc + 3) = .ok (.dup, 1)) (d4 : decode cc (pc + 4) = .ok (.ldc_w is, 3)) (d7 : decode cc (pc + 7) = .ok (.invokespecial ic, 3)) (d10 : decode cc (pc + 10) = .ok (.athrow, 1))
    (hout : ∀ x ∈ c.exceptionTable.toList, covers x (pc + 10) = false)
    (hRframes : names.length + 3 < R.frames) (hRlocals : (rest.map fun v => v.category).sum + (13 * (names.length + 1) + 43) ≤ R.locals) (hRcells : cells + 1 ≤ R.cells) (hRslots : slots + 6 ≤ R.slots) (hlocks : meth.locks = false)
    (hx : ∀ t : State, s.vm.Alike t.vm → H.size ≤ t.heap.size → (∀ q : Nat, q < H.size → t.heap[q]? = H[q]?) → XC cls s t)
    (hf : ∀ z ∈ locs, free z.base) (hc : cells + 1 ≤ mc) (hs : slots + 6 ≤ ms) :
    W p l e R s m args below meth c H locs cells slots (vx_MQ below Qc XC args s mc ms free) (F0 m pc ls rest) := by
  intro T hT X
  have htr : e.platform.stackTraces = false := (show e.platform.stackTraces = l.stackTraces by rw [X.admits.platform]).trans hl
  have Y := vx_rebase X (R' := { frames := R.frames, locals := R.locals, cells := 1, slots := 6 }) (Nat.le_refl _) (Nat.le_refl _) hRcells hRslots
  obtain ⟨s', hA⟩ : ∃ z, z = (T.setVm s.vm).setFrames (.invoking m args :: below) := ⟨_, rfl⟩
  rw [← hA] at Y
  have hvm : s'.vm = s.vm := by rw [hA]; rfl
  have hhp : s'.heap = H := by rw [hA]; exact hT
  have hW0 : s.WarmedH s'.vm := by rw [hvm]; exact State.WarmedH.refl s
  have hat' : ∀ w ∈ vx_atS own ic cls names, w.before args s' = true := fun w hw => vx_ot_at hW0 hvm.symm (hgood w (List.mem_cons_of_mem _ (List.mem_cons_of_mem _ hw))) (hat w hw)
  have hk' : (Cond.classLink own ik cls).before args s' = true := vx_ot_at hW0 hvm.symm (hgood _ List.mem_cons_self) hk
  have hini' : (Cond.initialized cls).before args s' = true := vx_ot_at hW0 hvm.symm (hgood _ (List.mem_cons_of_mem _ List.mem_cons_self)) hini
  have hU' : vx_Zq Bundle.tN "UNASSIGNED_STACK" Bundle.steD A s' s'.heap := by rw [hhp]; exact vx_Zq.moved hW0.alike (hU.kept hS.2.1)
  have hN' : vx_Zq Bundle.tN "SUPPRESSED_SENTINEL" Bundle.listD A s' s'.heap := by rw [hhp]; exact vx_Zq.moved hW0.alike (hN.kept hS.2.1)
  have h : ∀ w ∈ Bundle.ownAtoms own ic cls names, w.before args s' = true := vx_own hat' (vx_isRefq hU'.1) (vx_isRefq hN'.1) hU'.2.word hN'.2.word
  have hown' : s'.vm.findClass own = some m.cls := by rw [hvm]; exact hown
  have hins : (Cond.instantiable cls 6).before args s' = true := h _ (by simp [Bundle.ownAtoms])
  obtain ⟨vm₁, cX, kX, hfX, hkX, -, -, X₁, st1⟩ := Y.newCold hexec (own := own) (C := cls) (index := ik) (n := 6) hown' hk' hins hini'
    (g := F0 m pc ls rest) rfl (by rw [hb]; exact d0) (Nat.le_refl _) (Nat.le_refl _)
  generalize hT1 : (T.setVm vm₁).pushCell { cls := cX, slots := kX.instanceTypes.map defaultValue, vm := .none } = T1 at X₁ st1
  have hcat : (Value.ref T.heap.size).category = 1 := rfl
  have hcellA : T1.heap[T.heap.size]? = some (freshCell cX kX) := by rw [← hT1]; exact State.heap_pushCell_size _ _
  have d3' : decode c.code (pc + 3) = .ok (.dup, 1) := by rw [hb]; exact d3
  have d4' : decode c.code (pc + 4) = .ok (.ldc_w is, 3) := by rw [hb]; exact d4
  have hstr' : vk_R own is text sa s' := vk_R.warm hW0 hstr
  obtain ⟨U, hsteps, hrun, hend, hW, hsame, ce, hce, hO⟩ := X₁.ctorThrowS hexec htr (own := own) (cls := cls) (names := names) (ic := ic) hown' hcls hnames h (fun x hx => nomatch hx) hfX hkX hcellA (by rw [hhp, hT]; exact Nat.le_refl _) (msg := .ref sa) rfl
    (g := { method := m, pc := pc + 7, locals := ls, stack := .ref sa :: .ref T.heap.size :: .ref T.heap.size :: rest, locked := none }) rfl hsize rfl rfl (rest := rest) rfl
    (by rw [hb]; exact d7) (by rw [hb]; exact d10) hout hRframes (by simp only [List.map_cons, List.sum_cons, hcat]; omega) hlocks
  obtain ⟨f1, f2⟩ := vx_frame hsame
  rw [hhp] at f1 f2
  have hWs : s.WarmedH U.vm := State.WarmedH.trans hW0 hW
  have hcl : s.vm.findClass cls = some ce.cls := by
    have h9 := hO.cls
    rw [hvm] at h9
    exact h9
  have hall : s.sameButNew ({ U with vm := s.vm } : State) locs mc ms := by
    subst hA
    obtain ⟨e1, e2⟩ := hsame
    rw [State.setFrames_setFrames] at e1
    have h2 : (T.setVm s.vm).sameButNew ({ U with vm := s.vm } : State) [] (0 + 1) (0 + 6) := ⟨e1, e2⟩
    have h3 := X.same.trans h2
    rw [List.append_nil] at h3
    exact h3.mono hc hs
  refine ⟨U, ?_, .threw T.heap.size, hrun, hend, Or.inr ⟨T.heap.size, rfl, cls, ce, locs, hx U hWs.alike f1 (fun q hq => f2 q hq (fun z hz => nomatch hz)), hce, hO.vm, hcl, hWs, hall, hf⟩⟩
  refine st1 _ ?_
  show Steps p.tables e below (T1.setTop { method := m, pc := pc + 3, locals := ls, stack := .ref T.heap.size :: rest, locked := none }) _
  jvm_step X₁.here [X₁.here.top, hexec, d3', Value.category]
  exact X₁.ldcStringW hexec (own := own) (text := text) (index := is) (a := sa) hown' hstr'.1 hstr'.2
    (g := { method := m, pc := pc + 4, locals := ls, stack := .ref T.heap.size :: .ref T.heap.size :: rest, locked := none }) rfl d4' _ hsteps
end Ends
section Bodies
variable {l : Launch}
theorem vx_ofW {y : MethodName} {ws ws' : List Cond} {rm : Room} {Pc : Array Value → State → Prop} {Qc : Array Value → State → Outcome → State → Prop} {XC : String → State → State → Prop} {mc ms : Nat} {free : Addr → Prop} {cc : ByteArray} {maxL : Nat} {ret : Option FieldType}
    (hy : plainName y.cls = true) (hw : ws = Cond.code y cc maxL ret :: ws')
    (body : ∀ p e s m args below meth c s₁, BodyLoose p l y (headSpec ws rm) cc maxL ret e s m args below meth c s₁ → c.maxLocals = maxL → (∀ x ∈ c.exceptionTable.toList, False) → Pc args s →
      W p l e (headSpec ws rm).room s m args below meth c s.heap [] 0 0 (vx_MQ below Qc XC args s mc ms free) (entryFrame m args maxL)) : vx_Met l y ws rm Pc Qc XC mc ms free := by
  refine MetFree.of_bodyS (code := cc) (maxLocals := maxL) (ret := ret) hy ?_ ?_
  · intro args s m h hn
    obtain ⟨meth, c, h1, h2, h3, h4, h5, h6, -, -⟩ := Cond.code_spec hn (atoms_spec (ws := ws) h _ (by rw [hw]; exact List.mem_cons_self))
    exact ⟨meth, c, h1, h2, h3, h4, h5, h6⟩
  · intro p e s m args below meth c s₁ B hml hP _
    have hh0 : s₁.heap = s.heap := by rw [B.state]; rfl
    have ht : ∀ x ∈ c.exceptionTable.toList, False := by
      obtain ⟨meth9, c9, h1, h2, -, -, -, -, h7, -⟩ := Cond.code_spec B.named (atoms_spec (ws := ws) B.pre _ (by rw [hw]; exact List.mem_cons_self))
      cases Option.some.inj (h1.symm.trans B.method)
      cases Option.some.inj (h2.symm.trans (Stand.of_body B).code)
      intro x hx
      rw [Array.isEmpty_iff.mp h7] at hx
      cases hx
    obtain ⟨t, a1, o, b1, b2, b3⟩ := body p e s m args below meth c s₁ B hml ht hP s₁ hh0 (Stand.of_body B)
    exact ⟨t, o, a1, b1, b2, b3⟩
/-- the table of a body with handlers -/
theorem vx_table {p : Program} {x y : MethodName} {S : Spec} {cc bytes : ByteArray} {maxL maxL' : Nat} {ret ret' : Option FieldType} {e : Env} {s s₁ : State} {m : MethodId} {args : Array Value} {below : List Frame} {meth : Method} {c : Code} {hh : List (Nat × Nat × Nat × Nat)}
    (B : BodyLoose p l y S cc maxL ret e s m args below meth c s₁) (h : (Cond.codeWith y bytes maxL' ret' hh).before args s = true) : c.exceptionTable.toList = tableOf hh := by
  obtain ⟨m9, meth9, c9, hn9, h1, h2, -, -, h6, -⟩ := Cond.codeWith_spec h
  cases Option.some.inj (hn9.symm.trans B.named)
  cases Option.some.inj (h1.symm.trans B.method)
  cases Option.some.inj (h2.symm.trans (Stand.of_body B).code)
  rw [← h6, table_eq]
end Bodies
end VXA
/-! ===== END ===== -/
/-! ===== BEGIN a static call of a method with an exception table ===== -/
section VXS
variable {p : Program} {l : Launch} {e : Env} {R : Room} {s : State} {m : MethodId} {args : Array Value} {below : List Frame} {meth : Method} {c : Code} {T : State} {H : Heap} {locs : List Loc} {cells slots : Nat}
abbrev vx_CSW (R : Room) (s : State) (args : Array Value) (own : String) (index : Nat) (y : MethodName) (bytes : ByteArray) (maxL : Nat) (ret : Option FieldType) (hh : List (Nat × Nat × Nat × Nat)) (ws : List Cond) (rm : Room) (mc ms n : Nat) : Prop :=
  (rm.cells = mc ∧ rm.slots = ms ∧ rm.frames + 1 ≤ R.frames ∧ 8 + (maxL + 11) + rm.locals ≤ R.locals ∧ (∀ w ∈ ws, ∀ (a' : Array Value) (U : State), s.WarmedH U.vm → w.before a' U = true) ∧ Cond.codeWith y bytes maxL ret hh ∈ ws) ∧
  (Cond.codeWith y bytes maxL ret hh).before args s = true ∧ (Cond.initialized y.cls).before args s = true ∧ (y.cls ≠ "java/lang/invoke/MethodHandle" ∧ y.cls ≠ "java/lang/invoke/VarHandle") ∧
  (∀ sig, parseMethodDescriptor y.desc = some sig → n = sig.parameters.length) ∧ (Cond.methodLink own index y).before args s = true ∧ (Cond.static y).before args s = true
theorem vx_cwSW {own : String} {index maxL mc ms : Nat} {y : MethodName} {bytes : ByteArray} {ret : Option FieldType} {hh : List (Nat × Nat × Nat × Nat)} {Ts ws ws' : List Cond} {rm : Room} (n : Nat) (ht : ∀ w ∈ Ts, w.before args s = true) (hT : GoodIn Ts (va_wsS own index y ws)) (hw : ws = Cond.codeWith y bytes maxL ret hh :: ws') (hrc : rm.cells = mc) (hrs : rm.slots = ms)
    (hd : y.cls ≠ "java/lang/invoke/MethodHandle" ∧ y.cls ≠ "java/lang/invoke/VarHandle" ∧ (parseMethodDescriptor y.desc).map (fun d => d.parameters.length) = some n) (hR : rm.frames + 1 ≤ R.frames ∧ 8 + (maxL + 11) + rm.locals ≤ R.locals) :
    vx_CSW R s args own index y bytes maxL ret hh ws rm mc ms n := by
  have ok : ∀ w ∈ va_wsS own index y ws, w.before args s = true := fun w h => ht w (hT w h).1
  have hG : GoodIn Ts ws := fun w h => hT w (by unfold va_wsS; exact List.mem_append_right _ h)
  have hc : Cond.codeWith y bytes maxL ret hh ∈ ws := by rw [hw]; exact List.mem_cons_self
  refine ⟨⟨hrc, hrs, hR.1, hR.2, pay_in ht hG, hc⟩, ht _ (hG _ hc).1, ok _ (by simp [va_wsS]), ⟨hd.1, hd.2.1⟩, fun sig h => ?_, ok _ (by simp [va_wsS]), ok _ (by simp [va_wsS])⟩
  have h2 := hd.2.2
  rw [h] at h2
  exact (Option.some.inj h2).symm
theorem vx_callSW (X : Stand p l e R s m args below meth c T locs cells slots) (hexec : p.tables.exec = Jvm.exec) {own : String} {index : Nat} {y : MethodName} {bytes : ByteArray} {maxL : Nat} {ret : Option FieldType} {hh : List (Nat × Nat × Nat × Nat)}
    (hown : s.vm.findClass own = some m.cls) (hlink : (Cond.methodLink own index y).before args s = true) (hstat : (Cond.static y).before args s = true) (hinit : (Cond.initialized y.cls).before args s = true)
    (hcode : (Cond.codeWith y bytes maxL ret hh).before args s = true) (hy : y.cls ≠ "java/lang/invoke/MethodHandle" ∧ y.cls ≠ "java/lang/invoke/VarHandle")
    {W9 : Nat} {Pre : Pt → Array Value → Prop} {Post : Pt → Array Value → Option Value → Pt → Prop} (hK : Back l R p e below s args y 3 W9 Pre Post)
    {g : JFrame} (hg : g.method = m) (hsize : g.locals.size = c.maxLocals) {argsL rest : List Value} (hlen : ∀ sig, parseMethodDescriptor y.desc = some sig → argsL.length = sig.parameters.length)
    (hstack : g.stack = argsL.reverse ++ rest) (hW : 2 * g.monitorRoom + (rest.map fun v => v.category).sum ≤ W9) (hdg : decode c.code g.pc = .ok (.invokestatic index, 3))
    (hpre : ∀ vm₁, s.WarmedH vm₁ → Pre ⟨T.setVm vm₁, locs, cells, slots⟩ argsL.toArray) :
    ∃ (v : Option Value) (vm₁ : Vm) (B : Pt), s.WarmedH vm₁ ∧ Stand p l e R s m args below meth c B.U B.locs B.cells B.slots ∧ Post ⟨T.setVm vm₁, locs, cells, slots⟩ argsL.toArray v B ∧
      ∀ target, Steps p.tables e below (B.U.setTop { g with pc := g.pc + 3, stack := v.toList ++ rest }) target → Steps p.tables e below (T.setTop g) target := by
  obtain ⟨mk, methM, cM, hnamed, hmethM, -, -, -, -, -, -, hsigM⟩ := Cond.codeWith_spec hcode
  have hstatic : methM.isStatic = true := Cond.static_spec hnamed hmethM hstat
  obtain ⟨kP, hkP, -⟩ := className_of_methodNamed hnamed
  have hinitP : kP.init = .initialized := Cond.initialized_spec (findClass_of_methodNamed hnamed) hkP hinit
  obtain ⟨vm₁, X₁, hstep₁⟩ := X.invokestatic hexec hown hlink hnamed hmethM hstatic hkP hinitP hy (g := g) hg (argsL := argsL) (rest := rest) (hlen _ hsigM) hstack hdg
  obtain ⟨v, B, X', hpost, hsteps⟩ := hK m meth c ⟨T.setVm vm₁, locs, cells, slots⟩ { g with stack := rest } (.invokestatic index) mk argsL.toArray X₁ hg hsize hdg hW (X₁.named hnamed) (hpre vm₁ X₁.warmed)
  exact ⟨v, vm₁, B, X₁.warmed, X', hpost, fun target h => hstep₁ _ fun acts => by rw [doInvoke_state]; exact hsteps.trans h⟩
theorem vx_runSW {y : MethodName} {bytes cc : ByteArray} {maxL nL mc ms n index : Nat} {ret : Option FieldType} {hh : List (Nat × Nat × Nat × Nat)} {ws : List Cond} {rm : Room} {Pc : Array Value → State → Prop} {Qc : Array Value → State → Outcome → State → Prop} {free : Addr → Prop} {Ts : List Cond} {own : String} {As rest : List Value} {g : JFrame}
    (S : CallFix p m c cc nL s args Ts own) (hM : Met l y ws rm Pc Qc mc ms free) (cw : vx_CSW R s args own index y bytes maxL ret hh ws rm mc ms n) (hp : PreS s H Pc As)
    (hg : g.method = m) (hn : As.length = n) (hsize : g.locals.size = nL) (hstack : g.stack = As.reverse ++ rest) (hW : 2 * g.monitorRoom + (rest.map fun v => v.category).sum ≤ 8) (hdg : decode cc g.pc = .ok (.invokestatic index, 3)) (hf : cells + mc ≤ R.cells ∧ slots + ms ≤ R.slots) :
    va_Run p l e R s m args below meth c H locs cells slots mc ms g rest (Qc As.toArray) (free) := by
  obtain ⟨⟨hrc, hrs, hfr, hlo, hws, hcw⟩, hcode, hini, hy, hlen, hl, hstt⟩ := cw
  have hK : Back l R p e below s args y 3 8 (PreOf R mc ms Pc) (PostOf Qc mc ms free) := va_backW (hh := hh) (bytes := bytes) (maxL := maxL) (ret := ret) hM hp.1 hrc hrs hfr hlo hws hcw (fun a' U hW => word_at hW (Or.inl (by first | rfl | simp [Cond.onTables, Cond.keeps, Cond.steady])) hini)
  obtain ⟨hx, hb, hml, ho, -⟩ := S
  intro T hT X
  obtain ⟨v, vm₁, ⟨U', l2, c2, s2⟩, hW₁, X', ⟨g', mk, t, L, e1, e2, hq, h1, hL, h2, h3⟩, st⟩ := vx_callSW X hx (hh := hh) (bytes := bytes) (maxL := maxL) (ret := ret) ho hl hstt hini hcode hy hK hg (hsize.trans hml.symm) (argsL := As) (rest := rest) (fun sig h => hn.trans (hlen sig h)) hstack hW (by rw [hb]; exact hdg)
    (fun vm₁ hW₁ => ⟨hf.1, hf.2, hp.2 (T.setVm vm₁) hT hW₁⟩)
  dsimp only [Pt.U, Pt.locs, Pt.cells, Pt.slots] at X' e1 e2 h1 h2 h3 st
  subst h1; subst h2; subst h3
  exact ⟨v, (T.setVm vm₁).calling g' mk As.toArray, t, U', L, hT, X', hL, e1, e2, hq, st⟩
/-- not caught here, past rows that name other classes: it goes on to the caller -/
theorem vx_outP {p : Program} {l : Launch} {e : Env} {R : Room} {s : State} {m : MethodId} {args : Array Value} {below : List Frame} {meth : Method} {c : Code} {H : Heap} {locs : List Loc} {cells slots : Nat} {free : Addr → Prop} {ls : Array Slot} {rest : List Value} {Qc : Array Value → State → Outcome → State → Prop} {XC : String → State → State → Prop}
    {pc : Nat} {own E : String} {ce : Cell} {q : Addr} {mc ms : Nat} (hown : s.vm.findClass own = some m.cls) (hlocks : meth.locks = false)
    (hpass : ∀ z ∈ c.exceptionTable.toList, covers z pc = false ∨ (z.catchType ≠ 0 ∧ ∃ nm : String, (Cond.classLink own z.catchType nm).before args s = true ∧ va_Nc E nm s)) (hcell : H[q]? = some ce) (hv : ce.vm = .none) (hcl : s.vm.findClass E = some ce.cls)
    (hx : ∀ t : State, t.heap = H → s.vm.Alike t.vm → XC E s t) (hf : ∀ z ∈ locs, free z.base) (hc : cells ≤ mc) (hs : slots ≤ ms) :
    vx_W p l e R s m args below meth c H locs cells slots (vx_MQ below Qc XC args s mc ms free) (F0 m pc ls rest) q := by
  intro T hT X
  have hpl : e.platform.magicAccessors = ({} : Platform).magicAccessors := by rw [X.admits.platform]
  obtain ⟨vm', hW', X', st⟩ := X.outThrough hlocks q (g := F0 m pc ls rest) rfl rfl rfl (cell := ce) (by rw [hT]; exact hcell) (by rw [hv]; rfl)
    (by obtain ⟨k9, h9, -⟩ := Vm.findClass_spec hcl; exact ⟨k9, h9⟩) (fun z hz => by
      rcases hpass z hz with h | ⟨hz0, nm, hl1, hn1⟩
      · exact Or.inl h
      · obtain ⟨c6, hc6, hcl6⟩ := Cond.classLink_spec hown hl1 e.platform hpl
        obtain ⟨a8, b8, h1, h2, h3⟩ := hn1
        cases Option.some.inj (h1.symm.trans hcl)
        cases Option.some.inj (h2.symm.trans hc6)
        exact Or.inr ⟨hz0, _, hcl6, h3⟩)
  obtain ⟨g₀, hfr⟩ := X'.frames_eq
  have hcell9 : ((T.setVm vm').setFrames (.throwing q :: below)).heap[q]? = some ce := by
    show T.heap[q]? = some ce
    rw [hT]; exact hcell
  have hend : Ended ((T.setVm vm').setFrames (.throwing q :: below)) below (.threw q) := State.frames_setFrames _ (State.cur_lt_of_frames hfr)
  refine ⟨(T.setVm vm').setFrames (.throwing q :: below), ?_, .threw q, X'.here.running, hend, Or.inr ⟨q, rfl, E, ce, locs, hx _ hT (X'.ends _).1.alike, hcell9, hv, hcl, (X'.ends _).1, (X'.ends _).2.mono hc hs, hf⟩⟩
  rw [X.pushThrowing_eq]
  exact st
/-- a thing of a world lies in the heap -/
theorem vx_lt {D : va_G} {cl : List vw_C} {ws : va_W} {H1 : Heap} (h : va_P D cl ws H1) {k : Nat} {q : Nat × va_E} (hk : ws[k]? = some q) : q.1 < H1.size := (h k q hk).lt
end VXS
/-! ===== END ===== -/
/-! ===== BEGIN methods with a table of their own: called by a name, returning or throwing ===== -/
section VXH
/-! vx_backW, vx_callVX, vx_callSX, vx_callVW, vx_runVW, vx_runVX, vx_runSX, vx_ofWH follow the same proofs as their sisters above (Free/Laws.lean, Shelf42/LK1.lean); vx_outP calls Shelf42/NT130.lean (outThrough). -/
section
variable {l : Launch} {R : Room} {p : Program} {e : Env} {below : List Frame} {s : State} {sargs : Array Value} {y : MethodName} {len W9 : Nat}
theorem vx_backW {ws : List Cond} {rm : Room} {Pc : Array Value → State → Prop} {Qc : Array Value → State → Outcome → State → Prop} {XC : String → State → State → Prop} {mc ms : Nat} {free : Addr → Prop} {bytes : ByteArray} {maxL : Nat} {ret : Option FieldType} {hh : List (Nat × Nat × Nat × Nat)}
    (hM : vx_Met l y ws rm Pc Qc XC mc ms free) (hblind : FrameBlind Pc) (hrc : rm.cells = mc) (hrs : rm.slots = ms)
    (hframes : rm.frames + 1 ≤ R.frames) (hlocals : W9 + (maxL + 11) + rm.locals ≤ R.locals)
    (hws : ∀ w ∈ ws, ∀ a' U, s.WarmedH U.vm → w.before a' U = true) (hcode : Cond.codeWith y bytes maxL ret hh ∈ ws) (hinit : ∀ a' U, s.WarmedH U.vm → (Cond.initialized y.cls).before a' U = true) :
    vx_Back l R p e below s sargs y len W9 (PreOf R mc ms Pc) (PostOf Qc mc ms free) (vx_Post XC mc ms free) := by
  intro m meth c A g ig mk a X hg hsize hdg hW hn hp
  have h1 : (headSpec ws rm).pre.before a A.U = true := atoms_intro fun w hw => hws w hw _ _ X.warmed
  have h2 : (Cond.codeWith y bytes maxL ret hh).before a A.U = true := hws _ hcode _ _ X.warmed
  have h3 : (Cond.initialized y.cls).before a A.U = true := hinit _ _ X.warmed
  have h4 : A.cells + (headSpec ws rm).room.cells ≤ R.cells := by rw [show (headSpec ws rm).room.cells = mc from hrc]; exact hp.1
  have h5 : A.slots + (headSpec ws rm).room.slots ≤ R.slots := by rw [show (headSpec ws rm).room.slots = ms from hrs]; exact hp.2.1
  have hPc : Pc a (A.U.calling g mk a) := hblind _ _ _ _ hp.2.2
  obtain ⟨U, Ls, c0, s0⟩ := A
  dsimp only [Pt.U, Pt.locs, Pt.cells, Pt.slots] at h1 h2 h3 h4 h5 X hn hPc ⊢
  obtain ⟨m9, methY, cY, hn9, hmY, hcY, -, hlY, -⟩ := Cond.codeWith_spec h2
  cases Option.some.inj (hn9.symm.trans hn)
  obtain ⟨kY, hkY, -⟩ := className_of_methodNamed hn
  have hinitY : kY.init = .initialized := Cond.initialized_spec (findClass_of_methodNamed hn) hkY h3
  have h : At U g.method c below := by rw [hg]; exact X.here
  have hlocals9 : W9 + (maxL + 11) + (headSpec ws rm).room.locals ≤ R.locals := hlocals
  have happ : (headSpec ws rm).appliesLoose y e.platform (U.calling g mk a) = true :=
    Spec.appliesLoose_calling (g := g) h hdg hn hkY hinitY
      (X.room_calling (g := g) (R' := (headSpec ws rm).room) hsize hmY hcY hframes (by rw [hlY]; omega) h4 h5) h1
  obtain ⟨mid, hmid⟩ := h.above
  have hfr : (U.setTop g).frames = (.java g :: mid) ++ below := by rw [State.frames_setTop' g h.top, hmid]; rfl
  obtain ⟨o, s₂, hsteps, -, hend, hq⟩ := Steps.callFree hM p X.admits X.cas X.clock (acts := []) hfr happ hPc trivial
  have hq' : vx_Q Qc XC mc ms free a (U.calling g mk a) o s₂ := hq
  rw [State.frames_setTop' g h.top] at hend
  obtain ⟨g₀, hg0⟩ := Option.isSome_iff_exists.mp h.top
  obtain ⟨r, hr⟩ := State.topJava?_eq_some.mp hg0
  have hr' : (({ U with heap := s₂.heap, slotsUsed := s₂.slotsUsed } : State).setVm s₂.vm).frames = .java g₀ :: r := hr
  rcases hq' with ⟨hqc, L, hfe, hL⟩ | ⟨q, rfl, E, ce, L, hx, hce, hcv, hcl, hW₂, hsm, hL⟩
  · obtain ⟨⟨v, rfl⟩, hW₂, e2, q2, q3, q4, q5, q6⟩ := id hfe
    have e3 : s₂ = ({ (U.calling g mk a).setFrames s₂.frames with heap := s₂.heap, slotsUsed := s₂.slotsUsed } : State).setVm s₂.vm := by
      have : s₂ = ({ s₂ with vm := (U.calling g mk a).vm } : State).setVm s₂.vm := rfl
      rw [e2] at this
      exact this
    obtain ⟨c₂, i₂, len₂, hc₂, hd₂, hf₂⟩ := hend
    have hW' : U.WarmedH s₂.vm := hW₂
    have hcc : c₂ = c := by
      have h1 : s₂.code? g.method = U.code? g.method := by
        rw [State.code?_eq, State.code?_eq, hW'.alike.method?]
      exact Option.some.inj (hc₂.symm.trans (h1.trans h.code))
    subst hcc
    have hlen : len₂ = len := by rw [hdg] at hd₂; cases hd₂; rfl
    subst hlen
    have hs₂ : s₂ = (({ U with heap := s₂.heap, slotsUsed := s₂.slotsUsed } : State).setVm s₂.vm).setTop { g with pc := g.pc + len₂, stack := v.toList ++ g.stack } := by
      refine e3.trans ?_
      rw [hf₂, State.calling_eq h.top, State.setFrames_setFrames, State.setTop_of_frames _ hr', hr]
      rfl
    have hsame : U.sameButNew ({ U with heap := s₂.heap, slotsUsed := s₂.slotsUsed } : State) L mc ms := by
      refine ⟨?_, q2, q3, q4, q5, q6⟩
      obtain ⟨t, ht, -⟩ := State.frames_cons hr
      show ({ U with heap := s₂.heap, slotsUsed := s₂.slotsUsed } : State) = { U.setFrames U.frames with heap := s₂.heap, slotsUsed := s₂.slotsUsed }
      rw [State.setFrames_self ht]
    subst hg
    refine Or.inl ⟨v, ⟨(({ U with heap := s₂.heap, slotsUsed := s₂.slotsUsed } : State).setVm s₂.vm), Ls ++ L, c0 + mc, s0 + ms⟩,
      ⟨X.admits, X.cas, X.clock, X.frames, X.room, X.hears, X.method, X.code, (X.here.setHeapUsed s₂.heap s₂.slotsUsed).setVm hW'.alike, X.tail, State.WarmedH.trans X.warmed hW', X.limits, X.bytes, X.same.trans (hsame.setVm s.vm)⟩,
      ⟨g, mk, s₂, L, rfl, rfl, hqc, rfl, hL, rfl, rfl⟩, ?_⟩
    show Steps p.tables e below _ ((({ U with heap := s₂.heap, slotsUsed := s₂.slotsUsed } : State).setVm s₂.vm).setTop { g with pc := g.pc + len₂, stack := v.toList ++ g.stack })
    rw [← hs₂]
    exact hsteps
  · obtain ⟨e2, q2, q3, q4, q5, q6⟩ := id hsm
    have e3 : s₂ = ({ (U.calling g mk a).setFrames s₂.frames with heap := s₂.heap, slotsUsed := s₂.slotsUsed } : State).setVm s₂.vm := by
      have : s₂ = ({ s₂ with vm := (U.calling g mk a).vm } : State).setVm s₂.vm := rfl
      rw [e2] at this
      exact this
    have hf₂ : s₂.frames = .throwing q :: .java g :: U.frames.tail := hend
    have hW' : U.WarmedH s₂.vm := hW₂
    have hs₂ : s₂ = ((({ U with heap := s₂.heap, slotsUsed := s₂.slotsUsed } : State).setVm s₂.vm).setTop g).pushFrame (.throwing q) := by
      refine e3.trans ?_
      rw [hf₂, State.calling_eq h.top, State.setFrames_setFrames, State.pushFrame, State.frames_setTop _ hr', State.setTop_of_frames _ hr', State.setFrames_setFrames, hr]
      rfl
    have hsame : U.sameButNew ({ U with heap := s₂.heap, slotsUsed := s₂.slotsUsed } : State) L mc ms := by
      refine ⟨?_, q2, q3, q4, q5, q6⟩
      obtain ⟨t, ht, -⟩ := State.frames_cons hr
      show ({ U with heap := s₂.heap, slotsUsed := s₂.slotsUsed } : State) = { U.setFrames U.frames with heap := s₂.heap, slotsUsed := s₂.slotsUsed }
      rw [State.setFrames_self ht]
    subst hg
    refine Or.inr ⟨q, ⟨(({ U with heap := s₂.heap, slotsUsed := s₂.slotsUsed } : State).setVm s₂.vm), Ls ++ L, c0 + mc, s0 + ms⟩,
      ⟨X.admits, X.cas, X.clock, X.frames, X.room, X.hears, X.method, X.code, (X.here.setHeapUsed s₂.heap s₂.slotsUsed).setVm hW'.alike, X.tail, State.WarmedH.trans X.warmed hW', X.limits, X.bytes, X.same.trans (hsame.setVm s.vm)⟩,
      ⟨g, mk, s₂, L, E, ce, rfl, rfl, hx, hce, hcv, hcl, rfl, hL, rfl, rfl⟩, ?_⟩
    show Steps p.tables e below _ (((({ U with heap := s₂.heap, slotsUsed := s₂.slotsUsed } : State).setVm s₂.vm).setTop g).pushFrame (.throwing q))
    rw [← hs₂]
    exact hsteps
end
variable {p : Program} {l : Launch} {e : Env} {R : Room} {s : State} {m : MethodId} {args : Array Value} {below : List Frame} {meth : Method} {c : Code} {T : State} {H : Heap} {locs : List Loc} {cells slots : Nat}
theorem vx_callVX (X : Stand p l e R s m args below meth c T locs cells slots) (hexec : p.tables.exec = Jvm.exec) {own C : String} {index : Nat} {y : MethodName} {bytes : ByteArray} {maxL : Nat} {ret : Option FieldType} {hh : List (Nat × Nat × Nat × Nat)}
    (hown : s.vm.findClass own = some m.cls) (hlink : (Cond.methodLink own index y).before args s = true) (hinst : (Cond.instanceMethod y).before args s = true) (hsel : (Cond.selects C y y).before args s = true)
    (hcode : (Cond.codeWith y bytes maxL ret hh).before args s = true) (hy : y.cls ≠ "java/lang/invoke/MethodHandle" ∧ y.cls ≠ "java/lang/invoke/VarHandle")
    {W9 : Nat} {Pre : Pt → Array Value → Prop} {Post : Pt → Array Value → Option Value → Pt → Prop} {PostX : Pt → Array Value → Addr → Pt → Prop} (hK : vx_Back l R p e below s args y 3 W9 Pre Post PostX)
    {b : Addr} {cellB : Cell} (hcell : T.heap[b]? = some cellB) (hobj : cellB.vm.isStatics = false) (hcls : s.vm.findClass C = some cellB.cls)
    {g : JFrame} (hg : g.method = m) (hsize : g.locals.size = c.maxLocals) {argsL rest : List Value} (hlen : ∀ sig, parseMethodDescriptor y.desc = some sig → argsL.length = sig.parameters.length)
    (hstack : g.stack = argsL.reverse ++ .ref b :: rest) (hW : 2 * g.monitorRoom + (rest.map fun v => v.category).sum ≤ W9) (hdg : decode c.code g.pc = .ok (.invokevirtual index, 3))
    (hpre : ∀ vm₁, s.WarmedH vm₁ → Pre ⟨T.setVm vm₁, locs, cells, slots⟩ (Value.ref b :: argsL).toArray) :
    (∃ (v : Option Value) (vm₁ : Vm) (B : Pt), s.WarmedH vm₁ ∧ Stand p l e R s m args below meth c B.U B.locs B.cells B.slots ∧ Post ⟨T.setVm vm₁, locs, cells, slots⟩ (Value.ref b :: argsL).toArray v B ∧
      ∀ target, Steps p.tables e below (B.U.setTop { g with pc := g.pc + 3, stack := v.toList ++ rest }) target → Steps p.tables e below (T.setTop g) target) ∨
    (∃ (q : Addr) (vm₁ : Vm) (B : Pt), s.WarmedH vm₁ ∧ Stand p l e R s m args below meth c B.U B.locs B.cells B.slots ∧ PostX ⟨T.setVm vm₁, locs, cells, slots⟩ (Value.ref b :: argsL).toArray q B ∧
      Steps p.tables e below (T.setTop g) ((B.U.setTop { g with stack := rest }).pushFrame (.throwing q))) := by
  obtain ⟨mk, methM, hnamed, hmethM, hstM, habM⟩ := Cond.instanceMethod_spec hinst
  obtain ⟨m8, methM', cM, hn8, hmethM', -, -, -, -, -, -, hsigM⟩ := Cond.codeWith_spec hcode
  cases Option.some.inj (hn8.symm.trans hnamed)
  cases hmethM.symm.trans hmethM'
  obtain ⟨c2, r2, m2, q1, q2, q3, q4, kP, hkP, hkPi⟩ := Cond.selects_spec hsel
  cases hcls.symm.trans q1
  cases (State.methodFound?_of_named hnamed hy).symm.trans q2
  cases hnamed.symm.trans q3
  have hselP : selectMethod e.platform s.vm cellB.cls mk = .method mk := by rw [Launch.admits_selectMethod X.admits]; exact q4
  obtain ⟨vm₁, X₁, hstep₁⟩ := X.invokevirtual hexec hown hlink hnamed hmethM hstM hkP hkPi hy (a := b) (cell := cellB) hcell
    (fun z h => by rw [h] at hobj; cases hobj) hselP hmethM habM hkP hkPi (g := g) hg (argsL := argsL) (rest := rest) (hlen _ hsigM) hstack hdg
  rcases hK m meth c ⟨T.setVm vm₁, locs, cells, slots⟩ { g with stack := rest } (.invokevirtual index) mk (Value.ref b :: argsL).toArray X₁ hg hsize hdg hW (X₁.named hnamed) (hpre vm₁ X₁.warmed) with ⟨v, B, X', hpost, hsteps⟩ | ⟨q, B, X', hpost, hsteps⟩
  · exact Or.inl ⟨v, vm₁, B, X₁.warmed, X', hpost, fun target h => hstep₁ _ fun acts => by rw [doInvoke_state]; exact hsteps.trans h⟩
  · exact Or.inr ⟨q, vm₁, B, X₁.warmed, X', hpost, hstep₁ _ fun acts => by rw [doInvoke_state]; exact hsteps⟩
theorem vx_callSX (X : Stand p l e R s m args below meth c T locs cells slots) (hexec : p.tables.exec = Jvm.exec) {own : String} {index : Nat} {y : MethodName} {bytes : ByteArray} {maxL : Nat} {ret : Option FieldType} {hh : List (Nat × Nat × Nat × Nat)}
    (hown : s.vm.findClass own = some m.cls) (hlink : (Cond.methodLink own index y).before args s = true) (hstat : (Cond.static y).before args s = true) (hinit : (Cond.initialized y.cls).before args s = true)
    (hcode : (Cond.codeWith y bytes maxL ret hh).before args s = true) (hy : y.cls ≠ "java/lang/invoke/MethodHandle" ∧ y.cls ≠ "java/lang/invoke/VarHandle")
    {W9 : Nat} {Pre : Pt → Array Value → Prop} {Post : Pt → Array Value → Option Value → Pt → Prop} {PostX : Pt → Array Value → Addr → Pt → Prop} (hK : vx_Back l R p e below s args y 3 W9 Pre Post PostX)
    {g : JFrame} (hg : g.method = m) (hsize : g.locals.size = c.maxLocals) {argsL rest : List Value} (hlen : ∀ sig, parseMethodDescriptor y.desc = some sig → argsL.length = sig.parameters.length)
    (hstack : g.stack = argsL.reverse ++ rest) (hW : 2 * g.monitorRoom + (rest.map fun v => v.category).sum ≤ W9) (hdg : decode c.code g.pc = .ok (.invokestatic index, 3))
    (hpre : ∀ vm₁, s.WarmedH vm₁ → Pre ⟨T.setVm vm₁, locs, cells, slots⟩ argsL.toArray) :
    (∃ (v : Option Value) (vm₁ : Vm) (B : Pt), s.WarmedH vm₁ ∧ Stand p l e R s m args below meth c B.U B.locs B.cells B.slots ∧ Post ⟨T.setVm vm₁, locs, cells, slots⟩ argsL.toArray v B ∧
      ∀ target, Steps p.tables e below (B.U.setTop { g with pc := g.pc + 3, stack := v.toList ++ rest }) target → Steps p.tables e below (T.setTop g) target) ∨
    (∃ (q : Addr) (vm₁ : Vm) (B : Pt), s.WarmedH vm₁ ∧ Stand p l e R s m args below meth c B.U B.locs B.cells B.slots ∧ PostX ⟨T.setVm vm₁, locs, cells, slots⟩ argsL.toArray q B ∧
      Steps p.tables e below (T.setTop g) ((B.U.setTop { g with stack := rest }).pushFrame (.throwing q))) := by
  obtain ⟨mk, methM, cM, hnamed, hmethM, -, -, -, -, -, -, hsigM⟩ := Cond.codeWith_spec hcode
  have hstatic : methM.isStatic = true := Cond.static_spec hnamed hmethM hstat
  obtain ⟨kP, hkP, -⟩ := className_of_methodNamed hnamed
  have hinitP : kP.init = .initialized := Cond.initialized_spec (findClass_of_methodNamed hnamed) hkP hinit
  obtain ⟨vm₁, X₁, hstep₁⟩ := X.invokestatic hexec hown hlink hnamed hmethM hstatic hkP hinitP hy (g := g) hg (argsL := argsL) (rest := rest) (hlen _ hsigM) hstack hdg
  rcases hK m meth c ⟨T.setVm vm₁, locs, cells, slots⟩ { g with stack := rest } (.invokestatic index) mk argsL.toArray X₁ hg hsize hdg hW (X₁.named hnamed) (hpre vm₁ X₁.warmed) with ⟨v, B, X', hpost, hsteps⟩ | ⟨q, B, X', hpost, hsteps⟩
  · exact Or.inl ⟨v, vm₁, B, X₁.warmed, X', hpost, fun target h => hstep₁ _ fun acts => by rw [doInvoke_state]; exact hsteps.trans h⟩
  · exact Or.inr ⟨q, vm₁, B, X₁.warmed, X', hpost, hstep₁ _ fun acts => by rw [doInvoke_state]; exact hsteps⟩
theorem vx_callVW (X : Stand p l e R s m args below meth c T locs cells slots) (hexec : p.tables.exec = Jvm.exec) {own C : String} {index : Nat} {y : MethodName} {bytes : ByteArray} {maxL : Nat} {ret : Option FieldType} {hh : List (Nat × Nat × Nat × Nat)}
    (hown : s.vm.findClass own = some m.cls) (hlink : (Cond.methodLink own index y).before args s = true) (hinst : (Cond.instanceMethod y).before args s = true) (hsel : (Cond.selects C y y).before args s = true)
    (hcode : (Cond.codeWith y bytes maxL ret hh).before args s = true) (hy : y.cls ≠ "java/lang/invoke/MethodHandle" ∧ y.cls ≠ "java/lang/invoke/VarHandle")
    {W9 : Nat} {Pre : Pt → Array Value → Prop} {Post : Pt → Array Value → Option Value → Pt → Prop} (hK : Back l R p e below s args y 3 W9 Pre Post)
    {b : Addr} {cellB : Cell} (hcell : T.heap[b]? = some cellB) (hobj : cellB.vm.isStatics = false) (hcls : s.vm.findClass C = some cellB.cls)
    {g : JFrame} (hg : g.method = m) (hsize : g.locals.size = c.maxLocals) {argsL rest : List Value} (hlen : ∀ sig, parseMethodDescriptor y.desc = some sig → argsL.length = sig.parameters.length)
    (hstack : g.stack = argsL.reverse ++ .ref b :: rest) (hW : 2 * g.monitorRoom + (rest.map fun v => v.category).sum ≤ W9) (hdg : decode c.code g.pc = .ok (.invokevirtual index, 3))
    (hpre : ∀ vm₁, s.WarmedH vm₁ → Pre ⟨T.setVm vm₁, locs, cells, slots⟩ (Value.ref b :: argsL).toArray) :
    ∃ (v : Option Value) (vm₁ : Vm) (B : Pt), s.WarmedH vm₁ ∧ Stand p l e R s m args below meth c B.U B.locs B.cells B.slots ∧ Post ⟨T.setVm vm₁, locs, cells, slots⟩ (Value.ref b :: argsL).toArray v B ∧
      ∀ target, Steps p.tables e below (B.U.setTop { g with pc := g.pc + 3, stack := v.toList ++ rest }) target → Steps p.tables e below (T.setTop g) target := by
  obtain ⟨mk, methM, hnamed, hmethM, hstM, habM⟩ := Cond.instanceMethod_spec hinst
  obtain ⟨m8, methM', cM, hn8, hmethM', -, -, -, -, -, -, hsigM⟩ := Cond.codeWith_spec hcode
  cases Option.some.inj (hn8.symm.trans hnamed)
  cases hmethM.symm.trans hmethM'
  obtain ⟨c2, r2, m2, q1, q2, q3, q4, kP, hkP, hkPi⟩ := Cond.selects_spec hsel
  cases hcls.symm.trans q1
  cases (State.methodFound?_of_named hnamed hy).symm.trans q2
  cases hnamed.symm.trans q3
  have hselP : selectMethod e.platform s.vm cellB.cls mk = .method mk := by rw [Launch.admits_selectMethod X.admits]; exact q4
  obtain ⟨vm₁, X₁, hstep₁⟩ := X.invokevirtual hexec hown hlink hnamed hmethM hstM hkP hkPi hy (a := b) (cell := cellB) hcell
    (fun z h => by rw [h] at hobj; cases hobj) hselP hmethM habM hkP hkPi (g := g) hg (argsL := argsL) (rest := rest) (hlen _ hsigM) hstack hdg
  obtain ⟨v, B, X', hpost, hsteps⟩ := hK m meth c ⟨T.setVm vm₁, locs, cells, slots⟩ { g with stack := rest } (.invokevirtual index) mk (Value.ref b :: argsL).toArray X₁ hg hsize hdg hW (X₁.named hnamed) (hpre vm₁ X₁.warmed)
  exact ⟨v, vm₁, B, X₁.warmed, X', hpost, fun target h => hstep₁ _ fun acts => by rw [doInvoke_state]; exact hsteps.trans h⟩
abbrev vx_CVW (R : Room) (s : State) (args : Array Value) (own C : String) (index : Nat) (y : MethodName) (bytes : ByteArray) (maxL : Nat) (ret : Option FieldType) (hh : List (Nat × Nat × Nat × Nat)) (ws : List Cond) (rm : Room) (mc ms n : Nat) : Prop :=
  (rm.cells = mc ∧ rm.slots = ms ∧ rm.frames + 1 ≤ R.frames ∧ 8 + (maxL + 11) + rm.locals ≤ R.locals ∧ (∀ w ∈ ws, ∀ (a' : Array Value) (U : State), s.WarmedH U.vm → w.before a' U = true) ∧ Cond.codeWith y bytes maxL ret hh ∈ ws) ∧
  (Cond.codeWith y bytes maxL ret hh).before args s = true ∧ (Cond.initialized y.cls).before args s = true ∧ (y.cls ≠ "java/lang/invoke/MethodHandle" ∧ y.cls ≠ "java/lang/invoke/VarHandle") ∧
  (∀ sig, parseMethodDescriptor y.desc = some sig → n = sig.parameters.length) ∧ (Cond.methodLink own index y).before args s = true ∧ (Cond.instanceMethod y).before args s = true ∧ (Cond.selects C y y).before args s = true
theorem vx_cwVW {own C : String} {index maxL mc ms : Nat} {y : MethodName} {bytes : ByteArray} {ret : Option FieldType} {hh : List (Nat × Nat × Nat × Nat)} {Ts ws ws' : List Cond} {rm : Room} (n : Nat) (ht : ∀ w ∈ Ts, w.before args s = true) (hT : GoodIn Ts (wsV own index C y ws)) (hw : ws = Cond.codeWith y bytes maxL ret hh :: ws') (hrc : rm.cells = mc) (hrs : rm.slots = ms)
    (hd : y.cls = C ∧ y.cls ≠ "java/lang/invoke/MethodHandle" ∧ y.cls ≠ "java/lang/invoke/VarHandle" ∧ (parseMethodDescriptor y.desc).map (fun d => d.parameters.length) = some n) (hR : rm.frames + 1 ≤ R.frames ∧ 8 + (maxL + 11) + rm.locals ≤ R.locals) :
    vx_CVW R s args own C index y bytes maxL ret hh ws rm mc ms n := by
  obtain ⟨hC, hd⟩ := hd
  subst hC
  have ok : ∀ w ∈ wsV own index y.cls y ws, w.before args s = true := fun w h => ht w (hT w h).1
  have hG : GoodIn Ts ws := fun w h => hT w (by unfold wsV; exact List.mem_append_right _ h)
  have hc : Cond.codeWith y bytes maxL ret hh ∈ ws := by rw [hw]; exact List.mem_cons_self
  refine ⟨⟨hrc, hrs, hR.1, hR.2, pay_in ht hG, hc⟩, ht _ (hG _ hc).1, ok _ (by simp [wsV]), ⟨hd.1, hd.2.1⟩, fun sig h => ?_, ok _ (by simp [wsV]), ok _ (by simp [wsV]), ok _ (by simp [wsV])⟩
  have h2 := hd.2.2
  rw [h] at h2
  exact (Option.some.inj h2).symm
theorem vx_runVW {y : MethodName} {bytes cc : ByteArray} {maxL nL mc ms n index : Nat} {ret : Option FieldType} {hh : List (Nat × Nat × Nat × Nat)} {ws : List Cond} {rm : Room} {Pc : Array Value → State → Prop} {Qc : Array Value → State → Outcome → State → Prop} {free : Addr → Prop} {Ts : List Cond} {own C : String} {b : Addr} {As rest : List Value} {g : JFrame}
    (S : CallFix p m c cc nL s args Ts own) (hM : Met l y ws rm Pc Qc mc ms free) (cw : vx_CVW R s args own C index y bytes maxL ret hh ws rm mc ms n) (hp : PreV s H C b Pc As)
    (hg : g.method = m) (hn : As.length = n) (hsize : g.locals.size = nL) (hstack : g.stack = As.reverse ++ .ref b :: rest) (hW : 2 * g.monitorRoom + (rest.map fun v => v.category).sum ≤ 8) (hdg : decode cc g.pc = .ok (.invokevirtual index, 3)) (hf : cells + mc ≤ R.cells ∧ slots + ms ≤ R.slots) :
    va_Run p l e R s m args below meth c H locs cells slots mc ms g rest (Qc (Value.ref b :: As).toArray) free := by
  obtain ⟨⟨hrc, hrs, hfr, hlo, hws, hcw⟩, hcode, hini, hy, hlen, hl, hin, hse⟩ := cw
  have hK : Back l R p e below s args y 3 8 (PreOf R mc ms Pc) (PostOf Qc mc ms free) := va_backW (hh := hh) (bytes := bytes) (maxL := maxL) (ret := ret) hM hp.1 hrc hrs hfr hlo hws hcw (fun a' U hW => word_at hW (Or.inl (by first | rfl | simp [Cond.onTables, Cond.keeps, Cond.steady])) hini)
  obtain ⟨hx, hb, hml, ho, -⟩ := S
  obtain ⟨-, ⟨cellB, hcB, hoB, hclB⟩, hPc⟩ := hp
  intro T hT X
  obtain ⟨v, vm₁, ⟨U', l2, c2, s2⟩, hW₁, X', ⟨g', mk, t, L, e1, e2, hq, h1, hL, h2, h3⟩, st⟩ := vx_callVW X hx (C := C) (hh := hh) (bytes := bytes) (maxL := maxL) (ret := ret) ho hl hin hse hcode hy hK (by rw [hT]; exact hcB) hoB hclB hg (hsize.trans hml.symm) (argsL := As) (rest := rest) (fun sig h => hn.trans (hlen sig h)) hstack hW (by rw [hb]; exact hdg)
    (fun vm₁ hW₁ => ⟨hf.1, hf.2, hPc (T.setVm vm₁) hT hW₁⟩)
  dsimp only [Pt.U, Pt.locs, Pt.cells, Pt.slots] at X' e1 e2 h1 h2 h3 st
  subst h1; subst h2; subst h3
  exact ⟨v, (T.setVm vm₁).calling g' mk (Value.ref b :: As).toArray, t, U', L, hT, X', hL, e1, e2, hq, st⟩
section
variable {y : MethodName} {bytes cc : ByteArray} {maxL nL mc ms n index : Nat} {ret : Option FieldType} {ws : List Cond} {rm : Room} {Pc : Array Value → State → Prop} {Qc : Array Value → State → Outcome → State → Prop} {XC : String → State → State → Prop} {free : Addr → Prop} {Ts : List Cond} {own C : String} {b : Addr} {As rest : List Value} {g : JFrame}
theorem vx_runVX {hh : List (Nat × Nat × Nat × Nat)} (S : CallFix p m c cc nL s args Ts own) (hM : vx_Met l y ws rm Pc Qc XC mc ms free) (cw : vx_CVW R s args own C index y bytes maxL ret hh ws rm mc ms n) (hp : PreV s H C b Pc As)
    (hg : g.method = m) (hn : As.length = n) (hsize : g.locals.size = nL) (hstack : g.stack = As.reverse ++ .ref b :: rest) (hW : 2 * g.monitorRoom + (rest.map fun v => v.category).sum ≤ 8) (hdg : decode cc g.pc = .ok (.invokevirtual index, 3)) (hf : cells + mc ≤ R.cells ∧ slots + ms ≤ R.slots) :
    vx_Run p l e R s m args below meth c H locs cells slots mc ms g rest (Qc (Value.ref b :: As).toArray) XC free := by
  obtain ⟨⟨hrc, hrs, hfr, hlo, hws, hcw⟩, hcode, hini, hy, hlen, hl, hin, hse⟩ := cw
  have hK : vx_Back l R p e below s args y 3 8 (PreOf R mc ms Pc) (PostOf Qc mc ms free) (vx_Post XC mc ms free) := vx_backW (hh := hh) (bytes := bytes) (maxL := maxL) (ret := ret) hM hp.1 hrc hrs hfr hlo hws hcw (fun a' U hW => word_at hW (Or.inl (by first | rfl | simp [Cond.onTables, Cond.keeps, Cond.steady])) hini)
  obtain ⟨hx, hb, hml, ho, -⟩ := S
  obtain ⟨-, ⟨cellB, hcB, hoB, hclB⟩, hPc⟩ := hp
  intro T hT X
  rcases vx_callVX X hx (C := C) (hh := hh) (bytes := bytes) (maxL := maxL) (ret := ret) ho hl hin hse hcode hy hK (by rw [hT]; exact hcB) hoB hclB hg (hsize.trans hml.symm) (argsL := As) (rest := rest) (fun sig h => hn.trans (hlen sig h)) hstack hW (by rw [hb]; exact hdg)
    (fun vm₁ hW₁ => ⟨hf.1, hf.2, hPc (T.setVm vm₁) hT hW₁⟩) with ⟨v, vm₁, ⟨U', l2, c2, s2⟩, hW₁, X', ⟨g', mk, t, L, e1, e2, hq, h1, hL, h2, h3⟩, st⟩ | ⟨q, vm₁, ⟨U', l2, c2, s2⟩, hW₁, X', ⟨g', mk, t, L, E, ce, e1, e2, hq, hce, hcv, hcl, h1, hL, h2, h3⟩, st⟩
  · dsimp only [Pt.U, Pt.locs, Pt.cells, Pt.slots] at X' e1 e2 h1 h2 h3 st
    subst h1; subst h2; subst h3
    exact Or.inl ⟨v, (T.setVm vm₁).calling g' mk (Value.ref b :: As).toArray, t, U', L, hT, X', hL, e1, e2, hq, st⟩
  · dsimp only [Pt.U, Pt.locs, Pt.cells, Pt.slots] at X' e1 e2 h1 h2 h3 st hcl
    subst h1; subst h2; subst h3
    exact Or.inr ⟨q, (T.setVm vm₁).calling g' mk (Value.ref b :: As).toArray, t, U', L, E, ce, hT, X', hL, e1, e2, hq, hce, hcv, vx_cls hW₁ hcl, st⟩
theorem vx_runSX {hh : List (Nat × Nat × Nat × Nat)} (S : CallFix p m c cc nL s args Ts own) (hM : vx_Met l y ws rm Pc Qc XC mc ms free) (cw : vx_CSW R s args own index y bytes maxL ret hh ws rm mc ms n) (hp : PreS s H Pc As)
    (hg : g.method = m) (hn : As.length = n) (hsize : g.locals.size = nL) (hstack : g.stack = As.reverse ++ rest) (hW : 2 * g.monitorRoom + (rest.map fun v => v.category).sum ≤ 8) (hdg : decode cc g.pc = .ok (.invokestatic index, 3)) (hf : cells + mc ≤ R.cells ∧ slots + ms ≤ R.slots) :
    vx_Run p l e R s m args below meth c H locs cells slots mc ms g rest (Qc As.toArray) XC free := by
  obtain ⟨⟨hrc, hrs, hfr, hlo, hws, hcw⟩, hcode, hini, hy, hlen, hl, hstt⟩ := cw
  have hK : vx_Back l R p e below s args y 3 8 (PreOf R mc ms Pc) (PostOf Qc mc ms free) (vx_Post XC mc ms free) := vx_backW (hh := hh) (bytes := bytes) (maxL := maxL) (ret := ret) hM hp.1 hrc hrs hfr hlo hws hcw (fun a' U hW => word_at hW (Or.inl (by first | rfl | simp [Cond.onTables, Cond.keeps, Cond.steady])) hini)
  obtain ⟨hx, hb, hml, ho, -⟩ := S
  intro T hT X
  rcases vx_callSX X hx (hh := hh) (bytes := bytes) (maxL := maxL) (ret := ret) ho hl hstt hini hcode hy hK hg (hsize.trans hml.symm) (argsL := As) (rest := rest) (fun sig h => hn.trans (hlen sig h)) hstack hW (by rw [hb]; exact hdg)
    (fun vm₁ hW₁ => ⟨hf.1, hf.2, hp.2 (T.setVm vm₁) hT hW₁⟩) with ⟨v, vm₁, ⟨U', l2, c2, s2⟩, hW₁, X', ⟨g', mk, t, L, e1, e2, hq, h1, hL, h2, h3⟩, st⟩ | ⟨q, vm₁, ⟨U', l2, c2, s2⟩, hW₁, X', ⟨g', mk, t, L, E, ce, e1, e2, hq, hce, hcv, hcl, h1, hL, h2, h3⟩, st⟩
  · dsimp only [Pt.U, Pt.locs, Pt.cells, Pt.slots] at X' e1 e2 h1 h2 h3 st
    subst h1; subst h2; subst h3
    exact Or.inl ⟨v, (T.setVm vm₁).calling g' mk As.toArray, t, U', L, hT, X', hL, e1, e2, hq, st⟩
  · dsimp only [Pt.U, Pt.locs, Pt.cells, Pt.slots] at X' e1 e2 h1 h2 h3 st hcl
    subst h1; subst h2; subst h3
    exact Or.inr ⟨q, (T.setVm vm₁).calling g' mk As.toArray, t, U', L, E, ce, hT, X', hL, e1, e2, hq, hce, hcv, vx_cls hW₁ hcl, st⟩
end
end VXH
theorem vx_ofWH {l : Launch} {y : MethodName} {ws ws' : List Cond} {rm : Room} {Pc : Array Value → State → Prop} {Qc : Array Value → State → Outcome → State → Prop} {XC : String → State → State → Prop} {mc ms : Nat} {free : Addr → Prop} {cc : ByteArray} {maxL : Nat} {ret : Option FieldType} {hh : List (Nat × Nat × Nat × Nat)}
    (hy : plainName y.cls = true) (hw : ws = Cond.codeWith y cc maxL ret hh :: ws')
    (body : ∀ p e s m args below meth c s₁, BodyLoose p l y (headSpec ws rm) cc maxL ret e s m args below meth c s₁ → c.maxLocals = maxL → Pc args s →
      W p l e (headSpec ws rm).room s m args below meth c s.heap [] 0 0 (vx_MQ below Qc XC args s mc ms free) (entryFrame m args maxL)) : vx_Met l y ws rm Pc Qc XC mc ms free := by
  refine MetFree.of_bodyS (code := cc) (maxLocals := maxL) (ret := ret) hy ?_ ?_
  · intro args s m h hn
    obtain ⟨m9, meth, c, hn9, h1, h2, h3, h4, -, h5, h6, -⟩ := Cond.codeWith_spec (atoms_spec (ws := ws) h _ (by rw [hw]; exact List.mem_cons_self))
    cases hn.symm.trans hn9
    exact ⟨meth, c, h1, h2, h3, h4, h5, h6⟩
  · intro p e s m args below meth c s₁ B hml hP _
    have hh0 : s₁.heap = s.heap := by rw [B.state]; rfl
    obtain ⟨t, a1, o, b1, b2, b3⟩ := body p e s m args below meth c s₁ B hml hP s₁ hh0 (Stand.of_body B)
    exact ⟨t, o, a1, b1, b2, b3⟩
/-! ===== END ===== -/
end
section
/-! ===== BEGIN printed: names, fields, word lists, decode rows ===== -/
def RX0 : String := "HiddenCandles$Palette"
def TX0 : u_T := fun k => match k with
  | 0 => ("HiddenCandles$Palette", "colours", "I", true)
  | 1 => ("HiddenCandles$Palette", "codes", "I", true)
  | 2 => ("HiddenCandles$Palette", "candles", "[[I", true)
  | _ => ("HiddenCandles$Palette", "table", "[[I", true)
def tyX0 : Nat → FieldType := fun k => match k with
  | 0 => .int
  | 1 => .int
  | 2 => .array (.array .int)
  | _ => .array (.array .int)
abbrev wsX00 : List Cond := u_ws RX0 TX0 4
theorem nmX0 : ∀ a, a < 4 → ∀ b, b < 4 → a ≠ b → (TX0 a).2.1 ≠ (TX0 b).2.1 := by decide +kernel
theorem tyX0_ok : ∀ k, k < 4 → parseFieldDescriptor (TX0 k).2.2.1 = some (tyX0 k) := by decide +kernel
abbrev cX0_init : ByteArray := prog_2_method_1_code
def yX0_init : MethodName := ⟨RX0, "<init>", "(I)V"⟩
abbrev cX0_lightCandles : ByteArray := prog_2_method_2_code
def yX0_lightCandles : MethodName := ⟨RX0, "lightCandles", "()V"⟩
abbrev cX0_tallies : ByteArray := prog_2_method_3_code
def yX0_tallies : MethodName := ⟨RX0, "tallies", "()[[I"⟩
abbrev cX0_fillTable : ByteArray := prog_2_method_4_code
def yX0_fillTable : MethodName := ⟨RX0, "fillTable", "([[I)V"⟩
abbrev cX0_countSame : ByteArray := prog_2_method_5_code
def yX0_countSame : MethodName := ⟨RX0, "countSame", "([I[I)I"⟩
abbrev cX0_countShared : ByteArray := prog_2_method_6_code
def yX0_countShared : MethodName := ⟨RX0, "countShared", "([I[I)I"⟩
abbrev cX0_hasCode : ByteArray := prog_2_method_7_code
def yX0_hasCode : MethodName := ⟨RX0, "hasCode", "(I)Z"⟩
abbrev cX0_colourOf : ByteArray := prog_2_method_8_code
def yX0_colourOf : MethodName := ⟨RX0, "colourOf", "(II)I"⟩
abbrev cX0_answerTo : ByteArray := prog_2_method_9_code
def yX0_answerTo : MethodName := ⟨RX0, "answerTo", "(II)I"⟩
def RX1 : String := "HiddenCandles"
def TX1 : u_T := fun k => match k with
  | 0 => ("HiddenCandles", "fewColours", "LHiddenCandles$Palette;", true)
  | 1 => ("HiddenCandles", "manyColours", "LHiddenCandles$Palette;", true)
  | 2 => ("HiddenCandles", "palette", "LHiddenCandles$Palette;", false)
  | 3 => ("HiddenCandles", "hidden", "I", false)
  | 4 => ("HiddenCandles", "guesses", "I", false)
  | 5 => ("HiddenCandles", "guessed", "[I", true)
  | 6 => ("HiddenCandles", "answers", "[I", true)
  | 7 => ("HiddenCandles", "doubted", "[Z", true)
  | 8 => ("HiddenCandles", "open", "[Z", true)
  | 9 => ("HiddenCandles", "play", "[Z", true)
  | _ => ("HiddenCandles", "heaps", "[I", true)
def tyX1 : Nat → FieldType := fun k => match k with
  | 0 => .object "HiddenCandles$Palette"
  | 1 => .object "HiddenCandles$Palette"
  | 2 => .object "HiddenCandles$Palette"
  | 3 => .int
  | 4 => .int
  | 5 => .array .int
  | 6 => .array .int
  | 7 => .array .boolean
  | 8 => .array .boolean
  | 9 => .array .boolean
  | _ => .array .int
abbrev wsX10 : List Cond := u_ws RX1 TX1 11
theorem nmX1 : ∀ a, a < 11 → ∀ b, b < 11 → a ≠ b → (TX1 a).2.1 ≠ (TX1 b).2.1 := by decide +kernel
theorem tyX1_ok : ∀ k, k < 11 → parseFieldDescriptor (TX1 k).2.2.1 = some (tyX1 k) := by decide +kernel
abbrev cX1_init : ByteArray := prog_1_method_1_code
def yX1_init : MethodName := ⟨RX1, "<init>", "()V"⟩
abbrev cX1_setColours : ByteArray := prog_1_method_2_code
def yX1_setColours : MethodName := ⟨RX1, "setColours", "(I)I"⟩
abbrev cX1_hide : ByteArray := prog_1_method_3_code
def yX1_hide : MethodName := ⟨RX1, "hide", "(I)I"⟩
abbrev cX1_swap : ByteArray := prog_1_method_4_code
def yX1_swap : MethodName := ⟨RX1, "swap", "(II)I"⟩
abbrev cX1_guess : ByteArray := prog_1_method_5_code
def yX1_guess : MethodName := ⟨RX1, "guess", "(I)I"⟩
abbrev cX1_tell : ByteArray := prog_1_method_6_code
def yX1_tell : MethodName := ⟨RX1, "tell", "(III)I"⟩
abbrev cX1_doubt : ByteArray := prog_1_method_7_code
def yX1_doubt : MethodName := ⟨RX1, "doubt", "(IZ)Z"⟩
abbrev cX1_forget : ByteArray := prog_1_method_8_code
def yX1_forget : MethodName := ⟨RX1, "forget", "()I"⟩
abbrev cX1_colour : ByteArray := prog_1_method_9_code
def yX1_colour : MethodName := ⟨RX1, "colour", "(II)I"⟩
abbrev cX1_pins : ByteArray := prog_1_method_10_code
def yX1_pins : MethodName := ⟨RX1, "pins", "(II)I"⟩
abbrev cX1_told : ByteArray := prog_1_method_11_code
def yX1_told : MethodName := ⟨RX1, "told", "(II)I"⟩
abbrev cX1_count : ByteArray := prog_1_method_12_code
def yX1_count : MethodName := ⟨RX1, "count", "(I)I"⟩
abbrev cX1_isPossible : ByteArray := prog_1_method_13_code
def yX1_isPossible : MethodName := ⟨RX1, "isPossible", "(I)Z"⟩
abbrev cX1_possible : ByteArray := prog_1_method_14_code
def yX1_possible : MethodName := ⟨RX1, "possible", "(I)I"⟩
abbrev cX1_have : ByteArray := prog_1_method_15_code
def yX1_have : MethodName := ⟨RX1, "have", "(II)I"⟩
abbrev cX1_sure : ByteArray := prog_1_method_16_code
def yX1_sure : MethodName := ⟨RX1, "sure", "(I)I"⟩
abbrev cX1_worst : ByteArray := prog_1_method_17_code
def yX1_worst : MethodName := ⟨RX1, "worst", "(I)I"⟩
abbrev cX1_parts : ByteArray := prog_1_method_18_code
def yX1_parts : MethodName := ⟨RX1, "parts", "(I)I"⟩
abbrev cX1_best : ByteArray := prog_1_method_19_code
def yX1_best : MethodName := ⟨RX1, "best", "()I"⟩
abbrev cX1_takes : ByteArray := prog_1_method_20_code
def yX1_takes : MethodName := ⟨RX1, "takes", "(II)I"⟩
abbrev cX1_mean : ByteArray := prog_1_method_21_code
def yX1_mean : MethodName := ⟨RX1, "mean", "()D"⟩
abbrev cX1_digest : ByteArray := prog_1_method_22_code
def yX1_digest : MethodName := ⟨RX1, "digest", "()J"⟩
abbrev cX1_mix : ByteArray := prog_1_method_23_code
def yX1_mix : MethodName := ⟨RX1, "mix", "(JI)J"⟩
abbrev cX1_needCode : ByteArray := prog_1_method_24_code
def yX1_needCode : MethodName := ⟨RX1, "needCode", "(I)V"⟩
abbrev cX1_needPlace : ByteArray := prog_1_method_25_code
def yX1_needPlace : MethodName := ⟨RX1, "needPlace", "(I)V"⟩
abbrev cX1_needHidden : ByteArray := prog_1_method_26_code
def yX1_needHidden : MethodName := ⟨RX1, "needHidden", "()V"⟩
abbrev cX1_needPins : ByteArray := prog_1_method_27_code
def yX1_needPins : MethodName := ⟨RX1, "needPins", "(II)V"⟩
abbrev cX1_hasGuess : ByteArray := prog_1_method_28_code
def yX1_hasGuess : MethodName := ⟨RX1, "hasGuess", "(I)Z"⟩
abbrev cX1_append : ByteArray := prog_1_method_29_code
def yX1_append : MethodName := ⟨RX1, "append", "(II)V"⟩
abbrev cX1_sieve : ByteArray := prog_1_method_30_code
def yX1_sieve : MethodName := ⟨RX1, "sieve", "()V"⟩
abbrev cX1_fits : ByteArray := prog_1_method_31_code
def yX1_fits : MethodName := ⟨RX1, "fits", "(II)Z"⟩
abbrev cX1_countFitting : ByteArray := prog_1_method_32_code
def yX1_countFitting : MethodName := ⟨RX1, "countFitting", "(I)I"⟩
abbrev cX1_countAnswering : ByteArray := prog_1_method_33_code
def yX1_countAnswering : MethodName := ⟨RX1, "countAnswering", "(II)I"⟩
abbrev cX1_countAllBlack : ByteArray := prog_1_method_34_code
def yX1_countAllBlack : MethodName := ⟨RX1, "countAllBlack", "()I"⟩
abbrev cX1_countDoubted : ByteArray := prog_1_method_35_code
def yX1_countDoubted : MethodName := ⟨RX1, "countDoubted", "()I"⟩
abbrev cX1_isIn : ByteArray := prog_1_method_36_code
def yX1_isIn : MethodName := ⟨RX1, "isIn", "([ZI)Z"⟩
abbrev cX1_size : ByteArray := prog_1_method_37_code
def yX1_size : MethodName := ⟨RX1, "size", "([Z)I"⟩
abbrev cX1_memberAt : ByteArray := prog_1_method_38_code
def yX1_memberAt : MethodName := ⟨RX1, "memberAt", "([ZI)I"⟩
abbrev cX1_countHaving : ByteArray := prog_1_method_39_code
def yX1_countHaving : MethodName := ⟨RX1, "countHaving", "(II)I"⟩
abbrev cX1_keepAnswering : ByteArray := prog_1_method_40_code
def yX1_keepAnswering : MethodName := ⟨RX1, "keepAnswering", "([ZII)V"⟩
abbrev cX1_heapUp : ByteArray := prog_1_method_41_code
def yX1_heapUp : MethodName := ⟨RX1, "heapUp", "(I[Z)V"⟩
abbrev cX1_greatestHeap : ByteArray := prog_1_method_42_code
def yX1_greatestHeap : MethodName := ⟨RX1, "greatestHeap", "(I[Z)I"⟩
abbrev cX1_leastBad : ByteArray := prog_1_method_43_code
def yX1_leastBad : MethodName := ⟨RX1, "leastBad", "([ZZ)I"⟩
def RX2 : String := "HiddenCandlesModel"
def TX2 : u_T := fun k => match k with
  | 0 => ("HiddenCandlesModel", "thrown", "I", false)
  | 1 => ("HiddenCandlesModel", "colours", "I", false)
  | 2 => ("HiddenCandlesModel", "hidden", "I", false)
  | 3 => ("HiddenCandlesModel", "guesses", "I", false)
  | 4 => ("HiddenCandlesModel", "code", "[I", true)
  | 5 => ("HiddenCandlesModel", "answer", "[I", true)
  | 6 => ("HiddenCandlesModel", "doubted", "[I", true)
  | 7 => ("HiddenCandlesModel", "many", "I", false)
  | 8 => ("HiddenCandlesModel", "row", "[I", true)
  | 9 => ("HiddenCandlesModel", "heap", "[I", true)
  | 10 => ("HiddenCandlesModel", "ours", "[I", true)
  | _ => ("HiddenCandlesModel", "theirs", "[I", true)
def tyX2 : Nat → FieldType := fun k => match k with
  | 0 => .int
  | 1 => .int
  | 2 => .int
  | 3 => .int
  | 4 => .array .int
  | 5 => .array .int
  | 6 => .array .int
  | 7 => .int
  | 8 => .array .int
  | 9 => .array .int
  | 10 => .array .int
  | _ => .array .int
abbrev wsX20 : List Cond := u_ws RX2 TX2 12
theorem nmX2 : ∀ a, a < 12 → ∀ b, b < 12 → a ≠ b → (TX2 a).2.1 ≠ (TX2 b).2.1 := by decide +kernel
theorem tyX2_ok : ∀ k, k < 12 → parseFieldDescriptor (TX2 k).2.2.1 = some (tyX2 k) := by decide +kernel
abbrev cX2_init : ByteArray := prog_4_method_1_code
def yX2_init : MethodName := ⟨RX2, "<init>", "()V"⟩
abbrev cX2_thrown : ByteArray := prog_4_method_2_code
def yX2_thrown : MethodName := ⟨RX2, "thrown", "()I"⟩
abbrev cX2_no : ByteArray := prog_4_method_3_code
def yX2_no : MethodName := ⟨RX2, "no", "(I)I"⟩
abbrev cX2_isIn : ByteArray := prog_4_method_4_code
def yX2_isIn : MethodName := ⟨RX2, "isIn", "(III)Z"⟩
abbrev cX2_codes : ByteArray := prog_4_method_5_code
def yX2_codes : MethodName := ⟨RX2, "codes", "()I"⟩
abbrev cX2_isCode : ByteArray := prog_4_method_6_code
def yX2_isCode : MethodName := ⟨RX2, "isCode", "(I)Z"⟩
abbrev cX2_isGuess : ByteArray := prog_4_method_7_code
def yX2_isGuess : MethodName := ⟨RX2, "isGuess", "(I)Z"⟩
abbrev cX2_isPlace : ByteArray := prog_4_method_8_code
def yX2_isPlace : MethodName := ⟨RX2, "isPlace", "(I)Z"⟩
abbrev cX2_weight : ByteArray := prog_4_method_9_code
def yX2_weight : MethodName := ⟨RX2, "weight", "(I)I"⟩
abbrev cX2_at : ByteArray := prog_4_method_10_code
def yX2_at : MethodName := ⟨RX2, "at", "(II)I"⟩
abbrev cX2_answerTo : ByteArray := prog_4_method_11_code
def yX2_answerTo : MethodName := ⟨RX2, "answerTo", "(II)I"⟩
abbrev cX2_fits : ByteArray := prog_4_method_12_code
def yX2_fits : MethodName := ⟨RX2, "fits", "(II)Z"⟩
abbrev cX2_look : ByteArray := prog_4_method_13_code
def yX2_look : MethodName := ⟨RX2, "look", "(I)I"⟩
abbrev cX2_pile : ByteArray := prog_4_method_14_code
def yX2_pile : MethodName := ⟨RX2, "pile", "(I)V"⟩
abbrev cX2_greatest : ByteArray := prog_4_method_15_code
def yX2_greatest : MethodName := ⟨RX2, "greatest", "(I)I"⟩
abbrev cX2_heaps : ByteArray := prog_4_method_16_code
def yX2_heaps : MethodName := ⟨RX2, "heaps", "(I)I"⟩
abbrev cX2_place : ByteArray := prog_4_method_17_code
def yX2_place : MethodName := ⟨RX2, "place", "(I)I"⟩
abbrev cX2_setColours : ByteArray := prog_4_method_18_code
def yX2_setColours : MethodName := ⟨RX2, "setColours", "(I)I"⟩
abbrev cX2_hide : ByteArray := prog_4_method_19_code
def yX2_hide : MethodName := ⟨RX2, "hide", "(I)I"⟩
abbrev cX2_swap : ByteArray := prog_4_method_20_code
def yX2_swap : MethodName := ⟨RX2, "swap", "(II)I"⟩
abbrev cX2_note : ByteArray := prog_4_method_21_code
def yX2_note : MethodName := ⟨RX2, "note", "(II)V"⟩
abbrev cX2_guess : ByteArray := prog_4_method_22_code
def yX2_guess : MethodName := ⟨RX2, "guess", "(I)I"⟩
abbrev cX2_tell : ByteArray := prog_4_method_23_code
def yX2_tell : MethodName := ⟨RX2, "tell", "(III)I"⟩
abbrev cX2_doubt : ByteArray := prog_4_method_24_code
def yX2_doubt : MethodName := ⟨RX2, "doubt", "(IZ)Z"⟩
abbrev cX2_forget : ByteArray := prog_4_method_25_code
def yX2_forget : MethodName := ⟨RX2, "forget", "()I"⟩
abbrev cX2_colour : ByteArray := prog_4_method_26_code
def yX2_colour : MethodName := ⟨RX2, "colour", "(II)I"⟩
abbrev cX2_pins : ByteArray := prog_4_method_27_code
def yX2_pins : MethodName := ⟨RX2, "pins", "(II)I"⟩
abbrev cX2_alike : ByteArray := prog_4_method_28_code
def yX2_alike : MethodName := ⟨RX2, "alike", "(I)I"⟩
abbrev cX2_guessTold : ByteArray := prog_4_method_29_code
def yX2_guessTold : MethodName := ⟨RX2, "guessTold", "(II)I"⟩
abbrev cX2_told : ByteArray := prog_4_method_30_code
def yX2_told : MethodName := ⟨RX2, "told", "(II)I"⟩
abbrev cX2_counted : ByteArray := prog_4_method_31_code
def yX2_counted : MethodName := ⟨RX2, "counted", "(I)I"⟩
abbrev cX2_count : ByteArray := prog_4_method_32_code
def yX2_count : MethodName := ⟨RX2, "count", "(I)I"⟩
abbrev cX2_isPossible : ByteArray := prog_4_method_33_code
def yX2_isPossible : MethodName := ⟨RX2, "isPossible", "(I)Z"⟩
abbrev cX2_possible : ByteArray := prog_4_method_34_code
def yX2_possible : MethodName := ⟨RX2, "possible", "(I)I"⟩
abbrev cX2_have : ByteArray := prog_4_method_35_code
def yX2_have : MethodName := ⟨RX2, "have", "(III)I"⟩
abbrev cX2_have_ : ByteArray := prog_4_method_36_code
def yX2_have_ : MethodName := ⟨RX2, "have", "(II)I"⟩
abbrev cX2_sureAt : ByteArray := prog_4_method_37_code
def yX2_sureAt : MethodName := ⟨RX2, "sureAt", "(I)I"⟩
abbrev cX2_sure : ByteArray := prog_4_method_38_code
def yX2_sure : MethodName := ⟨RX2, "sure", "(I)I"⟩
abbrev cX2_worst : ByteArray := prog_4_method_39_code
def yX2_worst : MethodName := ⟨RX2, "worst", "(I)I"⟩
abbrev cX2_parts : ByteArray := prog_4_method_40_code
def yX2_parts : MethodName := ⟨RX2, "parts", "(I)I"⟩
abbrev cX2_best : ByteArray := prog_4_method_41_code
def yX2_best : MethodName := ⟨RX2, "best", "()I"⟩
abbrev cX2_keep : ByteArray := prog_4_method_42_code
def yX2_keep : MethodName := ⟨RX2, "keep", "(II)V"⟩
abbrev cX2_ofRow : ByteArray := prog_4_method_43_code
def yX2_ofRow : MethodName := ⟨RX2, "ofRow", "()I"⟩
abbrev cX2_takes : ByteArray := prog_4_method_44_code
def yX2_takes : MethodName := ⟨RX2, "takes", "(II)I"⟩
abbrev cX2_mean : ByteArray := prog_4_method_45_code
def yX2_mean : MethodName := ⟨RX2, "mean", "()D"⟩
abbrev cX2_digest : ByteArray := prog_4_method_46_code
def yX2_digest : MethodName := ⟨RX2, "digest", "()J"⟩
def RJx145de : String := "java/io/Serializable"
def TJx145de : u_T := fun k => match k with
  | _ => ("", "", "", false)
def tyJx145de : Nat → FieldType := fun k => match k with
  | _ => .int
abbrev wsJx145de0 : List Cond := u_ws RJx145de TJx145de 0
theorem nmJx145de : ∀ a, a < 0 → ∀ b, b < 0 → a ≠ b → (TJx145de a).2.1 ≠ (TJx145de b).2.1 := by decide +kernel
theorem tyJx145de_ok : ∀ k, k < 0 → parseFieldDescriptor (TJx145de k).2.2.1 = some (tyJx145de k) := by decide +kernel
def RJ9 : String := "java/lang/Math"
def TJ9 : u_T := fun k => match k with
  | _ => ("", "", "", false)
def tyJ9 : Nat → FieldType := fun k => match k with
  | _ => .int
abbrev wsJ90 : List Cond := u_ws RJ9 TJ9 0
theorem nmJ9 : ∀ a, a < 0 → ∀ b, b < 0 → a ≠ b → (TJ9 a).2.1 ≠ (TJ9 b).2.1 := by decide +kernel
theorem tyJ9_ok : ∀ k, k < 0 → parseFieldDescriptor (TJ9 k).2.2.1 = some (tyJ9 k) := by decide +kernel
abbrev cJ9_max_7cf53 : ByteArray := prog_9_method_65_code
def yJ9_max_7cf53 : MethodName := ⟨RJ9, "max", "(II)I"⟩
abbrev cJ9_min_7cf53 : ByteArray := prog_9_method_69_code
def yJ9_min_7cf53 : MethodName := ⟨RJ9, "min", "(II)I"⟩
def RJ0 : String := "java/lang/String"
def TJ0 : u_T := fun k => match k with
  | _ => ("", "", "", false)
def tyJ0 : Nat → FieldType := fun k => match k with
  | _ => .int
abbrev wsJ00 : List Cond := u_ws RJ0 TJ0 0
theorem nmJ0 : ∀ a, a < 0 → ∀ b, b < 0 → a ≠ b → (TJ0 a).2.1 ≠ (TJ0 b).2.1 := by decide +kernel
theorem tyJ0_ok : ∀ k, k < 0 → parseFieldDescriptor (TJ0 k).2.2.1 = some (tyJ0 k) := by decide +kernel
def RJ7 : String := "java/util/Arrays"
def TJ7 : u_T := fun k => match k with
  | _ => ("", "", "", false)
def tyJ7 : Nat → FieldType := fun k => match k with
  | _ => .int
abbrev wsJ70 : List Cond := u_ws RJ7 TJ7 0
theorem nmJ7 : ∀ a, a < 0 → ∀ b, b < 0 → a ≠ b → (TJ7 a).2.1 ≠ (TJ7 b).2.1 := by decide +kernel
theorem tyJ7_ok : ∀ k, k < 0 → parseFieldDescriptor (TJ7 k).2.2.1 = some (tyJ7 k) := by decide +kernel
abbrev cJ7_fill_53178 : ByteArray := prog_13_method_103_code
def yJ7_fill_53178 : MethodName := ⟨RJ7, "fill", "([II)V"⟩
def RL : String := "HiddenCandlesLaw"
abbrev cL_setColours : ByteArray := method_3_code
def yL_setColours : MethodName := ⟨RL, "setColours", "(LHiddenCandles;I[J)I"⟩
abbrev cL_hide : ByteArray := method_4_code
def yL_hide : MethodName := ⟨RL, "hide", "(LHiddenCandles;I[J)I"⟩
abbrev cL_swap : ByteArray := method_5_code
def yL_swap : MethodName := ⟨RL, "swap", "(LHiddenCandles;II[J)I"⟩
abbrev cL_guess : ByteArray := method_6_code
def yL_guess : MethodName := ⟨RL, "guess", "(LHiddenCandles;I[J)I"⟩
abbrev cL_tell : ByteArray := method_7_code
def yL_tell : MethodName := ⟨RL, "tell", "(LHiddenCandles;III[J)I"⟩
abbrev cL_doubt : ByteArray := method_8_code
def yL_doubt : MethodName := ⟨RL, "doubt", "(LHiddenCandles;IZ[J)I"⟩
abbrev cL_forget : ByteArray := method_9_code
def yL_forget : MethodName := ⟨RL, "forget", "(LHiddenCandles;[J)I"⟩
abbrev cL_colour : ByteArray := method_10_code
def yL_colour : MethodName := ⟨RL, "colour", "(LHiddenCandles;II[J)I"⟩
abbrev cL_pins : ByteArray := method_11_code
def yL_pins : MethodName := ⟨RL, "pins", "(LHiddenCandles;II[J)I"⟩
abbrev cL_told : ByteArray := method_12_code
def yL_told : MethodName := ⟨RL, "told", "(LHiddenCandles;II[J)I"⟩
abbrev cL_count : ByteArray := method_13_code
def yL_count : MethodName := ⟨RL, "count", "(LHiddenCandles;I[J)I"⟩
abbrev cL_isPossible : ByteArray := method_14_code
def yL_isPossible : MethodName := ⟨RL, "isPossible", "(LHiddenCandles;I[J)I"⟩
abbrev cL_possible : ByteArray := method_15_code
def yL_possible : MethodName := ⟨RL, "possible", "(LHiddenCandles;I[J)I"⟩
abbrev cL_have : ByteArray := method_16_code
def yL_have : MethodName := ⟨RL, "have", "(LHiddenCandles;II[J)I"⟩
abbrev cL_sure : ByteArray := method_17_code
def yL_sure : MethodName := ⟨RL, "sure", "(LHiddenCandles;I[J)I"⟩
abbrev cL_worst : ByteArray := method_18_code
def yL_worst : MethodName := ⟨RL, "worst", "(LHiddenCandles;I[J)I"⟩
abbrev cL_parts : ByteArray := method_19_code
def yL_parts : MethodName := ⟨RL, "parts", "(LHiddenCandles;I[J)I"⟩
abbrev cL_takes : ByteArray := method_20_code
def yL_takes : MethodName := ⟨RL, "takes", "(LHiddenCandles;II[J)I"⟩
abbrev cL_law : ByteArray := code
def yL_law : MethodName := ⟨RL, "law", "([I)Z"⟩
def wsX0_lightCandles : List Cond := .code yX0_lightCandles cX0_lightCandles 4 none :: ([.fieldLink RX0 20 "HiddenCandles$Palette" "candles" "[[I", .fieldLink RX0 9 "HiddenCandles$Palette" "colours" "I"] ++ wsX00)
def wsX0_tallies : List Cond := .code yX0_tallies cX0_tallies 5 (some (.array (.array .int))) :: ([.fieldLink RX0 15 "HiddenCandles$Palette" "codes" "I", .fieldLink RX0 9 "HiddenCandles$Palette" "colours" "I", .classLink RX0 18 "[[I", .arrayClass .int, .fieldLink RX0 20 "HiddenCandles$Palette" "candles" "[[I"] ++ wsX00)
def wsX0_countSame : List Cond := .code yX0_countSame cX0_countSame 4 (some .int) :: ([])
def wsX0_countShared : List Cond := .code yX0_countShared cX0_countShared 4 (some .int) :: ([.methodLink RX0 44 Lib.Math.min.name, .static Lib.Math.min.name, .initialized "java/lang/Math", .code Lib.Math.min.name Lib.Math.min.code 2 (some .int)])
def wsX0_fillTable : List Cond := .code yX0_fillTable cX0_fillTable 7 none :: ([.fieldLink RX0 15 "HiddenCandles$Palette" "codes" "I", .fieldLink RX0 20 "HiddenCandles$Palette" "candles" "[[I", .fieldLink RX0 23 "HiddenCandles$Palette" "table" "[[I", .methodLink RX0 37 yX0_countSame, .static yX0_countSame, .initialized RX0, .code yX0_countSame cX0_countSame 4 (some .int), .methodLink RX0 41 yX0_countShared, .static yX0_countShared, .code yX0_countShared cX0_countShared 4 (some .int), .methodLink RX0 44 Lib.Math.min.name, .static Lib.Math.min.name, .initialized "java/lang/Math", .code Lib.Math.min.name Lib.Math.min.code 2 (some .int)] ++ wsX00)
def wsX0_init_r1 : List Cond := [Cond.methodLink RX0 3 objectInit, Cond.instanceMethod objectInit, Cond.code objectInit ⟨#[0xb1]⟩ 1 none, Cond.fieldLink RX0 9 "HiddenCandles$Palette" "colours" "I", Cond.fieldLink RX0 15 "HiddenCandles$Palette" "codes" "I", Cond.classLink RX0 18 "[[I", Cond.arrayClass .int, Cond.fieldLink RX0 20 "HiddenCandles$Palette" "candles" "[[I", Cond.fieldLink RX0 23 "HiddenCandles$Palette" "table" "[[I", Cond.methodLink RX0 26 yX0_lightCandles, Cond.instanceMethod yX0_lightCandles, Cond.selects RX0 yX0_lightCandles yX0_lightCandles, Cond.initialized RX0, Cond.code yX0_lightCandles cX0_lightCandles 4 none, Cond.methodLink RX0 29 yX0_tallies, Cond.instanceMethod yX0_tallies, Cond.selects RX0 yX0_tallies yX0_tallies, Cond.code yX0_tallies cX0_tallies 5 (some (.array (.array .int))), Cond.methodLink RX0 33 yX0_fillTable, Cond.instanceMethod yX0_fillTable, Cond.selects RX0 yX0_fillTable yX0_fillTable, Cond.code yX0_fillTable cX0_fillTable 7 none, Cond.methodLink RX0 37 yX0_countSame, Cond.static yX0_countSame]
def wsX0_init_r2 : List Cond := [Cond.code yX0_countSame cX0_countSame 4 (some .int), Cond.methodLink RX0 41 yX0_countShared, Cond.static yX0_countShared, Cond.code yX0_countShared cX0_countShared 4 (some .int), Cond.methodLink RX0 44 Lib.Math.min.name, Cond.static Lib.Math.min.name, Cond.initialized "java/lang/Math", Cond.code Lib.Math.min.name Lib.Math.min.code 2 (some .int)]
def wsX0_init : List Cond := .code yX0_init cX0_init 2 none :: ((wsX0_init_r1 ++ wsX0_init_r2) ++ wsX00)
def wsX0_hasCode : List Cond := .code yX0_hasCode cX0_hasCode 2 (some .boolean) :: ([.fieldLink RX0 15 "HiddenCandles$Palette" "codes" "I"] ++ wsX00)
def wsX0_colourOf : List Cond := .code yX0_colourOf cX0_colourOf 3 (some .int) :: ([.fieldLink RX0 20 "HiddenCandles$Palette" "candles" "[[I", .methodLink RX0 50 yX0_hasCode, .instanceMethod yX0_hasCode, .selects RX0 yX0_hasCode yX0_hasCode, .initialized RX0, .code yX0_hasCode cX0_hasCode 2 (some .boolean), .fieldLink RX0 15 "HiddenCandles$Palette" "codes" "I"] ++ wsX00)
def wsX0_answerTo : List Cond := .code yX0_answerTo cX0_answerTo 3 (some .int) :: ([.fieldLink RX0 23 "HiddenCandles$Palette" "table" "[[I", .methodLink RX0 50 yX0_hasCode, .instanceMethod yX0_hasCode, .selects RX0 yX0_hasCode yX0_hasCode, .initialized RX0, .code yX0_hasCode cX0_hasCode 2 (some .boolean), .fieldLink RX0 15 "HiddenCandles$Palette" "codes" "I"] ++ wsX00)
def wsX1_fits : List Cond := .code yX1_fits cX1_fits 4 (some .boolean) :: ([.fieldLink RX1 38 "HiddenCandles" "doubted" "[Z", .fieldLink RX1 21 "HiddenCandles" "palette" "LHiddenCandles$Palette;", .fieldLink RX1 31 "HiddenCandles" "guessed" "[I", .fieldLink RX1 35 "HiddenCandles" "answers" "[I", .instanceMethod yX0_answerTo, .initialized RX0, .selects RX0 yX0_answerTo yX0_answerTo, .code yX0_answerTo cX0_answerTo 3 (some .int), .fieldLink RX0 23 "HiddenCandles$Palette" "table" "[[I", .methodLink RX0 50 yX0_hasCode, .instanceMethod yX0_hasCode, .selects RX0 yX0_hasCode yX0_hasCode, .code yX0_hasCode cX0_hasCode 2 (some .boolean), .fieldLink RX0 15 "HiddenCandles$Palette" "codes" "I"] ++ wsX10 ++ wsX00)
def wsX1_sieve : List Cond := .code yX1_sieve cX1_sieve 2 none :: ([.fieldLink RX1 42 "HiddenCandles" "open" "[Z", .fieldLink RX1 21 "HiddenCandles" "palette" "LHiddenCandles$Palette;", .fieldLink RX1 28 "HiddenCandles" "guesses" "I", .instanceMethod yX0_hasCode, .initialized RX0, .selects RX0 yX0_hasCode yX0_hasCode, .code yX0_hasCode cX0_hasCode 2 (some .boolean), .fieldLink RX0 15 "HiddenCandles$Palette" "codes" "I", .methodLink RX1 192 yX1_fits, .instanceMethod yX1_fits, .selects RX1 yX1_fits yX1_fits, .initialized RX1, .code yX1_fits cX1_fits 4 (some .boolean), .fieldLink RX1 38 "HiddenCandles" "doubted" "[Z", .fieldLink RX1 31 "HiddenCandles" "guessed" "[I", .fieldLink RX1 35 "HiddenCandles" "answers" "[I", .instanceMethod yX0_answerTo, .selects RX0 yX0_answerTo yX0_answerTo, .code yX0_answerTo cX0_answerTo 3 (some .int), .fieldLink RX0 23 "HiddenCandles$Palette" "table" "[[I", .methodLink RX0 50 yX0_hasCode] ++ wsX10 ++ wsX00)
def wsX1_init_r1 : List Cond := [Cond.methodLink RX1 3 objectInit, Cond.instanceMethod objectInit, Cond.code objectInit ⟨#[0xb1]⟩ 1 none, Cond.classLink RX1 9 RX0, Cond.instantiable RX0 4, Cond.initialized RX0, Cond.fieldLink RX1 14 "HiddenCandles" "fewColours" "LHiddenCandles$Palette;", Cond.fieldLink RX1 18 "HiddenCandles" "manyColours" "LHiddenCandles$Palette;", Cond.fieldLink RX1 21 "HiddenCandles" "palette" "LHiddenCandles$Palette;", Cond.fieldLink RX1 24 "HiddenCandles" "hidden" "I", Cond.fieldLink RX1 28 "HiddenCandles" "guesses" "I", Cond.arrayClass .int, Cond.fieldLink RX1 31 "HiddenCandles" "guessed" "[I", Cond.fieldLink RX1 35 "HiddenCandles" "answers" "[I", Cond.arrayClass .boolean, Cond.fieldLink RX1 38 "HiddenCandles" "doubted" "[Z", Cond.fieldLink RX1 42 "HiddenCandles" "open" "[Z", Cond.fieldLink RX1 45 "HiddenCandles" "play" "[Z", Cond.fieldLink RX1 48 "HiddenCandles" "heaps" "[I", Cond.instanceMethod yX0_init, Cond.code yX0_init cX0_init 2 none, Cond.methodLink RX0 3 objectInit, Cond.fieldLink RX0 9 "HiddenCandles$Palette" "colours" "I", Cond.fieldLink RX0 15 "HiddenCandles$Palette" "codes" "I"]
def wsX1_init_r2 : List Cond := [Cond.classLink RX0 18 "[[I", Cond.fieldLink RX0 20 "HiddenCandles$Palette" "candles" "[[I", Cond.fieldLink RX0 23 "HiddenCandles$Palette" "table" "[[I", Cond.methodLink RX0 26 yX0_lightCandles, Cond.instanceMethod yX0_lightCandles, Cond.selects RX0 yX0_lightCandles yX0_lightCandles, Cond.code yX0_lightCandles cX0_lightCandles 4 none, Cond.methodLink RX0 29 yX0_tallies, Cond.instanceMethod yX0_tallies, Cond.selects RX0 yX0_tallies yX0_tallies, Cond.code yX0_tallies cX0_tallies 5 (some (.array (.array .int))), Cond.methodLink RX0 33 yX0_fillTable, Cond.instanceMethod yX0_fillTable, Cond.selects RX0 yX0_fillTable yX0_fillTable, Cond.code yX0_fillTable cX0_fillTable 7 none, Cond.methodLink RX0 37 yX0_countSame, Cond.static yX0_countSame, Cond.code yX0_countSame cX0_countSame 4 (some .int), Cond.methodLink RX0 41 yX0_countShared, Cond.static yX0_countShared, Cond.code yX0_countShared cX0_countShared 4 (some .int), Cond.methodLink RX0 44 Lib.Math.min.name, Cond.static Lib.Math.min.name, Cond.initialized "java/lang/Math"]
def wsX1_init_r3 : List Cond := [Cond.code Lib.Math.min.name Lib.Math.min.code 2 (some .int), Cond.methodLink RX1 51 yX1_sieve, Cond.instanceMethod yX1_sieve, Cond.selects RX1 yX1_sieve yX1_sieve, Cond.initialized RX1, Cond.code yX1_sieve cX1_sieve 2 none, Cond.instanceMethod yX0_hasCode, Cond.selects RX0 yX0_hasCode yX0_hasCode, Cond.code yX0_hasCode cX0_hasCode 2 (some .boolean), Cond.methodLink RX1 192 yX1_fits, Cond.instanceMethod yX1_fits, Cond.selects RX1 yX1_fits yX1_fits, Cond.code yX1_fits cX1_fits 4 (some .boolean), Cond.instanceMethod yX0_answerTo, Cond.selects RX0 yX0_answerTo yX0_answerTo, Cond.code yX0_answerTo cX0_answerTo 3 (some .int), Cond.methodLink RX0 50 yX0_hasCode]
def wsX1_init : List Cond := .code yX1_init cX1_init 1 none :: ((wsX1_init_r1 ++ (wsX1_init_r2 ++ wsX1_init_r3)) ++ wsX00 ++ wsX10)
def wsX1_setColours_r1 : List Cond := [Cond.classLink RX1 54 "java/lang/IllegalArgumentException", Cond.initialized "java/lang/IllegalArgumentException", Cond.fieldLink RX1 21 "HiddenCandles" "palette" "LHiddenCandles$Palette;", Cond.fieldLink RX1 14 "HiddenCandles" "fewColours" "LHiddenCandles$Palette;", Cond.fieldLink RX1 18 "HiddenCandles" "manyColours" "LHiddenCandles$Palette;", Cond.fieldLink RX1 24 "HiddenCandles" "hidden" "I", Cond.fieldLink RX1 28 "HiddenCandles" "guesses" "I", Cond.methodLink RX1 51 yX1_sieve, Cond.instanceMethod yX1_sieve, Cond.selects RX1 yX1_sieve yX1_sieve, Cond.initialized RX1, Cond.code yX1_sieve cX1_sieve 2 none, Cond.fieldLink RX1 42 "HiddenCandles" "open" "[Z", Cond.instanceMethod yX0_hasCode, Cond.initialized RX0, Cond.selects RX0 yX0_hasCode yX0_hasCode, Cond.code yX0_hasCode cX0_hasCode 2 (some .boolean), Cond.fieldLink RX0 15 "HiddenCandles$Palette" "codes" "I", Cond.methodLink RX1 192 yX1_fits, Cond.instanceMethod yX1_fits, Cond.selects RX1 yX1_fits yX1_fits, Cond.code yX1_fits cX1_fits 4 (some .boolean), Cond.fieldLink RX1 38 "HiddenCandles" "doubted" "[Z", Cond.fieldLink RX1 31 "HiddenCandles" "guessed" "[I"]
def wsX1_setColours_r2 : List Cond := [Cond.fieldLink RX1 35 "HiddenCandles" "answers" "[I", Cond.instanceMethod yX0_answerTo, Cond.selects RX0 yX0_answerTo yX0_answerTo, Cond.code yX0_answerTo cX0_answerTo 3 (some .int), Cond.fieldLink RX0 23 "HiddenCandles$Palette" "table" "[[I", Cond.methodLink RX0 50 yX0_hasCode]
def wsX1_setColours : List Cond := .code yX1_setColours cX1_setColours 3 (some .int) :: ((wsX1_setColours_r1 ++ wsX1_setColours_r2) ++ wsX10 ++ wsX00 ++ (vx_atS RX1 58 "java/lang/IllegalArgumentException" ["java/lang/RuntimeException", "java/lang/Exception"]).filter goodWord)
def wsX1_needCode : List Cond := .code yX1_needCode cX1_needCode 2 none :: ([.classLink RX1 95 "java/lang/IndexOutOfBoundsException", .initialized "java/lang/IndexOutOfBoundsException", .fieldLink RX1 21 "HiddenCandles" "palette" "LHiddenCandles$Palette;", .instanceMethod yX0_hasCode, .initialized RX0, .selects RX0 yX0_hasCode yX0_hasCode, .code yX0_hasCode cX0_hasCode 2 (some .boolean), .fieldLink RX0 15 "HiddenCandles$Palette" "codes" "I"] ++ wsX10 ++ wsX00 ++ (vx_atS RX1 99 "java/lang/IndexOutOfBoundsException" ["java/lang/RuntimeException", "java/lang/Exception"]).filter goodWord)
def wsX1_hide : List Cond := .code yX1_hide cX1_hide 3 (some .int) :: ([.fieldLink RX1 24 "HiddenCandles" "hidden" "I", .methodLink RX1 64 yX1_needCode, .instanceMethod yX1_needCode, .selects RX1 yX1_needCode yX1_needCode, .initialized RX1, .code yX1_needCode cX1_needCode 2 none, .classLink RX1 95 "java/lang/IndexOutOfBoundsException", .initialized "java/lang/IndexOutOfBoundsException", .fieldLink RX1 21 "HiddenCandles" "palette" "LHiddenCandles$Palette;", .instanceMethod yX0_hasCode, .initialized RX0, .selects RX0 yX0_hasCode yX0_hasCode, .code yX0_hasCode cX0_hasCode 2 (some .boolean), .fieldLink RX0 15 "HiddenCandles$Palette" "codes" "I"] ++ wsX10 ++ wsX00 ++ (vx_atS RX1 99 "java/lang/IndexOutOfBoundsException" ["java/lang/RuntimeException", "java/lang/Exception"]).filter goodWord)
def wsX1_needPlace : List Cond := .code yX1_needPlace cX1_needPlace 1 none :: ([.classLink RX1 95 "java/lang/IndexOutOfBoundsException", .initialized "java/lang/IndexOutOfBoundsException"] ++ (vx_atS RX1 99 "java/lang/IndexOutOfBoundsException" ["java/lang/RuntimeException", "java/lang/Exception"]).filter goodWord)
def wsX1_needHidden : List Cond := .code yX1_needHidden cX1_needHidden 1 none :: ([.classLink RX1 100 "java/lang/IllegalStateException", .initialized "java/lang/IllegalStateException", .fieldLink RX1 24 "HiddenCandles" "hidden" "I"] ++ wsX10 ++ (vx_atS RX1 104 "java/lang/IllegalStateException" ["java/lang/RuntimeException", "java/lang/Exception"]).filter goodWord)
def wsX1_swap : List Cond := .code yX1_swap cX1_swap 6 (some .int) :: ([.fieldLink RX1 21 "HiddenCandles" "palette" "LHiddenCandles$Palette;", .fieldLink RX1 24 "HiddenCandles" "hidden" "I", .methodLink RX1 67 yX1_needPlace, .static yX1_needPlace, .initialized RX1, .code yX1_needPlace cX1_needPlace 1 none, .classLink RX1 95 "java/lang/IndexOutOfBoundsException", .initialized "java/lang/IndexOutOfBoundsException", .methodLink RX1 70 yX1_needHidden, .instanceMethod yX1_needHidden, .selects RX1 yX1_needHidden yX1_needHidden, .code yX1_needHidden cX1_needHidden 1 none, .classLink RX1 100 "java/lang/IllegalStateException", .initialized "java/lang/IllegalStateException", .instanceMethod yX0_colourOf, .initialized RX0, .selects RX0 yX0_colourOf yX0_colourOf, .code yX0_colourOf cX0_colourOf 3 (some .int), .fieldLink RX0 20 "HiddenCandles$Palette" "candles" "[[I", .methodLink RX0 50 yX0_hasCode, .instanceMethod yX0_hasCode, .selects RX0 yX0_hasCode yX0_hasCode, .code yX0_hasCode cX0_hasCode 2 (some .boolean), .fieldLink RX0 15 "HiddenCandles$Palette" "codes" "I"] ++ wsX10 ++ wsX00 ++ (vx_atS RX1 99 "java/lang/IndexOutOfBoundsException" ["java/lang/RuntimeException", "java/lang/Exception"]).filter goodWord ++ (vx_atS RX1 104 "java/lang/IllegalStateException" ["java/lang/RuntimeException", "java/lang/Exception"]).filter goodWord)
def wsX1_append_r1 : List Cond := [Cond.classLink RX1 100 "java/lang/IllegalStateException", Cond.initialized "java/lang/IllegalStateException", Cond.fieldLink RX1 28 "HiddenCandles" "guesses" "I", Cond.fieldLink RX1 31 "HiddenCandles" "guessed" "[I", Cond.fieldLink RX1 35 "HiddenCandles" "answers" "[I", Cond.fieldLink RX1 38 "HiddenCandles" "doubted" "[Z", Cond.methodLink RX1 51 yX1_sieve, Cond.instanceMethod yX1_sieve, Cond.selects RX1 yX1_sieve yX1_sieve, Cond.initialized RX1, Cond.code yX1_sieve cX1_sieve 2 none, Cond.fieldLink RX1 42 "HiddenCandles" "open" "[Z", Cond.fieldLink RX1 21 "HiddenCandles" "palette" "LHiddenCandles$Palette;", Cond.instanceMethod yX0_hasCode, Cond.initialized RX0, Cond.selects RX0 yX0_hasCode yX0_hasCode, Cond.code yX0_hasCode cX0_hasCode 2 (some .boolean), Cond.fieldLink RX0 15 "HiddenCandles$Palette" "codes" "I", Cond.methodLink RX1 192 yX1_fits, Cond.instanceMethod yX1_fits, Cond.selects RX1 yX1_fits yX1_fits, Cond.code yX1_fits cX1_fits 4 (some .boolean), Cond.instanceMethod yX0_answerTo, Cond.selects RX0 yX0_answerTo yX0_answerTo]
def wsX1_append_r2 : List Cond := [Cond.code yX0_answerTo cX0_answerTo 3 (some .int), Cond.fieldLink RX0 23 "HiddenCandles$Palette" "table" "[[I", Cond.methodLink RX0 50 yX0_hasCode]
def wsX1_append : List Cond := .code yX1_append cX1_append 4 none :: ((wsX1_append_r1 ++ wsX1_append_r2) ++ wsX10 ++ wsX00 ++ (vx_atS RX1 104 "java/lang/IllegalStateException" ["java/lang/RuntimeException", "java/lang/Exception"]).filter goodWord)
def wsX1_guess_r1 : List Cond := [Cond.fieldLink RX1 21 "HiddenCandles" "palette" "LHiddenCandles$Palette;", Cond.fieldLink RX1 24 "HiddenCandles" "hidden" "I", Cond.methodLink RX1 64 yX1_needCode, Cond.instanceMethod yX1_needCode, Cond.selects RX1 yX1_needCode yX1_needCode, Cond.initialized RX1, Cond.code yX1_needCode cX1_needCode 2 none, Cond.classLink RX1 95 "java/lang/IndexOutOfBoundsException", Cond.initialized "java/lang/IndexOutOfBoundsException", Cond.instanceMethod yX0_hasCode, Cond.initialized RX0, Cond.selects RX0 yX0_hasCode yX0_hasCode, Cond.code yX0_hasCode cX0_hasCode 2 (some .boolean), Cond.fieldLink RX0 15 "HiddenCandles$Palette" "codes" "I", Cond.methodLink RX1 70 yX1_needHidden, Cond.instanceMethod yX1_needHidden, Cond.selects RX1 yX1_needHidden yX1_needHidden, Cond.code yX1_needHidden cX1_needHidden 1 none, Cond.classLink RX1 100 "java/lang/IllegalStateException", Cond.initialized "java/lang/IllegalStateException", Cond.instanceMethod yX0_answerTo, Cond.selects RX0 yX0_answerTo yX0_answerTo, Cond.code yX0_answerTo cX0_answerTo 3 (some .int), Cond.fieldLink RX0 23 "HiddenCandles$Palette" "table" "[[I"]
def wsX1_guess_r2 : List Cond := [Cond.methodLink RX0 50 yX0_hasCode, Cond.methodLink RX1 80 yX1_append, Cond.instanceMethod yX1_append, Cond.selects RX1 yX1_append yX1_append, Cond.code yX1_append cX1_append 4 none, Cond.fieldLink RX1 28 "HiddenCandles" "guesses" "I", Cond.fieldLink RX1 31 "HiddenCandles" "guessed" "[I", Cond.fieldLink RX1 35 "HiddenCandles" "answers" "[I", Cond.fieldLink RX1 38 "HiddenCandles" "doubted" "[Z", Cond.methodLink RX1 51 yX1_sieve, Cond.instanceMethod yX1_sieve, Cond.selects RX1 yX1_sieve yX1_sieve, Cond.code yX1_sieve cX1_sieve 2 none, Cond.fieldLink RX1 42 "HiddenCandles" "open" "[Z", Cond.methodLink RX1 192 yX1_fits, Cond.instanceMethod yX1_fits, Cond.selects RX1 yX1_fits yX1_fits, Cond.code yX1_fits cX1_fits 4 (some .boolean)]
def wsX1_guess : List Cond := .code yX1_guess cX1_guess 3 (some .int) :: ((wsX1_guess_r1 ++ wsX1_guess_r2) ++ wsX10 ++ wsX00 ++ (vx_atS RX1 99 "java/lang/IndexOutOfBoundsException" ["java/lang/RuntimeException", "java/lang/Exception"]).filter goodWord ++ (vx_atS RX1 104 "java/lang/IllegalStateException" ["java/lang/RuntimeException", "java/lang/Exception"]).filter goodWord)
def wsX1_needPins : List Cond := .code yX1_needPins cX1_needPins 2 none :: ([.classLink RX1 54 "java/lang/IllegalArgumentException", .initialized "java/lang/IllegalArgumentException"] ++ (vx_atS RX1 58 "java/lang/IllegalArgumentException" ["java/lang/RuntimeException", "java/lang/Exception"]).filter goodWord)
def wsX1_size : List Cond := .code yX1_size cX1_size 3 (some .int) :: ([])
def wsX1_tell_r1 : List Cond := [Cond.fieldLink RX1 42 "HiddenCandles" "open" "[Z", Cond.methodLink RX1 64 yX1_needCode, Cond.instanceMethod yX1_needCode, Cond.selects RX1 yX1_needCode yX1_needCode, Cond.initialized RX1, Cond.code yX1_needCode cX1_needCode 2 none, Cond.classLink RX1 95 "java/lang/IndexOutOfBoundsException", Cond.initialized "java/lang/IndexOutOfBoundsException", Cond.fieldLink RX1 21 "HiddenCandles" "palette" "LHiddenCandles$Palette;", Cond.instanceMethod yX0_hasCode, Cond.initialized RX0, Cond.selects RX0 yX0_hasCode yX0_hasCode, Cond.code yX0_hasCode cX0_hasCode 2 (some .boolean), Cond.fieldLink RX0 15 "HiddenCandles$Palette" "codes" "I", Cond.methodLink RX1 84 yX1_needPins, Cond.static yX1_needPins, Cond.code yX1_needPins cX1_needPins 2 none, Cond.classLink RX1 54 "java/lang/IllegalArgumentException", Cond.initialized "java/lang/IllegalArgumentException", Cond.methodLink RX1 80 yX1_append, Cond.instanceMethod yX1_append, Cond.selects RX1 yX1_append yX1_append, Cond.code yX1_append cX1_append 4 none, Cond.classLink RX1 100 "java/lang/IllegalStateException"]
def wsX1_tell_r2 : List Cond := [Cond.initialized "java/lang/IllegalStateException", Cond.fieldLink RX1 28 "HiddenCandles" "guesses" "I", Cond.fieldLink RX1 31 "HiddenCandles" "guessed" "[I", Cond.fieldLink RX1 35 "HiddenCandles" "answers" "[I", Cond.fieldLink RX1 38 "HiddenCandles" "doubted" "[Z", Cond.methodLink RX1 51 yX1_sieve, Cond.instanceMethod yX1_sieve, Cond.selects RX1 yX1_sieve yX1_sieve, Cond.code yX1_sieve cX1_sieve 2 none, Cond.methodLink RX1 192 yX1_fits, Cond.instanceMethod yX1_fits, Cond.selects RX1 yX1_fits yX1_fits, Cond.code yX1_fits cX1_fits 4 (some .boolean), Cond.instanceMethod yX0_answerTo, Cond.selects RX0 yX0_answerTo yX0_answerTo, Cond.code yX0_answerTo cX0_answerTo 3 (some .int), Cond.fieldLink RX0 23 "HiddenCandles$Palette" "table" "[[I", Cond.methodLink RX0 50 yX0_hasCode, Cond.methodLink RX1 87 yX1_size, Cond.static yX1_size, Cond.code yX1_size cX1_size 3 (some .int)]
def wsX1_tell : List Cond := .code yX1_tell cX1_tell 4 (some .int) :: ((wsX1_tell_r1 ++ wsX1_tell_r2) ++ wsX10 ++ wsX00 ++ (vx_atS RX1 99 "java/lang/IndexOutOfBoundsException" ["java/lang/RuntimeException", "java/lang/Exception"]).filter goodWord ++ (vx_atS RX1 58 "java/lang/IllegalArgumentException" ["java/lang/RuntimeException", "java/lang/Exception"]).filter goodWord ++ (vx_atS RX1 104 "java/lang/IllegalStateException" ["java/lang/RuntimeException", "java/lang/Exception"]).filter goodWord)
def wsX1_hasGuess : List Cond := .code yX1_hasGuess cX1_hasGuess 2 (some .boolean) :: ([.fieldLink RX1 28 "HiddenCandles" "guesses" "I"] ++ wsX10)
def wsX1_doubt_r1 : List Cond := [Cond.classLink RX1 95 "java/lang/IndexOutOfBoundsException", Cond.initialized "java/lang/IndexOutOfBoundsException", Cond.fieldLink RX1 38 "HiddenCandles" "doubted" "[Z", Cond.methodLink RX1 91 yX1_hasGuess, Cond.instanceMethod yX1_hasGuess, Cond.selects RX1 yX1_hasGuess yX1_hasGuess, Cond.initialized RX1, Cond.code yX1_hasGuess cX1_hasGuess 2 (some .boolean), Cond.fieldLink RX1 28 "HiddenCandles" "guesses" "I", Cond.methodLink RX1 51 yX1_sieve, Cond.instanceMethod yX1_sieve, Cond.selects RX1 yX1_sieve yX1_sieve, Cond.code yX1_sieve cX1_sieve 2 none, Cond.fieldLink RX1 42 "HiddenCandles" "open" "[Z", Cond.fieldLink RX1 21 "HiddenCandles" "palette" "LHiddenCandles$Palette;", Cond.instanceMethod yX0_hasCode, Cond.initialized RX0, Cond.selects RX0 yX0_hasCode yX0_hasCode, Cond.code yX0_hasCode cX0_hasCode 2 (some .boolean), Cond.fieldLink RX0 15 "HiddenCandles$Palette" "codes" "I", Cond.methodLink RX1 192 yX1_fits, Cond.instanceMethod yX1_fits, Cond.selects RX1 yX1_fits yX1_fits, Cond.code yX1_fits cX1_fits 4 (some .boolean)]
def wsX1_doubt_r2 : List Cond := [Cond.fieldLink RX1 31 "HiddenCandles" "guessed" "[I", Cond.fieldLink RX1 35 "HiddenCandles" "answers" "[I", Cond.instanceMethod yX0_answerTo, Cond.selects RX0 yX0_answerTo yX0_answerTo, Cond.code yX0_answerTo cX0_answerTo 3 (some .int), Cond.fieldLink RX0 23 "HiddenCandles$Palette" "table" "[[I", Cond.methodLink RX0 50 yX0_hasCode]
def wsX1_doubt : List Cond := .code yX1_doubt cX1_doubt 4 (some .boolean) :: ((wsX1_doubt_r1 ++ wsX1_doubt_r2) ++ wsX10 ++ wsX00 ++ (vx_atS RX1 99 "java/lang/IndexOutOfBoundsException" ["java/lang/RuntimeException", "java/lang/Exception"]).filter goodWord)
def wsX1_forget_r1 : List Cond := [Cond.classLink RX1 100 "java/lang/IllegalStateException", Cond.initialized "java/lang/IllegalStateException", Cond.fieldLink RX1 28 "HiddenCandles" "guesses" "I", Cond.fieldLink RX1 31 "HiddenCandles" "guessed" "[I", Cond.methodLink RX1 91 yX1_hasGuess, Cond.instanceMethod yX1_hasGuess, Cond.selects RX1 yX1_hasGuess yX1_hasGuess, Cond.initialized RX1, Cond.code yX1_hasGuess cX1_hasGuess 2 (some .boolean), Cond.methodLink RX1 51 yX1_sieve, Cond.instanceMethod yX1_sieve, Cond.selects RX1 yX1_sieve yX1_sieve, Cond.code yX1_sieve cX1_sieve 2 none, Cond.fieldLink RX1 42 "HiddenCandles" "open" "[Z", Cond.fieldLink RX1 21 "HiddenCandles" "palette" "LHiddenCandles$Palette;", Cond.instanceMethod yX0_hasCode, Cond.initialized RX0, Cond.selects RX0 yX0_hasCode yX0_hasCode, Cond.code yX0_hasCode cX0_hasCode 2 (some .boolean), Cond.fieldLink RX0 15 "HiddenCandles$Palette" "codes" "I", Cond.methodLink RX1 192 yX1_fits, Cond.instanceMethod yX1_fits, Cond.selects RX1 yX1_fits yX1_fits, Cond.code yX1_fits cX1_fits 4 (some .boolean)]
def wsX1_forget_r2 : List Cond := [Cond.fieldLink RX1 38 "HiddenCandles" "doubted" "[Z", Cond.fieldLink RX1 35 "HiddenCandles" "answers" "[I", Cond.instanceMethod yX0_answerTo, Cond.selects RX0 yX0_answerTo yX0_answerTo, Cond.code yX0_answerTo cX0_answerTo 3 (some .int), Cond.fieldLink RX0 23 "HiddenCandles$Palette" "table" "[[I", Cond.methodLink RX0 50 yX0_hasCode]
def wsX1_forget : List Cond := .code yX1_forget cX1_forget 2 (some .int) :: ((wsX1_forget_r1 ++ wsX1_forget_r2) ++ wsX10 ++ wsX00 ++ (vx_atS RX1 104 "java/lang/IllegalStateException" ["java/lang/RuntimeException", "java/lang/Exception"]).filter goodWord)
def wsX1_colour : List Cond := .code yX1_colour cX1_colour 3 (some .int) :: ([.fieldLink RX1 21 "HiddenCandles" "palette" "LHiddenCandles$Palette;", .methodLink RX1 64 yX1_needCode, .instanceMethod yX1_needCode, .selects RX1 yX1_needCode yX1_needCode, .initialized RX1, .code yX1_needCode cX1_needCode 2 none, .classLink RX1 95 "java/lang/IndexOutOfBoundsException", .initialized "java/lang/IndexOutOfBoundsException", .instanceMethod yX0_hasCode, .initialized RX0, .selects RX0 yX0_hasCode yX0_hasCode, .code yX0_hasCode cX0_hasCode 2 (some .boolean), .fieldLink RX0 15 "HiddenCandles$Palette" "codes" "I", .methodLink RX1 67 yX1_needPlace, .static yX1_needPlace, .code yX1_needPlace cX1_needPlace 1 none, .instanceMethod yX0_colourOf, .selects RX0 yX0_colourOf yX0_colourOf, .code yX0_colourOf cX0_colourOf 3 (some .int), .fieldLink RX0 20 "HiddenCandles$Palette" "candles" "[[I", .methodLink RX0 50 yX0_hasCode] ++ wsX10 ++ wsX00 ++ (vx_atS RX1 99 "java/lang/IndexOutOfBoundsException" ["java/lang/RuntimeException", "java/lang/Exception"]).filter goodWord)
def wsX1_pins : List Cond := .code yX1_pins cX1_pins 3 (some .int) :: ([.fieldLink RX1 21 "HiddenCandles" "palette" "LHiddenCandles$Palette;", .methodLink RX1 64 yX1_needCode, .instanceMethod yX1_needCode, .selects RX1 yX1_needCode yX1_needCode, .initialized RX1, .code yX1_needCode cX1_needCode 2 none, .classLink RX1 95 "java/lang/IndexOutOfBoundsException", .initialized "java/lang/IndexOutOfBoundsException", .instanceMethod yX0_hasCode, .initialized RX0, .selects RX0 yX0_hasCode yX0_hasCode, .code yX0_hasCode cX0_hasCode 2 (some .boolean), .fieldLink RX0 15 "HiddenCandles$Palette" "codes" "I", .instanceMethod yX0_answerTo, .selects RX0 yX0_answerTo yX0_answerTo, .code yX0_answerTo cX0_answerTo 3 (some .int), .fieldLink RX0 23 "HiddenCandles$Palette" "table" "[[I", .methodLink RX0 50 yX0_hasCode] ++ wsX10 ++ wsX00 ++ (vx_atS RX1 99 "java/lang/IndexOutOfBoundsException" ["java/lang/RuntimeException", "java/lang/Exception"]).filter goodWord)
def wsX1_countFitting : List Cond := .code yX1_countFitting cX1_countFitting 4 (some .int) :: ([.fieldLink RX1 21 "HiddenCandles" "palette" "LHiddenCandles$Palette;", .methodLink RX1 192 yX1_fits, .instanceMethod yX1_fits, .selects RX1 yX1_fits yX1_fits, .initialized RX1, .code yX1_fits cX1_fits 4 (some .boolean), .fieldLink RX1 38 "HiddenCandles" "doubted" "[Z", .fieldLink RX1 31 "HiddenCandles" "guessed" "[I", .fieldLink RX1 35 "HiddenCandles" "answers" "[I", .instanceMethod yX0_answerTo, .initialized RX0, .selects RX0 yX0_answerTo yX0_answerTo, .code yX0_answerTo cX0_answerTo 3 (some .int), .fieldLink RX0 23 "HiddenCandles$Palette" "table" "[[I", .methodLink RX0 50 yX0_hasCode, .instanceMethod yX0_hasCode, .selects RX0 yX0_hasCode yX0_hasCode, .code yX0_hasCode cX0_hasCode 2 (some .boolean), .fieldLink RX0 15 "HiddenCandles$Palette" "codes" "I"] ++ wsX10 ++ wsX00)
def wsX1_countAnswering : List Cond := .code yX1_countAnswering cX1_countAnswering 5 (some .int) :: ([.fieldLink RX1 21 "HiddenCandles" "palette" "LHiddenCandles$Palette;", .instanceMethod yX0_answerTo, .initialized RX0, .selects RX0 yX0_answerTo yX0_answerTo, .code yX0_answerTo cX0_answerTo 3 (some .int), .fieldLink RX0 23 "HiddenCandles$Palette" "table" "[[I", .methodLink RX0 50 yX0_hasCode, .instanceMethod yX0_hasCode, .selects RX0 yX0_hasCode yX0_hasCode, .code yX0_hasCode cX0_hasCode 2 (some .boolean), .fieldLink RX0 15 "HiddenCandles$Palette" "codes" "I"] ++ wsX10 ++ wsX00)
def wsX1_told_r1 : List Cond := [Cond.classLink RX1 95 "java/lang/IndexOutOfBoundsException", Cond.initialized "java/lang/IndexOutOfBoundsException", Cond.fieldLink RX1 31 "HiddenCandles" "guessed" "[I", Cond.fieldLink RX1 35 "HiddenCandles" "answers" "[I", Cond.fieldLink RX1 38 "HiddenCandles" "doubted" "[Z", Cond.methodLink RX1 91 yX1_hasGuess, Cond.instanceMethod yX1_hasGuess, Cond.selects RX1 yX1_hasGuess yX1_hasGuess, Cond.initialized RX1, Cond.code yX1_hasGuess cX1_hasGuess 2 (some .boolean), Cond.fieldLink RX1 28 "HiddenCandles" "guesses" "I", Cond.methodLink RX1 105 yX1_countFitting, Cond.instanceMethod yX1_countFitting, Cond.selects RX1 yX1_countFitting yX1_countFitting, Cond.code yX1_countFitting cX1_countFitting 4 (some .int), Cond.fieldLink RX1 21 "HiddenCandles" "palette" "LHiddenCandles$Palette;", Cond.methodLink RX1 192 yX1_fits, Cond.instanceMethod yX1_fits, Cond.selects RX1 yX1_fits yX1_fits, Cond.code yX1_fits cX1_fits 4 (some .boolean), Cond.instanceMethod yX0_answerTo, Cond.initialized RX0, Cond.selects RX0 yX0_answerTo yX0_answerTo, Cond.code yX0_answerTo cX0_answerTo 3 (some .int)]
def wsX1_told_r2 : List Cond := [Cond.fieldLink RX0 23 "HiddenCandles$Palette" "table" "[[I", Cond.methodLink RX0 50 yX0_hasCode, Cond.instanceMethod yX0_hasCode, Cond.selects RX0 yX0_hasCode yX0_hasCode, Cond.code yX0_hasCode cX0_hasCode 2 (some .boolean), Cond.fieldLink RX0 15 "HiddenCandles$Palette" "codes" "I", Cond.methodLink RX1 109 yX1_countAnswering, Cond.instanceMethod yX1_countAnswering, Cond.selects RX1 yX1_countAnswering yX1_countAnswering, Cond.code yX1_countAnswering cX1_countAnswering 5 (some .int)]
def wsX1_told : List Cond := .code yX1_told cX1_told 3 (some .int) :: ((wsX1_told_r1 ++ wsX1_told_r2) ++ wsX10 ++ wsX00 ++ (vx_atS RX1 99 "java/lang/IndexOutOfBoundsException" ["java/lang/RuntimeException", "java/lang/Exception"]).filter goodWord)
def wsX1_countAllBlack : List Cond := .code yX1_countAllBlack cX1_countAllBlack 3 (some .int) :: ([.fieldLink RX1 28 "HiddenCandles" "guesses" "I", .fieldLink RX1 35 "HiddenCandles" "answers" "[I"] ++ wsX10)
def wsX1_countDoubted : List Cond := .code yX1_countDoubted cX1_countDoubted 3 (some .int) :: ([.fieldLink RX1 28 "HiddenCandles" "guesses" "I", .fieldLink RX1 38 "HiddenCandles" "doubted" "[Z"] ++ wsX10)
def wsX1_count : List Cond := .code yX1_count cX1_count 2 (some .int) :: ([.classLink RX1 95 "java/lang/IndexOutOfBoundsException", .initialized "java/lang/IndexOutOfBoundsException", .fieldLink RX1 21 "HiddenCandles" "palette" "LHiddenCandles$Palette;", .fieldLink RX1 28 "HiddenCandles" "guesses" "I", .fieldLink RX1 42 "HiddenCandles" "open" "[Z", .fieldLink RX1 24 "HiddenCandles" "hidden" "I", .methodLink RX1 87 yX1_size, .static yX1_size, .initialized RX1, .code yX1_size cX1_size 3 (some .int), .methodLink RX1 117 yX1_countAllBlack, .instanceMethod yX1_countAllBlack, .selects RX1 yX1_countAllBlack yX1_countAllBlack, .code yX1_countAllBlack cX1_countAllBlack 3 (some .int), .fieldLink RX1 35 "HiddenCandles" "answers" "[I", .methodLink RX1 121 yX1_countDoubted, .instanceMethod yX1_countDoubted, .selects RX1 yX1_countDoubted yX1_countDoubted, .code yX1_countDoubted cX1_countDoubted 3 (some .int), .fieldLink RX1 38 "HiddenCandles" "doubted" "[Z"] ++ wsX10 ++ wsX00 ++ (vx_atS RX1 99 "java/lang/IndexOutOfBoundsException" ["java/lang/RuntimeException", "java/lang/Exception"]).filter goodWord)
def wsX1_isIn : List Cond := .code yX1_isIn cX1_isIn 2 (some .boolean) :: ([])
def wsX1_isPossible : List Cond := .code yX1_isPossible cX1_isPossible 2 (some .boolean) :: ([.fieldLink RX1 42 "HiddenCandles" "open" "[Z", .methodLink RX1 64 yX1_needCode, .instanceMethod yX1_needCode, .selects RX1 yX1_needCode yX1_needCode, .initialized RX1, .code yX1_needCode cX1_needCode 2 none, .classLink RX1 95 "java/lang/IndexOutOfBoundsException", .initialized "java/lang/IndexOutOfBoundsException", .fieldLink RX1 21 "HiddenCandles" "palette" "LHiddenCandles$Palette;", .instanceMethod yX0_hasCode, .initialized RX0, .selects RX0 yX0_hasCode yX0_hasCode, .code yX0_hasCode cX0_hasCode 2 (some .boolean), .fieldLink RX0 15 "HiddenCandles$Palette" "codes" "I", .methodLink RX1 126 yX1_isIn, .static yX1_isIn, .code yX1_isIn cX1_isIn 2 (some .boolean)] ++ wsX10 ++ wsX00 ++ (vx_atS RX1 99 "java/lang/IndexOutOfBoundsException" ["java/lang/RuntimeException", "java/lang/Exception"]).filter goodWord)
def wsX1_memberAt : List Cond := .code yX1_memberAt cX1_memberAt 4 (some .int) :: ([])
def wsX1_possible : List Cond := .code yX1_possible cX1_possible 3 (some .int) :: ([.classLink RX1 95 "java/lang/IndexOutOfBoundsException", .initialized "java/lang/IndexOutOfBoundsException", .fieldLink RX1 42 "HiddenCandles" "open" "[Z", .methodLink RX1 130 yX1_memberAt, .static yX1_memberAt, .initialized RX1, .code yX1_memberAt cX1_memberAt 4 (some .int)] ++ wsX10 ++ (vx_atS RX1 99 "java/lang/IndexOutOfBoundsException" ["java/lang/RuntimeException", "java/lang/Exception"]).filter goodWord)
def wsX1_countHaving : List Cond := .code yX1_countHaving cX1_countHaving 5 (some .int) :: ([.fieldLink RX1 42 "HiddenCandles" "open" "[Z", .fieldLink RX1 21 "HiddenCandles" "palette" "LHiddenCandles$Palette;", .instanceMethod yX0_colourOf, .initialized RX0, .selects RX0 yX0_colourOf yX0_colourOf, .code yX0_colourOf cX0_colourOf 3 (some .int), .fieldLink RX0 20 "HiddenCandles$Palette" "candles" "[[I", .methodLink RX0 50 yX0_hasCode, .instanceMethod yX0_hasCode, .selects RX0 yX0_hasCode yX0_hasCode, .code yX0_hasCode cX0_hasCode 2 (some .boolean), .fieldLink RX0 15 "HiddenCandles$Palette" "codes" "I"] ++ wsX10 ++ wsX00)
def wsX1_have : List Cond := .code yX1_have cX1_have 3 (some .int) :: ([.classLink RX1 95 "java/lang/IndexOutOfBoundsException", .initialized "java/lang/IndexOutOfBoundsException", .fieldLink RX1 21 "HiddenCandles" "palette" "LHiddenCandles$Palette;", .methodLink RX1 67 yX1_needPlace, .static yX1_needPlace, .initialized RX1, .code yX1_needPlace cX1_needPlace 1 none, .methodLink RX1 138 yX1_countHaving, .instanceMethod yX1_countHaving, .selects RX1 yX1_countHaving yX1_countHaving, .code yX1_countHaving cX1_countHaving 5 (some .int), .fieldLink RX1 42 "HiddenCandles" "open" "[Z", .instanceMethod yX0_colourOf, .initialized RX0, .selects RX0 yX0_colourOf yX0_colourOf, .code yX0_colourOf cX0_colourOf 3 (some .int), .fieldLink RX0 20 "HiddenCandles$Palette" "candles" "[[I", .methodLink RX0 50 yX0_hasCode, .instanceMethod yX0_hasCode, .selects RX0 yX0_hasCode yX0_hasCode, .code yX0_hasCode cX0_hasCode 2 (some .boolean), .fieldLink RX0 15 "HiddenCandles$Palette" "codes" "I"] ++ wsX10 ++ wsX00 ++ (vx_atS RX1 99 "java/lang/IndexOutOfBoundsException" ["java/lang/RuntimeException", "java/lang/Exception"]).filter goodWord)
def wsX1_sure_r1 : List Cond := [Cond.fieldLink RX1 42 "HiddenCandles" "open" "[Z", Cond.fieldLink RX1 21 "HiddenCandles" "palette" "LHiddenCandles$Palette;", Cond.methodLink RX1 67 yX1_needPlace, Cond.static yX1_needPlace, Cond.initialized RX1, Cond.code yX1_needPlace cX1_needPlace 1 none, Cond.classLink RX1 95 "java/lang/IndexOutOfBoundsException", Cond.initialized "java/lang/IndexOutOfBoundsException", Cond.methodLink RX1 130 yX1_memberAt, Cond.static yX1_memberAt, Cond.code yX1_memberAt cX1_memberAt 4 (some .int), Cond.instanceMethod yX0_colourOf, Cond.initialized RX0, Cond.selects RX0 yX0_colourOf yX0_colourOf, Cond.code yX0_colourOf cX0_colourOf 3 (some .int), Cond.fieldLink RX0 20 "HiddenCandles$Palette" "candles" "[[I", Cond.methodLink RX0 50 yX0_hasCode, Cond.instanceMethod yX0_hasCode, Cond.selects RX0 yX0_hasCode yX0_hasCode, Cond.code yX0_hasCode cX0_hasCode 2 (some .boolean), Cond.fieldLink RX0 15 "HiddenCandles$Palette" "codes" "I", Cond.methodLink RX1 138 yX1_countHaving, Cond.instanceMethod yX1_countHaving, Cond.selects RX1 yX1_countHaving yX1_countHaving]
def wsX1_sure_r2 : List Cond := [Cond.code yX1_countHaving cX1_countHaving 5 (some .int), Cond.methodLink RX1 87 yX1_size, Cond.static yX1_size, Cond.code yX1_size cX1_size 3 (some .int)]
def wsX1_sure : List Cond := .code yX1_sure cX1_sure 4 (some .int) :: ((wsX1_sure_r1 ++ wsX1_sure_r2) ++ wsX10 ++ wsX00 ++ (vx_atS RX1 99 "java/lang/IndexOutOfBoundsException" ["java/lang/RuntimeException", "java/lang/Exception"]).filter goodWord)
def wsJ7_fill_53178 : List Cond := .code yJ7_fill_53178 cJ7_fill_53178 4 none :: ([])
def wsX1_heapUp : List Cond := .code yX1_heapUp cX1_heapUp 5 none :: ([.fieldLink RX1 48 "HiddenCandles" "heaps" "[I", .fieldLink RX1 21 "HiddenCandles" "palette" "LHiddenCandles$Palette;", .methodLink RX1 196 yJ7_fill_53178, .static yJ7_fill_53178, .initialized RJ7, .code yJ7_fill_53178 cJ7_fill_53178 4 none, .instanceMethod yX0_answerTo, .initialized RX0, .selects RX0 yX0_answerTo yX0_answerTo, .code yX0_answerTo cX0_answerTo 3 (some .int), .fieldLink RX0 23 "HiddenCandles$Palette" "table" "[[I", .methodLink RX0 50 yX0_hasCode, .instanceMethod yX0_hasCode, .selects RX0 yX0_hasCode yX0_hasCode, .code yX0_hasCode cX0_hasCode 2 (some .boolean), .fieldLink RX0 15 "HiddenCandles$Palette" "codes" "I"] ++ wsX10 ++ wsX00)
def wsX1_greatestHeap_r1 : List Cond := [Cond.fieldLink RX1 48 "HiddenCandles" "heaps" "[I", Cond.methodLink RX1 202 Lib.Math.max.name, Cond.static Lib.Math.max.name, Cond.initialized "java/lang/Math", Cond.code Lib.Math.max.name Lib.Math.max.code 2 (some .int), Cond.methodLink RX1 145 yX1_heapUp, Cond.instanceMethod yX1_heapUp, Cond.selects RX1 yX1_heapUp yX1_heapUp, Cond.initialized RX1, Cond.code yX1_heapUp cX1_heapUp 5 none, Cond.fieldLink RX1 21 "HiddenCandles" "palette" "LHiddenCandles$Palette;", Cond.methodLink RX1 196 yJ7_fill_53178, Cond.static yJ7_fill_53178, Cond.initialized RJ7, Cond.code yJ7_fill_53178 cJ7_fill_53178 4 none, Cond.instanceMethod yX0_answerTo, Cond.initialized RX0, Cond.selects RX0 yX0_answerTo yX0_answerTo, Cond.code yX0_answerTo cX0_answerTo 3 (some .int), Cond.fieldLink RX0 23 "HiddenCandles$Palette" "table" "[[I", Cond.methodLink RX0 50 yX0_hasCode, Cond.instanceMethod yX0_hasCode, Cond.selects RX0 yX0_hasCode yX0_hasCode, Cond.code yX0_hasCode cX0_hasCode 2 (some .boolean)]
def wsX1_greatestHeap_r2 : List Cond := [Cond.fieldLink RX0 15 "HiddenCandles$Palette" "codes" "I"]
def wsX1_greatestHeap : List Cond := .code yX1_greatestHeap cX1_greatestHeap 5 (some .int) :: ((wsX1_greatestHeap_r1 ++ wsX1_greatestHeap_r2) ++ wsX10 ++ wsX00)
def wsX1_worst_r1 : List Cond := [Cond.fieldLink RX1 42 "HiddenCandles" "open" "[Z", Cond.methodLink RX1 64 yX1_needCode, Cond.instanceMethod yX1_needCode, Cond.selects RX1 yX1_needCode yX1_needCode, Cond.initialized RX1, Cond.code yX1_needCode cX1_needCode 2 none, Cond.classLink RX1 95 "java/lang/IndexOutOfBoundsException", Cond.initialized "java/lang/IndexOutOfBoundsException", Cond.fieldLink RX1 21 "HiddenCandles" "palette" "LHiddenCandles$Palette;", Cond.instanceMethod yX0_hasCode, Cond.initialized RX0, Cond.selects RX0 yX0_hasCode yX0_hasCode, Cond.code yX0_hasCode cX0_hasCode 2 (some .boolean), Cond.fieldLink RX0 15 "HiddenCandles$Palette" "codes" "I", Cond.methodLink RX1 141 yX1_greatestHeap, Cond.instanceMethod yX1_greatestHeap, Cond.selects RX1 yX1_greatestHeap yX1_greatestHeap, Cond.code yX1_greatestHeap cX1_greatestHeap 5 (some .int), Cond.fieldLink RX1 48 "HiddenCandles" "heaps" "[I", Cond.methodLink RX1 202 Lib.Math.max.name, Cond.static Lib.Math.max.name, Cond.initialized "java/lang/Math", Cond.code Lib.Math.max.name Lib.Math.max.code 2 (some .int), Cond.methodLink RX1 145 yX1_heapUp]
def wsX1_worst_r2 : List Cond := [Cond.instanceMethod yX1_heapUp, Cond.selects RX1 yX1_heapUp yX1_heapUp, Cond.code yX1_heapUp cX1_heapUp 5 none, Cond.methodLink RX1 196 yJ7_fill_53178, Cond.static yJ7_fill_53178, Cond.initialized RJ7, Cond.code yJ7_fill_53178 cJ7_fill_53178 4 none, Cond.instanceMethod yX0_answerTo, Cond.selects RX0 yX0_answerTo yX0_answerTo, Cond.code yX0_answerTo cX0_answerTo 3 (some .int), Cond.fieldLink RX0 23 "HiddenCandles$Palette" "table" "[[I", Cond.methodLink RX0 50 yX0_hasCode]
def wsX1_worst : List Cond := .code yX1_worst cX1_worst 2 (some .int) :: ((wsX1_worst_r1 ++ wsX1_worst_r2) ++ wsX10 ++ wsX00 ++ (vx_atS RX1 99 "java/lang/IndexOutOfBoundsException" ["java/lang/RuntimeException", "java/lang/Exception"]).filter goodWord)
def wsX1_parts_r1 : List Cond := [Cond.fieldLink RX1 42 "HiddenCandles" "open" "[Z", Cond.fieldLink RX1 48 "HiddenCandles" "heaps" "[I", Cond.methodLink RX1 64 yX1_needCode, Cond.instanceMethod yX1_needCode, Cond.selects RX1 yX1_needCode yX1_needCode, Cond.initialized RX1, Cond.code yX1_needCode cX1_needCode 2 none, Cond.classLink RX1 95 "java/lang/IndexOutOfBoundsException", Cond.initialized "java/lang/IndexOutOfBoundsException", Cond.fieldLink RX1 21 "HiddenCandles" "palette" "LHiddenCandles$Palette;", Cond.instanceMethod yX0_hasCode, Cond.initialized RX0, Cond.selects RX0 yX0_hasCode yX0_hasCode, Cond.code yX0_hasCode cX0_hasCode 2 (some .boolean), Cond.fieldLink RX0 15 "HiddenCandles$Palette" "codes" "I", Cond.methodLink RX1 145 yX1_heapUp, Cond.instanceMethod yX1_heapUp, Cond.selects RX1 yX1_heapUp yX1_heapUp, Cond.code yX1_heapUp cX1_heapUp 5 none, Cond.methodLink RX1 196 yJ7_fill_53178, Cond.static yJ7_fill_53178, Cond.initialized RJ7, Cond.code yJ7_fill_53178 cJ7_fill_53178 4 none, Cond.instanceMethod yX0_answerTo]
def wsX1_parts_r2 : List Cond := [Cond.selects RX0 yX0_answerTo yX0_answerTo, Cond.code yX0_answerTo cX0_answerTo 3 (some .int), Cond.fieldLink RX0 23 "HiddenCandles$Palette" "table" "[[I", Cond.methodLink RX0 50 yX0_hasCode]
def wsX1_parts : List Cond := .code yX1_parts cX1_parts 4 (some .int) :: ((wsX1_parts_r1 ++ wsX1_parts_r2) ++ wsX10 ++ wsX00 ++ (vx_atS RX1 99 "java/lang/IndexOutOfBoundsException" ["java/lang/RuntimeException", "java/lang/Exception"]).filter goodWord)
def wsX1_leastBad_r1 : List Cond := [Cond.fieldLink RX1 21 "HiddenCandles" "palette" "LHiddenCandles$Palette;", Cond.methodLink RX1 87 yX1_size, Cond.static yX1_size, Cond.initialized RX1, Cond.code yX1_size cX1_size 3 (some .int), Cond.methodLink RX1 126 yX1_isIn, Cond.static yX1_isIn, Cond.code yX1_isIn cX1_isIn 2 (some .boolean), Cond.methodLink RX1 141 yX1_greatestHeap, Cond.instanceMethod yX1_greatestHeap, Cond.selects RX1 yX1_greatestHeap yX1_greatestHeap, Cond.code yX1_greatestHeap cX1_greatestHeap 5 (some .int), Cond.fieldLink RX1 48 "HiddenCandles" "heaps" "[I", Cond.methodLink RX1 202 Lib.Math.max.name, Cond.static Lib.Math.max.name, Cond.initialized "java/lang/Math", Cond.code Lib.Math.max.name Lib.Math.max.code 2 (some .int), Cond.methodLink RX1 145 yX1_heapUp, Cond.instanceMethod yX1_heapUp, Cond.selects RX1 yX1_heapUp yX1_heapUp, Cond.code yX1_heapUp cX1_heapUp 5 none, Cond.methodLink RX1 196 yJ7_fill_53178, Cond.static yJ7_fill_53178, Cond.initialized RJ7]
def wsX1_leastBad_r2 : List Cond := [Cond.code yJ7_fill_53178 cJ7_fill_53178 4 none, Cond.instanceMethod yX0_answerTo, Cond.initialized RX0, Cond.selects RX0 yX0_answerTo yX0_answerTo, Cond.code yX0_answerTo cX0_answerTo 3 (some .int), Cond.fieldLink RX0 23 "HiddenCandles$Palette" "table" "[[I", Cond.methodLink RX0 50 yX0_hasCode, Cond.instanceMethod yX0_hasCode, Cond.selects RX0 yX0_hasCode yX0_hasCode, Cond.code yX0_hasCode cX0_hasCode 2 (some .boolean), Cond.fieldLink RX0 15 "HiddenCandles$Palette" "codes" "I"]
def wsX1_leastBad : List Cond := .code yX1_leastBad cX1_leastBad 9 (some .int) :: ((wsX1_leastBad_r1 ++ wsX1_leastBad_r2) ++ wsX10 ++ wsX00)
def wsX1_best_r1 : List Cond := [Cond.fieldLink RX1 42 "HiddenCandles" "open" "[Z", Cond.methodLink RX1 149 yX1_leastBad, Cond.instanceMethod yX1_leastBad, Cond.selects RX1 yX1_leastBad yX1_leastBad, Cond.initialized RX1, Cond.code yX1_leastBad cX1_leastBad 9 (some .int), Cond.fieldLink RX1 21 "HiddenCandles" "palette" "LHiddenCandles$Palette;", Cond.methodLink RX1 87 yX1_size, Cond.static yX1_size, Cond.code yX1_size cX1_size 3 (some .int), Cond.methodLink RX1 126 yX1_isIn, Cond.static yX1_isIn, Cond.code yX1_isIn cX1_isIn 2 (some .boolean), Cond.methodLink RX1 141 yX1_greatestHeap, Cond.instanceMethod yX1_greatestHeap, Cond.selects RX1 yX1_greatestHeap yX1_greatestHeap, Cond.code yX1_greatestHeap cX1_greatestHeap 5 (some .int), Cond.fieldLink RX1 48 "HiddenCandles" "heaps" "[I", Cond.methodLink RX1 202 Lib.Math.max.name, Cond.static Lib.Math.max.name, Cond.initialized "java/lang/Math", Cond.code Lib.Math.max.name Lib.Math.max.code 2 (some .int), Cond.methodLink RX1 145 yX1_heapUp, Cond.instanceMethod yX1_heapUp]
def wsX1_best_r2 : List Cond := [Cond.selects RX1 yX1_heapUp yX1_heapUp, Cond.code yX1_heapUp cX1_heapUp 5 none, Cond.methodLink RX1 196 yJ7_fill_53178, Cond.static yJ7_fill_53178, Cond.initialized RJ7, Cond.code yJ7_fill_53178 cJ7_fill_53178 4 none, Cond.instanceMethod yX0_answerTo, Cond.initialized RX0, Cond.selects RX0 yX0_answerTo yX0_answerTo, Cond.code yX0_answerTo cX0_answerTo 3 (some .int), Cond.fieldLink RX0 23 "HiddenCandles$Palette" "table" "[[I", Cond.methodLink RX0 50 yX0_hasCode, Cond.instanceMethod yX0_hasCode, Cond.selects RX0 yX0_hasCode yX0_hasCode, Cond.code yX0_hasCode cX0_hasCode 2 (some .boolean), Cond.fieldLink RX0 15 "HiddenCandles$Palette" "codes" "I"]
def wsX1_best : List Cond := .code yX1_best cX1_best 1 (some .int) :: ((wsX1_best_r1 ++ wsX1_best_r2) ++ wsX10 ++ wsX00)
def wsX1_keepAnswering : List Cond := .code yX1_keepAnswering cX1_keepAnswering 5 none :: ([.fieldLink RX1 21 "HiddenCandles" "palette" "LHiddenCandles$Palette;", .instanceMethod yX0_answerTo, .initialized RX0, .selects RX0 yX0_answerTo yX0_answerTo, .code yX0_answerTo cX0_answerTo 3 (some .int), .fieldLink RX0 23 "HiddenCandles$Palette" "table" "[[I", .methodLink RX0 50 yX0_hasCode, .instanceMethod yX0_hasCode, .selects RX0 yX0_hasCode yX0_hasCode, .code yX0_hasCode cX0_hasCode 2 (some .boolean), .fieldLink RX0 15 "HiddenCandles$Palette" "codes" "I"] ++ wsX10 ++ wsX00)
def wsX1_takes_r1 : List Cond := [Cond.fieldLink RX1 45 "HiddenCandles" "play" "[Z", Cond.fieldLink RX1 21 "HiddenCandles" "palette" "LHiddenCandles$Palette;", Cond.methodLink RX1 64 yX1_needCode, Cond.instanceMethod yX1_needCode, Cond.selects RX1 yX1_needCode yX1_needCode, Cond.initialized RX1, Cond.code yX1_needCode cX1_needCode 2 none, Cond.classLink RX1 95 "java/lang/IndexOutOfBoundsException", Cond.initialized "java/lang/IndexOutOfBoundsException", Cond.instanceMethod yX0_hasCode, Cond.initialized RX0, Cond.selects RX0 yX0_hasCode yX0_hasCode, Cond.code yX0_hasCode cX0_hasCode 2 (some .boolean), Cond.fieldLink RX0 15 "HiddenCandles$Palette" "codes" "I", Cond.instanceMethod yX0_answerTo, Cond.selects RX0 yX0_answerTo yX0_answerTo, Cond.code yX0_answerTo cX0_answerTo 3 (some .int), Cond.fieldLink RX0 23 "HiddenCandles$Palette" "table" "[[I", Cond.methodLink RX0 50 yX0_hasCode, Cond.methodLink RX1 156 yX1_keepAnswering, Cond.instanceMethod yX1_keepAnswering, Cond.selects RX1 yX1_keepAnswering yX1_keepAnswering, Cond.code yX1_keepAnswering cX1_keepAnswering 5 none, Cond.methodLink RX1 149 yX1_leastBad]
def wsX1_takes_r2 : List Cond := [Cond.instanceMethod yX1_leastBad, Cond.selects RX1 yX1_leastBad yX1_leastBad, Cond.code yX1_leastBad cX1_leastBad 9 (some .int), Cond.methodLink RX1 87 yX1_size, Cond.static yX1_size, Cond.code yX1_size cX1_size 3 (some .int), Cond.methodLink RX1 126 yX1_isIn, Cond.static yX1_isIn, Cond.code yX1_isIn cX1_isIn 2 (some .boolean), Cond.methodLink RX1 141 yX1_greatestHeap, Cond.instanceMethod yX1_greatestHeap, Cond.selects RX1 yX1_greatestHeap yX1_greatestHeap, Cond.code yX1_greatestHeap cX1_greatestHeap 5 (some .int), Cond.fieldLink RX1 48 "HiddenCandles" "heaps" "[I", Cond.methodLink RX1 202 Lib.Math.max.name, Cond.static Lib.Math.max.name, Cond.initialized "java/lang/Math", Cond.code Lib.Math.max.name Lib.Math.max.code 2 (some .int), Cond.methodLink RX1 145 yX1_heapUp, Cond.instanceMethod yX1_heapUp, Cond.selects RX1 yX1_heapUp yX1_heapUp, Cond.code yX1_heapUp cX1_heapUp 5 none, Cond.methodLink RX1 196 yJ7_fill_53178, Cond.static yJ7_fill_53178]
def wsX1_takes_r3 : List Cond := [Cond.initialized RJ7, Cond.code yJ7_fill_53178 cJ7_fill_53178 4 none]
def wsX1_takes : List Cond := .code yX1_takes cX1_takes 5 (some .int) :: ((wsX1_takes_r1 ++ (wsX1_takes_r2 ++ wsX1_takes_r3)) ++ wsX10 ++ wsX00 ++ (vx_atS RX1 99 "java/lang/IndexOutOfBoundsException" ["java/lang/RuntimeException", "java/lang/Exception"]).filter goodWord)
def wsX1_mean : List Cond := .code yX1_mean cX1_mean 3 (some .double) :: ([.fieldLink RX1 28 "HiddenCandles" "guesses" "I", .fieldLink RX1 35 "HiddenCandles" "answers" "[I"] ++ wsX10)
def wsX1_mix : List Cond := .code yX1_mix cX1_mix 3 (some .long) :: ([.constantLong RX1 178 (31)])
def wsX1_digest_r1 : List Cond := [Cond.constantLong RX1 160 (1583), Cond.fieldLink RX1 24 "HiddenCandles" "hidden" "I", Cond.fieldLink RX1 28 "HiddenCandles" "guesses" "I", Cond.fieldLink RX1 21 "HiddenCandles" "palette" "LHiddenCandles$Palette;", Cond.fieldLink RX1 42 "HiddenCandles" "open" "[Z", Cond.methodLink RX1 162 yX1_count, Cond.instanceMethod yX1_count, Cond.selects RX1 yX1_count yX1_count, Cond.initialized RX1, Cond.code yX1_count cX1_count 2 (some .int), Cond.classLink RX1 95 "java/lang/IndexOutOfBoundsException", Cond.initialized "java/lang/IndexOutOfBoundsException", Cond.methodLink RX1 87 yX1_size, Cond.static yX1_size, Cond.code yX1_size cX1_size 3 (some .int), Cond.methodLink RX1 117 yX1_countAllBlack, Cond.instanceMethod yX1_countAllBlack, Cond.selects RX1 yX1_countAllBlack yX1_countAllBlack, Cond.code yX1_countAllBlack cX1_countAllBlack 3 (some .int), Cond.fieldLink RX1 35 "HiddenCandles" "answers" "[I", Cond.methodLink RX1 121 yX1_countDoubted, Cond.instanceMethod yX1_countDoubted, Cond.selects RX1 yX1_countDoubted yX1_countDoubted, Cond.code yX1_countDoubted cX1_countDoubted 3 (some .int)]
def wsX1_digest_r2 : List Cond := [Cond.fieldLink RX1 38 "HiddenCandles" "doubted" "[Z", Cond.methodLink RX1 165 yX1_mix, Cond.static yX1_mix, Cond.code yX1_mix cX1_mix 3 (some .long), Cond.constantLong RX1 178 (31), Cond.methodLink RX1 169 yX1_told, Cond.instanceMethod yX1_told, Cond.selects RX1 yX1_told yX1_told, Cond.code yX1_told cX1_told 3 (some .int), Cond.fieldLink RX1 31 "HiddenCandles" "guessed" "[I", Cond.methodLink RX1 91 yX1_hasGuess, Cond.instanceMethod yX1_hasGuess, Cond.selects RX1 yX1_hasGuess yX1_hasGuess, Cond.code yX1_hasGuess cX1_hasGuess 2 (some .boolean), Cond.methodLink RX1 105 yX1_countFitting, Cond.instanceMethod yX1_countFitting, Cond.selects RX1 yX1_countFitting yX1_countFitting, Cond.code yX1_countFitting cX1_countFitting 4 (some .int), Cond.methodLink RX1 192 yX1_fits, Cond.instanceMethod yX1_fits, Cond.selects RX1 yX1_fits yX1_fits, Cond.code yX1_fits cX1_fits 4 (some .boolean), Cond.instanceMethod yX0_answerTo, Cond.initialized RX0]
def wsX1_digest_r3 : List Cond := [Cond.selects RX0 yX0_answerTo yX0_answerTo, Cond.code yX0_answerTo cX0_answerTo 3 (some .int), Cond.fieldLink RX0 23 "HiddenCandles$Palette" "table" "[[I", Cond.methodLink RX0 50 yX0_hasCode, Cond.instanceMethod yX0_hasCode, Cond.selects RX0 yX0_hasCode yX0_hasCode, Cond.code yX0_hasCode cX0_hasCode 2 (some .boolean), Cond.fieldLink RX0 15 "HiddenCandles$Palette" "codes" "I", Cond.methodLink RX1 109 yX1_countAnswering, Cond.instanceMethod yX1_countAnswering, Cond.selects RX1 yX1_countAnswering yX1_countAnswering, Cond.code yX1_countAnswering cX1_countAnswering 5 (some .int), Cond.methodLink RX1 172 yX1_sure, Cond.instanceMethod yX1_sure, Cond.selects RX1 yX1_sure yX1_sure, Cond.code yX1_sure cX1_sure 4 (some .int), Cond.methodLink RX1 67 yX1_needPlace, Cond.static yX1_needPlace, Cond.code yX1_needPlace cX1_needPlace 1 none, Cond.methodLink RX1 130 yX1_memberAt, Cond.static yX1_memberAt, Cond.code yX1_memberAt cX1_memberAt 4 (some .int), Cond.instanceMethod yX0_colourOf, Cond.selects RX0 yX0_colourOf yX0_colourOf]
def wsX1_digest_r4 : List Cond := [Cond.code yX0_colourOf cX0_colourOf 3 (some .int), Cond.fieldLink RX0 20 "HiddenCandles$Palette" "candles" "[[I", Cond.methodLink RX1 138 yX1_countHaving, Cond.instanceMethod yX1_countHaving, Cond.selects RX1 yX1_countHaving yX1_countHaving, Cond.code yX1_countHaving cX1_countHaving 5 (some .int), Cond.methodLink RX1 175 yX1_have, Cond.instanceMethod yX1_have, Cond.selects RX1 yX1_have yX1_have, Cond.code yX1_have cX1_have 3 (some .int)]
def wsX1_digest : List Cond := .code yX1_digest cX1_digest 5 (some .long) :: ((wsX1_digest_r1 ++ (wsX1_digest_r2 ++ (wsX1_digest_r3 ++ wsX1_digest_r4))) ++ wsX10 ++ wsX00 ++ (vx_atS RX1 99 "java/lang/IndexOutOfBoundsException" ["java/lang/RuntimeException", "java/lang/Exception"]).filter goodWord)
def wsX2_init : List Cond := .code yX2_init cX2_init 1 none :: ([.methodLink RX2 1 objectInit, .instanceMethod objectInit, .code objectInit ⟨#[0xb1]⟩ 1 none, .fieldLink RX2 9 "HiddenCandlesModel" "colours" "I", .fieldLink RX2 13 "HiddenCandlesModel" "hidden" "I", .arrayClass .int, .fieldLink RX2 16 "HiddenCandlesModel" "code" "[I", .fieldLink RX2 20 "HiddenCandlesModel" "answer" "[I", .fieldLink RX2 23 "HiddenCandlesModel" "doubted" "[I", .fieldLink RX2 26 "HiddenCandlesModel" "row" "[I", .fieldLink RX2 29 "HiddenCandlesModel" "heap" "[I", .fieldLink RX2 32 "HiddenCandlesModel" "ours" "[I", .fieldLink RX2 35 "HiddenCandlesModel" "theirs" "[I"] ++ wsX20)
def wsX2_thrown : List Cond := .code yX2_thrown cX2_thrown 1 (some .int) :: ([.fieldLink RX2 38 "HiddenCandlesModel" "thrown" "I"] ++ wsX20)
def wsX2_no : List Cond := .code yX2_no cX2_no 2 (some .int) :: ([.fieldLink RX2 38 "HiddenCandlesModel" "thrown" "I"] ++ wsX20)
def wsX2_isIn : List Cond := .code yX2_isIn cX2_isIn 3 (some .boolean) :: ([])
def wsX2_codes : List Cond := .code yX2_codes cX2_codes 1 (some .int) :: ([.fieldLink RX2 9 "HiddenCandlesModel" "colours" "I"] ++ wsX20)
def wsX2_isCode : List Cond := .code yX2_isCode cX2_isCode 2 (some .boolean) :: ([.methodLink RX2 41 yX2_codes, .instanceMethod yX2_codes, .selects RX2 yX2_codes yX2_codes, .initialized RX2, .code yX2_codes cX2_codes 1 (some .int), .fieldLink RX2 9 "HiddenCandlesModel" "colours" "I", .methodLink RX2 45 yX2_isIn, .static yX2_isIn, .code yX2_isIn cX2_isIn 3 (some .boolean)] ++ wsX20)
def wsX2_isGuess : List Cond := .code yX2_isGuess cX2_isGuess 2 (some .boolean) :: ([.fieldLink RX2 49 "HiddenCandlesModel" "guesses" "I", .methodLink RX2 45 yX2_isIn, .static yX2_isIn, .initialized RX2, .code yX2_isIn cX2_isIn 3 (some .boolean)] ++ wsX20)
def wsX2_isPlace : List Cond := .code yX2_isPlace cX2_isPlace 1 (some .boolean) :: ([.methodLink RX2 45 yX2_isIn, .static yX2_isIn, .initialized RX2, .code yX2_isIn cX2_isIn 3 (some .boolean)])
def wsX2_weight : List Cond := .code yX2_weight cX2_weight 4 (some .int) :: ([.fieldLink RX2 9 "HiddenCandlesModel" "colours" "I"] ++ wsX20)
def wsX2_at : List Cond := .code yX2_at cX2_at 3 (some .int) :: ([.fieldLink RX2 9 "HiddenCandlesModel" "colours" "I", .methodLink RX2 52 yX2_weight, .instanceMethod yX2_weight, .selects RX2 yX2_weight yX2_weight, .initialized RX2, .code yX2_weight cX2_weight 4 (some .int)] ++ wsX20)
def wsX2_answerTo : List Cond := .code yX2_answerTo cX2_answerTo 6 (some .int) :: ([.fieldLink RX2 9 "HiddenCandlesModel" "colours" "I", .fieldLink RX2 32 "HiddenCandlesModel" "ours" "[I", .fieldLink RX2 35 "HiddenCandlesModel" "theirs" "[I", .methodLink RX2 60 Lib.Math.min.name, .static Lib.Math.min.name, .initialized "java/lang/Math", .code Lib.Math.min.name Lib.Math.min.code 2 (some .int), .methodLink RX2 56 yX2_at, .instanceMethod yX2_at, .selects RX2 yX2_at yX2_at, .initialized RX2, .code yX2_at cX2_at 3 (some .int), .methodLink RX2 52 yX2_weight, .instanceMethod yX2_weight, .selects RX2 yX2_weight yX2_weight, .code yX2_weight cX2_weight 4 (some .int)] ++ wsX20)
def wsX2_fits : List Cond := .code yX2_fits cX2_fits 4 (some .boolean) :: ([.fieldLink RX2 23 "HiddenCandlesModel" "doubted" "[I", .fieldLink RX2 16 "HiddenCandlesModel" "code" "[I", .fieldLink RX2 20 "HiddenCandlesModel" "answer" "[I", .methodLink RX2 65 yX2_answerTo, .instanceMethod yX2_answerTo, .selects RX2 yX2_answerTo yX2_answerTo, .initialized RX2, .code yX2_answerTo cX2_answerTo 6 (some .int), .fieldLink RX2 9 "HiddenCandlesModel" "colours" "I", .fieldLink RX2 32 "HiddenCandlesModel" "ours" "[I", .fieldLink RX2 35 "HiddenCandlesModel" "theirs" "[I", .methodLink RX2 60 Lib.Math.min.name, .static Lib.Math.min.name, .initialized "java/lang/Math", .code Lib.Math.min.name Lib.Math.min.code 2 (some .int), .methodLink RX2 56 yX2_at, .instanceMethod yX2_at, .selects RX2 yX2_at yX2_at, .code yX2_at cX2_at 3 (some .int), .methodLink RX2 52 yX2_weight, .instanceMethod yX2_weight, .selects RX2 yX2_weight yX2_weight, .code yX2_weight cX2_weight 4 (some .int)] ++ wsX20)
def wsX2_look_r1 : List Cond := [Cond.fieldLink RX2 68 "HiddenCandlesModel" "many" "I", Cond.fieldLink RX2 26 "HiddenCandlesModel" "row" "[I", Cond.methodLink RX2 41 yX2_codes, Cond.instanceMethod yX2_codes, Cond.selects RX2 yX2_codes yX2_codes, Cond.initialized RX2, Cond.code yX2_codes cX2_codes 1 (some .int), Cond.fieldLink RX2 9 "HiddenCandlesModel" "colours" "I", Cond.methodLink RX2 71 yX2_fits, Cond.instanceMethod yX2_fits, Cond.selects RX2 yX2_fits yX2_fits, Cond.code yX2_fits cX2_fits 4 (some .boolean), Cond.fieldLink RX2 23 "HiddenCandlesModel" "doubted" "[I", Cond.fieldLink RX2 16 "HiddenCandlesModel" "code" "[I", Cond.fieldLink RX2 20 "HiddenCandlesModel" "answer" "[I", Cond.methodLink RX2 65 yX2_answerTo, Cond.instanceMethod yX2_answerTo, Cond.selects RX2 yX2_answerTo yX2_answerTo, Cond.code yX2_answerTo cX2_answerTo 6 (some .int), Cond.fieldLink RX2 32 "HiddenCandlesModel" "ours" "[I", Cond.fieldLink RX2 35 "HiddenCandlesModel" "theirs" "[I", Cond.methodLink RX2 60 Lib.Math.min.name, Cond.static Lib.Math.min.name, Cond.initialized "java/lang/Math"]
def wsX2_look_r2 : List Cond := [Cond.code Lib.Math.min.name Lib.Math.min.code 2 (some .int), Cond.methodLink RX2 56 yX2_at, Cond.instanceMethod yX2_at, Cond.selects RX2 yX2_at yX2_at, Cond.code yX2_at cX2_at 3 (some .int), Cond.methodLink RX2 52 yX2_weight, Cond.instanceMethod yX2_weight, Cond.selects RX2 yX2_weight yX2_weight, Cond.code yX2_weight cX2_weight 4 (some .int)]
def wsX2_look : List Cond := .code yX2_look cX2_look 3 (some .int) :: ((wsX2_look_r1 ++ wsX2_look_r2) ++ wsX20)
def wsX2_pile : List Cond := .code yX2_pile cX2_pile 3 none :: ([.fieldLink RX2 29 "HiddenCandlesModel" "heap" "[I", .fieldLink RX2 68 "HiddenCandlesModel" "many" "I", .fieldLink RX2 26 "HiddenCandlesModel" "row" "[I", .methodLink RX2 65 yX2_answerTo, .instanceMethod yX2_answerTo, .selects RX2 yX2_answerTo yX2_answerTo, .initialized RX2, .code yX2_answerTo cX2_answerTo 6 (some .int), .fieldLink RX2 9 "HiddenCandlesModel" "colours" "I", .fieldLink RX2 32 "HiddenCandlesModel" "ours" "[I", .fieldLink RX2 35 "HiddenCandlesModel" "theirs" "[I", .methodLink RX2 60 Lib.Math.min.name, .static Lib.Math.min.name, .initialized "java/lang/Math", .code Lib.Math.min.name Lib.Math.min.code 2 (some .int), .methodLink RX2 56 yX2_at, .instanceMethod yX2_at, .selects RX2 yX2_at yX2_at, .code yX2_at cX2_at 3 (some .int), .methodLink RX2 52 yX2_weight, .instanceMethod yX2_weight, .selects RX2 yX2_weight yX2_weight, .code yX2_weight cX2_weight 4 (some .int)] ++ wsX20)
def wsX2_greatest_r1 : List Cond := [Cond.fieldLink RX2 29 "HiddenCandlesModel" "heap" "[I", Cond.methodLink RX2 79 Lib.Math.max.name, Cond.static Lib.Math.max.name, Cond.initialized "java/lang/Math", Cond.code Lib.Math.max.name Lib.Math.max.code 2 (some .int), Cond.methodLink RX2 75 yX2_pile, Cond.instanceMethod yX2_pile, Cond.selects RX2 yX2_pile yX2_pile, Cond.initialized RX2, Cond.code yX2_pile cX2_pile 3 none, Cond.fieldLink RX2 68 "HiddenCandlesModel" "many" "I", Cond.fieldLink RX2 26 "HiddenCandlesModel" "row" "[I", Cond.methodLink RX2 65 yX2_answerTo, Cond.instanceMethod yX2_answerTo, Cond.selects RX2 yX2_answerTo yX2_answerTo, Cond.code yX2_answerTo cX2_answerTo 6 (some .int), Cond.fieldLink RX2 9 "HiddenCandlesModel" "colours" "I", Cond.fieldLink RX2 32 "HiddenCandlesModel" "ours" "[I", Cond.fieldLink RX2 35 "HiddenCandlesModel" "theirs" "[I", Cond.methodLink RX2 60 Lib.Math.min.name, Cond.static Lib.Math.min.name, Cond.code Lib.Math.min.name Lib.Math.min.code 2 (some .int), Cond.methodLink RX2 56 yX2_at, Cond.instanceMethod yX2_at]
def wsX2_greatest_r2 : List Cond := [Cond.selects RX2 yX2_at yX2_at, Cond.code yX2_at cX2_at 3 (some .int), Cond.methodLink RX2 52 yX2_weight, Cond.instanceMethod yX2_weight, Cond.selects RX2 yX2_weight yX2_weight, Cond.code yX2_weight cX2_weight 4 (some .int)]
def wsX2_greatest : List Cond := .code yX2_greatest cX2_greatest 7 (some .int) :: ((wsX2_greatest_r1 ++ wsX2_greatest_r2) ++ wsX20)
def wsX2_heaps_r1 : List Cond := [Cond.fieldLink RX2 29 "HiddenCandlesModel" "heap" "[I", Cond.methodLink RX2 75 yX2_pile, Cond.instanceMethod yX2_pile, Cond.selects RX2 yX2_pile yX2_pile, Cond.initialized RX2, Cond.code yX2_pile cX2_pile 3 none, Cond.fieldLink RX2 68 "HiddenCandlesModel" "many" "I", Cond.fieldLink RX2 26 "HiddenCandlesModel" "row" "[I", Cond.methodLink RX2 65 yX2_answerTo, Cond.instanceMethod yX2_answerTo, Cond.selects RX2 yX2_answerTo yX2_answerTo, Cond.code yX2_answerTo cX2_answerTo 6 (some .int), Cond.fieldLink RX2 9 "HiddenCandlesModel" "colours" "I", Cond.fieldLink RX2 32 "HiddenCandlesModel" "ours" "[I", Cond.fieldLink RX2 35 "HiddenCandlesModel" "theirs" "[I", Cond.methodLink RX2 60 Lib.Math.min.name, Cond.static Lib.Math.min.name, Cond.initialized "java/lang/Math", Cond.code Lib.Math.min.name Lib.Math.min.code 2 (some .int), Cond.methodLink RX2 56 yX2_at, Cond.instanceMethod yX2_at, Cond.selects RX2 yX2_at yX2_at, Cond.code yX2_at cX2_at 3 (some .int), Cond.methodLink RX2 52 yX2_weight]
def wsX2_heaps_r2 : List Cond := [Cond.instanceMethod yX2_weight, Cond.selects RX2 yX2_weight yX2_weight, Cond.code yX2_weight cX2_weight 4 (some .int)]
def wsX2_heaps : List Cond := .code yX2_heaps cX2_heaps 7 (some .int) :: ((wsX2_heaps_r1 ++ wsX2_heaps_r2) ++ wsX20)
def wsX2_place : List Cond := .code yX2_place cX2_place 3 (some .int) :: ([.fieldLink RX2 68 "HiddenCandlesModel" "many" "I", .fieldLink RX2 26 "HiddenCandlesModel" "row" "[I"] ++ wsX20)
def wsX2_setColours : List Cond := .code yX2_setColours cX2_setColours 3 (some .int) :: ([.fieldLink RX2 38 "HiddenCandlesModel" "thrown" "I", .fieldLink RX2 9 "HiddenCandlesModel" "colours" "I", .fieldLink RX2 13 "HiddenCandlesModel" "hidden" "I", .fieldLink RX2 49 "HiddenCandlesModel" "guesses" "I", .methodLink RX2 45 yX2_isIn, .static yX2_isIn, .initialized RX2, .code yX2_isIn cX2_isIn 3 (some .boolean), .methodLink RX2 82 yX2_no, .instanceMethod yX2_no, .selects RX2 yX2_no yX2_no, .code yX2_no cX2_no 2 (some .int)] ++ wsX20)
def wsX2_hide : List Cond := .code yX2_hide cX2_hide 3 (some .int) :: ([.fieldLink RX2 38 "HiddenCandlesModel" "thrown" "I", .fieldLink RX2 13 "HiddenCandlesModel" "hidden" "I", .methodLink RX2 85 yX2_isCode, .instanceMethod yX2_isCode, .selects RX2 yX2_isCode yX2_isCode, .initialized RX2, .code yX2_isCode cX2_isCode 2 (some .boolean), .methodLink RX2 41 yX2_codes, .instanceMethod yX2_codes, .selects RX2 yX2_codes yX2_codes, .code yX2_codes cX2_codes 1 (some .int), .fieldLink RX2 9 "HiddenCandlesModel" "colours" "I", .methodLink RX2 45 yX2_isIn, .static yX2_isIn, .code yX2_isIn cX2_isIn 3 (some .boolean), .methodLink RX2 82 yX2_no, .instanceMethod yX2_no, .selects RX2 yX2_no yX2_no, .code yX2_no cX2_no 2 (some .int)] ++ wsX20)
def wsX2_swap : List Cond := .code yX2_swap cX2_swap 5 (some .int) :: ([.fieldLink RX2 38 "HiddenCandlesModel" "thrown" "I", .fieldLink RX2 13 "HiddenCandlesModel" "hidden" "I", .methodLink RX2 89 yX2_isPlace, .static yX2_isPlace, .initialized RX2, .code yX2_isPlace cX2_isPlace 1 (some .boolean), .methodLink RX2 45 yX2_isIn, .static yX2_isIn, .code yX2_isIn cX2_isIn 3 (some .boolean), .methodLink RX2 82 yX2_no, .instanceMethod yX2_no, .selects RX2 yX2_no yX2_no, .code yX2_no cX2_no 2 (some .int), .methodLink RX2 56 yX2_at, .instanceMethod yX2_at, .selects RX2 yX2_at yX2_at, .code yX2_at cX2_at 3 (some .int), .fieldLink RX2 9 "HiddenCandlesModel" "colours" "I", .methodLink RX2 52 yX2_weight, .instanceMethod yX2_weight, .selects RX2 yX2_weight yX2_weight, .code yX2_weight cX2_weight 4 (some .int)] ++ wsX20)
def wsX2_note : List Cond := .code yX2_note cX2_note 3 none :: ([.fieldLink RX2 16 "HiddenCandlesModel" "code" "[I", .fieldLink RX2 49 "HiddenCandlesModel" "guesses" "I", .fieldLink RX2 20 "HiddenCandlesModel" "answer" "[I", .fieldLink RX2 23 "HiddenCandlesModel" "doubted" "[I"] ++ wsX20)
def wsX2_guess_r1 : List Cond := [Cond.fieldLink RX2 38 "HiddenCandlesModel" "thrown" "I", Cond.fieldLink RX2 13 "HiddenCandlesModel" "hidden" "I", Cond.fieldLink RX2 49 "HiddenCandlesModel" "guesses" "I", Cond.fieldLink RX2 20 "HiddenCandlesModel" "answer" "[I", Cond.methodLink RX2 85 yX2_isCode, Cond.instanceMethod yX2_isCode, Cond.selects RX2 yX2_isCode yX2_isCode, Cond.initialized RX2, Cond.code yX2_isCode cX2_isCode 2 (some .boolean), Cond.methodLink RX2 41 yX2_codes, Cond.instanceMethod yX2_codes, Cond.selects RX2 yX2_codes yX2_codes, Cond.code yX2_codes cX2_codes 1 (some .int), Cond.fieldLink RX2 9 "HiddenCandlesModel" "colours" "I", Cond.methodLink RX2 45 yX2_isIn, Cond.static yX2_isIn, Cond.code yX2_isIn cX2_isIn 3 (some .boolean), Cond.methodLink RX2 82 yX2_no, Cond.instanceMethod yX2_no, Cond.selects RX2 yX2_no yX2_no, Cond.code yX2_no cX2_no 2 (some .int), Cond.methodLink RX2 65 yX2_answerTo, Cond.instanceMethod yX2_answerTo, Cond.selects RX2 yX2_answerTo yX2_answerTo]
def wsX2_guess_r2 : List Cond := [Cond.code yX2_answerTo cX2_answerTo 6 (some .int), Cond.fieldLink RX2 32 "HiddenCandlesModel" "ours" "[I", Cond.fieldLink RX2 35 "HiddenCandlesModel" "theirs" "[I", Cond.methodLink RX2 60 Lib.Math.min.name, Cond.static Lib.Math.min.name, Cond.initialized "java/lang/Math", Cond.code Lib.Math.min.name Lib.Math.min.code 2 (some .int), Cond.methodLink RX2 56 yX2_at, Cond.instanceMethod yX2_at, Cond.selects RX2 yX2_at yX2_at, Cond.code yX2_at cX2_at 3 (some .int), Cond.methodLink RX2 52 yX2_weight, Cond.instanceMethod yX2_weight, Cond.selects RX2 yX2_weight yX2_weight, Cond.code yX2_weight cX2_weight 4 (some .int), Cond.methodLink RX2 92 yX2_note, Cond.instanceMethod yX2_note, Cond.selects RX2 yX2_note yX2_note, Cond.code yX2_note cX2_note 3 none, Cond.fieldLink RX2 16 "HiddenCandlesModel" "code" "[I", Cond.fieldLink RX2 23 "HiddenCandlesModel" "doubted" "[I"]
def wsX2_guess : List Cond := .code yX2_guess cX2_guess 2 (some .int) :: ((wsX2_guess_r1 ++ wsX2_guess_r2) ++ wsX20)
def wsX2_tell_r1 : List Cond := [Cond.fieldLink RX2 38 "HiddenCandlesModel" "thrown" "I", Cond.fieldLink RX2 49 "HiddenCandlesModel" "guesses" "I", Cond.methodLink RX2 85 yX2_isCode, Cond.instanceMethod yX2_isCode, Cond.selects RX2 yX2_isCode yX2_isCode, Cond.initialized RX2, Cond.code yX2_isCode cX2_isCode 2 (some .boolean), Cond.methodLink RX2 41 yX2_codes, Cond.instanceMethod yX2_codes, Cond.selects RX2 yX2_codes yX2_codes, Cond.code yX2_codes cX2_codes 1 (some .int), Cond.fieldLink RX2 9 "HiddenCandlesModel" "colours" "I", Cond.methodLink RX2 45 yX2_isIn, Cond.static yX2_isIn, Cond.code yX2_isIn cX2_isIn 3 (some .boolean), Cond.methodLink RX2 82 yX2_no, Cond.instanceMethod yX2_no, Cond.selects RX2 yX2_no yX2_no, Cond.code yX2_no cX2_no 2 (some .int), Cond.methodLink RX2 92 yX2_note, Cond.instanceMethod yX2_note, Cond.selects RX2 yX2_note yX2_note, Cond.code yX2_note cX2_note 3 none, Cond.fieldLink RX2 16 "HiddenCandlesModel" "code" "[I"]
def wsX2_tell_r2 : List Cond := [Cond.fieldLink RX2 20 "HiddenCandlesModel" "answer" "[I", Cond.fieldLink RX2 23 "HiddenCandlesModel" "doubted" "[I", Cond.methodLink RX2 96 yX2_look, Cond.instanceMethod yX2_look, Cond.selects RX2 yX2_look yX2_look, Cond.code yX2_look cX2_look 3 (some .int), Cond.fieldLink RX2 68 "HiddenCandlesModel" "many" "I", Cond.fieldLink RX2 26 "HiddenCandlesModel" "row" "[I", Cond.methodLink RX2 71 yX2_fits, Cond.instanceMethod yX2_fits, Cond.selects RX2 yX2_fits yX2_fits, Cond.code yX2_fits cX2_fits 4 (some .boolean), Cond.methodLink RX2 65 yX2_answerTo, Cond.instanceMethod yX2_answerTo, Cond.selects RX2 yX2_answerTo yX2_answerTo, Cond.code yX2_answerTo cX2_answerTo 6 (some .int), Cond.fieldLink RX2 32 "HiddenCandlesModel" "ours" "[I", Cond.fieldLink RX2 35 "HiddenCandlesModel" "theirs" "[I", Cond.methodLink RX2 60 Lib.Math.min.name, Cond.static Lib.Math.min.name, Cond.initialized "java/lang/Math", Cond.code Lib.Math.min.name Lib.Math.min.code 2 (some .int), Cond.methodLink RX2 56 yX2_at, Cond.instanceMethod yX2_at]
def wsX2_tell_r3 : List Cond := [Cond.selects RX2 yX2_at yX2_at, Cond.code yX2_at cX2_at 3 (some .int), Cond.methodLink RX2 52 yX2_weight, Cond.instanceMethod yX2_weight, Cond.selects RX2 yX2_weight yX2_weight, Cond.code yX2_weight cX2_weight 4 (some .int)]
def wsX2_tell : List Cond := .code yX2_tell cX2_tell 4 (some .int) :: ((wsX2_tell_r1 ++ (wsX2_tell_r2 ++ wsX2_tell_r3)) ++ wsX20)
def wsX2_doubt : List Cond := .code yX2_doubt cX2_doubt 4 (some .boolean) :: ([.fieldLink RX2 38 "HiddenCandlesModel" "thrown" "I", .fieldLink RX2 23 "HiddenCandlesModel" "doubted" "[I", .methodLink RX2 99 yX2_isGuess, .instanceMethod yX2_isGuess, .selects RX2 yX2_isGuess yX2_isGuess, .initialized RX2, .code yX2_isGuess cX2_isGuess 2 (some .boolean), .fieldLink RX2 49 "HiddenCandlesModel" "guesses" "I", .methodLink RX2 45 yX2_isIn, .static yX2_isIn, .code yX2_isIn cX2_isIn 3 (some .boolean)] ++ wsX20)
def wsX2_forget : List Cond := .code yX2_forget cX2_forget 1 (some .int) :: ([.fieldLink RX2 38 "HiddenCandlesModel" "thrown" "I", .fieldLink RX2 49 "HiddenCandlesModel" "guesses" "I", .fieldLink RX2 16 "HiddenCandlesModel" "code" "[I", .methodLink RX2 82 yX2_no, .instanceMethod yX2_no, .selects RX2 yX2_no yX2_no, .initialized RX2, .code yX2_no cX2_no 2 (some .int)] ++ wsX20)
def wsX2_colour_r1 : List Cond := [Cond.fieldLink RX2 38 "HiddenCandlesModel" "thrown" "I", Cond.methodLink RX2 85 yX2_isCode, Cond.instanceMethod yX2_isCode, Cond.selects RX2 yX2_isCode yX2_isCode, Cond.initialized RX2, Cond.code yX2_isCode cX2_isCode 2 (some .boolean), Cond.methodLink RX2 41 yX2_codes, Cond.instanceMethod yX2_codes, Cond.selects RX2 yX2_codes yX2_codes, Cond.code yX2_codes cX2_codes 1 (some .int), Cond.fieldLink RX2 9 "HiddenCandlesModel" "colours" "I", Cond.methodLink RX2 45 yX2_isIn, Cond.static yX2_isIn, Cond.code yX2_isIn cX2_isIn 3 (some .boolean), Cond.methodLink RX2 89 yX2_isPlace, Cond.static yX2_isPlace, Cond.code yX2_isPlace cX2_isPlace 1 (some .boolean), Cond.methodLink RX2 56 yX2_at, Cond.instanceMethod yX2_at, Cond.selects RX2 yX2_at yX2_at, Cond.code yX2_at cX2_at 3 (some .int), Cond.methodLink RX2 52 yX2_weight, Cond.instanceMethod yX2_weight, Cond.selects RX2 yX2_weight yX2_weight]
def wsX2_colour_r2 : List Cond := [Cond.code yX2_weight cX2_weight 4 (some .int), Cond.methodLink RX2 82 yX2_no, Cond.instanceMethod yX2_no, Cond.selects RX2 yX2_no yX2_no, Cond.code yX2_no cX2_no 2 (some .int)]
def wsX2_colour : List Cond := .code yX2_colour cX2_colour 3 (some .int) :: ((wsX2_colour_r1 ++ wsX2_colour_r2) ++ wsX20)
def wsX2_pins_r1 : List Cond := [Cond.fieldLink RX2 38 "HiddenCandlesModel" "thrown" "I", Cond.methodLink RX2 85 yX2_isCode, Cond.instanceMethod yX2_isCode, Cond.selects RX2 yX2_isCode yX2_isCode, Cond.initialized RX2, Cond.code yX2_isCode cX2_isCode 2 (some .boolean), Cond.methodLink RX2 41 yX2_codes, Cond.instanceMethod yX2_codes, Cond.selects RX2 yX2_codes yX2_codes, Cond.code yX2_codes cX2_codes 1 (some .int), Cond.fieldLink RX2 9 "HiddenCandlesModel" "colours" "I", Cond.methodLink RX2 45 yX2_isIn, Cond.static yX2_isIn, Cond.code yX2_isIn cX2_isIn 3 (some .boolean), Cond.methodLink RX2 65 yX2_answerTo, Cond.instanceMethod yX2_answerTo, Cond.selects RX2 yX2_answerTo yX2_answerTo, Cond.code yX2_answerTo cX2_answerTo 6 (some .int), Cond.fieldLink RX2 32 "HiddenCandlesModel" "ours" "[I", Cond.fieldLink RX2 35 "HiddenCandlesModel" "theirs" "[I", Cond.methodLink RX2 60 Lib.Math.min.name, Cond.static Lib.Math.min.name, Cond.initialized "java/lang/Math", Cond.code Lib.Math.min.name Lib.Math.min.code 2 (some .int)]
def wsX2_pins_r2 : List Cond := [Cond.methodLink RX2 56 yX2_at, Cond.instanceMethod yX2_at, Cond.selects RX2 yX2_at yX2_at, Cond.code yX2_at cX2_at 3 (some .int), Cond.methodLink RX2 52 yX2_weight, Cond.instanceMethod yX2_weight, Cond.selects RX2 yX2_weight yX2_weight, Cond.code yX2_weight cX2_weight 4 (some .int), Cond.methodLink RX2 82 yX2_no, Cond.instanceMethod yX2_no, Cond.selects RX2 yX2_no yX2_no, Cond.code yX2_no cX2_no 2 (some .int)]
def wsX2_pins : List Cond := .code yX2_pins cX2_pins 3 (some .int) :: ((wsX2_pins_r1 ++ wsX2_pins_r2) ++ wsX20)
def wsX2_alike_r1 : List Cond := [Cond.fieldLink RX2 16 "HiddenCandlesModel" "code" "[I", Cond.fieldLink RX2 20 "HiddenCandlesModel" "answer" "[I", Cond.methodLink RX2 41 yX2_codes, Cond.instanceMethod yX2_codes, Cond.selects RX2 yX2_codes yX2_codes, Cond.initialized RX2, Cond.code yX2_codes cX2_codes 1 (some .int), Cond.fieldLink RX2 9 "HiddenCandlesModel" "colours" "I", Cond.methodLink RX2 65 yX2_answerTo, Cond.instanceMethod yX2_answerTo, Cond.selects RX2 yX2_answerTo yX2_answerTo, Cond.code yX2_answerTo cX2_answerTo 6 (some .int), Cond.fieldLink RX2 32 "HiddenCandlesModel" "ours" "[I", Cond.fieldLink RX2 35 "HiddenCandlesModel" "theirs" "[I", Cond.methodLink RX2 60 Lib.Math.min.name, Cond.static Lib.Math.min.name, Cond.initialized "java/lang/Math", Cond.code Lib.Math.min.name Lib.Math.min.code 2 (some .int), Cond.methodLink RX2 56 yX2_at, Cond.instanceMethod yX2_at, Cond.selects RX2 yX2_at yX2_at, Cond.code yX2_at cX2_at 3 (some .int), Cond.methodLink RX2 52 yX2_weight, Cond.instanceMethod yX2_weight]
def wsX2_alike_r2 : List Cond := [Cond.selects RX2 yX2_weight yX2_weight, Cond.code yX2_weight cX2_weight 4 (some .int)]
def wsX2_alike : List Cond := .code yX2_alike cX2_alike 4 (some .int) :: ((wsX2_alike_r1 ++ wsX2_alike_r2) ++ wsX20)
def wsX2_guessTold_r1 : List Cond := [Cond.fieldLink RX2 16 "HiddenCandlesModel" "code" "[I", Cond.fieldLink RX2 20 "HiddenCandlesModel" "answer" "[I", Cond.fieldLink RX2 23 "HiddenCandlesModel" "doubted" "[I", Cond.methodLink RX2 96 yX2_look, Cond.instanceMethod yX2_look, Cond.selects RX2 yX2_look yX2_look, Cond.initialized RX2, Cond.code yX2_look cX2_look 3 (some .int), Cond.fieldLink RX2 68 "HiddenCandlesModel" "many" "I", Cond.fieldLink RX2 26 "HiddenCandlesModel" "row" "[I", Cond.methodLink RX2 41 yX2_codes, Cond.instanceMethod yX2_codes, Cond.selects RX2 yX2_codes yX2_codes, Cond.code yX2_codes cX2_codes 1 (some .int), Cond.fieldLink RX2 9 "HiddenCandlesModel" "colours" "I", Cond.methodLink RX2 71 yX2_fits, Cond.instanceMethod yX2_fits, Cond.selects RX2 yX2_fits yX2_fits, Cond.code yX2_fits cX2_fits 4 (some .boolean), Cond.methodLink RX2 65 yX2_answerTo, Cond.instanceMethod yX2_answerTo, Cond.selects RX2 yX2_answerTo yX2_answerTo, Cond.code yX2_answerTo cX2_answerTo 6 (some .int), Cond.fieldLink RX2 32 "HiddenCandlesModel" "ours" "[I"]
def wsX2_guessTold_r2 : List Cond := [Cond.fieldLink RX2 35 "HiddenCandlesModel" "theirs" "[I", Cond.methodLink RX2 60 Lib.Math.min.name, Cond.static Lib.Math.min.name, Cond.initialized "java/lang/Math", Cond.code Lib.Math.min.name Lib.Math.min.code 2 (some .int), Cond.methodLink RX2 56 yX2_at, Cond.instanceMethod yX2_at, Cond.selects RX2 yX2_at yX2_at, Cond.code yX2_at cX2_at 3 (some .int), Cond.methodLink RX2 52 yX2_weight, Cond.instanceMethod yX2_weight, Cond.selects RX2 yX2_weight yX2_weight, Cond.code yX2_weight cX2_weight 4 (some .int), Cond.methodLink RX2 102 yX2_alike, Cond.instanceMethod yX2_alike, Cond.selects RX2 yX2_alike yX2_alike, Cond.code yX2_alike cX2_alike 4 (some .int)]
def wsX2_guessTold : List Cond := .code yX2_guessTold cX2_guessTold 3 (some .int) :: ((wsX2_guessTold_r1 ++ wsX2_guessTold_r2) ++ wsX20)
def wsX2_told_r1 : List Cond := [Cond.fieldLink RX2 38 "HiddenCandlesModel" "thrown" "I", Cond.methodLink RX2 99 yX2_isGuess, Cond.instanceMethod yX2_isGuess, Cond.selects RX2 yX2_isGuess yX2_isGuess, Cond.initialized RX2, Cond.code yX2_isGuess cX2_isGuess 2 (some .boolean), Cond.fieldLink RX2 49 "HiddenCandlesModel" "guesses" "I", Cond.methodLink RX2 45 yX2_isIn, Cond.static yX2_isIn, Cond.code yX2_isIn cX2_isIn 3 (some .boolean), Cond.methodLink RX2 105 yX2_guessTold, Cond.instanceMethod yX2_guessTold, Cond.selects RX2 yX2_guessTold yX2_guessTold, Cond.code yX2_guessTold cX2_guessTold 3 (some .int), Cond.fieldLink RX2 16 "HiddenCandlesModel" "code" "[I", Cond.fieldLink RX2 20 "HiddenCandlesModel" "answer" "[I", Cond.fieldLink RX2 23 "HiddenCandlesModel" "doubted" "[I", Cond.methodLink RX2 96 yX2_look, Cond.instanceMethod yX2_look, Cond.selects RX2 yX2_look yX2_look, Cond.code yX2_look cX2_look 3 (some .int), Cond.fieldLink RX2 68 "HiddenCandlesModel" "many" "I", Cond.fieldLink RX2 26 "HiddenCandlesModel" "row" "[I", Cond.methodLink RX2 41 yX2_codes]
def wsX2_told_r2 : List Cond := [Cond.instanceMethod yX2_codes, Cond.selects RX2 yX2_codes yX2_codes, Cond.code yX2_codes cX2_codes 1 (some .int), Cond.fieldLink RX2 9 "HiddenCandlesModel" "colours" "I", Cond.methodLink RX2 71 yX2_fits, Cond.instanceMethod yX2_fits, Cond.selects RX2 yX2_fits yX2_fits, Cond.code yX2_fits cX2_fits 4 (some .boolean), Cond.methodLink RX2 65 yX2_answerTo, Cond.instanceMethod yX2_answerTo, Cond.selects RX2 yX2_answerTo yX2_answerTo, Cond.code yX2_answerTo cX2_answerTo 6 (some .int), Cond.fieldLink RX2 32 "HiddenCandlesModel" "ours" "[I", Cond.fieldLink RX2 35 "HiddenCandlesModel" "theirs" "[I", Cond.methodLink RX2 60 Lib.Math.min.name, Cond.static Lib.Math.min.name, Cond.initialized "java/lang/Math", Cond.code Lib.Math.min.name Lib.Math.min.code 2 (some .int), Cond.methodLink RX2 56 yX2_at, Cond.instanceMethod yX2_at, Cond.selects RX2 yX2_at yX2_at, Cond.code yX2_at cX2_at 3 (some .int), Cond.methodLink RX2 52 yX2_weight, Cond.instanceMethod yX2_weight]
def wsX2_told_r3 : List Cond := [Cond.selects RX2 yX2_weight yX2_weight, Cond.code yX2_weight cX2_weight 4 (some .int), Cond.methodLink RX2 102 yX2_alike, Cond.instanceMethod yX2_alike, Cond.selects RX2 yX2_alike yX2_alike, Cond.code yX2_alike cX2_alike 4 (some .int), Cond.methodLink RX2 82 yX2_no, Cond.instanceMethod yX2_no, Cond.selects RX2 yX2_no yX2_no, Cond.code yX2_no cX2_no 2 (some .int)]
def wsX2_told : List Cond := .code yX2_told cX2_told 3 (some .int) :: ((wsX2_told_r1 ++ (wsX2_told_r2 ++ wsX2_told_r3)) ++ wsX20)
def wsX2_counted_r1 : List Cond := [Cond.fieldLink RX2 9 "HiddenCandlesModel" "colours" "I", Cond.fieldLink RX2 49 "HiddenCandlesModel" "guesses" "I", Cond.fieldLink RX2 13 "HiddenCandlesModel" "hidden" "I", Cond.fieldLink RX2 20 "HiddenCandlesModel" "answer" "[I", Cond.fieldLink RX2 23 "HiddenCandlesModel" "doubted" "[I", Cond.methodLink RX2 41 yX2_codes, Cond.instanceMethod yX2_codes, Cond.selects RX2 yX2_codes yX2_codes, Cond.initialized RX2, Cond.code yX2_codes cX2_codes 1 (some .int), Cond.methodLink RX2 96 yX2_look, Cond.instanceMethod yX2_look, Cond.selects RX2 yX2_look yX2_look, Cond.code yX2_look cX2_look 3 (some .int), Cond.fieldLink RX2 68 "HiddenCandlesModel" "many" "I", Cond.fieldLink RX2 26 "HiddenCandlesModel" "row" "[I", Cond.methodLink RX2 71 yX2_fits, Cond.instanceMethod yX2_fits, Cond.selects RX2 yX2_fits yX2_fits, Cond.code yX2_fits cX2_fits 4 (some .boolean), Cond.fieldLink RX2 16 "HiddenCandlesModel" "code" "[I", Cond.methodLink RX2 65 yX2_answerTo, Cond.instanceMethod yX2_answerTo, Cond.selects RX2 yX2_answerTo yX2_answerTo]
def wsX2_counted_r2 : List Cond := [Cond.code yX2_answerTo cX2_answerTo 6 (some .int), Cond.fieldLink RX2 32 "HiddenCandlesModel" "ours" "[I", Cond.fieldLink RX2 35 "HiddenCandlesModel" "theirs" "[I", Cond.methodLink RX2 60 Lib.Math.min.name, Cond.static Lib.Math.min.name, Cond.initialized "java/lang/Math", Cond.code Lib.Math.min.name Lib.Math.min.code 2 (some .int), Cond.methodLink RX2 56 yX2_at, Cond.instanceMethod yX2_at, Cond.selects RX2 yX2_at yX2_at, Cond.code yX2_at cX2_at 3 (some .int), Cond.methodLink RX2 52 yX2_weight, Cond.instanceMethod yX2_weight, Cond.selects RX2 yX2_weight yX2_weight, Cond.code yX2_weight cX2_weight 4 (some .int)]
def wsX2_counted : List Cond := .code yX2_counted cX2_counted 4 (some .int) :: ((wsX2_counted_r1 ++ wsX2_counted_r2) ++ wsX20)
def wsX2_count_r1 : List Cond := [Cond.fieldLink RX2 38 "HiddenCandlesModel" "thrown" "I", Cond.methodLink RX2 45 yX2_isIn, Cond.static yX2_isIn, Cond.initialized RX2, Cond.code yX2_isIn cX2_isIn 3 (some .boolean), Cond.methodLink RX2 108 yX2_counted, Cond.instanceMethod yX2_counted, Cond.selects RX2 yX2_counted yX2_counted, Cond.code yX2_counted cX2_counted 4 (some .int), Cond.fieldLink RX2 9 "HiddenCandlesModel" "colours" "I", Cond.fieldLink RX2 49 "HiddenCandlesModel" "guesses" "I", Cond.fieldLink RX2 13 "HiddenCandlesModel" "hidden" "I", Cond.fieldLink RX2 20 "HiddenCandlesModel" "answer" "[I", Cond.fieldLink RX2 23 "HiddenCandlesModel" "doubted" "[I", Cond.methodLink RX2 41 yX2_codes, Cond.instanceMethod yX2_codes, Cond.selects RX2 yX2_codes yX2_codes, Cond.code yX2_codes cX2_codes 1 (some .int), Cond.methodLink RX2 96 yX2_look, Cond.instanceMethod yX2_look, Cond.selects RX2 yX2_look yX2_look, Cond.code yX2_look cX2_look 3 (some .int), Cond.fieldLink RX2 68 "HiddenCandlesModel" "many" "I", Cond.fieldLink RX2 26 "HiddenCandlesModel" "row" "[I"]
def wsX2_count_r2 : List Cond := [Cond.methodLink RX2 71 yX2_fits, Cond.instanceMethod yX2_fits, Cond.selects RX2 yX2_fits yX2_fits, Cond.code yX2_fits cX2_fits 4 (some .boolean), Cond.fieldLink RX2 16 "HiddenCandlesModel" "code" "[I", Cond.methodLink RX2 65 yX2_answerTo, Cond.instanceMethod yX2_answerTo, Cond.selects RX2 yX2_answerTo yX2_answerTo, Cond.code yX2_answerTo cX2_answerTo 6 (some .int), Cond.fieldLink RX2 32 "HiddenCandlesModel" "ours" "[I", Cond.fieldLink RX2 35 "HiddenCandlesModel" "theirs" "[I", Cond.methodLink RX2 60 Lib.Math.min.name, Cond.static Lib.Math.min.name, Cond.initialized "java/lang/Math", Cond.code Lib.Math.min.name Lib.Math.min.code 2 (some .int), Cond.methodLink RX2 56 yX2_at, Cond.instanceMethod yX2_at, Cond.selects RX2 yX2_at yX2_at, Cond.code yX2_at cX2_at 3 (some .int), Cond.methodLink RX2 52 yX2_weight, Cond.instanceMethod yX2_weight, Cond.selects RX2 yX2_weight yX2_weight, Cond.code yX2_weight cX2_weight 4 (some .int), Cond.methodLink RX2 82 yX2_no]
def wsX2_count_r3 : List Cond := [Cond.instanceMethod yX2_no, Cond.selects RX2 yX2_no yX2_no, Cond.code yX2_no cX2_no 2 (some .int)]
def wsX2_count : List Cond := .code yX2_count cX2_count 2 (some .int) :: ((wsX2_count_r1 ++ (wsX2_count_r2 ++ wsX2_count_r3)) ++ wsX20)
def wsX2_isPossible_r1 : List Cond := [Cond.fieldLink RX2 38 "HiddenCandlesModel" "thrown" "I", Cond.fieldLink RX2 49 "HiddenCandlesModel" "guesses" "I", Cond.methodLink RX2 85 yX2_isCode, Cond.instanceMethod yX2_isCode, Cond.selects RX2 yX2_isCode yX2_isCode, Cond.initialized RX2, Cond.code yX2_isCode cX2_isCode 2 (some .boolean), Cond.methodLink RX2 41 yX2_codes, Cond.instanceMethod yX2_codes, Cond.selects RX2 yX2_codes yX2_codes, Cond.code yX2_codes cX2_codes 1 (some .int), Cond.fieldLink RX2 9 "HiddenCandlesModel" "colours" "I", Cond.methodLink RX2 45 yX2_isIn, Cond.static yX2_isIn, Cond.code yX2_isIn cX2_isIn 3 (some .boolean), Cond.methodLink RX2 71 yX2_fits, Cond.instanceMethod yX2_fits, Cond.selects RX2 yX2_fits yX2_fits, Cond.code yX2_fits cX2_fits 4 (some .boolean), Cond.fieldLink RX2 23 "HiddenCandlesModel" "doubted" "[I", Cond.fieldLink RX2 16 "HiddenCandlesModel" "code" "[I", Cond.fieldLink RX2 20 "HiddenCandlesModel" "answer" "[I", Cond.methodLink RX2 65 yX2_answerTo, Cond.instanceMethod yX2_answerTo]
def wsX2_isPossible_r2 : List Cond := [Cond.selects RX2 yX2_answerTo yX2_answerTo, Cond.code yX2_answerTo cX2_answerTo 6 (some .int), Cond.fieldLink RX2 32 "HiddenCandlesModel" "ours" "[I", Cond.fieldLink RX2 35 "HiddenCandlesModel" "theirs" "[I", Cond.methodLink RX2 60 Lib.Math.min.name, Cond.static Lib.Math.min.name, Cond.initialized "java/lang/Math", Cond.code Lib.Math.min.name Lib.Math.min.code 2 (some .int), Cond.methodLink RX2 56 yX2_at, Cond.instanceMethod yX2_at, Cond.selects RX2 yX2_at yX2_at, Cond.code yX2_at cX2_at 3 (some .int), Cond.methodLink RX2 52 yX2_weight, Cond.instanceMethod yX2_weight, Cond.selects RX2 yX2_weight yX2_weight, Cond.code yX2_weight cX2_weight 4 (some .int)]
def wsX2_isPossible : List Cond := .code yX2_isPossible cX2_isPossible 2 (some .boolean) :: ((wsX2_isPossible_r1 ++ wsX2_isPossible_r2) ++ wsX20)
def wsX2_possible_r1 : List Cond := [Cond.fieldLink RX2 38 "HiddenCandlesModel" "thrown" "I", Cond.fieldLink RX2 49 "HiddenCandlesModel" "guesses" "I", Cond.fieldLink RX2 26 "HiddenCandlesModel" "row" "[I", Cond.methodLink RX2 96 yX2_look, Cond.instanceMethod yX2_look, Cond.selects RX2 yX2_look yX2_look, Cond.initialized RX2, Cond.code yX2_look cX2_look 3 (some .int), Cond.fieldLink RX2 68 "HiddenCandlesModel" "many" "I", Cond.methodLink RX2 41 yX2_codes, Cond.instanceMethod yX2_codes, Cond.selects RX2 yX2_codes yX2_codes, Cond.code yX2_codes cX2_codes 1 (some .int), Cond.fieldLink RX2 9 "HiddenCandlesModel" "colours" "I", Cond.methodLink RX2 71 yX2_fits, Cond.instanceMethod yX2_fits, Cond.selects RX2 yX2_fits yX2_fits, Cond.code yX2_fits cX2_fits 4 (some .boolean), Cond.fieldLink RX2 23 "HiddenCandlesModel" "doubted" "[I", Cond.fieldLink RX2 16 "HiddenCandlesModel" "code" "[I", Cond.fieldLink RX2 20 "HiddenCandlesModel" "answer" "[I", Cond.methodLink RX2 65 yX2_answerTo, Cond.instanceMethod yX2_answerTo, Cond.selects RX2 yX2_answerTo yX2_answerTo]
def wsX2_possible_r2 : List Cond := [Cond.code yX2_answerTo cX2_answerTo 6 (some .int), Cond.fieldLink RX2 32 "HiddenCandlesModel" "ours" "[I", Cond.fieldLink RX2 35 "HiddenCandlesModel" "theirs" "[I", Cond.methodLink RX2 60 Lib.Math.min.name, Cond.static Lib.Math.min.name, Cond.initialized "java/lang/Math", Cond.code Lib.Math.min.name Lib.Math.min.code 2 (some .int), Cond.methodLink RX2 56 yX2_at, Cond.instanceMethod yX2_at, Cond.selects RX2 yX2_at yX2_at, Cond.code yX2_at cX2_at 3 (some .int), Cond.methodLink RX2 52 yX2_weight, Cond.instanceMethod yX2_weight, Cond.selects RX2 yX2_weight yX2_weight, Cond.code yX2_weight cX2_weight 4 (some .int), Cond.methodLink RX2 45 yX2_isIn, Cond.static yX2_isIn, Cond.code yX2_isIn cX2_isIn 3 (some .boolean), Cond.methodLink RX2 82 yX2_no, Cond.instanceMethod yX2_no, Cond.selects RX2 yX2_no yX2_no, Cond.code yX2_no cX2_no 2 (some .int)]
def wsX2_possible : List Cond := .code yX2_possible cX2_possible 2 (some .int) :: ((wsX2_possible_r1 ++ wsX2_possible_r2) ++ wsX20)
def wsX2_have : List Cond := .code yX2_have cX2_have 6 (some .int) :: ([.fieldLink RX2 26 "HiddenCandlesModel" "row" "[I", .methodLink RX2 56 yX2_at, .instanceMethod yX2_at, .selects RX2 yX2_at yX2_at, .initialized RX2, .code yX2_at cX2_at 3 (some .int), .fieldLink RX2 9 "HiddenCandlesModel" "colours" "I", .methodLink RX2 52 yX2_weight, .instanceMethod yX2_weight, .selects RX2 yX2_weight yX2_weight, .code yX2_weight cX2_weight 4 (some .int)] ++ wsX20)
def wsX2_have__r1 : List Cond := [Cond.fieldLink RX2 38 "HiddenCandlesModel" "thrown" "I", Cond.fieldLink RX2 9 "HiddenCandlesModel" "colours" "I", Cond.fieldLink RX2 49 "HiddenCandlesModel" "guesses" "I", Cond.methodLink RX2 89 yX2_isPlace, Cond.static yX2_isPlace, Cond.initialized RX2, Cond.code yX2_isPlace cX2_isPlace 1 (some .boolean), Cond.methodLink RX2 45 yX2_isIn, Cond.static yX2_isIn, Cond.code yX2_isIn cX2_isIn 3 (some .boolean), Cond.methodLink RX2 96 yX2_look, Cond.instanceMethod yX2_look, Cond.selects RX2 yX2_look yX2_look, Cond.code yX2_look cX2_look 3 (some .int), Cond.fieldLink RX2 68 "HiddenCandlesModel" "many" "I", Cond.fieldLink RX2 26 "HiddenCandlesModel" "row" "[I", Cond.methodLink RX2 41 yX2_codes, Cond.instanceMethod yX2_codes, Cond.selects RX2 yX2_codes yX2_codes, Cond.code yX2_codes cX2_codes 1 (some .int), Cond.methodLink RX2 71 yX2_fits, Cond.instanceMethod yX2_fits, Cond.selects RX2 yX2_fits yX2_fits, Cond.code yX2_fits cX2_fits 4 (some .boolean)]
def wsX2_have__r2 : List Cond := [Cond.fieldLink RX2 23 "HiddenCandlesModel" "doubted" "[I", Cond.fieldLink RX2 16 "HiddenCandlesModel" "code" "[I", Cond.fieldLink RX2 20 "HiddenCandlesModel" "answer" "[I", Cond.methodLink RX2 65 yX2_answerTo, Cond.instanceMethod yX2_answerTo, Cond.selects RX2 yX2_answerTo yX2_answerTo, Cond.code yX2_answerTo cX2_answerTo 6 (some .int), Cond.fieldLink RX2 32 "HiddenCandlesModel" "ours" "[I", Cond.fieldLink RX2 35 "HiddenCandlesModel" "theirs" "[I", Cond.methodLink RX2 60 Lib.Math.min.name, Cond.static Lib.Math.min.name, Cond.initialized "java/lang/Math", Cond.code Lib.Math.min.name Lib.Math.min.code 2 (some .int), Cond.methodLink RX2 56 yX2_at, Cond.instanceMethod yX2_at, Cond.selects RX2 yX2_at yX2_at, Cond.code yX2_at cX2_at 3 (some .int), Cond.methodLink RX2 52 yX2_weight, Cond.instanceMethod yX2_weight, Cond.selects RX2 yX2_weight yX2_weight, Cond.code yX2_weight cX2_weight 4 (some .int), Cond.methodLink RX2 111 yX2_have, Cond.instanceMethod yX2_have, Cond.selects RX2 yX2_have yX2_have]
def wsX2_have__r3 : List Cond := [Cond.code yX2_have cX2_have 6 (some .int), Cond.methodLink RX2 82 yX2_no, Cond.instanceMethod yX2_no, Cond.selects RX2 yX2_no yX2_no, Cond.code yX2_no cX2_no 2 (some .int)]
def wsX2_have_ : List Cond := .code yX2_have_ cX2_have_ 3 (some .int) :: ((wsX2_have__r1 ++ (wsX2_have__r2 ++ wsX2_have__r3)) ++ wsX20)
def wsX2_sureAt_r1 : List Cond := [Cond.fieldLink RX2 49 "HiddenCandlesModel" "guesses" "I", Cond.fieldLink RX2 9 "HiddenCandlesModel" "colours" "I", Cond.fieldLink RX2 68 "HiddenCandlesModel" "many" "I", Cond.methodLink RX2 96 yX2_look, Cond.instanceMethod yX2_look, Cond.selects RX2 yX2_look yX2_look, Cond.initialized RX2, Cond.code yX2_look cX2_look 3 (some .int), Cond.fieldLink RX2 26 "HiddenCandlesModel" "row" "[I", Cond.methodLink RX2 41 yX2_codes, Cond.instanceMethod yX2_codes, Cond.selects RX2 yX2_codes yX2_codes, Cond.code yX2_codes cX2_codes 1 (some .int), Cond.methodLink RX2 71 yX2_fits, Cond.instanceMethod yX2_fits, Cond.selects RX2 yX2_fits yX2_fits, Cond.code yX2_fits cX2_fits 4 (some .boolean), Cond.fieldLink RX2 23 "HiddenCandlesModel" "doubted" "[I", Cond.fieldLink RX2 16 "HiddenCandlesModel" "code" "[I", Cond.fieldLink RX2 20 "HiddenCandlesModel" "answer" "[I", Cond.methodLink RX2 65 yX2_answerTo, Cond.instanceMethod yX2_answerTo, Cond.selects RX2 yX2_answerTo yX2_answerTo, Cond.code yX2_answerTo cX2_answerTo 6 (some .int)]
def wsX2_sureAt_r2 : List Cond := [Cond.fieldLink RX2 32 "HiddenCandlesModel" "ours" "[I", Cond.fieldLink RX2 35 "HiddenCandlesModel" "theirs" "[I", Cond.methodLink RX2 60 Lib.Math.min.name, Cond.static Lib.Math.min.name, Cond.initialized "java/lang/Math", Cond.code Lib.Math.min.name Lib.Math.min.code 2 (some .int), Cond.methodLink RX2 56 yX2_at, Cond.instanceMethod yX2_at, Cond.selects RX2 yX2_at yX2_at, Cond.code yX2_at cX2_at 3 (some .int), Cond.methodLink RX2 52 yX2_weight, Cond.instanceMethod yX2_weight, Cond.selects RX2 yX2_weight yX2_weight, Cond.code yX2_weight cX2_weight 4 (some .int), Cond.methodLink RX2 111 yX2_have, Cond.instanceMethod yX2_have, Cond.selects RX2 yX2_have yX2_have, Cond.code yX2_have cX2_have 6 (some .int)]
def wsX2_sureAt : List Cond := .code yX2_sureAt cX2_sureAt 3 (some .int) :: ((wsX2_sureAt_r1 ++ wsX2_sureAt_r2) ++ wsX20)
def wsX2_sure_r1 : List Cond := [Cond.fieldLink RX2 38 "HiddenCandlesModel" "thrown" "I", Cond.methodLink RX2 89 yX2_isPlace, Cond.static yX2_isPlace, Cond.initialized RX2, Cond.code yX2_isPlace cX2_isPlace 1 (some .boolean), Cond.methodLink RX2 45 yX2_isIn, Cond.static yX2_isIn, Cond.code yX2_isIn cX2_isIn 3 (some .boolean), Cond.methodLink RX2 115 yX2_sureAt, Cond.instanceMethod yX2_sureAt, Cond.selects RX2 yX2_sureAt yX2_sureAt, Cond.code yX2_sureAt cX2_sureAt 3 (some .int), Cond.fieldLink RX2 49 "HiddenCandlesModel" "guesses" "I", Cond.fieldLink RX2 9 "HiddenCandlesModel" "colours" "I", Cond.fieldLink RX2 68 "HiddenCandlesModel" "many" "I", Cond.methodLink RX2 96 yX2_look, Cond.instanceMethod yX2_look, Cond.selects RX2 yX2_look yX2_look, Cond.code yX2_look cX2_look 3 (some .int), Cond.fieldLink RX2 26 "HiddenCandlesModel" "row" "[I", Cond.methodLink RX2 41 yX2_codes, Cond.instanceMethod yX2_codes, Cond.selects RX2 yX2_codes yX2_codes, Cond.code yX2_codes cX2_codes 1 (some .int)]
def wsX2_sure_r2 : List Cond := [Cond.methodLink RX2 71 yX2_fits, Cond.instanceMethod yX2_fits, Cond.selects RX2 yX2_fits yX2_fits, Cond.code yX2_fits cX2_fits 4 (some .boolean), Cond.fieldLink RX2 23 "HiddenCandlesModel" "doubted" "[I", Cond.fieldLink RX2 16 "HiddenCandlesModel" "code" "[I", Cond.fieldLink RX2 20 "HiddenCandlesModel" "answer" "[I", Cond.methodLink RX2 65 yX2_answerTo, Cond.instanceMethod yX2_answerTo, Cond.selects RX2 yX2_answerTo yX2_answerTo, Cond.code yX2_answerTo cX2_answerTo 6 (some .int), Cond.fieldLink RX2 32 "HiddenCandlesModel" "ours" "[I", Cond.fieldLink RX2 35 "HiddenCandlesModel" "theirs" "[I", Cond.methodLink RX2 60 Lib.Math.min.name, Cond.static Lib.Math.min.name, Cond.initialized "java/lang/Math", Cond.code Lib.Math.min.name Lib.Math.min.code 2 (some .int), Cond.methodLink RX2 56 yX2_at, Cond.instanceMethod yX2_at, Cond.selects RX2 yX2_at yX2_at, Cond.code yX2_at cX2_at 3 (some .int), Cond.methodLink RX2 52 yX2_weight, Cond.instanceMethod yX2_weight, Cond.selects RX2 yX2_weight yX2_weight]
def wsX2_sure_r3 : List Cond := [Cond.code yX2_weight cX2_weight 4 (some .int), Cond.methodLink RX2 111 yX2_have, Cond.instanceMethod yX2_have, Cond.selects RX2 yX2_have yX2_have, Cond.code yX2_have cX2_have 6 (some .int), Cond.methodLink RX2 82 yX2_no, Cond.instanceMethod yX2_no, Cond.selects RX2 yX2_no yX2_no, Cond.code yX2_no cX2_no 2 (some .int)]
def wsX2_sure : List Cond := .code yX2_sure cX2_sure 2 (some .int) :: ((wsX2_sure_r1 ++ (wsX2_sure_r2 ++ wsX2_sure_r3)) ++ wsX20)
def wsX2_worst_r1 : List Cond := [Cond.fieldLink RX2 38 "HiddenCandlesModel" "thrown" "I", Cond.fieldLink RX2 49 "HiddenCandlesModel" "guesses" "I", Cond.methodLink RX2 85 yX2_isCode, Cond.instanceMethod yX2_isCode, Cond.selects RX2 yX2_isCode yX2_isCode, Cond.initialized RX2, Cond.code yX2_isCode cX2_isCode 2 (some .boolean), Cond.methodLink RX2 41 yX2_codes, Cond.instanceMethod yX2_codes, Cond.selects RX2 yX2_codes yX2_codes, Cond.code yX2_codes cX2_codes 1 (some .int), Cond.fieldLink RX2 9 "HiddenCandlesModel" "colours" "I", Cond.methodLink RX2 45 yX2_isIn, Cond.static yX2_isIn, Cond.code yX2_isIn cX2_isIn 3 (some .boolean), Cond.methodLink RX2 82 yX2_no, Cond.instanceMethod yX2_no, Cond.selects RX2 yX2_no yX2_no, Cond.code yX2_no cX2_no 2 (some .int), Cond.methodLink RX2 96 yX2_look, Cond.instanceMethod yX2_look, Cond.selects RX2 yX2_look yX2_look, Cond.code yX2_look cX2_look 3 (some .int), Cond.fieldLink RX2 68 "HiddenCandlesModel" "many" "I"]
def wsX2_worst_r2 : List Cond := [Cond.fieldLink RX2 26 "HiddenCandlesModel" "row" "[I", Cond.methodLink RX2 71 yX2_fits, Cond.instanceMethod yX2_fits, Cond.selects RX2 yX2_fits yX2_fits, Cond.code yX2_fits cX2_fits 4 (some .boolean), Cond.fieldLink RX2 23 "HiddenCandlesModel" "doubted" "[I", Cond.fieldLink RX2 16 "HiddenCandlesModel" "code" "[I", Cond.fieldLink RX2 20 "HiddenCandlesModel" "answer" "[I", Cond.methodLink RX2 65 yX2_answerTo, Cond.instanceMethod yX2_answerTo, Cond.selects RX2 yX2_answerTo yX2_answerTo, Cond.code yX2_answerTo cX2_answerTo 6 (some .int), Cond.fieldLink RX2 32 "HiddenCandlesModel" "ours" "[I", Cond.fieldLink RX2 35 "HiddenCandlesModel" "theirs" "[I", Cond.methodLink RX2 60 Lib.Math.min.name, Cond.static Lib.Math.min.name, Cond.initialized "java/lang/Math", Cond.code Lib.Math.min.name Lib.Math.min.code 2 (some .int), Cond.methodLink RX2 56 yX2_at, Cond.instanceMethod yX2_at, Cond.selects RX2 yX2_at yX2_at, Cond.code yX2_at cX2_at 3 (some .int), Cond.methodLink RX2 52 yX2_weight, Cond.instanceMethod yX2_weight]
def wsX2_worst_r3 : List Cond := [Cond.selects RX2 yX2_weight yX2_weight, Cond.code yX2_weight cX2_weight 4 (some .int), Cond.methodLink RX2 118 yX2_greatest, Cond.instanceMethod yX2_greatest, Cond.selects RX2 yX2_greatest yX2_greatest, Cond.code yX2_greatest cX2_greatest 7 (some .int), Cond.fieldLink RX2 29 "HiddenCandlesModel" "heap" "[I", Cond.methodLink RX2 79 Lib.Math.max.name, Cond.static Lib.Math.max.name, Cond.code Lib.Math.max.name Lib.Math.max.code 2 (some .int), Cond.methodLink RX2 75 yX2_pile, Cond.instanceMethod yX2_pile, Cond.selects RX2 yX2_pile yX2_pile, Cond.code yX2_pile cX2_pile 3 none]
def wsX2_worst : List Cond := .code yX2_worst cX2_worst 2 (some .int) :: ((wsX2_worst_r1 ++ (wsX2_worst_r2 ++ wsX2_worst_r3)) ++ wsX20)
def wsX2_parts_r1 : List Cond := [Cond.fieldLink RX2 38 "HiddenCandlesModel" "thrown" "I", Cond.fieldLink RX2 49 "HiddenCandlesModel" "guesses" "I", Cond.methodLink RX2 85 yX2_isCode, Cond.instanceMethod yX2_isCode, Cond.selects RX2 yX2_isCode yX2_isCode, Cond.initialized RX2, Cond.code yX2_isCode cX2_isCode 2 (some .boolean), Cond.methodLink RX2 41 yX2_codes, Cond.instanceMethod yX2_codes, Cond.selects RX2 yX2_codes yX2_codes, Cond.code yX2_codes cX2_codes 1 (some .int), Cond.fieldLink RX2 9 "HiddenCandlesModel" "colours" "I", Cond.methodLink RX2 45 yX2_isIn, Cond.static yX2_isIn, Cond.code yX2_isIn cX2_isIn 3 (some .boolean), Cond.methodLink RX2 82 yX2_no, Cond.instanceMethod yX2_no, Cond.selects RX2 yX2_no yX2_no, Cond.code yX2_no cX2_no 2 (some .int), Cond.methodLink RX2 96 yX2_look, Cond.instanceMethod yX2_look, Cond.selects RX2 yX2_look yX2_look, Cond.code yX2_look cX2_look 3 (some .int), Cond.fieldLink RX2 68 "HiddenCandlesModel" "many" "I"]
def wsX2_parts_r2 : List Cond := [Cond.fieldLink RX2 26 "HiddenCandlesModel" "row" "[I", Cond.methodLink RX2 71 yX2_fits, Cond.instanceMethod yX2_fits, Cond.selects RX2 yX2_fits yX2_fits, Cond.code yX2_fits cX2_fits 4 (some .boolean), Cond.fieldLink RX2 23 "HiddenCandlesModel" "doubted" "[I", Cond.fieldLink RX2 16 "HiddenCandlesModel" "code" "[I", Cond.fieldLink RX2 20 "HiddenCandlesModel" "answer" "[I", Cond.methodLink RX2 65 yX2_answerTo, Cond.instanceMethod yX2_answerTo, Cond.selects RX2 yX2_answerTo yX2_answerTo, Cond.code yX2_answerTo cX2_answerTo 6 (some .int), Cond.fieldLink RX2 32 "HiddenCandlesModel" "ours" "[I", Cond.fieldLink RX2 35 "HiddenCandlesModel" "theirs" "[I", Cond.methodLink RX2 60 Lib.Math.min.name, Cond.static Lib.Math.min.name, Cond.initialized "java/lang/Math", Cond.code Lib.Math.min.name Lib.Math.min.code 2 (some .int), Cond.methodLink RX2 56 yX2_at, Cond.instanceMethod yX2_at, Cond.selects RX2 yX2_at yX2_at, Cond.code yX2_at cX2_at 3 (some .int), Cond.methodLink RX2 52 yX2_weight, Cond.instanceMethod yX2_weight]
def wsX2_parts_r3 : List Cond := [Cond.selects RX2 yX2_weight yX2_weight, Cond.code yX2_weight cX2_weight 4 (some .int), Cond.methodLink RX2 121 yX2_heaps, Cond.instanceMethod yX2_heaps, Cond.selects RX2 yX2_heaps yX2_heaps, Cond.code yX2_heaps cX2_heaps 7 (some .int), Cond.fieldLink RX2 29 "HiddenCandlesModel" "heap" "[I", Cond.methodLink RX2 75 yX2_pile, Cond.instanceMethod yX2_pile, Cond.selects RX2 yX2_pile yX2_pile, Cond.code yX2_pile cX2_pile 3 none]
def wsX2_parts : List Cond := .code yX2_parts cX2_parts 2 (some .int) :: ((wsX2_parts_r1 ++ (wsX2_parts_r2 ++ wsX2_parts_r3)) ++ wsX20)
def wsX2_best_r1 : List Cond := [Cond.fieldLink RX2 38 "HiddenCandlesModel" "thrown" "I", Cond.fieldLink RX2 49 "HiddenCandlesModel" "guesses" "I", Cond.methodLink RX2 96 yX2_look, Cond.instanceMethod yX2_look, Cond.selects RX2 yX2_look yX2_look, Cond.initialized RX2, Cond.code yX2_look cX2_look 3 (some .int), Cond.fieldLink RX2 68 "HiddenCandlesModel" "many" "I", Cond.fieldLink RX2 26 "HiddenCandlesModel" "row" "[I", Cond.methodLink RX2 41 yX2_codes, Cond.instanceMethod yX2_codes, Cond.selects RX2 yX2_codes yX2_codes, Cond.code yX2_codes cX2_codes 1 (some .int), Cond.fieldLink RX2 9 "HiddenCandlesModel" "colours" "I", Cond.methodLink RX2 71 yX2_fits, Cond.instanceMethod yX2_fits, Cond.selects RX2 yX2_fits yX2_fits, Cond.code yX2_fits cX2_fits 4 (some .boolean), Cond.fieldLink RX2 23 "HiddenCandlesModel" "doubted" "[I", Cond.fieldLink RX2 16 "HiddenCandlesModel" "code" "[I", Cond.fieldLink RX2 20 "HiddenCandlesModel" "answer" "[I", Cond.methodLink RX2 65 yX2_answerTo, Cond.instanceMethod yX2_answerTo, Cond.selects RX2 yX2_answerTo yX2_answerTo]
def wsX2_best_r2 : List Cond := [Cond.code yX2_answerTo cX2_answerTo 6 (some .int), Cond.fieldLink RX2 32 "HiddenCandlesModel" "ours" "[I", Cond.fieldLink RX2 35 "HiddenCandlesModel" "theirs" "[I", Cond.methodLink RX2 60 Lib.Math.min.name, Cond.static Lib.Math.min.name, Cond.initialized "java/lang/Math", Cond.code Lib.Math.min.name Lib.Math.min.code 2 (some .int), Cond.methodLink RX2 56 yX2_at, Cond.instanceMethod yX2_at, Cond.selects RX2 yX2_at yX2_at, Cond.code yX2_at cX2_at 3 (some .int), Cond.methodLink RX2 52 yX2_weight, Cond.instanceMethod yX2_weight, Cond.selects RX2 yX2_weight yX2_weight, Cond.code yX2_weight cX2_weight 4 (some .int), Cond.methodLink RX2 118 yX2_greatest, Cond.instanceMethod yX2_greatest, Cond.selects RX2 yX2_greatest yX2_greatest, Cond.code yX2_greatest cX2_greatest 7 (some .int), Cond.fieldLink RX2 29 "HiddenCandlesModel" "heap" "[I", Cond.methodLink RX2 79 Lib.Math.max.name, Cond.static Lib.Math.max.name, Cond.code Lib.Math.max.name Lib.Math.max.code 2 (some .int), Cond.methodLink RX2 75 yX2_pile]
def wsX2_best_r3 : List Cond := [Cond.instanceMethod yX2_pile, Cond.selects RX2 yX2_pile yX2_pile, Cond.code yX2_pile cX2_pile 3 none, Cond.methodLink RX2 124 yX2_place, Cond.instanceMethod yX2_place, Cond.selects RX2 yX2_place yX2_place, Cond.code yX2_place cX2_place 3 (some .int)]
def wsX2_best : List Cond := .code yX2_best cX2_best 5 (some .int) :: ((wsX2_best_r1 ++ (wsX2_best_r2 ++ wsX2_best_r3)) ++ wsX20)
def wsX2_keep : List Cond := .code yX2_keep cX2_keep 5 none :: ([.fieldLink RX2 68 "HiddenCandlesModel" "many" "I", .fieldLink RX2 26 "HiddenCandlesModel" "row" "[I", .methodLink RX2 65 yX2_answerTo, .instanceMethod yX2_answerTo, .selects RX2 yX2_answerTo yX2_answerTo, .initialized RX2, .code yX2_answerTo cX2_answerTo 6 (some .int), .fieldLink RX2 9 "HiddenCandlesModel" "colours" "I", .fieldLink RX2 32 "HiddenCandlesModel" "ours" "[I", .fieldLink RX2 35 "HiddenCandlesModel" "theirs" "[I", .methodLink RX2 60 Lib.Math.min.name, .static Lib.Math.min.name, .initialized "java/lang/Math", .code Lib.Math.min.name Lib.Math.min.code 2 (some .int), .methodLink RX2 56 yX2_at, .instanceMethod yX2_at, .selects RX2 yX2_at yX2_at, .code yX2_at cX2_at 3 (some .int), .methodLink RX2 52 yX2_weight, .instanceMethod yX2_weight, .selects RX2 yX2_weight yX2_weight, .code yX2_weight cX2_weight 4 (some .int)] ++ wsX20)
def wsX2_ofRow_r1 : List Cond := [Cond.fieldLink RX2 68 "HiddenCandlesModel" "many" "I", Cond.fieldLink RX2 26 "HiddenCandlesModel" "row" "[I", Cond.methodLink RX2 118 yX2_greatest, Cond.instanceMethod yX2_greatest, Cond.selects RX2 yX2_greatest yX2_greatest, Cond.initialized RX2, Cond.code yX2_greatest cX2_greatest 7 (some .int), Cond.fieldLink RX2 29 "HiddenCandlesModel" "heap" "[I", Cond.methodLink RX2 79 Lib.Math.max.name, Cond.static Lib.Math.max.name, Cond.initialized "java/lang/Math", Cond.code Lib.Math.max.name Lib.Math.max.code 2 (some .int), Cond.methodLink RX2 75 yX2_pile, Cond.instanceMethod yX2_pile, Cond.selects RX2 yX2_pile yX2_pile, Cond.code yX2_pile cX2_pile 3 none, Cond.methodLink RX2 65 yX2_answerTo, Cond.instanceMethod yX2_answerTo, Cond.selects RX2 yX2_answerTo yX2_answerTo, Cond.code yX2_answerTo cX2_answerTo 6 (some .int), Cond.fieldLink RX2 9 "HiddenCandlesModel" "colours" "I", Cond.fieldLink RX2 32 "HiddenCandlesModel" "ours" "[I", Cond.fieldLink RX2 35 "HiddenCandlesModel" "theirs" "[I", Cond.methodLink RX2 60 Lib.Math.min.name]
def wsX2_ofRow_r2 : List Cond := [Cond.static Lib.Math.min.name, Cond.code Lib.Math.min.name Lib.Math.min.code 2 (some .int), Cond.methodLink RX2 56 yX2_at, Cond.instanceMethod yX2_at, Cond.selects RX2 yX2_at yX2_at, Cond.code yX2_at cX2_at 3 (some .int), Cond.methodLink RX2 52 yX2_weight, Cond.instanceMethod yX2_weight, Cond.selects RX2 yX2_weight yX2_weight, Cond.code yX2_weight cX2_weight 4 (some .int)]
def wsX2_ofRow : List Cond := .code yX2_ofRow cX2_ofRow 5 (some .int) :: ((wsX2_ofRow_r1 ++ wsX2_ofRow_r2) ++ wsX20)
def wsX2_takes_r1 : List Cond := [Cond.fieldLink RX2 38 "HiddenCandlesModel" "thrown" "I", Cond.fieldLink RX2 68 "HiddenCandlesModel" "many" "I", Cond.fieldLink RX2 26 "HiddenCandlesModel" "row" "[I", Cond.methodLink RX2 85 yX2_isCode, Cond.instanceMethod yX2_isCode, Cond.selects RX2 yX2_isCode yX2_isCode, Cond.initialized RX2, Cond.code yX2_isCode cX2_isCode 2 (some .boolean), Cond.methodLink RX2 41 yX2_codes, Cond.instanceMethod yX2_codes, Cond.selects RX2 yX2_codes yX2_codes, Cond.code yX2_codes cX2_codes 1 (some .int), Cond.fieldLink RX2 9 "HiddenCandlesModel" "colours" "I", Cond.methodLink RX2 45 yX2_isIn, Cond.static yX2_isIn, Cond.code yX2_isIn cX2_isIn 3 (some .boolean), Cond.methodLink RX2 82 yX2_no, Cond.instanceMethod yX2_no, Cond.selects RX2 yX2_no yX2_no, Cond.code yX2_no cX2_no 2 (some .int), Cond.methodLink RX2 65 yX2_answerTo, Cond.instanceMethod yX2_answerTo, Cond.selects RX2 yX2_answerTo yX2_answerTo, Cond.code yX2_answerTo cX2_answerTo 6 (some .int)]
def wsX2_takes_r2 : List Cond := [Cond.fieldLink RX2 32 "HiddenCandlesModel" "ours" "[I", Cond.fieldLink RX2 35 "HiddenCandlesModel" "theirs" "[I", Cond.methodLink RX2 60 Lib.Math.min.name, Cond.static Lib.Math.min.name, Cond.initialized "java/lang/Math", Cond.code Lib.Math.min.name Lib.Math.min.code 2 (some .int), Cond.methodLink RX2 56 yX2_at, Cond.instanceMethod yX2_at, Cond.selects RX2 yX2_at yX2_at, Cond.code yX2_at cX2_at 3 (some .int), Cond.methodLink RX2 52 yX2_weight, Cond.instanceMethod yX2_weight, Cond.selects RX2 yX2_weight yX2_weight, Cond.code yX2_weight cX2_weight 4 (some .int), Cond.methodLink RX2 127 yX2_keep, Cond.instanceMethod yX2_keep, Cond.selects RX2 yX2_keep yX2_keep, Cond.code yX2_keep cX2_keep 5 none, Cond.methodLink RX2 130 yX2_ofRow, Cond.instanceMethod yX2_ofRow, Cond.selects RX2 yX2_ofRow yX2_ofRow, Cond.code yX2_ofRow cX2_ofRow 5 (some .int), Cond.methodLink RX2 118 yX2_greatest, Cond.instanceMethod yX2_greatest]
def wsX2_takes_r3 : List Cond := [Cond.selects RX2 yX2_greatest yX2_greatest, Cond.code yX2_greatest cX2_greatest 7 (some .int), Cond.fieldLink RX2 29 "HiddenCandlesModel" "heap" "[I", Cond.methodLink RX2 79 Lib.Math.max.name, Cond.static Lib.Math.max.name, Cond.code Lib.Math.max.name Lib.Math.max.code 2 (some .int), Cond.methodLink RX2 75 yX2_pile, Cond.instanceMethod yX2_pile, Cond.selects RX2 yX2_pile yX2_pile, Cond.code yX2_pile cX2_pile 3 none]
def wsX2_takes : List Cond := .code yX2_takes cX2_takes 5 (some .int) :: ((wsX2_takes_r1 ++ (wsX2_takes_r2 ++ wsX2_takes_r3)) ++ wsX20)
def wsX2_mean : List Cond := .code yX2_mean cX2_mean 3 (some .double) :: ([.fieldLink RX2 38 "HiddenCandlesModel" "thrown" "I", .fieldLink RX2 49 "HiddenCandlesModel" "guesses" "I", .fieldLink RX2 20 "HiddenCandlesModel" "answer" "[I"] ++ wsX20)
def wsX2_digest_r1 : List Cond := [Cond.fieldLink RX2 38 "HiddenCandlesModel" "thrown" "I", Cond.constantLong RX2 133 (1583), Cond.constantLong RX2 135 (31), Cond.fieldLink RX2 13 "HiddenCandlesModel" "hidden" "I", Cond.fieldLink RX2 49 "HiddenCandlesModel" "guesses" "I", Cond.fieldLink RX2 9 "HiddenCandlesModel" "colours" "I", Cond.fieldLink RX2 68 "HiddenCandlesModel" "many" "I", Cond.fieldLink RX2 26 "HiddenCandlesModel" "row" "[I", Cond.methodLink RX2 108 yX2_counted, Cond.instanceMethod yX2_counted, Cond.selects RX2 yX2_counted yX2_counted, Cond.initialized RX2, Cond.code yX2_counted cX2_counted 4 (some .int), Cond.fieldLink RX2 20 "HiddenCandlesModel" "answer" "[I", Cond.fieldLink RX2 23 "HiddenCandlesModel" "doubted" "[I", Cond.methodLink RX2 41 yX2_codes, Cond.instanceMethod yX2_codes, Cond.selects RX2 yX2_codes yX2_codes, Cond.code yX2_codes cX2_codes 1 (some .int), Cond.methodLink RX2 96 yX2_look, Cond.instanceMethod yX2_look, Cond.selects RX2 yX2_look yX2_look, Cond.code yX2_look cX2_look 3 (some .int), Cond.methodLink RX2 71 yX2_fits]
def wsX2_digest_r2 : List Cond := [Cond.instanceMethod yX2_fits, Cond.selects RX2 yX2_fits yX2_fits, Cond.code yX2_fits cX2_fits 4 (some .boolean), Cond.fieldLink RX2 16 "HiddenCandlesModel" "code" "[I", Cond.methodLink RX2 65 yX2_answerTo, Cond.instanceMethod yX2_answerTo, Cond.selects RX2 yX2_answerTo yX2_answerTo, Cond.code yX2_answerTo cX2_answerTo 6 (some .int), Cond.fieldLink RX2 32 "HiddenCandlesModel" "ours" "[I", Cond.fieldLink RX2 35 "HiddenCandlesModel" "theirs" "[I", Cond.methodLink RX2 60 Lib.Math.min.name, Cond.static Lib.Math.min.name, Cond.initialized "java/lang/Math", Cond.code Lib.Math.min.name Lib.Math.min.code 2 (some .int), Cond.methodLink RX2 56 yX2_at, Cond.instanceMethod yX2_at, Cond.selects RX2 yX2_at yX2_at, Cond.code yX2_at cX2_at 3 (some .int), Cond.methodLink RX2 52 yX2_weight, Cond.instanceMethod yX2_weight, Cond.selects RX2 yX2_weight yX2_weight, Cond.code yX2_weight cX2_weight 4 (some .int), Cond.methodLink RX2 105 yX2_guessTold, Cond.instanceMethod yX2_guessTold]
def wsX2_digest_r3 : List Cond := [Cond.selects RX2 yX2_guessTold yX2_guessTold, Cond.code yX2_guessTold cX2_guessTold 3 (some .int), Cond.methodLink RX2 102 yX2_alike, Cond.instanceMethod yX2_alike, Cond.selects RX2 yX2_alike yX2_alike, Cond.code yX2_alike cX2_alike 4 (some .int), Cond.methodLink RX2 115 yX2_sureAt, Cond.instanceMethod yX2_sureAt, Cond.selects RX2 yX2_sureAt yX2_sureAt, Cond.code yX2_sureAt cX2_sureAt 3 (some .int), Cond.methodLink RX2 111 yX2_have, Cond.instanceMethod yX2_have, Cond.selects RX2 yX2_have yX2_have, Cond.code yX2_have cX2_have 6 (some .int)]
def wsX2_digest : List Cond := .code yX2_digest cX2_digest 5 (some .long) :: ((wsX2_digest_r1 ++ (wsX2_digest_r2 ++ wsX2_digest_r3)) ++ wsX20)
def wsJ9_max_7cf53 : List Cond := .code yJ9_max_7cf53 cJ9_max_7cf53 2 (some .int) :: ([])
def wsJ9_min_7cf53 : List Cond := .code yJ9_min_7cf53 cJ9_min_7cf53 2 (some .int) :: ([])
def wsL_setColours_r1 : List Cond := [Cond.classLink RL 13 "java/lang/IllegalArgumentException", Cond.methodLink RL 7 yX1_setColours, Cond.instanceMethod yX1_setColours, Cond.selects RX1 yX1_setColours yX1_setColours, Cond.initialized RX1, Cond.code yX1_setColours cX1_setColours 3 (some .int), Cond.classLink RX1 54 "java/lang/IllegalArgumentException", Cond.initialized "java/lang/IllegalArgumentException", Cond.fieldLink RX1 21 "HiddenCandles" "palette" "LHiddenCandles$Palette;", Cond.fieldLink RX1 14 "HiddenCandles" "fewColours" "LHiddenCandles$Palette;", Cond.fieldLink RX1 18 "HiddenCandles" "manyColours" "LHiddenCandles$Palette;", Cond.fieldLink RX1 24 "HiddenCandles" "hidden" "I", Cond.fieldLink RX1 28 "HiddenCandles" "guesses" "I", Cond.methodLink RX1 51 yX1_sieve, Cond.instanceMethod yX1_sieve, Cond.selects RX1 yX1_sieve yX1_sieve, Cond.code yX1_sieve cX1_sieve 2 none, Cond.fieldLink RX1 42 "HiddenCandles" "open" "[Z", Cond.instanceMethod yX0_hasCode, Cond.initialized RX0, Cond.selects RX0 yX0_hasCode yX0_hasCode, Cond.code yX0_hasCode cX0_hasCode 2 (some .boolean), Cond.fieldLink RX0 15 "HiddenCandles$Palette" "codes" "I", Cond.methodLink RX1 192 yX1_fits]
def wsL_setColours_r2 : List Cond := [Cond.instanceMethod yX1_fits, Cond.selects RX1 yX1_fits yX1_fits, Cond.code yX1_fits cX1_fits 4 (some .boolean), Cond.fieldLink RX1 38 "HiddenCandles" "doubted" "[Z", Cond.fieldLink RX1 31 "HiddenCandles" "guessed" "[I", Cond.fieldLink RX1 35 "HiddenCandles" "answers" "[I", Cond.instanceMethod yX0_answerTo, Cond.selects RX0 yX0_answerTo yX0_answerTo, Cond.code yX0_answerTo cX0_answerTo 3 (some .int), Cond.fieldLink RX0 23 "HiddenCandles$Palette" "table" "[[I", Cond.methodLink RX0 50 yX0_hasCode]
def wsL_setColours : List Cond := .codeWith yL_setColours cL_setColours 4 (some .int) [(0, 9, 12, 13)] :: ((wsL_setColours_r1 ++ wsL_setColours_r2) ++ wsX10 ++ wsX00 ++ (vx_atS RX1 58 "java/lang/IllegalArgumentException" ["java/lang/RuntimeException", "java/lang/Exception"]).filter goodWord)
def wsL_hide : List Cond := .codeWith yL_hide cL_hide 4 (some .int) [(0, 9, 12, 18)] :: ([.classLink RL 18 "java/lang/IndexOutOfBoundsException", .methodLink RL 15 yX1_hide, .instanceMethod yX1_hide, .selects RX1 yX1_hide yX1_hide, .initialized RX1, .code yX1_hide cX1_hide 3 (some .int), .fieldLink RX1 24 "HiddenCandles" "hidden" "I", .methodLink RX1 64 yX1_needCode, .instanceMethod yX1_needCode, .selects RX1 yX1_needCode yX1_needCode, .code yX1_needCode cX1_needCode 2 none, .classLink RX1 95 "java/lang/IndexOutOfBoundsException", .initialized "java/lang/IndexOutOfBoundsException", .fieldLink RX1 21 "HiddenCandles" "palette" "LHiddenCandles$Palette;", .instanceMethod yX0_hasCode, .initialized RX0, .selects RX0 yX0_hasCode yX0_hasCode, .code yX0_hasCode cX0_hasCode 2 (some .boolean), .fieldLink RX0 15 "HiddenCandles$Palette" "codes" "I"] ++ wsX10 ++ wsX00 ++ (vx_atS RX1 99 "java/lang/IndexOutOfBoundsException" ["java/lang/RuntimeException", "java/lang/Exception"]).filter goodWord)
def wsL_swap_r1 : List Cond := [Cond.classLink RL 18 "java/lang/IndexOutOfBoundsException", Cond.classLink RL 24 "java/lang/IllegalStateException", Cond.methodLink RL 20 yX1_swap, Cond.instanceMethod yX1_swap, Cond.selects RX1 yX1_swap yX1_swap, Cond.initialized RX1, Cond.code yX1_swap cX1_swap 6 (some .int), Cond.fieldLink RX1 21 "HiddenCandles" "palette" "LHiddenCandles$Palette;", Cond.fieldLink RX1 24 "HiddenCandles" "hidden" "I", Cond.methodLink RX1 67 yX1_needPlace, Cond.static yX1_needPlace, Cond.code yX1_needPlace cX1_needPlace 1 none, Cond.classLink RX1 95 "java/lang/IndexOutOfBoundsException", Cond.initialized "java/lang/IndexOutOfBoundsException", Cond.methodLink RX1 70 yX1_needHidden, Cond.instanceMethod yX1_needHidden, Cond.selects RX1 yX1_needHidden yX1_needHidden, Cond.code yX1_needHidden cX1_needHidden 1 none, Cond.classLink RX1 100 "java/lang/IllegalStateException", Cond.initialized "java/lang/IllegalStateException", Cond.instanceMethod yX0_colourOf, Cond.initialized RX0, Cond.selects RX0 yX0_colourOf yX0_colourOf, Cond.code yX0_colourOf cX0_colourOf 3 (some .int)]
def wsL_swap_r2 : List Cond := [Cond.fieldLink RX0 20 "HiddenCandles$Palette" "candles" "[[I", Cond.methodLink RX0 50 yX0_hasCode, Cond.instanceMethod yX0_hasCode, Cond.selects RX0 yX0_hasCode yX0_hasCode, Cond.code yX0_hasCode cX0_hasCode 2 (some .boolean), Cond.fieldLink RX0 15 "HiddenCandles$Palette" "codes" "I"]
def wsL_swap : List Cond := .codeWith yL_swap cL_swap 5 (some .int) [(0, 10, 13, 18), (0, 10, 17, 24)] :: ((wsL_swap_r1 ++ wsL_swap_r2) ++ wsX10 ++ wsX00 ++ (vx_atS RX1 99 "java/lang/IndexOutOfBoundsException" ["java/lang/RuntimeException", "java/lang/Exception"]).filter goodWord ++ (vx_atS RX1 104 "java/lang/IllegalStateException" ["java/lang/RuntimeException", "java/lang/Exception"]).filter goodWord)
def wsL_guess_r1 : List Cond := [Cond.classLink RL 18 "java/lang/IndexOutOfBoundsException", Cond.classLink RL 24 "java/lang/IllegalStateException", Cond.methodLink RL 26 yX1_guess, Cond.instanceMethod yX1_guess, Cond.selects RX1 yX1_guess yX1_guess, Cond.initialized RX1, Cond.code yX1_guess cX1_guess 3 (some .int), Cond.fieldLink RX1 21 "HiddenCandles" "palette" "LHiddenCandles$Palette;", Cond.fieldLink RX1 24 "HiddenCandles" "hidden" "I", Cond.methodLink RX1 64 yX1_needCode, Cond.instanceMethod yX1_needCode, Cond.selects RX1 yX1_needCode yX1_needCode, Cond.code yX1_needCode cX1_needCode 2 none, Cond.classLink RX1 95 "java/lang/IndexOutOfBoundsException", Cond.initialized "java/lang/IndexOutOfBoundsException", Cond.instanceMethod yX0_hasCode, Cond.initialized RX0, Cond.selects RX0 yX0_hasCode yX0_hasCode, Cond.code yX0_hasCode cX0_hasCode 2 (some .boolean), Cond.fieldLink RX0 15 "HiddenCandles$Palette" "codes" "I", Cond.methodLink RX1 70 yX1_needHidden, Cond.instanceMethod yX1_needHidden, Cond.selects RX1 yX1_needHidden yX1_needHidden, Cond.code yX1_needHidden cX1_needHidden 1 none]
def wsL_guess_r2 : List Cond := [Cond.classLink RX1 100 "java/lang/IllegalStateException", Cond.initialized "java/lang/IllegalStateException", Cond.instanceMethod yX0_answerTo, Cond.selects RX0 yX0_answerTo yX0_answerTo, Cond.code yX0_answerTo cX0_answerTo 3 (some .int), Cond.fieldLink RX0 23 "HiddenCandles$Palette" "table" "[[I", Cond.methodLink RX0 50 yX0_hasCode, Cond.methodLink RX1 80 yX1_append, Cond.instanceMethod yX1_append, Cond.selects RX1 yX1_append yX1_append, Cond.code yX1_append cX1_append 4 none, Cond.fieldLink RX1 28 "HiddenCandles" "guesses" "I", Cond.fieldLink RX1 31 "HiddenCandles" "guessed" "[I", Cond.fieldLink RX1 35 "HiddenCandles" "answers" "[I", Cond.fieldLink RX1 38 "HiddenCandles" "doubted" "[Z", Cond.methodLink RX1 51 yX1_sieve, Cond.instanceMethod yX1_sieve, Cond.selects RX1 yX1_sieve yX1_sieve, Cond.code yX1_sieve cX1_sieve 2 none, Cond.fieldLink RX1 42 "HiddenCandles" "open" "[Z", Cond.methodLink RX1 192 yX1_fits, Cond.instanceMethod yX1_fits, Cond.selects RX1 yX1_fits yX1_fits, Cond.code yX1_fits cX1_fits 4 (some .boolean)]
def wsL_guess : List Cond := .codeWith yL_guess cL_guess 4 (some .int) [(0, 9, 12, 18), (0, 9, 15, 24)] :: ((wsL_guess_r1 ++ wsL_guess_r2) ++ wsX10 ++ wsX00 ++ (vx_atS RX1 99 "java/lang/IndexOutOfBoundsException" ["java/lang/RuntimeException", "java/lang/Exception"]).filter goodWord ++ (vx_atS RX1 104 "java/lang/IllegalStateException" ["java/lang/RuntimeException", "java/lang/Exception"]).filter goodWord)
def wsL_tell_r1 : List Cond := [Cond.classLink RL 18 "java/lang/IndexOutOfBoundsException", Cond.classLink RL 13 "java/lang/IllegalArgumentException", Cond.classLink RL 24 "java/lang/IllegalStateException", Cond.methodLink RL 29 yX1_tell, Cond.instanceMethod yX1_tell, Cond.selects RX1 yX1_tell yX1_tell, Cond.initialized RX1, Cond.code yX1_tell cX1_tell 4 (some .int), Cond.fieldLink RX1 42 "HiddenCandles" "open" "[Z", Cond.methodLink RX1 64 yX1_needCode, Cond.instanceMethod yX1_needCode, Cond.selects RX1 yX1_needCode yX1_needCode, Cond.code yX1_needCode cX1_needCode 2 none, Cond.classLink RX1 95 "java/lang/IndexOutOfBoundsException", Cond.initialized "java/lang/IndexOutOfBoundsException", Cond.fieldLink RX1 21 "HiddenCandles" "palette" "LHiddenCandles$Palette;", Cond.instanceMethod yX0_hasCode, Cond.initialized RX0, Cond.selects RX0 yX0_hasCode yX0_hasCode, Cond.code yX0_hasCode cX0_hasCode 2 (some .boolean), Cond.fieldLink RX0 15 "HiddenCandles$Palette" "codes" "I", Cond.methodLink RX1 84 yX1_needPins, Cond.static yX1_needPins, Cond.code yX1_needPins cX1_needPins 2 none]
def wsL_tell_r2 : List Cond := [Cond.classLink RX1 54 "java/lang/IllegalArgumentException", Cond.initialized "java/lang/IllegalArgumentException", Cond.methodLink RX1 80 yX1_append, Cond.instanceMethod yX1_append, Cond.selects RX1 yX1_append yX1_append, Cond.code yX1_append cX1_append 4 none, Cond.classLink RX1 100 "java/lang/IllegalStateException", Cond.initialized "java/lang/IllegalStateException", Cond.fieldLink RX1 28 "HiddenCandles" "guesses" "I", Cond.fieldLink RX1 31 "HiddenCandles" "guessed" "[I", Cond.fieldLink RX1 35 "HiddenCandles" "answers" "[I", Cond.fieldLink RX1 38 "HiddenCandles" "doubted" "[Z", Cond.methodLink RX1 51 yX1_sieve, Cond.instanceMethod yX1_sieve, Cond.selects RX1 yX1_sieve yX1_sieve, Cond.code yX1_sieve cX1_sieve 2 none, Cond.methodLink RX1 192 yX1_fits, Cond.instanceMethod yX1_fits, Cond.selects RX1 yX1_fits yX1_fits, Cond.code yX1_fits cX1_fits 4 (some .boolean), Cond.instanceMethod yX0_answerTo, Cond.selects RX0 yX0_answerTo yX0_answerTo, Cond.code yX0_answerTo cX0_answerTo 3 (some .int), Cond.fieldLink RX0 23 "HiddenCandles$Palette" "table" "[[I"]
def wsL_tell_r3 : List Cond := [Cond.methodLink RX0 50 yX0_hasCode, Cond.methodLink RX1 87 yX1_size, Cond.static yX1_size, Cond.code yX1_size cX1_size 3 (some .int)]
def wsL_tell : List Cond := .codeWith yL_tell cL_tell 6 (some .int) [(0, 12, 15, 18), (0, 12, 19, 13), (0, 12, 23, 24)] :: ((wsL_tell_r1 ++ (wsL_tell_r2 ++ wsL_tell_r3)) ++ wsX10 ++ wsX00 ++ (vx_atS RX1 99 "java/lang/IndexOutOfBoundsException" ["java/lang/RuntimeException", "java/lang/Exception"]).filter goodWord ++ (vx_atS RX1 58 "java/lang/IllegalArgumentException" ["java/lang/RuntimeException", "java/lang/Exception"]).filter goodWord ++ (vx_atS RX1 104 "java/lang/IllegalStateException" ["java/lang/RuntimeException", "java/lang/Exception"]).filter goodWord)
def wsL_doubt_r1 : List Cond := [Cond.classLink RL 18 "java/lang/IndexOutOfBoundsException", Cond.methodLink RL 33 yX1_doubt, Cond.instanceMethod yX1_doubt, Cond.selects RX1 yX1_doubt yX1_doubt, Cond.initialized RX1, Cond.code yX1_doubt cX1_doubt 4 (some .boolean), Cond.classLink RX1 95 "java/lang/IndexOutOfBoundsException", Cond.initialized "java/lang/IndexOutOfBoundsException", Cond.fieldLink RX1 38 "HiddenCandles" "doubted" "[Z", Cond.methodLink RX1 91 yX1_hasGuess, Cond.instanceMethod yX1_hasGuess, Cond.selects RX1 yX1_hasGuess yX1_hasGuess, Cond.code yX1_hasGuess cX1_hasGuess 2 (some .boolean), Cond.fieldLink RX1 28 "HiddenCandles" "guesses" "I", Cond.methodLink RX1 51 yX1_sieve, Cond.instanceMethod yX1_sieve, Cond.selects RX1 yX1_sieve yX1_sieve, Cond.code yX1_sieve cX1_sieve 2 none, Cond.fieldLink RX1 42 "HiddenCandles" "open" "[Z", Cond.fieldLink RX1 21 "HiddenCandles" "palette" "LHiddenCandles$Palette;", Cond.instanceMethod yX0_hasCode, Cond.initialized RX0, Cond.selects RX0 yX0_hasCode yX0_hasCode, Cond.code yX0_hasCode cX0_hasCode 2 (some .boolean)]
def wsL_doubt_r2 : List Cond := [Cond.fieldLink RX0 15 "HiddenCandles$Palette" "codes" "I", Cond.methodLink RX1 192 yX1_fits, Cond.instanceMethod yX1_fits, Cond.selects RX1 yX1_fits yX1_fits, Cond.code yX1_fits cX1_fits 4 (some .boolean), Cond.fieldLink RX1 31 "HiddenCandles" "guessed" "[I", Cond.fieldLink RX1 35 "HiddenCandles" "answers" "[I", Cond.instanceMethod yX0_answerTo, Cond.selects RX0 yX0_answerTo yX0_answerTo, Cond.code yX0_answerTo cX0_answerTo 3 (some .int), Cond.fieldLink RX0 23 "HiddenCandles$Palette" "table" "[[I", Cond.methodLink RX0 50 yX0_hasCode]
def wsL_doubt : List Cond := .codeWith yL_doubt cL_doubt 5 (some .int) [(0, 17, 20, 18)] :: ((wsL_doubt_r1 ++ wsL_doubt_r2) ++ wsX10 ++ wsX00 ++ (vx_atS RX1 99 "java/lang/IndexOutOfBoundsException" ["java/lang/RuntimeException", "java/lang/Exception"]).filter goodWord)
def wsL_forget_r1 : List Cond := [Cond.classLink RL 24 "java/lang/IllegalStateException", Cond.methodLink RL 37 yX1_forget, Cond.instanceMethod yX1_forget, Cond.selects RX1 yX1_forget yX1_forget, Cond.initialized RX1, Cond.code yX1_forget cX1_forget 2 (some .int), Cond.classLink RX1 100 "java/lang/IllegalStateException", Cond.initialized "java/lang/IllegalStateException", Cond.fieldLink RX1 28 "HiddenCandles" "guesses" "I", Cond.fieldLink RX1 31 "HiddenCandles" "guessed" "[I", Cond.methodLink RX1 91 yX1_hasGuess, Cond.instanceMethod yX1_hasGuess, Cond.selects RX1 yX1_hasGuess yX1_hasGuess, Cond.code yX1_hasGuess cX1_hasGuess 2 (some .boolean), Cond.methodLink RX1 51 yX1_sieve, Cond.instanceMethod yX1_sieve, Cond.selects RX1 yX1_sieve yX1_sieve, Cond.code yX1_sieve cX1_sieve 2 none, Cond.fieldLink RX1 42 "HiddenCandles" "open" "[Z", Cond.fieldLink RX1 21 "HiddenCandles" "palette" "LHiddenCandles$Palette;", Cond.instanceMethod yX0_hasCode, Cond.initialized RX0, Cond.selects RX0 yX0_hasCode yX0_hasCode, Cond.code yX0_hasCode cX0_hasCode 2 (some .boolean)]
def wsL_forget_r2 : List Cond := [Cond.fieldLink RX0 15 "HiddenCandles$Palette" "codes" "I", Cond.methodLink RX1 192 yX1_fits, Cond.instanceMethod yX1_fits, Cond.selects RX1 yX1_fits yX1_fits, Cond.code yX1_fits cX1_fits 4 (some .boolean), Cond.fieldLink RX1 38 "HiddenCandles" "doubted" "[Z", Cond.fieldLink RX1 35 "HiddenCandles" "answers" "[I", Cond.instanceMethod yX0_answerTo, Cond.selects RX0 yX0_answerTo yX0_answerTo, Cond.code yX0_answerTo cX0_answerTo 3 (some .int), Cond.fieldLink RX0 23 "HiddenCandles$Palette" "table" "[[I", Cond.methodLink RX0 50 yX0_hasCode]
def wsL_forget : List Cond := .codeWith yL_forget cL_forget 3 (some .int) [(0, 8, 11, 24)] :: ((wsL_forget_r1 ++ wsL_forget_r2) ++ wsX10 ++ wsX00 ++ (vx_atS RX1 104 "java/lang/IllegalStateException" ["java/lang/RuntimeException", "java/lang/Exception"]).filter goodWord)
def wsL_colour_r1 : List Cond := [Cond.classLink RL 18 "java/lang/IndexOutOfBoundsException", Cond.methodLink RL 41 yX1_colour, Cond.instanceMethod yX1_colour, Cond.selects RX1 yX1_colour yX1_colour, Cond.initialized RX1, Cond.code yX1_colour cX1_colour 3 (some .int), Cond.fieldLink RX1 21 "HiddenCandles" "palette" "LHiddenCandles$Palette;", Cond.methodLink RX1 64 yX1_needCode, Cond.instanceMethod yX1_needCode, Cond.selects RX1 yX1_needCode yX1_needCode, Cond.code yX1_needCode cX1_needCode 2 none, Cond.classLink RX1 95 "java/lang/IndexOutOfBoundsException", Cond.initialized "java/lang/IndexOutOfBoundsException", Cond.instanceMethod yX0_hasCode, Cond.initialized RX0, Cond.selects RX0 yX0_hasCode yX0_hasCode, Cond.code yX0_hasCode cX0_hasCode 2 (some .boolean), Cond.fieldLink RX0 15 "HiddenCandles$Palette" "codes" "I", Cond.methodLink RX1 67 yX1_needPlace, Cond.static yX1_needPlace, Cond.code yX1_needPlace cX1_needPlace 1 none, Cond.instanceMethod yX0_colourOf, Cond.selects RX0 yX0_colourOf yX0_colourOf, Cond.code yX0_colourOf cX0_colourOf 3 (some .int)]
def wsL_colour_r2 : List Cond := [Cond.fieldLink RX0 20 "HiddenCandles$Palette" "candles" "[[I", Cond.methodLink RX0 50 yX0_hasCode]
def wsL_colour : List Cond := .codeWith yL_colour cL_colour 5 (some .int) [(0, 10, 13, 18)] :: ((wsL_colour_r1 ++ wsL_colour_r2) ++ wsX10 ++ wsX00 ++ (vx_atS RX1 99 "java/lang/IndexOutOfBoundsException" ["java/lang/RuntimeException", "java/lang/Exception"]).filter goodWord)
def wsL_pins : List Cond := .codeWith yL_pins cL_pins 5 (some .int) [(0, 10, 13, 18)] :: ([.classLink RL 18 "java/lang/IndexOutOfBoundsException", .methodLink RL 44 yX1_pins, .instanceMethod yX1_pins, .selects RX1 yX1_pins yX1_pins, .initialized RX1, .code yX1_pins cX1_pins 3 (some .int), .fieldLink RX1 21 "HiddenCandles" "palette" "LHiddenCandles$Palette;", .methodLink RX1 64 yX1_needCode, .instanceMethod yX1_needCode, .selects RX1 yX1_needCode yX1_needCode, .code yX1_needCode cX1_needCode 2 none, .classLink RX1 95 "java/lang/IndexOutOfBoundsException", .initialized "java/lang/IndexOutOfBoundsException", .instanceMethod yX0_hasCode, .initialized RX0, .selects RX0 yX0_hasCode yX0_hasCode, .code yX0_hasCode cX0_hasCode 2 (some .boolean), .fieldLink RX0 15 "HiddenCandles$Palette" "codes" "I", .instanceMethod yX0_answerTo, .selects RX0 yX0_answerTo yX0_answerTo, .code yX0_answerTo cX0_answerTo 3 (some .int), .fieldLink RX0 23 "HiddenCandles$Palette" "table" "[[I", .methodLink RX0 50 yX0_hasCode] ++ wsX10 ++ wsX00 ++ (vx_atS RX1 99 "java/lang/IndexOutOfBoundsException" ["java/lang/RuntimeException", "java/lang/Exception"]).filter goodWord)
def wsL_told_r1 : List Cond := [Cond.classLink RL 18 "java/lang/IndexOutOfBoundsException", Cond.methodLink RL 47 yX1_told, Cond.instanceMethod yX1_told, Cond.selects RX1 yX1_told yX1_told, Cond.initialized RX1, Cond.code yX1_told cX1_told 3 (some .int), Cond.classLink RX1 95 "java/lang/IndexOutOfBoundsException", Cond.initialized "java/lang/IndexOutOfBoundsException", Cond.fieldLink RX1 31 "HiddenCandles" "guessed" "[I", Cond.fieldLink RX1 35 "HiddenCandles" "answers" "[I", Cond.fieldLink RX1 38 "HiddenCandles" "doubted" "[Z", Cond.methodLink RX1 91 yX1_hasGuess, Cond.instanceMethod yX1_hasGuess, Cond.selects RX1 yX1_hasGuess yX1_hasGuess, Cond.code yX1_hasGuess cX1_hasGuess 2 (some .boolean), Cond.fieldLink RX1 28 "HiddenCandles" "guesses" "I", Cond.methodLink RX1 105 yX1_countFitting, Cond.instanceMethod yX1_countFitting, Cond.selects RX1 yX1_countFitting yX1_countFitting, Cond.code yX1_countFitting cX1_countFitting 4 (some .int), Cond.fieldLink RX1 21 "HiddenCandles" "palette" "LHiddenCandles$Palette;", Cond.methodLink RX1 192 yX1_fits, Cond.instanceMethod yX1_fits, Cond.selects RX1 yX1_fits yX1_fits]
def wsL_told_r2 : List Cond := [Cond.code yX1_fits cX1_fits 4 (some .boolean), Cond.instanceMethod yX0_answerTo, Cond.initialized RX0, Cond.selects RX0 yX0_answerTo yX0_answerTo, Cond.code yX0_answerTo cX0_answerTo 3 (some .int), Cond.fieldLink RX0 23 "HiddenCandles$Palette" "table" "[[I", Cond.methodLink RX0 50 yX0_hasCode, Cond.instanceMethod yX0_hasCode, Cond.selects RX0 yX0_hasCode yX0_hasCode, Cond.code yX0_hasCode cX0_hasCode 2 (some .boolean), Cond.fieldLink RX0 15 "HiddenCandles$Palette" "codes" "I", Cond.methodLink RX1 109 yX1_countAnswering, Cond.instanceMethod yX1_countAnswering, Cond.selects RX1 yX1_countAnswering yX1_countAnswering, Cond.code yX1_countAnswering cX1_countAnswering 5 (some .int)]
def wsL_told : List Cond := .codeWith yL_told cL_told 5 (some .int) [(0, 10, 13, 18)] :: ((wsL_told_r1 ++ wsL_told_r2) ++ wsX10 ++ wsX00 ++ (vx_atS RX1 99 "java/lang/IndexOutOfBoundsException" ["java/lang/RuntimeException", "java/lang/Exception"]).filter goodWord)
def wsL_count_r1 : List Cond := [Cond.classLink RL 18 "java/lang/IndexOutOfBoundsException", Cond.methodLink RL 50 yX1_count, Cond.instanceMethod yX1_count, Cond.selects RX1 yX1_count yX1_count, Cond.initialized RX1, Cond.code yX1_count cX1_count 2 (some .int), Cond.classLink RX1 95 "java/lang/IndexOutOfBoundsException", Cond.initialized "java/lang/IndexOutOfBoundsException", Cond.fieldLink RX1 21 "HiddenCandles" "palette" "LHiddenCandles$Palette;", Cond.fieldLink RX1 28 "HiddenCandles" "guesses" "I", Cond.fieldLink RX1 42 "HiddenCandles" "open" "[Z", Cond.fieldLink RX1 24 "HiddenCandles" "hidden" "I", Cond.methodLink RX1 87 yX1_size, Cond.static yX1_size, Cond.code yX1_size cX1_size 3 (some .int), Cond.methodLink RX1 117 yX1_countAllBlack, Cond.instanceMethod yX1_countAllBlack, Cond.selects RX1 yX1_countAllBlack yX1_countAllBlack, Cond.code yX1_countAllBlack cX1_countAllBlack 3 (some .int), Cond.fieldLink RX1 35 "HiddenCandles" "answers" "[I", Cond.methodLink RX1 121 yX1_countDoubted, Cond.instanceMethod yX1_countDoubted, Cond.selects RX1 yX1_countDoubted yX1_countDoubted, Cond.code yX1_countDoubted cX1_countDoubted 3 (some .int)]
def wsL_count_r2 : List Cond := [Cond.fieldLink RX1 38 "HiddenCandles" "doubted" "[Z"]
def wsL_count : List Cond := .codeWith yL_count cL_count 4 (some .int) [(0, 9, 12, 18)] :: ((wsL_count_r1 ++ wsL_count_r2) ++ wsX10 ++ wsX00 ++ (vx_atS RX1 99 "java/lang/IndexOutOfBoundsException" ["java/lang/RuntimeException", "java/lang/Exception"]).filter goodWord)
def wsL_isPossible : List Cond := .codeWith yL_isPossible cL_isPossible 4 (some .int) [(0, 16, 19, 18)] :: ([.classLink RL 18 "java/lang/IndexOutOfBoundsException", .methodLink RL 53 yX1_isPossible, .instanceMethod yX1_isPossible, .selects RX1 yX1_isPossible yX1_isPossible, .initialized RX1, .code yX1_isPossible cX1_isPossible 2 (some .boolean), .fieldLink RX1 42 "HiddenCandles" "open" "[Z", .methodLink RX1 64 yX1_needCode, .instanceMethod yX1_needCode, .selects RX1 yX1_needCode yX1_needCode, .code yX1_needCode cX1_needCode 2 none, .classLink RX1 95 "java/lang/IndexOutOfBoundsException", .initialized "java/lang/IndexOutOfBoundsException", .fieldLink RX1 21 "HiddenCandles" "palette" "LHiddenCandles$Palette;", .instanceMethod yX0_hasCode, .initialized RX0, .selects RX0 yX0_hasCode yX0_hasCode, .code yX0_hasCode cX0_hasCode 2 (some .boolean), .fieldLink RX0 15 "HiddenCandles$Palette" "codes" "I", .methodLink RX1 126 yX1_isIn, .static yX1_isIn, .code yX1_isIn cX1_isIn 2 (some .boolean)] ++ wsX10 ++ wsX00 ++ (vx_atS RX1 99 "java/lang/IndexOutOfBoundsException" ["java/lang/RuntimeException", "java/lang/Exception"]).filter goodWord)
def wsL_possible : List Cond := .codeWith yL_possible cL_possible 4 (some .int) [(0, 9, 12, 18)] :: ([.classLink RL 18 "java/lang/IndexOutOfBoundsException", .methodLink RL 57 yX1_possible, .instanceMethod yX1_possible, .selects RX1 yX1_possible yX1_possible, .initialized RX1, .code yX1_possible cX1_possible 3 (some .int), .classLink RX1 95 "java/lang/IndexOutOfBoundsException", .initialized "java/lang/IndexOutOfBoundsException", .fieldLink RX1 42 "HiddenCandles" "open" "[Z", .methodLink RX1 130 yX1_memberAt, .static yX1_memberAt, .code yX1_memberAt cX1_memberAt 4 (some .int)] ++ wsX10 ++ (vx_atS RX1 99 "java/lang/IndexOutOfBoundsException" ["java/lang/RuntimeException", "java/lang/Exception"]).filter goodWord)
def wsL_have_r1 : List Cond := [Cond.classLink RL 18 "java/lang/IndexOutOfBoundsException", Cond.methodLink RL 60 yX1_have, Cond.instanceMethod yX1_have, Cond.selects RX1 yX1_have yX1_have, Cond.initialized RX1, Cond.code yX1_have cX1_have 3 (some .int), Cond.classLink RX1 95 "java/lang/IndexOutOfBoundsException", Cond.initialized "java/lang/IndexOutOfBoundsException", Cond.fieldLink RX1 21 "HiddenCandles" "palette" "LHiddenCandles$Palette;", Cond.methodLink RX1 67 yX1_needPlace, Cond.static yX1_needPlace, Cond.code yX1_needPlace cX1_needPlace 1 none, Cond.methodLink RX1 138 yX1_countHaving, Cond.instanceMethod yX1_countHaving, Cond.selects RX1 yX1_countHaving yX1_countHaving, Cond.code yX1_countHaving cX1_countHaving 5 (some .int), Cond.fieldLink RX1 42 "HiddenCandles" "open" "[Z", Cond.instanceMethod yX0_colourOf, Cond.initialized RX0, Cond.selects RX0 yX0_colourOf yX0_colourOf, Cond.code yX0_colourOf cX0_colourOf 3 (some .int), Cond.fieldLink RX0 20 "HiddenCandles$Palette" "candles" "[[I", Cond.methodLink RX0 50 yX0_hasCode, Cond.instanceMethod yX0_hasCode]
def wsL_have_r2 : List Cond := [Cond.selects RX0 yX0_hasCode yX0_hasCode, Cond.code yX0_hasCode cX0_hasCode 2 (some .boolean), Cond.fieldLink RX0 15 "HiddenCandles$Palette" "codes" "I"]
def wsL_have : List Cond := .codeWith yL_have cL_have 5 (some .int) [(0, 10, 13, 18)] :: ((wsL_have_r1 ++ wsL_have_r2) ++ wsX10 ++ wsX00 ++ (vx_atS RX1 99 "java/lang/IndexOutOfBoundsException" ["java/lang/RuntimeException", "java/lang/Exception"]).filter goodWord)
def wsL_sure_r1 : List Cond := [Cond.classLink RL 18 "java/lang/IndexOutOfBoundsException", Cond.methodLink RL 63 yX1_sure, Cond.instanceMethod yX1_sure, Cond.selects RX1 yX1_sure yX1_sure, Cond.initialized RX1, Cond.code yX1_sure cX1_sure 4 (some .int), Cond.fieldLink RX1 42 "HiddenCandles" "open" "[Z", Cond.fieldLink RX1 21 "HiddenCandles" "palette" "LHiddenCandles$Palette;", Cond.methodLink RX1 67 yX1_needPlace, Cond.static yX1_needPlace, Cond.code yX1_needPlace cX1_needPlace 1 none, Cond.classLink RX1 95 "java/lang/IndexOutOfBoundsException", Cond.initialized "java/lang/IndexOutOfBoundsException", Cond.methodLink RX1 130 yX1_memberAt, Cond.static yX1_memberAt, Cond.code yX1_memberAt cX1_memberAt 4 (some .int), Cond.instanceMethod yX0_colourOf, Cond.initialized RX0, Cond.selects RX0 yX0_colourOf yX0_colourOf, Cond.code yX0_colourOf cX0_colourOf 3 (some .int), Cond.fieldLink RX0 20 "HiddenCandles$Palette" "candles" "[[I", Cond.methodLink RX0 50 yX0_hasCode, Cond.instanceMethod yX0_hasCode, Cond.selects RX0 yX0_hasCode yX0_hasCode]
def wsL_sure_r2 : List Cond := [Cond.code yX0_hasCode cX0_hasCode 2 (some .boolean), Cond.fieldLink RX0 15 "HiddenCandles$Palette" "codes" "I", Cond.methodLink RX1 138 yX1_countHaving, Cond.instanceMethod yX1_countHaving, Cond.selects RX1 yX1_countHaving yX1_countHaving, Cond.code yX1_countHaving cX1_countHaving 5 (some .int), Cond.methodLink RX1 87 yX1_size, Cond.static yX1_size, Cond.code yX1_size cX1_size 3 (some .int)]
def wsL_sure : List Cond := .codeWith yL_sure cL_sure 4 (some .int) [(0, 9, 12, 18)] :: ((wsL_sure_r1 ++ wsL_sure_r2) ++ wsX10 ++ wsX00 ++ (vx_atS RX1 99 "java/lang/IndexOutOfBoundsException" ["java/lang/RuntimeException", "java/lang/Exception"]).filter goodWord)
def wsL_worst_r1 : List Cond := [Cond.classLink RL 18 "java/lang/IndexOutOfBoundsException", Cond.methodLink RL 66 yX1_worst, Cond.instanceMethod yX1_worst, Cond.selects RX1 yX1_worst yX1_worst, Cond.initialized RX1, Cond.code yX1_worst cX1_worst 2 (some .int), Cond.fieldLink RX1 42 "HiddenCandles" "open" "[Z", Cond.methodLink RX1 64 yX1_needCode, Cond.instanceMethod yX1_needCode, Cond.selects RX1 yX1_needCode yX1_needCode, Cond.code yX1_needCode cX1_needCode 2 none, Cond.classLink RX1 95 "java/lang/IndexOutOfBoundsException", Cond.initialized "java/lang/IndexOutOfBoundsException", Cond.fieldLink RX1 21 "HiddenCandles" "palette" "LHiddenCandles$Palette;", Cond.instanceMethod yX0_hasCode, Cond.initialized RX0, Cond.selects RX0 yX0_hasCode yX0_hasCode, Cond.code yX0_hasCode cX0_hasCode 2 (some .boolean), Cond.fieldLink RX0 15 "HiddenCandles$Palette" "codes" "I", Cond.methodLink RX1 141 yX1_greatestHeap, Cond.instanceMethod yX1_greatestHeap, Cond.selects RX1 yX1_greatestHeap yX1_greatestHeap, Cond.code yX1_greatestHeap cX1_greatestHeap 5 (some .int), Cond.fieldLink RX1 48 "HiddenCandles" "heaps" "[I"]
def wsL_worst_r2 : List Cond := [Cond.methodLink RX1 202 Lib.Math.max.name, Cond.static Lib.Math.max.name, Cond.initialized "java/lang/Math", Cond.code Lib.Math.max.name Lib.Math.max.code 2 (some .int), Cond.methodLink RX1 145 yX1_heapUp, Cond.instanceMethod yX1_heapUp, Cond.selects RX1 yX1_heapUp yX1_heapUp, Cond.code yX1_heapUp cX1_heapUp 5 none, Cond.methodLink RX1 196 yJ7_fill_53178, Cond.static yJ7_fill_53178, Cond.initialized RJ7, Cond.code yJ7_fill_53178 cJ7_fill_53178 4 none, Cond.instanceMethod yX0_answerTo, Cond.selects RX0 yX0_answerTo yX0_answerTo, Cond.code yX0_answerTo cX0_answerTo 3 (some .int), Cond.fieldLink RX0 23 "HiddenCandles$Palette" "table" "[[I", Cond.methodLink RX0 50 yX0_hasCode]
def wsL_worst : List Cond := .codeWith yL_worst cL_worst 4 (some .int) [(0, 9, 12, 18)] :: ((wsL_worst_r1 ++ wsL_worst_r2) ++ wsX10 ++ wsX00 ++ (vx_atS RX1 99 "java/lang/IndexOutOfBoundsException" ["java/lang/RuntimeException", "java/lang/Exception"]).filter goodWord)
def wsL_parts_r1 : List Cond := [Cond.classLink RL 18 "java/lang/IndexOutOfBoundsException", Cond.methodLink RL 69 yX1_parts, Cond.instanceMethod yX1_parts, Cond.selects RX1 yX1_parts yX1_parts, Cond.initialized RX1, Cond.code yX1_parts cX1_parts 4 (some .int), Cond.fieldLink RX1 42 "HiddenCandles" "open" "[Z", Cond.fieldLink RX1 48 "HiddenCandles" "heaps" "[I", Cond.methodLink RX1 64 yX1_needCode, Cond.instanceMethod yX1_needCode, Cond.selects RX1 yX1_needCode yX1_needCode, Cond.code yX1_needCode cX1_needCode 2 none, Cond.classLink RX1 95 "java/lang/IndexOutOfBoundsException", Cond.initialized "java/lang/IndexOutOfBoundsException", Cond.fieldLink RX1 21 "HiddenCandles" "palette" "LHiddenCandles$Palette;", Cond.instanceMethod yX0_hasCode, Cond.initialized RX0, Cond.selects RX0 yX0_hasCode yX0_hasCode, Cond.code yX0_hasCode cX0_hasCode 2 (some .boolean), Cond.fieldLink RX0 15 "HiddenCandles$Palette" "codes" "I", Cond.methodLink RX1 145 yX1_heapUp, Cond.instanceMethod yX1_heapUp, Cond.selects RX1 yX1_heapUp yX1_heapUp, Cond.code yX1_heapUp cX1_heapUp 5 none]
def wsL_parts_r2 : List Cond := [Cond.methodLink RX1 196 yJ7_fill_53178, Cond.static yJ7_fill_53178, Cond.initialized RJ7, Cond.code yJ7_fill_53178 cJ7_fill_53178 4 none, Cond.instanceMethod yX0_answerTo, Cond.selects RX0 yX0_answerTo yX0_answerTo, Cond.code yX0_answerTo cX0_answerTo 3 (some .int), Cond.fieldLink RX0 23 "HiddenCandles$Palette" "table" "[[I", Cond.methodLink RX0 50 yX0_hasCode]
def wsL_parts : List Cond := .codeWith yL_parts cL_parts 4 (some .int) [(0, 9, 12, 18)] :: ((wsL_parts_r1 ++ wsL_parts_r2) ++ wsX10 ++ wsX00 ++ (vx_atS RX1 99 "java/lang/IndexOutOfBoundsException" ["java/lang/RuntimeException", "java/lang/Exception"]).filter goodWord)
def wsL_takes_r1 : List Cond := [Cond.classLink RL 18 "java/lang/IndexOutOfBoundsException", Cond.methodLink RL 72 yX1_takes, Cond.instanceMethod yX1_takes, Cond.selects RX1 yX1_takes yX1_takes, Cond.initialized RX1, Cond.code yX1_takes cX1_takes 5 (some .int), Cond.fieldLink RX1 45 "HiddenCandles" "play" "[Z", Cond.fieldLink RX1 21 "HiddenCandles" "palette" "LHiddenCandles$Palette;", Cond.methodLink RX1 64 yX1_needCode, Cond.instanceMethod yX1_needCode, Cond.selects RX1 yX1_needCode yX1_needCode, Cond.code yX1_needCode cX1_needCode 2 none, Cond.classLink RX1 95 "java/lang/IndexOutOfBoundsException", Cond.initialized "java/lang/IndexOutOfBoundsException", Cond.instanceMethod yX0_hasCode, Cond.initialized RX0, Cond.selects RX0 yX0_hasCode yX0_hasCode, Cond.code yX0_hasCode cX0_hasCode 2 (some .boolean), Cond.fieldLink RX0 15 "HiddenCandles$Palette" "codes" "I", Cond.instanceMethod yX0_answerTo, Cond.selects RX0 yX0_answerTo yX0_answerTo, Cond.code yX0_answerTo cX0_answerTo 3 (some .int), Cond.fieldLink RX0 23 "HiddenCandles$Palette" "table" "[[I", Cond.methodLink RX0 50 yX0_hasCode]
def wsL_takes_r2 : List Cond := [Cond.methodLink RX1 156 yX1_keepAnswering, Cond.instanceMethod yX1_keepAnswering, Cond.selects RX1 yX1_keepAnswering yX1_keepAnswering, Cond.code yX1_keepAnswering cX1_keepAnswering 5 none, Cond.methodLink RX1 149 yX1_leastBad, Cond.instanceMethod yX1_leastBad, Cond.selects RX1 yX1_leastBad yX1_leastBad, Cond.code yX1_leastBad cX1_leastBad 9 (some .int), Cond.methodLink RX1 87 yX1_size, Cond.static yX1_size, Cond.code yX1_size cX1_size 3 (some .int), Cond.methodLink RX1 126 yX1_isIn, Cond.static yX1_isIn, Cond.code yX1_isIn cX1_isIn 2 (some .boolean), Cond.methodLink RX1 141 yX1_greatestHeap, Cond.instanceMethod yX1_greatestHeap, Cond.selects RX1 yX1_greatestHeap yX1_greatestHeap, Cond.code yX1_greatestHeap cX1_greatestHeap 5 (some .int), Cond.fieldLink RX1 48 "HiddenCandles" "heaps" "[I", Cond.methodLink RX1 202 Lib.Math.max.name, Cond.static Lib.Math.max.name, Cond.initialized "java/lang/Math", Cond.code Lib.Math.max.name Lib.Math.max.code 2 (some .int), Cond.methodLink RX1 145 yX1_heapUp]
def wsL_takes_r3 : List Cond := [Cond.instanceMethod yX1_heapUp, Cond.selects RX1 yX1_heapUp yX1_heapUp, Cond.code yX1_heapUp cX1_heapUp 5 none, Cond.methodLink RX1 196 yJ7_fill_53178, Cond.static yJ7_fill_53178, Cond.initialized RJ7, Cond.code yJ7_fill_53178 cJ7_fill_53178 4 none]
def wsL_takes : List Cond := .codeWith yL_takes cL_takes 5 (some .int) [(0, 10, 13, 18)] :: ((wsL_takes_r1 ++ (wsL_takes_r2 ++ wsL_takes_r3)) ++ wsX10 ++ wsX00 ++ (vx_atS RX1 99 "java/lang/IndexOutOfBoundsException" ["java/lang/RuntimeException", "java/lang/Exception"]).filter goodWord)
def wsL_law0_r1 : List Cond := [Cond.classLink RL 8 RX1, Cond.instantiable RX1 11, Cond.initialized RX1, Cond.classLink RL 76 RX2, Cond.instantiable RX2 12, Cond.initialized RX2, Cond.arrayClass .long, Cond.methodLink RL 75 yX1_init, Cond.instanceMethod yX1_init, Cond.code yX1_init cX1_init 1 none, Cond.methodLink RX1 3 objectInit, Cond.instanceMethod objectInit, Cond.code objectInit ⟨#[0xb1]⟩ 1 none, Cond.classLink RX1 9 RX0, Cond.instantiable RX0 4, Cond.initialized RX0, Cond.fieldLink RX1 14 "HiddenCandles" "fewColours" "LHiddenCandles$Palette;", Cond.fieldLink RX1 18 "HiddenCandles" "manyColours" "LHiddenCandles$Palette;", Cond.fieldLink RX1 21 "HiddenCandles" "palette" "LHiddenCandles$Palette;", Cond.fieldLink RX1 24 "HiddenCandles" "hidden" "I", Cond.fieldLink RX1 28 "HiddenCandles" "guesses" "I", Cond.arrayClass .int, Cond.fieldLink RX1 31 "HiddenCandles" "guessed" "[I", Cond.fieldLink RX1 35 "HiddenCandles" "answers" "[I"]
def wsL_law0_r2 : List Cond := [Cond.arrayClass .boolean, Cond.fieldLink RX1 38 "HiddenCandles" "doubted" "[Z", Cond.fieldLink RX1 42 "HiddenCandles" "open" "[Z", Cond.fieldLink RX1 45 "HiddenCandles" "play" "[Z", Cond.fieldLink RX1 48 "HiddenCandles" "heaps" "[I", Cond.instanceMethod yX0_init, Cond.code yX0_init cX0_init 2 none, Cond.methodLink RX0 3 objectInit, Cond.fieldLink RX0 9 "HiddenCandles$Palette" "colours" "I", Cond.fieldLink RX0 15 "HiddenCandles$Palette" "codes" "I", Cond.classLink RX0 18 "[[I", Cond.fieldLink RX0 20 "HiddenCandles$Palette" "candles" "[[I", Cond.fieldLink RX0 23 "HiddenCandles$Palette" "table" "[[I", Cond.methodLink RX0 26 yX0_lightCandles, Cond.instanceMethod yX0_lightCandles, Cond.selects RX0 yX0_lightCandles yX0_lightCandles, Cond.code yX0_lightCandles cX0_lightCandles 4 none, Cond.methodLink RX0 29 yX0_tallies, Cond.instanceMethod yX0_tallies, Cond.selects RX0 yX0_tallies yX0_tallies, Cond.code yX0_tallies cX0_tallies 5 (some (.array (.array .int))), Cond.methodLink RX0 33 yX0_fillTable, Cond.instanceMethod yX0_fillTable, Cond.selects RX0 yX0_fillTable yX0_fillTable]
def wsL_law0_r3 : List Cond := [Cond.code yX0_fillTable cX0_fillTable 7 none, Cond.methodLink RX0 37 yX0_countSame, Cond.static yX0_countSame, Cond.code yX0_countSame cX0_countSame 4 (some .int), Cond.methodLink RX0 41 yX0_countShared, Cond.static yX0_countShared, Cond.code yX0_countShared cX0_countShared 4 (some .int), Cond.methodLink RX0 44 Lib.Math.min.name, Cond.static Lib.Math.min.name, Cond.initialized "java/lang/Math", Cond.code Lib.Math.min.name Lib.Math.min.code 2 (some .int), Cond.methodLink RX1 51 yX1_sieve, Cond.instanceMethod yX1_sieve, Cond.selects RX1 yX1_sieve yX1_sieve, Cond.code yX1_sieve cX1_sieve 2 none, Cond.instanceMethod yX0_hasCode, Cond.selects RX0 yX0_hasCode yX0_hasCode, Cond.code yX0_hasCode cX0_hasCode 2 (some .boolean), Cond.methodLink RX1 192 yX1_fits, Cond.instanceMethod yX1_fits, Cond.selects RX1 yX1_fits yX1_fits, Cond.code yX1_fits cX1_fits 4 (some .boolean), Cond.instanceMethod yX0_answerTo, Cond.selects RX0 yX0_answerTo yX0_answerTo]
def wsL_law0_r4 : List Cond := [Cond.code yX0_answerTo cX0_answerTo 3 (some .int), Cond.methodLink RX0 50 yX0_hasCode, Cond.methodLink RL 78 yX2_init, Cond.instanceMethod yX2_init, Cond.code yX2_init cX2_init 1 none, Cond.methodLink RX2 1 objectInit, Cond.fieldLink RX2 9 "HiddenCandlesModel" "colours" "I", Cond.fieldLink RX2 13 "HiddenCandlesModel" "hidden" "I", Cond.fieldLink RX2 16 "HiddenCandlesModel" "code" "[I", Cond.fieldLink RX2 20 "HiddenCandlesModel" "answer" "[I", Cond.fieldLink RX2 23 "HiddenCandlesModel" "doubted" "[I", Cond.fieldLink RX2 26 "HiddenCandlesModel" "row" "[I", Cond.fieldLink RX2 29 "HiddenCandlesModel" "heap" "[I", Cond.fieldLink RX2 32 "HiddenCandlesModel" "ours" "[I", Cond.fieldLink RX2 35 "HiddenCandlesModel" "theirs" "[I", Cond.methodLink RL 79 yL_setColours, Cond.static yL_setColours, Cond.initialized RL, Cond.codeWith yL_setColours cL_setColours 4 (some .int) [(0, 9, 12, 13)], Cond.classLink RL 13 "java/lang/IllegalArgumentException", Cond.methodLink RL 7 yX1_setColours, Cond.instanceMethod yX1_setColours, Cond.selects RX1 yX1_setColours yX1_setColours, Cond.code yX1_setColours cX1_setColours 3 (some .int)]
def wsL_law0_r5 : List Cond := [Cond.classLink RX1 54 "java/lang/IllegalArgumentException", Cond.initialized "java/lang/IllegalArgumentException", Cond.methodLink RL 84 yX2_setColours, Cond.instanceMethod yX2_setColours, Cond.selects RX2 yX2_setColours yX2_setColours, Cond.code yX2_setColours cX2_setColours 3 (some .int), Cond.fieldLink RX2 38 "HiddenCandlesModel" "thrown" "I", Cond.fieldLink RX2 49 "HiddenCandlesModel" "guesses" "I", Cond.methodLink RX2 45 yX2_isIn, Cond.static yX2_isIn, Cond.code yX2_isIn cX2_isIn 3 (some .boolean), Cond.methodLink RX2 82 yX2_no, Cond.instanceMethod yX2_no, Cond.selects RX2 yX2_no yX2_no, Cond.code yX2_no cX2_no 2 (some .int), Cond.methodLink RL 85 yX2_thrown, Cond.instanceMethod yX2_thrown, Cond.selects RX2 yX2_thrown yX2_thrown, Cond.code yX2_thrown cX2_thrown 1 (some .int), Cond.methodLink RL 88 yL_hide, Cond.static yL_hide, Cond.codeWith yL_hide cL_hide 4 (some .int) [(0, 9, 12, 18)], Cond.classLink RL 18 "java/lang/IndexOutOfBoundsException", Cond.methodLink RL 15 yX1_hide]
def wsL_law0_r6 : List Cond := [Cond.instanceMethod yX1_hide, Cond.selects RX1 yX1_hide yX1_hide, Cond.code yX1_hide cX1_hide 3 (some .int), Cond.methodLink RX1 64 yX1_needCode, Cond.instanceMethod yX1_needCode, Cond.selects RX1 yX1_needCode yX1_needCode, Cond.code yX1_needCode cX1_needCode 2 none, Cond.classLink RX1 95 "java/lang/IndexOutOfBoundsException", Cond.initialized "java/lang/IndexOutOfBoundsException", Cond.methodLink RL 90 yX2_hide, Cond.instanceMethod yX2_hide, Cond.selects RX2 yX2_hide yX2_hide, Cond.code yX2_hide cX2_hide 3 (some .int), Cond.methodLink RX2 85 yX2_isCode, Cond.instanceMethod yX2_isCode, Cond.selects RX2 yX2_isCode yX2_isCode, Cond.code yX2_isCode cX2_isCode 2 (some .boolean), Cond.methodLink RX2 41 yX2_codes, Cond.instanceMethod yX2_codes, Cond.selects RX2 yX2_codes yX2_codes, Cond.code yX2_codes cX2_codes 1 (some .int), Cond.methodLink RL 91 yL_swap, Cond.static yL_swap, Cond.codeWith yL_swap cL_swap 5 (some .int) [(0, 10, 13, 18), (0, 10, 17, 24)]]
def wsL_law0_r7 : List Cond := [Cond.classLink RL 24 "java/lang/IllegalStateException", Cond.methodLink RL 20 yX1_swap, Cond.instanceMethod yX1_swap, Cond.selects RX1 yX1_swap yX1_swap, Cond.code yX1_swap cX1_swap 6 (some .int), Cond.methodLink RX1 67 yX1_needPlace, Cond.static yX1_needPlace, Cond.code yX1_needPlace cX1_needPlace 1 none, Cond.methodLink RX1 70 yX1_needHidden, Cond.instanceMethod yX1_needHidden, Cond.selects RX1 yX1_needHidden yX1_needHidden, Cond.code yX1_needHidden cX1_needHidden 1 none, Cond.classLink RX1 100 "java/lang/IllegalStateException", Cond.initialized "java/lang/IllegalStateException", Cond.instanceMethod yX0_colourOf, Cond.selects RX0 yX0_colourOf yX0_colourOf, Cond.code yX0_colourOf cX0_colourOf 3 (some .int), Cond.methodLink RL 94 yX2_swap, Cond.instanceMethod yX2_swap, Cond.selects RX2 yX2_swap yX2_swap, Cond.code yX2_swap cX2_swap 5 (some .int), Cond.methodLink RX2 89 yX2_isPlace, Cond.static yX2_isPlace, Cond.code yX2_isPlace cX2_isPlace 1 (some .boolean)]
def wsL_law0_r8 : List Cond := [Cond.methodLink RX2 56 yX2_at, Cond.instanceMethod yX2_at, Cond.selects RX2 yX2_at yX2_at, Cond.code yX2_at cX2_at 3 (some .int), Cond.methodLink RX2 52 yX2_weight, Cond.instanceMethod yX2_weight, Cond.selects RX2 yX2_weight yX2_weight, Cond.code yX2_weight cX2_weight 4 (some .int), Cond.methodLink RL 95 yL_guess, Cond.static yL_guess, Cond.codeWith yL_guess cL_guess 4 (some .int) [(0, 9, 12, 18), (0, 9, 15, 24)], Cond.methodLink RL 26 yX1_guess, Cond.instanceMethod yX1_guess, Cond.selects RX1 yX1_guess yX1_guess, Cond.code yX1_guess cX1_guess 3 (some .int), Cond.methodLink RX1 80 yX1_append, Cond.instanceMethod yX1_append, Cond.selects RX1 yX1_append yX1_append, Cond.code yX1_append cX1_append 4 none, Cond.methodLink RL 97 yX2_guess, Cond.instanceMethod yX2_guess, Cond.selects RX2 yX2_guess yX2_guess, Cond.code yX2_guess cX2_guess 2 (some .int), Cond.methodLink RX2 65 yX2_answerTo]
def wsL_law0_r9 : List Cond := [Cond.instanceMethod yX2_answerTo, Cond.selects RX2 yX2_answerTo yX2_answerTo, Cond.code yX2_answerTo cX2_answerTo 6 (some .int), Cond.methodLink RX2 60 Lib.Math.min.name, Cond.methodLink RX2 92 yX2_note, Cond.instanceMethod yX2_note, Cond.selects RX2 yX2_note yX2_note, Cond.code yX2_note cX2_note 3 none, Cond.methodLink RL 98 yL_tell, Cond.static yL_tell, Cond.codeWith yL_tell cL_tell 6 (some .int) [(0, 12, 15, 18), (0, 12, 19, 13), (0, 12, 23, 24)], Cond.methodLink RL 29 yX1_tell, Cond.instanceMethod yX1_tell, Cond.selects RX1 yX1_tell yX1_tell, Cond.code yX1_tell cX1_tell 4 (some .int), Cond.methodLink RX1 84 yX1_needPins, Cond.static yX1_needPins, Cond.code yX1_needPins cX1_needPins 2 none, Cond.methodLink RX1 87 yX1_size, Cond.static yX1_size, Cond.code yX1_size cX1_size 3 (some .int), Cond.methodLink RL 101 yX2_tell, Cond.instanceMethod yX2_tell, Cond.selects RX2 yX2_tell yX2_tell]
def wsL_law0_r10 : List Cond := [Cond.code yX2_tell cX2_tell 4 (some .int), Cond.methodLink RX2 96 yX2_look, Cond.instanceMethod yX2_look, Cond.selects RX2 yX2_look yX2_look, Cond.code yX2_look cX2_look 3 (some .int), Cond.fieldLink RX2 68 "HiddenCandlesModel" "many" "I", Cond.methodLink RX2 71 yX2_fits, Cond.instanceMethod yX2_fits, Cond.selects RX2 yX2_fits yX2_fits, Cond.code yX2_fits cX2_fits 4 (some .boolean), Cond.methodLink RL 102 yL_doubt, Cond.static yL_doubt, Cond.codeWith yL_doubt cL_doubt 5 (some .int) [(0, 17, 20, 18)], Cond.methodLink RL 33 yX1_doubt, Cond.instanceMethod yX1_doubt, Cond.selects RX1 yX1_doubt yX1_doubt, Cond.code yX1_doubt cX1_doubt 4 (some .boolean), Cond.methodLink RX1 91 yX1_hasGuess, Cond.instanceMethod yX1_hasGuess, Cond.selects RX1 yX1_hasGuess yX1_hasGuess, Cond.code yX1_hasGuess cX1_hasGuess 2 (some .boolean), Cond.methodLink RL 105 yX2_doubt, Cond.instanceMethod yX2_doubt, Cond.selects RX2 yX2_doubt yX2_doubt]
def wsL_law0_r11 : List Cond := [Cond.code yX2_doubt cX2_doubt 4 (some .boolean), Cond.methodLink RX2 99 yX2_isGuess, Cond.instanceMethod yX2_isGuess, Cond.selects RX2 yX2_isGuess yX2_isGuess, Cond.code yX2_isGuess cX2_isGuess 2 (some .boolean), Cond.methodLink RL 106 yL_forget, Cond.static yL_forget, Cond.codeWith yL_forget cL_forget 3 (some .int) [(0, 8, 11, 24)], Cond.methodLink RL 37 yX1_forget, Cond.instanceMethod yX1_forget, Cond.selects RX1 yX1_forget yX1_forget, Cond.code yX1_forget cX1_forget 2 (some .int), Cond.methodLink RL 109 yX2_forget, Cond.instanceMethod yX2_forget, Cond.selects RX2 yX2_forget yX2_forget, Cond.code yX2_forget cX2_forget 1 (some .int), Cond.methodLink RL 110 yL_colour, Cond.static yL_colour, Cond.codeWith yL_colour cL_colour 5 (some .int) [(0, 10, 13, 18)], Cond.methodLink RL 41 yX1_colour, Cond.instanceMethod yX1_colour, Cond.selects RX1 yX1_colour yX1_colour, Cond.code yX1_colour cX1_colour 3 (some .int), Cond.methodLink RL 112 yX2_colour]
def wsL_law0_r12 : List Cond := [Cond.instanceMethod yX2_colour, Cond.selects RX2 yX2_colour yX2_colour, Cond.code yX2_colour cX2_colour 3 (some .int), Cond.methodLink RL 113 yL_pins, Cond.static yL_pins, Cond.codeWith yL_pins cL_pins 5 (some .int) [(0, 10, 13, 18)], Cond.methodLink RL 44 yX1_pins, Cond.instanceMethod yX1_pins, Cond.selects RX1 yX1_pins yX1_pins, Cond.code yX1_pins cX1_pins 3 (some .int), Cond.methodLink RL 115 yX2_pins, Cond.instanceMethod yX2_pins, Cond.selects RX2 yX2_pins yX2_pins, Cond.code yX2_pins cX2_pins 3 (some .int), Cond.methodLink RL 116 yL_told, Cond.static yL_told, Cond.codeWith yL_told cL_told 5 (some .int) [(0, 10, 13, 18)], Cond.methodLink RL 47 yX1_told, Cond.instanceMethod yX1_told, Cond.selects RX1 yX1_told yX1_told, Cond.code yX1_told cX1_told 3 (some .int), Cond.methodLink RX1 105 yX1_countFitting, Cond.instanceMethod yX1_countFitting, Cond.selects RX1 yX1_countFitting yX1_countFitting]
def wsL_law0_r13 : List Cond := [Cond.code yX1_countFitting cX1_countFitting 4 (some .int), Cond.methodLink RX1 109 yX1_countAnswering, Cond.instanceMethod yX1_countAnswering, Cond.selects RX1 yX1_countAnswering yX1_countAnswering, Cond.code yX1_countAnswering cX1_countAnswering 5 (some .int), Cond.methodLink RL 118 yX2_told, Cond.instanceMethod yX2_told, Cond.selects RX2 yX2_told yX2_told, Cond.code yX2_told cX2_told 3 (some .int), Cond.methodLink RX2 105 yX2_guessTold, Cond.instanceMethod yX2_guessTold, Cond.selects RX2 yX2_guessTold yX2_guessTold, Cond.code yX2_guessTold cX2_guessTold 3 (some .int), Cond.methodLink RX2 102 yX2_alike, Cond.instanceMethod yX2_alike, Cond.selects RX2 yX2_alike yX2_alike, Cond.code yX2_alike cX2_alike 4 (some .int), Cond.methodLink RL 119 yL_count, Cond.static yL_count, Cond.codeWith yL_count cL_count 4 (some .int) [(0, 9, 12, 18)], Cond.methodLink RL 50 yX1_count, Cond.instanceMethod yX1_count, Cond.selects RX1 yX1_count yX1_count, Cond.code yX1_count cX1_count 2 (some .int)]
def wsL_law0_r14 : List Cond := [Cond.methodLink RX1 117 yX1_countAllBlack, Cond.instanceMethod yX1_countAllBlack, Cond.selects RX1 yX1_countAllBlack yX1_countAllBlack, Cond.code yX1_countAllBlack cX1_countAllBlack 3 (some .int), Cond.methodLink RX1 121 yX1_countDoubted, Cond.instanceMethod yX1_countDoubted, Cond.selects RX1 yX1_countDoubted yX1_countDoubted, Cond.code yX1_countDoubted cX1_countDoubted 3 (some .int), Cond.methodLink RL 121 yX2_count, Cond.instanceMethod yX2_count, Cond.selects RX2 yX2_count yX2_count, Cond.code yX2_count cX2_count 2 (some .int), Cond.methodLink RX2 108 yX2_counted, Cond.instanceMethod yX2_counted, Cond.selects RX2 yX2_counted yX2_counted, Cond.code yX2_counted cX2_counted 4 (some .int), Cond.methodLink RL 122 yL_isPossible, Cond.static yL_isPossible, Cond.codeWith yL_isPossible cL_isPossible 4 (some .int) [(0, 16, 19, 18)], Cond.methodLink RL 53 yX1_isPossible, Cond.instanceMethod yX1_isPossible, Cond.selects RX1 yX1_isPossible yX1_isPossible, Cond.code yX1_isPossible cX1_isPossible 2 (some .boolean), Cond.methodLink RX1 126 yX1_isIn]
def wsL_law0_r15 : List Cond := [Cond.static yX1_isIn, Cond.code yX1_isIn cX1_isIn 2 (some .boolean), Cond.methodLink RL 124 yX2_isPossible, Cond.instanceMethod yX2_isPossible, Cond.selects RX2 yX2_isPossible yX2_isPossible, Cond.code yX2_isPossible cX2_isPossible 2 (some .boolean), Cond.methodLink RL 125 yL_possible, Cond.static yL_possible, Cond.codeWith yL_possible cL_possible 4 (some .int) [(0, 9, 12, 18)], Cond.methodLink RL 57 yX1_possible, Cond.instanceMethod yX1_possible, Cond.selects RX1 yX1_possible yX1_possible, Cond.code yX1_possible cX1_possible 3 (some .int), Cond.methodLink RX1 130 yX1_memberAt, Cond.static yX1_memberAt, Cond.code yX1_memberAt cX1_memberAt 4 (some .int), Cond.methodLink RL 127 yX2_possible, Cond.instanceMethod yX2_possible, Cond.selects RX2 yX2_possible yX2_possible, Cond.code yX2_possible cX2_possible 2 (some .int), Cond.methodLink RL 128 yL_have, Cond.static yL_have, Cond.codeWith yL_have cL_have 5 (some .int) [(0, 10, 13, 18)], Cond.methodLink RL 60 yX1_have]
def wsL_law0_r16 : List Cond := [Cond.instanceMethod yX1_have, Cond.selects RX1 yX1_have yX1_have, Cond.code yX1_have cX1_have 3 (some .int), Cond.methodLink RX1 138 yX1_countHaving, Cond.instanceMethod yX1_countHaving, Cond.selects RX1 yX1_countHaving yX1_countHaving, Cond.code yX1_countHaving cX1_countHaving 5 (some .int), Cond.methodLink RL 130 yX2_have_, Cond.instanceMethod yX2_have_, Cond.selects RX2 yX2_have_ yX2_have_, Cond.code yX2_have_ cX2_have_ 3 (some .int), Cond.methodLink RX2 111 yX2_have, Cond.instanceMethod yX2_have, Cond.selects RX2 yX2_have yX2_have, Cond.code yX2_have cX2_have 6 (some .int), Cond.methodLink RL 131 yL_sure, Cond.static yL_sure, Cond.codeWith yL_sure cL_sure 4 (some .int) [(0, 9, 12, 18)], Cond.methodLink RL 63 yX1_sure, Cond.instanceMethod yX1_sure, Cond.selects RX1 yX1_sure yX1_sure, Cond.code yX1_sure cX1_sure 4 (some .int), Cond.methodLink RL 133 yX2_sure, Cond.instanceMethod yX2_sure]
def wsL_law0_r17 : List Cond := [Cond.selects RX2 yX2_sure yX2_sure, Cond.code yX2_sure cX2_sure 2 (some .int), Cond.methodLink RX2 115 yX2_sureAt, Cond.instanceMethod yX2_sureAt, Cond.selects RX2 yX2_sureAt yX2_sureAt, Cond.code yX2_sureAt cX2_sureAt 3 (some .int), Cond.methodLink RL 134 yL_worst, Cond.static yL_worst, Cond.codeWith yL_worst cL_worst 4 (some .int) [(0, 9, 12, 18)], Cond.methodLink RL 66 yX1_worst, Cond.instanceMethod yX1_worst, Cond.selects RX1 yX1_worst yX1_worst, Cond.code yX1_worst cX1_worst 2 (some .int), Cond.methodLink RX1 141 yX1_greatestHeap, Cond.instanceMethod yX1_greatestHeap, Cond.selects RX1 yX1_greatestHeap yX1_greatestHeap, Cond.code yX1_greatestHeap cX1_greatestHeap 5 (some .int), Cond.methodLink RX1 202 Lib.Math.max.name, Cond.static Lib.Math.max.name, Cond.code Lib.Math.max.name Lib.Math.max.code 2 (some .int), Cond.methodLink RX1 145 yX1_heapUp, Cond.instanceMethod yX1_heapUp, Cond.selects RX1 yX1_heapUp yX1_heapUp, Cond.code yX1_heapUp cX1_heapUp 5 none]
def wsL_law0_r18 : List Cond := [Cond.methodLink RX1 196 yJ7_fill_53178, Cond.static yJ7_fill_53178, Cond.initialized RJ7, Cond.code yJ7_fill_53178 cJ7_fill_53178 4 none, Cond.methodLink RL 136 yX2_worst, Cond.instanceMethod yX2_worst, Cond.selects RX2 yX2_worst yX2_worst, Cond.code yX2_worst cX2_worst 2 (some .int), Cond.methodLink RX2 118 yX2_greatest, Cond.instanceMethod yX2_greatest, Cond.selects RX2 yX2_greatest yX2_greatest, Cond.code yX2_greatest cX2_greatest 7 (some .int), Cond.methodLink RX2 79 Lib.Math.max.name, Cond.methodLink RX2 75 yX2_pile, Cond.instanceMethod yX2_pile, Cond.selects RX2 yX2_pile yX2_pile, Cond.code yX2_pile cX2_pile 3 none, Cond.methodLink RL 137 yL_parts, Cond.static yL_parts, Cond.codeWith yL_parts cL_parts 4 (some .int) [(0, 9, 12, 18)], Cond.methodLink RL 69 yX1_parts, Cond.instanceMethod yX1_parts, Cond.selects RX1 yX1_parts yX1_parts, Cond.code yX1_parts cX1_parts 4 (some .int)]
def wsL_law0_r19 : List Cond := [Cond.methodLink RL 139 yX2_parts, Cond.instanceMethod yX2_parts, Cond.selects RX2 yX2_parts yX2_parts, Cond.code yX2_parts cX2_parts 2 (some .int), Cond.methodLink RX2 121 yX2_heaps, Cond.instanceMethod yX2_heaps, Cond.selects RX2 yX2_heaps yX2_heaps, Cond.code yX2_heaps cX2_heaps 7 (some .int), Cond.methodLink RL 140 yX1_best, Cond.instanceMethod yX1_best, Cond.selects RX1 yX1_best yX1_best, Cond.code yX1_best cX1_best 1 (some .int), Cond.methodLink RX1 149 yX1_leastBad, Cond.instanceMethod yX1_leastBad, Cond.selects RX1 yX1_leastBad yX1_leastBad, Cond.code yX1_leastBad cX1_leastBad 9 (some .int), Cond.methodLink RL 143 yX2_best, Cond.instanceMethod yX2_best, Cond.selects RX2 yX2_best yX2_best, Cond.code yX2_best cX2_best 5 (some .int), Cond.methodLink RX2 124 yX2_place, Cond.instanceMethod yX2_place, Cond.selects RX2 yX2_place yX2_place, Cond.code yX2_place cX2_place 3 (some .int)]
def wsL_law0_r20 : List Cond := [Cond.methodLink RL 144 yL_takes, Cond.static yL_takes, Cond.codeWith yL_takes cL_takes 5 (some .int) [(0, 10, 13, 18)], Cond.methodLink RL 72 yX1_takes, Cond.instanceMethod yX1_takes, Cond.selects RX1 yX1_takes yX1_takes, Cond.code yX1_takes cX1_takes 5 (some .int), Cond.methodLink RX1 156 yX1_keepAnswering, Cond.instanceMethod yX1_keepAnswering, Cond.selects RX1 yX1_keepAnswering yX1_keepAnswering, Cond.code yX1_keepAnswering cX1_keepAnswering 5 none, Cond.methodLink RL 146 yX2_takes, Cond.instanceMethod yX2_takes, Cond.selects RX2 yX2_takes yX2_takes, Cond.code yX2_takes cX2_takes 5 (some .int), Cond.methodLink RX2 127 yX2_keep, Cond.instanceMethod yX2_keep, Cond.selects RX2 yX2_keep yX2_keep, Cond.code yX2_keep cX2_keep 5 none, Cond.methodLink RX2 130 yX2_ofRow, Cond.instanceMethod yX2_ofRow, Cond.selects RX2 yX2_ofRow yX2_ofRow, Cond.code yX2_ofRow cX2_ofRow 5 (some .int), Cond.methodLink RL 147 yX1_mean]
def wsL_law0_r21 : List Cond := [Cond.instanceMethod yX1_mean, Cond.selects RX1 yX1_mean yX1_mean, Cond.code yX1_mean cX1_mean 3 (some .double), Cond.methodLink RL 151 yX2_mean, Cond.instanceMethod yX2_mean, Cond.selects RX2 yX2_mean yX2_mean, Cond.code yX2_mean cX2_mean 3 (some .double), Cond.methodLink RL 152 yX1_digest, Cond.instanceMethod yX1_digest, Cond.selects RX1 yX1_digest yX1_digest, Cond.code yX1_digest cX1_digest 5 (some .long), Cond.constantLong RX1 160 (1583), Cond.methodLink RX1 162 yX1_count, Cond.methodLink RX1 165 yX1_mix, Cond.static yX1_mix, Cond.code yX1_mix cX1_mix 3 (some .long), Cond.constantLong RX1 178 (31), Cond.methodLink RX1 169 yX1_told, Cond.methodLink RX1 172 yX1_sure, Cond.methodLink RX1 175 yX1_have, Cond.methodLink RL 156 yX2_digest, Cond.instanceMethod yX2_digest, Cond.selects RX2 yX2_digest yX2_digest, Cond.code yX2_digest cX2_digest 5 (some .long)]
def wsL_law0_r22 : List Cond := [Cond.constantLong RX2 133 (1583), Cond.constantLong RX2 135 (31)]
def wsL_law0 : List Cond := (wsL_law0_r1 ++ (wsL_law0_r2 ++ (wsL_law0_r3 ++ (wsL_law0_r4 ++ (wsL_law0_r5 ++ (wsL_law0_r6 ++ (wsL_law0_r7 ++ (wsL_law0_r8 ++ (wsL_law0_r9 ++ (wsL_law0_r10 ++ (wsL_law0_r11 ++ (wsL_law0_r12 ++ (wsL_law0_r13 ++ (wsL_law0_r14 ++ (wsL_law0_r15 ++ (wsL_law0_r16 ++ (wsL_law0_r17 ++ (wsL_law0_r18 ++ (wsL_law0_r19 ++ (wsL_law0_r20 ++ (wsL_law0_r21 ++ wsL_law0_r22))))))))))))))))))))) ++ wsX10 ++ wsX20 ++ wsX00 ++ ([] : List Cond)
def wsL_law : List Cond := wsL_law0 ++ (vx_atS RX1 58 "java/lang/IllegalArgumentException" ["java/lang/RuntimeException", "java/lang/Exception"]).filter goodWord ++ (vx_atS RX1 99 "java/lang/IndexOutOfBoundsException" ["java/lang/RuntimeException", "java/lang/Exception"]).filter goodWord ++ (vx_atS RX1 104 "java/lang/IllegalStateException" ["java/lang/RuntimeException", "java/lang/Exception"]).filter goodWord
abbrev vwCl : List vw_C := [(RX0, TX0, 4), (RX1, TX1, 11), (RX2, TX2, 12)]
end
section
theorem dX0_init_0 : decode cX0_init 0 = .ok (.aload_n 0, 1) := by decide +kernel
theorem dX0_init_1 : decode cX0_init 1 = .ok (.invokespecial 3, 3) := by decide +kernel
theorem dX0_init_4 : decode cX0_init 4 = .ok (.aload_n 0, 1) := by decide +kernel
theorem dX0_init_5 : decode cX0_init 5 = .ok (.iload_n 1, 1) := by decide +kernel
theorem dX0_init_6 : decode cX0_init 6 = .ok (.iconst 2, 1) := by decide +kernel
theorem dX0_init_7 : decode cX0_init 7 = .ok (.if_icmp .ne 7, 3) := by decide +kernel
theorem dX0_init_10 : decode cX0_init 10 = .ok (.iconst 2, 1) := by decide +kernel
theorem dX0_init_11 : decode cX0_init 11 = .ok (.goto 4, 3) := by decide +kernel
theorem dX0_init_14 : decode cX0_init 14 = .ok (.iconst 3, 1) := by decide +kernel
theorem dX0_init_15 : decode cX0_init 15 = .ok (.putfield 9, 3) := by decide +kernel
theorem dX0_init_18 : decode cX0_init 18 = .ok (.aload_n 0, 1) := by decide +kernel
theorem dX0_init_19 : decode cX0_init 19 = .ok (.aload_n 0, 1) := by decide +kernel
theorem dX0_init_20 : decode cX0_init 20 = .ok (.getfield 9, 3) := by decide +kernel
theorem dX0_init_23 : decode cX0_init 23 = .ok (.aload_n 0, 1) := by decide +kernel
theorem dX0_init_24 : decode cX0_init 24 = .ok (.getfield 9, 3) := by decide +kernel
theorem dX0_init_27 : decode cX0_init 27 = .ok (.imul, 1) := by decide +kernel
theorem dX0_init_28 : decode cX0_init 28 = .ok (.aload_n 0, 1) := by decide +kernel
theorem dX0_init_29 : decode cX0_init 29 = .ok (.getfield 9, 3) := by decide +kernel
theorem dX0_init_32 : decode cX0_init 32 = .ok (.imul, 1) := by decide +kernel
theorem dX0_init_33 : decode cX0_init 33 = .ok (.aload_n 0, 1) := by decide +kernel
theorem dX0_init_34 : decode cX0_init 34 = .ok (.getfield 9, 3) := by decide +kernel
theorem dX0_init_37 : decode cX0_init 37 = .ok (.imul, 1) := by decide +kernel
theorem dX0_init_38 : decode cX0_init 38 = .ok (.putfield 15, 3) := by decide +kernel
theorem dX0_init_41 : decode cX0_init 41 = .ok (.aload_n 0, 1) := by decide +kernel
theorem dX0_init_42 : decode cX0_init 42 = .ok (.aload_n 0, 1) := by decide +kernel
theorem dX0_init_43 : decode cX0_init 43 = .ok (.getfield 15, 3) := by decide +kernel
theorem dX0_init_46 : decode cX0_init 46 = .ok (.iconst 4, 1) := by decide +kernel
theorem dX0_init_47 : decode cX0_init 47 = .ok (.multianewarray 18 2, 4) := by decide +kernel
theorem dX0_init_51 : decode cX0_init 51 = .ok (.putfield 20, 3) := by decide +kernel
theorem dX0_init_54 : decode cX0_init 54 = .ok (.aload_n 0, 1) := by decide +kernel
theorem dX0_init_55 : decode cX0_init 55 = .ok (.aload_n 0, 1) := by decide +kernel
theorem dX0_init_56 : decode cX0_init 56 = .ok (.getfield 15, 3) := by decide +kernel
theorem dX0_init_59 : decode cX0_init 59 = .ok (.aload_n 0, 1) := by decide +kernel
theorem dX0_init_60 : decode cX0_init 60 = .ok (.getfield 15, 3) := by decide +kernel
theorem dX0_init_63 : decode cX0_init 63 = .ok (.multianewarray 18 2, 4) := by decide +kernel
theorem dX0_init_67 : decode cX0_init 67 = .ok (.putfield 23, 3) := by decide +kernel
theorem dX0_init_70 : decode cX0_init 70 = .ok (.aload_n 0, 1) := by decide +kernel
theorem dX0_init_71 : decode cX0_init 71 = .ok (.invokevirtual 26, 3) := by decide +kernel
theorem dX0_init_74 : decode cX0_init 74 = .ok (.aload_n 0, 1) := by decide +kernel
theorem dX0_init_75 : decode cX0_init 75 = .ok (.aload_n 0, 1) := by decide +kernel
theorem dX0_init_76 : decode cX0_init 76 = .ok (.invokevirtual 29, 3) := by decide +kernel
theorem dX0_init_79 : decode cX0_init 79 = .ok (.invokevirtual 33, 3) := by decide +kernel
theorem dX0_init_82 : decode cX0_init 82 = .ok (.return_, 1) := by decide +kernel
theorem dX0_lightCandles_0 : decode cX0_lightCandles 0 = .ok (.iconst 0, 1) := by decide +kernel
theorem dX0_lightCandles_1 : decode cX0_lightCandles 1 = .ok (.istore_n 1, 1) := by decide +kernel
theorem dX0_lightCandles_2 : decode cX0_lightCandles 2 = .ok (.iload_n 1, 1) := by decide +kernel
theorem dX0_lightCandles_3 : decode cX0_lightCandles 3 = .ok (.aload_n 0, 1) := by decide +kernel
theorem dX0_lightCandles_4 : decode cX0_lightCandles 4 = .ok (.getfield 20, 3) := by decide +kernel
theorem dX0_lightCandles_7 : decode cX0_lightCandles 7 = .ok (.arraylength, 1) := by decide +kernel
theorem dX0_lightCandles_8 : decode cX0_lightCandles 8 = .ok (.if_icmp .ge 44, 3) := by decide +kernel
theorem dX0_lightCandles_11 : decode cX0_lightCandles 11 = .ok (.iload_n 1, 1) := by decide +kernel
theorem dX0_lightCandles_12 : decode cX0_lightCandles 12 = .ok (.istore_n 2, 1) := by decide +kernel
theorem dX0_lightCandles_13 : decode cX0_lightCandles 13 = .ok (.iconst 3, 1) := by decide +kernel
theorem dX0_lightCandles_14 : decode cX0_lightCandles 14 = .ok (.istore_n 3, 1) := by decide +kernel
theorem dX0_lightCandles_15 : decode cX0_lightCandles 15 = .ok (.iload_n 3, 1) := by decide +kernel
theorem dX0_lightCandles_16 : decode cX0_lightCandles 16 = .ok (.ifCond .lt 30, 3) := by decide +kernel
theorem dX0_lightCandles_19 : decode cX0_lightCandles 19 = .ok (.aload_n 0, 1) := by decide +kernel
theorem dX0_lightCandles_20 : decode cX0_lightCandles 20 = .ok (.getfield 20, 3) := by decide +kernel
theorem dX0_lightCandles_23 : decode cX0_lightCandles 23 = .ok (.iload_n 1, 1) := by decide +kernel
theorem dX0_lightCandles_24 : decode cX0_lightCandles 24 = .ok (.aaload, 1) := by decide +kernel
theorem dX0_lightCandles_25 : decode cX0_lightCandles 25 = .ok (.iload_n 3, 1) := by decide +kernel
theorem dX0_lightCandles_26 : decode cX0_lightCandles 26 = .ok (.iload_n 2, 1) := by decide +kernel
theorem dX0_lightCandles_27 : decode cX0_lightCandles 27 = .ok (.aload_n 0, 1) := by decide +kernel
theorem dX0_lightCandles_28 : decode cX0_lightCandles 28 = .ok (.getfield 9, 3) := by decide +kernel
theorem dX0_lightCandles_31 : decode cX0_lightCandles 31 = .ok (.irem, 1) := by decide +kernel
theorem dX0_lightCandles_32 : decode cX0_lightCandles 32 = .ok (.iastore, 1) := by decide +kernel
theorem dX0_lightCandles_33 : decode cX0_lightCandles 33 = .ok (.iload_n 2, 1) := by decide +kernel
theorem dX0_lightCandles_34 : decode cX0_lightCandles 34 = .ok (.aload_n 0, 1) := by decide +kernel
theorem dX0_lightCandles_35 : decode cX0_lightCandles 35 = .ok (.getfield 9, 3) := by decide +kernel
theorem dX0_lightCandles_38 : decode cX0_lightCandles 38 = .ok (.idiv, 1) := by decide +kernel
theorem dX0_lightCandles_39 : decode cX0_lightCandles 39 = .ok (.istore_n 2, 1) := by decide +kernel
theorem dX0_lightCandles_40 : decode cX0_lightCandles 40 = .ok (.iinc 3 (-1), 3) := by decide +kernel
theorem dX0_lightCandles_43 : decode cX0_lightCandles 43 = .ok (.goto (-28), 3) := by decide +kernel
theorem dX0_lightCandles_46 : decode cX0_lightCandles 46 = .ok (.iinc 1 1, 3) := by decide +kernel
theorem dX0_lightCandles_49 : decode cX0_lightCandles 49 = .ok (.goto (-47), 3) := by decide +kernel
theorem dX0_lightCandles_52 : decode cX0_lightCandles 52 = .ok (.return_, 1) := by decide +kernel
theorem dX0_tallies_0 : decode cX0_tallies 0 = .ok (.aload_n 0, 1) := by decide +kernel
theorem dX0_tallies_1 : decode cX0_tallies 1 = .ok (.getfield 15, 3) := by decide +kernel
theorem dX0_tallies_4 : decode cX0_tallies 4 = .ok (.aload_n 0, 1) := by decide +kernel
theorem dX0_tallies_5 : decode cX0_tallies 5 = .ok (.getfield 9, 3) := by decide +kernel
theorem dX0_tallies_8 : decode cX0_tallies 8 = .ok (.multianewarray 18 2, 4) := by decide +kernel
theorem dX0_tallies_12 : decode cX0_tallies 12 = .ok (.astore_n 1, 1) := by decide +kernel
theorem dX0_tallies_13 : decode cX0_tallies 13 = .ok (.iconst 0, 1) := by decide +kernel
theorem dX0_tallies_14 : decode cX0_tallies 14 = .ok (.istore_n 2, 1) := by decide +kernel
theorem dX0_tallies_15 : decode cX0_tallies 15 = .ok (.iload_n 2, 1) := by decide +kernel
theorem dX0_tallies_16 : decode cX0_tallies 16 = .ok (.aload_n 0, 1) := by decide +kernel
theorem dX0_tallies_17 : decode cX0_tallies 17 = .ok (.getfield 15, 3) := by decide +kernel
theorem dX0_tallies_20 : decode cX0_tallies 20 = .ok (.if_icmp .ge 56, 3) := by decide +kernel
theorem dX0_tallies_23 : decode cX0_tallies 23 = .ok (.iconst 0, 1) := by decide +kernel
theorem dX0_tallies_24 : decode cX0_tallies 24 = .ok (.istore_n 3, 1) := by decide +kernel
theorem dX0_tallies_25 : decode cX0_tallies 25 = .ok (.iload_n 3, 1) := by decide +kernel
theorem dX0_tallies_26 : decode cX0_tallies 26 = .ok (.iconst 4, 1) := by decide +kernel
theorem dX0_tallies_27 : decode cX0_tallies 27 = .ok (.if_icmp .ge 43, 3) := by decide +kernel
theorem dX0_tallies_30 : decode cX0_tallies 30 = .ok (.aload_n 0, 1) := by decide +kernel
theorem dX0_tallies_31 : decode cX0_tallies 31 = .ok (.getfield 20, 3) := by decide +kernel
theorem dX0_tallies_34 : decode cX0_tallies 34 = .ok (.iload_n 2, 1) := by decide +kernel
theorem dX0_tallies_35 : decode cX0_tallies 35 = .ok (.aaload, 1) := by decide +kernel
theorem dX0_tallies_36 : decode cX0_tallies 36 = .ok (.iload_n 3, 1) := by decide +kernel
theorem dX0_tallies_37 : decode cX0_tallies 37 = .ok (.iaload, 1) := by decide +kernel
theorem dX0_tallies_38 : decode cX0_tallies 38 = .ok (.istore 4, 2) := by decide +kernel
theorem dX0_tallies_40 : decode cX0_tallies 40 = .ok (.iload 4, 2) := by decide +kernel
theorem dX0_tallies_42 : decode cX0_tallies 42 = .ok (.ifCond .lt 22, 3) := by decide +kernel
theorem dX0_tallies_45 : decode cX0_tallies 45 = .ok (.iload 4, 2) := by decide +kernel
theorem dX0_tallies_47 : decode cX0_tallies 47 = .ok (.aload_n 0, 1) := by decide +kernel
theorem dX0_tallies_48 : decode cX0_tallies 48 = .ok (.getfield 9, 3) := by decide +kernel
theorem dX0_tallies_51 : decode cX0_tallies 51 = .ok (.if_icmp .ge 13, 3) := by decide +kernel
theorem dX0_tallies_54 : decode cX0_tallies 54 = .ok (.aload_n 1, 1) := by decide +kernel
theorem dX0_tallies_55 : decode cX0_tallies 55 = .ok (.iload_n 2, 1) := by decide +kernel
theorem dX0_tallies_56 : decode cX0_tallies 56 = .ok (.aaload, 1) := by decide +kernel
theorem dX0_tallies_57 : decode cX0_tallies 57 = .ok (.iload 4, 2) := by decide +kernel
theorem dX0_tallies_59 : decode cX0_tallies 59 = .ok (.dup2, 1) := by decide +kernel
theorem dX0_tallies_60 : decode cX0_tallies 60 = .ok (.iaload, 1) := by decide +kernel
theorem dX0_tallies_61 : decode cX0_tallies 61 = .ok (.iconst 1, 1) := by decide +kernel
theorem dX0_tallies_62 : decode cX0_tallies 62 = .ok (.iadd, 1) := by decide +kernel
theorem dX0_tallies_63 : decode cX0_tallies 63 = .ok (.iastore, 1) := by decide +kernel
theorem dX0_tallies_64 : decode cX0_tallies 64 = .ok (.iinc 3 1, 3) := by decide +kernel
theorem dX0_tallies_67 : decode cX0_tallies 67 = .ok (.goto (-42), 3) := by decide +kernel
theorem dX0_tallies_70 : decode cX0_tallies 70 = .ok (.iinc 2 1, 3) := by decide +kernel
theorem dX0_tallies_73 : decode cX0_tallies 73 = .ok (.goto (-58), 3) := by decide +kernel
theorem dX0_tallies_76 : decode cX0_tallies 76 = .ok (.aload_n 1, 1) := by decide +kernel
theorem dX0_tallies_77 : decode cX0_tallies 77 = .ok (.areturn, 1) := by decide +kernel
theorem dX0_fillTable_0 : decode cX0_fillTable 0 = .ok (.iconst 0, 1) := by decide +kernel
theorem dX0_fillTable_1 : decode cX0_fillTable 1 = .ok (.istore_n 2, 1) := by decide +kernel
theorem dX0_fillTable_2 : decode cX0_fillTable 2 = .ok (.iload_n 2, 1) := by decide +kernel
theorem dX0_fillTable_3 : decode cX0_fillTable 3 = .ok (.aload_n 0, 1) := by decide +kernel
theorem dX0_fillTable_4 : decode cX0_fillTable 4 = .ok (.getfield 15, 3) := by decide +kernel
theorem dX0_fillTable_7 : decode cX0_fillTable 7 = .ok (.if_icmp .ge 82, 3) := by decide +kernel
theorem dX0_fillTable_10 : decode cX0_fillTable 10 = .ok (.iconst 0, 1) := by decide +kernel
theorem dX0_fillTable_11 : decode cX0_fillTable 11 = .ok (.istore_n 3, 1) := by decide +kernel
theorem dX0_fillTable_12 : decode cX0_fillTable 12 = .ok (.iload_n 3, 1) := by decide +kernel
theorem dX0_fillTable_13 : decode cX0_fillTable 13 = .ok (.iload_n 2, 1) := by decide +kernel
theorem dX0_fillTable_14 : decode cX0_fillTable 14 = .ok (.if_icmp .gt 69, 3) := by decide +kernel
theorem dX0_fillTable_17 : decode cX0_fillTable 17 = .ok (.aload_n 0, 1) := by decide +kernel
theorem dX0_fillTable_18 : decode cX0_fillTable 18 = .ok (.getfield 20, 3) := by decide +kernel
theorem dX0_fillTable_21 : decode cX0_fillTable 21 = .ok (.iload_n 2, 1) := by decide +kernel
theorem dX0_fillTable_22 : decode cX0_fillTable 22 = .ok (.aaload, 1) := by decide +kernel
theorem dX0_fillTable_23 : decode cX0_fillTable 23 = .ok (.aload_n 0, 1) := by decide +kernel
theorem dX0_fillTable_24 : decode cX0_fillTable 24 = .ok (.getfield 20, 3) := by decide +kernel
theorem dX0_fillTable_27 : decode cX0_fillTable 27 = .ok (.iload_n 3, 1) := by decide +kernel
theorem dX0_fillTable_28 : decode cX0_fillTable 28 = .ok (.aaload, 1) := by decide +kernel
theorem dX0_fillTable_29 : decode cX0_fillTable 29 = .ok (.invokestatic 37, 3) := by decide +kernel
theorem dX0_fillTable_32 : decode cX0_fillTable 32 = .ok (.istore 4, 2) := by decide +kernel
theorem dX0_fillTable_34 : decode cX0_fillTable 34 = .ok (.aload_n 1, 1) := by decide +kernel
theorem dX0_fillTable_35 : decode cX0_fillTable 35 = .ok (.iload_n 2, 1) := by decide +kernel
theorem dX0_fillTable_36 : decode cX0_fillTable 36 = .ok (.aaload, 1) := by decide +kernel
theorem dX0_fillTable_37 : decode cX0_fillTable 37 = .ok (.aload_n 1, 1) := by decide +kernel
theorem dX0_fillTable_38 : decode cX0_fillTable 38 = .ok (.iload_n 3, 1) := by decide +kernel
theorem dX0_fillTable_39 : decode cX0_fillTable 39 = .ok (.aaload, 1) := by decide +kernel
theorem dX0_fillTable_40 : decode cX0_fillTable 40 = .ok (.invokestatic 41, 3) := by decide +kernel
theorem dX0_fillTable_43 : decode cX0_fillTable 43 = .ok (.istore 5, 2) := by decide +kernel
theorem dX0_fillTable_45 : decode cX0_fillTable 45 = .ok (.iconst 5, 1) := by decide +kernel
theorem dX0_fillTable_46 : decode cX0_fillTable 46 = .ok (.iload 4, 2) := by decide +kernel
theorem dX0_fillTable_48 : decode cX0_fillTable 48 = .ok (.imul, 1) := by decide +kernel
theorem dX0_fillTable_49 : decode cX0_fillTable 49 = .ok (.iload 5, 2) := by decide +kernel
theorem dX0_fillTable_51 : decode cX0_fillTable 51 = .ok (.iadd, 1) := by decide +kernel
theorem dX0_fillTable_52 : decode cX0_fillTable 52 = .ok (.iload 4, 2) := by decide +kernel
theorem dX0_fillTable_54 : decode cX0_fillTable 54 = .ok (.isub, 1) := by decide +kernel
theorem dX0_fillTable_55 : decode cX0_fillTable 55 = .ok (.istore 6, 2) := by decide +kernel
theorem dX0_fillTable_57 : decode cX0_fillTable 57 = .ok (.aload_n 0, 1) := by decide +kernel
theorem dX0_fillTable_58 : decode cX0_fillTable 58 = .ok (.getfield 23, 3) := by decide +kernel
theorem dX0_fillTable_61 : decode cX0_fillTable 61 = .ok (.iload_n 2, 1) := by decide +kernel
theorem dX0_fillTable_62 : decode cX0_fillTable 62 = .ok (.aaload, 1) := by decide +kernel
theorem dX0_fillTable_63 : decode cX0_fillTable 63 = .ok (.iload_n 3, 1) := by decide +kernel
theorem dX0_fillTable_64 : decode cX0_fillTable 64 = .ok (.iload 6, 2) := by decide +kernel
theorem dX0_fillTable_66 : decode cX0_fillTable 66 = .ok (.iastore, 1) := by decide +kernel
theorem dX0_fillTable_67 : decode cX0_fillTable 67 = .ok (.aload_n 0, 1) := by decide +kernel
theorem dX0_fillTable_68 : decode cX0_fillTable 68 = .ok (.getfield 23, 3) := by decide +kernel
theorem dX0_fillTable_71 : decode cX0_fillTable 71 = .ok (.iload_n 3, 1) := by decide +kernel
theorem dX0_fillTable_72 : decode cX0_fillTable 72 = .ok (.aaload, 1) := by decide +kernel
theorem dX0_fillTable_73 : decode cX0_fillTable 73 = .ok (.iload_n 2, 1) := by decide +kernel
theorem dX0_fillTable_74 : decode cX0_fillTable 74 = .ok (.iload 6, 2) := by decide +kernel
theorem dX0_fillTable_76 : decode cX0_fillTable 76 = .ok (.iastore, 1) := by decide +kernel
theorem dX0_fillTable_77 : decode cX0_fillTable 77 = .ok (.iinc 3 1, 3) := by decide +kernel
theorem dX0_fillTable_80 : decode cX0_fillTable 80 = .ok (.goto (-68), 3) := by decide +kernel
theorem dX0_fillTable_83 : decode cX0_fillTable 83 = .ok (.iinc 2 1, 3) := by decide +kernel
theorem dX0_fillTable_86 : decode cX0_fillTable 86 = .ok (.goto (-84), 3) := by decide +kernel
theorem dX0_fillTable_89 : decode cX0_fillTable 89 = .ok (.return_, 1) := by decide +kernel
theorem dX0_countSame_0 : decode cX0_countSame 0 = .ok (.iconst 0, 1) := by decide +kernel
theorem dX0_countSame_1 : decode cX0_countSame 1 = .ok (.istore_n 2, 1) := by decide +kernel
theorem dX0_countSame_2 : decode cX0_countSame 2 = .ok (.iconst 0, 1) := by decide +kernel
theorem dX0_countSame_3 : decode cX0_countSame 3 = .ok (.istore_n 3, 1) := by decide +kernel
theorem dX0_countSame_4 : decode cX0_countSame 4 = .ok (.iload_n 3, 1) := by decide +kernel
theorem dX0_countSame_5 : decode cX0_countSame 5 = .ok (.aload_n 0, 1) := by decide +kernel
theorem dX0_countSame_6 : decode cX0_countSame 6 = .ok (.arraylength, 1) := by decide +kernel
theorem dX0_countSame_7 : decode cX0_countSame 7 = .ok (.if_icmp .ge 27, 3) := by decide +kernel
theorem dX0_countSame_10 : decode cX0_countSame 10 = .ok (.iload_n 3, 1) := by decide +kernel
theorem dX0_countSame_11 : decode cX0_countSame 11 = .ok (.aload_n 1, 1) := by decide +kernel
theorem dX0_countSame_12 : decode cX0_countSame 12 = .ok (.arraylength, 1) := by decide +kernel
theorem dX0_countSame_13 : decode cX0_countSame 13 = .ok (.if_icmp .ge 21, 3) := by decide +kernel
theorem dX0_countSame_16 : decode cX0_countSame 16 = .ok (.aload_n 0, 1) := by decide +kernel
theorem dX0_countSame_17 : decode cX0_countSame 17 = .ok (.iload_n 3, 1) := by decide +kernel
theorem dX0_countSame_18 : decode cX0_countSame 18 = .ok (.iaload, 1) := by decide +kernel
theorem dX0_countSame_19 : decode cX0_countSame 19 = .ok (.aload_n 1, 1) := by decide +kernel
theorem dX0_countSame_20 : decode cX0_countSame 20 = .ok (.iload_n 3, 1) := by decide +kernel
theorem dX0_countSame_21 : decode cX0_countSame 21 = .ok (.iaload, 1) := by decide +kernel
theorem dX0_countSame_22 : decode cX0_countSame 22 = .ok (.if_icmp .ne 6, 3) := by decide +kernel
theorem dX0_countSame_25 : decode cX0_countSame 25 = .ok (.iinc 2 1, 3) := by decide +kernel
theorem dX0_countSame_28 : decode cX0_countSame 28 = .ok (.iinc 3 1, 3) := by decide +kernel
theorem dX0_countSame_31 : decode cX0_countSame 31 = .ok (.goto (-27), 3) := by decide +kernel
theorem dX0_countSame_34 : decode cX0_countSame 34 = .ok (.iload_n 2, 1) := by decide +kernel
theorem dX0_countSame_35 : decode cX0_countSame 35 = .ok (.ireturn, 1) := by decide +kernel
theorem dX0_countShared_0 : decode cX0_countShared 0 = .ok (.iconst 0, 1) := by decide +kernel
theorem dX0_countShared_1 : decode cX0_countShared 1 = .ok (.istore_n 2, 1) := by decide +kernel
theorem dX0_countShared_2 : decode cX0_countShared 2 = .ok (.iconst 0, 1) := by decide +kernel
theorem dX0_countShared_3 : decode cX0_countShared 3 = .ok (.istore_n 3, 1) := by decide +kernel
theorem dX0_countShared_4 : decode cX0_countShared 4 = .ok (.iload_n 3, 1) := by decide +kernel
theorem dX0_countShared_5 : decode cX0_countShared 5 = .ok (.aload_n 0, 1) := by decide +kernel
theorem dX0_countShared_6 : decode cX0_countShared 6 = .ok (.arraylength, 1) := by decide +kernel
theorem dX0_countShared_7 : decode cX0_countShared 7 = .ok (.if_icmp .ge 27, 3) := by decide +kernel
theorem dX0_countShared_10 : decode cX0_countShared 10 = .ok (.iload_n 3, 1) := by decide +kernel
theorem dX0_countShared_11 : decode cX0_countShared 11 = .ok (.aload_n 1, 1) := by decide +kernel
theorem dX0_countShared_12 : decode cX0_countShared 12 = .ok (.arraylength, 1) := by decide +kernel
theorem dX0_countShared_13 : decode cX0_countShared 13 = .ok (.if_icmp .ge 21, 3) := by decide +kernel
theorem dX0_countShared_16 : decode cX0_countShared 16 = .ok (.iload_n 2, 1) := by decide +kernel
theorem dX0_countShared_17 : decode cX0_countShared 17 = .ok (.aload_n 0, 1) := by decide +kernel
theorem dX0_countShared_18 : decode cX0_countShared 18 = .ok (.iload_n 3, 1) := by decide +kernel
theorem dX0_countShared_19 : decode cX0_countShared 19 = .ok (.iaload, 1) := by decide +kernel
theorem dX0_countShared_20 : decode cX0_countShared 20 = .ok (.aload_n 1, 1) := by decide +kernel
theorem dX0_countShared_21 : decode cX0_countShared 21 = .ok (.iload_n 3, 1) := by decide +kernel
theorem dX0_countShared_22 : decode cX0_countShared 22 = .ok (.iaload, 1) := by decide +kernel
theorem dX0_countShared_23 : decode cX0_countShared 23 = .ok (.invokestatic 44, 3) := by decide +kernel
theorem dX0_countShared_26 : decode cX0_countShared 26 = .ok (.iadd, 1) := by decide +kernel
theorem dX0_countShared_27 : decode cX0_countShared 27 = .ok (.istore_n 2, 1) := by decide +kernel
theorem dX0_countShared_28 : decode cX0_countShared 28 = .ok (.iinc 3 1, 3) := by decide +kernel
theorem dX0_countShared_31 : decode cX0_countShared 31 = .ok (.goto (-27), 3) := by decide +kernel
theorem dX0_countShared_34 : decode cX0_countShared 34 = .ok (.iload_n 2, 1) := by decide +kernel
theorem dX0_countShared_35 : decode cX0_countShared 35 = .ok (.ireturn, 1) := by decide +kernel
theorem dX0_hasCode_0 : decode cX0_hasCode 0 = .ok (.iload_n 1, 1) := by decide +kernel
theorem dX0_hasCode_1 : decode cX0_hasCode 1 = .ok (.ifCond .lt 15, 3) := by decide +kernel
theorem dX0_hasCode_4 : decode cX0_hasCode 4 = .ok (.iload_n 1, 1) := by decide +kernel
theorem dX0_hasCode_5 : decode cX0_hasCode 5 = .ok (.aload_n 0, 1) := by decide +kernel
theorem dX0_hasCode_6 : decode cX0_hasCode 6 = .ok (.getfield 15, 3) := by decide +kernel
theorem dX0_hasCode_9 : decode cX0_hasCode 9 = .ok (.if_icmp .ge 7, 3) := by decide +kernel
theorem dX0_hasCode_12 : decode cX0_hasCode 12 = .ok (.iconst 1, 1) := by decide +kernel
theorem dX0_hasCode_13 : decode cX0_hasCode 13 = .ok (.goto 4, 3) := by decide +kernel
theorem dX0_hasCode_16 : decode cX0_hasCode 16 = .ok (.iconst 0, 1) := by decide +kernel
theorem dX0_hasCode_17 : decode cX0_hasCode 17 = .ok (.ireturn, 1) := by decide +kernel
theorem dX0_colourOf_0 : decode cX0_colourOf 0 = .ok (.aload_n 0, 1) := by decide +kernel
theorem dX0_colourOf_1 : decode cX0_colourOf 1 = .ok (.iload_n 1, 1) := by decide +kernel
theorem dX0_colourOf_2 : decode cX0_colourOf 2 = .ok (.invokevirtual 50, 3) := by decide +kernel
theorem dX0_colourOf_5 : decode cX0_colourOf 5 = .ok (.ifCond .eq 23, 3) := by decide +kernel
theorem dX0_colourOf_8 : decode cX0_colourOf 8 = .ok (.iload_n 2, 1) := by decide +kernel
theorem dX0_colourOf_9 : decode cX0_colourOf 9 = .ok (.ifCond .lt 19, 3) := by decide +kernel
theorem dX0_colourOf_12 : decode cX0_colourOf 12 = .ok (.iload_n 2, 1) := by decide +kernel
theorem dX0_colourOf_13 : decode cX0_colourOf 13 = .ok (.iconst 4, 1) := by decide +kernel
theorem dX0_colourOf_14 : decode cX0_colourOf 14 = .ok (.if_icmp .ge 14, 3) := by decide +kernel
theorem dX0_colourOf_17 : decode cX0_colourOf 17 = .ok (.aload_n 0, 1) := by decide +kernel
theorem dX0_colourOf_18 : decode cX0_colourOf 18 = .ok (.getfield 20, 3) := by decide +kernel
theorem dX0_colourOf_21 : decode cX0_colourOf 21 = .ok (.iload_n 1, 1) := by decide +kernel
theorem dX0_colourOf_22 : decode cX0_colourOf 22 = .ok (.aaload, 1) := by decide +kernel
theorem dX0_colourOf_23 : decode cX0_colourOf 23 = .ok (.iload_n 2, 1) := by decide +kernel
theorem dX0_colourOf_24 : decode cX0_colourOf 24 = .ok (.iaload, 1) := by decide +kernel
theorem dX0_colourOf_25 : decode cX0_colourOf 25 = .ok (.goto 4, 3) := by decide +kernel
theorem dX0_colourOf_28 : decode cX0_colourOf 28 = .ok (.iconst (-1), 1) := by decide +kernel
theorem dX0_colourOf_29 : decode cX0_colourOf 29 = .ok (.ireturn, 1) := by decide +kernel
theorem dX0_answerTo_0 : decode cX0_answerTo 0 = .ok (.aload_n 0, 1) := by decide +kernel
theorem dX0_answerTo_1 : decode cX0_answerTo 1 = .ok (.iload_n 1, 1) := by decide +kernel
theorem dX0_answerTo_2 : decode cX0_answerTo 2 = .ok (.invokevirtual 50, 3) := by decide +kernel
theorem dX0_answerTo_5 : decode cX0_answerTo 5 = .ok (.ifCond .eq 22, 3) := by decide +kernel
theorem dX0_answerTo_8 : decode cX0_answerTo 8 = .ok (.aload_n 0, 1) := by decide +kernel
theorem dX0_answerTo_9 : decode cX0_answerTo 9 = .ok (.iload_n 2, 1) := by decide +kernel
theorem dX0_answerTo_10 : decode cX0_answerTo 10 = .ok (.invokevirtual 50, 3) := by decide +kernel
theorem dX0_answerTo_13 : decode cX0_answerTo 13 = .ok (.ifCond .eq 14, 3) := by decide +kernel
theorem dX0_answerTo_16 : decode cX0_answerTo 16 = .ok (.aload_n 0, 1) := by decide +kernel
theorem dX0_answerTo_17 : decode cX0_answerTo 17 = .ok (.getfield 23, 3) := by decide +kernel
theorem dX0_answerTo_20 : decode cX0_answerTo 20 = .ok (.iload_n 1, 1) := by decide +kernel
theorem dX0_answerTo_21 : decode cX0_answerTo 21 = .ok (.aaload, 1) := by decide +kernel
theorem dX0_answerTo_22 : decode cX0_answerTo 22 = .ok (.iload_n 2, 1) := by decide +kernel
theorem dX0_answerTo_23 : decode cX0_answerTo 23 = .ok (.iaload, 1) := by decide +kernel
theorem dX0_answerTo_24 : decode cX0_answerTo 24 = .ok (.goto 4, 3) := by decide +kernel
theorem dX0_answerTo_27 : decode cX0_answerTo 27 = .ok (.iconst (-1), 1) := by decide +kernel
theorem dX0_answerTo_28 : decode cX0_answerTo 28 = .ok (.ireturn, 1) := by decide +kernel
theorem dJ9_max_7cf53_0 : decode cJ9_max_7cf53 0 = .ok (.iload_n 0, 1) := by decide +kernel
theorem dJ9_max_7cf53_1 : decode cJ9_max_7cf53 1 = .ok (.iload_n 1, 1) := by decide +kernel
theorem dJ9_max_7cf53_2 : decode cJ9_max_7cf53 2 = .ok (.if_icmp .lt 7, 3) := by decide +kernel
theorem dJ9_max_7cf53_5 : decode cJ9_max_7cf53 5 = .ok (.iload_n 0, 1) := by decide +kernel
theorem dJ9_max_7cf53_6 : decode cJ9_max_7cf53 6 = .ok (.goto 4, 3) := by decide +kernel
theorem dJ9_max_7cf53_9 : decode cJ9_max_7cf53 9 = .ok (.iload_n 1, 1) := by decide +kernel
theorem dJ9_max_7cf53_10 : decode cJ9_max_7cf53 10 = .ok (.ireturn, 1) := by decide +kernel
theorem dJ9_min_7cf53_0 : decode cJ9_min_7cf53 0 = .ok (.iload_n 0, 1) := by decide +kernel
theorem dJ9_min_7cf53_1 : decode cJ9_min_7cf53 1 = .ok (.iload_n 1, 1) := by decide +kernel
theorem dJ9_min_7cf53_2 : decode cJ9_min_7cf53 2 = .ok (.if_icmp .gt 7, 3) := by decide +kernel
theorem dJ9_min_7cf53_5 : decode cJ9_min_7cf53 5 = .ok (.iload_n 0, 1) := by decide +kernel
theorem dJ9_min_7cf53_6 : decode cJ9_min_7cf53 6 = .ok (.goto 4, 3) := by decide +kernel
theorem dJ9_min_7cf53_9 : decode cJ9_min_7cf53 9 = .ok (.iload_n 1, 1) := by decide +kernel
theorem dJ9_min_7cf53_10 : decode cJ9_min_7cf53 10 = .ok (.ireturn, 1) := by decide +kernel
theorem dJ7_fill_53178_0 : decode cJ7_fill_53178 0 = .ok (.iconst 0, 1) := by decide +kernel
theorem dJ7_fill_53178_1 : decode cJ7_fill_53178 1 = .ok (.istore_n 2, 1) := by decide +kernel
theorem dJ7_fill_53178_2 : decode cJ7_fill_53178 2 = .ok (.aload_n 0, 1) := by decide +kernel
theorem dJ7_fill_53178_3 : decode cJ7_fill_53178 3 = .ok (.arraylength, 1) := by decide +kernel
theorem dJ7_fill_53178_4 : decode cJ7_fill_53178 4 = .ok (.istore_n 3, 1) := by decide +kernel
theorem dJ7_fill_53178_5 : decode cJ7_fill_53178 5 = .ok (.iload_n 2, 1) := by decide +kernel
theorem dJ7_fill_53178_6 : decode cJ7_fill_53178 6 = .ok (.iload_n 3, 1) := by decide +kernel
theorem dJ7_fill_53178_7 : decode cJ7_fill_53178 7 = .ok (.if_icmp .ge 13, 3) := by decide +kernel
theorem dJ7_fill_53178_10 : decode cJ7_fill_53178 10 = .ok (.aload_n 0, 1) := by decide +kernel
theorem dJ7_fill_53178_11 : decode cJ7_fill_53178 11 = .ok (.iload_n 2, 1) := by decide +kernel
theorem dJ7_fill_53178_12 : decode cJ7_fill_53178 12 = .ok (.iload_n 1, 1) := by decide +kernel
theorem dJ7_fill_53178_13 : decode cJ7_fill_53178 13 = .ok (.iastore, 1) := by decide +kernel
theorem dJ7_fill_53178_14 : decode cJ7_fill_53178 14 = .ok (.iinc 2 1, 3) := by decide +kernel
theorem dJ7_fill_53178_17 : decode cJ7_fill_53178 17 = .ok (.goto (-12), 3) := by decide +kernel
theorem dJ7_fill_53178_20 : decode cJ7_fill_53178 20 = .ok (.return_, 1) := by decide +kernel
end
section
theorem dX1_init_0 : decode cX1_init 0 = .ok (.aload_n 0, 1) := by decide +kernel
theorem dX1_init_1 : decode cX1_init 1 = .ok (.invokespecial 3, 3) := by decide +kernel
theorem dX1_init_4 : decode cX1_init 4 = .ok (.aload_n 0, 1) := by decide +kernel
theorem dX1_init_5 : decode cX1_init 5 = .ok (.new 9, 3) := by decide +kernel
theorem dX1_init_8 : decode cX1_init 8 = .ok (.dup, 1) := by decide +kernel
theorem dX1_init_9 : decode cX1_init 9 = .ok (.iconst 2, 1) := by decide +kernel
theorem dX1_init_10 : decode cX1_init 10 = .ok (.invokespecial 11, 3) := by decide +kernel
theorem dX1_init_13 : decode cX1_init 13 = .ok (.putfield 14, 3) := by decide +kernel
theorem dX1_init_16 : decode cX1_init 16 = .ok (.aload_n 0, 1) := by decide +kernel
theorem dX1_init_17 : decode cX1_init 17 = .ok (.new 9, 3) := by decide +kernel
theorem dX1_init_20 : decode cX1_init 20 = .ok (.dup, 1) := by decide +kernel
theorem dX1_init_21 : decode cX1_init 21 = .ok (.iconst 3, 1) := by decide +kernel
theorem dX1_init_22 : decode cX1_init 22 = .ok (.invokespecial 11, 3) := by decide +kernel
theorem dX1_init_25 : decode cX1_init 25 = .ok (.putfield 18, 3) := by decide +kernel
theorem dX1_init_28 : decode cX1_init 28 = .ok (.aload_n 0, 1) := by decide +kernel
theorem dX1_init_29 : decode cX1_init 29 = .ok (.aload_n 0, 1) := by decide +kernel
theorem dX1_init_30 : decode cX1_init 30 = .ok (.getfield 18, 3) := by decide +kernel
theorem dX1_init_33 : decode cX1_init 33 = .ok (.putfield 21, 3) := by decide +kernel
theorem dX1_init_36 : decode cX1_init 36 = .ok (.aload_n 0, 1) := by decide +kernel
theorem dX1_init_37 : decode cX1_init 37 = .ok (.iconst (-1), 1) := by decide +kernel
theorem dX1_init_38 : decode cX1_init 38 = .ok (.putfield 24, 3) := by decide +kernel
theorem dX1_init_41 : decode cX1_init 41 = .ok (.aload_n 0, 1) := by decide +kernel
theorem dX1_init_42 : decode cX1_init 42 = .ok (.iconst 0, 1) := by decide +kernel
theorem dX1_init_43 : decode cX1_init 43 = .ok (.putfield 28, 3) := by decide +kernel
theorem dX1_init_46 : decode cX1_init 46 = .ok (.aload_n 0, 1) := by decide +kernel
theorem dX1_init_47 : decode cX1_init 47 = .ok (.bipush 12, 2) := by decide +kernel
theorem dX1_init_49 : decode cX1_init 49 = .ok (.newarray .int, 2) := by decide +kernel
theorem dX1_init_51 : decode cX1_init 51 = .ok (.putfield 31, 3) := by decide +kernel
theorem dX1_init_54 : decode cX1_init 54 = .ok (.aload_n 0, 1) := by decide +kernel
theorem dX1_init_55 : decode cX1_init 55 = .ok (.bipush 12, 2) := by decide +kernel
theorem dX1_init_57 : decode cX1_init 57 = .ok (.newarray .int, 2) := by decide +kernel
theorem dX1_init_59 : decode cX1_init 59 = .ok (.putfield 35, 3) := by decide +kernel
theorem dX1_init_62 : decode cX1_init 62 = .ok (.aload_n 0, 1) := by decide +kernel
theorem dX1_init_63 : decode cX1_init 63 = .ok (.bipush 12, 2) := by decide +kernel
theorem dX1_init_65 : decode cX1_init 65 = .ok (.newarray .boolean, 2) := by decide +kernel
theorem dX1_init_67 : decode cX1_init 67 = .ok (.putfield 38, 3) := by decide +kernel
theorem dX1_init_70 : decode cX1_init 70 = .ok (.aload_n 0, 1) := by decide +kernel
theorem dX1_init_71 : decode cX1_init 71 = .ok (.bipush 81, 2) := by decide +kernel
theorem dX1_init_73 : decode cX1_init 73 = .ok (.newarray .boolean, 2) := by decide +kernel
theorem dX1_init_75 : decode cX1_init 75 = .ok (.putfield 42, 3) := by decide +kernel
theorem dX1_init_78 : decode cX1_init 78 = .ok (.aload_n 0, 1) := by decide +kernel
theorem dX1_init_79 : decode cX1_init 79 = .ok (.bipush 81, 2) := by decide +kernel
theorem dX1_init_81 : decode cX1_init 81 = .ok (.newarray .boolean, 2) := by decide +kernel
theorem dX1_init_83 : decode cX1_init 83 = .ok (.putfield 45, 3) := by decide +kernel
theorem dX1_init_86 : decode cX1_init 86 = .ok (.aload_n 0, 1) := by decide +kernel
theorem dX1_init_87 : decode cX1_init 87 = .ok (.bipush 21, 2) := by decide +kernel
theorem dX1_init_89 : decode cX1_init 89 = .ok (.newarray .int, 2) := by decide +kernel
theorem dX1_init_91 : decode cX1_init 91 = .ok (.putfield 48, 3) := by decide +kernel
theorem dX1_init_94 : decode cX1_init 94 = .ok (.aload_n 0, 1) := by decide +kernel
theorem dX1_init_95 : decode cX1_init 95 = .ok (.invokevirtual 51, 3) := by decide +kernel
theorem dX1_init_98 : decode cX1_init 98 = .ok (.return_, 1) := by decide +kernel
theorem dX1_setColours_0 : decode cX1_setColours 0 = .ok (.iload_n 1, 1) := by decide +kernel
theorem dX1_setColours_1 : decode cX1_setColours 1 = .ok (.iconst 2, 1) := by decide +kernel
theorem dX1_setColours_2 : decode cX1_setColours 2 = .ok (.if_icmp .eq 18, 3) := by decide +kernel
theorem dX1_setColours_5 : decode cX1_setColours 5 = .ok (.iload_n 1, 1) := by decide +kernel
theorem dX1_setColours_6 : decode cX1_setColours 6 = .ok (.iconst 3, 1) := by decide +kernel
theorem dX1_setColours_7 : decode cX1_setColours 7 = .ok (.if_icmp .eq 13, 3) := by decide +kernel
theorem dX1_setColours_10 : decode cX1_setColours 10 = .ok (.new 54, 3) := by decide +kernel
theorem dX1_setColours_13 : decode cX1_setColours 13 = .ok (.dup, 1) := by decide +kernel
theorem dX1_setColours_14 : decode cX1_setColours 14 = .ok (.ldc 56, 2) := by decide +kernel
theorem dX1_setColours_16 : decode cX1_setColours 16 = .ok (.invokespecial 58, 3) := by decide +kernel
theorem dX1_setColours_19 : decode cX1_setColours 19 = .ok (.athrow, 1) := by decide +kernel
theorem dX1_setColours_20 : decode cX1_setColours 20 = .ok (.aload_n 0, 1) := by decide +kernel
theorem dX1_setColours_21 : decode cX1_setColours 21 = .ok (.getfield 21, 3) := by decide +kernel
theorem dX1_setColours_24 : decode cX1_setColours 24 = .ok (.getfield 61, 3) := by decide +kernel
theorem dX1_setColours_27 : decode cX1_setColours 27 = .ok (.istore_n 2, 1) := by decide +kernel
theorem dX1_setColours_28 : decode cX1_setColours 28 = .ok (.aload_n 0, 1) := by decide +kernel
theorem dX1_setColours_29 : decode cX1_setColours 29 = .ok (.iload_n 1, 1) := by decide +kernel
theorem dX1_setColours_30 : decode cX1_setColours 30 = .ok (.iconst 2, 1) := by decide +kernel
theorem dX1_setColours_31 : decode cX1_setColours 31 = .ok (.if_icmp .ne 10, 3) := by decide +kernel
theorem dX1_setColours_34 : decode cX1_setColours 34 = .ok (.aload_n 0, 1) := by decide +kernel
theorem dX1_setColours_35 : decode cX1_setColours 35 = .ok (.getfield 14, 3) := by decide +kernel
theorem dX1_setColours_38 : decode cX1_setColours 38 = .ok (.goto 7, 3) := by decide +kernel
theorem dX1_setColours_41 : decode cX1_setColours 41 = .ok (.aload_n 0, 1) := by decide +kernel
theorem dX1_setColours_42 : decode cX1_setColours 42 = .ok (.getfield 18, 3) := by decide +kernel
theorem dX1_setColours_45 : decode cX1_setColours 45 = .ok (.putfield 21, 3) := by decide +kernel
theorem dX1_setColours_48 : decode cX1_setColours 48 = .ok (.aload_n 0, 1) := by decide +kernel
theorem dX1_setColours_49 : decode cX1_setColours 49 = .ok (.iconst (-1), 1) := by decide +kernel
theorem dX1_setColours_50 : decode cX1_setColours 50 = .ok (.putfield 24, 3) := by decide +kernel
theorem dX1_setColours_53 : decode cX1_setColours 53 = .ok (.aload_n 0, 1) := by decide +kernel
theorem dX1_setColours_54 : decode cX1_setColours 54 = .ok (.iconst 0, 1) := by decide +kernel
theorem dX1_setColours_55 : decode cX1_setColours 55 = .ok (.putfield 28, 3) := by decide +kernel
theorem dX1_setColours_58 : decode cX1_setColours 58 = .ok (.aload_n 0, 1) := by decide +kernel
theorem dX1_setColours_59 : decode cX1_setColours 59 = .ok (.invokevirtual 51, 3) := by decide +kernel
theorem dX1_setColours_62 : decode cX1_setColours 62 = .ok (.iload_n 2, 1) := by decide +kernel
theorem dX1_setColours_63 : decode cX1_setColours 63 = .ok (.ireturn, 1) := by decide +kernel
theorem dX1_hide_0 : decode cX1_hide 0 = .ok (.aload_n 0, 1) := by decide +kernel
theorem dX1_hide_1 : decode cX1_hide 1 = .ok (.iload_n 1, 1) := by decide +kernel
theorem dX1_hide_2 : decode cX1_hide 2 = .ok (.invokevirtual 64, 3) := by decide +kernel
theorem dX1_hide_5 : decode cX1_hide 5 = .ok (.aload_n 0, 1) := by decide +kernel
theorem dX1_hide_6 : decode cX1_hide 6 = .ok (.getfield 24, 3) := by decide +kernel
theorem dX1_hide_9 : decode cX1_hide 9 = .ok (.istore_n 2, 1) := by decide +kernel
theorem dX1_hide_10 : decode cX1_hide 10 = .ok (.aload_n 0, 1) := by decide +kernel
theorem dX1_hide_11 : decode cX1_hide 11 = .ok (.iload_n 1, 1) := by decide +kernel
theorem dX1_hide_12 : decode cX1_hide 12 = .ok (.putfield 24, 3) := by decide +kernel
theorem dX1_hide_15 : decode cX1_hide 15 = .ok (.iload_n 2, 1) := by decide +kernel
theorem dX1_hide_16 : decode cX1_hide 16 = .ok (.ireturn, 1) := by decide +kernel
theorem dX1_swap_0 : decode cX1_swap 0 = .ok (.iload_n 1, 1) := by decide +kernel
theorem dX1_swap_1 : decode cX1_swap 1 = .ok (.invokestatic 67, 3) := by decide +kernel
theorem dX1_swap_4 : decode cX1_swap 4 = .ok (.iload_n 2, 1) := by decide +kernel
theorem dX1_swap_5 : decode cX1_swap 5 = .ok (.invokestatic 67, 3) := by decide +kernel
theorem dX1_swap_8 : decode cX1_swap 8 = .ok (.aload_n 0, 1) := by decide +kernel
theorem dX1_swap_9 : decode cX1_swap 9 = .ok (.invokevirtual 70, 3) := by decide +kernel
theorem dX1_swap_12 : decode cX1_swap 12 = .ok (.iconst 0, 1) := by decide +kernel
theorem dX1_swap_13 : decode cX1_swap 13 = .ok (.istore_n 3, 1) := by decide +kernel
theorem dX1_swap_14 : decode cX1_swap 14 = .ok (.iconst 0, 1) := by decide +kernel
theorem dX1_swap_15 : decode cX1_swap 15 = .ok (.istore 4, 2) := by decide +kernel
theorem dX1_swap_17 : decode cX1_swap 17 = .ok (.iload 4, 2) := by decide +kernel
theorem dX1_swap_19 : decode cX1_swap 19 = .ok (.iconst 4, 1) := by decide +kernel
theorem dX1_swap_20 : decode cX1_swap 20 = .ok (.if_icmp .ge 57, 3) := by decide +kernel
theorem dX1_swap_23 : decode cX1_swap 23 = .ok (.iload 4, 2) := by decide +kernel
theorem dX1_swap_25 : decode cX1_swap 25 = .ok (.iload_n 1, 1) := by decide +kernel
theorem dX1_swap_26 : decode cX1_swap 26 = .ok (.if_icmp .ne 7, 3) := by decide +kernel
theorem dX1_swap_29 : decode cX1_swap 29 = .ok (.iload_n 2, 1) := by decide +kernel
theorem dX1_swap_30 : decode cX1_swap 30 = .ok (.goto 15, 3) := by decide +kernel
theorem dX1_swap_33 : decode cX1_swap 33 = .ok (.iload 4, 2) := by decide +kernel
theorem dX1_swap_35 : decode cX1_swap 35 = .ok (.iload_n 2, 1) := by decide +kernel
theorem dX1_swap_36 : decode cX1_swap 36 = .ok (.if_icmp .ne 7, 3) := by decide +kernel
theorem dX1_swap_39 : decode cX1_swap 39 = .ok (.iload_n 1, 1) := by decide +kernel
theorem dX1_swap_40 : decode cX1_swap 40 = .ok (.goto 5, 3) := by decide +kernel
theorem dX1_swap_43 : decode cX1_swap 43 = .ok (.iload 4, 2) := by decide +kernel
theorem dX1_swap_45 : decode cX1_swap 45 = .ok (.istore 5, 2) := by decide +kernel
theorem dX1_swap_47 : decode cX1_swap 47 = .ok (.iload_n 3, 1) := by decide +kernel
theorem dX1_swap_48 : decode cX1_swap 48 = .ok (.aload_n 0, 1) := by decide +kernel
theorem dX1_swap_49 : decode cX1_swap 49 = .ok (.getfield 21, 3) := by decide +kernel
theorem dX1_swap_52 : decode cX1_swap 52 = .ok (.getfield 61, 3) := by decide +kernel
theorem dX1_swap_55 : decode cX1_swap 55 = .ok (.imul, 1) := by decide +kernel
theorem dX1_swap_56 : decode cX1_swap 56 = .ok (.aload_n 0, 1) := by decide +kernel
theorem dX1_swap_57 : decode cX1_swap 57 = .ok (.getfield 21, 3) := by decide +kernel
theorem dX1_swap_60 : decode cX1_swap 60 = .ok (.aload_n 0, 1) := by decide +kernel
theorem dX1_swap_61 : decode cX1_swap 61 = .ok (.getfield 24, 3) := by decide +kernel
theorem dX1_swap_64 : decode cX1_swap 64 = .ok (.iload 5, 2) := by decide +kernel
theorem dX1_swap_66 : decode cX1_swap 66 = .ok (.invokevirtual 73, 3) := by decide +kernel
theorem dX1_swap_69 : decode cX1_swap 69 = .ok (.iadd, 1) := by decide +kernel
theorem dX1_swap_70 : decode cX1_swap 70 = .ok (.istore_n 3, 1) := by decide +kernel
theorem dX1_swap_71 : decode cX1_swap 71 = .ok (.iinc 4 1, 3) := by decide +kernel
theorem dX1_swap_74 : decode cX1_swap 74 = .ok (.goto (-57), 3) := by decide +kernel
theorem dX1_swap_77 : decode cX1_swap 77 = .ok (.aload_n 0, 1) := by decide +kernel
theorem dX1_swap_78 : decode cX1_swap 78 = .ok (.iload_n 3, 1) := by decide +kernel
theorem dX1_swap_79 : decode cX1_swap 79 = .ok (.putfield 24, 3) := by decide +kernel
theorem dX1_swap_82 : decode cX1_swap 82 = .ok (.aload_n 0, 1) := by decide +kernel
theorem dX1_swap_83 : decode cX1_swap 83 = .ok (.getfield 24, 3) := by decide +kernel
theorem dX1_swap_86 : decode cX1_swap 86 = .ok (.ireturn, 1) := by decide +kernel
theorem dX1_guess_0 : decode cX1_guess 0 = .ok (.aload_n 0, 1) := by decide +kernel
theorem dX1_guess_1 : decode cX1_guess 1 = .ok (.iload_n 1, 1) := by decide +kernel
theorem dX1_guess_2 : decode cX1_guess 2 = .ok (.invokevirtual 64, 3) := by decide +kernel
theorem dX1_guess_5 : decode cX1_guess 5 = .ok (.aload_n 0, 1) := by decide +kernel
theorem dX1_guess_6 : decode cX1_guess 6 = .ok (.invokevirtual 70, 3) := by decide +kernel
theorem dX1_guess_9 : decode cX1_guess 9 = .ok (.aload_n 0, 1) := by decide +kernel
theorem dX1_guess_10 : decode cX1_guess 10 = .ok (.getfield 21, 3) := by decide +kernel
theorem dX1_guess_13 : decode cX1_guess 13 = .ok (.iload_n 1, 1) := by decide +kernel
theorem dX1_guess_14 : decode cX1_guess 14 = .ok (.aload_n 0, 1) := by decide +kernel
theorem dX1_guess_15 : decode cX1_guess 15 = .ok (.getfield 24, 3) := by decide +kernel
theorem dX1_guess_18 : decode cX1_guess 18 = .ok (.invokevirtual 77, 3) := by decide +kernel
theorem dX1_guess_21 : decode cX1_guess 21 = .ok (.istore_n 2, 1) := by decide +kernel
theorem dX1_guess_22 : decode cX1_guess 22 = .ok (.aload_n 0, 1) := by decide +kernel
theorem dX1_guess_23 : decode cX1_guess 23 = .ok (.iload_n 1, 1) := by decide +kernel
theorem dX1_guess_24 : decode cX1_guess 24 = .ok (.iload_n 2, 1) := by decide +kernel
theorem dX1_guess_25 : decode cX1_guess 25 = .ok (.invokevirtual 80, 3) := by decide +kernel
theorem dX1_guess_28 : decode cX1_guess 28 = .ok (.iload_n 2, 1) := by decide +kernel
theorem dX1_guess_29 : decode cX1_guess 29 = .ok (.ireturn, 1) := by decide +kernel
theorem dX1_tell_0 : decode cX1_tell 0 = .ok (.aload_n 0, 1) := by decide +kernel
theorem dX1_tell_1 : decode cX1_tell 1 = .ok (.iload_n 1, 1) := by decide +kernel
theorem dX1_tell_2 : decode cX1_tell 2 = .ok (.invokevirtual 64, 3) := by decide +kernel
theorem dX1_tell_5 : decode cX1_tell 5 = .ok (.iload_n 2, 1) := by decide +kernel
theorem dX1_tell_6 : decode cX1_tell 6 = .ok (.iload_n 3, 1) := by decide +kernel
theorem dX1_tell_7 : decode cX1_tell 7 = .ok (.invokestatic 84, 3) := by decide +kernel
theorem dX1_tell_10 : decode cX1_tell 10 = .ok (.aload_n 0, 1) := by decide +kernel
theorem dX1_tell_11 : decode cX1_tell 11 = .ok (.iload_n 1, 1) := by decide +kernel
theorem dX1_tell_12 : decode cX1_tell 12 = .ok (.iconst 5, 1) := by decide +kernel
theorem dX1_tell_13 : decode cX1_tell 13 = .ok (.iload_n 2, 1) := by decide +kernel
theorem dX1_tell_14 : decode cX1_tell 14 = .ok (.imul, 1) := by decide +kernel
theorem dX1_tell_15 : decode cX1_tell 15 = .ok (.iload_n 3, 1) := by decide +kernel
theorem dX1_tell_16 : decode cX1_tell 16 = .ok (.iadd, 1) := by decide +kernel
theorem dX1_tell_17 : decode cX1_tell 17 = .ok (.invokevirtual 80, 3) := by decide +kernel
theorem dX1_tell_20 : decode cX1_tell 20 = .ok (.aload_n 0, 1) := by decide +kernel
theorem dX1_tell_21 : decode cX1_tell 21 = .ok (.getfield 42, 3) := by decide +kernel
theorem dX1_tell_24 : decode cX1_tell 24 = .ok (.invokestatic 87, 3) := by decide +kernel
theorem dX1_tell_27 : decode cX1_tell 27 = .ok (.ireturn, 1) := by decide +kernel
theorem dX1_doubt_0 : decode cX1_doubt 0 = .ok (.aload_n 0, 1) := by decide +kernel
theorem dX1_doubt_1 : decode cX1_doubt 1 = .ok (.iload_n 1, 1) := by decide +kernel
theorem dX1_doubt_2 : decode cX1_doubt 2 = .ok (.invokevirtual 91, 3) := by decide +kernel
theorem dX1_doubt_5 : decode cX1_doubt 5 = .ok (.ifCond .ne 13, 3) := by decide +kernel
theorem dX1_doubt_8 : decode cX1_doubt 8 = .ok (.new 95, 3) := by decide +kernel
theorem dX1_doubt_11 : decode cX1_doubt 11 = .ok (.dup, 1) := by decide +kernel
theorem dX1_doubt_12 : decode cX1_doubt 12 = .ok (.ldc 97, 2) := by decide +kernel
theorem dX1_doubt_14 : decode cX1_doubt 14 = .ok (.invokespecial 99, 3) := by decide +kernel
theorem dX1_doubt_17 : decode cX1_doubt 17 = .ok (.athrow, 1) := by decide +kernel
theorem dX1_doubt_18 : decode cX1_doubt 18 = .ok (.aload_n 0, 1) := by decide +kernel
theorem dX1_doubt_19 : decode cX1_doubt 19 = .ok (.getfield 38, 3) := by decide +kernel
theorem dX1_doubt_22 : decode cX1_doubt 22 = .ok (.iload_n 1, 1) := by decide +kernel
theorem dX1_doubt_23 : decode cX1_doubt 23 = .ok (.baload, 1) := by decide +kernel
theorem dX1_doubt_24 : decode cX1_doubt 24 = .ok (.istore_n 3, 1) := by decide +kernel
theorem dX1_doubt_25 : decode cX1_doubt 25 = .ok (.aload_n 0, 1) := by decide +kernel
theorem dX1_doubt_26 : decode cX1_doubt 26 = .ok (.getfield 38, 3) := by decide +kernel
theorem dX1_doubt_29 : decode cX1_doubt 29 = .ok (.iload_n 1, 1) := by decide +kernel
theorem dX1_doubt_30 : decode cX1_doubt 30 = .ok (.iload_n 2, 1) := by decide +kernel
theorem dX1_doubt_31 : decode cX1_doubt 31 = .ok (.bastore, 1) := by decide +kernel
theorem dX1_doubt_32 : decode cX1_doubt 32 = .ok (.aload_n 0, 1) := by decide +kernel
theorem dX1_doubt_33 : decode cX1_doubt 33 = .ok (.invokevirtual 51, 3) := by decide +kernel
theorem dX1_doubt_36 : decode cX1_doubt 36 = .ok (.iload_n 3, 1) := by decide +kernel
theorem dX1_doubt_37 : decode cX1_doubt 37 = .ok (.ireturn, 1) := by decide +kernel
theorem dX1_forget_0 : decode cX1_forget 0 = .ok (.aload_n 0, 1) := by decide +kernel
theorem dX1_forget_1 : decode cX1_forget 1 = .ok (.getfield 28, 3) := by decide +kernel
theorem dX1_forget_4 : decode cX1_forget 4 = .ok (.iconst 1, 1) := by decide +kernel
theorem dX1_forget_5 : decode cX1_forget 5 = .ok (.isub, 1) := by decide +kernel
theorem dX1_forget_6 : decode cX1_forget 6 = .ok (.istore_n 1, 1) := by decide +kernel
theorem dX1_forget_7 : decode cX1_forget 7 = .ok (.aload_n 0, 1) := by decide +kernel
theorem dX1_forget_8 : decode cX1_forget 8 = .ok (.iload_n 1, 1) := by decide +kernel
theorem dX1_forget_9 : decode cX1_forget 9 = .ok (.invokevirtual 91, 3) := by decide +kernel
theorem dX1_forget_12 : decode cX1_forget 12 = .ok (.ifCond .ne 13, 3) := by decide +kernel
theorem dX1_forget_15 : decode cX1_forget 15 = .ok (.new 100, 3) := by decide +kernel
theorem dX1_forget_18 : decode cX1_forget 18 = .ok (.dup, 1) := by decide +kernel
theorem dX1_forget_19 : decode cX1_forget 19 = .ok (.ldc 102, 2) := by decide +kernel
theorem dX1_forget_21 : decode cX1_forget 21 = .ok (.invokespecial 104, 3) := by decide +kernel
theorem dX1_forget_24 : decode cX1_forget 24 = .ok (.athrow, 1) := by decide +kernel
theorem dX1_forget_25 : decode cX1_forget 25 = .ok (.aload_n 0, 1) := by decide +kernel
theorem dX1_forget_26 : decode cX1_forget 26 = .ok (.iload_n 1, 1) := by decide +kernel
theorem dX1_forget_27 : decode cX1_forget 27 = .ok (.putfield 28, 3) := by decide +kernel
theorem dX1_forget_30 : decode cX1_forget 30 = .ok (.aload_n 0, 1) := by decide +kernel
theorem dX1_forget_31 : decode cX1_forget 31 = .ok (.invokevirtual 51, 3) := by decide +kernel
theorem dX1_forget_34 : decode cX1_forget 34 = .ok (.aload_n 0, 1) := by decide +kernel
theorem dX1_forget_35 : decode cX1_forget 35 = .ok (.getfield 31, 3) := by decide +kernel
theorem dX1_forget_38 : decode cX1_forget 38 = .ok (.iload_n 1, 1) := by decide +kernel
theorem dX1_forget_39 : decode cX1_forget 39 = .ok (.iaload, 1) := by decide +kernel
theorem dX1_forget_40 : decode cX1_forget 40 = .ok (.ireturn, 1) := by decide +kernel
theorem dX1_colour_0 : decode cX1_colour 0 = .ok (.aload_n 0, 1) := by decide +kernel
theorem dX1_colour_1 : decode cX1_colour 1 = .ok (.iload_n 1, 1) := by decide +kernel
theorem dX1_colour_2 : decode cX1_colour 2 = .ok (.invokevirtual 64, 3) := by decide +kernel
theorem dX1_colour_5 : decode cX1_colour 5 = .ok (.iload_n 2, 1) := by decide +kernel
theorem dX1_colour_6 : decode cX1_colour 6 = .ok (.invokestatic 67, 3) := by decide +kernel
theorem dX1_colour_9 : decode cX1_colour 9 = .ok (.aload_n 0, 1) := by decide +kernel
theorem dX1_colour_10 : decode cX1_colour 10 = .ok (.getfield 21, 3) := by decide +kernel
theorem dX1_colour_13 : decode cX1_colour 13 = .ok (.iload_n 1, 1) := by decide +kernel
theorem dX1_colour_14 : decode cX1_colour 14 = .ok (.iload_n 2, 1) := by decide +kernel
theorem dX1_colour_15 : decode cX1_colour 15 = .ok (.invokevirtual 73, 3) := by decide +kernel
theorem dX1_colour_18 : decode cX1_colour 18 = .ok (.ireturn, 1) := by decide +kernel
theorem dX1_pins_0 : decode cX1_pins 0 = .ok (.aload_n 0, 1) := by decide +kernel
theorem dX1_pins_1 : decode cX1_pins 1 = .ok (.iload_n 1, 1) := by decide +kernel
theorem dX1_pins_2 : decode cX1_pins 2 = .ok (.invokevirtual 64, 3) := by decide +kernel
theorem dX1_pins_5 : decode cX1_pins 5 = .ok (.aload_n 0, 1) := by decide +kernel
theorem dX1_pins_6 : decode cX1_pins 6 = .ok (.iload_n 2, 1) := by decide +kernel
theorem dX1_pins_7 : decode cX1_pins 7 = .ok (.invokevirtual 64, 3) := by decide +kernel
theorem dX1_pins_10 : decode cX1_pins 10 = .ok (.aload_n 0, 1) := by decide +kernel
theorem dX1_pins_11 : decode cX1_pins 11 = .ok (.getfield 21, 3) := by decide +kernel
theorem dX1_pins_14 : decode cX1_pins 14 = .ok (.iload_n 1, 1) := by decide +kernel
theorem dX1_pins_15 : decode cX1_pins 15 = .ok (.iload_n 2, 1) := by decide +kernel
theorem dX1_pins_16 : decode cX1_pins 16 = .ok (.invokevirtual 77, 3) := by decide +kernel
theorem dX1_pins_19 : decode cX1_pins 19 = .ok (.ireturn, 1) := by decide +kernel
theorem dX1_told_0 : decode cX1_told 0 = .ok (.aload_n 0, 1) := by decide +kernel
theorem dX1_told_1 : decode cX1_told 1 = .ok (.iload_n 1, 1) := by decide +kernel
theorem dX1_told_2 : decode cX1_told 2 = .ok (.invokevirtual 91, 3) := by decide +kernel
theorem dX1_told_5 : decode cX1_told 5 = .ok (.ifCond .ne 13, 3) := by decide +kernel
theorem dX1_told_8 : decode cX1_told 8 = .ok (.new 95, 3) := by decide +kernel
theorem dX1_told_11 : decode cX1_told 11 = .ok (.dup, 1) := by decide +kernel
theorem dX1_told_12 : decode cX1_told 12 = .ok (.ldc 97, 2) := by decide +kernel
theorem dX1_told_14 : decode cX1_told 14 = .ok (.invokespecial 99, 3) := by decide +kernel
theorem dX1_told_17 : decode cX1_told 17 = .ok (.athrow, 1) := by decide +kernel
theorem dX1_told_18 : decode cX1_told 18 = .ok (.iload_n 2, 1) := by decide +kernel
theorem dX1_told_19 : decode cX1_told 19 = .ok (.tableswitch 102 0 5 #[37, 44, 53, 62, 77, 85], 37) := by decide +kernel
theorem dX1_told_56 : decode cX1_told 56 = .ok (.aload_n 0, 1) := by decide +kernel
theorem dX1_told_57 : decode cX1_told 57 = .ok (.getfield 31, 3) := by decide +kernel
theorem dX1_told_60 : decode cX1_told 60 = .ok (.iload_n 1, 1) := by decide +kernel
theorem dX1_told_61 : decode cX1_told 61 = .ok (.iaload, 1) := by decide +kernel
theorem dX1_told_62 : decode cX1_told 62 = .ok (.ireturn, 1) := by decide +kernel
theorem dX1_told_63 : decode cX1_told 63 = .ok (.aload_n 0, 1) := by decide +kernel
theorem dX1_told_64 : decode cX1_told 64 = .ok (.getfield 35, 3) := by decide +kernel
theorem dX1_told_67 : decode cX1_told 67 = .ok (.iload_n 1, 1) := by decide +kernel
theorem dX1_told_68 : decode cX1_told 68 = .ok (.iaload, 1) := by decide +kernel
theorem dX1_told_69 : decode cX1_told 69 = .ok (.iconst 5, 1) := by decide +kernel
theorem dX1_told_70 : decode cX1_told 70 = .ok (.idiv, 1) := by decide +kernel
theorem dX1_told_71 : decode cX1_told 71 = .ok (.ireturn, 1) := by decide +kernel
theorem dX1_told_72 : decode cX1_told 72 = .ok (.aload_n 0, 1) := by decide +kernel
theorem dX1_told_73 : decode cX1_told 73 = .ok (.getfield 35, 3) := by decide +kernel
theorem dX1_told_76 : decode cX1_told 76 = .ok (.iload_n 1, 1) := by decide +kernel
theorem dX1_told_77 : decode cX1_told 77 = .ok (.iaload, 1) := by decide +kernel
theorem dX1_told_78 : decode cX1_told 78 = .ok (.iconst 5, 1) := by decide +kernel
theorem dX1_told_79 : decode cX1_told 79 = .ok (.irem, 1) := by decide +kernel
theorem dX1_told_80 : decode cX1_told 80 = .ok (.ireturn, 1) := by decide +kernel
theorem dX1_told_81 : decode cX1_told 81 = .ok (.aload_n 0, 1) := by decide +kernel
theorem dX1_told_82 : decode cX1_told 82 = .ok (.getfield 38, 3) := by decide +kernel
theorem dX1_told_85 : decode cX1_told 85 = .ok (.iload_n 1, 1) := by decide +kernel
theorem dX1_told_86 : decode cX1_told 86 = .ok (.baload, 1) := by decide +kernel
theorem dX1_told_87 : decode cX1_told 87 = .ok (.ifCond .eq 7, 3) := by decide +kernel
theorem dX1_told_90 : decode cX1_told 90 = .ok (.iconst 1, 1) := by decide +kernel
theorem dX1_told_91 : decode cX1_told 91 = .ok (.goto 4, 3) := by decide +kernel
theorem dX1_told_94 : decode cX1_told 94 = .ok (.iconst 0, 1) := by decide +kernel
theorem dX1_told_95 : decode cX1_told 95 = .ok (.ireturn, 1) := by decide +kernel
theorem dX1_told_96 : decode cX1_told 96 = .ok (.aload_n 0, 1) := by decide +kernel
theorem dX1_told_97 : decode cX1_told 97 = .ok (.iload_n 1, 1) := by decide +kernel
theorem dX1_told_98 : decode cX1_told 98 = .ok (.iconst 1, 1) := by decide +kernel
theorem dX1_told_99 : decode cX1_told 99 = .ok (.iadd, 1) := by decide +kernel
theorem dX1_told_100 : decode cX1_told 100 = .ok (.invokevirtual 105, 3) := by decide +kernel
theorem dX1_told_103 : decode cX1_told 103 = .ok (.ireturn, 1) := by decide +kernel
theorem dX1_told_104 : decode cX1_told 104 = .ok (.aload_n 0, 1) := by decide +kernel
theorem dX1_told_105 : decode cX1_told 105 = .ok (.aload_n 0, 1) := by decide +kernel
theorem dX1_told_106 : decode cX1_told 106 = .ok (.getfield 31, 3) := by decide +kernel
theorem dX1_told_109 : decode cX1_told 109 = .ok (.iload_n 1, 1) := by decide +kernel
theorem dX1_told_110 : decode cX1_told 110 = .ok (.iaload, 1) := by decide +kernel
theorem dX1_told_111 : decode cX1_told 111 = .ok (.aload_n 0, 1) := by decide +kernel
theorem dX1_told_112 : decode cX1_told 112 = .ok (.getfield 35, 3) := by decide +kernel
theorem dX1_told_115 : decode cX1_told 115 = .ok (.iload_n 1, 1) := by decide +kernel
theorem dX1_told_116 : decode cX1_told 116 = .ok (.iaload, 1) := by decide +kernel
theorem dX1_told_117 : decode cX1_told 117 = .ok (.invokevirtual 109, 3) := by decide +kernel
theorem dX1_told_120 : decode cX1_told 120 = .ok (.ireturn, 1) := by decide +kernel
theorem dX1_told_121 : decode cX1_told 121 = .ok (.new 95, 3) := by decide +kernel
theorem dX1_told_124 : decode cX1_told 124 = .ok (.dup, 1) := by decide +kernel
theorem dX1_told_125 : decode cX1_told 125 = .ok (.ldc 112, 2) := by decide +kernel
theorem dX1_told_127 : decode cX1_told 127 = .ok (.invokespecial 99, 3) := by decide +kernel
theorem dX1_told_130 : decode cX1_told 130 = .ok (.athrow, 1) := by decide +kernel
theorem dX1_count_0 : decode cX1_count 0 = .ok (.iload_n 1, 1) := by decide +kernel
theorem dX1_count_1 : decode cX1_count 1 = .ok (.tableswitch 96 0 6 #[43, 51, 59, 64, 72, 86, 91], 43) := by decide +kernel
theorem dX1_count_44 : decode cX1_count 44 = .ok (.aload_n 0, 1) := by decide +kernel
theorem dX1_count_45 : decode cX1_count 45 = .ok (.getfield 21, 3) := by decide +kernel
theorem dX1_count_48 : decode cX1_count 48 = .ok (.getfield 61, 3) := by decide +kernel
theorem dX1_count_51 : decode cX1_count 51 = .ok (.ireturn, 1) := by decide +kernel
theorem dX1_count_52 : decode cX1_count 52 = .ok (.aload_n 0, 1) := by decide +kernel
theorem dX1_count_53 : decode cX1_count 53 = .ok (.getfield 21, 3) := by decide +kernel
theorem dX1_count_56 : decode cX1_count 56 = .ok (.getfield 114, 3) := by decide +kernel
theorem dX1_count_59 : decode cX1_count 59 = .ok (.ireturn, 1) := by decide +kernel
theorem dX1_count_60 : decode cX1_count 60 = .ok (.aload_n 0, 1) := by decide +kernel
theorem dX1_count_61 : decode cX1_count 61 = .ok (.getfield 28, 3) := by decide +kernel
theorem dX1_count_64 : decode cX1_count 64 = .ok (.ireturn, 1) := by decide +kernel
theorem dX1_count_65 : decode cX1_count 65 = .ok (.aload_n 0, 1) := by decide +kernel
theorem dX1_count_66 : decode cX1_count 66 = .ok (.getfield 42, 3) := by decide +kernel
theorem dX1_count_69 : decode cX1_count 69 = .ok (.invokestatic 87, 3) := by decide +kernel
theorem dX1_count_72 : decode cX1_count 72 = .ok (.ireturn, 1) := by decide +kernel
theorem dX1_count_73 : decode cX1_count 73 = .ok (.aload_n 0, 1) := by decide +kernel
theorem dX1_count_74 : decode cX1_count 74 = .ok (.getfield 24, 3) := by decide +kernel
theorem dX1_count_77 : decode cX1_count 77 = .ok (.iconst (-1), 1) := by decide +kernel
theorem dX1_count_78 : decode cX1_count 78 = .ok (.if_icmp .ne 7, 3) := by decide +kernel
theorem dX1_count_81 : decode cX1_count 81 = .ok (.iconst 0, 1) := by decide +kernel
theorem dX1_count_82 : decode cX1_count 82 = .ok (.goto 4, 3) := by decide +kernel
theorem dX1_count_85 : decode cX1_count 85 = .ok (.iconst 1, 1) := by decide +kernel
theorem dX1_count_86 : decode cX1_count 86 = .ok (.ireturn, 1) := by decide +kernel
theorem dX1_count_87 : decode cX1_count 87 = .ok (.aload_n 0, 1) := by decide +kernel
theorem dX1_count_88 : decode cX1_count 88 = .ok (.invokevirtual 117, 3) := by decide +kernel
theorem dX1_count_91 : decode cX1_count 91 = .ok (.ireturn, 1) := by decide +kernel
theorem dX1_count_92 : decode cX1_count 92 = .ok (.aload_n 0, 1) := by decide +kernel
theorem dX1_count_93 : decode cX1_count 93 = .ok (.invokevirtual 121, 3) := by decide +kernel
theorem dX1_count_96 : decode cX1_count 96 = .ok (.ireturn, 1) := by decide +kernel
theorem dX1_count_97 : decode cX1_count 97 = .ok (.new 95, 3) := by decide +kernel
theorem dX1_count_100 : decode cX1_count 100 = .ok (.dup, 1) := by decide +kernel
theorem dX1_count_101 : decode cX1_count 101 = .ok (.ldc 124, 2) := by decide +kernel
theorem dX1_count_103 : decode cX1_count 103 = .ok (.invokespecial 99, 3) := by decide +kernel
theorem dX1_count_106 : decode cX1_count 106 = .ok (.athrow, 1) := by decide +kernel
theorem dX1_isPossible_0 : decode cX1_isPossible 0 = .ok (.aload_n 0, 1) := by decide +kernel
theorem dX1_isPossible_1 : decode cX1_isPossible 1 = .ok (.iload_n 1, 1) := by decide +kernel
theorem dX1_isPossible_2 : decode cX1_isPossible 2 = .ok (.invokevirtual 64, 3) := by decide +kernel
theorem dX1_isPossible_5 : decode cX1_isPossible 5 = .ok (.aload_n 0, 1) := by decide +kernel
theorem dX1_isPossible_6 : decode cX1_isPossible 6 = .ok (.getfield 42, 3) := by decide +kernel
theorem dX1_isPossible_9 : decode cX1_isPossible 9 = .ok (.iload_n 1, 1) := by decide +kernel
theorem dX1_isPossible_10 : decode cX1_isPossible 10 = .ok (.invokestatic 126, 3) := by decide +kernel
theorem dX1_isPossible_13 : decode cX1_isPossible 13 = .ok (.ireturn, 1) := by decide +kernel
theorem dX1_possible_0 : decode cX1_possible 0 = .ok (.aload_n 0, 1) := by decide +kernel
theorem dX1_possible_1 : decode cX1_possible 1 = .ok (.getfield 42, 3) := by decide +kernel
theorem dX1_possible_4 : decode cX1_possible 4 = .ok (.iload_n 1, 1) := by decide +kernel
theorem dX1_possible_5 : decode cX1_possible 5 = .ok (.invokestatic 130, 3) := by decide +kernel
theorem dX1_possible_8 : decode cX1_possible 8 = .ok (.istore_n 2, 1) := by decide +kernel
theorem dX1_possible_9 : decode cX1_possible 9 = .ok (.iload_n 2, 1) := by decide +kernel
theorem dX1_possible_10 : decode cX1_possible 10 = .ok (.iconst (-1), 1) := by decide +kernel
theorem dX1_possible_11 : decode cX1_possible 11 = .ok (.if_icmp .ne 13, 3) := by decide +kernel
theorem dX1_possible_14 : decode cX1_possible 14 = .ok (.new 95, 3) := by decide +kernel
theorem dX1_possible_17 : decode cX1_possible 17 = .ok (.dup, 1) := by decide +kernel
theorem dX1_possible_18 : decode cX1_possible 18 = .ok (.ldc 134, 2) := by decide +kernel
theorem dX1_possible_20 : decode cX1_possible 20 = .ok (.invokespecial 99, 3) := by decide +kernel
theorem dX1_possible_23 : decode cX1_possible 23 = .ok (.athrow, 1) := by decide +kernel
theorem dX1_possible_24 : decode cX1_possible 24 = .ok (.iload_n 2, 1) := by decide +kernel
theorem dX1_possible_25 : decode cX1_possible 25 = .ok (.ireturn, 1) := by decide +kernel
theorem dX1_have_0 : decode cX1_have 0 = .ok (.iload_n 1, 1) := by decide +kernel
theorem dX1_have_1 : decode cX1_have 1 = .ok (.invokestatic 67, 3) := by decide +kernel
theorem dX1_have_4 : decode cX1_have 4 = .ok (.iload_n 2, 1) := by decide +kernel
theorem dX1_have_5 : decode cX1_have 5 = .ok (.ifCond .lt 14, 3) := by decide +kernel
theorem dX1_have_8 : decode cX1_have 8 = .ok (.iload_n 2, 1) := by decide +kernel
theorem dX1_have_9 : decode cX1_have 9 = .ok (.aload_n 0, 1) := by decide +kernel
theorem dX1_have_10 : decode cX1_have 10 = .ok (.getfield 21, 3) := by decide +kernel
theorem dX1_have_13 : decode cX1_have 13 = .ok (.getfield 61, 3) := by decide +kernel
theorem dX1_have_16 : decode cX1_have 16 = .ok (.if_icmp .lt 13, 3) := by decide +kernel
theorem dX1_have_19 : decode cX1_have 19 = .ok (.new 95, 3) := by decide +kernel
theorem dX1_have_22 : decode cX1_have 22 = .ok (.dup, 1) := by decide +kernel
theorem dX1_have_23 : decode cX1_have 23 = .ok (.ldc 136, 2) := by decide +kernel
theorem dX1_have_25 : decode cX1_have 25 = .ok (.invokespecial 99, 3) := by decide +kernel
theorem dX1_have_28 : decode cX1_have 28 = .ok (.athrow, 1) := by decide +kernel
theorem dX1_have_29 : decode cX1_have 29 = .ok (.aload_n 0, 1) := by decide +kernel
theorem dX1_have_30 : decode cX1_have 30 = .ok (.iload_n 1, 1) := by decide +kernel
theorem dX1_have_31 : decode cX1_have 31 = .ok (.iload_n 2, 1) := by decide +kernel
theorem dX1_have_32 : decode cX1_have 32 = .ok (.invokevirtual 138, 3) := by decide +kernel
theorem dX1_have_35 : decode cX1_have 35 = .ok (.ireturn, 1) := by decide +kernel
theorem dX1_sure_0 : decode cX1_sure 0 = .ok (.iload_n 1, 1) := by decide +kernel
theorem dX1_sure_1 : decode cX1_sure 1 = .ok (.invokestatic 67, 3) := by decide +kernel
theorem dX1_sure_4 : decode cX1_sure 4 = .ok (.aload_n 0, 1) := by decide +kernel
theorem dX1_sure_5 : decode cX1_sure 5 = .ok (.getfield 42, 3) := by decide +kernel
theorem dX1_sure_8 : decode cX1_sure 8 = .ok (.iconst 0, 1) := by decide +kernel
theorem dX1_sure_9 : decode cX1_sure 9 = .ok (.invokestatic 130, 3) := by decide +kernel
theorem dX1_sure_12 : decode cX1_sure 12 = .ok (.istore_n 2, 1) := by decide +kernel
theorem dX1_sure_13 : decode cX1_sure 13 = .ok (.iload_n 2, 1) := by decide +kernel
theorem dX1_sure_14 : decode cX1_sure 14 = .ok (.iconst (-1), 1) := by decide +kernel
theorem dX1_sure_15 : decode cX1_sure 15 = .ok (.if_icmp .ne 5, 3) := by decide +kernel
theorem dX1_sure_18 : decode cX1_sure 18 = .ok (.iconst (-1), 1) := by decide +kernel
theorem dX1_sure_19 : decode cX1_sure 19 = .ok (.ireturn, 1) := by decide +kernel
theorem dX1_sure_20 : decode cX1_sure 20 = .ok (.aload_n 0, 1) := by decide +kernel
theorem dX1_sure_21 : decode cX1_sure 21 = .ok (.getfield 21, 3) := by decide +kernel
theorem dX1_sure_24 : decode cX1_sure 24 = .ok (.iload_n 2, 1) := by decide +kernel
theorem dX1_sure_25 : decode cX1_sure 25 = .ok (.iload_n 1, 1) := by decide +kernel
theorem dX1_sure_26 : decode cX1_sure 26 = .ok (.invokevirtual 73, 3) := by decide +kernel
theorem dX1_sure_29 : decode cX1_sure 29 = .ok (.istore_n 3, 1) := by decide +kernel
theorem dX1_sure_30 : decode cX1_sure 30 = .ok (.aload_n 0, 1) := by decide +kernel
theorem dX1_sure_31 : decode cX1_sure 31 = .ok (.iload_n 1, 1) := by decide +kernel
theorem dX1_sure_32 : decode cX1_sure 32 = .ok (.iload_n 3, 1) := by decide +kernel
theorem dX1_sure_33 : decode cX1_sure 33 = .ok (.invokevirtual 138, 3) := by decide +kernel
theorem dX1_sure_36 : decode cX1_sure 36 = .ok (.aload_n 0, 1) := by decide +kernel
theorem dX1_sure_37 : decode cX1_sure 37 = .ok (.getfield 42, 3) := by decide +kernel
theorem dX1_sure_40 : decode cX1_sure 40 = .ok (.invokestatic 87, 3) := by decide +kernel
theorem dX1_sure_43 : decode cX1_sure 43 = .ok (.if_icmp .ne 7, 3) := by decide +kernel
theorem dX1_sure_46 : decode cX1_sure 46 = .ok (.iload_n 3, 1) := by decide +kernel
theorem dX1_sure_47 : decode cX1_sure 47 = .ok (.goto 4, 3) := by decide +kernel
theorem dX1_sure_50 : decode cX1_sure 50 = .ok (.iconst (-1), 1) := by decide +kernel
theorem dX1_sure_51 : decode cX1_sure 51 = .ok (.ireturn, 1) := by decide +kernel
theorem dX1_worst_0 : decode cX1_worst 0 = .ok (.aload_n 0, 1) := by decide +kernel
theorem dX1_worst_1 : decode cX1_worst 1 = .ok (.iload_n 1, 1) := by decide +kernel
theorem dX1_worst_2 : decode cX1_worst 2 = .ok (.invokevirtual 64, 3) := by decide +kernel
theorem dX1_worst_5 : decode cX1_worst 5 = .ok (.aload_n 0, 1) := by decide +kernel
theorem dX1_worst_6 : decode cX1_worst 6 = .ok (.iload_n 1, 1) := by decide +kernel
theorem dX1_worst_7 : decode cX1_worst 7 = .ok (.aload_n 0, 1) := by decide +kernel
theorem dX1_worst_8 : decode cX1_worst 8 = .ok (.getfield 42, 3) := by decide +kernel
theorem dX1_worst_11 : decode cX1_worst 11 = .ok (.invokevirtual 141, 3) := by decide +kernel
theorem dX1_worst_14 : decode cX1_worst 14 = .ok (.ireturn, 1) := by decide +kernel
theorem dX1_parts_0 : decode cX1_parts 0 = .ok (.aload_n 0, 1) := by decide +kernel
theorem dX1_parts_1 : decode cX1_parts 1 = .ok (.iload_n 1, 1) := by decide +kernel
theorem dX1_parts_2 : decode cX1_parts 2 = .ok (.invokevirtual 64, 3) := by decide +kernel
theorem dX1_parts_5 : decode cX1_parts 5 = .ok (.aload_n 0, 1) := by decide +kernel
theorem dX1_parts_6 : decode cX1_parts 6 = .ok (.iload_n 1, 1) := by decide +kernel
theorem dX1_parts_7 : decode cX1_parts 7 = .ok (.aload_n 0, 1) := by decide +kernel
theorem dX1_parts_8 : decode cX1_parts 8 = .ok (.getfield 42, 3) := by decide +kernel
theorem dX1_parts_11 : decode cX1_parts 11 = .ok (.invokevirtual 145, 3) := by decide +kernel
theorem dX1_parts_14 : decode cX1_parts 14 = .ok (.iconst 0, 1) := by decide +kernel
theorem dX1_parts_15 : decode cX1_parts 15 = .ok (.istore_n 2, 1) := by decide +kernel
theorem dX1_parts_16 : decode cX1_parts 16 = .ok (.iconst 0, 1) := by decide +kernel
theorem dX1_parts_17 : decode cX1_parts 17 = .ok (.istore_n 3, 1) := by decide +kernel
theorem dX1_parts_18 : decode cX1_parts 18 = .ok (.iload_n 3, 1) := by decide +kernel
theorem dX1_parts_19 : decode cX1_parts 19 = .ok (.aload_n 0, 1) := by decide +kernel
theorem dX1_parts_20 : decode cX1_parts 20 = .ok (.getfield 48, 3) := by decide +kernel
theorem dX1_parts_23 : decode cX1_parts 23 = .ok (.arraylength, 1) := by decide +kernel
theorem dX1_parts_24 : decode cX1_parts 24 = .ok (.if_icmp .ge 21, 3) := by decide +kernel
theorem dX1_parts_27 : decode cX1_parts 27 = .ok (.aload_n 0, 1) := by decide +kernel
theorem dX1_parts_28 : decode cX1_parts 28 = .ok (.getfield 48, 3) := by decide +kernel
theorem dX1_parts_31 : decode cX1_parts 31 = .ok (.iload_n 3, 1) := by decide +kernel
theorem dX1_parts_32 : decode cX1_parts 32 = .ok (.iaload, 1) := by decide +kernel
theorem dX1_parts_33 : decode cX1_parts 33 = .ok (.ifCond .le 6, 3) := by decide +kernel
theorem dX1_parts_36 : decode cX1_parts 36 = .ok (.iinc 2 1, 3) := by decide +kernel
theorem dX1_parts_39 : decode cX1_parts 39 = .ok (.iinc 3 1, 3) := by decide +kernel
theorem dX1_parts_42 : decode cX1_parts 42 = .ok (.goto (-24), 3) := by decide +kernel
theorem dX1_parts_45 : decode cX1_parts 45 = .ok (.iload_n 2, 1) := by decide +kernel
theorem dX1_parts_46 : decode cX1_parts 46 = .ok (.ireturn, 1) := by decide +kernel
theorem dX1_best_0 : decode cX1_best 0 = .ok (.aload_n 0, 1) := by decide +kernel
theorem dX1_best_1 : decode cX1_best 1 = .ok (.aload_n 0, 1) := by decide +kernel
theorem dX1_best_2 : decode cX1_best 2 = .ok (.getfield 42, 3) := by decide +kernel
theorem dX1_best_5 : decode cX1_best 5 = .ok (.iconst 0, 1) := by decide +kernel
theorem dX1_best_6 : decode cX1_best 6 = .ok (.invokevirtual 149, 3) := by decide +kernel
theorem dX1_best_9 : decode cX1_best 9 = .ok (.ireturn, 1) := by decide +kernel
theorem dX1_takes_0 : decode cX1_takes 0 = .ok (.aload_n 0, 1) := by decide +kernel
theorem dX1_takes_1 : decode cX1_takes 1 = .ok (.iload_n 1, 1) := by decide +kernel
theorem dX1_takes_2 : decode cX1_takes 2 = .ok (.invokevirtual 64, 3) := by decide +kernel
theorem dX1_takes_5 : decode cX1_takes 5 = .ok (.aload_n 0, 1) := by decide +kernel
theorem dX1_takes_6 : decode cX1_takes 6 = .ok (.iload_n 2, 1) := by decide +kernel
theorem dX1_takes_7 : decode cX1_takes 7 = .ok (.invokevirtual 64, 3) := by decide +kernel
theorem dX1_takes_10 : decode cX1_takes 10 = .ok (.iconst 0, 1) := by decide +kernel
theorem dX1_takes_11 : decode cX1_takes 11 = .ok (.istore_n 3, 1) := by decide +kernel
theorem dX1_takes_12 : decode cX1_takes 12 = .ok (.iload_n 3, 1) := by decide +kernel
theorem dX1_takes_13 : decode cX1_takes 13 = .ok (.aload_n 0, 1) := by decide +kernel
theorem dX1_takes_14 : decode cX1_takes 14 = .ok (.getfield 45, 3) := by decide +kernel
theorem dX1_takes_17 : decode cX1_takes 17 = .ok (.arraylength, 1) := by decide +kernel
theorem dX1_takes_18 : decode cX1_takes 18 = .ok (.if_icmp .ge 23, 3) := by decide +kernel
theorem dX1_takes_21 : decode cX1_takes 21 = .ok (.aload_n 0, 1) := by decide +kernel
theorem dX1_takes_22 : decode cX1_takes 22 = .ok (.getfield 45, 3) := by decide +kernel
theorem dX1_takes_25 : decode cX1_takes 25 = .ok (.iload_n 3, 1) := by decide +kernel
theorem dX1_takes_26 : decode cX1_takes 26 = .ok (.aload_n 0, 1) := by decide +kernel
theorem dX1_takes_27 : decode cX1_takes 27 = .ok (.getfield 21, 3) := by decide +kernel
theorem dX1_takes_30 : decode cX1_takes 30 = .ok (.iload_n 3, 1) := by decide +kernel
theorem dX1_takes_31 : decode cX1_takes 31 = .ok (.invokevirtual 153, 3) := by decide +kernel
theorem dX1_takes_34 : decode cX1_takes 34 = .ok (.bastore, 1) := by decide +kernel
theorem dX1_takes_35 : decode cX1_takes 35 = .ok (.iinc 3 1, 3) := by decide +kernel
theorem dX1_takes_38 : decode cX1_takes 38 = .ok (.goto (-26), 3) := by decide +kernel
theorem dX1_takes_41 : decode cX1_takes 41 = .ok (.iconst 1, 1) := by decide +kernel
theorem dX1_takes_42 : decode cX1_takes 42 = .ok (.istore_n 3, 1) := by decide +kernel
theorem dX1_takes_43 : decode cX1_takes 43 = .ok (.iload_n 2, 1) := by decide +kernel
theorem dX1_takes_44 : decode cX1_takes 44 = .ok (.istore 4, 2) := by decide +kernel
theorem dX1_takes_46 : decode cX1_takes 46 = .ok (.iload 4, 2) := by decide +kernel
theorem dX1_takes_48 : decode cX1_takes 48 = .ok (.iload_n 1, 1) := by decide +kernel
theorem dX1_takes_49 : decode cX1_takes 49 = .ok (.if_icmp .eq 46, 3) := by decide +kernel
theorem dX1_takes_52 : decode cX1_takes 52 = .ok (.iload_n 3, 1) := by decide +kernel
theorem dX1_takes_53 : decode cX1_takes 53 = .ok (.bipush 81, 2) := by decide +kernel
theorem dX1_takes_55 : decode cX1_takes 55 = .ok (.if_icmp .gt 40, 3) := by decide +kernel
theorem dX1_takes_58 : decode cX1_takes 58 = .ok (.aload_n 0, 1) := by decide +kernel
theorem dX1_takes_59 : decode cX1_takes 59 = .ok (.aload_n 0, 1) := by decide +kernel
theorem dX1_takes_60 : decode cX1_takes 60 = .ok (.getfield 45, 3) := by decide +kernel
theorem dX1_takes_63 : decode cX1_takes 63 = .ok (.iload 4, 2) := by decide +kernel
theorem dX1_takes_65 : decode cX1_takes 65 = .ok (.aload_n 0, 1) := by decide +kernel
theorem dX1_takes_66 : decode cX1_takes 66 = .ok (.getfield 21, 3) := by decide +kernel
theorem dX1_takes_69 : decode cX1_takes 69 = .ok (.iload 4, 2) := by decide +kernel
theorem dX1_takes_71 : decode cX1_takes 71 = .ok (.iload_n 1, 1) := by decide +kernel
theorem dX1_takes_72 : decode cX1_takes 72 = .ok (.invokevirtual 77, 3) := by decide +kernel
theorem dX1_takes_75 : decode cX1_takes 75 = .ok (.invokevirtual 156, 3) := by decide +kernel
theorem dX1_takes_78 : decode cX1_takes 78 = .ok (.aload_n 0, 1) := by decide +kernel
theorem dX1_takes_79 : decode cX1_takes 79 = .ok (.aload_n 0, 1) := by decide +kernel
theorem dX1_takes_80 : decode cX1_takes 80 = .ok (.getfield 45, 3) := by decide +kernel
theorem dX1_takes_83 : decode cX1_takes 83 = .ok (.iconst 1, 1) := by decide +kernel
theorem dX1_takes_84 : decode cX1_takes 84 = .ok (.invokevirtual 149, 3) := by decide +kernel
theorem dX1_takes_87 : decode cX1_takes 87 = .ok (.istore 4, 2) := by decide +kernel
theorem dX1_takes_89 : decode cX1_takes 89 = .ok (.iinc 3 1, 3) := by decide +kernel
theorem dX1_takes_92 : decode cX1_takes 92 = .ok (.goto (-46), 3) := by decide +kernel
theorem dX1_takes_95 : decode cX1_takes 95 = .ok (.iload_n 3, 1) := by decide +kernel
theorem dX1_takes_96 : decode cX1_takes 96 = .ok (.ireturn, 1) := by decide +kernel
theorem dX1_mean_0 : decode cX1_mean 0 = .ok (.aload_n 0, 1) := by decide +kernel
theorem dX1_mean_1 : decode cX1_mean 1 = .ok (.getfield 28, 3) := by decide +kernel
theorem dX1_mean_4 : decode cX1_mean 4 = .ok (.ifCond .ne 5, 3) := by decide +kernel
theorem dX1_mean_7 : decode cX1_mean 7 = .ok (.dconst 0, 1) := by decide +kernel
theorem dX1_mean_8 : decode cX1_mean 8 = .ok (.dreturn, 1) := by decide +kernel
theorem dX1_mean_9 : decode cX1_mean 9 = .ok (.iconst 0, 1) := by decide +kernel
theorem dX1_mean_10 : decode cX1_mean 10 = .ok (.istore_n 1, 1) := by decide +kernel
theorem dX1_mean_11 : decode cX1_mean 11 = .ok (.iconst 0, 1) := by decide +kernel
theorem dX1_mean_12 : decode cX1_mean 12 = .ok (.istore_n 2, 1) := by decide +kernel
theorem dX1_mean_13 : decode cX1_mean 13 = .ok (.iload_n 2, 1) := by decide +kernel
theorem dX1_mean_14 : decode cX1_mean 14 = .ok (.aload_n 0, 1) := by decide +kernel
theorem dX1_mean_15 : decode cX1_mean 15 = .ok (.getfield 28, 3) := by decide +kernel
theorem dX1_mean_18 : decode cX1_mean 18 = .ok (.if_icmp .ge 29, 3) := by decide +kernel
theorem dX1_mean_21 : decode cX1_mean 21 = .ok (.iload_n 2, 1) := by decide +kernel
theorem dX1_mean_22 : decode cX1_mean 22 = .ok (.aload_n 0, 1) := by decide +kernel
theorem dX1_mean_23 : decode cX1_mean 23 = .ok (.getfield 35, 3) := by decide +kernel
theorem dX1_mean_26 : decode cX1_mean 26 = .ok (.arraylength, 1) := by decide +kernel
theorem dX1_mean_27 : decode cX1_mean 27 = .ok (.if_icmp .ge 20, 3) := by decide +kernel
theorem dX1_mean_30 : decode cX1_mean 30 = .ok (.iload_n 1, 1) := by decide +kernel
theorem dX1_mean_31 : decode cX1_mean 31 = .ok (.aload_n 0, 1) := by decide +kernel
theorem dX1_mean_32 : decode cX1_mean 32 = .ok (.getfield 35, 3) := by decide +kernel
theorem dX1_mean_35 : decode cX1_mean 35 = .ok (.iload_n 2, 1) := by decide +kernel
theorem dX1_mean_36 : decode cX1_mean 36 = .ok (.iaload, 1) := by decide +kernel
theorem dX1_mean_37 : decode cX1_mean 37 = .ok (.iconst 5, 1) := by decide +kernel
theorem dX1_mean_38 : decode cX1_mean 38 = .ok (.idiv, 1) := by decide +kernel
theorem dX1_mean_39 : decode cX1_mean 39 = .ok (.iadd, 1) := by decide +kernel
theorem dX1_mean_40 : decode cX1_mean 40 = .ok (.istore_n 1, 1) := by decide +kernel
theorem dX1_mean_41 : decode cX1_mean 41 = .ok (.iinc 2 1, 3) := by decide +kernel
theorem dX1_mean_44 : decode cX1_mean 44 = .ok (.goto (-31), 3) := by decide +kernel
theorem dX1_mean_47 : decode cX1_mean 47 = .ok (.iload_n 1, 1) := by decide +kernel
theorem dX1_mean_48 : decode cX1_mean 48 = .ok (.i2d, 1) := by decide +kernel
theorem dX1_mean_49 : decode cX1_mean 49 = .ok (.aload_n 0, 1) := by decide +kernel
theorem dX1_mean_50 : decode cX1_mean 50 = .ok (.getfield 28, 3) := by decide +kernel
theorem dX1_mean_53 : decode cX1_mean 53 = .ok (.i2d, 1) := by decide +kernel
theorem dX1_mean_54 : decode cX1_mean 54 = .ok (.ddiv, 1) := by decide +kernel
theorem dX1_mean_55 : decode cX1_mean 55 = .ok (.dreturn, 1) := by decide +kernel
theorem dX1_digest_0 : decode cX1_digest 0 = .ok (.ldc2_w 160, 3) := by decide +kernel
theorem dX1_digest_3 : decode cX1_digest 3 = .ok (.lstore_n 1, 1) := by decide +kernel
theorem dX1_digest_4 : decode cX1_digest 4 = .ok (.iconst 0, 1) := by decide +kernel
theorem dX1_digest_5 : decode cX1_digest 5 = .ok (.istore_n 3, 1) := by decide +kernel
theorem dX1_digest_6 : decode cX1_digest 6 = .ok (.iload_n 3, 1) := by decide +kernel
theorem dX1_digest_7 : decode cX1_digest 7 = .ok (.bipush 7, 2) := by decide +kernel
theorem dX1_digest_9 : decode cX1_digest 9 = .ok (.if_icmp .ge 19, 3) := by decide +kernel
theorem dX1_digest_12 : decode cX1_digest 12 = .ok (.lload_n 1, 1) := by decide +kernel
theorem dX1_digest_13 : decode cX1_digest 13 = .ok (.aload_n 0, 1) := by decide +kernel
theorem dX1_digest_14 : decode cX1_digest 14 = .ok (.iload_n 3, 1) := by decide +kernel
theorem dX1_digest_15 : decode cX1_digest 15 = .ok (.invokevirtual 162, 3) := by decide +kernel
theorem dX1_digest_18 : decode cX1_digest 18 = .ok (.invokestatic 165, 3) := by decide +kernel
theorem dX1_digest_21 : decode cX1_digest 21 = .ok (.lstore_n 1, 1) := by decide +kernel
theorem dX1_digest_22 : decode cX1_digest 22 = .ok (.iinc 3 1, 3) := by decide +kernel
theorem dX1_digest_25 : decode cX1_digest 25 = .ok (.goto (-19), 3) := by decide +kernel
theorem dX1_digest_28 : decode cX1_digest 28 = .ok (.lload_n 1, 1) := by decide +kernel
theorem dX1_digest_29 : decode cX1_digest 29 = .ok (.aload_n 0, 1) := by decide +kernel
theorem dX1_digest_30 : decode cX1_digest 30 = .ok (.getfield 24, 3) := by decide +kernel
theorem dX1_digest_33 : decode cX1_digest 33 = .ok (.invokestatic 165, 3) := by decide +kernel
theorem dX1_digest_36 : decode cX1_digest 36 = .ok (.lstore_n 1, 1) := by decide +kernel
theorem dX1_digest_37 : decode cX1_digest 37 = .ok (.iconst 0, 1) := by decide +kernel
theorem dX1_digest_38 : decode cX1_digest 38 = .ok (.istore_n 3, 1) := by decide +kernel
theorem dX1_digest_39 : decode cX1_digest 39 = .ok (.iload_n 3, 1) := by decide +kernel
theorem dX1_digest_40 : decode cX1_digest 40 = .ok (.aload_n 0, 1) := by decide +kernel
theorem dX1_digest_41 : decode cX1_digest 41 = .ok (.getfield 28, 3) := by decide +kernel
theorem dX1_digest_44 : decode cX1_digest 44 = .ok (.if_icmp .ge 37, 3) := by decide +kernel
theorem dX1_digest_47 : decode cX1_digest 47 = .ok (.iconst 0, 1) := by decide +kernel
theorem dX1_digest_48 : decode cX1_digest 48 = .ok (.istore 4, 2) := by decide +kernel
theorem dX1_digest_50 : decode cX1_digest 50 = .ok (.iload 4, 2) := by decide +kernel
theorem dX1_digest_52 : decode cX1_digest 52 = .ok (.bipush 6, 2) := by decide +kernel
theorem dX1_digest_54 : decode cX1_digest 54 = .ok (.if_icmp .ge 21, 3) := by decide +kernel
theorem dX1_digest_57 : decode cX1_digest 57 = .ok (.lload_n 1, 1) := by decide +kernel
theorem dX1_digest_58 : decode cX1_digest 58 = .ok (.aload_n 0, 1) := by decide +kernel
theorem dX1_digest_59 : decode cX1_digest 59 = .ok (.iload_n 3, 1) := by decide +kernel
theorem dX1_digest_60 : decode cX1_digest 60 = .ok (.iload 4, 2) := by decide +kernel
theorem dX1_digest_62 : decode cX1_digest 62 = .ok (.invokevirtual 169, 3) := by decide +kernel
theorem dX1_digest_65 : decode cX1_digest 65 = .ok (.invokestatic 165, 3) := by decide +kernel
theorem dX1_digest_68 : decode cX1_digest 68 = .ok (.lstore_n 1, 1) := by decide +kernel
theorem dX1_digest_69 : decode cX1_digest 69 = .ok (.iinc 4 1, 3) := by decide +kernel
theorem dX1_digest_72 : decode cX1_digest 72 = .ok (.goto (-22), 3) := by decide +kernel
theorem dX1_digest_75 : decode cX1_digest 75 = .ok (.iinc 3 1, 3) := by decide +kernel
theorem dX1_digest_78 : decode cX1_digest 78 = .ok (.goto (-39), 3) := by decide +kernel
theorem dX1_digest_81 : decode cX1_digest 81 = .ok (.iconst 0, 1) := by decide +kernel
theorem dX1_digest_82 : decode cX1_digest 82 = .ok (.istore_n 3, 1) := by decide +kernel
theorem dX1_digest_83 : decode cX1_digest 83 = .ok (.iload_n 3, 1) := by decide +kernel
theorem dX1_digest_84 : decode cX1_digest 84 = .ok (.iconst 4, 1) := by decide +kernel
theorem dX1_digest_85 : decode cX1_digest 85 = .ok (.if_icmp .ge 52, 3) := by decide +kernel
theorem dX1_digest_88 : decode cX1_digest 88 = .ok (.lload_n 1, 1) := by decide +kernel
theorem dX1_digest_89 : decode cX1_digest 89 = .ok (.aload_n 0, 1) := by decide +kernel
theorem dX1_digest_90 : decode cX1_digest 90 = .ok (.iload_n 3, 1) := by decide +kernel
theorem dX1_digest_91 : decode cX1_digest 91 = .ok (.invokevirtual 172, 3) := by decide +kernel
theorem dX1_digest_94 : decode cX1_digest 94 = .ok (.invokestatic 165, 3) := by decide +kernel
theorem dX1_digest_97 : decode cX1_digest 97 = .ok (.lstore_n 1, 1) := by decide +kernel
theorem dX1_digest_98 : decode cX1_digest 98 = .ok (.iconst 0, 1) := by decide +kernel
theorem dX1_digest_99 : decode cX1_digest 99 = .ok (.istore 4, 2) := by decide +kernel
theorem dX1_digest_101 : decode cX1_digest 101 = .ok (.iload 4, 2) := by decide +kernel
theorem dX1_digest_103 : decode cX1_digest 103 = .ok (.aload_n 0, 1) := by decide +kernel
theorem dX1_digest_104 : decode cX1_digest 104 = .ok (.getfield 21, 3) := by decide +kernel
theorem dX1_digest_107 : decode cX1_digest 107 = .ok (.getfield 61, 3) := by decide +kernel
theorem dX1_digest_110 : decode cX1_digest 110 = .ok (.if_icmp .ge 21, 3) := by decide +kernel
theorem dX1_digest_113 : decode cX1_digest 113 = .ok (.lload_n 1, 1) := by decide +kernel
theorem dX1_digest_114 : decode cX1_digest 114 = .ok (.aload_n 0, 1) := by decide +kernel
theorem dX1_digest_115 : decode cX1_digest 115 = .ok (.iload_n 3, 1) := by decide +kernel
theorem dX1_digest_116 : decode cX1_digest 116 = .ok (.iload 4, 2) := by decide +kernel
theorem dX1_digest_118 : decode cX1_digest 118 = .ok (.invokevirtual 175, 3) := by decide +kernel
theorem dX1_digest_121 : decode cX1_digest 121 = .ok (.invokestatic 165, 3) := by decide +kernel
theorem dX1_digest_124 : decode cX1_digest 124 = .ok (.lstore_n 1, 1) := by decide +kernel
theorem dX1_digest_125 : decode cX1_digest 125 = .ok (.iinc 4 1, 3) := by decide +kernel
theorem dX1_digest_128 : decode cX1_digest 128 = .ok (.goto (-27), 3) := by decide +kernel
theorem dX1_digest_131 : decode cX1_digest 131 = .ok (.iinc 3 1, 3) := by decide +kernel
theorem dX1_digest_134 : decode cX1_digest 134 = .ok (.goto (-51), 3) := by decide +kernel
theorem dX1_digest_137 : decode cX1_digest 137 = .ok (.iconst 0, 1) := by decide +kernel
theorem dX1_digest_138 : decode cX1_digest 138 = .ok (.istore_n 3, 1) := by decide +kernel
theorem dX1_digest_139 : decode cX1_digest 139 = .ok (.iload_n 3, 1) := by decide +kernel
theorem dX1_digest_140 : decode cX1_digest 140 = .ok (.aload_n 0, 1) := by decide +kernel
theorem dX1_digest_141 : decode cX1_digest 141 = .ok (.getfield 42, 3) := by decide +kernel
theorem dX1_digest_144 : decode cX1_digest 144 = .ok (.arraylength, 1) := by decide +kernel
theorem dX1_digest_145 : decode cX1_digest 145 = .ok (.if_icmp .ge 24, 3) := by decide +kernel
theorem dX1_digest_148 : decode cX1_digest 148 = .ok (.aload_n 0, 1) := by decide +kernel
theorem dX1_digest_149 : decode cX1_digest 149 = .ok (.getfield 42, 3) := by decide +kernel
theorem dX1_digest_152 : decode cX1_digest 152 = .ok (.iload_n 3, 1) := by decide +kernel
theorem dX1_digest_153 : decode cX1_digest 153 = .ok (.baload, 1) := by decide +kernel
theorem dX1_digest_154 : decode cX1_digest 154 = .ok (.ifCond .eq 9, 3) := by decide +kernel
theorem dX1_digest_157 : decode cX1_digest 157 = .ok (.lload_n 1, 1) := by decide +kernel
theorem dX1_digest_158 : decode cX1_digest 158 = .ok (.iload_n 3, 1) := by decide +kernel
theorem dX1_digest_159 : decode cX1_digest 159 = .ok (.invokestatic 165, 3) := by decide +kernel
theorem dX1_digest_162 : decode cX1_digest 162 = .ok (.lstore_n 1, 1) := by decide +kernel
theorem dX1_digest_163 : decode cX1_digest 163 = .ok (.iinc 3 1, 3) := by decide +kernel
theorem dX1_digest_166 : decode cX1_digest 166 = .ok (.goto (-27), 3) := by decide +kernel
theorem dX1_digest_169 : decode cX1_digest 169 = .ok (.lload_n 1, 1) := by decide +kernel
theorem dX1_digest_170 : decode cX1_digest 170 = .ok (.lreturn, 1) := by decide +kernel
theorem dX1_mix_0 : decode cX1_mix 0 = .ok (.lload_n 0, 1) := by decide +kernel
theorem dX1_mix_1 : decode cX1_mix 1 = .ok (.ldc2_w 178, 3) := by decide +kernel
theorem dX1_mix_4 : decode cX1_mix 4 = .ok (.lmul, 1) := by decide +kernel
theorem dX1_mix_5 : decode cX1_mix 5 = .ok (.iload_n 2, 1) := by decide +kernel
theorem dX1_mix_6 : decode cX1_mix 6 = .ok (.i2l, 1) := by decide +kernel
theorem dX1_mix_7 : decode cX1_mix 7 = .ok (.ladd, 1) := by decide +kernel
theorem dX1_mix_8 : decode cX1_mix 8 = .ok (.lreturn, 1) := by decide +kernel
theorem dX1_needCode_0 : decode cX1_needCode 0 = .ok (.aload_n 0, 1) := by decide +kernel
theorem dX1_needCode_1 : decode cX1_needCode 1 = .ok (.getfield 21, 3) := by decide +kernel
theorem dX1_needCode_4 : decode cX1_needCode 4 = .ok (.iload_n 1, 1) := by decide +kernel
theorem dX1_needCode_5 : decode cX1_needCode 5 = .ok (.invokevirtual 153, 3) := by decide +kernel
theorem dX1_needCode_8 : decode cX1_needCode 8 = .ok (.ifCond .ne 13, 3) := by decide +kernel
theorem dX1_needCode_11 : decode cX1_needCode 11 = .ok (.new 95, 3) := by decide +kernel
theorem dX1_needCode_14 : decode cX1_needCode 14 = .ok (.dup, 1) := by decide +kernel
theorem dX1_needCode_15 : decode cX1_needCode 15 = .ok (.ldc 180, 2) := by decide +kernel
theorem dX1_needCode_17 : decode cX1_needCode 17 = .ok (.invokespecial 99, 3) := by decide +kernel
theorem dX1_needCode_20 : decode cX1_needCode 20 = .ok (.athrow, 1) := by decide +kernel
theorem dX1_needCode_21 : decode cX1_needCode 21 = .ok (.return_, 1) := by decide +kernel
theorem dX1_needPlace_0 : decode cX1_needPlace 0 = .ok (.iload_n 0, 1) := by decide +kernel
theorem dX1_needPlace_1 : decode cX1_needPlace 1 = .ok (.ifCond .lt 8, 3) := by decide +kernel
theorem dX1_needPlace_4 : decode cX1_needPlace 4 = .ok (.iload_n 0, 1) := by decide +kernel
theorem dX1_needPlace_5 : decode cX1_needPlace 5 = .ok (.iconst 4, 1) := by decide +kernel
theorem dX1_needPlace_6 : decode cX1_needPlace 6 = .ok (.if_icmp .lt 13, 3) := by decide +kernel
theorem dX1_needPlace_9 : decode cX1_needPlace 9 = .ok (.new 95, 3) := by decide +kernel
theorem dX1_needPlace_12 : decode cX1_needPlace 12 = .ok (.dup, 1) := by decide +kernel
theorem dX1_needPlace_13 : decode cX1_needPlace 13 = .ok (.ldc 182, 2) := by decide +kernel
theorem dX1_needPlace_15 : decode cX1_needPlace 15 = .ok (.invokespecial 99, 3) := by decide +kernel
theorem dX1_needPlace_18 : decode cX1_needPlace 18 = .ok (.athrow, 1) := by decide +kernel
theorem dX1_needPlace_19 : decode cX1_needPlace 19 = .ok (.return_, 1) := by decide +kernel
theorem dX1_needHidden_0 : decode cX1_needHidden 0 = .ok (.aload_n 0, 1) := by decide +kernel
theorem dX1_needHidden_1 : decode cX1_needHidden 1 = .ok (.getfield 24, 3) := by decide +kernel
theorem dX1_needHidden_4 : decode cX1_needHidden 4 = .ok (.iconst (-1), 1) := by decide +kernel
theorem dX1_needHidden_5 : decode cX1_needHidden 5 = .ok (.if_icmp .ne 13, 3) := by decide +kernel
theorem dX1_needHidden_8 : decode cX1_needHidden 8 = .ok (.new 100, 3) := by decide +kernel
theorem dX1_needHidden_11 : decode cX1_needHidden 11 = .ok (.dup, 1) := by decide +kernel
theorem dX1_needHidden_12 : decode cX1_needHidden 12 = .ok (.ldc 184, 2) := by decide +kernel
theorem dX1_needHidden_14 : decode cX1_needHidden 14 = .ok (.invokespecial 104, 3) := by decide +kernel
theorem dX1_needHidden_17 : decode cX1_needHidden 17 = .ok (.athrow, 1) := by decide +kernel
theorem dX1_needHidden_18 : decode cX1_needHidden 18 = .ok (.return_, 1) := by decide +kernel
theorem dX1_needPins_0 : decode cX1_needPins 0 = .ok (.iload_n 0, 1) := by decide +kernel
theorem dX1_needPins_1 : decode cX1_needPins 1 = .ok (.ifCond .lt 14, 3) := by decide +kernel
theorem dX1_needPins_4 : decode cX1_needPins 4 = .ok (.iload_n 1, 1) := by decide +kernel
theorem dX1_needPins_5 : decode cX1_needPins 5 = .ok (.ifCond .lt 10, 3) := by decide +kernel
theorem dX1_needPins_8 : decode cX1_needPins 8 = .ok (.iload_n 1, 1) := by decide +kernel
theorem dX1_needPins_9 : decode cX1_needPins 9 = .ok (.iconst 4, 1) := by decide +kernel
theorem dX1_needPins_10 : decode cX1_needPins 10 = .ok (.iload_n 0, 1) := by decide +kernel
theorem dX1_needPins_11 : decode cX1_needPins 11 = .ok (.isub, 1) := by decide +kernel
theorem dX1_needPins_12 : decode cX1_needPins 12 = .ok (.if_icmp .le 13, 3) := by decide +kernel
theorem dX1_needPins_15 : decode cX1_needPins 15 = .ok (.new 54, 3) := by decide +kernel
theorem dX1_needPins_18 : decode cX1_needPins 18 = .ok (.dup, 1) := by decide +kernel
theorem dX1_needPins_19 : decode cX1_needPins 19 = .ok (.ldc 186, 2) := by decide +kernel
theorem dX1_needPins_21 : decode cX1_needPins 21 = .ok (.invokespecial 58, 3) := by decide +kernel
theorem dX1_needPins_24 : decode cX1_needPins 24 = .ok (.athrow, 1) := by decide +kernel
theorem dX1_needPins_25 : decode cX1_needPins 25 = .ok (.iload_n 0, 1) := by decide +kernel
theorem dX1_needPins_26 : decode cX1_needPins 26 = .ok (.iconst 3, 1) := by decide +kernel
theorem dX1_needPins_27 : decode cX1_needPins 27 = .ok (.if_icmp .ne 18, 3) := by decide +kernel
theorem dX1_needPins_30 : decode cX1_needPins 30 = .ok (.iload_n 1, 1) := by decide +kernel
theorem dX1_needPins_31 : decode cX1_needPins 31 = .ok (.iconst 1, 1) := by decide +kernel
theorem dX1_needPins_32 : decode cX1_needPins 32 = .ok (.if_icmp .ne 13, 3) := by decide +kernel
theorem dX1_needPins_35 : decode cX1_needPins 35 = .ok (.new 54, 3) := by decide +kernel
theorem dX1_needPins_38 : decode cX1_needPins 38 = .ok (.dup, 1) := by decide +kernel
theorem dX1_needPins_39 : decode cX1_needPins 39 = .ok (.ldc 188, 2) := by decide +kernel
theorem dX1_needPins_41 : decode cX1_needPins 41 = .ok (.invokespecial 58, 3) := by decide +kernel
theorem dX1_needPins_44 : decode cX1_needPins 44 = .ok (.athrow, 1) := by decide +kernel
theorem dX1_needPins_45 : decode cX1_needPins 45 = .ok (.return_, 1) := by decide +kernel
theorem dX1_hasGuess_0 : decode cX1_hasGuess 0 = .ok (.iload_n 1, 1) := by decide +kernel
theorem dX1_hasGuess_1 : decode cX1_hasGuess 1 = .ok (.ifCond .lt 21, 3) := by decide +kernel
theorem dX1_hasGuess_4 : decode cX1_hasGuess 4 = .ok (.iload_n 1, 1) := by decide +kernel
theorem dX1_hasGuess_5 : decode cX1_hasGuess 5 = .ok (.aload_n 0, 1) := by decide +kernel
theorem dX1_hasGuess_6 : decode cX1_hasGuess 6 = .ok (.getfield 28, 3) := by decide +kernel
theorem dX1_hasGuess_9 : decode cX1_hasGuess 9 = .ok (.if_icmp .ge 13, 3) := by decide +kernel
theorem dX1_hasGuess_12 : decode cX1_hasGuess 12 = .ok (.iload_n 1, 1) := by decide +kernel
theorem dX1_hasGuess_13 : decode cX1_hasGuess 13 = .ok (.bipush 12, 2) := by decide +kernel
theorem dX1_hasGuess_15 : decode cX1_hasGuess 15 = .ok (.if_icmp .ge 7, 3) := by decide +kernel
theorem dX1_hasGuess_18 : decode cX1_hasGuess 18 = .ok (.iconst 1, 1) := by decide +kernel
theorem dX1_hasGuess_19 : decode cX1_hasGuess 19 = .ok (.goto 4, 3) := by decide +kernel
theorem dX1_hasGuess_22 : decode cX1_hasGuess 22 = .ok (.iconst 0, 1) := by decide +kernel
theorem dX1_hasGuess_23 : decode cX1_hasGuess 23 = .ok (.ireturn, 1) := by decide +kernel
theorem dX1_append_0 : decode cX1_append 0 = .ok (.aload_n 0, 1) := by decide +kernel
theorem dX1_append_1 : decode cX1_append 1 = .ok (.getfield 28, 3) := by decide +kernel
theorem dX1_append_4 : decode cX1_append 4 = .ok (.istore_n 3, 1) := by decide +kernel
theorem dX1_append_5 : decode cX1_append 5 = .ok (.iload_n 3, 1) := by decide +kernel
theorem dX1_append_6 : decode cX1_append 6 = .ok (.ifCond .lt 9, 3) := by decide +kernel
theorem dX1_append_9 : decode cX1_append 9 = .ok (.iload_n 3, 1) := by decide +kernel
theorem dX1_append_10 : decode cX1_append 10 = .ok (.bipush 12, 2) := by decide +kernel
theorem dX1_append_12 : decode cX1_append 12 = .ok (.if_icmp .lt 13, 3) := by decide +kernel
theorem dX1_append_15 : decode cX1_append 15 = .ok (.new 100, 3) := by decide +kernel
theorem dX1_append_18 : decode cX1_append 18 = .ok (.dup, 1) := by decide +kernel
theorem dX1_append_19 : decode cX1_append 19 = .ok (.ldc 190, 2) := by decide +kernel
theorem dX1_append_21 : decode cX1_append 21 = .ok (.invokespecial 104, 3) := by decide +kernel
theorem dX1_append_24 : decode cX1_append 24 = .ok (.athrow, 1) := by decide +kernel
theorem dX1_append_25 : decode cX1_append 25 = .ok (.aload_n 0, 1) := by decide +kernel
theorem dX1_append_26 : decode cX1_append 26 = .ok (.getfield 31, 3) := by decide +kernel
theorem dX1_append_29 : decode cX1_append 29 = .ok (.iload_n 3, 1) := by decide +kernel
theorem dX1_append_30 : decode cX1_append 30 = .ok (.iload_n 1, 1) := by decide +kernel
theorem dX1_append_31 : decode cX1_append 31 = .ok (.iastore, 1) := by decide +kernel
theorem dX1_append_32 : decode cX1_append 32 = .ok (.aload_n 0, 1) := by decide +kernel
theorem dX1_append_33 : decode cX1_append 33 = .ok (.getfield 35, 3) := by decide +kernel
theorem dX1_append_36 : decode cX1_append 36 = .ok (.iload_n 3, 1) := by decide +kernel
theorem dX1_append_37 : decode cX1_append 37 = .ok (.iload_n 2, 1) := by decide +kernel
theorem dX1_append_38 : decode cX1_append 38 = .ok (.iastore, 1) := by decide +kernel
theorem dX1_append_39 : decode cX1_append 39 = .ok (.aload_n 0, 1) := by decide +kernel
theorem dX1_append_40 : decode cX1_append 40 = .ok (.getfield 38, 3) := by decide +kernel
theorem dX1_append_43 : decode cX1_append 43 = .ok (.iload_n 3, 1) := by decide +kernel
theorem dX1_append_44 : decode cX1_append 44 = .ok (.iconst 0, 1) := by decide +kernel
theorem dX1_append_45 : decode cX1_append 45 = .ok (.bastore, 1) := by decide +kernel
theorem dX1_append_46 : decode cX1_append 46 = .ok (.aload_n 0, 1) := by decide +kernel
theorem dX1_append_47 : decode cX1_append 47 = .ok (.iload_n 3, 1) := by decide +kernel
theorem dX1_append_48 : decode cX1_append 48 = .ok (.iconst 1, 1) := by decide +kernel
theorem dX1_append_49 : decode cX1_append 49 = .ok (.iadd, 1) := by decide +kernel
theorem dX1_append_50 : decode cX1_append 50 = .ok (.putfield 28, 3) := by decide +kernel
theorem dX1_append_53 : decode cX1_append 53 = .ok (.aload_n 0, 1) := by decide +kernel
theorem dX1_append_54 : decode cX1_append 54 = .ok (.invokevirtual 51, 3) := by decide +kernel
theorem dX1_append_57 : decode cX1_append 57 = .ok (.return_, 1) := by decide +kernel
theorem dX1_sieve_0 : decode cX1_sieve 0 = .ok (.iconst 0, 1) := by decide +kernel
theorem dX1_sieve_1 : decode cX1_sieve 1 = .ok (.istore_n 1, 1) := by decide +kernel
theorem dX1_sieve_2 : decode cX1_sieve 2 = .ok (.iload_n 1, 1) := by decide +kernel
theorem dX1_sieve_3 : decode cX1_sieve 3 = .ok (.aload_n 0, 1) := by decide +kernel
theorem dX1_sieve_4 : decode cX1_sieve 4 = .ok (.getfield 42, 3) := by decide +kernel
theorem dX1_sieve_7 : decode cX1_sieve 7 = .ok (.arraylength, 1) := by decide +kernel
theorem dX1_sieve_8 : decode cX1_sieve 8 = .ok (.if_icmp .ge 43, 3) := by decide +kernel
theorem dX1_sieve_11 : decode cX1_sieve 11 = .ok (.aload_n 0, 1) := by decide +kernel
theorem dX1_sieve_12 : decode cX1_sieve 12 = .ok (.getfield 42, 3) := by decide +kernel
theorem dX1_sieve_15 : decode cX1_sieve 15 = .ok (.iload_n 1, 1) := by decide +kernel
theorem dX1_sieve_16 : decode cX1_sieve 16 = .ok (.aload_n 0, 1) := by decide +kernel
theorem dX1_sieve_17 : decode cX1_sieve 17 = .ok (.getfield 21, 3) := by decide +kernel
theorem dX1_sieve_20 : decode cX1_sieve 20 = .ok (.iload_n 1, 1) := by decide +kernel
theorem dX1_sieve_21 : decode cX1_sieve 21 = .ok (.invokevirtual 153, 3) := by decide +kernel
theorem dX1_sieve_24 : decode cX1_sieve 24 = .ok (.ifCond .eq 19, 3) := by decide +kernel
theorem dX1_sieve_27 : decode cX1_sieve 27 = .ok (.aload_n 0, 1) := by decide +kernel
theorem dX1_sieve_28 : decode cX1_sieve 28 = .ok (.iload_n 1, 1) := by decide +kernel
theorem dX1_sieve_29 : decode cX1_sieve 29 = .ok (.aload_n 0, 1) := by decide +kernel
theorem dX1_sieve_30 : decode cX1_sieve 30 = .ok (.getfield 28, 3) := by decide +kernel
theorem dX1_sieve_33 : decode cX1_sieve 33 = .ok (.invokevirtual 192, 3) := by decide +kernel
theorem dX1_sieve_36 : decode cX1_sieve 36 = .ok (.ifCond .eq 7, 3) := by decide +kernel
theorem dX1_sieve_39 : decode cX1_sieve 39 = .ok (.iconst 1, 1) := by decide +kernel
theorem dX1_sieve_40 : decode cX1_sieve 40 = .ok (.goto 4, 3) := by decide +kernel
theorem dX1_sieve_43 : decode cX1_sieve 43 = .ok (.iconst 0, 1) := by decide +kernel
theorem dX1_sieve_44 : decode cX1_sieve 44 = .ok (.bastore, 1) := by decide +kernel
theorem dX1_sieve_45 : decode cX1_sieve 45 = .ok (.iinc 1 1, 3) := by decide +kernel
theorem dX1_sieve_48 : decode cX1_sieve 48 = .ok (.goto (-46), 3) := by decide +kernel
theorem dX1_sieve_51 : decode cX1_sieve 51 = .ok (.return_, 1) := by decide +kernel
theorem dX1_fits_0 : decode cX1_fits 0 = .ok (.iconst 0, 1) := by decide +kernel
theorem dX1_fits_1 : decode cX1_fits 1 = .ok (.istore_n 3, 1) := by decide +kernel
theorem dX1_fits_2 : decode cX1_fits 2 = .ok (.iload_n 3, 1) := by decide +kernel
theorem dX1_fits_3 : decode cX1_fits 3 = .ok (.iload_n 2, 1) := by decide +kernel
theorem dX1_fits_4 : decode cX1_fits 4 = .ok (.if_icmp .ge 49, 3) := by decide +kernel
theorem dX1_fits_7 : decode cX1_fits 7 = .ok (.iload_n 3, 1) := by decide +kernel
theorem dX1_fits_8 : decode cX1_fits 8 = .ok (.bipush 12, 2) := by decide +kernel
theorem dX1_fits_10 : decode cX1_fits 10 = .ok (.if_icmp .ge 43, 3) := by decide +kernel
theorem dX1_fits_13 : decode cX1_fits 13 = .ok (.aload_n 0, 1) := by decide +kernel
theorem dX1_fits_14 : decode cX1_fits 14 = .ok (.getfield 38, 3) := by decide +kernel
theorem dX1_fits_17 : decode cX1_fits 17 = .ok (.iload_n 3, 1) := by decide +kernel
theorem dX1_fits_18 : decode cX1_fits 18 = .ok (.baload, 1) := by decide +kernel
theorem dX1_fits_19 : decode cX1_fits 19 = .ok (.ifCond .ne 28, 3) := by decide +kernel
theorem dX1_fits_22 : decode cX1_fits 22 = .ok (.aload_n 0, 1) := by decide +kernel
theorem dX1_fits_23 : decode cX1_fits 23 = .ok (.getfield 21, 3) := by decide +kernel
theorem dX1_fits_26 : decode cX1_fits 26 = .ok (.aload_n 0, 1) := by decide +kernel
theorem dX1_fits_27 : decode cX1_fits 27 = .ok (.getfield 31, 3) := by decide +kernel
theorem dX1_fits_30 : decode cX1_fits 30 = .ok (.iload_n 3, 1) := by decide +kernel
theorem dX1_fits_31 : decode cX1_fits 31 = .ok (.iaload, 1) := by decide +kernel
theorem dX1_fits_32 : decode cX1_fits 32 = .ok (.iload_n 1, 1) := by decide +kernel
theorem dX1_fits_33 : decode cX1_fits 33 = .ok (.invokevirtual 77, 3) := by decide +kernel
theorem dX1_fits_36 : decode cX1_fits 36 = .ok (.aload_n 0, 1) := by decide +kernel
theorem dX1_fits_37 : decode cX1_fits 37 = .ok (.getfield 35, 3) := by decide +kernel
theorem dX1_fits_40 : decode cX1_fits 40 = .ok (.iload_n 3, 1) := by decide +kernel
theorem dX1_fits_41 : decode cX1_fits 41 = .ok (.iaload, 1) := by decide +kernel
theorem dX1_fits_42 : decode cX1_fits 42 = .ok (.if_icmp .eq 5, 3) := by decide +kernel
theorem dX1_fits_45 : decode cX1_fits 45 = .ok (.iconst 0, 1) := by decide +kernel
theorem dX1_fits_46 : decode cX1_fits 46 = .ok (.ireturn, 1) := by decide +kernel
theorem dX1_fits_47 : decode cX1_fits 47 = .ok (.iinc 3 1, 3) := by decide +kernel
theorem dX1_fits_50 : decode cX1_fits 50 = .ok (.goto (-48), 3) := by decide +kernel
theorem dX1_fits_53 : decode cX1_fits 53 = .ok (.iconst 1, 1) := by decide +kernel
theorem dX1_fits_54 : decode cX1_fits 54 = .ok (.ireturn, 1) := by decide +kernel
theorem dX1_countFitting_0 : decode cX1_countFitting 0 = .ok (.iconst 0, 1) := by decide +kernel
theorem dX1_countFitting_1 : decode cX1_countFitting 1 = .ok (.istore_n 2, 1) := by decide +kernel
theorem dX1_countFitting_2 : decode cX1_countFitting 2 = .ok (.iconst 0, 1) := by decide +kernel
theorem dX1_countFitting_3 : decode cX1_countFitting 3 = .ok (.istore_n 3, 1) := by decide +kernel
theorem dX1_countFitting_4 : decode cX1_countFitting 4 = .ok (.iload_n 3, 1) := by decide +kernel
theorem dX1_countFitting_5 : decode cX1_countFitting 5 = .ok (.aload_n 0, 1) := by decide +kernel
theorem dX1_countFitting_6 : decode cX1_countFitting 6 = .ok (.getfield 21, 3) := by decide +kernel
theorem dX1_countFitting_9 : decode cX1_countFitting 9 = .ok (.getfield 114, 3) := by decide +kernel
theorem dX1_countFitting_12 : decode cX1_countFitting 12 = .ok (.if_icmp .ge 21, 3) := by decide +kernel
theorem dX1_countFitting_15 : decode cX1_countFitting 15 = .ok (.aload_n 0, 1) := by decide +kernel
theorem dX1_countFitting_16 : decode cX1_countFitting 16 = .ok (.iload_n 3, 1) := by decide +kernel
theorem dX1_countFitting_17 : decode cX1_countFitting 17 = .ok (.iload_n 1, 1) := by decide +kernel
theorem dX1_countFitting_18 : decode cX1_countFitting 18 = .ok (.invokevirtual 192, 3) := by decide +kernel
theorem dX1_countFitting_21 : decode cX1_countFitting 21 = .ok (.ifCond .eq 6, 3) := by decide +kernel
theorem dX1_countFitting_24 : decode cX1_countFitting 24 = .ok (.iinc 2 1, 3) := by decide +kernel
theorem dX1_countFitting_27 : decode cX1_countFitting 27 = .ok (.iinc 3 1, 3) := by decide +kernel
theorem dX1_countFitting_30 : decode cX1_countFitting 30 = .ok (.goto (-26), 3) := by decide +kernel
theorem dX1_countFitting_33 : decode cX1_countFitting 33 = .ok (.iload_n 2, 1) := by decide +kernel
theorem dX1_countFitting_34 : decode cX1_countFitting 34 = .ok (.ireturn, 1) := by decide +kernel
theorem dX1_countAnswering_0 : decode cX1_countAnswering 0 = .ok (.iconst 0, 1) := by decide +kernel
theorem dX1_countAnswering_1 : decode cX1_countAnswering 1 = .ok (.istore_n 3, 1) := by decide +kernel
theorem dX1_countAnswering_2 : decode cX1_countAnswering 2 = .ok (.iconst 0, 1) := by decide +kernel
theorem dX1_countAnswering_3 : decode cX1_countAnswering 3 = .ok (.istore 4, 2) := by decide +kernel
theorem dX1_countAnswering_5 : decode cX1_countAnswering 5 = .ok (.iload 4, 2) := by decide +kernel
theorem dX1_countAnswering_7 : decode cX1_countAnswering 7 = .ok (.aload_n 0, 1) := by decide +kernel
theorem dX1_countAnswering_8 : decode cX1_countAnswering 8 = .ok (.getfield 21, 3) := by decide +kernel
theorem dX1_countAnswering_11 : decode cX1_countAnswering 11 = .ok (.getfield 114, 3) := by decide +kernel
theorem dX1_countAnswering_14 : decode cX1_countAnswering 14 = .ok (.if_icmp .ge 26, 3) := by decide +kernel
theorem dX1_countAnswering_17 : decode cX1_countAnswering 17 = .ok (.aload_n 0, 1) := by decide +kernel
theorem dX1_countAnswering_18 : decode cX1_countAnswering 18 = .ok (.getfield 21, 3) := by decide +kernel
theorem dX1_countAnswering_21 : decode cX1_countAnswering 21 = .ok (.iload_n 1, 1) := by decide +kernel
theorem dX1_countAnswering_22 : decode cX1_countAnswering 22 = .ok (.iload 4, 2) := by decide +kernel
theorem dX1_countAnswering_24 : decode cX1_countAnswering 24 = .ok (.invokevirtual 77, 3) := by decide +kernel
theorem dX1_countAnswering_27 : decode cX1_countAnswering 27 = .ok (.iload_n 2, 1) := by decide +kernel
theorem dX1_countAnswering_28 : decode cX1_countAnswering 28 = .ok (.if_icmp .ne 6, 3) := by decide +kernel
theorem dX1_countAnswering_31 : decode cX1_countAnswering 31 = .ok (.iinc 3 1, 3) := by decide +kernel
theorem dX1_countAnswering_34 : decode cX1_countAnswering 34 = .ok (.iinc 4 1, 3) := by decide +kernel
theorem dX1_countAnswering_37 : decode cX1_countAnswering 37 = .ok (.goto (-32), 3) := by decide +kernel
theorem dX1_countAnswering_40 : decode cX1_countAnswering 40 = .ok (.iload_n 3, 1) := by decide +kernel
theorem dX1_countAnswering_41 : decode cX1_countAnswering 41 = .ok (.ireturn, 1) := by decide +kernel
theorem dX1_countAllBlack_0 : decode cX1_countAllBlack 0 = .ok (.iconst 0, 1) := by decide +kernel
theorem dX1_countAllBlack_1 : decode cX1_countAllBlack 1 = .ok (.istore_n 1, 1) := by decide +kernel
theorem dX1_countAllBlack_2 : decode cX1_countAllBlack 2 = .ok (.iconst 0, 1) := by decide +kernel
theorem dX1_countAllBlack_3 : decode cX1_countAllBlack 3 = .ok (.istore_n 2, 1) := by decide +kernel
theorem dX1_countAllBlack_4 : decode cX1_countAllBlack 4 = .ok (.iload_n 2, 1) := by decide +kernel
theorem dX1_countAllBlack_5 : decode cX1_countAllBlack 5 = .ok (.aload_n 0, 1) := by decide +kernel
theorem dX1_countAllBlack_6 : decode cX1_countAllBlack 6 = .ok (.getfield 28, 3) := by decide +kernel
theorem dX1_countAllBlack_9 : decode cX1_countAllBlack 9 = .ok (.if_icmp .ge 32, 3) := by decide +kernel
theorem dX1_countAllBlack_12 : decode cX1_countAllBlack 12 = .ok (.iload_n 2, 1) := by decide +kernel
theorem dX1_countAllBlack_13 : decode cX1_countAllBlack 13 = .ok (.aload_n 0, 1) := by decide +kernel
theorem dX1_countAllBlack_14 : decode cX1_countAllBlack 14 = .ok (.getfield 35, 3) := by decide +kernel
theorem dX1_countAllBlack_17 : decode cX1_countAllBlack 17 = .ok (.arraylength, 1) := by decide +kernel
theorem dX1_countAllBlack_18 : decode cX1_countAllBlack 18 = .ok (.if_icmp .ge 23, 3) := by decide +kernel
theorem dX1_countAllBlack_21 : decode cX1_countAllBlack 21 = .ok (.aload_n 0, 1) := by decide +kernel
theorem dX1_countAllBlack_22 : decode cX1_countAllBlack 22 = .ok (.getfield 35, 3) := by decide +kernel
theorem dX1_countAllBlack_25 : decode cX1_countAllBlack 25 = .ok (.iload_n 2, 1) := by decide +kernel
theorem dX1_countAllBlack_26 : decode cX1_countAllBlack 26 = .ok (.iaload, 1) := by decide +kernel
theorem dX1_countAllBlack_27 : decode cX1_countAllBlack 27 = .ok (.bipush 20, 2) := by decide +kernel
theorem dX1_countAllBlack_29 : decode cX1_countAllBlack 29 = .ok (.if_icmp .ne 6, 3) := by decide +kernel
theorem dX1_countAllBlack_32 : decode cX1_countAllBlack 32 = .ok (.iinc 1 1, 3) := by decide +kernel
theorem dX1_countAllBlack_35 : decode cX1_countAllBlack 35 = .ok (.iinc 2 1, 3) := by decide +kernel
theorem dX1_countAllBlack_38 : decode cX1_countAllBlack 38 = .ok (.goto (-34), 3) := by decide +kernel
theorem dX1_countAllBlack_41 : decode cX1_countAllBlack 41 = .ok (.iload_n 1, 1) := by decide +kernel
theorem dX1_countAllBlack_42 : decode cX1_countAllBlack 42 = .ok (.ireturn, 1) := by decide +kernel
theorem dX1_countDoubted_0 : decode cX1_countDoubted 0 = .ok (.iconst 0, 1) := by decide +kernel
theorem dX1_countDoubted_1 : decode cX1_countDoubted 1 = .ok (.istore_n 1, 1) := by decide +kernel
theorem dX1_countDoubted_2 : decode cX1_countDoubted 2 = .ok (.iconst 0, 1) := by decide +kernel
theorem dX1_countDoubted_3 : decode cX1_countDoubted 3 = .ok (.istore_n 2, 1) := by decide +kernel
theorem dX1_countDoubted_4 : decode cX1_countDoubted 4 = .ok (.iload_n 2, 1) := by decide +kernel
theorem dX1_countDoubted_5 : decode cX1_countDoubted 5 = .ok (.aload_n 0, 1) := by decide +kernel
theorem dX1_countDoubted_6 : decode cX1_countDoubted 6 = .ok (.getfield 28, 3) := by decide +kernel
theorem dX1_countDoubted_9 : decode cX1_countDoubted 9 = .ok (.if_icmp .ge 30, 3) := by decide +kernel
theorem dX1_countDoubted_12 : decode cX1_countDoubted 12 = .ok (.iload_n 2, 1) := by decide +kernel
theorem dX1_countDoubted_13 : decode cX1_countDoubted 13 = .ok (.aload_n 0, 1) := by decide +kernel
theorem dX1_countDoubted_14 : decode cX1_countDoubted 14 = .ok (.getfield 38, 3) := by decide +kernel
theorem dX1_countDoubted_17 : decode cX1_countDoubted 17 = .ok (.arraylength, 1) := by decide +kernel
theorem dX1_countDoubted_18 : decode cX1_countDoubted 18 = .ok (.if_icmp .ge 21, 3) := by decide +kernel
theorem dX1_countDoubted_21 : decode cX1_countDoubted 21 = .ok (.aload_n 0, 1) := by decide +kernel
theorem dX1_countDoubted_22 : decode cX1_countDoubted 22 = .ok (.getfield 38, 3) := by decide +kernel
theorem dX1_countDoubted_25 : decode cX1_countDoubted 25 = .ok (.iload_n 2, 1) := by decide +kernel
theorem dX1_countDoubted_26 : decode cX1_countDoubted 26 = .ok (.baload, 1) := by decide +kernel
theorem dX1_countDoubted_27 : decode cX1_countDoubted 27 = .ok (.ifCond .eq 6, 3) := by decide +kernel
theorem dX1_countDoubted_30 : decode cX1_countDoubted 30 = .ok (.iinc 1 1, 3) := by decide +kernel
theorem dX1_countDoubted_33 : decode cX1_countDoubted 33 = .ok (.iinc 2 1, 3) := by decide +kernel
theorem dX1_countDoubted_36 : decode cX1_countDoubted 36 = .ok (.goto (-32), 3) := by decide +kernel
theorem dX1_countDoubted_39 : decode cX1_countDoubted 39 = .ok (.iload_n 1, 1) := by decide +kernel
theorem dX1_countDoubted_40 : decode cX1_countDoubted 40 = .ok (.ireturn, 1) := by decide +kernel
theorem dX1_isIn_0 : decode cX1_isIn 0 = .ok (.iload_n 1, 1) := by decide +kernel
theorem dX1_isIn_1 : decode cX1_isIn 1 = .ok (.ifCond .lt 19, 3) := by decide +kernel
theorem dX1_isIn_4 : decode cX1_isIn 4 = .ok (.iload_n 1, 1) := by decide +kernel
theorem dX1_isIn_5 : decode cX1_isIn 5 = .ok (.aload_n 0, 1) := by decide +kernel
theorem dX1_isIn_6 : decode cX1_isIn 6 = .ok (.arraylength, 1) := by decide +kernel
theorem dX1_isIn_7 : decode cX1_isIn 7 = .ok (.if_icmp .ge 13, 3) := by decide +kernel
theorem dX1_isIn_10 : decode cX1_isIn 10 = .ok (.aload_n 0, 1) := by decide +kernel
theorem dX1_isIn_11 : decode cX1_isIn 11 = .ok (.iload_n 1, 1) := by decide +kernel
theorem dX1_isIn_12 : decode cX1_isIn 12 = .ok (.baload, 1) := by decide +kernel
theorem dX1_isIn_13 : decode cX1_isIn 13 = .ok (.ifCond .eq 7, 3) := by decide +kernel
theorem dX1_isIn_16 : decode cX1_isIn 16 = .ok (.iconst 1, 1) := by decide +kernel
theorem dX1_isIn_17 : decode cX1_isIn 17 = .ok (.goto 4, 3) := by decide +kernel
theorem dX1_isIn_20 : decode cX1_isIn 20 = .ok (.iconst 0, 1) := by decide +kernel
theorem dX1_isIn_21 : decode cX1_isIn 21 = .ok (.ireturn, 1) := by decide +kernel
theorem dX1_size_0 : decode cX1_size 0 = .ok (.iconst 0, 1) := by decide +kernel
theorem dX1_size_1 : decode cX1_size 1 = .ok (.istore_n 1, 1) := by decide +kernel
theorem dX1_size_2 : decode cX1_size 2 = .ok (.iconst 0, 1) := by decide +kernel
theorem dX1_size_3 : decode cX1_size 3 = .ok (.istore_n 2, 1) := by decide +kernel
theorem dX1_size_4 : decode cX1_size 4 = .ok (.iload_n 2, 1) := by decide +kernel
theorem dX1_size_5 : decode cX1_size 5 = .ok (.aload_n 0, 1) := by decide +kernel
theorem dX1_size_6 : decode cX1_size 6 = .ok (.arraylength, 1) := by decide +kernel
theorem dX1_size_7 : decode cX1_size 7 = .ok (.if_icmp .ge 18, 3) := by decide +kernel
theorem dX1_size_10 : decode cX1_size 10 = .ok (.aload_n 0, 1) := by decide +kernel
theorem dX1_size_11 : decode cX1_size 11 = .ok (.iload_n 2, 1) := by decide +kernel
theorem dX1_size_12 : decode cX1_size 12 = .ok (.baload, 1) := by decide +kernel
theorem dX1_size_13 : decode cX1_size 13 = .ok (.ifCond .eq 6, 3) := by decide +kernel
theorem dX1_size_16 : decode cX1_size 16 = .ok (.iinc 1 1, 3) := by decide +kernel
theorem dX1_size_19 : decode cX1_size 19 = .ok (.iinc 2 1, 3) := by decide +kernel
theorem dX1_size_22 : decode cX1_size 22 = .ok (.goto (-18), 3) := by decide +kernel
theorem dX1_size_25 : decode cX1_size 25 = .ok (.iload_n 1, 1) := by decide +kernel
theorem dX1_size_26 : decode cX1_size 26 = .ok (.ireturn, 1) := by decide +kernel
theorem dX1_memberAt_0 : decode cX1_memberAt 0 = .ok (.iconst 0, 1) := by decide +kernel
theorem dX1_memberAt_1 : decode cX1_memberAt 1 = .ok (.istore_n 2, 1) := by decide +kernel
theorem dX1_memberAt_2 : decode cX1_memberAt 2 = .ok (.iconst 0, 1) := by decide +kernel
theorem dX1_memberAt_3 : decode cX1_memberAt 3 = .ok (.istore_n 3, 1) := by decide +kernel
theorem dX1_memberAt_4 : decode cX1_memberAt 4 = .ok (.iload_n 3, 1) := by decide +kernel
theorem dX1_memberAt_5 : decode cX1_memberAt 5 = .ok (.aload_n 0, 1) := by decide +kernel
theorem dX1_memberAt_6 : decode cX1_memberAt 6 = .ok (.arraylength, 1) := by decide +kernel
theorem dX1_memberAt_7 : decode cX1_memberAt 7 = .ok (.if_icmp .ge 25, 3) := by decide +kernel
theorem dX1_memberAt_10 : decode cX1_memberAt 10 = .ok (.aload_n 0, 1) := by decide +kernel
theorem dX1_memberAt_11 : decode cX1_memberAt 11 = .ok (.iload_n 3, 1) := by decide +kernel
theorem dX1_memberAt_12 : decode cX1_memberAt 12 = .ok (.baload, 1) := by decide +kernel
theorem dX1_memberAt_13 : decode cX1_memberAt 13 = .ok (.ifCond .eq 13, 3) := by decide +kernel
theorem dX1_memberAt_16 : decode cX1_memberAt 16 = .ok (.iload_n 2, 1) := by decide +kernel
theorem dX1_memberAt_17 : decode cX1_memberAt 17 = .ok (.iload_n 1, 1) := by decide +kernel
theorem dX1_memberAt_18 : decode cX1_memberAt 18 = .ok (.if_icmp .ne 5, 3) := by decide +kernel
theorem dX1_memberAt_21 : decode cX1_memberAt 21 = .ok (.iload_n 3, 1) := by decide +kernel
theorem dX1_memberAt_22 : decode cX1_memberAt 22 = .ok (.ireturn, 1) := by decide +kernel
theorem dX1_memberAt_23 : decode cX1_memberAt 23 = .ok (.iinc 2 1, 3) := by decide +kernel
theorem dX1_memberAt_26 : decode cX1_memberAt 26 = .ok (.iinc 3 1, 3) := by decide +kernel
theorem dX1_memberAt_29 : decode cX1_memberAt 29 = .ok (.goto (-25), 3) := by decide +kernel
theorem dX1_memberAt_32 : decode cX1_memberAt 32 = .ok (.iconst (-1), 1) := by decide +kernel
theorem dX1_memberAt_33 : decode cX1_memberAt 33 = .ok (.ireturn, 1) := by decide +kernel
theorem dX1_countHaving_0 : decode cX1_countHaving 0 = .ok (.iconst 0, 1) := by decide +kernel
theorem dX1_countHaving_1 : decode cX1_countHaving 1 = .ok (.istore_n 3, 1) := by decide +kernel
theorem dX1_countHaving_2 : decode cX1_countHaving 2 = .ok (.iconst 0, 1) := by decide +kernel
theorem dX1_countHaving_3 : decode cX1_countHaving 3 = .ok (.istore 4, 2) := by decide +kernel
theorem dX1_countHaving_5 : decode cX1_countHaving 5 = .ok (.iload 4, 2) := by decide +kernel
theorem dX1_countHaving_7 : decode cX1_countHaving 7 = .ok (.aload_n 0, 1) := by decide +kernel
theorem dX1_countHaving_8 : decode cX1_countHaving 8 = .ok (.getfield 42, 3) := by decide +kernel
theorem dX1_countHaving_11 : decode cX1_countHaving 11 = .ok (.arraylength, 1) := by decide +kernel
theorem dX1_countHaving_12 : decode cX1_countHaving 12 = .ok (.if_icmp .ge 36, 3) := by decide +kernel
theorem dX1_countHaving_15 : decode cX1_countHaving 15 = .ok (.aload_n 0, 1) := by decide +kernel
theorem dX1_countHaving_16 : decode cX1_countHaving 16 = .ok (.getfield 42, 3) := by decide +kernel
theorem dX1_countHaving_19 : decode cX1_countHaving 19 = .ok (.iload 4, 2) := by decide +kernel
theorem dX1_countHaving_21 : decode cX1_countHaving 21 = .ok (.baload, 1) := by decide +kernel
theorem dX1_countHaving_22 : decode cX1_countHaving 22 = .ok (.ifCond .eq 20, 3) := by decide +kernel
theorem dX1_countHaving_25 : decode cX1_countHaving 25 = .ok (.aload_n 0, 1) := by decide +kernel
theorem dX1_countHaving_26 : decode cX1_countHaving 26 = .ok (.getfield 21, 3) := by decide +kernel
theorem dX1_countHaving_29 : decode cX1_countHaving 29 = .ok (.iload 4, 2) := by decide +kernel
theorem dX1_countHaving_31 : decode cX1_countHaving 31 = .ok (.iload_n 1, 1) := by decide +kernel
theorem dX1_countHaving_32 : decode cX1_countHaving 32 = .ok (.invokevirtual 73, 3) := by decide +kernel
theorem dX1_countHaving_35 : decode cX1_countHaving 35 = .ok (.iload_n 2, 1) := by decide +kernel
theorem dX1_countHaving_36 : decode cX1_countHaving 36 = .ok (.if_icmp .ne 6, 3) := by decide +kernel
theorem dX1_countHaving_39 : decode cX1_countHaving 39 = .ok (.iinc 3 1, 3) := by decide +kernel
theorem dX1_countHaving_42 : decode cX1_countHaving 42 = .ok (.iinc 4 1, 3) := by decide +kernel
theorem dX1_countHaving_45 : decode cX1_countHaving 45 = .ok (.goto (-40), 3) := by decide +kernel
theorem dX1_countHaving_48 : decode cX1_countHaving 48 = .ok (.iload_n 3, 1) := by decide +kernel
theorem dX1_countHaving_49 : decode cX1_countHaving 49 = .ok (.ireturn, 1) := by decide +kernel
theorem dX1_keepAnswering_0 : decode cX1_keepAnswering 0 = .ok (.iconst 0, 1) := by decide +kernel
theorem dX1_keepAnswering_1 : decode cX1_keepAnswering 1 = .ok (.istore 4, 2) := by decide +kernel
theorem dX1_keepAnswering_3 : decode cX1_keepAnswering 3 = .ok (.iload 4, 2) := by decide +kernel
theorem dX1_keepAnswering_5 : decode cX1_keepAnswering 5 = .ok (.aload_n 1, 1) := by decide +kernel
theorem dX1_keepAnswering_6 : decode cX1_keepAnswering 6 = .ok (.arraylength, 1) := by decide +kernel
theorem dX1_keepAnswering_7 : decode cX1_keepAnswering 7 = .ok (.if_icmp .ge 39, 3) := by decide +kernel
theorem dX1_keepAnswering_10 : decode cX1_keepAnswering 10 = .ok (.aload_n 1, 1) := by decide +kernel
theorem dX1_keepAnswering_11 : decode cX1_keepAnswering 11 = .ok (.iload 4, 2) := by decide +kernel
theorem dX1_keepAnswering_13 : decode cX1_keepAnswering 13 = .ok (.aload_n 1, 1) := by decide +kernel
theorem dX1_keepAnswering_14 : decode cX1_keepAnswering 14 = .ok (.iload 4, 2) := by decide +kernel
theorem dX1_keepAnswering_16 : decode cX1_keepAnswering 16 = .ok (.baload, 1) := by decide +kernel
theorem dX1_keepAnswering_17 : decode cX1_keepAnswering 17 = .ok (.ifCond .eq 21, 3) := by decide +kernel
theorem dX1_keepAnswering_20 : decode cX1_keepAnswering 20 = .ok (.aload_n 0, 1) := by decide +kernel
theorem dX1_keepAnswering_21 : decode cX1_keepAnswering 21 = .ok (.getfield 21, 3) := by decide +kernel
theorem dX1_keepAnswering_24 : decode cX1_keepAnswering 24 = .ok (.iload_n 2, 1) := by decide +kernel
theorem dX1_keepAnswering_25 : decode cX1_keepAnswering 25 = .ok (.iload 4, 2) := by decide +kernel
theorem dX1_keepAnswering_27 : decode cX1_keepAnswering 27 = .ok (.invokevirtual 77, 3) := by decide +kernel
theorem dX1_keepAnswering_30 : decode cX1_keepAnswering 30 = .ok (.iload_n 3, 1) := by decide +kernel
theorem dX1_keepAnswering_31 : decode cX1_keepAnswering 31 = .ok (.if_icmp .ne 7, 3) := by decide +kernel
theorem dX1_keepAnswering_34 : decode cX1_keepAnswering 34 = .ok (.iconst 1, 1) := by decide +kernel
theorem dX1_keepAnswering_35 : decode cX1_keepAnswering 35 = .ok (.goto 4, 3) := by decide +kernel
theorem dX1_keepAnswering_38 : decode cX1_keepAnswering 38 = .ok (.iconst 0, 1) := by decide +kernel
theorem dX1_keepAnswering_39 : decode cX1_keepAnswering 39 = .ok (.bastore, 1) := by decide +kernel
theorem dX1_keepAnswering_40 : decode cX1_keepAnswering 40 = .ok (.iinc 4 1, 3) := by decide +kernel
theorem dX1_keepAnswering_43 : decode cX1_keepAnswering 43 = .ok (.goto (-40), 3) := by decide +kernel
theorem dX1_keepAnswering_46 : decode cX1_keepAnswering 46 = .ok (.return_, 1) := by decide +kernel
theorem dX1_heapUp_0 : decode cX1_heapUp 0 = .ok (.aload_n 0, 1) := by decide +kernel
theorem dX1_heapUp_1 : decode cX1_heapUp 1 = .ok (.getfield 48, 3) := by decide +kernel
theorem dX1_heapUp_4 : decode cX1_heapUp 4 = .ok (.iconst 0, 1) := by decide +kernel
theorem dX1_heapUp_5 : decode cX1_heapUp 5 = .ok (.invokestatic 196, 3) := by decide +kernel
theorem dX1_heapUp_8 : decode cX1_heapUp 8 = .ok (.iconst 0, 1) := by decide +kernel
theorem dX1_heapUp_9 : decode cX1_heapUp 9 = .ok (.istore_n 3, 1) := by decide +kernel
theorem dX1_heapUp_10 : decode cX1_heapUp 10 = .ok (.iload_n 3, 1) := by decide +kernel
theorem dX1_heapUp_11 : decode cX1_heapUp 11 = .ok (.aload_n 2, 1) := by decide +kernel
theorem dX1_heapUp_12 : decode cX1_heapUp 12 = .ok (.arraylength, 1) := by decide +kernel
theorem dX1_heapUp_13 : decode cX1_heapUp 13 = .ok (.if_icmp .ge 52, 3) := by decide +kernel
theorem dX1_heapUp_16 : decode cX1_heapUp 16 = .ok (.aload_n 2, 1) := by decide +kernel
theorem dX1_heapUp_17 : decode cX1_heapUp 17 = .ok (.iload_n 3, 1) := by decide +kernel
theorem dX1_heapUp_18 : decode cX1_heapUp 18 = .ok (.baload, 1) := by decide +kernel
theorem dX1_heapUp_19 : decode cX1_heapUp 19 = .ok (.ifCond .eq 40, 3) := by decide +kernel
theorem dX1_heapUp_22 : decode cX1_heapUp 22 = .ok (.aload_n 0, 1) := by decide +kernel
theorem dX1_heapUp_23 : decode cX1_heapUp 23 = .ok (.getfield 21, 3) := by decide +kernel
theorem dX1_heapUp_26 : decode cX1_heapUp 26 = .ok (.iload_n 1, 1) := by decide +kernel
theorem dX1_heapUp_27 : decode cX1_heapUp 27 = .ok (.iload_n 3, 1) := by decide +kernel
theorem dX1_heapUp_28 : decode cX1_heapUp 28 = .ok (.invokevirtual 77, 3) := by decide +kernel
theorem dX1_heapUp_31 : decode cX1_heapUp 31 = .ok (.istore 4, 2) := by decide +kernel
theorem dX1_heapUp_33 : decode cX1_heapUp 33 = .ok (.iload 4, 2) := by decide +kernel
theorem dX1_heapUp_35 : decode cX1_heapUp 35 = .ok (.ifCond .lt 24, 3) := by decide +kernel
theorem dX1_heapUp_38 : decode cX1_heapUp 38 = .ok (.iload 4, 2) := by decide +kernel
theorem dX1_heapUp_40 : decode cX1_heapUp 40 = .ok (.aload_n 0, 1) := by decide +kernel
theorem dX1_heapUp_41 : decode cX1_heapUp 41 = .ok (.getfield 48, 3) := by decide +kernel
theorem dX1_heapUp_44 : decode cX1_heapUp 44 = .ok (.arraylength, 1) := by decide +kernel
theorem dX1_heapUp_45 : decode cX1_heapUp 45 = .ok (.if_icmp .ge 14, 3) := by decide +kernel
theorem dX1_heapUp_48 : decode cX1_heapUp 48 = .ok (.aload_n 0, 1) := by decide +kernel
theorem dX1_heapUp_49 : decode cX1_heapUp 49 = .ok (.getfield 48, 3) := by decide +kernel
theorem dX1_heapUp_52 : decode cX1_heapUp 52 = .ok (.iload 4, 2) := by decide +kernel
theorem dX1_heapUp_54 : decode cX1_heapUp 54 = .ok (.dup2, 1) := by decide +kernel
theorem dX1_heapUp_55 : decode cX1_heapUp 55 = .ok (.iaload, 1) := by decide +kernel
theorem dX1_heapUp_56 : decode cX1_heapUp 56 = .ok (.iconst 1, 1) := by decide +kernel
theorem dX1_heapUp_57 : decode cX1_heapUp 57 = .ok (.iadd, 1) := by decide +kernel
theorem dX1_heapUp_58 : decode cX1_heapUp 58 = .ok (.iastore, 1) := by decide +kernel
theorem dX1_heapUp_59 : decode cX1_heapUp 59 = .ok (.iinc 3 1, 3) := by decide +kernel
theorem dX1_heapUp_62 : decode cX1_heapUp 62 = .ok (.goto (-52), 3) := by decide +kernel
theorem dX1_heapUp_65 : decode cX1_heapUp 65 = .ok (.return_, 1) := by decide +kernel
theorem dX1_greatestHeap_0 : decode cX1_greatestHeap 0 = .ok (.aload_n 0, 1) := by decide +kernel
theorem dX1_greatestHeap_1 : decode cX1_greatestHeap 1 = .ok (.iload_n 1, 1) := by decide +kernel
theorem dX1_greatestHeap_2 : decode cX1_greatestHeap 2 = .ok (.aload_n 2, 1) := by decide +kernel
theorem dX1_greatestHeap_3 : decode cX1_greatestHeap 3 = .ok (.invokevirtual 145, 3) := by decide +kernel
theorem dX1_greatestHeap_6 : decode cX1_greatestHeap 6 = .ok (.iconst 0, 1) := by decide +kernel
theorem dX1_greatestHeap_7 : decode cX1_greatestHeap 7 = .ok (.istore_n 3, 1) := by decide +kernel
theorem dX1_greatestHeap_8 : decode cX1_greatestHeap 8 = .ok (.iconst 0, 1) := by decide +kernel
theorem dX1_greatestHeap_9 : decode cX1_greatestHeap 9 = .ok (.istore 4, 2) := by decide +kernel
theorem dX1_greatestHeap_11 : decode cX1_greatestHeap 11 = .ok (.iload 4, 2) := by decide +kernel
theorem dX1_greatestHeap_13 : decode cX1_greatestHeap 13 = .ok (.aload_n 0, 1) := by decide +kernel
theorem dX1_greatestHeap_14 : decode cX1_greatestHeap 14 = .ok (.getfield 48, 3) := by decide +kernel
theorem dX1_greatestHeap_17 : decode cX1_greatestHeap 17 = .ok (.arraylength, 1) := by decide +kernel
theorem dX1_greatestHeap_18 : decode cX1_greatestHeap 18 = .ok (.if_icmp .ge 21, 3) := by decide +kernel
theorem dX1_greatestHeap_21 : decode cX1_greatestHeap 21 = .ok (.iload_n 3, 1) := by decide +kernel
theorem dX1_greatestHeap_22 : decode cX1_greatestHeap 22 = .ok (.aload_n 0, 1) := by decide +kernel
theorem dX1_greatestHeap_23 : decode cX1_greatestHeap 23 = .ok (.getfield 48, 3) := by decide +kernel
theorem dX1_greatestHeap_26 : decode cX1_greatestHeap 26 = .ok (.iload 4, 2) := by decide +kernel
theorem dX1_greatestHeap_28 : decode cX1_greatestHeap 28 = .ok (.iaload, 1) := by decide +kernel
theorem dX1_greatestHeap_29 : decode cX1_greatestHeap 29 = .ok (.invokestatic 202, 3) := by decide +kernel
theorem dX1_greatestHeap_32 : decode cX1_greatestHeap 32 = .ok (.istore_n 3, 1) := by decide +kernel
theorem dX1_greatestHeap_33 : decode cX1_greatestHeap 33 = .ok (.iinc 4 1, 3) := by decide +kernel
theorem dX1_greatestHeap_36 : decode cX1_greatestHeap 36 = .ok (.goto (-25), 3) := by decide +kernel
theorem dX1_greatestHeap_39 : decode cX1_greatestHeap 39 = .ok (.iload_n 3, 1) := by decide +kernel
theorem dX1_greatestHeap_40 : decode cX1_greatestHeap 40 = .ok (.ireturn, 1) := by decide +kernel
theorem dX1_leastBad_0 : decode cX1_leastBad 0 = .ok (.aload_n 1, 1) := by decide +kernel
theorem dX1_leastBad_1 : decode cX1_leastBad 1 = .ok (.invokestatic 87, 3) := by decide +kernel
theorem dX1_leastBad_4 : decode cX1_leastBad 4 = .ok (.ifCond .ne 5, 3) := by decide +kernel
theorem dX1_leastBad_7 : decode cX1_leastBad 7 = .ok (.iconst (-1), 1) := by decide +kernel
theorem dX1_leastBad_8 : decode cX1_leastBad 8 = .ok (.ireturn, 1) := by decide +kernel
theorem dX1_leastBad_9 : decode cX1_leastBad 9 = .ok (.iconst (-1), 1) := by decide +kernel
theorem dX1_leastBad_10 : decode cX1_leastBad 10 = .ok (.istore_n 3, 1) := by decide +kernel
theorem dX1_leastBad_11 : decode cX1_leastBad 11 = .ok (.iconst 0, 1) := by decide +kernel
theorem dX1_leastBad_12 : decode cX1_leastBad 12 = .ok (.istore 4, 2) := by decide +kernel
theorem dX1_leastBad_14 : decode cX1_leastBad 14 = .ok (.bipush 82, 2) := by decide +kernel
theorem dX1_leastBad_16 : decode cX1_leastBad 16 = .ok (.istore 5, 2) := by decide +kernel
theorem dX1_leastBad_18 : decode cX1_leastBad 18 = .ok (.iconst 0, 1) := by decide +kernel
theorem dX1_leastBad_19 : decode cX1_leastBad 19 = .ok (.istore 6, 2) := by decide +kernel
theorem dX1_leastBad_21 : decode cX1_leastBad 21 = .ok (.iload 6, 2) := by decide +kernel
theorem dX1_leastBad_23 : decode cX1_leastBad 23 = .ok (.aload_n 0, 1) := by decide +kernel
theorem dX1_leastBad_24 : decode cX1_leastBad 24 = .ok (.getfield 21, 3) := by decide +kernel
theorem dX1_leastBad_27 : decode cX1_leastBad 27 = .ok (.getfield 114, 3) := by decide +kernel
theorem dX1_leastBad_30 : decode cX1_leastBad 30 = .ok (.if_icmp .ge 70, 3) := by decide +kernel
theorem dX1_leastBad_33 : decode cX1_leastBad 33 = .ok (.aload_n 1, 1) := by decide +kernel
theorem dX1_leastBad_34 : decode cX1_leastBad 34 = .ok (.iload 6, 2) := by decide +kernel
theorem dX1_leastBad_36 : decode cX1_leastBad 36 = .ok (.invokestatic 126, 3) := by decide +kernel
theorem dX1_leastBad_39 : decode cX1_leastBad 39 = .ok (.istore 7, 2) := by decide +kernel
theorem dX1_leastBad_41 : decode cX1_leastBad 41 = .ok (.iload 7, 2) := by decide +kernel
theorem dX1_leastBad_43 : decode cX1_leastBad 43 = .ok (.ifCond .ne 7, 3) := by decide +kernel
theorem dX1_leastBad_46 : decode cX1_leastBad 46 = .ok (.iload_n 2, 1) := by decide +kernel
theorem dX1_leastBad_47 : decode cX1_leastBad 47 = .ok (.ifCond .ne 47, 3) := by decide +kernel
theorem dX1_leastBad_50 : decode cX1_leastBad 50 = .ok (.aload_n 0, 1) := by decide +kernel
theorem dX1_leastBad_51 : decode cX1_leastBad 51 = .ok (.iload 6, 2) := by decide +kernel
theorem dX1_leastBad_53 : decode cX1_leastBad 53 = .ok (.aload_n 1, 1) := by decide +kernel
theorem dX1_leastBad_54 : decode cX1_leastBad 54 = .ok (.invokevirtual 141, 3) := by decide +kernel
theorem dX1_leastBad_57 : decode cX1_leastBad 57 = .ok (.istore 8, 2) := by decide +kernel
theorem dX1_leastBad_59 : decode cX1_leastBad 59 = .ok (.iload 8, 2) := by decide +kernel
theorem dX1_leastBad_61 : decode cX1_leastBad 61 = .ok (.iload 5, 2) := by decide +kernel
theorem dX1_leastBad_63 : decode cX1_leastBad 63 = .ok (.if_icmp .lt 20, 3) := by decide +kernel
theorem dX1_leastBad_66 : decode cX1_leastBad 66 = .ok (.iload 8, 2) := by decide +kernel
theorem dX1_leastBad_68 : decode cX1_leastBad 68 = .ok (.iload 5, 2) := by decide +kernel
theorem dX1_leastBad_70 : decode cX1_leastBad 70 = .ok (.if_icmp .ne 24, 3) := by decide +kernel
theorem dX1_leastBad_73 : decode cX1_leastBad 73 = .ok (.iload 7, 2) := by decide +kernel
theorem dX1_leastBad_75 : decode cX1_leastBad 75 = .ok (.ifCond .eq 19, 3) := by decide +kernel
theorem dX1_leastBad_78 : decode cX1_leastBad 78 = .ok (.iload 4, 2) := by decide +kernel
theorem dX1_leastBad_80 : decode cX1_leastBad 80 = .ok (.ifCond .ne 14, 3) := by decide +kernel
theorem dX1_leastBad_83 : decode cX1_leastBad 83 = .ok (.iload 6, 2) := by decide +kernel
theorem dX1_leastBad_85 : decode cX1_leastBad 85 = .ok (.istore_n 3, 1) := by decide +kernel
theorem dX1_leastBad_86 : decode cX1_leastBad 86 = .ok (.iload 7, 2) := by decide +kernel
theorem dX1_leastBad_88 : decode cX1_leastBad 88 = .ok (.istore 4, 2) := by decide +kernel
theorem dX1_leastBad_90 : decode cX1_leastBad 90 = .ok (.iload 8, 2) := by decide +kernel
theorem dX1_leastBad_92 : decode cX1_leastBad 92 = .ok (.istore 5, 2) := by decide +kernel
theorem dX1_leastBad_94 : decode cX1_leastBad 94 = .ok (.iinc 6 1, 3) := by decide +kernel
theorem dX1_leastBad_97 : decode cX1_leastBad 97 = .ok (.goto (-76), 3) := by decide +kernel
theorem dX1_leastBad_100 : decode cX1_leastBad 100 = .ok (.iload_n 3, 1) := by decide +kernel
theorem dX1_leastBad_101 : decode cX1_leastBad 101 = .ok (.ireturn, 1) := by decide +kernel
end
section
set_option maxRecDepth 20000 in
theorem ggX0_init_X0_lightCandles : GoodIn wsX0_init wsX0_lightCandles := goodIn_r _ [14, 8, 4, 33, 34, 35, 36] (by decide +kernel) (by decide +kernel)
set_option maxRecDepth 20000 in
theorem gX0_init_X0_lightCandles : GoodIn wsX0_init (wsV RX0 26 RX0 yX0_lightCandles wsX0_lightCandles) := goodIn_app (goodIn_of _ (by decide +kernel)) ggX0_init_X0_lightCandles
set_option maxRecDepth 20000 in
theorem ggX0_init_X0_tallies : GoodIn wsX0_init wsX0_tallies := goodIn_r _ [18, 5, 4, 6, 7, 8, 33, 34, 35, 36] (by decide +kernel) (by decide +kernel)
set_option maxRecDepth 20000 in
theorem gX0_init_X0_tallies : GoodIn wsX0_init (wsV RX0 29 RX0 yX0_tallies wsX0_tallies) := goodIn_app (goodIn_of _ (by decide +kernel)) ggX0_init_X0_tallies
set_option maxRecDepth 20000 in
theorem ggX0_init_X0_fillTable : GoodIn wsX0_init wsX0_fillTable := goodIn_r _ [22, 5, 8, 9, 23, 24, 13, 25, 26, 27, 28, 29, 30, 31, 32, 33, 34, 35, 36] (by decide +kernel) (by decide +kernel)
set_option maxRecDepth 20000 in
theorem gX0_init_X0_fillTable : GoodIn wsX0_init (wsV RX0 33 RX0 yX0_fillTable wsX0_fillTable) := goodIn_app (goodIn_of _ (by decide +kernel)) ggX0_init_X0_fillTable
set_option maxRecDepth 20000 in
theorem ggX0_fillTable_X0_countSame : GoodIn wsX0_fillTable wsX0_countSame := goodIn_r _ [7] (by decide +kernel) (by decide +kernel)
set_option maxRecDepth 20000 in
theorem gX0_fillTable_X0_countSame : GoodIn wsX0_fillTable (va_wsS RX0 37 yX0_countSame wsX0_countSame) := goodIn_app (goodIn_of _ (by decide +kernel)) ggX0_fillTable_X0_countSame
set_option maxRecDepth 20000 in
theorem ggX0_fillTable_X0_countShared : GoodIn wsX0_fillTable wsX0_countShared := goodIn_r _ [10, 11, 12, 13, 14] (by decide +kernel) (by decide +kernel)
set_option maxRecDepth 20000 in
theorem gX0_fillTable_X0_countShared : GoodIn wsX0_fillTable (va_wsS RX0 41 yX0_countShared wsX0_countShared) := goodIn_app (goodIn_of _ (by decide +kernel)) ggX0_fillTable_X0_countShared
set_option maxRecDepth 20000 in
theorem ggX0_colourOf_X0_hasCode : GoodIn wsX0_colourOf wsX0_hasCode := goodIn_r _ [6, 7, 8, 9, 10, 11] (by decide +kernel) (by decide +kernel)
set_option maxRecDepth 20000 in
theorem gX0_colourOf_X0_hasCode : GoodIn wsX0_colourOf (wsV RX0 50 RX0 yX0_hasCode wsX0_hasCode) := goodIn_app (goodIn_of _ (by decide +kernel)) ggX0_colourOf_X0_hasCode
set_option maxRecDepth 20000 in
theorem ggX0_answerTo_X0_hasCode : GoodIn wsX0_answerTo wsX0_hasCode := goodIn_r _ [6, 7, 8, 9, 10, 11] (by decide +kernel) (by decide +kernel)
set_option maxRecDepth 20000 in
theorem gX0_answerTo_X0_hasCode : GoodIn wsX0_answerTo (wsV RX0 50 RX0 yX0_hasCode wsX0_hasCode) := goodIn_app (goodIn_of _ (by decide +kernel)) ggX0_answerTo_X0_hasCode
set_option maxRecDepth 20000 in
theorem ggX1_init_X0_init : GoodIn wsX1_init wsX0_init := goodIn_r _ [21, 22, 2, 3, 23, 24, 25, 12, 26, 27, 28, 29, 30, 6, 31, 32, 33, 34, 35, 36, 37, 38, 39, 40, 41, 42, 43, 44, 45, 46, 47, 48, 49, 66, 67, 68, 69] (by decide +kernel) (by decide +kernel)
set_option maxRecDepth 20000 in
theorem gX1_init_X0_init_n11 : GoodIn wsX1_init (wsX0_init) := ggX1_init_X0_init
set_option maxRecDepth 20000 in
theorem ggX1_init_X1_sieve : GoodIn wsX1_init wsX1_sieve := goodIn_r _ [54, 17, 9, 11, 55, 6, 56, 57, 24, 58, 59, 60, 53, 61, 16, 13, 14, 62, 63, 64, 27, 65, 70, 71, 72, 73, 74, 75, 76, 77, 78, 79, 80, 66, 67, 68, 69] (by decide +kernel) (by decide +kernel)
set_option maxRecDepth 20000 in
theorem gX1_init_X1_sieve : GoodIn wsX1_init (wsV RX1 51 RX1 yX1_sieve wsX1_sieve) := goodIn_app (goodIn_of _ (by decide +kernel)) ggX1_init_X1_sieve
set_option maxRecDepth 20000 in
theorem ggX1_setColours_X1_sieve : GoodIn wsX1_setColours wsX1_sieve := goodIn_r _ [12, 13, 3, 7, 14, 15, 16, 17, 18, 19, 20, 21, 11, 22, 23, 24, 25, 26, 27, 28, 29, 30, 31, 32, 33, 34, 35, 36, 37, 38, 39, 40, 41, 42, 43, 44, 45] (by decide +kernel) (by decide +kernel)
set_option maxRecDepth 20000 in
theorem gX1_setColours_X1_sieve : GoodIn wsX1_setColours (wsV RX1 51 RX1 yX1_sieve wsX1_sieve) := goodIn_app (goodIn_of _ (by decide +kernel)) ggX1_setColours_X1_sieve
set_option maxRecDepth 20000 in
theorem ggX1_hide_X1_needCode : GoodIn wsX1_hide wsX1_needCode := goodIn_ca (goodIn_r _ [6, 7, 8, 9, 10, 11, 12, 13, 14, 15, 16, 17, 18, 19, 20, 21, 22, 23, 24, 25, 26, 27, 28, 29] (by decide +kernel) (by decide +kernel)) (goodIn_sub (fun _ h => List.mem_cons_of_mem _ (List.mem_append_right _ h)) (by decide +kernel))
set_option maxRecDepth 20000 in
theorem gX1_hide_X1_needCode : GoodIn wsX1_hide (wsV RX1 64 RX1 yX1_needCode wsX1_needCode) := goodIn_app (goodIn_of _ (by decide +kernel)) ggX1_hide_X1_needCode
set_option maxRecDepth 20000 in
theorem ggX1_swap_X1_needPlace : GoodIn wsX1_swap wsX1_needPlace := goodIn_ca (goodIn_r _ [6, 7, 8] (by decide +kernel) (by decide +kernel)) (goodIn_sub (fun _ h => List.mem_cons_of_mem _ (List.mem_append_left _ (List.mem_append_right _ h))) (by decide +kernel))
set_option maxRecDepth 20000 in
theorem gX1_swap_X1_needPlace : GoodIn wsX1_swap (va_wsS RX1 67 yX1_needPlace wsX1_needPlace) := goodIn_app (goodIn_of _ (by decide +kernel)) ggX1_swap_X1_needPlace
set_option maxRecDepth 20000 in
theorem ggX1_swap_X1_needHidden : GoodIn wsX1_swap wsX1_needHidden := goodIn_ca (goodIn_r _ [12, 13, 14, 2, 25, 26, 27, 28, 29, 30, 31, 32, 33, 34, 35] (by decide +kernel) (by decide +kernel)) (goodIn_sub (fun _ h => List.mem_cons_of_mem _ (List.mem_append_right _ h)) (by decide +kernel))
set_option maxRecDepth 20000 in
theorem gX1_swap_X1_needHidden : GoodIn wsX1_swap (wsV RX1 70 RX1 yX1_needHidden wsX1_needHidden) := goodIn_app (goodIn_of _ (by decide +kernel)) ggX1_swap_X1_needHidden
set_option maxRecDepth 20000 in
theorem ggX1_swap_X0_colourOf : GoodIn wsX1_swap wsX0_colourOf := goodIn_r _ [18, 19, 20, 21, 22, 16, 23, 24, 36, 37, 38, 39] (by decide +kernel) (by decide +kernel)
set_option maxRecDepth 20000 in
theorem gX1_swap_X0_colourOf_n73 : GoodIn wsX1_swap (wsX0_colourOf) := ggX1_swap_X0_colourOf
set_option maxRecDepth 20000 in
theorem ggX1_guess_X1_needCode : GoodIn wsX1_guess wsX1_needCode := goodIn_ca (goodIn_r _ [7, 8, 9, 1, 10, 11, 12, 13, 14, 43, 44, 45, 46, 47, 48, 49, 50, 51, 52, 53, 54, 55, 56, 57] (by decide +kernel) (by decide +kernel)) (goodIn_sub (fun _ h => List.mem_cons_of_mem _ (List.mem_append_left _ (List.mem_append_right _ h))) (by decide +kernel))
set_option maxRecDepth 20000 in
theorem gX1_guess_X1_needCode : GoodIn wsX1_guess (wsV RX1 64 RX1 yX1_needCode wsX1_needCode) := goodIn_app (goodIn_of _ (by decide +kernel)) ggX1_guess_X1_needCode
set_option maxRecDepth 20000 in
theorem ggX1_guess_X1_needHidden : GoodIn wsX1_guess wsX1_needHidden := goodIn_ca (goodIn_r _ [18, 19, 20, 2, 43, 44, 45, 46, 47, 48, 49, 50, 51, 52, 53] (by decide +kernel) (by decide +kernel)) (goodIn_sub (fun _ h => List.mem_cons_of_mem _ (List.mem_append_right _ h)) (by decide +kernel))
set_option maxRecDepth 20000 in
theorem gX1_guess_X1_needHidden : GoodIn wsX1_guess (wsV RX1 70 RX1 yX1_needHidden wsX1_needHidden) := goodIn_app (goodIn_of _ (by decide +kernel)) ggX1_guess_X1_needHidden
set_option maxRecDepth 20000 in
theorem ggX1_guess_X0_answerTo : GoodIn wsX1_guess wsX0_answerTo := goodIn_r _ [23, 24, 25, 10, 12, 11, 13, 14, 54, 55, 56, 57] (by decide +kernel) (by decide +kernel)
set_option maxRecDepth 20000 in
theorem gX1_guess_X0_answerTo_n77 : GoodIn wsX1_guess (wsX0_answerTo) := ggX1_guess_X0_answerTo
set_option maxRecDepth 20000 in
theorem ggX1_guess_X1_append : GoodIn wsX1_guess wsX1_append := goodIn_ca (goodIn_r _ [29, 19, 20, 30, 31, 32, 33, 34, 35, 36, 6, 37, 38, 1, 10, 11, 12, 13, 14, 39, 40, 41, 42, 21, 22, 23, 24, 25, 43, 44, 45, 46, 47, 48, 49, 50, 51, 52, 53, 54, 55, 56, 57] (by decide +kernel) (by decide +kernel)) (goodIn_sub (fun _ h => List.mem_cons_of_mem _ (List.mem_append_right _ h)) (by decide +kernel))
set_option maxRecDepth 20000 in
theorem gX1_guess_X1_append : GoodIn wsX1_guess (wsV RX1 80 RX1 yX1_append wsX1_append) := goodIn_app (goodIn_of _ (by decide +kernel)) ggX1_guess_X1_append
set_option maxRecDepth 20000 in
theorem ggX1_tell_X1_needCode : GoodIn wsX1_tell wsX1_needCode := goodIn_ca (goodIn_r _ [6, 7, 8, 9, 10, 11, 12, 13, 14, 46, 47, 48, 49, 50, 51, 52, 53, 54, 55, 56, 57, 58, 59, 60] (by decide +kernel) (by decide +kernel)) (goodIn_sub (fun _ h => List.mem_cons_of_mem _ (List.mem_append_left _ (List.mem_append_left _ (List.mem_append_right _ h)))) (by decide +kernel))
set_option maxRecDepth 20000 in
theorem gX1_tell_X1_needCode : GoodIn wsX1_tell (wsV RX1 64 RX1 yX1_needCode wsX1_needCode) := goodIn_app (goodIn_of _ (by decide +kernel)) ggX1_tell_X1_needCode
set_option maxRecDepth 20000 in
theorem ggX1_tell_X1_needPins : GoodIn wsX1_tell wsX1_needPins := goodIn_ca (goodIn_r _ [17, 18, 19] (by decide +kernel) (by decide +kernel)) (goodIn_sub (fun _ h => List.mem_cons_of_mem _ (List.mem_append_left _ (List.mem_append_right _ h))) (by decide +kernel))
set_option maxRecDepth 20000 in
theorem gX1_tell_X1_needPins : GoodIn wsX1_tell (va_wsS RX1 84 yX1_needPins wsX1_needPins) := goodIn_app (goodIn_of _ (by decide +kernel)) ggX1_tell_X1_needPins
set_option maxRecDepth 20000 in
theorem ggX1_tell_X1_append : GoodIn wsX1_tell wsX1_append := goodIn_ca (goodIn_r _ [23, 24, 25, 26, 27, 28, 29, 30, 31, 32, 5, 33, 1, 9, 10, 11, 12, 13, 14, 34, 35, 36, 37, 38, 39, 40, 41, 42, 46, 47, 48, 49, 50, 51, 52, 53, 54, 55, 56, 57, 58, 59, 60] (by decide +kernel) (by decide +kernel)) (goodIn_sub (fun _ h => List.mem_cons_of_mem _ (List.mem_append_right _ h)) (by decide +kernel))
set_option maxRecDepth 20000 in
theorem gX1_tell_X1_append : GoodIn wsX1_tell (wsV RX1 80 RX1 yX1_append wsX1_append) := goodIn_app (goodIn_of _ (by decide +kernel)) ggX1_tell_X1_append
set_option maxRecDepth 20000 in
theorem ggX1_tell_X1_size : GoodIn wsX1_tell wsX1_size := goodIn_r _ [45] (by decide +kernel) (by decide +kernel)
set_option maxRecDepth 20000 in
theorem gX1_tell_X1_size : GoodIn wsX1_tell (va_wsS RX1 87 yX1_size wsX1_size) := goodIn_app (goodIn_of _ (by decide +kernel)) ggX1_tell_X1_size
set_option maxRecDepth 20000 in
theorem ggX1_doubt_X1_hasGuess : GoodIn wsX1_doubt wsX1_hasGuess := goodIn_r _ [8, 9, 32, 33, 34, 35, 36, 37, 38, 39, 40, 41, 42] (by decide +kernel) (by decide +kernel)
set_option maxRecDepth 20000 in
theorem gX1_doubt_X1_hasGuess : GoodIn wsX1_doubt (wsV RX1 91 RX1 yX1_hasGuess wsX1_hasGuess) := goodIn_app (goodIn_of _ (by decide +kernel)) ggX1_doubt_X1_hasGuess
set_option maxRecDepth 20000 in
theorem ggX1_doubt_X1_sieve : GoodIn wsX1_doubt wsX1_sieve := goodIn_r _ [13, 14, 15, 9, 16, 17, 18, 19, 20, 21, 22, 23, 7, 24, 3, 25, 26, 27, 28, 29, 30, 31, 32, 33, 34, 35, 36, 37, 38, 39, 40, 41, 42, 43, 44, 45, 46] (by decide +kernel) (by decide +kernel)
set_option maxRecDepth 20000 in
theorem gX1_doubt_X1_sieve : GoodIn wsX1_doubt (wsV RX1 51 RX1 yX1_sieve wsX1_sieve) := goodIn_app (goodIn_of _ (by decide +kernel)) ggX1_doubt_X1_sieve
set_option maxRecDepth 20000 in
theorem ggX1_forget_X1_hasGuess : GoodIn wsX1_forget wsX1_hasGuess := goodIn_r _ [9, 3, 32, 33, 34, 35, 36, 37, 38, 39, 40, 41, 42] (by decide +kernel) (by decide +kernel)
set_option maxRecDepth 20000 in
theorem gX1_forget_X1_hasGuess : GoodIn wsX1_forget (wsV RX1 91 RX1 yX1_hasGuess wsX1_hasGuess) := goodIn_app (goodIn_of _ (by decide +kernel)) ggX1_forget_X1_hasGuess
set_option maxRecDepth 20000 in
theorem ggX1_forget_X1_sieve : GoodIn wsX1_forget wsX1_sieve := goodIn_r _ [13, 14, 15, 3, 16, 17, 18, 19, 20, 21, 22, 23, 8, 24, 25, 4, 26, 27, 28, 29, 30, 31, 32, 33, 34, 35, 36, 37, 38, 39, 40, 41, 42, 43, 44, 45, 46] (by decide +kernel) (by decide +kernel)
set_option maxRecDepth 20000 in
theorem gX1_forget_X1_sieve : GoodIn wsX1_forget (wsV RX1 51 RX1 yX1_sieve wsX1_sieve) := goodIn_app (goodIn_of _ (by decide +kernel)) ggX1_forget_X1_sieve
set_option maxRecDepth 20000 in
theorem ggX1_colour_X1_needCode : GoodIn wsX1_colour wsX1_needCode := goodIn_ca (goodIn_r _ [6, 7, 8, 1, 9, 10, 11, 12, 13, 22, 23, 24, 25, 26, 27, 28, 29, 30, 31, 32, 33, 34, 35, 36] (by decide +kernel) (by decide +kernel)) (goodIn_sub (fun _ h => List.mem_cons_of_mem _ (List.mem_append_right _ h)) (by decide +kernel))
set_option maxRecDepth 20000 in
theorem gX1_colour_X1_needCode : GoodIn wsX1_colour (wsV RX1 64 RX1 yX1_needCode wsX1_needCode) := goodIn_app (goodIn_of _ (by decide +kernel)) ggX1_colour_X1_needCode
set_option maxRecDepth 20000 in
theorem ggX1_colour_X1_needPlace : GoodIn wsX1_colour wsX1_needPlace := goodIn_ca (goodIn_r _ [16, 7, 8] (by decide +kernel) (by decide +kernel)) (goodIn_sub (fun _ h => List.mem_cons_of_mem _ (List.mem_append_right _ h)) (by decide +kernel))
set_option maxRecDepth 20000 in
theorem gX1_colour_X1_needPlace : GoodIn wsX1_colour (va_wsS RX1 67 yX1_needPlace wsX1_needPlace) := goodIn_app (goodIn_of _ (by decide +kernel)) ggX1_colour_X1_needPlace
set_option maxRecDepth 20000 in
theorem ggX1_colour_X0_colourOf : GoodIn wsX1_colour wsX0_colourOf := goodIn_r _ [19, 20, 21, 9, 11, 10, 12, 13, 33, 34, 35, 36] (by decide +kernel) (by decide +kernel)
set_option maxRecDepth 20000 in
theorem gX1_colour_X0_colourOf_n73 : GoodIn wsX1_colour (wsX0_colourOf) := ggX1_colour_X0_colourOf
set_option maxRecDepth 20000 in
theorem ggX1_pins_X1_needCode : GoodIn wsX1_pins wsX1_needCode := goodIn_ca (goodIn_r _ [6, 7, 8, 1, 9, 10, 11, 12, 13, 19, 20, 21, 22, 23, 24, 25, 26, 27, 28, 29, 30, 31, 32, 33] (by decide +kernel) (by decide +kernel)) (goodIn_sub (fun _ h => List.mem_cons_of_mem _ (List.mem_append_right _ h)) (by decide +kernel))
set_option maxRecDepth 20000 in
theorem gX1_pins_X1_needCode : GoodIn wsX1_pins (wsV RX1 64 RX1 yX1_needCode wsX1_needCode) := goodIn_app (goodIn_of _ (by decide +kernel)) ggX1_pins_X1_needCode
set_option maxRecDepth 20000 in
theorem ggX1_pins_X0_answerTo : GoodIn wsX1_pins wsX0_answerTo := goodIn_r _ [16, 17, 18, 9, 11, 10, 12, 13, 30, 31, 32, 33] (by decide +kernel) (by decide +kernel)
set_option maxRecDepth 20000 in
theorem gX1_pins_X0_answerTo_n77 : GoodIn wsX1_pins (wsX0_answerTo) := ggX1_pins_X0_answerTo
set_option maxRecDepth 20000 in
theorem ggX1_told_X1_hasGuess : GoodIn wsX1_told wsX1_hasGuess := goodIn_r _ [10, 11, 35, 36, 37, 38, 39, 40, 41, 42, 43, 44, 45] (by decide +kernel) (by decide +kernel)
set_option maxRecDepth 20000 in
theorem gX1_told_X1_hasGuess : GoodIn wsX1_told (wsV RX1 91 RX1 yX1_hasGuess wsX1_hasGuess) := goodIn_app (goodIn_of _ (by decide +kernel)) ggX1_told_X1_hasGuess
set_option maxRecDepth 20000 in
theorem ggX1_told_X1_countFitting : GoodIn wsX1_told wsX1_countFitting := goodIn_r _ [15, 16, 17, 18, 19, 9, 20, 5, 3, 4, 21, 22, 23, 24, 25, 26, 27, 28, 29, 30, 35, 36, 37, 38, 39, 40, 41, 42, 43, 44, 45, 46, 47, 48, 49] (by decide +kernel) (by decide +kernel)
set_option maxRecDepth 20000 in
theorem gX1_told_X1_countFitting : GoodIn wsX1_told (wsV RX1 105 RX1 yX1_countFitting wsX1_countFitting) := goodIn_app (goodIn_of _ (by decide +kernel)) ggX1_told_X1_countFitting
set_option maxRecDepth 20000 in
theorem ggX1_told_X1_countAnswering : GoodIn wsX1_told wsX1_countAnswering := goodIn_r _ [34, 16, 21, 22, 23, 24, 25, 26, 27, 28, 29, 30, 35, 36, 37, 38, 39, 40, 41, 42, 43, 44, 45, 46, 47, 48, 49] (by decide +kernel) (by decide +kernel)
set_option maxRecDepth 20000 in
theorem gX1_told_X1_countAnswering : GoodIn wsX1_told (wsV RX1 109 RX1 yX1_countAnswering wsX1_countAnswering) := goodIn_app (goodIn_of _ (by decide +kernel)) ggX1_told_X1_countAnswering
set_option maxRecDepth 20000 in
theorem ggX1_count_X1_size : GoodIn wsX1_count wsX1_size := goodIn_r _ [10] (by decide +kernel) (by decide +kernel)
set_option maxRecDepth 20000 in
theorem gX1_count_X1_size : GoodIn wsX1_count (va_wsS RX1 87 yX1_size wsX1_size) := goodIn_app (goodIn_of _ (by decide +kernel)) ggX1_count_X1_size
set_option maxRecDepth 20000 in
theorem ggX1_count_X1_countAllBlack : GoodIn wsX1_count wsX1_countAllBlack := goodIn_r _ [14, 4, 15, 21, 22, 23, 24, 25, 26, 27, 28, 29, 30, 31] (by decide +kernel) (by decide +kernel)
set_option maxRecDepth 20000 in
theorem gX1_count_X1_countAllBlack : GoodIn wsX1_count (wsV RX1 117 RX1 yX1_countAllBlack wsX1_countAllBlack) := goodIn_app (goodIn_of _ (by decide +kernel)) ggX1_count_X1_countAllBlack
set_option maxRecDepth 20000 in
theorem ggX1_count_X1_countDoubted : GoodIn wsX1_count wsX1_countDoubted := goodIn_r _ [19, 4, 20, 21, 22, 23, 24, 25, 26, 27, 28, 29, 30, 31] (by decide +kernel) (by decide +kernel)
set_option maxRecDepth 20000 in
theorem gX1_count_X1_countDoubted : GoodIn wsX1_count (wsV RX1 121 RX1 yX1_countDoubted wsX1_countDoubted) := goodIn_app (goodIn_of _ (by decide +kernel)) ggX1_count_X1_countDoubted
set_option maxRecDepth 20000 in
theorem ggX1_isPossible_X1_needCode : GoodIn wsX1_isPossible wsX1_needCode := goodIn_ca (goodIn_r _ [6, 7, 8, 9, 10, 11, 12, 13, 14, 18, 19, 20, 21, 22, 23, 24, 25, 26, 27, 28, 29, 30, 31, 32] (by decide +kernel) (by decide +kernel)) (goodIn_sub (fun _ h => List.mem_cons_of_mem _ (List.mem_append_right _ h)) (by decide +kernel))
set_option maxRecDepth 20000 in
theorem gX1_isPossible_X1_needCode : GoodIn wsX1_isPossible (wsV RX1 64 RX1 yX1_needCode wsX1_needCode) := goodIn_app (goodIn_of _ (by decide +kernel)) ggX1_isPossible_X1_needCode
set_option maxRecDepth 20000 in
theorem ggX1_isPossible_X1_isIn : GoodIn wsX1_isPossible wsX1_isIn := goodIn_r _ [17] (by decide +kernel) (by decide +kernel)
set_option maxRecDepth 20000 in
theorem gX1_isPossible_X1_isIn : GoodIn wsX1_isPossible (va_wsS RX1 126 yX1_isIn wsX1_isIn) := goodIn_app (goodIn_of _ (by decide +kernel)) ggX1_isPossible_X1_isIn
set_option maxRecDepth 20000 in
theorem ggX1_possible_X1_memberAt : GoodIn wsX1_possible wsX1_memberAt := goodIn_r _ [7] (by decide +kernel) (by decide +kernel)
set_option maxRecDepth 20000 in
theorem gX1_possible_X1_memberAt : GoodIn wsX1_possible (va_wsS RX1 130 yX1_memberAt wsX1_memberAt) := goodIn_app (goodIn_of _ (by decide +kernel)) ggX1_possible_X1_memberAt
set_option maxRecDepth 20000 in
theorem ggX1_have_X1_needPlace : GoodIn wsX1_have wsX1_needPlace := goodIn_ca (goodIn_r _ [7, 1, 2] (by decide +kernel) (by decide +kernel)) (goodIn_sub (fun _ h => List.mem_cons_of_mem _ (List.mem_append_right _ h)) (by decide +kernel))
set_option maxRecDepth 20000 in
theorem gX1_have_X1_needPlace : GoodIn wsX1_have (va_wsS RX1 67 yX1_needPlace wsX1_needPlace) := goodIn_app (goodIn_of _ (by decide +kernel)) ggX1_have_X1_needPlace
set_option maxRecDepth 20000 in
theorem ggX1_have_X1_countHaving : GoodIn wsX1_have wsX1_countHaving := goodIn_r _ [11, 12, 3, 13, 14, 15, 16, 17, 18, 19, 20, 21, 22, 23, 24, 25, 26, 27, 28, 29, 30, 31, 32, 33, 34, 35, 36, 37] (by decide +kernel) (by decide +kernel)
set_option maxRecDepth 20000 in
theorem gX1_have_X1_countHaving : GoodIn wsX1_have (wsV RX1 138 RX1 yX1_countHaving wsX1_countHaving) := goodIn_app (goodIn_of _ (by decide +kernel)) ggX1_have_X1_countHaving
set_option maxRecDepth 20000 in
theorem ggX1_sure_X1_needPlace : GoodIn wsX1_sure wsX1_needPlace := goodIn_ca (goodIn_r _ [6, 7, 8] (by decide +kernel) (by decide +kernel)) (goodIn_sub (fun _ h => List.mem_cons_of_mem _ (List.mem_append_right _ h)) (by decide +kernel))
set_option maxRecDepth 20000 in
theorem gX1_sure_X1_needPlace : GoodIn wsX1_sure (va_wsS RX1 67 yX1_needPlace wsX1_needPlace) := goodIn_app (goodIn_of _ (by decide +kernel)) ggX1_sure_X1_needPlace
set_option maxRecDepth 20000 in
theorem ggX1_sure_X1_memberAt : GoodIn wsX1_sure wsX1_memberAt := goodIn_r _ [11] (by decide +kernel) (by decide +kernel)
set_option maxRecDepth 20000 in
theorem gX1_sure_X1_memberAt : GoodIn wsX1_sure (va_wsS RX1 130 yX1_memberAt wsX1_memberAt) := goodIn_app (goodIn_of _ (by decide +kernel)) ggX1_sure_X1_memberAt
set_option maxRecDepth 20000 in
theorem ggX1_sure_X0_colourOf : GoodIn wsX1_sure wsX0_colourOf := goodIn_r _ [15, 16, 17, 18, 19, 13, 20, 21, 40, 41, 42, 43] (by decide +kernel) (by decide +kernel)
set_option maxRecDepth 20000 in
theorem gX1_sure_X0_colourOf_n73 : GoodIn wsX1_sure (wsX0_colourOf) := ggX1_sure_X0_colourOf
set_option maxRecDepth 20000 in
theorem ggX1_sure_X1_countHaving : GoodIn wsX1_sure wsX1_countHaving := goodIn_r _ [25, 1, 2, 12, 13, 14, 15, 16, 17, 18, 19, 20, 21, 29, 30, 31, 32, 33, 34, 35, 36, 37, 38, 39, 40, 41, 42, 43] (by decide +kernel) (by decide +kernel)
set_option maxRecDepth 20000 in
theorem gX1_sure_X1_countHaving : GoodIn wsX1_sure (wsV RX1 138 RX1 yX1_countHaving wsX1_countHaving) := goodIn_app (goodIn_of _ (by decide +kernel)) ggX1_sure_X1_countHaving
set_option maxRecDepth 20000 in
theorem ggX1_sure_X1_size : GoodIn wsX1_sure wsX1_size := goodIn_r _ [28] (by decide +kernel) (by decide +kernel)
set_option maxRecDepth 20000 in
theorem gX1_sure_X1_size : GoodIn wsX1_sure (va_wsS RX1 87 yX1_size wsX1_size) := goodIn_app (goodIn_of _ (by decide +kernel)) ggX1_sure_X1_size
set_option maxRecDepth 20000 in
theorem ggX1_worst_X1_needCode : GoodIn wsX1_worst wsX1_needCode := goodIn_ca (goodIn_r _ [6, 7, 8, 9, 10, 11, 12, 13, 14, 37, 38, 39, 40, 41, 42, 43, 44, 45, 46, 47, 48, 49, 50, 51] (by decide +kernel) (by decide +kernel)) (goodIn_sub (fun _ h => List.mem_cons_of_mem _ (List.mem_append_right _ h)) (by decide +kernel))
set_option maxRecDepth 20000 in
theorem gX1_worst_X1_needCode : GoodIn wsX1_worst (wsV RX1 64 RX1 yX1_needCode wsX1_needCode) := goodIn_app (goodIn_of _ (by decide +kernel)) ggX1_worst_X1_needCode
set_option maxRecDepth 20000 in
theorem ggX1_worst_X1_greatestHeap : GoodIn wsX1_worst wsX1_greatestHeap := goodIn_r _ [18, 19, 20, 21, 22, 23, 24, 25, 26, 5, 27, 9, 28, 29, 30, 31, 32, 11, 33, 34, 35, 36, 10, 12, 13, 14, 37, 38, 39, 40, 41, 42, 43, 44, 45, 46, 47, 48, 49, 50, 51] (by decide +kernel) (by decide +kernel)
set_option maxRecDepth 20000 in
theorem gX1_worst_X1_greatestHeap : GoodIn wsX1_worst (wsV RX1 141 RX1 yX1_greatestHeap wsX1_greatestHeap) := goodIn_app (goodIn_of _ (by decide +kernel)) ggX1_worst_X1_greatestHeap
set_option maxRecDepth 20000 in
theorem ggX1_parts_X1_needCode : GoodIn wsX1_parts wsX1_needCode := goodIn_ca (goodIn_r _ [7, 8, 9, 10, 11, 12, 13, 14, 15, 29, 30, 31, 32, 33, 34, 35, 36, 37, 38, 39, 40, 41, 42, 43] (by decide +kernel) (by decide +kernel)) (goodIn_sub (fun _ h => List.mem_cons_of_mem _ (List.mem_append_right _ h)) (by decide +kernel))
set_option maxRecDepth 20000 in
theorem gX1_parts_X1_needCode : GoodIn wsX1_parts (wsV RX1 64 RX1 yX1_needCode wsX1_needCode) := goodIn_app (goodIn_of _ (by decide +kernel)) ggX1_parts_X1_needCode
set_option maxRecDepth 20000 in
theorem ggX1_parts_X1_heapUp : GoodIn wsX1_parts wsX1_heapUp := goodIn_r _ [19, 2, 10, 20, 21, 22, 23, 24, 12, 25, 26, 27, 28, 11, 13, 14, 15, 29, 30, 31, 32, 33, 34, 35, 36, 37, 38, 39, 40, 41, 42, 43] (by decide +kernel) (by decide +kernel)
set_option maxRecDepth 20000 in
theorem gX1_parts_X1_heapUp : GoodIn wsX1_parts (wsV RX1 145 RX1 yX1_heapUp wsX1_heapUp) := goodIn_app (goodIn_of _ (by decide +kernel)) ggX1_parts_X1_heapUp
set_option maxRecDepth 20000 in
theorem ggX1_best_X1_leastBad : GoodIn wsX1_best wsX1_leastBad := goodIn_r _ [6, 7, 8, 9, 5, 10, 11, 12, 13, 14, 15, 16, 17, 18, 19, 20, 21, 22, 23, 24, 25, 26, 27, 28, 29, 30, 31, 32, 33, 34, 35, 36, 37, 38, 39, 40, 41, 42, 43, 44, 45, 46, 47, 48, 49, 50, 51, 52, 53, 54, 55] (by decide +kernel) (by decide +kernel)
set_option maxRecDepth 20000 in
theorem gX1_best_X1_leastBad : GoodIn wsX1_best (wsV RX1 149 RX1 yX1_leastBad wsX1_leastBad) := goodIn_app (goodIn_of _ (by decide +kernel)) ggX1_best_X1_leastBad
set_option maxRecDepth 20000 in
theorem ggX1_takes_X1_needCode : GoodIn wsX1_takes wsX1_needCode := goodIn_ca (goodIn_r _ [7, 8, 9, 2, 10, 11, 12, 13, 14, 51, 52, 53, 54, 55, 56, 57, 58, 59, 60, 61, 62, 63, 64, 65] (by decide +kernel) (by decide +kernel)) (goodIn_sub (fun _ h => List.mem_cons_of_mem _ (List.mem_append_right _ h)) (by decide +kernel))
set_option maxRecDepth 20000 in
theorem gX1_takes_X1_needCode : GoodIn wsX1_takes (wsV RX1 64 RX1 yX1_needCode wsX1_needCode) := goodIn_app (goodIn_of _ (by decide +kernel)) ggX1_takes_X1_needCode
set_option maxRecDepth 20000 in
theorem ggX1_takes_X0_hasCode : GoodIn wsX1_takes wsX0_hasCode := goodIn_r _ [13, 14, 62, 63, 64, 65] (by decide +kernel) (by decide +kernel)
set_option maxRecDepth 20000 in
theorem gX1_takes_X0_hasCode_n153 : GoodIn wsX1_takes (wsX0_hasCode) := ggX1_takes_X0_hasCode
set_option maxRecDepth 20000 in
theorem ggX1_takes_X0_answerTo : GoodIn wsX1_takes wsX0_answerTo := goodIn_r _ [17, 18, 19, 10, 12, 11, 13, 14, 62, 63, 64, 65] (by decide +kernel) (by decide +kernel)
set_option maxRecDepth 20000 in
theorem gX1_takes_X0_answerTo_n77 : GoodIn wsX1_takes (wsX0_answerTo) := ggX1_takes_X0_answerTo
set_option maxRecDepth 20000 in
theorem ggX1_takes_X1_keepAnswering : GoodIn wsX1_takes wsX1_keepAnswering := goodIn_r _ [23, 2, 15, 11, 16, 17, 18, 19, 10, 12, 13, 14, 51, 52, 53, 54, 55, 56, 57, 58, 59, 60, 61, 62, 63, 64, 65] (by decide +kernel) (by decide +kernel)
set_option maxRecDepth 20000 in
theorem gX1_takes_X1_keepAnswering : GoodIn wsX1_takes (wsV RX1 156 RX1 yX1_keepAnswering wsX1_keepAnswering) := goodIn_app (goodIn_of _ (by decide +kernel)) ggX1_takes_X1_keepAnswering
set_option maxRecDepth 20000 in
theorem ggX1_takes_X1_leastBad : GoodIn wsX1_takes wsX1_leastBad := goodIn_r _ [27, 2, 28, 29, 6, 30, 31, 32, 33, 34, 35, 36, 37, 38, 39, 40, 41, 42, 43, 44, 45, 46, 47, 48, 49, 50, 15, 11, 16, 17, 18, 19, 10, 12, 13, 14, 51, 52, 53, 54, 55, 56, 57, 58, 59, 60, 61, 62, 63, 64, 65] (by decide +kernel) (by decide +kernel)
set_option maxRecDepth 20000 in
theorem gX1_takes_X1_leastBad : GoodIn wsX1_takes (wsV RX1 149 RX1 yX1_leastBad wsX1_leastBad) := goodIn_app (goodIn_of _ (by decide +kernel)) ggX1_takes_X1_leastBad
set_option maxRecDepth 20000 in
theorem ggX1_digest_X1_count : GoodIn wsX1_digest wsX1_count := goodIn_ca (goodIn_r _ [10, 11, 12, 4, 3, 5, 2, 13, 14, 9, 15, 16, 17, 18, 19, 20, 21, 22, 23, 24, 25, 83, 84, 85, 86, 87, 88, 89, 90, 91, 92, 93, 94, 95, 96, 97] (by decide +kernel) (by decide +kernel)) (goodIn_sub (fun _ h => List.mem_cons_of_mem _ (List.mem_append_right _ h)) (by decide +kernel))
set_option maxRecDepth 20000 in
theorem gX1_digest_X1_count : GoodIn wsX1_digest (wsV RX1 162 RX1 yX1_count wsX1_count) := goodIn_app (goodIn_of _ (by decide +kernel)) ggX1_digest_X1_count
set_option maxRecDepth 20000 in
theorem ggX1_digest_X1_mix : GoodIn wsX1_digest wsX1_mix := goodIn_r _ [28, 29] (by decide +kernel) (by decide +kernel)
set_option maxRecDepth 20000 in
theorem gX1_digest_X1_mix : GoodIn wsX1_digest (va_wsS RX1 165 yX1_mix wsX1_mix) := goodIn_app (goodIn_of _ (by decide +kernel)) ggX1_digest_X1_mix
set_option maxRecDepth 20000 in
theorem ggX1_digest_X1_told : GoodIn wsX1_digest wsX1_told := goodIn_ca (goodIn_r _ [33, 11, 12, 34, 20, 25, 35, 36, 37, 9, 38, 3, 39, 40, 41, 42, 4, 43, 44, 45, 46, 47, 48, 49, 50, 51, 52, 53, 54, 55, 56, 57, 58, 59, 60, 83, 84, 85, 86, 87, 88, 89, 90, 91, 92, 93, 94, 95, 96, 97] (by decide +kernel) (by decide +kernel)) (goodIn_sub (fun _ h => List.mem_cons_of_mem _ (List.mem_append_right _ h)) (by decide +kernel))
set_option maxRecDepth 20000 in
theorem gX1_digest_X1_told : GoodIn wsX1_digest (wsV RX1 169 RX1 yX1_told wsX1_told) := goodIn_app (goodIn_of _ (by decide +kernel)) ggX1_digest_X1_told
set_option maxRecDepth 20000 in
theorem ggX1_digest_X1_sure : GoodIn wsX1_digest wsX1_sure := goodIn_ca (goodIn_r _ [64, 5, 4, 65, 66, 9, 67, 11, 12, 68, 69, 70, 71, 48, 72, 73, 74, 52, 53, 54, 55, 56, 75, 76, 77, 78, 13, 14, 15, 83, 84, 85, 86, 87, 88, 89, 90, 91, 92, 93, 94, 95, 96, 97] (by decide +kernel) (by decide +kernel)) (goodIn_sub (fun _ h => List.mem_cons_of_mem _ (List.mem_append_right _ h)) (by decide +kernel))
set_option maxRecDepth 20000 in
theorem gX1_digest_X1_sure : GoodIn wsX1_digest (wsV RX1 172 RX1 yX1_sure wsX1_sure) := goodIn_app (goodIn_of _ (by decide +kernel)) ggX1_digest_X1_sure
set_option maxRecDepth 20000 in
theorem ggX1_digest_X1_have : GoodIn wsX1_digest wsX1_have := goodIn_ca (goodIn_r _ [82, 11, 12, 4, 65, 66, 9, 67, 75, 76, 77, 78, 5, 71, 48, 72, 73, 74, 52, 53, 54, 55, 56, 83, 84, 85, 86, 87, 88, 89, 90, 91, 92, 93, 94, 95, 96, 97] (by decide +kernel) (by decide +kernel)) (goodIn_sub (fun _ h => List.mem_cons_of_mem _ (List.mem_append_right _ h)) (by decide +kernel))
set_option maxRecDepth 20000 in
theorem gX1_digest_X1_have : GoodIn wsX1_digest (wsV RX1 175 RX1 yX1_have wsX1_have) := goodIn_app (goodIn_of _ (by decide +kernel)) ggX1_digest_X1_have
set_option maxRecDepth 20000 in
theorem ggX1_needCode_X0_hasCode : GoodIn wsX1_needCode wsX0_hasCode := goodIn_r _ [7, 8, 20, 21, 22, 23] (by decide +kernel) (by decide +kernel)
set_option maxRecDepth 20000 in
theorem gX1_needCode_X0_hasCode_n153 : GoodIn wsX1_needCode (wsX0_hasCode) := ggX1_needCode_X0_hasCode
set_option maxRecDepth 20000 in
theorem ggX1_append_X1_sieve : GoodIn wsX1_append wsX1_sieve := goodIn_r _ [11, 12, 13, 3, 14, 15, 16, 17, 18, 19, 20, 21, 10, 22, 6, 4, 5, 23, 24, 25, 26, 27, 28, 29, 30, 31, 32, 33, 34, 35, 36, 37, 38, 39, 40, 41, 42] (by decide +kernel) (by decide +kernel)
set_option maxRecDepth 20000 in
theorem gX1_append_X1_sieve : GoodIn wsX1_append (wsV RX1 51 RX1 yX1_sieve wsX1_sieve) := goodIn_app (goodIn_of _ (by decide +kernel)) ggX1_append_X1_sieve
set_option maxRecDepth 20000 in
theorem ggX1_sieve_X0_hasCode : GoodIn wsX1_sieve wsX0_hasCode := goodIn_r _ [7, 8, 33, 34, 35, 36] (by decide +kernel) (by decide +kernel)
set_option maxRecDepth 20000 in
theorem gX1_sieve_X0_hasCode_n153 : GoodIn wsX1_sieve (wsX0_hasCode) := ggX1_sieve_X0_hasCode
set_option maxRecDepth 20000 in
theorem ggX1_sieve_X1_fits : GoodIn wsX1_sieve wsX1_fits := goodIn_r _ [13, 14, 2, 15, 16, 17, 5, 18, 19, 20, 21, 4, 6, 7, 8, 22, 23, 24, 25, 26, 27, 28, 29, 30, 31, 32, 33, 34, 35, 36] (by decide +kernel) (by decide +kernel)
set_option maxRecDepth 20000 in
theorem gX1_sieve_X1_fits : GoodIn wsX1_sieve (wsV RX1 192 RX1 yX1_fits wsX1_fits) := goodIn_app (goodIn_of _ (by decide +kernel)) ggX1_sieve_X1_fits
set_option maxRecDepth 20000 in
theorem ggX1_fits_X0_answerTo : GoodIn wsX1_fits wsX0_answerTo := goodIn_r _ [8, 9, 10, 11, 12, 6, 13, 14, 26, 27, 28, 29] (by decide +kernel) (by decide +kernel)
set_option maxRecDepth 20000 in
theorem gX1_fits_X0_answerTo_n77 : GoodIn wsX1_fits (wsX0_answerTo) := ggX1_fits_X0_answerTo
set_option maxRecDepth 20000 in
theorem ggX1_countFitting_X1_fits : GoodIn wsX1_countFitting wsX1_fits := goodIn_r _ [6, 7, 1, 8, 9, 10, 11, 12, 13, 14, 15, 16, 17, 18, 19, 20, 21, 22, 23, 24, 25, 26, 27, 28, 29, 30, 31, 32, 33, 34] (by decide +kernel) (by decide +kernel)
set_option maxRecDepth 20000 in
theorem gX1_countFitting_X1_fits : GoodIn wsX1_countFitting (wsV RX1 192 RX1 yX1_fits wsX1_fits) := goodIn_app (goodIn_of _ (by decide +kernel)) ggX1_countFitting_X1_fits
set_option maxRecDepth 20000 in
theorem ggX1_countAnswering_X0_answerTo : GoodIn wsX1_countAnswering wsX0_answerTo := goodIn_r _ [5, 6, 7, 8, 9, 3, 10, 11, 23, 24, 25, 26] (by decide +kernel) (by decide +kernel)
set_option maxRecDepth 20000 in
theorem gX1_countAnswering_X0_answerTo_n77 : GoodIn wsX1_countAnswering (wsX0_answerTo) := ggX1_countAnswering_X0_answerTo
set_option maxRecDepth 20000 in
theorem ggX1_countHaving_X0_colourOf : GoodIn wsX1_countHaving wsX0_colourOf := goodIn_r _ [6, 7, 8, 9, 10, 4, 11, 12, 24, 25, 26, 27] (by decide +kernel) (by decide +kernel)
set_option maxRecDepth 20000 in
theorem gX1_countHaving_X0_colourOf_n73 : GoodIn wsX1_countHaving (wsX0_colourOf) := ggX1_countHaving_X0_colourOf
set_option maxRecDepth 20000 in
theorem ggX1_keepAnswering_X0_answerTo : GoodIn wsX1_keepAnswering wsX0_answerTo := goodIn_r _ [5, 6, 7, 8, 9, 3, 10, 11, 23, 24, 25, 26] (by decide +kernel) (by decide +kernel)
set_option maxRecDepth 20000 in
theorem gX1_keepAnswering_X0_answerTo_n77 : GoodIn wsX1_keepAnswering (wsX0_answerTo) := ggX1_keepAnswering_X0_answerTo
set_option maxRecDepth 20000 in
theorem ggX1_heapUp_J7_fill_53178 : GoodIn wsX1_heapUp wsJ7_fill_53178 := goodIn_r _ [6] (by decide +kernel) (by decide +kernel)
set_option maxRecDepth 20000 in
theorem gX1_heapUp_J7_fill_53178 : GoodIn wsX1_heapUp (va_wsS RX1 196 yJ7_fill_53178 wsJ7_fill_53178) := goodIn_app (goodIn_of _ (by decide +kernel)) ggX1_heapUp_J7_fill_53178
set_option maxRecDepth 20000 in
theorem ggX1_heapUp_X0_answerTo : GoodIn wsX1_heapUp wsX0_answerTo := goodIn_r _ [10, 11, 12, 13, 14, 8, 15, 16, 28, 29, 30, 31] (by decide +kernel) (by decide +kernel)
set_option maxRecDepth 20000 in
theorem gX1_heapUp_X0_answerTo_n77 : GoodIn wsX1_heapUp (wsX0_answerTo) := ggX1_heapUp_X0_answerTo
set_option maxRecDepth 20000 in
theorem ggX1_greatestHeap_X1_heapUp : GoodIn wsX1_greatestHeap wsX1_heapUp := goodIn_r _ [10, 1, 11, 12, 13, 14, 15, 16, 17, 18, 19, 20, 21, 22, 23, 24, 25, 26, 27, 28, 29, 30, 31, 32, 33, 34, 35, 36, 37, 38, 39, 40] (by decide +kernel) (by decide +kernel)
set_option maxRecDepth 20000 in
theorem gX1_greatestHeap_X1_heapUp : GoodIn wsX1_greatestHeap (wsV RX1 145 RX1 yX1_heapUp wsX1_heapUp) := goodIn_app (goodIn_of _ (by decide +kernel)) ggX1_greatestHeap_X1_heapUp
set_option maxRecDepth 20000 in
theorem ggX1_leastBad_X1_size : GoodIn wsX1_leastBad wsX1_size := goodIn_r _ [5] (by decide +kernel) (by decide +kernel)
set_option maxRecDepth 20000 in
theorem gX1_leastBad_X1_size : GoodIn wsX1_leastBad (va_wsS RX1 87 yX1_size wsX1_size) := goodIn_app (goodIn_of _ (by decide +kernel)) ggX1_leastBad_X1_size
set_option maxRecDepth 20000 in
theorem ggX1_leastBad_X1_isIn : GoodIn wsX1_leastBad wsX1_isIn := goodIn_r _ [8] (by decide +kernel) (by decide +kernel)
set_option maxRecDepth 20000 in
theorem gX1_leastBad_X1_isIn : GoodIn wsX1_leastBad (va_wsS RX1 126 yX1_isIn wsX1_isIn) := goodIn_app (goodIn_of _ (by decide +kernel)) ggX1_leastBad_X1_isIn
set_option maxRecDepth 20000 in
theorem ggX1_leastBad_X1_greatestHeap : GoodIn wsX1_leastBad wsX1_greatestHeap := goodIn_r _ [12, 13, 14, 15, 16, 17, 18, 19, 20, 4, 21, 1, 22, 23, 24, 25, 26, 27, 28, 29, 30, 31, 32, 33, 34, 35, 36, 37, 38, 39, 40, 41, 42, 43, 44, 45, 46, 47, 48, 49, 50] (by decide +kernel) (by decide +kernel)
set_option maxRecDepth 20000 in
theorem gX1_leastBad_X1_greatestHeap : GoodIn wsX1_leastBad (wsV RX1 141 RX1 yX1_greatestHeap wsX1_greatestHeap) := goodIn_app (goodIn_of _ (by decide +kernel)) ggX1_leastBad_X1_greatestHeap
end
section
def bI (b : Bool) : Int32 := if b then 1 else 0
theorem bI_0 {b : Bool} : bI b = 0 ↔ b = false := by cases b <;> simp [bI]
theorem bI_n0 {b : Bool} : ¬ bI b = 0 ↔ b = true := by cases b <;> simp [bI]
theorem bI_t : bI true = 1 := rfl
theorem bI_f : bI false = 0 := rfl
theorem bI_inj {a b : Bool} : bI a = bI b ↔ a = b := by cases a <;> cases b <;> simp [bI]
theorem bI_nar (b : Bool) : vp_nar .boolean (bI b) = bI b := by cases b <;> decide
theorem bI_narrow (b : Bool) : narrow .boolean (.int (bI b)) = .int (bI b) := by cases b <;> rfl
theorem bI_fits (b : Bool) : fits .boolean (.int (bI b)) = true := by cases b <;> rfl
theorem updN (f : Nat → Nat) (i v : Nat) : upd (fun j => nI (f j)) i (nI v) = fun j => nI (va_up f i v j) := by
  funext j; simp only [upd, va_up]; split <;> rfl
theorem updB (f : Nat → Bool) (i : Nat) (v : Bool) : upd (fun j => bI (f j)) i (bI v) = fun j => bI (va_up f i v j) := by
  funext j; simp only [upd, va_up]; split <;> rfl
/-- what every call keeps of the tables: the nest's links -/
def Nws : List Cond := [.methodLinkNest RX1 73 yX0_colourOf RX1, .methodLinkNest RX1 77 yX0_answerTo RX1, .methodLinkNest RX1 153 yX0_hasCode RX1, .methodLinkNest RX1 11 yX0_init RX1, .fieldLinkNest RX1 61 RX0 "colours" "I" RX1, .fieldLinkNest RX1 114 RX0 "codes" "I" RX1, .castable "java/lang/IndexOutOfBoundsException" "java/lang/IndexOutOfBoundsException", .castable "java/lang/IllegalStateException" "java/lang/IllegalStateException", .castable "java/lang/IllegalArgumentException" "java/lang/IllegalArgumentException", .declares (Bundle.initS "java/lang/RuntimeException"), .declares (Bundle.initS "java/lang/Exception"), .declares (Bundle.initS Bundle.tN)]
/-- the texts of the class's throws -/
def Strs : List (Nat × String) := [(56, "colours are 2 or 3"), (97, "no such guess"), (102, "there is no guess"), (112, "what is told of a guess is 0 to 5"), (124, "what is counted is 0 to 6"), (134, "no such place among the possible codes"), (136, "no such colour"), (180, "no such code"), (182, "places are 0 to 3"), (184, "no code is hidden"), (186, "pins are 0 to 4 together"), (188, "three black pins leave no white one"), (190, "there are 12 guesses")]
def Ev (A : Nat → Prop) (U : State) : Prop := vx_Zq Bundle.tN "UNASSIGNED_STACK" Bundle.steD A U U.heap ∧ vx_Zq Bundle.tN "SUPPRESSED_SENTINEL" Bundle.listD A U U.heap ∧ (∀ w ∈ Nws, va_Nw w U) ∧ ∀ q ∈ Strs, ∃ a, vk_R RX1 q.1 q.2 a U
theorem Nws_same {u U : State} (h : u.vm = U.vm) (hZ : ∀ w ∈ Nws, va_Nw w u) : ∀ w ∈ Nws, va_Nw w U := by
  intro w hw
  have h1 := hZ w hw
  simp only [Nws, List.mem_cons, List.not_mem_nil, or_false] at hw
  rcases hw with rfl | rfl | rfl | rfl | rfl | rfl | rfl | rfl | rfl | rfl | rfl | rfl <;> exact va_Nw.same rfl h h1
theorem Nws_warm {s U : State} (hW : s.WarmedH U.vm) (hZ : ∀ w ∈ Nws, va_Nw w s) : ∀ w ∈ Nws, va_Nw w U := by
  intro w hw
  have h1 := hZ w hw
  simp only [Nws, List.mem_cons, List.not_mem_nil, or_false] at hw
  rcases hw with rfl | rfl | rfl | rfl | rfl | rfl | rfl | rfl | rfl | rfl | rfl | rfl <;> first | exact va_Nw.warmM hW h1 | exact va_Nw.warmF hW h1 | exact va_Nw.warmC hW h1 | exact va_Nw.warmD hW h1
theorem Ev.call {A : Nat → Prop} {U : State} {g : JFrame} {mk : MethodId} {a : Array Value} (h : Ev A U) : Ev A (U.calling g mk a) :=
  ⟨vx_Zq.moved (u := U) (U := U.calling g mk a) (Vm.Alike.refl U.vm) h.1, vx_Zq.moved (u := U) (U := U.calling g mk a) (Vm.Alike.refl U.vm) h.2.1, Nws_same (u := U) (U := U.calling g mk a) rfl h.2.2.1, fun q hq => by obtain ⟨b, hb⟩ := h.2.2.2 q hq; exact ⟨b, vk_R.same (u := U) (U := U.calling g mk a) rfl hb⟩⟩
theorem Ev.at {A : Nat → Prop} {s U : State} {H : Heap} {locs : List Loc} (hS : va_S A s.heap H locs) (hU : U.heap = H) (hW : s.WarmedH U.vm) (h : Ev A s) : Ev A U := by
  have hq : ∀ a : Nat, a < s.heap.size → ¬ A a → U.heap[a]? = s.heap[a]? := fun a h1 h2 => by rw [hU]; exact hS.2.1 a h1 h2
  exact ⟨vx_Zq.moved hW.alike (vx_Zq.kept h.1 hq), vx_Zq.moved hW.alike (vx_Zq.kept h.2.1 hq), Nws_warm hW h.2.2.1, fun q hq => by obtain ⟨b, hb⟩ := h.2.2.2 q hq; exact ⟨b, vk_R.warm hW hb⟩⟩
abbrev TY (cI cZ cG cJ : ClassId) : List (ClassId × FieldType) := [(cI, .int), (cZ, .boolean), (cG, .array .int), (cJ, .long)]
def Bs (D : va_G) (tys : List (ClassId × FieldType)) (A : Nat → Prop) (U : State) : Prop := va_K D vwCl tys U ∧ (∀ q, U.heap.size ≤ q → A q) ∧ Ev A U
def Iv (D : va_G) (tys : List (ClassId × FieldType)) (A : Nat → Prop) (w : va_W) (U : State) : Prop := va_P D vwCl w U.heap ∧ va_D A w ∧ Bs D tys A U
theorem Bs.at {D : va_G} {tys : List (ClassId × FieldType)} {A : Nat → Prop} {s U : State} {H : Heap} {locs : List Loc} (hS : va_S A s.heap H locs) (hU : U.heap = H) (hW : s.WarmedH U.vm) (h : Bs D tys A s) : Bs D tys A U :=
  ⟨va_K.moved hW.alike h.1, fun q hq => h.2.1 q (Nat.le_trans (by rw [hU]; exact hS.1) hq), Ev.at hS hU hW h.2.2⟩
theorem Iv.blind {D : va_G} {tys : List (ClassId × FieldType)} {A : Nat → Prop} {w : va_W} {av : List Value} : FrameBlind (va_Pc av (Iv D tys A w)) :=
  fun a U g mk h => ⟨h.1, h.2.1, h.2.2.1, va_K.moved (u := U) (U := U.calling g mk a) (Vm.Alike.refl U.vm) h.2.2.2.1, h.2.2.2.2.1, Ev.call h.2.2.2.2.2⟩
theorem preV {D : va_G} {tys : List (ClassId × FieldType)} {A : Nat → Prop} {w : va_W} {s : State} {H : Heap} {locs : List Loc} {b : Addr} {As : List Value} {ci q0 : Nat} {fs : List Value} {q : vw_C} (hB : Bs D tys A s) (hS : va_S A s.heap H locs) (hP : va_P D vwCl w H) (hD : va_D A w) (he : w[q0]? = some (b, .inr (ci, fs))) (hc : vwCl[ci]? = some q) : PreV s H q.1 b (va_Pc (.ref b :: As) (Iv D tys A w)) As :=
  ⟨Iv.blind, va_recv hB.1 hP hc he, fun U hU hW => ⟨rfl, by rw [hU]; exact hP, hD, Bs.at hS hU hW hB⟩⟩
theorem preS {D : va_G} {tys : List (ClassId × FieldType)} {A : Nat → Prop} {w : va_W} {s : State} {H : Heap} {locs : List Loc} {As : List Value} (hB : Bs D tys A s) (hS : va_S A s.heap H locs) (hP : va_P D vwCl w H) (hD : va_D A w) : PreS s H (va_Pc As (Iv D tys A w)) As :=
  ⟨Iv.blind, fun U hU hW => ⟨rfl, by rw [hU]; exact hP, hD, Bs.at hS hU hW hB⟩⟩
/-- a world behind a call or an exception -/
def Wd (D : va_G) (A : Nat → Prop) (w : va_W) (t : State) : Prop := va_P D vwCl w t.heap ∧ va_D A w
abbrev Xw (D : va_G) (A : Nat → Prop) (w : va_W) (px : String → Prop) : String → State → State → Prop := vx_X (S := Unit) (fun _ => True) (fun E _ t => px E ∧ Wd D A w t) A
section BASE
variable {p : Program} {l : Launch} {e : Env} {R : Room} {s : State} {m : MethodId} {args : Array Value} {below : List Frame} {meth : Method} {c : Code} {H : Heap} {locs : List Loc} {cells slots : Nat} {Q : State → Prop}
variable {cc : ByteArray} {pc : Nat} {ls : Array Slot} {rest : List Value} {D : va_G} {A : Nat → Prop} {a : Nat} {tys : List (ClassId × FieldType)} {ws : va_W} {H0 : Heap}
theorem x_ti {x y : Int32} (h : x = y) (k : W p l e R s m args below meth c H locs cells slots Q (F0 m pc ls (.int y :: rest))) : W p l e R s m args below meth c H locs cells slots Q (F0 m pc ls (.int x :: rest)) := h ▸ k
theorem x_tl {x y : Int64} (h : x = y) (k : W p l e R s m args below meth c H locs cells slots Q (F0 m pc ls (.long y :: rest))) : W p l e R s m args below meth c H locs cells slots Q (F0 m pc ls (.long x :: rest)) := h ▸ k
theorem x_iald (hx : p.tables.exec = Jvm.exec) (hb : c.code = cc) (hK : va_K D vwCl tys s) (hP : va_P D vwCl ws H) (q0 t0 : Nat) {cA : ClassId} {n : Nat} {f : Nat → Int32} (ha : ws[q0]? = some (a, .inl (cA, n, .inl f))) (ht : tys[t0]? = some (cA, .int)) {i : Nat} (hi : i < n) (hn : n < 2 ^ 31) (hdg : decode cc pc = .ok (.iaload, 1))
    (kk : W p l e R s m args below meth c H locs cells slots Q (F0 m (pc + 1) ls (.int (f i) :: rest))) : W p l e R s m args below meth c H locs cells slots Q (F0 m pc ls (.int (nI i) :: .ref a :: rest)) := va_iald hx hb hK hP q0 t0 ha ht (vp_in_nI hi hn) hdg (by rw [nI_clamp (Nat.lt_trans hi hn)]; exact kk)
theorem x_zald (hx : p.tables.exec = Jvm.exec) (hb : c.code = cc) (hK : va_K D vwCl tys s) (hP : va_P D vwCl ws H) (q0 t0 : Nat) {cA : ClassId} {n : Nat} {f : Nat → Int32} (ha : ws[q0]? = some (a, .inl (cA, n, .inl f))) (ht : tys[t0]? = some (cA, .boolean)) {i : Nat} (hi : i < n) (hn : n < 2 ^ 31) (hdg : decode cc pc = .ok (.baload, 1))
    (kk : W p l e R s m args below meth c H locs cells slots Q (F0 m (pc + 1) ls (.int (f i) :: rest))) : W p l e R s m args below meth c H locs cells slots Q (F0 m pc ls (.int (nI i) :: .ref a :: rest)) := va_zald hx hb hK hP q0 t0 ha ht (vp_in_nI hi hn) hdg (by rw [nI_clamp (Nat.lt_trans hi hn)]; exact kk)
theorem x_iast (hx : p.tables.exec = Jvm.exec) (hb : c.code = cc) (hK : va_K D vwCl tys s) (hP : va_P D vwCl ws H) (hD : va_D A ws) (hS : va_S A H0 H locs) (q0 t0 : Nat) {cA : ClassId} {n : Nat} {f : Nat → Nat} (ha : ws[q0]? = some (a, .inl (cA, n, .inl (fun j => nI (f j))))) (ht : tys[t0]? = some (cA, .int)) {i v : Nat} (hi : i < n) (hn : n < 2 ^ 31) (hdg : decode cc pc = .ok (.iastore, 1))
    (kk : ∀ (H1 : Heap) (locs1 : List Loc), va_P D vwCl (ws.set q0 (a, .inl (cA, n, .inl (fun j => nI (va_up f i v j))))) H1 → va_D A (ws.set q0 (a, .inl (cA, n, .inl (fun j => nI (va_up f i v j))))) → va_S A H0 H1 locs1 → W p l e R s m args below meth c H1 locs1 cells slots Q (F0 m (pc + 1) ls rest)) : W p l e R s m args below meth c H locs cells slots Q (F0 m pc ls (.int (nI v) :: .int (nI i) :: .ref a :: rest)) :=
  va_iast hx hb hK hP hD hS q0 t0 ha ht (vp_in_nI hi hn) hdg (fun H1 locs1 h1 h2 h3 => by
    rw [nI_clamp (Nat.lt_trans hi hn), updN] at h1 h2
    exact kk H1 locs1 h1 h2 h3)
theorem x_zast (hx : p.tables.exec = Jvm.exec) (hb : c.code = cc) (hK : va_K D vwCl tys s) (hP : va_P D vwCl ws H) (hD : va_D A ws) (hS : va_S A H0 H locs) (q0 t0 : Nat) {cA : ClassId} {n : Nat} {f : Nat → Bool} (ha : ws[q0]? = some (a, .inl (cA, n, .inl (fun j => bI (f j))))) (ht : tys[t0]? = some (cA, .boolean)) {i : Nat} {v : Bool} (hi : i < n) (hn : n < 2 ^ 31) (hdg : decode cc pc = .ok (.bastore, 1))
    (kk : ∀ (H1 : Heap) (locs1 : List Loc), va_P D vwCl (ws.set q0 (a, .inl (cA, n, .inl (fun j => bI (va_up f i v j))))) H1 → va_D A (ws.set q0 (a, .inl (cA, n, .inl (fun j => bI (va_up f i v j))))) → va_S A H0 H1 locs1 → W p l e R s m args below meth c H1 locs1 cells slots Q (F0 m (pc + 1) ls rest)) : W p l e R s m args below meth c H locs cells slots Q (F0 m pc ls (.int (bI v) :: .int (nI i) :: .ref a :: rest)) :=
  va_zast hx hb hK hP hD hS q0 t0 ha ht (vp_in_nI hi hn) hdg (fun H1 locs1 h1 h2 h3 => by
    rw [nI_clamp (Nat.lt_trans hi hn), bI_nar, updB] at h1 h2
    exact kk H1 locs1 h1 h2 h3)
/-- an int array that holds truth values -/
theorem x_iastB (hx : p.tables.exec = Jvm.exec) (hb : c.code = cc) (hK : va_K D vwCl tys s) (hP : va_P D vwCl ws H) (hD : va_D A ws) (hS : va_S A H0 H locs) (q0 t0 : Nat) {cA : ClassId} {n : Nat} {f : Nat → Bool} (ha : ws[q0]? = some (a, .inl (cA, n, .inl (fun j => bI (f j))))) (ht : tys[t0]? = some (cA, .int)) {i : Nat} {v : Bool} (hi : i < n) (hn : n < 2 ^ 31) (hdg : decode cc pc = .ok (.iastore, 1))
    (kk : ∀ (H1 : Heap) (locs1 : List Loc), va_P D vwCl (ws.set q0 (a, .inl (cA, n, .inl (fun j => bI (va_up f i v j))))) H1 → va_D A (ws.set q0 (a, .inl (cA, n, .inl (fun j => bI (va_up f i v j))))) → va_S A H0 H1 locs1 → W p l e R s m args below meth c H1 locs1 cells slots Q (F0 m (pc + 1) ls rest)) : W p l e R s m args below meth c H locs cells slots Q (F0 m pc ls (.int (bI v) :: .int (nI i) :: .ref a :: rest)) :=
  va_iast hx hb hK hP hD hS q0 t0 ha ht (vp_in_nI hi hn) hdg (fun H1 locs1 h1 h2 h3 => by
    rw [nI_clamp (Nat.lt_trans hi hn), updB] at h1 h2
    exact kk H1 locs1 h1 h2 h3)
/-- an array of int arrays, read -/
theorem x_gald (hexec : p.tables.exec = Jvm.exec) (hb : c.code = cc) (hK : va_K D vwCl tys s) (hP : va_P D vwCl ws H) (q0 t0 : Nat) {cA : ClassId} {n : Nat} {f : Nat → Option Nat} (ha : ws[q0]? = some (a, .inl (cA, n, .inr (.inr (.inr (.inr f)))))) (ht : tys[t0]? = some (cA, .array .int)) {i r : Nat} (hi : i < n) (hn : n < 2 ^ 31) (hf : f i = some r) (hdg : decode cc pc = .ok (.aaload, 1))
    (kk : W p l e R s m args below meth c H locs cells slots Q (F0 m (pc + 1) ls (.ref r :: rest))) : W p l e R s m args below meth c H locs cells slots Q (F0 m pc ls (.int (nI i) :: .ref a :: rest)) := by
  have hin : vp_in (nI i) n := vp_in_nI hi hn
  have hcl : (nI i).toNatClampNeg = i := nI_clamp (Nat.lt_trans hi hn)
  have hlt : (nI i).toNatClampNeg < n := by rw [hcl]; exact hi
  refine W.aald (v := va_rf (f (nI i).toNatClampNeg)) (ty := .array .int) hexec hb (hP q0 _ ha) ((hK.2 t0 _ ht).1 n (fun j => va_rf (f j))) rfl (fun q => by cases q) (by show ¬ (nI i < 0 ∨ (arrV _ _ _).slots.size ≤ _); rw [arrV_size]; exact hin) (by show (arrV _ _ _).slots[_]? = _; rw [arrV_read _ _ hlt]) rfl rfl hdg ?_
  rw [hcl, hf]
  exact kk
theorem x_alen (hx : p.tables.exec = Jvm.exec) (hb : c.code = cc) (hK : va_K D vwCl tys s) (hP : va_P D vwCl ws H) (q0 t0 : Nat) {cA : ClassId} {x : vp_A} {ty : FieldType} (ha : ws[q0]? = some (a, .inl (cA, x))) (ht : tys[t0]? = some (cA, ty)) {n : Nat} (hn : x.1 = n) (hdg : decode cc pc = .ok (.arraylength, 1))
    (kk : W p l e R s m args below meth c H locs cells slots Q (F0 m (pc + 1) ls (.int (nI n) :: rest))) : W p l e R s m args below meth c H locs cells slots Q (F0 m pc ls (.ref a :: rest)) := va_alen hx hb hK hP q0 t0 ha ht (v := nI n) (by rw [hn]; rfl) hdg kk
/-- a pure call with a known answer -/
theorem x_csi {v : Int32} {st0 : List Value} {a : Array Value} (hr : va_Run p l e R s m args below meth c H locs cells slots 0 0 (F0 m pc ls st0) rest (vp_Si (fun r => r = v) a) (fun _ => False)) (kk : W p l e R s m args below meth c H locs cells slots Q (F0 m (pc + 3) ls (.int v :: rest))) : W p l e R s m args below meth c H locs cells slots Q (F0 m pc ls st0) := vp_callSi (va_Run.run hr) (fun _ h => h ▸ kk)
theorem x_csl {v : Int64} {st0 : List Value} {a : Array Value} (hr : va_Run p l e R s m args below meth c H locs cells slots 0 0 (F0 m pc ls st0) rest (vp_Sl (fun r => r = v) a) (fun _ => False)) (kk : W p l e R s m args below meth c H locs cells slots Q (F0 m (pc + 3) ls (.long v :: rest))) : W p l e R s m args below meth c H locs cells slots Q (F0 m pc ls st0) := vp_callSl (va_Run.run hr) (fun _ h => h ▸ kk)
variable {off : Int} {tgt x y : Nat} {b : Bool}
theorem x_zeq (hx : p.tables.exec = Jvm.exec) (hb : c.code = cc) (hdg : decode cc pc = .ok (.ifCond .eq off, 3)) (ht : (pc : Int) + off = (tgt : Int)) (kt : b = false → W p l e R s m args below meth c H locs cells slots Q (F0 m tgt ls rest)) (kf : b = true → W p l e R s m args below meth c H locs cells slots Q (F0 m (pc + 3) ls rest)) : W p l e R s m args below meth c H locs cells slots Q (F0 m pc ls (.int (bI b) :: rest)) := lv_if_eq hx hb hdg ht (fun h => kt (bI_0.mp h)) (fun h => kf (bI_n0.mp h))
theorem x_zne (hx : p.tables.exec = Jvm.exec) (hb : c.code = cc) (hdg : decode cc pc = .ok (.ifCond .ne off, 3)) (ht : (pc : Int) + off = (tgt : Int)) (kt : b = true → W p l e R s m args below meth c H locs cells slots Q (F0 m tgt ls rest)) (kf : b = false → W p l e R s m args below meth c H locs cells slots Q (F0 m (pc + 3) ls rest)) : W p l e R s m args below meth c H locs cells slots Q (F0 m pc ls (.int (bI b) :: rest)) := lv_if_ne hx hb hdg ht (fun h => kt (bI_n0.mp h)) (fun h => kf (bI_0.mp h))
theorem x_ge (hx : p.tables.exec = Jvm.exec) (hb : c.code = cc) (hdg : decode cc pc = .ok (.if_icmp .ge off, 3)) (ht : (pc : Int) + off = (tgt : Int)) (h1 : x < 2 ^ 31) (h2 : y < 2 ^ 31) (kt : y ≤ x → W p l e R s m args below meth c H locs cells slots Q (F0 m tgt ls rest)) (kf : x < y → W p l e R s m args below meth c H locs cells slots Q (F0 m (pc + 3) ls rest)) : W p l e R s m args below meth c H locs cells slots Q (F0 m pc ls (.int (nI y) :: .int (nI x) :: rest)) := lv_icmp_ge hx hb hdg ht (fun h => kt ((nI_leI h2 h1).mp h)) (fun h => kf (Nat.not_le.mp fun q => h ((nI_leI h2 h1).mpr q)))
theorem x_lt (hx : p.tables.exec = Jvm.exec) (hb : c.code = cc) (hdg : decode cc pc = .ok (.if_icmp .lt off, 3)) (ht : (pc : Int) + off = (tgt : Int)) (h1 : x < 2 ^ 31) (h2 : y < 2 ^ 31) (kt : x < y → W p l e R s m args below meth c H locs cells slots Q (F0 m tgt ls rest)) (kf : y ≤ x → W p l e R s m args below meth c H locs cells slots Q (F0 m (pc + 3) ls rest)) : W p l e R s m args below meth c H locs cells slots Q (F0 m pc ls (.int (nI y) :: .int (nI x) :: rest)) := lv_icmp_lt hx hb hdg ht (fun h => kt ((nI_ltI h1 h2).mp h)) (fun h => kf (Nat.not_lt.mp fun q => h ((nI_ltI h1 h2).mpr q)))
theorem x_gt (hx : p.tables.exec = Jvm.exec) (hb : c.code = cc) (hdg : decode cc pc = .ok (.if_icmp .gt off, 3)) (ht : (pc : Int) + off = (tgt : Int)) (h1 : x < 2 ^ 31) (h2 : y < 2 ^ 31) (kt : y < x → W p l e R s m args below meth c H locs cells slots Q (F0 m tgt ls rest)) (kf : x ≤ y → W p l e R s m args below meth c H locs cells slots Q (F0 m (pc + 3) ls rest)) : W p l e R s m args below meth c H locs cells slots Q (F0 m pc ls (.int (nI y) :: .int (nI x) :: rest)) := lv_icmp_gt hx hb hdg ht (fun h => kt ((nI_ltI h2 h1).mp h)) (fun h => kf (Nat.not_lt.mp fun q => h ((nI_ltI h2 h1).mpr q)))
theorem x_le (hx : p.tables.exec = Jvm.exec) (hb : c.code = cc) (hdg : decode cc pc = .ok (.if_icmp .le off, 3)) (ht : (pc : Int) + off = (tgt : Int)) (h1 : x < 2 ^ 31) (h2 : y < 2 ^ 31) (kt : x ≤ y → W p l e R s m args below meth c H locs cells slots Q (F0 m tgt ls rest)) (kf : y < x → W p l e R s m args below meth c H locs cells slots Q (F0 m (pc + 3) ls rest)) : W p l e R s m args below meth c H locs cells slots Q (F0 m pc ls (.int (nI y) :: .int (nI x) :: rest)) := lv_icmp_le hx hb hdg ht (fun h => kt ((nI_leI h1 h2).mp h)) (fun h => kf (Nat.not_le.mp fun q => h ((nI_leI h1 h2).mpr q)))
theorem x_eq (hx : p.tables.exec = Jvm.exec) (hb : c.code = cc) (hdg : decode cc pc = .ok (.if_icmp .eq off, 3)) (ht : (pc : Int) + off = (tgt : Int)) (h1 : x < 2 ^ 31) (h2 : y < 2 ^ 31) (kt : x = y → W p l e R s m args below meth c H locs cells slots Q (F0 m tgt ls rest)) (kf : ¬ x = y → W p l e R s m args below meth c H locs cells slots Q (F0 m (pc + 3) ls rest)) : W p l e R s m args below meth c H locs cells slots Q (F0 m pc ls (.int (nI y) :: .int (nI x) :: rest)) := lv_icmp_eq hx hb hdg ht (fun h => kt ((nI_eq h1 h2).mp h)) (fun h => kf (fun q => h (by rw [q])))
theorem x_ne (hx : p.tables.exec = Jvm.exec) (hb : c.code = cc) (hdg : decode cc pc = .ok (.if_icmp .ne off, 3)) (ht : (pc : Int) + off = (tgt : Int)) (h1 : x < 2 ^ 31) (h2 : y < 2 ^ 31) (kt : ¬ x = y → W p l e R s m args below meth c H locs cells slots Q (F0 m tgt ls rest)) (kf : x = y → W p l e R s m args below meth c H locs cells slots Q (F0 m (pc + 3) ls rest)) : W p l e R s m args below meth c H locs cells slots Q (F0 m pc ls (.int (nI y) :: .int (nI x) :: rest)) := lv_icmp_ne hx hb hdg ht (fun h => kt (fun q => h (by rw [q]))) (fun h => kf ((nI_eq h1 h2).mp h))
/-- comparisons with 0 of a number that is not negative -/
theorem x_le0 (hx : p.tables.exec = Jvm.exec) (hb : c.code = cc) (hdg : decode cc pc = .ok (.ifCond .le off, 3)) (ht : (pc : Int) + off = (tgt : Int)) (h1 : x < 2 ^ 31) (kt : x = 0 → W p l e R s m args below meth c H locs cells slots Q (F0 m tgt ls rest)) (kf : 0 < x → W p l e R s m args below meth c H locs cells slots Q (F0 m (pc + 3) ls rest)) : W p l e R s m args below meth c H locs cells slots Q (F0 m pc ls (.int (nI x) :: rest)) := lv_if_le hx hb hdg ht (fun h => kt (by rcases Nat.eq_zero_or_pos x with q | q; exact q; exact absurd h (nI_nle q h1))) (fun h => kf (by rcases Nat.eq_zero_or_pos x with q | q; exact absurd (by rw [q]; decide) h; exact q))
theorem x_gt0 (hx : p.tables.exec = Jvm.exec) (hb : c.code = cc) (hdg : decode cc pc = .ok (.ifCond .gt off, 3)) (ht : (pc : Int) + off = (tgt : Int)) (h1 : x < 2 ^ 31) (kt : 0 < x → W p l e R s m args below meth c H locs cells slots Q (F0 m tgt ls rest)) (kf : x = 0 → W p l e R s m args below meth c H locs cells slots Q (F0 m (pc + 3) ls rest)) : W p l e R s m args below meth c H locs cells slots Q (F0 m pc ls (.int (nI x) :: rest)) := lv_if_gt hx hb hdg ht (fun h => kt (by rcases Nat.eq_zero_or_pos x with q | q; (rw [q] at h; exact absurd h (by decide)); exact q)) (fun h => kf (by rcases Nat.eq_zero_or_pos x with q | q; exact q; exact absurd (nI_ltI (a := 0) (by omega) h1 |>.mpr q) h))
theorem x_eq0 (hx : p.tables.exec = Jvm.exec) (hb : c.code = cc) (hdg : decode cc pc = .ok (.ifCond .eq off, 3)) (ht : (pc : Int) + off = (tgt : Int)) (h1 : x < 2 ^ 31) (kt : x = 0 → W p l e R s m args below meth c H locs cells slots Q (F0 m tgt ls rest)) (kf : 0 < x → W p l e R s m args below meth c H locs cells slots Q (F0 m (pc + 3) ls rest)) : W p l e R s m args below meth c H locs cells slots Q (F0 m pc ls (.int (nI x) :: rest)) := lv_if_eq hx hb hdg ht (fun h => kt ((nI_eq h1 (by omega)).mp h)) (fun h => kf (Nat.pos_of_ne_zero fun q => h (by rw [q]; rfl)))
theorem x_ne0 (hx : p.tables.exec = Jvm.exec) (hb : c.code = cc) (hdg : decode cc pc = .ok (.ifCond .ne off, 3)) (ht : (pc : Int) + off = (tgt : Int)) (h1 : x < 2 ^ 31) (kt : 0 < x → W p l e R s m args below meth c H locs cells slots Q (F0 m tgt ls rest)) (kf : x = 0 → W p l e R s m args below meth c H locs cells slots Q (F0 m (pc + 3) ls rest)) : W p l e R s m args below meth c H locs cells slots Q (F0 m pc ls (.int (nI x) :: rest)) := lv_if_ne hx hb hdg ht (fun h => kt (Nat.pos_of_ne_zero fun q => h (by rw [q]; rfl))) (fun h => kf ((nI_eq h1 (by omega)).mp h))
theorem x_lt0 (hx : p.tables.exec = Jvm.exec) (hb : c.code = cc) (hdg : decode cc pc = .ok (.ifCond .lt off, 3)) (ht : (pc : Int) + off = (tgt : Int)) (h1 : x < 2 ^ 31) (kf : W p l e R s m args below meth c H locs cells slots Q (F0 m (pc + 3) ls rest)) : W p l e R s m args below meth c H locs cells slots Q (F0 m pc ls (.int (nI x) :: rest)) := lv_if_lt hx hb hdg ht (fun h => absurd h (nI_pos h1)) (fun _ => kf)
theorem x_ge0 (hx : p.tables.exec = Jvm.exec) (hb : c.code = cc) (hdg : decode cc pc = .ok (.ifCond .ge off, 3)) (ht : (pc : Int) + off = (tgt : Int)) (h1 : x < 2 ^ 31) (kf : W p l e R s m args below meth c H locs cells slots Q (F0 m tgt ls rest)) : W p l e R s m args below meth c H locs cells slots Q (F0 m pc ls (.int (nI x) :: rest)) := lv_if_ge hx hb hdg ht (fun _ => kf) (fun h => absurd (nI_pos' h1) h)
end BASE
end
section
def qq (c : Nat) : Nat := c * c * c * c
def col (c k p : Nat) : Nat := k / c ^ (3 - p) % c
def sN (f : Nat → Nat) : Nat → Nat
  | 0 => 0
  | n + 1 => sN f n + f n
def cN (p : Nat → Bool) : Nat → Nat
  | 0 => 0
  | n + 1 => cN p n + (if p n then 1 else 0)
def cnt (c k x : Nat) : Nat := cN (fun p => decide (col c k p = x)) 4
def blk (c a b : Nat) : Nat := cN (fun p => decide (col c a p = col c b p)) 4
def shr (c a b : Nat) : Nat := sN (fun x => min (cnt c a x) (cnt c b x)) c
def pinsD (c a b : Nat) : Nat := 5 * blk c a b + shr c a b - blk c a b
/-- as pinsD; not to be unfolded -/
noncomputable def pins (c a b : Nat) : Nat := Classical.choose (p := fun x => x = pinsD c a b) ⟨_, rfl⟩
theorem pins_eq (c a b : Nat) : pins c a b = pinsD c a b := Classical.choose_spec (p := fun x => x = pinsD c a b) ⟨_, rfl⟩
noncomputable def fit (c : Nat) (code ans : Nat → Nat) (dbt : Nat → Bool) : Nat → Nat → Bool
  | 0, _ => true
  | n + 1, k => fit c code ans dbt n k && (dbt n || decide (pins c (code n) k = ans n))
def hasC (c : Nat) (v : Int32) : Bool := decide (0 ≤ v ∧ v < nI (qq c))
def CodeOK (c n : Nat) (code ans : Nat → Nat) : Prop := ∀ i, i < n → code i < qq c ∧ ans i < 32
theorem qq_2 : qq 2 = 16 := rfl
theorem qq_3 : qq 3 = 81 := rfl
theorem qq_in {c : Nat} (hc : c = 2 ∨ c = 3) : 16 ≤ qq c ∧ qq c ≤ 81 := by rcases hc with rfl | rfl <;> decide
theorem cN_le (p : Nat → Bool) (n : Nat) : cN p n ≤ n := by
  induction n with
  | zero => exact Nat.le_refl _
  | succ n ih => simp only [cN]; split <;> omega
theorem sN_le {f g : Nat → Nat} (n : Nat) (h : ∀ i, i < n → f i ≤ g i) : sN f n ≤ sN g n := by
  induction n with
  | zero => exact Nat.le_refl _
  | succ n ih => simp only [sN]; have := ih (fun i hi => h i (by omega)); have := h n (by omega); omega
theorem cN_congr {p q : Nat → Bool} (n : Nat) (h : ∀ i, i < n → p i = q i) : cN p n = cN q n := by
  induction n with
  | zero => rfl
  | succ n ih => simp only [cN]; rw [ih (fun i hi => h i (by omega)), h n (by omega)]
theorem fit_false {c : Nat} {code ans : Nat → Nat} {dbt : Nat → Bool} {k i n : Nat} (hi : i < n) (hd : dbt i = false) (hp : ¬ pins c (code i) k = ans i) : fit c code ans dbt n k = false := by
  induction n with
  | zero => omega
  | succ n ih =>
    rcases Nat.lt_or_ge i n with h | h
    · simp [fit, ih h]
    · have : i = n := by omega
      subst this
      simp [fit, hd, hp]
theorem hasC_nI {c k : Nat} (hc : c = 2 ∨ c = 3) (hk : k < 2 ^ 31) : hasC c (nI k) = decide (k < qq c) := by
  have h := qq_in hc
  have h1 : (0 : Int32) ≤ nI k := nI_pos' hk
  simp only [hasC, h1, true_and, nI_ltI hk (by omega : qq c < 2 ^ 31)]
theorem hasC_lt {c k : Nat} (hc : c = 2 ∨ c = 3) (hk : k < qq c) : hasC c (nI k) = true := by
  have h := qq_in hc
  rw [hasC_nI hc (by omega)]; simp [hk]
theorem hasC_of {c : Nat} {v : Int32} (hc : c = 2 ∨ c = 3) (h : hasC c v = true) : ∃ k, k < qq c ∧ v = nI k := by
  have hq := qq_in hc
  simp only [hasC, decide_eq_true_eq] at h
  obtain ⟨k, hk, rfl⟩ := nI_of (x := v) (by
    intro h2
    have : v < v := Int32.lt_of_lt_of_le h2 h.1
    exact Int32.lt_irrefl this)
  exact ⟨k, (nI_ltI hk (by omega)).mp h.2, rfl⟩
theorem nI_min {x y : Nat} (hx : x < 2 ^ 31) (hy : y < 2 ^ 31) : (if nI y < nI x then nI y else nI x) = nI (min x y) := by
  by_cases h : y < x
  · rw [if_pos ((nI_ltI hy hx).mpr h)]; congr 1; omega
  · rw [if_neg (fun q => h ((nI_ltI hy hx).mp q))]; congr 1; omega
theorem nI_max {x y : Nat} (hx : x < 2 ^ 31) (hy : y < 2 ^ 31) : (if nI x < nI y then nI y else nI x) = nI (max x y) := by
  by_cases h : x < y
  · rw [if_pos ((nI_ltI hx hy).mpr h)]; congr 1; omega
  · rw [if_neg (fun q => h ((nI_ltI hx hy).mp q))]; congr 1; omega
def pal (ad : Nat → Nat) (c : Nat) : Nat := if c = 2 then ad 7 else ad 8
def PalOK (cI cG : ClassId) (w : va_W) (q c : Nat) : Prop := ∃ (cd tb kq kc kt : Nat) (fc ft : Nat → Option Nat), w[kq]? = some (q, .inr (0, [.int (nI c), .int (nI (qq c)), .ref cd, .ref tb])) ∧ w[kc]? = some (cd, .inl (cG, qq c, .inr (.inr (.inr (.inr fc))))) ∧ w[kt]? = some (tb, .inl (cG, qq c, .inr (.inr (.inr (.inr ft))))) ∧
  (∀ i, i < qq c → ∃ (r k : Nat) (f : Nat → Int32), fc i = some r ∧ w[k]? = some (r, .inl (cI, 4, .inl f)) ∧ ∀ j, j < 4 → f j = nI (col c i j)) ∧ (∀ i, i < qq c → ∃ (r k : Nat) (f : Nat → Int32), ft i = some r ∧ w[k]? = some (r, .inl (cI, qq c, .inl f)) ∧ ∀ j, j < qq c → f j = nI (pins c i j))
def Pals (cI cG : ClassId) (ad : Nat → Nat) (wr : va_W) : Prop := PalOK cI cG wr (ad 7) 2 ∧ PalOK cI cG wr (ad 8) 3
def WX (ad : Nat → Nat) (cI cZ : ClassId) (c g : Nat) (hid : Int32) (code ans : Nat → Nat) (dbt opn ply : Nat → Bool) (hps : Nat → Nat) (wr : va_W) : va_W :=
  (ad 0, .inr (1, [.ref (ad 7), .ref (ad 8), .ref (pal ad c), .int hid, .int (nI g), .ref (ad 1), .ref (ad 2), .ref (ad 3), .ref (ad 4), .ref (ad 5), .ref (ad 6)])) ::
  (ad 1, .inl (cI, 12, .inl (fun j => nI (code j)))) :: (ad 2, .inl (cI, 12, .inl (fun j => nI (ans j)))) :: (ad 3, .inl (cZ, 12, .inl (fun j => bI (dbt j)))) ::
  (ad 4, .inl (cZ, 81, .inl (fun j => bI (opn j)))) :: (ad 5, .inl (cZ, 81, .inl (fun j => bI (ply j)))) :: (ad 6, .inl (cI, 21, .inl (fun j => nI (hps j)))) :: wr
theorem PalOK.up {cI cG : ClassId} {wr : va_W} {q c : Nat} (h : PalOK cI cG wr q c) (w : va_W) (n : Nat) (hw : ∀ k, w[k + n]? = wr[k]?) : PalOK cI cG w q c := by
  obtain ⟨cd, tb, kq, kc, kt, fc, ft, e1, e2, e3, e4, e5⟩ := h
  refine ⟨cd, tb, kq + n, kc + n, kt + n, fc, ft, by rw [hw]; exact e1, by rw [hw]; exact e2, by rw [hw]; exact e3, fun i hi => ?_, fun i hi => ?_⟩
  · obtain ⟨r, k, f, a1, a2, a3⟩ := e4 i hi
    exact ⟨r, k + n, f, a1, by rw [hw]; exact a2, a3⟩
  · obtain ⟨r, k, f, a1, a2, a3⟩ := e5 i hi
    exact ⟨r, k + n, f, a1, by rw [hw]; exact a2, a3⟩
theorem palX {cI cZ cG : ClassId} {ad : Nat → Nat} {wr : va_W} (h : Pals cI cG ad wr) {c : Nat} (hc : c = 2 ∨ c = 3) {g : Nat} {hid : Int32} {code ans : Nat → Nat} {dbt opn ply : Nat → Bool} {hps : Nat → Nat} : PalOK cI cG (WX ad cI cZ c g hid code ans dbt opn ply hps wr) (pal ad c) c := by
  have hw : ∀ k, (WX ad cI cZ c g hid code ans dbt opn ply hps wr)[k + 7]? = wr[k]? := fun k => rfl
  rcases hc with rfl | rfl
  · exact h.1.up _ 7 hw
  · exact h.2.up _ 7 hw
theorem prePal {D : va_G} {tys : List (ClassId × FieldType)} {A : Nat → Prop} {w : va_W} {s : State} {H : Heap} {locs : List Loc} {b : Addr} {As : List Value} {cI cG : ClassId} {c : Nat} (hB : Bs D tys A s) (hS : va_S A s.heap H locs) (hP : va_P D vwCl w H) (hD : va_D A w) (h : PalOK cI cG w b c) : PreV s H RX0 b (va_Pc (.ref b :: As) (Iv D tys A w)) As := by
  obtain ⟨cd, tb, kq, kc, kt, fc, ft, e1, e2⟩ := h
  exact preV (ci := 0) (q := (RX0, TX0, 4)) hB hS hP hD e1 rfl
theorem hasC_f1 {c : Nat} {v : Int32} (h : v < 0) : hasC c v = false := by
  simp only [hasC, decide_eq_false_iff_not]
  intro q
  exact absurd (Int32.lt_of_lt_of_le h q.1) (Int32.lt_irrefl)
theorem hasC_f2 {c : Nat} {v : Int32} (h : nI (qq c) ≤ v) : hasC c v = false := by
  simp only [hasC, decide_eq_false_iff_not]
  intro q
  exact absurd (Int32.lt_of_lt_of_le q.2 h) (Int32.lt_irrefl)
theorem hasC_t {c : Nat} {v : Int32} (h1 : ¬ v < 0) (h2 : ¬ nI (qq c) ≤ v) : hasC c v = true := by
  simp only [hasC, decide_eq_true_eq]
  exact ⟨Int32.not_lt.mp h1, Int32.not_le.mp h2⟩
/-- the member of the set at a place, of those below n; -1 if there is none -/
def memA (sb : Nat → Bool) (v : Int32) : Nat → Int32
  | 0 => -1
  | n + 1 => if memA sb v n = -1 then (if sb n = true ∧ nI (cN sb n) = v then nI n else -1) else memA sb v n
theorem memA_hit {sb : Nat → Bool} {v : Int32} {i n : Nat} (hi : i < n) (h3 : memA sb v i = -1) (hs : sb i = true) (hv : nI (cN sb i) = v) (hn : n ≤ 81 := by omega) : memA sb v n = nI i := by
  have hne : ∀ k, k < 81 → ¬ nI k = -1 := fun k hk q => by
    have h1 : (0 : Int32) ≤ nI k := nI_pos' (by omega)
    rw [q] at h1
    exact absurd h1 (by decide)
  induction n with
  | zero => omega
  | succ n ih =>
    rcases Nat.lt_or_ge i n with h | h
    · have e := ih h (by omega)
      simp only [memA, e, hne i (by omega), if_false]
    · have : i = n := by omega
      subst this
      simp only [memA, h3, hs, hv, if_true, and_self]
theorem pins_tab2 : ∀ a, a < 16 → ∀ b, b < 16 → pinsD 2 a b ≤ 20 ∧ pinsD 2 a b = pinsD 2 b a ∧ (pinsD 2 a b = 20 → a = b) ∧ pinsD 2 a a = 20 := by decide +kernel
theorem pins_tab3 : ∀ a, a < 81 → ∀ b, b < 81 → pinsD 3 a b ≤ 20 ∧ pinsD 3 a b = pinsD 3 b a ∧ (pinsD 3 a b = 20 → a = b) ∧ pinsD 3 a a = 20 := by decide +kernel
theorem pins_tab {c a b : Nat} (hc : c = 2 ∨ c = 3) (ha : a < qq c) (hb : b < qq c) : pins c a b ≤ 20 ∧ pins c a b = pins c b a ∧ (pins c a b = 20 → a = b) ∧ pins c a a = 20 := by
  simp only [pins_eq]
  rcases hc with rfl | rfl
  · exact pins_tab2 a ha b hb
  · exact pins_tab3 a ha b hb
theorem pins_le {c a b : Nat} (hc : c = 2 ∨ c = 3) (ha : a < qq c) (hb : b < qq c) : pins c a b ≤ 20 := (pins_tab hc ha hb).1
theorem col_lt {c : Nat} (hc : c = 2 ∨ c = 3) (k p : Nat) : col c k p < c := Nat.mod_lt _ (by omega)
theorem up_le {α : Type} {p q : Nat → α} {i : Nat} {v : α} (h : ∀ k, k < i → p k = q k) (hv : v = q i) : ∀ k, k < i + 1 → va_up p i v k = q k := by
  intro k hk
  by_cases e : k = i
  · subst e; simp [va_up, hv]
  · simp only [va_up, if_neg e]; exact h k (by omega)
theorem up_gt {α : Type} {p q : Nat → α} {i : Nat} {v : α} (h : ∀ k, i ≤ k → p k = q k) : ∀ k, i + 1 ≤ k → va_up p i v k = q k := by
  intro k hk
  simp only [va_up, if_neg (show ¬ k = i by omega)]; exact h k (by omega)
noncomputable def opS (c g : Nat) (code ans : Nat → Nat) (dbt : Nat → Bool) (k : Nat) : Bool := decide (k < qq c) && fit c code ans dbt g k
def SetX (ad : Nat → Nat) (opn ply : Nat → Bool) (sa k0 : Nat) (sb : Nat → Bool) : Prop := (sa = ad 4 ∧ k0 = 4 ∧ sb = opn) ∨ (sa = ad 5 ∧ k0 = 5 ∧ sb = ply)
theorem setX {ad : Nat → Nat} {cI cZ : ClassId} {c g : Nat} {hid : Int32} {code ans : Nat → Nat} {dbt opn ply : Nat → Bool} {hps : Nat → Nat} {wr : va_W} {sa k0 : Nat} {sb : Nat → Bool} (h : SetX ad opn ply sa k0 sb) : (WX ad cI cZ c g hid code ans dbt opn ply hps wr)[k0]? = some (sa, .inl (cZ, 81, .inl (fun j => bI (sb j)))) := by
  rcases h with ⟨rfl, rfl, rfl⟩ | ⟨rfl, rfl, rfl⟩ <;> rfl
noncomputable def hpN (c a : Nat) (sb : Nat → Bool) (x : Nat) : Nat := cN (fun k => sb k && decide (pins c a k = x)) 81
def mxN (f : Nat → Nat) : Nat → Nat
  | 0 => 0
  | n + 1 => max (mxN f n) (f n)
noncomputable def gh (c a : Nat) (sb : Nat → Bool) : Nat := Classical.choose (p := fun x => x = mxN (hpN c a sb) 21) ⟨_, rfl⟩
theorem gh_eq (c a : Nat) (sb : Nat → Bool) : gh c a sb = mxN (hpN c a sb) 21 := Classical.choose_spec (p := fun x => x = mxN (hpN c a sb) 21) ⟨_, rfl⟩
theorem gh_le (c a : Nat) (sb : Nat → Bool) (j : Nat) : mxN (hpN c a sb) j ≤ 81 := by
  induction j with
  | zero => exact Nat.zero_le _
  | succ n ih => have : hpN c a sb n ≤ 81 := cN_le _ _; simp only [mxN]; omega
theorem heap_up {c a i : Nat} {sb : Nat → Bool} {h2 : Nat → Nat} (h : ∀ x, x < 21 → h2 x = cN (fun k => sb k && decide (pins c a k = x)) i) (hs : sb i = true) : ∀ x, x < 21 → va_up h2 (pins c a i) (h2 (pins c a i) + 1) x = cN (fun k => sb k && decide (pins c a k = x)) (i + 1) := by
  intro x hx
  simp only [cN, hs, Bool.true_and]
  by_cases e : pins c a i = x
  · subst e; simp [va_up, h _ hx]
  · simp only [va_up, if_neg (fun q => e (Eq.symm q)), h x hx]; simp [e]
/-- the least bad of the first codes: it, whether it is of the set, how many it leaves -/
noncomputable def lbS (c : Nat) (sb : Nat → Bool) (only : Bool) : Nat → Int32 × Bool × Nat
  | 0 => (-1, false, 82)
  | n + 1 => if (sb n = true ∨ only = false) ∧ (gh c n sb < (lbS c sb only n).2.2 ∨ gh c n sb = (lbS c sb only n).2.2 ∧ sb n = true ∧ (lbS c sb only n).2.1 = false) then (nI n, sb n, gh c n sb) else lbS c sb only n
theorem lbS_step (c : Nat) (sb : Nat → Bool) (only : Bool) (n : Nat) : lbS c sb only (n + 1) = if (sb n = true ∨ only = false) ∧ (gh c n sb < (lbS c sb only n).2.2 ∨ gh c n sb = (lbS c sb only n).2.2 ∧ sb n = true ∧ (lbS c sb only n).2.1 = false) then (nI n, sb n, gh c n sb) else lbS c sb only n := rfl
noncomputable def lbR (c : Nat) (sb : Nat → Bool) (only : Bool) : Int32 := if cN sb 81 = 0 then -1 else (lbS c sb only (qq c)).1
section PALF
variable {p : Program} {l : Launch} {e : Env} {R : Room} {s : State} {m : MethodId} {args : Array Value} {below : List Frame} {meth : Method} {c9 : Code} {H : Heap} {locs : List Loc} {cells slots : Nat} {Q : State → Prop}
variable {cc : ByteArray} {pc : Nat} {ls : Array Slot} {rest : List Value} {D : va_G} {tys : List (ClassId × FieldType)} {ws : va_W} {Ts : List Cond}
theorem x_codes (hx : p.tables.exec = Jvm.exec) (hb : c9.code = cc) (hts : ∀ w ∈ Ts, w.before args s = true) (hin : ∀ w ∈ wsX00, w ∈ Ts) (hown : s.vm.findClass RX1 = some m.cls) (hK : va_K D vwCl tys s) (hP : va_P D vwCl ws H) {cI cG : ClassId} {q c : Nat} (h : PalOK cI cG ws q c) (hN : va_Nw (.fieldLinkNest RX1 114 RX0 "codes" "I" RX1) s) (hdg : decode cc pc = .ok (.getfield 114, 3))
    (kk : W p l e R s m args below meth c9 H locs cells slots Q (F0 m (pc + 3) ls (.int (nI (qq c)) :: rest))) : W p l e R s m args below meth c9 H locs cells slots Q (F0 m pc ls (.ref q :: rest)) := by
  obtain ⟨cd, tb, kq, kc, kt, fc, ft, e1, e2⟩ := h
  exact va_getN (D := D) (ci := 0) (v := .int (nI (qq c))) (C := RX0) (T := TX0) (N := 4) hx hb hts hin hown hK hP kq e1 rfl 1 (by decide) (va_Nw.use rfl hN) (fun _ h9 => h9) rfl hdg kk
theorem x_colours (hx : p.tables.exec = Jvm.exec) (hb : c9.code = cc) (hts : ∀ w ∈ Ts, w.before args s = true) (hin : ∀ w ∈ wsX00, w ∈ Ts) (hown : s.vm.findClass RX1 = some m.cls) (hK : va_K D vwCl tys s) (hP : va_P D vwCl ws H) {cI cG : ClassId} {q c : Nat} (h : PalOK cI cG ws q c) (hN : va_Nw (.fieldLinkNest RX1 61 RX0 "colours" "I" RX1) s) (hdg : decode cc pc = .ok (.getfield 61, 3))
    (kk : W p l e R s m args below meth c9 H locs cells slots Q (F0 m (pc + 3) ls (.int (nI c) :: rest))) : W p l e R s m args below meth c9 H locs cells slots Q (F0 m pc ls (.ref q :: rest)) := by
  obtain ⟨cd, tb, kq, kc, kt, fc, ft, e1, e2⟩ := h
  exact va_getN (D := D) (ci := 0) (v := .int (nI c)) (C := RX0) (T := TX0) (N := 4) hx hb hts hin hown hK hP kq e1 rfl 0 (by decide) (va_Nw.use rfl hN) (fun _ h9 => h9) rfl hdg kk
end PALF
theorem memA_no {sb : Nat → Bool} {v : Int32} {i : Nat} (h3 : memA sb v i = -1) (h : sb i = true → ¬ nI (cN sb i) = v) : memA sb v (i + 1) = -1 := by
  rw [memA, if_pos h3, if_neg (fun q => h q.1 q.2)]
theorem heap_no {c a i : Nat} {sb : Nat → Bool} {h2 : Nat → Nat} (h : ∀ x, x < 21 → h2 x = cN (fun k => sb k && decide (pins c a k = x)) i) (hs : sb i = false) : ∀ x, x < 21 → h2 x = cN (fun k => sb k && decide (pins c a k = x)) (i + 1) := by
  intro x hx
  simp only [cN, hs, Bool.false_and, h x hx]; rfl
theorem lbS_upd {c : Nat} {sb : Nat → Bool} {only : Bool} {i few : Nat} {inn : Bool} (hi : inn = (lbS c sb only i).2.1) (hf : few = (lbS c sb only i).2.2) (h1 : sb i = true ∨ only = false) (h2 : gh c i sb < few ∨ gh c i sb = few ∧ sb i = true ∧ inn = false) : lbS c sb only (i + 1) = (nI i, sb i, gh c i sb) := by
  subst hi; subst hf; exact if_pos ⟨h1, h2⟩
theorem lbS_nup {c : Nat} {sb : Nat → Bool} {only : Bool} {i few : Nat} {inn : Bool} (hi : inn = (lbS c sb only i).2.1) (hf : few = (lbS c sb only i).2.2) (h : ¬ ((sb i = true ∨ only = false) ∧ (gh c i sb < few ∨ gh c i sb = few ∧ sb i = true ∧ inn = false))) : lbS c sb only (i + 1) = lbS c sb only i := by
  subst hi; subst hf; exact if_neg h
theorem lb_n1 {P : Prop} {x y : Bool} (h1 : x = false) (h2 : y = true) : ¬ ((x = true ∨ y = false) ∧ P) := by subst h1; subst h2; simp
theorem lb_n2 {P : Prop} {a b : Nat} {Q : Prop} (h1 : b ≤ a) (h2 : ¬ a = b) : ¬ (P ∧ (a < b ∨ a = b ∧ Q)) := fun q => q.2.elim (fun h => by omega) (fun h => h2 h.1)
theorem lb_n3 {P : Prop} {a b : Nat} {x : Bool} {Q : Prop} (h1 : b ≤ a) (h2 : x = false) : ¬ (P ∧ (a < b ∨ a = b ∧ x = true ∧ Q)) := fun q => q.2.elim (fun h => by omega) (fun h => by have := h.2.1; rw [h2] at this; cases this)
theorem lb_n4 {P : Prop} {a b : Nat} {x : Bool} {Q : Prop} (h1 : b ≤ a) (h2 : x = true) : ¬ (P ∧ (a < b ∨ a = b ∧ Q ∧ x = false)) := fun q => q.2.elim (fun h => by omega) (fun h => by have := h.2.2; rw [h2] at this; cases this)
theorem gh_le81 (c a : Nat) (sb : Nat → Bool) : gh c a sb ≤ 81 := by rw [gh_eq]; exact gh_le c a sb 21
end
section
set_option maxHeartbeats 4000000 in
set_option maxRecDepth 100000 in
theorem c_X0_hasCode (l : Launch) (D : va_G) (cI cZ cG cJ : ClassId) (A : Nat → Prop) (w : va_W) (q : Nat) (c : Nat) (v : Int32) (hpal : PalOK cI cG w q c) (hc : c = 2 ∨ c = 3) : Met l yX0_hasCode wsX0_hasCode ({ frames := 0, cells := 0, slots := 0, locals := 0 }) (va_Pc [.ref (q), .int (v)] (Iv D (TY cI cZ cG cJ) A (w))) (vp_Si (fun r => r = bI (hasC c v))) 0 0 (fun _ => False) := by
  refine Met.ofW (cc := cX0_hasCode) (maxL := 2) (ret := (some .boolean)) (by decide) rfl ?_
  intro p e s m args below meth c9 s₁ B hml hv
  obtain ⟨rfl, hP, hD, hB⟩ := hv
  have hK := hB.1
  have hA := hB.2.1
  have hx := B.exec
  have hb := B.bytes
  have hr := B.returns
  have hts := atoms_spec (ws := wsX0_hasCode) B.pre
  have hown : s.vm.findClass RX0 = some m.cls := findClass_of_methodNamed B.named
  have hlocks := B.notSynchronized
  have hS : va_S A s.heap s.heap [] := va_S.rf
  have hinX0 : ∀ w ∈ wsX00, w ∈ wsX0_hasCode := by decide +kernel
  have lk15 := hts (.fieldLink RX0 15 "HiddenCandles$Palette" "codes" "I") (by decide +kernel)
  have hl := lv_entry ([.ref (q), .int (v)]) (n := 2) (Nat.le_of_ble_eq_true rfl)
  rw [lg_entry_eq]
  generalize (lg_sl ([.ref (q), .int (v)]) ++ List.replicate (2 - (lg_sl ([.ref (q), .int (v)])).length) Slot.unset).toArray = ls at hl ⊢
  have hl : lv_has ls 2 [(0, .ref (q)), (1, .int (v))] := hl
  have hq := qq_in hc
  obtain ⟨cd, tb, kq, kc, kt, fc, ft, e1, e2, e3, e4, e5⟩ := id hpal
  refine lv_iload_n hx hb dX0_hasCode_0 rfl (lv_at hl 1 rfl) ?_
  refine lv_if_lt (tgt := 16) hx hb dX0_hasCode_1 (by decide) (fun c1 => ?_) (fun c1 => ?_)
  · skip
    refine lv_iconst (v := bI (false)) hx hb dX0_hasCode_16 (by decide) ?_
    exact W.zret (v := bI (false)) hx hb hr (bI_narrow _) (fun t ht hW => ⟨_, rfl, (by
        first | rw [hasC_f1 c1] | rw [hasC_f2 c9] | rw [hasC_t c1 c9]), ht⟩) (fun _ h => nomatch h) dX0_hasCode_17
  · skip
    refine lv_iload_n hx hb dX0_hasCode_4 rfl (lv_at hl 1 rfl) ?_
    refine lv_aload_n hx hb dX0_hasCode_5 rfl (lv_at hl 0 rfl) ?_
    refine va_get (D := D) (ci := 0) (v := .int (nI (qq c))) (C := RX0) (T := TX0) (N := 4) hx hb hts hinX0 hown hK hP kq e1 rfl 1 (by decide) lk15 (fun _ h9 => h9) rfl dX0_hasCode_6 ?_
    refine lv_icmp_ge (tgt := 16) hx hb dX0_hasCode_9 (by decide) (fun c9 => ?_) (fun c9 => ?_)
    · skip
      refine lv_iconst (v := bI (false)) hx hb dX0_hasCode_16 (by decide) ?_
      exact W.zret (v := bI (false)) hx hb hr (bI_narrow _) (fun t ht hW => ⟨_, rfl, (by
          first | rw [hasC_f1 c1] | rw [hasC_f2 c9] | rw [hasC_t c1 c9]), ht⟩) (fun _ h => nomatch h) dX0_hasCode_17
    · skip
      refine lv_iconst (v := bI (true)) hx hb dX0_hasCode_12 (by decide) ?_
      refine lv_goto (tgt := 17) hx hb dX0_hasCode_13 (by decide) ?_
      exact W.zret (v := bI (true)) hx hb hr (bI_narrow _) (fun t ht hW => ⟨_, rfl, (by
          first | rw [hasC_f1 c1] | rw [hasC_f2 c9] | rw [hasC_t c1 c9]), ht⟩) (fun _ h => nomatch h) dX0_hasCode_17

set_option maxHeartbeats 4000000 in
set_option maxRecDepth 100000 in
theorem c_X0_colourOf (l : Launch) (D : va_G) (cI cZ cG cJ : ClassId) (A : Nat → Prop) (w : va_W) (q : Nat) (c : Nat) (k : Nat) (pl : Nat) (hpal : PalOK cI cG w q c) (hc : c = 2 ∨ c = 3) (hk : k < qq c) (hp : pl < 4) : Met l yX0_colourOf wsX0_colourOf ({ frames := 1, cells := 0, slots := 0, locals := 21 }) (va_Pc [.ref (q), .int (nI (k)), .int (nI (pl))] (Iv D (TY cI cZ cG cJ) A (w))) (vp_Si (fun r => r = nI (col c k pl))) 0 0 (fun _ => False) := by
  refine Met.ofW (cc := cX0_colourOf) (maxL := 3) (ret := (some .int)) (by decide) rfl ?_
  intro p e s m args below meth c9 s₁ B hml hv
  obtain ⟨rfl, hP, hD, hB⟩ := hv
  have hK := hB.1
  have hA := hB.2.1
  have hx := B.exec
  have hb := B.bytes
  have hr := B.returns
  have hts := atoms_spec (ws := wsX0_colourOf) B.pre
  have hown : s.vm.findClass RX0 = some m.cls := findClass_of_methodNamed B.named
  have hlocks := B.notSynchronized
  have hS : va_S A s.heap s.heap [] := va_S.rf
  have hinX0 : ∀ w ∈ wsX00, w ∈ wsX0_colourOf := by decide +kernel
  have lk20 := hts (.fieldLink RX0 20 "HiddenCandles$Palette" "candles" "[[I") (by decide +kernel)
  have hl := lv_entry ([.ref (q), .int (nI (k)), .int (nI (pl))]) (n := 3) (Nat.le_of_ble_eq_true rfl)
  rw [lg_entry_eq]
  generalize (lg_sl ([.ref (q), .int (nI (k)), .int (nI (pl))]) ++ List.replicate (3 - (lg_sl ([.ref (q), .int (nI (k)), .int (nI (pl))])).length) Slot.unset).toArray = ls at hl ⊢
  have hl : lv_has ls 3 [(0, .ref (q)), (1, .int (nI (k))), (2, .int (nI (pl)))] := hl
  have hq := qq_in hc
  obtain ⟨cd, tb, kq, kc, kt, fc, ft, e1, e2, e3, e4, e5⟩ := id hpal
  refine lv_aload_n hx hb dX0_colourOf_0 rfl (lv_at hl 0 rfl) ?_
  refine lv_iload_n hx hb dX0_colourOf_1 rfl (lv_at hl 1 rfl) ?_
  refine x_csi (va_runV (As := [.int (nI (k))]) (rest := []) ⟨hx, hb, hml, hown, hts⟩ (c_X0_hasCode l D cI cZ cG cJ A w q c (nI k) (hpal) (hc)) (cwV 1 hts gX0_colourOf_X0_hasCode rfl rfl rfl (by decide +kernel) ⟨Nat.le_of_ble_eq_true rfl, Nat.le_of_ble_eq_true rfl⟩) (prePal hB va_S.rf hP hD (hpal)) rfl rfl hl.1 rfl (lv_room (Nat.le_of_ble_eq_true rfl)) dX0_colourOf_2 ⟨Nat.le_of_ble_eq_true rfl, Nat.le_of_ble_eq_true rfl⟩) ?_
  refine x_ti (y := bI (true)) (by rw [hasC_lt hc hk]) ?_
  refine x_zeq (tgt := 28) hx hb dX0_colourOf_5 (by decide) (fun c5 => absurd c5 (by decide)) (fun c5 => ?_)
  refine lv_iload_n hx hb dX0_colourOf_8 rfl (lv_at hl 2 rfl) ?_
  refine x_lt0 (tgt := 28) hx hb dX0_colourOf_9 (by decide) (by omega) ?_
  refine lv_iload_n hx hb dX0_colourOf_12 rfl (lv_at hl 2 rfl) ?_
  refine lv_iconst (v := nI (4)) hx hb dX0_colourOf_13 (by decide) ?_
  refine x_ge (tgt := 28) hx hb dX0_colourOf_14 (by decide) (by omega) (by omega) (fun c14 => absurd c14 (by omega)) (fun c14 => ?_)
  refine lv_aload_n hx hb dX0_colourOf_17 rfl (lv_at hl 0 rfl) ?_
  refine va_get (D := D) (ci := 0) (v := .ref (cd)) (C := RX0) (T := TX0) (N := 4) hx hb hts hinX0 hown hK hP kq e1 rfl 2 (by decide) lk20 (fun _ h9 => h9) rfl dX0_colourOf_18 ?_
  refine lv_iload_n hx hb dX0_colourOf_21 rfl (lv_at hl 1 rfl) ?_
  obtain ⟨r22, k22, f22, ga22, gb22, gc22⟩ := e4 k hk
  refine x_gald hx hb hK hP kc 2 e2 rfl (i := k) (by omega) (by omega) ga22 dX0_colourOf_22 ?_
  refine lv_iload_n hx hb dX0_colourOf_23 rfl (lv_at hl 2 rfl) ?_
  refine x_iald hx hb hK hP k22 0 gb22 rfl (i := pl) (hp) (by omega) dX0_colourOf_24 ?_
  refine x_ti (y := nI (col c k pl)) (gc22 pl hp) ?_
  refine lv_goto (tgt := 29) hx hb dX0_colourOf_25 (by decide) ?_
  exact W.iret (v := nI (col c k pl)) hx hb hr (fun t ht hW => ⟨_, rfl, (by
      rfl), ht⟩) (fun _ h => nomatch h) dX0_colourOf_29

set_option maxHeartbeats 4000000 in
set_option maxRecDepth 100000 in
theorem c_X0_answerTo (l : Launch) (D : va_G) (cI cZ cG cJ : ClassId) (A : Nat → Prop) (w : va_W) (q : Nat) (c : Nat) (a : Nat) (k : Nat) (hpal : PalOK cI cG w q c) (hc : c = 2 ∨ c = 3) (ha : a < qq c) (hk : k < qq c) : Met l yX0_answerTo wsX0_answerTo ({ frames := 1, cells := 0, slots := 0, locals := 21 }) (va_Pc [.ref (q), .int (nI (a)), .int (nI (k))] (Iv D (TY cI cZ cG cJ) A (w))) (vp_Si (fun r => r = nI (pins c a k))) 0 0 (fun _ => False) := by
  refine Met.ofW (cc := cX0_answerTo) (maxL := 3) (ret := (some .int)) (by decide) rfl ?_
  intro p e s m args below meth c9 s₁ B hml hv
  obtain ⟨rfl, hP, hD, hB⟩ := hv
  have hK := hB.1
  have hA := hB.2.1
  have hx := B.exec
  have hb := B.bytes
  have hr := B.returns
  have hts := atoms_spec (ws := wsX0_answerTo) B.pre
  have hown : s.vm.findClass RX0 = some m.cls := findClass_of_methodNamed B.named
  have hlocks := B.notSynchronized
  have hS : va_S A s.heap s.heap [] := va_S.rf
  have hinX0 : ∀ w ∈ wsX00, w ∈ wsX0_answerTo := by decide +kernel
  have lk23 := hts (.fieldLink RX0 23 "HiddenCandles$Palette" "table" "[[I") (by decide +kernel)
  have hl := lv_entry ([.ref (q), .int (nI (a)), .int (nI (k))]) (n := 3) (Nat.le_of_ble_eq_true rfl)
  rw [lg_entry_eq]
  generalize (lg_sl ([.ref (q), .int (nI (a)), .int (nI (k))]) ++ List.replicate (3 - (lg_sl ([.ref (q), .int (nI (a)), .int (nI (k))])).length) Slot.unset).toArray = ls at hl ⊢
  have hl : lv_has ls 3 [(0, .ref (q)), (1, .int (nI (a))), (2, .int (nI (k)))] := hl
  have hq := qq_in hc
  obtain ⟨cd, tb, kq, kc, kt, fc, ft, e1, e2, e3, e4, e5⟩ := id hpal
  refine lv_aload_n hx hb dX0_answerTo_0 rfl (lv_at hl 0 rfl) ?_
  refine lv_iload_n hx hb dX0_answerTo_1 rfl (lv_at hl 1 rfl) ?_
  refine x_csi (va_runV (As := [.int (nI (a))]) (rest := []) ⟨hx, hb, hml, hown, hts⟩ (c_X0_hasCode l D cI cZ cG cJ A w q c (nI a) (hpal) (hc)) (cwV 1 hts gX0_answerTo_X0_hasCode rfl rfl rfl (by decide +kernel) ⟨Nat.le_of_ble_eq_true rfl, Nat.le_of_ble_eq_true rfl⟩) (prePal hB va_S.rf hP hD (hpal)) rfl rfl hl.1 rfl (lv_room (Nat.le_of_ble_eq_true rfl)) dX0_answerTo_2 ⟨Nat.le_of_ble_eq_true rfl, Nat.le_of_ble_eq_true rfl⟩) ?_
  refine x_ti (y := bI (true)) (by rw [hasC_lt hc ha]) ?_
  refine x_zeq (tgt := 27) hx hb dX0_answerTo_5 (by decide) (fun c5 => absurd c5 (by decide)) (fun c5 => ?_)
  refine lv_aload_n hx hb dX0_answerTo_8 rfl (lv_at hl 0 rfl) ?_
  refine lv_iload_n hx hb dX0_answerTo_9 rfl (lv_at hl 2 rfl) ?_
  refine x_csi (va_runV (As := [.int (nI (k))]) (rest := []) ⟨hx, hb, hml, hown, hts⟩ (c_X0_hasCode l D cI cZ cG cJ A w q c (nI k) (hpal) (hc)) (cwV 1 hts gX0_answerTo_X0_hasCode rfl rfl rfl (by decide +kernel) ⟨Nat.le_of_ble_eq_true rfl, Nat.le_of_ble_eq_true rfl⟩) (prePal hB va_S.rf hP hD (hpal)) rfl rfl hl.1 rfl (lv_room (Nat.le_of_ble_eq_true rfl)) dX0_answerTo_10 ⟨Nat.le_of_ble_eq_true rfl, Nat.le_of_ble_eq_true rfl⟩) ?_
  refine x_ti (y := bI (true)) (by rw [hasC_lt hc hk]) ?_
  refine x_zeq (tgt := 27) hx hb dX0_answerTo_13 (by decide) (fun c13 => absurd c13 (by decide)) (fun c13 => ?_)
  refine lv_aload_n hx hb dX0_answerTo_16 rfl (lv_at hl 0 rfl) ?_
  refine va_get (D := D) (ci := 0) (v := .ref (tb)) (C := RX0) (T := TX0) (N := 4) hx hb hts hinX0 hown hK hP kq e1 rfl 3 (by decide) lk23 (fun _ h9 => h9) rfl dX0_answerTo_17 ?_
  refine lv_iload_n hx hb dX0_answerTo_20 rfl (lv_at hl 1 rfl) ?_
  obtain ⟨r21, k21, f21, ga21, gb21, gc21⟩ := e5 a ha
  refine x_gald hx hb hK hP kt 2 e3 rfl (i := a) (by omega) (by omega) ga21 dX0_answerTo_21 ?_
  refine lv_iload_n hx hb dX0_answerTo_22 rfl (lv_at hl 2 rfl) ?_
  refine x_iald hx hb hK hP k21 0 gb21 rfl (i := k) (hk) (by omega) dX0_answerTo_23 ?_
  refine x_ti (y := nI (pins c a k)) (gc21 k hk) ?_
  refine lv_goto (tgt := 28) hx hb dX0_answerTo_24 (by decide) ?_
  exact W.iret (v := nI (pins c a k)) hx hb hr (fun t ht hW => ⟨_, rfl, (by
      rfl), ht⟩) (fun _ h => nomatch h) dX0_answerTo_28

set_option maxHeartbeats 4000000 in
set_option maxRecDepth 100000 in
theorem c_X1_isIn (l : Launch) (D : va_G) (cI cZ cG cJ : ClassId) (A : Nat → Prop) (w : va_W) (sa : Nat) (k0 : Nat) (sb : Nat → Bool) (k : Nat) (hset : w[k0]? = some (sa, .inl (cZ, 81, .inl (fun j => bI (sb j))))) (hk : k < 81) : Met l yX1_isIn wsX1_isIn ({ frames := 0, cells := 0, slots := 0, locals := 0 }) (va_Pc [.ref (sa), .int (nI (k))] (Iv D (TY cI cZ cG cJ) A (w))) (vp_Si (fun r => r = bI (sb k))) 0 0 (fun _ => False) := by
  refine Met.ofW (cc := cX1_isIn) (maxL := 2) (ret := (some .boolean)) (by decide) rfl ?_
  intro p e s m args below meth c9 s₁ B hml hv
  obtain ⟨rfl, hP, hD, hB⟩ := hv
  have hK := hB.1
  have hA := hB.2.1
  have hx := B.exec
  have hb := B.bytes
  have hr := B.returns
  have hts := atoms_spec (ws := wsX1_isIn) B.pre
  have hown : s.vm.findClass RX1 = some m.cls := findClass_of_methodNamed B.named
  have hlocks := B.notSynchronized
  have hS : va_S A s.heap s.heap [] := va_S.rf
  have hl := lv_entry ([.ref (sa), .int (nI (k))]) (n := 2) (Nat.le_of_ble_eq_true rfl)
  rw [lg_entry_eq]
  generalize (lg_sl ([.ref (sa), .int (nI (k))]) ++ List.replicate (2 - (lg_sl ([.ref (sa), .int (nI (k))])).length) Slot.unset).toArray = ls at hl ⊢
  have hl : lv_has ls 2 [(0, .ref (sa)), (1, .int (nI (k)))] := hl
  refine lv_iload_n hx hb dX1_isIn_0 rfl (lv_at hl 1 rfl) ?_
  refine x_lt0 (tgt := 20) hx hb dX1_isIn_1 (by decide) (by omega) ?_
  refine lv_iload_n hx hb dX1_isIn_4 rfl (lv_at hl 1 rfl) ?_
  refine lv_aload_n hx hb dX1_isIn_5 rfl (lv_at hl 0 rfl) ?_
  refine x_alen hx hb hK hP k0 1 hset rfl (n := 81) rfl dX1_isIn_6 ?_
  refine x_ge (tgt := 20) hx hb dX1_isIn_7 (by decide) (by omega) (by omega) (fun c7 => absurd c7 (by omega)) (fun c7 => ?_)
  refine lv_aload_n hx hb dX1_isIn_10 rfl (lv_at hl 0 rfl) ?_
  refine lv_iload_n hx hb dX1_isIn_11 rfl (lv_at hl 1 rfl) ?_
  refine x_zald hx hb hK hP k0 1 hset rfl (i := k) (by omega) (by omega) dX1_isIn_12 ?_
  refine x_zeq (tgt := 20) hx hb dX1_isIn_13 (by decide) (fun c13 => ?_) (fun c13 => ?_)
  · skip
    refine lv_iconst (v := bI (false)) hx hb dX1_isIn_20 (by decide) ?_
    exact W.zret (v := bI (false)) hx hb hr (bI_narrow _) (fun t ht hW => ⟨_, rfl, (by
        rw [c13]), ht⟩) (fun _ h => nomatch h) dX1_isIn_21
  · skip
    refine lv_iconst (v := bI (true)) hx hb dX1_isIn_16 (by decide) ?_
    refine lv_goto (tgt := 21) hx hb dX1_isIn_17 (by decide) ?_
    exact W.zret (v := bI (true)) hx hb hr (bI_narrow _) (fun t ht hW => ⟨_, rfl, (by
        rw [c13]), ht⟩) (fun _ h => nomatch h) dX1_isIn_21

set_option maxHeartbeats 4000000 in
set_option maxRecDepth 100000 in
theorem c_X1_size (l : Launch) (D : va_G) (cI cZ cG cJ : ClassId) (A : Nat → Prop) (w : va_W) (sa : Nat) (k0 : Nat) (sb : Nat → Bool) (hset : w[k0]? = some (sa, .inl (cZ, 81, .inl (fun j => bI (sb j))))) : Met l yX1_size wsX1_size ({ frames := 0, cells := 0, slots := 0, locals := 0 }) (va_Pc [.ref (sa)] (Iv D (TY cI cZ cG cJ) A (w))) (vp_Si (fun r => r = nI (cN sb 81))) 0 0 (fun _ => False) := by
  refine Met.ofW (cc := cX1_size) (maxL := 3) (ret := (some .int)) (by decide) rfl ?_
  intro p e s m args below meth c9 s₁ B hml hv
  obtain ⟨rfl, hP, hD, hB⟩ := hv
  have hK := hB.1
  have hA := hB.2.1
  have hx := B.exec
  have hb := B.bytes
  have hr := B.returns
  have hts := atoms_spec (ws := wsX1_size) B.pre
  have hown : s.vm.findClass RX1 = some m.cls := findClass_of_methodNamed B.named
  have hlocks := B.notSynchronized
  have hS : va_S A s.heap s.heap [] := va_S.rf
  have hl := lv_entry ([.ref (sa)]) (n := 3) (Nat.le_of_ble_eq_true rfl)
  rw [lg_entry_eq]
  generalize (lg_sl ([.ref (sa)]) ++ List.replicate (3 - (lg_sl ([.ref (sa)])).length) Slot.unset).toArray = ls at hl ⊢
  have hl : lv_has ls 3 [(0, .ref (sa))] := hl
  refine lv_iconst (v := nI (0)) hx hb dX1_size_0 (by decide) ?_
  refine lv_istore_n (lv' := [(1, .int (nI (0))), (0, .ref (sa))]) hx hb dX1_size_1 rfl hl (by decide) rfl (fun ls hl => ?_)
  refine lv_iconst (v := nI (0)) hx hb dX1_size_2 (by decide) ?_
  refine lv_istore_n (lv' := [(2, .int (nI (0))), (1, .int (nI (0))), (0, .ref (sa))]) hx hb dX1_size_3 rfl hl (by decide) rfl (fun ls hl => ?_)
  -- loop at 4
  have hinv : 0 ≤ 81 ∧ 0 = cN sb 0 := by
    exact ⟨by omega, rfl⟩
  obtain ⟨i, r, hq9⟩ : ∃ (i : Nat) (r : Nat), lv_has ls 3 [(0, .ref (sa)), (1, .int (nI (r))), (2, .int (nI (i)))] ∧ (i ≤ 81 ∧ r = cN sb i) := ⟨0, 0, lv_sub hl [2, 1, 0] rfl, hinv⟩
  clear hl hinv
  obtain ⟨hl, hinv⟩ := hq9
  obtain ⟨n9_4, hn9⟩ : ∃ q : Nat, 81 - i < q := ⟨_, Nat.lt_succ_self _⟩
  induction n9_4 generalizing ls i r with
  | zero => exact absurd hn9 (Nat.not_lt_zero _)
  | succ n9_4 ih4 =>
    obtain ⟨h1, h2⟩ := hinv; have hle := cN_le sb i
    refine lv_iload_n hx hb dX1_size_4 rfl (lv_at hl 2 rfl) ?_
    refine lv_aload_n hx hb dX1_size_5 rfl (lv_at hl 0 rfl) ?_
    refine x_alen hx hb hK hP k0 1 hset rfl (n := 81) rfl dX1_size_6 ?_
    refine x_ge (tgt := 25) hx hb dX1_size_7 (by decide) (by omega) (by omega) (fun c7 => ?_) (fun c7 => ?_)
    · skip
      refine lv_iload_n hx hb dX1_size_25 rfl (lv_at hl 1 rfl) ?_
      exact W.iret (v := nI (r)) hx hb hr (fun t ht hW => ⟨_, rfl, (by
          have : i = 81 := by omega
          subst this
          rw [h2]), ht⟩) (fun _ h => nomatch h) dX1_size_26
    · skip
      refine lv_aload_n hx hb dX1_size_10 rfl (lv_at hl 0 rfl) ?_
      refine lv_iload_n hx hb dX1_size_11 rfl (lv_at hl 2 rfl) ?_
      refine x_zald hx hb hK hP k0 1 hset rfl (i := i) (by omega) (by omega) dX1_size_12 ?_
      refine x_zeq (tgt := 19) hx hb dX1_size_13 (by decide) (fun c13 => ?_) (fun c13 => ?_)
      · skip
        refine lv_iinc (v := nI (i + 1)) (lv' := [(2, .int (nI (i + 1))), (0, .ref (sa)), (1, .int (nI (r)))]) hx hb dX1_size_19 hl (k := 2) rfl (nI_add _ _) (by decide) rfl (fun ls hl => ?_)
        refine lv_goto (tgt := 4) hx hb dX1_size_22 (by decide) ?_
        exact ih4 (i := i + 1) (r := r) (ls := ls) (hl := lv_sub hl [1, 2, 0] rfl) (hinv := by
            exact ⟨by omega, by simp [cN, h2, c13]⟩
          ) (hn9 := by
            omega
          )
      · skip
        refine lv_iinc (v := nI (r + 1)) (lv' := [(1, .int (nI (r + 1))), (0, .ref (sa)), (2, .int (nI (i)))]) hx hb dX1_size_16 hl (k := 1) rfl (nI_add _ _) (by decide) rfl (fun ls hl => ?_)
        refine lv_iinc (v := nI (i + 1)) (lv' := [(2, .int (nI (i + 1))), (1, .int (nI (r + 1))), (0, .ref (sa))]) hx hb dX1_size_19 hl (k := 2) rfl (nI_add _ _) (by decide) rfl (fun ls hl => ?_)
        refine lv_goto (tgt := 4) hx hb dX1_size_22 (by decide) ?_
        exact ih4 (i := i + 1) (r := r + 1) (ls := ls) (hl := lv_sub hl [2, 1, 0] rfl) (hinv := by
            exact ⟨by omega, by simp [cN, h2, c13]⟩
          ) (hn9 := by
            omega
          )

set_option maxHeartbeats 4000000 in
set_option maxRecDepth 100000 in
theorem c_X1_memberAt (l : Launch) (D : va_G) (cI cZ cG cJ : ClassId) (A : Nat → Prop) (w : va_W) (sa : Nat) (k0 : Nat) (sb : Nat → Bool) (v : Int32) (hset : w[k0]? = some (sa, .inl (cZ, 81, .inl (fun j => bI (sb j))))) : Met l yX1_memberAt wsX1_memberAt ({ frames := 0, cells := 0, slots := 0, locals := 0 }) (va_Pc [.ref (sa), .int (v)] (Iv D (TY cI cZ cG cJ) A (w))) (vp_Si (fun r => r = memA sb v 81)) 0 0 (fun _ => False) := by
  refine Met.ofW (cc := cX1_memberAt) (maxL := 4) (ret := (some .int)) (by decide) rfl ?_
  intro p e s m args below meth c9 s₁ B hml hv
  obtain ⟨rfl, hP, hD, hB⟩ := hv
  have hK := hB.1
  have hA := hB.2.1
  have hx := B.exec
  have hb := B.bytes
  have hr := B.returns
  have hts := atoms_spec (ws := wsX1_memberAt) B.pre
  have hown : s.vm.findClass RX1 = some m.cls := findClass_of_methodNamed B.named
  have hlocks := B.notSynchronized
  have hS : va_S A s.heap s.heap [] := va_S.rf
  have hl := lv_entry ([.ref (sa), .int (v)]) (n := 4) (Nat.le_of_ble_eq_true rfl)
  rw [lg_entry_eq]
  generalize (lg_sl ([.ref (sa), .int (v)]) ++ List.replicate (4 - (lg_sl ([.ref (sa), .int (v)])).length) Slot.unset).toArray = ls at hl ⊢
  have hl : lv_has ls 4 [(0, .ref (sa)), (1, .int (v))] := hl
  refine lv_iconst (v := nI (0)) hx hb dX1_memberAt_0 (by decide) ?_
  refine lv_istore_n (lv' := [(2, .int (nI (0))), (0, .ref (sa)), (1, .int (v))]) hx hb dX1_memberAt_1 rfl hl (by decide) rfl (fun ls hl => ?_)
  refine lv_iconst (v := nI (0)) hx hb dX1_memberAt_2 (by decide) ?_
  refine lv_istore_n (lv' := [(3, .int (nI (0))), (2, .int (nI (0))), (0, .ref (sa)), (1, .int (v))]) hx hb dX1_memberAt_3 rfl hl (by decide) rfl (fun ls hl => ?_)
  -- loop at 4
  have hinv : 0 ≤ 81 ∧ 0 = cN sb 0 ∧ memA sb v 0 = -1 := by
    exact ⟨by omega, rfl, rfl⟩
  obtain ⟨i, r, hq9⟩ : ∃ (i : Nat) (r : Nat), lv_has ls 4 [(0, .ref (sa)), (1, .int (v)), (2, .int (nI (r))), (3, .int (nI (i)))] ∧ (i ≤ 81 ∧ r = cN sb i ∧ memA sb v i = -1) := ⟨0, 0, lv_sub hl [2, 3, 1, 0] rfl, hinv⟩
  clear hl hinv
  obtain ⟨hl, hinv⟩ := hq9
  obtain ⟨n9_4, hn9⟩ : ∃ q : Nat, 81 - i < q := ⟨_, Nat.lt_succ_self _⟩
  induction n9_4 generalizing ls i r with
  | zero => exact absurd hn9 (Nat.not_lt_zero _)
  | succ n9_4 ih4 =>
    obtain ⟨h1, h2, h3⟩ := hinv; have hle := cN_le sb i
    refine lv_iload_n hx hb dX1_memberAt_4 rfl (lv_at hl 3 rfl) ?_
    refine lv_aload_n hx hb dX1_memberAt_5 rfl (lv_at hl 0 rfl) ?_
    refine x_alen hx hb hK hP k0 1 hset rfl (n := 81) rfl dX1_memberAt_6 ?_
    refine x_ge (tgt := 32) hx hb dX1_memberAt_7 (by decide) (by omega) (by omega) (fun c7 => ?_) (fun c7 => ?_)
    · skip
      refine lv_iconst (v := (-1)) hx hb dX1_memberAt_32 (by decide) ?_
      exact W.iret (v := (-1)) hx hb hr (fun t ht hW => ⟨_, rfl, (by
          have : i = 81 := by omega
          subst this
          rw [h3]), ht⟩) (fun _ h => nomatch h) dX1_memberAt_33
    · skip
      refine lv_aload_n hx hb dX1_memberAt_10 rfl (lv_at hl 0 rfl) ?_
      refine lv_iload_n hx hb dX1_memberAt_11 rfl (lv_at hl 3 rfl) ?_
      refine x_zald hx hb hK hP k0 1 hset rfl (i := i) (by omega) (by omega) dX1_memberAt_12 ?_
      refine x_zeq (tgt := 26) hx hb dX1_memberAt_13 (by decide) (fun c13 => ?_) (fun c13 => ?_)
      · skip
        refine lv_iinc (v := nI (i + 1)) (lv' := [(3, .int (nI (i + 1))), (0, .ref (sa)), (1, .int (v)), (2, .int (nI (r)))]) hx hb dX1_memberAt_26 hl (k := 3) rfl (nI_add _ _) (by decide) rfl (fun ls hl => ?_)
        refine lv_goto (tgt := 4) hx hb dX1_memberAt_29 (by decide) ?_
        exact ih4 (i := i + 1) (r := r) (ls := ls) (hl := lv_sub hl [1, 2, 3, 0] rfl) (hinv := by
            exact ⟨by omega, by simp [cN, h2, c13], memA_no h3 (by first | (intro q; rw [c13] at q; cases q; done) | (rw [h2] at c18; exact fun _ => c18))⟩
          ) (hn9 := by
            omega
          )
      · skip
        refine lv_iload_n hx hb dX1_memberAt_16 rfl (lv_at hl 2 rfl) ?_
        refine lv_iload_n hx hb dX1_memberAt_17 rfl (lv_at hl 1 rfl) ?_
        refine lv_icmp_ne (tgt := 23) hx hb dX1_memberAt_18 (by decide) (fun c18 => ?_) (fun c18 => ?_)
        · skip
          refine lv_iinc (v := nI (r + 1)) (lv' := [(2, .int (nI (r + 1))), (0, .ref (sa)), (1, .int (v)), (3, .int (nI (i)))]) hx hb dX1_memberAt_23 hl (k := 2) rfl (nI_add _ _) (by decide) rfl (fun ls hl => ?_)
          refine lv_iinc (v := nI (i + 1)) (lv' := [(3, .int (nI (i + 1))), (2, .int (nI (r + 1))), (0, .ref (sa)), (1, .int (v))]) hx hb dX1_memberAt_26 hl (k := 3) rfl (nI_add _ _) (by decide) rfl (fun ls hl => ?_)
          refine lv_goto (tgt := 4) hx hb dX1_memberAt_29 (by decide) ?_
          exact ih4 (i := i + 1) (r := r + 1) (ls := ls) (hl := lv_sub hl [2, 3, 1, 0] rfl) (hinv := by
              exact ⟨by omega, by simp [cN, h2, c13], memA_no h3 (by first | (intro q; rw [c13] at q; cases q; done) | (rw [h2] at c18; exact fun _ => c18))⟩
            ) (hn9 := by
              omega
            )
        · skip
          refine lv_iload_n hx hb dX1_memberAt_21 rfl (lv_at hl 3 rfl) ?_
          exact W.iret (v := nI (i)) hx hb hr (fun t ht hW => ⟨_, rfl, (by
              rw [h2] at c18
              exact (memA_hit (by omega) h3 c13 c18).symm), ht⟩) (fun _ h => nomatch h) dX1_memberAt_22
end
section
set_option maxHeartbeats 4000000 in
set_option maxRecDepth 100000 in
theorem c_X1_fits (l : Launch) (D : va_G) (cI cZ cG cJ : ClassId) (A : Nat → Prop) (ad : Nat → Nat) (wr : va_W) (hpal : Pals cI cG ad wr) (c : Nat) (g : Nat) (hid : Int32) (code : Nat → Nat) (ans : Nat → Nat) (dbt : Nat → Bool) (opn : Nat → Bool) (ply : Nat → Bool) (hps : Nat → Nat) (k : Nat) (n : Nat) (hc : c = 2 ∨ c = 3) (hk : k < qq c) (hn : n ≤ 12) (hco : CodeOK c n code ans) : Met l yX1_fits wsX1_fits ({ frames := 2, cells := 0, slots := 0, locals := 43 }) (va_Pc [.ref (ad 0), .int (nI (k)), .int (nI (n))] (Iv D (TY cI cZ cG cJ) A (WX ad cI cZ c g hid code ans dbt opn ply hps wr))) (vp_Si (fun r => r = bI (fit c code ans dbt n k))) 0 0 (fun _ => False) := by
  refine Met.ofW (cc := cX1_fits) (maxL := 4) (ret := (some .boolean)) (by decide) rfl ?_
  intro p e s m args below meth c9 s₁ B hml hv
  obtain ⟨rfl, hP, hD, hB⟩ := hv
  have hK := hB.1
  have hA := hB.2.1
  have hx := B.exec
  have hb := B.bytes
  have hr := B.returns
  have hts := atoms_spec (ws := wsX1_fits) B.pre
  have hown : s.vm.findClass RX1 = some m.cls := findClass_of_methodNamed B.named
  have hlocks := B.notSynchronized
  have hS : va_S A s.heap s.heap [] := va_S.rf
  have hinX1 : ∀ w ∈ wsX10, w ∈ wsX1_fits := by decide +kernel
  have lk21 := hts (.fieldLink RX1 21 "HiddenCandles" "palette" "LHiddenCandles$Palette;") (by decide +kernel)
  have lk31 := hts (.fieldLink RX1 31 "HiddenCandles" "guessed" "[I") (by decide +kernel)
  have lk35 := hts (.fieldLink RX1 35 "HiddenCandles" "answers" "[I") (by decide +kernel)
  have lk38 := hts (.fieldLink RX1 38 "HiddenCandles" "doubted" "[Z") (by decide +kernel)
  have hl := lv_entry ([.ref (ad 0), .int (nI (k)), .int (nI (n))]) (n := 4) (Nat.le_of_ble_eq_true rfl)
  rw [lg_entry_eq]
  generalize (lg_sl ([.ref (ad 0), .int (nI (k)), .int (nI (n))]) ++ List.replicate (4 - (lg_sl ([.ref (ad 0), .int (nI (k)), .int (nI (n))])).length) Slot.unset).toArray = ls at hl ⊢
  have hl : lv_has ls 4 [(0, .ref (ad 0)), (1, .int (nI (k))), (2, .int (nI (n)))] := hl
  have hq := qq_in hc
  refine lv_iconst (v := nI (0)) hx hb dX1_fits_0 (by decide) ?_
  refine lv_istore_n (lv' := [(3, .int (nI (0))), (0, .ref (ad 0)), (1, .int (nI (k))), (2, .int (nI (n)))]) hx hb dX1_fits_1 rfl hl (by decide) rfl (fun ls hl => ?_)
  -- loop at 2
  have hinv : 0 ≤ n ∧ fit c code ans dbt 0 k = true := by
    exact ⟨Nat.zero_le _, rfl⟩
  obtain ⟨i, hq9⟩ : ∃ (i : Nat), lv_has ls 4 [(0, .ref (ad 0)), (1, .int (nI (k))), (2, .int (nI (n))), (3, .int (nI (i)))] ∧ (i ≤ n ∧ fit c code ans dbt i k = true) := ⟨0, lv_sub hl [1, 2, 3, 0] rfl, hinv⟩
  clear hl hinv
  obtain ⟨hl, hinv⟩ := hq9
  obtain ⟨n9_2, hn9⟩ : ∃ q : Nat, n - i < q := ⟨_, Nat.lt_succ_self _⟩
  induction n9_2 generalizing ls i with
  | zero => exact absurd hn9 (Nat.not_lt_zero _)
  | succ n9_2 ih2 =>
    obtain ⟨h1, h2⟩ := hinv
    refine lv_iload_n hx hb dX1_fits_2 rfl (lv_at hl 3 rfl) ?_
    refine lv_iload_n hx hb dX1_fits_3 rfl (lv_at hl 2 rfl) ?_
    refine x_ge (tgt := 53) hx hb dX1_fits_4 (by decide) (by omega) (by omega) (fun c4 => ?_) (fun c4 => ?_)
    · skip
      refine lv_iconst (v := bI (true)) hx hb dX1_fits_53 (by decide) ?_
      exact W.zret (v := bI (true)) hx hb hr (bI_narrow _) (fun t ht hW => ⟨_, rfl, (by
          have e9 : i = n := by omega
          subst e9
          rw [h2]), ht⟩) (fun _ h => nomatch h) dX1_fits_54
    · skip
      refine lv_iload_n hx hb dX1_fits_7 rfl (lv_at hl 3 rfl) ?_
      refine lv_bipush (v := nI (12)) hx hb dX1_fits_8 (by decide) ?_
      refine x_ge (tgt := 53) hx hb dX1_fits_10 (by decide) (by omega) (by omega) (fun c10 => absurd c10 (by omega)) (fun c10 => ?_)
      refine lv_aload_n hx hb dX1_fits_13 rfl (lv_at hl 0 rfl) ?_
      refine va_get (D := D) (ci := 1) (v := .ref (ad 3)) (C := RX1) (T := TX1) (N := 11) hx hb hts hinX1 hown hK hP 0 rfl rfl 7 (by decide) lk38 (fun _ h9 => h9) rfl dX1_fits_14 ?_
      refine lv_iload_n hx hb dX1_fits_17 rfl (lv_at hl 3 rfl) ?_
      refine x_zald hx hb hK hP 3 1 rfl rfl (i := i) (by omega) (by omega) dX1_fits_18 ?_
      refine x_zne (tgt := 47) hx hb dX1_fits_19 (by decide) (fun c19 => ?_) (fun c19 => ?_)
      · skip
        refine lv_iinc (v := nI (i + 1)) (lv' := [(3, .int (nI (i + 1))), (0, .ref (ad 0)), (1, .int (nI (k))), (2, .int (nI (n)))]) hx hb dX1_fits_47 hl (k := 3) rfl (nI_add _ _) (by decide) rfl (fun ls hl => ?_)
        refine lv_goto (tgt := 2) hx hb dX1_fits_50 (by decide) ?_
        exact ih2 (i := i + 1) (ls := ls) (hl := lv_sub hl [1, 2, 3, 0] rfl) (hinv := by
            refine ⟨by omega, ?_⟩
            first | (simp [fit, h2, c19]; done) | (simp [fit, h2, c42]; done)
          ) (hn9 := by
            omega
          )
      · skip
        refine lv_aload_n hx hb dX1_fits_22 rfl (lv_at hl 0 rfl) ?_
        refine va_get (D := D) (ci := 1) (v := .ref (pal ad c)) (C := RX1) (T := TX1) (N := 11) hx hb hts hinX1 hown hK hP 0 rfl rfl 2 (by decide) lk21 (fun _ h9 => h9) rfl dX1_fits_23 ?_
        refine lv_aload_n hx hb dX1_fits_26 rfl (lv_at hl 0 rfl) ?_
        refine va_get (D := D) (ci := 1) (v := .ref (ad 1)) (C := RX1) (T := TX1) (N := 11) hx hb hts hinX1 hown hK hP 0 rfl rfl 5 (by decide) lk31 (fun _ h9 => h9) rfl dX1_fits_27 ?_
        refine lv_iload_n hx hb dX1_fits_30 rfl (lv_at hl 3 rfl) ?_
        refine x_iald hx hb hK hP 1 0 rfl rfl (i := i) (by omega) (by omega) dX1_fits_31 ?_
        refine lv_iload_n hx hb dX1_fits_32 rfl (lv_at hl 1 rfl) ?_
        refine x_csi (va_runVN (As := [.int (nI (code i)), .int (nI (k))]) (rest := []) ⟨hx, hb, hml, hown, hts⟩ (c_X0_answerTo l D cI cZ cG cJ A (WX ad cI cZ c g hid code ans dbt opn ply hps wr) (pal ad c) c (code i) k (palX hpal hc) (hc) ((hco i c4).1) (hk)) ⟨va_cnB (host := RX1) 2 hts gX1_fits_X0_answerTo_n77 rfl rfl rfl (hB.2.2.2.2.1 _ (by simp [Nws])) (hts _ (by decide +kernel)) (by decide +kernel) ⟨Nat.le_of_ble_eq_true rfl, Nat.le_of_ble_eq_true rfl⟩, hts _ (by decide +kernel), hts _ (by decide +kernel)⟩ (prePal hB va_S.rf hP hD (palX hpal hc)) rfl rfl hl.1 rfl (lv_room (Nat.le_of_ble_eq_true rfl)) dX1_fits_33 ⟨Nat.le_of_ble_eq_true rfl, Nat.le_of_ble_eq_true rfl⟩) ?_
        have hpi := pins_le hc ((hco i c4).1) (hk)
        refine lv_aload_n hx hb dX1_fits_36 rfl (lv_at hl 0 rfl) ?_
        refine va_get (D := D) (ci := 1) (v := .ref (ad 2)) (C := RX1) (T := TX1) (N := 11) hx hb hts hinX1 hown hK hP 0 rfl rfl 6 (by decide) lk35 (fun _ h9 => h9) rfl dX1_fits_37 ?_
        refine lv_iload_n hx hb dX1_fits_40 rfl (lv_at hl 3 rfl) ?_
        refine x_iald hx hb hK hP 2 0 rfl rfl (i := i) (by omega) (by omega) dX1_fits_41 ?_
        have hai := (hco i c4).2
        refine x_eq (tgt := 47) hx hb dX1_fits_42 (by decide) (by omega) (by omega) (fun c42 => ?_) (fun c42 => ?_)
        · skip
          refine lv_iinc (v := nI (i + 1)) (lv' := [(3, .int (nI (i + 1))), (0, .ref (ad 0)), (1, .int (nI (k))), (2, .int (nI (n)))]) hx hb dX1_fits_47 hl (k := 3) rfl (nI_add _ _) (by decide) rfl (fun ls hl => ?_)
          refine lv_goto (tgt := 2) hx hb dX1_fits_50 (by decide) ?_
          exact ih2 (i := i + 1) (ls := ls) (hl := lv_sub hl [1, 2, 3, 0] rfl) (hinv := by
              refine ⟨by omega, ?_⟩
              first | (simp [fit, h2, c19]; done) | (simp [fit, h2, c42]; done)
            ) (hn9 := by
              omega
            )
        · skip
          refine lv_iconst (v := bI (false)) hx hb dX1_fits_45 (by decide) ?_
          exact W.zret (v := bI (false)) hx hb hr (bI_narrow _) (fun t ht hW => ⟨_, rfl, (by
              rw [fit_false c4 c19 c42]), ht⟩) (fun _ h => nomatch h) dX1_fits_46

set_option maxHeartbeats 4000000 in
set_option maxRecDepth 100000 in
theorem c_X1_countFitting (l : Launch) (D : va_G) (cI cZ cG cJ : ClassId) (A : Nat → Prop) (ad : Nat → Nat) (wr : va_W) (hpal : Pals cI cG ad wr) (c : Nat) (g : Nat) (hid : Int32) (code : Nat → Nat) (ans : Nat → Nat) (dbt : Nat → Bool) (opn : Nat → Bool) (ply : Nat → Bool) (hps : Nat → Nat) (n : Nat) (hc : c = 2 ∨ c = 3) (hn : n ≤ 12) (hco : CodeOK c n code ans) : Met l yX1_countFitting wsX1_countFitting ({ frames := 3, cells := 0, slots := 0, locals := 66 }) (va_Pc [.ref (ad 0), .int (nI (n))] (Iv D (TY cI cZ cG cJ) A (WX ad cI cZ c g hid code ans dbt opn ply hps wr))) (vp_Si (fun r => r = nI (cN (fit c code ans dbt n) (qq c)))) 0 0 (fun _ => False) := by
  refine Met.ofW (cc := cX1_countFitting) (maxL := 4) (ret := (some .int)) (by decide) rfl ?_
  intro p e s m args below meth c9 s₁ B hml hv
  obtain ⟨rfl, hP, hD, hB⟩ := hv
  have hK := hB.1
  have hA := hB.2.1
  have hx := B.exec
  have hb := B.bytes
  have hr := B.returns
  have hts := atoms_spec (ws := wsX1_countFitting) B.pre
  have hown : s.vm.findClass RX1 = some m.cls := findClass_of_methodNamed B.named
  have hlocks := B.notSynchronized
  have hS : va_S A s.heap s.heap [] := va_S.rf
  have hinX0 : ∀ w ∈ wsX00, w ∈ wsX1_countFitting := by decide +kernel
  have hinX1 : ∀ w ∈ wsX10, w ∈ wsX1_countFitting := by decide +kernel
  have lk21 := hts (.fieldLink RX1 21 "HiddenCandles" "palette" "LHiddenCandles$Palette;") (by decide +kernel)
  have hl := lv_entry ([.ref (ad 0), .int (nI (n))]) (n := 4) (Nat.le_of_ble_eq_true rfl)
  rw [lg_entry_eq]
  generalize (lg_sl ([.ref (ad 0), .int (nI (n))]) ++ List.replicate (4 - (lg_sl ([.ref (ad 0), .int (nI (n))])).length) Slot.unset).toArray = ls at hl ⊢
  have hl : lv_has ls 4 [(0, .ref (ad 0)), (1, .int (nI (n)))] := hl
  have hq := qq_in hc
  refine lv_iconst (v := nI (0)) hx hb dX1_countFitting_0 (by decide) ?_
  refine lv_istore_n (lv' := [(2, .int (nI (0))), (0, .ref (ad 0)), (1, .int (nI (n)))]) hx hb dX1_countFitting_1 rfl hl (by decide) rfl (fun ls hl => ?_)
  refine lv_iconst (v := nI (0)) hx hb dX1_countFitting_2 (by decide) ?_
  refine lv_istore_n (lv' := [(3, .int (nI (0))), (2, .int (nI (0))), (0, .ref (ad 0)), (1, .int (nI (n)))]) hx hb dX1_countFitting_3 rfl hl (by decide) rfl (fun ls hl => ?_)
  -- loop at 4
  have hinv : 0 ≤ qq c ∧ 0 = cN (fit c code ans dbt n) 0 := by
    exact ⟨Nat.zero_le _, rfl⟩
  obtain ⟨i, r, hq9⟩ : ∃ (i : Nat) (r : Nat), lv_has ls 4 [(0, .ref (ad 0)), (1, .int (nI (n))), (2, .int (nI (r))), (3, .int (nI (i)))] ∧ (i ≤ qq c ∧ r = cN (fit c code ans dbt n) i) := ⟨0, 0, lv_sub hl [2, 3, 1, 0] rfl, hinv⟩
  clear hl hinv
  obtain ⟨hl, hinv⟩ := hq9
  obtain ⟨n9_4, hn9⟩ : ∃ q : Nat, qq c - i < q := ⟨_, Nat.lt_succ_self _⟩
  induction n9_4 generalizing ls i r with
  | zero => exact absurd hn9 (Nat.not_lt_zero _)
  | succ n9_4 ih4 =>
    obtain ⟨h1, h2⟩ := hinv; have hle := cN_le (fit c code ans dbt n) i
    refine lv_iload_n hx hb dX1_countFitting_4 rfl (lv_at hl 3 rfl) ?_
    refine lv_aload_n hx hb dX1_countFitting_5 rfl (lv_at hl 0 rfl) ?_
    refine va_get (D := D) (ci := 1) (v := .ref (pal ad c)) (C := RX1) (T := TX1) (N := 11) hx hb hts hinX1 hown hK hP 0 rfl rfl 2 (by decide) lk21 (fun _ h9 => h9) rfl dX1_countFitting_6 ?_
    refine x_codes hx hb hts hinX0 hown hK hP (palX hpal hc) (hB.2.2.2.2.1 _ (by simp [Nws])) dX1_countFitting_9 ?_
    refine x_ge (tgt := 33) hx hb dX1_countFitting_12 (by decide) (by omega) (by omega) (fun c12 => ?_) (fun c12 => ?_)
    · skip
      refine lv_iload_n hx hb dX1_countFitting_33 rfl (lv_at hl 2 rfl) ?_
      exact W.iret (v := nI (r)) hx hb hr (fun t ht hW => ⟨_, rfl, (by
          have e9 : i = qq c := by omega
          rw [h2, e9]), ht⟩) (fun _ h => nomatch h) dX1_countFitting_34
    · skip
      refine lv_aload_n hx hb dX1_countFitting_15 rfl (lv_at hl 0 rfl) ?_
      refine lv_iload_n hx hb dX1_countFitting_16 rfl (lv_at hl 3 rfl) ?_
      refine lv_iload_n hx hb dX1_countFitting_17 rfl (lv_at hl 1 rfl) ?_
      refine x_csi (va_runV (As := [.int (nI (i)), .int (nI (n))]) (rest := []) ⟨hx, hb, hml, hown, hts⟩ (c_X1_fits l D cI cZ cG cJ A ad wr hpal c g hid code ans dbt opn ply hps i n (hc) (by omega) (hn) (hco)) (cwV 2 hts gX1_countFitting_X1_fits rfl rfl rfl (by decide +kernel) ⟨Nat.le_of_ble_eq_true rfl, Nat.le_of_ble_eq_true rfl⟩) (preV (ci := 1) (q0 := 0) hB va_S.rf hP hD rfl rfl) rfl rfl hl.1 rfl (lv_room (Nat.le_of_ble_eq_true rfl)) dX1_countFitting_18 ⟨Nat.le_of_ble_eq_true rfl, Nat.le_of_ble_eq_true rfl⟩) ?_
      refine x_zeq (tgt := 27) hx hb dX1_countFitting_21 (by decide) (fun c21 => ?_) (fun c21 => ?_)
      · skip
        refine lv_iinc (v := nI (i + 1)) (lv' := [(3, .int (nI (i + 1))), (0, .ref (ad 0)), (1, .int (nI (n))), (2, .int (nI (r)))]) hx hb dX1_countFitting_27 hl (k := 3) rfl (nI_add _ _) (by decide) rfl (fun ls hl => ?_)
        refine lv_goto (tgt := 4) hx hb dX1_countFitting_30 (by decide) ?_
        exact ih4 (i := i + 1) (r := r) (ls := ls) (hl := lv_sub hl [1, 2, 3, 0] rfl) (hinv := by
            exact ⟨by omega, by simp [cN, h2, c21]⟩
          ) (hn9 := by
            omega
          )
      · skip
        refine lv_iinc (v := nI (r + 1)) (lv' := [(2, .int (nI (r + 1))), (0, .ref (ad 0)), (1, .int (nI (n))), (3, .int (nI (i)))]) hx hb dX1_countFitting_24 hl (k := 2) rfl (nI_add _ _) (by decide) rfl (fun ls hl => ?_)
        refine lv_iinc (v := nI (i + 1)) (lv' := [(3, .int (nI (i + 1))), (2, .int (nI (r + 1))), (0, .ref (ad 0)), (1, .int (nI (n)))]) hx hb dX1_countFitting_27 hl (k := 3) rfl (nI_add _ _) (by decide) rfl (fun ls hl => ?_)
        refine lv_goto (tgt := 4) hx hb dX1_countFitting_30 (by decide) ?_
        exact ih4 (i := i + 1) (r := r + 1) (ls := ls) (hl := lv_sub hl [2, 3, 1, 0] rfl) (hinv := by
            exact ⟨by omega, by simp [cN, h2, c21]⟩
          ) (hn9 := by
            omega
          )

set_option maxHeartbeats 4000000 in
set_option maxRecDepth 100000 in
theorem c_X1_countAnswering (l : Launch) (D : va_G) (cI cZ cG cJ : ClassId) (A : Nat → Prop) (ad : Nat → Nat) (wr : va_W) (hpal : Pals cI cG ad wr) (c : Nat) (g : Nat) (hid : Int32) (code : Nat → Nat) (ans : Nat → Nat) (dbt : Nat → Bool) (opn : Nat → Bool) (ply : Nat → Bool) (hps : Nat → Nat) (a : Nat) (v : Nat) (hc : c = 2 ∨ c = 3) (ha : a < qq c) (hv : v < 32) : Met l yX1_countAnswering wsX1_countAnswering ({ frames := 2, cells := 0, slots := 0, locals := 43 }) (va_Pc [.ref (ad 0), .int (nI (a)), .int (nI (v))] (Iv D (TY cI cZ cG cJ) A (WX ad cI cZ c g hid code ans dbt opn ply hps wr))) (vp_Si (fun r => r = nI (cN (fun k => decide (pins c a k = v)) (qq c)))) 0 0 (fun _ => False) := by
  refine Met.ofW (cc := cX1_countAnswering) (maxL := 5) (ret := (some .int)) (by decide) rfl ?_
  intro p e s m args below meth c9 s₁ B hml hv
  obtain ⟨rfl, hP, hD, hB⟩ := hv
  have hK := hB.1
  have hA := hB.2.1
  have hx := B.exec
  have hb := B.bytes
  have hr := B.returns
  have hts := atoms_spec (ws := wsX1_countAnswering) B.pre
  have hown : s.vm.findClass RX1 = some m.cls := findClass_of_methodNamed B.named
  have hlocks := B.notSynchronized
  have hS : va_S A s.heap s.heap [] := va_S.rf
  have hinX0 : ∀ w ∈ wsX00, w ∈ wsX1_countAnswering := by decide +kernel
  have hinX1 : ∀ w ∈ wsX10, w ∈ wsX1_countAnswering := by decide +kernel
  have lk21 := hts (.fieldLink RX1 21 "HiddenCandles" "palette" "LHiddenCandles$Palette;") (by decide +kernel)
  have hl := lv_entry ([.ref (ad 0), .int (nI (a)), .int (nI (v))]) (n := 5) (Nat.le_of_ble_eq_true rfl)
  rw [lg_entry_eq]
  generalize (lg_sl ([.ref (ad 0), .int (nI (a)), .int (nI (v))]) ++ List.replicate (5 - (lg_sl ([.ref (ad 0), .int (nI (a)), .int (nI (v))])).length) Slot.unset).toArray = ls at hl ⊢
  have hl : lv_has ls 5 [(0, .ref (ad 0)), (1, .int (nI (a))), (2, .int (nI (v)))] := hl
  have hq := qq_in hc
  refine lv_iconst (v := nI (0)) hx hb dX1_countAnswering_0 (by decide) ?_
  refine lv_istore_n (lv' := [(3, .int (nI (0))), (0, .ref (ad 0)), (1, .int (nI (a))), (2, .int (nI (v)))]) hx hb dX1_countAnswering_1 rfl hl (by decide) rfl (fun ls hl => ?_)
  refine lv_iconst (v := nI (0)) hx hb dX1_countAnswering_2 (by decide) ?_
  refine lv_istore (lv' := [(4, .int (nI (0))), (3, .int (nI (0))), (0, .ref (ad 0)), (1, .int (nI (a))), (2, .int (nI (v)))]) hx hb dX1_countAnswering_3 hl (by decide) rfl (fun ls hl => ?_)
  -- loop at 5
  have hinv : 0 ≤ qq c ∧ 0 = cN (fun k => decide (pins c a k = v)) 0 := by
    exact ⟨Nat.zero_le _, rfl⟩
  obtain ⟨i, r, hq9⟩ : ∃ (i : Nat) (r : Nat), lv_has ls 5 [(0, .ref (ad 0)), (1, .int (nI (a))), (2, .int (nI (v))), (3, .int (nI (r))), (4, .int (nI (i)))] ∧ (i ≤ qq c ∧ r = cN (fun k => decide (pins c a k = v)) i) := ⟨0, 0, lv_sub hl [2, 3, 4, 1, 0] rfl, hinv⟩
  clear hl hinv
  obtain ⟨hl, hinv⟩ := hq9
  obtain ⟨n9_5, hn9⟩ : ∃ q : Nat, qq c - i < q := ⟨_, Nat.lt_succ_self _⟩
  induction n9_5 generalizing ls i r with
  | zero => exact absurd hn9 (Nat.not_lt_zero _)
  | succ n9_5 ih5 =>
    obtain ⟨h1, h2⟩ := hinv; have hle := cN_le (fun k => decide (pins c a k = v)) i
    refine lv_iload hx hb dX1_countAnswering_5 (lv_at hl 4 rfl) ?_
    refine lv_aload_n hx hb dX1_countAnswering_7 rfl (lv_at hl 0 rfl) ?_
    refine va_get (D := D) (ci := 1) (v := .ref (pal ad c)) (C := RX1) (T := TX1) (N := 11) hx hb hts hinX1 hown hK hP 0 rfl rfl 2 (by decide) lk21 (fun _ h9 => h9) rfl dX1_countAnswering_8 ?_
    refine x_codes hx hb hts hinX0 hown hK hP (palX hpal hc) (hB.2.2.2.2.1 _ (by simp [Nws])) dX1_countAnswering_11 ?_
    refine x_ge (tgt := 40) hx hb dX1_countAnswering_14 (by decide) (by omega) (by omega) (fun c14 => ?_) (fun c14 => ?_)
    · skip
      refine lv_iload_n hx hb dX1_countAnswering_40 rfl (lv_at hl 3 rfl) ?_
      exact W.iret (v := nI (r)) hx hb hr (fun t ht hW => ⟨_, rfl, (by
          have e9 : i = qq c := by omega
          rw [h2, e9]), ht⟩) (fun _ h => nomatch h) dX1_countAnswering_41
    · skip
      refine lv_aload_n hx hb dX1_countAnswering_17 rfl (lv_at hl 0 rfl) ?_
      refine va_get (D := D) (ci := 1) (v := .ref (pal ad c)) (C := RX1) (T := TX1) (N := 11) hx hb hts hinX1 hown hK hP 0 rfl rfl 2 (by decide) lk21 (fun _ h9 => h9) rfl dX1_countAnswering_18 ?_
      refine lv_iload_n hx hb dX1_countAnswering_21 rfl (lv_at hl 1 rfl) ?_
      refine lv_iload hx hb dX1_countAnswering_22 (lv_at hl 4 rfl) ?_
      refine x_csi (va_runVN (As := [.int (nI (a)), .int (nI (i))]) (rest := []) ⟨hx, hb, hml, hown, hts⟩ (c_X0_answerTo l D cI cZ cG cJ A (WX ad cI cZ c g hid code ans dbt opn ply hps wr) (pal ad c) c a i (palX hpal hc) (hc) (ha) ((by omega))) ⟨va_cnB (host := RX1) 2 hts gX1_countAnswering_X0_answerTo_n77 rfl rfl rfl (hB.2.2.2.2.1 _ (by simp [Nws])) (hts _ (by decide +kernel)) (by decide +kernel) ⟨Nat.le_of_ble_eq_true rfl, Nat.le_of_ble_eq_true rfl⟩, hts _ (by decide +kernel), hts _ (by decide +kernel)⟩ (prePal hB va_S.rf hP hD (palX hpal hc)) rfl rfl hl.1 rfl (lv_room (Nat.le_of_ble_eq_true rfl)) dX1_countAnswering_24 ⟨Nat.le_of_ble_eq_true rfl, Nat.le_of_ble_eq_true rfl⟩) ?_
      have hpi := pins_le hc (ha) ((by omega))
      refine lv_iload_n hx hb dX1_countAnswering_27 rfl (lv_at hl 2 rfl) ?_
      refine x_ne (tgt := 34) hx hb dX1_countAnswering_28 (by decide) (by omega) (by omega) (fun c28 => ?_) (fun c28 => ?_)
      · skip
        refine lv_iinc (v := nI (i + 1)) (lv' := [(4, .int (nI (i + 1))), (0, .ref (ad 0)), (1, .int (nI (a))), (2, .int (nI (v))), (3, .int (nI (r)))]) hx hb dX1_countAnswering_34 hl (k := 4) rfl (nI_add _ _) (by decide) rfl (fun ls hl => ?_)
        refine lv_goto (tgt := 5) hx hb dX1_countAnswering_37 (by decide) ?_
        exact ih5 (i := i + 1) (r := r) (ls := ls) (hl := lv_sub hl [1, 2, 3, 4, 0] rfl) (hinv := by
            exact ⟨by omega, by simp [cN, h2, c28]⟩
          ) (hn9 := by
            omega
          )
      · skip
        refine lv_iinc (v := nI (r + 1)) (lv' := [(3, .int (nI (r + 1))), (0, .ref (ad 0)), (1, .int (nI (a))), (2, .int (nI (v))), (4, .int (nI (i)))]) hx hb dX1_countAnswering_31 hl (k := 3) rfl (nI_add _ _) (by decide) rfl (fun ls hl => ?_)
        refine lv_iinc (v := nI (i + 1)) (lv' := [(4, .int (nI (i + 1))), (3, .int (nI (r + 1))), (0, .ref (ad 0)), (1, .int (nI (a))), (2, .int (nI (v)))]) hx hb dX1_countAnswering_34 hl (k := 4) rfl (nI_add _ _) (by decide) rfl (fun ls hl => ?_)
        refine lv_goto (tgt := 5) hx hb dX1_countAnswering_37 (by decide) ?_
        exact ih5 (i := i + 1) (r := r + 1) (ls := ls) (hl := lv_sub hl [2, 3, 4, 1, 0] rfl) (hinv := by
            exact ⟨by omega, by simp [cN, h2, c28]⟩
          ) (hn9 := by
            omega
          )

set_option maxHeartbeats 4000000 in
set_option maxRecDepth 100000 in
theorem c_X1_countAllBlack (l : Launch) (D : va_G) (cI cZ cG cJ : ClassId) (A : Nat → Prop) (ad : Nat → Nat) (wr : va_W) (hpal : Pals cI cG ad wr) (c : Nat) (g : Nat) (hid : Int32) (code : Nat → Nat) (ans : Nat → Nat) (dbt : Nat → Bool) (opn : Nat → Bool) (ply : Nat → Bool) (hps : Nat → Nat) (hg : g ≤ 12) (hc : c = 2 ∨ c = 3) (hco : CodeOK c g code ans) : Met l yX1_countAllBlack wsX1_countAllBlack ({ frames := 0, cells := 0, slots := 0, locals := 0 }) (va_Pc [.ref (ad 0)] (Iv D (TY cI cZ cG cJ) A (WX ad cI cZ c g hid code ans dbt opn ply hps wr))) (vp_Si (fun r => r = nI (cN (fun z => decide (ans z = 20)) g))) 0 0 (fun _ => False) := by
  refine Met.ofW (cc := cX1_countAllBlack) (maxL := 3) (ret := (some .int)) (by decide) rfl ?_
  intro p e s m args below meth c9 s₁ B hml hv
  obtain ⟨rfl, hP, hD, hB⟩ := hv
  have hK := hB.1
  have hA := hB.2.1
  have hx := B.exec
  have hb := B.bytes
  have hr := B.returns
  have hts := atoms_spec (ws := wsX1_countAllBlack) B.pre
  have hown : s.vm.findClass RX1 = some m.cls := findClass_of_methodNamed B.named
  have hlocks := B.notSynchronized
  have hS : va_S A s.heap s.heap [] := va_S.rf
  have hinX1 : ∀ w ∈ wsX10, w ∈ wsX1_countAllBlack := by decide +kernel
  have lk28 := hts (.fieldLink RX1 28 "HiddenCandles" "guesses" "I") (by decide +kernel)
  have lk35 := hts (.fieldLink RX1 35 "HiddenCandles" "answers" "[I") (by decide +kernel)
  have hl := lv_entry ([.ref (ad 0)]) (n := 3) (Nat.le_of_ble_eq_true rfl)
  rw [lg_entry_eq]
  generalize (lg_sl ([.ref (ad 0)]) ++ List.replicate (3 - (lg_sl ([.ref (ad 0)])).length) Slot.unset).toArray = ls at hl ⊢
  have hl : lv_has ls 3 [(0, .ref (ad 0))] := hl
  have hq := qq_in hc
  refine lv_iconst (v := nI (0)) hx hb dX1_countAllBlack_0 (by decide) ?_
  refine lv_istore_n (lv' := [(1, .int (nI (0))), (0, .ref (ad 0))]) hx hb dX1_countAllBlack_1 rfl hl (by decide) rfl (fun ls hl => ?_)
  refine lv_iconst (v := nI (0)) hx hb dX1_countAllBlack_2 (by decide) ?_
  refine lv_istore_n (lv' := [(2, .int (nI (0))), (1, .int (nI (0))), (0, .ref (ad 0))]) hx hb dX1_countAllBlack_3 rfl hl (by decide) rfl (fun ls hl => ?_)
  -- loop at 4
  have hinv : 0 ≤ g ∧ 0 = cN (fun z => decide (ans z = 20)) 0 := by
    exact ⟨Nat.zero_le _, rfl⟩
  obtain ⟨i, r, hq9⟩ : ∃ (i : Nat) (r : Nat), lv_has ls 3 [(0, .ref (ad 0)), (1, .int (nI (r))), (2, .int (nI (i)))] ∧ (i ≤ g ∧ r = cN (fun z => decide (ans z = 20)) i) := ⟨0, 0, lv_sub hl [2, 1, 0] rfl, hinv⟩
  clear hl hinv
  obtain ⟨hl, hinv⟩ := hq9
  obtain ⟨n9_4, hn9⟩ : ∃ q : Nat, g - i < q := ⟨_, Nat.lt_succ_self _⟩
  induction n9_4 generalizing ls i r with
  | zero => exact absurd hn9 (Nat.not_lt_zero _)
  | succ n9_4 ih4 =>
    obtain ⟨h1, h2⟩ := hinv; have hle := cN_le (fun z => decide (ans z = 20)) i
    refine lv_iload_n hx hb dX1_countAllBlack_4 rfl (lv_at hl 2 rfl) ?_
    refine lv_aload_n hx hb dX1_countAllBlack_5 rfl (lv_at hl 0 rfl) ?_
    refine va_get (D := D) (ci := 1) (v := .int (nI (g))) (C := RX1) (T := TX1) (N := 11) hx hb hts hinX1 hown hK hP 0 rfl rfl 4 (by decide) lk28 (fun _ h9 => h9) rfl dX1_countAllBlack_6 ?_
    refine x_ge (tgt := 41) hx hb dX1_countAllBlack_9 (by decide) (by omega) (by omega) (fun c9 => ?_) (fun c9 => ?_)
    · skip
      refine lv_iload_n hx hb dX1_countAllBlack_41 rfl (lv_at hl 1 rfl) ?_
      exact W.iret (v := nI (r)) hx hb hr (fun t ht hW => ⟨_, rfl, (by
          have e9 : i = g := by omega
          rw [h2, e9]), ht⟩) (fun _ h => nomatch h) dX1_countAllBlack_42
    · skip
      refine lv_iload_n hx hb dX1_countAllBlack_12 rfl (lv_at hl 2 rfl) ?_
      refine lv_aload_n hx hb dX1_countAllBlack_13 rfl (lv_at hl 0 rfl) ?_
      refine va_get (D := D) (ci := 1) (v := .ref (ad 2)) (C := RX1) (T := TX1) (N := 11) hx hb hts hinX1 hown hK hP 0 rfl rfl 6 (by decide) lk35 (fun _ h9 => h9) rfl dX1_countAllBlack_14 ?_
      refine x_alen hx hb hK hP 2 0 rfl rfl (n := 12) rfl dX1_countAllBlack_17 ?_
      refine x_ge (tgt := 41) hx hb dX1_countAllBlack_18 (by decide) (by omega) (by omega) (fun c18 => absurd c18 (by omega)) (fun c18 => ?_)
      refine lv_aload_n hx hb dX1_countAllBlack_21 rfl (lv_at hl 0 rfl) ?_
      refine va_get (D := D) (ci := 1) (v := .ref (ad 2)) (C := RX1) (T := TX1) (N := 11) hx hb hts hinX1 hown hK hP 0 rfl rfl 6 (by decide) lk35 (fun _ h9 => h9) rfl dX1_countAllBlack_22 ?_
      refine lv_iload_n hx hb dX1_countAllBlack_25 rfl (lv_at hl 2 rfl) ?_
      refine x_iald hx hb hK hP 2 0 rfl rfl (i := i) (by omega) (by omega) dX1_countAllBlack_26 ?_
      have hai := (hco i c9).2
      refine lv_bipush (v := nI (20)) hx hb dX1_countAllBlack_27 (by decide) ?_
      refine x_ne (tgt := 35) hx hb dX1_countAllBlack_29 (by decide) (by omega) (by omega) (fun c29 => ?_) (fun c29 => ?_)
      · skip
        refine lv_iinc (v := nI (i + 1)) (lv' := [(2, .int (nI (i + 1))), (0, .ref (ad 0)), (1, .int (nI (r)))]) hx hb dX1_countAllBlack_35 hl (k := 2) rfl (nI_add _ _) (by decide) rfl (fun ls hl => ?_)
        refine lv_goto (tgt := 4) hx hb dX1_countAllBlack_38 (by decide) ?_
        exact ih4 (i := i + 1) (r := r) (ls := ls) (hl := lv_sub hl [1, 2, 0] rfl) (hinv := by
            exact ⟨by omega, by simp [cN, h2, c29]⟩
          ) (hn9 := by
            omega
          )
      · skip
        refine lv_iinc (v := nI (r + 1)) (lv' := [(1, .int (nI (r + 1))), (0, .ref (ad 0)), (2, .int (nI (i)))]) hx hb dX1_countAllBlack_32 hl (k := 1) rfl (nI_add _ _) (by decide) rfl (fun ls hl => ?_)
        refine lv_iinc (v := nI (i + 1)) (lv' := [(2, .int (nI (i + 1))), (1, .int (nI (r + 1))), (0, .ref (ad 0))]) hx hb dX1_countAllBlack_35 hl (k := 2) rfl (nI_add _ _) (by decide) rfl (fun ls hl => ?_)
        refine lv_goto (tgt := 4) hx hb dX1_countAllBlack_38 (by decide) ?_
        exact ih4 (i := i + 1) (r := r + 1) (ls := ls) (hl := lv_sub hl [2, 1, 0] rfl) (hinv := by
            exact ⟨by omega, by simp [cN, h2, c29]⟩
          ) (hn9 := by
            omega
          )

set_option maxHeartbeats 4000000 in
set_option maxRecDepth 100000 in
theorem c_X1_countDoubted (l : Launch) (D : va_G) (cI cZ cG cJ : ClassId) (A : Nat → Prop) (ad : Nat → Nat) (wr : va_W) (hpal : Pals cI cG ad wr) (c : Nat) (g : Nat) (hid : Int32) (code : Nat → Nat) (ans : Nat → Nat) (dbt : Nat → Bool) (opn : Nat → Bool) (ply : Nat → Bool) (hps : Nat → Nat) (hg : g ≤ 12) : Met l yX1_countDoubted wsX1_countDoubted ({ frames := 0, cells := 0, slots := 0, locals := 0 }) (va_Pc [.ref (ad 0)] (Iv D (TY cI cZ cG cJ) A (WX ad cI cZ c g hid code ans dbt opn ply hps wr))) (vp_Si (fun r => r = nI (cN dbt g))) 0 0 (fun _ => False) := by
  refine Met.ofW (cc := cX1_countDoubted) (maxL := 3) (ret := (some .int)) (by decide) rfl ?_
  intro p e s m args below meth c9 s₁ B hml hv
  obtain ⟨rfl, hP, hD, hB⟩ := hv
  have hK := hB.1
  have hA := hB.2.1
  have hx := B.exec
  have hb := B.bytes
  have hr := B.returns
  have hts := atoms_spec (ws := wsX1_countDoubted) B.pre
  have hown : s.vm.findClass RX1 = some m.cls := findClass_of_methodNamed B.named
  have hlocks := B.notSynchronized
  have hS : va_S A s.heap s.heap [] := va_S.rf
  have hinX1 : ∀ w ∈ wsX10, w ∈ wsX1_countDoubted := by decide +kernel
  have lk28 := hts (.fieldLink RX1 28 "HiddenCandles" "guesses" "I") (by decide +kernel)
  have lk38 := hts (.fieldLink RX1 38 "HiddenCandles" "doubted" "[Z") (by decide +kernel)
  have hl := lv_entry ([.ref (ad 0)]) (n := 3) (Nat.le_of_ble_eq_true rfl)
  rw [lg_entry_eq]
  generalize (lg_sl ([.ref (ad 0)]) ++ List.replicate (3 - (lg_sl ([.ref (ad 0)])).length) Slot.unset).toArray = ls at hl ⊢
  have hl : lv_has ls 3 [(0, .ref (ad 0))] := hl
  refine lv_iconst (v := nI (0)) hx hb dX1_countDoubted_0 (by decide) ?_
  refine lv_istore_n (lv' := [(1, .int (nI (0))), (0, .ref (ad 0))]) hx hb dX1_countDoubted_1 rfl hl (by decide) rfl (fun ls hl => ?_)
  refine lv_iconst (v := nI (0)) hx hb dX1_countDoubted_2 (by decide) ?_
  refine lv_istore_n (lv' := [(2, .int (nI (0))), (1, .int (nI (0))), (0, .ref (ad 0))]) hx hb dX1_countDoubted_3 rfl hl (by decide) rfl (fun ls hl => ?_)
  -- loop at 4
  have hinv : 0 ≤ g ∧ 0 = cN dbt 0 := by
    exact ⟨Nat.zero_le _, rfl⟩
  obtain ⟨i, r, hq9⟩ : ∃ (i : Nat) (r : Nat), lv_has ls 3 [(0, .ref (ad 0)), (1, .int (nI (r))), (2, .int (nI (i)))] ∧ (i ≤ g ∧ r = cN dbt i) := ⟨0, 0, lv_sub hl [2, 1, 0] rfl, hinv⟩
  clear hl hinv
  obtain ⟨hl, hinv⟩ := hq9
  obtain ⟨n9_4, hn9⟩ : ∃ q : Nat, g - i < q := ⟨_, Nat.lt_succ_self _⟩
  induction n9_4 generalizing ls i r with
  | zero => exact absurd hn9 (Nat.not_lt_zero _)
  | succ n9_4 ih4 =>
    obtain ⟨h1, h2⟩ := hinv; have hle := cN_le dbt i
    refine lv_iload_n hx hb dX1_countDoubted_4 rfl (lv_at hl 2 rfl) ?_
    refine lv_aload_n hx hb dX1_countDoubted_5 rfl (lv_at hl 0 rfl) ?_
    refine va_get (D := D) (ci := 1) (v := .int (nI (g))) (C := RX1) (T := TX1) (N := 11) hx hb hts hinX1 hown hK hP 0 rfl rfl 4 (by decide) lk28 (fun _ h9 => h9) rfl dX1_countDoubted_6 ?_
    refine x_ge (tgt := 39) hx hb dX1_countDoubted_9 (by decide) (by omega) (by omega) (fun c9 => ?_) (fun c9 => ?_)
    · skip
      refine lv_iload_n hx hb dX1_countDoubted_39 rfl (lv_at hl 1 rfl) ?_
      exact W.iret (v := nI (r)) hx hb hr (fun t ht hW => ⟨_, rfl, (by
          have e9 : i = g := by omega
          rw [h2, e9]), ht⟩) (fun _ h => nomatch h) dX1_countDoubted_40
    · skip
      refine lv_iload_n hx hb dX1_countDoubted_12 rfl (lv_at hl 2 rfl) ?_
      refine lv_aload_n hx hb dX1_countDoubted_13 rfl (lv_at hl 0 rfl) ?_
      refine va_get (D := D) (ci := 1) (v := .ref (ad 3)) (C := RX1) (T := TX1) (N := 11) hx hb hts hinX1 hown hK hP 0 rfl rfl 7 (by decide) lk38 (fun _ h9 => h9) rfl dX1_countDoubted_14 ?_
      refine x_alen hx hb hK hP 3 1 rfl rfl (n := 12) rfl dX1_countDoubted_17 ?_
      refine x_ge (tgt := 39) hx hb dX1_countDoubted_18 (by decide) (by omega) (by omega) (fun c18 => absurd c18 (by omega)) (fun c18 => ?_)
      refine lv_aload_n hx hb dX1_countDoubted_21 rfl (lv_at hl 0 rfl) ?_
      refine va_get (D := D) (ci := 1) (v := .ref (ad 3)) (C := RX1) (T := TX1) (N := 11) hx hb hts hinX1 hown hK hP 0 rfl rfl 7 (by decide) lk38 (fun _ h9 => h9) rfl dX1_countDoubted_22 ?_
      refine lv_iload_n hx hb dX1_countDoubted_25 rfl (lv_at hl 2 rfl) ?_
      refine x_zald hx hb hK hP 3 1 rfl rfl (i := i) (by omega) (by omega) dX1_countDoubted_26 ?_
      refine x_zeq (tgt := 33) hx hb dX1_countDoubted_27 (by decide) (fun c27 => ?_) (fun c27 => ?_)
      · skip
        refine lv_iinc (v := nI (i + 1)) (lv' := [(2, .int (nI (i + 1))), (0, .ref (ad 0)), (1, .int (nI (r)))]) hx hb dX1_countDoubted_33 hl (k := 2) rfl (nI_add _ _) (by decide) rfl (fun ls hl => ?_)
        refine lv_goto (tgt := 4) hx hb dX1_countDoubted_36 (by decide) ?_
        exact ih4 (i := i + 1) (r := r) (ls := ls) (hl := lv_sub hl [1, 2, 0] rfl) (hinv := by
            exact ⟨by omega, by simp [cN, h2, c27]⟩
          ) (hn9 := by
            omega
          )
      · skip
        refine lv_iinc (v := nI (r + 1)) (lv' := [(1, .int (nI (r + 1))), (0, .ref (ad 0)), (2, .int (nI (i)))]) hx hb dX1_countDoubted_30 hl (k := 1) rfl (nI_add _ _) (by decide) rfl (fun ls hl => ?_)
        refine lv_iinc (v := nI (i + 1)) (lv' := [(2, .int (nI (i + 1))), (1, .int (nI (r + 1))), (0, .ref (ad 0))]) hx hb dX1_countDoubted_33 hl (k := 2) rfl (nI_add _ _) (by decide) rfl (fun ls hl => ?_)
        refine lv_goto (tgt := 4) hx hb dX1_countDoubted_36 (by decide) ?_
        exact ih4 (i := i + 1) (r := r + 1) (ls := ls) (hl := lv_sub hl [2, 1, 0] rfl) (hinv := by
            exact ⟨by omega, by simp [cN, h2, c27]⟩
          ) (hn9 := by
            omega
          )

set_option maxHeartbeats 4000000 in
set_option maxRecDepth 100000 in
theorem c_X1_countHaving (l : Launch) (D : va_G) (cI cZ cG cJ : ClassId) (A : Nat → Prop) (ad : Nat → Nat) (wr : va_W) (hpal : Pals cI cG ad wr) (c : Nat) (g : Nat) (hid : Int32) (code : Nat → Nat) (ans : Nat → Nat) (dbt : Nat → Bool) (opn : Nat → Bool) (ply : Nat → Bool) (hps : Nat → Nat) (pl : Nat) (x : Nat) (hc : c = 2 ∨ c = 3) (hp : pl < 4) (hx9 : x < c) (hop : ∀ k, k < 81 → opn k = true → k < qq c) : Met l yX1_countHaving wsX1_countHaving ({ frames := 2, cells := 0, slots := 0, locals := 43 }) (va_Pc [.ref (ad 0), .int (nI (pl)), .int (nI (x))] (Iv D (TY cI cZ cG cJ) A (WX ad cI cZ c g hid code ans dbt opn ply hps wr))) (vp_Si (fun r => r = nI (cN (fun k => opn k && decide (col c k pl = x)) 81))) 0 0 (fun _ => False) := by
  refine Met.ofW (cc := cX1_countHaving) (maxL := 5) (ret := (some .int)) (by decide) rfl ?_
  intro p e s m args below meth c9 s₁ B hml hv
  obtain ⟨rfl, hP, hD, hB⟩ := hv
  have hK := hB.1
  have hA := hB.2.1
  have hx := B.exec
  have hb := B.bytes
  have hr := B.returns
  have hts := atoms_spec (ws := wsX1_countHaving) B.pre
  have hown : s.vm.findClass RX1 = some m.cls := findClass_of_methodNamed B.named
  have hlocks := B.notSynchronized
  have hS : va_S A s.heap s.heap [] := va_S.rf
  have hinX1 : ∀ w ∈ wsX10, w ∈ wsX1_countHaving := by decide +kernel
  have lk21 := hts (.fieldLink RX1 21 "HiddenCandles" "palette" "LHiddenCandles$Palette;") (by decide +kernel)
  have lk42 := hts (.fieldLink RX1 42 "HiddenCandles" "open" "[Z") (by decide +kernel)
  have hl := lv_entry ([.ref (ad 0), .int (nI (pl)), .int (nI (x))]) (n := 5) (Nat.le_of_ble_eq_true rfl)
  rw [lg_entry_eq]
  generalize (lg_sl ([.ref (ad 0), .int (nI (pl)), .int (nI (x))]) ++ List.replicate (5 - (lg_sl ([.ref (ad 0), .int (nI (pl)), .int (nI (x))])).length) Slot.unset).toArray = ls at hl ⊢
  have hl : lv_has ls 5 [(0, .ref (ad 0)), (1, .int (nI (pl))), (2, .int (nI (x)))] := hl
  have hq := qq_in hc
  refine lv_iconst (v := nI (0)) hx hb dX1_countHaving_0 (by decide) ?_
  refine lv_istore_n (lv' := [(3, .int (nI (0))), (0, .ref (ad 0)), (1, .int (nI (pl))), (2, .int (nI (x)))]) hx hb dX1_countHaving_1 rfl hl (by decide) rfl (fun ls hl => ?_)
  refine lv_iconst (v := nI (0)) hx hb dX1_countHaving_2 (by decide) ?_
  refine lv_istore (lv' := [(4, .int (nI (0))), (3, .int (nI (0))), (0, .ref (ad 0)), (1, .int (nI (pl))), (2, .int (nI (x)))]) hx hb dX1_countHaving_3 hl (by decide) rfl (fun ls hl => ?_)
  -- loop at 5
  have hinv : 0 ≤ 81 ∧ 0 = cN (fun k => opn k && decide (col c k pl = x)) 0 := by
    exact ⟨Nat.zero_le _, rfl⟩
  obtain ⟨i, r, hq9⟩ : ∃ (i : Nat) (r : Nat), lv_has ls 5 [(0, .ref (ad 0)), (1, .int (nI (pl))), (2, .int (nI (x))), (3, .int (nI (r))), (4, .int (nI (i)))] ∧ (i ≤ 81 ∧ r = cN (fun k => opn k && decide (col c k pl = x)) i) := ⟨0, 0, lv_sub hl [2, 3, 4, 1, 0] rfl, hinv⟩
  clear hl hinv
  obtain ⟨hl, hinv⟩ := hq9
  obtain ⟨n9_5, hn9⟩ : ∃ q : Nat, 81 - i < q := ⟨_, Nat.lt_succ_self _⟩
  induction n9_5 generalizing ls i r with
  | zero => exact absurd hn9 (Nat.not_lt_zero _)
  | succ n9_5 ih5 =>
    obtain ⟨h1, h2⟩ := hinv; have hle := cN_le (fun k => opn k && decide (col c k pl = x)) i
    refine lv_iload hx hb dX1_countHaving_5 (lv_at hl 4 rfl) ?_
    refine lv_aload_n hx hb dX1_countHaving_7 rfl (lv_at hl 0 rfl) ?_
    refine va_get (D := D) (ci := 1) (v := .ref (ad 4)) (C := RX1) (T := TX1) (N := 11) hx hb hts hinX1 hown hK hP 0 rfl rfl 8 (by decide) lk42 (fun _ h9 => h9) rfl dX1_countHaving_8 ?_
    refine x_alen hx hb hK hP 4 1 rfl rfl (n := 81) rfl dX1_countHaving_11 ?_
    refine x_ge (tgt := 48) hx hb dX1_countHaving_12 (by decide) (by omega) (by omega) (fun c12 => ?_) (fun c12 => ?_)
    · skip
      refine lv_iload_n hx hb dX1_countHaving_48 rfl (lv_at hl 3 rfl) ?_
      exact W.iret (v := nI (r)) hx hb hr (fun t ht hW => ⟨_, rfl, (by
          have e9 : i = 81 := by omega
          rw [h2, e9]), ht⟩) (fun _ h => nomatch h) dX1_countHaving_49
    · skip
      refine lv_aload_n hx hb dX1_countHaving_15 rfl (lv_at hl 0 rfl) ?_
      refine va_get (D := D) (ci := 1) (v := .ref (ad 4)) (C := RX1) (T := TX1) (N := 11) hx hb hts hinX1 hown hK hP 0 rfl rfl 8 (by decide) lk42 (fun _ h9 => h9) rfl dX1_countHaving_16 ?_
      refine lv_iload hx hb dX1_countHaving_19 (lv_at hl 4 rfl) ?_
      refine x_zald hx hb hK hP 4 1 rfl rfl (i := i) (by omega) (by omega) dX1_countHaving_21 ?_
      refine x_zeq (tgt := 42) hx hb dX1_countHaving_22 (by decide) (fun c22 => ?_) (fun c22 => ?_)
      · skip
        refine lv_iinc (v := nI (i + 1)) (lv' := [(4, .int (nI (i + 1))), (0, .ref (ad 0)), (1, .int (nI (pl))), (2, .int (nI (x))), (3, .int (nI (r)))]) hx hb dX1_countHaving_42 hl (k := 4) rfl (nI_add _ _) (by decide) rfl (fun ls hl => ?_)
        refine lv_goto (tgt := 5) hx hb dX1_countHaving_45 (by decide) ?_
        exact ih5 (i := i + 1) (r := r) (ls := ls) (hl := lv_sub hl [1, 2, 3, 4, 0] rfl) (hinv := by
            refine ⟨by omega, ?_⟩
            first | (simp [cN, h2, c22]; done) | (simp [cN, h2, c22, c36]; done)
          ) (hn9 := by
            omega
          )
      · skip
        refine lv_aload_n hx hb dX1_countHaving_25 rfl (lv_at hl 0 rfl) ?_
        refine va_get (D := D) (ci := 1) (v := .ref (pal ad c)) (C := RX1) (T := TX1) (N := 11) hx hb hts hinX1 hown hK hP 0 rfl rfl 2 (by decide) lk21 (fun _ h9 => h9) rfl dX1_countHaving_26 ?_
        refine lv_iload hx hb dX1_countHaving_29 (lv_at hl 4 rfl) ?_
        refine lv_iload_n hx hb dX1_countHaving_31 rfl (lv_at hl 1 rfl) ?_
        refine x_csi (va_runVN (As := [.int (nI (i)), .int (nI (pl))]) (rest := []) ⟨hx, hb, hml, hown, hts⟩ (c_X0_colourOf l D cI cZ cG cJ A (WX ad cI cZ c g hid code ans dbt opn ply hps wr) (pal ad c) c i pl (palX hpal hc) (hc) (hop i (by omega) c22) (hp)) ⟨va_cnB (host := RX1) 2 hts gX1_countHaving_X0_colourOf_n73 rfl rfl rfl (hB.2.2.2.2.1 _ (by simp [Nws])) (hts _ (by decide +kernel)) (by decide +kernel) ⟨Nat.le_of_ble_eq_true rfl, Nat.le_of_ble_eq_true rfl⟩, hts _ (by decide +kernel), hts _ (by decide +kernel)⟩ (prePal hB va_S.rf hP hD (palX hpal hc)) rfl rfl hl.1 rfl (lv_room (Nat.le_of_ble_eq_true rfl)) dX1_countHaving_32 ⟨Nat.le_of_ble_eq_true rfl, Nat.le_of_ble_eq_true rfl⟩) ?_
        have hcl := col_lt hc (i) (pl)
        refine lv_iload_n hx hb dX1_countHaving_35 rfl (lv_at hl 2 rfl) ?_
        refine x_ne (tgt := 42) hx hb dX1_countHaving_36 (by decide) (by omega) (by omega) (fun c36 => ?_) (fun c36 => ?_)
        · skip
          refine lv_iinc (v := nI (i + 1)) (lv' := [(4, .int (nI (i + 1))), (0, .ref (ad 0)), (1, .int (nI (pl))), (2, .int (nI (x))), (3, .int (nI (r)))]) hx hb dX1_countHaving_42 hl (k := 4) rfl (nI_add _ _) (by decide) rfl (fun ls hl => ?_)
          refine lv_goto (tgt := 5) hx hb dX1_countHaving_45 (by decide) ?_
          exact ih5 (i := i + 1) (r := r) (ls := ls) (hl := lv_sub hl [1, 2, 3, 4, 0] rfl) (hinv := by
              refine ⟨by omega, ?_⟩
              first | (simp [cN, h2, c22]; done) | (simp [cN, h2, c22, c36]; done)
            ) (hn9 := by
              omega
            )
        · skip
          refine lv_iinc (v := nI (r + 1)) (lv' := [(3, .int (nI (r + 1))), (0, .ref (ad 0)), (1, .int (nI (pl))), (2, .int (nI (x))), (4, .int (nI (i)))]) hx hb dX1_countHaving_39 hl (k := 3) rfl (nI_add _ _) (by decide) rfl (fun ls hl => ?_)
          refine lv_iinc (v := nI (i + 1)) (lv' := [(4, .int (nI (i + 1))), (3, .int (nI (r + 1))), (0, .ref (ad 0)), (1, .int (nI (pl))), (2, .int (nI (x)))]) hx hb dX1_countHaving_42 hl (k := 4) rfl (nI_add _ _) (by decide) rfl (fun ls hl => ?_)
          refine lv_goto (tgt := 5) hx hb dX1_countHaving_45 (by decide) ?_
          exact ih5 (i := i + 1) (r := r + 1) (ls := ls) (hl := lv_sub hl [2, 3, 4, 1, 0] rfl) (hinv := by
              refine ⟨by omega, ?_⟩
              first | (simp [cN, h2, c22]; done) | (simp [cN, h2, c22, c36]; done)
            ) (hn9 := by
              omega
            )

set_option maxHeartbeats 4000000 in
set_option maxRecDepth 100000 in
theorem c_X1_keepAnswering (l : Launch) (D : va_G) (cI cZ cG cJ : ClassId) (A : Nat → Prop) (ad : Nat → Nat) (wr : va_W) (hpal : Pals cI cG ad wr) (c : Nat) (g : Nat) (hid : Int32) (code : Nat → Nat) (ans : Nat → Nat) (dbt : Nat → Bool) (opn : Nat → Bool) (ply : Nat → Bool) (hps : Nat → Nat) (a : Nat) (v : Nat) (hc : c = 2 ∨ c = 3) (ha : a < qq c) (hv : v < 32) (hpl : ∀ k, k < 81 → ply k = true → k < qq c) : Met l yX1_keepAnswering wsX1_keepAnswering ({ frames := 2, cells := 0, slots := 0, locals := 43 }) (va_Pc [.ref (ad 0), .ref (ad 5), .int (nI (a)), .int (nI (v))] (Iv D (TY cI cZ cG cJ) A (WX ad cI cZ c g hid code ans dbt opn ply hps wr))) (va_Qv (fun (u : Nat → Bool) => ∀ k, k < 81 → u k = (ply k && decide (pins c a k = v))) (fun u => Wd D A (WX ad cI cZ c g hid code ans dbt opn u hps wr)) A) 0 0 A := by
  refine Met.ofW (cc := cX1_keepAnswering) (maxL := 5) (ret := none) (by decide) rfl ?_
  intro p e s m args below meth c9 s₁ B hml hv
  obtain ⟨rfl, hP, hD, hB⟩ := hv
  have hK := hB.1
  have hA := hB.2.1
  have hx := B.exec
  have hb := B.bytes
  have hr := B.returns
  have hts := atoms_spec (ws := wsX1_keepAnswering) B.pre
  have hown : s.vm.findClass RX1 = some m.cls := findClass_of_methodNamed B.named
  have hlocks := B.notSynchronized
  have hS : va_S A s.heap s.heap [] := va_S.rf
  have hinX1 : ∀ w ∈ wsX10, w ∈ wsX1_keepAnswering := by decide +kernel
  have lk21 := hts (.fieldLink RX1 21 "HiddenCandles" "palette" "LHiddenCandles$Palette;") (by decide +kernel)
  have hl := lv_entry ([.ref (ad 0), .ref (ad 5), .int (nI (a)), .int (nI (v))]) (n := 5) (Nat.le_of_ble_eq_true rfl)
  rw [lg_entry_eq]
  generalize (lg_sl ([.ref (ad 0), .ref (ad 5), .int (nI (a)), .int (nI (v))]) ++ List.replicate (5 - (lg_sl ([.ref (ad 0), .ref (ad 5), .int (nI (a)), .int (nI (v))])).length) Slot.unset).toArray = ls at hl ⊢
  have hl : lv_has ls 5 [(0, .ref (ad 0)), (1, .ref (ad 5)), (2, .int (nI (a))), (3, .int (nI (v)))] := hl
  obtain ⟨H, eH⟩ : ∃ q, q = s.heap := ⟨_, rfl⟩
  obtain ⟨locs, eL⟩ : ∃ q : List Loc, q = [] := ⟨_, rfl⟩
  replace hP : va_P D vwCl (WX ad cI cZ c g hid code ans dbt opn ply hps wr) H := by rw [eH]; exact hP
  replace hS : va_S A s.heap H locs := by rw [eH, eL]; exact hS
  rw [show W p l e _ s m _ below meth c9 s.heap [] = W p l e _ s m _ below meth c9 H locs from by rw [eH, eL]]
  clear eH eL
  have hq := qq_in hc
  refine lv_iconst (v := nI (0)) hx hb dX1_keepAnswering_0 (by decide) ?_
  refine lv_istore (lv' := [(4, .int (nI (0))), (0, .ref (ad 0)), (1, .ref (ad 5)), (2, .int (nI (a))), (3, .int (nI (v)))]) hx hb dX1_keepAnswering_1 hl (by decide) rfl (fun ls hl => ?_)
  -- loop at 3
  have hinv : 0 ≤ 81 ∧ (∀ k, k < 0 → ply k = (ply k && decide (pins c a k = v))) ∧ ∀ k, 0 ≤ k → ply k = ply k := by
    exact ⟨Nat.zero_le _, fun k hk => absurd hk (Nat.not_lt_zero _), fun _ _ => rfl⟩
  obtain ⟨i, p2, hq9⟩ : ∃ (i : Nat) (p2 : Nat → Bool), lv_has ls 5 [(0, .ref (ad 0)), (1, .ref (ad 5)), (2, .int (nI (a))), (3, .int (nI (v))), (4, .int (nI (i)))] ∧ (i ≤ 81 ∧ (∀ k, k < i → p2 k = (ply k && decide (pins c a k = v))) ∧ ∀ k, i ≤ k → p2 k = ply k) ∧ va_P D vwCl (WX ad cI cZ c g hid code ans dbt opn p2 hps wr) H ∧ va_D A (WX ad cI cZ c g hid code ans dbt opn p2 hps wr) := ⟨0, ply, lv_sub hl [1, 2, 3, 4, 0] rfl, hinv, hP, hD⟩
  clear hl hinv hP hD
  obtain ⟨hl, hinv, hP, hD⟩ := hq9
  obtain ⟨n9_3, hn9⟩ : ∃ q : Nat, 81 - i < q := ⟨_, Nat.lt_succ_self _⟩
  induction n9_3 generalizing ls H locs i p2 with
  | zero => exact absurd hn9 (Nat.not_lt_zero _)
  | succ n9_3 ih3 =>
    obtain ⟨h1, h2, h3⟩ := hinv; have h4 := h3 i (Nat.le_refl _)
    refine lv_iload hx hb dX1_keepAnswering_3 (lv_at hl 4 rfl) ?_
    refine lv_aload_n hx hb dX1_keepAnswering_5 rfl (lv_at hl 1 rfl) ?_
    refine x_alen hx hb hK hP 5 1 rfl rfl (n := 81) rfl dX1_keepAnswering_6 ?_
    refine x_ge (tgt := 46) hx hb dX1_keepAnswering_7 (by decide) (by omega) (by omega) (fun c7 => ?_) (fun c7 => ?_)
    · skip
      exact W.vret hx hb hr (fun t ht hW => ⟨⟨p2, rfl, (by
          have e9 : i = 81 := by omega
          subst e9
          exact h2), ⟨by rw [ht]; exact hP, hD⟩⟩, hS.F ht⟩) hS.2.2 dX1_keepAnswering_46
    · skip
      refine lv_aload_n hx hb dX1_keepAnswering_10 rfl (lv_at hl 1 rfl) ?_
      refine lv_iload hx hb dX1_keepAnswering_11 (lv_at hl 4 rfl) ?_
      refine lv_aload_n hx hb dX1_keepAnswering_13 rfl (lv_at hl 1 rfl) ?_
      refine lv_iload hx hb dX1_keepAnswering_14 (lv_at hl 4 rfl) ?_
      refine x_zald hx hb hK hP 5 1 rfl rfl (i := i) (by omega) (by omega) dX1_keepAnswering_16 ?_
      refine x_zeq (tgt := 38) hx hb dX1_keepAnswering_17 (by decide) (fun c17 => ?_) (fun c17 => ?_)
      · skip
        refine lv_iconst (v := bI (false)) hx hb dX1_keepAnswering_38 (by decide) ?_
        refine x_zast hx hb hK hP hD hS 5 1 rfl rfl (i := i) (v := false) (by omega) (by omega) dX1_keepAnswering_39 (fun H locs hP hD hS => ?_)
        replace hP : va_P D vwCl (WX ad cI cZ c g hid code ans dbt opn (va_up p2 i false) hps wr) H := hP
        replace hD : va_D A (WX ad cI cZ c g hid code ans dbt opn (va_up p2 i false) hps wr) := hD
        refine lv_iinc (v := nI (i + 1)) (lv' := [(4, .int (nI (i + 1))), (0, .ref (ad 0)), (1, .ref (ad 5)), (2, .int (nI (a))), (3, .int (nI (v)))]) hx hb dX1_keepAnswering_40 hl (k := 4) rfl (nI_add _ _) (by decide) rfl (fun ls hl => ?_)
        refine lv_goto (tgt := 3) hx hb dX1_keepAnswering_43 (by decide) ?_
        exact ih3 (i := i + 1) (p2 := (va_up p2 i false)) (ls := ls) (hl := lv_sub hl [1, 2, 3, 4, 0] rfl) (H := H) (locs := locs) (hP := hP) (hD := hD) (hS := hS) (hinv := by
            refine ⟨by omega, up_le h2 ?_, up_gt h3⟩
            first | (simp [← h4, c17]; done) | (simp [← h4, c17, c31]; done)
          ) (hn9 := by
            omega
          )
      · skip
        refine lv_aload_n hx hb dX1_keepAnswering_20 rfl (lv_at hl 0 rfl) ?_
        refine va_get (D := D) (ci := 1) (v := .ref (pal ad c)) (C := RX1) (T := TX1) (N := 11) hx hb hts hinX1 hown hK hP 0 rfl rfl 2 (by decide) lk21 (fun _ h9 => h9) rfl dX1_keepAnswering_21 ?_
        refine lv_iload_n hx hb dX1_keepAnswering_24 rfl (lv_at hl 2 rfl) ?_
        refine lv_iload hx hb dX1_keepAnswering_25 (lv_at hl 4 rfl) ?_
        refine x_csi (va_runVN (As := [.int (nI (a)), .int (nI (i))]) (rest := [.int (nI (i)), .ref (ad 5)]) ⟨hx, hb, hml, hown, hts⟩ (c_X0_answerTo l D cI cZ cG cJ A (WX ad cI cZ c g hid code ans dbt opn p2 hps wr) (pal ad c) c a i (palX hpal hc) (hc) (ha) (hpl i (by omega) (by rw [← h4]; exact c17))) ⟨va_cnB (host := RX1) 2 hts gX1_keepAnswering_X0_answerTo_n77 rfl rfl rfl (hB.2.2.2.2.1 _ (by simp [Nws])) (hts _ (by decide +kernel)) (by decide +kernel) ⟨Nat.le_of_ble_eq_true rfl, Nat.le_of_ble_eq_true rfl⟩, hts _ (by decide +kernel), hts _ (by decide +kernel)⟩ (prePal hB hS hP hD (palX hpal hc)) rfl rfl hl.1 rfl (lv_room (Nat.le_of_ble_eq_true rfl)) dX1_keepAnswering_27 ⟨Nat.le_of_ble_eq_true rfl, Nat.le_of_ble_eq_true rfl⟩) ?_
        have hpi := pins_le hc (ha) (hpl i (by omega) (by rw [← h4]; exact c17))
        refine lv_iload_n hx hb dX1_keepAnswering_30 rfl (lv_at hl 3 rfl) ?_
        refine x_ne (tgt := 38) hx hb dX1_keepAnswering_31 (by decide) (by omega) (by omega) (fun c31 => ?_) (fun c31 => ?_)
        · skip
          refine lv_iconst (v := bI (false)) hx hb dX1_keepAnswering_38 (by decide) ?_
          refine x_zast hx hb hK hP hD hS 5 1 rfl rfl (i := i) (v := false) (by omega) (by omega) dX1_keepAnswering_39 (fun H locs hP hD hS => ?_)
          replace hP : va_P D vwCl (WX ad cI cZ c g hid code ans dbt opn (va_up p2 i false) hps wr) H := hP
          replace hD : va_D A (WX ad cI cZ c g hid code ans dbt opn (va_up p2 i false) hps wr) := hD
          refine lv_iinc (v := nI (i + 1)) (lv' := [(4, .int (nI (i + 1))), (0, .ref (ad 0)), (1, .ref (ad 5)), (2, .int (nI (a))), (3, .int (nI (v)))]) hx hb dX1_keepAnswering_40 hl (k := 4) rfl (nI_add _ _) (by decide) rfl (fun ls hl => ?_)
          refine lv_goto (tgt := 3) hx hb dX1_keepAnswering_43 (by decide) ?_
          exact ih3 (i := i + 1) (p2 := (va_up p2 i false)) (ls := ls) (hl := lv_sub hl [1, 2, 3, 4, 0] rfl) (H := H) (locs := locs) (hP := hP) (hD := hD) (hS := hS) (hinv := by
              refine ⟨by omega, up_le h2 ?_, up_gt h3⟩
              first | (simp [← h4, c17]; done) | (simp [← h4, c17, c31]; done)
            ) (hn9 := by
              omega
            )
        · skip
          refine lv_iconst (v := bI (true)) hx hb dX1_keepAnswering_34 (by decide) ?_
          refine lv_goto (tgt := 39) hx hb dX1_keepAnswering_35 (by decide) ?_
          refine x_zast hx hb hK hP hD hS 5 1 rfl rfl (i := i) (v := true) (by omega) (by omega) dX1_keepAnswering_39 (fun H locs hP hD hS => ?_)
          replace hP : va_P D vwCl (WX ad cI cZ c g hid code ans dbt opn (va_up p2 i true) hps wr) H := hP
          replace hD : va_D A (WX ad cI cZ c g hid code ans dbt opn (va_up p2 i true) hps wr) := hD
          refine lv_iinc (v := nI (i + 1)) (lv' := [(4, .int (nI (i + 1))), (0, .ref (ad 0)), (1, .ref (ad 5)), (2, .int (nI (a))), (3, .int (nI (v)))]) hx hb dX1_keepAnswering_40 hl (k := 4) rfl (nI_add _ _) (by decide) rfl (fun ls hl => ?_)
          refine lv_goto (tgt := 3) hx hb dX1_keepAnswering_43 (by decide) ?_
          exact ih3 (i := i + 1) (p2 := (va_up p2 i true)) (ls := ls) (hl := lv_sub hl [1, 2, 3, 4, 0] rfl) (H := H) (locs := locs) (hP := hP) (hD := hD) (hS := hS) (hinv := by
              refine ⟨by omega, up_le h2 ?_, up_gt h3⟩
              first | (simp [← h4, c17]; done) | (simp [← h4, c17, c31]; done)
            ) (hn9 := by
              omega
            )

set_option maxHeartbeats 4000000 in
set_option maxRecDepth 100000 in
theorem c_X1_sieve (l : Launch) (D : va_G) (cI cZ cG cJ : ClassId) (A : Nat → Prop) (ad : Nat → Nat) (wr : va_W) (hpal : Pals cI cG ad wr) (c : Nat) (g : Nat) (hid : Int32) (code : Nat → Nat) (ans : Nat → Nat) (dbt : Nat → Bool) (opn : Nat → Bool) (ply : Nat → Bool) (hps : Nat → Nat) (hc : c = 2 ∨ c = 3) (hg : g ≤ 12) (hco : CodeOK c g code ans) : Met l yX1_sieve wsX1_sieve ({ frames := 3, cells := 0, slots := 0, locals := 66 }) (va_Pc [.ref (ad 0)] (Iv D (TY cI cZ cG cJ) A (WX ad cI cZ c g hid code ans dbt opn ply hps wr))) (va_Qv (fun (u : Nat → Bool) => ∀ k, k < 81 → u k = opS c g code ans dbt k) (fun u => Wd D A (WX ad cI cZ c g hid code ans dbt u ply hps wr)) A) 0 0 A := by
  refine Met.ofW (cc := cX1_sieve) (maxL := 2) (ret := none) (by decide) rfl ?_
  intro p e s m args below meth c9 s₁ B hml hv
  obtain ⟨rfl, hP, hD, hB⟩ := hv
  have hK := hB.1
  have hA := hB.2.1
  have hx := B.exec
  have hb := B.bytes
  have hr := B.returns
  have hts := atoms_spec (ws := wsX1_sieve) B.pre
  have hown : s.vm.findClass RX1 = some m.cls := findClass_of_methodNamed B.named
  have hlocks := B.notSynchronized
  have hS : va_S A s.heap s.heap [] := va_S.rf
  have hinX1 : ∀ w ∈ wsX10, w ∈ wsX1_sieve := by decide +kernel
  have lk21 := hts (.fieldLink RX1 21 "HiddenCandles" "palette" "LHiddenCandles$Palette;") (by decide +kernel)
  have lk28 := hts (.fieldLink RX1 28 "HiddenCandles" "guesses" "I") (by decide +kernel)
  have lk42 := hts (.fieldLink RX1 42 "HiddenCandles" "open" "[Z") (by decide +kernel)
  have hl := lv_entry ([.ref (ad 0)]) (n := 2) (Nat.le_of_ble_eq_true rfl)
  rw [lg_entry_eq]
  generalize (lg_sl ([.ref (ad 0)]) ++ List.replicate (2 - (lg_sl ([.ref (ad 0)])).length) Slot.unset).toArray = ls at hl ⊢
  have hl : lv_has ls 2 [(0, .ref (ad 0))] := hl
  obtain ⟨H, eH⟩ : ∃ q, q = s.heap := ⟨_, rfl⟩
  obtain ⟨locs, eL⟩ : ∃ q : List Loc, q = [] := ⟨_, rfl⟩
  replace hP : va_P D vwCl (WX ad cI cZ c g hid code ans dbt opn ply hps wr) H := by rw [eH]; exact hP
  replace hS : va_S A s.heap H locs := by rw [eH, eL]; exact hS
  rw [show W p l e _ s m _ below meth c9 s.heap [] = W p l e _ s m _ below meth c9 H locs from by rw [eH, eL]]
  clear eH eL
  have hq := qq_in hc
  refine lv_iconst (v := nI (0)) hx hb dX1_sieve_0 (by decide) ?_
  refine lv_istore_n (lv' := [(1, .int (nI (0))), (0, .ref (ad 0))]) hx hb dX1_sieve_1 rfl hl (by decide) rfl (fun ls hl => ?_)
  -- loop at 2
  have hinv : 0 ≤ 81 ∧ (∀ k, k < 0 → opn k = opS c g code ans dbt k) := by
    exact ⟨Nat.zero_le _, fun k hk => absurd hk (Nat.not_lt_zero _)⟩
  obtain ⟨i, p2, hq9⟩ : ∃ (i : Nat) (p2 : Nat → Bool), lv_has ls 2 [(0, .ref (ad 0)), (1, .int (nI (i)))] ∧ (i ≤ 81 ∧ (∀ k, k < i → p2 k = opS c g code ans dbt k)) ∧ va_P D vwCl (WX ad cI cZ c g hid code ans dbt p2 ply hps wr) H ∧ va_D A (WX ad cI cZ c g hid code ans dbt p2 ply hps wr) := ⟨0, opn, lv_sub hl [1, 0] rfl, hinv, hP, hD⟩
  clear hl hinv hP hD
  obtain ⟨hl, hinv, hP, hD⟩ := hq9
  obtain ⟨n9_2, hn9⟩ : ∃ q : Nat, 81 - i < q := ⟨_, Nat.lt_succ_self _⟩
  induction n9_2 generalizing ls H locs i p2 with
  | zero => exact absurd hn9 (Nat.not_lt_zero _)
  | succ n9_2 ih2 =>
    obtain ⟨h1, h2⟩ := hinv
    refine lv_iload_n hx hb dX1_sieve_2 rfl (lv_at hl 1 rfl) ?_
    refine lv_aload_n hx hb dX1_sieve_3 rfl (lv_at hl 0 rfl) ?_
    refine va_get (D := D) (ci := 1) (v := .ref (ad 4)) (C := RX1) (T := TX1) (N := 11) hx hb hts hinX1 hown hK hP 0 rfl rfl 8 (by decide) lk42 (fun _ h9 => h9) rfl dX1_sieve_4 ?_
    refine x_alen hx hb hK hP 4 1 rfl rfl (n := 81) rfl dX1_sieve_7 ?_
    refine x_ge (tgt := 51) hx hb dX1_sieve_8 (by decide) (by omega) (by omega) (fun c8 => ?_) (fun c8 => ?_)
    · skip
      exact W.vret hx hb hr (fun t ht hW => ⟨⟨p2, rfl, (by
          have e9 : i = 81 := by omega
          subst e9
          exact h2), ⟨by rw [ht]; exact hP, hD⟩⟩, hS.F ht⟩) hS.2.2 dX1_sieve_51
    · skip
      refine lv_aload_n hx hb dX1_sieve_11 rfl (lv_at hl 0 rfl) ?_
      refine va_get (D := D) (ci := 1) (v := .ref (ad 4)) (C := RX1) (T := TX1) (N := 11) hx hb hts hinX1 hown hK hP 0 rfl rfl 8 (by decide) lk42 (fun _ h9 => h9) rfl dX1_sieve_12 ?_
      refine lv_iload_n hx hb dX1_sieve_15 rfl (lv_at hl 1 rfl) ?_
      refine lv_aload_n hx hb dX1_sieve_16 rfl (lv_at hl 0 rfl) ?_
      refine va_get (D := D) (ci := 1) (v := .ref (pal ad c)) (C := RX1) (T := TX1) (N := 11) hx hb hts hinX1 hown hK hP 0 rfl rfl 2 (by decide) lk21 (fun _ h9 => h9) rfl dX1_sieve_17 ?_
      refine lv_iload_n hx hb dX1_sieve_20 rfl (lv_at hl 1 rfl) ?_
      refine x_csi (va_runVN (As := [.int (nI (i))]) (rest := [.int (nI (i)), .ref (ad 4)]) ⟨hx, hb, hml, hown, hts⟩ (c_X0_hasCode l D cI cZ cG cJ A (WX ad cI cZ c g hid code ans dbt p2 ply hps wr) (pal ad c) c (nI i) (palX hpal hc) (hc)) ⟨va_cnB (host := RX1) 1 hts gX1_sieve_X0_hasCode_n153 rfl rfl rfl (hB.2.2.2.2.1 _ (by simp [Nws])) (hts _ (by decide +kernel)) (by decide +kernel) ⟨Nat.le_of_ble_eq_true rfl, Nat.le_of_ble_eq_true rfl⟩, hts _ (by decide +kernel), hts _ (by decide +kernel)⟩ (prePal hB hS hP hD (palX hpal hc)) rfl rfl hl.1 rfl (lv_room (Nat.le_of_ble_eq_true rfl)) dX1_sieve_21 ⟨Nat.le_of_ble_eq_true rfl, Nat.le_of_ble_eq_true rfl⟩) ?_
      refine x_ti (y := bI (decide (i < qq c))) (by rw [hasC_nI hc (by omega)]) ?_
      refine x_zeq (tgt := 43) hx hb dX1_sieve_24 (by decide) (fun c24 => ?_) (fun c24 => ?_)
      · skip
        refine lv_iconst (v := bI (false)) hx hb dX1_sieve_43 (by decide) ?_
        refine x_zast hx hb hK hP hD hS 4 1 rfl rfl (i := i) (v := false) (by omega) (by omega) dX1_sieve_44 (fun H locs hP hD hS => ?_)
        replace hP : va_P D vwCl (WX ad cI cZ c g hid code ans dbt (va_up p2 i false) ply hps wr) H := hP
        replace hD : va_D A (WX ad cI cZ c g hid code ans dbt (va_up p2 i false) ply hps wr) := hD
        refine lv_iinc (v := nI (i + 1)) (lv' := [(1, .int (nI (i + 1))), (0, .ref (ad 0))]) hx hb dX1_sieve_45 hl (k := 1) rfl (nI_add _ _) (by decide) rfl (fun ls hl => ?_)
        refine lv_goto (tgt := 2) hx hb dX1_sieve_48 (by decide) ?_
        exact ih2 (i := i + 1) (p2 := (va_up p2 i false)) (ls := ls) (hl := lv_sub hl [1, 0] rfl) (H := H) (locs := locs) (hP := hP) (hD := hD) (hS := hS) (hinv := by
            refine ⟨by omega, up_le h2 ?_⟩
            first | (simp only [opS, c24, Bool.false_and]; done) | (simp only [opS, c24, c36, Bool.true_and]; done)
          ) (hn9 := by
            omega
          )
      · skip
        refine lv_aload_n hx hb dX1_sieve_27 rfl (lv_at hl 0 rfl) ?_
        refine lv_iload_n hx hb dX1_sieve_28 rfl (lv_at hl 1 rfl) ?_
        refine lv_aload_n hx hb dX1_sieve_29 rfl (lv_at hl 0 rfl) ?_
        refine va_get (D := D) (ci := 1) (v := .int (nI (g))) (C := RX1) (T := TX1) (N := 11) hx hb hts hinX1 hown hK hP 0 rfl rfl 4 (by decide) lk28 (fun _ h9 => h9) rfl dX1_sieve_30 ?_
        refine x_csi (va_runV (As := [.int (nI (i)), .int (nI (g))]) (rest := [.int (nI (i)), .ref (ad 4)]) ⟨hx, hb, hml, hown, hts⟩ (c_X1_fits l D cI cZ cG cJ A ad wr hpal c g hid code ans dbt p2 ply hps i g (hc) (of_decide_eq_true c24) (hg) (hco)) (cwV 2 hts gX1_sieve_X1_fits rfl rfl rfl (by decide +kernel) ⟨Nat.le_of_ble_eq_true rfl, Nat.le_of_ble_eq_true rfl⟩) (preV (ci := 1) (q0 := 0) hB hS hP hD rfl rfl) rfl rfl hl.1 rfl (lv_room (Nat.le_of_ble_eq_true rfl)) dX1_sieve_33 ⟨Nat.le_of_ble_eq_true rfl, Nat.le_of_ble_eq_true rfl⟩) ?_
        refine x_zeq (tgt := 43) hx hb dX1_sieve_36 (by decide) (fun c36 => ?_) (fun c36 => ?_)
        · skip
          refine lv_iconst (v := bI (false)) hx hb dX1_sieve_43 (by decide) ?_
          refine x_zast hx hb hK hP hD hS 4 1 rfl rfl (i := i) (v := false) (by omega) (by omega) dX1_sieve_44 (fun H locs hP hD hS => ?_)
          replace hP : va_P D vwCl (WX ad cI cZ c g hid code ans dbt (va_up p2 i false) ply hps wr) H := hP
          replace hD : va_D A (WX ad cI cZ c g hid code ans dbt (va_up p2 i false) ply hps wr) := hD
          refine lv_iinc (v := nI (i + 1)) (lv' := [(1, .int (nI (i + 1))), (0, .ref (ad 0))]) hx hb dX1_sieve_45 hl (k := 1) rfl (nI_add _ _) (by decide) rfl (fun ls hl => ?_)
          refine lv_goto (tgt := 2) hx hb dX1_sieve_48 (by decide) ?_
          exact ih2 (i := i + 1) (p2 := (va_up p2 i false)) (ls := ls) (hl := lv_sub hl [1, 0] rfl) (H := H) (locs := locs) (hP := hP) (hD := hD) (hS := hS) (hinv := by
              refine ⟨by omega, up_le h2 ?_⟩
              first | (simp only [opS, c24, Bool.false_and]; done) | (simp only [opS, c24, c36, Bool.true_and]; done)
            ) (hn9 := by
              omega
            )
        · skip
          refine lv_iconst (v := bI (true)) hx hb dX1_sieve_39 (by decide) ?_
          refine lv_goto (tgt := 44) hx hb dX1_sieve_40 (by decide) ?_
          refine x_zast hx hb hK hP hD hS 4 1 rfl rfl (i := i) (v := true) (by omega) (by omega) dX1_sieve_44 (fun H locs hP hD hS => ?_)
          replace hP : va_P D vwCl (WX ad cI cZ c g hid code ans dbt (va_up p2 i true) ply hps wr) H := hP
          replace hD : va_D A (WX ad cI cZ c g hid code ans dbt (va_up p2 i true) ply hps wr) := hD
          refine lv_iinc (v := nI (i + 1)) (lv' := [(1, .int (nI (i + 1))), (0, .ref (ad 0))]) hx hb dX1_sieve_45 hl (k := 1) rfl (nI_add _ _) (by decide) rfl (fun ls hl => ?_)
          refine lv_goto (tgt := 2) hx hb dX1_sieve_48 (by decide) ?_
          exact ih2 (i := i + 1) (p2 := (va_up p2 i true)) (ls := ls) (hl := lv_sub hl [1, 0] rfl) (H := H) (locs := locs) (hP := hP) (hD := hD) (hS := hS) (hinv := by
              refine ⟨by omega, up_le h2 ?_⟩
              first | (simp only [opS, c24, Bool.false_and]; done) | (simp only [opS, c24, c36, Bool.true_and]; done)
            ) (hn9 := by
              omega
            )

set_option maxHeartbeats 4000000 in
set_option maxRecDepth 100000 in
theorem c_J7_fill_53178 (l : Launch) (D : va_G) (cI cZ cG cJ : ClassId) (A : Nat → Prop) (ad : Nat → Nat) (wr : va_W) (hpal : Pals cI cG ad wr) (c : Nat) (g : Nat) (hid : Int32) (code : Nat → Nat) (ans : Nat → Nat) (dbt : Nat → Bool) (opn : Nat → Bool) (ply : Nat → Bool) (hps : Nat → Nat)  : Met l yJ7_fill_53178 wsJ7_fill_53178 ({ frames := 0, cells := 0, slots := 0, locals := 0 }) (va_Pc [.ref (ad 6), .int (nI (0))] (Iv D (TY cI cZ cG cJ) A (WX ad cI cZ c g hid code ans dbt opn ply hps wr))) (va_Qv (fun (u : Nat → Nat) => ∀ k, k < 21 → u k = 0) (fun u => Wd D A (WX ad cI cZ c g hid code ans dbt opn ply u wr)) A) 0 0 A := by
  refine Met.ofW (cc := cJ7_fill_53178) (maxL := 4) (ret := none) (by decide) rfl ?_
  intro p e s m args below meth c9 s₁ B hml hv
  obtain ⟨rfl, hP, hD, hB⟩ := hv
  have hK := hB.1
  have hA := hB.2.1
  have hx := B.exec
  have hb := B.bytes
  have hr := B.returns
  have hts := atoms_spec (ws := wsJ7_fill_53178) B.pre
  have hown : s.vm.findClass RJ7 = some m.cls := findClass_of_methodNamed B.named
  have hlocks := B.notSynchronized
  have hS : va_S A s.heap s.heap [] := va_S.rf
  have hl := lv_entry ([.ref (ad 6), .int (nI (0))]) (n := 4) (Nat.le_of_ble_eq_true rfl)
  rw [lg_entry_eq]
  generalize (lg_sl ([.ref (ad 6), .int (nI (0))]) ++ List.replicate (4 - (lg_sl ([.ref (ad 6), .int (nI (0))])).length) Slot.unset).toArray = ls at hl ⊢
  have hl : lv_has ls 4 [(0, .ref (ad 6)), (1, .int (nI (0)))] := hl
  obtain ⟨H, eH⟩ : ∃ q, q = s.heap := ⟨_, rfl⟩
  obtain ⟨locs, eL⟩ : ∃ q : List Loc, q = [] := ⟨_, rfl⟩
  replace hP : va_P D vwCl (WX ad cI cZ c g hid code ans dbt opn ply hps wr) H := by rw [eH]; exact hP
  replace hS : va_S A s.heap H locs := by rw [eH, eL]; exact hS
  rw [show W p l e _ s m _ below meth c9 s.heap [] = W p l e _ s m _ below meth c9 H locs from by rw [eH, eL]]
  clear eH eL
  refine lv_iconst (v := nI (0)) hx hb dJ7_fill_53178_0 (by decide) ?_
  refine lv_istore_n (lv' := [(2, .int (nI (0))), (0, .ref (ad 6)), (1, .int (nI (0)))]) hx hb dJ7_fill_53178_1 rfl hl (by decide) rfl (fun ls hl => ?_)
  refine lv_aload_n hx hb dJ7_fill_53178_2 rfl (lv_at hl 1 rfl) ?_
  refine x_alen hx hb hK hP 6 0 rfl rfl (n := 21) rfl dJ7_fill_53178_3 ?_
  refine lv_istore_n (lv' := [(3, .int (nI (21))), (2, .int (nI (0))), (0, .ref (ad 6)), (1, .int (nI (0)))]) hx hb dJ7_fill_53178_4 rfl hl (by decide) rfl (fun ls hl => ?_)
  -- loop at 5
  have hinv : 0 ≤ 21 ∧ (∀ k, k < 0 → hps k = 0) := by
    exact ⟨Nat.zero_le _, fun k hk => absurd hk (Nat.not_lt_zero _)⟩
  obtain ⟨i, h2, hq9⟩ : ∃ (i : Nat) (h2 : Nat → Nat), lv_has ls 4 [(0, .ref (ad 6)), (1, .int (nI (0))), (2, .int (nI (i))), (3, .int (nI (21)))] ∧ (i ≤ 21 ∧ (∀ k, k < i → h2 k = 0)) ∧ va_P D vwCl (WX ad cI cZ c g hid code ans dbt opn ply h2 wr) H ∧ va_D A (WX ad cI cZ c g hid code ans dbt opn ply h2 wr) := ⟨0, hps, lv_sub hl [2, 3, 1, 0] rfl, hinv, hP, hD⟩
  clear hl hinv hP hD
  obtain ⟨hl, hinv, hP, hD⟩ := hq9
  obtain ⟨n9_5, hn9⟩ : ∃ q : Nat, 21 - i < q := ⟨_, Nat.lt_succ_self _⟩
  induction n9_5 generalizing ls H locs i h2 with
  | zero => exact absurd hn9 (Nat.not_lt_zero _)
  | succ n9_5 ih5 =>
    obtain ⟨h1, h3⟩ := hinv
    refine lv_iload_n hx hb dJ7_fill_53178_5 rfl (lv_at hl 2 rfl) ?_
    refine lv_iload_n hx hb dJ7_fill_53178_6 rfl (lv_at hl 3 rfl) ?_
    refine x_ge (tgt := 20) hx hb dJ7_fill_53178_7 (by decide) (by omega) (by omega) (fun c7 => ?_) (fun c7 => ?_)
    · skip
      exact W.vret hx hb hr (fun t ht hW => ⟨⟨h2, rfl, (by
          have e9 : i = 21 := by omega
          subst e9
          exact h3), ⟨by rw [ht]; exact hP, hD⟩⟩, hS.F ht⟩) hS.2.2 dJ7_fill_53178_20
    · skip
      refine lv_aload_n hx hb dJ7_fill_53178_10 rfl (lv_at hl 0 rfl) ?_
      refine lv_iload_n hx hb dJ7_fill_53178_11 rfl (lv_at hl 2 rfl) ?_
      refine lv_iload_n hx hb dJ7_fill_53178_12 rfl (lv_at hl 1 rfl) ?_
      refine x_iast hx hb hK hP hD hS 6 0 rfl rfl (i := i) (v := 0) (by omega) (by omega) dJ7_fill_53178_13 (fun H locs hP hD hS => ?_)
      replace hP : va_P D vwCl (WX ad cI cZ c g hid code ans dbt opn ply (va_up h2 i 0) wr) H := hP
      replace hD : va_D A (WX ad cI cZ c g hid code ans dbt opn ply (va_up h2 i 0) wr) := hD
      refine lv_iinc (v := nI (i + 1)) (lv' := [(2, .int (nI (i + 1))), (0, .ref (ad 6)), (1, .int (nI (0))), (3, .int (nI (21)))]) hx hb dJ7_fill_53178_14 hl (k := 2) rfl (nI_add _ _) (by decide) rfl (fun ls hl => ?_)
      refine lv_goto (tgt := 5) hx hb dJ7_fill_53178_17 (by decide) ?_
      exact ih5 (i := i + 1) (h2 := (va_up h2 i 0)) (ls := ls) (hl := lv_sub hl [1, 2, 0, 3] rfl) (H := H) (locs := locs) (hP := hP) (hD := hD) (hS := hS) (hinv := by
          exact ⟨by omega, up_le (q := fun _ => 0) h3 rfl⟩
        ) (hn9 := by
          omega
        )

set_option maxHeartbeats 4000000 in
set_option maxRecDepth 100000 in
theorem c_X1_heapUp (l : Launch) (D : va_G) (cI cZ cG cJ : ClassId) (A : Nat → Prop) (ad : Nat → Nat) (wr : va_W) (hpal : Pals cI cG ad wr) (c : Nat) (g : Nat) (hid : Int32) (code : Nat → Nat) (ans : Nat → Nat) (dbt : Nat → Bool) (opn : Nat → Bool) (ply : Nat → Bool) (hps : Nat → Nat) (a : Nat) (sa : Nat) (k0 : Nat) (sb : Nat → Bool) (hc : c = 2 ∨ c = 3) (ha : a < qq c) (hset : SetX ad opn ply sa k0 sb) (hsb : ∀ k, k < 81 → sb k = true → k < qq c) : Met l yX1_heapUp wsX1_heapUp ({ frames := 2, cells := 0, slots := 0, locals := 43 }) (va_Pc [.ref (ad 0), .int (nI (a)), .ref (sa)] (Iv D (TY cI cZ cG cJ) A (WX ad cI cZ c g hid code ans dbt opn ply hps wr))) (va_Qv (fun (u : Nat → Nat) => ∀ x, x < 21 → u x = hpN c a sb x) (fun u => Wd D A (WX ad cI cZ c g hid code ans dbt opn ply u wr)) A) 0 0 A := by
  refine Met.ofW (cc := cX1_heapUp) (maxL := 5) (ret := none) (by decide) rfl ?_
  intro p e s m args below meth c9 s₁ B hml hv
  obtain ⟨rfl, hP, hD, hB⟩ := hv
  have hK := hB.1
  have hA := hB.2.1
  have hx := B.exec
  have hb := B.bytes
  have hr := B.returns
  have hts := atoms_spec (ws := wsX1_heapUp) B.pre
  have hown : s.vm.findClass RX1 = some m.cls := findClass_of_methodNamed B.named
  have hlocks := B.notSynchronized
  have hS : va_S A s.heap s.heap [] := va_S.rf
  have hinX1 : ∀ w ∈ wsX10, w ∈ wsX1_heapUp := by decide +kernel
  have lk21 := hts (.fieldLink RX1 21 "HiddenCandles" "palette" "LHiddenCandles$Palette;") (by decide +kernel)
  have lk48 := hts (.fieldLink RX1 48 "HiddenCandles" "heaps" "[I") (by decide +kernel)
  have hl := lv_entry ([.ref (ad 0), .int (nI (a)), .ref (sa)]) (n := 5) (Nat.le_of_ble_eq_true rfl)
  rw [lg_entry_eq]
  generalize (lg_sl ([.ref (ad 0), .int (nI (a)), .ref (sa)]) ++ List.replicate (5 - (lg_sl ([.ref (ad 0), .int (nI (a)), .ref (sa)])).length) Slot.unset).toArray = ls at hl ⊢
  have hl : lv_has ls 5 [(0, .ref (ad 0)), (1, .int (nI (a))), (2, .ref (sa))] := hl
  obtain ⟨H, eH⟩ : ∃ q, q = s.heap := ⟨_, rfl⟩
  obtain ⟨locs, eL⟩ : ∃ q : List Loc, q = [] := ⟨_, rfl⟩
  replace hP : va_P D vwCl (WX ad cI cZ c g hid code ans dbt opn ply hps wr) H := by rw [eH]; exact hP
  replace hS : va_S A s.heap H locs := by rw [eH, eL]; exact hS
  rw [show W p l e _ s m _ below meth c9 s.heap [] = W p l e _ s m _ below meth c9 H locs from by rw [eH, eL]]
  clear eH eL
  have hq := qq_in hc
  refine lv_aload_n hx hb dX1_heapUp_0 rfl (lv_at hl 0 rfl) ?_
  refine va_get (D := D) (ci := 1) (v := .ref (ad 6)) (C := RX1) (T := TX1) (N := 11) hx hb hts hinX1 hown hK hP 0 rfl rfl 10 (by decide) lk48 (fun _ h9 => h9) rfl dX1_heapUp_1 ?_
  refine lv_iconst (v := nI (0)) hx hb dX1_heapUp_4 (by decide) ?_
  refine va_callv (va_runS (As := [.ref (ad 6), .int (nI (0))]) (rest := []) ⟨hx, hb, hml, hown, hts⟩ (c_J7_fill_53178 l D cI cZ cG cJ A ad wr hpal c g hid code ans dbt opn ply hps ) (va_cwS 2 hts gX1_heapUp_J7_fill_53178 rfl rfl rfl (by decide +kernel) ⟨Nat.le_of_ble_eq_true rfl, Nat.le_of_ble_eq_true rfl⟩) (preS hB hS hP hD) rfl rfl hl.1 rfl (lv_room (Nat.le_of_ble_eq_true rfl)) dX1_heapUp_5 ⟨Nat.le_of_ble_eq_true rfl, Nat.le_of_ble_eq_true rfl⟩) hS (fun q _ h => h) (fun q h => h) (fun u_5 t9 H1 locs1 ht9 hvm9 hw_5 hBw hz9 hk9 hS => ?_)
  obtain ⟨hP, hD⟩ := hBw
  rw [ht9] at hP
  generalize H1 = H at hP hS ⊢
  generalize locs1 = locs at hS ⊢
  replace hP : va_P D vwCl (WX ad cI cZ c g hid code ans dbt opn ply u_5 wr) H := hP
  replace hD : va_D A (WX ad cI cZ c g hid code ans dbt opn ply u_5 wr) := hD
  refine lv_iconst (v := nI (0)) hx hb dX1_heapUp_8 (by decide) ?_
  refine lv_istore_n (lv' := [(3, .int (nI (0))), (0, .ref (ad 0)), (1, .int (nI (a))), (2, .ref (sa))]) hx hb dX1_heapUp_9 rfl hl (by decide) rfl (fun ls hl => ?_)
  -- loop at 10
  have hinv : 0 ≤ 81 ∧ (∀ x, x < 21 → u_5 x = cN (fun k => sb k && decide (pins c a k = x)) 0) := by
    exact ⟨Nat.zero_le _, hw_5⟩
  obtain ⟨i, h2, hq9⟩ : ∃ (i : Nat) (h2 : Nat → Nat), lv_has ls 5 [(0, .ref (ad 0)), (1, .int (nI (a))), (2, .ref (sa)), (3, .int (nI (i)))] ∧ (i ≤ 81 ∧ (∀ x, x < 21 → h2 x = cN (fun k => sb k && decide (pins c a k = x)) i)) ∧ va_P D vwCl (WX ad cI cZ c g hid code ans dbt opn ply h2 wr) H ∧ va_D A (WX ad cI cZ c g hid code ans dbt opn ply h2 wr) := ⟨0, u_5, lv_sub hl [1, 2, 3, 0] rfl, hinv, hP, hD⟩
  clear hl hinv hP hD
  obtain ⟨hl, hinv, hP, hD⟩ := hq9
  obtain ⟨n9_10, hn9⟩ : ∃ q : Nat, 81 - i < q := ⟨_, Nat.lt_succ_self _⟩
  induction n9_10 generalizing ls H locs i h2 with
  | zero => exact absurd hn9 (Nat.not_lt_zero _)
  | succ n9_10 ih10 =>
    obtain ⟨h1, h3⟩ := hinv
    refine lv_iload_n hx hb dX1_heapUp_10 rfl (lv_at hl 3 rfl) ?_
    refine lv_aload_n hx hb dX1_heapUp_11 rfl (lv_at hl 2 rfl) ?_
    refine x_alen hx hb hK hP k0 1 (setX hset) rfl (n := 81) rfl dX1_heapUp_12 ?_
    refine x_ge (tgt := 65) hx hb dX1_heapUp_13 (by decide) (by omega) (by omega) (fun c13 => ?_) (fun c13 => ?_)
    · skip
      exact W.vret hx hb hr (fun t ht hW => ⟨⟨h2, rfl, (by
          have e9 : i = 81 := by omega
          subst e9
          exact h3), ⟨by rw [ht]; exact hP, hD⟩⟩, hS.F ht⟩) hS.2.2 dX1_heapUp_65
    · skip
      refine lv_aload_n hx hb dX1_heapUp_16 rfl (lv_at hl 2 rfl) ?_
      refine lv_iload_n hx hb dX1_heapUp_17 rfl (lv_at hl 3 rfl) ?_
      refine x_zald hx hb hK hP k0 1 (setX hset) rfl (i := i) (by omega) (by omega) dX1_heapUp_18 ?_
      refine x_zeq (tgt := 59) hx hb dX1_heapUp_19 (by decide) (fun c19 => ?_) (fun c19 => ?_)
      · skip
        refine lv_iinc (v := nI (i + 1)) (lv' := [(3, .int (nI (i + 1))), (0, .ref (ad 0)), (1, .int (nI (a))), (2, .ref (sa))]) hx hb dX1_heapUp_59 hl (k := 3) rfl (nI_add _ _) (by decide) rfl (fun ls hl => ?_)
        refine lv_goto (tgt := 10) hx hb dX1_heapUp_62 (by decide) ?_
        exact ih10 (i := i + 1) (h2 := h2) (ls := ls) (hl := lv_sub hl [1, 2, 3, 0] rfl) (H := H) (locs := locs) (hP := hP) (hD := hD) (hS := hS) (hinv := by
            refine ⟨by omega, ?_⟩
            first | exact heap_up h3 c19 | exact heap_no h3 c19
          ) (hn9 := by
            omega
          )
      · skip
        refine lv_aload_n hx hb dX1_heapUp_22 rfl (lv_at hl 0 rfl) ?_
        refine va_get (D := D) (ci := 1) (v := .ref (pal ad c)) (C := RX1) (T := TX1) (N := 11) hx hb hts hinX1 hown hK hP 0 rfl rfl 2 (by decide) lk21 (fun _ h9 => h9) rfl dX1_heapUp_23 ?_
        refine lv_iload_n hx hb dX1_heapUp_26 rfl (lv_at hl 1 rfl) ?_
        refine lv_iload_n hx hb dX1_heapUp_27 rfl (lv_at hl 3 rfl) ?_
        refine x_csi (va_runVN (As := [.int (nI (a)), .int (nI (i))]) (rest := []) ⟨hx, hb, hml, hown, hts⟩ (c_X0_answerTo l D cI cZ cG cJ A (WX ad cI cZ c g hid code ans dbt opn ply h2 wr) (pal ad c) c a i (palX hpal hc) (hc) (ha) (hsb i (by omega) c19)) ⟨va_cnB (host := RX1) 2 hts gX1_heapUp_X0_answerTo_n77 rfl rfl rfl (hB.2.2.2.2.1 _ (by simp [Nws])) (hts _ (by decide +kernel)) (by decide +kernel) ⟨Nat.le_of_ble_eq_true rfl, Nat.le_of_ble_eq_true rfl⟩, hts _ (by decide +kernel), hts _ (by decide +kernel)⟩ (prePal hB hS hP hD (palX hpal hc)) rfl rfl hl.1 rfl (lv_room (Nat.le_of_ble_eq_true rfl)) dX1_heapUp_28 ⟨Nat.le_of_ble_eq_true rfl, Nat.le_of_ble_eq_true rfl⟩) ?_
        have hpi := pins_le hc (ha) (hsb i (by omega) c19)
        refine lv_istore (lv' := [(4, .int (nI (pins c a i))), (0, .ref (ad 0)), (1, .int (nI (a))), (2, .ref (sa)), (3, .int (nI (i)))]) hx hb dX1_heapUp_31 hl (by decide) rfl (fun ls hl => ?_)
        refine lv_iload hx hb dX1_heapUp_33 (lv_at hl 0 rfl) ?_
        refine x_lt0 (tgt := 59) hx hb dX1_heapUp_35 (by decide) (by omega) ?_
        refine lv_iload hx hb dX1_heapUp_38 (lv_at hl 0 rfl) ?_
        refine lv_aload_n hx hb dX1_heapUp_40 rfl (lv_at hl 1 rfl) ?_
        refine va_get (D := D) (ci := 1) (v := .ref (ad 6)) (C := RX1) (T := TX1) (N := 11) hx hb hts hinX1 hown hK hP 0 rfl rfl 10 (by decide) lk48 (fun _ h9 => h9) rfl dX1_heapUp_41 ?_
        refine x_alen hx hb hK hP 6 0 rfl rfl (n := 21) rfl dX1_heapUp_44 ?_
        refine x_ge (tgt := 59) hx hb dX1_heapUp_45 (by decide) (by omega) (by omega) (fun c45 => absurd c45 (by omega)) (fun c45 => ?_)
        refine lv_aload_n hx hb dX1_heapUp_48 rfl (lv_at hl 1 rfl) ?_
        refine va_get (D := D) (ci := 1) (v := .ref (ad 6)) (C := RX1) (T := TX1) (N := 11) hx hb hts hinX1 hown hK hP 0 rfl rfl 10 (by decide) lk48 (fun _ h9 => h9) rfl dX1_heapUp_49 ?_
        refine lv_iload hx hb dX1_heapUp_52 (lv_at hl 0 rfl) ?_
        refine lv_dup2_11 hx hb dX1_heapUp_54 rfl rfl ?_
        refine x_iald hx hb hK hP 6 0 rfl rfl (i := pins c a i) (by omega) (by omega) dX1_heapUp_55 ?_
        have hle := cN_le (fun k => sb k && decide (pins c a k = pins c a i)) i
        have h4 := h3 (pins c a i) (by omega)
        refine lv_iconst (v := nI (1)) hx hb dX1_heapUp_56 (by decide) ?_
        refine lv_iadd hx hb dX1_heapUp_57 ?_
        refine x_ti (nI_add _ _) ?_
        refine x_iast hx hb hK hP hD hS 6 0 rfl rfl (i := pins c a i) (v := (h2 (pins c a i)) + 1) (by omega) (by omega) dX1_heapUp_58 (fun H locs hP hD hS => ?_)
        replace hP : va_P D vwCl (WX ad cI cZ c g hid code ans dbt opn ply (va_up h2 (pins c a i) ((h2 (pins c a i)) + 1)) wr) H := hP
        replace hD : va_D A (WX ad cI cZ c g hid code ans dbt opn ply (va_up h2 (pins c a i) ((h2 (pins c a i)) + 1)) wr) := hD
        refine lv_iinc (v := nI (i + 1)) (lv' := [(3, .int (nI (i + 1))), (4, .int (nI (pins c a i))), (0, .ref (ad 0)), (1, .int (nI (a))), (2, .ref (sa))]) hx hb dX1_heapUp_59 hl (k := 4) rfl (nI_add _ _) (by decide) rfl (fun ls hl => ?_)
        refine lv_goto (tgt := 10) hx hb dX1_heapUp_62 (by decide) ?_
        exact ih10 (i := i + 1) (h2 := (va_up h2 (pins c a i) ((h2 (pins c a i)) + 1))) (ls := ls) (hl := lv_sub hl [2, 3, 4, 0] rfl) (H := H) (locs := locs) (hP := hP) (hD := hD) (hS := hS) (hinv := by
            refine ⟨by omega, ?_⟩
            first | exact heap_up h3 c19 | exact heap_no h3 c19
          ) (hn9 := by
            omega
          )

set_option maxHeartbeats 4000000 in
set_option maxRecDepth 100000 in
theorem c_X1_greatestHeap (l : Launch) (D : va_G) (cI cZ cG cJ : ClassId) (A : Nat → Prop) (ad : Nat → Nat) (wr : va_W) (hpal : Pals cI cG ad wr) (c : Nat) (g : Nat) (hid : Int32) (code : Nat → Nat) (ans : Nat → Nat) (dbt : Nat → Bool) (opn : Nat → Bool) (ply : Nat → Bool) (hps : Nat → Nat) (a : Nat) (sa : Nat) (k0 : Nat) (sb : Nat → Bool) (hc : c = 2 ∨ c = 3) (ha : a < qq c) (hset : SetX ad opn ply sa k0 sb) (hsb : ∀ k, k < 81 → sb k = true → k < qq c) : Met l yX1_greatestHeap wsX1_greatestHeap ({ frames := 3, cells := 0, slots := 0, locals := 67 }) (va_Pc [.ref (ad 0), .int (nI (a)), .ref (sa)] (Iv D (TY cI cZ cG cJ) A (WX ad cI cZ c g hid code ans dbt opn ply hps wr))) (va_Qi (fun r (u : Nat → Nat) => r = nI (gh c a sb) ∧ ∀ x, x < 21 → u x = hpN c a sb x) (fun u => Wd D A (WX ad cI cZ c g hid code ans dbt opn ply u wr)) A) 0 0 A := by
  refine Met.ofW (cc := cX1_greatestHeap) (maxL := 5) (ret := (some .int)) (by decide) rfl ?_
  intro p e s m args below meth c9 s₁ B hml hv
  obtain ⟨rfl, hP, hD, hB⟩ := hv
  have hK := hB.1
  have hA := hB.2.1
  have hx := B.exec
  have hb := B.bytes
  have hr := B.returns
  have hts := atoms_spec (ws := wsX1_greatestHeap) B.pre
  have hown : s.vm.findClass RX1 = some m.cls := findClass_of_methodNamed B.named
  have hlocks := B.notSynchronized
  have hS : va_S A s.heap s.heap [] := va_S.rf
  have hinX1 : ∀ w ∈ wsX10, w ∈ wsX1_greatestHeap := by decide +kernel
  have lk48 := hts (.fieldLink RX1 48 "HiddenCandles" "heaps" "[I") (by decide +kernel)
  have hl := lv_entry ([.ref (ad 0), .int (nI (a)), .ref (sa)]) (n := 5) (Nat.le_of_ble_eq_true rfl)
  rw [lg_entry_eq]
  generalize (lg_sl ([.ref (ad 0), .int (nI (a)), .ref (sa)]) ++ List.replicate (5 - (lg_sl ([.ref (ad 0), .int (nI (a)), .ref (sa)])).length) Slot.unset).toArray = ls at hl ⊢
  have hl : lv_has ls 5 [(0, .ref (ad 0)), (1, .int (nI (a))), (2, .ref (sa))] := hl
  obtain ⟨H, eH⟩ : ∃ q, q = s.heap := ⟨_, rfl⟩
  obtain ⟨locs, eL⟩ : ∃ q : List Loc, q = [] := ⟨_, rfl⟩
  replace hP : va_P D vwCl (WX ad cI cZ c g hid code ans dbt opn ply hps wr) H := by rw [eH]; exact hP
  replace hS : va_S A s.heap H locs := by rw [eH, eL]; exact hS
  rw [show W p l e _ s m _ below meth c9 s.heap [] = W p l e _ s m _ below meth c9 H locs from by rw [eH, eL]]
  clear eH eL
  have hq := qq_in hc
  refine lv_aload_n hx hb dX1_greatestHeap_0 rfl (lv_at hl 0 rfl) ?_
  refine lv_iload_n hx hb dX1_greatestHeap_1 rfl (lv_at hl 1 rfl) ?_
  refine lv_aload_n hx hb dX1_greatestHeap_2 rfl (lv_at hl 2 rfl) ?_
  refine va_callv (va_runV (As := [.int (nI (a)), .ref (sa)]) (rest := []) ⟨hx, hb, hml, hown, hts⟩ (c_X1_heapUp l D cI cZ cG cJ A ad wr hpal c g hid code ans dbt opn ply hps a sa k0 sb (hc) (ha) (hset) (hsb)) (cwV 2 hts gX1_greatestHeap_X1_heapUp rfl rfl rfl (by decide +kernel) ⟨Nat.le_of_ble_eq_true rfl, Nat.le_of_ble_eq_true rfl⟩) (preV (ci := 1) (q0 := 0) hB hS hP hD rfl rfl) rfl rfl hl.1 rfl (lv_room (Nat.le_of_ble_eq_true rfl)) dX1_greatestHeap_3 ⟨Nat.le_of_ble_eq_true rfl, Nat.le_of_ble_eq_true rfl⟩) hS (fun q _ h => h) (fun q h => h) (fun u_3 t9 H1 locs1 ht9 hvm9 hw_3 hBw hz9 hk9 hS => ?_)
  obtain ⟨hP, hD⟩ := hBw
  rw [ht9] at hP
  generalize H1 = H at hP hS ⊢
  generalize locs1 = locs at hS ⊢
  replace hP : va_P D vwCl (WX ad cI cZ c g hid code ans dbt opn ply u_3 wr) H := hP
  replace hD : va_D A (WX ad cI cZ c g hid code ans dbt opn ply u_3 wr) := hD
  refine lv_iconst (v := nI (0)) hx hb dX1_greatestHeap_6 (by decide) ?_
  refine lv_istore_n (lv' := [(3, .int (nI (0))), (0, .ref (ad 0)), (1, .int (nI (a))), (2, .ref (sa))]) hx hb dX1_greatestHeap_7 rfl hl (by decide) rfl (fun ls hl => ?_)
  refine lv_iconst (v := nI (0)) hx hb dX1_greatestHeap_8 (by decide) ?_
  refine lv_istore (lv' := [(4, .int (nI (0))), (3, .int (nI (0))), (0, .ref (ad 0)), (1, .int (nI (a))), (2, .ref (sa))]) hx hb dX1_greatestHeap_9 hl (by decide) rfl (fun ls hl => ?_)
  -- loop at 11
  have hinv : 0 ≤ 21 ∧ 0 = mxN (hpN c a sb) 0 := by
    exact ⟨Nat.zero_le _, rfl⟩
  obtain ⟨j, r, hq9⟩ : ∃ (j : Nat) (r : Nat), lv_has ls 5 [(0, .ref (ad 0)), (1, .int (nI (a))), (2, .ref (sa)), (3, .int (nI (r))), (4, .int (nI (j)))] ∧ (j ≤ 21 ∧ r = mxN (hpN c a sb) j) ∧ va_P D vwCl (WX ad cI cZ c g hid code ans dbt opn ply u_3 wr) H ∧ va_D A (WX ad cI cZ c g hid code ans dbt opn ply u_3 wr) := ⟨0, 0, lv_sub hl [2, 3, 4, 1, 0] rfl, hinv, hP, hD⟩
  clear hl hinv hP hD
  obtain ⟨hl, hinv, hP, hD⟩ := hq9
  obtain ⟨n9_11, hn9⟩ : ∃ q : Nat, 21 - j < q := ⟨_, Nat.lt_succ_self _⟩
  induction n9_11 generalizing ls H locs j r with
  | zero => exact absurd hn9 (Nat.not_lt_zero _)
  | succ n9_11 ih11 =>
    obtain ⟨h1, h3⟩ := hinv; have hm := gh_le c a sb j; have h5 : ∀ x, x < 21 → u_3 x ≤ 81 := fun x hx21 => by rw [hw_3 x hx21]; exact cN_le _ _
    refine lv_iload hx hb dX1_greatestHeap_11 (lv_at hl 4 rfl) ?_
    refine lv_aload_n hx hb dX1_greatestHeap_13 rfl (lv_at hl 0 rfl) ?_
    refine va_get (D := D) (ci := 1) (v := .ref (ad 6)) (C := RX1) (T := TX1) (N := 11) hx hb hts hinX1 hown hK hP 0 rfl rfl 10 (by decide) lk48 (fun _ h9 => h9) rfl dX1_greatestHeap_14 ?_
    refine x_alen hx hb hK hP 6 0 rfl rfl (n := 21) rfl dX1_greatestHeap_17 ?_
    refine x_ge (tgt := 39) hx hb dX1_greatestHeap_18 (by decide) (by omega) (by omega) (fun c18 => ?_) (fun c18 => ?_)
    · skip
      refine lv_iload_n hx hb dX1_greatestHeap_39 rfl (lv_at hl 3 rfl) ?_
      exact W.iret (v := nI (r)) hx hb hr (fun t ht hW => ⟨⟨_, u_3, rfl, (by
          have e9 : j = 21 := by omega
          subst e9
          exact ⟨by rw [h3, gh_eq], hw_3⟩), ⟨by rw [ht]; exact hP, hD⟩⟩, hS.F ht⟩) hS.2.2 dX1_greatestHeap_40
    · skip
      refine lv_iload_n hx hb dX1_greatestHeap_21 rfl (lv_at hl 3 rfl) ?_
      refine lv_aload_n hx hb dX1_greatestHeap_22 rfl (lv_at hl 0 rfl) ?_
      refine va_get (D := D) (ci := 1) (v := .ref (ad 6)) (C := RX1) (T := TX1) (N := 11) hx hb hts hinX1 hown hK hP 0 rfl rfl 10 (by decide) lk48 (fun _ h9 => h9) rfl dX1_greatestHeap_23 ?_
      refine lv_iload hx hb dX1_greatestHeap_26 (lv_at hl 4 rfl) ?_
      refine x_iald hx hb hK hP 6 0 rfl rfl (i := j) (by omega) (by omega) dX1_greatestHeap_28 ?_
      refine va_mmax hx hb (hml.trans hl.1.symm) hown (hts (.methodLink RX1 202 Lib.Math.max.name) (by decide +kernel)) (hts _ (by decide +kernel)) (hts _ (by decide +kernel)) (hts _ (by decide +kernel)) (Nat.le_of_ble_eq_true rfl) (Nat.le_of_ble_eq_true rfl) (Nat.le_of_ble_eq_true rfl) (Nat.le_of_ble_eq_true rfl) dX1_greatestHeap_29 ?_
      refine x_ti (nI_max (by omega) (by have := h5 j (by omega); omega)) ?_
      refine lv_istore_n (lv' := [(3, .int (nI (max r (u_3 j)))), (0, .ref (ad 0)), (1, .int (nI (a))), (2, .ref (sa)), (4, .int (nI (j)))]) hx hb dX1_greatestHeap_32 rfl hl (by decide) rfl (fun ls hl => ?_)
      refine lv_iinc (v := nI (j + 1)) (lv' := [(4, .int (nI (j + 1))), (3, .int (nI (max r (u_3 j)))), (0, .ref (ad 0)), (1, .int (nI (a))), (2, .ref (sa))]) hx hb dX1_greatestHeap_33 hl (k := 4) rfl (nI_add _ _) (by decide) rfl (fun ls hl => ?_)
      refine lv_goto (tgt := 11) hx hb dX1_greatestHeap_36 (by decide) ?_
      exact ih11 (j := j + 1) (r := max r (u_3 j)) (ls := ls) (hl := lv_sub hl [2, 3, 4, 1, 0] rfl) (H := H) (locs := locs) (hP := hP) (hS := hS) (hinv := by
          exact ⟨by omega, by simp only [mxN, h3, hw_3 j (by omega)]⟩
        ) (hn9 := by
          omega
        )

set_option maxHeartbeats 4000000 in
set_option maxRecDepth 100000 in
theorem c_X1_leastBad (l : Launch) (D : va_G) (cI cZ cG cJ : ClassId) (A : Nat → Prop) (ad : Nat → Nat) (wr : va_W) (hpal : Pals cI cG ad wr) (c : Nat) (g : Nat) (hid : Int32) (code : Nat → Nat) (ans : Nat → Nat) (dbt : Nat → Bool) (opn : Nat → Bool) (ply : Nat → Bool) (hps : Nat → Nat) (sa : Nat) (k0 : Nat) (sb : Nat → Bool) (only : Bool) (hc : c = 2 ∨ c = 3) (hset : SetX ad opn ply sa k0 sb) (hsb : ∀ k, k < 81 → sb k = true → k < qq c) : Met l yX1_leastBad wsX1_leastBad ({ frames := 4, cells := 0, slots := 0, locals := 91 }) (va_Pc [.ref (ad 0), .ref (sa), .int (bI (only))] (Iv D (TY cI cZ cG cJ) A (WX ad cI cZ c g hid code ans dbt opn ply hps wr))) (va_Qi (fun r (u : Nat → Nat) => r = lbR c sb only ∧ True) (fun u => Wd D A (WX ad cI cZ c g hid code ans dbt opn ply u wr)) A) 0 0 A := by
  refine Met.ofW (cc := cX1_leastBad) (maxL := 9) (ret := (some .int)) (by decide) rfl ?_
  intro p e s m args below meth c9 s₁ B hml hv
  obtain ⟨rfl, hP, hD, hB⟩ := hv
  have hK := hB.1
  have hA := hB.2.1
  have hx := B.exec
  have hb := B.bytes
  have hr := B.returns
  have hts := atoms_spec (ws := wsX1_leastBad) B.pre
  have hown : s.vm.findClass RX1 = some m.cls := findClass_of_methodNamed B.named
  have hlocks := B.notSynchronized
  have hS : va_S A s.heap s.heap [] := va_S.rf
  have hinX0 : ∀ w ∈ wsX00, w ∈ wsX1_leastBad := by decide +kernel
  have hinX1 : ∀ w ∈ wsX10, w ∈ wsX1_leastBad := by decide +kernel
  have lk21 := hts (.fieldLink RX1 21 "HiddenCandles" "palette" "LHiddenCandles$Palette;") (by decide +kernel)
  have hl := lv_entry ([.ref (ad 0), .ref (sa), .int (bI (only))]) (n := 9) (Nat.le_of_ble_eq_true rfl)
  rw [lg_entry_eq]
  generalize (lg_sl ([.ref (ad 0), .ref (sa), .int (bI (only))]) ++ List.replicate (9 - (lg_sl ([.ref (ad 0), .ref (sa), .int (bI (only))])).length) Slot.unset).toArray = ls at hl ⊢
  have hl : lv_has ls 9 [(0, .ref (ad 0)), (1, .ref (sa)), (2, .int (bI (only)))] := hl
  obtain ⟨H, eH⟩ : ∃ q, q = s.heap := ⟨_, rfl⟩
  obtain ⟨locs, eL⟩ : ∃ q : List Loc, q = [] := ⟨_, rfl⟩
  replace hP : va_P D vwCl (WX ad cI cZ c g hid code ans dbt opn ply hps wr) H := by rw [eH]; exact hP
  replace hS : va_S A s.heap H locs := by rw [eH, eL]; exact hS
  rw [show W p l e _ s m _ below meth c9 s.heap [] = W p l e _ s m _ below meth c9 H locs from by rw [eH, eL]]
  clear eH eL
  have hq := qq_in hc
  refine lv_aload_n hx hb dX1_leastBad_0 rfl (lv_at hl 1 rfl) ?_
  refine x_csi (va_runS (As := [.ref (sa)]) (rest := []) ⟨hx, hb, hml, hown, hts⟩ (c_X1_size l D cI cZ cG cJ A (WX ad cI cZ c g hid code ans dbt opn ply hps wr) sa k0 sb (setX hset)) (va_cwS 1 hts gX1_leastBad_X1_size rfl rfl rfl (by decide +kernel) ⟨Nat.le_of_ble_eq_true rfl, Nat.le_of_ble_eq_true rfl⟩) (preS hB hS hP hD) rfl rfl hl.1 rfl (lv_room (Nat.le_of_ble_eq_true rfl)) dX1_leastBad_1 ⟨Nat.le_of_ble_eq_true rfl, Nat.le_of_ble_eq_true rfl⟩) ?_
  have hsz := cN_le sb 81
  refine x_ne0 (tgt := 9) hx hb dX1_leastBad_4 (by decide) (by omega) (fun c4 => ?_) (fun c4 => ?_)
  · skip
    refine lv_iconst (v := (-1)) hx hb dX1_leastBad_9 (by decide) ?_
    refine lv_istore_n (lv' := [(3, .int ((-1))), (0, .ref (ad 0)), (1, .ref (sa)), (2, .int (bI (only)))]) hx hb dX1_leastBad_10 rfl hl (by decide) rfl (fun ls hl => ?_)
    refine lv_iconst (v := bI (false)) hx hb dX1_leastBad_11 (by decide) ?_
    refine lv_istore (lv' := [(4, .int (bI (false))), (3, .int ((-1))), (0, .ref (ad 0)), (1, .ref (sa)), (2, .int (bI (only)))]) hx hb dX1_leastBad_12 hl (by decide) rfl (fun ls hl => ?_)
    refine lv_bipush (v := nI (82)) hx hb dX1_leastBad_14 (by decide) ?_
    refine lv_istore (lv' := [(5, .int (nI (82))), (4, .int (bI (false))), (3, .int ((-1))), (0, .ref (ad 0)), (1, .ref (sa)), (2, .int (bI (only)))]) hx hb dX1_leastBad_16 hl (by decide) rfl (fun ls hl => ?_)
    refine lv_iconst (v := nI (0)) hx hb dX1_leastBad_18 (by decide) ?_
    refine lv_istore (lv' := [(6, .int (nI (0))), (5, .int (nI (82))), (4, .int (bI (false))), (3, .int ((-1))), (0, .ref (ad 0)), (1, .ref (sa)), (2, .int (bI (only)))]) hx hb dX1_leastBad_19 hl (by decide) rfl (fun ls hl => ?_)
    -- loop at 21
    have hinv : 0 ≤ qq c ∧ (-1) = (lbS c sb only 0).1 ∧ false = (lbS c sb only 0).2.1 ∧ 82 = (lbS c sb only 0).2.2 ∧ 82 ≤ 82 := by
      exact ⟨Nat.zero_le _, rfl, rfl, rfl, Nat.le_refl _⟩
    obtain ⟨i, lst, inn, few, h2, hq9⟩ : ∃ (i : Nat) (lst : Int32) (inn : Bool) (few : Nat) (h2 : Nat → Nat), lv_has ls 9 [(0, .ref (ad 0)), (1, .ref (sa)), (2, .int (bI (only))), (3, .int (lst)), (4, .int (bI (inn))), (5, .int (nI (few))), (6, .int (nI (i)))] ∧ (i ≤ qq c ∧ lst = (lbS c sb only i).1 ∧ inn = (lbS c sb only i).2.1 ∧ few = (lbS c sb only i).2.2 ∧ few ≤ 82) ∧ va_P D vwCl (WX ad cI cZ c g hid code ans dbt opn ply h2 wr) H ∧ va_D A (WX ad cI cZ c g hid code ans dbt opn ply h2 wr) := ⟨0, (-1), false, 82, hps, lv_sub hl [4, 5, 6, 3, 2, 1, 0] rfl, hinv, hP, hD⟩
    clear hl hinv hP hD
    obtain ⟨hl, hinv, hP, hD⟩ := hq9
    obtain ⟨n9_21, hn9⟩ : ∃ q : Nat, qq c - i < q := ⟨_, Nat.lt_succ_self _⟩
    induction n9_21 generalizing ls H locs i lst inn few h2 with
    | zero => exact absurd hn9 (Nat.not_lt_zero _)
    | succ n9_21 ih21 =>
      obtain ⟨h1, h2l, h2i, h2f, h2b⟩ := hinv
      refine lv_iload hx hb dX1_leastBad_21 (lv_at hl 6 rfl) ?_
      refine lv_aload_n hx hb dX1_leastBad_23 rfl (lv_at hl 0 rfl) ?_
      refine va_get (D := D) (ci := 1) (v := .ref (pal ad c)) (C := RX1) (T := TX1) (N := 11) hx hb hts hinX1 hown hK hP 0 rfl rfl 2 (by decide) lk21 (fun _ h9 => h9) rfl dX1_leastBad_24 ?_
      refine x_codes hx hb hts hinX0 hown hK hP (palX hpal hc) (hB.2.2.2.2.1 _ (by simp [Nws])) dX1_leastBad_27 ?_
      refine x_ge (tgt := 100) hx hb dX1_leastBad_30 (by decide) (by omega) (by omega) (fun c30 => ?_) (fun c30 => ?_)
      · skip
        refine lv_iload_n hx hb dX1_leastBad_100 rfl (lv_at hl 3 rfl) ?_
        exact W.iret (v := lst) hx hb hr (fun t ht hW => ⟨⟨_, h2, rfl, (by
            have e9 : i = qq c := by omega
            exact ⟨by rw [lbR, if_neg (by omega), h2l, e9], trivial⟩), ⟨by rw [ht]; exact hP, hD⟩⟩, hS.F ht⟩) hS.2.2 dX1_leastBad_101
      · skip
        refine lv_aload_n hx hb dX1_leastBad_33 rfl (lv_at hl 1 rfl) ?_
        refine lv_iload hx hb dX1_leastBad_34 (lv_at hl 6 rfl) ?_
        refine x_csi (va_runS (As := [.ref (sa), .int (nI (i))]) (rest := []) ⟨hx, hb, hml, hown, hts⟩ (c_X1_isIn l D cI cZ cG cJ A (WX ad cI cZ c g hid code ans dbt opn ply h2 wr) sa k0 sb i (setX hset) (by omega)) (va_cwS 2 hts gX1_leastBad_X1_isIn rfl rfl rfl (by decide +kernel) ⟨Nat.le_of_ble_eq_true rfl, Nat.le_of_ble_eq_true rfl⟩) (preS hB hS hP hD) rfl rfl hl.1 rfl (lv_room (Nat.le_of_ble_eq_true rfl)) dX1_leastBad_36 ⟨Nat.le_of_ble_eq_true rfl, Nat.le_of_ble_eq_true rfl⟩) ?_
        refine lv_istore (lv' := [(7, .int (bI (sb i))), (0, .ref (ad 0)), (1, .ref (sa)), (2, .int (bI (only))), (3, .int (lst)), (4, .int (bI (inn))), (5, .int (nI (few))), (6, .int (nI (i)))]) hx hb dX1_leastBad_39 hl (by decide) rfl (fun ls hl => ?_)
        refine lv_iload hx hb dX1_leastBad_41 (lv_at hl 0 rfl) ?_
        refine x_zne (tgt := 50) hx hb dX1_leastBad_43 (by decide) (fun c43 => ?_) (fun c43 => ?_)
        · skip
          refine lv_aload_n hx hb dX1_leastBad_50 rfl (lv_at hl 1 rfl) ?_
          refine lv_iload hx hb dX1_leastBad_51 (lv_at hl 7 rfl) ?_
          refine lv_aload_n hx hb dX1_leastBad_53 rfl (lv_at hl 2 rfl) ?_
          refine va_calli (va_runV (As := [.int (nI (i)), .ref (sa)]) (rest := []) ⟨hx, hb, hml, hown, hts⟩ (c_X1_greatestHeap l D cI cZ cG cJ A ad wr hpal c g hid code ans dbt opn ply h2 i sa k0 sb (hc) (by omega) (hset) (hsb)) (cwV 2 hts gX1_leastBad_X1_greatestHeap rfl rfl rfl (by decide +kernel) ⟨Nat.le_of_ble_eq_true rfl, Nat.le_of_ble_eq_true rfl⟩) (preV (ci := 1) (q0 := 0) hB hS hP hD rfl rfl) rfl rfl hl.1 rfl (lv_room (Nat.le_of_ble_eq_true rfl)) dX1_leastBad_54 ⟨Nat.le_of_ble_eq_true rfl, Nat.le_of_ble_eq_true rfl⟩) hS (fun q _ h => h) (fun q h => h) (fun r_54 u_54 t9 H1 locs1 ht9 hvm9 hw_54 hBw hz9 hk9 hS => ?_)
          obtain ⟨hP, hD⟩ := hBw
          rw [ht9] at hP
          generalize H1 = H at hP hS ⊢
          generalize locs1 = locs at hS ⊢
          replace hP : va_P D vwCl (WX ad cI cZ c g hid code ans dbt opn ply u_54 wr) H := hP
          replace hD : va_D A (WX ad cI cZ c g hid code ans dbt opn ply u_54 wr) := hD
          have hgl := gh_le81 c i sb
          refine x_ti (y := nI (gh c i sb)) (hw_54.1) ?_
          refine lv_istore (lv' := [(8, .int (nI (gh c i sb))), (7, .int (bI (sb i))), (0, .ref (ad 0)), (1, .ref (sa)), (2, .int (bI (only))), (3, .int (lst)), (4, .int (bI (inn))), (5, .int (nI (few))), (6, .int (nI (i)))]) hx hb dX1_leastBad_57 hl (by decide) rfl (fun ls hl => ?_)
          refine lv_iload hx hb dX1_leastBad_59 (lv_at hl 0 rfl) ?_
          refine lv_iload hx hb dX1_leastBad_61 (lv_at hl 7 rfl) ?_
          refine x_lt (tgt := 83) hx hb dX1_leastBad_63 (by decide) (by omega) (by omega) (fun c63 => ?_) (fun c63 => ?_)
          · skip
            refine lv_iload hx hb dX1_leastBad_83 (lv_at hl 8 rfl) ?_
            refine lv_istore_n (lv' := [(3, .int (nI (i))), (8, .int (nI (gh c i sb))), (7, .int (bI (sb i))), (0, .ref (ad 0)), (1, .ref (sa)), (2, .int (bI (only))), (4, .int (bI (inn))), (5, .int (nI (few))), (6, .int (nI (i)))]) hx hb dX1_leastBad_85 rfl hl (by decide) rfl (fun ls hl => ?_)
            refine lv_iload hx hb dX1_leastBad_86 (lv_at hl 2 rfl) ?_
            refine lv_istore (lv' := [(4, .int (bI (sb i))), (3, .int (nI (i))), (8, .int (nI (gh c i sb))), (7, .int (bI (sb i))), (0, .ref (ad 0)), (1, .ref (sa)), (2, .int (bI (only))), (5, .int (nI (few))), (6, .int (nI (i)))]) hx hb dX1_leastBad_88 hl (by decide) rfl (fun ls hl => ?_)
            refine lv_iload hx hb dX1_leastBad_90 (lv_at hl 2 rfl) ?_
            refine lv_istore (lv' := [(5, .int (nI (gh c i sb))), (4, .int (bI (sb i))), (3, .int (nI (i))), (8, .int (nI (gh c i sb))), (7, .int (bI (sb i))), (0, .ref (ad 0)), (1, .ref (sa)), (2, .int (bI (only))), (6, .int (nI (i)))]) hx hb dX1_leastBad_92 hl (by decide) rfl (fun ls hl => ?_)
            refine lv_iinc (v := nI (i + 1)) (lv' := [(6, .int (nI (i + 1))), (5, .int (nI (gh c i sb))), (4, .int (bI (sb i))), (3, .int (nI (i))), (8, .int (nI (gh c i sb))), (7, .int (bI (sb i))), (0, .ref (ad 0)), (1, .ref (sa)), (2, .int (bI (only)))]) hx hb dX1_leastBad_94 hl (k := 8) rfl (nI_add _ _) (by decide) rfl (fun ls hl => ?_)
            refine lv_goto (tgt := 21) hx hb dX1_leastBad_97 (by decide) ?_
            exact ih21 (i := i + 1) (lst := nI (i)) (inn := sb i) (few := gh c i sb) (h2 := u_54) (ls := ls) (hl := lv_sub hl [6, 7, 8, 3, 2, 1, 0] rfl) (H := H) (locs := locs) (hP := hP) (hD := hD) (hS := hS) (hinv := by
                refine ⟨by omega, ?_, ?_, ?_, by omega⟩
                all_goals first | rw [lbS_upd h2i h2f (Or.inl c43) (Or.inl c63)] | rw [lbS_upd h2i h2f (Or.inr c47) (Or.inl c63)] | rw [lbS_upd h2i h2f (Or.inl c43) (Or.inr ⟨c70, c75, c80⟩)] | rw [lbS_upd h2i h2f (Or.inr c47) (Or.inr ⟨c70, c75, c80⟩)] | (rw [lbS_nup h2i h2f (lb_n1 c43 c47)]; assumption) | (rw [lbS_nup h2i h2f (lb_n2 c63 c70)]; assumption) | (rw [lbS_nup h2i h2f (lb_n3 c63 c75)]; assumption) | (rw [lbS_nup h2i h2f (lb_n4 c63 c80)]; assumption)
              ) (hn9 := by
                omega
              )
          · skip
            refine lv_iload hx hb dX1_leastBad_66 (lv_at hl 0 rfl) ?_
            refine lv_iload hx hb dX1_leastBad_68 (lv_at hl 7 rfl) ?_
            refine x_ne (tgt := 94) hx hb dX1_leastBad_70 (by decide) (by omega) (by omega) (fun c70 => ?_) (fun c70 => ?_)
            · skip
              refine lv_iinc (v := nI (i + 1)) (lv' := [(6, .int (nI (i + 1))), (8, .int (nI (gh c i sb))), (7, .int (bI (sb i))), (0, .ref (ad 0)), (1, .ref (sa)), (2, .int (bI (only))), (3, .int (lst)), (4, .int (bI (inn))), (5, .int (nI (few)))]) hx hb dX1_leastBad_94 hl (k := 8) rfl (nI_add _ _) (by decide) rfl (fun ls hl => ?_)
              refine lv_goto (tgt := 21) hx hb dX1_leastBad_97 (by decide) ?_
              exact ih21 (i := i + 1) (lst := lst) (inn := inn) (few := few) (h2 := u_54) (ls := ls) (hl := lv_sub hl [3, 4, 5, 6, 7, 8, 0] rfl) (H := H) (locs := locs) (hP := hP) (hD := hD) (hS := hS) (hinv := by
                  refine ⟨by omega, ?_, ?_, ?_, by omega⟩
                  all_goals first | rw [lbS_upd h2i h2f (Or.inl c43) (Or.inl c63)] | rw [lbS_upd h2i h2f (Or.inr c47) (Or.inl c63)] | rw [lbS_upd h2i h2f (Or.inl c43) (Or.inr ⟨c70, c75, c80⟩)] | rw [lbS_upd h2i h2f (Or.inr c47) (Or.inr ⟨c70, c75, c80⟩)] | (rw [lbS_nup h2i h2f (lb_n1 c43 c47)]; assumption) | (rw [lbS_nup h2i h2f (lb_n2 c63 c70)]; assumption) | (rw [lbS_nup h2i h2f (lb_n3 c63 c75)]; assumption) | (rw [lbS_nup h2i h2f (lb_n4 c63 c80)]; assumption)
                ) (hn9 := by
                  omega
                )
            · skip
              refine lv_iload hx hb dX1_leastBad_73 (lv_at hl 1 rfl) ?_
              refine x_zeq (tgt := 94) hx hb dX1_leastBad_75 (by decide) (fun c75 => ?_) (fun c75 => ?_)
              · skip
                refine lv_iinc (v := nI (i + 1)) (lv' := [(6, .int (nI (i + 1))), (8, .int (nI (gh c i sb))), (7, .int (bI (sb i))), (0, .ref (ad 0)), (1, .ref (sa)), (2, .int (bI (only))), (3, .int (lst)), (4, .int (bI (inn))), (5, .int (nI (few)))]) hx hb dX1_leastBad_94 hl (k := 8) rfl (nI_add _ _) (by decide) rfl (fun ls hl => ?_)
                refine lv_goto (tgt := 21) hx hb dX1_leastBad_97 (by decide) ?_
                exact ih21 (i := i + 1) (lst := lst) (inn := inn) (few := few) (h2 := u_54) (ls := ls) (hl := lv_sub hl [3, 4, 5, 6, 7, 8, 0] rfl) (H := H) (locs := locs) (hP := hP) (hD := hD) (hS := hS) (hinv := by
                    refine ⟨by omega, ?_, ?_, ?_, by omega⟩
                    all_goals first | rw [lbS_upd h2i h2f (Or.inl c43) (Or.inl c63)] | rw [lbS_upd h2i h2f (Or.inr c47) (Or.inl c63)] | rw [lbS_upd h2i h2f (Or.inl c43) (Or.inr ⟨c70, c75, c80⟩)] | rw [lbS_upd h2i h2f (Or.inr c47) (Or.inr ⟨c70, c75, c80⟩)] | (rw [lbS_nup h2i h2f (lb_n1 c43 c47)]; assumption) | (rw [lbS_nup h2i h2f (lb_n2 c63 c70)]; assumption) | (rw [lbS_nup h2i h2f (lb_n3 c63 c75)]; assumption) | (rw [lbS_nup h2i h2f (lb_n4 c63 c80)]; assumption)
                  ) (hn9 := by
                    omega
                  )
              · skip
                refine lv_iload hx hb dX1_leastBad_78 (lv_at hl 6 rfl) ?_
                refine x_zne (tgt := 94) hx hb dX1_leastBad_80 (by decide) (fun c80 => ?_) (fun c80 => ?_)
                · skip
                  refine lv_iinc (v := nI (i + 1)) (lv' := [(6, .int (nI (i + 1))), (8, .int (nI (gh c i sb))), (7, .int (bI (sb i))), (0, .ref (ad 0)), (1, .ref (sa)), (2, .int (bI (only))), (3, .int (lst)), (4, .int (bI (inn))), (5, .int (nI (few)))]) hx hb dX1_leastBad_94 hl (k := 8) rfl (nI_add _ _) (by decide) rfl (fun ls hl => ?_)
                  refine lv_goto (tgt := 21) hx hb dX1_leastBad_97 (by decide) ?_
                  exact ih21 (i := i + 1) (lst := lst) (inn := inn) (few := few) (h2 := u_54) (ls := ls) (hl := lv_sub hl [3, 4, 5, 6, 7, 8, 0] rfl) (H := H) (locs := locs) (hP := hP) (hD := hD) (hS := hS) (hinv := by
                      refine ⟨by omega, ?_, ?_, ?_, by omega⟩
                      all_goals first | rw [lbS_upd h2i h2f (Or.inl c43) (Or.inl c63)] | rw [lbS_upd h2i h2f (Or.inr c47) (Or.inl c63)] | rw [lbS_upd h2i h2f (Or.inl c43) (Or.inr ⟨c70, c75, c80⟩)] | rw [lbS_upd h2i h2f (Or.inr c47) (Or.inr ⟨c70, c75, c80⟩)] | (rw [lbS_nup h2i h2f (lb_n1 c43 c47)]; assumption) | (rw [lbS_nup h2i h2f (lb_n2 c63 c70)]; assumption) | (rw [lbS_nup h2i h2f (lb_n3 c63 c75)]; assumption) | (rw [lbS_nup h2i h2f (lb_n4 c63 c80)]; assumption)
                    ) (hn9 := by
                      omega
                    )
                · skip
                  refine lv_iload hx hb dX1_leastBad_83 (lv_at hl 8 rfl) ?_
                  refine lv_istore_n (lv' := [(3, .int (nI (i))), (8, .int (nI (gh c i sb))), (7, .int (bI (sb i))), (0, .ref (ad 0)), (1, .ref (sa)), (2, .int (bI (only))), (4, .int (bI (inn))), (5, .int (nI (few))), (6, .int (nI (i)))]) hx hb dX1_leastBad_85 rfl hl (by decide) rfl (fun ls hl => ?_)
                  refine lv_iload hx hb dX1_leastBad_86 (lv_at hl 2 rfl) ?_
                  refine lv_istore (lv' := [(4, .int (bI (sb i))), (3, .int (nI (i))), (8, .int (nI (gh c i sb))), (7, .int (bI (sb i))), (0, .ref (ad 0)), (1, .ref (sa)), (2, .int (bI (only))), (5, .int (nI (few))), (6, .int (nI (i)))]) hx hb dX1_leastBad_88 hl (by decide) rfl (fun ls hl => ?_)
                  refine lv_iload hx hb dX1_leastBad_90 (lv_at hl 2 rfl) ?_
                  refine lv_istore (lv' := [(5, .int (nI (gh c i sb))), (4, .int (bI (sb i))), (3, .int (nI (i))), (8, .int (nI (gh c i sb))), (7, .int (bI (sb i))), (0, .ref (ad 0)), (1, .ref (sa)), (2, .int (bI (only))), (6, .int (nI (i)))]) hx hb dX1_leastBad_92 hl (by decide) rfl (fun ls hl => ?_)
                  refine lv_iinc (v := nI (i + 1)) (lv' := [(6, .int (nI (i + 1))), (5, .int (nI (gh c i sb))), (4, .int (bI (sb i))), (3, .int (nI (i))), (8, .int (nI (gh c i sb))), (7, .int (bI (sb i))), (0, .ref (ad 0)), (1, .ref (sa)), (2, .int (bI (only)))]) hx hb dX1_leastBad_94 hl (k := 8) rfl (nI_add _ _) (by decide) rfl (fun ls hl => ?_)
                  refine lv_goto (tgt := 21) hx hb dX1_leastBad_97 (by decide) ?_
                  exact ih21 (i := i + 1) (lst := nI (i)) (inn := sb i) (few := gh c i sb) (h2 := u_54) (ls := ls) (hl := lv_sub hl [6, 7, 8, 3, 2, 1, 0] rfl) (H := H) (locs := locs) (hP := hP) (hD := hD) (hS := hS) (hinv := by
                      refine ⟨by omega, ?_, ?_, ?_, by omega⟩
                      all_goals first | rw [lbS_upd h2i h2f (Or.inl c43) (Or.inl c63)] | rw [lbS_upd h2i h2f (Or.inr c47) (Or.inl c63)] | rw [lbS_upd h2i h2f (Or.inl c43) (Or.inr ⟨c70, c75, c80⟩)] | rw [lbS_upd h2i h2f (Or.inr c47) (Or.inr ⟨c70, c75, c80⟩)] | (rw [lbS_nup h2i h2f (lb_n1 c43 c47)]; assumption) | (rw [lbS_nup h2i h2f (lb_n2 c63 c70)]; assumption) | (rw [lbS_nup h2i h2f (lb_n3 c63 c75)]; assumption) | (rw [lbS_nup h2i h2f (lb_n4 c63 c80)]; assumption)
                    ) (hn9 := by
                      omega
                    )
        · skip
          refine lv_iload_n hx hb dX1_leastBad_46 rfl (lv_at hl 3 rfl) ?_
          refine x_zne (tgt := 94) hx hb dX1_leastBad_47 (by decide) (fun c47 => ?_) (fun c47 => ?_)
          · skip
            refine lv_iinc (v := nI (i + 1)) (lv' := [(6, .int (nI (i + 1))), (7, .int (bI (sb i))), (0, .ref (ad 0)), (1, .ref (sa)), (2, .int (bI (only))), (3, .int (lst)), (4, .int (bI (inn))), (5, .int (nI (few)))]) hx hb dX1_leastBad_94 hl (k := 7) rfl (nI_add _ _) (by decide) rfl (fun ls hl => ?_)
            refine lv_goto (tgt := 21) hx hb dX1_leastBad_97 (by decide) ?_
            exact ih21 (i := i + 1) (lst := lst) (inn := inn) (few := few) (h2 := h2) (ls := ls) (hl := lv_sub hl [2, 3, 4, 5, 6, 7, 0] rfl) (H := H) (locs := locs) (hP := hP) (hD := hD) (hS := hS) (hinv := by
                refine ⟨by omega, ?_, ?_, ?_, by omega⟩
                all_goals first | rw [lbS_upd h2i h2f (Or.inl c43) (Or.inl c63)] | rw [lbS_upd h2i h2f (Or.inr c47) (Or.inl c63)] | rw [lbS_upd h2i h2f (Or.inl c43) (Or.inr ⟨c70, c75, c80⟩)] | rw [lbS_upd h2i h2f (Or.inr c47) (Or.inr ⟨c70, c75, c80⟩)] | (rw [lbS_nup h2i h2f (lb_n1 c43 c47)]; assumption) | (rw [lbS_nup h2i h2f (lb_n2 c63 c70)]; assumption) | (rw [lbS_nup h2i h2f (lb_n3 c63 c75)]; assumption) | (rw [lbS_nup h2i h2f (lb_n4 c63 c80)]; assumption)
              ) (hn9 := by
                omega
              )
          · skip
            refine lv_aload_n hx hb dX1_leastBad_50 rfl (lv_at hl 1 rfl) ?_
            refine lv_iload hx hb dX1_leastBad_51 (lv_at hl 7 rfl) ?_
            refine lv_aload_n hx hb dX1_leastBad_53 rfl (lv_at hl 2 rfl) ?_
            refine va_calli (va_runV (As := [.int (nI (i)), .ref (sa)]) (rest := []) ⟨hx, hb, hml, hown, hts⟩ (c_X1_greatestHeap l D cI cZ cG cJ A ad wr hpal c g hid code ans dbt opn ply h2 i sa k0 sb (hc) (by omega) (hset) (hsb)) (cwV 2 hts gX1_leastBad_X1_greatestHeap rfl rfl rfl (by decide +kernel) ⟨Nat.le_of_ble_eq_true rfl, Nat.le_of_ble_eq_true rfl⟩) (preV (ci := 1) (q0 := 0) hB hS hP hD rfl rfl) rfl rfl hl.1 rfl (lv_room (Nat.le_of_ble_eq_true rfl)) dX1_leastBad_54 ⟨Nat.le_of_ble_eq_true rfl, Nat.le_of_ble_eq_true rfl⟩) hS (fun q _ h => h) (fun q h => h) (fun r_54 u_54 t9 H1 locs1 ht9 hvm9 hw_54 hBw hz9 hk9 hS => ?_)
            obtain ⟨hP, hD⟩ := hBw
            rw [ht9] at hP
            generalize H1 = H at hP hS ⊢
            generalize locs1 = locs at hS ⊢
            replace hP : va_P D vwCl (WX ad cI cZ c g hid code ans dbt opn ply u_54 wr) H := hP
            replace hD : va_D A (WX ad cI cZ c g hid code ans dbt opn ply u_54 wr) := hD
            have hgl := gh_le81 c i sb
            refine x_ti (y := nI (gh c i sb)) (hw_54.1) ?_
            refine lv_istore (lv' := [(8, .int (nI (gh c i sb))), (7, .int (bI (sb i))), (0, .ref (ad 0)), (1, .ref (sa)), (2, .int (bI (only))), (3, .int (lst)), (4, .int (bI (inn))), (5, .int (nI (few))), (6, .int (nI (i)))]) hx hb dX1_leastBad_57 hl (by decide) rfl (fun ls hl => ?_)
            refine lv_iload hx hb dX1_leastBad_59 (lv_at hl 0 rfl) ?_
            refine lv_iload hx hb dX1_leastBad_61 (lv_at hl 7 rfl) ?_
            refine x_lt (tgt := 83) hx hb dX1_leastBad_63 (by decide) (by omega) (by omega) (fun c63 => ?_) (fun c63 => ?_)
            · skip
              refine lv_iload hx hb dX1_leastBad_83 (lv_at hl 8 rfl) ?_
              refine lv_istore_n (lv' := [(3, .int (nI (i))), (8, .int (nI (gh c i sb))), (7, .int (bI (sb i))), (0, .ref (ad 0)), (1, .ref (sa)), (2, .int (bI (only))), (4, .int (bI (inn))), (5, .int (nI (few))), (6, .int (nI (i)))]) hx hb dX1_leastBad_85 rfl hl (by decide) rfl (fun ls hl => ?_)
              refine lv_iload hx hb dX1_leastBad_86 (lv_at hl 2 rfl) ?_
              refine lv_istore (lv' := [(4, .int (bI (sb i))), (3, .int (nI (i))), (8, .int (nI (gh c i sb))), (7, .int (bI (sb i))), (0, .ref (ad 0)), (1, .ref (sa)), (2, .int (bI (only))), (5, .int (nI (few))), (6, .int (nI (i)))]) hx hb dX1_leastBad_88 hl (by decide) rfl (fun ls hl => ?_)
              refine lv_iload hx hb dX1_leastBad_90 (lv_at hl 2 rfl) ?_
              refine lv_istore (lv' := [(5, .int (nI (gh c i sb))), (4, .int (bI (sb i))), (3, .int (nI (i))), (8, .int (nI (gh c i sb))), (7, .int (bI (sb i))), (0, .ref (ad 0)), (1, .ref (sa)), (2, .int (bI (only))), (6, .int (nI (i)))]) hx hb dX1_leastBad_92 hl (by decide) rfl (fun ls hl => ?_)
              refine lv_iinc (v := nI (i + 1)) (lv' := [(6, .int (nI (i + 1))), (5, .int (nI (gh c i sb))), (4, .int (bI (sb i))), (3, .int (nI (i))), (8, .int (nI (gh c i sb))), (7, .int (bI (sb i))), (0, .ref (ad 0)), (1, .ref (sa)), (2, .int (bI (only)))]) hx hb dX1_leastBad_94 hl (k := 8) rfl (nI_add _ _) (by decide) rfl (fun ls hl => ?_)
              refine lv_goto (tgt := 21) hx hb dX1_leastBad_97 (by decide) ?_
              exact ih21 (i := i + 1) (lst := nI (i)) (inn := sb i) (few := gh c i sb) (h2 := u_54) (ls := ls) (hl := lv_sub hl [6, 7, 8, 3, 2, 1, 0] rfl) (H := H) (locs := locs) (hP := hP) (hD := hD) (hS := hS) (hinv := by
                  refine ⟨by omega, ?_, ?_, ?_, by omega⟩
                  all_goals first | rw [lbS_upd h2i h2f (Or.inl c43) (Or.inl c63)] | rw [lbS_upd h2i h2f (Or.inr c47) (Or.inl c63)] | rw [lbS_upd h2i h2f (Or.inl c43) (Or.inr ⟨c70, c75, c80⟩)] | rw [lbS_upd h2i h2f (Or.inr c47) (Or.inr ⟨c70, c75, c80⟩)] | (rw [lbS_nup h2i h2f (lb_n1 c43 c47)]; assumption) | (rw [lbS_nup h2i h2f (lb_n2 c63 c70)]; assumption) | (rw [lbS_nup h2i h2f (lb_n3 c63 c75)]; assumption) | (rw [lbS_nup h2i h2f (lb_n4 c63 c80)]; assumption)
                ) (hn9 := by
                  omega
                )
            · skip
              refine lv_iload hx hb dX1_leastBad_66 (lv_at hl 0 rfl) ?_
              refine lv_iload hx hb dX1_leastBad_68 (lv_at hl 7 rfl) ?_
              refine x_ne (tgt := 94) hx hb dX1_leastBad_70 (by decide) (by omega) (by omega) (fun c70 => ?_) (fun c70 => ?_)
              · skip
                refine lv_iinc (v := nI (i + 1)) (lv' := [(6, .int (nI (i + 1))), (8, .int (nI (gh c i sb))), (7, .int (bI (sb i))), (0, .ref (ad 0)), (1, .ref (sa)), (2, .int (bI (only))), (3, .int (lst)), (4, .int (bI (inn))), (5, .int (nI (few)))]) hx hb dX1_leastBad_94 hl (k := 8) rfl (nI_add _ _) (by decide) rfl (fun ls hl => ?_)
                refine lv_goto (tgt := 21) hx hb dX1_leastBad_97 (by decide) ?_
                exact ih21 (i := i + 1) (lst := lst) (inn := inn) (few := few) (h2 := u_54) (ls := ls) (hl := lv_sub hl [3, 4, 5, 6, 7, 8, 0] rfl) (H := H) (locs := locs) (hP := hP) (hD := hD) (hS := hS) (hinv := by
                    refine ⟨by omega, ?_, ?_, ?_, by omega⟩
                    all_goals first | rw [lbS_upd h2i h2f (Or.inl c43) (Or.inl c63)] | rw [lbS_upd h2i h2f (Or.inr c47) (Or.inl c63)] | rw [lbS_upd h2i h2f (Or.inl c43) (Or.inr ⟨c70, c75, c80⟩)] | rw [lbS_upd h2i h2f (Or.inr c47) (Or.inr ⟨c70, c75, c80⟩)] | (rw [lbS_nup h2i h2f (lb_n1 c43 c47)]; assumption) | (rw [lbS_nup h2i h2f (lb_n2 c63 c70)]; assumption) | (rw [lbS_nup h2i h2f (lb_n3 c63 c75)]; assumption) | (rw [lbS_nup h2i h2f (lb_n4 c63 c80)]; assumption)
                  ) (hn9 := by
                    omega
                  )
              · skip
                refine lv_iload hx hb dX1_leastBad_73 (lv_at hl 1 rfl) ?_
                refine x_zeq (tgt := 94) hx hb dX1_leastBad_75 (by decide) (fun c75 => ?_) (fun c75 => ?_)
                · skip
                  refine lv_iinc (v := nI (i + 1)) (lv' := [(6, .int (nI (i + 1))), (8, .int (nI (gh c i sb))), (7, .int (bI (sb i))), (0, .ref (ad 0)), (1, .ref (sa)), (2, .int (bI (only))), (3, .int (lst)), (4, .int (bI (inn))), (5, .int (nI (few)))]) hx hb dX1_leastBad_94 hl (k := 8) rfl (nI_add _ _) (by decide) rfl (fun ls hl => ?_)
                  refine lv_goto (tgt := 21) hx hb dX1_leastBad_97 (by decide) ?_
                  exact ih21 (i := i + 1) (lst := lst) (inn := inn) (few := few) (h2 := u_54) (ls := ls) (hl := lv_sub hl [3, 4, 5, 6, 7, 8, 0] rfl) (H := H) (locs := locs) (hP := hP) (hD := hD) (hS := hS) (hinv := by
                      refine ⟨by omega, ?_, ?_, ?_, by omega⟩
                      all_goals first | rw [lbS_upd h2i h2f (Or.inl c43) (Or.inl c63)] | rw [lbS_upd h2i h2f (Or.inr c47) (Or.inl c63)] | rw [lbS_upd h2i h2f (Or.inl c43) (Or.inr ⟨c70, c75, c80⟩)] | rw [lbS_upd h2i h2f (Or.inr c47) (Or.inr ⟨c70, c75, c80⟩)] | (rw [lbS_nup h2i h2f (lb_n1 c43 c47)]; assumption) | (rw [lbS_nup h2i h2f (lb_n2 c63 c70)]; assumption) | (rw [lbS_nup h2i h2f (lb_n3 c63 c75)]; assumption) | (rw [lbS_nup h2i h2f (lb_n4 c63 c80)]; assumption)
                    ) (hn9 := by
                      omega
                    )
                · skip
                  refine lv_iload hx hb dX1_leastBad_78 (lv_at hl 6 rfl) ?_
                  refine x_zne (tgt := 94) hx hb dX1_leastBad_80 (by decide) (fun c80 => ?_) (fun c80 => ?_)
                  · skip
                    refine lv_iinc (v := nI (i + 1)) (lv' := [(6, .int (nI (i + 1))), (8, .int (nI (gh c i sb))), (7, .int (bI (sb i))), (0, .ref (ad 0)), (1, .ref (sa)), (2, .int (bI (only))), (3, .int (lst)), (4, .int (bI (inn))), (5, .int (nI (few)))]) hx hb dX1_leastBad_94 hl (k := 8) rfl (nI_add _ _) (by decide) rfl (fun ls hl => ?_)
                    refine lv_goto (tgt := 21) hx hb dX1_leastBad_97 (by decide) ?_
                    exact ih21 (i := i + 1) (lst := lst) (inn := inn) (few := few) (h2 := u_54) (ls := ls) (hl := lv_sub hl [3, 4, 5, 6, 7, 8, 0] rfl) (H := H) (locs := locs) (hP := hP) (hD := hD) (hS := hS) (hinv := by
                        refine ⟨by omega, ?_, ?_, ?_, by omega⟩
                        all_goals first | rw [lbS_upd h2i h2f (Or.inl c43) (Or.inl c63)] | rw [lbS_upd h2i h2f (Or.inr c47) (Or.inl c63)] | rw [lbS_upd h2i h2f (Or.inl c43) (Or.inr ⟨c70, c75, c80⟩)] | rw [lbS_upd h2i h2f (Or.inr c47) (Or.inr ⟨c70, c75, c80⟩)] | (rw [lbS_nup h2i h2f (lb_n1 c43 c47)]; assumption) | (rw [lbS_nup h2i h2f (lb_n2 c63 c70)]; assumption) | (rw [lbS_nup h2i h2f (lb_n3 c63 c75)]; assumption) | (rw [lbS_nup h2i h2f (lb_n4 c63 c80)]; assumption)
                      ) (hn9 := by
                        omega
                      )
                  · skip
                    refine lv_iload hx hb dX1_leastBad_83 (lv_at hl 8 rfl) ?_
                    refine lv_istore_n (lv' := [(3, .int (nI (i))), (8, .int (nI (gh c i sb))), (7, .int (bI (sb i))), (0, .ref (ad 0)), (1, .ref (sa)), (2, .int (bI (only))), (4, .int (bI (inn))), (5, .int (nI (few))), (6, .int (nI (i)))]) hx hb dX1_leastBad_85 rfl hl (by decide) rfl (fun ls hl => ?_)
                    refine lv_iload hx hb dX1_leastBad_86 (lv_at hl 2 rfl) ?_
                    refine lv_istore (lv' := [(4, .int (bI (sb i))), (3, .int (nI (i))), (8, .int (nI (gh c i sb))), (7, .int (bI (sb i))), (0, .ref (ad 0)), (1, .ref (sa)), (2, .int (bI (only))), (5, .int (nI (few))), (6, .int (nI (i)))]) hx hb dX1_leastBad_88 hl (by decide) rfl (fun ls hl => ?_)
                    refine lv_iload hx hb dX1_leastBad_90 (lv_at hl 2 rfl) ?_
                    refine lv_istore (lv' := [(5, .int (nI (gh c i sb))), (4, .int (bI (sb i))), (3, .int (nI (i))), (8, .int (nI (gh c i sb))), (7, .int (bI (sb i))), (0, .ref (ad 0)), (1, .ref (sa)), (2, .int (bI (only))), (6, .int (nI (i)))]) hx hb dX1_leastBad_92 hl (by decide) rfl (fun ls hl => ?_)
                    refine lv_iinc (v := nI (i + 1)) (lv' := [(6, .int (nI (i + 1))), (5, .int (nI (gh c i sb))), (4, .int (bI (sb i))), (3, .int (nI (i))), (8, .int (nI (gh c i sb))), (7, .int (bI (sb i))), (0, .ref (ad 0)), (1, .ref (sa)), (2, .int (bI (only)))]) hx hb dX1_leastBad_94 hl (k := 8) rfl (nI_add _ _) (by decide) rfl (fun ls hl => ?_)
                    refine lv_goto (tgt := 21) hx hb dX1_leastBad_97 (by decide) ?_
                    exact ih21 (i := i + 1) (lst := nI (i)) (inn := sb i) (few := gh c i sb) (h2 := u_54) (ls := ls) (hl := lv_sub hl [6, 7, 8, 3, 2, 1, 0] rfl) (H := H) (locs := locs) (hP := hP) (hD := hD) (hS := hS) (hinv := by
                        refine ⟨by omega, ?_, ?_, ?_, by omega⟩
                        all_goals first | rw [lbS_upd h2i h2f (Or.inl c43) (Or.inl c63)] | rw [lbS_upd h2i h2f (Or.inr c47) (Or.inl c63)] | rw [lbS_upd h2i h2f (Or.inl c43) (Or.inr ⟨c70, c75, c80⟩)] | rw [lbS_upd h2i h2f (Or.inr c47) (Or.inr ⟨c70, c75, c80⟩)] | (rw [lbS_nup h2i h2f (lb_n1 c43 c47)]; assumption) | (rw [lbS_nup h2i h2f (lb_n2 c63 c70)]; assumption) | (rw [lbS_nup h2i h2f (lb_n3 c63 c75)]; assumption) | (rw [lbS_nup h2i h2f (lb_n4 c63 c80)]; assumption)
                      ) (hn9 := by
                        omega
                      )
  · skip
    refine lv_iconst (v := (-1)) hx hb dX1_leastBad_7 (by decide) ?_
    exact W.iret (v := (-1)) hx hb hr (fun t ht hW => ⟨⟨_, hps, rfl, (by
        exact ⟨by rw [lbR, if_pos c4], trivial⟩), ⟨by rw [ht]; exact hP, hD⟩⟩, hS.F ht⟩) hS.2.2 dX1_leastBad_8
end
section
/-- a number of 0 to n - 1 -/
def rgC (n : Nat) (v : Int32) : Bool := decide (0 ≤ v ∧ v < nI n)
abbrev plC (v : Int32) : Bool := rgC 4 v
abbrev gsC (g : Nat) (v : Int32) : Bool := rgC g v
theorem rgC_f1 {n : Nat} {v : Int32} (h : v < 0) : rgC n v = false := by
  simp only [rgC, decide_eq_false_iff_not]
  intro q
  exact absurd (Int32.lt_of_lt_of_le h q.1) (Int32.lt_irrefl)
theorem rgC_f2 {n : Nat} {v : Int32} (h : ¬ v < nI n) : rgC n v = false := by
  simp only [rgC, decide_eq_false_iff_not]
  exact fun q => h q.2
theorem rgC_f3 {n : Nat} {v : Int32} (h : nI n ≤ v) : rgC n v = false := rgC_f2 (Int32.not_lt.mpr h)
theorem rgC_t {n : Nat} {v : Int32} (h1 : ¬ v < 0) (h2 : v < nI n) : rgC n v = true := by
  simp only [rgC, decide_eq_true_eq]
  exact ⟨Int32.not_lt.mp h1, h2⟩
theorem rgC_t2 {n : Nat} {v : Int32} (h1 : ¬ v < 0) (h2 : ¬ nI n ≤ v) : rgC n v = true := rgC_t h1 (Int32.not_le.mp h2)
theorem rgC_of {n : Nat} {v : Int32} (h : rgC n v = true) (hn : n < 2 ^ 31) : ∃ k, k < n ∧ v = nI k := by
  simp only [rgC, decide_eq_true_eq] at h
  obtain ⟨k, hk, rfl⟩ := nI_of (x := v) (fun h2 => Int32.lt_irrefl (Int32.lt_of_lt_of_le h2 h.1))
  exact ⟨k, (nI_ltI hk hn).mp h.2, rfl⟩
theorem rgC_nI {n k : Nat} (hk : k < n) (hn : n < 2 ^ 31) : rgC n (nI k) = true := rgC_t (nI_pos (by omega)) (nI_lt hk hn)
theorem sw_cases (x : Int32) (n : Nat) (hi : Int) (h1 : hi + 1 = (n : Int)) (h2 : n < 2 ^ 31) : (x.toInt < 0 ∨ hi < x.toInt) ∨ ∃ j, j < n ∧ x = nI j := by
  rcases Int.lt_or_le x.toInt 0 with h | h
  · exact Or.inl (Or.inl h)
  · rcases Int.lt_or_le hi x.toInt with q | q
    · exact Or.inl (Or.inr q)
    · right
      have hv : vp_in x n := vp_in_iff.mpr ⟨h, by omega⟩
      exact vp_in_of hv h2
theorem rgC_f {n : Nat} {hi : Int} {v : Int32} (hn : hi + 1 = (n : Int) ∧ n < 2 ^ 31) (h : v.toInt < 0 ∨ hi < v.toInt) : rgC n v = false := by
  cases e : rgC n v with
  | false => rfl
  | true =>
    obtain ⟨k, hk, rfl⟩ := rgC_of e hn.2
    rw [nI_toInt (by omega)] at h
    omega
theorem plC_f1 {v : Int32} (h : v < 0) : plC v = false := rgC_f1 h
theorem plC_f2 {v : Int32} (h : ¬ v < nI 4) : plC v = false := rgC_f2 h
theorem plC_t {v : Int32} (h1 : ¬ v < 0) (h2 : v < nI 4) : plC v = true := rgC_t h1 h2
theorem plC_of {v : Int32} (h : plC v = true) : ∃ k, k < 4 ∧ v = nI k := rgC_of h (by decide)
theorem plC_nI {k : Nat} (hk : k < 4) : plC (nI k) = true := rgC_nI hk (by decide)
theorem gsC_f1 {g : Nat} {v : Int32} (h : v < 0) : gsC g v = false := rgC_f1 h
theorem gsC_f2 {g : Nat} {v : Int32} (h : nI g ≤ v) : gsC g v = false := rgC_f3 h
theorem gsC_t {g : Nat} {v : Int32} (h1 : ¬ v < 0) (h2 : ¬ nI g ≤ v) : gsC g v = true := rgC_t2 h1 h2
theorem gsC_12 {g : Nat} {v : Int32} (hg : g ≤ 12) (h : ¬ nI g ≤ v) : ¬ (12 : Int32) ≤ v := fun q => by
  have h1 : v < nI g := Int32.not_le.mp h
  have h2 : nI g ≤ nI 12 := nI_le hg (by decide)
  exact Int32.lt_irrefl (Int32.lt_of_lt_of_le (Int32.lt_of_le_of_lt q h1) h2)
theorem gsC_of {g : Nat} {v : Int32} (hg : g ≤ 12) (h : gsC g v = true) : ∃ k, k < g ∧ v = nI k := rgC_of h (by omega)
theorem gsC_nI {g i : Nat} (hi : i < g) (hg : g ≤ 12) : gsC g (nI i) = true := rgC_nI hi (by omega)
theorem pk_sub1 {g : Nat} (h : 0 < g) : nI g - 1 = nI (g - 1) := pk_sub (a := g) (b := 1) h
theorem gs_last {g : Nat} (hg : g ≤ 12) : gsC g (nI g - 1) = decide (0 < g) := by
  rcases Nat.eq_zero_or_pos g with h | h
  · subst h; decide
  · rw [pk_sub1 h, gsC_nI (by omega) hg, decide_eq_true h]
def pinC (b w : Int32) : Bool := decide (0 ≤ b ∧ 0 ≤ w ∧ w ≤ 4 - b ∧ ¬ (b = 3 ∧ w = 1))
theorem pinC_f1 {b w : Int32} (h : b < 0) : pinC b w = false := by
  simp only [pinC, decide_eq_false_iff_not]
  exact fun q => Int32.lt_irrefl (Int32.lt_of_lt_of_le h q.1)
theorem pinC_f2 {b w : Int32} (h : w < 0) : pinC b w = false := by
  simp only [pinC, decide_eq_false_iff_not]
  exact fun q => Int32.lt_irrefl (Int32.lt_of_lt_of_le h q.2.1)
theorem pinC_f3 {b w : Int32} (h : ¬ w ≤ 4 - b) : pinC b w = false := by
  simp only [pinC, decide_eq_false_iff_not]
  exact fun q => h q.2.2.1
theorem pinC_f4 {b w : Int32} (h : b = 3) (h2 : w = 1) : pinC b w = false := by
  simp only [pinC, decide_eq_false_iff_not]
  exact fun q => q.2.2.2 ⟨h, h2⟩
theorem pinC_t {b w : Int32} (h1 : ¬ b < 0) (h2 : ¬ w < 0) (h3 : w ≤ 4 - b) (h4 : ¬ (b = 3 ∧ w = 1)) : pinC b w = true := by
  simp only [pinC, decide_eq_true_eq]
  exact ⟨Int32.not_lt.mp h1, Int32.not_lt.mp h2, h3, h4⟩
theorem pinC_of {b w : Int32} (h : pinC b w = true) : ∃ nb nw : Nat, nb + nw ≤ 4 ∧ b = nI nb ∧ w = nI nw := by
  simp only [pinC, decide_eq_true_eq] at h
  obtain ⟨h1, h2, h3, -⟩ := h
  obtain ⟨nb, hb, rfl⟩ := nI_of (x := b) (fun q => Int32.lt_irrefl (Int32.lt_of_lt_of_le q h1))
  obtain ⟨nw, hw, rfl⟩ := nI_of (x := w) (fun q => Int32.lt_irrefl (Int32.lt_of_lt_of_le q h2))
  refine ⟨nb, nw, ?_, rfl, rfl⟩
  have e1 : (nI nb).toInt = nb := nI_toInt hb
  have e2 : (nI nw).toInt = nw := nI_toInt hw
  have e3 : (4 - nI nb).toInt = 4 - (nb : Int) := by
    rw [Int32.toInt_sub, e1]
    show ((4 : Int32).toInt - (nb : Int)).bmod (2 ^ 32) = _
    rw [show (4 : Int32).toInt = 4 from rfl, Int.bmod_eq_of_le (by omega) (by omega)]
  have h4 : (nI nw).toInt ≤ (4 - nI nb).toInt := Int32.le_iff_toInt_le.mp h3
  omega
theorem code_up {c g : Nat} {code ans : Nat → Nat} {cd an : Nat} (h : CodeOK c g code ans) (h1 : cd < qq c) (h2 : an < 32) : CodeOK c (g + 1) (va_up code g cd) (va_up ans g an) := by
  intro i hi
  by_cases e : i = g
  · subst e; simp [va_up, h1, h2]
  · simp only [va_up, if_neg e]; exact h i (by omega)
theorem code_dn {c g : Nat} {code ans : Nat → Nat} (h : CodeOK c g code ans) : CodeOK c (g - 1) code ans := fun i hi => h i (by omega)
theorem code_le {c g n : Nat} {code ans : Nat → Nat} (h : CodeOK c g code ans) (hn : n ≤ g) : CodeOK c n code ans := fun i hi => h i (by omega)
def XI (c g : Nat) (hid : Int32) (code ans : Nat → Nat) (dbt opn : Nat → Bool) : Prop := (c = 2 ∨ c = 3) ∧ g ≤ 12 ∧ CodeOK c g code ans ∧ (hid = -1 ∨ ∃ h, h < qq c ∧ hid = nI h) ∧ ∀ k, k < 81 → opn k = opS c g code ans dbt k
theorem op_lt2 {c g : Nat} {code ans : Nat → Nat} {dbt : Nat → Bool} {k : Nat} (h : opS c g code ans dbt k = true) : k < qq c := by
  simp only [opS, Bool.and_eq_true, decide_eq_true_eq] at h; exact h.1
theorem op_lt {c g : Nat} {code ans : Nat → Nat} {dbt opn : Nat → Bool} (h : ∀ k, k < 81 → opn k = opS c g code ans dbt k) : ∀ k, k < 81 → opn k = true → k < qq c := fun k hk q => op_lt2 ((h k hk).symm.trans q)
theorem cN_s {p : Nat → Bool} {n : Nat} (h : p n = true) : cN p (n + 1) = cN p n + 1 := by simp only [cN, h, if_true]
theorem cN_n {p : Nat → Bool} {n : Nat} (h : p n = false) : cN p (n + 1) = cN p n := by simp [cN, h]
def swF (c h pa pb : Nat) : Nat → Nat
  | 0 => 0
  | n + 1 => swF c h pa pb n * c + col c h (if n = pa then pb else if n = pb then pa else n)
noncomputable def tldV (c : Nat) (code ans : Nat → Nat) (dbt : Nat → Bool) (i w : Nat) : Nat := match w with
  | 0 => code i
  | 1 => ans i / 5
  | 2 => ans i % 5
  | 3 => if dbt i = true then 1 else 0
  | 4 => cN (fit c code ans dbt (i + 1)) (qq c)
  | _ => cN (fun k => decide (pins c (code i) k = ans i)) (qq c)
noncomputable def cntV (c g : Nat) (hid : Int32) (code ans : Nat → Nat) (dbt : Nat → Bool) (w : Nat) : Nat := match w with
  | 0 => c
  | 1 => qq c
  | 2 => g
  | 3 => cN (opS c g code ans dbt) 81
  | 4 => if hid = -1 then 0 else 1
  | 5 => cN (fun z => decide (ans z = 20)) g
  | _ => cN dbt g
def hvN (c : Nat) (sb : Nat → Bool) (p x : Nat) : Nat := cN (fun k => sb k && decide (col c k p = x)) 81
theorem hv_congr {sa sb : Nat → Bool} (h : ∀ k, k < 81 → sa k = sb k) {c p x : Nat} : cN (fun k => sa k && decide (col c k p = x)) 81 = cN (fun k => sb k && decide (col c k p = x)) 81 := cN_congr 81 (fun k hk => by rw [h k hk])
theorem hvN_le (c : Nat) (sb : Nat → Bool) (p x : Nat) : hvN c sb p x ≤ 81 := cN_le _ _
theorem memA_congr_n {sa sb : Nat → Bool} (n : Nat) (h : ∀ k, k < n → sa k = sb k) {v : Int32} : memA sa v n = memA sb v n := by
  induction n with
  | zero => rfl
  | succ n ih =>
    have e1 := ih (fun k hk => h k (by omega))
    have e2 : cN sa n = cN sb n := cN_congr n (fun k hk => h k (by omega))
    simp only [memA, e1, e2, h n (by omega)]
theorem memA_congr {sa sb : Nat → Bool} (h : ∀ k, k < 81 → sa k = sb k) {v : Int32} : memA sa v 81 = memA sb v 81 := memA_congr_n 81 h
theorem memA_of_n {sb : Nat → Bool} {v : Int32} (n : Nat) (h : ¬ memA sb v n = -1) : ∃ k, k < n ∧ sb k = true ∧ nI (cN sb k) = v ∧ memA sb v n = nI k := by
  induction n with
  | zero => exact absurd rfl h
  | succ n ih =>
    by_cases h1 : memA sb v n = -1
    · simp only [memA, h1, if_true] at h ⊢
      by_cases h2 : sb n = true ∧ nI (cN sb n) = v
      · rw [if_pos h2] at h ⊢; exact ⟨n, Nat.lt_succ_self n, h2.1, h2.2, rfl⟩
      · rw [if_neg h2] at h; exact absurd rfl h
    · obtain ⟨k, hk, a, b, e⟩ := ih h1
      refine ⟨k, by omega, a, b, ?_⟩
      rw [memA, if_neg h1, e]
theorem memA_of {sb : Nat → Bool} {v : Int32} (h : ¬ memA sb v 81 = -1) : ∃ k, k < 81 ∧ sb k = true ∧ memA sb v 81 = nI k := by
  obtain ⟨k, a, b, -, d⟩ := memA_of_n 81 h; exact ⟨k, a, b, d⟩
theorem cN_and_le {p q : Nat → Bool} (n : Nat) : cN (fun k => p k && q k) n ≤ cN p n := by
  induction n with
  | zero => exact Nat.le_refl _
  | succ n ih =>
    cases hp : p n with
    | false => rw [cN_n (p := fun k => p k && q k) (by simp [hp]), cN_n hp]; exact ih
    | true =>
      cases hq : q n with
      | false => rw [cN_n (p := fun k => p k && q k) (by simp [hq]), cN_s hp]; omega
      | true => rw [cN_s (p := fun k => p k && q k) (by simp [hp, hq]), cN_s hp]; omega
theorem cN_all {p q : Nat → Bool} {n : Nat} (h : cN (fun k => p k && q k) n = cN p n) : ∀ k, k < n → p k = true → q k = true := by
  induction n with
  | zero => intro k hk; omega
  | succ n ih =>
    have hle := cN_and_le (p := p) (q := q) n
    intro k hk hpk
    cases hp : p n with
    | false =>
      rw [cN_n (p := fun k => p k && q k) (by simp [hp]), cN_n hp] at h
      by_cases e : k = n
      · subst e; rw [hp] at hpk; cases hpk
      · exact ih h k (by omega) hpk
    | true =>
      cases hq : q n with
      | false => rw [cN_n (p := fun k => p k && q k) (by simp [hq]), cN_s hp] at h; omega
      | true =>
        rw [cN_s (p := fun k => p k && q k) (by simp [hp, hq]), cN_s hp] at h
        by_cases e : k = n
        · subst e; exact hq
        · exact ih (by omega) k (by omega) hpk
theorem cN_zero {p : Nat → Bool} {n : Nat} (h : ∀ k, k < n → p k = false) : cN p n = 0 := by
  induction n with
  | zero => rfl
  | succ n ih => rw [cN_n (h n (by omega))]; exact ih (fun k hk => h k (by omega))
theorem cN_pos {p : Nat → Bool} {n k : Nat} (hk : k < n) (h : p k = true) : 0 < cN p n := by
  induction n with
  | zero => omega
  | succ n ih =>
    by_cases e : k = n
    · subst e; rw [cN_s h]; omega
    · have := ih (by omega); simp only [cN]; omega
/-- the colour that all of the set have at a place, of the first n; -1 if there is none -/
def sureV (c : Nat) (sb : Nat → Bool) (p : Nat) : Nat → Int32
  | 0 => -1
  | n + 1 => if sureV c sb p n = -1 then (if 0 < cN sb 81 ∧ hvN c sb p n = cN sb 81 then nI n else -1) else sureV c sb p n
theorem nI_ne_m1 {k : Nat} (hk : k < 2 ^ 31) : ¬ nI k = -1 := fun q => by
  have h1 : (0 : Int32) ≤ nI k := nI_pos' hk
  rw [q] at h1
  exact absurd h1 (by decide)
theorem sure_none {c : Nat} {sb : Nat → Bool} {p : Nat} (n : Nat) (h : ∀ x, x < n → ¬ (0 < cN sb 81 ∧ hvN c sb p x = cN sb 81)) : sureV c sb p n = -1 := by
  induction n with
  | zero => rfl
  | succ n ih => rw [sureV, if_pos (ih (fun x hx => h x (by omega))), if_neg (h n (by omega))]
theorem sure_some {c : Nat} {sb : Nat → Bool} {p x : Nat} (n : Nat) (hx : x < n) (h0 : 0 < cN sb 81) (hh : hvN c sb p x = cN sb 81) (hl : ∀ y, y < x → ¬ hvN c sb p y = cN sb 81) (hn : n < 2 ^ 31) : sureV c sb p n = nI x := by
  induction n with
  | zero => omega
  | succ n ih =>
    by_cases e : x = n
    · subst e
      rw [sureV, if_pos (sure_none _ (fun y hy q => hl y hy q.2)), if_pos ⟨h0, hh⟩]
    · have e1 := ih (by omega) (by omega)
      rw [sureV, e1, if_neg (nI_ne_m1 (by omega))]
theorem sure_0 {c : Nat} {sb : Nat → Bool} (h : memA sb 0 81 = -1) (p : Nat) : sureV c sb p c = -1 := by
  have hz : ∀ n, n ≤ 81 → cN sb n = 0 := by
    intro n hn
    induction n with
    | zero => rfl
    | succ n ih =>
      have e := ih (by omega)
      cases hs : sb n with
      | false => rw [cN_n hs, e]
      | true =>
        have hm : memA sb 0 n = -1 := by
          by_cases q : memA sb 0 n = -1
          · exact q
          · obtain ⟨k, hk, a, -, -⟩ := memA_of_n n q
            have := cN_pos (p := sb) hk a
            omega
        have := memA_hit (v := 0) (n := 81) (by omega : n < 81) hm hs (by rw [e]; rfl)
        rw [this] at h
        exact absurd h (nI_ne_m1 (by omega))
  exact sure_none _ (fun x _ q => by have := hz 81 (Nat.le_refl _); omega)
theorem sure_1 {c : Nat} {sb : Nat → Bool} {p k : Nat} (hc : c = 2 ∨ c = 3) (hk : k < 81) (hs : sb k = true) (h : hvN c sb p (col c k p) = cN sb 81) (hcl : col c k p < c) : sureV c sb p c = nI (col c k p) := by
  refine sure_some c hcl (cN_pos hk hs) h (fun y hy q => ?_) (by omega)
  have := cN_all (p := sb) (q := fun z => decide (col c z p = y)) q k hk hs
  have := of_decide_eq_true this
  omega
theorem sure_2 {c : Nat} {sb : Nat → Bool} {p k : Nat} (hc : c = 2 ∨ c = 3) (hk : k < 81) (hs : sb k = true) (h : ¬ hvN c sb p (col c k p) = cN sb 81) : sureV c sb p c = -1 := by
  refine sure_none c (fun x hx q => ?_)
  have := cN_all (p := sb) (q := fun z => decide (col c z p = x)) q.2 k hk hs
  have := of_decide_eq_true this
  subst this
  exact h q.2
theorem hpN_congr {sa sb : Nat → Bool} (h : ∀ k, k < 81 → sa k = sb k) {c a x : Nat} : hpN c a sa x = hpN c a sb x := cN_congr 81 (fun k hk => by rw [h k hk])
theorem mxN_congr {f g : Nat → Nat} (n : Nat) (h : ∀ k, k < n → f k = g k) : mxN f n = mxN g n := by
  induction n with
  | zero => rfl
  | succ n ih => simp only [mxN, ih (fun k hk => h k (by omega)), h n (by omega)]
theorem gh_congr {sa sb : Nat → Bool} (h : ∀ k, k < 81 → sa k = sb k) {c a : Nat} : gh c a sa = gh c a sb := by
  rw [gh_eq, gh_eq]; exact mxN_congr 21 (fun x _ => hpN_congr h)
theorem lbS_congr {sa sb : Nat → Bool} (h : ∀ k, k < 81 → sa k = sb k) {c : Nat} {only : Bool} (n : Nat) (hn : n ≤ 81) : lbS c sa only n = lbS c sb only n := by
  induction n with
  | zero => rfl
  | succ n ih => rw [lbS_step, lbS_step, ih (by omega), h n (by omega), gh_congr h]
theorem lbR_congr {sa sb : Nat → Bool} (h : ∀ k, k < 81 → sa k = sb k) {c : Nat} {only : Bool} (hc : qq c ≤ 81 := by omega) : lbR c sa only = lbR c sb only := by
  simp only [lbR, cN_congr 81 h, lbS_congr h (qq c) hc]
def dgm (d : Int64) (x : Int32) : Int64 := d * 31 + x.toInt64
end
section
set_option maxHeartbeats 4000000 in
set_option maxRecDepth 100000 in
theorem c_X1_needCode (l : Launch) (hfl : l.flags = flags0) (D : va_G) (cI cZ cG cJ : ClassId) (A : Nat → Prop) (ad : Nat → Nat) (wr : va_W) (hpal : Pals cI cG ad wr) (c : Nat) (g : Nat) (hid : Int32) (code : Nat → Nat) (ans : Nat → Nat) (dbt : Nat → Bool) (opn : Nat → Bool) (ply : Nat → Bool) (hps : Nat → Nat) (v : Int32) (hc : c = 2 ∨ c = 3) : vx_Met l yX1_needCode wsX1_needCode ({ frames := 6, cells := 1, slots := 6, locals := 82 }) (va_Pc [.ref (ad 0), .int (v)] (Iv D (TY cI cZ cG cJ) A (WX ad cI cZ c g hid code ans dbt opn ply hps wr))) (va_Qv (fun (u : Unit) => hasC c v = true) (fun u => Wd D A (WX ad cI cZ c g hid code ans dbt opn ply hps wr)) A) (Xw D A (WX ad cI cZ c g hid code ans dbt opn ply hps wr) (fun E => E = "java/lang/IndexOutOfBoundsException" ∧ hasC c v = false)) 1 6 A := by
  refine vx_ofW (cc := cX1_needCode) (maxL := 2) (ret := none) (by decide) rfl ?_
  intro p e s m args below meth c9 s₁ B hml hnt hv
  obtain ⟨rfl, hP, hD, hB⟩ := hv
  have hK := hB.1
  have hA := hB.2.1
  have hx := B.exec
  have hb := B.bytes
  have hr := B.returns
  have hts := atoms_spec (ws := wsX1_needCode) B.pre
  have hown : s.vm.findClass RX1 = some m.cls := findClass_of_methodNamed B.named
  have hlocks := B.notSynchronized
  have hS : va_S A s.heap s.heap [] := va_S.rf
  have hflag : l.stackTraces = false := by rw [Launch.stackTraces, hfl]; decide
  have hinX1 : ∀ w ∈ wsX10, w ∈ wsX1_needCode := by decide +kernel
  have lk21 := hts (.fieldLink RX1 21 "HiddenCandles" "palette" "LHiddenCandles$Palette;") (by decide +kernel)
  have hl := lv_entry ([.ref (ad 0), .int (v)]) (n := 2) (Nat.le_of_ble_eq_true rfl)
  rw [lg_entry_eq]
  generalize (lg_sl ([.ref (ad 0), .int (v)]) ++ List.replicate (2 - (lg_sl ([.ref (ad 0), .int (v)])).length) Slot.unset).toArray = ls at hl ⊢
  have hl : lv_has ls 2 [(0, .ref (ad 0)), (1, .int (v))] := hl
  obtain ⟨H, eH⟩ : ∃ q, q = s.heap := ⟨_, rfl⟩
  obtain ⟨locs, eL⟩ : ∃ q : List Loc, q = [] := ⟨_, rfl⟩
  replace hP : va_P D vwCl (WX ad cI cZ c g hid code ans dbt opn ply hps wr) H := by rw [eH]; exact hP
  replace hS : va_S A s.heap H locs := by rw [eH, eL]; exact hS
  rw [show W p l e _ s m _ below meth c9 s.heap [] = W p l e _ s m _ below meth c9 H locs from by rw [eH, eL]]
  clear eH eL
  have hq := qq_in hc
  refine lv_aload_n hx hb dX1_needCode_0 rfl (lv_at hl 0 rfl) ?_
  refine va_get (D := D) (ci := 1) (v := .ref (pal ad c)) (C := RX1) (T := TX1) (N := 11) hx hb hts hinX1 hown hK hP 0 rfl rfl 2 (by decide) lk21 (fun _ h9 => h9) rfl dX1_needCode_1 ?_
  refine lv_iload_n hx hb dX1_needCode_4 rfl (lv_at hl 1 rfl) ?_
  refine x_csi (va_runVN (As := [.int (v)]) (rest := []) ⟨hx, hb, hml, hown, hts⟩ (c_X0_hasCode l D cI cZ cG cJ A (WX ad cI cZ c g hid code ans dbt opn ply hps wr) (pal ad c) c v (palX hpal hc) (hc)) ⟨va_cnB (host := RX1) 1 hts gX1_needCode_X0_hasCode_n153 rfl rfl rfl (hB.2.2.2.2.1 _ (by simp [Nws])) (hts _ (by decide +kernel)) (by decide +kernel) ⟨Nat.le_of_ble_eq_true rfl, Nat.le_of_ble_eq_true rfl⟩, hts _ (by decide +kernel), hts _ (by decide +kernel)⟩ (prePal hB hS hP hD (palX hpal hc)) rfl rfl hl.1 rfl (lv_room (Nat.le_of_ble_eq_true rfl)) dX1_needCode_5 ⟨Nat.le_of_ble_eq_true rfl, Nat.le_of_ble_eq_true rfl⟩) ?_
  refine x_zne (tgt := 21) hx hb dX1_needCode_8 (by decide) (fun c8 => ?_) (fun c8 => ?_)
  · skip
    refine W.widen (k := 1) (n := 6) (Nat.le_of_ble_eq_true rfl) (Nat.le_of_ble_eq_true rfl) ?_
    exact vx_ret (W.vret hx hb hr (fun t ht hW => ⟨⟨(), rfl, (by
        exact c8), ⟨by rw [ht]; exact hP, hD⟩⟩, hS.F ht⟩) hS.2.2 dX1_needCode_21)
  · skip
    obtain ⟨sa9, hsa9⟩ := hB.2.2.2.2.2 (180, "no such code") (by decide)
    have hat9 : ∀ w ∈ (vx_atS RX1 99 "java/lang/IndexOutOfBoundsException" ["java/lang/RuntimeException", "java/lang/Exception"]), w.before _ s = true := vx_hat (B := [.castable "java/lang/IndexOutOfBoundsException" "java/lang/IndexOutOfBoundsException", .declares (Bundle.initS "java/lang/RuntimeException"), .declares (Bundle.initS "java/lang/Exception"), .declares (Bundle.initS Bundle.tN)]) (fun w hw => hts w (by first | exact List.mem_cons_of_mem _ (List.mem_append_right _ hw) | exact List.mem_cons_of_mem _ (List.mem_append_left _ (List.mem_append_right _ hw)) | exact List.mem_cons_of_mem _ (List.mem_append_left _ (List.mem_append_left _ (List.mem_append_right _ hw))))) (by decide +kernel) (vx_c (va_Nw.use rfl (hB.2.2.2.2.1 _ (by simp [Nws]))) (vx_c (va_Nw.use rfl (hB.2.2.2.2.1 _ (by simp [Nws]))) (vx_c (va_Nw.use rfl (hB.2.2.2.2.1 _ (by simp [Nws]))) (vx_c (va_Nw.use rfl (hB.2.2.2.2.1 _ (by simp [Nws]))) vx_n))))
    exact vx_throwS (A := A) (names := ["java/lang/RuntimeException", "java/lang/Exception"]) (cls := "java/lang/IndexOutOfBoundsException") hx hb hflag hown (by decide +kernel) (by decide +kernel) (hts _ (by decide +kernel)) (hts _ (by decide +kernel)) hsa9 hat9 (by decide +kernel) hB.2.2.1 hB.2.2.2.1 hS (hl.1.trans hml.symm) dX1_needCode_11 dX1_needCode_14 dX1_needCode_15 dX1_needCode_17 dX1_needCode_20 (fun x hx9 => (hnt x hx9).elim) (Nat.le_of_ble_eq_true rfl) (Nat.le_of_ble_eq_true rfl) (Nat.le_of_ble_eq_true rfl) (Nat.le_of_ble_eq_true rfl) hlocks (fun t hvm hsz hk => ⟨(), trivial, ⟨(by
        exact ⟨rfl, c8⟩), ⟨va_P.kept hP (fun k q hk9 => hk _ (hP k q hk9).lt), hD⟩⟩, ⟨Nat.le_trans hS.1 hsz, fun q h1 h2 => (hk q (Nat.lt_of_lt_of_le h1 hS.1)).trans (hS.2.1 q h1 h2)⟩⟩) hS.2.2 (Nat.le_of_ble_eq_true rfl) (Nat.le_of_ble_eq_true rfl)

set_option maxHeartbeats 4000000 in
set_option maxRecDepth 100000 in
theorem c_X1_needPlace (l : Launch) (hfl : l.flags = flags0) (D : va_G) (cI cZ cG cJ : ClassId) (A : Nat → Prop) (w : va_W) (v : Int32)  : vx_Met l yX1_needPlace wsX1_needPlace ({ frames := 6, cells := 1, slots := 6, locals := 82 }) (va_Pc [.int (v)] (Iv D (TY cI cZ cG cJ) A (w))) (va_Qv (fun (u : Unit) => plC v = true) (fun u => Wd D A (w)) A) (Xw D A (w) (fun E => E = "java/lang/IndexOutOfBoundsException" ∧ plC v = false)) 1 6 A := by
  refine vx_ofW (cc := cX1_needPlace) (maxL := 1) (ret := none) (by decide) rfl ?_
  intro p e s m args below meth c9 s₁ B hml hnt hv
  obtain ⟨rfl, hP, hD, hB⟩ := hv
  have hK := hB.1
  have hA := hB.2.1
  have hx := B.exec
  have hb := B.bytes
  have hr := B.returns
  have hts := atoms_spec (ws := wsX1_needPlace) B.pre
  have hown : s.vm.findClass RX1 = some m.cls := findClass_of_methodNamed B.named
  have hlocks := B.notSynchronized
  have hS : va_S A s.heap s.heap [] := va_S.rf
  have hflag : l.stackTraces = false := by rw [Launch.stackTraces, hfl]; decide
  have hl := lv_entry ([.int (v)]) (n := 1) (Nat.le_of_ble_eq_true rfl)
  rw [lg_entry_eq]
  generalize (lg_sl ([.int (v)]) ++ List.replicate (1 - (lg_sl ([.int (v)])).length) Slot.unset).toArray = ls at hl ⊢
  have hl : lv_has ls 1 [(0, .int (v))] := hl
  obtain ⟨H, eH⟩ : ∃ q, q = s.heap := ⟨_, rfl⟩
  obtain ⟨locs, eL⟩ : ∃ q : List Loc, q = [] := ⟨_, rfl⟩
  replace hP : va_P D vwCl (w) H := by rw [eH]; exact hP
  replace hS : va_S A s.heap H locs := by rw [eH, eL]; exact hS
  rw [show W p l e _ s m _ below meth c9 s.heap [] = W p l e _ s m _ below meth c9 H locs from by rw [eH, eL]]
  clear eH eL
  refine lv_iload_n hx hb dX1_needPlace_0 rfl (lv_at hl 0 rfl) ?_
  refine lv_if_lt (tgt := 9) hx hb dX1_needPlace_1 (by decide) (fun c1 => ?_) (fun c1 => ?_)
  · skip
    obtain ⟨sa9, hsa9⟩ := hB.2.2.2.2.2 (182, "places are 0 to 3") (by decide)
    have hat9 : ∀ w ∈ (vx_atS RX1 99 "java/lang/IndexOutOfBoundsException" ["java/lang/RuntimeException", "java/lang/Exception"]), w.before _ s = true := vx_hat (B := [.castable "java/lang/IndexOutOfBoundsException" "java/lang/IndexOutOfBoundsException", .declares (Bundle.initS "java/lang/RuntimeException"), .declares (Bundle.initS "java/lang/Exception"), .declares (Bundle.initS Bundle.tN)]) (fun w hw => hts w (by first | exact List.mem_cons_of_mem _ (List.mem_append_right _ hw) | exact List.mem_cons_of_mem _ (List.mem_append_left _ (List.mem_append_right _ hw)) | exact List.mem_cons_of_mem _ (List.mem_append_left _ (List.mem_append_left _ (List.mem_append_right _ hw))))) (by decide +kernel) (vx_c (va_Nw.use rfl (hB.2.2.2.2.1 _ (by simp [Nws]))) (vx_c (va_Nw.use rfl (hB.2.2.2.2.1 _ (by simp [Nws]))) (vx_c (va_Nw.use rfl (hB.2.2.2.2.1 _ (by simp [Nws]))) (vx_c (va_Nw.use rfl (hB.2.2.2.2.1 _ (by simp [Nws]))) vx_n))))
    exact vx_throwS (A := A) (names := ["java/lang/RuntimeException", "java/lang/Exception"]) (cls := "java/lang/IndexOutOfBoundsException") hx hb hflag hown (by decide +kernel) (by decide +kernel) (hts _ (by decide +kernel)) (hts _ (by decide +kernel)) hsa9 hat9 (by decide +kernel) hB.2.2.1 hB.2.2.2.1 hS (hl.1.trans hml.symm) dX1_needPlace_9 dX1_needPlace_12 dX1_needPlace_13 dX1_needPlace_15 dX1_needPlace_18 (fun x hx9 => (hnt x hx9).elim) (Nat.le_of_ble_eq_true rfl) (Nat.le_of_ble_eq_true rfl) (Nat.le_of_ble_eq_true rfl) (Nat.le_of_ble_eq_true rfl) hlocks (fun t hvm hsz hk => ⟨(), trivial, ⟨(by
        first | exact ⟨rfl, plC_f1 c1⟩ | exact ⟨rfl, plC_f2 c6⟩), ⟨va_P.kept hP (fun k q hk9 => hk _ (hP k q hk9).lt), hD⟩⟩, ⟨Nat.le_trans hS.1 hsz, fun q h1 h2 => (hk q (Nat.lt_of_lt_of_le h1 hS.1)).trans (hS.2.1 q h1 h2)⟩⟩) hS.2.2 (Nat.le_of_ble_eq_true rfl) (Nat.le_of_ble_eq_true rfl)
  · skip
    refine lv_iload_n hx hb dX1_needPlace_4 rfl (lv_at hl 0 rfl) ?_
    refine lv_iconst (v := nI (4)) hx hb dX1_needPlace_5 (by decide) ?_
    refine lv_icmp_lt (tgt := 19) hx hb dX1_needPlace_6 (by decide) (fun c6 => ?_) (fun c6 => ?_)
    · skip
      refine W.widen (k := 1) (n := 6) (Nat.le_of_ble_eq_true rfl) (Nat.le_of_ble_eq_true rfl) ?_
      exact vx_ret (W.vret hx hb hr (fun t ht hW => ⟨⟨(), rfl, (by
          exact plC_t c1 c6), ⟨by rw [ht]; exact hP, hD⟩⟩, hS.F ht⟩) hS.2.2 dX1_needPlace_19)
    · skip
      obtain ⟨sa9, hsa9⟩ := hB.2.2.2.2.2 (182, "places are 0 to 3") (by decide)
      have hat9 : ∀ w ∈ (vx_atS RX1 99 "java/lang/IndexOutOfBoundsException" ["java/lang/RuntimeException", "java/lang/Exception"]), w.before _ s = true := vx_hat (B := [.castable "java/lang/IndexOutOfBoundsException" "java/lang/IndexOutOfBoundsException", .declares (Bundle.initS "java/lang/RuntimeException"), .declares (Bundle.initS "java/lang/Exception"), .declares (Bundle.initS Bundle.tN)]) (fun w hw => hts w (by first | exact List.mem_cons_of_mem _ (List.mem_append_right _ hw) | exact List.mem_cons_of_mem _ (List.mem_append_left _ (List.mem_append_right _ hw)) | exact List.mem_cons_of_mem _ (List.mem_append_left _ (List.mem_append_left _ (List.mem_append_right _ hw))))) (by decide +kernel) (vx_c (va_Nw.use rfl (hB.2.2.2.2.1 _ (by simp [Nws]))) (vx_c (va_Nw.use rfl (hB.2.2.2.2.1 _ (by simp [Nws]))) (vx_c (va_Nw.use rfl (hB.2.2.2.2.1 _ (by simp [Nws]))) (vx_c (va_Nw.use rfl (hB.2.2.2.2.1 _ (by simp [Nws]))) vx_n))))
      exact vx_throwS (A := A) (names := ["java/lang/RuntimeException", "java/lang/Exception"]) (cls := "java/lang/IndexOutOfBoundsException") hx hb hflag hown (by decide +kernel) (by decide +kernel) (hts _ (by decide +kernel)) (hts _ (by decide +kernel)) hsa9 hat9 (by decide +kernel) hB.2.2.1 hB.2.2.2.1 hS (hl.1.trans hml.symm) dX1_needPlace_9 dX1_needPlace_12 dX1_needPlace_13 dX1_needPlace_15 dX1_needPlace_18 (fun x hx9 => (hnt x hx9).elim) (Nat.le_of_ble_eq_true rfl) (Nat.le_of_ble_eq_true rfl) (Nat.le_of_ble_eq_true rfl) (Nat.le_of_ble_eq_true rfl) hlocks (fun t hvm hsz hk => ⟨(), trivial, ⟨(by
          first | exact ⟨rfl, plC_f1 c1⟩ | exact ⟨rfl, plC_f2 c6⟩), ⟨va_P.kept hP (fun k q hk9 => hk _ (hP k q hk9).lt), hD⟩⟩, ⟨Nat.le_trans hS.1 hsz, fun q h1 h2 => (hk q (Nat.lt_of_lt_of_le h1 hS.1)).trans (hS.2.1 q h1 h2)⟩⟩) hS.2.2 (Nat.le_of_ble_eq_true rfl) (Nat.le_of_ble_eq_true rfl)

set_option maxHeartbeats 4000000 in
set_option maxRecDepth 100000 in
theorem c_X1_needPlaceP (l : Launch) (D : va_G) (cI cZ cG cJ : ClassId) (A : Nat → Prop) (w : va_W) (pl : Nat) (hp : pl < 4) : Met l yX1_needPlace wsX1_needPlace ({ frames := 0, cells := 0, slots := 0, locals := 0 }) (va_Pc [.int (nI (pl))] (Iv D (TY cI cZ cG cJ) A (w))) (va_Sv (fun _ => True)) 0 0 (fun _ => False) := by
  refine Met.ofW (cc := cX1_needPlace) (maxL := 1) (ret := none) (by decide) rfl ?_
  intro p e s m args below meth c9 s₁ B hml hv
  obtain ⟨rfl, hP, hD, hB⟩ := hv
  have hK := hB.1
  have hA := hB.2.1
  have hx := B.exec
  have hb := B.bytes
  have hr := B.returns
  have hts := atoms_spec (ws := wsX1_needPlace) B.pre
  have hown : s.vm.findClass RX1 = some m.cls := findClass_of_methodNamed B.named
  have hlocks := B.notSynchronized
  have hS : va_S A s.heap s.heap [] := va_S.rf
  have hl := lv_entry ([.int (nI (pl))]) (n := 1) (Nat.le_of_ble_eq_true rfl)
  rw [lg_entry_eq]
  generalize (lg_sl ([.int (nI (pl))]) ++ List.replicate (1 - (lg_sl ([.int (nI (pl))])).length) Slot.unset).toArray = ls at hl ⊢
  have hl : lv_has ls 1 [(0, .int (nI (pl)))] := hl
  refine lv_iload_n hx hb dX1_needPlace_0 rfl (lv_at hl 0 rfl) ?_
  refine x_lt0 (tgt := 9) hx hb dX1_needPlace_1 (by decide) (by omega) ?_
  refine lv_iload_n hx hb dX1_needPlace_4 rfl (lv_at hl 0 rfl) ?_
  refine lv_iconst (v := nI (4)) hx hb dX1_needPlace_5 (by decide) ?_
  refine x_lt (tgt := 19) hx hb dX1_needPlace_6 (by decide) (by omega) (by omega) (fun c6 => ?_) (fun c6 => absurd c6 (by omega))
  exact W.vret hx hb hr (fun t ht hW => ⟨rfl, (by
      trivial), ht⟩) (fun _ h => nomatch h) dX1_needPlace_19

set_option maxHeartbeats 4000000 in
set_option maxRecDepth 100000 in
theorem c_X1_needHidden (l : Launch) (hfl : l.flags = flags0) (D : va_G) (cI cZ cG cJ : ClassId) (A : Nat → Prop) (ad : Nat → Nat) (wr : va_W) (hpal : Pals cI cG ad wr) (c : Nat) (g : Nat) (hid : Int32) (code : Nat → Nat) (ans : Nat → Nat) (dbt : Nat → Bool) (opn : Nat → Bool) (ply : Nat → Bool) (hps : Nat → Nat)  : vx_Met l yX1_needHidden wsX1_needHidden ({ frames := 6, cells := 1, slots := 6, locals := 82 }) (va_Pc [.ref (ad 0)] (Iv D (TY cI cZ cG cJ) A (WX ad cI cZ c g hid code ans dbt opn ply hps wr))) (va_Qv (fun (u : Unit) => ¬ hid = -1) (fun u => Wd D A (WX ad cI cZ c g hid code ans dbt opn ply hps wr)) A) (Xw D A (WX ad cI cZ c g hid code ans dbt opn ply hps wr) (fun E => E = "java/lang/IllegalStateException" ∧ hid = -1)) 1 6 A := by
  refine vx_ofW (cc := cX1_needHidden) (maxL := 1) (ret := none) (by decide) rfl ?_
  intro p e s m args below meth c9 s₁ B hml hnt hv
  obtain ⟨rfl, hP, hD, hB⟩ := hv
  have hK := hB.1
  have hA := hB.2.1
  have hx := B.exec
  have hb := B.bytes
  have hr := B.returns
  have hts := atoms_spec (ws := wsX1_needHidden) B.pre
  have hown : s.vm.findClass RX1 = some m.cls := findClass_of_methodNamed B.named
  have hlocks := B.notSynchronized
  have hS : va_S A s.heap s.heap [] := va_S.rf
  have hflag : l.stackTraces = false := by rw [Launch.stackTraces, hfl]; decide
  have hinX1 : ∀ w ∈ wsX10, w ∈ wsX1_needHidden := by decide +kernel
  have lk24 := hts (.fieldLink RX1 24 "HiddenCandles" "hidden" "I") (by decide +kernel)
  have hl := lv_entry ([.ref (ad 0)]) (n := 1) (Nat.le_of_ble_eq_true rfl)
  rw [lg_entry_eq]
  generalize (lg_sl ([.ref (ad 0)]) ++ List.replicate (1 - (lg_sl ([.ref (ad 0)])).length) Slot.unset).toArray = ls at hl ⊢
  have hl : lv_has ls 1 [(0, .ref (ad 0))] := hl
  obtain ⟨H, eH⟩ : ∃ q, q = s.heap := ⟨_, rfl⟩
  obtain ⟨locs, eL⟩ : ∃ q : List Loc, q = [] := ⟨_, rfl⟩
  replace hP : va_P D vwCl (WX ad cI cZ c g hid code ans dbt opn ply hps wr) H := by rw [eH]; exact hP
  replace hS : va_S A s.heap H locs := by rw [eH, eL]; exact hS
  rw [show W p l e _ s m _ below meth c9 s.heap [] = W p l e _ s m _ below meth c9 H locs from by rw [eH, eL]]
  clear eH eL
  refine lv_aload_n hx hb dX1_needHidden_0 rfl (lv_at hl 0 rfl) ?_
  refine va_get (D := D) (ci := 1) (v := .int (hid)) (C := RX1) (T := TX1) (N := 11) hx hb hts hinX1 hown hK hP 0 rfl rfl 3 (by decide) lk24 (fun _ h9 => h9) rfl dX1_needHidden_1 ?_
  refine lv_iconst (v := (-1)) hx hb dX1_needHidden_4 (by decide) ?_
  refine lv_icmp_ne (tgt := 18) hx hb dX1_needHidden_5 (by decide) (fun c5 => ?_) (fun c5 => ?_)
  · skip
    refine W.widen (k := 1) (n := 6) (Nat.le_of_ble_eq_true rfl) (Nat.le_of_ble_eq_true rfl) ?_
    exact vx_ret (W.vret hx hb hr (fun t ht hW => ⟨⟨(), rfl, (by
        exact c5), ⟨by rw [ht]; exact hP, hD⟩⟩, hS.F ht⟩) hS.2.2 dX1_needHidden_18)
  · skip
    obtain ⟨sa9, hsa9⟩ := hB.2.2.2.2.2 (184, "no code is hidden") (by decide)
    have hat9 : ∀ w ∈ (vx_atS RX1 104 "java/lang/IllegalStateException" ["java/lang/RuntimeException", "java/lang/Exception"]), w.before _ s = true := vx_hat (B := [.castable "java/lang/IllegalStateException" "java/lang/IllegalStateException", .declares (Bundle.initS "java/lang/RuntimeException"), .declares (Bundle.initS "java/lang/Exception"), .declares (Bundle.initS Bundle.tN)]) (fun w hw => hts w (by first | exact List.mem_cons_of_mem _ (List.mem_append_right _ hw) | exact List.mem_cons_of_mem _ (List.mem_append_left _ (List.mem_append_right _ hw)) | exact List.mem_cons_of_mem _ (List.mem_append_left _ (List.mem_append_left _ (List.mem_append_right _ hw))))) (by decide +kernel) (vx_c (va_Nw.use rfl (hB.2.2.2.2.1 _ (by simp [Nws]))) (vx_c (va_Nw.use rfl (hB.2.2.2.2.1 _ (by simp [Nws]))) (vx_c (va_Nw.use rfl (hB.2.2.2.2.1 _ (by simp [Nws]))) (vx_c (va_Nw.use rfl (hB.2.2.2.2.1 _ (by simp [Nws]))) vx_n))))
    exact vx_throwS (A := A) (names := ["java/lang/RuntimeException", "java/lang/Exception"]) (cls := "java/lang/IllegalStateException") hx hb hflag hown (by decide +kernel) (by decide +kernel) (hts _ (by decide +kernel)) (hts _ (by decide +kernel)) hsa9 hat9 (by decide +kernel) hB.2.2.1 hB.2.2.2.1 hS (hl.1.trans hml.symm) dX1_needHidden_8 dX1_needHidden_11 dX1_needHidden_12 dX1_needHidden_14 dX1_needHidden_17 (fun x hx9 => (hnt x hx9).elim) (Nat.le_of_ble_eq_true rfl) (Nat.le_of_ble_eq_true rfl) (Nat.le_of_ble_eq_true rfl) (Nat.le_of_ble_eq_true rfl) hlocks (fun t hvm hsz hk => ⟨(), trivial, ⟨(by
        exact ⟨rfl, c5⟩), ⟨va_P.kept hP (fun k q hk9 => hk _ (hP k q hk9).lt), hD⟩⟩, ⟨Nat.le_trans hS.1 hsz, fun q h1 h2 => (hk q (Nat.lt_of_lt_of_le h1 hS.1)).trans (hS.2.1 q h1 h2)⟩⟩) hS.2.2 (Nat.le_of_ble_eq_true rfl) (Nat.le_of_ble_eq_true rfl)

set_option maxHeartbeats 4000000 in
set_option maxRecDepth 100000 in
theorem c_X1_needPins (l : Launch) (hfl : l.flags = flags0) (D : va_G) (cI cZ cG cJ : ClassId) (A : Nat → Prop) (w : va_W) (b : Int32) (wt : Int32)  : vx_Met l yX1_needPins wsX1_needPins ({ frames := 6, cells := 1, slots := 6, locals := 82 }) (va_Pc [.int (b), .int (wt)] (Iv D (TY cI cZ cG cJ) A (w))) (va_Qv (fun (u : Unit) => pinC b wt = true) (fun u => Wd D A (w)) A) (Xw D A (w) (fun E => E = "java/lang/IllegalArgumentException" ∧ pinC b wt = false)) 1 6 A := by
  refine vx_ofW (cc := cX1_needPins) (maxL := 2) (ret := none) (by decide) rfl ?_
  intro p e s m args below meth c9 s₁ B hml hnt hv
  obtain ⟨rfl, hP, hD, hB⟩ := hv
  have hK := hB.1
  have hA := hB.2.1
  have hx := B.exec
  have hb := B.bytes
  have hr := B.returns
  have hts := atoms_spec (ws := wsX1_needPins) B.pre
  have hown : s.vm.findClass RX1 = some m.cls := findClass_of_methodNamed B.named
  have hlocks := B.notSynchronized
  have hS : va_S A s.heap s.heap [] := va_S.rf
  have hflag : l.stackTraces = false := by rw [Launch.stackTraces, hfl]; decide
  have hl := lv_entry ([.int (b), .int (wt)]) (n := 2) (Nat.le_of_ble_eq_true rfl)
  rw [lg_entry_eq]
  generalize (lg_sl ([.int (b), .int (wt)]) ++ List.replicate (2 - (lg_sl ([.int (b), .int (wt)])).length) Slot.unset).toArray = ls at hl ⊢
  have hl : lv_has ls 2 [(0, .int (b)), (1, .int (wt))] := hl
  obtain ⟨H, eH⟩ : ∃ q, q = s.heap := ⟨_, rfl⟩
  obtain ⟨locs, eL⟩ : ∃ q : List Loc, q = [] := ⟨_, rfl⟩
  replace hP : va_P D vwCl (w) H := by rw [eH]; exact hP
  replace hS : va_S A s.heap H locs := by rw [eH, eL]; exact hS
  rw [show W p l e _ s m _ below meth c9 s.heap [] = W p l e _ s m _ below meth c9 H locs from by rw [eH, eL]]
  clear eH eL
  refine lv_iload_n hx hb dX1_needPins_0 rfl (lv_at hl 0 rfl) ?_
  refine lv_if_lt (tgt := 15) hx hb dX1_needPins_1 (by decide) (fun c1 => ?_) (fun c1 => ?_)
  · skip
    obtain ⟨sa9, hsa9⟩ := hB.2.2.2.2.2 (186, "pins are 0 to 4 together") (by decide)
    have hat9 : ∀ w ∈ (vx_atS RX1 58 "java/lang/IllegalArgumentException" ["java/lang/RuntimeException", "java/lang/Exception"]), w.before _ s = true := vx_hat (B := [.castable "java/lang/IllegalArgumentException" "java/lang/IllegalArgumentException", .declares (Bundle.initS "java/lang/RuntimeException"), .declares (Bundle.initS "java/lang/Exception"), .declares (Bundle.initS Bundle.tN)]) (fun w hw => hts w (by first | exact List.mem_cons_of_mem _ (List.mem_append_right _ hw) | exact List.mem_cons_of_mem _ (List.mem_append_left _ (List.mem_append_right _ hw)) | exact List.mem_cons_of_mem _ (List.mem_append_left _ (List.mem_append_left _ (List.mem_append_right _ hw))))) (by decide +kernel) (vx_c (va_Nw.use rfl (hB.2.2.2.2.1 _ (by simp [Nws]))) (vx_c (va_Nw.use rfl (hB.2.2.2.2.1 _ (by simp [Nws]))) (vx_c (va_Nw.use rfl (hB.2.2.2.2.1 _ (by simp [Nws]))) (vx_c (va_Nw.use rfl (hB.2.2.2.2.1 _ (by simp [Nws]))) vx_n))))
    exact vx_throwS (A := A) (names := ["java/lang/RuntimeException", "java/lang/Exception"]) (cls := "java/lang/IllegalArgumentException") hx hb hflag hown (by decide +kernel) (by decide +kernel) (hts _ (by decide +kernel)) (hts _ (by decide +kernel)) hsa9 hat9 (by decide +kernel) hB.2.2.1 hB.2.2.2.1 hS (hl.1.trans hml.symm) dX1_needPins_15 dX1_needPins_18 dX1_needPins_19 dX1_needPins_21 dX1_needPins_24 (fun x hx9 => (hnt x hx9).elim) (Nat.le_of_ble_eq_true rfl) (Nat.le_of_ble_eq_true rfl) (Nat.le_of_ble_eq_true rfl) (Nat.le_of_ble_eq_true rfl) hlocks (fun t hvm hsz hk => ⟨(), trivial, ⟨(by
        first | exact ⟨rfl, pinC_f1 c1⟩ | exact ⟨rfl, pinC_f2 c5⟩ | exact ⟨rfl, pinC_f3 c12⟩), ⟨va_P.kept hP (fun k q hk9 => hk _ (hP k q hk9).lt), hD⟩⟩, ⟨Nat.le_trans hS.1 hsz, fun q h1 h2 => (hk q (Nat.lt_of_lt_of_le h1 hS.1)).trans (hS.2.1 q h1 h2)⟩⟩) hS.2.2 (Nat.le_of_ble_eq_true rfl) (Nat.le_of_ble_eq_true rfl)
  · skip
    refine lv_iload_n hx hb dX1_needPins_4 rfl (lv_at hl 1 rfl) ?_
    refine lv_if_lt (tgt := 15) hx hb dX1_needPins_5 (by decide) (fun c5 => ?_) (fun c5 => ?_)
    · skip
      obtain ⟨sa9, hsa9⟩ := hB.2.2.2.2.2 (186, "pins are 0 to 4 together") (by decide)
      have hat9 : ∀ w ∈ (vx_atS RX1 58 "java/lang/IllegalArgumentException" ["java/lang/RuntimeException", "java/lang/Exception"]), w.before _ s = true := vx_hat (B := [.castable "java/lang/IllegalArgumentException" "java/lang/IllegalArgumentException", .declares (Bundle.initS "java/lang/RuntimeException"), .declares (Bundle.initS "java/lang/Exception"), .declares (Bundle.initS Bundle.tN)]) (fun w hw => hts w (by first | exact List.mem_cons_of_mem _ (List.mem_append_right _ hw) | exact List.mem_cons_of_mem _ (List.mem_append_left _ (List.mem_append_right _ hw)) | exact List.mem_cons_of_mem _ (List.mem_append_left _ (List.mem_append_left _ (List.mem_append_right _ hw))))) (by decide +kernel) (vx_c (va_Nw.use rfl (hB.2.2.2.2.1 _ (by simp [Nws]))) (vx_c (va_Nw.use rfl (hB.2.2.2.2.1 _ (by simp [Nws]))) (vx_c (va_Nw.use rfl (hB.2.2.2.2.1 _ (by simp [Nws]))) (vx_c (va_Nw.use rfl (hB.2.2.2.2.1 _ (by simp [Nws]))) vx_n))))
      exact vx_throwS (A := A) (names := ["java/lang/RuntimeException", "java/lang/Exception"]) (cls := "java/lang/IllegalArgumentException") hx hb hflag hown (by decide +kernel) (by decide +kernel) (hts _ (by decide +kernel)) (hts _ (by decide +kernel)) hsa9 hat9 (by decide +kernel) hB.2.2.1 hB.2.2.2.1 hS (hl.1.trans hml.symm) dX1_needPins_15 dX1_needPins_18 dX1_needPins_19 dX1_needPins_21 dX1_needPins_24 (fun x hx9 => (hnt x hx9).elim) (Nat.le_of_ble_eq_true rfl) (Nat.le_of_ble_eq_true rfl) (Nat.le_of_ble_eq_true rfl) (Nat.le_of_ble_eq_true rfl) hlocks (fun t hvm hsz hk => ⟨(), trivial, ⟨(by
          first | exact ⟨rfl, pinC_f1 c1⟩ | exact ⟨rfl, pinC_f2 c5⟩ | exact ⟨rfl, pinC_f3 c12⟩), ⟨va_P.kept hP (fun k q hk9 => hk _ (hP k q hk9).lt), hD⟩⟩, ⟨Nat.le_trans hS.1 hsz, fun q h1 h2 => (hk q (Nat.lt_of_lt_of_le h1 hS.1)).trans (hS.2.1 q h1 h2)⟩⟩) hS.2.2 (Nat.le_of_ble_eq_true rfl) (Nat.le_of_ble_eq_true rfl)
    · skip
      refine lv_iload_n hx hb dX1_needPins_8 rfl (lv_at hl 1 rfl) ?_
      refine lv_iconst (v := 4) hx hb dX1_needPins_9 (by decide) ?_
      refine lv_iload_n hx hb dX1_needPins_10 rfl (lv_at hl 0 rfl) ?_
      refine lv_isub hx hb dX1_needPins_11  ?_
      refine x_ti (y := 4 - b) (rfl) ?_
      refine lv_icmp_le (tgt := 25) hx hb dX1_needPins_12 (by decide) (fun c12 => ?_) (fun c12 => ?_)
      · skip
        refine lv_iload_n hx hb dX1_needPins_25 rfl (lv_at hl 0 rfl) ?_
        refine lv_iconst (v := 3) hx hb dX1_needPins_26 (by decide) ?_
        refine lv_icmp_ne (tgt := 45) hx hb dX1_needPins_27 (by decide) (fun c27 => ?_) (fun c27 => ?_)
        · skip
          refine W.widen (k := 1) (n := 6) (Nat.le_of_ble_eq_true rfl) (Nat.le_of_ble_eq_true rfl) ?_
          exact vx_ret (W.vret hx hb hr (fun t ht hW => ⟨⟨(), rfl, (by
              first | exact pinC_t c1 c5 c12 (fun q => c27 q.1) | exact pinC_t c1 c5 c12 (fun q => c32 q.2)), ⟨by rw [ht]; exact hP, hD⟩⟩, hS.F ht⟩) hS.2.2 dX1_needPins_45)
        · skip
          refine lv_iload_n hx hb dX1_needPins_30 rfl (lv_at hl 1 rfl) ?_
          refine lv_iconst (v := 1) hx hb dX1_needPins_31 (by decide) ?_
          refine lv_icmp_ne (tgt := 45) hx hb dX1_needPins_32 (by decide) (fun c32 => ?_) (fun c32 => ?_)
          · skip
            refine W.widen (k := 1) (n := 6) (Nat.le_of_ble_eq_true rfl) (Nat.le_of_ble_eq_true rfl) ?_
            exact vx_ret (W.vret hx hb hr (fun t ht hW => ⟨⟨(), rfl, (by
                first | exact pinC_t c1 c5 c12 (fun q => c27 q.1) | exact pinC_t c1 c5 c12 (fun q => c32 q.2)), ⟨by rw [ht]; exact hP, hD⟩⟩, hS.F ht⟩) hS.2.2 dX1_needPins_45)
          · skip
            obtain ⟨sa9, hsa9⟩ := hB.2.2.2.2.2 (188, "three black pins leave no white one") (by decide)
            have hat9 : ∀ w ∈ (vx_atS RX1 58 "java/lang/IllegalArgumentException" ["java/lang/RuntimeException", "java/lang/Exception"]), w.before _ s = true := vx_hat (B := [.castable "java/lang/IllegalArgumentException" "java/lang/IllegalArgumentException", .declares (Bundle.initS "java/lang/RuntimeException"), .declares (Bundle.initS "java/lang/Exception"), .declares (Bundle.initS Bundle.tN)]) (fun w hw => hts w (by first | exact List.mem_cons_of_mem _ (List.mem_append_right _ hw) | exact List.mem_cons_of_mem _ (List.mem_append_left _ (List.mem_append_right _ hw)) | exact List.mem_cons_of_mem _ (List.mem_append_left _ (List.mem_append_left _ (List.mem_append_right _ hw))))) (by decide +kernel) (vx_c (va_Nw.use rfl (hB.2.2.2.2.1 _ (by simp [Nws]))) (vx_c (va_Nw.use rfl (hB.2.2.2.2.1 _ (by simp [Nws]))) (vx_c (va_Nw.use rfl (hB.2.2.2.2.1 _ (by simp [Nws]))) (vx_c (va_Nw.use rfl (hB.2.2.2.2.1 _ (by simp [Nws]))) vx_n))))
            exact vx_throwS (A := A) (names := ["java/lang/RuntimeException", "java/lang/Exception"]) (cls := "java/lang/IllegalArgumentException") hx hb hflag hown (by decide +kernel) (by decide +kernel) (hts _ (by decide +kernel)) (hts _ (by decide +kernel)) hsa9 hat9 (by decide +kernel) hB.2.2.1 hB.2.2.2.1 hS (hl.1.trans hml.symm) dX1_needPins_35 dX1_needPins_38 dX1_needPins_39 dX1_needPins_41 dX1_needPins_44 (fun x hx9 => (hnt x hx9).elim) (Nat.le_of_ble_eq_true rfl) (Nat.le_of_ble_eq_true rfl) (Nat.le_of_ble_eq_true rfl) (Nat.le_of_ble_eq_true rfl) hlocks (fun t hvm hsz hk => ⟨(), trivial, ⟨(by
                exact ⟨rfl, pinC_f4 c27 c32⟩), ⟨va_P.kept hP (fun k q hk9 => hk _ (hP k q hk9).lt), hD⟩⟩, ⟨Nat.le_trans hS.1 hsz, fun q h1 h2 => (hk q (Nat.lt_of_lt_of_le h1 hS.1)).trans (hS.2.1 q h1 h2)⟩⟩) hS.2.2 (Nat.le_of_ble_eq_true rfl) (Nat.le_of_ble_eq_true rfl)
      · skip
        obtain ⟨sa9, hsa9⟩ := hB.2.2.2.2.2 (186, "pins are 0 to 4 together") (by decide)
        have hat9 : ∀ w ∈ (vx_atS RX1 58 "java/lang/IllegalArgumentException" ["java/lang/RuntimeException", "java/lang/Exception"]), w.before _ s = true := vx_hat (B := [.castable "java/lang/IllegalArgumentException" "java/lang/IllegalArgumentException", .declares (Bundle.initS "java/lang/RuntimeException"), .declares (Bundle.initS "java/lang/Exception"), .declares (Bundle.initS Bundle.tN)]) (fun w hw => hts w (by first | exact List.mem_cons_of_mem _ (List.mem_append_right _ hw) | exact List.mem_cons_of_mem _ (List.mem_append_left _ (List.mem_append_right _ hw)) | exact List.mem_cons_of_mem _ (List.mem_append_left _ (List.mem_append_left _ (List.mem_append_right _ hw))))) (by decide +kernel) (vx_c (va_Nw.use rfl (hB.2.2.2.2.1 _ (by simp [Nws]))) (vx_c (va_Nw.use rfl (hB.2.2.2.2.1 _ (by simp [Nws]))) (vx_c (va_Nw.use rfl (hB.2.2.2.2.1 _ (by simp [Nws]))) (vx_c (va_Nw.use rfl (hB.2.2.2.2.1 _ (by simp [Nws]))) vx_n))))
        exact vx_throwS (A := A) (names := ["java/lang/RuntimeException", "java/lang/Exception"]) (cls := "java/lang/IllegalArgumentException") hx hb hflag hown (by decide +kernel) (by decide +kernel) (hts _ (by decide +kernel)) (hts _ (by decide +kernel)) hsa9 hat9 (by decide +kernel) hB.2.2.1 hB.2.2.2.1 hS (hl.1.trans hml.symm) dX1_needPins_15 dX1_needPins_18 dX1_needPins_19 dX1_needPins_21 dX1_needPins_24 (fun x hx9 => (hnt x hx9).elim) (Nat.le_of_ble_eq_true rfl) (Nat.le_of_ble_eq_true rfl) (Nat.le_of_ble_eq_true rfl) (Nat.le_of_ble_eq_true rfl) hlocks (fun t hvm hsz hk => ⟨(), trivial, ⟨(by
            first | exact ⟨rfl, pinC_f1 c1⟩ | exact ⟨rfl, pinC_f2 c5⟩ | exact ⟨rfl, pinC_f3 c12⟩), ⟨va_P.kept hP (fun k q hk9 => hk _ (hP k q hk9).lt), hD⟩⟩, ⟨Nat.le_trans hS.1 hsz, fun q h1 h2 => (hk q (Nat.lt_of_lt_of_le h1 hS.1)).trans (hS.2.1 q h1 h2)⟩⟩) hS.2.2 (Nat.le_of_ble_eq_true rfl) (Nat.le_of_ble_eq_true rfl)

set_option maxHeartbeats 4000000 in
set_option maxRecDepth 100000 in
theorem c_X1_mix (l : Launch) (D : va_G) (cI cZ cG cJ : ClassId) (A : Nat → Prop) (w : va_W) (d : Int64) (x : Int32)  : Met l yX1_mix wsX1_mix ({ frames := 0, cells := 0, slots := 0, locals := 0 }) (va_Pc [.long (d), .int (x)] (Iv D (TY cI cZ cG cJ) A (w))) (vp_Sl (fun r => r = dgm d x)) 0 0 (fun _ => False) := by
  refine Met.ofW (cc := cX1_mix) (maxL := 3) (ret := (some .long)) (by decide) rfl ?_
  intro p e s m args below meth c9 s₁ B hml hv
  obtain ⟨rfl, hP, hD, hB⟩ := hv
  have hK := hB.1
  have hA := hB.2.1
  have hx := B.exec
  have hb := B.bytes
  have hr := B.returns
  have hts := atoms_spec (ws := wsX1_mix) B.pre
  have hown : s.vm.findClass RX1 = some m.cls := findClass_of_methodNamed B.named
  have hlocks := B.notSynchronized
  have hS : va_S A s.heap s.heap [] := va_S.rf
  have hl := lv_entry ([.long (d), .int (x)]) (n := 3) (Nat.le_of_ble_eq_true rfl)
  rw [lg_entry_eq]
  generalize (lg_sl ([.long (d), .int (x)]) ++ List.replicate (3 - (lg_sl ([.long (d), .int (x)])).length) Slot.unset).toArray = ls at hl ⊢
  have hl : lv_has ls 3 [(0, .long (d)), (2, .int (x))] := hl
  refine lv_lload_n hx hb dX1_mix_0 rfl (lv_at hl 0 rfl) ?_
  refine lv_ldc2 (v := 31) hx hb hown (hts _ (by decide +kernel)) dX1_mix_1 ?_
  refine lv_lmul hx hb dX1_mix_4 ?_
  refine lv_iload_n hx hb dX1_mix_5 rfl (lv_at hl 1 rfl) ?_
  refine lv_i2l hx hb dX1_mix_6 rfl ?_
  refine lv_ladd hx hb dX1_mix_7 ?_
  exact W.lret (v := ((d) * (31)) + ((x).toInt64)) hx hb hr (fun t ht hW => ⟨_, rfl, (by
      rfl), ht⟩) (fun _ h => nomatch h) dX1_mix_8

set_option maxHeartbeats 4000000 in
set_option maxRecDepth 100000 in
theorem c_X1_hasGuess (l : Launch) (D : va_G) (cI cZ cG cJ : ClassId) (A : Nat → Prop) (ad : Nat → Nat) (wr : va_W) (hpal : Pals cI cG ad wr) (c : Nat) (g : Nat) (hid : Int32) (code : Nat → Nat) (ans : Nat → Nat) (dbt : Nat → Bool) (opn : Nat → Bool) (ply : Nat → Bool) (hps : Nat → Nat) (v : Int32) (hg : g ≤ 12) : Met l yX1_hasGuess wsX1_hasGuess ({ frames := 0, cells := 0, slots := 0, locals := 0 }) (va_Pc [.ref (ad 0), .int (v)] (Iv D (TY cI cZ cG cJ) A (WX ad cI cZ c g hid code ans dbt opn ply hps wr))) (vp_Si (fun r => r = bI (gsC g v))) 0 0 (fun _ => False) := by
  refine Met.ofW (cc := cX1_hasGuess) (maxL := 2) (ret := (some .boolean)) (by decide) rfl ?_
  intro p e s m args below meth c9 s₁ B hml hv
  obtain ⟨rfl, hP, hD, hB⟩ := hv
  have hK := hB.1
  have hA := hB.2.1
  have hx := B.exec
  have hb := B.bytes
  have hr := B.returns
  have hts := atoms_spec (ws := wsX1_hasGuess) B.pre
  have hown : s.vm.findClass RX1 = some m.cls := findClass_of_methodNamed B.named
  have hlocks := B.notSynchronized
  have hS : va_S A s.heap s.heap [] := va_S.rf
  have hinX1 : ∀ w ∈ wsX10, w ∈ wsX1_hasGuess := by decide +kernel
  have lk28 := hts (.fieldLink RX1 28 "HiddenCandles" "guesses" "I") (by decide +kernel)
  have hl := lv_entry ([.ref (ad 0), .int (v)]) (n := 2) (Nat.le_of_ble_eq_true rfl)
  rw [lg_entry_eq]
  generalize (lg_sl ([.ref (ad 0), .int (v)]) ++ List.replicate (2 - (lg_sl ([.ref (ad 0), .int (v)])).length) Slot.unset).toArray = ls at hl ⊢
  have hl : lv_has ls 2 [(0, .ref (ad 0)), (1, .int (v))] := hl
  refine lv_iload_n hx hb dX1_hasGuess_0 rfl (lv_at hl 1 rfl) ?_
  refine lv_if_lt (tgt := 22) hx hb dX1_hasGuess_1 (by decide) (fun c1 => ?_) (fun c1 => ?_)
  · skip
    refine lv_iconst (v := bI (false)) hx hb dX1_hasGuess_22 (by decide) ?_
    exact W.zret (v := bI (false)) hx hb hr (bI_narrow _) (fun t ht hW => ⟨_, rfl, (by
        first | rw [gsC_f1 c1] | rw [gsC_f2 c9] | exact absurd c15 (gsC_12 hg c9) | rw [gsC_t c1 c9]), ht⟩) (fun _ h => nomatch h) dX1_hasGuess_23
  · skip
    refine lv_iload_n hx hb dX1_hasGuess_4 rfl (lv_at hl 1 rfl) ?_
    refine lv_aload_n hx hb dX1_hasGuess_5 rfl (lv_at hl 0 rfl) ?_
    refine va_get (D := D) (ci := 1) (v := .int (nI (g))) (C := RX1) (T := TX1) (N := 11) hx hb hts hinX1 hown hK hP 0 rfl rfl 4 (by decide) lk28 (fun _ h9 => h9) rfl dX1_hasGuess_6 ?_
    refine lv_icmp_ge (tgt := 22) hx hb dX1_hasGuess_9 (by decide) (fun c9 => ?_) (fun c9 => ?_)
    · skip
      refine lv_iconst (v := bI (false)) hx hb dX1_hasGuess_22 (by decide) ?_
      exact W.zret (v := bI (false)) hx hb hr (bI_narrow _) (fun t ht hW => ⟨_, rfl, (by
          first | rw [gsC_f1 c1] | rw [gsC_f2 c9] | exact absurd c15 (gsC_12 hg c9) | rw [gsC_t c1 c9]), ht⟩) (fun _ h => nomatch h) dX1_hasGuess_23
    · skip
      refine lv_iload_n hx hb dX1_hasGuess_12 rfl (lv_at hl 1 rfl) ?_
      refine lv_bipush (v := 12) hx hb dX1_hasGuess_13 (by decide) ?_
      refine lv_icmp_ge (tgt := 22) hx hb dX1_hasGuess_15 (by decide) (fun c15 => ?_) (fun c15 => ?_)
      · skip
        refine lv_iconst (v := bI (false)) hx hb dX1_hasGuess_22 (by decide) ?_
        exact W.zret (v := bI (false)) hx hb hr (bI_narrow _) (fun t ht hW => ⟨_, rfl, (by
            first | rw [gsC_f1 c1] | rw [gsC_f2 c9] | exact absurd c15 (gsC_12 hg c9) | rw [gsC_t c1 c9]), ht⟩) (fun _ h => nomatch h) dX1_hasGuess_23
      · skip
        refine lv_iconst (v := bI (true)) hx hb dX1_hasGuess_18 (by decide) ?_
        refine lv_goto (tgt := 23) hx hb dX1_hasGuess_19 (by decide) ?_
        exact W.zret (v := bI (true)) hx hb hr (bI_narrow _) (fun t ht hW => ⟨_, rfl, (by
            first | rw [gsC_f1 c1] | rw [gsC_f2 c9] | exact absurd c15 (gsC_12 hg c9) | rw [gsC_t c1 c9]), ht⟩) (fun _ h => nomatch h) dX1_hasGuess_23

set_option maxHeartbeats 4000000 in
set_option maxRecDepth 100000 in
theorem c_X1_append (l : Launch) (hfl : l.flags = flags0) (D : va_G) (cI cZ cG cJ : ClassId) (A : Nat → Prop) (ad : Nat → Nat) (wr : va_W) (hpal : Pals cI cG ad wr) (c : Nat) (g : Nat) (hid : Int32) (code : Nat → Nat) (ans : Nat → Nat) (dbt : Nat → Bool) (opn : Nat → Bool) (ply : Nat → Bool) (hps : Nat → Nat) (cd : Nat) (an : Nat) (hc : c = 2 ∨ c = 3) (hg : g ≤ 12) (hco : CodeOK c g code ans) (hcd : cd < qq c) (han : an < 32) : vx_Met l yX1_append wsX1_append ({ frames := 6, cells := 1, slots := 6, locals := 87 }) (va_Pc [.ref (ad 0), .int (nI (cd)), .int (nI (an))] (Iv D (TY cI cZ cG cJ) A (WX ad cI cZ c g hid code ans dbt opn ply hps wr))) (va_Qv (fun (u : Nat → Bool) => g < 12 ∧ ∀ k, k < 81 → u k = opS c (g + 1) (va_up code g cd) (va_up ans g an) (va_up dbt g false) k) (fun u => Wd D A (WX ad cI cZ c (g + 1) hid (va_up code g cd) (va_up ans g an) (va_up dbt g false) u ply hps wr)) A) (Xw D A (WX ad cI cZ c g hid code ans dbt opn ply hps wr) (fun E => E = "java/lang/IllegalStateException" ∧ 12 ≤ g)) 1 6 A := by
  refine vx_ofW (cc := cX1_append) (maxL := 4) (ret := none) (by decide) rfl ?_
  intro p e s m args below meth c9 s₁ B hml hnt hv
  obtain ⟨rfl, hP, hD, hB⟩ := hv
  have hK := hB.1
  have hA := hB.2.1
  have hx := B.exec
  have hb := B.bytes
  have hr := B.returns
  have hts := atoms_spec (ws := wsX1_append) B.pre
  have hown : s.vm.findClass RX1 = some m.cls := findClass_of_methodNamed B.named
  have hlocks := B.notSynchronized
  have hS : va_S A s.heap s.heap [] := va_S.rf
  have hflag : l.stackTraces = false := by rw [Launch.stackTraces, hfl]; decide
  have hinX1 : ∀ w ∈ wsX10, w ∈ wsX1_append := by decide +kernel
  have lk28 := hts (.fieldLink RX1 28 "HiddenCandles" "guesses" "I") (by decide +kernel)
  have lk31 := hts (.fieldLink RX1 31 "HiddenCandles" "guessed" "[I") (by decide +kernel)
  have lk35 := hts (.fieldLink RX1 35 "HiddenCandles" "answers" "[I") (by decide +kernel)
  have lk38 := hts (.fieldLink RX1 38 "HiddenCandles" "doubted" "[Z") (by decide +kernel)
  have hl := lv_entry ([.ref (ad 0), .int (nI (cd)), .int (nI (an))]) (n := 4) (Nat.le_of_ble_eq_true rfl)
  rw [lg_entry_eq]
  generalize (lg_sl ([.ref (ad 0), .int (nI (cd)), .int (nI (an))]) ++ List.replicate (4 - (lg_sl ([.ref (ad 0), .int (nI (cd)), .int (nI (an))])).length) Slot.unset).toArray = ls at hl ⊢
  have hl : lv_has ls 4 [(0, .ref (ad 0)), (1, .int (nI (cd))), (2, .int (nI (an)))] := hl
  obtain ⟨H, eH⟩ : ∃ q, q = s.heap := ⟨_, rfl⟩
  obtain ⟨locs, eL⟩ : ∃ q : List Loc, q = [] := ⟨_, rfl⟩
  replace hP : va_P D vwCl (WX ad cI cZ c g hid code ans dbt opn ply hps wr) H := by rw [eH]; exact hP
  replace hS : va_S A s.heap H locs := by rw [eH, eL]; exact hS
  rw [show W p l e _ s m _ below meth c9 s.heap [] = W p l e _ s m _ below meth c9 H locs from by rw [eH, eL]]
  clear eH eL
  have hq := qq_in hc
  refine lv_aload_n hx hb dX1_append_0 rfl (lv_at hl 0 rfl) ?_
  refine va_get (D := D) (ci := 1) (v := .int (nI (g))) (C := RX1) (T := TX1) (N := 11) hx hb hts hinX1 hown hK hP 0 rfl rfl 4 (by decide) lk28 (fun _ h9 => h9) rfl dX1_append_1 ?_
  refine lv_istore_n (lv' := [(3, .int (nI (g))), (0, .ref (ad 0)), (1, .int (nI (cd))), (2, .int (nI (an)))]) hx hb dX1_append_4 rfl hl (by decide) rfl (fun ls hl => ?_)
  refine lv_iload_n hx hb dX1_append_5 rfl (lv_at hl 0 rfl) ?_
  refine x_lt0 (tgt := 15) hx hb dX1_append_6 (by decide) (by omega) ?_
  refine lv_iload_n hx hb dX1_append_9 rfl (lv_at hl 0 rfl) ?_
  refine lv_bipush (v := nI (12)) hx hb dX1_append_10 (by decide) ?_
  refine x_lt (tgt := 25) hx hb dX1_append_12 (by decide) (by omega) (by omega) (fun c12 => ?_) (fun c12 => ?_)
  · skip
    refine lv_aload_n hx hb dX1_append_25 rfl (lv_at hl 1 rfl) ?_
    refine va_get (D := D) (ci := 1) (v := .ref (ad 1)) (C := RX1) (T := TX1) (N := 11) hx hb hts hinX1 hown hK hP 0 rfl rfl 5 (by decide) lk31 (fun _ h9 => h9) rfl dX1_append_26 ?_
    refine lv_iload_n hx hb dX1_append_29 rfl (lv_at hl 0 rfl) ?_
    refine lv_iload_n hx hb dX1_append_30 rfl (lv_at hl 2 rfl) ?_
    refine x_iast hx hb hK hP hD hS 1 0 rfl rfl (i := g) (v := cd) (by omega) (by omega) dX1_append_31 (fun H locs hP hD hS => ?_)
    replace hP : va_P D vwCl (WX ad cI cZ c g hid (va_up code g cd) ans dbt opn ply hps wr) H := hP
    replace hD : va_D A (WX ad cI cZ c g hid (va_up code g cd) ans dbt opn ply hps wr) := hD
    refine lv_aload_n hx hb dX1_append_32 rfl (lv_at hl 1 rfl) ?_
    refine va_get (D := D) (ci := 1) (v := .ref (ad 2)) (C := RX1) (T := TX1) (N := 11) hx hb hts hinX1 hown hK hP 0 rfl rfl 6 (by decide) lk35 (fun _ h9 => h9) rfl dX1_append_33 ?_
    refine lv_iload_n hx hb dX1_append_36 rfl (lv_at hl 0 rfl) ?_
    refine lv_iload_n hx hb dX1_append_37 rfl (lv_at hl 3 rfl) ?_
    refine x_iast hx hb hK hP hD hS 2 0 rfl rfl (i := g) (v := an) (by omega) (by omega) dX1_append_38 (fun H locs hP hD hS => ?_)
    replace hP : va_P D vwCl (WX ad cI cZ c g hid (va_up code g cd) (va_up ans g an) dbt opn ply hps wr) H := hP
    replace hD : va_D A (WX ad cI cZ c g hid (va_up code g cd) (va_up ans g an) dbt opn ply hps wr) := hD
    refine lv_aload_n hx hb dX1_append_39 rfl (lv_at hl 1 rfl) ?_
    refine va_get (D := D) (ci := 1) (v := .ref (ad 3)) (C := RX1) (T := TX1) (N := 11) hx hb hts hinX1 hown hK hP 0 rfl rfl 7 (by decide) lk38 (fun _ h9 => h9) rfl dX1_append_40 ?_
    refine lv_iload_n hx hb dX1_append_43 rfl (lv_at hl 0 rfl) ?_
    refine lv_iconst (v := bI (false)) hx hb dX1_append_44 (by decide) ?_
    refine x_zast hx hb hK hP hD hS 3 1 rfl rfl (i := g) (v := false) (by omega) (by omega) dX1_append_45 (fun H locs hP hD hS => ?_)
    replace hP : va_P D vwCl (WX ad cI cZ c g hid (va_up code g cd) (va_up ans g an) (va_up dbt g false) opn ply hps wr) H := hP
    replace hD : va_D A (WX ad cI cZ c g hid (va_up code g cd) (va_up ans g an) (va_up dbt g false) opn ply hps wr) := hD
    refine lv_aload_n hx hb dX1_append_46 rfl (lv_at hl 1 rfl) ?_
    refine lv_iload_n hx hb dX1_append_47 rfl (lv_at hl 0 rfl) ?_
    refine lv_iconst (v := nI (1)) hx hb dX1_append_48 (by decide) ?_
    refine lv_iadd hx hb dX1_append_49 ?_
    refine x_ti (nI_add _ _) ?_
    refine va_put (D := D) (ci := 1) (v := .int (nI (g + 1))) (ty := .int) (C := RX1) (T := TX1) (N := 11) hx hb hts hinX1 tyX1 tyX1_ok nmX1 hown hK hP hD hS 0 rfl rfl 4 (by decide) lk28 (fun _ h9 => h9) rfl (by decide +kernel) rfl rfl (Nat.le_of_ble_eq_true rfl) dX1_append_50 (fun H locs hP hD hS => ?_)
    replace hP : va_P D vwCl (WX ad cI cZ c (g + 1) hid (va_up code g cd) (va_up ans g an) (va_up dbt g false) opn ply hps wr) H := hP
    replace hD : va_D A (WX ad cI cZ c (g + 1) hid (va_up code g cd) (va_up ans g an) (va_up dbt g false) opn ply hps wr) := hD
    refine lv_aload_n hx hb dX1_append_53 rfl (lv_at hl 1 rfl) ?_
    refine va_callv (va_runV (As := []) (rest := []) ⟨hx, hb, hml, hown, hts⟩ (c_X1_sieve l D cI cZ cG cJ A ad wr hpal c (g + 1) hid (va_up code g cd) (va_up ans g an) (va_up dbt g false) opn ply hps (hc) (by omega) (code_up hco hcd han)) (cwV 0 hts gX1_append_X1_sieve rfl rfl rfl (by decide +kernel) ⟨Nat.le_of_ble_eq_true rfl, Nat.le_of_ble_eq_true rfl⟩) (preV (ci := 1) (q0 := 0) hB hS hP hD rfl rfl) rfl rfl hl.1 rfl (lv_room (Nat.le_of_ble_eq_true rfl)) dX1_append_54 ⟨Nat.le_of_ble_eq_true rfl, Nat.le_of_ble_eq_true rfl⟩) hS (fun q _ h => h) (fun q h => h) (fun u_54 t9 H1 locs1 ht9 hvm9 hw_54 hBw hz9 hk9 hS => ?_)
    obtain ⟨hP, hD⟩ := hBw
    rw [ht9] at hP
    generalize H1 = H at hP hS ⊢
    generalize locs1 = locs at hS ⊢
    replace hP : va_P D vwCl (WX ad cI cZ c (g + 1) hid (va_up code g cd) (va_up ans g an) (va_up dbt g false) u_54 ply hps wr) H := hP
    replace hD : va_D A (WX ad cI cZ c (g + 1) hid (va_up code g cd) (va_up ans g an) (va_up dbt g false) u_54 ply hps wr) := hD
    refine W.widen (k := 1) (n := 6) (Nat.le_of_ble_eq_true rfl) (Nat.le_of_ble_eq_true rfl) ?_
    exact vx_ret (W.vret hx hb hr (fun t ht hW => ⟨⟨u_54, rfl, (by
        exact ⟨c12, hw_54⟩), ⟨by rw [ht]; exact hP, hD⟩⟩, hS.F ht⟩) hS.2.2 dX1_append_57)
  · skip
    obtain ⟨sa9, hsa9⟩ := hB.2.2.2.2.2 (190, "there are 12 guesses") (by decide)
    have hat9 : ∀ w ∈ (vx_atS RX1 104 "java/lang/IllegalStateException" ["java/lang/RuntimeException", "java/lang/Exception"]), w.before _ s = true := vx_hat (B := [.castable "java/lang/IllegalStateException" "java/lang/IllegalStateException", .declares (Bundle.initS "java/lang/RuntimeException"), .declares (Bundle.initS "java/lang/Exception"), .declares (Bundle.initS Bundle.tN)]) (fun w hw => hts w (by first | exact List.mem_cons_of_mem _ (List.mem_append_right _ hw) | exact List.mem_cons_of_mem _ (List.mem_append_left _ (List.mem_append_right _ hw)) | exact List.mem_cons_of_mem _ (List.mem_append_left _ (List.mem_append_left _ (List.mem_append_right _ hw))))) (by decide +kernel) (vx_c (va_Nw.use rfl (hB.2.2.2.2.1 _ (by simp [Nws]))) (vx_c (va_Nw.use rfl (hB.2.2.2.2.1 _ (by simp [Nws]))) (vx_c (va_Nw.use rfl (hB.2.2.2.2.1 _ (by simp [Nws]))) (vx_c (va_Nw.use rfl (hB.2.2.2.2.1 _ (by simp [Nws]))) vx_n))))
    exact vx_throwS (A := A) (names := ["java/lang/RuntimeException", "java/lang/Exception"]) (cls := "java/lang/IllegalStateException") hx hb hflag hown (by decide +kernel) (by decide +kernel) (hts _ (by decide +kernel)) (hts _ (by decide +kernel)) hsa9 hat9 (by decide +kernel) hB.2.2.1 hB.2.2.2.1 hS (hl.1.trans hml.symm) dX1_append_15 dX1_append_18 dX1_append_19 dX1_append_21 dX1_append_24 (fun x hx9 => (hnt x hx9).elim) (Nat.le_of_ble_eq_true rfl) (Nat.le_of_ble_eq_true rfl) (Nat.le_of_ble_eq_true rfl) (Nat.le_of_ble_eq_true rfl) hlocks (fun t hvm hsz hk => ⟨(), trivial, ⟨(by
        exact ⟨rfl, c12⟩), ⟨va_P.kept hP (fun k q hk9 => hk _ (hP k q hk9).lt), hD⟩⟩, ⟨Nat.le_trans hS.1 hsz, fun q h1 h2 => (hk q (Nat.lt_of_lt_of_le h1 hS.1)).trans (hS.2.1 q h1 h2)⟩⟩) hS.2.2 (Nat.le_of_ble_eq_true rfl) (Nat.le_of_ble_eq_true rfl)

set_option maxHeartbeats 4000000 in
set_option maxRecDepth 100000 in
theorem c_X1_setColours (l : Launch) (hfl : l.flags = flags0) (D : va_G) (cI cZ cG cJ : ClassId) (A : Nat → Prop) (ad : Nat → Nat) (wr : va_W) (hpal : Pals cI cG ad wr) (c : Nat) (g : Nat) (hid : Int32) (code : Nat → Nat) (ans : Nat → Nat) (dbt : Nat → Bool) (opn : Nat → Bool) (ply : Nat → Bool) (hps : Nat → Nat) (v : Int32) (hI : XI c g hid code ans dbt opn) : vx_Met l yX1_setColours wsX1_setColours ({ frames := 6, cells := 1, slots := 6, locals := 87 }) (va_Pc [.ref (ad 0), .int (v)] (Iv D (TY cI cZ cG cJ) A (WX ad cI cZ c g hid code ans dbt opn ply hps wr))) (va_Qi (fun r (u : Nat × (Nat → Bool)) => r = nI c ∧ ((u.1 = 2 ∨ u.1 = 3) ∧ v = nI u.1) ∧ ∀ k, k < 81 → u.2 k = opS u.1 0 code ans dbt k) (fun u => Wd D A (WX ad cI cZ u.1 0 (-1) code ans dbt u.2 ply hps wr)) A) (Xw D A (WX ad cI cZ c g hid code ans dbt opn ply hps wr) (fun E => E = "java/lang/IllegalArgumentException" ∧ ¬ v = 2 ∧ ¬ v = 3)) 1 6 A := by
  refine vx_ofW (cc := cX1_setColours) (maxL := 3) (ret := (some .int)) (by decide) rfl ?_
  intro p e s m args below meth c9 s₁ B hml hnt hv
  obtain ⟨rfl, hP, hD, hB⟩ := hv
  have hK := hB.1
  have hA := hB.2.1
  have hx := B.exec
  have hb := B.bytes
  have hr := B.returns
  have hts := atoms_spec (ws := wsX1_setColours) B.pre
  have hown : s.vm.findClass RX1 = some m.cls := findClass_of_methodNamed B.named
  have hlocks := B.notSynchronized
  have hS : va_S A s.heap s.heap [] := va_S.rf
  have hflag : l.stackTraces = false := by rw [Launch.stackTraces, hfl]; decide
  have hinX0 : ∀ w ∈ wsX00, w ∈ wsX1_setColours := by decide +kernel
  have hinX1 : ∀ w ∈ wsX10, w ∈ wsX1_setColours := by decide +kernel
  have lk14 := hts (.fieldLink RX1 14 "HiddenCandles" "fewColours" "LHiddenCandles$Palette;") (by decide +kernel)
  have lk18 := hts (.fieldLink RX1 18 "HiddenCandles" "manyColours" "LHiddenCandles$Palette;") (by decide +kernel)
  have lk21 := hts (.fieldLink RX1 21 "HiddenCandles" "palette" "LHiddenCandles$Palette;") (by decide +kernel)
  have lk24 := hts (.fieldLink RX1 24 "HiddenCandles" "hidden" "I") (by decide +kernel)
  have lk28 := hts (.fieldLink RX1 28 "HiddenCandles" "guesses" "I") (by decide +kernel)
  have hl := lv_entry ([.ref (ad 0), .int (v)]) (n := 3) (Nat.le_of_ble_eq_true rfl)
  rw [lg_entry_eq]
  generalize (lg_sl ([.ref (ad 0), .int (v)]) ++ List.replicate (3 - (lg_sl ([.ref (ad 0), .int (v)])).length) Slot.unset).toArray = ls at hl ⊢
  have hl : lv_has ls 3 [(0, .ref (ad 0)), (1, .int (v))] := hl
  obtain ⟨H, eH⟩ : ∃ q, q = s.heap := ⟨_, rfl⟩
  obtain ⟨locs, eL⟩ : ∃ q : List Loc, q = [] := ⟨_, rfl⟩
  replace hP : va_P D vwCl (WX ad cI cZ c g hid code ans dbt opn ply hps wr) H := by rw [eH]; exact hP
  replace hS : va_S A s.heap H locs := by rw [eH, eL]; exact hS
  rw [show W p l e _ s m _ below meth c9 s.heap [] = W p l e _ s m _ below meth c9 H locs from by rw [eH, eL]]
  clear eH eL
  obtain ⟨hc, hg, hco, hhid, hop⟩ := id hI
  have hq := qq_in hc
  have hop2 := op_lt hop
  refine lv_iload_n hx hb dX1_setColours_0 rfl (lv_at hl 1 rfl) ?_
  refine lv_iconst (v := 2) hx hb dX1_setColours_1 (by decide) ?_
  refine lv_icmp_eq (tgt := 20) hx hb dX1_setColours_2 (by decide) (fun c2 => ?_) (fun c2 => ?_)
  · skip
    refine lv_aload_n hx hb dX1_setColours_20 rfl (lv_at hl 0 rfl) ?_
    refine va_get (D := D) (ci := 1) (v := .ref (pal ad c)) (C := RX1) (T := TX1) (N := 11) hx hb hts hinX1 hown hK hP 0 rfl rfl 2 (by decide) lk21 (fun _ h9 => h9) rfl dX1_setColours_21 ?_
    refine x_colours hx hb hts hinX0 hown hK hP (palX hpal hc) (hB.2.2.2.2.1 _ (by simp [Nws])) dX1_setColours_24 ?_
    refine lv_istore_n (lv' := [(2, .int (nI (c))), (0, .ref (ad 0)), (1, .int (v))]) hx hb dX1_setColours_27 rfl hl (by decide) rfl (fun ls hl => ?_)
    refine lv_aload_n hx hb dX1_setColours_28 rfl (lv_at hl 1 rfl) ?_
    refine lv_iload_n hx hb dX1_setColours_29 rfl (lv_at hl 2 rfl) ?_
    refine lv_iconst (v := 2) hx hb dX1_setColours_30 (by decide) ?_
    refine lv_icmp_ne (tgt := 41) hx hb dX1_setColours_31 (by decide) (fun c31 => ?_) (fun c31 => ?_)
    · skip
      refine lv_aload_n hx hb dX1_setColours_41 rfl (lv_at hl 1 rfl) ?_
      refine va_get (D := D) (ci := 1) (v := .ref (ad 8)) (C := RX1) (T := TX1) (N := 11) hx hb hts hinX1 hown hK hP 0 rfl rfl 1 (by decide) lk18 (fun _ h9 => h9) rfl dX1_setColours_42 ?_
      refine va_put (D := D) (ci := 1) (v := .ref (ad 8)) (ty := (.object "HiddenCandles$Palette")) (C := RX1) (T := TX1) (N := 11) hx hb hts hinX1 tyX1 tyX1_ok nmX1 hown hK hP hD hS 0 rfl rfl 2 (by decide) lk21 (fun _ h9 => h9) rfl (by decide +kernel) rfl rfl (Nat.le_of_ble_eq_true rfl) dX1_setColours_45 (fun H locs hP hD hS => ?_)
      replace hP : va_P D vwCl (WX ad cI cZ 3 g hid code ans dbt opn ply hps wr) H := hP
      replace hD : va_D A (WX ad cI cZ 3 g hid code ans dbt opn ply hps wr) := hD
      refine lv_aload_n hx hb dX1_setColours_48 rfl (lv_at hl 1 rfl) ?_
      refine lv_iconst (v := (-1)) hx hb dX1_setColours_49 (by decide) ?_
      refine va_put (D := D) (ci := 1) (v := .int ((-1))) (ty := .int) (C := RX1) (T := TX1) (N := 11) hx hb hts hinX1 tyX1 tyX1_ok nmX1 hown hK hP hD hS 0 rfl rfl 3 (by decide) lk24 (fun _ h9 => h9) rfl (by decide +kernel) rfl rfl (Nat.le_of_ble_eq_true rfl) dX1_setColours_50 (fun H locs hP hD hS => ?_)
      replace hP : va_P D vwCl (WX ad cI cZ 3 g (-1) code ans dbt opn ply hps wr) H := hP
      replace hD : va_D A (WX ad cI cZ 3 g (-1) code ans dbt opn ply hps wr) := hD
      refine lv_aload_n hx hb dX1_setColours_53 rfl (lv_at hl 1 rfl) ?_
      refine lv_iconst (v := nI (0)) hx hb dX1_setColours_54 (by decide) ?_
      refine va_put (D := D) (ci := 1) (v := .int (nI (0))) (ty := .int) (C := RX1) (T := TX1) (N := 11) hx hb hts hinX1 tyX1 tyX1_ok nmX1 hown hK hP hD hS 0 rfl rfl 4 (by decide) lk28 (fun _ h9 => h9) rfl (by decide +kernel) rfl rfl (Nat.le_of_ble_eq_true rfl) dX1_setColours_55 (fun H locs hP hD hS => ?_)
      replace hP : va_P D vwCl (WX ad cI cZ 3 0 (-1) code ans dbt opn ply hps wr) H := hP
      replace hD : va_D A (WX ad cI cZ 3 0 (-1) code ans dbt opn ply hps wr) := hD
      refine lv_aload_n hx hb dX1_setColours_58 rfl (lv_at hl 1 rfl) ?_
      refine va_callv (va_runV (As := []) (rest := []) ⟨hx, hb, hml, hown, hts⟩ (c_X1_sieve l D cI cZ cG cJ A ad wr hpal 3 0 (-1) code ans dbt opn ply hps (by decide) (Nat.zero_le _) (fun i hi => absurd hi (Nat.not_lt_zero i))) (cwV 0 hts gX1_setColours_X1_sieve rfl rfl rfl (by decide +kernel) ⟨Nat.le_of_ble_eq_true rfl, Nat.le_of_ble_eq_true rfl⟩) (preV (ci := 1) (q0 := 0) hB hS hP hD rfl rfl) rfl rfl hl.1 rfl (lv_room (Nat.le_of_ble_eq_true rfl)) dX1_setColours_59 ⟨Nat.le_of_ble_eq_true rfl, Nat.le_of_ble_eq_true rfl⟩) hS (fun q _ h => h) (fun q h => h) (fun u_59 t9 H1 locs1 ht9 hvm9 hw_59 hBw hz9 hk9 hS => ?_)
      obtain ⟨hP, hD⟩ := hBw
      rw [ht9] at hP
      generalize H1 = H at hP hS ⊢
      generalize locs1 = locs at hS ⊢
      replace hP : va_P D vwCl (WX ad cI cZ 3 0 (-1) code ans dbt u_59 ply hps wr) H := hP
      replace hD : va_D A (WX ad cI cZ 3 0 (-1) code ans dbt u_59 ply hps wr) := hD
      refine lv_iload_n hx hb dX1_setColours_62 rfl (lv_at hl 0 rfl) ?_
      refine W.widen (k := 1) (n := 6) (Nat.le_of_ble_eq_true rfl) (Nat.le_of_ble_eq_true rfl) ?_
      exact vx_ret (W.iret (v := nI (c)) hx hb hr (fun t ht hW => ⟨⟨_, (3, u_59), rfl, (by
          first | exact ⟨rfl, ⟨Or.inl rfl, c2⟩, hw_59⟩ | exact ⟨rfl, ⟨Or.inr rfl, c7⟩, hw_59⟩ | exact absurd c2 c31 | exact absurd (c31.symm.trans c7) (by decide)), ⟨by rw [ht]; exact hP, hD⟩⟩, hS.F ht⟩) hS.2.2 dX1_setColours_63)
    · skip
      refine lv_aload_n hx hb dX1_setColours_34 rfl (lv_at hl 1 rfl) ?_
      refine va_get (D := D) (ci := 1) (v := .ref (ad 7)) (C := RX1) (T := TX1) (N := 11) hx hb hts hinX1 hown hK hP 0 rfl rfl 0 (by decide) lk14 (fun _ h9 => h9) rfl dX1_setColours_35 ?_
      refine lv_goto (tgt := 45) hx hb dX1_setColours_38 (by decide) ?_
      refine va_put (D := D) (ci := 1) (v := .ref (ad 7)) (ty := (.object "HiddenCandles$Palette")) (C := RX1) (T := TX1) (N := 11) hx hb hts hinX1 tyX1 tyX1_ok nmX1 hown hK hP hD hS 0 rfl rfl 2 (by decide) lk21 (fun _ h9 => h9) rfl (by decide +kernel) rfl rfl (Nat.le_of_ble_eq_true rfl) dX1_setColours_45 (fun H locs hP hD hS => ?_)
      replace hP : va_P D vwCl (WX ad cI cZ 2 g hid code ans dbt opn ply hps wr) H := hP
      replace hD : va_D A (WX ad cI cZ 2 g hid code ans dbt opn ply hps wr) := hD
      refine lv_aload_n hx hb dX1_setColours_48 rfl (lv_at hl 1 rfl) ?_
      refine lv_iconst (v := (-1)) hx hb dX1_setColours_49 (by decide) ?_
      refine va_put (D := D) (ci := 1) (v := .int ((-1))) (ty := .int) (C := RX1) (T := TX1) (N := 11) hx hb hts hinX1 tyX1 tyX1_ok nmX1 hown hK hP hD hS 0 rfl rfl 3 (by decide) lk24 (fun _ h9 => h9) rfl (by decide +kernel) rfl rfl (Nat.le_of_ble_eq_true rfl) dX1_setColours_50 (fun H locs hP hD hS => ?_)
      replace hP : va_P D vwCl (WX ad cI cZ 2 g (-1) code ans dbt opn ply hps wr) H := hP
      replace hD : va_D A (WX ad cI cZ 2 g (-1) code ans dbt opn ply hps wr) := hD
      refine lv_aload_n hx hb dX1_setColours_53 rfl (lv_at hl 1 rfl) ?_
      refine lv_iconst (v := nI (0)) hx hb dX1_setColours_54 (by decide) ?_
      refine va_put (D := D) (ci := 1) (v := .int (nI (0))) (ty := .int) (C := RX1) (T := TX1) (N := 11) hx hb hts hinX1 tyX1 tyX1_ok nmX1 hown hK hP hD hS 0 rfl rfl 4 (by decide) lk28 (fun _ h9 => h9) rfl (by decide +kernel) rfl rfl (Nat.le_of_ble_eq_true rfl) dX1_setColours_55 (fun H locs hP hD hS => ?_)
      replace hP : va_P D vwCl (WX ad cI cZ 2 0 (-1) code ans dbt opn ply hps wr) H := hP
      replace hD : va_D A (WX ad cI cZ 2 0 (-1) code ans dbt opn ply hps wr) := hD
      refine lv_aload_n hx hb dX1_setColours_58 rfl (lv_at hl 1 rfl) ?_
      refine va_callv (va_runV (As := []) (rest := []) ⟨hx, hb, hml, hown, hts⟩ (c_X1_sieve l D cI cZ cG cJ A ad wr hpal 2 0 (-1) code ans dbt opn ply hps (by decide) (Nat.zero_le _) (fun i hi => absurd hi (Nat.not_lt_zero i))) (cwV 0 hts gX1_setColours_X1_sieve rfl rfl rfl (by decide +kernel) ⟨Nat.le_of_ble_eq_true rfl, Nat.le_of_ble_eq_true rfl⟩) (preV (ci := 1) (q0 := 0) hB hS hP hD rfl rfl) rfl rfl hl.1 rfl (lv_room (Nat.le_of_ble_eq_true rfl)) dX1_setColours_59 ⟨Nat.le_of_ble_eq_true rfl, Nat.le_of_ble_eq_true rfl⟩) hS (fun q _ h => h) (fun q h => h) (fun u_59 t9 H1 locs1 ht9 hvm9 hw_59 hBw hz9 hk9 hS => ?_)
      obtain ⟨hP, hD⟩ := hBw
      rw [ht9] at hP
      generalize H1 = H at hP hS ⊢
      generalize locs1 = locs at hS ⊢
      replace hP : va_P D vwCl (WX ad cI cZ 2 0 (-1) code ans dbt u_59 ply hps wr) H := hP
      replace hD : va_D A (WX ad cI cZ 2 0 (-1) code ans dbt u_59 ply hps wr) := hD
      refine lv_iload_n hx hb dX1_setColours_62 rfl (lv_at hl 0 rfl) ?_
      refine W.widen (k := 1) (n := 6) (Nat.le_of_ble_eq_true rfl) (Nat.le_of_ble_eq_true rfl) ?_
      exact vx_ret (W.iret (v := nI (c)) hx hb hr (fun t ht hW => ⟨⟨_, (2, u_59), rfl, (by
          first | exact ⟨rfl, ⟨Or.inl rfl, c2⟩, hw_59⟩ | exact ⟨rfl, ⟨Or.inr rfl, c7⟩, hw_59⟩ | exact absurd c2 c31 | exact absurd (c31.symm.trans c7) (by decide)), ⟨by rw [ht]; exact hP, hD⟩⟩, hS.F ht⟩) hS.2.2 dX1_setColours_63)
  · skip
    refine lv_iload_n hx hb dX1_setColours_5 rfl (lv_at hl 1 rfl) ?_
    refine lv_iconst (v := 3) hx hb dX1_setColours_6 (by decide) ?_
    refine lv_icmp_eq (tgt := 20) hx hb dX1_setColours_7 (by decide) (fun c7 => ?_) (fun c7 => ?_)
    · skip
      refine lv_aload_n hx hb dX1_setColours_20 rfl (lv_at hl 0 rfl) ?_
      refine va_get (D := D) (ci := 1) (v := .ref (pal ad c)) (C := RX1) (T := TX1) (N := 11) hx hb hts hinX1 hown hK hP 0 rfl rfl 2 (by decide) lk21 (fun _ h9 => h9) rfl dX1_setColours_21 ?_
      refine x_colours hx hb hts hinX0 hown hK hP (palX hpal hc) (hB.2.2.2.2.1 _ (by simp [Nws])) dX1_setColours_24 ?_
      refine lv_istore_n (lv' := [(2, .int (nI (c))), (0, .ref (ad 0)), (1, .int (v))]) hx hb dX1_setColours_27 rfl hl (by decide) rfl (fun ls hl => ?_)
      refine lv_aload_n hx hb dX1_setColours_28 rfl (lv_at hl 1 rfl) ?_
      refine lv_iload_n hx hb dX1_setColours_29 rfl (lv_at hl 2 rfl) ?_
      refine lv_iconst (v := 2) hx hb dX1_setColours_30 (by decide) ?_
      refine lv_icmp_ne (tgt := 41) hx hb dX1_setColours_31 (by decide) (fun c31 => ?_) (fun c31 => ?_)
      · skip
        refine lv_aload_n hx hb dX1_setColours_41 rfl (lv_at hl 1 rfl) ?_
        refine va_get (D := D) (ci := 1) (v := .ref (ad 8)) (C := RX1) (T := TX1) (N := 11) hx hb hts hinX1 hown hK hP 0 rfl rfl 1 (by decide) lk18 (fun _ h9 => h9) rfl dX1_setColours_42 ?_
        refine va_put (D := D) (ci := 1) (v := .ref (ad 8)) (ty := (.object "HiddenCandles$Palette")) (C := RX1) (T := TX1) (N := 11) hx hb hts hinX1 tyX1 tyX1_ok nmX1 hown hK hP hD hS 0 rfl rfl 2 (by decide) lk21 (fun _ h9 => h9) rfl (by decide +kernel) rfl rfl (Nat.le_of_ble_eq_true rfl) dX1_setColours_45 (fun H locs hP hD hS => ?_)
        replace hP : va_P D vwCl (WX ad cI cZ 3 g hid code ans dbt opn ply hps wr) H := hP
        replace hD : va_D A (WX ad cI cZ 3 g hid code ans dbt opn ply hps wr) := hD
        refine lv_aload_n hx hb dX1_setColours_48 rfl (lv_at hl 1 rfl) ?_
        refine lv_iconst (v := (-1)) hx hb dX1_setColours_49 (by decide) ?_
        refine va_put (D := D) (ci := 1) (v := .int ((-1))) (ty := .int) (C := RX1) (T := TX1) (N := 11) hx hb hts hinX1 tyX1 tyX1_ok nmX1 hown hK hP hD hS 0 rfl rfl 3 (by decide) lk24 (fun _ h9 => h9) rfl (by decide +kernel) rfl rfl (Nat.le_of_ble_eq_true rfl) dX1_setColours_50 (fun H locs hP hD hS => ?_)
        replace hP : va_P D vwCl (WX ad cI cZ 3 g (-1) code ans dbt opn ply hps wr) H := hP
        replace hD : va_D A (WX ad cI cZ 3 g (-1) code ans dbt opn ply hps wr) := hD
        refine lv_aload_n hx hb dX1_setColours_53 rfl (lv_at hl 1 rfl) ?_
        refine lv_iconst (v := nI (0)) hx hb dX1_setColours_54 (by decide) ?_
        refine va_put (D := D) (ci := 1) (v := .int (nI (0))) (ty := .int) (C := RX1) (T := TX1) (N := 11) hx hb hts hinX1 tyX1 tyX1_ok nmX1 hown hK hP hD hS 0 rfl rfl 4 (by decide) lk28 (fun _ h9 => h9) rfl (by decide +kernel) rfl rfl (Nat.le_of_ble_eq_true rfl) dX1_setColours_55 (fun H locs hP hD hS => ?_)
        replace hP : va_P D vwCl (WX ad cI cZ 3 0 (-1) code ans dbt opn ply hps wr) H := hP
        replace hD : va_D A (WX ad cI cZ 3 0 (-1) code ans dbt opn ply hps wr) := hD
        refine lv_aload_n hx hb dX1_setColours_58 rfl (lv_at hl 1 rfl) ?_
        refine va_callv (va_runV (As := []) (rest := []) ⟨hx, hb, hml, hown, hts⟩ (c_X1_sieve l D cI cZ cG cJ A ad wr hpal 3 0 (-1) code ans dbt opn ply hps (by decide) (Nat.zero_le _) (fun i hi => absurd hi (Nat.not_lt_zero i))) (cwV 0 hts gX1_setColours_X1_sieve rfl rfl rfl (by decide +kernel) ⟨Nat.le_of_ble_eq_true rfl, Nat.le_of_ble_eq_true rfl⟩) (preV (ci := 1) (q0 := 0) hB hS hP hD rfl rfl) rfl rfl hl.1 rfl (lv_room (Nat.le_of_ble_eq_true rfl)) dX1_setColours_59 ⟨Nat.le_of_ble_eq_true rfl, Nat.le_of_ble_eq_true rfl⟩) hS (fun q _ h => h) (fun q h => h) (fun u_59 t9 H1 locs1 ht9 hvm9 hw_59 hBw hz9 hk9 hS => ?_)
        obtain ⟨hP, hD⟩ := hBw
        rw [ht9] at hP
        generalize H1 = H at hP hS ⊢
        generalize locs1 = locs at hS ⊢
        replace hP : va_P D vwCl (WX ad cI cZ 3 0 (-1) code ans dbt u_59 ply hps wr) H := hP
        replace hD : va_D A (WX ad cI cZ 3 0 (-1) code ans dbt u_59 ply hps wr) := hD
        refine lv_iload_n hx hb dX1_setColours_62 rfl (lv_at hl 0 rfl) ?_
        refine W.widen (k := 1) (n := 6) (Nat.le_of_ble_eq_true rfl) (Nat.le_of_ble_eq_true rfl) ?_
        exact vx_ret (W.iret (v := nI (c)) hx hb hr (fun t ht hW => ⟨⟨_, (3, u_59), rfl, (by
            first | exact ⟨rfl, ⟨Or.inl rfl, c2⟩, hw_59⟩ | exact ⟨rfl, ⟨Or.inr rfl, c7⟩, hw_59⟩ | exact absurd c2 c31 | exact absurd (c31.symm.trans c7) (by decide)), ⟨by rw [ht]; exact hP, hD⟩⟩, hS.F ht⟩) hS.2.2 dX1_setColours_63)
      · skip
        refine lv_aload_n hx hb dX1_setColours_34 rfl (lv_at hl 1 rfl) ?_
        refine va_get (D := D) (ci := 1) (v := .ref (ad 7)) (C := RX1) (T := TX1) (N := 11) hx hb hts hinX1 hown hK hP 0 rfl rfl 0 (by decide) lk14 (fun _ h9 => h9) rfl dX1_setColours_35 ?_
        refine lv_goto (tgt := 45) hx hb dX1_setColours_38 (by decide) ?_
        refine va_put (D := D) (ci := 1) (v := .ref (ad 7)) (ty := (.object "HiddenCandles$Palette")) (C := RX1) (T := TX1) (N := 11) hx hb hts hinX1 tyX1 tyX1_ok nmX1 hown hK hP hD hS 0 rfl rfl 2 (by decide) lk21 (fun _ h9 => h9) rfl (by decide +kernel) rfl rfl (Nat.le_of_ble_eq_true rfl) dX1_setColours_45 (fun H locs hP hD hS => ?_)
        replace hP : va_P D vwCl (WX ad cI cZ 2 g hid code ans dbt opn ply hps wr) H := hP
        replace hD : va_D A (WX ad cI cZ 2 g hid code ans dbt opn ply hps wr) := hD
        refine lv_aload_n hx hb dX1_setColours_48 rfl (lv_at hl 1 rfl) ?_
        refine lv_iconst (v := (-1)) hx hb dX1_setColours_49 (by decide) ?_
        refine va_put (D := D) (ci := 1) (v := .int ((-1))) (ty := .int) (C := RX1) (T := TX1) (N := 11) hx hb hts hinX1 tyX1 tyX1_ok nmX1 hown hK hP hD hS 0 rfl rfl 3 (by decide) lk24 (fun _ h9 => h9) rfl (by decide +kernel) rfl rfl (Nat.le_of_ble_eq_true rfl) dX1_setColours_50 (fun H locs hP hD hS => ?_)
        replace hP : va_P D vwCl (WX ad cI cZ 2 g (-1) code ans dbt opn ply hps wr) H := hP
        replace hD : va_D A (WX ad cI cZ 2 g (-1) code ans dbt opn ply hps wr) := hD
        refine lv_aload_n hx hb dX1_setColours_53 rfl (lv_at hl 1 rfl) ?_
        refine lv_iconst (v := nI (0)) hx hb dX1_setColours_54 (by decide) ?_
        refine va_put (D := D) (ci := 1) (v := .int (nI (0))) (ty := .int) (C := RX1) (T := TX1) (N := 11) hx hb hts hinX1 tyX1 tyX1_ok nmX1 hown hK hP hD hS 0 rfl rfl 4 (by decide) lk28 (fun _ h9 => h9) rfl (by decide +kernel) rfl rfl (Nat.le_of_ble_eq_true rfl) dX1_setColours_55 (fun H locs hP hD hS => ?_)
        replace hP : va_P D vwCl (WX ad cI cZ 2 0 (-1) code ans dbt opn ply hps wr) H := hP
        replace hD : va_D A (WX ad cI cZ 2 0 (-1) code ans dbt opn ply hps wr) := hD
        refine lv_aload_n hx hb dX1_setColours_58 rfl (lv_at hl 1 rfl) ?_
        refine va_callv (va_runV (As := []) (rest := []) ⟨hx, hb, hml, hown, hts⟩ (c_X1_sieve l D cI cZ cG cJ A ad wr hpal 2 0 (-1) code ans dbt opn ply hps (by decide) (Nat.zero_le _) (fun i hi => absurd hi (Nat.not_lt_zero i))) (cwV 0 hts gX1_setColours_X1_sieve rfl rfl rfl (by decide +kernel) ⟨Nat.le_of_ble_eq_true rfl, Nat.le_of_ble_eq_true rfl⟩) (preV (ci := 1) (q0 := 0) hB hS hP hD rfl rfl) rfl rfl hl.1 rfl (lv_room (Nat.le_of_ble_eq_true rfl)) dX1_setColours_59 ⟨Nat.le_of_ble_eq_true rfl, Nat.le_of_ble_eq_true rfl⟩) hS (fun q _ h => h) (fun q h => h) (fun u_59 t9 H1 locs1 ht9 hvm9 hw_59 hBw hz9 hk9 hS => ?_)
        obtain ⟨hP, hD⟩ := hBw
        rw [ht9] at hP
        generalize H1 = H at hP hS ⊢
        generalize locs1 = locs at hS ⊢
        replace hP : va_P D vwCl (WX ad cI cZ 2 0 (-1) code ans dbt u_59 ply hps wr) H := hP
        replace hD : va_D A (WX ad cI cZ 2 0 (-1) code ans dbt u_59 ply hps wr) := hD
        refine lv_iload_n hx hb dX1_setColours_62 rfl (lv_at hl 0 rfl) ?_
        refine W.widen (k := 1) (n := 6) (Nat.le_of_ble_eq_true rfl) (Nat.le_of_ble_eq_true rfl) ?_
        exact vx_ret (W.iret (v := nI (c)) hx hb hr (fun t ht hW => ⟨⟨_, (2, u_59), rfl, (by
            first | exact ⟨rfl, ⟨Or.inl rfl, c2⟩, hw_59⟩ | exact ⟨rfl, ⟨Or.inr rfl, c7⟩, hw_59⟩ | exact absurd c2 c31 | exact absurd (c31.symm.trans c7) (by decide)), ⟨by rw [ht]; exact hP, hD⟩⟩, hS.F ht⟩) hS.2.2 dX1_setColours_63)
    · skip
      obtain ⟨sa9, hsa9⟩ := hB.2.2.2.2.2 (56, "colours are 2 or 3") (by decide)
      have hat9 : ∀ w ∈ (vx_atS RX1 58 "java/lang/IllegalArgumentException" ["java/lang/RuntimeException", "java/lang/Exception"]), w.before _ s = true := vx_hat (B := [.castable "java/lang/IllegalArgumentException" "java/lang/IllegalArgumentException", .declares (Bundle.initS "java/lang/RuntimeException"), .declares (Bundle.initS "java/lang/Exception"), .declares (Bundle.initS Bundle.tN)]) (fun w hw => hts w (by first | exact List.mem_cons_of_mem _ (List.mem_append_right _ hw) | exact List.mem_cons_of_mem _ (List.mem_append_left _ (List.mem_append_right _ hw)) | exact List.mem_cons_of_mem _ (List.mem_append_left _ (List.mem_append_left _ (List.mem_append_right _ hw))))) (by decide +kernel) (vx_c (va_Nw.use rfl (hB.2.2.2.2.1 _ (by simp [Nws]))) (vx_c (va_Nw.use rfl (hB.2.2.2.2.1 _ (by simp [Nws]))) (vx_c (va_Nw.use rfl (hB.2.2.2.2.1 _ (by simp [Nws]))) (vx_c (va_Nw.use rfl (hB.2.2.2.2.1 _ (by simp [Nws]))) vx_n))))
      exact vx_throwS (A := A) (names := ["java/lang/RuntimeException", "java/lang/Exception"]) (cls := "java/lang/IllegalArgumentException") hx hb hflag hown (by decide +kernel) (by decide +kernel) (hts _ (by decide +kernel)) (hts _ (by decide +kernel)) hsa9 hat9 (by decide +kernel) hB.2.2.1 hB.2.2.2.1 hS (hl.1.trans hml.symm) dX1_setColours_10 dX1_setColours_13 dX1_setColours_14 dX1_setColours_16 dX1_setColours_19 (fun x hx9 => (hnt x hx9).elim) (Nat.le_of_ble_eq_true rfl) (Nat.le_of_ble_eq_true rfl) (Nat.le_of_ble_eq_true rfl) (Nat.le_of_ble_eq_true rfl) hlocks (fun t hvm hsz hk => ⟨(), trivial, ⟨(by
          exact ⟨rfl, c2, c7⟩), ⟨va_P.kept hP (fun k q hk9 => hk _ (hP k q hk9).lt), hD⟩⟩, ⟨Nat.le_trans hS.1 hsz, fun q h1 h2 => (hk q (Nat.lt_of_lt_of_le h1 hS.1)).trans (hS.2.1 q h1 h2)⟩⟩) hS.2.2 (Nat.le_of_ble_eq_true rfl) (Nat.le_of_ble_eq_true rfl)

set_option maxHeartbeats 4000000 in
set_option maxRecDepth 100000 in
theorem c_X1_hide (l : Launch) (hfl : l.flags = flags0) (D : va_G) (cI cZ cG cJ : ClassId) (A : Nat → Prop) (ad : Nat → Nat) (wr : va_W) (hpal : Pals cI cG ad wr) (c : Nat) (g : Nat) (hid : Int32) (code : Nat → Nat) (ans : Nat → Nat) (dbt : Nat → Bool) (opn : Nat → Bool) (ply : Nat → Bool) (hps : Nat → Nat) (v : Int32) (hI : XI c g hid code ans dbt opn) : vx_Met l yX1_hide wsX1_hide ({ frames := 7, cells := 1, slots := 6, locals := 103 }) (va_Pc [.ref (ad 0), .int (v)] (Iv D (TY cI cZ cG cJ) A (WX ad cI cZ c g hid code ans dbt opn ply hps wr))) (va_Qi (fun r (u : Unit) => r = hid ∧ hasC c v = true) (fun u => Wd D A (WX ad cI cZ c g v code ans dbt opn ply hps wr)) A) (Xw D A (WX ad cI cZ c g hid code ans dbt opn ply hps wr) (fun E => E = "java/lang/IndexOutOfBoundsException" ∧ hasC c v = false)) 1 6 A := by
  refine vx_ofW (cc := cX1_hide) (maxL := 3) (ret := (some .int)) (by decide) rfl ?_
  intro p e s m args below meth c9 s₁ B hml hnt hv
  obtain ⟨rfl, hP, hD, hB⟩ := hv
  have hK := hB.1
  have hA := hB.2.1
  have hx := B.exec
  have hb := B.bytes
  have hr := B.returns
  have hts := atoms_spec (ws := wsX1_hide) B.pre
  have hown : s.vm.findClass RX1 = some m.cls := findClass_of_methodNamed B.named
  have hlocks := B.notSynchronized
  have hS : va_S A s.heap s.heap [] := va_S.rf
  have hflag : l.stackTraces = false := by rw [Launch.stackTraces, hfl]; decide
  have hinX1 : ∀ w ∈ wsX10, w ∈ wsX1_hide := by decide +kernel
  have lk24 := hts (.fieldLink RX1 24 "HiddenCandles" "hidden" "I") (by decide +kernel)
  have hl := lv_entry ([.ref (ad 0), .int (v)]) (n := 3) (Nat.le_of_ble_eq_true rfl)
  rw [lg_entry_eq]
  generalize (lg_sl ([.ref (ad 0), .int (v)]) ++ List.replicate (3 - (lg_sl ([.ref (ad 0), .int (v)])).length) Slot.unset).toArray = ls at hl ⊢
  have hl : lv_has ls 3 [(0, .ref (ad 0)), (1, .int (v))] := hl
  obtain ⟨H, eH⟩ : ∃ q, q = s.heap := ⟨_, rfl⟩
  obtain ⟨locs, eL⟩ : ∃ q : List Loc, q = [] := ⟨_, rfl⟩
  replace hP : va_P D vwCl (WX ad cI cZ c g hid code ans dbt opn ply hps wr) H := by rw [eH]; exact hP
  replace hS : va_S A s.heap H locs := by rw [eH, eL]; exact hS
  rw [show W p l e _ s m _ below meth c9 s.heap [] = W p l e _ s m _ below meth c9 H locs from by rw [eH, eL]]
  clear eH eL
  obtain ⟨hc, hg, hco, hhid, hop⟩ := id hI
  have hq := qq_in hc
  have hop2 := op_lt hop
  refine lv_aload_n hx hb dX1_hide_0 rfl (lv_at hl 0 rfl) ?_
  refine lv_iload_n hx hb dX1_hide_1 rfl (lv_at hl 1 rfl) ?_
  refine vx_callv (vx_runV (As := [.int (v)]) (rest := []) ⟨hx, hb, hml, hown, hts⟩ (c_X1_needCode l hfl D cI cZ cG cJ A ad wr hpal c g hid code ans dbt opn ply hps v (hc)) (cwV 1 hts gX1_hide_X1_needCode rfl rfl rfl (by decide +kernel) ⟨Nat.le_of_ble_eq_true rfl, Nat.le_of_ble_eq_true rfl⟩) (preV (ci := 1) (q0 := 0) hB hS hP hD rfl rfl) rfl rfl hl.1 rfl (lv_room (Nat.le_of_ble_eq_true rfl)) dX1_hide_2 ⟨Nat.le_of_ble_eq_true rfl, Nat.le_of_ble_eq_true rfl⟩) hS (fun q _ h => h) (fun q h => h) (fun q _ h => h) (fun E ce q9 u9 t9 H1 locs1 ht9 hvm9 hpx8 hBx hz9 hk9 hS hq9 hv9 hcl9 => ?_) (fun u_2 t9 H1 locs1 ht9 hvm9 hw_2 hBw hz9 hk9 hS => ?_)
  · obtain ⟨hpx9, hP1, hD1⟩ := hBx
    rw [ht9] at hP1
    exact vx_out (fun x hx9 => (hnt x hx9).elim) hlocks hq9 hv9 hcl9 (fun t ht hvm => ⟨(), trivial, ⟨(by
        exact hpx9), by rw [ht]; exact hP1, hD1⟩, hS.F ht⟩) hS.2.2 (by omega) (by omega)
  obtain ⟨hP, hD⟩ := hBw
  rw [ht9] at hP
  generalize H1 = H at hP hS ⊢
  generalize locs1 = locs at hS ⊢
  replace hP : va_P D vwCl (WX ad cI cZ c g hid code ans dbt opn ply hps wr) H := hP
  replace hD : va_D A (WX ad cI cZ c g hid code ans dbt opn ply hps wr) := hD
  refine lv_aload_n hx hb dX1_hide_5 rfl (lv_at hl 0 rfl) ?_
  refine va_get (D := D) (ci := 1) (v := .int (hid)) (C := RX1) (T := TX1) (N := 11) hx hb hts hinX1 hown hK hP 0 rfl rfl 3 (by decide) lk24 (fun _ h9 => h9) rfl dX1_hide_6 ?_
  refine lv_istore_n (lv' := [(2, .int (hid)), (0, .ref (ad 0)), (1, .int (v))]) hx hb dX1_hide_9 rfl hl (by decide) rfl (fun ls hl => ?_)
  refine lv_aload_n hx hb dX1_hide_10 rfl (lv_at hl 1 rfl) ?_
  refine lv_iload_n hx hb dX1_hide_11 rfl (lv_at hl 2 rfl) ?_
  refine va_put (D := D) (ci := 1) (v := .int (v)) (ty := .int) (C := RX1) (T := TX1) (N := 11) hx hb hts hinX1 tyX1 tyX1_ok nmX1 hown hK hP hD hS 0 rfl rfl 3 (by decide) lk24 (fun _ h9 => h9) rfl (by decide +kernel) rfl rfl (Nat.le_of_ble_eq_true rfl) dX1_hide_12 (fun H locs hP hD hS => ?_)
  replace hP : va_P D vwCl (WX ad cI cZ c g v code ans dbt opn ply hps wr) H := hP
  replace hD : va_D A (WX ad cI cZ c g v code ans dbt opn ply hps wr) := hD
  refine lv_iload_n hx hb dX1_hide_15 rfl (lv_at hl 0 rfl) ?_
  refine W.widen (k := 1) (n := 6) (Nat.le_of_ble_eq_true rfl) (Nat.le_of_ble_eq_true rfl) ?_
  exact vx_ret (W.iret (v := hid) hx hb hr (fun t ht hW => ⟨⟨_, (), rfl, (by
      exact ⟨rfl, hw_2⟩), ⟨by rw [ht]; exact hP, hD⟩⟩, hS.F ht⟩) hS.2.2 dX1_hide_16)

set_option maxHeartbeats 4000000 in
set_option maxRecDepth 100000 in
theorem c_X1_swap (l : Launch) (hfl : l.flags = flags0) (D : va_G) (cI cZ cG cJ : ClassId) (A : Nat → Prop) (ad : Nat → Nat) (wr : va_W) (hpal : Pals cI cG ad wr) (c : Nat) (g : Nat) (hid : Int32) (code : Nat → Nat) (ans : Nat → Nat) (dbt : Nat → Bool) (opn : Nat → Bool) (ply : Nat → Bool) (hps : Nat → Nat) (a : Int32) (b : Int32) (hI : XI c g hid code ans dbt opn) : vx_Met l yX1_swap wsX1_swap ({ frames := 7, cells := 3, slots := 18, locals := 102 }) (va_Pc [.ref (ad 0), .int (a), .int (b)] (Iv D (TY cI cZ cG cJ) A (WX ad cI cZ c g hid code ans dbt opn ply hps wr))) (va_Qi (fun r (u : Int32) => r = u ∧ ∃ h pa pb : Nat, h < qq c ∧ pa < 4 ∧ pb < 4 ∧ hid = nI h ∧ a = nI pa ∧ b = nI pb ∧ u = nI (swF c h pa pb 4)) (fun u => Wd D A (WX ad cI cZ c g u code ans dbt opn ply hps wr)) A) (Xw D A (WX ad cI cZ c g hid code ans dbt opn ply hps wr) (fun E => (E = "java/lang/IndexOutOfBoundsException" ∧ (plC a = false ∨ plC b = false)) ∨ (E = "java/lang/IllegalStateException" ∧ plC a = true ∧ plC b = true ∧ hid = -1))) 3 18 A := by
  refine vx_ofW (cc := cX1_swap) (maxL := 6) (ret := (some .int)) (by decide) rfl ?_
  intro p e s m args below meth c9 s₁ B hml hnt hv
  obtain ⟨rfl, hP, hD, hB⟩ := hv
  have hK := hB.1
  have hA := hB.2.1
  have hx := B.exec
  have hb := B.bytes
  have hr := B.returns
  have hts := atoms_spec (ws := wsX1_swap) B.pre
  have hown : s.vm.findClass RX1 = some m.cls := findClass_of_methodNamed B.named
  have hlocks := B.notSynchronized
  have hS : va_S A s.heap s.heap [] := va_S.rf
  have hflag : l.stackTraces = false := by rw [Launch.stackTraces, hfl]; decide
  have hinX0 : ∀ w ∈ wsX00, w ∈ wsX1_swap := by decide +kernel
  have hinX1 : ∀ w ∈ wsX10, w ∈ wsX1_swap := by decide +kernel
  have lk21 := hts (.fieldLink RX1 21 "HiddenCandles" "palette" "LHiddenCandles$Palette;") (by decide +kernel)
  have lk24 := hts (.fieldLink RX1 24 "HiddenCandles" "hidden" "I") (by decide +kernel)
  have hl := lv_entry ([.ref (ad 0), .int (a), .int (b)]) (n := 6) (Nat.le_of_ble_eq_true rfl)
  rw [lg_entry_eq]
  generalize (lg_sl ([.ref (ad 0), .int (a), .int (b)]) ++ List.replicate (6 - (lg_sl ([.ref (ad 0), .int (a), .int (b)])).length) Slot.unset).toArray = ls at hl ⊢
  have hl : lv_has ls 6 [(0, .ref (ad 0)), (1, .int (a)), (2, .int (b))] := hl
  obtain ⟨H, eH⟩ : ∃ q, q = s.heap := ⟨_, rfl⟩
  obtain ⟨locs, eL⟩ : ∃ q : List Loc, q = [] := ⟨_, rfl⟩
  replace hP : va_P D vwCl (WX ad cI cZ c g hid code ans dbt opn ply hps wr) H := by rw [eH]; exact hP
  replace hS : va_S A s.heap H locs := by rw [eH, eL]; exact hS
  rw [show W p l e _ s m _ below meth c9 s.heap [] = W p l e _ s m _ below meth c9 H locs from by rw [eH, eL]]
  clear eH eL
  obtain ⟨hc, hg, hco, hhid, hop⟩ := id hI
  have hq := qq_in hc
  have hop2 := op_lt hop
  refine lv_iload_n hx hb dX1_swap_0 rfl (lv_at hl 1 rfl) ?_
  refine vx_callv (vx_runS (As := [.int (a)]) (rest := []) ⟨hx, hb, hml, hown, hts⟩ (c_X1_needPlace l hfl D cI cZ cG cJ A (WX ad cI cZ c g hid code ans dbt opn ply hps wr) a ) (va_cwS 1 hts gX1_swap_X1_needPlace rfl rfl rfl (by decide +kernel) ⟨Nat.le_of_ble_eq_true rfl, Nat.le_of_ble_eq_true rfl⟩) (preS hB hS hP hD) rfl rfl hl.1 rfl (lv_room (Nat.le_of_ble_eq_true rfl)) dX1_swap_1 ⟨Nat.le_of_ble_eq_true rfl, Nat.le_of_ble_eq_true rfl⟩) hS (fun q _ h => h) (fun q h => h) (fun q _ h => h) (fun E ce q9 u9 t9 H1 locs1 ht9 hvm9 hpx8 hBx hz9 hk9 hS hq9 hv9 hcl9 => ?_) (fun u_1 t9 H1 locs1 ht9 hvm9 hw_1 hBw hz9 hk9 hS => ?_)
  · obtain ⟨hpx9, hP1, hD1⟩ := hBx
    rw [ht9] at hP1
    exact vx_out (fun x hx9 => (hnt x hx9).elim) hlocks hq9 hv9 hcl9 (fun t ht hvm => ⟨(), trivial, ⟨(by
        exact Or.inl ⟨hpx9.1, Or.inl hpx9.2⟩), by rw [ht]; exact hP1, hD1⟩, hS.F ht⟩) hS.2.2 (by omega) (by omega)
  obtain ⟨hP, hD⟩ := hBw
  rw [ht9] at hP
  generalize H1 = H at hP hS ⊢
  generalize locs1 = locs at hS ⊢
  replace hP : va_P D vwCl (WX ad cI cZ c g hid code ans dbt opn ply hps wr) H := hP
  replace hD : va_D A (WX ad cI cZ c g hid code ans dbt opn ply hps wr) := hD
  obtain ⟨pa, hpa, rfl⟩ := plC_of hw_1
  refine lv_iload_n hx hb dX1_swap_4 rfl (lv_at hl 2 rfl) ?_
  refine vx_callv (vx_runS (As := [.int (b)]) (rest := []) ⟨hx, hb, hml, hown, hts⟩ (c_X1_needPlace l hfl D cI cZ cG cJ A (WX ad cI cZ c g hid code ans dbt opn ply hps wr) b ) (va_cwS 1 hts gX1_swap_X1_needPlace rfl rfl rfl (by decide +kernel) ⟨Nat.le_of_ble_eq_true rfl, Nat.le_of_ble_eq_true rfl⟩) (preS hB hS hP hD) rfl rfl hl.1 rfl (lv_room (Nat.le_of_ble_eq_true rfl)) dX1_swap_5 ⟨Nat.le_of_ble_eq_true rfl, Nat.le_of_ble_eq_true rfl⟩) hS (fun q _ h => h) (fun q h => h) (fun q _ h => h) (fun E ce q9 u9 t9 H1 locs1 ht9 hvm9 hpx8 hBx hz9 hk9 hS hq9 hv9 hcl9 => ?_) (fun u_5 t9 H1 locs1 ht9 hvm9 hw_5 hBw hz9 hk9 hS => ?_)
  · obtain ⟨hpx9, hP1, hD1⟩ := hBx
    rw [ht9] at hP1
    exact vx_out (fun x hx9 => (hnt x hx9).elim) hlocks hq9 hv9 hcl9 (fun t ht hvm => ⟨(), trivial, ⟨(by
        exact Or.inl ⟨hpx9.1, Or.inr hpx9.2⟩), by rw [ht]; exact hP1, hD1⟩, hS.F ht⟩) hS.2.2 (by omega) (by omega)
  obtain ⟨hP, hD⟩ := hBw
  rw [ht9] at hP
  generalize H1 = H at hP hS ⊢
  generalize locs1 = locs at hS ⊢
  replace hP : va_P D vwCl (WX ad cI cZ c g hid code ans dbt opn ply hps wr) H := hP
  replace hD : va_D A (WX ad cI cZ c g hid code ans dbt opn ply hps wr) := hD
  obtain ⟨pb, hpb, rfl⟩ := plC_of hw_5
  refine lv_aload_n hx hb dX1_swap_8 rfl (lv_at hl 0 rfl) ?_
  refine vx_callv (vx_runV (As := []) (rest := []) ⟨hx, hb, hml, hown, hts⟩ (c_X1_needHidden l hfl D cI cZ cG cJ A ad wr hpal c g hid code ans dbt opn ply hps ) (cwV 0 hts gX1_swap_X1_needHidden rfl rfl rfl (by decide +kernel) ⟨Nat.le_of_ble_eq_true rfl, Nat.le_of_ble_eq_true rfl⟩) (preV (ci := 1) (q0 := 0) hB hS hP hD rfl rfl) rfl rfl hl.1 rfl (lv_room (Nat.le_of_ble_eq_true rfl)) dX1_swap_9 ⟨Nat.le_of_ble_eq_true rfl, Nat.le_of_ble_eq_true rfl⟩) hS (fun q _ h => h) (fun q h => h) (fun q _ h => h) (fun E ce q9 u9 t9 H1 locs1 ht9 hvm9 hpx8 hBx hz9 hk9 hS hq9 hv9 hcl9 => ?_) (fun u_9 t9 H1 locs1 ht9 hvm9 hw_9 hBw hz9 hk9 hS => ?_)
  · obtain ⟨hpx9, hP1, hD1⟩ := hBx
    rw [ht9] at hP1
    exact vx_out (fun x hx9 => (hnt x hx9).elim) hlocks hq9 hv9 hcl9 (fun t ht hvm => ⟨(), trivial, ⟨(by
        exact Or.inr ⟨hpx9.1, plC_nI hpa, plC_nI hpb, hpx9.2⟩), by rw [ht]; exact hP1, hD1⟩, hS.F ht⟩) hS.2.2 (by omega) (by omega)
  obtain ⟨hP, hD⟩ := hBw
  rw [ht9] at hP
  generalize H1 = H at hP hS ⊢
  generalize locs1 = locs at hS ⊢
  replace hP : va_P D vwCl (WX ad cI cZ c g hid code ans dbt opn ply hps wr) H := hP
  replace hD : va_D A (WX ad cI cZ c g hid code ans dbt opn ply hps wr) := hD
  obtain ⟨h, hh, rfl⟩ := hhid.resolve_left hw_9
  refine lv_iconst (v := nI (0)) hx hb dX1_swap_12 (by decide) ?_
  refine lv_istore_n (lv' := [(3, .int (nI (0))), (0, .ref (ad 0)), (1, .int (nI (pa))), (2, .int (nI (pb)))]) hx hb dX1_swap_13 rfl hl (by decide) rfl (fun ls hl => ?_)
  refine lv_iconst (v := nI (0)) hx hb dX1_swap_14 (by decide) ?_
  refine lv_istore (lv' := [(4, .int (nI (0))), (3, .int (nI (0))), (0, .ref (ad 0)), (1, .int (nI (pa))), (2, .int (nI (pb)))]) hx hb dX1_swap_15 hl (by decide) rfl (fun ls hl => ?_)
  -- loop at 17
  have hinv : 0 ≤ 4 ∧ 0 = swF c h pa pb 0 := by
    exact ⟨Nat.zero_le _, rfl⟩
  obtain ⟨i, r, hq9⟩ : ∃ (i : Nat) (r : Nat), lv_has ls 6 [(0, .ref (ad 0)), (1, .int (nI (pa))), (2, .int (nI (pb))), (3, .int (nI (r))), (4, .int (nI (i)))] ∧ (i ≤ 4 ∧ r = swF c h pa pb i) ∧ va_P D vwCl (WX ad cI cZ c g (nI h) code ans dbt opn ply hps wr) H ∧ va_D A (WX ad cI cZ c g (nI h) code ans dbt opn ply hps wr) := ⟨0, 0, lv_sub hl [2, 3, 4, 1, 0] rfl, hinv, hP, hD⟩
  clear hl hinv hP hD
  obtain ⟨hl, hinv, hP, hD⟩ := hq9
  obtain ⟨n9_17, hn9⟩ : ∃ q : Nat, 4 - i < q := ⟨_, Nat.lt_succ_self _⟩
  induction n9_17 generalizing ls H locs i r with
  | zero => exact absurd hn9 (Nat.not_lt_zero _)
  | succ n9_17 ih17 =>
    obtain ⟨h1, h2⟩ := hinv
    refine lv_iload hx hb dX1_swap_17 (lv_at hl 4 rfl) ?_
    refine lv_iconst (v := nI (4)) hx hb dX1_swap_19 (by decide) ?_
    refine x_ge (tgt := 77) hx hb dX1_swap_20 (by decide) (by omega) (by omega) (fun c20 => ?_) (fun c20 => ?_)
    · skip
      refine lv_aload_n hx hb dX1_swap_77 rfl (lv_at hl 0 rfl) ?_
      refine lv_iload_n hx hb dX1_swap_78 rfl (lv_at hl 3 rfl) ?_
      refine va_put (D := D) (ci := 1) (v := .int (nI (r))) (ty := .int) (C := RX1) (T := TX1) (N := 11) hx hb hts hinX1 tyX1 tyX1_ok nmX1 hown hK hP hD hS 0 rfl rfl 3 (by decide) lk24 (fun _ h9 => h9) rfl (by decide +kernel) rfl rfl (Nat.le_of_ble_eq_true rfl) dX1_swap_79 (fun H locs hP hD hS => ?_)
      replace hP : va_P D vwCl (WX ad cI cZ c g (nI (r)) code ans dbt opn ply hps wr) H := hP
      replace hD : va_D A (WX ad cI cZ c g (nI (r)) code ans dbt opn ply hps wr) := hD
      refine lv_aload_n hx hb dX1_swap_82 rfl (lv_at hl 0 rfl) ?_
      refine va_get (D := D) (ci := 1) (v := .int ((nI (r)))) (C := RX1) (T := TX1) (N := 11) hx hb hts hinX1 hown hK hP 0 rfl rfl 3 (by decide) lk24 (fun _ h9 => h9) rfl dX1_swap_83 ?_
      refine W.widen (k := 3) (n := 18) (Nat.le_of_ble_eq_true rfl) (Nat.le_of_ble_eq_true rfl) ?_
      exact vx_ret (W.iret (v := (nI (r))) hx hb hr (fun t ht hW => ⟨⟨_, (nI r), rfl, (by
          have e9 : i = 4 := by omega
          subst e9
          exact ⟨rfl, h, pa, pb, hh, hpa, hpb, rfl, rfl, rfl, by rw [h2]⟩), ⟨by rw [ht]; exact hP, hD⟩⟩, hS.F ht⟩) hS.2.2 dX1_swap_86)
    · skip
      refine lv_iload hx hb dX1_swap_23 (lv_at hl 4 rfl) ?_
      refine lv_iload_n hx hb dX1_swap_25 rfl (lv_at hl 1 rfl) ?_
      refine x_ne (tgt := 33) hx hb dX1_swap_26 (by decide) (by omega) (by omega) (fun c26 => ?_) (fun c26 => ?_)
      · skip
        refine lv_iload hx hb dX1_swap_33 (lv_at hl 4 rfl) ?_
        refine lv_iload_n hx hb dX1_swap_35 rfl (lv_at hl 2 rfl) ?_
        refine x_ne (tgt := 43) hx hb dX1_swap_36 (by decide) (by omega) (by omega) (fun c36 => ?_) (fun c36 => ?_)
        · skip
          refine lv_iload hx hb dX1_swap_43 (lv_at hl 4 rfl) ?_
          refine lv_istore (lv' := [(5, .int (nI (i))), (0, .ref (ad 0)), (1, .int (nI (pa))), (2, .int (nI (pb))), (3, .int (nI (r))), (4, .int (nI (i)))]) hx hb dX1_swap_45 hl (by decide) rfl (fun ls hl => ?_)
          refine lv_iload_n hx hb dX1_swap_47 rfl (lv_at hl 4 rfl) ?_
          refine lv_aload_n hx hb dX1_swap_48 rfl (lv_at hl 1 rfl) ?_
          refine va_get (D := D) (ci := 1) (v := .ref (pal ad c)) (C := RX1) (T := TX1) (N := 11) hx hb hts hinX1 hown hK hP 0 rfl rfl 2 (by decide) lk21 (fun _ h9 => h9) rfl dX1_swap_49 ?_
          refine x_colours hx hb hts hinX0 hown hK hP (palX hpal hc) (hB.2.2.2.2.1 _ (by simp [Nws])) dX1_swap_52 ?_
          refine lv_imul hx hb dX1_swap_55 ?_
          refine x_ti (pk_mul _ _) ?_
          refine lv_aload_n hx hb dX1_swap_56 rfl (lv_at hl 1 rfl) ?_
          refine va_get (D := D) (ci := 1) (v := .ref (pal ad c)) (C := RX1) (T := TX1) (N := 11) hx hb hts hinX1 hown hK hP 0 rfl rfl 2 (by decide) lk21 (fun _ h9 => h9) rfl dX1_swap_57 ?_
          refine lv_aload_n hx hb dX1_swap_60 rfl (lv_at hl 1 rfl) ?_
          refine va_get (D := D) (ci := 1) (v := .int ((nI h))) (C := RX1) (T := TX1) (N := 11) hx hb hts hinX1 hown hK hP 0 rfl rfl 3 (by decide) lk24 (fun _ h9 => h9) rfl dX1_swap_61 ?_
          refine lv_iload hx hb dX1_swap_64 (lv_at hl 0 rfl) ?_
          refine x_csi (va_runVN (As := [.int ((nI h)), .int (nI (i))]) (rest := [.int (nI (r * c))]) ⟨hx, hb, hml, hown, hts⟩ (c_X0_colourOf l D cI cZ cG cJ A (WX ad cI cZ c g (nI h) code ans dbt opn ply hps wr) (pal ad c) c h i (palX hpal hc) (hc) (hh) (by omega)) ⟨va_cnB (host := RX1) 2 hts gX1_swap_X0_colourOf_n73 rfl rfl rfl (hB.2.2.2.2.1 _ (by simp [Nws])) (hts _ (by decide +kernel)) (by decide +kernel) ⟨Nat.le_of_ble_eq_true rfl, Nat.le_of_ble_eq_true rfl⟩, hts _ (by decide +kernel), hts _ (by decide +kernel)⟩ (prePal hB hS hP hD (palX hpal hc)) rfl rfl hl.1 rfl (lv_room (Nat.le_of_ble_eq_true rfl)) dX1_swap_66 ⟨Nat.le_of_ble_eq_true rfl, Nat.le_of_ble_eq_true rfl⟩) ?_
          refine lv_iadd hx hb dX1_swap_69 ?_
          refine x_ti (nI_add _ _) ?_
          refine lv_istore_n (lv' := [(3, .int (nI ((r * c) + (col c h i)))), (5, .int (nI (i))), (0, .ref (ad 0)), (1, .int (nI (pa))), (2, .int (nI (pb))), (4, .int (nI (i)))]) hx hb dX1_swap_70 rfl hl (by decide) rfl (fun ls hl => ?_)
          refine lv_iinc (v := nI (i + 1)) (lv' := [(4, .int (nI (i + 1))), (3, .int (nI ((r * c) + (col c h i)))), (5, .int (nI (i))), (0, .ref (ad 0)), (1, .int (nI (pa))), (2, .int (nI (pb)))]) hx hb dX1_swap_71 hl (k := 5) rfl (nI_add _ _) (by decide) rfl (fun ls hl => ?_)
          refine lv_goto (tgt := 17) hx hb dX1_swap_74 (by decide) ?_
          exact ih17 (i := i + 1) (r := (r * c) + (col c h i)) (ls := ls) (hl := lv_sub hl [3, 4, 5, 1, 0] rfl) (H := H) (locs := locs) (hP := hP) (hS := hS) (hinv := by
              refine ⟨by omega, ?_⟩
              simp only [swF]; rw [← h2]
              first | rw [if_pos c26] | rw [if_neg c26, if_pos c36] | rw [if_neg c26, if_neg c36]
            ) (hn9 := by
              omega
            )
        · skip
          refine lv_iload_n hx hb dX1_swap_39 rfl (lv_at hl 1 rfl) ?_
          refine lv_goto (tgt := 45) hx hb dX1_swap_40 (by decide) ?_
          refine lv_istore (lv' := [(5, .int (nI (pa))), (0, .ref (ad 0)), (1, .int (nI (pa))), (2, .int (nI (pb))), (3, .int (nI (r))), (4, .int (nI (i)))]) hx hb dX1_swap_45 hl (by decide) rfl (fun ls hl => ?_)
          refine lv_iload_n hx hb dX1_swap_47 rfl (lv_at hl 4 rfl) ?_
          refine lv_aload_n hx hb dX1_swap_48 rfl (lv_at hl 1 rfl) ?_
          refine va_get (D := D) (ci := 1) (v := .ref (pal ad c)) (C := RX1) (T := TX1) (N := 11) hx hb hts hinX1 hown hK hP 0 rfl rfl 2 (by decide) lk21 (fun _ h9 => h9) rfl dX1_swap_49 ?_
          refine x_colours hx hb hts hinX0 hown hK hP (palX hpal hc) (hB.2.2.2.2.1 _ (by simp [Nws])) dX1_swap_52 ?_
          refine lv_imul hx hb dX1_swap_55 ?_
          refine x_ti (pk_mul _ _) ?_
          refine lv_aload_n hx hb dX1_swap_56 rfl (lv_at hl 1 rfl) ?_
          refine va_get (D := D) (ci := 1) (v := .ref (pal ad c)) (C := RX1) (T := TX1) (N := 11) hx hb hts hinX1 hown hK hP 0 rfl rfl 2 (by decide) lk21 (fun _ h9 => h9) rfl dX1_swap_57 ?_
          refine lv_aload_n hx hb dX1_swap_60 rfl (lv_at hl 1 rfl) ?_
          refine va_get (D := D) (ci := 1) (v := .int ((nI h))) (C := RX1) (T := TX1) (N := 11) hx hb hts hinX1 hown hK hP 0 rfl rfl 3 (by decide) lk24 (fun _ h9 => h9) rfl dX1_swap_61 ?_
          refine lv_iload hx hb dX1_swap_64 (lv_at hl 0 rfl) ?_
          refine x_csi (va_runVN (As := [.int ((nI h)), .int (nI (pa))]) (rest := [.int (nI (r * c))]) ⟨hx, hb, hml, hown, hts⟩ (c_X0_colourOf l D cI cZ cG cJ A (WX ad cI cZ c g (nI h) code ans dbt opn ply hps wr) (pal ad c) c h pa (palX hpal hc) (hc) (hh) (by omega)) ⟨va_cnB (host := RX1) 2 hts gX1_swap_X0_colourOf_n73 rfl rfl rfl (hB.2.2.2.2.1 _ (by simp [Nws])) (hts _ (by decide +kernel)) (by decide +kernel) ⟨Nat.le_of_ble_eq_true rfl, Nat.le_of_ble_eq_true rfl⟩, hts _ (by decide +kernel), hts _ (by decide +kernel)⟩ (prePal hB hS hP hD (palX hpal hc)) rfl rfl hl.1 rfl (lv_room (Nat.le_of_ble_eq_true rfl)) dX1_swap_66 ⟨Nat.le_of_ble_eq_true rfl, Nat.le_of_ble_eq_true rfl⟩) ?_
          refine lv_iadd hx hb dX1_swap_69 ?_
          refine x_ti (nI_add _ _) ?_
          refine lv_istore_n (lv' := [(3, .int (nI ((r * c) + (col c h pa)))), (5, .int (nI (pa))), (0, .ref (ad 0)), (1, .int (nI (pa))), (2, .int (nI (pb))), (4, .int (nI (i)))]) hx hb dX1_swap_70 rfl hl (by decide) rfl (fun ls hl => ?_)
          refine lv_iinc (v := nI (i + 1)) (lv' := [(4, .int (nI (i + 1))), (3, .int (nI ((r * c) + (col c h pa)))), (5, .int (nI (pa))), (0, .ref (ad 0)), (1, .int (nI (pa))), (2, .int (nI (pb)))]) hx hb dX1_swap_71 hl (k := 5) rfl (nI_add _ _) (by decide) rfl (fun ls hl => ?_)
          refine lv_goto (tgt := 17) hx hb dX1_swap_74 (by decide) ?_
          exact ih17 (i := i + 1) (r := (r * c) + (col c h pa)) (ls := ls) (hl := lv_sub hl [3, 4, 5, 1, 0] rfl) (H := H) (locs := locs) (hP := hP) (hS := hS) (hinv := by
              refine ⟨by omega, ?_⟩
              simp only [swF]; rw [← h2]
              first | rw [if_pos c26] | rw [if_neg c26, if_pos c36] | rw [if_neg c26, if_neg c36]
            ) (hn9 := by
              omega
            )
      · skip
        refine lv_iload_n hx hb dX1_swap_29 rfl (lv_at hl 2 rfl) ?_
        refine lv_goto (tgt := 45) hx hb dX1_swap_30 (by decide) ?_
        refine lv_istore (lv' := [(5, .int (nI (pb))), (0, .ref (ad 0)), (1, .int (nI (pa))), (2, .int (nI (pb))), (3, .int (nI (r))), (4, .int (nI (i)))]) hx hb dX1_swap_45 hl (by decide) rfl (fun ls hl => ?_)
        refine lv_iload_n hx hb dX1_swap_47 rfl (lv_at hl 4 rfl) ?_
        refine lv_aload_n hx hb dX1_swap_48 rfl (lv_at hl 1 rfl) ?_
        refine va_get (D := D) (ci := 1) (v := .ref (pal ad c)) (C := RX1) (T := TX1) (N := 11) hx hb hts hinX1 hown hK hP 0 rfl rfl 2 (by decide) lk21 (fun _ h9 => h9) rfl dX1_swap_49 ?_
        refine x_colours hx hb hts hinX0 hown hK hP (palX hpal hc) (hB.2.2.2.2.1 _ (by simp [Nws])) dX1_swap_52 ?_
        refine lv_imul hx hb dX1_swap_55 ?_
        refine x_ti (pk_mul _ _) ?_
        refine lv_aload_n hx hb dX1_swap_56 rfl (lv_at hl 1 rfl) ?_
        refine va_get (D := D) (ci := 1) (v := .ref (pal ad c)) (C := RX1) (T := TX1) (N := 11) hx hb hts hinX1 hown hK hP 0 rfl rfl 2 (by decide) lk21 (fun _ h9 => h9) rfl dX1_swap_57 ?_
        refine lv_aload_n hx hb dX1_swap_60 rfl (lv_at hl 1 rfl) ?_
        refine va_get (D := D) (ci := 1) (v := .int ((nI h))) (C := RX1) (T := TX1) (N := 11) hx hb hts hinX1 hown hK hP 0 rfl rfl 3 (by decide) lk24 (fun _ h9 => h9) rfl dX1_swap_61 ?_
        refine lv_iload hx hb dX1_swap_64 (lv_at hl 0 rfl) ?_
        refine x_csi (va_runVN (As := [.int ((nI h)), .int (nI (pb))]) (rest := [.int (nI (r * c))]) ⟨hx, hb, hml, hown, hts⟩ (c_X0_colourOf l D cI cZ cG cJ A (WX ad cI cZ c g (nI h) code ans dbt opn ply hps wr) (pal ad c) c h pb (palX hpal hc) (hc) (hh) (by omega)) ⟨va_cnB (host := RX1) 2 hts gX1_swap_X0_colourOf_n73 rfl rfl rfl (hB.2.2.2.2.1 _ (by simp [Nws])) (hts _ (by decide +kernel)) (by decide +kernel) ⟨Nat.le_of_ble_eq_true rfl, Nat.le_of_ble_eq_true rfl⟩, hts _ (by decide +kernel), hts _ (by decide +kernel)⟩ (prePal hB hS hP hD (palX hpal hc)) rfl rfl hl.1 rfl (lv_room (Nat.le_of_ble_eq_true rfl)) dX1_swap_66 ⟨Nat.le_of_ble_eq_true rfl, Nat.le_of_ble_eq_true rfl⟩) ?_
        refine lv_iadd hx hb dX1_swap_69 ?_
        refine x_ti (nI_add _ _) ?_
        refine lv_istore_n (lv' := [(3, .int (nI ((r * c) + (col c h pb)))), (5, .int (nI (pb))), (0, .ref (ad 0)), (1, .int (nI (pa))), (2, .int (nI (pb))), (4, .int (nI (i)))]) hx hb dX1_swap_70 rfl hl (by decide) rfl (fun ls hl => ?_)
        refine lv_iinc (v := nI (i + 1)) (lv' := [(4, .int (nI (i + 1))), (3, .int (nI ((r * c) + (col c h pb)))), (5, .int (nI (pb))), (0, .ref (ad 0)), (1, .int (nI (pa))), (2, .int (nI (pb)))]) hx hb dX1_swap_71 hl (k := 5) rfl (nI_add _ _) (by decide) rfl (fun ls hl => ?_)
        refine lv_goto (tgt := 17) hx hb dX1_swap_74 (by decide) ?_
        exact ih17 (i := i + 1) (r := (r * c) + (col c h pb)) (ls := ls) (hl := lv_sub hl [3, 4, 5, 1, 0] rfl) (H := H) (locs := locs) (hP := hP) (hS := hS) (hinv := by
            refine ⟨by omega, ?_⟩
            simp only [swF]; rw [← h2]
            first | rw [if_pos c26] | rw [if_neg c26, if_pos c36] | rw [if_neg c26, if_neg c36]
          ) (hn9 := by
            omega
          )

set_option maxHeartbeats 4000000 in
set_option maxRecDepth 100000 in
theorem c_X1_guess (l : Launch) (hfl : l.flags = flags0) (D : va_G) (cI cZ cG cJ : ClassId) (A : Nat → Prop) (ad : Nat → Nat) (wr : va_W) (hpal : Pals cI cG ad wr) (c : Nat) (g : Nat) (hid : Int32) (code : Nat → Nat) (ans : Nat → Nat) (dbt : Nat → Bool) (opn : Nat → Bool) (ply : Nat → Bool) (hps : Nat → Nat) (v : Int32) (hI : XI c g hid code ans dbt opn) : vx_Met l yX1_guess wsX1_guess ({ frames := 7, cells := 3, slots := 18, locals := 110 }) (va_Pc [.ref (ad 0), .int (v)] (Iv D (TY cI cZ cG cJ) A (WX ad cI cZ c g hid code ans dbt opn ply hps wr))) (va_Qi (fun r (u : Nat × Nat × (Nat → Bool)) => r = nI (pins c u.1 u.2.1) ∧ u.1 < qq c ∧ v = nI u.1 ∧ u.2.1 < qq c ∧ hid = nI u.2.1 ∧ g < 12 ∧ ∀ k, k < 81 → u.2.2 k = opS c (g + 1) (va_up code g u.1) (va_up ans g (pins c u.1 u.2.1)) (va_up dbt g false) k) (fun u => Wd D A (WX ad cI cZ c (g + 1) hid (va_up code g u.1) (va_up ans g (pins c u.1 u.2.1)) (va_up dbt g false) u.2.2 ply hps wr)) A) (Xw D A (WX ad cI cZ c g hid code ans dbt opn ply hps wr) (fun E => (E = "java/lang/IndexOutOfBoundsException" ∧ hasC c v = false) ∨ (E = "java/lang/IllegalStateException" ∧ hasC c v = true ∧ (hid = -1 ∨ 12 ≤ g)))) 3 18 A := by
  refine vx_ofW (cc := cX1_guess) (maxL := 3) (ret := (some .int)) (by decide) rfl ?_
  intro p e s m args below meth c9 s₁ B hml hnt hv
  obtain ⟨rfl, hP, hD, hB⟩ := hv
  have hK := hB.1
  have hA := hB.2.1
  have hx := B.exec
  have hb := B.bytes
  have hr := B.returns
  have hts := atoms_spec (ws := wsX1_guess) B.pre
  have hown : s.vm.findClass RX1 = some m.cls := findClass_of_methodNamed B.named
  have hlocks := B.notSynchronized
  have hS : va_S A s.heap s.heap [] := va_S.rf
  have hflag : l.stackTraces = false := by rw [Launch.stackTraces, hfl]; decide
  have hinX1 : ∀ w ∈ wsX10, w ∈ wsX1_guess := by decide +kernel
  have lk21 := hts (.fieldLink RX1 21 "HiddenCandles" "palette" "LHiddenCandles$Palette;") (by decide +kernel)
  have lk24 := hts (.fieldLink RX1 24 "HiddenCandles" "hidden" "I") (by decide +kernel)
  have hl := lv_entry ([.ref (ad 0), .int (v)]) (n := 3) (Nat.le_of_ble_eq_true rfl)
  rw [lg_entry_eq]
  generalize (lg_sl ([.ref (ad 0), .int (v)]) ++ List.replicate (3 - (lg_sl ([.ref (ad 0), .int (v)])).length) Slot.unset).toArray = ls at hl ⊢
  have hl : lv_has ls 3 [(0, .ref (ad 0)), (1, .int (v))] := hl
  obtain ⟨H, eH⟩ : ∃ q, q = s.heap := ⟨_, rfl⟩
  obtain ⟨locs, eL⟩ : ∃ q : List Loc, q = [] := ⟨_, rfl⟩
  replace hP : va_P D vwCl (WX ad cI cZ c g hid code ans dbt opn ply hps wr) H := by rw [eH]; exact hP
  replace hS : va_S A s.heap H locs := by rw [eH, eL]; exact hS
  rw [show W p l e _ s m _ below meth c9 s.heap [] = W p l e _ s m _ below meth c9 H locs from by rw [eH, eL]]
  clear eH eL
  obtain ⟨hc, hg, hco, hhid, hop⟩ := id hI
  have hq := qq_in hc
  have hop2 := op_lt hop
  refine lv_aload_n hx hb dX1_guess_0 rfl (lv_at hl 0 rfl) ?_
  refine lv_iload_n hx hb dX1_guess_1 rfl (lv_at hl 1 rfl) ?_
  refine vx_callv (vx_runV (As := [.int (v)]) (rest := []) ⟨hx, hb, hml, hown, hts⟩ (c_X1_needCode l hfl D cI cZ cG cJ A ad wr hpal c g hid code ans dbt opn ply hps v (hc)) (cwV 1 hts gX1_guess_X1_needCode rfl rfl rfl (by decide +kernel) ⟨Nat.le_of_ble_eq_true rfl, Nat.le_of_ble_eq_true rfl⟩) (preV (ci := 1) (q0 := 0) hB hS hP hD rfl rfl) rfl rfl hl.1 rfl (lv_room (Nat.le_of_ble_eq_true rfl)) dX1_guess_2 ⟨Nat.le_of_ble_eq_true rfl, Nat.le_of_ble_eq_true rfl⟩) hS (fun q _ h => h) (fun q h => h) (fun q _ h => h) (fun E ce q9 u9 t9 H1 locs1 ht9 hvm9 hpx8 hBx hz9 hk9 hS hq9 hv9 hcl9 => ?_) (fun u_2 t9 H1 locs1 ht9 hvm9 hw_2 hBw hz9 hk9 hS => ?_)
  · obtain ⟨hpx9, hP1, hD1⟩ := hBx
    rw [ht9] at hP1
    exact vx_out (fun x hx9 => (hnt x hx9).elim) hlocks hq9 hv9 hcl9 (fun t ht hvm => ⟨(), trivial, ⟨(by
        exact Or.inl hpx9), by rw [ht]; exact hP1, hD1⟩, hS.F ht⟩) hS.2.2 (by omega) (by omega)
  obtain ⟨hP, hD⟩ := hBw
  rw [ht9] at hP
  generalize H1 = H at hP hS ⊢
  generalize locs1 = locs at hS ⊢
  replace hP : va_P D vwCl (WX ad cI cZ c g hid code ans dbt opn ply hps wr) H := hP
  replace hD : va_D A (WX ad cI cZ c g hid code ans dbt opn ply hps wr) := hD
  obtain ⟨k, hk, rfl⟩ := hasC_of hc hw_2
  refine lv_aload_n hx hb dX1_guess_5 rfl (lv_at hl 0 rfl) ?_
  refine vx_callv (vx_runV (As := []) (rest := []) ⟨hx, hb, hml, hown, hts⟩ (c_X1_needHidden l hfl D cI cZ cG cJ A ad wr hpal c g hid code ans dbt opn ply hps ) (cwV 0 hts gX1_guess_X1_needHidden rfl rfl rfl (by decide +kernel) ⟨Nat.le_of_ble_eq_true rfl, Nat.le_of_ble_eq_true rfl⟩) (preV (ci := 1) (q0 := 0) hB hS hP hD rfl rfl) rfl rfl hl.1 rfl (lv_room (Nat.le_of_ble_eq_true rfl)) dX1_guess_6 ⟨Nat.le_of_ble_eq_true rfl, Nat.le_of_ble_eq_true rfl⟩) hS (fun q _ h => h) (fun q h => h) (fun q _ h => h) (fun E ce q9 u9 t9 H1 locs1 ht9 hvm9 hpx8 hBx hz9 hk9 hS hq9 hv9 hcl9 => ?_) (fun u_6 t9 H1 locs1 ht9 hvm9 hw_6 hBw hz9 hk9 hS => ?_)
  · obtain ⟨hpx9, hP1, hD1⟩ := hBx
    rw [ht9] at hP1
    exact vx_out (fun x hx9 => (hnt x hx9).elim) hlocks hq9 hv9 hcl9 (fun t ht hvm => ⟨(), trivial, ⟨(by
        exact Or.inr ⟨hpx9.1, hasC_lt hc hk, Or.inl hpx9.2⟩), by rw [ht]; exact hP1, hD1⟩, hS.F ht⟩) hS.2.2 (by omega) (by omega)
  obtain ⟨hP, hD⟩ := hBw
  rw [ht9] at hP
  generalize H1 = H at hP hS ⊢
  generalize locs1 = locs at hS ⊢
  replace hP : va_P D vwCl (WX ad cI cZ c g hid code ans dbt opn ply hps wr) H := hP
  replace hD : va_D A (WX ad cI cZ c g hid code ans dbt opn ply hps wr) := hD
  obtain ⟨h, hh, rfl⟩ := hhid.resolve_left hw_6
  refine lv_aload_n hx hb dX1_guess_9 rfl (lv_at hl 0 rfl) ?_
  refine va_get (D := D) (ci := 1) (v := .ref (pal ad c)) (C := RX1) (T := TX1) (N := 11) hx hb hts hinX1 hown hK hP 0 rfl rfl 2 (by decide) lk21 (fun _ h9 => h9) rfl dX1_guess_10 ?_
  refine lv_iload_n hx hb dX1_guess_13 rfl (lv_at hl 1 rfl) ?_
  refine lv_aload_n hx hb dX1_guess_14 rfl (lv_at hl 0 rfl) ?_
  refine va_get (D := D) (ci := 1) (v := .int ((nI h))) (C := RX1) (T := TX1) (N := 11) hx hb hts hinX1 hown hK hP 0 rfl rfl 3 (by decide) lk24 (fun _ h9 => h9) rfl dX1_guess_15 ?_
  refine x_csi (va_runVN (As := [.int (nI (k)), .int (nI (h))]) (rest := []) ⟨hx, hb, hml, hown, hts⟩ (c_X0_answerTo l D cI cZ cG cJ A (WX ad cI cZ c g (nI h) code ans dbt opn ply hps wr) (pal ad c) c k h (palX hpal hc) (hc) (hk) (hh)) ⟨va_cnB (host := RX1) 2 hts gX1_guess_X0_answerTo_n77 rfl rfl rfl (hB.2.2.2.2.1 _ (by simp [Nws])) (hts _ (by decide +kernel)) (by decide +kernel) ⟨Nat.le_of_ble_eq_true rfl, Nat.le_of_ble_eq_true rfl⟩, hts _ (by decide +kernel), hts _ (by decide +kernel)⟩ (prePal hB hS hP hD (palX hpal hc)) rfl rfl hl.1 rfl (lv_room (Nat.le_of_ble_eq_true rfl)) dX1_guess_18 ⟨Nat.le_of_ble_eq_true rfl, Nat.le_of_ble_eq_true rfl⟩) ?_
  have hpi := pins_le hc (hk) (hh)
  refine lv_istore_n (lv' := [(2, .int (nI (pins c k h))), (0, .ref (ad 0)), (1, .int (nI (k)))]) hx hb dX1_guess_21 rfl hl (by decide) rfl (fun ls hl => ?_)
  refine lv_aload_n hx hb dX1_guess_22 rfl (lv_at hl 1 rfl) ?_
  refine lv_iload_n hx hb dX1_guess_23 rfl (lv_at hl 2 rfl) ?_
  refine lv_iload_n hx hb dX1_guess_24 rfl (lv_at hl 0 rfl) ?_
  refine vx_callv (vx_runV (As := [.int (nI (k)), .int (nI (pins c k h))]) (rest := []) ⟨hx, hb, hml, hown, hts⟩ (c_X1_append l hfl D cI cZ cG cJ A ad wr hpal c g (nI h) code ans dbt opn ply hps k (pins c k h) (hc) (hg) (hco) (hk) (by omega)) (cwV 2 hts gX1_guess_X1_append rfl rfl rfl (by decide +kernel) ⟨Nat.le_of_ble_eq_true rfl, Nat.le_of_ble_eq_true rfl⟩) (preV (ci := 1) (q0 := 0) hB hS hP hD rfl rfl) rfl rfl hl.1 rfl (lv_room (Nat.le_of_ble_eq_true rfl)) dX1_guess_25 ⟨Nat.le_of_ble_eq_true rfl, Nat.le_of_ble_eq_true rfl⟩) hS (fun q _ h => h) (fun q h => h) (fun q _ h => h) (fun E ce q9 u9 t9 H1 locs1 ht9 hvm9 hpx8 hBx hz9 hk9 hS hq9 hv9 hcl9 => ?_) (fun u_25 t9 H1 locs1 ht9 hvm9 hw_25 hBw hz9 hk9 hS => ?_)
  · obtain ⟨hpx9, hP1, hD1⟩ := hBx
    rw [ht9] at hP1
    exact vx_out (fun x hx9 => (hnt x hx9).elim) hlocks hq9 hv9 hcl9 (fun t ht hvm => ⟨(), trivial, ⟨(by
        exact Or.inr ⟨hpx9.1, hasC_lt hc hk, Or.inr hpx9.2⟩), by rw [ht]; exact hP1, hD1⟩, hS.F ht⟩) hS.2.2 (by omega) (by omega)
  obtain ⟨hP, hD⟩ := hBw
  rw [ht9] at hP
  generalize H1 = H at hP hS ⊢
  generalize locs1 = locs at hS ⊢
  replace hP : va_P D vwCl (WX ad cI cZ c (g + 1) (nI h) (va_up code g k) (va_up ans g (pins c k h)) (va_up dbt g false) u_25 ply hps wr) H := hP
  replace hD : va_D A (WX ad cI cZ c (g + 1) (nI h) (va_up code g k) (va_up ans g (pins c k h)) (va_up dbt g false) u_25 ply hps wr) := hD
  refine lv_iload_n hx hb dX1_guess_28 rfl (lv_at hl 0 rfl) ?_
  refine W.widen (k := 3) (n := 18) (Nat.le_of_ble_eq_true rfl) (Nat.le_of_ble_eq_true rfl) ?_
  exact vx_ret (W.iret (v := nI (pins c k h)) hx hb hr (fun t ht hW => ⟨⟨_, (k, h, u_25), rfl, (by
      exact ⟨rfl, hk, rfl, hh, rfl, hw_25.1, hw_25.2⟩), ⟨by rw [ht]; exact hP, hD⟩⟩, hS.F ht⟩) hS.2.2 dX1_guess_29)

set_option maxHeartbeats 4000000 in
set_option maxRecDepth 100000 in
theorem c_X1_tell (l : Launch) (hfl : l.flags = flags0) (D : va_G) (cI cZ cG cJ : ClassId) (A : Nat → Prop) (ad : Nat → Nat) (wr : va_W) (hpal : Pals cI cG ad wr) (c : Nat) (g : Nat) (hid : Int32) (code : Nat → Nat) (ans : Nat → Nat) (dbt : Nat → Bool) (opn : Nat → Bool) (ply : Nat → Bool) (hps : Nat → Nat) (v : Int32) (b : Int32) (wt : Int32) (hI : XI c g hid code ans dbt opn) : vx_Met l yX1_tell wsX1_tell ({ frames := 7, cells := 3, slots := 18, locals := 110 }) (va_Pc [.ref (ad 0), .int (v), .int (b), .int (wt)] (Iv D (TY cI cZ cG cJ) A (WX ad cI cZ c g hid code ans dbt opn ply hps wr))) (va_Qi (fun r (u : Nat × Nat × Nat × (Nat → Bool)) => r = nI (cN (opS c (g + 1) (va_up code g u.1) (va_up ans g (5 * u.2.1 + u.2.2.1)) (va_up dbt g false)) 81) ∧ u.1 < qq c ∧ v = nI u.1 ∧ u.2.1 + u.2.2.1 ≤ 4 ∧ b = nI u.2.1 ∧ wt = nI u.2.2.1 ∧ g < 12 ∧ ∀ k, k < 81 → u.2.2.2 k = opS c (g + 1) (va_up code g u.1) (va_up ans g (5 * u.2.1 + u.2.2.1)) (va_up dbt g false) k) (fun u => Wd D A (WX ad cI cZ c (g + 1) hid (va_up code g u.1) (va_up ans g (5 * u.2.1 + u.2.2.1)) (va_up dbt g false) u.2.2.2 ply hps wr)) A) (Xw D A (WX ad cI cZ c g hid code ans dbt opn ply hps wr) (fun E => (E = "java/lang/IndexOutOfBoundsException" ∧ hasC c v = false) ∨ (E = "java/lang/IllegalArgumentException" ∧ hasC c v = true ∧ pinC b wt = false) ∨ (E = "java/lang/IllegalStateException" ∧ hasC c v = true ∧ pinC b wt = true ∧ 12 ≤ g))) 3 18 A := by
  refine vx_ofW (cc := cX1_tell) (maxL := 4) (ret := (some .int)) (by decide) rfl ?_
  intro p e s m args below meth c9 s₁ B hml hnt hv
  obtain ⟨rfl, hP, hD, hB⟩ := hv
  have hK := hB.1
  have hA := hB.2.1
  have hx := B.exec
  have hb := B.bytes
  have hr := B.returns
  have hts := atoms_spec (ws := wsX1_tell) B.pre
  have hown : s.vm.findClass RX1 = some m.cls := findClass_of_methodNamed B.named
  have hlocks := B.notSynchronized
  have hS : va_S A s.heap s.heap [] := va_S.rf
  have hflag : l.stackTraces = false := by rw [Launch.stackTraces, hfl]; decide
  have hinX1 : ∀ w ∈ wsX10, w ∈ wsX1_tell := by decide +kernel
  have lk42 := hts (.fieldLink RX1 42 "HiddenCandles" "open" "[Z") (by decide +kernel)
  have hl := lv_entry ([.ref (ad 0), .int (v), .int (b), .int (wt)]) (n := 4) (Nat.le_of_ble_eq_true rfl)
  rw [lg_entry_eq]
  generalize (lg_sl ([.ref (ad 0), .int (v), .int (b), .int (wt)]) ++ List.replicate (4 - (lg_sl ([.ref (ad 0), .int (v), .int (b), .int (wt)])).length) Slot.unset).toArray = ls at hl ⊢
  have hl : lv_has ls 4 [(0, .ref (ad 0)), (1, .int (v)), (2, .int (b)), (3, .int (wt))] := hl
  obtain ⟨H, eH⟩ : ∃ q, q = s.heap := ⟨_, rfl⟩
  obtain ⟨locs, eL⟩ : ∃ q : List Loc, q = [] := ⟨_, rfl⟩
  replace hP : va_P D vwCl (WX ad cI cZ c g hid code ans dbt opn ply hps wr) H := by rw [eH]; exact hP
  replace hS : va_S A s.heap H locs := by rw [eH, eL]; exact hS
  rw [show W p l e _ s m _ below meth c9 s.heap [] = W p l e _ s m _ below meth c9 H locs from by rw [eH, eL]]
  clear eH eL
  obtain ⟨hc, hg, hco, hhid, hop⟩ := id hI
  have hq := qq_in hc
  have hop2 := op_lt hop
  refine lv_aload_n hx hb dX1_tell_0 rfl (lv_at hl 0 rfl) ?_
  refine lv_iload_n hx hb dX1_tell_1 rfl (lv_at hl 1 rfl) ?_
  refine vx_callv (vx_runV (As := [.int (v)]) (rest := []) ⟨hx, hb, hml, hown, hts⟩ (c_X1_needCode l hfl D cI cZ cG cJ A ad wr hpal c g hid code ans dbt opn ply hps v (hc)) (cwV 1 hts gX1_tell_X1_needCode rfl rfl rfl (by decide +kernel) ⟨Nat.le_of_ble_eq_true rfl, Nat.le_of_ble_eq_true rfl⟩) (preV (ci := 1) (q0 := 0) hB hS hP hD rfl rfl) rfl rfl hl.1 rfl (lv_room (Nat.le_of_ble_eq_true rfl)) dX1_tell_2 ⟨Nat.le_of_ble_eq_true rfl, Nat.le_of_ble_eq_true rfl⟩) hS (fun q _ h => h) (fun q h => h) (fun q _ h => h) (fun E ce q9 u9 t9 H1 locs1 ht9 hvm9 hpx8 hBx hz9 hk9 hS hq9 hv9 hcl9 => ?_) (fun u_2 t9 H1 locs1 ht9 hvm9 hw_2 hBw hz9 hk9 hS => ?_)
  · obtain ⟨hpx9, hP1, hD1⟩ := hBx
    rw [ht9] at hP1
    exact vx_out (fun x hx9 => (hnt x hx9).elim) hlocks hq9 hv9 hcl9 (fun t ht hvm => ⟨(), trivial, ⟨(by
        exact Or.inl hpx9), by rw [ht]; exact hP1, hD1⟩, hS.F ht⟩) hS.2.2 (by omega) (by omega)
  obtain ⟨hP, hD⟩ := hBw
  rw [ht9] at hP
  generalize H1 = H at hP hS ⊢
  generalize locs1 = locs at hS ⊢
  replace hP : va_P D vwCl (WX ad cI cZ c g hid code ans dbt opn ply hps wr) H := hP
  replace hD : va_D A (WX ad cI cZ c g hid code ans dbt opn ply hps wr) := hD
  obtain ⟨k, hk, rfl⟩ := hasC_of hc hw_2
  refine lv_iload_n hx hb dX1_tell_5 rfl (lv_at hl 2 rfl) ?_
  refine lv_iload_n hx hb dX1_tell_6 rfl (lv_at hl 3 rfl) ?_
  refine vx_callv (vx_runS (As := [.int (b), .int (wt)]) (rest := []) ⟨hx, hb, hml, hown, hts⟩ (c_X1_needPins l hfl D cI cZ cG cJ A (WX ad cI cZ c g hid code ans dbt opn ply hps wr) b wt ) (va_cwS 2 hts gX1_tell_X1_needPins rfl rfl rfl (by decide +kernel) ⟨Nat.le_of_ble_eq_true rfl, Nat.le_of_ble_eq_true rfl⟩) (preS hB hS hP hD) rfl rfl hl.1 rfl (lv_room (Nat.le_of_ble_eq_true rfl)) dX1_tell_7 ⟨Nat.le_of_ble_eq_true rfl, Nat.le_of_ble_eq_true rfl⟩) hS (fun q _ h => h) (fun q h => h) (fun q _ h => h) (fun E ce q9 u9 t9 H1 locs1 ht9 hvm9 hpx8 hBx hz9 hk9 hS hq9 hv9 hcl9 => ?_) (fun u_7 t9 H1 locs1 ht9 hvm9 hw_7 hBw hz9 hk9 hS => ?_)
  · obtain ⟨hpx9, hP1, hD1⟩ := hBx
    rw [ht9] at hP1
    exact vx_out (fun x hx9 => (hnt x hx9).elim) hlocks hq9 hv9 hcl9 (fun t ht hvm => ⟨(), trivial, ⟨(by
        exact Or.inr (Or.inl ⟨hpx9.1, hasC_lt hc hk, hpx9.2⟩)), by rw [ht]; exact hP1, hD1⟩, hS.F ht⟩) hS.2.2 (by omega) (by omega)
  obtain ⟨hP, hD⟩ := hBw
  rw [ht9] at hP
  generalize H1 = H at hP hS ⊢
  generalize locs1 = locs at hS ⊢
  replace hP : va_P D vwCl (WX ad cI cZ c g hid code ans dbt opn ply hps wr) H := hP
  replace hD : va_D A (WX ad cI cZ c g hid code ans dbt opn ply hps wr) := hD
  obtain ⟨nb, nw, hnb, rfl, rfl⟩ := pinC_of hw_7
  refine lv_aload_n hx hb dX1_tell_10 rfl (lv_at hl 0 rfl) ?_
  refine lv_iload_n hx hb dX1_tell_11 rfl (lv_at hl 1 rfl) ?_
  refine lv_iconst (v := nI (5)) hx hb dX1_tell_12 (by decide) ?_
  refine lv_iload_n hx hb dX1_tell_13 rfl (lv_at hl 2 rfl) ?_
  refine lv_imul hx hb dX1_tell_14 ?_
  refine x_ti (pk_mul _ _) ?_
  refine lv_iload_n hx hb dX1_tell_15 rfl (lv_at hl 3 rfl) ?_
  refine lv_iadd hx hb dX1_tell_16 ?_
  refine x_ti (nI_add _ _) ?_
  refine vx_callv (vx_runV (As := [.int (nI (k)), .int (nI ((5 * nb) + nw))]) (rest := []) ⟨hx, hb, hml, hown, hts⟩ (c_X1_append l hfl D cI cZ cG cJ A ad wr hpal c g hid code ans dbt opn ply hps k ((5 * nb) + nw) (hc) (hg) (hco) (hk) (by omega)) (cwV 2 hts gX1_tell_X1_append rfl rfl rfl (by decide +kernel) ⟨Nat.le_of_ble_eq_true rfl, Nat.le_of_ble_eq_true rfl⟩) (preV (ci := 1) (q0 := 0) hB hS hP hD rfl rfl) rfl rfl hl.1 rfl (lv_room (Nat.le_of_ble_eq_true rfl)) dX1_tell_17 ⟨Nat.le_of_ble_eq_true rfl, Nat.le_of_ble_eq_true rfl⟩) hS (fun q _ h => h) (fun q h => h) (fun q _ h => h) (fun E ce q9 u9 t9 H1 locs1 ht9 hvm9 hpx8 hBx hz9 hk9 hS hq9 hv9 hcl9 => ?_) (fun u_17 t9 H1 locs1 ht9 hvm9 hw_17 hBw hz9 hk9 hS => ?_)
  · obtain ⟨hpx9, hP1, hD1⟩ := hBx
    rw [ht9] at hP1
    exact vx_out (fun x hx9 => (hnt x hx9).elim) hlocks hq9 hv9 hcl9 (fun t ht hvm => ⟨(), trivial, ⟨(by
        exact Or.inr (Or.inr ⟨hpx9.1, hasC_lt hc hk, hw_7, hpx9.2⟩)), by rw [ht]; exact hP1, hD1⟩, hS.F ht⟩) hS.2.2 (by omega) (by omega)
  obtain ⟨hP, hD⟩ := hBw
  rw [ht9] at hP
  generalize H1 = H at hP hS ⊢
  generalize locs1 = locs at hS ⊢
  replace hP : va_P D vwCl (WX ad cI cZ c (g + 1) hid (va_up code g k) (va_up ans g ((5 * nb) + nw)) (va_up dbt g false) u_17 ply hps wr) H := hP
  replace hD : va_D A (WX ad cI cZ c (g + 1) hid (va_up code g k) (va_up ans g ((5 * nb) + nw)) (va_up dbt g false) u_17 ply hps wr) := hD
  refine lv_aload_n hx hb dX1_tell_20 rfl (lv_at hl 0 rfl) ?_
  refine va_get (D := D) (ci := 1) (v := .ref (ad 4)) (C := RX1) (T := TX1) (N := 11) hx hb hts hinX1 hown hK hP 0 rfl rfl 8 (by decide) lk42 (fun _ h9 => h9) rfl dX1_tell_21 ?_
  refine x_csi (va_runS (As := [.ref (ad 4)]) (rest := []) ⟨hx, hb, hml, hown, hts⟩ (c_X1_size l D cI cZ cG cJ A (WX ad cI cZ c (g + 1) hid (va_up code g k) (va_up ans g ((5 * nb) + nw)) (va_up dbt g false) u_17 ply hps wr) (ad 4) 4 u_17 (rfl)) (va_cwS 1 hts gX1_tell_X1_size rfl rfl rfl (by decide +kernel) ⟨Nat.le_of_ble_eq_true rfl, Nat.le_of_ble_eq_true rfl⟩) (preS hB hS hP hD) rfl rfl hl.1 rfl (lv_room (Nat.le_of_ble_eq_true rfl)) dX1_tell_24 ⟨Nat.le_of_ble_eq_true rfl, Nat.le_of_ble_eq_true rfl⟩) ?_
  refine W.widen (k := 3) (n := 18) (Nat.le_of_ble_eq_true rfl) (Nat.le_of_ble_eq_true rfl) ?_
  exact vx_ret (W.iret (v := nI (cN u_17 81)) hx hb hr (fun t ht hW => ⟨⟨_, (k, nb, nw, u_17), rfl, (by
      exact ⟨by rw [cN_congr 81 hw_17.2], hk, rfl, hnb, rfl, rfl, hw_17.1, hw_17.2⟩), ⟨by rw [ht]; exact hP, hD⟩⟩, hS.F ht⟩) hS.2.2 dX1_tell_27)

set_option maxHeartbeats 4000000 in
set_option maxRecDepth 100000 in
theorem c_X1_doubt (l : Launch) (hfl : l.flags = flags0) (D : va_G) (cI cZ cG cJ : ClassId) (A : Nat → Prop) (ad : Nat → Nat) (wr : va_W) (hpal : Pals cI cG ad wr) (c : Nat) (g : Nat) (hid : Int32) (code : Nat → Nat) (ans : Nat → Nat) (dbt : Nat → Bool) (opn : Nat → Bool) (ply : Nat → Bool) (hps : Nat → Nat) (v : Int32) (is : Bool) (hI : XI c g hid code ans dbt opn) : vx_Met l yX1_doubt wsX1_doubt ({ frames := 6, cells := 1, slots := 6, locals := 87 }) (va_Pc [.ref (ad 0), .int (v), .int (bI (is))] (Iv D (TY cI cZ cG cJ) A (WX ad cI cZ c g hid code ans dbt opn ply hps wr))) (va_Qi (fun r (u : Nat × (Nat → Bool)) => r = bI (dbt u.1) ∧ u.1 < g ∧ v = nI u.1 ∧ ∀ k, k < 81 → u.2 k = opS c g code ans (va_up dbt u.1 is) k) (fun u => Wd D A (WX ad cI cZ c g hid code ans (va_up dbt u.1 is) u.2 ply hps wr)) A) (Xw D A (WX ad cI cZ c g hid code ans dbt opn ply hps wr) (fun E => E = "java/lang/IndexOutOfBoundsException" ∧ gsC g v = false)) 1 6 A := by
  refine vx_ofW (cc := cX1_doubt) (maxL := 4) (ret := (some .boolean)) (by decide) rfl ?_
  intro p e s m args below meth c9 s₁ B hml hnt hv
  obtain ⟨rfl, hP, hD, hB⟩ := hv
  have hK := hB.1
  have hA := hB.2.1
  have hx := B.exec
  have hb := B.bytes
  have hr := B.returns
  have hts := atoms_spec (ws := wsX1_doubt) B.pre
  have hown : s.vm.findClass RX1 = some m.cls := findClass_of_methodNamed B.named
  have hlocks := B.notSynchronized
  have hS : va_S A s.heap s.heap [] := va_S.rf
  have hflag : l.stackTraces = false := by rw [Launch.stackTraces, hfl]; decide
  have hinX1 : ∀ w ∈ wsX10, w ∈ wsX1_doubt := by decide +kernel
  have lk38 := hts (.fieldLink RX1 38 "HiddenCandles" "doubted" "[Z") (by decide +kernel)
  have hl := lv_entry ([.ref (ad 0), .int (v), .int (bI (is))]) (n := 4) (Nat.le_of_ble_eq_true rfl)
  rw [lg_entry_eq]
  generalize (lg_sl ([.ref (ad 0), .int (v), .int (bI (is))]) ++ List.replicate (4 - (lg_sl ([.ref (ad 0), .int (v), .int (bI (is))])).length) Slot.unset).toArray = ls at hl ⊢
  have hl : lv_has ls 4 [(0, .ref (ad 0)), (1, .int (v)), (2, .int (bI (is)))] := hl
  obtain ⟨H, eH⟩ : ∃ q, q = s.heap := ⟨_, rfl⟩
  obtain ⟨locs, eL⟩ : ∃ q : List Loc, q = [] := ⟨_, rfl⟩
  replace hP : va_P D vwCl (WX ad cI cZ c g hid code ans dbt opn ply hps wr) H := by rw [eH]; exact hP
  replace hS : va_S A s.heap H locs := by rw [eH, eL]; exact hS
  rw [show W p l e _ s m _ below meth c9 s.heap [] = W p l e _ s m _ below meth c9 H locs from by rw [eH, eL]]
  clear eH eL
  obtain ⟨hc, hg, hco, hhid, hop⟩ := id hI
  have hq := qq_in hc
  have hop2 := op_lt hop
  refine lv_aload_n hx hb dX1_doubt_0 rfl (lv_at hl 0 rfl) ?_
  refine lv_iload_n hx hb dX1_doubt_1 rfl (lv_at hl 1 rfl) ?_
  refine x_csi (va_runV (As := [.int (v)]) (rest := []) ⟨hx, hb, hml, hown, hts⟩ (c_X1_hasGuess l D cI cZ cG cJ A ad wr hpal c g hid code ans dbt opn ply hps v (hg)) (cwV 1 hts gX1_doubt_X1_hasGuess rfl rfl rfl (by decide +kernel) ⟨Nat.le_of_ble_eq_true rfl, Nat.le_of_ble_eq_true rfl⟩) (preV (ci := 1) (q0 := 0) hB hS hP hD rfl rfl) rfl rfl hl.1 rfl (lv_room (Nat.le_of_ble_eq_true rfl)) dX1_doubt_2 ⟨Nat.le_of_ble_eq_true rfl, Nat.le_of_ble_eq_true rfl⟩) ?_
  refine x_zne (tgt := 18) hx hb dX1_doubt_5 (by decide) (fun c5 => ?_) (fun c5 => ?_)
  · skip
    obtain ⟨i, hi, rfl⟩ := gsC_of hg c5
    refine lv_aload_n hx hb dX1_doubt_18 rfl (lv_at hl 0 rfl) ?_
    refine va_get (D := D) (ci := 1) (v := .ref (ad 3)) (C := RX1) (T := TX1) (N := 11) hx hb hts hinX1 hown hK hP 0 rfl rfl 7 (by decide) lk38 (fun _ h9 => h9) rfl dX1_doubt_19 ?_
    refine lv_iload_n hx hb dX1_doubt_22 rfl (lv_at hl 1 rfl) ?_
    refine x_zald hx hb hK hP 3 1 rfl rfl (i := i) (by omega) (by omega) dX1_doubt_23 ?_
    refine lv_istore_n (lv' := [(3, .int (bI (dbt i))), (0, .ref (ad 0)), (1, .int (nI (i))), (2, .int (bI (is)))]) hx hb dX1_doubt_24 rfl hl (by decide) rfl (fun ls hl => ?_)
    refine lv_aload_n hx hb dX1_doubt_25 rfl (lv_at hl 1 rfl) ?_
    refine va_get (D := D) (ci := 1) (v := .ref (ad 3)) (C := RX1) (T := TX1) (N := 11) hx hb hts hinX1 hown hK hP 0 rfl rfl 7 (by decide) lk38 (fun _ h9 => h9) rfl dX1_doubt_26 ?_
    refine lv_iload_n hx hb dX1_doubt_29 rfl (lv_at hl 2 rfl) ?_
    refine lv_iload_n hx hb dX1_doubt_30 rfl (lv_at hl 3 rfl) ?_
    refine x_zast hx hb hK hP hD hS 3 1 rfl rfl (i := i) (v := is) (by omega) (by omega) dX1_doubt_31 (fun H locs hP hD hS => ?_)
    replace hP : va_P D vwCl (WX ad cI cZ c g hid code ans (va_up dbt i is) opn ply hps wr) H := hP
    replace hD : va_D A (WX ad cI cZ c g hid code ans (va_up dbt i is) opn ply hps wr) := hD
    refine lv_aload_n hx hb dX1_doubt_32 rfl (lv_at hl 1 rfl) ?_
    refine va_callv (va_runV (As := []) (rest := []) ⟨hx, hb, hml, hown, hts⟩ (c_X1_sieve l D cI cZ cG cJ A ad wr hpal c g hid code ans (va_up dbt i is) opn ply hps (hc) (hg) (hco)) (cwV 0 hts gX1_doubt_X1_sieve rfl rfl rfl (by decide +kernel) ⟨Nat.le_of_ble_eq_true rfl, Nat.le_of_ble_eq_true rfl⟩) (preV (ci := 1) (q0 := 0) hB hS hP hD rfl rfl) rfl rfl hl.1 rfl (lv_room (Nat.le_of_ble_eq_true rfl)) dX1_doubt_33 ⟨Nat.le_of_ble_eq_true rfl, Nat.le_of_ble_eq_true rfl⟩) hS (fun q _ h => h) (fun q h => h) (fun u_33 t9 H1 locs1 ht9 hvm9 hw_33 hBw hz9 hk9 hS => ?_)
    obtain ⟨hP, hD⟩ := hBw
    rw [ht9] at hP
    generalize H1 = H at hP hS ⊢
    generalize locs1 = locs at hS ⊢
    replace hP : va_P D vwCl (WX ad cI cZ c g hid code ans (va_up dbt i is) u_33 ply hps wr) H := hP
    replace hD : va_D A (WX ad cI cZ c g hid code ans (va_up dbt i is) u_33 ply hps wr) := hD
    refine lv_iload_n hx hb dX1_doubt_36 rfl (lv_at hl 0 rfl) ?_
    refine W.widen (k := 1) (n := 6) (Nat.le_of_ble_eq_true rfl) (Nat.le_of_ble_eq_true rfl) ?_
    exact vx_ret (W.zret (v := bI (dbt i)) hx hb hr (bI_narrow _) (fun t ht hW => ⟨⟨_, (i, u_33), rfl, (by
        exact ⟨rfl, hi, rfl, hw_33⟩), ⟨by rw [ht]; exact hP, hD⟩⟩, hS.F ht⟩) hS.2.2 dX1_doubt_37)
  · skip
    obtain ⟨sa9, hsa9⟩ := hB.2.2.2.2.2 (97, "no such guess") (by decide)
    have hat9 : ∀ w ∈ (vx_atS RX1 99 "java/lang/IndexOutOfBoundsException" ["java/lang/RuntimeException", "java/lang/Exception"]), w.before _ s = true := vx_hat (B := [.castable "java/lang/IndexOutOfBoundsException" "java/lang/IndexOutOfBoundsException", .declares (Bundle.initS "java/lang/RuntimeException"), .declares (Bundle.initS "java/lang/Exception"), .declares (Bundle.initS Bundle.tN)]) (fun w hw => hts w (by first | exact List.mem_cons_of_mem _ (List.mem_append_right _ hw) | exact List.mem_cons_of_mem _ (List.mem_append_left _ (List.mem_append_right _ hw)) | exact List.mem_cons_of_mem _ (List.mem_append_left _ (List.mem_append_left _ (List.mem_append_right _ hw))))) (by decide +kernel) (vx_c (va_Nw.use rfl (hB.2.2.2.2.1 _ (by simp [Nws]))) (vx_c (va_Nw.use rfl (hB.2.2.2.2.1 _ (by simp [Nws]))) (vx_c (va_Nw.use rfl (hB.2.2.2.2.1 _ (by simp [Nws]))) (vx_c (va_Nw.use rfl (hB.2.2.2.2.1 _ (by simp [Nws]))) vx_n))))
    exact vx_throwS (A := A) (names := ["java/lang/RuntimeException", "java/lang/Exception"]) (cls := "java/lang/IndexOutOfBoundsException") hx hb hflag hown (by decide +kernel) (by decide +kernel) (hts _ (by decide +kernel)) (hts _ (by decide +kernel)) hsa9 hat9 (by decide +kernel) hB.2.2.1 hB.2.2.2.1 hS (hl.1.trans hml.symm) dX1_doubt_8 dX1_doubt_11 dX1_doubt_12 dX1_doubt_14 dX1_doubt_17 (fun x hx9 => (hnt x hx9).elim) (Nat.le_of_ble_eq_true rfl) (Nat.le_of_ble_eq_true rfl) (Nat.le_of_ble_eq_true rfl) (Nat.le_of_ble_eq_true rfl) hlocks (fun t hvm hsz hk => ⟨(), trivial, ⟨(by
        exact ⟨rfl, c5⟩), ⟨va_P.kept hP (fun k q hk9 => hk _ (hP k q hk9).lt), hD⟩⟩, ⟨Nat.le_trans hS.1 hsz, fun q h1 h2 => (hk q (Nat.lt_of_lt_of_le h1 hS.1)).trans (hS.2.1 q h1 h2)⟩⟩) hS.2.2 (Nat.le_of_ble_eq_true rfl) (Nat.le_of_ble_eq_true rfl)

set_option maxHeartbeats 4000000 in
set_option maxRecDepth 100000 in
theorem c_X1_forget (l : Launch) (hfl : l.flags = flags0) (D : va_G) (cI cZ cG cJ : ClassId) (A : Nat → Prop) (ad : Nat → Nat) (wr : va_W) (hpal : Pals cI cG ad wr) (c : Nat) (g : Nat) (hid : Int32) (code : Nat → Nat) (ans : Nat → Nat) (dbt : Nat → Bool) (opn : Nat → Bool) (ply : Nat → Bool) (hps : Nat → Nat) (hI : XI c g hid code ans dbt opn) : vx_Met l yX1_forget wsX1_forget ({ frames := 6, cells := 1, slots := 6, locals := 87 }) (va_Pc [.ref (ad 0)] (Iv D (TY cI cZ cG cJ) A (WX ad cI cZ c g hid code ans dbt opn ply hps wr))) (va_Qi (fun r (u : Nat → Bool) => r = nI (code (g - 1)) ∧ 0 < g ∧ ∀ k, k < 81 → u k = opS c (g - 1) code ans dbt k) (fun u => Wd D A (WX ad cI cZ c (g - 1) hid code ans dbt u ply hps wr)) A) (Xw D A (WX ad cI cZ c g hid code ans dbt opn ply hps wr) (fun E => E = "java/lang/IllegalStateException" ∧ g = 0)) 1 6 A := by
  refine vx_ofW (cc := cX1_forget) (maxL := 2) (ret := (some .int)) (by decide) rfl ?_
  intro p e s m args below meth c9 s₁ B hml hnt hv
  obtain ⟨rfl, hP, hD, hB⟩ := hv
  have hK := hB.1
  have hA := hB.2.1
  have hx := B.exec
  have hb := B.bytes
  have hr := B.returns
  have hts := atoms_spec (ws := wsX1_forget) B.pre
  have hown : s.vm.findClass RX1 = some m.cls := findClass_of_methodNamed B.named
  have hlocks := B.notSynchronized
  have hS : va_S A s.heap s.heap [] := va_S.rf
  have hflag : l.stackTraces = false := by rw [Launch.stackTraces, hfl]; decide
  have hinX1 : ∀ w ∈ wsX10, w ∈ wsX1_forget := by decide +kernel
  have lk28 := hts (.fieldLink RX1 28 "HiddenCandles" "guesses" "I") (by decide +kernel)
  have lk31 := hts (.fieldLink RX1 31 "HiddenCandles" "guessed" "[I") (by decide +kernel)
  have hl := lv_entry ([.ref (ad 0)]) (n := 2) (Nat.le_of_ble_eq_true rfl)
  rw [lg_entry_eq]
  generalize (lg_sl ([.ref (ad 0)]) ++ List.replicate (2 - (lg_sl ([.ref (ad 0)])).length) Slot.unset).toArray = ls at hl ⊢
  have hl : lv_has ls 2 [(0, .ref (ad 0))] := hl
  obtain ⟨H, eH⟩ : ∃ q, q = s.heap := ⟨_, rfl⟩
  obtain ⟨locs, eL⟩ : ∃ q : List Loc, q = [] := ⟨_, rfl⟩
  replace hP : va_P D vwCl (WX ad cI cZ c g hid code ans dbt opn ply hps wr) H := by rw [eH]; exact hP
  replace hS : va_S A s.heap H locs := by rw [eH, eL]; exact hS
  rw [show W p l e _ s m _ below meth c9 s.heap [] = W p l e _ s m _ below meth c9 H locs from by rw [eH, eL]]
  clear eH eL
  obtain ⟨hc, hg, hco, hhid, hop⟩ := id hI
  have hq := qq_in hc
  have hop2 := op_lt hop
  refine lv_aload_n hx hb dX1_forget_0 rfl (lv_at hl 0 rfl) ?_
  refine va_get (D := D) (ci := 1) (v := .int (nI (g))) (C := RX1) (T := TX1) (N := 11) hx hb hts hinX1 hown hK hP 0 rfl rfl 4 (by decide) lk28 (fun _ h9 => h9) rfl dX1_forget_1 ?_
  refine lv_iconst (v := 1) hx hb dX1_forget_4 (by decide) ?_
  refine lv_isub hx hb dX1_forget_5  ?_
  refine x_ti (y := nI g - 1) (rfl) ?_
  refine lv_istore_n (lv' := [(1, .int (nI g - 1)), (0, .ref (ad 0))]) hx hb dX1_forget_6 rfl hl (by decide) rfl (fun ls hl => ?_)
  refine lv_aload_n hx hb dX1_forget_7 rfl (lv_at hl 1 rfl) ?_
  refine lv_iload_n hx hb dX1_forget_8 rfl (lv_at hl 0 rfl) ?_
  refine x_csi (va_runV (As := [.int (nI g - 1)]) (rest := []) ⟨hx, hb, hml, hown, hts⟩ (c_X1_hasGuess l D cI cZ cG cJ A ad wr hpal c g hid code ans dbt opn ply hps (nI g - 1) (hg)) (cwV 1 hts gX1_forget_X1_hasGuess rfl rfl rfl (by decide +kernel) ⟨Nat.le_of_ble_eq_true rfl, Nat.le_of_ble_eq_true rfl⟩) (preV (ci := 1) (q0 := 0) hB hS hP hD rfl rfl) rfl rfl hl.1 rfl (lv_room (Nat.le_of_ble_eq_true rfl)) dX1_forget_9 ⟨Nat.le_of_ble_eq_true rfl, Nat.le_of_ble_eq_true rfl⟩) ?_
  refine x_ti (y := bI (decide (0 < g))) (by rw [gs_last hg]) ?_
  refine x_zne (tgt := 25) hx hb dX1_forget_12 (by decide) (fun c12 => ?_) (fun c12 => ?_)
  · skip
    have h0 : 0 < g := of_decide_eq_true c12
    rw [pk_sub1 h0] at hl
    refine lv_aload_n hx hb dX1_forget_25 rfl (lv_at hl 1 rfl) ?_
    refine lv_iload_n hx hb dX1_forget_26 rfl (lv_at hl 0 rfl) ?_
    refine va_put (D := D) (ci := 1) (v := .int (nI (g - 1))) (ty := .int) (C := RX1) (T := TX1) (N := 11) hx hb hts hinX1 tyX1 tyX1_ok nmX1 hown hK hP hD hS 0 rfl rfl 4 (by decide) lk28 (fun _ h9 => h9) rfl (by decide +kernel) rfl rfl (Nat.le_of_ble_eq_true rfl) dX1_forget_27 (fun H locs hP hD hS => ?_)
    replace hP : va_P D vwCl (WX ad cI cZ c (g - 1) hid code ans dbt opn ply hps wr) H := hP
    replace hD : va_D A (WX ad cI cZ c (g - 1) hid code ans dbt opn ply hps wr) := hD
    refine lv_aload_n hx hb dX1_forget_30 rfl (lv_at hl 1 rfl) ?_
    refine va_callv (va_runV (As := []) (rest := []) ⟨hx, hb, hml, hown, hts⟩ (c_X1_sieve l D cI cZ cG cJ A ad wr hpal c (g - 1) hid code ans dbt opn ply hps (hc) (by omega) (code_dn hco)) (cwV 0 hts gX1_forget_X1_sieve rfl rfl rfl (by decide +kernel) ⟨Nat.le_of_ble_eq_true rfl, Nat.le_of_ble_eq_true rfl⟩) (preV (ci := 1) (q0 := 0) hB hS hP hD rfl rfl) rfl rfl hl.1 rfl (lv_room (Nat.le_of_ble_eq_true rfl)) dX1_forget_31 ⟨Nat.le_of_ble_eq_true rfl, Nat.le_of_ble_eq_true rfl⟩) hS (fun q _ h => h) (fun q h => h) (fun u_31 t9 H1 locs1 ht9 hvm9 hw_31 hBw hz9 hk9 hS => ?_)
    obtain ⟨hP, hD⟩ := hBw
    rw [ht9] at hP
    generalize H1 = H at hP hS ⊢
    generalize locs1 = locs at hS ⊢
    replace hP : va_P D vwCl (WX ad cI cZ c (g - 1) hid code ans dbt u_31 ply hps wr) H := hP
    replace hD : va_D A (WX ad cI cZ c (g - 1) hid code ans dbt u_31 ply hps wr) := hD
    refine lv_aload_n hx hb dX1_forget_34 rfl (lv_at hl 1 rfl) ?_
    refine va_get (D := D) (ci := 1) (v := .ref (ad 1)) (C := RX1) (T := TX1) (N := 11) hx hb hts hinX1 hown hK hP 0 rfl rfl 5 (by decide) lk31 (fun _ h9 => h9) rfl dX1_forget_35 ?_
    refine lv_iload_n hx hb dX1_forget_38 rfl (lv_at hl 0 rfl) ?_
    refine x_iald hx hb hK hP 1 0 rfl rfl (i := g - 1) (by omega) (by omega) dX1_forget_39 ?_
    refine W.widen (k := 1) (n := 6) (Nat.le_of_ble_eq_true rfl) (Nat.le_of_ble_eq_true rfl) ?_
    exact vx_ret (W.iret (v := nI (code (g - 1))) hx hb hr (fun t ht hW => ⟨⟨_, u_31, rfl, (by
        exact ⟨rfl, h0, hw_31⟩), ⟨by rw [ht]; exact hP, hD⟩⟩, hS.F ht⟩) hS.2.2 dX1_forget_40)
  · skip
    obtain ⟨sa9, hsa9⟩ := hB.2.2.2.2.2 (102, "there is no guess") (by decide)
    have hat9 : ∀ w ∈ (vx_atS RX1 104 "java/lang/IllegalStateException" ["java/lang/RuntimeException", "java/lang/Exception"]), w.before _ s = true := vx_hat (B := [.castable "java/lang/IllegalStateException" "java/lang/IllegalStateException", .declares (Bundle.initS "java/lang/RuntimeException"), .declares (Bundle.initS "java/lang/Exception"), .declares (Bundle.initS Bundle.tN)]) (fun w hw => hts w (by first | exact List.mem_cons_of_mem _ (List.mem_append_right _ hw) | exact List.mem_cons_of_mem _ (List.mem_append_left _ (List.mem_append_right _ hw)) | exact List.mem_cons_of_mem _ (List.mem_append_left _ (List.mem_append_left _ (List.mem_append_right _ hw))))) (by decide +kernel) (vx_c (va_Nw.use rfl (hB.2.2.2.2.1 _ (by simp [Nws]))) (vx_c (va_Nw.use rfl (hB.2.2.2.2.1 _ (by simp [Nws]))) (vx_c (va_Nw.use rfl (hB.2.2.2.2.1 _ (by simp [Nws]))) (vx_c (va_Nw.use rfl (hB.2.2.2.2.1 _ (by simp [Nws]))) vx_n))))
    exact vx_throwS (A := A) (names := ["java/lang/RuntimeException", "java/lang/Exception"]) (cls := "java/lang/IllegalStateException") hx hb hflag hown (by decide +kernel) (by decide +kernel) (hts _ (by decide +kernel)) (hts _ (by decide +kernel)) hsa9 hat9 (by decide +kernel) hB.2.2.1 hB.2.2.2.1 hS (hl.1.trans hml.symm) dX1_forget_15 dX1_forget_18 dX1_forget_19 dX1_forget_21 dX1_forget_24 (fun x hx9 => (hnt x hx9).elim) (Nat.le_of_ble_eq_true rfl) (Nat.le_of_ble_eq_true rfl) (Nat.le_of_ble_eq_true rfl) (Nat.le_of_ble_eq_true rfl) hlocks (fun t hvm hsz hk => ⟨(), trivial, ⟨(by
        exact ⟨rfl, by have := of_decide_eq_false c12; omega⟩), ⟨va_P.kept hP (fun k q hk9 => hk _ (hP k q hk9).lt), hD⟩⟩, ⟨Nat.le_trans hS.1 hsz, fun q h1 h2 => (hk q (Nat.lt_of_lt_of_le h1 hS.1)).trans (hS.2.1 q h1 h2)⟩⟩) hS.2.2 (Nat.le_of_ble_eq_true rfl) (Nat.le_of_ble_eq_true rfl)

set_option maxHeartbeats 4000000 in
set_option maxRecDepth 100000 in
theorem c_X1_colour (l : Launch) (hfl : l.flags = flags0) (D : va_G) (cI cZ cG cJ : ClassId) (A : Nat → Prop) (ad : Nat → Nat) (wr : va_W) (hpal : Pals cI cG ad wr) (c : Nat) (g : Nat) (hid : Int32) (code : Nat → Nat) (ans : Nat → Nat) (dbt : Nat → Bool) (opn : Nat → Bool) (ply : Nat → Bool) (hps : Nat → Nat) (v : Int32) (pl : Int32) (hI : XI c g hid code ans dbt opn) : vx_Met l yX1_colour wsX1_colour ({ frames := 7, cells := 2, slots := 12, locals := 103 }) (va_Pc [.ref (ad 0), .int (v), .int (pl)] (Iv D (TY cI cZ cG cJ) A (WX ad cI cZ c g hid code ans dbt opn ply hps wr))) (va_Qi (fun r (u : Nat × Nat) => r = nI (col c u.1 u.2) ∧ u.1 < qq c ∧ v = nI u.1 ∧ u.2 < 4 ∧ pl = nI u.2) (fun u => Wd D A (WX ad cI cZ c g hid code ans dbt opn ply hps wr)) A) (Xw D A (WX ad cI cZ c g hid code ans dbt opn ply hps wr) (fun E => E = "java/lang/IndexOutOfBoundsException" ∧ (hasC c v = false ∨ plC pl = false))) 2 12 A := by
  refine vx_ofW (cc := cX1_colour) (maxL := 3) (ret := (some .int)) (by decide) rfl ?_
  intro p e s m args below meth c9 s₁ B hml hnt hv
  obtain ⟨rfl, hP, hD, hB⟩ := hv
  have hK := hB.1
  have hA := hB.2.1
  have hx := B.exec
  have hb := B.bytes
  have hr := B.returns
  have hts := atoms_spec (ws := wsX1_colour) B.pre
  have hown : s.vm.findClass RX1 = some m.cls := findClass_of_methodNamed B.named
  have hlocks := B.notSynchronized
  have hS : va_S A s.heap s.heap [] := va_S.rf
  have hflag : l.stackTraces = false := by rw [Launch.stackTraces, hfl]; decide
  have hinX1 : ∀ w ∈ wsX10, w ∈ wsX1_colour := by decide +kernel
  have lk21 := hts (.fieldLink RX1 21 "HiddenCandles" "palette" "LHiddenCandles$Palette;") (by decide +kernel)
  have hl := lv_entry ([.ref (ad 0), .int (v), .int (pl)]) (n := 3) (Nat.le_of_ble_eq_true rfl)
  rw [lg_entry_eq]
  generalize (lg_sl ([.ref (ad 0), .int (v), .int (pl)]) ++ List.replicate (3 - (lg_sl ([.ref (ad 0), .int (v), .int (pl)])).length) Slot.unset).toArray = ls at hl ⊢
  have hl : lv_has ls 3 [(0, .ref (ad 0)), (1, .int (v)), (2, .int (pl))] := hl
  obtain ⟨H, eH⟩ : ∃ q, q = s.heap := ⟨_, rfl⟩
  obtain ⟨locs, eL⟩ : ∃ q : List Loc, q = [] := ⟨_, rfl⟩
  replace hP : va_P D vwCl (WX ad cI cZ c g hid code ans dbt opn ply hps wr) H := by rw [eH]; exact hP
  replace hS : va_S A s.heap H locs := by rw [eH, eL]; exact hS
  rw [show W p l e _ s m _ below meth c9 s.heap [] = W p l e _ s m _ below meth c9 H locs from by rw [eH, eL]]
  clear eH eL
  obtain ⟨hc, hg, hco, hhid, hop⟩ := id hI
  have hq := qq_in hc
  have hop2 := op_lt hop
  refine lv_aload_n hx hb dX1_colour_0 rfl (lv_at hl 0 rfl) ?_
  refine lv_iload_n hx hb dX1_colour_1 rfl (lv_at hl 1 rfl) ?_
  refine vx_callv (vx_runV (As := [.int (v)]) (rest := []) ⟨hx, hb, hml, hown, hts⟩ (c_X1_needCode l hfl D cI cZ cG cJ A ad wr hpal c g hid code ans dbt opn ply hps v (hc)) (cwV 1 hts gX1_colour_X1_needCode rfl rfl rfl (by decide +kernel) ⟨Nat.le_of_ble_eq_true rfl, Nat.le_of_ble_eq_true rfl⟩) (preV (ci := 1) (q0 := 0) hB hS hP hD rfl rfl) rfl rfl hl.1 rfl (lv_room (Nat.le_of_ble_eq_true rfl)) dX1_colour_2 ⟨Nat.le_of_ble_eq_true rfl, Nat.le_of_ble_eq_true rfl⟩) hS (fun q _ h => h) (fun q h => h) (fun q _ h => h) (fun E ce q9 u9 t9 H1 locs1 ht9 hvm9 hpx8 hBx hz9 hk9 hS hq9 hv9 hcl9 => ?_) (fun u_2 t9 H1 locs1 ht9 hvm9 hw_2 hBw hz9 hk9 hS => ?_)
  · obtain ⟨hpx9, hP1, hD1⟩ := hBx
    rw [ht9] at hP1
    exact vx_out (fun x hx9 => (hnt x hx9).elim) hlocks hq9 hv9 hcl9 (fun t ht hvm => ⟨(), trivial, ⟨(by
        exact ⟨hpx9.1, Or.inl hpx9.2⟩), by rw [ht]; exact hP1, hD1⟩, hS.F ht⟩) hS.2.2 (by omega) (by omega)
  obtain ⟨hP, hD⟩ := hBw
  rw [ht9] at hP
  generalize H1 = H at hP hS ⊢
  generalize locs1 = locs at hS ⊢
  replace hP : va_P D vwCl (WX ad cI cZ c g hid code ans dbt opn ply hps wr) H := hP
  replace hD : va_D A (WX ad cI cZ c g hid code ans dbt opn ply hps wr) := hD
  obtain ⟨k, hk, rfl⟩ := hasC_of hc hw_2
  refine lv_iload_n hx hb dX1_colour_5 rfl (lv_at hl 2 rfl) ?_
  refine vx_callv (vx_runS (As := [.int (pl)]) (rest := []) ⟨hx, hb, hml, hown, hts⟩ (c_X1_needPlace l hfl D cI cZ cG cJ A (WX ad cI cZ c g hid code ans dbt opn ply hps wr) pl ) (va_cwS 1 hts gX1_colour_X1_needPlace rfl rfl rfl (by decide +kernel) ⟨Nat.le_of_ble_eq_true rfl, Nat.le_of_ble_eq_true rfl⟩) (preS hB hS hP hD) rfl rfl hl.1 rfl (lv_room (Nat.le_of_ble_eq_true rfl)) dX1_colour_6 ⟨Nat.le_of_ble_eq_true rfl, Nat.le_of_ble_eq_true rfl⟩) hS (fun q _ h => h) (fun q h => h) (fun q _ h => h) (fun E ce q9 u9 t9 H1 locs1 ht9 hvm9 hpx8 hBx hz9 hk9 hS hq9 hv9 hcl9 => ?_) (fun u_6 t9 H1 locs1 ht9 hvm9 hw_6 hBw hz9 hk9 hS => ?_)
  · obtain ⟨hpx9, hP1, hD1⟩ := hBx
    rw [ht9] at hP1
    exact vx_out (fun x hx9 => (hnt x hx9).elim) hlocks hq9 hv9 hcl9 (fun t ht hvm => ⟨(), trivial, ⟨(by
        exact ⟨hpx9.1, Or.inr hpx9.2⟩), by rw [ht]; exact hP1, hD1⟩, hS.F ht⟩) hS.2.2 (by omega) (by omega)
  obtain ⟨hP, hD⟩ := hBw
  rw [ht9] at hP
  generalize H1 = H at hP hS ⊢
  generalize locs1 = locs at hS ⊢
  replace hP : va_P D vwCl (WX ad cI cZ c g hid code ans dbt opn ply hps wr) H := hP
  replace hD : va_D A (WX ad cI cZ c g hid code ans dbt opn ply hps wr) := hD
  obtain ⟨p0, hp, rfl⟩ := plC_of hw_6
  refine lv_aload_n hx hb dX1_colour_9 rfl (lv_at hl 0 rfl) ?_
  refine va_get (D := D) (ci := 1) (v := .ref (pal ad c)) (C := RX1) (T := TX1) (N := 11) hx hb hts hinX1 hown hK hP 0 rfl rfl 2 (by decide) lk21 (fun _ h9 => h9) rfl dX1_colour_10 ?_
  refine lv_iload_n hx hb dX1_colour_13 rfl (lv_at hl 1 rfl) ?_
  refine lv_iload_n hx hb dX1_colour_14 rfl (lv_at hl 2 rfl) ?_
  refine x_csi (va_runVN (As := [.int (nI (k)), .int (nI (p0))]) (rest := []) ⟨hx, hb, hml, hown, hts⟩ (c_X0_colourOf l D cI cZ cG cJ A (WX ad cI cZ c g hid code ans dbt opn ply hps wr) (pal ad c) c k p0 (palX hpal hc) (hc) (hk) (hp)) ⟨va_cnB (host := RX1) 2 hts gX1_colour_X0_colourOf_n73 rfl rfl rfl (hB.2.2.2.2.1 _ (by simp [Nws])) (hts _ (by decide +kernel)) (by decide +kernel) ⟨Nat.le_of_ble_eq_true rfl, Nat.le_of_ble_eq_true rfl⟩, hts _ (by decide +kernel), hts _ (by decide +kernel)⟩ (prePal hB hS hP hD (palX hpal hc)) rfl rfl hl.1 rfl (lv_room (Nat.le_of_ble_eq_true rfl)) dX1_colour_15 ⟨Nat.le_of_ble_eq_true rfl, Nat.le_of_ble_eq_true rfl⟩) ?_
  have hcl := col_lt hc (k) (p0)
  refine W.widen (k := 2) (n := 12) (Nat.le_of_ble_eq_true rfl) (Nat.le_of_ble_eq_true rfl) ?_
  exact vx_ret (W.iret (v := nI (col c k p0)) hx hb hr (fun t ht hW => ⟨⟨_, (k, p0), rfl, (by
      exact ⟨rfl, hk, rfl, hp, rfl⟩), ⟨by rw [ht]; exact hP, hD⟩⟩, hS.F ht⟩) hS.2.2 dX1_colour_18)

set_option maxHeartbeats 4000000 in
set_option maxRecDepth 100000 in
theorem c_X1_pins (l : Launch) (hfl : l.flags = flags0) (D : va_G) (cI cZ cG cJ : ClassId) (A : Nat → Prop) (ad : Nat → Nat) (wr : va_W) (hpal : Pals cI cG ad wr) (c : Nat) (g : Nat) (hid : Int32) (code : Nat → Nat) (ans : Nat → Nat) (dbt : Nat → Bool) (opn : Nat → Bool) (ply : Nat → Bool) (hps : Nat → Nat) (a : Int32) (b : Int32) (hI : XI c g hid code ans dbt opn) : vx_Met l yX1_pins wsX1_pins ({ frames := 7, cells := 2, slots := 12, locals := 103 }) (va_Pc [.ref (ad 0), .int (a), .int (b)] (Iv D (TY cI cZ cG cJ) A (WX ad cI cZ c g hid code ans dbt opn ply hps wr))) (va_Qi (fun r (u : Nat × Nat) => r = nI (pins c u.1 u.2) ∧ u.1 < qq c ∧ a = nI u.1 ∧ u.2 < qq c ∧ b = nI u.2) (fun u => Wd D A (WX ad cI cZ c g hid code ans dbt opn ply hps wr)) A) (Xw D A (WX ad cI cZ c g hid code ans dbt opn ply hps wr) (fun E => E = "java/lang/IndexOutOfBoundsException" ∧ (hasC c a = false ∨ hasC c b = false))) 2 12 A := by
  refine vx_ofW (cc := cX1_pins) (maxL := 3) (ret := (some .int)) (by decide) rfl ?_
  intro p e s m args below meth c9 s₁ B hml hnt hv
  obtain ⟨rfl, hP, hD, hB⟩ := hv
  have hK := hB.1
  have hA := hB.2.1
  have hx := B.exec
  have hb := B.bytes
  have hr := B.returns
  have hts := atoms_spec (ws := wsX1_pins) B.pre
  have hown : s.vm.findClass RX1 = some m.cls := findClass_of_methodNamed B.named
  have hlocks := B.notSynchronized
  have hS : va_S A s.heap s.heap [] := va_S.rf
  have hflag : l.stackTraces = false := by rw [Launch.stackTraces, hfl]; decide
  have hinX1 : ∀ w ∈ wsX10, w ∈ wsX1_pins := by decide +kernel
  have lk21 := hts (.fieldLink RX1 21 "HiddenCandles" "palette" "LHiddenCandles$Palette;") (by decide +kernel)
  have hl := lv_entry ([.ref (ad 0), .int (a), .int (b)]) (n := 3) (Nat.le_of_ble_eq_true rfl)
  rw [lg_entry_eq]
  generalize (lg_sl ([.ref (ad 0), .int (a), .int (b)]) ++ List.replicate (3 - (lg_sl ([.ref (ad 0), .int (a), .int (b)])).length) Slot.unset).toArray = ls at hl ⊢
  have hl : lv_has ls 3 [(0, .ref (ad 0)), (1, .int (a)), (2, .int (b))] := hl
  obtain ⟨H, eH⟩ : ∃ q, q = s.heap := ⟨_, rfl⟩
  obtain ⟨locs, eL⟩ : ∃ q : List Loc, q = [] := ⟨_, rfl⟩
  replace hP : va_P D vwCl (WX ad cI cZ c g hid code ans dbt opn ply hps wr) H := by rw [eH]; exact hP
  replace hS : va_S A s.heap H locs := by rw [eH, eL]; exact hS
  rw [show W p l e _ s m _ below meth c9 s.heap [] = W p l e _ s m _ below meth c9 H locs from by rw [eH, eL]]
  clear eH eL
  obtain ⟨hc, hg, hco, hhid, hop⟩ := id hI
  have hq := qq_in hc
  have hop2 := op_lt hop
  refine lv_aload_n hx hb dX1_pins_0 rfl (lv_at hl 0 rfl) ?_
  refine lv_iload_n hx hb dX1_pins_1 rfl (lv_at hl 1 rfl) ?_
  refine vx_callv (vx_runV (As := [.int (a)]) (rest := []) ⟨hx, hb, hml, hown, hts⟩ (c_X1_needCode l hfl D cI cZ cG cJ A ad wr hpal c g hid code ans dbt opn ply hps a (hc)) (cwV 1 hts gX1_pins_X1_needCode rfl rfl rfl (by decide +kernel) ⟨Nat.le_of_ble_eq_true rfl, Nat.le_of_ble_eq_true rfl⟩) (preV (ci := 1) (q0 := 0) hB hS hP hD rfl rfl) rfl rfl hl.1 rfl (lv_room (Nat.le_of_ble_eq_true rfl)) dX1_pins_2 ⟨Nat.le_of_ble_eq_true rfl, Nat.le_of_ble_eq_true rfl⟩) hS (fun q _ h => h) (fun q h => h) (fun q _ h => h) (fun E ce q9 u9 t9 H1 locs1 ht9 hvm9 hpx8 hBx hz9 hk9 hS hq9 hv9 hcl9 => ?_) (fun u_2 t9 H1 locs1 ht9 hvm9 hw_2 hBw hz9 hk9 hS => ?_)
  · obtain ⟨hpx9, hP1, hD1⟩ := hBx
    rw [ht9] at hP1
    exact vx_out (fun x hx9 => (hnt x hx9).elim) hlocks hq9 hv9 hcl9 (fun t ht hvm => ⟨(), trivial, ⟨(by
        exact ⟨hpx9.1, Or.inl hpx9.2⟩), by rw [ht]; exact hP1, hD1⟩, hS.F ht⟩) hS.2.2 (by omega) (by omega)
  obtain ⟨hP, hD⟩ := hBw
  rw [ht9] at hP
  generalize H1 = H at hP hS ⊢
  generalize locs1 = locs at hS ⊢
  replace hP : va_P D vwCl (WX ad cI cZ c g hid code ans dbt opn ply hps wr) H := hP
  replace hD : va_D A (WX ad cI cZ c g hid code ans dbt opn ply hps wr) := hD
  obtain ⟨k, hk, rfl⟩ := hasC_of hc hw_2
  refine lv_aload_n hx hb dX1_pins_5 rfl (lv_at hl 0 rfl) ?_
  refine lv_iload_n hx hb dX1_pins_6 rfl (lv_at hl 2 rfl) ?_
  refine vx_callv (vx_runV (As := [.int (b)]) (rest := []) ⟨hx, hb, hml, hown, hts⟩ (c_X1_needCode l hfl D cI cZ cG cJ A ad wr hpal c g hid code ans dbt opn ply hps b (hc)) (cwV 1 hts gX1_pins_X1_needCode rfl rfl rfl (by decide +kernel) ⟨Nat.le_of_ble_eq_true rfl, Nat.le_of_ble_eq_true rfl⟩) (preV (ci := 1) (q0 := 0) hB hS hP hD rfl rfl) rfl rfl hl.1 rfl (lv_room (Nat.le_of_ble_eq_true rfl)) dX1_pins_7 ⟨Nat.le_of_ble_eq_true rfl, Nat.le_of_ble_eq_true rfl⟩) hS (fun q _ h => h) (fun q h => h) (fun q _ h => h) (fun E ce q9 u9 t9 H1 locs1 ht9 hvm9 hpx8 hBx hz9 hk9 hS hq9 hv9 hcl9 => ?_) (fun u_7 t9 H1 locs1 ht9 hvm9 hw_7 hBw hz9 hk9 hS => ?_)
  · obtain ⟨hpx9, hP1, hD1⟩ := hBx
    rw [ht9] at hP1
    exact vx_out (fun x hx9 => (hnt x hx9).elim) hlocks hq9 hv9 hcl9 (fun t ht hvm => ⟨(), trivial, ⟨(by
        exact ⟨hpx9.1, Or.inr hpx9.2⟩), by rw [ht]; exact hP1, hD1⟩, hS.F ht⟩) hS.2.2 (by omega) (by omega)
  obtain ⟨hP, hD⟩ := hBw
  rw [ht9] at hP
  generalize H1 = H at hP hS ⊢
  generalize locs1 = locs at hS ⊢
  replace hP : va_P D vwCl (WX ad cI cZ c g hid code ans dbt opn ply hps wr) H := hP
  replace hD : va_D A (WX ad cI cZ c g hid code ans dbt opn ply hps wr) := hD
  obtain ⟨k2, hk2, rfl⟩ := hasC_of hc hw_7
  refine lv_aload_n hx hb dX1_pins_10 rfl (lv_at hl 0 rfl) ?_
  refine va_get (D := D) (ci := 1) (v := .ref (pal ad c)) (C := RX1) (T := TX1) (N := 11) hx hb hts hinX1 hown hK hP 0 rfl rfl 2 (by decide) lk21 (fun _ h9 => h9) rfl dX1_pins_11 ?_
  refine lv_iload_n hx hb dX1_pins_14 rfl (lv_at hl 1 rfl) ?_
  refine lv_iload_n hx hb dX1_pins_15 rfl (lv_at hl 2 rfl) ?_
  refine x_csi (va_runVN (As := [.int (nI (k)), .int (nI (k2))]) (rest := []) ⟨hx, hb, hml, hown, hts⟩ (c_X0_answerTo l D cI cZ cG cJ A (WX ad cI cZ c g hid code ans dbt opn ply hps wr) (pal ad c) c k k2 (palX hpal hc) (hc) (hk) (hk2)) ⟨va_cnB (host := RX1) 2 hts gX1_pins_X0_answerTo_n77 rfl rfl rfl (hB.2.2.2.2.1 _ (by simp [Nws])) (hts _ (by decide +kernel)) (by decide +kernel) ⟨Nat.le_of_ble_eq_true rfl, Nat.le_of_ble_eq_true rfl⟩, hts _ (by decide +kernel), hts _ (by decide +kernel)⟩ (prePal hB hS hP hD (palX hpal hc)) rfl rfl hl.1 rfl (lv_room (Nat.le_of_ble_eq_true rfl)) dX1_pins_16 ⟨Nat.le_of_ble_eq_true rfl, Nat.le_of_ble_eq_true rfl⟩) ?_
  have hpi := pins_le hc (hk) (hk2)
  refine W.widen (k := 2) (n := 12) (Nat.le_of_ble_eq_true rfl) (Nat.le_of_ble_eq_true rfl) ?_
  exact vx_ret (W.iret (v := nI (pins c k k2)) hx hb hr (fun t ht hW => ⟨⟨_, (k, k2), rfl, (by
      exact ⟨rfl, hk, rfl, hk2, rfl⟩), ⟨by rw [ht]; exact hP, hD⟩⟩, hS.F ht⟩) hS.2.2 dX1_pins_19)

set_option maxHeartbeats 4000000 in
set_option maxRecDepth 100000 in
theorem c_X1_told (l : Launch) (hfl : l.flags = flags0) (D : va_G) (cI cZ cG cJ : ClassId) (A : Nat → Prop) (ad : Nat → Nat) (wr : va_W) (hpal : Pals cI cG ad wr) (c : Nat) (g : Nat) (hid : Int32) (code : Nat → Nat) (ans : Nat → Nat) (dbt : Nat → Bool) (opn : Nat → Bool) (ply : Nat → Bool) (hps : Nat → Nat) (v : Int32) (w : Int32) (hI : XI c g hid code ans dbt opn) : vx_Met l yX1_told wsX1_told ({ frames := 6, cells := 1, slots := 6, locals := 89 }) (va_Pc [.ref (ad 0), .int (v), .int (w)] (Iv D (TY cI cZ cG cJ) A (WX ad cI cZ c g hid code ans dbt opn ply hps wr))) (va_Qi (fun r (u : Nat × Nat) => r = nI (tldV c code ans dbt u.1 u.2) ∧ u.1 < g ∧ v = nI u.1 ∧ u.2 < 6 ∧ w = nI u.2) (fun u => Wd D A (WX ad cI cZ c g hid code ans dbt opn ply hps wr)) A) (Xw D A (WX ad cI cZ c g hid code ans dbt opn ply hps wr) (fun E => E = "java/lang/IndexOutOfBoundsException" ∧ (gsC g v = false ∨ rgC 6 w = false))) 1 6 A := by
  refine vx_ofW (cc := cX1_told) (maxL := 3) (ret := (some .int)) (by decide) rfl ?_
  intro p e s m args below meth c9 s₁ B hml hnt hv
  obtain ⟨rfl, hP, hD, hB⟩ := hv
  have hK := hB.1
  have hA := hB.2.1
  have hx := B.exec
  have hb := B.bytes
  have hr := B.returns
  have hts := atoms_spec (ws := wsX1_told) B.pre
  have hown : s.vm.findClass RX1 = some m.cls := findClass_of_methodNamed B.named
  have hlocks := B.notSynchronized
  have hS : va_S A s.heap s.heap [] := va_S.rf
  have hflag : l.stackTraces = false := by rw [Launch.stackTraces, hfl]; decide
  have hinX1 : ∀ w ∈ wsX10, w ∈ wsX1_told := by decide +kernel
  have lk31 := hts (.fieldLink RX1 31 "HiddenCandles" "guessed" "[I") (by decide +kernel)
  have lk35 := hts (.fieldLink RX1 35 "HiddenCandles" "answers" "[I") (by decide +kernel)
  have lk38 := hts (.fieldLink RX1 38 "HiddenCandles" "doubted" "[Z") (by decide +kernel)
  have hl := lv_entry ([.ref (ad 0), .int (v), .int (w)]) (n := 3) (Nat.le_of_ble_eq_true rfl)
  rw [lg_entry_eq]
  generalize (lg_sl ([.ref (ad 0), .int (v), .int (w)]) ++ List.replicate (3 - (lg_sl ([.ref (ad 0), .int (v), .int (w)])).length) Slot.unset).toArray = ls at hl ⊢
  have hl : lv_has ls 3 [(0, .ref (ad 0)), (1, .int (v)), (2, .int (w))] := hl
  obtain ⟨H, eH⟩ : ∃ q, q = s.heap := ⟨_, rfl⟩
  obtain ⟨locs, eL⟩ : ∃ q : List Loc, q = [] := ⟨_, rfl⟩
  replace hP : va_P D vwCl (WX ad cI cZ c g hid code ans dbt opn ply hps wr) H := by rw [eH]; exact hP
  replace hS : va_S A s.heap H locs := by rw [eH, eL]; exact hS
  rw [show W p l e _ s m _ below meth c9 s.heap [] = W p l e _ s m _ below meth c9 H locs from by rw [eH, eL]]
  clear eH eL
  obtain ⟨hc, hg, hco, hhid, hop⟩ := id hI
  have hq := qq_in hc
  have hop2 := op_lt hop
  refine lv_aload_n hx hb dX1_told_0 rfl (lv_at hl 0 rfl) ?_
  refine lv_iload_n hx hb dX1_told_1 rfl (lv_at hl 1 rfl) ?_
  refine x_csi (va_runV (As := [.int (v)]) (rest := []) ⟨hx, hb, hml, hown, hts⟩ (c_X1_hasGuess l D cI cZ cG cJ A ad wr hpal c g hid code ans dbt opn ply hps v (hg)) (cwV 1 hts gX1_told_X1_hasGuess rfl rfl rfl (by decide +kernel) ⟨Nat.le_of_ble_eq_true rfl, Nat.le_of_ble_eq_true rfl⟩) (preV (ci := 1) (q0 := 0) hB hS hP hD rfl rfl) rfl rfl hl.1 rfl (lv_room (Nat.le_of_ble_eq_true rfl)) dX1_told_2 ⟨Nat.le_of_ble_eq_true rfl, Nat.le_of_ble_eq_true rfl⟩) ?_
  refine x_zne (tgt := 18) hx hb dX1_told_5 (by decide) (fun c5 => ?_) (fun c5 => ?_)
  · skip
    obtain ⟨i, hi, rfl⟩ := gsC_of hg c5
    refine lv_iload_n hx hb dX1_told_18 rfl (lv_at hl 2 rfl) ?_
    rcases sw_cases (w) 6 5 (by decide) (by decide) with hsw | ⟨j9, hj9, hwj⟩
    · refine lv_tableOut (tgt := 121) hx hb dX1_told_19 hsw (by decide) ?_
      obtain ⟨sa9, hsa9⟩ := hB.2.2.2.2.2 (112, "what is told of a guess is 0 to 5") (by decide)
      have hat9 : ∀ w ∈ (vx_atS RX1 99 "java/lang/IndexOutOfBoundsException" ["java/lang/RuntimeException", "java/lang/Exception"]), w.before _ s = true := vx_hat (B := [.castable "java/lang/IndexOutOfBoundsException" "java/lang/IndexOutOfBoundsException", .declares (Bundle.initS "java/lang/RuntimeException"), .declares (Bundle.initS "java/lang/Exception"), .declares (Bundle.initS Bundle.tN)]) (fun w hw => hts w (by first | exact List.mem_cons_of_mem _ (List.mem_append_right _ hw) | exact List.mem_cons_of_mem _ (List.mem_append_left _ (List.mem_append_right _ hw)) | exact List.mem_cons_of_mem _ (List.mem_append_left _ (List.mem_append_left _ (List.mem_append_right _ hw))))) (by decide +kernel) (vx_c (va_Nw.use rfl (hB.2.2.2.2.1 _ (by simp [Nws]))) (vx_c (va_Nw.use rfl (hB.2.2.2.2.1 _ (by simp [Nws]))) (vx_c (va_Nw.use rfl (hB.2.2.2.2.1 _ (by simp [Nws]))) (vx_c (va_Nw.use rfl (hB.2.2.2.2.1 _ (by simp [Nws]))) vx_n))))
      exact vx_throwS (A := A) (names := ["java/lang/RuntimeException", "java/lang/Exception"]) (cls := "java/lang/IndexOutOfBoundsException") hx hb hflag hown (by decide +kernel) (by decide +kernel) (hts _ (by decide +kernel)) (hts _ (by decide +kernel)) hsa9 hat9 (by decide +kernel) hB.2.2.1 hB.2.2.2.1 hS (hl.1.trans hml.symm) dX1_told_121 dX1_told_124 dX1_told_125 dX1_told_127 dX1_told_130 (fun x hx9 => (hnt x hx9).elim) (Nat.le_of_ble_eq_true rfl) (Nat.le_of_ble_eq_true rfl) (Nat.le_of_ble_eq_true rfl) (Nat.le_of_ble_eq_true rfl) hlocks (fun t hvm hsz hk => ⟨(), trivial, ⟨(by
          exact ⟨rfl, Or.inr (rgC_f (by decide) hsw)⟩), ⟨va_P.kept hP (fun k q hk9 => hk _ (hP k q hk9).lt), hD⟩⟩, ⟨Nat.le_trans hS.1 hsz, fun q h1 h2 => (hk q (Nat.lt_of_lt_of_le h1 hS.1)).trans (hS.2.1 q h1 h2)⟩⟩) hS.2.2 (Nat.le_of_ble_eq_true rfl) (Nat.le_of_ble_eq_true rfl)
    · obtain rfl | rfl | rfl | rfl | rfl | rfl : j9 = 0 ∨ j9 = 1 ∨ j9 = 2 ∨ j9 = 3 ∨ j9 = 4 ∨ j9 = 5 := by omega
      · refine x_ti (y := nI 0) hwj ?_
        refine lv_tableIn (tgt := 56) (off := 37) hx hb dX1_told_19 (by decide) (by decide) rfl (by decide) ?_
        refine lv_aload_n hx hb dX1_told_56 rfl (lv_at hl 0 rfl) ?_
        refine va_get (D := D) (ci := 1) (v := .ref (ad 1)) (C := RX1) (T := TX1) (N := 11) hx hb hts hinX1 hown hK hP 0 rfl rfl 5 (by decide) lk31 (fun _ h9 => h9) rfl dX1_told_57 ?_
        refine lv_iload_n hx hb dX1_told_60 rfl (lv_at hl 1 rfl) ?_
        refine x_iald hx hb hK hP 1 0 rfl rfl (i := i) (by omega) (by omega) dX1_told_61 ?_
        refine W.widen (k := 1) (n := 6) (Nat.le_of_ble_eq_true rfl) (Nat.le_of_ble_eq_true rfl) ?_
        exact vx_ret (W.iret (v := nI (code i)) hx hb hr (fun t ht hW => ⟨⟨_, (i, 0), rfl, (by
            exact ⟨rfl, hi, rfl, Nat.le_of_ble_eq_true rfl, hwj⟩), ⟨by rw [ht]; exact hP, hD⟩⟩, hS.F ht⟩) hS.2.2 dX1_told_62)
      · refine x_ti (y := nI 1) hwj ?_
        refine lv_tableIn (tgt := 63) (off := 44) hx hb dX1_told_19 (by decide) (by decide) rfl (by decide) ?_
        refine lv_aload_n hx hb dX1_told_63 rfl (lv_at hl 0 rfl) ?_
        refine va_get (D := D) (ci := 1) (v := .ref (ad 2)) (C := RX1) (T := TX1) (N := 11) hx hb hts hinX1 hown hK hP 0 rfl rfl 6 (by decide) lk35 (fun _ h9 => h9) rfl dX1_told_64 ?_
        refine lv_iload_n hx hb dX1_told_67 rfl (lv_at hl 1 rfl) ?_
        refine x_iald hx hb hK hP 2 0 rfl rfl (i := i) (by omega) (by omega) dX1_told_68 ?_
        have hai := (hco i hi).2
        refine lv_iconst (v := nI (5)) hx hb dX1_told_69 (by decide) ?_
        refine lv_idiv hx hb dX1_told_70 (nI_ne0 (by omega) (by omega)) ?_
        refine x_ti (pk_div (by omega) (by omega) (by omega)) ?_
        refine W.widen (k := 1) (n := 6) (Nat.le_of_ble_eq_true rfl) (Nat.le_of_ble_eq_true rfl) ?_
        exact vx_ret (W.iret (v := nI ((ans i) / 5)) hx hb hr (fun t ht hW => ⟨⟨_, (i, 1), rfl, (by
            exact ⟨rfl, hi, rfl, Nat.le_of_ble_eq_true rfl, hwj⟩), ⟨by rw [ht]; exact hP, hD⟩⟩, hS.F ht⟩) hS.2.2 dX1_told_71)
      · refine x_ti (y := nI 2) hwj ?_
        refine lv_tableIn (tgt := 72) (off := 53) hx hb dX1_told_19 (by decide) (by decide) rfl (by decide) ?_
        refine lv_aload_n hx hb dX1_told_72 rfl (lv_at hl 0 rfl) ?_
        refine va_get (D := D) (ci := 1) (v := .ref (ad 2)) (C := RX1) (T := TX1) (N := 11) hx hb hts hinX1 hown hK hP 0 rfl rfl 6 (by decide) lk35 (fun _ h9 => h9) rfl dX1_told_73 ?_
        refine lv_iload_n hx hb dX1_told_76 rfl (lv_at hl 1 rfl) ?_
        refine x_iald hx hb hK hP 2 0 rfl rfl (i := i) (by omega) (by omega) dX1_told_77 ?_
        have hai := (hco i hi).2
        refine lv_iconst (v := nI (5)) hx hb dX1_told_78 (by decide) ?_
        refine lv_irem hx hb dX1_told_79 (nI_ne0 (by omega) (by omega)) ?_
        refine x_ti (pk_rem (by omega) (by omega) (by omega)) ?_
        refine W.widen (k := 1) (n := 6) (Nat.le_of_ble_eq_true rfl) (Nat.le_of_ble_eq_true rfl) ?_
        exact vx_ret (W.iret (v := nI ((ans i) % 5)) hx hb hr (fun t ht hW => ⟨⟨_, (i, 2), rfl, (by
            exact ⟨rfl, hi, rfl, Nat.le_of_ble_eq_true rfl, hwj⟩), ⟨by rw [ht]; exact hP, hD⟩⟩, hS.F ht⟩) hS.2.2 dX1_told_80)
      · refine x_ti (y := nI 3) hwj ?_
        refine lv_tableIn (tgt := 81) (off := 62) hx hb dX1_told_19 (by decide) (by decide) rfl (by decide) ?_
        refine lv_aload_n hx hb dX1_told_81 rfl (lv_at hl 0 rfl) ?_
        refine va_get (D := D) (ci := 1) (v := .ref (ad 3)) (C := RX1) (T := TX1) (N := 11) hx hb hts hinX1 hown hK hP 0 rfl rfl 7 (by decide) lk38 (fun _ h9 => h9) rfl dX1_told_82 ?_
        refine lv_iload_n hx hb dX1_told_85 rfl (lv_at hl 1 rfl) ?_
        refine x_zald hx hb hK hP 3 1 rfl rfl (i := i) (by omega) (by omega) dX1_told_86 ?_
        refine x_zeq (tgt := 94) hx hb dX1_told_87 (by decide) (fun c87 => ?_) (fun c87 => ?_)
        · skip
          refine lv_iconst (v := nI (0)) hx hb dX1_told_94 (by decide) ?_
          refine W.widen (k := 1) (n := 6) (Nat.le_of_ble_eq_true rfl) (Nat.le_of_ble_eq_true rfl) ?_
          exact vx_ret (W.iret (v := nI (0)) hx hb hr (fun t ht hW => ⟨⟨_, (i, 3), rfl, (by
              exact ⟨by simp only [tldV, c87]; rfl, hi, rfl, Nat.le_of_ble_eq_true rfl, hwj⟩), ⟨by rw [ht]; exact hP, hD⟩⟩, hS.F ht⟩) hS.2.2 dX1_told_95)
        · skip
          refine lv_iconst (v := nI (1)) hx hb dX1_told_90 (by decide) ?_
          refine lv_goto (tgt := 95) hx hb dX1_told_91 (by decide) ?_
          refine W.widen (k := 1) (n := 6) (Nat.le_of_ble_eq_true rfl) (Nat.le_of_ble_eq_true rfl) ?_
          exact vx_ret (W.iret (v := nI (1)) hx hb hr (fun t ht hW => ⟨⟨_, (i, 3), rfl, (by
              exact ⟨by simp only [tldV, c87]; rfl, hi, rfl, Nat.le_of_ble_eq_true rfl, hwj⟩), ⟨by rw [ht]; exact hP, hD⟩⟩, hS.F ht⟩) hS.2.2 dX1_told_95)
      · refine x_ti (y := nI 4) hwj ?_
        refine lv_tableIn (tgt := 96) (off := 77) hx hb dX1_told_19 (by decide) (by decide) rfl (by decide) ?_
        refine lv_aload_n hx hb dX1_told_96 rfl (lv_at hl 0 rfl) ?_
        refine lv_iload_n hx hb dX1_told_97 rfl (lv_at hl 1 rfl) ?_
        refine lv_iconst (v := nI (1)) hx hb dX1_told_98 (by decide) ?_
        refine lv_iadd hx hb dX1_told_99 ?_
        refine x_ti (nI_add _ _) ?_
        refine x_csi (va_runV (As := [.int (nI (i + 1))]) (rest := []) ⟨hx, hb, hml, hown, hts⟩ (c_X1_countFitting l D cI cZ cG cJ A ad wr hpal c g hid code ans dbt opn ply hps (i + 1) (hc) (by omega) (code_le hco (by omega))) (cwV 1 hts gX1_told_X1_countFitting rfl rfl rfl (by decide +kernel) ⟨Nat.le_of_ble_eq_true rfl, Nat.le_of_ble_eq_true rfl⟩) (preV (ci := 1) (q0 := 0) hB hS hP hD rfl rfl) rfl rfl hl.1 rfl (lv_room (Nat.le_of_ble_eq_true rfl)) dX1_told_100 ⟨Nat.le_of_ble_eq_true rfl, Nat.le_of_ble_eq_true rfl⟩) ?_
        refine W.widen (k := 1) (n := 6) (Nat.le_of_ble_eq_true rfl) (Nat.le_of_ble_eq_true rfl) ?_
        exact vx_ret (W.iret (v := nI (cN (fit c code ans dbt (i + 1)) (qq c))) hx hb hr (fun t ht hW => ⟨⟨_, (i, 4), rfl, (by
            exact ⟨rfl, hi, rfl, Nat.le_of_ble_eq_true rfl, hwj⟩), ⟨by rw [ht]; exact hP, hD⟩⟩, hS.F ht⟩) hS.2.2 dX1_told_103)
      · refine x_ti (y := nI 5) hwj ?_
        refine lv_tableIn (tgt := 104) (off := 85) hx hb dX1_told_19 (by decide) (by decide) rfl (by decide) ?_
        refine lv_aload_n hx hb dX1_told_104 rfl (lv_at hl 0 rfl) ?_
        refine lv_aload_n hx hb dX1_told_105 rfl (lv_at hl 0 rfl) ?_
        refine va_get (D := D) (ci := 1) (v := .ref (ad 1)) (C := RX1) (T := TX1) (N := 11) hx hb hts hinX1 hown hK hP 0 rfl rfl 5 (by decide) lk31 (fun _ h9 => h9) rfl dX1_told_106 ?_
        refine lv_iload_n hx hb dX1_told_109 rfl (lv_at hl 1 rfl) ?_
        refine x_iald hx hb hK hP 1 0 rfl rfl (i := i) (by omega) (by omega) dX1_told_110 ?_
        refine lv_aload_n hx hb dX1_told_111 rfl (lv_at hl 0 rfl) ?_
        refine va_get (D := D) (ci := 1) (v := .ref (ad 2)) (C := RX1) (T := TX1) (N := 11) hx hb hts hinX1 hown hK hP 0 rfl rfl 6 (by decide) lk35 (fun _ h9 => h9) rfl dX1_told_112 ?_
        refine lv_iload_n hx hb dX1_told_115 rfl (lv_at hl 1 rfl) ?_
        refine x_iald hx hb hK hP 2 0 rfl rfl (i := i) (by omega) (by omega) dX1_told_116 ?_
        have hai := (hco i hi).2
        refine x_csi (va_runV (As := [.int (nI (code i)), .int (nI (ans i))]) (rest := []) ⟨hx, hb, hml, hown, hts⟩ (c_X1_countAnswering l D cI cZ cG cJ A ad wr hpal c g hid code ans dbt opn ply hps (code i) (ans i) (hc) ((hco i hi).1) (hai)) (cwV 2 hts gX1_told_X1_countAnswering rfl rfl rfl (by decide +kernel) ⟨Nat.le_of_ble_eq_true rfl, Nat.le_of_ble_eq_true rfl⟩) (preV (ci := 1) (q0 := 0) hB hS hP hD rfl rfl) rfl rfl hl.1 rfl (lv_room (Nat.le_of_ble_eq_true rfl)) dX1_told_117 ⟨Nat.le_of_ble_eq_true rfl, Nat.le_of_ble_eq_true rfl⟩) ?_
        refine W.widen (k := 1) (n := 6) (Nat.le_of_ble_eq_true rfl) (Nat.le_of_ble_eq_true rfl) ?_
        exact vx_ret (W.iret (v := nI (cN (fun k => decide (pins c (code i) k = (ans i))) (qq c))) hx hb hr (fun t ht hW => ⟨⟨_, (i, 5), rfl, (by
            exact ⟨rfl, hi, rfl, Nat.le_of_ble_eq_true rfl, hwj⟩), ⟨by rw [ht]; exact hP, hD⟩⟩, hS.F ht⟩) hS.2.2 dX1_told_120)
  · skip
    obtain ⟨sa9, hsa9⟩ := hB.2.2.2.2.2 (97, "no such guess") (by decide)
    have hat9 : ∀ w ∈ (vx_atS RX1 99 "java/lang/IndexOutOfBoundsException" ["java/lang/RuntimeException", "java/lang/Exception"]), w.before _ s = true := vx_hat (B := [.castable "java/lang/IndexOutOfBoundsException" "java/lang/IndexOutOfBoundsException", .declares (Bundle.initS "java/lang/RuntimeException"), .declares (Bundle.initS "java/lang/Exception"), .declares (Bundle.initS Bundle.tN)]) (fun w hw => hts w (by first | exact List.mem_cons_of_mem _ (List.mem_append_right _ hw) | exact List.mem_cons_of_mem _ (List.mem_append_left _ (List.mem_append_right _ hw)) | exact List.mem_cons_of_mem _ (List.mem_append_left _ (List.mem_append_left _ (List.mem_append_right _ hw))))) (by decide +kernel) (vx_c (va_Nw.use rfl (hB.2.2.2.2.1 _ (by simp [Nws]))) (vx_c (va_Nw.use rfl (hB.2.2.2.2.1 _ (by simp [Nws]))) (vx_c (va_Nw.use rfl (hB.2.2.2.2.1 _ (by simp [Nws]))) (vx_c (va_Nw.use rfl (hB.2.2.2.2.1 _ (by simp [Nws]))) vx_n))))
    exact vx_throwS (A := A) (names := ["java/lang/RuntimeException", "java/lang/Exception"]) (cls := "java/lang/IndexOutOfBoundsException") hx hb hflag hown (by decide +kernel) (by decide +kernel) (hts _ (by decide +kernel)) (hts _ (by decide +kernel)) hsa9 hat9 (by decide +kernel) hB.2.2.1 hB.2.2.2.1 hS (hl.1.trans hml.symm) dX1_told_8 dX1_told_11 dX1_told_12 dX1_told_14 dX1_told_17 (fun x hx9 => (hnt x hx9).elim) (Nat.le_of_ble_eq_true rfl) (Nat.le_of_ble_eq_true rfl) (Nat.le_of_ble_eq_true rfl) (Nat.le_of_ble_eq_true rfl) hlocks (fun t hvm hsz hk => ⟨(), trivial, ⟨(by
        exact ⟨rfl, Or.inl c5⟩), ⟨va_P.kept hP (fun k q hk9 => hk _ (hP k q hk9).lt), hD⟩⟩, ⟨Nat.le_trans hS.1 hsz, fun q h1 h2 => (hk q (Nat.lt_of_lt_of_le h1 hS.1)).trans (hS.2.1 q h1 h2)⟩⟩) hS.2.2 (Nat.le_of_ble_eq_true rfl) (Nat.le_of_ble_eq_true rfl)

set_option maxHeartbeats 4000000 in
set_option maxRecDepth 100000 in
theorem c_X1_toldP (l : Launch) (D : va_G) (cI cZ cG cJ : ClassId) (A : Nat → Prop) (ad : Nat → Nat) (wr : va_W) (hpal : Pals cI cG ad wr) (c : Nat) (g : Nat) (hid : Int32) (code : Nat → Nat) (ans : Nat → Nat) (dbt : Nat → Bool) (opn : Nat → Bool) (ply : Nat → Bool) (hps : Nat → Nat) (i : Nat) (j : Nat) (hI : XI c g hid code ans dbt opn) (hi : i < g) (hj : j < 6) : Met l yX1_told wsX1_told ({ frames := 4, cells := 0, slots := 0, locals := 89 }) (va_Pc [.ref (ad 0), .int (nI (i)), .int (nI (j))] (Iv D (TY cI cZ cG cJ) A (WX ad cI cZ c g hid code ans dbt opn ply hps wr))) (vp_Si (fun r => r = nI (tldV c code ans dbt i j))) 0 0 (fun _ => False) := by
  refine Met.ofW (cc := cX1_told) (maxL := 3) (ret := (some .int)) (by decide) rfl ?_
  intro p e s m args below meth c9 s₁ B hml hv
  obtain ⟨rfl, hP, hD, hB⟩ := hv
  have hK := hB.1
  have hA := hB.2.1
  have hx := B.exec
  have hb := B.bytes
  have hr := B.returns
  have hts := atoms_spec (ws := wsX1_told) B.pre
  have hown : s.vm.findClass RX1 = some m.cls := findClass_of_methodNamed B.named
  have hlocks := B.notSynchronized
  have hS : va_S A s.heap s.heap [] := va_S.rf
  have hinX1 : ∀ w ∈ wsX10, w ∈ wsX1_told := by decide +kernel
  have lk31 := hts (.fieldLink RX1 31 "HiddenCandles" "guessed" "[I") (by decide +kernel)
  have lk35 := hts (.fieldLink RX1 35 "HiddenCandles" "answers" "[I") (by decide +kernel)
  have lk38 := hts (.fieldLink RX1 38 "HiddenCandles" "doubted" "[Z") (by decide +kernel)
  have hl := lv_entry ([.ref (ad 0), .int (nI (i)), .int (nI (j))]) (n := 3) (Nat.le_of_ble_eq_true rfl)
  rw [lg_entry_eq]
  generalize (lg_sl ([.ref (ad 0), .int (nI (i)), .int (nI (j))]) ++ List.replicate (3 - (lg_sl ([.ref (ad 0), .int (nI (i)), .int (nI (j))])).length) Slot.unset).toArray = ls at hl ⊢
  have hl : lv_has ls 3 [(0, .ref (ad 0)), (1, .int (nI (i))), (2, .int (nI (j)))] := hl
  obtain ⟨hc, hg, hco, hhid, hop⟩ := id hI
  have hq := qq_in hc
  have hop2 := op_lt hop
  refine lv_aload_n hx hb dX1_told_0 rfl (lv_at hl 0 rfl) ?_
  refine lv_iload_n hx hb dX1_told_1 rfl (lv_at hl 1 rfl) ?_
  refine x_csi (va_runV (As := [.int (nI (i))]) (rest := []) ⟨hx, hb, hml, hown, hts⟩ (c_X1_hasGuess l D cI cZ cG cJ A ad wr hpal c g hid code ans dbt opn ply hps (nI i) (hg)) (cwV 1 hts gX1_told_X1_hasGuess rfl rfl rfl (by decide +kernel) ⟨Nat.le_of_ble_eq_true rfl, Nat.le_of_ble_eq_true rfl⟩) (preV (ci := 1) (q0 := 0) hB va_S.rf hP hD rfl rfl) rfl rfl hl.1 rfl (lv_room (Nat.le_of_ble_eq_true rfl)) dX1_told_2 ⟨Nat.le_of_ble_eq_true rfl, Nat.le_of_ble_eq_true rfl⟩) ?_
  refine x_ti (y := bI (true)) (by rw [gsC_nI hi hg]) ?_
  refine x_zne (tgt := 18) hx hb dX1_told_5 (by decide) (fun c5 => ?_) (fun c5 => absurd c5 (by decide))
  refine lv_iload_n hx hb dX1_told_18 rfl (lv_at hl 2 rfl) ?_
  have hwj : nI j = nI j := rfl
  obtain hj9 | hj9 | hj9 | hj9 | hj9 | hj9 : j = 0 ∨ j = 1 ∨ j = 2 ∨ j = 3 ∨ j = 4 ∨ j = 5 := by omega
  · refine x_ti (y := nI 0) (by rw [hj9]) ?_
    refine lv_tableIn (tgt := 56) (off := 37) hx hb dX1_told_19 (by decide) (by decide) rfl (by decide) ?_
    refine lv_aload_n hx hb dX1_told_56 rfl (lv_at hl 0 rfl) ?_
    refine va_get (D := D) (ci := 1) (v := .ref (ad 1)) (C := RX1) (T := TX1) (N := 11) hx hb hts hinX1 hown hK hP 0 rfl rfl 5 (by decide) lk31 (fun _ h9 => h9) rfl dX1_told_57 ?_
    refine lv_iload_n hx hb dX1_told_60 rfl (lv_at hl 1 rfl) ?_
    refine x_iald hx hb hK hP 1 0 rfl rfl (i := i) (by omega) (by omega) dX1_told_61 ?_
    exact W.iret (v := nI (code i)) hx hb hr (fun t ht hW => ⟨_, rfl, (by
        subst hj9; rfl), ht⟩) (fun _ h => nomatch h) dX1_told_62
  · refine x_ti (y := nI 1) (by rw [hj9]) ?_
    refine lv_tableIn (tgt := 63) (off := 44) hx hb dX1_told_19 (by decide) (by decide) rfl (by decide) ?_
    refine lv_aload_n hx hb dX1_told_63 rfl (lv_at hl 0 rfl) ?_
    refine va_get (D := D) (ci := 1) (v := .ref (ad 2)) (C := RX1) (T := TX1) (N := 11) hx hb hts hinX1 hown hK hP 0 rfl rfl 6 (by decide) lk35 (fun _ h9 => h9) rfl dX1_told_64 ?_
    refine lv_iload_n hx hb dX1_told_67 rfl (lv_at hl 1 rfl) ?_
    refine x_iald hx hb hK hP 2 0 rfl rfl (i := i) (by omega) (by omega) dX1_told_68 ?_
    have hai := (hco i hi).2
    refine lv_iconst (v := nI (5)) hx hb dX1_told_69 (by decide) ?_
    refine lv_idiv hx hb dX1_told_70 (nI_ne0 (by omega) (by omega)) ?_
    refine x_ti (pk_div (by omega) (by omega) (by omega)) ?_
    exact W.iret (v := nI ((ans i) / 5)) hx hb hr (fun t ht hW => ⟨_, rfl, (by
        subst hj9; rfl), ht⟩) (fun _ h => nomatch h) dX1_told_71
  · refine x_ti (y := nI 2) (by rw [hj9]) ?_
    refine lv_tableIn (tgt := 72) (off := 53) hx hb dX1_told_19 (by decide) (by decide) rfl (by decide) ?_
    refine lv_aload_n hx hb dX1_told_72 rfl (lv_at hl 0 rfl) ?_
    refine va_get (D := D) (ci := 1) (v := .ref (ad 2)) (C := RX1) (T := TX1) (N := 11) hx hb hts hinX1 hown hK hP 0 rfl rfl 6 (by decide) lk35 (fun _ h9 => h9) rfl dX1_told_73 ?_
    refine lv_iload_n hx hb dX1_told_76 rfl (lv_at hl 1 rfl) ?_
    refine x_iald hx hb hK hP 2 0 rfl rfl (i := i) (by omega) (by omega) dX1_told_77 ?_
    have hai := (hco i hi).2
    refine lv_iconst (v := nI (5)) hx hb dX1_told_78 (by decide) ?_
    refine lv_irem hx hb dX1_told_79 (nI_ne0 (by omega) (by omega)) ?_
    refine x_ti (pk_rem (by omega) (by omega) (by omega)) ?_
    exact W.iret (v := nI ((ans i) % 5)) hx hb hr (fun t ht hW => ⟨_, rfl, (by
        subst hj9; rfl), ht⟩) (fun _ h => nomatch h) dX1_told_80
  · refine x_ti (y := nI 3) (by rw [hj9]) ?_
    refine lv_tableIn (tgt := 81) (off := 62) hx hb dX1_told_19 (by decide) (by decide) rfl (by decide) ?_
    refine lv_aload_n hx hb dX1_told_81 rfl (lv_at hl 0 rfl) ?_
    refine va_get (D := D) (ci := 1) (v := .ref (ad 3)) (C := RX1) (T := TX1) (N := 11) hx hb hts hinX1 hown hK hP 0 rfl rfl 7 (by decide) lk38 (fun _ h9 => h9) rfl dX1_told_82 ?_
    refine lv_iload_n hx hb dX1_told_85 rfl (lv_at hl 1 rfl) ?_
    refine x_zald hx hb hK hP 3 1 rfl rfl (i := i) (by omega) (by omega) dX1_told_86 ?_
    refine x_zeq (tgt := 94) hx hb dX1_told_87 (by decide) (fun c87 => ?_) (fun c87 => ?_)
    · skip
      refine lv_iconst (v := nI (0)) hx hb dX1_told_94 (by decide) ?_
      exact W.iret (v := nI (0)) hx hb hr (fun t ht hW => ⟨_, rfl, (by
          subst hj9; simp only [tldV, c87]; rfl), ht⟩) (fun _ h => nomatch h) dX1_told_95
    · skip
      refine lv_iconst (v := nI (1)) hx hb dX1_told_90 (by decide) ?_
      refine lv_goto (tgt := 95) hx hb dX1_told_91 (by decide) ?_
      exact W.iret (v := nI (1)) hx hb hr (fun t ht hW => ⟨_, rfl, (by
          subst hj9; simp only [tldV, c87]; rfl), ht⟩) (fun _ h => nomatch h) dX1_told_95
  · refine x_ti (y := nI 4) (by rw [hj9]) ?_
    refine lv_tableIn (tgt := 96) (off := 77) hx hb dX1_told_19 (by decide) (by decide) rfl (by decide) ?_
    refine lv_aload_n hx hb dX1_told_96 rfl (lv_at hl 0 rfl) ?_
    refine lv_iload_n hx hb dX1_told_97 rfl (lv_at hl 1 rfl) ?_
    refine lv_iconst (v := nI (1)) hx hb dX1_told_98 (by decide) ?_
    refine lv_iadd hx hb dX1_told_99 ?_
    refine x_ti (nI_add _ _) ?_
    refine x_csi (va_runV (As := [.int (nI (i + 1))]) (rest := []) ⟨hx, hb, hml, hown, hts⟩ (c_X1_countFitting l D cI cZ cG cJ A ad wr hpal c g hid code ans dbt opn ply hps (i + 1) (hc) (by omega) (code_le hco (by omega))) (cwV 1 hts gX1_told_X1_countFitting rfl rfl rfl (by decide +kernel) ⟨Nat.le_of_ble_eq_true rfl, Nat.le_of_ble_eq_true rfl⟩) (preV (ci := 1) (q0 := 0) hB va_S.rf hP hD rfl rfl) rfl rfl hl.1 rfl (lv_room (Nat.le_of_ble_eq_true rfl)) dX1_told_100 ⟨Nat.le_of_ble_eq_true rfl, Nat.le_of_ble_eq_true rfl⟩) ?_
    exact W.iret (v := nI (cN (fit c code ans dbt (i + 1)) (qq c))) hx hb hr (fun t ht hW => ⟨_, rfl, (by
        subst hj9; rfl), ht⟩) (fun _ h => nomatch h) dX1_told_103
  · refine x_ti (y := nI 5) (by rw [hj9]) ?_
    refine lv_tableIn (tgt := 104) (off := 85) hx hb dX1_told_19 (by decide) (by decide) rfl (by decide) ?_
    refine lv_aload_n hx hb dX1_told_104 rfl (lv_at hl 0 rfl) ?_
    refine lv_aload_n hx hb dX1_told_105 rfl (lv_at hl 0 rfl) ?_
    refine va_get (D := D) (ci := 1) (v := .ref (ad 1)) (C := RX1) (T := TX1) (N := 11) hx hb hts hinX1 hown hK hP 0 rfl rfl 5 (by decide) lk31 (fun _ h9 => h9) rfl dX1_told_106 ?_
    refine lv_iload_n hx hb dX1_told_109 rfl (lv_at hl 1 rfl) ?_
    refine x_iald hx hb hK hP 1 0 rfl rfl (i := i) (by omega) (by omega) dX1_told_110 ?_
    refine lv_aload_n hx hb dX1_told_111 rfl (lv_at hl 0 rfl) ?_
    refine va_get (D := D) (ci := 1) (v := .ref (ad 2)) (C := RX1) (T := TX1) (N := 11) hx hb hts hinX1 hown hK hP 0 rfl rfl 6 (by decide) lk35 (fun _ h9 => h9) rfl dX1_told_112 ?_
    refine lv_iload_n hx hb dX1_told_115 rfl (lv_at hl 1 rfl) ?_
    refine x_iald hx hb hK hP 2 0 rfl rfl (i := i) (by omega) (by omega) dX1_told_116 ?_
    have hai := (hco i hi).2
    refine x_csi (va_runV (As := [.int (nI (code i)), .int (nI (ans i))]) (rest := []) ⟨hx, hb, hml, hown, hts⟩ (c_X1_countAnswering l D cI cZ cG cJ A ad wr hpal c g hid code ans dbt opn ply hps (code i) (ans i) (hc) ((hco i hi).1) (hai)) (cwV 2 hts gX1_told_X1_countAnswering rfl rfl rfl (by decide +kernel) ⟨Nat.le_of_ble_eq_true rfl, Nat.le_of_ble_eq_true rfl⟩) (preV (ci := 1) (q0 := 0) hB va_S.rf hP hD rfl rfl) rfl rfl hl.1 rfl (lv_room (Nat.le_of_ble_eq_true rfl)) dX1_told_117 ⟨Nat.le_of_ble_eq_true rfl, Nat.le_of_ble_eq_true rfl⟩) ?_
    exact W.iret (v := nI (cN (fun k => decide (pins c (code i) k = (ans i))) (qq c))) hx hb hr (fun t ht hW => ⟨_, rfl, (by
        subst hj9; rfl), ht⟩) (fun _ h => nomatch h) dX1_told_120

set_option maxHeartbeats 4000000 in
set_option maxRecDepth 100000 in
theorem c_X1_count (l : Launch) (hfl : l.flags = flags0) (D : va_G) (cI cZ cG cJ : ClassId) (A : Nat → Prop) (ad : Nat → Nat) (wr : va_W) (hpal : Pals cI cG ad wr) (c : Nat) (g : Nat) (hid : Int32) (code : Nat → Nat) (ans : Nat → Nat) (dbt : Nat → Bool) (opn : Nat → Bool) (ply : Nat → Bool) (hps : Nat → Nat) (w : Int32) (hI : XI c g hid code ans dbt opn) : vx_Met l yX1_count wsX1_count ({ frames := 6, cells := 1, slots := 6, locals := 82 }) (va_Pc [.ref (ad 0), .int (w)] (Iv D (TY cI cZ cG cJ) A (WX ad cI cZ c g hid code ans dbt opn ply hps wr))) (va_Qi (fun r (u : Nat) => r = nI (cntV c g hid code ans dbt u) ∧ u < 7 ∧ w = nI u) (fun u => Wd D A (WX ad cI cZ c g hid code ans dbt opn ply hps wr)) A) (Xw D A (WX ad cI cZ c g hid code ans dbt opn ply hps wr) (fun E => E = "java/lang/IndexOutOfBoundsException" ∧ rgC 7 w = false)) 1 6 A := by
  refine vx_ofW (cc := cX1_count) (maxL := 2) (ret := (some .int)) (by decide) rfl ?_
  intro p e s m args below meth c9 s₁ B hml hnt hv
  obtain ⟨rfl, hP, hD, hB⟩ := hv
  have hK := hB.1
  have hA := hB.2.1
  have hx := B.exec
  have hb := B.bytes
  have hr := B.returns
  have hts := atoms_spec (ws := wsX1_count) B.pre
  have hown : s.vm.findClass RX1 = some m.cls := findClass_of_methodNamed B.named
  have hlocks := B.notSynchronized
  have hS : va_S A s.heap s.heap [] := va_S.rf
  have hflag : l.stackTraces = false := by rw [Launch.stackTraces, hfl]; decide
  have hinX0 : ∀ w ∈ wsX00, w ∈ wsX1_count := by decide +kernel
  have hinX1 : ∀ w ∈ wsX10, w ∈ wsX1_count := by decide +kernel
  have lk21 := hts (.fieldLink RX1 21 "HiddenCandles" "palette" "LHiddenCandles$Palette;") (by decide +kernel)
  have lk24 := hts (.fieldLink RX1 24 "HiddenCandles" "hidden" "I") (by decide +kernel)
  have lk28 := hts (.fieldLink RX1 28 "HiddenCandles" "guesses" "I") (by decide +kernel)
  have lk42 := hts (.fieldLink RX1 42 "HiddenCandles" "open" "[Z") (by decide +kernel)
  have hl := lv_entry ([.ref (ad 0), .int (w)]) (n := 2) (Nat.le_of_ble_eq_true rfl)
  rw [lg_entry_eq]
  generalize (lg_sl ([.ref (ad 0), .int (w)]) ++ List.replicate (2 - (lg_sl ([.ref (ad 0), .int (w)])).length) Slot.unset).toArray = ls at hl ⊢
  have hl : lv_has ls 2 [(0, .ref (ad 0)), (1, .int (w))] := hl
  obtain ⟨H, eH⟩ : ∃ q, q = s.heap := ⟨_, rfl⟩
  obtain ⟨locs, eL⟩ : ∃ q : List Loc, q = [] := ⟨_, rfl⟩
  replace hP : va_P D vwCl (WX ad cI cZ c g hid code ans dbt opn ply hps wr) H := by rw [eH]; exact hP
  replace hS : va_S A s.heap H locs := by rw [eH, eL]; exact hS
  rw [show W p l e _ s m _ below meth c9 s.heap [] = W p l e _ s m _ below meth c9 H locs from by rw [eH, eL]]
  clear eH eL
  obtain ⟨hc, hg, hco, hhid, hop⟩ := id hI
  have hq := qq_in hc
  have hop2 := op_lt hop
  refine lv_iload_n hx hb dX1_count_0 rfl (lv_at hl 1 rfl) ?_
  rcases sw_cases (w) 7 6 (by decide) (by decide) with hsw | ⟨j9, hj9, hwj⟩
  · refine lv_tableOut (tgt := 97) hx hb dX1_count_1 hsw (by decide) ?_
    obtain ⟨sa9, hsa9⟩ := hB.2.2.2.2.2 (124, "what is counted is 0 to 6") (by decide)
    have hat9 : ∀ w ∈ (vx_atS RX1 99 "java/lang/IndexOutOfBoundsException" ["java/lang/RuntimeException", "java/lang/Exception"]), w.before _ s = true := vx_hat (B := [.castable "java/lang/IndexOutOfBoundsException" "java/lang/IndexOutOfBoundsException", .declares (Bundle.initS "java/lang/RuntimeException"), .declares (Bundle.initS "java/lang/Exception"), .declares (Bundle.initS Bundle.tN)]) (fun w hw => hts w (by first | exact List.mem_cons_of_mem _ (List.mem_append_right _ hw) | exact List.mem_cons_of_mem _ (List.mem_append_left _ (List.mem_append_right _ hw)) | exact List.mem_cons_of_mem _ (List.mem_append_left _ (List.mem_append_left _ (List.mem_append_right _ hw))))) (by decide +kernel) (vx_c (va_Nw.use rfl (hB.2.2.2.2.1 _ (by simp [Nws]))) (vx_c (va_Nw.use rfl (hB.2.2.2.2.1 _ (by simp [Nws]))) (vx_c (va_Nw.use rfl (hB.2.2.2.2.1 _ (by simp [Nws]))) (vx_c (va_Nw.use rfl (hB.2.2.2.2.1 _ (by simp [Nws]))) vx_n))))
    exact vx_throwS (A := A) (names := ["java/lang/RuntimeException", "java/lang/Exception"]) (cls := "java/lang/IndexOutOfBoundsException") hx hb hflag hown (by decide +kernel) (by decide +kernel) (hts _ (by decide +kernel)) (hts _ (by decide +kernel)) hsa9 hat9 (by decide +kernel) hB.2.2.1 hB.2.2.2.1 hS (hl.1.trans hml.symm) dX1_count_97 dX1_count_100 dX1_count_101 dX1_count_103 dX1_count_106 (fun x hx9 => (hnt x hx9).elim) (Nat.le_of_ble_eq_true rfl) (Nat.le_of_ble_eq_true rfl) (Nat.le_of_ble_eq_true rfl) (Nat.le_of_ble_eq_true rfl) hlocks (fun t hvm hsz hk => ⟨(), trivial, ⟨(by
        exact ⟨rfl, rgC_f (by decide) hsw⟩), ⟨va_P.kept hP (fun k q hk9 => hk _ (hP k q hk9).lt), hD⟩⟩, ⟨Nat.le_trans hS.1 hsz, fun q h1 h2 => (hk q (Nat.lt_of_lt_of_le h1 hS.1)).trans (hS.2.1 q h1 h2)⟩⟩) hS.2.2 (Nat.le_of_ble_eq_true rfl) (Nat.le_of_ble_eq_true rfl)
  · obtain rfl | rfl | rfl | rfl | rfl | rfl | rfl : j9 = 0 ∨ j9 = 1 ∨ j9 = 2 ∨ j9 = 3 ∨ j9 = 4 ∨ j9 = 5 ∨ j9 = 6 := by omega
    · refine x_ti (y := nI 0) hwj ?_
      refine lv_tableIn (tgt := 44) (off := 43) hx hb dX1_count_1 (by decide) (by decide) rfl (by decide) ?_
      refine lv_aload_n hx hb dX1_count_44 rfl (lv_at hl 0 rfl) ?_
      refine va_get (D := D) (ci := 1) (v := .ref (pal ad c)) (C := RX1) (T := TX1) (N := 11) hx hb hts hinX1 hown hK hP 0 rfl rfl 2 (by decide) lk21 (fun _ h9 => h9) rfl dX1_count_45 ?_
      refine x_colours hx hb hts hinX0 hown hK hP (palX hpal hc) (hB.2.2.2.2.1 _ (by simp [Nws])) dX1_count_48 ?_
      refine W.widen (k := 1) (n := 6) (Nat.le_of_ble_eq_true rfl) (Nat.le_of_ble_eq_true rfl) ?_
      exact vx_ret (W.iret (v := nI (c)) hx hb hr (fun t ht hW => ⟨⟨_, 0, rfl, (by
          exact ⟨rfl, by decide, hwj⟩), ⟨by rw [ht]; exact hP, hD⟩⟩, hS.F ht⟩) hS.2.2 dX1_count_51)
    · refine x_ti (y := nI 1) hwj ?_
      refine lv_tableIn (tgt := 52) (off := 51) hx hb dX1_count_1 (by decide) (by decide) rfl (by decide) ?_
      refine lv_aload_n hx hb dX1_count_52 rfl (lv_at hl 0 rfl) ?_
      refine va_get (D := D) (ci := 1) (v := .ref (pal ad c)) (C := RX1) (T := TX1) (N := 11) hx hb hts hinX1 hown hK hP 0 rfl rfl 2 (by decide) lk21 (fun _ h9 => h9) rfl dX1_count_53 ?_
      refine x_codes hx hb hts hinX0 hown hK hP (palX hpal hc) (hB.2.2.2.2.1 _ (by simp [Nws])) dX1_count_56 ?_
      refine W.widen (k := 1) (n := 6) (Nat.le_of_ble_eq_true rfl) (Nat.le_of_ble_eq_true rfl) ?_
      exact vx_ret (W.iret (v := nI (qq c)) hx hb hr (fun t ht hW => ⟨⟨_, 1, rfl, (by
          exact ⟨rfl, by decide, hwj⟩), ⟨by rw [ht]; exact hP, hD⟩⟩, hS.F ht⟩) hS.2.2 dX1_count_59)
    · refine x_ti (y := nI 2) hwj ?_
      refine lv_tableIn (tgt := 60) (off := 59) hx hb dX1_count_1 (by decide) (by decide) rfl (by decide) ?_
      refine lv_aload_n hx hb dX1_count_60 rfl (lv_at hl 0 rfl) ?_
      refine va_get (D := D) (ci := 1) (v := .int (nI (g))) (C := RX1) (T := TX1) (N := 11) hx hb hts hinX1 hown hK hP 0 rfl rfl 4 (by decide) lk28 (fun _ h9 => h9) rfl dX1_count_61 ?_
      refine W.widen (k := 1) (n := 6) (Nat.le_of_ble_eq_true rfl) (Nat.le_of_ble_eq_true rfl) ?_
      exact vx_ret (W.iret (v := nI (g)) hx hb hr (fun t ht hW => ⟨⟨_, 2, rfl, (by
          exact ⟨rfl, by decide, hwj⟩), ⟨by rw [ht]; exact hP, hD⟩⟩, hS.F ht⟩) hS.2.2 dX1_count_64)
    · refine x_ti (y := nI 3) hwj ?_
      refine lv_tableIn (tgt := 65) (off := 64) hx hb dX1_count_1 (by decide) (by decide) rfl (by decide) ?_
      refine lv_aload_n hx hb dX1_count_65 rfl (lv_at hl 0 rfl) ?_
      refine va_get (D := D) (ci := 1) (v := .ref (ad 4)) (C := RX1) (T := TX1) (N := 11) hx hb hts hinX1 hown hK hP 0 rfl rfl 8 (by decide) lk42 (fun _ h9 => h9) rfl dX1_count_66 ?_
      refine x_csi (va_runS (As := [.ref (ad 4)]) (rest := []) ⟨hx, hb, hml, hown, hts⟩ (c_X1_size l D cI cZ cG cJ A (WX ad cI cZ c g hid code ans dbt opn ply hps wr) (ad 4) 4 opn (rfl)) (va_cwS 1 hts gX1_count_X1_size rfl rfl rfl (by decide +kernel) ⟨Nat.le_of_ble_eq_true rfl, Nat.le_of_ble_eq_true rfl⟩) (preS hB hS hP hD) rfl rfl hl.1 rfl (lv_room (Nat.le_of_ble_eq_true rfl)) dX1_count_69 ⟨Nat.le_of_ble_eq_true rfl, Nat.le_of_ble_eq_true rfl⟩) ?_
      refine W.widen (k := 1) (n := 6) (Nat.le_of_ble_eq_true rfl) (Nat.le_of_ble_eq_true rfl) ?_
      exact vx_ret (W.iret (v := nI (cN opn 81)) hx hb hr (fun t ht hW => ⟨⟨_, 3, rfl, (by
          exact ⟨by rw [cN_congr 81 hop]; rfl, by decide, hwj⟩), ⟨by rw [ht]; exact hP, hD⟩⟩, hS.F ht⟩) hS.2.2 dX1_count_72)
    · refine x_ti (y := nI 4) hwj ?_
      refine lv_tableIn (tgt := 73) (off := 72) hx hb dX1_count_1 (by decide) (by decide) rfl (by decide) ?_
      refine lv_aload_n hx hb dX1_count_73 rfl (lv_at hl 0 rfl) ?_
      refine va_get (D := D) (ci := 1) (v := .int (hid)) (C := RX1) (T := TX1) (N := 11) hx hb hts hinX1 hown hK hP 0 rfl rfl 3 (by decide) lk24 (fun _ h9 => h9) rfl dX1_count_74 ?_
      refine lv_iconst (v := (-1)) hx hb dX1_count_77 (by decide) ?_
      refine lv_icmp_ne (tgt := 85) hx hb dX1_count_78 (by decide) (fun c78 => ?_) (fun c78 => ?_)
      · skip
        refine lv_iconst (v := nI (1)) hx hb dX1_count_85 (by decide) ?_
        refine W.widen (k := 1) (n := 6) (Nat.le_of_ble_eq_true rfl) (Nat.le_of_ble_eq_true rfl) ?_
        exact vx_ret (W.iret (v := nI (1)) hx hb hr (fun t ht hW => ⟨⟨_, 4, rfl, (by
            refine ⟨?_, by decide, hwj⟩
            first | (simp only [cntV, if_pos c78]; done) | (simp only [cntV, if_neg c78]; done)), ⟨by rw [ht]; exact hP, hD⟩⟩, hS.F ht⟩) hS.2.2 dX1_count_86)
      · skip
        refine lv_iconst (v := nI (0)) hx hb dX1_count_81 (by decide) ?_
        refine lv_goto (tgt := 86) hx hb dX1_count_82 (by decide) ?_
        refine W.widen (k := 1) (n := 6) (Nat.le_of_ble_eq_true rfl) (Nat.le_of_ble_eq_true rfl) ?_
        exact vx_ret (W.iret (v := nI (0)) hx hb hr (fun t ht hW => ⟨⟨_, 4, rfl, (by
            refine ⟨?_, by decide, hwj⟩
            first | (simp only [cntV, if_pos c78]; done) | (simp only [cntV, if_neg c78]; done)), ⟨by rw [ht]; exact hP, hD⟩⟩, hS.F ht⟩) hS.2.2 dX1_count_86)
    · refine x_ti (y := nI 5) hwj ?_
      refine lv_tableIn (tgt := 87) (off := 86) hx hb dX1_count_1 (by decide) (by decide) rfl (by decide) ?_
      refine lv_aload_n hx hb dX1_count_87 rfl (lv_at hl 0 rfl) ?_
      refine x_csi (va_runV (As := []) (rest := []) ⟨hx, hb, hml, hown, hts⟩ (c_X1_countAllBlack l D cI cZ cG cJ A ad wr hpal c g hid code ans dbt opn ply hps (hg) (hc) (hco)) (cwV 0 hts gX1_count_X1_countAllBlack rfl rfl rfl (by decide +kernel) ⟨Nat.le_of_ble_eq_true rfl, Nat.le_of_ble_eq_true rfl⟩) (preV (ci := 1) (q0 := 0) hB hS hP hD rfl rfl) rfl rfl hl.1 rfl (lv_room (Nat.le_of_ble_eq_true rfl)) dX1_count_88 ⟨Nat.le_of_ble_eq_true rfl, Nat.le_of_ble_eq_true rfl⟩) ?_
      refine W.widen (k := 1) (n := 6) (Nat.le_of_ble_eq_true rfl) (Nat.le_of_ble_eq_true rfl) ?_
      exact vx_ret (W.iret (v := nI (cN (fun z => decide (ans z = 20)) g)) hx hb hr (fun t ht hW => ⟨⟨_, 5, rfl, (by
          exact ⟨rfl, by decide, hwj⟩), ⟨by rw [ht]; exact hP, hD⟩⟩, hS.F ht⟩) hS.2.2 dX1_count_91)
    · refine x_ti (y := nI 6) hwj ?_
      refine lv_tableIn (tgt := 92) (off := 91) hx hb dX1_count_1 (by decide) (by decide) rfl (by decide) ?_
      refine lv_aload_n hx hb dX1_count_92 rfl (lv_at hl 0 rfl) ?_
      refine x_csi (va_runV (As := []) (rest := []) ⟨hx, hb, hml, hown, hts⟩ (c_X1_countDoubted l D cI cZ cG cJ A ad wr hpal c g hid code ans dbt opn ply hps (hg)) (cwV 0 hts gX1_count_X1_countDoubted rfl rfl rfl (by decide +kernel) ⟨Nat.le_of_ble_eq_true rfl, Nat.le_of_ble_eq_true rfl⟩) (preV (ci := 1) (q0 := 0) hB hS hP hD rfl rfl) rfl rfl hl.1 rfl (lv_room (Nat.le_of_ble_eq_true rfl)) dX1_count_93 ⟨Nat.le_of_ble_eq_true rfl, Nat.le_of_ble_eq_true rfl⟩) ?_
      refine W.widen (k := 1) (n := 6) (Nat.le_of_ble_eq_true rfl) (Nat.le_of_ble_eq_true rfl) ?_
      exact vx_ret (W.iret (v := nI (cN dbt g)) hx hb hr (fun t ht hW => ⟨⟨_, 6, rfl, (by
          exact ⟨rfl, by decide, hwj⟩), ⟨by rw [ht]; exact hP, hD⟩⟩, hS.F ht⟩) hS.2.2 dX1_count_96)

set_option maxHeartbeats 4000000 in
set_option maxRecDepth 100000 in
theorem c_X1_countP (l : Launch) (D : va_G) (cI cZ cG cJ : ClassId) (A : Nat → Prop) (ad : Nat → Nat) (wr : va_W) (hpal : Pals cI cG ad wr) (c : Nat) (g : Nat) (hid : Int32) (code : Nat → Nat) (ans : Nat → Nat) (dbt : Nat → Bool) (opn : Nat → Bool) (ply : Nat → Bool) (hps : Nat → Nat) (j : Nat) (hI : XI c g hid code ans dbt opn) (hj : j < 7) : Met l yX1_count wsX1_count ({ frames := 1, cells := 0, slots := 0, locals := 22 }) (va_Pc [.ref (ad 0), .int (nI (j))] (Iv D (TY cI cZ cG cJ) A (WX ad cI cZ c g hid code ans dbt opn ply hps wr))) (vp_Si (fun r => r = nI (cntV c g hid code ans dbt j))) 0 0 (fun _ => False) := by
  refine Met.ofW (cc := cX1_count) (maxL := 2) (ret := (some .int)) (by decide) rfl ?_
  intro p e s m args below meth c9 s₁ B hml hv
  obtain ⟨rfl, hP, hD, hB⟩ := hv
  have hK := hB.1
  have hA := hB.2.1
  have hx := B.exec
  have hb := B.bytes
  have hr := B.returns
  have hts := atoms_spec (ws := wsX1_count) B.pre
  have hown : s.vm.findClass RX1 = some m.cls := findClass_of_methodNamed B.named
  have hlocks := B.notSynchronized
  have hS : va_S A s.heap s.heap [] := va_S.rf
  have hinX0 : ∀ w ∈ wsX00, w ∈ wsX1_count := by decide +kernel
  have hinX1 : ∀ w ∈ wsX10, w ∈ wsX1_count := by decide +kernel
  have lk21 := hts (.fieldLink RX1 21 "HiddenCandles" "palette" "LHiddenCandles$Palette;") (by decide +kernel)
  have lk24 := hts (.fieldLink RX1 24 "HiddenCandles" "hidden" "I") (by decide +kernel)
  have lk28 := hts (.fieldLink RX1 28 "HiddenCandles" "guesses" "I") (by decide +kernel)
  have lk42 := hts (.fieldLink RX1 42 "HiddenCandles" "open" "[Z") (by decide +kernel)
  have hl := lv_entry ([.ref (ad 0), .int (nI (j))]) (n := 2) (Nat.le_of_ble_eq_true rfl)
  rw [lg_entry_eq]
  generalize (lg_sl ([.ref (ad 0), .int (nI (j))]) ++ List.replicate (2 - (lg_sl ([.ref (ad 0), .int (nI (j))])).length) Slot.unset).toArray = ls at hl ⊢
  have hl : lv_has ls 2 [(0, .ref (ad 0)), (1, .int (nI (j)))] := hl
  obtain ⟨hc, hg, hco, hhid, hop⟩ := id hI
  have hq := qq_in hc
  have hop2 := op_lt hop
  refine lv_iload_n hx hb dX1_count_0 rfl (lv_at hl 1 rfl) ?_
  have hwj : nI j = nI j := rfl
  obtain hj9 | hj9 | hj9 | hj9 | hj9 | hj9 | hj9 : j = 0 ∨ j = 1 ∨ j = 2 ∨ j = 3 ∨ j = 4 ∨ j = 5 ∨ j = 6 := by omega
  · refine x_ti (y := nI 0) (by rw [hj9]) ?_
    refine lv_tableIn (tgt := 44) (off := 43) hx hb dX1_count_1 (by decide) (by decide) rfl (by decide) ?_
    refine lv_aload_n hx hb dX1_count_44 rfl (lv_at hl 0 rfl) ?_
    refine va_get (D := D) (ci := 1) (v := .ref (pal ad c)) (C := RX1) (T := TX1) (N := 11) hx hb hts hinX1 hown hK hP 0 rfl rfl 2 (by decide) lk21 (fun _ h9 => h9) rfl dX1_count_45 ?_
    refine x_colours hx hb hts hinX0 hown hK hP (palX hpal hc) (hB.2.2.2.2.1 _ (by simp [Nws])) dX1_count_48 ?_
    exact W.iret (v := nI (c)) hx hb hr (fun t ht hW => ⟨_, rfl, (by
        subst hj9; rfl), ht⟩) (fun _ h => nomatch h) dX1_count_51
  · refine x_ti (y := nI 1) (by rw [hj9]) ?_
    refine lv_tableIn (tgt := 52) (off := 51) hx hb dX1_count_1 (by decide) (by decide) rfl (by decide) ?_
    refine lv_aload_n hx hb dX1_count_52 rfl (lv_at hl 0 rfl) ?_
    refine va_get (D := D) (ci := 1) (v := .ref (pal ad c)) (C := RX1) (T := TX1) (N := 11) hx hb hts hinX1 hown hK hP 0 rfl rfl 2 (by decide) lk21 (fun _ h9 => h9) rfl dX1_count_53 ?_
    refine x_codes hx hb hts hinX0 hown hK hP (palX hpal hc) (hB.2.2.2.2.1 _ (by simp [Nws])) dX1_count_56 ?_
    exact W.iret (v := nI (qq c)) hx hb hr (fun t ht hW => ⟨_, rfl, (by
        subst hj9; rfl), ht⟩) (fun _ h => nomatch h) dX1_count_59
  · refine x_ti (y := nI 2) (by rw [hj9]) ?_
    refine lv_tableIn (tgt := 60) (off := 59) hx hb dX1_count_1 (by decide) (by decide) rfl (by decide) ?_
    refine lv_aload_n hx hb dX1_count_60 rfl (lv_at hl 0 rfl) ?_
    refine va_get (D := D) (ci := 1) (v := .int (nI (g))) (C := RX1) (T := TX1) (N := 11) hx hb hts hinX1 hown hK hP 0 rfl rfl 4 (by decide) lk28 (fun _ h9 => h9) rfl dX1_count_61 ?_
    exact W.iret (v := nI (g)) hx hb hr (fun t ht hW => ⟨_, rfl, (by
        subst hj9; rfl), ht⟩) (fun _ h => nomatch h) dX1_count_64
  · refine x_ti (y := nI 3) (by rw [hj9]) ?_
    refine lv_tableIn (tgt := 65) (off := 64) hx hb dX1_count_1 (by decide) (by decide) rfl (by decide) ?_
    refine lv_aload_n hx hb dX1_count_65 rfl (lv_at hl 0 rfl) ?_
    refine va_get (D := D) (ci := 1) (v := .ref (ad 4)) (C := RX1) (T := TX1) (N := 11) hx hb hts hinX1 hown hK hP 0 rfl rfl 8 (by decide) lk42 (fun _ h9 => h9) rfl dX1_count_66 ?_
    refine x_csi (va_runS (As := [.ref (ad 4)]) (rest := []) ⟨hx, hb, hml, hown, hts⟩ (c_X1_size l D cI cZ cG cJ A (WX ad cI cZ c g hid code ans dbt opn ply hps wr) (ad 4) 4 opn (rfl)) (va_cwS 1 hts gX1_count_X1_size rfl rfl rfl (by decide +kernel) ⟨Nat.le_of_ble_eq_true rfl, Nat.le_of_ble_eq_true rfl⟩) (preS hB va_S.rf hP hD) rfl rfl hl.1 rfl (lv_room (Nat.le_of_ble_eq_true rfl)) dX1_count_69 ⟨Nat.le_of_ble_eq_true rfl, Nat.le_of_ble_eq_true rfl⟩) ?_
    exact W.iret (v := nI (cN opn 81)) hx hb hr (fun t ht hW => ⟨_, rfl, (by
        subst hj9; rw [cN_congr 81 hop]; rfl), ht⟩) (fun _ h => nomatch h) dX1_count_72
  · refine x_ti (y := nI 4) (by rw [hj9]) ?_
    refine lv_tableIn (tgt := 73) (off := 72) hx hb dX1_count_1 (by decide) (by decide) rfl (by decide) ?_
    refine lv_aload_n hx hb dX1_count_73 rfl (lv_at hl 0 rfl) ?_
    refine va_get (D := D) (ci := 1) (v := .int (hid)) (C := RX1) (T := TX1) (N := 11) hx hb hts hinX1 hown hK hP 0 rfl rfl 3 (by decide) lk24 (fun _ h9 => h9) rfl dX1_count_74 ?_
    refine lv_iconst (v := (-1)) hx hb dX1_count_77 (by decide) ?_
    refine lv_icmp_ne (tgt := 85) hx hb dX1_count_78 (by decide) (fun c78 => ?_) (fun c78 => ?_)
    · skip
      refine lv_iconst (v := nI (1)) hx hb dX1_count_85 (by decide) ?_
      exact W.iret (v := nI (1)) hx hb hr (fun t ht hW => ⟨_, rfl, (by
          subst hj9; first | (simp only [cntV, if_pos c78]; done) | (simp only [cntV, if_neg c78]; done)), ht⟩) (fun _ h => nomatch h) dX1_count_86
    · skip
      refine lv_iconst (v := nI (0)) hx hb dX1_count_81 (by decide) ?_
      refine lv_goto (tgt := 86) hx hb dX1_count_82 (by decide) ?_
      exact W.iret (v := nI (0)) hx hb hr (fun t ht hW => ⟨_, rfl, (by
          subst hj9; first | (simp only [cntV, if_pos c78]; done) | (simp only [cntV, if_neg c78]; done)), ht⟩) (fun _ h => nomatch h) dX1_count_86
  · refine x_ti (y := nI 5) (by rw [hj9]) ?_
    refine lv_tableIn (tgt := 87) (off := 86) hx hb dX1_count_1 (by decide) (by decide) rfl (by decide) ?_
    refine lv_aload_n hx hb dX1_count_87 rfl (lv_at hl 0 rfl) ?_
    refine x_csi (va_runV (As := []) (rest := []) ⟨hx, hb, hml, hown, hts⟩ (c_X1_countAllBlack l D cI cZ cG cJ A ad wr hpal c g hid code ans dbt opn ply hps (hg) (hc) (hco)) (cwV 0 hts gX1_count_X1_countAllBlack rfl rfl rfl (by decide +kernel) ⟨Nat.le_of_ble_eq_true rfl, Nat.le_of_ble_eq_true rfl⟩) (preV (ci := 1) (q0 := 0) hB va_S.rf hP hD rfl rfl) rfl rfl hl.1 rfl (lv_room (Nat.le_of_ble_eq_true rfl)) dX1_count_88 ⟨Nat.le_of_ble_eq_true rfl, Nat.le_of_ble_eq_true rfl⟩) ?_
    exact W.iret (v := nI (cN (fun z => decide (ans z = 20)) g)) hx hb hr (fun t ht hW => ⟨_, rfl, (by
        subst hj9; rfl), ht⟩) (fun _ h => nomatch h) dX1_count_91
  · refine x_ti (y := nI 6) (by rw [hj9]) ?_
    refine lv_tableIn (tgt := 92) (off := 91) hx hb dX1_count_1 (by decide) (by decide) rfl (by decide) ?_
    refine lv_aload_n hx hb dX1_count_92 rfl (lv_at hl 0 rfl) ?_
    refine x_csi (va_runV (As := []) (rest := []) ⟨hx, hb, hml, hown, hts⟩ (c_X1_countDoubted l D cI cZ cG cJ A ad wr hpal c g hid code ans dbt opn ply hps (hg)) (cwV 0 hts gX1_count_X1_countDoubted rfl rfl rfl (by decide +kernel) ⟨Nat.le_of_ble_eq_true rfl, Nat.le_of_ble_eq_true rfl⟩) (preV (ci := 1) (q0 := 0) hB va_S.rf hP hD rfl rfl) rfl rfl hl.1 rfl (lv_room (Nat.le_of_ble_eq_true rfl)) dX1_count_93 ⟨Nat.le_of_ble_eq_true rfl, Nat.le_of_ble_eq_true rfl⟩) ?_
    exact W.iret (v := nI (cN dbt g)) hx hb hr (fun t ht hW => ⟨_, rfl, (by
        subst hj9; rfl), ht⟩) (fun _ h => nomatch h) dX1_count_96

set_option maxHeartbeats 4000000 in
set_option maxRecDepth 100000 in
theorem c_X1_isPossible (l : Launch) (hfl : l.flags = flags0) (D : va_G) (cI cZ cG cJ : ClassId) (A : Nat → Prop) (ad : Nat → Nat) (wr : va_W) (hpal : Pals cI cG ad wr) (c : Nat) (g : Nat) (hid : Int32) (code : Nat → Nat) (ans : Nat → Nat) (dbt : Nat → Bool) (opn : Nat → Bool) (ply : Nat → Bool) (hps : Nat → Nat) (v : Int32) (hI : XI c g hid code ans dbt opn) : vx_Met l yX1_isPossible wsX1_isPossible ({ frames := 7, cells := 1, slots := 6, locals := 103 }) (va_Pc [.ref (ad 0), .int (v)] (Iv D (TY cI cZ cG cJ) A (WX ad cI cZ c g hid code ans dbt opn ply hps wr))) (va_Qi (fun r (u : Nat) => r = bI (opS c g code ans dbt u) ∧ u < qq c ∧ v = nI u) (fun u => Wd D A (WX ad cI cZ c g hid code ans dbt opn ply hps wr)) A) (Xw D A (WX ad cI cZ c g hid code ans dbt opn ply hps wr) (fun E => E = "java/lang/IndexOutOfBoundsException" ∧ hasC c v = false)) 1 6 A := by
  refine vx_ofW (cc := cX1_isPossible) (maxL := 2) (ret := (some .boolean)) (by decide) rfl ?_
  intro p e s m args below meth c9 s₁ B hml hnt hv
  obtain ⟨rfl, hP, hD, hB⟩ := hv
  have hK := hB.1
  have hA := hB.2.1
  have hx := B.exec
  have hb := B.bytes
  have hr := B.returns
  have hts := atoms_spec (ws := wsX1_isPossible) B.pre
  have hown : s.vm.findClass RX1 = some m.cls := findClass_of_methodNamed B.named
  have hlocks := B.notSynchronized
  have hS : va_S A s.heap s.heap [] := va_S.rf
  have hflag : l.stackTraces = false := by rw [Launch.stackTraces, hfl]; decide
  have hinX1 : ∀ w ∈ wsX10, w ∈ wsX1_isPossible := by decide +kernel
  have lk42 := hts (.fieldLink RX1 42 "HiddenCandles" "open" "[Z") (by decide +kernel)
  have hl := lv_entry ([.ref (ad 0), .int (v)]) (n := 2) (Nat.le_of_ble_eq_true rfl)
  rw [lg_entry_eq]
  generalize (lg_sl ([.ref (ad 0), .int (v)]) ++ List.replicate (2 - (lg_sl ([.ref (ad 0), .int (v)])).length) Slot.unset).toArray = ls at hl ⊢
  have hl : lv_has ls 2 [(0, .ref (ad 0)), (1, .int (v))] := hl
  obtain ⟨H, eH⟩ : ∃ q, q = s.heap := ⟨_, rfl⟩
  obtain ⟨locs, eL⟩ : ∃ q : List Loc, q = [] := ⟨_, rfl⟩
  replace hP : va_P D vwCl (WX ad cI cZ c g hid code ans dbt opn ply hps wr) H := by rw [eH]; exact hP
  replace hS : va_S A s.heap H locs := by rw [eH, eL]; exact hS
  rw [show W p l e _ s m _ below meth c9 s.heap [] = W p l e _ s m _ below meth c9 H locs from by rw [eH, eL]]
  clear eH eL
  obtain ⟨hc, hg, hco, hhid, hop⟩ := id hI
  have hq := qq_in hc
  have hop2 := op_lt hop
  refine lv_aload_n hx hb dX1_isPossible_0 rfl (lv_at hl 0 rfl) ?_
  refine lv_iload_n hx hb dX1_isPossible_1 rfl (lv_at hl 1 rfl) ?_
  refine vx_callv (vx_runV (As := [.int (v)]) (rest := []) ⟨hx, hb, hml, hown, hts⟩ (c_X1_needCode l hfl D cI cZ cG cJ A ad wr hpal c g hid code ans dbt opn ply hps v (hc)) (cwV 1 hts gX1_isPossible_X1_needCode rfl rfl rfl (by decide +kernel) ⟨Nat.le_of_ble_eq_true rfl, Nat.le_of_ble_eq_true rfl⟩) (preV (ci := 1) (q0 := 0) hB hS hP hD rfl rfl) rfl rfl hl.1 rfl (lv_room (Nat.le_of_ble_eq_true rfl)) dX1_isPossible_2 ⟨Nat.le_of_ble_eq_true rfl, Nat.le_of_ble_eq_true rfl⟩) hS (fun q _ h => h) (fun q h => h) (fun q _ h => h) (fun E ce q9 u9 t9 H1 locs1 ht9 hvm9 hpx8 hBx hz9 hk9 hS hq9 hv9 hcl9 => ?_) (fun u_2 t9 H1 locs1 ht9 hvm9 hw_2 hBw hz9 hk9 hS => ?_)
  · obtain ⟨hpx9, hP1, hD1⟩ := hBx
    rw [ht9] at hP1
    exact vx_out (fun x hx9 => (hnt x hx9).elim) hlocks hq9 hv9 hcl9 (fun t ht hvm => ⟨(), trivial, ⟨(by
        exact hpx9), by rw [ht]; exact hP1, hD1⟩, hS.F ht⟩) hS.2.2 (by omega) (by omega)
  obtain ⟨hP, hD⟩ := hBw
  rw [ht9] at hP
  generalize H1 = H at hP hS ⊢
  generalize locs1 = locs at hS ⊢
  replace hP : va_P D vwCl (WX ad cI cZ c g hid code ans dbt opn ply hps wr) H := hP
  replace hD : va_D A (WX ad cI cZ c g hid code ans dbt opn ply hps wr) := hD
  obtain ⟨k, hk, rfl⟩ := hasC_of hc hw_2
  refine lv_aload_n hx hb dX1_isPossible_5 rfl (lv_at hl 0 rfl) ?_
  refine va_get (D := D) (ci := 1) (v := .ref (ad 4)) (C := RX1) (T := TX1) (N := 11) hx hb hts hinX1 hown hK hP 0 rfl rfl 8 (by decide) lk42 (fun _ h9 => h9) rfl dX1_isPossible_6 ?_
  refine lv_iload_n hx hb dX1_isPossible_9 rfl (lv_at hl 1 rfl) ?_
  refine x_csi (va_runS (As := [.ref (ad 4), .int (nI (k))]) (rest := []) ⟨hx, hb, hml, hown, hts⟩ (c_X1_isIn l D cI cZ cG cJ A (WX ad cI cZ c g hid code ans dbt opn ply hps wr) (ad 4) 4 opn k (rfl) (by omega)) (va_cwS 2 hts gX1_isPossible_X1_isIn rfl rfl rfl (by decide +kernel) ⟨Nat.le_of_ble_eq_true rfl, Nat.le_of_ble_eq_true rfl⟩) (preS hB hS hP hD) rfl rfl hl.1 rfl (lv_room (Nat.le_of_ble_eq_true rfl)) dX1_isPossible_10 ⟨Nat.le_of_ble_eq_true rfl, Nat.le_of_ble_eq_true rfl⟩) ?_
  refine W.widen (k := 1) (n := 6) (Nat.le_of_ble_eq_true rfl) (Nat.le_of_ble_eq_true rfl) ?_
  exact vx_ret (W.zret (v := bI (opn k)) hx hb hr (bI_narrow _) (fun t ht hW => ⟨⟨_, k, rfl, (by
      exact ⟨by rw [hop k (by omega)], hk, rfl⟩), ⟨by rw [ht]; exact hP, hD⟩⟩, hS.F ht⟩) hS.2.2 dX1_isPossible_13)

set_option maxHeartbeats 4000000 in
set_option maxRecDepth 100000 in
theorem c_X1_possible (l : Launch) (hfl : l.flags = flags0) (D : va_G) (cI cZ cG cJ : ClassId) (A : Nat → Prop) (ad : Nat → Nat) (wr : va_W) (hpal : Pals cI cG ad wr) (c : Nat) (g : Nat) (hid : Int32) (code : Nat → Nat) (ans : Nat → Nat) (dbt : Nat → Bool) (opn : Nat → Bool) (ply : Nat → Bool) (hps : Nat → Nat) (v : Int32) (hI : XI c g hid code ans dbt opn) : vx_Met l yX1_possible wsX1_possible ({ frames := 6, cells := 1, slots := 6, locals := 82 }) (va_Pc [.ref (ad 0), .int (v)] (Iv D (TY cI cZ cG cJ) A (WX ad cI cZ c g hid code ans dbt opn ply hps wr))) (va_Qi (fun r (u : Unit) => r = memA (opS c g code ans dbt) v 81 ∧ ¬ memA (opS c g code ans dbt) v 81 = -1) (fun u => Wd D A (WX ad cI cZ c g hid code ans dbt opn ply hps wr)) A) (Xw D A (WX ad cI cZ c g hid code ans dbt opn ply hps wr) (fun E => E = "java/lang/IndexOutOfBoundsException" ∧ memA (opS c g code ans dbt) v 81 = -1)) 1 6 A := by
  refine vx_ofW (cc := cX1_possible) (maxL := 3) (ret := (some .int)) (by decide) rfl ?_
  intro p e s m args below meth c9 s₁ B hml hnt hv
  obtain ⟨rfl, hP, hD, hB⟩ := hv
  have hK := hB.1
  have hA := hB.2.1
  have hx := B.exec
  have hb := B.bytes
  have hr := B.returns
  have hts := atoms_spec (ws := wsX1_possible) B.pre
  have hown : s.vm.findClass RX1 = some m.cls := findClass_of_methodNamed B.named
  have hlocks := B.notSynchronized
  have hS : va_S A s.heap s.heap [] := va_S.rf
  have hflag : l.stackTraces = false := by rw [Launch.stackTraces, hfl]; decide
  have hinX1 : ∀ w ∈ wsX10, w ∈ wsX1_possible := by decide +kernel
  have lk42 := hts (.fieldLink RX1 42 "HiddenCandles" "open" "[Z") (by decide +kernel)
  have hl := lv_entry ([.ref (ad 0), .int (v)]) (n := 3) (Nat.le_of_ble_eq_true rfl)
  rw [lg_entry_eq]
  generalize (lg_sl ([.ref (ad 0), .int (v)]) ++ List.replicate (3 - (lg_sl ([.ref (ad 0), .int (v)])).length) Slot.unset).toArray = ls at hl ⊢
  have hl : lv_has ls 3 [(0, .ref (ad 0)), (1, .int (v))] := hl
  obtain ⟨H, eH⟩ : ∃ q, q = s.heap := ⟨_, rfl⟩
  obtain ⟨locs, eL⟩ : ∃ q : List Loc, q = [] := ⟨_, rfl⟩
  replace hP : va_P D vwCl (WX ad cI cZ c g hid code ans dbt opn ply hps wr) H := by rw [eH]; exact hP
  replace hS : va_S A s.heap H locs := by rw [eH, eL]; exact hS
  rw [show W p l e _ s m _ below meth c9 s.heap [] = W p l e _ s m _ below meth c9 H locs from by rw [eH, eL]]
  clear eH eL
  obtain ⟨hc, hg, hco, hhid, hop⟩ := id hI
  have hq := qq_in hc
  have hop2 := op_lt hop
  refine lv_aload_n hx hb dX1_possible_0 rfl (lv_at hl 0 rfl) ?_
  refine va_get (D := D) (ci := 1) (v := .ref (ad 4)) (C := RX1) (T := TX1) (N := 11) hx hb hts hinX1 hown hK hP 0 rfl rfl 8 (by decide) lk42 (fun _ h9 => h9) rfl dX1_possible_1 ?_
  refine lv_iload_n hx hb dX1_possible_4 rfl (lv_at hl 1 rfl) ?_
  refine x_csi (va_runS (As := [.ref (ad 4), .int (v)]) (rest := []) ⟨hx, hb, hml, hown, hts⟩ (c_X1_memberAt l D cI cZ cG cJ A (WX ad cI cZ c g hid code ans dbt opn ply hps wr) (ad 4) 4 opn v (rfl)) (va_cwS 2 hts gX1_possible_X1_memberAt rfl rfl rfl (by decide +kernel) ⟨Nat.le_of_ble_eq_true rfl, Nat.le_of_ble_eq_true rfl⟩) (preS hB hS hP hD) rfl rfl hl.1 rfl (lv_room (Nat.le_of_ble_eq_true rfl)) dX1_possible_5 ⟨Nat.le_of_ble_eq_true rfl, Nat.le_of_ble_eq_true rfl⟩) ?_
  refine x_ti (y := memA (opS c g code ans dbt) v 81) (by rw [memA_congr hop]) ?_
  refine lv_istore_n (lv' := [(2, .int (memA (opS c g code ans dbt) v 81)), (0, .ref (ad 0)), (1, .int (v))]) hx hb dX1_possible_8 rfl hl (by decide) rfl (fun ls hl => ?_)
  refine lv_iload_n hx hb dX1_possible_9 rfl (lv_at hl 0 rfl) ?_
  refine lv_iconst (v := (-1)) hx hb dX1_possible_10 (by decide) ?_
  refine lv_icmp_ne (tgt := 24) hx hb dX1_possible_11 (by decide) (fun c11 => ?_) (fun c11 => ?_)
  · skip
    refine lv_iload_n hx hb dX1_possible_24 rfl (lv_at hl 0 rfl) ?_
    refine W.widen (k := 1) (n := 6) (Nat.le_of_ble_eq_true rfl) (Nat.le_of_ble_eq_true rfl) ?_
    exact vx_ret (W.iret (v := memA (opS c g code ans dbt) v 81) hx hb hr (fun t ht hW => ⟨⟨_, (), rfl, (by
        exact ⟨rfl, c11⟩), ⟨by rw [ht]; exact hP, hD⟩⟩, hS.F ht⟩) hS.2.2 dX1_possible_25)
  · skip
    obtain ⟨sa9, hsa9⟩ := hB.2.2.2.2.2 (134, "no such place among the possible codes") (by decide)
    have hat9 : ∀ w ∈ (vx_atS RX1 99 "java/lang/IndexOutOfBoundsException" ["java/lang/RuntimeException", "java/lang/Exception"]), w.before _ s = true := vx_hat (B := [.castable "java/lang/IndexOutOfBoundsException" "java/lang/IndexOutOfBoundsException", .declares (Bundle.initS "java/lang/RuntimeException"), .declares (Bundle.initS "java/lang/Exception"), .declares (Bundle.initS Bundle.tN)]) (fun w hw => hts w (by first | exact List.mem_cons_of_mem _ (List.mem_append_right _ hw) | exact List.mem_cons_of_mem _ (List.mem_append_left _ (List.mem_append_right _ hw)) | exact List.mem_cons_of_mem _ (List.mem_append_left _ (List.mem_append_left _ (List.mem_append_right _ hw))))) (by decide +kernel) (vx_c (va_Nw.use rfl (hB.2.2.2.2.1 _ (by simp [Nws]))) (vx_c (va_Nw.use rfl (hB.2.2.2.2.1 _ (by simp [Nws]))) (vx_c (va_Nw.use rfl (hB.2.2.2.2.1 _ (by simp [Nws]))) (vx_c (va_Nw.use rfl (hB.2.2.2.2.1 _ (by simp [Nws]))) vx_n))))
    exact vx_throwS (A := A) (names := ["java/lang/RuntimeException", "java/lang/Exception"]) (cls := "java/lang/IndexOutOfBoundsException") hx hb hflag hown (by decide +kernel) (by decide +kernel) (hts _ (by decide +kernel)) (hts _ (by decide +kernel)) hsa9 hat9 (by decide +kernel) hB.2.2.1 hB.2.2.2.1 hS (hl.1.trans hml.symm) dX1_possible_14 dX1_possible_17 dX1_possible_18 dX1_possible_20 dX1_possible_23 (fun x hx9 => (hnt x hx9).elim) (Nat.le_of_ble_eq_true rfl) (Nat.le_of_ble_eq_true rfl) (Nat.le_of_ble_eq_true rfl) (Nat.le_of_ble_eq_true rfl) hlocks (fun t hvm hsz hk => ⟨(), trivial, ⟨(by
        exact ⟨rfl, c11⟩), ⟨va_P.kept hP (fun k q hk9 => hk _ (hP k q hk9).lt), hD⟩⟩, ⟨Nat.le_trans hS.1 hsz, fun q h1 h2 => (hk q (Nat.lt_of_lt_of_le h1 hS.1)).trans (hS.2.1 q h1 h2)⟩⟩) hS.2.2 (Nat.le_of_ble_eq_true rfl) (Nat.le_of_ble_eq_true rfl)

set_option maxHeartbeats 4000000 in
set_option maxRecDepth 100000 in
theorem c_X1_have (l : Launch) (hfl : l.flags = flags0) (D : va_G) (cI cZ cG cJ : ClassId) (A : Nat → Prop) (ad : Nat → Nat) (wr : va_W) (hpal : Pals cI cG ad wr) (c : Nat) (g : Nat) (hid : Int32) (code : Nat → Nat) (ans : Nat → Nat) (dbt : Nat → Bool) (opn : Nat → Bool) (ply : Nat → Bool) (hps : Nat → Nat) (pl : Int32) (x : Int32) (hI : XI c g hid code ans dbt opn) : vx_Met l yX1_have wsX1_have ({ frames := 7, cells := 2, slots := 12, locals := 102 }) (va_Pc [.ref (ad 0), .int (pl), .int (x)] (Iv D (TY cI cZ cG cJ) A (WX ad cI cZ c g hid code ans dbt opn ply hps wr))) (va_Qi (fun r (u : Nat × Nat) => r = nI (hvN c (opS c g code ans dbt) u.1 u.2) ∧ u.1 < 4 ∧ pl = nI u.1 ∧ u.2 < c ∧ x = nI u.2) (fun u => Wd D A (WX ad cI cZ c g hid code ans dbt opn ply hps wr)) A) (Xw D A (WX ad cI cZ c g hid code ans dbt opn ply hps wr) (fun E => E = "java/lang/IndexOutOfBoundsException" ∧ (plC pl = false ∨ rgC c x = false))) 2 12 A := by
  refine vx_ofW (cc := cX1_have) (maxL := 3) (ret := (some .int)) (by decide) rfl ?_
  intro p e s m args below meth c9 s₁ B hml hnt hv
  obtain ⟨rfl, hP, hD, hB⟩ := hv
  have hK := hB.1
  have hA := hB.2.1
  have hx := B.exec
  have hb := B.bytes
  have hr := B.returns
  have hts := atoms_spec (ws := wsX1_have) B.pre
  have hown : s.vm.findClass RX1 = some m.cls := findClass_of_methodNamed B.named
  have hlocks := B.notSynchronized
  have hS : va_S A s.heap s.heap [] := va_S.rf
  have hflag : l.stackTraces = false := by rw [Launch.stackTraces, hfl]; decide
  have hinX0 : ∀ w ∈ wsX00, w ∈ wsX1_have := by decide +kernel
  have hinX1 : ∀ w ∈ wsX10, w ∈ wsX1_have := by decide +kernel
  have lk21 := hts (.fieldLink RX1 21 "HiddenCandles" "palette" "LHiddenCandles$Palette;") (by decide +kernel)
  have hl := lv_entry ([.ref (ad 0), .int (pl), .int (x)]) (n := 3) (Nat.le_of_ble_eq_true rfl)
  rw [lg_entry_eq]
  generalize (lg_sl ([.ref (ad 0), .int (pl), .int (x)]) ++ List.replicate (3 - (lg_sl ([.ref (ad 0), .int (pl), .int (x)])).length) Slot.unset).toArray = ls at hl ⊢
  have hl : lv_has ls 3 [(0, .ref (ad 0)), (1, .int (pl)), (2, .int (x))] := hl
  obtain ⟨H, eH⟩ : ∃ q, q = s.heap := ⟨_, rfl⟩
  obtain ⟨locs, eL⟩ : ∃ q : List Loc, q = [] := ⟨_, rfl⟩
  replace hP : va_P D vwCl (WX ad cI cZ c g hid code ans dbt opn ply hps wr) H := by rw [eH]; exact hP
  replace hS : va_S A s.heap H locs := by rw [eH, eL]; exact hS
  rw [show W p l e _ s m _ below meth c9 s.heap [] = W p l e _ s m _ below meth c9 H locs from by rw [eH, eL]]
  clear eH eL
  obtain ⟨hc, hg, hco, hhid, hop⟩ := id hI
  have hq := qq_in hc
  have hop2 := op_lt hop
  refine lv_iload_n hx hb dX1_have_0 rfl (lv_at hl 1 rfl) ?_
  refine vx_callv (vx_runS (As := [.int (pl)]) (rest := []) ⟨hx, hb, hml, hown, hts⟩ (c_X1_needPlace l hfl D cI cZ cG cJ A (WX ad cI cZ c g hid code ans dbt opn ply hps wr) pl ) (va_cwS 1 hts gX1_have_X1_needPlace rfl rfl rfl (by decide +kernel) ⟨Nat.le_of_ble_eq_true rfl, Nat.le_of_ble_eq_true rfl⟩) (preS hB hS hP hD) rfl rfl hl.1 rfl (lv_room (Nat.le_of_ble_eq_true rfl)) dX1_have_1 ⟨Nat.le_of_ble_eq_true rfl, Nat.le_of_ble_eq_true rfl⟩) hS (fun q _ h => h) (fun q h => h) (fun q _ h => h) (fun E ce q9 u9 t9 H1 locs1 ht9 hvm9 hpx8 hBx hz9 hk9 hS hq9 hv9 hcl9 => ?_) (fun u_1 t9 H1 locs1 ht9 hvm9 hw_1 hBw hz9 hk9 hS => ?_)
  · obtain ⟨hpx9, hP1, hD1⟩ := hBx
    rw [ht9] at hP1
    exact vx_out (fun x hx9 => (hnt x hx9).elim) hlocks hq9 hv9 hcl9 (fun t ht hvm => ⟨(), trivial, ⟨(by
        exact ⟨hpx9.1, Or.inl hpx9.2⟩), by rw [ht]; exact hP1, hD1⟩, hS.F ht⟩) hS.2.2 (by omega) (by omega)
  obtain ⟨hP, hD⟩ := hBw
  rw [ht9] at hP
  generalize H1 = H at hP hS ⊢
  generalize locs1 = locs at hS ⊢
  replace hP : va_P D vwCl (WX ad cI cZ c g hid code ans dbt opn ply hps wr) H := hP
  replace hD : va_D A (WX ad cI cZ c g hid code ans dbt opn ply hps wr) := hD
  obtain ⟨p0, hp, rfl⟩ := plC_of hw_1
  refine lv_iload_n hx hb dX1_have_4 rfl (lv_at hl 2 rfl) ?_
  refine lv_if_lt (tgt := 19) hx hb dX1_have_5 (by decide) (fun c5 => ?_) (fun c5 => ?_)
  · skip
    obtain ⟨sa9, hsa9⟩ := hB.2.2.2.2.2 (136, "no such colour") (by decide)
    have hat9 : ∀ w ∈ (vx_atS RX1 99 "java/lang/IndexOutOfBoundsException" ["java/lang/RuntimeException", "java/lang/Exception"]), w.before _ s = true := vx_hat (B := [.castable "java/lang/IndexOutOfBoundsException" "java/lang/IndexOutOfBoundsException", .declares (Bundle.initS "java/lang/RuntimeException"), .declares (Bundle.initS "java/lang/Exception"), .declares (Bundle.initS Bundle.tN)]) (fun w hw => hts w (by first | exact List.mem_cons_of_mem _ (List.mem_append_right _ hw) | exact List.mem_cons_of_mem _ (List.mem_append_left _ (List.mem_append_right _ hw)) | exact List.mem_cons_of_mem _ (List.mem_append_left _ (List.mem_append_left _ (List.mem_append_right _ hw))))) (by decide +kernel) (vx_c (va_Nw.use rfl (hB.2.2.2.2.1 _ (by simp [Nws]))) (vx_c (va_Nw.use rfl (hB.2.2.2.2.1 _ (by simp [Nws]))) (vx_c (va_Nw.use rfl (hB.2.2.2.2.1 _ (by simp [Nws]))) (vx_c (va_Nw.use rfl (hB.2.2.2.2.1 _ (by simp [Nws]))) vx_n))))
    exact vx_throwS (A := A) (names := ["java/lang/RuntimeException", "java/lang/Exception"]) (cls := "java/lang/IndexOutOfBoundsException") hx hb hflag hown (by decide +kernel) (by decide +kernel) (hts _ (by decide +kernel)) (hts _ (by decide +kernel)) hsa9 hat9 (by decide +kernel) hB.2.2.1 hB.2.2.2.1 hS (hl.1.trans hml.symm) dX1_have_19 dX1_have_22 dX1_have_23 dX1_have_25 dX1_have_28 (fun x hx9 => (hnt x hx9).elim) (Nat.le_of_ble_eq_true rfl) (Nat.le_of_ble_eq_true rfl) (Nat.le_of_ble_eq_true rfl) (Nat.le_of_ble_eq_true rfl) hlocks (fun t hvm hsz hk => ⟨(), trivial, ⟨(by
        first | exact ⟨rfl, Or.inr (rgC_f1 c5)⟩ | exact ⟨rfl, Or.inr (rgC_f2 c16)⟩), ⟨va_P.kept hP (fun k q hk9 => hk _ (hP k q hk9).lt), hD⟩⟩, ⟨Nat.le_trans hS.1 hsz, fun q h1 h2 => (hk q (Nat.lt_of_lt_of_le h1 hS.1)).trans (hS.2.1 q h1 h2)⟩⟩) hS.2.2 (Nat.le_of_ble_eq_true rfl) (Nat.le_of_ble_eq_true rfl)
  · skip
    refine lv_iload_n hx hb dX1_have_8 rfl (lv_at hl 2 rfl) ?_
    refine lv_aload_n hx hb dX1_have_9 rfl (lv_at hl 0 rfl) ?_
    refine va_get (D := D) (ci := 1) (v := .ref (pal ad c)) (C := RX1) (T := TX1) (N := 11) hx hb hts hinX1 hown hK hP 0 rfl rfl 2 (by decide) lk21 (fun _ h9 => h9) rfl dX1_have_10 ?_
    refine x_colours hx hb hts hinX0 hown hK hP (palX hpal hc) (hB.2.2.2.2.1 _ (by simp [Nws])) dX1_have_13 ?_
    refine lv_icmp_lt (tgt := 29) hx hb dX1_have_16 (by decide) (fun c16 => ?_) (fun c16 => ?_)
    · skip
      obtain ⟨x0, hx0, rfl⟩ := rgC_of (rgC_t c5 c16) (by omega)
      refine lv_aload_n hx hb dX1_have_29 rfl (lv_at hl 0 rfl) ?_
      refine lv_iload_n hx hb dX1_have_30 rfl (lv_at hl 1 rfl) ?_
      refine lv_iload_n hx hb dX1_have_31 rfl (lv_at hl 2 rfl) ?_
      refine x_csi (va_runV (As := [.int (nI (p0)), .int (nI (x0))]) (rest := []) ⟨hx, hb, hml, hown, hts⟩ (c_X1_countHaving l D cI cZ cG cJ A ad wr hpal c g hid code ans dbt opn ply hps p0 x0 (hc) (hp) (hx0) (hop2)) (cwV 2 hts gX1_have_X1_countHaving rfl rfl rfl (by decide +kernel) ⟨Nat.le_of_ble_eq_true rfl, Nat.le_of_ble_eq_true rfl⟩) (preV (ci := 1) (q0 := 0) hB hS hP hD rfl rfl) rfl rfl hl.1 rfl (lv_room (Nat.le_of_ble_eq_true rfl)) dX1_have_32 ⟨Nat.le_of_ble_eq_true rfl, Nat.le_of_ble_eq_true rfl⟩) ?_
      refine x_ti (y := nI (hvN c (opS c g code ans dbt) p0 x0)) (by rw [hvN, hv_congr hop]) ?_
      refine W.widen (k := 2) (n := 12) (Nat.le_of_ble_eq_true rfl) (Nat.le_of_ble_eq_true rfl) ?_
      exact vx_ret (W.iret (v := nI (hvN c (opS c g code ans dbt) p0 x0)) hx hb hr (fun t ht hW => ⟨⟨_, (p0, x0), rfl, (by
          exact ⟨rfl, hp, rfl, hx0, rfl⟩), ⟨by rw [ht]; exact hP, hD⟩⟩, hS.F ht⟩) hS.2.2 dX1_have_35)
    · skip
      obtain ⟨sa9, hsa9⟩ := hB.2.2.2.2.2 (136, "no such colour") (by decide)
      have hat9 : ∀ w ∈ (vx_atS RX1 99 "java/lang/IndexOutOfBoundsException" ["java/lang/RuntimeException", "java/lang/Exception"]), w.before _ s = true := vx_hat (B := [.castable "java/lang/IndexOutOfBoundsException" "java/lang/IndexOutOfBoundsException", .declares (Bundle.initS "java/lang/RuntimeException"), .declares (Bundle.initS "java/lang/Exception"), .declares (Bundle.initS Bundle.tN)]) (fun w hw => hts w (by first | exact List.mem_cons_of_mem _ (List.mem_append_right _ hw) | exact List.mem_cons_of_mem _ (List.mem_append_left _ (List.mem_append_right _ hw)) | exact List.mem_cons_of_mem _ (List.mem_append_left _ (List.mem_append_left _ (List.mem_append_right _ hw))))) (by decide +kernel) (vx_c (va_Nw.use rfl (hB.2.2.2.2.1 _ (by simp [Nws]))) (vx_c (va_Nw.use rfl (hB.2.2.2.2.1 _ (by simp [Nws]))) (vx_c (va_Nw.use rfl (hB.2.2.2.2.1 _ (by simp [Nws]))) (vx_c (va_Nw.use rfl (hB.2.2.2.2.1 _ (by simp [Nws]))) vx_n))))
      exact vx_throwS (A := A) (names := ["java/lang/RuntimeException", "java/lang/Exception"]) (cls := "java/lang/IndexOutOfBoundsException") hx hb hflag hown (by decide +kernel) (by decide +kernel) (hts _ (by decide +kernel)) (hts _ (by decide +kernel)) hsa9 hat9 (by decide +kernel) hB.2.2.1 hB.2.2.2.1 hS (hl.1.trans hml.symm) dX1_have_19 dX1_have_22 dX1_have_23 dX1_have_25 dX1_have_28 (fun x hx9 => (hnt x hx9).elim) (Nat.le_of_ble_eq_true rfl) (Nat.le_of_ble_eq_true rfl) (Nat.le_of_ble_eq_true rfl) (Nat.le_of_ble_eq_true rfl) hlocks (fun t hvm hsz hk => ⟨(), trivial, ⟨(by
          first | exact ⟨rfl, Or.inr (rgC_f1 c5)⟩ | exact ⟨rfl, Or.inr (rgC_f2 c16)⟩), ⟨va_P.kept hP (fun k q hk9 => hk _ (hP k q hk9).lt), hD⟩⟩, ⟨Nat.le_trans hS.1 hsz, fun q h1 h2 => (hk q (Nat.lt_of_lt_of_le h1 hS.1)).trans (hS.2.1 q h1 h2)⟩⟩) hS.2.2 (Nat.le_of_ble_eq_true rfl) (Nat.le_of_ble_eq_true rfl)

set_option maxHeartbeats 4000000 in
set_option maxRecDepth 100000 in
theorem c_X1_haveP (l : Launch) (D : va_G) (cI cZ cG cJ : ClassId) (A : Nat → Prop) (ad : Nat → Nat) (wr : va_W) (hpal : Pals cI cG ad wr) (c : Nat) (g : Nat) (hid : Int32) (code : Nat → Nat) (ans : Nat → Nat) (dbt : Nat → Bool) (opn : Nat → Bool) (ply : Nat → Bool) (hps : Nat → Nat) (p0 : Nat) (x0 : Nat) (hI : XI c g hid code ans dbt opn) (hp : p0 < 4) (hx0 : x0 < c) : Met l yX1_have wsX1_have ({ frames := 3, cells := 0, slots := 0, locals := 67 }) (va_Pc [.ref (ad 0), .int (nI (p0)), .int (nI (x0))] (Iv D (TY cI cZ cG cJ) A (WX ad cI cZ c g hid code ans dbt opn ply hps wr))) (vp_Si (fun r => r = nI (hvN c (opS c g code ans dbt) p0 x0))) 0 0 (fun _ => False) := by
  refine Met.ofW (cc := cX1_have) (maxL := 3) (ret := (some .int)) (by decide) rfl ?_
  intro p e s m args below meth c9 s₁ B hml hv
  obtain ⟨rfl, hP, hD, hB⟩ := hv
  have hK := hB.1
  have hA := hB.2.1
  have hx := B.exec
  have hb := B.bytes
  have hr := B.returns
  have hts := atoms_spec (ws := wsX1_have) B.pre
  have hown : s.vm.findClass RX1 = some m.cls := findClass_of_methodNamed B.named
  have hlocks := B.notSynchronized
  have hS : va_S A s.heap s.heap [] := va_S.rf
  have hinX0 : ∀ w ∈ wsX00, w ∈ wsX1_have := by decide +kernel
  have hinX1 : ∀ w ∈ wsX10, w ∈ wsX1_have := by decide +kernel
  have lk21 := hts (.fieldLink RX1 21 "HiddenCandles" "palette" "LHiddenCandles$Palette;") (by decide +kernel)
  have hl := lv_entry ([.ref (ad 0), .int (nI (p0)), .int (nI (x0))]) (n := 3) (Nat.le_of_ble_eq_true rfl)
  rw [lg_entry_eq]
  generalize (lg_sl ([.ref (ad 0), .int (nI (p0)), .int (nI (x0))]) ++ List.replicate (3 - (lg_sl ([.ref (ad 0), .int (nI (p0)), .int (nI (x0))])).length) Slot.unset).toArray = ls at hl ⊢
  have hl : lv_has ls 3 [(0, .ref (ad 0)), (1, .int (nI (p0))), (2, .int (nI (x0)))] := hl
  obtain ⟨hc, hg, hco, hhid, hop⟩ := id hI
  have hq := qq_in hc
  have hop2 := op_lt hop
  refine lv_iload_n hx hb dX1_have_0 rfl (lv_at hl 1 rfl) ?_
  refine va_csv (va_Run.run (va_runS (As := [.int (nI (p0))]) (rest := []) ⟨hx, hb, hml, hown, hts⟩ (c_X1_needPlaceP l D cI cZ cG cJ A (WX ad cI cZ c g hid code ans dbt opn ply hps wr) p0 (hp)) (va_cwS 1 hts gX1_have_X1_needPlace rfl rfl rfl (by decide +kernel) ⟨Nat.le_of_ble_eq_true rfl, Nat.le_of_ble_eq_true rfl⟩) (preS hB va_S.rf hP hD) rfl rfl hl.1 rfl (lv_room (Nat.le_of_ble_eq_true rfl)) dX1_have_1 ⟨Nat.le_of_ble_eq_true rfl, Nat.le_of_ble_eq_true rfl⟩)) (fun _ => ?_)
  refine lv_iload_n hx hb dX1_have_4 rfl (lv_at hl 2 rfl) ?_
  refine x_lt0 (tgt := 19) hx hb dX1_have_5 (by decide) (by omega) ?_
  refine lv_iload_n hx hb dX1_have_8 rfl (lv_at hl 2 rfl) ?_
  refine lv_aload_n hx hb dX1_have_9 rfl (lv_at hl 0 rfl) ?_
  refine va_get (D := D) (ci := 1) (v := .ref (pal ad c)) (C := RX1) (T := TX1) (N := 11) hx hb hts hinX1 hown hK hP 0 rfl rfl 2 (by decide) lk21 (fun _ h9 => h9) rfl dX1_have_10 ?_
  refine x_colours hx hb hts hinX0 hown hK hP (palX hpal hc) (hB.2.2.2.2.1 _ (by simp [Nws])) dX1_have_13 ?_
  refine x_lt (tgt := 29) hx hb dX1_have_16 (by decide) (by omega) (by omega) (fun c16 => ?_) (fun c16 => absurd c16 (by omega))
  refine lv_aload_n hx hb dX1_have_29 rfl (lv_at hl 0 rfl) ?_
  refine lv_iload_n hx hb dX1_have_30 rfl (lv_at hl 1 rfl) ?_
  refine lv_iload_n hx hb dX1_have_31 rfl (lv_at hl 2 rfl) ?_
  refine x_csi (va_runV (As := [.int (nI (p0)), .int (nI (x0))]) (rest := []) ⟨hx, hb, hml, hown, hts⟩ (c_X1_countHaving l D cI cZ cG cJ A ad wr hpal c g hid code ans dbt opn ply hps p0 x0 (hc) (hp) (hx0) (hop2)) (cwV 2 hts gX1_have_X1_countHaving rfl rfl rfl (by decide +kernel) ⟨Nat.le_of_ble_eq_true rfl, Nat.le_of_ble_eq_true rfl⟩) (preV (ci := 1) (q0 := 0) hB va_S.rf hP hD rfl rfl) rfl rfl hl.1 rfl (lv_room (Nat.le_of_ble_eq_true rfl)) dX1_have_32 ⟨Nat.le_of_ble_eq_true rfl, Nat.le_of_ble_eq_true rfl⟩) ?_
  refine x_ti (y := nI (hvN c (opS c g code ans dbt) p0 x0)) (by rw [hvN, hv_congr hop]) ?_
  exact W.iret (v := nI (hvN c (opS c g code ans dbt) p0 x0)) hx hb hr (fun t ht hW => ⟨_, rfl, (by
      rfl), ht⟩) (fun _ h => nomatch h) dX1_have_35

set_option maxHeartbeats 4000000 in
set_option maxRecDepth 100000 in
theorem c_X1_sure (l : Launch) (hfl : l.flags = flags0) (D : va_G) (cI cZ cG cJ : ClassId) (A : Nat → Prop) (ad : Nat → Nat) (wr : va_W) (hpal : Pals cI cG ad wr) (c : Nat) (g : Nat) (hid : Int32) (code : Nat → Nat) (ans : Nat → Nat) (dbt : Nat → Bool) (opn : Nat → Bool) (ply : Nat → Bool) (hps : Nat → Nat) (pl : Int32) (hI : XI c g hid code ans dbt opn) : vx_Met l yX1_sure wsX1_sure ({ frames := 7, cells := 1, slots := 6, locals := 102 }) (va_Pc [.ref (ad 0), .int (pl)] (Iv D (TY cI cZ cG cJ) A (WX ad cI cZ c g hid code ans dbt opn ply hps wr))) (va_Qi (fun r (u : Nat) => r = sureV c (opS c g code ans dbt) u c ∧ u < 4 ∧ pl = nI u) (fun u => Wd D A (WX ad cI cZ c g hid code ans dbt opn ply hps wr)) A) (Xw D A (WX ad cI cZ c g hid code ans dbt opn ply hps wr) (fun E => E = "java/lang/IndexOutOfBoundsException" ∧ plC pl = false)) 1 6 A := by
  refine vx_ofW (cc := cX1_sure) (maxL := 4) (ret := (some .int)) (by decide) rfl ?_
  intro p e s m args below meth c9 s₁ B hml hnt hv
  obtain ⟨rfl, hP, hD, hB⟩ := hv
  have hK := hB.1
  have hA := hB.2.1
  have hx := B.exec
  have hb := B.bytes
  have hr := B.returns
  have hts := atoms_spec (ws := wsX1_sure) B.pre
  have hown : s.vm.findClass RX1 = some m.cls := findClass_of_methodNamed B.named
  have hlocks := B.notSynchronized
  have hS : va_S A s.heap s.heap [] := va_S.rf
  have hflag : l.stackTraces = false := by rw [Launch.stackTraces, hfl]; decide
  have hinX1 : ∀ w ∈ wsX10, w ∈ wsX1_sure := by decide +kernel
  have lk21 := hts (.fieldLink RX1 21 "HiddenCandles" "palette" "LHiddenCandles$Palette;") (by decide +kernel)
  have lk42 := hts (.fieldLink RX1 42 "HiddenCandles" "open" "[Z") (by decide +kernel)
  have hl := lv_entry ([.ref (ad 0), .int (pl)]) (n := 4) (Nat.le_of_ble_eq_true rfl)
  rw [lg_entry_eq]
  generalize (lg_sl ([.ref (ad 0), .int (pl)]) ++ List.replicate (4 - (lg_sl ([.ref (ad 0), .int (pl)])).length) Slot.unset).toArray = ls at hl ⊢
  have hl : lv_has ls 4 [(0, .ref (ad 0)), (1, .int (pl))] := hl
  obtain ⟨H, eH⟩ : ∃ q, q = s.heap := ⟨_, rfl⟩
  obtain ⟨locs, eL⟩ : ∃ q : List Loc, q = [] := ⟨_, rfl⟩
  replace hP : va_P D vwCl (WX ad cI cZ c g hid code ans dbt opn ply hps wr) H := by rw [eH]; exact hP
  replace hS : va_S A s.heap H locs := by rw [eH, eL]; exact hS
  rw [show W p l e _ s m _ below meth c9 s.heap [] = W p l e _ s m _ below meth c9 H locs from by rw [eH, eL]]
  clear eH eL
  obtain ⟨hc, hg, hco, hhid, hop⟩ := id hI
  have hq := qq_in hc
  have hop2 := op_lt hop
  refine lv_iload_n hx hb dX1_sure_0 rfl (lv_at hl 1 rfl) ?_
  refine vx_callv (vx_runS (As := [.int (pl)]) (rest := []) ⟨hx, hb, hml, hown, hts⟩ (c_X1_needPlace l hfl D cI cZ cG cJ A (WX ad cI cZ c g hid code ans dbt opn ply hps wr) pl ) (va_cwS 1 hts gX1_sure_X1_needPlace rfl rfl rfl (by decide +kernel) ⟨Nat.le_of_ble_eq_true rfl, Nat.le_of_ble_eq_true rfl⟩) (preS hB hS hP hD) rfl rfl hl.1 rfl (lv_room (Nat.le_of_ble_eq_true rfl)) dX1_sure_1 ⟨Nat.le_of_ble_eq_true rfl, Nat.le_of_ble_eq_true rfl⟩) hS (fun q _ h => h) (fun q h => h) (fun q _ h => h) (fun E ce q9 u9 t9 H1 locs1 ht9 hvm9 hpx8 hBx hz9 hk9 hS hq9 hv9 hcl9 => ?_) (fun u_1 t9 H1 locs1 ht9 hvm9 hw_1 hBw hz9 hk9 hS => ?_)
  · obtain ⟨hpx9, hP1, hD1⟩ := hBx
    rw [ht9] at hP1
    exact vx_out (fun x hx9 => (hnt x hx9).elim) hlocks hq9 hv9 hcl9 (fun t ht hvm => ⟨(), trivial, ⟨(by
        exact hpx9), by rw [ht]; exact hP1, hD1⟩, hS.F ht⟩) hS.2.2 (by omega) (by omega)
  obtain ⟨hP, hD⟩ := hBw
  rw [ht9] at hP
  generalize H1 = H at hP hS ⊢
  generalize locs1 = locs at hS ⊢
  replace hP : va_P D vwCl (WX ad cI cZ c g hid code ans dbt opn ply hps wr) H := hP
  replace hD : va_D A (WX ad cI cZ c g hid code ans dbt opn ply hps wr) := hD
  obtain ⟨p0, hp, rfl⟩ := plC_of hw_1
  refine lv_aload_n hx hb dX1_sure_4 rfl (lv_at hl 0 rfl) ?_
  refine va_get (D := D) (ci := 1) (v := .ref (ad 4)) (C := RX1) (T := TX1) (N := 11) hx hb hts hinX1 hown hK hP 0 rfl rfl 8 (by decide) lk42 (fun _ h9 => h9) rfl dX1_sure_5 ?_
  refine lv_iconst (v := 0) hx hb dX1_sure_8 (by decide) ?_
  refine x_csi (va_runS (As := [.ref (ad 4), .int (0)]) (rest := []) ⟨hx, hb, hml, hown, hts⟩ (c_X1_memberAt l D cI cZ cG cJ A (WX ad cI cZ c g hid code ans dbt opn ply hps wr) (ad 4) 4 opn 0 (rfl)) (va_cwS 2 hts gX1_sure_X1_memberAt rfl rfl rfl (by decide +kernel) ⟨Nat.le_of_ble_eq_true rfl, Nat.le_of_ble_eq_true rfl⟩) (preS hB hS hP hD) rfl rfl hl.1 rfl (lv_room (Nat.le_of_ble_eq_true rfl)) dX1_sure_9 ⟨Nat.le_of_ble_eq_true rfl, Nat.le_of_ble_eq_true rfl⟩) ?_
  refine x_ti (y := memA (opS c g code ans dbt) 0 81) (by rw [memA_congr hop]) ?_
  refine lv_istore_n (lv' := [(2, .int (memA (opS c g code ans dbt) 0 81)), (0, .ref (ad 0)), (1, .int (nI (p0)))]) hx hb dX1_sure_12 rfl hl (by decide) rfl (fun ls hl => ?_)
  refine lv_iload_n hx hb dX1_sure_13 rfl (lv_at hl 0 rfl) ?_
  refine lv_iconst (v := (-1)) hx hb dX1_sure_14 (by decide) ?_
  refine lv_icmp_ne (tgt := 20) hx hb dX1_sure_15 (by decide) (fun c15 => ?_) (fun c15 => ?_)
  · skip
    obtain ⟨k, hk81, hsk, hmk⟩ := memA_of c15
    have hk := op_lt2 hsk
    rw [hmk] at hl
    refine lv_aload_n hx hb dX1_sure_20 rfl (lv_at hl 1 rfl) ?_
    refine va_get (D := D) (ci := 1) (v := .ref (pal ad c)) (C := RX1) (T := TX1) (N := 11) hx hb hts hinX1 hown hK hP 0 rfl rfl 2 (by decide) lk21 (fun _ h9 => h9) rfl dX1_sure_21 ?_
    refine lv_iload_n hx hb dX1_sure_24 rfl (lv_at hl 0 rfl) ?_
    refine lv_iload_n hx hb dX1_sure_25 rfl (lv_at hl 2 rfl) ?_
    refine x_csi (va_runVN (As := [.int (nI (k)), .int (nI (p0))]) (rest := []) ⟨hx, hb, hml, hown, hts⟩ (c_X0_colourOf l D cI cZ cG cJ A (WX ad cI cZ c g hid code ans dbt opn ply hps wr) (pal ad c) c k p0 (palX hpal hc) (hc) (hk) (hp)) ⟨va_cnB (host := RX1) 2 hts gX1_sure_X0_colourOf_n73 rfl rfl rfl (hB.2.2.2.2.1 _ (by simp [Nws])) (hts _ (by decide +kernel)) (by decide +kernel) ⟨Nat.le_of_ble_eq_true rfl, Nat.le_of_ble_eq_true rfl⟩, hts _ (by decide +kernel), hts _ (by decide +kernel)⟩ (prePal hB hS hP hD (palX hpal hc)) rfl rfl hl.1 rfl (lv_room (Nat.le_of_ble_eq_true rfl)) dX1_sure_26 ⟨Nat.le_of_ble_eq_true rfl, Nat.le_of_ble_eq_true rfl⟩) ?_
    have hcl := col_lt hc (k) (p0)
    refine lv_istore_n (lv' := [(3, .int (nI (col c k p0))), (2, .int (nI (k))), (0, .ref (ad 0)), (1, .int (nI (p0)))]) hx hb dX1_sure_29 rfl hl (by decide) rfl (fun ls hl => ?_)
    refine lv_aload_n hx hb dX1_sure_30 rfl (lv_at hl 2 rfl) ?_
    refine lv_iload_n hx hb dX1_sure_31 rfl (lv_at hl 3 rfl) ?_
    refine lv_iload_n hx hb dX1_sure_32 rfl (lv_at hl 0 rfl) ?_
    refine x_csi (va_runV (As := [.int (nI (p0)), .int (nI (col c k p0))]) (rest := []) ⟨hx, hb, hml, hown, hts⟩ (c_X1_countHaving l D cI cZ cG cJ A ad wr hpal c g hid code ans dbt opn ply hps p0 (col c k p0) (hc) (hp) (hcl) (hop2)) (cwV 2 hts gX1_sure_X1_countHaving rfl rfl rfl (by decide +kernel) ⟨Nat.le_of_ble_eq_true rfl, Nat.le_of_ble_eq_true rfl⟩) (preV (ci := 1) (q0 := 0) hB hS hP hD rfl rfl) rfl rfl hl.1 rfl (lv_room (Nat.le_of_ble_eq_true rfl)) dX1_sure_33 ⟨Nat.le_of_ble_eq_true rfl, Nat.le_of_ble_eq_true rfl⟩) ?_
    refine x_ti (y := nI (hvN c (opS c g code ans dbt) p0 (col c k p0))) (by rw [hvN, hv_congr hop]) ?_
    refine lv_aload_n hx hb dX1_sure_36 rfl (lv_at hl 2 rfl) ?_
    refine va_get (D := D) (ci := 1) (v := .ref (ad 4)) (C := RX1) (T := TX1) (N := 11) hx hb hts hinX1 hown hK hP 0 rfl rfl 8 (by decide) lk42 (fun _ h9 => h9) rfl dX1_sure_37 ?_
    refine x_csi (va_runS (As := [.ref (ad 4)]) (rest := [.int (nI (hvN c (opS c g code ans dbt) p0 (col c k p0)))]) ⟨hx, hb, hml, hown, hts⟩ (c_X1_size l D cI cZ cG cJ A (WX ad cI cZ c g hid code ans dbt opn ply hps wr) (ad 4) 4 opn (rfl)) (va_cwS 1 hts gX1_sure_X1_size rfl rfl rfl (by decide +kernel) ⟨Nat.le_of_ble_eq_true rfl, Nat.le_of_ble_eq_true rfl⟩) (preS hB hS hP hD) rfl rfl hl.1 rfl (lv_room (Nat.le_of_ble_eq_true rfl)) dX1_sure_40 ⟨Nat.le_of_ble_eq_true rfl, Nat.le_of_ble_eq_true rfl⟩) ?_
    have hz1 := cN_le (opS c g code ans dbt) 81
    have hz2 := hvN_le c (opS c g code ans dbt) p0 (col c k p0)
    refine x_ti (y := nI (cN (opS c g code ans dbt) 81)) (by rw [cN_congr 81 hop]) ?_
    refine x_ne (tgt := 50) hx hb dX1_sure_43 (by decide) (by omega) (by omega) (fun c43 => ?_) (fun c43 => ?_)
    · skip
      refine lv_iconst (v := (-1)) hx hb dX1_sure_50 (by decide) ?_
      refine W.widen (k := 1) (n := 6) (Nat.le_of_ble_eq_true rfl) (Nat.le_of_ble_eq_true rfl) ?_
      exact vx_ret (W.iret (v := (-1)) hx hb hr (fun t ht hW => ⟨⟨_, p0, rfl, (by
          refine ⟨?_, hp, rfl⟩
          first | exact (sure_1 hc hk81 hsk c43 hcl).symm | exact (sure_2 hc hk81 hsk c43).symm), ⟨by rw [ht]; exact hP, hD⟩⟩, hS.F ht⟩) hS.2.2 dX1_sure_51)
    · skip
      refine lv_iload_n hx hb dX1_sure_46 rfl (lv_at hl 0 rfl) ?_
      refine lv_goto (tgt := 51) hx hb dX1_sure_47 (by decide) ?_
      refine W.widen (k := 1) (n := 6) (Nat.le_of_ble_eq_true rfl) (Nat.le_of_ble_eq_true rfl) ?_
      exact vx_ret (W.iret (v := nI (col c k p0)) hx hb hr (fun t ht hW => ⟨⟨_, p0, rfl, (by
          refine ⟨?_, hp, rfl⟩
          first | exact (sure_1 hc hk81 hsk c43 hcl).symm | exact (sure_2 hc hk81 hsk c43).symm), ⟨by rw [ht]; exact hP, hD⟩⟩, hS.F ht⟩) hS.2.2 dX1_sure_51)
  · skip
    refine lv_iconst (v := (-1)) hx hb dX1_sure_18 (by decide) ?_
    refine W.widen (k := 1) (n := 6) (Nat.le_of_ble_eq_true rfl) (Nat.le_of_ble_eq_true rfl) ?_
    exact vx_ret (W.iret (v := (-1)) hx hb hr (fun t ht hW => ⟨⟨_, p0, rfl, (by
        exact ⟨(sure_0 c15 p0).symm, hp, rfl⟩), ⟨by rw [ht]; exact hP, hD⟩⟩, hS.F ht⟩) hS.2.2 dX1_sure_19)

set_option maxHeartbeats 4000000 in
set_option maxRecDepth 100000 in
theorem c_X1_sureP (l : Launch) (D : va_G) (cI cZ cG cJ : ClassId) (A : Nat → Prop) (ad : Nat → Nat) (wr : va_W) (hpal : Pals cI cG ad wr) (c : Nat) (g : Nat) (hid : Int32) (code : Nat → Nat) (ans : Nat → Nat) (dbt : Nat → Bool) (opn : Nat → Bool) (ply : Nat → Bool) (hps : Nat → Nat) (p0 : Nat) (hI : XI c g hid code ans dbt opn) (hp : p0 < 4) : Met l yX1_sure wsX1_sure ({ frames := 3, cells := 0, slots := 0, locals := 67 }) (va_Pc [.ref (ad 0), .int (nI (p0))] (Iv D (TY cI cZ cG cJ) A (WX ad cI cZ c g hid code ans dbt opn ply hps wr))) (vp_Si (fun r => r = sureV c (opS c g code ans dbt) p0 c)) 0 0 (fun _ => False) := by
  refine Met.ofW (cc := cX1_sure) (maxL := 4) (ret := (some .int)) (by decide) rfl ?_
  intro p e s m args below meth c9 s₁ B hml hv
  obtain ⟨rfl, hP, hD, hB⟩ := hv
  have hK := hB.1
  have hA := hB.2.1
  have hx := B.exec
  have hb := B.bytes
  have hr := B.returns
  have hts := atoms_spec (ws := wsX1_sure) B.pre
  have hown : s.vm.findClass RX1 = some m.cls := findClass_of_methodNamed B.named
  have hlocks := B.notSynchronized
  have hS : va_S A s.heap s.heap [] := va_S.rf
  have hinX1 : ∀ w ∈ wsX10, w ∈ wsX1_sure := by decide +kernel
  have lk21 := hts (.fieldLink RX1 21 "HiddenCandles" "palette" "LHiddenCandles$Palette;") (by decide +kernel)
  have lk42 := hts (.fieldLink RX1 42 "HiddenCandles" "open" "[Z") (by decide +kernel)
  have hl := lv_entry ([.ref (ad 0), .int (nI (p0))]) (n := 4) (Nat.le_of_ble_eq_true rfl)
  rw [lg_entry_eq]
  generalize (lg_sl ([.ref (ad 0), .int (nI (p0))]) ++ List.replicate (4 - (lg_sl ([.ref (ad 0), .int (nI (p0))])).length) Slot.unset).toArray = ls at hl ⊢
  have hl : lv_has ls 4 [(0, .ref (ad 0)), (1, .int (nI (p0)))] := hl
  obtain ⟨hc, hg, hco, hhid, hop⟩ := id hI
  have hq := qq_in hc
  have hop2 := op_lt hop
  refine lv_iload_n hx hb dX1_sure_0 rfl (lv_at hl 1 rfl) ?_
  refine va_csv (va_Run.run (va_runS (As := [.int (nI (p0))]) (rest := []) ⟨hx, hb, hml, hown, hts⟩ (c_X1_needPlaceP l D cI cZ cG cJ A (WX ad cI cZ c g hid code ans dbt opn ply hps wr) p0 (hp)) (va_cwS 1 hts gX1_sure_X1_needPlace rfl rfl rfl (by decide +kernel) ⟨Nat.le_of_ble_eq_true rfl, Nat.le_of_ble_eq_true rfl⟩) (preS hB va_S.rf hP hD) rfl rfl hl.1 rfl (lv_room (Nat.le_of_ble_eq_true rfl)) dX1_sure_1 ⟨Nat.le_of_ble_eq_true rfl, Nat.le_of_ble_eq_true rfl⟩)) (fun _ => ?_)
  refine lv_aload_n hx hb dX1_sure_4 rfl (lv_at hl 0 rfl) ?_
  refine va_get (D := D) (ci := 1) (v := .ref (ad 4)) (C := RX1) (T := TX1) (N := 11) hx hb hts hinX1 hown hK hP 0 rfl rfl 8 (by decide) lk42 (fun _ h9 => h9) rfl dX1_sure_5 ?_
  refine lv_iconst (v := 0) hx hb dX1_sure_8 (by decide) ?_
  refine x_csi (va_runS (As := [.ref (ad 4), .int (0)]) (rest := []) ⟨hx, hb, hml, hown, hts⟩ (c_X1_memberAt l D cI cZ cG cJ A (WX ad cI cZ c g hid code ans dbt opn ply hps wr) (ad 4) 4 opn 0 (rfl)) (va_cwS 2 hts gX1_sure_X1_memberAt rfl rfl rfl (by decide +kernel) ⟨Nat.le_of_ble_eq_true rfl, Nat.le_of_ble_eq_true rfl⟩) (preS hB va_S.rf hP hD) rfl rfl hl.1 rfl (lv_room (Nat.le_of_ble_eq_true rfl)) dX1_sure_9 ⟨Nat.le_of_ble_eq_true rfl, Nat.le_of_ble_eq_true rfl⟩) ?_
  refine x_ti (y := memA (opS c g code ans dbt) 0 81) (by rw [memA_congr hop]) ?_
  refine lv_istore_n (lv' := [(2, .int (memA (opS c g code ans dbt) 0 81)), (0, .ref (ad 0)), (1, .int (nI (p0)))]) hx hb dX1_sure_12 rfl hl (by decide) rfl (fun ls hl => ?_)
  refine lv_iload_n hx hb dX1_sure_13 rfl (lv_at hl 0 rfl) ?_
  refine lv_iconst (v := (-1)) hx hb dX1_sure_14 (by decide) ?_
  refine lv_icmp_ne (tgt := 20) hx hb dX1_sure_15 (by decide) (fun c15 => ?_) (fun c15 => ?_)
  · skip
    obtain ⟨k, hk81, hsk, hmk⟩ := memA_of c15
    have hk := op_lt2 hsk
    rw [hmk] at hl
    refine lv_aload_n hx hb dX1_sure_20 rfl (lv_at hl 1 rfl) ?_
    refine va_get (D := D) (ci := 1) (v := .ref (pal ad c)) (C := RX1) (T := TX1) (N := 11) hx hb hts hinX1 hown hK hP 0 rfl rfl 2 (by decide) lk21 (fun _ h9 => h9) rfl dX1_sure_21 ?_
    refine lv_iload_n hx hb dX1_sure_24 rfl (lv_at hl 0 rfl) ?_
    refine lv_iload_n hx hb dX1_sure_25 rfl (lv_at hl 2 rfl) ?_
    refine x_csi (va_runVN (As := [.int (nI (k)), .int (nI (p0))]) (rest := []) ⟨hx, hb, hml, hown, hts⟩ (c_X0_colourOf l D cI cZ cG cJ A (WX ad cI cZ c g hid code ans dbt opn ply hps wr) (pal ad c) c k p0 (palX hpal hc) (hc) (hk) (hp)) ⟨va_cnB (host := RX1) 2 hts gX1_sure_X0_colourOf_n73 rfl rfl rfl (hB.2.2.2.2.1 _ (by simp [Nws])) (hts _ (by decide +kernel)) (by decide +kernel) ⟨Nat.le_of_ble_eq_true rfl, Nat.le_of_ble_eq_true rfl⟩, hts _ (by decide +kernel), hts _ (by decide +kernel)⟩ (prePal hB va_S.rf hP hD (palX hpal hc)) rfl rfl hl.1 rfl (lv_room (Nat.le_of_ble_eq_true rfl)) dX1_sure_26 ⟨Nat.le_of_ble_eq_true rfl, Nat.le_of_ble_eq_true rfl⟩) ?_
    have hcl := col_lt hc (k) (p0)
    refine lv_istore_n (lv' := [(3, .int (nI (col c k p0))), (2, .int (nI (k))), (0, .ref (ad 0)), (1, .int (nI (p0)))]) hx hb dX1_sure_29 rfl hl (by decide) rfl (fun ls hl => ?_)
    refine lv_aload_n hx hb dX1_sure_30 rfl (lv_at hl 2 rfl) ?_
    refine lv_iload_n hx hb dX1_sure_31 rfl (lv_at hl 3 rfl) ?_
    refine lv_iload_n hx hb dX1_sure_32 rfl (lv_at hl 0 rfl) ?_
    refine x_csi (va_runV (As := [.int (nI (p0)), .int (nI (col c k p0))]) (rest := []) ⟨hx, hb, hml, hown, hts⟩ (c_X1_countHaving l D cI cZ cG cJ A ad wr hpal c g hid code ans dbt opn ply hps p0 (col c k p0) (hc) (hp) (hcl) (hop2)) (cwV 2 hts gX1_sure_X1_countHaving rfl rfl rfl (by decide +kernel) ⟨Nat.le_of_ble_eq_true rfl, Nat.le_of_ble_eq_true rfl⟩) (preV (ci := 1) (q0 := 0) hB va_S.rf hP hD rfl rfl) rfl rfl hl.1 rfl (lv_room (Nat.le_of_ble_eq_true rfl)) dX1_sure_33 ⟨Nat.le_of_ble_eq_true rfl, Nat.le_of_ble_eq_true rfl⟩) ?_
    refine x_ti (y := nI (hvN c (opS c g code ans dbt) p0 (col c k p0))) (by rw [hvN, hv_congr hop]) ?_
    refine lv_aload_n hx hb dX1_sure_36 rfl (lv_at hl 2 rfl) ?_
    refine va_get (D := D) (ci := 1) (v := .ref (ad 4)) (C := RX1) (T := TX1) (N := 11) hx hb hts hinX1 hown hK hP 0 rfl rfl 8 (by decide) lk42 (fun _ h9 => h9) rfl dX1_sure_37 ?_
    refine x_csi (va_runS (As := [.ref (ad 4)]) (rest := [.int (nI (hvN c (opS c g code ans dbt) p0 (col c k p0)))]) ⟨hx, hb, hml, hown, hts⟩ (c_X1_size l D cI cZ cG cJ A (WX ad cI cZ c g hid code ans dbt opn ply hps wr) (ad 4) 4 opn (rfl)) (va_cwS 1 hts gX1_sure_X1_size rfl rfl rfl (by decide +kernel) ⟨Nat.le_of_ble_eq_true rfl, Nat.le_of_ble_eq_true rfl⟩) (preS hB va_S.rf hP hD) rfl rfl hl.1 rfl (lv_room (Nat.le_of_ble_eq_true rfl)) dX1_sure_40 ⟨Nat.le_of_ble_eq_true rfl, Nat.le_of_ble_eq_true rfl⟩) ?_
    have hz1 := cN_le (opS c g code ans dbt) 81
    have hz2 := hvN_le c (opS c g code ans dbt) p0 (col c k p0)
    refine x_ti (y := nI (cN (opS c g code ans dbt) 81)) (by rw [cN_congr 81 hop]) ?_
    refine x_ne (tgt := 50) hx hb dX1_sure_43 (by decide) (by omega) (by omega) (fun c43 => ?_) (fun c43 => ?_)
    · skip
      refine lv_iconst (v := (-1)) hx hb dX1_sure_50 (by decide) ?_
      exact W.iret (v := (-1)) hx hb hr (fun t ht hW => ⟨_, rfl, (by
          first | exact (sure_1 hc hk81 hsk c43 hcl).symm | exact (sure_2 hc hk81 hsk c43).symm), ht⟩) (fun _ h => nomatch h) dX1_sure_51
    · skip
      refine lv_iload_n hx hb dX1_sure_46 rfl (lv_at hl 0 rfl) ?_
      refine lv_goto (tgt := 51) hx hb dX1_sure_47 (by decide) ?_
      exact W.iret (v := nI (col c k p0)) hx hb hr (fun t ht hW => ⟨_, rfl, (by
          first | exact (sure_1 hc hk81 hsk c43 hcl).symm | exact (sure_2 hc hk81 hsk c43).symm), ht⟩) (fun _ h => nomatch h) dX1_sure_51
  · skip
    refine lv_iconst (v := (-1)) hx hb dX1_sure_18 (by decide) ?_
    exact W.iret (v := (-1)) hx hb hr (fun t ht hW => ⟨_, rfl, (by
        exact (sure_0 c15 p0).symm), ht⟩) (fun _ h => nomatch h) dX1_sure_19

set_option maxHeartbeats 4000000 in
set_option maxRecDepth 100000 in
theorem c_X1_worst (l : Launch) (hfl : l.flags = flags0) (D : va_G) (cI cZ cG cJ : ClassId) (A : Nat → Prop) (ad : Nat → Nat) (wr : va_W) (hpal : Pals cI cG ad wr) (c : Nat) (g : Nat) (hid : Int32) (code : Nat → Nat) (ans : Nat → Nat) (dbt : Nat → Bool) (opn : Nat → Bool) (ply : Nat → Bool) (hps : Nat → Nat) (v : Int32) (hI : XI c g hid code ans dbt opn) : vx_Met l yX1_worst wsX1_worst ({ frames := 7, cells := 1, slots := 6, locals := 103 }) (va_Pc [.ref (ad 0), .int (v)] (Iv D (TY cI cZ cG cJ) A (WX ad cI cZ c g hid code ans dbt opn ply hps wr))) (va_Qi (fun r (u : Nat × (Nat → Nat)) => r = nI (gh c u.1 (opS c g code ans dbt)) ∧ u.1 < qq c ∧ v = nI u.1) (fun u => Wd D A (WX ad cI cZ c g hid code ans dbt opn ply u.2 wr)) A) (Xw D A (WX ad cI cZ c g hid code ans dbt opn ply hps wr) (fun E => E = "java/lang/IndexOutOfBoundsException" ∧ hasC c v = false)) 1 6 A := by
  refine vx_ofW (cc := cX1_worst) (maxL := 2) (ret := (some .int)) (by decide) rfl ?_
  intro p e s m args below meth c9 s₁ B hml hnt hv
  obtain ⟨rfl, hP, hD, hB⟩ := hv
  have hK := hB.1
  have hA := hB.2.1
  have hx := B.exec
  have hb := B.bytes
  have hr := B.returns
  have hts := atoms_spec (ws := wsX1_worst) B.pre
  have hown : s.vm.findClass RX1 = some m.cls := findClass_of_methodNamed B.named
  have hlocks := B.notSynchronized
  have hS : va_S A s.heap s.heap [] := va_S.rf
  have hflag : l.stackTraces = false := by rw [Launch.stackTraces, hfl]; decide
  have hinX1 : ∀ w ∈ wsX10, w ∈ wsX1_worst := by decide +kernel
  have lk42 := hts (.fieldLink RX1 42 "HiddenCandles" "open" "[Z") (by decide +kernel)
  have hl := lv_entry ([.ref (ad 0), .int (v)]) (n := 2) (Nat.le_of_ble_eq_true rfl)
  rw [lg_entry_eq]
  generalize (lg_sl ([.ref (ad 0), .int (v)]) ++ List.replicate (2 - (lg_sl ([.ref (ad 0), .int (v)])).length) Slot.unset).toArray = ls at hl ⊢
  have hl : lv_has ls 2 [(0, .ref (ad 0)), (1, .int (v))] := hl
  obtain ⟨H, eH⟩ : ∃ q, q = s.heap := ⟨_, rfl⟩
  obtain ⟨locs, eL⟩ : ∃ q : List Loc, q = [] := ⟨_, rfl⟩
  replace hP : va_P D vwCl (WX ad cI cZ c g hid code ans dbt opn ply hps wr) H := by rw [eH]; exact hP
  replace hS : va_S A s.heap H locs := by rw [eH, eL]; exact hS
  rw [show W p l e _ s m _ below meth c9 s.heap [] = W p l e _ s m _ below meth c9 H locs from by rw [eH, eL]]
  clear eH eL
  obtain ⟨hc, hg, hco, hhid, hop⟩ := id hI
  have hq := qq_in hc
  have hop2 := op_lt hop
  refine lv_aload_n hx hb dX1_worst_0 rfl (lv_at hl 0 rfl) ?_
  refine lv_iload_n hx hb dX1_worst_1 rfl (lv_at hl 1 rfl) ?_
  refine vx_callv (vx_runV (As := [.int (v)]) (rest := []) ⟨hx, hb, hml, hown, hts⟩ (c_X1_needCode l hfl D cI cZ cG cJ A ad wr hpal c g hid code ans dbt opn ply hps v (hc)) (cwV 1 hts gX1_worst_X1_needCode rfl rfl rfl (by decide +kernel) ⟨Nat.le_of_ble_eq_true rfl, Nat.le_of_ble_eq_true rfl⟩) (preV (ci := 1) (q0 := 0) hB hS hP hD rfl rfl) rfl rfl hl.1 rfl (lv_room (Nat.le_of_ble_eq_true rfl)) dX1_worst_2 ⟨Nat.le_of_ble_eq_true rfl, Nat.le_of_ble_eq_true rfl⟩) hS (fun q _ h => h) (fun q h => h) (fun q _ h => h) (fun E ce q9 u9 t9 H1 locs1 ht9 hvm9 hpx8 hBx hz9 hk9 hS hq9 hv9 hcl9 => ?_) (fun u_2 t9 H1 locs1 ht9 hvm9 hw_2 hBw hz9 hk9 hS => ?_)
  · obtain ⟨hpx9, hP1, hD1⟩ := hBx
    rw [ht9] at hP1
    exact vx_out (fun x hx9 => (hnt x hx9).elim) hlocks hq9 hv9 hcl9 (fun t ht hvm => ⟨(), trivial, ⟨(by
        exact hpx9), by rw [ht]; exact hP1, hD1⟩, hS.F ht⟩) hS.2.2 (by omega) (by omega)
  obtain ⟨hP, hD⟩ := hBw
  rw [ht9] at hP
  generalize H1 = H at hP hS ⊢
  generalize locs1 = locs at hS ⊢
  replace hP : va_P D vwCl (WX ad cI cZ c g hid code ans dbt opn ply hps wr) H := hP
  replace hD : va_D A (WX ad cI cZ c g hid code ans dbt opn ply hps wr) := hD
  obtain ⟨k, hk, rfl⟩ := hasC_of hc hw_2
  refine lv_aload_n hx hb dX1_worst_5 rfl (lv_at hl 0 rfl) ?_
  refine lv_iload_n hx hb dX1_worst_6 rfl (lv_at hl 1 rfl) ?_
  refine lv_aload_n hx hb dX1_worst_7 rfl (lv_at hl 0 rfl) ?_
  refine va_get (D := D) (ci := 1) (v := .ref (ad 4)) (C := RX1) (T := TX1) (N := 11) hx hb hts hinX1 hown hK hP 0 rfl rfl 8 (by decide) lk42 (fun _ h9 => h9) rfl dX1_worst_8 ?_
  refine va_calli (va_runV (As := [.int (nI (k)), .ref (ad 4)]) (rest := []) ⟨hx, hb, hml, hown, hts⟩ (c_X1_greatestHeap l D cI cZ cG cJ A ad wr hpal c g hid code ans dbt opn ply hps k (ad 4) 4 opn (hc) (hk) (Or.inl ⟨rfl, rfl, rfl⟩) (hop2)) (cwV 2 hts gX1_worst_X1_greatestHeap rfl rfl rfl (by decide +kernel) ⟨Nat.le_of_ble_eq_true rfl, Nat.le_of_ble_eq_true rfl⟩) (preV (ci := 1) (q0 := 0) hB hS hP hD rfl rfl) rfl rfl hl.1 rfl (lv_room (Nat.le_of_ble_eq_true rfl)) dX1_worst_11 ⟨Nat.le_of_ble_eq_true rfl, Nat.le_of_ble_eq_true rfl⟩) hS (fun q _ h => h) (fun q h => h) (fun r_11 u_11 t9 H1 locs1 ht9 hvm9 hw_11 hBw hz9 hk9 hS => ?_)
  obtain ⟨hP, hD⟩ := hBw
  rw [ht9] at hP
  generalize H1 = H at hP hS ⊢
  generalize locs1 = locs at hS ⊢
  replace hP : va_P D vwCl (WX ad cI cZ c g hid code ans dbt opn ply u_11 wr) H := hP
  replace hD : va_D A (WX ad cI cZ c g hid code ans dbt opn ply u_11 wr) := hD
  refine x_ti (y := nI (gh c k opn)) (hw_11.1) ?_
  refine W.widen (k := 1) (n := 6) (Nat.le_of_ble_eq_true rfl) (Nat.le_of_ble_eq_true rfl) ?_
  exact vx_ret (W.iret (v := nI (gh c k opn)) hx hb hr (fun t ht hW => ⟨⟨_, (k, u_11), rfl, (by
      exact ⟨by rw [gh_congr hop], hk, rfl⟩), ⟨by rw [ht]; exact hP, hD⟩⟩, hS.F ht⟩) hS.2.2 dX1_worst_14)

set_option maxHeartbeats 4000000 in
set_option maxRecDepth 100000 in
theorem c_X1_parts (l : Launch) (hfl : l.flags = flags0) (D : va_G) (cI cZ cG cJ : ClassId) (A : Nat → Prop) (ad : Nat → Nat) (wr : va_W) (hpal : Pals cI cG ad wr) (c : Nat) (g : Nat) (hid : Int32) (code : Nat → Nat) (ans : Nat → Nat) (dbt : Nat → Bool) (opn : Nat → Bool) (ply : Nat → Bool) (hps : Nat → Nat) (v : Int32) (hI : XI c g hid code ans dbt opn) : vx_Met l yX1_parts wsX1_parts ({ frames := 7, cells := 1, slots := 6, locals := 103 }) (va_Pc [.ref (ad 0), .int (v)] (Iv D (TY cI cZ cG cJ) A (WX ad cI cZ c g hid code ans dbt opn ply hps wr))) (va_Qi (fun r (u : Nat × (Nat → Nat)) => r = nI (cN (fun x => decide (0 < hpN c u.1 (opS c g code ans dbt) x)) 21) ∧ u.1 < qq c ∧ v = nI u.1) (fun u => Wd D A (WX ad cI cZ c g hid code ans dbt opn ply u.2 wr)) A) (Xw D A (WX ad cI cZ c g hid code ans dbt opn ply hps wr) (fun E => E = "java/lang/IndexOutOfBoundsException" ∧ hasC c v = false)) 1 6 A := by
  refine vx_ofW (cc := cX1_parts) (maxL := 4) (ret := (some .int)) (by decide) rfl ?_
  intro p e s m args below meth c9 s₁ B hml hnt hv
  obtain ⟨rfl, hP, hD, hB⟩ := hv
  have hK := hB.1
  have hA := hB.2.1
  have hx := B.exec
  have hb := B.bytes
  have hr := B.returns
  have hts := atoms_spec (ws := wsX1_parts) B.pre
  have hown : s.vm.findClass RX1 = some m.cls := findClass_of_methodNamed B.named
  have hlocks := B.notSynchronized
  have hS : va_S A s.heap s.heap [] := va_S.rf
  have hflag : l.stackTraces = false := by rw [Launch.stackTraces, hfl]; decide
  have hinX1 : ∀ w ∈ wsX10, w ∈ wsX1_parts := by decide +kernel
  have lk42 := hts (.fieldLink RX1 42 "HiddenCandles" "open" "[Z") (by decide +kernel)
  have lk48 := hts (.fieldLink RX1 48 "HiddenCandles" "heaps" "[I") (by decide +kernel)
  have hl := lv_entry ([.ref (ad 0), .int (v)]) (n := 4) (Nat.le_of_ble_eq_true rfl)
  rw [lg_entry_eq]
  generalize (lg_sl ([.ref (ad 0), .int (v)]) ++ List.replicate (4 - (lg_sl ([.ref (ad 0), .int (v)])).length) Slot.unset).toArray = ls at hl ⊢
  have hl : lv_has ls 4 [(0, .ref (ad 0)), (1, .int (v))] := hl
  obtain ⟨H, eH⟩ : ∃ q, q = s.heap := ⟨_, rfl⟩
  obtain ⟨locs, eL⟩ : ∃ q : List Loc, q = [] := ⟨_, rfl⟩
  replace hP : va_P D vwCl (WX ad cI cZ c g hid code ans dbt opn ply hps wr) H := by rw [eH]; exact hP
  replace hS : va_S A s.heap H locs := by rw [eH, eL]; exact hS
  rw [show W p l e _ s m _ below meth c9 s.heap [] = W p l e _ s m _ below meth c9 H locs from by rw [eH, eL]]
  clear eH eL
  obtain ⟨hc, hg, hco, hhid, hop⟩ := id hI
  have hq := qq_in hc
  have hop2 := op_lt hop
  refine lv_aload_n hx hb dX1_parts_0 rfl (lv_at hl 0 rfl) ?_
  refine lv_iload_n hx hb dX1_parts_1 rfl (lv_at hl 1 rfl) ?_
  refine vx_callv (vx_runV (As := [.int (v)]) (rest := []) ⟨hx, hb, hml, hown, hts⟩ (c_X1_needCode l hfl D cI cZ cG cJ A ad wr hpal c g hid code ans dbt opn ply hps v (hc)) (cwV 1 hts gX1_parts_X1_needCode rfl rfl rfl (by decide +kernel) ⟨Nat.le_of_ble_eq_true rfl, Nat.le_of_ble_eq_true rfl⟩) (preV (ci := 1) (q0 := 0) hB hS hP hD rfl rfl) rfl rfl hl.1 rfl (lv_room (Nat.le_of_ble_eq_true rfl)) dX1_parts_2 ⟨Nat.le_of_ble_eq_true rfl, Nat.le_of_ble_eq_true rfl⟩) hS (fun q _ h => h) (fun q h => h) (fun q _ h => h) (fun E ce q9 u9 t9 H1 locs1 ht9 hvm9 hpx8 hBx hz9 hk9 hS hq9 hv9 hcl9 => ?_) (fun u_2 t9 H1 locs1 ht9 hvm9 hw_2 hBw hz9 hk9 hS => ?_)
  · obtain ⟨hpx9, hP1, hD1⟩ := hBx
    rw [ht9] at hP1
    exact vx_out (fun x hx9 => (hnt x hx9).elim) hlocks hq9 hv9 hcl9 (fun t ht hvm => ⟨(), trivial, ⟨(by
        exact hpx9), by rw [ht]; exact hP1, hD1⟩, hS.F ht⟩) hS.2.2 (by omega) (by omega)
  obtain ⟨hP, hD⟩ := hBw
  rw [ht9] at hP
  generalize H1 = H at hP hS ⊢
  generalize locs1 = locs at hS ⊢
  replace hP : va_P D vwCl (WX ad cI cZ c g hid code ans dbt opn ply hps wr) H := hP
  replace hD : va_D A (WX ad cI cZ c g hid code ans dbt opn ply hps wr) := hD
  obtain ⟨k, hk, rfl⟩ := hasC_of hc hw_2
  refine lv_aload_n hx hb dX1_parts_5 rfl (lv_at hl 0 rfl) ?_
  refine lv_iload_n hx hb dX1_parts_6 rfl (lv_at hl 1 rfl) ?_
  refine lv_aload_n hx hb dX1_parts_7 rfl (lv_at hl 0 rfl) ?_
  refine va_get (D := D) (ci := 1) (v := .ref (ad 4)) (C := RX1) (T := TX1) (N := 11) hx hb hts hinX1 hown hK hP 0 rfl rfl 8 (by decide) lk42 (fun _ h9 => h9) rfl dX1_parts_8 ?_
  refine va_callv (va_runV (As := [.int (nI (k)), .ref (ad 4)]) (rest := []) ⟨hx, hb, hml, hown, hts⟩ (c_X1_heapUp l D cI cZ cG cJ A ad wr hpal c g hid code ans dbt opn ply hps k (ad 4) 4 opn (hc) (hk) (Or.inl ⟨rfl, rfl, rfl⟩) (hop2)) (cwV 2 hts gX1_parts_X1_heapUp rfl rfl rfl (by decide +kernel) ⟨Nat.le_of_ble_eq_true rfl, Nat.le_of_ble_eq_true rfl⟩) (preV (ci := 1) (q0 := 0) hB hS hP hD rfl rfl) rfl rfl hl.1 rfl (lv_room (Nat.le_of_ble_eq_true rfl)) dX1_parts_11 ⟨Nat.le_of_ble_eq_true rfl, Nat.le_of_ble_eq_true rfl⟩) hS (fun q _ h => h) (fun q h => h) (fun u_11 t9 H1 locs1 ht9 hvm9 hw_11 hBw hz9 hk9 hS => ?_)
  obtain ⟨hP, hD⟩ := hBw
  rw [ht9] at hP
  generalize H1 = H at hP hS ⊢
  generalize locs1 = locs at hS ⊢
  replace hP : va_P D vwCl (WX ad cI cZ c g hid code ans dbt opn ply u_11 wr) H := hP
  replace hD : va_D A (WX ad cI cZ c g hid code ans dbt opn ply u_11 wr) := hD
  refine lv_iconst (v := nI (0)) hx hb dX1_parts_14 (by decide) ?_
  refine lv_istore_n (lv' := [(2, .int (nI (0))), (0, .ref (ad 0)), (1, .int (nI (k)))]) hx hb dX1_parts_15 rfl hl (by decide) rfl (fun ls hl => ?_)
  refine lv_iconst (v := nI (0)) hx hb dX1_parts_16 (by decide) ?_
  refine lv_istore_n (lv' := [(3, .int (nI (0))), (2, .int (nI (0))), (0, .ref (ad 0)), (1, .int (nI (k)))]) hx hb dX1_parts_17 rfl hl (by decide) rfl (fun ls hl => ?_)
  -- loop at 18
  have hinv : 0 ≤ 21 ∧ 0 = cN (fun x => decide (0 < hpN c k (opS c g code ans dbt) x)) 0 := by
    exact ⟨Nat.zero_le _, rfl⟩
  obtain ⟨j, r, hq9⟩ : ∃ (j : Nat) (r : Nat), lv_has ls 4 [(0, .ref (ad 0)), (1, .int (nI (k))), (2, .int (nI (r))), (3, .int (nI (j)))] ∧ (j ≤ 21 ∧ r = cN (fun x => decide (0 < hpN c k (opS c g code ans dbt) x)) j) ∧ va_P D vwCl (WX ad cI cZ c g hid code ans dbt opn ply u_11 wr) H ∧ va_D A (WX ad cI cZ c g hid code ans dbt opn ply u_11 wr) := ⟨0, 0, lv_sub hl [2, 3, 1, 0] rfl, hinv, hP, hD⟩
  clear hl hinv hP hD
  obtain ⟨hl, hinv, hP, hD⟩ := hq9
  obtain ⟨n9_18, hn9⟩ : ∃ q : Nat, 21 - j < q := ⟨_, Nat.lt_succ_self _⟩
  induction n9_18 generalizing ls H locs j r with
  | zero => exact absurd hn9 (Nat.not_lt_zero _)
  | succ n9_18 ih18 =>
    obtain ⟨h1, h2⟩ := hinv; have hle := cN_le (fun x => decide (0 < hpN c k (opS c g code ans dbt) x)) j
    refine lv_iload_n hx hb dX1_parts_18 rfl (lv_at hl 3 rfl) ?_
    refine lv_aload_n hx hb dX1_parts_19 rfl (lv_at hl 0 rfl) ?_
    refine va_get (D := D) (ci := 1) (v := .ref (ad 6)) (C := RX1) (T := TX1) (N := 11) hx hb hts hinX1 hown hK hP 0 rfl rfl 10 (by decide) lk48 (fun _ h9 => h9) rfl dX1_parts_20 ?_
    refine x_alen hx hb hK hP 6 0 rfl rfl (n := 21) rfl dX1_parts_23 ?_
    refine x_ge (tgt := 45) hx hb dX1_parts_24 (by decide) (by omega) (by omega) (fun c24 => ?_) (fun c24 => ?_)
    · skip
      refine lv_iload_n hx hb dX1_parts_45 rfl (lv_at hl 2 rfl) ?_
      refine W.widen (k := 1) (n := 6) (Nat.le_of_ble_eq_true rfl) (Nat.le_of_ble_eq_true rfl) ?_
      exact vx_ret (W.iret (v := nI (r)) hx hb hr (fun t ht hW => ⟨⟨_, (k, u_11), rfl, (by
          have e9 : j = 21 := by omega
          subst e9
          exact ⟨by rw [h2], hk, rfl⟩), ⟨by rw [ht]; exact hP, hD⟩⟩, hS.F ht⟩) hS.2.2 dX1_parts_46)
    · skip
      refine lv_aload_n hx hb dX1_parts_27 rfl (lv_at hl 0 rfl) ?_
      refine va_get (D := D) (ci := 1) (v := .ref (ad 6)) (C := RX1) (T := TX1) (N := 11) hx hb hts hinX1 hown hK hP 0 rfl rfl 10 (by decide) lk48 (fun _ h9 => h9) rfl dX1_parts_28 ?_
      refine lv_iload_n hx hb dX1_parts_31 rfl (lv_at hl 3 rfl) ?_
      refine x_iald hx hb hK hP 6 0 rfl rfl (i := j) (by omega) (by omega) dX1_parts_32 ?_
      have h6 : u_11 j ≤ 81 := by rw [hw_11 j (by omega)]; exact cN_le _ _
      refine x_le0 (tgt := 39) hx hb dX1_parts_33 (by decide) (by omega) (fun c33 => ?_) (fun c33 => ?_)
      · skip
        refine lv_iinc (v := nI (j + 1)) (lv' := [(3, .int (nI (j + 1))), (0, .ref (ad 0)), (1, .int (nI (k))), (2, .int (nI (r)))]) hx hb dX1_parts_39 hl (k := 3) rfl (nI_add _ _) (by decide) rfl (fun ls hl => ?_)
        refine lv_goto (tgt := 18) hx hb dX1_parts_42 (by decide) ?_
        exact ih18 (j := j + 1) (r := r) (ls := ls) (hl := lv_sub hl [1, 2, 3, 0] rfl) (H := H) (locs := locs) (hP := hP) (hS := hS) (hinv := by
            refine ⟨by omega, ?_⟩
            have h5 := hw_11 j (by omega)
            rw [hpN_congr hop] at h5
            rw [h5] at c33
            first | exact (congrArg (· + 1) h2).trans (cN_s (p := fun x => decide (0 < hpN c k (opS c g code ans dbt) x)) (decide_eq_true c33)).symm | exact h2.trans (cN_n (p := fun x => decide (0 < hpN c k (opS c g code ans dbt) x)) (decide_eq_false (by omega))).symm
          ) (hn9 := by
            omega
          )
      · skip
        refine lv_iinc (v := nI (r + 1)) (lv' := [(2, .int (nI (r + 1))), (0, .ref (ad 0)), (1, .int (nI (k))), (3, .int (nI (j)))]) hx hb dX1_parts_36 hl (k := 2) rfl (nI_add _ _) (by decide) rfl (fun ls hl => ?_)
        refine lv_iinc (v := nI (j + 1)) (lv' := [(3, .int (nI (j + 1))), (2, .int (nI (r + 1))), (0, .ref (ad 0)), (1, .int (nI (k)))]) hx hb dX1_parts_39 hl (k := 3) rfl (nI_add _ _) (by decide) rfl (fun ls hl => ?_)
        refine lv_goto (tgt := 18) hx hb dX1_parts_42 (by decide) ?_
        exact ih18 (j := j + 1) (r := r + 1) (ls := ls) (hl := lv_sub hl [2, 3, 1, 0] rfl) (H := H) (locs := locs) (hP := hP) (hS := hS) (hinv := by
            refine ⟨by omega, ?_⟩
            have h5 := hw_11 j (by omega)
            rw [hpN_congr hop] at h5
            rw [h5] at c33
            first | exact (congrArg (· + 1) h2).trans (cN_s (p := fun x => decide (0 < hpN c k (opS c g code ans dbt) x)) (decide_eq_true c33)).symm | exact h2.trans (cN_n (p := fun x => decide (0 < hpN c k (opS c g code ans dbt) x)) (decide_eq_false (by omega))).symm
          ) (hn9 := by
            omega
          )

set_option maxHeartbeats 4000000 in
set_option maxRecDepth 100000 in
theorem c_X1_best (l : Launch) (D : va_G) (cI cZ cG cJ : ClassId) (A : Nat → Prop) (ad : Nat → Nat) (wr : va_W) (hpal : Pals cI cG ad wr) (c : Nat) (g : Nat) (hid : Int32) (code : Nat → Nat) (ans : Nat → Nat) (dbt : Nat → Bool) (opn : Nat → Bool) (ply : Nat → Bool) (hps : Nat → Nat) (hI : XI c g hid code ans dbt opn) : Met l yX1_best wsX1_best ({ frames := 5, cells := 0, slots := 0, locals := 119 }) (va_Pc [.ref (ad 0)] (Iv D (TY cI cZ cG cJ) A (WX ad cI cZ c g hid code ans dbt opn ply hps wr))) (va_Qi (fun r (u : Nat → Nat) => r = lbR c (opS c g code ans dbt) false ∧ True) (fun u => Wd D A (WX ad cI cZ c g hid code ans dbt opn ply u wr)) A) 0 0 A := by
  refine Met.ofW (cc := cX1_best) (maxL := 1) (ret := (some .int)) (by decide) rfl ?_
  intro p e s m args below meth c9 s₁ B hml hv
  obtain ⟨rfl, hP, hD, hB⟩ := hv
  have hK := hB.1
  have hA := hB.2.1
  have hx := B.exec
  have hb := B.bytes
  have hr := B.returns
  have hts := atoms_spec (ws := wsX1_best) B.pre
  have hown : s.vm.findClass RX1 = some m.cls := findClass_of_methodNamed B.named
  have hlocks := B.notSynchronized
  have hS : va_S A s.heap s.heap [] := va_S.rf
  have hinX1 : ∀ w ∈ wsX10, w ∈ wsX1_best := by decide +kernel
  have lk42 := hts (.fieldLink RX1 42 "HiddenCandles" "open" "[Z") (by decide +kernel)
  have hl := lv_entry ([.ref (ad 0)]) (n := 1) (Nat.le_of_ble_eq_true rfl)
  rw [lg_entry_eq]
  generalize (lg_sl ([.ref (ad 0)]) ++ List.replicate (1 - (lg_sl ([.ref (ad 0)])).length) Slot.unset).toArray = ls at hl ⊢
  have hl : lv_has ls 1 [(0, .ref (ad 0))] := hl
  obtain ⟨H, eH⟩ : ∃ q, q = s.heap := ⟨_, rfl⟩
  obtain ⟨locs, eL⟩ : ∃ q : List Loc, q = [] := ⟨_, rfl⟩
  replace hP : va_P D vwCl (WX ad cI cZ c g hid code ans dbt opn ply hps wr) H := by rw [eH]; exact hP
  replace hS : va_S A s.heap H locs := by rw [eH, eL]; exact hS
  rw [show W p l e _ s m _ below meth c9 s.heap [] = W p l e _ s m _ below meth c9 H locs from by rw [eH, eL]]
  clear eH eL
  obtain ⟨hc, hg, hco, hhid, hop⟩ := id hI
  have hq := qq_in hc
  have hop2 := op_lt hop
  refine lv_aload_n hx hb dX1_best_0 rfl (lv_at hl 0 rfl) ?_
  refine lv_aload_n hx hb dX1_best_1 rfl (lv_at hl 0 rfl) ?_
  refine va_get (D := D) (ci := 1) (v := .ref (ad 4)) (C := RX1) (T := TX1) (N := 11) hx hb hts hinX1 hown hK hP 0 rfl rfl 8 (by decide) lk42 (fun _ h9 => h9) rfl dX1_best_2 ?_
  refine lv_iconst (v := bI (false)) hx hb dX1_best_5 (by decide) ?_
  refine va_calli (va_runV (As := [.ref (ad 4), .int (bI (false))]) (rest := []) ⟨hx, hb, hml, hown, hts⟩ (c_X1_leastBad l D cI cZ cG cJ A ad wr hpal c g hid code ans dbt opn ply hps (ad 4) 4 opn false (hc) (Or.inl ⟨rfl, rfl, rfl⟩) (hop2)) (cwV 2 hts gX1_best_X1_leastBad rfl rfl rfl (by decide +kernel) ⟨Nat.le_of_ble_eq_true rfl, Nat.le_of_ble_eq_true rfl⟩) (preV (ci := 1) (q0 := 0) hB hS hP hD rfl rfl) rfl rfl hl.1 rfl (lv_room (Nat.le_of_ble_eq_true rfl)) dX1_best_6 ⟨Nat.le_of_ble_eq_true rfl, Nat.le_of_ble_eq_true rfl⟩) hS (fun q _ h => h) (fun q h => h) (fun r_6 u_6 t9 H1 locs1 ht9 hvm9 hw_6 hBw hz9 hk9 hS => ?_)
  obtain ⟨hP, hD⟩ := hBw
  rw [ht9] at hP
  generalize H1 = H at hP hS ⊢
  generalize locs1 = locs at hS ⊢
  replace hP : va_P D vwCl (WX ad cI cZ c g hid code ans dbt opn ply u_6 wr) H := hP
  replace hD : va_D A (WX ad cI cZ c g hid code ans dbt opn ply u_6 wr) := hD
  refine x_ti (y := lbR c opn false) (hw_6.1) ?_
  exact W.iret (v := lbR c opn false) hx hb hr (fun t ht hW => ⟨⟨_, u_6, rfl, (by
      exact ⟨by rw [lbR_congr hop], trivial⟩), ⟨by rw [ht]; exact hP, hD⟩⟩, hS.F ht⟩) hS.2.2 dX1_best_9
end
section
/-- the least bad of a set that is played in, as a number -/
noncomputable def lbI (c : Nat) (sb : Nat → Bool) : Nat := (lbR c sb true).toNatClampNeg
theorem lbS_in {c : Nat} {sb : Nat → Bool} (n : Nat) (hn : n ≤ 81) : (lbS c sb true n = (-1, false, 82) ∧ ∀ k, k < n → sb k = false) ∨ ∃ k, k < n ∧ sb k = true ∧ (lbS c sb true n).1 = nI k := by
  induction n with
  | zero => exact Or.inl ⟨rfl, fun k hk => absurd hk (Nat.not_lt_zero _)⟩
  | succ n ih =>
    rw [lbS_step]
    by_cases hs : sb n = true
    · by_cases hu : (sb n = true ∨ true = false) ∧ (gh c n sb < (lbS c sb true n).2.2 ∨ gh c n sb = (lbS c sb true n).2.2 ∧ sb n = true ∧ (lbS c sb true n).2.1 = false)
      · rw [if_pos hu]; exact Or.inr ⟨n, Nat.lt_succ_self _, hs, rfl⟩
      · rw [if_neg hu]
        rcases ih (by omega) with h | ⟨k, a, b, d⟩
        · exfalso
          apply hu
          refine ⟨Or.inl hs, Or.inl ?_⟩
          rw [h.1]
          have := gh_le81 c n sb
          show gh c n sb < 82
          omega
        · exact Or.inr ⟨k, by omega, b, d⟩
    · have hs' : sb n = false := by cases h : sb n; rfl; exact absurd h hs
      rw [if_neg (fun q => by rcases q.1 with h | h; exact hs h; cases h)]
      rcases ih (by omega) with h | ⟨k, a, b, d⟩
      · refine Or.inl ⟨h.1, fun k hk => ?_⟩
        by_cases e : k = n
        · rw [e]; exact hs'
        · exact h.2 k (by omega)
      · exact Or.inr ⟨k, by omega, b, d⟩
theorem lbI_ok {c : Nat} {sb : Nat → Bool} (hc : qq c ≤ 81) (hsb : ∀ k, k < 81 → sb k = true → k < qq c) (hne : ∃ k, k < qq c ∧ sb k = true) : lbR c sb true = nI (lbI c sb) ∧ lbI c sb < qq c ∧ sb (lbI c sb) = true := by
  obtain ⟨k0, h0, h1⟩ := hne
  have hz : ¬ cN sb 81 = 0 := by have := cN_pos (p := sb) (n := 81) (by omega) h1; omega
  have e : lbR c sb true = (lbS c sb true (qq c)).1 := by rw [lbR, if_neg hz]
  rcases lbS_in (c := c) (sb := sb) (qq c) hc with h | ⟨k, a, b, d⟩
  · exact absurd (h.2 k0 h0) (by rw [h1]; decide)
  · have e2 : lbI c sb = k := by rw [lbI, e, d]; exact nI_clamp (by omega)
    rw [e2, e, d]
    exact ⟨rfl, a, b⟩
/-- a play: the codes that are possible, and the guess that comes next, after n guesses -/
noncomputable def tkP (c code first : Nat) : Nat → (Nat → Bool) × Nat
  | 0 => (fun k => decide (k < qq c), first)
  | n + 1 => (fun k => (tkP c code first n).1 k && decide (pins c (tkP c code first n).2 k = pins c (tkP c code first n).2 code), lbI c (fun k => (tkP c code first n).1 k && decide (pins c (tkP c code first n).2 k = pins c (tkP c code first n).2 code)))
theorem cN_lt {p q : Nat → Bool} {n k : Nat} (h : ∀ j, j < n → q j = true → p j = true) (hk : k < n) (h1 : p k = true) (h2 : q k = false) : cN q n < cN p n := by
  have hle : ∀ m, m ≤ n → cN q m ≤ cN p m := by
    intro m hm
    induction m with
    | zero => exact Nat.le_refl _
    | succ m ih =>
      have := ih (by omega)
      have := h m (by omega)
      simp only [cN]
      cases hq : q m with
      | false => simp; omega
      | true => rw [h m (by omega) hq]; simp; omega
  induction n with
  | zero => omega
  | succ n ih =>
    by_cases e : k = n
    · subst e
      rw [cN_s h1, cN_n h2]
      have := hle k (by omega); omega
    · have h5 := ih (fun j hj => h j (by omega)) (by omega) (fun m hm => hle m (by omega))
      simp only [cN]
      cases hq : q n with
      | false => simp; omega
      | true => rw [h n (by omega) hq]; simp; omega
theorem tk_inv {c code first : Nat} (hc : c = 2 ∨ c = 3) (hk : code < qq c) (hf : first < qq c) (n : Nat) (hno : ∀ m, m < n → ¬ (tkP c code first m).2 = code) :
    (tkP c code first n).1 code = true ∧ (tkP c code first n).2 < qq c ∧ (tkP c code first n).1 (tkP c code first n).2 = true ∧ cN (tkP c code first n).1 81 + n ≤ 81 ∧ (∀ k, (tkP c code first n).1 k = true → k < qq c) := by
  have hq := qq_in hc
  induction n with
  | zero => exact ⟨decide_eq_true hk, hf, decide_eq_true hf, Nat.le_trans (Nat.le_of_eq (Nat.add_zero _)) (cN_le _ _), fun k h => of_decide_eq_true h⟩
  | succ n ih =>
    obtain ⟨h1, h2, h3, h4, h5⟩ := ih (fun m hm => hno m (by omega))
    have hn := hno n (by omega)
    have hcode : (tkP c code first (n + 1)).1 code = true := by
      show ((tkP c code first n).1 code && decide _) = true
      rw [h1, decide_eq_true rfl]; rfl
    have hlt : ∀ k, (tkP c code first (n + 1)).1 k = true → k < qq c := fun k h => h5 k (by
      have h : ((tkP c code first n).1 k && decide _) = true := h
      exact (Bool.and_eq_true_iff.mp h).1)
    have hl := lbI_ok (c := c) (sb := (tkP c code first (n + 1)).1) hq.2 (fun k _ h => hlt k h) ⟨code, hk, hcode⟩
    have hx : (tkP c code first (n + 1)).1 (tkP c code first n).2 = false := by
      show ((tkP c code first n).1 _ && decide _) = false
      rw [decide_eq_false, Bool.and_false]
      intro q
      have t := pins_tab hc h2 hk
      rw [t.2.2.2] at q
      exact hn (t.2.2.1 q.symm)
    have hcard := cN_lt (p := (tkP c code first n).1) (q := (tkP c code first (n + 1)).1) (n := 81) (fun j _ h => by
      have h : ((tkP c code first n).1 j && decide _) = true := h
      exact (Bool.and_eq_true_iff.mp h).1) (by omega : (tkP c code first n).2 < 81) h3 hx
    exact ⟨hcode, hl.2.1, hl.2.2, by omega, hlt⟩
theorem tk_bound {c code first : Nat} (hc : c = 2 ∨ c = 3) (hk : code < qq c) (hf : first < qq c) (n : Nat) (hno : ∀ m, m < n → ¬ (tkP c code first m).2 = code) : n ≤ 80 := by
  have h := tk_inv hc hk hf n hno
  have hq := qq_in hc
  have := cN_pos (p := (tkP c code first n).1) (n := 81) (by omega) h.1
  omega
/-- that many guesses a code takes -/
def tkR (c code first : Nat) (r : Int32) : Prop := ∃ n, n ≤ 80 ∧ (∀ m, m < n → ¬ (tkP c code first m).2 = code) ∧ (tkP c code first n).2 = code ∧ r = nI (n + 1)
theorem tkR_one {c code first : Nat} {r r2 : Int32} (h : tkR c code first r) (h2 : tkR c code first r2) : r = r2 := by
  obtain ⟨n, -, a, b, rfl⟩ := h
  obtain ⟨k, -, a2, b2, rfl⟩ := h2
  rcases Nat.lt_trichotomy n k with q | q | q
  · exact absurd b (a2 n q)
  · rw [q]
  · exact absurd b2 (a k q)
def blkS (ans : Nat → Nat) (g : Nat) : Nat := sN (fun i => ans i / 5) g
theorem blkS_le {c g : Nat} {code ans : Nat → Nat} (h : CodeOK c g code ans) (n : Nat) (hn : n ≤ g) : blkS ans n ≤ 6 * n := by
  induction n with
  | zero => exact Nat.le_refl _
  | succ n ih =>
    have := ih (by omega)
    have := (h n (by omega)).2
    simp only [blkS, sN] at *
    omega
theorem mean_nan : ∀ a, a < 73 → ∀ g, g < 13 → 0 < g → vf_n64 (FP.ddiv (FP.i2d (nI a)) (FP.i2d (nI g))) := by
  unfold vf_n64
  decide +kernel
def meanV (g : Nat) (ans : Nat → Nat) : UInt64 := if g = 0 then FP.dconst0 else FP.ddiv (FP.i2d (nI (blkS ans g))) (FP.i2d (nI g))
noncomputable def dgC (c g : Nat) (hid : Int32) (code ans : Nat → Nat) (dbt : Nat → Bool) : Nat → Int64
  | 0 => 1583
  | n + 1 => dgm (dgC c g hid code ans dbt n) (nI (cntV c g hid code ans dbt n))
noncomputable def dgI (c : Nat) (code ans : Nat → Nat) (dbt : Nat → Bool) (d : Int64) (i : Nat) : Nat → Int64
  | 0 => d
  | w + 1 => dgm (dgI c code ans dbt d i w) (nI (tldV c code ans dbt i w))
noncomputable def dgT (c g : Nat) (hid : Int32) (code ans : Nat → Nat) (dbt : Nat → Bool) : Nat → Int64
  | 0 => dgm (dgC c g hid code ans dbt 7) hid
  | i + 1 => dgI c code ans dbt (dgT c g hid code ans dbt i) i 6
def dgH (c : Nat) (sb : Nat → Bool) (d : Int64) (p : Nat) : Nat → Int64
  | 0 => d
  | x + 1 => dgm (dgH c sb d p x) (nI (hvN c sb p x))
noncomputable def dgP (c g : Nat) (hid : Int32) (code ans : Nat → Nat) (dbt : Nat → Bool) : Nat → Int64
  | 0 => dgT c g hid code ans dbt g
  | p + 1 => dgH c (opS c g code ans dbt) (dgm (dgP c g hid code ans dbt p) (sureV c (opS c g code ans dbt) p c)) p c
def dgK (sb : Nat → Bool) (d : Int64) : Nat → Int64
  | 0 => d
  | k + 1 => if sb k = true then dgm (dgK sb d k) (nI k) else dgK sb d k
noncomputable def digV (c g : Nat) (hid : Int32) (code ans : Nat → Nat) (dbt : Nat → Bool) : Int64 := dgK (opS c g code ans dbt) (dgP c g hid code ans dbt 4) 81
theorem tk_no {c code first n : Nat} (h : ∀ m, m < n → ¬ (tkP c code first m).2 = code) (h2 : ¬ (tkP c code first n).2 = code) : ∀ m, m < n + 1 → ¬ (tkP c code first m).2 = code := by
  intro m hm
  by_cases e : m = n
  · rw [e]; exact h2
  · exact h m (by omega)
end
section
set_option maxHeartbeats 4000000 in
set_option maxRecDepth 100000 in
theorem c_X1_takes (l : Launch) (hfl : l.flags = flags0) (D : va_G) (cI cZ cG cJ : ClassId) (A : Nat → Prop) (ad : Nat → Nat) (wr : va_W) (hpal : Pals cI cG ad wr) (c : Nat) (g : Nat) (hid : Int32) (code : Nat → Nat) (ans : Nat → Nat) (dbt : Nat → Bool) (opn : Nat → Bool) (ply : Nat → Bool) (hps : Nat → Nat) (v : Int32) (f : Int32) (hI : XI c g hid code ans dbt opn) : vx_Met l yX1_takes wsX1_takes ({ frames := 7, cells := 2, slots := 12, locals := 119 }) (va_Pc [.ref (ad 0), .int (v), .int (f)] (Iv D (TY cI cZ cG cJ) A (WX ad cI cZ c g hid code ans dbt opn ply hps wr))) (va_Qi (fun r (u : Nat × Nat × Int32 × (Nat → Bool) × (Nat → Nat)) => r = u.2.2.1 ∧ tkR c u.1 u.2.1 u.2.2.1 ∧ u.1 < qq c ∧ v = nI u.1 ∧ u.2.1 < qq c ∧ f = nI u.2.1) (fun u => Wd D A (WX ad cI cZ c g hid code ans dbt opn u.2.2.2.1 u.2.2.2.2 wr)) A) (Xw D A (WX ad cI cZ c g hid code ans dbt opn ply hps wr) (fun E => E = "java/lang/IndexOutOfBoundsException" ∧ (hasC c v = false ∨ hasC c f = false))) 2 12 A := by
  refine vx_ofW (cc := cX1_takes) (maxL := 5) (ret := (some .int)) (by decide) rfl ?_
  intro p e s m args below meth c9 s₁ B hml hnt hv
  obtain ⟨rfl, hP, hD, hB⟩ := hv
  have hK := hB.1
  have hA := hB.2.1
  have hx := B.exec
  have hb := B.bytes
  have hr := B.returns
  have hts := atoms_spec (ws := wsX1_takes) B.pre
  have hown : s.vm.findClass RX1 = some m.cls := findClass_of_methodNamed B.named
  have hlocks := B.notSynchronized
  have hS : va_S A s.heap s.heap [] := va_S.rf
  have hflag : l.stackTraces = false := by rw [Launch.stackTraces, hfl]; decide
  have hinX1 : ∀ w ∈ wsX10, w ∈ wsX1_takes := by decide +kernel
  have lk21 := hts (.fieldLink RX1 21 "HiddenCandles" "palette" "LHiddenCandles$Palette;") (by decide +kernel)
  have lk45 := hts (.fieldLink RX1 45 "HiddenCandles" "play" "[Z") (by decide +kernel)
  have hl := lv_entry ([.ref (ad 0), .int (v), .int (f)]) (n := 5) (Nat.le_of_ble_eq_true rfl)
  rw [lg_entry_eq]
  generalize (lg_sl ([.ref (ad 0), .int (v), .int (f)]) ++ List.replicate (5 - (lg_sl ([.ref (ad 0), .int (v), .int (f)])).length) Slot.unset).toArray = ls at hl ⊢
  have hl : lv_has ls 5 [(0, .ref (ad 0)), (1, .int (v)), (2, .int (f))] := hl
  obtain ⟨H, eH⟩ : ∃ q, q = s.heap := ⟨_, rfl⟩
  obtain ⟨locs, eL⟩ : ∃ q : List Loc, q = [] := ⟨_, rfl⟩
  replace hP : va_P D vwCl (WX ad cI cZ c g hid code ans dbt opn ply hps wr) H := by rw [eH]; exact hP
  replace hS : va_S A s.heap H locs := by rw [eH, eL]; exact hS
  rw [show W p l e _ s m _ below meth c9 s.heap [] = W p l e _ s m _ below meth c9 H locs from by rw [eH, eL]]
  clear eH eL
  obtain ⟨hc, hg, hco, hhid, hop⟩ := id hI
  have hq := qq_in hc
  have hop2 := op_lt hop
  refine lv_aload_n hx hb dX1_takes_0 rfl (lv_at hl 0 rfl) ?_
  refine lv_iload_n hx hb dX1_takes_1 rfl (lv_at hl 1 rfl) ?_
  refine vx_callv (vx_runV (As := [.int (v)]) (rest := []) ⟨hx, hb, hml, hown, hts⟩ (c_X1_needCode l hfl D cI cZ cG cJ A ad wr hpal c g hid code ans dbt opn ply hps v (hc)) (cwV 1 hts gX1_takes_X1_needCode rfl rfl rfl (by decide +kernel) ⟨Nat.le_of_ble_eq_true rfl, Nat.le_of_ble_eq_true rfl⟩) (preV (ci := 1) (q0 := 0) hB hS hP hD rfl rfl) rfl rfl hl.1 rfl (lv_room (Nat.le_of_ble_eq_true rfl)) dX1_takes_2 ⟨Nat.le_of_ble_eq_true rfl, Nat.le_of_ble_eq_true rfl⟩) hS (fun q _ h => h) (fun q h => h) (fun q _ h => h) (fun E ce q9 u9 t9 H1 locs1 ht9 hvm9 hpx8 hBx hz9 hk9 hS hq9 hv9 hcl9 => ?_) (fun u_2 t9 H1 locs1 ht9 hvm9 hw_2 hBw hz9 hk9 hS => ?_)
  · obtain ⟨hpx9, hP1, hD1⟩ := hBx
    rw [ht9] at hP1
    exact vx_out (fun x hx9 => (hnt x hx9).elim) hlocks hq9 hv9 hcl9 (fun t ht hvm => ⟨(), trivial, ⟨(by
        exact ⟨hpx9.1, Or.inl hpx9.2⟩), by rw [ht]; exact hP1, hD1⟩, hS.F ht⟩) hS.2.2 (by omega) (by omega)
  obtain ⟨hP, hD⟩ := hBw
  rw [ht9] at hP
  generalize H1 = H at hP hS ⊢
  generalize locs1 = locs at hS ⊢
  replace hP : va_P D vwCl (WX ad cI cZ c g hid code ans dbt opn ply hps wr) H := hP
  replace hD : va_D A (WX ad cI cZ c g hid code ans dbt opn ply hps wr) := hD
  obtain ⟨k, hk, rfl⟩ := hasC_of hc hw_2
  refine lv_aload_n hx hb dX1_takes_5 rfl (lv_at hl 0 rfl) ?_
  refine lv_iload_n hx hb dX1_takes_6 rfl (lv_at hl 2 rfl) ?_
  refine vx_callv (vx_runV (As := [.int (f)]) (rest := []) ⟨hx, hb, hml, hown, hts⟩ (c_X1_needCode l hfl D cI cZ cG cJ A ad wr hpal c g hid code ans dbt opn ply hps f (hc)) (cwV 1 hts gX1_takes_X1_needCode rfl rfl rfl (by decide +kernel) ⟨Nat.le_of_ble_eq_true rfl, Nat.le_of_ble_eq_true rfl⟩) (preV (ci := 1) (q0 := 0) hB hS hP hD rfl rfl) rfl rfl hl.1 rfl (lv_room (Nat.le_of_ble_eq_true rfl)) dX1_takes_7 ⟨Nat.le_of_ble_eq_true rfl, Nat.le_of_ble_eq_true rfl⟩) hS (fun q _ h => h) (fun q h => h) (fun q _ h => h) (fun E ce q9 u9 t9 H1 locs1 ht9 hvm9 hpx8 hBx hz9 hk9 hS hq9 hv9 hcl9 => ?_) (fun u_7 t9 H1 locs1 ht9 hvm9 hw_7 hBw hz9 hk9 hS => ?_)
  · obtain ⟨hpx9, hP1, hD1⟩ := hBx
    rw [ht9] at hP1
    exact vx_out (fun x hx9 => (hnt x hx9).elim) hlocks hq9 hv9 hcl9 (fun t ht hvm => ⟨(), trivial, ⟨(by
        exact ⟨hpx9.1, Or.inr hpx9.2⟩), by rw [ht]; exact hP1, hD1⟩, hS.F ht⟩) hS.2.2 (by omega) (by omega)
  obtain ⟨hP, hD⟩ := hBw
  rw [ht9] at hP
  generalize H1 = H at hP hS ⊢
  generalize locs1 = locs at hS ⊢
  replace hP : va_P D vwCl (WX ad cI cZ c g hid code ans dbt opn ply hps wr) H := hP
  replace hD : va_D A (WX ad cI cZ c g hid code ans dbt opn ply hps wr) := hD
  obtain ⟨k2, hk2, rfl⟩ := hasC_of hc hw_7
  refine lv_iconst (v := nI (0)) hx hb dX1_takes_10 (by decide) ?_
  refine lv_istore_n (lv' := [(3, .int (nI (0))), (0, .ref (ad 0)), (1, .int (nI (k))), (2, .int (nI (k2)))]) hx hb dX1_takes_11 rfl hl (by decide) rfl (fun ls hl => ?_)
  -- loop at 12
  have hinv : 0 ≤ 81 ∧ ∀ z, z < 0 → ply z = decide (z < qq c) := by
    exact ⟨Nat.zero_le _, fun k hk => absurd hk (Nat.not_lt_zero _)⟩
  obtain ⟨i, p2, hq9⟩ : ∃ (i : Nat) (p2 : Nat → Bool), lv_has ls 5 [(0, .ref (ad 0)), (1, .int (nI (k))), (2, .int (nI (k2))), (3, .int (nI (i)))] ∧ (i ≤ 81 ∧ ∀ z, z < i → p2 z = decide (z < qq c)) ∧ va_P D vwCl (WX ad cI cZ c g hid code ans dbt opn p2 hps wr) H ∧ va_D A (WX ad cI cZ c g hid code ans dbt opn p2 hps wr) := ⟨0, ply, lv_sub hl [1, 2, 3, 0] rfl, hinv, hP, hD⟩
  clear hl hinv hP hD
  obtain ⟨hl, hinv, hP, hD⟩ := hq9
  obtain ⟨n9_12, hn9⟩ : ∃ q : Nat, 81 - i < q := ⟨_, Nat.lt_succ_self _⟩
  induction n9_12 generalizing ls H locs i p2 with
  | zero => exact absurd hn9 (Nat.not_lt_zero _)
  | succ n9_12 ih12 =>
    obtain ⟨h1, h2⟩ := hinv
    refine lv_iload_n hx hb dX1_takes_12 rfl (lv_at hl 3 rfl) ?_
    refine lv_aload_n hx hb dX1_takes_13 rfl (lv_at hl 0 rfl) ?_
    refine va_get (D := D) (ci := 1) (v := .ref (ad 5)) (C := RX1) (T := TX1) (N := 11) hx hb hts hinX1 hown hK hP 0 rfl rfl 9 (by decide) lk45 (fun _ h9 => h9) rfl dX1_takes_14 ?_
    refine x_alen hx hb hK hP 5 1 rfl rfl (n := 81) rfl dX1_takes_17 ?_
    refine x_ge (tgt := 41) hx hb dX1_takes_18 (by decide) (by omega) (by omega) (fun c18 => ?_) (fun c18 => ?_)
    · skip
      refine lv_iconst (v := nI (1)) hx hb dX1_takes_41 (by decide) ?_
      refine lv_istore_n (lv' := [(3, .int (nI (1))), (0, .ref (ad 0)), (1, .int (nI (k))), (2, .int (nI (k2)))]) hx hb dX1_takes_42 rfl hl (by decide) rfl (fun ls hl => ?_)
      refine lv_iload_n hx hb dX1_takes_43 rfl (lv_at hl 3 rfl) ?_
      refine lv_istore (lv' := [(4, .int (nI (k2))), (3, .int (nI (1))), (0, .ref (ad 0)), (1, .int (nI (k))), (2, .int (nI (k2)))]) hx hb dX1_takes_44 hl (by decide) rfl (fun ls hl => ?_)
      -- loop at 46
      have hinv : 1 = 0 + 1 ∧ k2 = (tkP c k k2 0).2 ∧ (∀ z, z < 81 → p2 z = (tkP c k k2 0).1 z) ∧ ∀ m, m < 0 → ¬ (tkP c k k2 m).2 = k := by
        have e9 : i = 81 := by omega
        subst e9
        exact ⟨rfl, rfl, h2, fun m hm => absurd hm (Nat.not_lt_zero _)⟩
      obtain ⟨n, t, xx, p3, h3, hq9⟩ : ∃ (n : Nat) (t : Nat) (xx : Nat) (p3 : Nat → Bool) (h3 : Nat → Nat), lv_has ls 5 [(0, .ref (ad 0)), (1, .int (nI (k))), (2, .int (nI (k2))), (3, .int (nI (t))), (4, .int (nI (xx)))] ∧ (t = n + 1 ∧ xx = (tkP c k k2 n).2 ∧ (∀ z, z < 81 → p3 z = (tkP c k k2 n).1 z) ∧ ∀ m, m < n → ¬ (tkP c k k2 m).2 = k) ∧ va_P D vwCl (WX ad cI cZ c g hid code ans dbt opn p3 h3 wr) H ∧ va_D A (WX ad cI cZ c g hid code ans dbt opn p3 h3 wr) := ⟨0, 1, k2, p2, hps, lv_sub hl [2, 3, 4, 1, 0] rfl, hinv, hP, hD⟩
      clear hl hinv hP hD
      obtain ⟨hl, hinv, hP, hD⟩ := hq9
      obtain ⟨n9_46, hn9⟩ : ∃ q : Nat, 81 - n < q := ⟨_, Nat.lt_succ_self _⟩
      induction n9_46 generalizing ls H locs n t xx p3 h3 with
      | zero => exact absurd hn9 (Nat.not_lt_zero _)
      | succ n9_46 ih46 =>
        obtain ⟨ht9, hxx, hp3, hno⟩ := hinv; have hnb := tk_bound hc hk hk2 n hno; have hti := tk_inv hc hk hk2 n hno; have hxq : xx < qq c := by rw [hxx]; exact hti.2.1
        refine lv_iload hx hb dX1_takes_46 (lv_at hl 4 rfl) ?_
        refine lv_iload_n hx hb dX1_takes_48 rfl (lv_at hl 1 rfl) ?_
        refine x_eq (tgt := 95) hx hb dX1_takes_49 (by decide) (by omega) (by omega) (fun c49 => ?_) (fun c49 => ?_)
        · skip
          refine lv_iload_n hx hb dX1_takes_95 rfl (lv_at hl 3 rfl) ?_
          refine W.widen (k := 2) (n := 12) (Nat.le_of_ble_eq_true rfl) (Nat.le_of_ble_eq_true rfl) ?_
          exact vx_ret (W.iret (v := nI (t)) hx hb hr (fun t ht hW => ⟨⟨_, (k, k2, nI t, p3, h3), rfl, (by
              exact ⟨rfl, ⟨n, by omega, hno, by rw [← hxx]; exact c49, by rw [ht9]⟩, hk, rfl, hk2, rfl⟩), ⟨by rw [ht]; exact hP, hD⟩⟩, hS.F ht⟩) hS.2.2 dX1_takes_96)
        · skip
          refine lv_iload_n hx hb dX1_takes_52 rfl (lv_at hl 3 rfl) ?_
          refine lv_bipush (v := nI (81)) hx hb dX1_takes_53 (by decide) ?_
          refine x_gt (tgt := 95) hx hb dX1_takes_55 (by decide) (by omega) (by omega) (fun c55 => absurd c55 (by omega)) (fun c55 => ?_)
          refine lv_aload_n hx hb dX1_takes_58 rfl (lv_at hl 0 rfl) ?_
          refine lv_aload_n hx hb dX1_takes_59 rfl (lv_at hl 0 rfl) ?_
          refine va_get (D := D) (ci := 1) (v := .ref (ad 5)) (C := RX1) (T := TX1) (N := 11) hx hb hts hinX1 hown hK hP 0 rfl rfl 9 (by decide) lk45 (fun _ h9 => h9) rfl dX1_takes_60 ?_
          refine lv_iload hx hb dX1_takes_63 (lv_at hl 4 rfl) ?_
          refine lv_aload_n hx hb dX1_takes_65 rfl (lv_at hl 0 rfl) ?_
          refine va_get (D := D) (ci := 1) (v := .ref (pal ad c)) (C := RX1) (T := TX1) (N := 11) hx hb hts hinX1 hown hK hP 0 rfl rfl 2 (by decide) lk21 (fun _ h9 => h9) rfl dX1_takes_66 ?_
          refine lv_iload hx hb dX1_takes_69 (lv_at hl 4 rfl) ?_
          refine lv_iload_n hx hb dX1_takes_71 rfl (lv_at hl 1 rfl) ?_
          refine x_csi (va_runVN (As := [.int (nI (xx)), .int (nI (k))]) (rest := [.int (nI (xx)), .ref (ad 5), .ref (ad 0)]) ⟨hx, hb, hml, hown, hts⟩ (c_X0_answerTo l D cI cZ cG cJ A (WX ad cI cZ c g hid code ans dbt opn p3 h3 wr) (pal ad c) c xx k (palX hpal hc) (hc) (hxq) (hk)) ⟨va_cnB (host := RX1) 2 hts gX1_takes_X0_answerTo_n77 rfl rfl rfl (hB.2.2.2.2.1 _ (by simp [Nws])) (hts _ (by decide +kernel)) (by decide +kernel) ⟨Nat.le_of_ble_eq_true rfl, Nat.le_of_ble_eq_true rfl⟩, hts _ (by decide +kernel), hts _ (by decide +kernel)⟩ (prePal hB hS hP hD (palX hpal hc)) rfl rfl hl.1 rfl (lv_room (Nat.le_of_ble_eq_true rfl)) dX1_takes_72 ⟨Nat.le_of_ble_eq_true rfl, Nat.le_of_ble_eq_true rfl⟩) ?_
          have hpi := pins_le hc (hxq) (hk)
          refine va_callv (va_runV (As := [.ref (ad 5), .int (nI (xx)), .int (nI (pins c xx k))]) (rest := []) ⟨hx, hb, hml, hown, hts⟩ (c_X1_keepAnswering l D cI cZ cG cJ A ad wr hpal c g hid code ans dbt opn p3 h3 xx (pins c xx k) (hc) (hxq) (by omega) (fun z hz q => hti.2.2.2.2 z ((hp3 z hz).symm.trans q))) (cwV 3 hts gX1_takes_X1_keepAnswering rfl rfl rfl (by decide +kernel) ⟨Nat.le_of_ble_eq_true rfl, Nat.le_of_ble_eq_true rfl⟩) (preV (ci := 1) (q0 := 0) hB hS hP hD rfl rfl) rfl rfl hl.1 rfl (lv_room (Nat.le_of_ble_eq_true rfl)) dX1_takes_75 ⟨Nat.le_of_ble_eq_true rfl, Nat.le_of_ble_eq_true rfl⟩) hS (fun q _ h => h) (fun q h => h) (fun u_75 t9 H1 locs1 ht9 hvm9 hw_75 hBw hz9 hk9 hS => ?_)
          obtain ⟨hP, hD⟩ := hBw
          rw [ht9] at hP
          generalize H1 = H at hP hS ⊢
          generalize locs1 = locs at hS ⊢
          replace hP : va_P D vwCl (WX ad cI cZ c g hid code ans dbt opn u_75 h3 wr) H := hP
          replace hD : va_D A (WX ad cI cZ c g hid code ans dbt opn u_75 h3 wr) := hD
          have hs7 : ∀ z, z < 81 → u_75 z = (tkP c k k2 (n + 1)).1 z := fun z hz => by rw [hw_75 z hz, hp3 z hz, hxx]; rfl
          have hti2 := tk_inv hc hk hk2 (n + 1) (tk_no hno (by rw [← hxx]; exact c49))
          refine lv_aload_n hx hb dX1_takes_78 rfl (lv_at hl 0 rfl) ?_
          refine lv_aload_n hx hb dX1_takes_79 rfl (lv_at hl 0 rfl) ?_
          refine va_get (D := D) (ci := 1) (v := .ref (ad 5)) (C := RX1) (T := TX1) (N := 11) hx hb hts hinX1 hown hK hP 0 rfl rfl 9 (by decide) lk45 (fun _ h9 => h9) rfl dX1_takes_80 ?_
          refine lv_iconst (v := bI (true)) hx hb dX1_takes_83 (by decide) ?_
          refine va_calli (va_runV (As := [.ref (ad 5), .int (bI (true))]) (rest := []) ⟨hx, hb, hml, hown, hts⟩ (c_X1_leastBad l D cI cZ cG cJ A ad wr hpal c g hid code ans dbt opn u_75 h3 (ad 5) 5 u_75 true (hc) (Or.inr ⟨rfl, rfl, rfl⟩) (fun z hz q => hti2.2.2.2.2 z ((hs7 z hz).symm.trans q))) (cwV 2 hts gX1_takes_X1_leastBad rfl rfl rfl (by decide +kernel) ⟨Nat.le_of_ble_eq_true rfl, Nat.le_of_ble_eq_true rfl⟩) (preV (ci := 1) (q0 := 0) hB hS hP hD rfl rfl) rfl rfl hl.1 rfl (lv_room (Nat.le_of_ble_eq_true rfl)) dX1_takes_84 ⟨Nat.le_of_ble_eq_true rfl, Nat.le_of_ble_eq_true rfl⟩) hS (fun q _ h => h) (fun q h => h) (fun r_84 u_84 t9 H1 locs1 ht9 hvm9 hw_84 hBw hz9 hk9 hS => ?_)
          obtain ⟨hP, hD⟩ := hBw
          rw [ht9] at hP
          generalize H1 = H at hP hS ⊢
          generalize locs1 = locs at hS ⊢
          replace hP : va_P D vwCl (WX ad cI cZ c g hid code ans dbt opn u_75 u_84 wr) H := hP
          replace hD : va_D A (WX ad cI cZ c g hid code ans dbt opn u_75 u_84 wr) := hD
          refine x_ti (y := lbR c u_75 true) (hw_84.1) ?_
          have hx7 : (tkP c k k2 (n + 1)).2 = (tkP c k k2 (n + 1)).2 := rfl
          refine x_ti (y := nI ((tkP c k k2 (n + 1)).2)) (by rw [lbR_congr hs7]; exact (lbI_ok hq.2 (fun z _ q => hti2.2.2.2.2 z q) ⟨k, hk, hti2.1⟩).1) ?_
          refine lv_istore (lv' := [(4, .int (nI ((tkP c k k2 (n + 1)).2))), (0, .ref (ad 0)), (1, .int (nI (k))), (2, .int (nI (k2))), (3, .int (nI (t)))]) hx hb dX1_takes_87 hl (by decide) rfl (fun ls hl => ?_)
          refine lv_iinc (v := nI (t + 1)) (lv' := [(3, .int (nI (t + 1))), (4, .int (nI ((tkP c k k2 (n + 1)).2))), (0, .ref (ad 0)), (1, .int (nI (k))), (2, .int (nI (k2)))]) hx hb dX1_takes_89 hl (k := 4) rfl (nI_add _ _) (by decide) rfl (fun ls hl => ?_)
          refine lv_goto (tgt := 46) hx hb dX1_takes_92 (by decide) ?_
          exact ih46 (n := n + 1) (t := t + 1) (xx := (tkP c k k2 (n + 1)).2) (p3 := u_75) (h3 := u_84) (ls := ls) (hl := lv_sub hl [2, 3, 4, 0, 1] rfl) (H := H) (locs := locs) (hP := hP) (hD := hD) (hS := hS) (hinv := by
              exact ⟨by omega, hx7, hs7, tk_no hno (by rw [← hxx]; exact c49)⟩
            ) (hn9 := by
              have := tk_bound hc hk hk2 (n + 1) (tk_no hno (by rw [← hxx]; exact c49))
              omega
            )
    · skip
      refine lv_aload_n hx hb dX1_takes_21 rfl (lv_at hl 0 rfl) ?_
      refine va_get (D := D) (ci := 1) (v := .ref (ad 5)) (C := RX1) (T := TX1) (N := 11) hx hb hts hinX1 hown hK hP 0 rfl rfl 9 (by decide) lk45 (fun _ h9 => h9) rfl dX1_takes_22 ?_
      refine lv_iload_n hx hb dX1_takes_25 rfl (lv_at hl 3 rfl) ?_
      refine lv_aload_n hx hb dX1_takes_26 rfl (lv_at hl 0 rfl) ?_
      refine va_get (D := D) (ci := 1) (v := .ref (pal ad c)) (C := RX1) (T := TX1) (N := 11) hx hb hts hinX1 hown hK hP 0 rfl rfl 2 (by decide) lk21 (fun _ h9 => h9) rfl dX1_takes_27 ?_
      refine lv_iload_n hx hb dX1_takes_30 rfl (lv_at hl 3 rfl) ?_
      refine x_csi (va_runVN (As := [.int (nI (i))]) (rest := [.int (nI (i)), .ref (ad 5)]) ⟨hx, hb, hml, hown, hts⟩ (c_X0_hasCode l D cI cZ cG cJ A (WX ad cI cZ c g hid code ans dbt opn p2 hps wr) (pal ad c) c (nI i) (palX hpal hc) (hc)) ⟨va_cnB (host := RX1) 1 hts gX1_takes_X0_hasCode_n153 rfl rfl rfl (hB.2.2.2.2.1 _ (by simp [Nws])) (hts _ (by decide +kernel)) (by decide +kernel) ⟨Nat.le_of_ble_eq_true rfl, Nat.le_of_ble_eq_true rfl⟩, hts _ (by decide +kernel), hts _ (by decide +kernel)⟩ (prePal hB hS hP hD (palX hpal hc)) rfl rfl hl.1 rfl (lv_room (Nat.le_of_ble_eq_true rfl)) dX1_takes_31 ⟨Nat.le_of_ble_eq_true rfl, Nat.le_of_ble_eq_true rfl⟩) ?_
      refine x_ti (y := bI (decide (i < qq c))) (by rw [hasC_nI hc (by omega)]) ?_
      refine x_zast hx hb hK hP hD hS 5 1 rfl rfl (i := i) (v := decide (i < qq c)) (by omega) (by omega) dX1_takes_34 (fun H locs hP hD hS => ?_)
      replace hP : va_P D vwCl (WX ad cI cZ c g hid code ans dbt opn (va_up p2 i (decide (i < qq c))) hps wr) H := hP
      replace hD : va_D A (WX ad cI cZ c g hid code ans dbt opn (va_up p2 i (decide (i < qq c))) hps wr) := hD
      refine lv_iinc (v := nI (i + 1)) (lv' := [(3, .int (nI (i + 1))), (0, .ref (ad 0)), (1, .int (nI (k))), (2, .int (nI (k2)))]) hx hb dX1_takes_35 hl (k := 3) rfl (nI_add _ _) (by decide) rfl (fun ls hl => ?_)
      refine lv_goto (tgt := 12) hx hb dX1_takes_38 (by decide) ?_
      exact ih12 (i := i + 1) (p2 := (va_up p2 i (decide (i < qq c)))) (ls := ls) (hl := lv_sub hl [1, 2, 3, 0] rfl) (H := H) (locs := locs) (hP := hP) (hD := hD) (hS := hS) (hinv := by
          exact ⟨by omega, up_le (q := fun z => decide (z < qq c)) h2 rfl⟩
        ) (hn9 := by
          omega
        )

set_option maxHeartbeats 4000000 in
set_option maxRecDepth 100000 in
theorem c_X1_mean (l : Launch) (D : va_G) (cI cZ cG cJ : ClassId) (A : Nat → Prop) (ad : Nat → Nat) (wr : va_W) (hpal : Pals cI cG ad wr) (c : Nat) (g : Nat) (hid : Int32) (code : Nat → Nat) (ans : Nat → Nat) (dbt : Nat → Bool) (opn : Nat → Bool) (ply : Nat → Bool) (hps : Nat → Nat) (hI : XI c g hid code ans dbt opn) : Met l yX1_mean wsX1_mean ({ frames := 0, cells := 0, slots := 0, locals := 0 }) (va_Pc [.ref (ad 0)] (Iv D (TY cI cZ cG cJ) A (WX ad cI cZ c g hid code ans dbt opn ply hps wr))) (vp_Sd (fun r => r = meanV g ans)) 0 0 (fun _ => False) := by
  refine Met.ofW (cc := cX1_mean) (maxL := 3) (ret := (some .double)) (by decide) rfl ?_
  intro p e s m args below meth c9 s₁ B hml hv
  obtain ⟨rfl, hP, hD, hB⟩ := hv
  have hK := hB.1
  have hA := hB.2.1
  have hx := B.exec
  have hb := B.bytes
  have hr := B.returns
  have hts := atoms_spec (ws := wsX1_mean) B.pre
  have hown : s.vm.findClass RX1 = some m.cls := findClass_of_methodNamed B.named
  have hlocks := B.notSynchronized
  have hS : va_S A s.heap s.heap [] := va_S.rf
  have hinX1 : ∀ w ∈ wsX10, w ∈ wsX1_mean := by decide +kernel
  have lk28 := hts (.fieldLink RX1 28 "HiddenCandles" "guesses" "I") (by decide +kernel)
  have lk35 := hts (.fieldLink RX1 35 "HiddenCandles" "answers" "[I") (by decide +kernel)
  have hl := lv_entry ([.ref (ad 0)]) (n := 3) (Nat.le_of_ble_eq_true rfl)
  rw [lg_entry_eq]
  generalize (lg_sl ([.ref (ad 0)]) ++ List.replicate (3 - (lg_sl ([.ref (ad 0)])).length) Slot.unset).toArray = ls at hl ⊢
  have hl : lv_has ls 3 [(0, .ref (ad 0))] := hl
  obtain ⟨hc, hg, hco, hhid, hop⟩ := id hI
  have hq := qq_in hc
  have hop2 := op_lt hop
  refine lv_aload_n hx hb dX1_mean_0 rfl (lv_at hl 0 rfl) ?_
  refine va_get (D := D) (ci := 1) (v := .int (nI (g))) (C := RX1) (T := TX1) (N := 11) hx hb hts hinX1 hown hK hP 0 rfl rfl 4 (by decide) lk28 (fun _ h9 => h9) rfl dX1_mean_1 ?_
  refine x_ne0 (tgt := 9) hx hb dX1_mean_4 (by decide) (by omega) (fun c4 => ?_) (fun c4 => ?_)
  · skip
    refine lv_iconst (v := nI (0)) hx hb dX1_mean_9 (by decide) ?_
    refine lv_istore_n (lv' := [(1, .int (nI (0))), (0, .ref (ad 0))]) hx hb dX1_mean_10 rfl hl (by decide) rfl (fun ls hl => ?_)
    refine lv_iconst (v := nI (0)) hx hb dX1_mean_11 (by decide) ?_
    refine lv_istore_n (lv' := [(2, .int (nI (0))), (1, .int (nI (0))), (0, .ref (ad 0))]) hx hb dX1_mean_12 rfl hl (by decide) rfl (fun ls hl => ?_)
    -- loop at 13
    have hinv : 0 ≤ g ∧ 0 = blkS ans 0 := by
      exact ⟨Nat.zero_le _, rfl⟩
    obtain ⟨i, r, hq9⟩ : ∃ (i : Nat) (r : Nat), lv_has ls 3 [(0, .ref (ad 0)), (1, .int (nI (r))), (2, .int (nI (i)))] ∧ (i ≤ g ∧ r = blkS ans i) := ⟨0, 0, lv_sub hl [2, 1, 0] rfl, hinv⟩
    clear hl hinv
    obtain ⟨hl, hinv⟩ := hq9
    obtain ⟨n9_13, hn9⟩ : ∃ q : Nat, g - i < q := ⟨_, Nat.lt_succ_self _⟩
    induction n9_13 generalizing ls i r with
    | zero => exact absurd hn9 (Nat.not_lt_zero _)
    | succ n9_13 ih13 =>
      obtain ⟨h1, h2⟩ := hinv
      refine lv_iload_n hx hb dX1_mean_13 rfl (lv_at hl 2 rfl) ?_
      refine lv_aload_n hx hb dX1_mean_14 rfl (lv_at hl 0 rfl) ?_
      refine va_get (D := D) (ci := 1) (v := .int (nI (g))) (C := RX1) (T := TX1) (N := 11) hx hb hts hinX1 hown hK hP 0 rfl rfl 4 (by decide) lk28 (fun _ h9 => h9) rfl dX1_mean_15 ?_
      refine x_ge (tgt := 47) hx hb dX1_mean_18 (by decide) (by omega) (by omega) (fun c18 => ?_) (fun c18 => ?_)
      · skip
        refine lv_iload_n hx hb dX1_mean_47 rfl (lv_at hl 1 rfl) ?_
        refine lv_i2d hx hb dX1_mean_48 ?_
        refine lv_aload_n hx hb dX1_mean_49 rfl (lv_at hl 0 rfl) ?_
        refine va_get (D := D) (ci := 1) (v := .int (nI (g))) (C := RX1) (T := TX1) (N := 11) hx hb hts hinX1 hown hK hP 0 rfl rfl 4 (by decide) lk28 (fun _ h9 => h9) rfl dX1_mean_50 ?_
        refine lv_i2d hx hb dX1_mean_53 ?_
        refine lv_ddiv hx hb dX1_mean_54 (mean_nan r (by rw [h2]; have := blkS_le hco i h1; omega) g (by omega) c4) ?_
        exact W.dret (v := FP.ddiv (FP.i2d (nI (r))) (FP.i2d (nI (g)))) hx hb hr (fun t ht hW => ⟨_, rfl, (by
            have e9 : i = g := by omega
            rw [meanV, if_neg (by omega), h2, e9]), ht⟩) (fun _ h => nomatch h) dX1_mean_55
      · skip
        refine lv_iload_n hx hb dX1_mean_21 rfl (lv_at hl 2 rfl) ?_
        refine lv_aload_n hx hb dX1_mean_22 rfl (lv_at hl 0 rfl) ?_
        refine va_get (D := D) (ci := 1) (v := .ref (ad 2)) (C := RX1) (T := TX1) (N := 11) hx hb hts hinX1 hown hK hP 0 rfl rfl 6 (by decide) lk35 (fun _ h9 => h9) rfl dX1_mean_23 ?_
        refine x_alen hx hb hK hP 2 0 rfl rfl (n := 12) rfl dX1_mean_26 ?_
        refine x_ge (tgt := 47) hx hb dX1_mean_27 (by decide) (by omega) (by omega) (fun c27 => absurd c27 (by omega)) (fun c27 => ?_)
        refine lv_iload_n hx hb dX1_mean_30 rfl (lv_at hl 1 rfl) ?_
        refine lv_aload_n hx hb dX1_mean_31 rfl (lv_at hl 0 rfl) ?_
        refine va_get (D := D) (ci := 1) (v := .ref (ad 2)) (C := RX1) (T := TX1) (N := 11) hx hb hts hinX1 hown hK hP 0 rfl rfl 6 (by decide) lk35 (fun _ h9 => h9) rfl dX1_mean_32 ?_
        refine lv_iload_n hx hb dX1_mean_35 rfl (lv_at hl 2 rfl) ?_
        refine x_iald hx hb hK hP 2 0 rfl rfl (i := i) (by omega) (by omega) dX1_mean_36 ?_
        have hai := (hco i c18).2
        refine lv_iconst (v := nI (5)) hx hb dX1_mean_37 (by decide) ?_
        refine lv_idiv hx hb dX1_mean_38 (nI_ne0 (by omega) (by omega)) ?_
        refine x_ti (pk_div (by omega) (by omega) (by omega)) ?_
        refine lv_iadd hx hb dX1_mean_39 ?_
        refine x_ti (nI_add _ _) ?_
        refine lv_istore_n (lv' := [(1, .int (nI (r + ((ans i) / 5)))), (0, .ref (ad 0)), (2, .int (nI (i)))]) hx hb dX1_mean_40 rfl hl (by decide) rfl (fun ls hl => ?_)
        refine lv_iinc (v := nI (i + 1)) (lv' := [(2, .int (nI (i + 1))), (1, .int (nI (r + ((ans i) / 5)))), (0, .ref (ad 0))]) hx hb dX1_mean_41 hl (k := 2) rfl (nI_add _ _) (by decide) rfl (fun ls hl => ?_)
        refine lv_goto (tgt := 13) hx hb dX1_mean_44 (by decide) ?_
        exact ih13 (i := i + 1) (r := r + ((ans i) / 5)) (ls := ls) (hl := lv_sub hl [2, 1, 0] rfl) (hinv := by
            exact ⟨by omega, by rw [h2]; rfl⟩
          ) (hn9 := by
            omega
          )
  · skip
    refine lv_dconst0 hx hb dX1_mean_7 ?_
    exact W.dret (v := FP.dconst0) hx hb hr (fun t ht hW => ⟨_, rfl, (by
        rw [meanV, if_pos c4]), ht⟩) (fun _ h => nomatch h) dX1_mean_8

set_option maxHeartbeats 4000000 in
set_option maxRecDepth 100000 in
theorem c_X1_digest (l : Launch) (D : va_G) (cI cZ cG cJ : ClassId) (A : Nat → Prop) (ad : Nat → Nat) (wr : va_W) (hpal : Pals cI cG ad wr) (c : Nat) (g : Nat) (hid : Int32) (code : Nat → Nat) (ans : Nat → Nat) (dbt : Nat → Bool) (opn : Nat → Bool) (ply : Nat → Bool) (hps : Nat → Nat) (hI : XI c g hid code ans dbt opn) : Met l yX1_digest wsX1_digest ({ frames := 5, cells := 0, slots := 0, locals := 111 }) (va_Pc [.ref (ad 0)] (Iv D (TY cI cZ cG cJ) A (WX ad cI cZ c g hid code ans dbt opn ply hps wr))) (vp_Sl (fun r => r = digV c g hid code ans dbt)) 0 0 (fun _ => False) := by
  refine Met.ofW (cc := cX1_digest) (maxL := 5) (ret := (some .long)) (by decide) rfl ?_
  intro p e s m args below meth c9 s₁ B hml hv
  obtain ⟨rfl, hP, hD, hB⟩ := hv
  have hK := hB.1
  have hA := hB.2.1
  have hx := B.exec
  have hb := B.bytes
  have hr := B.returns
  have hts := atoms_spec (ws := wsX1_digest) B.pre
  have hown : s.vm.findClass RX1 = some m.cls := findClass_of_methodNamed B.named
  have hlocks := B.notSynchronized
  have hS : va_S A s.heap s.heap [] := va_S.rf
  have hinX0 : ∀ w ∈ wsX00, w ∈ wsX1_digest := by decide +kernel
  have hinX1 : ∀ w ∈ wsX10, w ∈ wsX1_digest := by decide +kernel
  have lk21 := hts (.fieldLink RX1 21 "HiddenCandles" "palette" "LHiddenCandles$Palette;") (by decide +kernel)
  have lk24 := hts (.fieldLink RX1 24 "HiddenCandles" "hidden" "I") (by decide +kernel)
  have lk28 := hts (.fieldLink RX1 28 "HiddenCandles" "guesses" "I") (by decide +kernel)
  have lk42 := hts (.fieldLink RX1 42 "HiddenCandles" "open" "[Z") (by decide +kernel)
  have hl := lv_entry ([.ref (ad 0)]) (n := 5) (Nat.le_of_ble_eq_true rfl)
  rw [lg_entry_eq]
  generalize (lg_sl ([.ref (ad 0)]) ++ List.replicate (5 - (lg_sl ([.ref (ad 0)])).length) Slot.unset).toArray = ls at hl ⊢
  have hl : lv_has ls 5 [(0, .ref (ad 0))] := hl
  obtain ⟨hc, hg, hco, hhid, hop⟩ := id hI
  have hq := qq_in hc
  have hop2 := op_lt hop
  refine lv_ldc2 (v := 1583) hx hb hown (hts _ (by decide +kernel)) dX1_digest_0 ?_
  refine lv_lstore_n (lv' := [(1, .long (1583)), (0, .ref (ad 0))]) hx hb dX1_digest_3 rfl hl (by decide) rfl (fun ls hl => ?_)
  refine lv_iconst (v := nI (0)) hx hb dX1_digest_4 (by decide) ?_
  refine lv_istore_n (lv' := [(3, .int (nI (0))), (1, .long (1583)), (0, .ref (ad 0))]) hx hb dX1_digest_5 rfl hl (by decide) rfl (fun ls hl => ?_)
  -- loop at 6
  have hinv : 0 ≤ 7 ∧ 1583 = dgC c g hid code ans dbt 0 := by
    exact ⟨Nat.zero_le _, rfl⟩
  obtain ⟨i, dd, hq9⟩ : ∃ (i : Nat) (dd : Int64), lv_has ls 5 [(0, .ref (ad 0)), (1, .long (dd)), (3, .int (nI (i)))] ∧ (i ≤ 7 ∧ dd = dgC c g hid code ans dbt i) := ⟨0, 1583, lv_sub hl [2, 1, 0] rfl, hinv⟩
  clear hl hinv
  obtain ⟨hl, hinv⟩ := hq9
  obtain ⟨n9_6, hn9⟩ : ∃ q : Nat, 7 - i < q := ⟨_, Nat.lt_succ_self _⟩
  induction n9_6 generalizing ls i dd with
  | zero => exact absurd hn9 (Nat.not_lt_zero _)
  | succ n9_6 ih6 =>
    obtain ⟨h1, h2⟩ := hinv
    refine lv_iload_n hx hb dX1_digest_6 rfl (lv_at hl 2 rfl) ?_
    refine lv_bipush (v := nI (7)) hx hb dX1_digest_7 (by decide) ?_
    refine x_ge (tgt := 28) hx hb dX1_digest_9 (by decide) (by omega) (by omega) (fun c9 => ?_) (fun c9 => ?_)
    · skip
      refine lv_lload_n hx hb dX1_digest_28 rfl (lv_at hl 1 rfl) ?_
      refine lv_aload_n hx hb dX1_digest_29 rfl (lv_at hl 0 rfl) ?_
      refine va_get (D := D) (ci := 1) (v := .int (hid)) (C := RX1) (T := TX1) (N := 11) hx hb hts hinX1 hown hK hP 0 rfl rfl 3 (by decide) lk24 (fun _ h9 => h9) rfl dX1_digest_30 ?_
      refine x_csl (va_runS (As := [.long (dd), .int (hid)]) (rest := []) ⟨hx, hb, hml, hown, hts⟩ (c_X1_mix l D cI cZ cG cJ A (WX ad cI cZ c g hid code ans dbt opn ply hps wr) dd hid ) (va_cwS 2 hts gX1_digest_X1_mix rfl rfl rfl (by decide +kernel) ⟨Nat.le_of_ble_eq_true rfl, Nat.le_of_ble_eq_true rfl⟩) (preS hB va_S.rf hP hD) rfl rfl hl.1 rfl (lv_room (Nat.le_of_ble_eq_true rfl)) dX1_digest_33 ⟨Nat.le_of_ble_eq_true rfl, Nat.le_of_ble_eq_true rfl⟩) ?_
      refine lv_lstore_n (lv' := [(1, .long (dgm dd hid)), (0, .ref (ad 0)), (3, .int (nI (i)))]) hx hb dX1_digest_36 rfl hl (by decide) rfl (fun ls hl => ?_)
      refine lv_iconst (v := nI (0)) hx hb dX1_digest_37 (by decide) ?_
      refine lv_istore_n (lv' := [(3, .int (nI (0))), (1, .long (dgm dd hid)), (0, .ref (ad 0))]) hx hb dX1_digest_38 rfl hl (by decide) rfl (fun ls hl => ?_)
      -- loop at 39
      have hinv : 0 ≤ g ∧ (dgm dd hid) = dgT c g hid code ans dbt 0 := by
        have e9 : i = 7 := by omega
        exact ⟨Nat.zero_le _, by rw [h2, e9]; rfl⟩
      obtain ⟨i2, d2, hq9⟩ : ∃ (i2 : Nat) (d2 : Int64), lv_has ls 5 [(0, .ref (ad 0)), (1, .long (d2)), (3, .int (nI (i2)))] ∧ (i2 ≤ g ∧ d2 = dgT c g hid code ans dbt i2) := ⟨0, (dgm dd hid), lv_sub hl [2, 1, 0] rfl, hinv⟩
      clear hl hinv
      obtain ⟨hl, hinv⟩ := hq9
      obtain ⟨n9_39, hn9⟩ : ∃ q : Nat, g - i2 < q := ⟨_, Nat.lt_succ_self _⟩
      induction n9_39 generalizing ls i2 d2 with
      | zero => exact absurd hn9 (Nat.not_lt_zero _)
      | succ n9_39 ih39 =>
        obtain ⟨h1, h2⟩ := hinv
        refine lv_iload_n hx hb dX1_digest_39 rfl (lv_at hl 2 rfl) ?_
        refine lv_aload_n hx hb dX1_digest_40 rfl (lv_at hl 0 rfl) ?_
        refine va_get (D := D) (ci := 1) (v := .int (nI (g))) (C := RX1) (T := TX1) (N := 11) hx hb hts hinX1 hown hK hP 0 rfl rfl 4 (by decide) lk28 (fun _ h9 => h9) rfl dX1_digest_41 ?_
        refine x_ge (tgt := 81) hx hb dX1_digest_44 (by decide) (by omega) (by omega) (fun c44 => ?_) (fun c44 => ?_)
        · skip
          refine lv_iconst (v := nI (0)) hx hb dX1_digest_81 (by decide) ?_
          refine lv_istore_n (lv' := [(3, .int (nI (0))), (0, .ref (ad 0)), (1, .long (d2))]) hx hb dX1_digest_82 rfl hl (by decide) rfl (fun ls hl => ?_)
          -- loop at 83
          have hinv : 0 ≤ 4 ∧ d2 = dgP c g hid code ans dbt 0 := by
            have e9 : i2 = g := by omega
            exact ⟨Nat.zero_le _, by rw [h2, e9]; rfl⟩
          obtain ⟨p4, d4, hq9⟩ : ∃ (p4 : Nat) (d4 : Int64), lv_has ls 5 [(0, .ref (ad 0)), (1, .long (d4)), (3, .int (nI (p4)))] ∧ (p4 ≤ 4 ∧ d4 = dgP c g hid code ans dbt p4) := ⟨0, d2, lv_sub hl [1, 2, 0] rfl, hinv⟩
          clear hl hinv
          obtain ⟨hl, hinv⟩ := hq9
          obtain ⟨n9_83, hn9⟩ : ∃ q : Nat, 4 - p4 < q := ⟨_, Nat.lt_succ_self _⟩
          induction n9_83 generalizing ls p4 d4 with
          | zero => exact absurd hn9 (Nat.not_lt_zero _)
          | succ n9_83 ih83 =>
            obtain ⟨h1, h2⟩ := hinv
            refine lv_iload_n hx hb dX1_digest_83 rfl (lv_at hl 2 rfl) ?_
            refine lv_iconst (v := nI (4)) hx hb dX1_digest_84 (by decide) ?_
            refine x_ge (tgt := 137) hx hb dX1_digest_85 (by decide) (by omega) (by omega) (fun c85 => ?_) (fun c85 => ?_)
            · skip
              refine lv_iconst (v := nI (0)) hx hb dX1_digest_137 (by decide) ?_
              refine lv_istore_n (lv' := [(3, .int (nI (0))), (0, .ref (ad 0)), (1, .long (d4))]) hx hb dX1_digest_138 rfl hl (by decide) rfl (fun ls hl => ?_)
              -- loop at 139
              have hinv : 0 ≤ 81 ∧ d4 = dgK (opS c g code ans dbt) (dgP c g hid code ans dbt 4) 0 := by
                have e9 : p4 = 4 := by omega
                exact ⟨Nat.zero_le _, by rw [h2, e9]; rfl⟩
              obtain ⟨k6, d6, hq9⟩ : ∃ (k6 : Nat) (d6 : Int64), lv_has ls 5 [(0, .ref (ad 0)), (1, .long (d6)), (3, .int (nI (k6)))] ∧ (k6 ≤ 81 ∧ d6 = dgK (opS c g code ans dbt) (dgP c g hid code ans dbt 4) k6) := ⟨0, d4, lv_sub hl [1, 2, 0] rfl, hinv⟩
              clear hl hinv
              obtain ⟨hl, hinv⟩ := hq9
              obtain ⟨n9_139, hn9⟩ : ∃ q : Nat, 81 - k6 < q := ⟨_, Nat.lt_succ_self _⟩
              induction n9_139 generalizing ls k6 d6 with
              | zero => exact absurd hn9 (Nat.not_lt_zero _)
              | succ n9_139 ih139 =>
                obtain ⟨h1, h2⟩ := hinv
                refine lv_iload_n hx hb dX1_digest_139 rfl (lv_at hl 2 rfl) ?_
                refine lv_aload_n hx hb dX1_digest_140 rfl (lv_at hl 0 rfl) ?_
                refine va_get (D := D) (ci := 1) (v := .ref (ad 4)) (C := RX1) (T := TX1) (N := 11) hx hb hts hinX1 hown hK hP 0 rfl rfl 8 (by decide) lk42 (fun _ h9 => h9) rfl dX1_digest_141 ?_
                refine x_alen hx hb hK hP 4 1 rfl rfl (n := 81) rfl dX1_digest_144 ?_
                refine x_ge (tgt := 169) hx hb dX1_digest_145 (by decide) (by omega) (by omega) (fun c145 => ?_) (fun c145 => ?_)
                · skip
                  refine lv_lload_n hx hb dX1_digest_169 rfl (lv_at hl 1 rfl) ?_
                  exact W.lret (v := d6) hx hb hr (fun t ht hW => ⟨_, rfl, (by
                      have e9 : k6 = 81 := by omega
                      rw [h2, e9]; rfl), ht⟩) (fun _ h => nomatch h) dX1_digest_170
                · skip
                  refine lv_aload_n hx hb dX1_digest_148 rfl (lv_at hl 0 rfl) ?_
                  refine va_get (D := D) (ci := 1) (v := .ref (ad 4)) (C := RX1) (T := TX1) (N := 11) hx hb hts hinX1 hown hK hP 0 rfl rfl 8 (by decide) lk42 (fun _ h9 => h9) rfl dX1_digest_149 ?_
                  refine lv_iload_n hx hb dX1_digest_152 rfl (lv_at hl 2 rfl) ?_
                  refine x_zald hx hb hK hP 4 1 rfl rfl (i := k6) (by omega) (by omega) dX1_digest_153 ?_
                  refine x_zeq (tgt := 163) hx hb dX1_digest_154 (by decide) (fun c154 => ?_) (fun c154 => ?_)
                  · skip
                    refine lv_iinc (v := nI (k6 + 1)) (lv' := [(3, .int (nI (k6 + 1))), (0, .ref (ad 0)), (1, .long (d6))]) hx hb dX1_digest_163 hl (k := 2) rfl (nI_add _ _) (by decide) rfl (fun ls hl => ?_)
                    refine lv_goto (tgt := 139) hx hb dX1_digest_166 (by decide) ?_
                    exact ih139 (k6 := k6 + 1) (d6 := d6) (ls := ls) (hl := lv_sub hl [1, 2, 0] rfl) (hinv := by
                        refine ⟨by omega, ?_⟩
                        rw [dgK, ← hop k6 (by omega), c154, ← h2]
                        rfl
                      ) (hn9 := by
                        omega
                      )
                  · skip
                    refine lv_lload_n hx hb dX1_digest_157 rfl (lv_at hl 1 rfl) ?_
                    refine lv_iload_n hx hb dX1_digest_158 rfl (lv_at hl 2 rfl) ?_
                    refine x_csl (va_runS (As := [.long (d6), .int (nI (k6))]) (rest := []) ⟨hx, hb, hml, hown, hts⟩ (c_X1_mix l D cI cZ cG cJ A (WX ad cI cZ c g hid code ans dbt opn ply hps wr) d6 (nI (k6)) ) (va_cwS 2 hts gX1_digest_X1_mix rfl rfl rfl (by decide +kernel) ⟨Nat.le_of_ble_eq_true rfl, Nat.le_of_ble_eq_true rfl⟩) (preS hB va_S.rf hP hD) rfl rfl hl.1 rfl (lv_room (Nat.le_of_ble_eq_true rfl)) dX1_digest_159 ⟨Nat.le_of_ble_eq_true rfl, Nat.le_of_ble_eq_true rfl⟩) ?_
                    refine lv_lstore_n (lv' := [(1, .long (dgm d6 (nI (k6)))), (0, .ref (ad 0)), (3, .int (nI (k6)))]) hx hb dX1_digest_162 rfl hl (by decide) rfl (fun ls hl => ?_)
                    refine lv_iinc (v := nI (k6 + 1)) (lv' := [(3, .int (nI (k6 + 1))), (1, .long (dgm d6 (nI (k6)))), (0, .ref (ad 0))]) hx hb dX1_digest_163 hl (k := 2) rfl (nI_add _ _) (by decide) rfl (fun ls hl => ?_)
                    refine lv_goto (tgt := 139) hx hb dX1_digest_166 (by decide) ?_
                    exact ih139 (k6 := k6 + 1) (d6 := dgm d6 (nI (k6))) (ls := ls) (hl := lv_sub hl [2, 1, 0] rfl) (hinv := by
                        refine ⟨by omega, ?_⟩
                        rw [dgK, ← hop k6 (by omega), c154, ← h2]
                        rfl
                      ) (hn9 := by
                        omega
                      )
            · skip
              refine lv_lload_n hx hb dX1_digest_88 rfl (lv_at hl 1 rfl) ?_
              refine lv_aload_n hx hb dX1_digest_89 rfl (lv_at hl 0 rfl) ?_
              refine lv_iload_n hx hb dX1_digest_90 rfl (lv_at hl 2 rfl) ?_
              refine x_csi (va_runV (As := [.int (nI (p4))]) (rest := [.long (d4)]) ⟨hx, hb, hml, hown, hts⟩ (c_X1_sureP l D cI cZ cG cJ A ad wr hpal c g hid code ans dbt opn ply hps p4 (hI) (by omega)) (cwV 1 hts gX1_digest_X1_sure rfl rfl rfl (by decide +kernel) ⟨Nat.le_of_ble_eq_true rfl, Nat.le_of_ble_eq_true rfl⟩) (preV (ci := 1) (q0 := 0) hB va_S.rf hP hD rfl rfl) rfl rfl hl.1 rfl (lv_room (Nat.le_of_ble_eq_true rfl)) dX1_digest_91 ⟨Nat.le_of_ble_eq_true rfl, Nat.le_of_ble_eq_true rfl⟩) ?_
              refine x_csl (va_runS (As := [.long (d4), .int (sureV c (opS c g code ans dbt) p4 c)]) (rest := []) ⟨hx, hb, hml, hown, hts⟩ (c_X1_mix l D cI cZ cG cJ A (WX ad cI cZ c g hid code ans dbt opn ply hps wr) d4 (sureV c (opS c g code ans dbt) p4 c) ) (va_cwS 2 hts gX1_digest_X1_mix rfl rfl rfl (by decide +kernel) ⟨Nat.le_of_ble_eq_true rfl, Nat.le_of_ble_eq_true rfl⟩) (preS hB va_S.rf hP hD) rfl rfl hl.1 rfl (lv_room (Nat.le_of_ble_eq_true rfl)) dX1_digest_94 ⟨Nat.le_of_ble_eq_true rfl, Nat.le_of_ble_eq_true rfl⟩) ?_
              refine lv_lstore_n (lv' := [(1, .long (dgm d4 (sureV c (opS c g code ans dbt) p4 c))), (0, .ref (ad 0)), (3, .int (nI (p4)))]) hx hb dX1_digest_97 rfl hl (by decide) rfl (fun ls hl => ?_)
              refine lv_iconst (v := nI (0)) hx hb dX1_digest_98 (by decide) ?_
              refine lv_istore (lv' := [(4, .int (nI (0))), (1, .long (dgm d4 (sureV c (opS c g code ans dbt) p4 c))), (0, .ref (ad 0)), (3, .int (nI (p4)))]) hx hb dX1_digest_99 hl (by decide) rfl (fun ls hl => ?_)
              -- loop at 101
              have hinv : 0 ≤ c ∧ (dgm d4 (sureV c (opS c g code ans dbt) p4 c)) = dgH c (opS c g code ans dbt) (dgm d4 (sureV c (opS c g code ans dbt) p4 c)) p4 0 := by
                exact ⟨Nat.zero_le _, rfl⟩
              obtain ⟨x5, d5, hq9⟩ : ∃ (x5 : Nat) (d5 : Int64), lv_has ls 5 [(0, .ref (ad 0)), (1, .long (d5)), (3, .int (nI (p4))), (4, .int (nI (x5)))] ∧ (x5 ≤ c ∧ d5 = dgH c (opS c g code ans dbt) (dgm d4 (sureV c (opS c g code ans dbt) p4 c)) p4 x5) := ⟨0, (dgm d4 (sureV c (opS c g code ans dbt) p4 c)), lv_sub hl [2, 1, 3, 0] rfl, hinv⟩
              clear hl hinv
              obtain ⟨hl, hinv⟩ := hq9
              obtain ⟨n9_101, hn9⟩ : ∃ q : Nat, c - x5 < q := ⟨_, Nat.lt_succ_self _⟩
              induction n9_101 generalizing ls x5 d5 with
              | zero => exact absurd hn9 (Nat.not_lt_zero _)
              | succ n9_101 ih101 =>
                obtain ⟨k1, k2⟩ := hinv
                refine lv_iload hx hb dX1_digest_101 (lv_at hl 3 rfl) ?_
                refine lv_aload_n hx hb dX1_digest_103 rfl (lv_at hl 0 rfl) ?_
                refine va_get (D := D) (ci := 1) (v := .ref (pal ad c)) (C := RX1) (T := TX1) (N := 11) hx hb hts hinX1 hown hK hP 0 rfl rfl 2 (by decide) lk21 (fun _ h9 => h9) rfl dX1_digest_104 ?_
                refine x_colours hx hb hts hinX0 hown hK hP (palX hpal hc) (hB.2.2.2.2.1 _ (by simp [Nws])) dX1_digest_107 ?_
                refine x_ge (tgt := 131) hx hb dX1_digest_110 (by decide) (by omega) (by omega) (fun c110 => ?_) (fun c110 => ?_)
                · skip
                  refine lv_iinc (v := nI (p4 + 1)) (lv' := [(3, .int (nI (p4 + 1))), (0, .ref (ad 0)), (1, .long (d5)), (4, .int (nI (x5)))]) hx hb dX1_digest_131 hl (k := 2) rfl (nI_add _ _) (by decide) rfl (fun ls hl => ?_)
                  refine lv_goto (tgt := 83) hx hb dX1_digest_134 (by decide) ?_
                  exact ih83 (p4 := p4 + 1) (d4 := d5) (ls := ls) (hl := lv_sub hl [1, 2, 0] rfl) (hinv := by
                      have e9 : x5 = c := by omega
                      exact ⟨by omega, by rw [k2, e9, h2]; rfl⟩
                    ) (hn9 := by
                      omega
                    )
                · skip
                  refine lv_lload_n hx hb dX1_digest_113 rfl (lv_at hl 1 rfl) ?_
                  refine lv_aload_n hx hb dX1_digest_114 rfl (lv_at hl 0 rfl) ?_
                  refine lv_iload_n hx hb dX1_digest_115 rfl (lv_at hl 2 rfl) ?_
                  refine lv_iload hx hb dX1_digest_116 (lv_at hl 3 rfl) ?_
                  refine x_csi (va_runV (As := [.int (nI (p4)), .int (nI (x5))]) (rest := [.long (d5)]) ⟨hx, hb, hml, hown, hts⟩ (c_X1_haveP l D cI cZ cG cJ A ad wr hpal c g hid code ans dbt opn ply hps p4 x5 (hI) (by omega) (by omega)) (cwV 2 hts gX1_digest_X1_have rfl rfl rfl (by decide +kernel) ⟨Nat.le_of_ble_eq_true rfl, Nat.le_of_ble_eq_true rfl⟩) (preV (ci := 1) (q0 := 0) hB va_S.rf hP hD rfl rfl) rfl rfl hl.1 rfl (lv_room (Nat.le_of_ble_eq_true rfl)) dX1_digest_118 ⟨Nat.le_of_ble_eq_true rfl, Nat.le_of_ble_eq_true rfl⟩) ?_
                  refine x_csl (va_runS (As := [.long (d5), .int (nI (hvN c (opS c g code ans dbt) p4 x5))]) (rest := []) ⟨hx, hb, hml, hown, hts⟩ (c_X1_mix l D cI cZ cG cJ A (WX ad cI cZ c g hid code ans dbt opn ply hps wr) d5 (nI (hvN c (opS c g code ans dbt) p4 x5)) ) (va_cwS 2 hts gX1_digest_X1_mix rfl rfl rfl (by decide +kernel) ⟨Nat.le_of_ble_eq_true rfl, Nat.le_of_ble_eq_true rfl⟩) (preS hB va_S.rf hP hD) rfl rfl hl.1 rfl (lv_room (Nat.le_of_ble_eq_true rfl)) dX1_digest_121 ⟨Nat.le_of_ble_eq_true rfl, Nat.le_of_ble_eq_true rfl⟩) ?_
                  refine lv_lstore_n (lv' := [(1, .long (dgm d5 (nI (hvN c (opS c g code ans dbt) p4 x5)))), (0, .ref (ad 0)), (3, .int (nI (p4))), (4, .int (nI (x5)))]) hx hb dX1_digest_124 rfl hl (by decide) rfl (fun ls hl => ?_)
                  refine lv_iinc (v := nI (x5 + 1)) (lv' := [(4, .int (nI (x5 + 1))), (1, .long (dgm d5 (nI (hvN c (opS c g code ans dbt) p4 x5)))), (0, .ref (ad 0)), (3, .int (nI (p4)))]) hx hb dX1_digest_125 hl (k := 3) rfl (nI_add _ _) (by decide) rfl (fun ls hl => ?_)
                  refine lv_goto (tgt := 101) hx hb dX1_digest_128 (by decide) ?_
                  exact ih101 (x5 := x5 + 1) (d5 := dgm d5 (nI (hvN c (opS c g code ans dbt) p4 x5))) (ls := ls) (hl := lv_sub hl [2, 1, 3, 0] rfl) (hinv := by
                      exact ⟨by omega, by rw [k2]; rfl⟩
                    ) (hn9 := by
                      omega
                    )
        · skip
          refine lv_iconst (v := nI (0)) hx hb dX1_digest_47 (by decide) ?_
          refine lv_istore (lv' := [(4, .int (nI (0))), (0, .ref (ad 0)), (1, .long (d2)), (3, .int (nI (i2)))]) hx hb dX1_digest_48 hl (by decide) rfl (fun ls hl => ?_)
          -- loop at 50
          have hinv : 0 ≤ 6 ∧ d2 = dgI c code ans dbt d2 i2 0 := by
            exact ⟨Nat.zero_le _, rfl⟩
          obtain ⟨w3, d3, hq9⟩ : ∃ (w3 : Nat) (d3 : Int64), lv_has ls 5 [(0, .ref (ad 0)), (1, .long (d3)), (3, .int (nI (i2))), (4, .int (nI (w3)))] ∧ (w3 ≤ 6 ∧ d3 = dgI c code ans dbt d2 i2 w3) := ⟨0, d2, lv_sub hl [1, 2, 3, 0] rfl, hinv⟩
          clear hl hinv
          obtain ⟨hl, hinv⟩ := hq9
          obtain ⟨n9_50, hn9⟩ : ∃ q : Nat, 6 - w3 < q := ⟨_, Nat.lt_succ_self _⟩
          induction n9_50 generalizing ls w3 d3 with
          | zero => exact absurd hn9 (Nat.not_lt_zero _)
          | succ n9_50 ih50 =>
            obtain ⟨k1, k2⟩ := hinv
            refine lv_iload hx hb dX1_digest_50 (lv_at hl 3 rfl) ?_
            refine lv_bipush (v := nI (6)) hx hb dX1_digest_52 (by decide) ?_
            refine x_ge (tgt := 75) hx hb dX1_digest_54 (by decide) (by omega) (by omega) (fun c54 => ?_) (fun c54 => ?_)
            · skip
              refine lv_iinc (v := nI (i2 + 1)) (lv' := [(3, .int (nI (i2 + 1))), (0, .ref (ad 0)), (1, .long (d3)), (4, .int (nI (w3)))]) hx hb dX1_digest_75 hl (k := 2) rfl (nI_add _ _) (by decide) rfl (fun ls hl => ?_)
              refine lv_goto (tgt := 39) hx hb dX1_digest_78 (by decide) ?_
              exact ih39 (i2 := i2 + 1) (d2 := d3) (ls := ls) (hl := lv_sub hl [1, 2, 0] rfl) (hinv := by
                  have e9 : w3 = 6 := by omega
                  exact ⟨by omega, by rw [k2, e9, h2]; rfl⟩
                ) (hn9 := by
                  omega
                )
            · skip
              refine lv_lload_n hx hb dX1_digest_57 rfl (lv_at hl 1 rfl) ?_
              refine lv_aload_n hx hb dX1_digest_58 rfl (lv_at hl 0 rfl) ?_
              refine lv_iload_n hx hb dX1_digest_59 rfl (lv_at hl 2 rfl) ?_
              refine lv_iload hx hb dX1_digest_60 (lv_at hl 3 rfl) ?_
              refine x_csi (va_runV (As := [.int (nI (i2)), .int (nI (w3))]) (rest := [.long (d3)]) ⟨hx, hb, hml, hown, hts⟩ (c_X1_toldP l D cI cZ cG cJ A ad wr hpal c g hid code ans dbt opn ply hps i2 w3 (hI) (by omega) (by omega)) (cwV 2 hts gX1_digest_X1_told rfl rfl rfl (by decide +kernel) ⟨Nat.le_of_ble_eq_true rfl, Nat.le_of_ble_eq_true rfl⟩) (preV (ci := 1) (q0 := 0) hB va_S.rf hP hD rfl rfl) rfl rfl hl.1 rfl (lv_room (Nat.le_of_ble_eq_true rfl)) dX1_digest_62 ⟨Nat.le_of_ble_eq_true rfl, Nat.le_of_ble_eq_true rfl⟩) ?_
              refine x_csl (va_runS (As := [.long (d3), .int (nI (tldV c code ans dbt i2 w3))]) (rest := []) ⟨hx, hb, hml, hown, hts⟩ (c_X1_mix l D cI cZ cG cJ A (WX ad cI cZ c g hid code ans dbt opn ply hps wr) d3 (nI (tldV c code ans dbt i2 w3)) ) (va_cwS 2 hts gX1_digest_X1_mix rfl rfl rfl (by decide +kernel) ⟨Nat.le_of_ble_eq_true rfl, Nat.le_of_ble_eq_true rfl⟩) (preS hB va_S.rf hP hD) rfl rfl hl.1 rfl (lv_room (Nat.le_of_ble_eq_true rfl)) dX1_digest_65 ⟨Nat.le_of_ble_eq_true rfl, Nat.le_of_ble_eq_true rfl⟩) ?_
              refine lv_lstore_n (lv' := [(1, .long (dgm d3 (nI (tldV c code ans dbt i2 w3)))), (0, .ref (ad 0)), (3, .int (nI (i2))), (4, .int (nI (w3)))]) hx hb dX1_digest_68 rfl hl (by decide) rfl (fun ls hl => ?_)
              refine lv_iinc (v := nI (w3 + 1)) (lv' := [(4, .int (nI (w3 + 1))), (1, .long (dgm d3 (nI (tldV c code ans dbt i2 w3)))), (0, .ref (ad 0)), (3, .int (nI (i2)))]) hx hb dX1_digest_69 hl (k := 3) rfl (nI_add _ _) (by decide) rfl (fun ls hl => ?_)
              refine lv_goto (tgt := 50) hx hb dX1_digest_72 (by decide) ?_
              exact ih50 (w3 := w3 + 1) (d3 := dgm d3 (nI (tldV c code ans dbt i2 w3))) (ls := ls) (hl := lv_sub hl [2, 1, 3, 0] rfl) (hinv := by
                  exact ⟨by omega, by rw [k2]; rfl⟩
                ) (hn9 := by
                  omega
                )
    · skip
      refine lv_lload_n hx hb dX1_digest_12 rfl (lv_at hl 1 rfl) ?_
      refine lv_aload_n hx hb dX1_digest_13 rfl (lv_at hl 0 rfl) ?_
      refine lv_iload_n hx hb dX1_digest_14 rfl (lv_at hl 2 rfl) ?_
      refine x_csi (va_runV (As := [.int (nI (i))]) (rest := [.long (dd)]) ⟨hx, hb, hml, hown, hts⟩ (c_X1_countP l D cI cZ cG cJ A ad wr hpal c g hid code ans dbt opn ply hps i (hI) (by omega)) (cwV 1 hts gX1_digest_X1_count rfl rfl rfl (by decide +kernel) ⟨Nat.le_of_ble_eq_true rfl, Nat.le_of_ble_eq_true rfl⟩) (preV (ci := 1) (q0 := 0) hB va_S.rf hP hD rfl rfl) rfl rfl hl.1 rfl (lv_room (Nat.le_of_ble_eq_true rfl)) dX1_digest_15 ⟨Nat.le_of_ble_eq_true rfl, Nat.le_of_ble_eq_true rfl⟩) ?_
      refine x_csl (va_runS (As := [.long (dd), .int (nI (cntV c g hid code ans dbt i))]) (rest := []) ⟨hx, hb, hml, hown, hts⟩ (c_X1_mix l D cI cZ cG cJ A (WX ad cI cZ c g hid code ans dbt opn ply hps wr) dd (nI (cntV c g hid code ans dbt i)) ) (va_cwS 2 hts gX1_digest_X1_mix rfl rfl rfl (by decide +kernel) ⟨Nat.le_of_ble_eq_true rfl, Nat.le_of_ble_eq_true rfl⟩) (preS hB va_S.rf hP hD) rfl rfl hl.1 rfl (lv_room (Nat.le_of_ble_eq_true rfl)) dX1_digest_18 ⟨Nat.le_of_ble_eq_true rfl, Nat.le_of_ble_eq_true rfl⟩) ?_
      refine lv_lstore_n (lv' := [(1, .long (dgm dd (nI (cntV c g hid code ans dbt i)))), (0, .ref (ad 0)), (3, .int (nI (i)))]) hx hb dX1_digest_21 rfl hl (by decide) rfl (fun ls hl => ?_)
      refine lv_iinc (v := nI (i + 1)) (lv' := [(3, .int (nI (i + 1))), (1, .long (dgm dd (nI (cntV c g hid code ans dbt i)))), (0, .ref (ad 0))]) hx hb dX1_digest_22 hl (k := 2) rfl (nI_add _ _) (by decide) rfl (fun ls hl => ?_)
      refine lv_goto (tgt := 6) hx hb dX1_digest_25 (by decide) ?_
      exact ih6 (i := i + 1) (dd := dgm dd (nI (cntV c g hid code ans dbt i))) (ls := ls) (hl := lv_sub hl [2, 1, 0] rfl) (hinv := by
          exact ⟨by omega, by rw [h2]; rfl⟩
        ) (hn9 := by
          omega
        )
end
section
theorem i_vc : Claimed_1_1 ∧ Claimed_1_2 := sorry
end
