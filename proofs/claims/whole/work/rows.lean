section
def lw_okq (q : MethodName × Nat) : Prop := (q.1.cls ≠ "java/lang/invoke/MethodHandle" ∧ q.1.cls ≠ "java/lang/invoke/VarHandle") ∧ Cond.instantiable q.1.cls q.2 ∈ tables_1 ∧ Cond.privateMethod q.1 ∈ tables_1 ∧ Cond.instanceMethod q.1 ∈ tables_1
theorem lw_p0 : lw_okq (⟨"java/lang/Throwable", "fillInStackTrace", "(I)Ljava/lang/Throwable;"⟩, 6) := ⟨⟨by decide +kernel, by decide +kernel⟩, List.mem_of_getElem? (i := 196) (by decide +kernel), List.mem_of_getElem? (i := 194) (by decide +kernel), List.mem_of_getElem? (i := 195) (by decide +kernel)⟩
theorem lw_p1 : lw_okq (⟨"SpongeDigests$Bytes", "append", "(I)V"⟩, 2) := ⟨⟨by decide +kernel, by decide +kernel⟩, List.mem_of_getElem? (i := 33) (by decide +kernel), List.mem_of_getElem? (i := 225) (by decide +kernel), List.mem_of_getElem? (i := 226) (by decide +kernel)⟩
theorem lw_p2 : lw_okq (⟨"SpongeDigests", "slotAt", "(I)LSpongeDigests$Bytes;"⟩, 9) := ⟨⟨by decide +kernel, by decide +kernel⟩, List.mem_of_getElem? (i := 24) (by decide +kernel), List.mem_of_getElem? (i := 237) (by decide +kernel), List.mem_of_getElem? (i := 238) (by decide +kernel)⟩
theorem lw_p3 : lw_okq (⟨"SpongeDigests$Bytes", "take", "(LSpongeDigests$Bytes;I)V"⟩, 2) := ⟨⟨by decide +kernel, by decide +kernel⟩, List.mem_of_getElem? (i := 33) (by decide +kernel), List.mem_of_getElem? (i := 261) (by decide +kernel), List.mem_of_getElem? (i := 262) (by decide +kernel)⟩
theorem lw_p4 : lw_okq (⟨"SpongeDigests$Bytes", "cutOrFill", "(I)V"⟩, 2) := ⟨⟨by decide +kernel, by decide +kernel⟩, List.mem_of_getElem? (i := 33) (by decide +kernel), List.mem_of_getElem? (i := 282) (by decide +kernel), List.mem_of_getElem? (i := 283) (by decide +kernel)⟩
theorem lw_p5 : lw_okq (⟨"SpongeDigests$Bytes", "eightFrom", "(I)J"⟩, 2) := ⟨⟨by decide +kernel, by decide +kernel⟩, List.mem_of_getElem? (i := 33) (by decide +kernel), List.mem_of_getElem? (i := 576) (by decide +kernel), List.mem_of_getElem? (i := 577) (by decide +kernel)⟩
theorem lw_p6 : lw_okq (⟨"SpongeDigests$Bytes", "matches", "(LSpongeDigests$Bytes;)Z"⟩, 2) := ⟨⟨by decide +kernel, by decide +kernel⟩, List.mem_of_getElem? (i := 33) (by decide +kernel), List.mem_of_getElem? (i := 587) (by decide +kernel), List.mem_of_getElem? (i := 588) (by decide +kernel)⟩
theorem lw_p7 : lw_okq (⟨"SpongeDigests", "hashInBlocks", "(LSpongeDigests$BlockHash;[JI)V"⟩, 9) := ⟨⟨by decide +kernel, by decide +kernel⟩, List.mem_of_getElem? (i := 24) (by decide +kernel), List.mem_of_getElem? (i := 600) (by decide +kernel), List.mem_of_getElem? (i := 601) (by decide +kernel)⟩
theorem lw_p8 : lw_okq (⟨"SpongeDigests$BlockHash", "begin", "([J)V"⟩, 14) := ⟨⟨by decide +kernel, by decide +kernel⟩, List.mem_of_getElem? (i := 66) (by decide +kernel), List.mem_of_getElem? (i := 604) (by decide +kernel), List.mem_of_getElem? (i := 605) (by decide +kernel)⟩
theorem lw_p9 : lw_okq (⟨"SpongeDigests$BlockHash", "absorb", "([BII)V"⟩, 14) := ⟨⟨by decide +kernel, by decide +kernel⟩, List.mem_of_getElem? (i := 66) (by decide +kernel), List.mem_of_getElem? (i := 609) (by decide +kernel), List.mem_of_getElem? (i := 610) (by decide +kernel)⟩
theorem lw_p10 : lw_okq (⟨"SpongeDigests$BlockHash", "compress", "()V"⟩, 14) := ⟨⟨by decide +kernel, by decide +kernel⟩, List.mem_of_getElem? (i := 66) (by decide +kernel), List.mem_of_getElem? (i := 613) (by decide +kernel), List.mem_of_getElem? (i := 614) (by decide +kernel)⟩
theorem lw_p11 : lw_okq (⟨"SpongeDigests$BlockHash", "fillSchedule", "()V"⟩, 14) := ⟨⟨by decide +kernel, by decide +kernel⟩, List.mem_of_getElem? (i := 66) (by decide +kernel), List.mem_of_getElem? (i := 617) (by decide +kernel), List.mem_of_getElem? (i := 618) (by decide +kernel)⟩
theorem lw_p12 : lw_okq (⟨"SpongeDigests$BlockHash", "twoTurnsAndShift", "(JI)J"⟩, 14) := ⟨⟨by decide +kernel, by decide +kernel⟩, List.mem_of_getElem? (i := 66) (by decide +kernel), List.mem_of_getElem? (i := 621) (by decide +kernel), List.mem_of_getElem? (i := 622) (by decide +kernel)⟩
theorem lw_p13 : lw_okq (⟨"SpongeDigests$BlockHash", "rotr", "(JI)J"⟩, 14) := ⟨⟨by decide +kernel, by decide +kernel⟩, List.mem_of_getElem? (i := 66) (by decide +kernel), List.mem_of_getElem? (i := 625) (by decide +kernel), List.mem_of_getElem? (i := 626) (by decide +kernel)⟩
theorem lw_p14 : lw_okq (⟨"SpongeDigests$BlockHash", "threeTurns", "(JI)J"⟩, 14) := ⟨⟨by decide +kernel, by decide +kernel⟩, List.mem_of_getElem? (i := 66) (by decide +kernel), List.mem_of_getElem? (i := 631) (by decide +kernel), List.mem_of_getElem? (i := 632) (by decide +kernel)⟩
theorem lw_p15 : lw_okq (⟨"SpongeDigests$BlockHash", "addToState", "(IJJJJ)V"⟩, 14) := ⟨⟨by decide +kernel, by decide +kernel⟩, List.mem_of_getElem? (i := 66) (by decide +kernel), List.mem_of_getElem? (i := 635) (by decide +kernel), List.mem_of_getElem? (i := 636) (by decide +kernel)⟩
def lw_privs_1 : List (MethodName × Nat) := [(⟨"java/lang/Throwable", "fillInStackTrace", "(I)Ljava/lang/Throwable;"⟩, 6), (⟨"SpongeDigests$Bytes", "append", "(I)V"⟩, 2), (⟨"SpongeDigests", "slotAt", "(I)LSpongeDigests$Bytes;"⟩, 9), (⟨"SpongeDigests$Bytes", "take", "(LSpongeDigests$Bytes;I)V"⟩, 2), (⟨"SpongeDigests$Bytes", "cutOrFill", "(I)V"⟩, 2), (⟨"SpongeDigests$Bytes", "eightFrom", "(I)J"⟩, 2), (⟨"SpongeDigests$Bytes", "matches", "(LSpongeDigests$Bytes;)Z"⟩, 2), (⟨"SpongeDigests", "hashInBlocks", "(LSpongeDigests$BlockHash;[JI)V"⟩, 9), (⟨"SpongeDigests$BlockHash", "begin", "([J)V"⟩, 14), (⟨"SpongeDigests$BlockHash", "absorb", "([BII)V"⟩, 14), (⟨"SpongeDigests$BlockHash", "compress", "()V"⟩, 14), (⟨"SpongeDigests$BlockHash", "fillSchedule", "()V"⟩, 14), (⟨"SpongeDigests$BlockHash", "twoTurnsAndShift", "(JI)J"⟩, 14), (⟨"SpongeDigests$BlockHash", "rotr", "(JI)J"⟩, 14), (⟨"SpongeDigests$BlockHash", "threeTurns", "(JI)J"⟩, 14), (⟨"SpongeDigests$BlockHash", "addToState", "(IJJJJ)V"⟩, 14)]
theorem lw_r1 : ∀ q ∈ lw_privs_1, lw_okq q := List.forall_mem_cons.mpr ⟨lw_p0, List.forall_mem_cons.mpr ⟨lw_p1, List.forall_mem_cons.mpr ⟨lw_p2, List.forall_mem_cons.mpr ⟨lw_p3, List.forall_mem_cons.mpr ⟨lw_p4, List.forall_mem_cons.mpr ⟨lw_p5, List.forall_mem_cons.mpr ⟨lw_p6, List.forall_mem_cons.mpr ⟨lw_p7, List.forall_mem_cons.mpr ⟨lw_p8, List.forall_mem_cons.mpr ⟨lw_p9, List.forall_mem_cons.mpr ⟨lw_p10, List.forall_mem_cons.mpr ⟨lw_p11, List.forall_mem_cons.mpr ⟨lw_p12, List.forall_mem_cons.mpr ⟨lw_p13, List.forall_mem_cons.mpr ⟨lw_p14, List.forall_mem_cons.mpr ⟨lw_p15, fun _ h => absurd h List.not_mem_nil⟩⟩⟩⟩⟩⟩⟩⟩⟩⟩⟩⟩⟩⟩⟩⟩
theorem lw_p16 : lw_okq (⟨"SpongeDigests$BlockHash", "finish", "([BII)V"⟩, 14) := ⟨⟨by decide +kernel, by decide +kernel⟩, List.mem_of_getElem? (i := 66) (by decide +kernel), List.mem_of_getElem? (i := 639) (by decide +kernel), List.mem_of_getElem? (i := 640) (by decide +kernel)⟩
theorem lw_p17 : lw_okq (⟨"SpongeDigests$BlockHash", "writeState", "([BII)V"⟩, 14) := ⟨⟨by decide +kernel, by decide +kernel⟩, List.mem_of_getElem? (i := 66) (by decide +kernel), List.mem_of_getElem? (i := 645) (by decide +kernel), List.mem_of_getElem? (i := 646) (by decide +kernel)⟩
theorem lw_p18 : lw_okq (⟨"SpongeDigests", "hashInSponge", "(III)V"⟩, 9) := ⟨⟨by decide +kernel, by decide +kernel⟩, List.mem_of_getElem? (i := 24) (by decide +kernel), List.mem_of_getElem? (i := 659) (by decide +kernel), List.mem_of_getElem? (i := 660) (by decide +kernel)⟩
theorem lw_p19 : lw_okq (⟨"SpongeDigests$Sponge", "absorb", "(II[BI)V"⟩, 3) := ⟨⟨by decide +kernel, by decide +kernel⟩, List.mem_of_getElem? (i := 49) (by decide +kernel), List.mem_of_getElem? (i := 663) (by decide +kernel), List.mem_of_getElem? (i := 664) (by decide +kernel)⟩
theorem lw_p20 : lw_okq (⟨"SpongeDigests$Sponge", "mixIn", "(II)V"⟩, 3) := ⟨⟨by decide +kernel, by decide +kernel⟩, List.mem_of_getElem? (i := 49) (by decide +kernel), List.mem_of_getElem? (i := 670) (by decide +kernel), List.mem_of_getElem? (i := 671) (by decide +kernel)⟩
theorem lw_p21 : lw_okq (⟨"SpongeDigests$Sponge", "permute", "()V"⟩, 3) := ⟨⟨by decide +kernel, by decide +kernel⟩, List.mem_of_getElem? (i := 49) (by decide +kernel), List.mem_of_getElem? (i := 674) (by decide +kernel), List.mem_of_getElem? (i := 675) (by decide +kernel)⟩
theorem lw_p22 : lw_okq (⟨"SpongeDigests$Sponge", "mixColumns", "()V"⟩, 3) := ⟨⟨by decide +kernel, by decide +kernel⟩, List.mem_of_getElem? (i := 49) (by decide +kernel), List.mem_of_getElem? (i := 678) (by decide +kernel), List.mem_of_getElem? (i := 679) (by decide +kernel)⟩
theorem lw_p23 : lw_okq (⟨"SpongeDigests$Sponge", "turnAndMove", "()V"⟩, 3) := ⟨⟨by decide +kernel, by decide +kernel⟩, List.mem_of_getElem? (i := 49) (by decide +kernel), List.mem_of_getElem? (i := 685) (by decide +kernel), List.mem_of_getElem? (i := 686) (by decide +kernel)⟩
theorem lw_p24 : lw_okq (⟨"SpongeDigests$Sponge", "mixRows", "()V"⟩, 3) := ⟨⟨by decide +kernel, by decide +kernel⟩, List.mem_of_getElem? (i := 49) (by decide +kernel), List.mem_of_getElem? (i := 693) (by decide +kernel), List.mem_of_getElem? (i := 694) (by decide +kernel)⟩
theorem lw_p25 : lw_okq (⟨"SpongeDigests$Sponge", "squeeze", "(I[BI)V"⟩, 3) := ⟨⟨by decide +kernel, by decide +kernel⟩, List.mem_of_getElem? (i := 49) (by decide +kernel), List.mem_of_getElem? (i := 700) (by decide +kernel), List.mem_of_getElem? (i := 701) (by decide +kernel)⟩
theorem lw_p26 : lw_okq (⟨"SpongeDigests", "hashWithKey", "(LSpongeDigests$BlockHash;[J)V"⟩, 9) := ⟨⟨by decide +kernel, by decide +kernel⟩, List.mem_of_getElem? (i := 24) (by decide +kernel), List.mem_of_getElem? (i := 704) (by decide +kernel), List.mem_of_getElem? (i := 705) (by decide +kernel)⟩
theorem lw_p27 : lw_okq (⟨"SpongeDigests", "setKey", "(LSpongeDigests$BlockHash;[J)V"⟩, 9) := ⟨⟨by decide +kernel, by decide +kernel⟩, List.mem_of_getElem? (i := 24) (by decide +kernel), List.mem_of_getElem? (i := 708) (by decide +kernel), List.mem_of_getElem? (i := 709) (by decide +kernel)⟩
theorem lw_p28 : lw_okq (⟨"SpongeDigests", "beginWithKey", "(LSpongeDigests$BlockHash;[JI)V"⟩, 9) := ⟨⟨by decide +kernel, by decide +kernel⟩, List.mem_of_getElem? (i := 24) (by decide +kernel), List.mem_of_getElem? (i := 716) (by decide +kernel), List.mem_of_getElem? (i := 717) (by decide +kernel)⟩
theorem lw_p29 : lw_okq (⟨"SpongeDigests", "hashWithCounter", "(LSpongeDigests$BlockHash;[JI)V"⟩, 9) := ⟨⟨by decide +kernel, by decide +kernel⟩, List.mem_of_getElem? (i := 24) (by decide +kernel), List.mem_of_getElem? (i := 720) (by decide +kernel), List.mem_of_getElem? (i := 721) (by decide +kernel)⟩
theorem lw_p30 : lw_okq (⟨"SpongeDigests$BlockHash", "setMark", "()V"⟩, 14) := ⟨⟨by decide +kernel, by decide +kernel⟩, List.mem_of_getElem? (i := 66) (by decide +kernel), List.mem_of_getElem? (i := 724) (by decide +kernel), List.mem_of_getElem? (i := 725) (by decide +kernel)⟩
theorem lw_p31 : lw_okq (⟨"SpongeDigests", "setCounter", "(I)V"⟩, 9) := ⟨⟨by decide +kernel, by decide +kernel⟩, List.mem_of_getElem? (i := 24) (by decide +kernel), List.mem_of_getElem? (i := 729) (by decide +kernel), List.mem_of_getElem? (i := 730) (by decide +kernel)⟩
def lw_privs_2 : List (MethodName × Nat) := [(⟨"SpongeDigests$BlockHash", "finish", "([BII)V"⟩, 14), (⟨"SpongeDigests$BlockHash", "writeState", "([BII)V"⟩, 14), (⟨"SpongeDigests", "hashInSponge", "(III)V"⟩, 9), (⟨"SpongeDigests$Sponge", "absorb", "(II[BI)V"⟩, 3), (⟨"SpongeDigests$Sponge", "mixIn", "(II)V"⟩, 3), (⟨"SpongeDigests$Sponge", "permute", "()V"⟩, 3), (⟨"SpongeDigests$Sponge", "mixColumns", "()V"⟩, 3), (⟨"SpongeDigests$Sponge", "turnAndMove", "()V"⟩, 3), (⟨"SpongeDigests$Sponge", "mixRows", "()V"⟩, 3), (⟨"SpongeDigests$Sponge", "squeeze", "(I[BI)V"⟩, 3), (⟨"SpongeDigests", "hashWithKey", "(LSpongeDigests$BlockHash;[J)V"⟩, 9), (⟨"SpongeDigests", "setKey", "(LSpongeDigests$BlockHash;[J)V"⟩, 9), (⟨"SpongeDigests", "beginWithKey", "(LSpongeDigests$BlockHash;[JI)V"⟩, 9), (⟨"SpongeDigests", "hashWithCounter", "(LSpongeDigests$BlockHash;[JI)V"⟩, 9), (⟨"SpongeDigests$BlockHash", "setMark", "()V"⟩, 14), (⟨"SpongeDigests", "setCounter", "(I)V"⟩, 9)]
theorem lw_r2 : ∀ q ∈ lw_privs_2, lw_okq q := List.forall_mem_cons.mpr ⟨lw_p16, List.forall_mem_cons.mpr ⟨lw_p17, List.forall_mem_cons.mpr ⟨lw_p18, List.forall_mem_cons.mpr ⟨lw_p19, List.forall_mem_cons.mpr ⟨lw_p20, List.forall_mem_cons.mpr ⟨lw_p21, List.forall_mem_cons.mpr ⟨lw_p22, List.forall_mem_cons.mpr ⟨lw_p23, List.forall_mem_cons.mpr ⟨lw_p24, List.forall_mem_cons.mpr ⟨lw_p25, List.forall_mem_cons.mpr ⟨lw_p26, List.forall_mem_cons.mpr ⟨lw_p27, List.forall_mem_cons.mpr ⟨lw_p28, List.forall_mem_cons.mpr ⟨lw_p29, List.forall_mem_cons.mpr ⟨lw_p30, List.forall_mem_cons.mpr ⟨lw_p31, fun _ h => absurd h List.not_mem_nil⟩⟩⟩⟩⟩⟩⟩⟩⟩⟩⟩⟩⟩⟩⟩⟩
theorem lw_p32 : lw_okq (⟨"SpongeDigests$BlockHash", "goToMark", "()V"⟩, 14) := ⟨⟨by decide +kernel, by decide +kernel⟩, List.mem_of_getElem? (i := 66) (by decide +kernel), List.mem_of_getElem? (i := 733) (by decide +kernel), List.mem_of_getElem? (i := 734) (by decide +kernel)⟩
theorem lw_p33 : lw_okq (⟨"SpongeDigestsModel", "constants", "()V"⟩, 24) := ⟨⟨by decide +kernel, by decide +kernel⟩, List.mem_of_getElem? (i := 737) (by decide +kernel), List.mem_of_getElem? (i := 745) (by decide +kernel), List.mem_of_getElem? (i := 746) (by decide +kernel)⟩
theorem lw_p34 : lw_okq (⟨"SpongeDigestsModel", "root", "(II)J"⟩, 24) := ⟨⟨by decide +kernel, by decide +kernel⟩, List.mem_of_getElem? (i := 737) (by decide +kernel), List.mem_of_getElem? (i := 752) (by decide +kernel), List.mem_of_getElem? (i := 753) (by decide +kernel)⟩
theorem lw_p35 : lw_okq (⟨"SpongeDigestsModel", "above", "(IJII)Z"⟩, 24) := ⟨⟨by decide +kernel, by decide +kernel⟩, List.mem_of_getElem? (i := 737) (by decide +kernel), List.mem_of_getElem? (i := 756) (by decide +kernel), List.mem_of_getElem? (i := 757) (by decide +kernel)⟩
theorem lw_p36 : lw_okq (⟨"SpongeDigestsModel", "named", "([JII)V"⟩, 24) := ⟨⟨by decide +kernel, by decide +kernel⟩, List.mem_of_getElem? (i := 737) (by decide +kernel), List.mem_of_getElem? (i := 764) (by decide +kernel), List.mem_of_getElem? (i := 765) (by decide +kernel)⟩
theorem lw_p37 : lw_okq (⟨"SpongeDigestsModel", "begin", "(I)V"⟩, 24) := ⟨⟨by decide +kernel, by decide +kernel⟩, List.mem_of_getElem? (i := 737) (by decide +kernel), List.mem_of_getElem? (i := 768) (by decide +kernel), List.mem_of_getElem? (i := 769) (by decide +kernel)⟩
theorem lw_p38 : lw_okq (⟨"SpongeDigestsModel", "put", "(I)V"⟩, 24) := ⟨⟨by decide +kernel, by decide +kernel⟩, List.mem_of_getElem? (i := 737) (by decide +kernel), List.mem_of_getElem? (i := 780) (by decide +kernel), List.mem_of_getElem? (i := 781) (by decide +kernel)⟩
theorem lw_p39 : lw_okq (⟨"SpongeDigestsModel", "sponge", "()Z"⟩, 24) := ⟨⟨by decide +kernel, by decide +kernel⟩, List.mem_of_getElem? (i := 737) (by decide +kernel), List.mem_of_getElem? (i := 784) (by decide +kernel), List.mem_of_getElem? (i := 785) (by decide +kernel)⟩
theorem lw_p40 : lw_okq (⟨"SpongeDigestsModel", "flip", "(II)V"⟩, 24) := ⟨⟨by decide +kernel, by decide +kernel⟩, List.mem_of_getElem? (i := 737) (by decide +kernel), List.mem_of_getElem? (i := 788) (by decide +kernel), List.mem_of_getElem? (i := 789) (by decide +kernel)⟩
theorem lw_p41 : lw_okq (⟨"SpongeDigestsModel", "permute", "()V"⟩, 24) := ⟨⟨by decide +kernel, by decide +kernel⟩, List.mem_of_getElem? (i := 737) (by decide +kernel), List.mem_of_getElem? (i := 793) (by decide +kernel), List.mem_of_getElem? (i := 794) (by decide +kernel)⟩
theorem lw_p42 : lw_okq (⟨"SpongeDigestsModel", "compress32", "()V"⟩, 24) := ⟨⟨by decide +kernel, by decide +kernel⟩, List.mem_of_getElem? (i := 737) (by decide +kernel), List.mem_of_getElem? (i := 801) (by decide +kernel), List.mem_of_getElem? (i := 802) (by decide +kernel)⟩
theorem lw_p43 : lw_okq (⟨"SpongeDigestsModel", "compress64", "()V"⟩, 24) := ⟨⟨by decide +kernel, by decide +kernel⟩, List.mem_of_getElem? (i := 737) (by decide +kernel), List.mem_of_getElem? (i := 808) (by decide +kernel), List.mem_of_getElem? (i := 809) (by decide +kernel)⟩
theorem lw_p44 : lw_okq (⟨"SpongeDigestsModel", "finish", "()V"⟩, 24) := ⟨⟨by decide +kernel, by decide +kernel⟩, List.mem_of_getElem? (i := 737) (by decide +kernel), List.mem_of_getElem? (i := 815) (by decide +kernel), List.mem_of_getElem? (i := 816) (by decide +kernel)⟩
theorem lw_p45 : lw_okq (⟨"SpongeDigestsModel", "good", "(ZI)Z"⟩, 24) := ⟨⟨by decide +kernel, by decide +kernel⟩, List.mem_of_getElem? (i := 737) (by decide +kernel), List.mem_of_getElem? (i := 902) (by decide +kernel), List.mem_of_getElem? (i := 903) (by decide +kernel)⟩
theorem lw_p46 : lw_okq (⟨"SpongeDigestsModel", "word", "(I)V"⟩, 24) := ⟨⟨by decide +kernel, by decide +kernel⟩, List.mem_of_getElem? (i := 737) (by decide +kernel), List.mem_of_getElem? (i := 906) (by decide +kernel), List.mem_of_getElem? (i := 907) (by decide +kernel)⟩
theorem lw_p47 : lw_okq (⟨"SpongeDigestsModel", "put", "([BII)V"⟩, 24) := ⟨⟨by decide +kernel, by decide +kernel⟩, List.mem_of_getElem? (i := 737) (by decide +kernel), List.mem_of_getElem? (i := 945) (by decide +kernel), List.mem_of_getElem? (i := 946) (by decide +kernel)⟩
def lw_privs_3 : List (MethodName × Nat) := [(⟨"SpongeDigests$BlockHash", "goToMark", "()V"⟩, 14), (⟨"SpongeDigestsModel", "constants", "()V"⟩, 24), (⟨"SpongeDigestsModel", "root", "(II)J"⟩, 24), (⟨"SpongeDigestsModel", "above", "(IJII)Z"⟩, 24), (⟨"SpongeDigestsModel", "named", "([JII)V"⟩, 24), (⟨"SpongeDigestsModel", "begin", "(I)V"⟩, 24), (⟨"SpongeDigestsModel", "put", "(I)V"⟩, 24), (⟨"SpongeDigestsModel", "sponge", "()Z"⟩, 24), (⟨"SpongeDigestsModel", "flip", "(II)V"⟩, 24), (⟨"SpongeDigestsModel", "permute", "()V"⟩, 24), (⟨"SpongeDigestsModel", "compress32", "()V"⟩, 24), (⟨"SpongeDigestsModel", "compress64", "()V"⟩, 24), (⟨"SpongeDigestsModel", "finish", "()V"⟩, 24), (⟨"SpongeDigestsModel", "good", "(ZI)Z"⟩, 24), (⟨"SpongeDigestsModel", "word", "(I)V"⟩, 24), (⟨"SpongeDigestsModel", "put", "([BII)V"⟩, 24)]
theorem lw_r3 : ∀ q ∈ lw_privs_3, lw_okq q := List.forall_mem_cons.mpr ⟨lw_p32, List.forall_mem_cons.mpr ⟨lw_p33, List.forall_mem_cons.mpr ⟨lw_p34, List.forall_mem_cons.mpr ⟨lw_p35, List.forall_mem_cons.mpr ⟨lw_p36, List.forall_mem_cons.mpr ⟨lw_p37, List.forall_mem_cons.mpr ⟨lw_p38, List.forall_mem_cons.mpr ⟨lw_p39, List.forall_mem_cons.mpr ⟨lw_p40, List.forall_mem_cons.mpr ⟨lw_p41, List.forall_mem_cons.mpr ⟨lw_p42, List.forall_mem_cons.mpr ⟨lw_p43, List.forall_mem_cons.mpr ⟨lw_p44, List.forall_mem_cons.mpr ⟨lw_p45, List.forall_mem_cons.mpr ⟨lw_p46, List.forall_mem_cons.mpr ⟨lw_p47, fun _ h => absurd h List.not_mem_nil⟩⟩⟩⟩⟩⟩⟩⟩⟩⟩⟩⟩⟩⟩⟩⟩
theorem lw_p48 : lw_okq (⟨"SpongeDigestsModel", "give", "([BII)V"⟩, 24) := ⟨⟨by decide +kernel, by decide +kernel⟩, List.mem_of_getElem? (i := 737) (by decide +kernel), List.mem_of_getElem? (i := 949) (by decide +kernel), List.mem_of_getElem? (i := 950) (by decide +kernel)⟩
theorem lw_p49 : lw_okq (⟨"SpongeDigestsModel", "squeeze", "()I"⟩, 24) := ⟨⟨by decide +kernel, by decide +kernel⟩, List.mem_of_getElem? (i := 737) (by decide +kernel), List.mem_of_getElem? (i := 953) (by decide +kernel), List.mem_of_getElem? (i := 954) (by decide +kernel)⟩
theorem lw_p50 : lw_okq (⟨"SpongeDigestsModel", "startMac", "(I[BII)V"⟩, 24) := ⟨⟨by decide +kernel, by decide +kernel⟩, List.mem_of_getElem? (i := 737) (by decide +kernel), List.mem_of_getElem? (i := 957) (by decide +kernel), List.mem_of_getElem? (i := 958) (by decide +kernel)⟩
theorem lw_p51 : lw_okq (⟨"SpongeDigestsModel", "endMac", "(I[BII)V"⟩, 24) := ⟨⟨by decide +kernel, by decide +kernel⟩, List.mem_of_getElem? (i := 737) (by decide +kernel), List.mem_of_getElem? (i := 964) (by decide +kernel), List.mem_of_getElem? (i := 965) (by decide +kernel)⟩
theorem lw_p52 : lw_okq (⟨"SpongeDigestsModel", "mask", "(I[BI[BII)V"⟩, 24) := ⟨⟨by decide +kernel, by decide +kernel⟩, List.mem_of_getElem? (i := 737) (by decide +kernel), List.mem_of_getElem? (i := 968) (by decide +kernel), List.mem_of_getElem? (i := 969) (by decide +kernel)⟩
def lw_privs_4 : List (MethodName × Nat) := [(⟨"SpongeDigestsModel", "give", "([BII)V"⟩, 24), (⟨"SpongeDigestsModel", "squeeze", "()I"⟩, 24), (⟨"SpongeDigestsModel", "startMac", "(I[BII)V"⟩, 24), (⟨"SpongeDigestsModel", "endMac", "(I[BII)V"⟩, 24), (⟨"SpongeDigestsModel", "mask", "(I[BI[BII)V"⟩, 24)]
theorem lw_r4 : ∀ q ∈ lw_privs_4, lw_okq q := List.forall_mem_cons.mpr ⟨lw_p48, List.forall_mem_cons.mpr ⟨lw_p49, List.forall_mem_cons.mpr ⟨lw_p50, List.forall_mem_cons.mpr ⟨lw_p51, List.forall_mem_cons.mpr ⟨lw_p52, fun _ h => absurd h List.not_mem_nil⟩⟩⟩⟩⟩
def lw_privs : List (MethodName × Nat) := lw_privs_1 ++ (lw_privs_2 ++ (lw_privs_3 ++ (lw_privs_4)))
def lw_tbl : List Cond := k2_sels lw_privs ++ tables_1
theorem lw_privs_ok : ∀ q ∈ lw_privs, lw_okq q := by
  show ∀ q ∈ lw_privs_1 ++ (lw_privs_2 ++ (lw_privs_3 ++ (lw_privs_4))), lw_okq q
  exact List.forall_mem_append.mpr ⟨lw_r1, List.forall_mem_append.mpr ⟨lw_r2, List.forall_mem_append.mpr ⟨lw_r3, lw_r4⟩⟩⟩
end
section
def R_H : String := "SpongeDigests$BlockHash"
def T_H : u_T := fun k => match k with
  | 0 => ("SpongeDigests$BlockHash", "wordBytes", "I", true)
  | 1 => ("SpongeDigests$BlockHash", "wordBits", "I", true)
  | 2 => ("SpongeDigests$BlockHash", "rounds", "I", true)
  | 3 => ("SpongeDigests$BlockHash", "distances", "[I", true)
  | 4 => ("SpongeDigests$BlockHash", "mask", "J", true)
  | 5 => ("SpongeDigests$BlockHash", "blockBytes", "I", true)
  | 6 => ("SpongeDigests$BlockHash", "resultBytes", "I", true)
  | 7 => ("SpongeDigests$BlockHash", "block", "[B", true)
  | 8 => ("SpongeDigests$BlockHash", "state", "[J", true)
  | 9 => ("SpongeDigests$BlockHash", "schedule", "[J", true)
  | 10 => ("SpongeDigests$BlockHash", "markedState", "[J", true)
  | 11 => ("SpongeDigests$BlockHash", "filled", "I", false)
  | 12 => ("SpongeDigests$BlockHash", "total", "J", false)
  | _ => ("SpongeDigests$BlockHash", "markedTotal", "J", false)
def ty_H : Nat → FieldType := fun k => match k with
  | 0 => .int
  | 1 => .int
  | 2 => .int
  | 3 => .array .int
  | 4 => .long
  | 5 => .int
  | 6 => .int
  | 7 => .array .byte
  | 8 => .array .long
  | 9 => .array .long
  | 10 => .array .long
  | 11 => .int
  | 12 => .long
  | _ => .long
theorem nm_H : ∀ a, a < 14 → ∀ b, b < 14 → a ≠ b → (T_H a).2.1 ≠ (T_H b).2.1 := by decide +kernel
theorem ok_H : ∀ k, k < 14 → parseFieldDescriptor (T_H k).2.2.1 = some (ty_H k) := by decide +kernel
def R_Y : String := "SpongeDigests$Bytes"
def T_Y : u_T := fun k => match k with
  | 0 => ("SpongeDigests$Bytes", "data", "[B", true)
  | _ => ("SpongeDigests$Bytes", "size", "I", false)
def ty_Y : Nat → FieldType := fun k => match k with
  | 0 => .array .byte
  | _ => .int
theorem nm_Y : ∀ a, a < 2 → ∀ b, b < 2 → a ≠ b → (T_Y a).2.1 ≠ (T_Y b).2.1 := by decide +kernel
theorem ok_Y : ∀ k, k < 2 → parseFieldDescriptor (T_Y k).2.2.1 = some (ty_Y k) := by decide +kernel
def R_P : String := "SpongeDigests$Sponge"
def T_P : u_T := fun k => match k with
  | 0 => ("SpongeDigests$Sponge", "lanes", "[J", true)
  | 1 => ("SpongeDigests$Sponge", "moved", "[J", true)
  | _ => ("SpongeDigests$Sponge", "columns", "[J", true)
def ty_P : Nat → FieldType := fun k => match k with
  | 0 => .array .long
  | 1 => .array .long
  | _ => .array .long
theorem nm_P : ∀ a, a < 3 → ∀ b, b < 3 → a ≠ b → (T_P a).2.1 ≠ (T_P b).2.1 := by decide +kernel
theorem ok_P : ∀ k, k < 3 → parseFieldDescriptor (T_P k).2.2.1 = some (ty_P k) := by decide +kernel
def R_D : String := "SpongeDigests"
def T_D : u_T := fun k => match k with
  | 0 => ("SpongeDigests", "slots", "[LSpongeDigests$Bytes;", true)
  | 1 => ("SpongeDigests", "tape", "LSpongeDigests$Bytes;", true)
  | 2 => ("SpongeDigests", "sponge", "LSpongeDigests$Sponge;", true)
  | 3 => ("SpongeDigests", "hash256", "LSpongeDigests$BlockHash;", true)
  | 4 => ("SpongeDigests", "hash512", "LSpongeDigests$BlockHash;", true)
  | 5 => ("SpongeDigests", "key", "[B", true)
  | 6 => ("SpongeDigests", "padded", "[B", true)
  | 7 => ("SpongeDigests", "inner", "[B", true)
  | _ => ("SpongeDigests", "counter", "[B", true)
def ty_D : Nat → FieldType := fun k => match k with
  | 0 => .array (.object "SpongeDigests$Bytes")
  | 1 => .object "SpongeDigests$Bytes"
  | 2 => .object "SpongeDigests$Sponge"
  | 3 => .object "SpongeDigests$BlockHash"
  | 4 => .object "SpongeDigests$BlockHash"
  | 5 => .array .byte
  | 6 => .array .byte
  | 7 => .array .byte
  | _ => .array .byte
theorem nm_D : ∀ a, a < 9 → ∀ b, b < 9 → a ≠ b → (T_D a).2.1 ≠ (T_D b).2.1 := by decide +kernel
theorem ok_D : ∀ k, k < 9 → parseFieldDescriptor (T_D k).2.2.1 = some (ty_D k) := by decide +kernel
def R_O : String := "SpongeDigestsModel"
def T_O : u_T := fun k => match k with
  | 0 => ("SpongeDigestsModel", "tape", "[B", true)
  | 1 => ("SpongeDigestsModel", "slot", "[[B", true)
  | 2 => ("SpongeDigestsModel", "length", "[I", true)
  | 3 => ("SpongeDigestsModel", "taped", "I", false)
  | 4 => ("SpongeDigestsModel", "code", "I", false)
  | 5 => ("SpongeDigestsModel", "roots", "[J", true)
  | 6 => ("SpongeDigestsModel", "cubes", "[J", true)
  | 7 => ("SpongeDigestsModel", "start224", "[J", true)
  | 8 => ("SpongeDigestsModel", "start256", "[J", true)
  | 9 => ("SpongeDigestsModel", "limbs", "[J", true)
  | 10 => ("SpongeDigestsModel", "product", "[J", true)
  | 11 => ("SpongeDigestsModel", "turns", "[I", true)
  | 12 => ("SpongeDigestsModel", "round", "[J", true)
  | 13 => ("SpongeDigestsModel", "state", "[J", true)
  | 14 => ("SpongeDigestsModel", "other", "[J", true)
  | 15 => ("SpongeDigestsModel", "column", "[J", true)
  | 16 => ("SpongeDigestsModel", "words", "[J", true)
  | 17 => ("SpongeDigestsModel", "block", "[B", true)
  | 18 => ("SpongeDigestsModel", "kind", "I", false)
  | 19 => ("SpongeDigestsModel", "rate", "I", false)
  | 20 => ("SpongeDigestsModel", "filled", "I", false)
  | 21 => ("SpongeDigestsModel", "total", "J", false)
  | 22 => ("SpongeDigestsModel", "hashKey", "[B", true)
  | _ => ("SpongeDigestsModel", "inner", "[B", true)
def ty_O : Nat → FieldType := fun k => match k with
  | 0 => .array .byte
  | 1 => .array (.array .byte)
  | 2 => .array .int
  | 3 => .int
  | 4 => .int
  | 5 => .array .long
  | 6 => .array .long
  | 7 => .array .long
  | 8 => .array .long
  | 9 => .array .long
  | 10 => .array .long
  | 11 => .array .int
  | 12 => .array .long
  | 13 => .array .long
  | 14 => .array .long
  | 15 => .array .long
  | 16 => .array .long
  | 17 => .array .byte
  | 18 => .int
  | 19 => .int
  | 20 => .int
  | 21 => .long
  | 22 => .array .byte
  | _ => .array .byte
theorem nm_O : ∀ a, a < 24 → ∀ b, b < 24 → a ≠ b → (T_O a).2.1 ≠ (T_O b).2.1 := by decide +kernel
theorem ok_O : ∀ k, k < 24 → parseFieldDescriptor (T_O k).2.2.1 = some (ty_O k) := by decide +kernel
def R_L : String := "SpongeDigestsLaw"
abbrev classes : List vw_C := [(R_H, T_H, 14), (R_Y, T_Y, 2), (R_P, T_P, 3), (R_D, T_D, 9), (R_O, T_O, 24)]
def W0 : List Cond := lw_tbl.filter goodWord
theorem W0_i {i : Nat} {w : Cond} (h : tables_1[i]? = some w) (hg : goodWord w = true) : w ∈ W0 := List.mem_filter.mpr ⟨List.mem_append_right _ (List.mem_of_getElem? h), hg⟩
theorem W0_p {i : Nat} {w : Cond} (h : (k2_sels lw_privs)[i]? = some w) (hg : goodWord w = true) : w ∈ W0 := List.mem_filter.mpr ⟨List.mem_append_left _ (List.mem_of_getElem? h), hg⟩
theorem W0_c {c : List Cond} (hs : ∀ w ∈ c, w ∈ tables_1) {i : Nat} {w : Cond} (h : c[i]? = some w) (hg : goodWord w = true) : w ∈ W0 := List.mem_filter.mpr ⟨List.mem_append_right _ (hs w (List.mem_of_getElem? h)), hg⟩
theorem tk_1 : ∀ w ∈ tables_1_1, w ∈ tables_1 := fun w h => List.mem_append_left _ h
theorem tk_2 : ∀ w ∈ tables_1_2, w ∈ tables_1 := fun w h => List.mem_append_right _ (List.mem_append_left _ h)
theorem tk_3 : ∀ w ∈ tables_1_3, w ∈ tables_1 := fun w h => List.mem_append_right _ (List.mem_append_right _ (List.mem_append_left _ h))
theorem tk_4 : ∀ w ∈ tables_1_4, w ∈ tables_1 := fun w h => List.mem_append_right _ (List.mem_append_right _ (List.mem_append_right _ (List.mem_append_left _ h)))
theorem tk_5 : ∀ w ∈ tables_1_5, w ∈ tables_1 := fun w h => List.mem_append_right _ (List.mem_append_right _ (List.mem_append_right _ (List.mem_append_right _ (h))))
theorem in_H : ∀ w ∈ u_ws R_H T_H 14, w ∈ W0 := by decide +kernel
theorem in_Y : ∀ w ∈ u_ws R_Y T_Y 2, w ∈ W0 := by decide +kernel
theorem in_P : ∀ w ∈ u_ws R_P T_P 3, w ∈ W0 := by decide +kernel
theorem in_D : ∀ w ∈ u_ws R_D T_D 9, w ∈ W0 := by decide +kernel
theorem in_O : ∀ w ∈ u_ws R_O T_O 24, w ∈ W0 := by decide +kernel
def nestWords : List Cond := [(Jvm.Cond.methodLinkNest "SpongeDigests" (15 : Nat) ({ cls := "SpongeDigests$Bytes", name := "<init>", desc := "()V" } : Jvm.MethodName) "SpongeDigests"), (Jvm.Cond.fieldLinkNest "SpongeDigests" (100 : Nat) "SpongeDigests$Bytes" "data" "[B" "SpongeDigests"), (Jvm.Cond.fieldLinkNest "SpongeDigests" (66 : Nat) "SpongeDigests$Bytes" "size" "I" "SpongeDigests"), (Jvm.Cond.methodLinkNest "SpongeDigests" (22 : Nat) ({ cls := "SpongeDigests$Sponge", name := "<init>", desc := "()V" } : Jvm.MethodName) "SpongeDigests"), (Jvm.Cond.methodLinkNest "SpongeDigests" (33 : Nat) ({ cls := "SpongeDigests$BlockHash", name := "<init>", desc := "(II[I)V" } : Jvm.MethodName) "SpongeDigests"), (Jvm.Cond.fieldLinkNest "SpongeDigests" (46 : Nat) "SpongeDigests$BlockHash" "blockBytes" "I" "SpongeDigests"), (Jvm.Cond.fieldLinkNest "SpongeDigests" (57 : Nat) "SpongeDigests$BlockHash" "resultBytes" "I" "SpongeDigests"), (Jvm.Cond.methodLinkNest "SpongeDigests" (76 : Nat) ({ cls := "SpongeDigests$Bytes", name := "append", desc := "(I)V" } : Jvm.MethodName) "SpongeDigests"), (Jvm.Cond.methodLinkNest "SpongeDigests" (90 : Nat) ({ cls := "SpongeDigests$Bytes", name := "take", desc := "(LSpongeDigests$Bytes;I)V" } : Jvm.MethodName) "SpongeDigests"), (Jvm.Cond.methodLinkNest "SpongeDigests" (94 : Nat) ({ cls := "SpongeDigests$Bytes", name := "cutOrFill", desc := "(I)V" } : Jvm.MethodName) "SpongeDigests"), (Jvm.Cond.methodLinkNest "SpongeDigests" (103 : Nat) ({ cls := "SpongeDigests$Bytes", name := "eightFrom", desc := "(I)J" } : Jvm.MethodName) "SpongeDigests"), (Jvm.Cond.methodLinkNest "SpongeDigests" (107 : Nat) ({ cls := "SpongeDigests$Bytes", name := "matches", desc := "(LSpongeDigests$Bytes;)Z" } : Jvm.MethodName) "SpongeDigests"), (Jvm.Cond.methodLinkNest "SpongeDigests" (151 : Nat) ({ cls := "SpongeDigests$BlockHash", name := "begin", desc := "([J)V" } : Jvm.MethodName) "SpongeDigests"), (Jvm.Cond.methodLinkNest "SpongeDigests" (155 : Nat) ({ cls := "SpongeDigests$BlockHash", name := "absorb", desc := "([BII)V" } : Jvm.MethodName) "SpongeDigests"), (Jvm.Cond.fieldLinkNest "SpongeDigests$BlockHash" (84 : Nat) "SpongeDigests" "CUBE_ROOTS" "[J" "SpongeDigests"), (Jvm.Cond.methodLinkNest "SpongeDigests" (159 : Nat) ({ cls := "SpongeDigests$BlockHash", name := "finish", desc := "([BII)V" } : Jvm.MethodName) "SpongeDigests"), (Jvm.Cond.methodLinkNest "SpongeDigests" (162 : Nat) ({ cls := "SpongeDigests$Sponge", name := "absorb", desc := "(II[BI)V" } : Jvm.MethodName) "SpongeDigests"), (Jvm.Cond.fieldLinkNest "SpongeDigests$Sponge" (50 : Nat) "SpongeDigests" "LANE_TARGETS" "[I" "SpongeDigests"), (Jvm.Cond.fieldLinkNest "SpongeDigests$Sponge" (54 : Nat) "SpongeDigests" "LANE_TURNS" "[I" "SpongeDigests"), (Jvm.Cond.fieldLinkNest "SpongeDigests$Sponge" (43 : Nat) "SpongeDigests" "ROUND_CONSTANTS" "[J" "SpongeDigests"), (Jvm.Cond.methodLinkNest "SpongeDigests" (165 : Nat) ({ cls := "SpongeDigests$Sponge", name := "squeeze", desc := "(I[BI)V" } : Jvm.MethodName) "SpongeDigests"), (Jvm.Cond.methodLinkNest "SpongeDigests" (187 : Nat) ({ cls := "SpongeDigests$BlockHash", name := "setMark", desc := "()V" } : Jvm.MethodName) "SpongeDigests"), (Jvm.Cond.methodLinkNest "SpongeDigests" (199 : Nat) ({ cls := "SpongeDigests$BlockHash", name := "goToMark", desc := "()V" } : Jvm.MethodName) "SpongeDigests")]
theorem wd_0 : (Jvm.Cond.initialized "SpongeDigestsLaw") ∈ W0 := W0_c tk_1 (i := 0) rfl rfl
theorem wd_1 : (Jvm.Cond.initialized "SpongeDigests") ∈ W0 := W0_c tk_1 (i := 1) rfl rfl
theorem wd_2 : (Jvm.Cond.initialized "SpongeDigests$Bytes") ∈ W0 := W0_c tk_1 (i := 2) rfl rfl
theorem wd_3 : (Jvm.Cond.initialized "SpongeDigests$Sponge") ∈ W0 := W0_c tk_1 (i := 3) rfl rfl
theorem wd_4 : (Jvm.Cond.initialized "SpongeDigests$BlockHash") ∈ W0 := W0_c tk_1 (i := 4) rfl rfl
theorem wd_5 : (Jvm.Cond.initialized "SpongeDigestsModel") ∈ W0 := W0_c tk_1 (i := 5) rfl rfl
theorem wd_9 : (Jvm.Cond.initialized "java/lang/IndexOutOfBoundsException") ∈ W0 := W0_c tk_1 (i := 9) rfl rfl
theorem wd_10 : (Jvm.Cond.initialized "java/lang/IllegalArgumentException") ∈ W0 := W0_c tk_1 (i := 10) rfl rfl
theorem wd_11 : (Jvm.Cond.initialized "java/lang/System") ∈ W0 := W0_c tk_1 (i := 11) rfl rfl
theorem wd_12 : (Jvm.Cond.initialized "java/util/Arrays") ∈ W0 := W0_c tk_1 (i := 12) rfl rfl
theorem wd_18 : (Jvm.Cond.initialized "java/lang/Math") ∈ W0 := W0_c tk_1 (i := 18) rfl rfl
theorem wd_23 : (Jvm.Cond.classLink "SpongeDigestsLaw" (8 : Nat) "SpongeDigests") ∈ W0 := W0_c tk_1 (i := 23) rfl rfl
theorem wd_24 : (Jvm.Cond.instantiable "SpongeDigests" (9 : Nat)) ∈ W0 := W0_c tk_1 (i := 24) rfl rfl
theorem wd_25 : (Jvm.Cond.methodLink "SpongeDigestsLaw" (46 : Nat) ({ cls := "SpongeDigests", name := "<init>", desc := "()V" } : Jvm.MethodName)) ∈ W0 := W0_c tk_1 (i := 25) rfl rfl
theorem wd_26 : (Jvm.Cond.instanceMethod ({ cls := "SpongeDigests", name := "<init>", desc := "()V" } : Jvm.MethodName)) ∈ W0 := W0_c tk_1 (i := 26) rfl rfl
theorem wd_27 : (Jvm.Cond.code ({ cls := "SpongeDigests", name := "<init>", desc := "()V" } : Jvm.MethodName) prog_1_method_1_code (2 : Nat) (Option.none : Option Jvm.ClassFile.FieldType)) ∈ W0 := W0_c tk_1 (i := 27) rfl rfl
theorem wd_28 : (Jvm.Cond.methodLink "SpongeDigests" (3 : Nat) ({ cls := "java/lang/Object", name := "<init>", desc := "()V" } : Jvm.MethodName)) ∈ W0 := W0_c tk_1 (i := 28) rfl rfl
theorem wd_29 : (Jvm.Cond.instanceMethod ({ cls := "java/lang/Object", name := "<init>", desc := "()V" } : Jvm.MethodName)) ∈ W0 := W0_c tk_1 (i := 29) rfl rfl
theorem wd_30 : (Jvm.Cond.code ({ cls := "java/lang/Object", name := "<init>", desc := "()V" } : Jvm.MethodName) object_method_1_code (1 : Nat) (Option.none : Option Jvm.ClassFile.FieldType)) ∈ W0 := W0_c tk_1 (i := 30) rfl rfl
theorem wd_31 : (Jvm.Cond.classLink "SpongeDigests" (9 : Nat) "SpongeDigests$Bytes") ∈ W0 := W0_c tk_1 (i := 31) rfl rfl
theorem wd_33 : (Jvm.Cond.instantiable "SpongeDigests$Bytes" (2 : Nat)) ∈ W0 := W0_c tk_1 (i := 33) rfl rfl
theorem wd_35 : (Jvm.Cond.instanceMethod ({ cls := "SpongeDigests$Bytes", name := "<init>", desc := "()V" } : Jvm.MethodName)) ∈ W0 := W0_c tk_1 (i := 35) rfl rfl
theorem wd_36 : (Jvm.Cond.code ({ cls := "SpongeDigests$Bytes", name := "<init>", desc := "()V" } : Jvm.MethodName) prog_3_method_1_code (1 : Nat) (Option.none : Option Jvm.ClassFile.FieldType)) ∈ W0 := W0_c tk_1 (i := 36) rfl rfl
theorem wd_37 : (Jvm.Cond.methodLink "SpongeDigests$Bytes" (3 : Nat) ({ cls := "java/lang/Object", name := "<init>", desc := "()V" } : Jvm.MethodName)) ∈ W0 := W0_c tk_1 (i := 37) rfl rfl
theorem wd_38 : (Jvm.Cond.fieldLink "SpongeDigests$Bytes" (9 : Nat) "SpongeDigests$Bytes" "data" "[B") ∈ W0 := W0_c tk_1 (i := 38) rfl rfl
theorem wd_41 : (Jvm.Cond.fieldLink "SpongeDigests$Bytes" (15 : Nat) "SpongeDigests$Bytes" "size" "I") ∈ W0 := W0_c tk_1 (i := 41) rfl rfl
theorem wd_47 : (Jvm.Cond.arrayClass Jvm.ClassFile.FieldType.byte) ∈ W0 := W0_c tk_1 (i := 47) rfl rfl
theorem wd_48 : (Jvm.Cond.classLink "SpongeDigests" (20 : Nat) "SpongeDigests$Sponge") ∈ W0 := W0_c tk_1 (i := 48) rfl rfl
theorem wd_49 : (Jvm.Cond.instantiable "SpongeDigests$Sponge" (3 : Nat)) ∈ W0 := W0_c tk_1 (i := 49) rfl rfl
theorem wd_51 : (Jvm.Cond.instanceMethod ({ cls := "SpongeDigests$Sponge", name := "<init>", desc := "()V" } : Jvm.MethodName)) ∈ W0 := W0_c tk_1 (i := 51) rfl rfl
theorem wd_52 : (Jvm.Cond.code ({ cls := "SpongeDigests$Sponge", name := "<init>", desc := "()V" } : Jvm.MethodName) prog_4_method_1_code (1 : Nat) (Option.none : Option Jvm.ClassFile.FieldType)) ∈ W0 := W0_c tk_1 (i := 52) rfl rfl
theorem wd_53 : (Jvm.Cond.methodLink "SpongeDigests$Sponge" (3 : Nat) ({ cls := "java/lang/Object", name := "<init>", desc := "()V" } : Jvm.MethodName)) ∈ W0 := W0_c tk_1 (i := 53) rfl rfl
theorem wd_54 : (Jvm.Cond.fieldLink "SpongeDigests$Sponge" (9 : Nat) "SpongeDigests$Sponge" "lanes" "[J") ∈ W0 := W0_c tk_1 (i := 54) rfl rfl
theorem wd_55 : (Jvm.Cond.fieldLink "SpongeDigests$Sponge" (15 : Nat) "SpongeDigests$Sponge" "moved" "[J") ∈ W0 := W0_c tk_1 (i := 55) rfl rfl
theorem wd_56 : (Jvm.Cond.fieldLink "SpongeDigests$Sponge" (18 : Nat) "SpongeDigests$Sponge" "columns" "[J") ∈ W0 := W0_c tk_1 (i := 56) rfl rfl
theorem wd_64 : (Jvm.Cond.arrayClass Jvm.ClassFile.FieldType.long) ∈ W0 := W0_c tk_1 (i := 64) rfl rfl
theorem wd_65 : (Jvm.Cond.classLink "SpongeDigests" (27 : Nat) "SpongeDigests$BlockHash") ∈ W0 := W0_c tk_1 (i := 65) rfl rfl
theorem wd_66 : (Jvm.Cond.instantiable "SpongeDigests$BlockHash" (14 : Nat)) ∈ W0 := W0_c tk_1 (i := 66) rfl rfl
theorem wd_67 : (Jvm.Cond.fieldLink "SpongeDigests" (29 : Nat) "SpongeDigests" "DISTANCES_256" "[I") ∈ W0 := W0_c tk_1 (i := 67) rfl rfl
theorem wd_70 : (Jvm.Cond.instanceMethod ({ cls := "SpongeDigests$BlockHash", name := "<init>", desc := "(II[I)V" } : Jvm.MethodName)) ∈ W0 := W0_c tk_1 (i := 70) rfl rfl
theorem wd_71 : (Jvm.Cond.code ({ cls := "SpongeDigests$BlockHash", name := "<init>", desc := "(II[I)V" } : Jvm.MethodName) prog_2_method_1_code (4 : Nat) (Option.none : Option Jvm.ClassFile.FieldType)) ∈ W0 := W0_c tk_1 (i := 71) rfl rfl
theorem wd_72 : (Jvm.Cond.methodLink "SpongeDigests$BlockHash" (3 : Nat) ({ cls := "java/lang/Object", name := "<init>", desc := "()V" } : Jvm.MethodName)) ∈ W0 := W0_c tk_1 (i := 72) rfl rfl
theorem wd_73 : (Jvm.Cond.constantLong "SpongeDigests$BlockHash" (25 : Nat) (-1 : Int64)) ∈ W0 := W0_c tk_1 (i := 73) rfl rfl
theorem wd_74 : (Jvm.Cond.fieldLink "SpongeDigests$BlockHash" (9 : Nat) "SpongeDigests$BlockHash" "wordBytes" "I") ∈ W0 := W0_c tk_1 (i := 74) rfl rfl
theorem wd_75 : (Jvm.Cond.fieldLink "SpongeDigests$BlockHash" (22 : Nat) "SpongeDigests$BlockHash" "wordBits" "I") ∈ W0 := W0_c tk_1 (i := 75) rfl rfl
theorem wd_76 : (Jvm.Cond.fieldLink "SpongeDigests$BlockHash" (15 : Nat) "SpongeDigests$BlockHash" "rounds" "I") ∈ W0 := W0_c tk_1 (i := 76) rfl rfl
theorem wd_77 : (Jvm.Cond.fieldLink "SpongeDigests$BlockHash" (18 : Nat) "SpongeDigests$BlockHash" "distances" "[I") ∈ W0 := W0_c tk_1 (i := 77) rfl rfl
theorem wd_78 : (Jvm.Cond.fieldLink "SpongeDigests$BlockHash" (27 : Nat) "SpongeDigests$BlockHash" "mask" "J") ∈ W0 := W0_c tk_1 (i := 78) rfl rfl
theorem wd_79 : (Jvm.Cond.fieldLink "SpongeDigests$BlockHash" (31 : Nat) "SpongeDigests$BlockHash" "blockBytes" "I") ∈ W0 := W0_c tk_1 (i := 79) rfl rfl
theorem wd_81 : (Jvm.Cond.fieldLink "SpongeDigests$BlockHash" (34 : Nat) "SpongeDigests$BlockHash" "resultBytes" "I") ∈ W0 := W0_c tk_1 (i := 81) rfl rfl
theorem wd_83 : (Jvm.Cond.fieldLink "SpongeDigests$BlockHash" (37 : Nat) "SpongeDigests$BlockHash" "block" "[B") ∈ W0 := W0_c tk_1 (i := 83) rfl rfl
theorem wd_84 : (Jvm.Cond.fieldLink "SpongeDigests$BlockHash" (41 : Nat) "SpongeDigests$BlockHash" "state" "[J") ∈ W0 := W0_c tk_1 (i := 84) rfl rfl
theorem wd_85 : (Jvm.Cond.fieldLink "SpongeDigests$BlockHash" (45 : Nat) "SpongeDigests$BlockHash" "schedule" "[J") ∈ W0 := W0_c tk_1 (i := 85) rfl rfl
theorem wd_86 : (Jvm.Cond.fieldLink "SpongeDigests$BlockHash" (48 : Nat) "SpongeDigests$BlockHash" "markedState" "[J") ∈ W0 := W0_c tk_1 (i := 86) rfl rfl
theorem wd_87 : (Jvm.Cond.fieldLink "SpongeDigests$BlockHash" (57 : Nat) "SpongeDigests$BlockHash" "filled" "I") ∈ W0 := W0_c tk_1 (i := 87) rfl rfl
theorem wd_88 : (Jvm.Cond.fieldLink "SpongeDigests$BlockHash" (60 : Nat) "SpongeDigests$BlockHash" "total" "J") ∈ W0 := W0_c tk_1 (i := 88) rfl rfl
theorem wd_89 : (Jvm.Cond.fieldLink "SpongeDigests$BlockHash" (66 : Nat) "SpongeDigests$BlockHash" "markedTotal" "J") ∈ W0 := W0_c tk_1 (i := 89) rfl rfl
theorem wd_119 : (Jvm.Cond.fieldLink "SpongeDigests" (40 : Nat) "SpongeDigests" "DISTANCES_512" "[I") ∈ W0 := W0_c tk_1 (i := 119) rfl rfl
theorem wd_121 : (Jvm.Cond.fieldLink "SpongeDigests" (11 : Nat) "SpongeDigests" "slots" "[LSpongeDigests$Bytes;") ∈ W0 := W0_c tk_1 (i := 121) rfl rfl
theorem wd_122 : (Jvm.Cond.fieldLink "SpongeDigests" (16 : Nat) "SpongeDigests" "tape" "LSpongeDigests$Bytes;") ∈ W0 := W0_c tk_1 (i := 122) rfl rfl
theorem wd_123 : (Jvm.Cond.fieldLink "SpongeDigests" (23 : Nat) "SpongeDigests" "sponge" "LSpongeDigests$Sponge;") ∈ W0 := W0_c tk_1 (i := 123) rfl rfl
theorem wd_124 : (Jvm.Cond.fieldLink "SpongeDigests" (36 : Nat) "SpongeDigests" "hash256" "LSpongeDigests$BlockHash;") ∈ W0 := W0_c tk_1 (i := 124) rfl rfl
theorem wd_125 : (Jvm.Cond.fieldLink "SpongeDigests" (43 : Nat) "SpongeDigests" "hash512" "LSpongeDigests$BlockHash;") ∈ W0 := W0_c tk_1 (i := 125) rfl rfl
theorem wd_126 : (Jvm.Cond.fieldLink "SpongeDigests" (50 : Nat) "SpongeDigests" "key" "[B") ∈ W0 := W0_c tk_1 (i := 126) rfl rfl
theorem wd_127 : (Jvm.Cond.fieldLink "SpongeDigests" (54 : Nat) "SpongeDigests" "padded" "[B") ∈ W0 := W0_c tk_1 (i := 127) rfl rfl
theorem wd_128 : (Jvm.Cond.fieldLink "SpongeDigests" (60 : Nat) "SpongeDigests" "inner" "[B") ∈ W0 := W0_c tk_1 (i := 128) rfl rfl
theorem wd_129 : (Jvm.Cond.fieldLink "SpongeDigests" (63 : Nat) "SpongeDigests" "counter" "[B") ∈ W0 := W0_c tk_1 (i := 129) rfl rfl
theorem wd_149 : (Jvm.Cond.methodLink "SpongeDigestsLaw" (50 : Nat) ({ cls := "SpongeDigestsLaw", name := "feed", desc := "(LSpongeDigests;IIIII[J)I" } : Jvm.MethodName)) ∈ W0 := W0_c tk_1 (i := 149) rfl rfl
theorem wd_150 : (Jvm.Cond.static ({ cls := "SpongeDigestsLaw", name := "feed", desc := "(LSpongeDigests;IIIII[J)I" } : Jvm.MethodName)) ∈ W0 := W0_c tk_1 (i := 150) rfl rfl
theorem wd_151 : (Jvm.Cond.codeWith ({ cls := "SpongeDigestsLaw", name := "feed", desc := "(LSpongeDigests;IIIII[J)I" } : Jvm.MethodName) method_3_code (8 : Nat) (Option.some Jvm.ClassFile.FieldType.int) [((0 : Nat), (16 : Nat), (19 : Nat), (13 : Nat))]) ∈ W0 := W0_c tk_1 (i := 151) rfl rfl
theorem wd_152 : (Jvm.Cond.classLink "SpongeDigestsLaw" (13 : Nat) "java/lang/IndexOutOfBoundsException") ∈ W0 := W0_c tk_1 (i := 152) rfl rfl
theorem wd_153 : (Jvm.Cond.methodLink "SpongeDigestsLaw" (7 : Nat) ({ cls := "SpongeDigests", name := "feed", desc := "(IIIII)I" } : Jvm.MethodName)) ∈ W0 := W0_c tk_1 (i := 153) rfl rfl
theorem wd_154 : (Jvm.Cond.instanceMethod ({ cls := "SpongeDigests", name := "feed", desc := "(IIIII)I" } : Jvm.MethodName)) ∈ W0 := W0_c tk_1 (i := 154) rfl rfl
theorem wd_155 : (Jvm.Cond.selects "SpongeDigests" ({ cls := "SpongeDigests", name := "feed", desc := "(IIIII)I" } : Jvm.MethodName) ({ cls := "SpongeDigests", name := "feed", desc := "(IIIII)I" } : Jvm.MethodName)) ∈ W0 := W0_c tk_1 (i := 155) rfl rfl
theorem wd_156 : (Jvm.Cond.code ({ cls := "SpongeDigests", name := "feed", desc := "(IIIII)I" } : Jvm.MethodName) prog_1_method_2_code (6 : Nat) (Option.some Jvm.ClassFile.FieldType.int)) ∈ W0 := W0_c tk_1 (i := 156) rfl rfl
theorem wd_157 : (Jvm.Cond.classLink "SpongeDigests" (69 : Nat) "java/lang/IndexOutOfBoundsException") ∈ W0 := W0_c tk_1 (i := 157) rfl rfl
theorem wd_199 : (Jvm.Cond.methodLink "SpongeDigests" (73 : Nat) ({ cls := "java/lang/IndexOutOfBoundsException", name := "<init>", desc := "(Ljava/lang/String;)V" } : Jvm.MethodName)) ∈ W0 := W0_c tk_1 (i := 199) rfl rfl
theorem wd_226 : (Jvm.Cond.instanceMethod ({ cls := "SpongeDigests$Bytes", name := "append", desc := "(I)V" } : Jvm.MethodName)) ∈ W0 := W0_c tk_1 (i := 226) rfl rfl
theorem wd_227 : (Jvm.Cond.code ({ cls := "SpongeDigests$Bytes", name := "append", desc := "(I)V" } : Jvm.MethodName) prog_3_method_2_code (3 : Nat) (Option.none : Option Jvm.ClassFile.FieldType)) ∈ W0 := W0_c tk_1 (i := 227) rfl rfl
theorem wd_228 : (Jvm.Cond.methodLink "SpongeDigestsLaw" (60 : Nat) ({ cls := "SpongeDigestsLaw", name := "end", desc := "(LSpongeDigests;II[J)I" } : Jvm.MethodName)) ∈ W0 := W0_c tk_1 (i := 228) rfl rfl
theorem wd_229 : (Jvm.Cond.static ({ cls := "SpongeDigestsLaw", name := "end", desc := "(LSpongeDigests;II[J)I" } : Jvm.MethodName)) ∈ W0 := W0_c tk_1 (i := 229) rfl rfl
theorem wd_230 : (Jvm.Cond.codeWith ({ cls := "SpongeDigestsLaw", name := "end", desc := "(LSpongeDigests;II[J)I" } : Jvm.MethodName) method_4_code (5 : Nat) (Option.some Jvm.ClassFile.FieldType.int) [((0 : Nat), (10 : Nat), (13 : Nat), (19 : Nat)), ((0 : Nat), (10 : Nat), (17 : Nat), (13 : Nat))]) ∈ W0 := W0_c tk_1 (i := 230) rfl rfl
theorem wd_231 : (Jvm.Cond.classLink "SpongeDigestsLaw" (19 : Nat) "java/lang/IllegalArgumentException") ∈ W0 := W0_c tk_1 (i := 231) rfl rfl
theorem wd_232 : (Jvm.Cond.methodLink "SpongeDigestsLaw" (15 : Nat) ({ cls := "SpongeDigests", name := "end", desc := "(II)I" } : Jvm.MethodName)) ∈ W0 := W0_c tk_1 (i := 232) rfl rfl
theorem wd_233 : (Jvm.Cond.instanceMethod ({ cls := "SpongeDigests", name := "end", desc := "(II)I" } : Jvm.MethodName)) ∈ W0 := W0_c tk_1 (i := 233) rfl rfl
theorem wd_234 : (Jvm.Cond.selects "SpongeDigests" ({ cls := "SpongeDigests", name := "end", desc := "(II)I" } : Jvm.MethodName) ({ cls := "SpongeDigests", name := "end", desc := "(II)I" } : Jvm.MethodName)) ∈ W0 := W0_c tk_1 (i := 234) rfl rfl
theorem wd_235 : (Jvm.Cond.code ({ cls := "SpongeDigests", name := "end", desc := "(II)I" } : Jvm.MethodName) prog_1_method_3_code (4 : Nat) (Option.some Jvm.ClassFile.FieldType.int)) ∈ W0 := W0_c tk_1 (i := 235) rfl rfl
theorem wd_236 : (Jvm.Cond.methodLink "SpongeDigests" (80 : Nat) ({ cls := "SpongeDigests", name := "slotAt", desc := "(I)LSpongeDigests$Bytes;" } : Jvm.MethodName)) ∈ W0 := W0_c tk_1 (i := 236) rfl rfl
theorem wd_238 : (Jvm.Cond.instanceMethod ({ cls := "SpongeDigests", name := "slotAt", desc := "(I)LSpongeDigests$Bytes;" } : Jvm.MethodName)) ∈ W0 := W0_c tk_1 (i := 238) rfl rfl
theorem wd_239 : (Jvm.Cond.code ({ cls := "SpongeDigests", name := "slotAt", desc := "(I)LSpongeDigests$Bytes;" } : Jvm.MethodName) prog_1_method_11_code (2 : Nat) (Option.some (Jvm.ClassFile.FieldType.object "SpongeDigests$Bytes"))) ∈ W0 := W0_c tk_1 (i := 239) rfl rfl
theorem wd_240 : (Jvm.Cond.methodLink "SpongeDigests" (84 : Nat) ({ cls := "SpongeDigests", name := "requireWithin", desc := "(III)V" } : Jvm.MethodName)) ∈ W0 := W0_c tk_2 (i := 0) rfl rfl
theorem wd_241 : (Jvm.Cond.static ({ cls := "SpongeDigests", name := "requireWithin", desc := "(III)V" } : Jvm.MethodName)) ∈ W0 := W0_c tk_2 (i := 1) rfl rfl
theorem wd_242 : (Jvm.Cond.code ({ cls := "SpongeDigests", name := "requireWithin", desc := "(III)V" } : Jvm.MethodName) prog_1_method_12_code (3 : Nat) (Option.none : Option Jvm.ClassFile.FieldType)) ∈ W0 := W0_c tk_2 (i := 2) rfl rfl
theorem wd_243 : (Jvm.Cond.classLink "SpongeDigests" (144 : Nat) "java/lang/IllegalArgumentException") ∈ W0 := W0_c tk_2 (i := 3) rfl rfl
theorem wd_253 : (Jvm.Cond.methodLink "SpongeDigests" (148 : Nat) ({ cls := "java/lang/IllegalArgumentException", name := "<init>", desc := "(Ljava/lang/String;)V" } : Jvm.MethodName)) ∈ W0 := W0_c tk_2 (i := 13) rfl rfl
theorem wd_262 : (Jvm.Cond.instanceMethod ({ cls := "SpongeDigests$Bytes", name := "take", desc := "(LSpongeDigests$Bytes;I)V" } : Jvm.MethodName)) ∈ W0 := W0_c tk_2 (i := 22) rfl rfl
theorem wd_263 : (Jvm.Cond.code ({ cls := "SpongeDigests$Bytes", name := "take", desc := "(LSpongeDigests$Bytes;I)V" } : Jvm.MethodName) prog_3_method_3_code (3 : Nat) (Option.none : Option Jvm.ClassFile.FieldType)) ∈ W0 := W0_c tk_2 (i := 23) rfl rfl
theorem wd_264 : (Jvm.Cond.methodLink "SpongeDigests$Bytes" (19 : Nat) ({ cls := "java/lang/System", name := "arraycopy", desc := "(Ljava/lang/Object;ILjava/lang/Object;II)V" } : Jvm.MethodName)) ∈ W0 := W0_c tk_2 (i := 24) rfl rfl
theorem wd_265 : (Jvm.Cond.static ({ cls := "java/lang/System", name := "arraycopy", desc := "(Ljava/lang/Object;ILjava/lang/Object;II)V" } : Jvm.MethodName)) ∈ W0 := W0_c tk_2 (i := 25) rfl rfl
theorem wd_266 : (Jvm.Cond.native ({ cls := "java/lang/System", name := "arraycopy", desc := "(Ljava/lang/Object;ILjava/lang/Object;II)V" } : Jvm.MethodName)) ∈ W0 := W0_c tk_2 (i := 26) rfl rfl
theorem wd_267 : (Jvm.Cond.methodLink "SpongeDigestsLaw" (64 : Nat) ({ cls := "SpongeDigestsLaw", name := "copy", desc := "(LSpongeDigests;II[J)I" } : Jvm.MethodName)) ∈ W0 := W0_c tk_2 (i := 27) rfl rfl
theorem wd_268 : (Jvm.Cond.static ({ cls := "SpongeDigestsLaw", name := "copy", desc := "(LSpongeDigests;II[J)I" } : Jvm.MethodName)) ∈ W0 := W0_c tk_2 (i := 28) rfl rfl
theorem wd_269 : (Jvm.Cond.codeWith ({ cls := "SpongeDigestsLaw", name := "copy", desc := "(LSpongeDigests;II[J)I" } : Jvm.MethodName) method_5_code (5 : Nat) (Option.some Jvm.ClassFile.FieldType.int) [((0 : Nat), (10 : Nat), (13 : Nat), (19 : Nat))]) ∈ W0 := W0_c tk_2 (i := 29) rfl rfl
theorem wd_270 : (Jvm.Cond.methodLink "SpongeDigestsLaw" (21 : Nat) ({ cls := "SpongeDigests", name := "copy", desc := "(II)I" } : Jvm.MethodName)) ∈ W0 := W0_c tk_2 (i := 30) rfl rfl
theorem wd_271 : (Jvm.Cond.instanceMethod ({ cls := "SpongeDigests", name := "copy", desc := "(II)I" } : Jvm.MethodName)) ∈ W0 := W0_c tk_2 (i := 31) rfl rfl
theorem wd_272 : (Jvm.Cond.selects "SpongeDigests" ({ cls := "SpongeDigests", name := "copy", desc := "(II)I" } : Jvm.MethodName) ({ cls := "SpongeDigests", name := "copy", desc := "(II)I" } : Jvm.MethodName)) ∈ W0 := W0_c tk_2 (i := 32) rfl rfl
theorem wd_273 : (Jvm.Cond.code ({ cls := "SpongeDigests", name := "copy", desc := "(II)I" } : Jvm.MethodName) prog_1_method_4_code (5 : Nat) (Option.some Jvm.ClassFile.FieldType.int)) ∈ W0 := W0_c tk_2 (i := 33) rfl rfl
theorem wd_274 : (Jvm.Cond.methodLink "SpongeDigestsLaw" (67 : Nat) ({ cls := "SpongeDigestsLaw", name := "resize", desc := "(LSpongeDigests;II[J)I" } : Jvm.MethodName)) ∈ W0 := W0_c tk_2 (i := 34) rfl rfl
theorem wd_275 : (Jvm.Cond.static ({ cls := "SpongeDigestsLaw", name := "resize", desc := "(LSpongeDigests;II[J)I" } : Jvm.MethodName)) ∈ W0 := W0_c tk_2 (i := 35) rfl rfl
theorem wd_276 : (Jvm.Cond.codeWith ({ cls := "SpongeDigestsLaw", name := "resize", desc := "(LSpongeDigests;II[J)I" } : Jvm.MethodName) method_6_code (5 : Nat) (Option.some Jvm.ClassFile.FieldType.int) [((0 : Nat), (10 : Nat), (13 : Nat), (19 : Nat))]) ∈ W0 := W0_c tk_2 (i := 36) rfl rfl
theorem wd_277 : (Jvm.Cond.methodLink "SpongeDigestsLaw" (24 : Nat) ({ cls := "SpongeDigests", name := "resize", desc := "(II)I" } : Jvm.MethodName)) ∈ W0 := W0_c tk_2 (i := 37) rfl rfl
theorem wd_278 : (Jvm.Cond.instanceMethod ({ cls := "SpongeDigests", name := "resize", desc := "(II)I" } : Jvm.MethodName)) ∈ W0 := W0_c tk_2 (i := 38) rfl rfl
theorem wd_279 : (Jvm.Cond.selects "SpongeDigests" ({ cls := "SpongeDigests", name := "resize", desc := "(II)I" } : Jvm.MethodName) ({ cls := "SpongeDigests", name := "resize", desc := "(II)I" } : Jvm.MethodName)) ∈ W0 := W0_c tk_2 (i := 39) rfl rfl
theorem wd_280 : (Jvm.Cond.code ({ cls := "SpongeDigests", name := "resize", desc := "(II)I" } : Jvm.MethodName) prog_1_method_5_code (5 : Nat) (Option.some Jvm.ClassFile.FieldType.int)) ∈ W0 := W0_c tk_2 (i := 40) rfl rfl
theorem wd_283 : (Jvm.Cond.instanceMethod ({ cls := "SpongeDigests$Bytes", name := "cutOrFill", desc := "(I)V" } : Jvm.MethodName)) ∈ W0 := W0_c tk_2 (i := 43) rfl rfl
theorem wd_284 : (Jvm.Cond.code ({ cls := "SpongeDigests$Bytes", name := "cutOrFill", desc := "(I)V" } : Jvm.MethodName) prog_3_method_4_code (2 : Nat) (Option.none : Option Jvm.ClassFile.FieldType)) ∈ W0 := W0_c tk_2 (i := 44) rfl rfl
theorem wd_285 : (Jvm.Cond.methodLink "SpongeDigests$Bytes" (25 : Nat) ({ cls := "java/util/Arrays", name := "fill", desc := "([BIIB)V" } : Jvm.MethodName)) ∈ W0 := W0_c tk_2 (i := 45) rfl rfl
theorem wd_286 : (Jvm.Cond.static ({ cls := "java/util/Arrays", name := "fill", desc := "([BIIB)V" } : Jvm.MethodName)) ∈ W0 := W0_c tk_2 (i := 46) rfl rfl
theorem wd_287 : (Jvm.Cond.code ({ cls := "java/util/Arrays", name := "fill", desc := "([BIIB)V" } : Jvm.MethodName) prog_22_method_110_code (5 : Nat) (Option.none : Option Jvm.ClassFile.FieldType)) ∈ W0 := W0_c tk_2 (i := 47) rfl rfl
theorem wd_288 : (Jvm.Cond.methodLink "java/util/Arrays" (13 : Nat) ({ cls := "java/util/Arrays", name := "rangeCheck", desc := "(III)V" } : Jvm.MethodName)) ∈ W0 := W0_c tk_2 (i := 48) rfl rfl
theorem wd_289 : (Jvm.Cond.static ({ cls := "java/util/Arrays", name := "rangeCheck", desc := "(III)V" } : Jvm.MethodName)) ∈ W0 := W0_c tk_2 (i := 49) rfl rfl
theorem wd_290 : (Jvm.Cond.code ({ cls := "java/util/Arrays", name := "rangeCheck", desc := "(III)V" } : Jvm.MethodName) prog_22_method_30_code (3 : Nat) (Option.none : Option Jvm.ClassFile.FieldType)) ∈ W0 := W0_c tk_2 (i := 50) rfl rfl
theorem wd_365 : (Jvm.Cond.static ({ cls := "java/lang/Math", name := "min", desc := "(II)I" } : Jvm.MethodName)) ∈ W0 := W0_c tk_2 (i := 125) rfl rfl
theorem wd_366 : (Jvm.Cond.code ({ cls := "java/lang/Math", name := "min", desc := "(II)I" } : Jvm.MethodName) prog_14_method_69_code (2 : Nat) (Option.some Jvm.ClassFile.FieldType.int)) ∈ W0 := W0_c tk_2 (i := 126) rfl rfl
theorem wd_550 : (Jvm.Cond.methodLink "SpongeDigestsLaw" (70 : Nat) ({ cls := "SpongeDigestsLaw", name := "alter", desc := "(LSpongeDigests;III[J)I" } : Jvm.MethodName)) ∈ W0 := W0_c tk_3 (i := 70) rfl rfl
theorem wd_551 : (Jvm.Cond.static ({ cls := "SpongeDigestsLaw", name := "alter", desc := "(LSpongeDigests;III[J)I" } : Jvm.MethodName)) ∈ W0 := W0_c tk_3 (i := 71) rfl rfl
theorem wd_552 : (Jvm.Cond.codeWith ({ cls := "SpongeDigestsLaw", name := "alter", desc := "(LSpongeDigests;III[J)I" } : Jvm.MethodName) method_7_code (6 : Nat) (Option.some Jvm.ClassFile.FieldType.int) [((0 : Nat), (12 : Nat), (15 : Nat), (19 : Nat)), ((0 : Nat), (12 : Nat), (19 : Nat), (13 : Nat))]) ∈ W0 := W0_c tk_3 (i := 72) rfl rfl
theorem wd_553 : (Jvm.Cond.methodLink "SpongeDigestsLaw" (27 : Nat) ({ cls := "SpongeDigests", name := "alter", desc := "(III)I" } : Jvm.MethodName)) ∈ W0 := W0_c tk_3 (i := 73) rfl rfl
theorem wd_554 : (Jvm.Cond.instanceMethod ({ cls := "SpongeDigests", name := "alter", desc := "(III)I" } : Jvm.MethodName)) ∈ W0 := W0_c tk_3 (i := 74) rfl rfl
theorem wd_555 : (Jvm.Cond.selects "SpongeDigests" ({ cls := "SpongeDigests", name := "alter", desc := "(III)I" } : Jvm.MethodName) ({ cls := "SpongeDigests", name := "alter", desc := "(III)I" } : Jvm.MethodName)) ∈ W0 := W0_c tk_3 (i := 75) rfl rfl
theorem wd_556 : (Jvm.Cond.code ({ cls := "SpongeDigests", name := "alter", desc := "(III)I" } : Jvm.MethodName) prog_1_method_6_code (5 : Nat) (Option.some Jvm.ClassFile.FieldType.int)) ∈ W0 := W0_c tk_3 (i := 76) rfl rfl
theorem wd_557 : (Jvm.Cond.methodLink "SpongeDigests" (97 : Nat) ({ cls := "SpongeDigests", name := "requirePlace", desc := "(LSpongeDigests$Bytes;I)V" } : Jvm.MethodName)) ∈ W0 := W0_c tk_3 (i := 77) rfl rfl
theorem wd_558 : (Jvm.Cond.static ({ cls := "SpongeDigests", name := "requirePlace", desc := "(LSpongeDigests$Bytes;I)V" } : Jvm.MethodName)) ∈ W0 := W0_c tk_3 (i := 78) rfl rfl
theorem wd_559 : (Jvm.Cond.code ({ cls := "SpongeDigests", name := "requirePlace", desc := "(LSpongeDigests$Bytes;I)V" } : Jvm.MethodName) prog_1_method_13_code (2 : Nat) (Option.none : Option Jvm.ClassFile.FieldType)) ∈ W0 := W0_c tk_3 (i := 79) rfl rfl
theorem wd_561 : (Jvm.Cond.methodLink "SpongeDigestsLaw" (74 : Nat) ({ cls := "SpongeDigestsLaw", name := "length", desc := "(LSpongeDigests;I[J)I" } : Jvm.MethodName)) ∈ W0 := W0_c tk_3 (i := 81) rfl rfl
theorem wd_562 : (Jvm.Cond.static ({ cls := "SpongeDigestsLaw", name := "length", desc := "(LSpongeDigests;I[J)I" } : Jvm.MethodName)) ∈ W0 := W0_c tk_3 (i := 82) rfl rfl
theorem wd_563 : (Jvm.Cond.codeWith ({ cls := "SpongeDigestsLaw", name := "length", desc := "(LSpongeDigests;I[J)I" } : Jvm.MethodName) method_8_code (4 : Nat) (Option.some Jvm.ClassFile.FieldType.int) [((0 : Nat), (9 : Nat), (12 : Nat), (19 : Nat))]) ∈ W0 := W0_c tk_3 (i := 83) rfl rfl
theorem wd_564 : (Jvm.Cond.methodLink "SpongeDigestsLaw" (31 : Nat) ({ cls := "SpongeDigests", name := "length", desc := "(I)I" } : Jvm.MethodName)) ∈ W0 := W0_c tk_3 (i := 84) rfl rfl
theorem wd_565 : (Jvm.Cond.instanceMethod ({ cls := "SpongeDigests", name := "length", desc := "(I)I" } : Jvm.MethodName)) ∈ W0 := W0_c tk_3 (i := 85) rfl rfl
theorem wd_566 : (Jvm.Cond.selects "SpongeDigests" ({ cls := "SpongeDigests", name := "length", desc := "(I)I" } : Jvm.MethodName) ({ cls := "SpongeDigests", name := "length", desc := "(I)I" } : Jvm.MethodName)) ∈ W0 := W0_c tk_3 (i := 86) rfl rfl
theorem wd_567 : (Jvm.Cond.code ({ cls := "SpongeDigests", name := "length", desc := "(I)I" } : Jvm.MethodName) prog_1_method_7_code (2 : Nat) (Option.some Jvm.ClassFile.FieldType.int)) ∈ W0 := W0_c tk_3 (i := 87) rfl rfl
theorem wd_568 : (Jvm.Cond.methodLink "SpongeDigestsLaw" (78 : Nat) ({ cls := "SpongeDigestsLaw", name := "word", desc := "(LSpongeDigests;II[J)I" } : Jvm.MethodName)) ∈ W0 := W0_c tk_3 (i := 88) rfl rfl
theorem wd_569 : (Jvm.Cond.static ({ cls := "SpongeDigestsLaw", name := "word", desc := "(LSpongeDigests;II[J)I" } : Jvm.MethodName)) ∈ W0 := W0_c tk_3 (i := 89) rfl rfl
theorem wd_570 : (Jvm.Cond.codeWith ({ cls := "SpongeDigestsLaw", name := "word", desc := "(LSpongeDigests;II[J)I" } : Jvm.MethodName) method_9_code (5 : Nat) (Option.some Jvm.ClassFile.FieldType.int) [((0 : Nat), (9 : Nat), (12 : Nat), (19 : Nat)), ((0 : Nat), (9 : Nat), (16 : Nat), (13 : Nat))]) ∈ W0 := W0_c tk_3 (i := 90) rfl rfl
theorem wd_571 : (Jvm.Cond.methodLink "SpongeDigestsLaw" (35 : Nat) ({ cls := "SpongeDigests", name := "word", desc := "(II)J" } : Jvm.MethodName)) ∈ W0 := W0_c tk_3 (i := 91) rfl rfl
theorem wd_572 : (Jvm.Cond.instanceMethod ({ cls := "SpongeDigests", name := "word", desc := "(II)J" } : Jvm.MethodName)) ∈ W0 := W0_c tk_3 (i := 92) rfl rfl
theorem wd_573 : (Jvm.Cond.selects "SpongeDigests" ({ cls := "SpongeDigests", name := "word", desc := "(II)J" } : Jvm.MethodName) ({ cls := "SpongeDigests", name := "word", desc := "(II)J" } : Jvm.MethodName)) ∈ W0 := W0_c tk_3 (i := 93) rfl rfl
theorem wd_574 : (Jvm.Cond.code ({ cls := "SpongeDigests", name := "word", desc := "(II)J" } : Jvm.MethodName) prog_1_method_8_code (4 : Nat) (Option.some Jvm.ClassFile.FieldType.long)) ∈ W0 := W0_c tk_3 (i := 94) rfl rfl
theorem wd_577 : (Jvm.Cond.instanceMethod ({ cls := "SpongeDigests$Bytes", name := "eightFrom", desc := "(I)J" } : Jvm.MethodName)) ∈ W0 := W0_c tk_3 (i := 97) rfl rfl
theorem wd_578 : (Jvm.Cond.code ({ cls := "SpongeDigests$Bytes", name := "eightFrom", desc := "(I)J" } : Jvm.MethodName) prog_3_method_5_code (6 : Nat) (Option.some Jvm.ClassFile.FieldType.long)) ∈ W0 := W0_c tk_3 (i := 98) rfl rfl
theorem wd_579 : (Jvm.Cond.methodLink "SpongeDigestsLaw" (81 : Nat) ({ cls := "SpongeDigestsLaw", name := "same", desc := "(LSpongeDigests;II[J)I" } : Jvm.MethodName)) ∈ W0 := W0_c tk_3 (i := 99) rfl rfl
theorem wd_580 : (Jvm.Cond.static ({ cls := "SpongeDigestsLaw", name := "same", desc := "(LSpongeDigests;II[J)I" } : Jvm.MethodName)) ∈ W0 := W0_c tk_3 (i := 100) rfl rfl
theorem wd_581 : (Jvm.Cond.codeWith ({ cls := "SpongeDigestsLaw", name := "same", desc := "(LSpongeDigests;II[J)I" } : Jvm.MethodName) method_10_code (5 : Nat) (Option.some Jvm.ClassFile.FieldType.int) [((0 : Nat), (17 : Nat), (20 : Nat), (19 : Nat))]) ∈ W0 := W0_c tk_3 (i := 101) rfl rfl
theorem wd_582 : (Jvm.Cond.methodLink "SpongeDigestsLaw" (39 : Nat) ({ cls := "SpongeDigests", name := "same", desc := "(II)Z" } : Jvm.MethodName)) ∈ W0 := W0_c tk_3 (i := 102) rfl rfl
theorem wd_583 : (Jvm.Cond.instanceMethod ({ cls := "SpongeDigests", name := "same", desc := "(II)Z" } : Jvm.MethodName)) ∈ W0 := W0_c tk_3 (i := 103) rfl rfl
theorem wd_584 : (Jvm.Cond.selects "SpongeDigests" ({ cls := "SpongeDigests", name := "same", desc := "(II)Z" } : Jvm.MethodName) ({ cls := "SpongeDigests", name := "same", desc := "(II)Z" } : Jvm.MethodName)) ∈ W0 := W0_c tk_3 (i := 104) rfl rfl
theorem wd_585 : (Jvm.Cond.code ({ cls := "SpongeDigests", name := "same", desc := "(II)Z" } : Jvm.MethodName) prog_1_method_9_code (3 : Nat) (Option.some Jvm.ClassFile.FieldType.boolean)) ∈ W0 := W0_c tk_3 (i := 105) rfl rfl
theorem wd_588 : (Jvm.Cond.instanceMethod ({ cls := "SpongeDigests$Bytes", name := "matches", desc := "(LSpongeDigests$Bytes;)Z" } : Jvm.MethodName)) ∈ W0 := W0_c tk_3 (i := 108) rfl rfl
theorem wd_589 : (Jvm.Cond.code ({ cls := "SpongeDigests$Bytes", name := "matches", desc := "(LSpongeDigests$Bytes;)Z" } : Jvm.MethodName) prog_3_method_6_code (3 : Nat) (Option.some Jvm.ClassFile.FieldType.boolean)) ∈ W0 := W0_c tk_3 (i := 109) rfl rfl
theorem wd_590 : (Jvm.Cond.methodLink "SpongeDigestsLaw" (84 : Nat) ({ cls := "SpongeDigestsLaw", name := "digest", desc := "(LSpongeDigests;II[J)I" } : Jvm.MethodName)) ∈ W0 := W0_c tk_3 (i := 110) rfl rfl
theorem wd_591 : (Jvm.Cond.static ({ cls := "SpongeDigestsLaw", name := "digest", desc := "(LSpongeDigests;II[J)I" } : Jvm.MethodName)) ∈ W0 := W0_c tk_3 (i := 111) rfl rfl
theorem wd_592 : (Jvm.Cond.codeWith ({ cls := "SpongeDigestsLaw", name := "digest", desc := "(LSpongeDigests;II[J)I" } : Jvm.MethodName) method_11_code (5 : Nat) (Option.some Jvm.ClassFile.FieldType.int) [((0 : Nat), (10 : Nat), (13 : Nat), (19 : Nat))]) ∈ W0 := W0_c tk_3 (i := 112) rfl rfl
theorem wd_593 : (Jvm.Cond.methodLink "SpongeDigestsLaw" (43 : Nat) ({ cls := "SpongeDigests", name := "digest", desc := "(II)I" } : Jvm.MethodName)) ∈ W0 := W0_c tk_3 (i := 113) rfl rfl
theorem wd_594 : (Jvm.Cond.instanceMethod ({ cls := "SpongeDigests", name := "digest", desc := "(II)I" } : Jvm.MethodName)) ∈ W0 := W0_c tk_3 (i := 114) rfl rfl
theorem wd_595 : (Jvm.Cond.selects "SpongeDigests" ({ cls := "SpongeDigests", name := "digest", desc := "(II)I" } : Jvm.MethodName) ({ cls := "SpongeDigests", name := "digest", desc := "(II)I" } : Jvm.MethodName)) ∈ W0 := W0_c tk_3 (i := 115) rfl rfl
theorem wd_596 : (Jvm.Cond.code ({ cls := "SpongeDigests", name := "digest", desc := "(II)I" } : Jvm.MethodName) prog_1_method_10_code (3 : Nat) (Option.some Jvm.ClassFile.FieldType.int)) ∈ W0 := W0_c tk_3 (i := 116) rfl rfl
theorem wd_597 : (Jvm.Cond.fieldLink "SpongeDigests" (111 : Nat) "SpongeDigests" "START_256" "[J") ∈ W0 := W0_c tk_3 (i := 117) rfl rfl
theorem wd_599 : (Jvm.Cond.methodLink "SpongeDigests" (115 : Nat) ({ cls := "SpongeDigests", name := "hashInBlocks", desc := "(LSpongeDigests$BlockHash;[JI)V" } : Jvm.MethodName)) ∈ W0 := W0_c tk_3 (i := 119) rfl rfl
theorem wd_601 : (Jvm.Cond.instanceMethod ({ cls := "SpongeDigests", name := "hashInBlocks", desc := "(LSpongeDigests$BlockHash;[JI)V" } : Jvm.MethodName)) ∈ W0 := W0_c tk_3 (i := 121) rfl rfl
theorem wd_602 : (Jvm.Cond.code ({ cls := "SpongeDigests", name := "hashInBlocks", desc := "(LSpongeDigests$BlockHash;[JI)V" } : Jvm.MethodName) prog_1_method_14_code (5 : Nat) (Option.none : Option Jvm.ClassFile.FieldType)) ∈ W0 := W0_c tk_3 (i := 122) rfl rfl
theorem wd_605 : (Jvm.Cond.instanceMethod ({ cls := "SpongeDigests$BlockHash", name := "begin", desc := "([J)V" } : Jvm.MethodName)) ∈ W0 := W0_c tk_3 (i := 125) rfl rfl
theorem wd_606 : (Jvm.Cond.code ({ cls := "SpongeDigests$BlockHash", name := "begin", desc := "([J)V" } : Jvm.MethodName) prog_2_method_2_code (2 : Nat) (Option.none : Option Jvm.ClassFile.FieldType)) ∈ W0 := W0_c tk_3 (i := 126) rfl rfl
theorem wd_607 : (Jvm.Cond.methodLink "SpongeDigests$BlockHash" (51 : Nat) ({ cls := "java/lang/System", name := "arraycopy", desc := "(Ljava/lang/Object;ILjava/lang/Object;II)V" } : Jvm.MethodName)) ∈ W0 := W0_c tk_3 (i := 127) rfl rfl
theorem wd_610 : (Jvm.Cond.instanceMethod ({ cls := "SpongeDigests$BlockHash", name := "absorb", desc := "([BII)V" } : Jvm.MethodName)) ∈ W0 := W0_c tk_3 (i := 130) rfl rfl
theorem wd_611 : (Jvm.Cond.code ({ cls := "SpongeDigests$BlockHash", name := "absorb", desc := "([BII)V" } : Jvm.MethodName) prog_2_method_3_code (5 : Nat) (Option.none : Option Jvm.ClassFile.FieldType)) ∈ W0 := W0_c tk_3 (i := 131) rfl rfl
theorem wd_612 : (Jvm.Cond.methodLink "SpongeDigests$BlockHash" (63 : Nat) ({ cls := "SpongeDigests$BlockHash", name := "compress", desc := "()V" } : Jvm.MethodName)) ∈ W0 := W0_c tk_3 (i := 132) rfl rfl
theorem wd_614 : (Jvm.Cond.instanceMethod ({ cls := "SpongeDigests$BlockHash", name := "compress", desc := "()V" } : Jvm.MethodName)) ∈ W0 := W0_c tk_3 (i := 134) rfl rfl
theorem wd_615 : (Jvm.Cond.code ({ cls := "SpongeDigests$BlockHash", name := "compress", desc := "()V" } : Jvm.MethodName) prog_2_method_8_code (24 : Nat) (Option.none : Option Jvm.ClassFile.FieldType)) ∈ W0 := W0_c tk_3 (i := 135) rfl rfl
theorem wd_616 : (Jvm.Cond.methodLink "SpongeDigests$BlockHash" (81 : Nat) ({ cls := "SpongeDigests$BlockHash", name := "fillSchedule", desc := "()V" } : Jvm.MethodName)) ∈ W0 := W0_c tk_3 (i := 136) rfl rfl
theorem wd_618 : (Jvm.Cond.instanceMethod ({ cls := "SpongeDigests$BlockHash", name := "fillSchedule", desc := "()V" } : Jvm.MethodName)) ∈ W0 := W0_c tk_3 (i := 138) rfl rfl
theorem wd_619 : (Jvm.Cond.code ({ cls := "SpongeDigests$BlockHash", name := "fillSchedule", desc := "()V" } : Jvm.MethodName) prog_2_method_10_code (6 : Nat) (Option.none : Option Jvm.ClassFile.FieldType)) ∈ W0 := W0_c tk_3 (i := 139) rfl rfl
theorem wd_620 : (Jvm.Cond.methodLink "SpongeDigests$BlockHash" (95 : Nat) ({ cls := "SpongeDigests$BlockHash", name := "twoTurnsAndShift", desc := "(JI)J" } : Jvm.MethodName)) ∈ W0 := W0_c tk_3 (i := 140) rfl rfl
theorem wd_622 : (Jvm.Cond.instanceMethod ({ cls := "SpongeDigests$BlockHash", name := "twoTurnsAndShift", desc := "(JI)J" } : Jvm.MethodName)) ∈ W0 := W0_c tk_3 (i := 142) rfl rfl
theorem wd_623 : (Jvm.Cond.code ({ cls := "SpongeDigests$BlockHash", name := "twoTurnsAndShift", desc := "(JI)J" } : Jvm.MethodName) prog_2_method_12_code (4 : Nat) (Option.some Jvm.ClassFile.FieldType.long)) ∈ W0 := W0_c tk_3 (i := 143) rfl rfl
theorem wd_624 : (Jvm.Cond.methodLink "SpongeDigests$BlockHash" (98 : Nat) ({ cls := "SpongeDigests$BlockHash", name := "rotr", desc := "(JI)J" } : Jvm.MethodName)) ∈ W0 := W0_c tk_3 (i := 144) rfl rfl
theorem wd_626 : (Jvm.Cond.instanceMethod ({ cls := "SpongeDigests$BlockHash", name := "rotr", desc := "(JI)J" } : Jvm.MethodName)) ∈ W0 := W0_c tk_3 (i := 146) rfl rfl
theorem wd_627 : (Jvm.Cond.code ({ cls := "SpongeDigests$BlockHash", name := "rotr", desc := "(JI)J" } : Jvm.MethodName) prog_2_method_13_code (4 : Nat) (Option.some Jvm.ClassFile.FieldType.long)) ∈ W0 := W0_c tk_3 (i := 147) rfl rfl
theorem wd_630 : (Jvm.Cond.methodLink "SpongeDigests$BlockHash" (87 : Nat) ({ cls := "SpongeDigests$BlockHash", name := "threeTurns", desc := "(JI)J" } : Jvm.MethodName)) ∈ W0 := W0_c tk_3 (i := 150) rfl rfl
theorem wd_632 : (Jvm.Cond.instanceMethod ({ cls := "SpongeDigests$BlockHash", name := "threeTurns", desc := "(JI)J" } : Jvm.MethodName)) ∈ W0 := W0_c tk_3 (i := 152) rfl rfl
theorem wd_633 : (Jvm.Cond.code ({ cls := "SpongeDigests$BlockHash", name := "threeTurns", desc := "(JI)J" } : Jvm.MethodName) prog_2_method_11_code (4 : Nat) (Option.some Jvm.ClassFile.FieldType.long)) ∈ W0 := W0_c tk_3 (i := 153) rfl rfl
theorem wd_634 : (Jvm.Cond.methodLink "SpongeDigests$BlockHash" (91 : Nat) ({ cls := "SpongeDigests$BlockHash", name := "addToState", desc := "(IJJJJ)V" } : Jvm.MethodName)) ∈ W0 := W0_c tk_3 (i := 154) rfl rfl
theorem wd_636 : (Jvm.Cond.instanceMethod ({ cls := "SpongeDigests$BlockHash", name := "addToState", desc := "(IJJJJ)V" } : Jvm.MethodName)) ∈ W0 := W0_c tk_3 (i := 156) rfl rfl
theorem wd_637 : (Jvm.Cond.code ({ cls := "SpongeDigests$BlockHash", name := "addToState", desc := "(IJJJJ)V" } : Jvm.MethodName) prog_2_method_9_code (10 : Nat) (Option.none : Option Jvm.ClassFile.FieldType)) ∈ W0 := W0_c tk_3 (i := 157) rfl rfl
theorem wd_640 : (Jvm.Cond.instanceMethod ({ cls := "SpongeDigests$BlockHash", name := "finish", desc := "([BII)V" } : Jvm.MethodName)) ∈ W0 := W0_c tk_3 (i := 160) rfl rfl
theorem wd_641 : (Jvm.Cond.code ({ cls := "SpongeDigests$BlockHash", name := "finish", desc := "([BII)V" } : Jvm.MethodName) prog_2_method_6_code (7 : Nat) (Option.none : Option Jvm.ClassFile.FieldType)) ∈ W0 := W0_c tk_3 (i := 161) rfl rfl
theorem wd_642 : (Jvm.Cond.methodLink "SpongeDigests$BlockHash" (69 : Nat) ({ cls := "java/util/Arrays", name := "fill", desc := "([BIIB)V" } : Jvm.MethodName)) ∈ W0 := W0_c tk_3 (i := 162) rfl rfl
theorem wd_643 : (Jvm.Cond.constantLong "SpongeDigests$BlockHash" (75 : Nat) (8 : Int64)) ∈ W0 := W0_c tk_3 (i := 163) rfl rfl
theorem wd_644 : (Jvm.Cond.methodLink "SpongeDigests$BlockHash" (77 : Nat) ({ cls := "SpongeDigests$BlockHash", name := "writeState", desc := "([BII)V" } : Jvm.MethodName)) ∈ W0 := W0_c tk_3 (i := 164) rfl rfl
theorem wd_646 : (Jvm.Cond.instanceMethod ({ cls := "SpongeDigests$BlockHash", name := "writeState", desc := "([BII)V" } : Jvm.MethodName)) ∈ W0 := W0_c tk_3 (i := 166) rfl rfl
theorem wd_647 : (Jvm.Cond.code ({ cls := "SpongeDigests$BlockHash", name := "writeState", desc := "([BII)V" } : Jvm.MethodName) prog_2_method_7_code (7 : Nat) (Option.none : Option Jvm.ClassFile.FieldType)) ∈ W0 := W0_c tk_3 (i := 167) rfl rfl
theorem wd_648 : (Jvm.Cond.fieldLink "SpongeDigests" (119 : Nat) "SpongeDigests" "START_384" "[J") ∈ W0 := W0_c tk_3 (i := 168) rfl rfl
theorem wd_650 : (Jvm.Cond.fieldLink "SpongeDigests" (122 : Nat) "SpongeDigests" "START_512" "[J") ∈ W0 := W0_c tk_3 (i := 170) rfl rfl
theorem wd_652 : (Jvm.Cond.fieldLink "SpongeDigests" (125 : Nat) "SpongeDigests" "START_224" "[J") ∈ W0 := W0_c tk_3 (i := 172) rfl rfl
theorem wd_654 : (Jvm.Cond.fieldLink "SpongeDigests" (128 : Nat) "SpongeDigests" "START_512_224" "[J") ∈ W0 := W0_c tk_3 (i := 174) rfl rfl
theorem wd_656 : (Jvm.Cond.fieldLink "SpongeDigests" (131 : Nat) "SpongeDigests" "START_512_256" "[J") ∈ W0 := W0_c tk_3 (i := 176) rfl rfl
theorem wd_658 : (Jvm.Cond.methodLink "SpongeDigests" (134 : Nat) ({ cls := "SpongeDigests", name := "hashInSponge", desc := "(III)V" } : Jvm.MethodName)) ∈ W0 := W0_c tk_3 (i := 178) rfl rfl
theorem wd_660 : (Jvm.Cond.instanceMethod ({ cls := "SpongeDigests", name := "hashInSponge", desc := "(III)V" } : Jvm.MethodName)) ∈ W0 := W0_c tk_3 (i := 180) rfl rfl
theorem wd_661 : (Jvm.Cond.code ({ cls := "SpongeDigests", name := "hashInSponge", desc := "(III)V" } : Jvm.MethodName) prog_1_method_15_code (5 : Nat) (Option.none : Option Jvm.ClassFile.FieldType)) ∈ W0 := W0_c tk_3 (i := 181) rfl rfl
theorem wd_664 : (Jvm.Cond.instanceMethod ({ cls := "SpongeDigests$Sponge", name := "absorb", desc := "(II[BI)V" } : Jvm.MethodName)) ∈ W0 := W0_c tk_3 (i := 184) rfl rfl
theorem wd_665 : (Jvm.Cond.code ({ cls := "SpongeDigests$Sponge", name := "absorb", desc := "(II[BI)V" } : Jvm.MethodName) prog_4_method_2_code (7 : Nat) (Option.none : Option Jvm.ClassFile.FieldType)) ∈ W0 := W0_c tk_3 (i := 185) rfl rfl
theorem wd_666 : (Jvm.Cond.methodLink "SpongeDigests$Sponge" (21 : Nat) ({ cls := "java/util/Arrays", name := "fill", desc := "([JJ)V" } : Jvm.MethodName)) ∈ W0 := W0_c tk_3 (i := 186) rfl rfl
theorem wd_667 : (Jvm.Cond.static ({ cls := "java/util/Arrays", name := "fill", desc := "([JJ)V" } : Jvm.MethodName)) ∈ W0 := W0_c tk_3 (i := 187) rfl rfl
theorem wd_668 : (Jvm.Cond.code ({ cls := "java/util/Arrays", name := "fill", desc := "([JJ)V" } : Jvm.MethodName) prog_22_method_101_code (5 : Nat) (Option.none : Option Jvm.ClassFile.FieldType)) ∈ W0 := W0_c tk_3 (i := 188) rfl rfl
theorem wd_669 : (Jvm.Cond.methodLink "SpongeDigests$Sponge" (27 : Nat) ({ cls := "SpongeDigests$Sponge", name := "mixIn", desc := "(II)V" } : Jvm.MethodName)) ∈ W0 := W0_c tk_3 (i := 189) rfl rfl
theorem wd_671 : (Jvm.Cond.instanceMethod ({ cls := "SpongeDigests$Sponge", name := "mixIn", desc := "(II)V" } : Jvm.MethodName)) ∈ W0 := W0_c tk_3 (i := 191) rfl rfl
theorem wd_672 : (Jvm.Cond.code ({ cls := "SpongeDigests$Sponge", name := "mixIn", desc := "(II)V" } : Jvm.MethodName) prog_4_method_4_code (3 : Nat) (Option.none : Option Jvm.ClassFile.FieldType)) ∈ W0 := W0_c tk_3 (i := 192) rfl rfl
theorem wd_673 : (Jvm.Cond.methodLink "SpongeDigests$Sponge" (31 : Nat) ({ cls := "SpongeDigests$Sponge", name := "permute", desc := "()V" } : Jvm.MethodName)) ∈ W0 := W0_c tk_3 (i := 193) rfl rfl
theorem wd_675 : (Jvm.Cond.instanceMethod ({ cls := "SpongeDigests$Sponge", name := "permute", desc := "()V" } : Jvm.MethodName)) ∈ W0 := W0_c tk_3 (i := 195) rfl rfl
theorem wd_676 : (Jvm.Cond.code ({ cls := "SpongeDigests$Sponge", name := "permute", desc := "()V" } : Jvm.MethodName) prog_4_method_5_code (2 : Nat) (Option.none : Option Jvm.ClassFile.FieldType)) ∈ W0 := W0_c tk_3 (i := 196) rfl rfl
theorem wd_677 : (Jvm.Cond.methodLink "SpongeDigests$Sponge" (34 : Nat) ({ cls := "SpongeDigests$Sponge", name := "mixColumns", desc := "()V" } : Jvm.MethodName)) ∈ W0 := W0_c tk_3 (i := 197) rfl rfl
theorem wd_679 : (Jvm.Cond.instanceMethod ({ cls := "SpongeDigests$Sponge", name := "mixColumns", desc := "()V" } : Jvm.MethodName)) ∈ W0 := W0_c tk_3 (i := 199) rfl rfl
theorem wd_680 : (Jvm.Cond.code ({ cls := "SpongeDigests$Sponge", name := "mixColumns", desc := "()V" } : Jvm.MethodName) prog_4_method_6_code (5 : Nat) (Option.none : Option Jvm.ClassFile.FieldType)) ∈ W0 := W0_c tk_3 (i := 200) rfl rfl
theorem wd_681 : (Jvm.Cond.methodLink "SpongeDigests$Sponge" (46 : Nat) ({ cls := "SpongeDigests$Sponge", name := "rotl", desc := "(JI)J" } : Jvm.MethodName)) ∈ W0 := W0_c tk_3 (i := 201) rfl rfl
theorem wd_682 : (Jvm.Cond.static ({ cls := "SpongeDigests$Sponge", name := "rotl", desc := "(JI)J" } : Jvm.MethodName)) ∈ W0 := W0_c tk_3 (i := 202) rfl rfl
theorem wd_683 : (Jvm.Cond.code ({ cls := "SpongeDigests$Sponge", name := "rotl", desc := "(JI)J" } : Jvm.MethodName) prog_4_method_9_code (3 : Nat) (Option.some Jvm.ClassFile.FieldType.long)) ∈ W0 := W0_c tk_3 (i := 203) rfl rfl
theorem wd_684 : (Jvm.Cond.methodLink "SpongeDigests$Sponge" (37 : Nat) ({ cls := "SpongeDigests$Sponge", name := "turnAndMove", desc := "()V" } : Jvm.MethodName)) ∈ W0 := W0_c tk_3 (i := 204) rfl rfl
theorem wd_686 : (Jvm.Cond.instanceMethod ({ cls := "SpongeDigests$Sponge", name := "turnAndMove", desc := "()V" } : Jvm.MethodName)) ∈ W0 := W0_c tk_3 (i := 206) rfl rfl
theorem wd_687 : (Jvm.Cond.code ({ cls := "SpongeDigests$Sponge", name := "turnAndMove", desc := "()V" } : Jvm.MethodName) prog_4_method_7_code (2 : Nat) (Option.none : Option Jvm.ClassFile.FieldType)) ∈ W0 := W0_c tk_3 (i := 207) rfl rfl
theorem wd_692 : (Jvm.Cond.methodLink "SpongeDigests$Sponge" (40 : Nat) ({ cls := "SpongeDigests$Sponge", name := "mixRows", desc := "()V" } : Jvm.MethodName)) ∈ W0 := W0_c tk_3 (i := 212) rfl rfl
theorem wd_694 : (Jvm.Cond.instanceMethod ({ cls := "SpongeDigests$Sponge", name := "mixRows", desc := "()V" } : Jvm.MethodName)) ∈ W0 := W0_c tk_3 (i := 214) rfl rfl
theorem wd_695 : (Jvm.Cond.code ({ cls := "SpongeDigests$Sponge", name := "mixRows", desc := "()V" } : Jvm.MethodName) prog_4_method_8_code (3 : Nat) (Option.none : Option Jvm.ClassFile.FieldType)) ∈ W0 := W0_c tk_3 (i := 215) rfl rfl
theorem wd_696 : (Jvm.Cond.constantLong "SpongeDigests$Sponge" (57 : Nat) (-1 : Int64)) ∈ W0 := W0_c tk_3 (i := 216) rfl rfl
theorem wd_701 : (Jvm.Cond.instanceMethod ({ cls := "SpongeDigests$Sponge", name := "squeeze", desc := "(I[BI)V" } : Jvm.MethodName)) ∈ W0 := W0_c tk_3 (i := 221) rfl rfl
theorem wd_702 : (Jvm.Cond.code ({ cls := "SpongeDigests$Sponge", name := "squeeze", desc := "(I[BI)V" } : Jvm.MethodName) prog_4_method_3_code (6 : Nat) (Option.none : Option Jvm.ClassFile.FieldType)) ∈ W0 := W0_c tk_3 (i := 222) rfl rfl
theorem wd_703 : (Jvm.Cond.methodLink "SpongeDigests" (137 : Nat) ({ cls := "SpongeDigests", name := "hashWithKey", desc := "(LSpongeDigests$BlockHash;[J)V" } : Jvm.MethodName)) ∈ W0 := W0_c tk_3 (i := 223) rfl rfl
theorem wd_705 : (Jvm.Cond.instanceMethod ({ cls := "SpongeDigests", name := "hashWithKey", desc := "(LSpongeDigests$BlockHash;[J)V" } : Jvm.MethodName)) ∈ W0 := W0_c tk_3 (i := 225) rfl rfl
theorem wd_706 : (Jvm.Cond.code ({ cls := "SpongeDigests", name := "hashWithKey", desc := "(LSpongeDigests$BlockHash;[J)V" } : Jvm.MethodName) prog_1_method_16_code (5 : Nat) (Option.none : Option Jvm.ClassFile.FieldType)) ∈ W0 := W0_c tk_3 (i := 226) rfl rfl
theorem wd_707 : (Jvm.Cond.methodLink "SpongeDigests" (169 : Nat) ({ cls := "SpongeDigests", name := "setKey", desc := "(LSpongeDigests$BlockHash;[J)V" } : Jvm.MethodName)) ∈ W0 := W0_c tk_3 (i := 227) rfl rfl
theorem wd_709 : (Jvm.Cond.instanceMethod ({ cls := "SpongeDigests", name := "setKey", desc := "(LSpongeDigests$BlockHash;[J)V" } : Jvm.MethodName)) ∈ W0 := W0_c tk_3 (i := 229) rfl rfl
theorem wd_710 : (Jvm.Cond.code ({ cls := "SpongeDigests", name := "setKey", desc := "(LSpongeDigests$BlockHash;[J)V" } : Jvm.MethodName) prog_1_method_17_code (4 : Nat) (Option.none : Option Jvm.ClassFile.FieldType)) ∈ W0 := W0_c tk_3 (i := 230) rfl rfl
theorem wd_711 : (Jvm.Cond.methodLink "SpongeDigests" (175 : Nat) ({ cls := "java/util/Arrays", name := "fill", desc := "([BB)V" } : Jvm.MethodName)) ∈ W0 := W0_c tk_3 (i := 231) rfl rfl
theorem wd_712 : (Jvm.Cond.static ({ cls := "java/util/Arrays", name := "fill", desc := "([BB)V" } : Jvm.MethodName)) ∈ W0 := W0_c tk_3 (i := 232) rfl rfl
theorem wd_713 : (Jvm.Cond.code ({ cls := "java/util/Arrays", name := "fill", desc := "([BB)V" } : Jvm.MethodName) prog_22_method_109_code (4 : Nat) (Option.none : Option Jvm.ClassFile.FieldType)) ∈ W0 := W0_c tk_3 (i := 233) rfl rfl
theorem wd_714 : (Jvm.Cond.methodLink "SpongeDigests" (181 : Nat) ({ cls := "java/lang/System", name := "arraycopy", desc := "(Ljava/lang/Object;ILjava/lang/Object;II)V" } : Jvm.MethodName)) ∈ W0 := W0_c tk_3 (i := 234) rfl rfl
theorem wd_715 : (Jvm.Cond.methodLink "SpongeDigests" (172 : Nat) ({ cls := "SpongeDigests", name := "beginWithKey", desc := "(LSpongeDigests$BlockHash;[JI)V" } : Jvm.MethodName)) ∈ W0 := W0_c tk_3 (i := 235) rfl rfl
theorem wd_717 : (Jvm.Cond.instanceMethod ({ cls := "SpongeDigests", name := "beginWithKey", desc := "(LSpongeDigests$BlockHash;[JI)V" } : Jvm.MethodName)) ∈ W0 := W0_c tk_3 (i := 237) rfl rfl
theorem wd_718 : (Jvm.Cond.code ({ cls := "SpongeDigests", name := "beginWithKey", desc := "(LSpongeDigests$BlockHash;[JI)V" } : Jvm.MethodName) prog_1_method_18_code (5 : Nat) (Option.none : Option Jvm.ClassFile.FieldType)) ∈ W0 := W0_c tk_3 (i := 238) rfl rfl
theorem wd_719 : (Jvm.Cond.methodLink "SpongeDigests" (141 : Nat) ({ cls := "SpongeDigests", name := "hashWithCounter", desc := "(LSpongeDigests$BlockHash;[JI)V" } : Jvm.MethodName)) ∈ W0 := W0_c tk_3 (i := 239) rfl rfl
theorem wd_721 : (Jvm.Cond.instanceMethod ({ cls := "SpongeDigests", name := "hashWithCounter", desc := "(LSpongeDigests$BlockHash;[JI)V" } : Jvm.MethodName)) ∈ W0 := W0_c tk_4 (i := 1) rfl rfl
theorem wd_722 : (Jvm.Cond.code ({ cls := "SpongeDigests", name := "hashWithCounter", desc := "(LSpongeDigests$BlockHash;[JI)V" } : Jvm.MethodName) prog_1_method_19_code (10 : Nat) (Option.none : Option Jvm.ClassFile.FieldType)) ∈ W0 := W0_c tk_4 (i := 2) rfl rfl
theorem wd_725 : (Jvm.Cond.instanceMethod ({ cls := "SpongeDigests$BlockHash", name := "setMark", desc := "()V" } : Jvm.MethodName)) ∈ W0 := W0_c tk_4 (i := 5) rfl rfl
theorem wd_726 : (Jvm.Cond.code ({ cls := "SpongeDigests$BlockHash", name := "setMark", desc := "()V" } : Jvm.MethodName) prog_2_method_4_code (1 : Nat) (Option.none : Option Jvm.ClassFile.FieldType)) ∈ W0 := W0_c tk_4 (i := 6) rfl rfl
theorem wd_727 : (Jvm.Cond.methodLink "SpongeDigests" (190 : Nat) ({ cls := "java/lang/Math", name := "min", desc := "(II)I" } : Jvm.MethodName)) ∈ W0 := W0_c tk_4 (i := 7) rfl rfl
theorem wd_728 : (Jvm.Cond.methodLink "SpongeDigests" (196 : Nat) ({ cls := "SpongeDigests", name := "setCounter", desc := "(I)V" } : Jvm.MethodName)) ∈ W0 := W0_c tk_4 (i := 8) rfl rfl
theorem wd_730 : (Jvm.Cond.instanceMethod ({ cls := "SpongeDigests", name := "setCounter", desc := "(I)V" } : Jvm.MethodName)) ∈ W0 := W0_c tk_4 (i := 10) rfl rfl
theorem wd_731 : (Jvm.Cond.code ({ cls := "SpongeDigests", name := "setCounter", desc := "(I)V" } : Jvm.MethodName) prog_1_method_20_code (3 : Nat) (Option.none : Option Jvm.ClassFile.FieldType)) ∈ W0 := W0_c tk_4 (i := 11) rfl rfl
theorem wd_734 : (Jvm.Cond.instanceMethod ({ cls := "SpongeDigests$BlockHash", name := "goToMark", desc := "()V" } : Jvm.MethodName)) ∈ W0 := W0_c tk_4 (i := 14) rfl rfl
theorem wd_735 : (Jvm.Cond.code ({ cls := "SpongeDigests$BlockHash", name := "goToMark", desc := "()V" } : Jvm.MethodName) prog_2_method_5_code (1 : Nat) (Option.none : Option Jvm.ClassFile.FieldType)) ∈ W0 := W0_c tk_4 (i := 15) rfl rfl
theorem wd_736 : (Jvm.Cond.classLink "SpongeDigestsLaw" (47 : Nat) "SpongeDigestsModel") ∈ W0 := W0_c tk_4 (i := 16) rfl rfl
theorem wd_737 : (Jvm.Cond.instantiable "SpongeDigestsModel" (24 : Nat)) ∈ W0 := W0_c tk_4 (i := 17) rfl rfl
theorem wd_738 : (Jvm.Cond.methodLink "SpongeDigestsLaw" (49 : Nat) ({ cls := "SpongeDigestsModel", name := "<init>", desc := "()V" } : Jvm.MethodName)) ∈ W0 := W0_c tk_4 (i := 18) rfl rfl
theorem wd_739 : (Jvm.Cond.instanceMethod ({ cls := "SpongeDigestsModel", name := "<init>", desc := "()V" } : Jvm.MethodName)) ∈ W0 := W0_c tk_4 (i := 19) rfl rfl
theorem wd_740 : (Jvm.Cond.code ({ cls := "SpongeDigestsModel", name := "<init>", desc := "()V" } : Jvm.MethodName) prog_6_method_1_code (1 : Nat) (Option.none : Option Jvm.ClassFile.FieldType)) ∈ W0 := W0_c tk_4 (i := 20) rfl rfl
theorem wd_741 : (Jvm.Cond.methodLink "SpongeDigestsModel" (1 : Nat) ({ cls := "java/lang/Object", name := "<init>", desc := "()V" } : Jvm.MethodName)) ∈ W0 := W0_c tk_4 (i := 21) rfl rfl
theorem wd_742 : (Jvm.Cond.classLink "SpongeDigestsModel" (13 : Nat) "[[B") ∈ W0 := W0_c tk_4 (i := 22) rfl rfl
theorem wd_744 : (Jvm.Cond.methodLink "SpongeDigestsModel" (68 : Nat) ({ cls := "SpongeDigestsModel", name := "constants", desc := "()V" } : Jvm.MethodName)) ∈ W0 := W0_c tk_4 (i := 24) rfl rfl
theorem wd_746 : (Jvm.Cond.instanceMethod ({ cls := "SpongeDigestsModel", name := "constants", desc := "()V" } : Jvm.MethodName)) ∈ W0 := W0_c tk_4 (i := 26) rfl rfl
theorem wd_747 : (Jvm.Cond.code ({ cls := "SpongeDigestsModel", name := "constants", desc := "()V" } : Jvm.MethodName) prog_6_method_19_code (6 : Nat) (Option.none : Option Jvm.ClassFile.FieldType)) ∈ W0 := W0_c tk_4 (i := 27) rfl rfl
theorem wd_748 : (Jvm.Cond.methodLink "SpongeDigestsModel" (98 : Nat) ({ cls := "SpongeDigestsModel", name := "prime", desc := "(I)Z" } : Jvm.MethodName)) ∈ W0 := W0_c tk_4 (i := 28) rfl rfl
theorem wd_749 : (Jvm.Cond.static ({ cls := "SpongeDigestsModel", name := "prime", desc := "(I)Z" } : Jvm.MethodName)) ∈ W0 := W0_c tk_4 (i := 29) rfl rfl
theorem wd_750 : (Jvm.Cond.code ({ cls := "SpongeDigestsModel", name := "prime", desc := "(I)Z" } : Jvm.MethodName) prog_6_method_16_code (2 : Nat) (Option.some Jvm.ClassFile.FieldType.boolean)) ∈ W0 := W0_c tk_4 (i := 30) rfl rfl
theorem wd_751 : (Jvm.Cond.methodLink "SpongeDigestsModel" (102 : Nat) ({ cls := "SpongeDigestsModel", name := "root", desc := "(II)J" } : Jvm.MethodName)) ∈ W0 := W0_c tk_4 (i := 31) rfl rfl
theorem wd_753 : (Jvm.Cond.instanceMethod ({ cls := "SpongeDigestsModel", name := "root", desc := "(II)J" } : Jvm.MethodName)) ∈ W0 := W0_c tk_4 (i := 33) rfl rfl
theorem wd_754 : (Jvm.Cond.code ({ cls := "SpongeDigestsModel", name := "root", desc := "(II)J" } : Jvm.MethodName) prog_6_method_18_code (7 : Nat) (Option.some Jvm.ClassFile.FieldType.long)) ∈ W0 := W0_c tk_4 (i := 34) rfl rfl
theorem wd_755 : (Jvm.Cond.methodLink "SpongeDigestsModel" (94 : Nat) ({ cls := "SpongeDigestsModel", name := "above", desc := "(IJII)Z" } : Jvm.MethodName)) ∈ W0 := W0_c tk_4 (i := 35) rfl rfl
theorem wd_757 : (Jvm.Cond.instanceMethod ({ cls := "SpongeDigestsModel", name := "above", desc := "(IJII)Z" } : Jvm.MethodName)) ∈ W0 := W0_c tk_4 (i := 37) rfl rfl
theorem wd_758 : (Jvm.Cond.code ({ cls := "SpongeDigestsModel", name := "above", desc := "(IJII)Z" } : Jvm.MethodName) prog_6_method_17_code (10 : Nat) (Option.some Jvm.ClassFile.FieldType.boolean)) ∈ W0 := W0_c tk_4 (i := 38) rfl rfl
theorem wd_759 : (Jvm.Cond.constantLong "SpongeDigestsModel" (92 : Nat) (65535 : Int64)) ∈ W0 := W0_c tk_4 (i := 39) rfl rfl
theorem wd_760 : (Jvm.Cond.methodLink "SpongeDigestsModel" (106 : Nat) ({ cls := "SpongeDigestsModel", name := "bit", desc := "(I)I" } : Jvm.MethodName)) ∈ W0 := W0_c tk_4 (i := 40) rfl rfl
theorem wd_761 : (Jvm.Cond.static ({ cls := "SpongeDigestsModel", name := "bit", desc := "(I)I" } : Jvm.MethodName)) ∈ W0 := W0_c tk_4 (i := 41) rfl rfl
theorem wd_762 : (Jvm.Cond.code ({ cls := "SpongeDigestsModel", name := "bit", desc := "(I)I" } : Jvm.MethodName) prog_6_method_20_code (3 : Nat) (Option.some Jvm.ClassFile.FieldType.int)) ∈ W0 := W0_c tk_4 (i := 42) rfl rfl
theorem wd_763 : (Jvm.Cond.methodLink "SpongeDigestsModel" (110 : Nat) ({ cls := "SpongeDigestsModel", name := "named", desc := "([JII)V" } : Jvm.MethodName)) ∈ W0 := W0_c tk_4 (i := 43) rfl rfl
theorem wd_765 : (Jvm.Cond.instanceMethod ({ cls := "SpongeDigestsModel", name := "named", desc := "([JII)V" } : Jvm.MethodName)) ∈ W0 := W0_c tk_4 (i := 45) rfl rfl
theorem wd_766 : (Jvm.Cond.code ({ cls := "SpongeDigestsModel", name := "named", desc := "([JII)V" } : Jvm.MethodName) prog_6_method_21_code (5 : Nat) (Option.none : Option Jvm.ClassFile.FieldType)) ∈ W0 := W0_c tk_4 (i := 46) rfl rfl
theorem wd_767 : (Jvm.Cond.methodLink "SpongeDigestsModel" (114 : Nat) ({ cls := "SpongeDigestsModel", name := "begin", desc := "(I)V" } : Jvm.MethodName)) ∈ W0 := W0_c tk_4 (i := 47) rfl rfl
theorem wd_769 : (Jvm.Cond.instanceMethod ({ cls := "SpongeDigestsModel", name := "begin", desc := "(I)V" } : Jvm.MethodName)) ∈ W0 := W0_c tk_4 (i := 49) rfl rfl
theorem wd_770 : (Jvm.Cond.code ({ cls := "SpongeDigestsModel", name := "begin", desc := "(I)V" } : Jvm.MethodName) prog_6_method_25_code (3 : Nat) (Option.none : Option Jvm.ClassFile.FieldType)) ∈ W0 := W0_c tk_4 (i := 50) rfl rfl
theorem wd_771 : (Jvm.Cond.methodLink "SpongeDigestsModel" (135 : Nat) ({ cls := "SpongeDigestsModel", name := "digestOf", desc := "(I)I" } : Jvm.MethodName)) ∈ W0 := W0_c tk_4 (i := 51) rfl rfl
theorem wd_772 : (Jvm.Cond.static ({ cls := "SpongeDigestsModel", name := "digestOf", desc := "(I)I" } : Jvm.MethodName)) ∈ W0 := W0_c tk_4 (i := 52) rfl rfl
theorem wd_773 : (Jvm.Cond.code ({ cls := "SpongeDigestsModel", name := "digestOf", desc := "(I)I" } : Jvm.MethodName) prog_6_method_24_code (1 : Nat) (Option.some Jvm.ClassFile.FieldType.int)) ∈ W0 := W0_c tk_4 (i := 53) rfl rfl
theorem wd_774 : (Jvm.Cond.methodLink "SpongeDigestsModel" (138 : Nat) ({ cls := "SpongeDigestsModel", name := "blockOf", desc := "(I)I" } : Jvm.MethodName)) ∈ W0 := W0_c tk_4 (i := 54) rfl rfl
theorem wd_775 : (Jvm.Cond.static ({ cls := "SpongeDigestsModel", name := "blockOf", desc := "(I)I" } : Jvm.MethodName)) ∈ W0 := W0_c tk_4 (i := 55) rfl rfl
theorem wd_776 : (Jvm.Cond.code ({ cls := "SpongeDigestsModel", name := "blockOf", desc := "(I)I" } : Jvm.MethodName) prog_6_method_23_code (1 : Nat) (Option.some Jvm.ClassFile.FieldType.int)) ∈ W0 := W0_c tk_4 (i := 56) rfl rfl
theorem wd_777 : (Jvm.Cond.constantLong "SpongeDigestsModel" (144 : Nat) (4294967295 : Int64)) ∈ W0 := W0_c tk_4 (i := 57) rfl rfl
theorem wd_778 : (Jvm.Cond.constantLong "SpongeDigestsModel" (117 : Nat) (-6510615555426900571 : Int64)) ∈ W0 := W0_c tk_4 (i := 58) rfl rfl
theorem wd_779 : (Jvm.Cond.methodLink "SpongeDigestsModel" (119 : Nat) ({ cls := "SpongeDigestsModel", name := "put", desc := "(I)V" } : Jvm.MethodName)) ∈ W0 := W0_c tk_4 (i := 59) rfl rfl
theorem wd_781 : (Jvm.Cond.instanceMethod ({ cls := "SpongeDigestsModel", name := "put", desc := "(I)V" } : Jvm.MethodName)) ∈ W0 := W0_c tk_4 (i := 61) rfl rfl
theorem wd_782 : (Jvm.Cond.code ({ cls := "SpongeDigestsModel", name := "put", desc := "(I)V" } : Jvm.MethodName) prog_6_method_27_code (2 : Nat) (Option.none : Option Jvm.ClassFile.FieldType)) ∈ W0 := W0_c tk_4 (i := 62) rfl rfl
theorem wd_783 : (Jvm.Cond.methodLink "SpongeDigestsModel" (146 : Nat) ({ cls := "SpongeDigestsModel", name := "sponge", desc := "()Z" } : Jvm.MethodName)) ∈ W0 := W0_c tk_4 (i := 63) rfl rfl
theorem wd_785 : (Jvm.Cond.instanceMethod ({ cls := "SpongeDigestsModel", name := "sponge", desc := "()Z" } : Jvm.MethodName)) ∈ W0 := W0_c tk_4 (i := 65) rfl rfl
theorem wd_786 : (Jvm.Cond.code ({ cls := "SpongeDigestsModel", name := "sponge", desc := "()Z" } : Jvm.MethodName) prog_6_method_22_code (1 : Nat) (Option.some Jvm.ClassFile.FieldType.boolean)) ∈ W0 := W0_c tk_4 (i := 66) rfl rfl
theorem wd_787 : (Jvm.Cond.methodLink "SpongeDigestsModel" (150 : Nat) ({ cls := "SpongeDigestsModel", name := "flip", desc := "(II)V" } : Jvm.MethodName)) ∈ W0 := W0_c tk_4 (i := 67) rfl rfl
theorem wd_789 : (Jvm.Cond.instanceMethod ({ cls := "SpongeDigestsModel", name := "flip", desc := "(II)V" } : Jvm.MethodName)) ∈ W0 := W0_c tk_4 (i := 69) rfl rfl
theorem wd_790 : (Jvm.Cond.code ({ cls := "SpongeDigestsModel", name := "flip", desc := "(II)V" } : Jvm.MethodName) prog_6_method_26_code (3 : Nat) (Option.none : Option Jvm.ClassFile.FieldType)) ∈ W0 := W0_c tk_4 (i := 70) rfl rfl
theorem wd_791 : (Jvm.Cond.constantLong "SpongeDigestsModel" (90 : Nat) (255 : Int64)) ∈ W0 := W0_c tk_4 (i := 71) rfl rfl
theorem wd_792 : (Jvm.Cond.methodLink "SpongeDigestsModel" (154 : Nat) ({ cls := "SpongeDigestsModel", name := "permute", desc := "()V" } : Jvm.MethodName)) ∈ W0 := W0_c tk_4 (i := 72) rfl rfl
theorem wd_794 : (Jvm.Cond.instanceMethod ({ cls := "SpongeDigestsModel", name := "permute", desc := "()V" } : Jvm.MethodName)) ∈ W0 := W0_c tk_4 (i := 74) rfl rfl
theorem wd_795 : (Jvm.Cond.code ({ cls := "SpongeDigestsModel", name := "permute", desc := "()V" } : Jvm.MethodName) prog_6_method_29_code (4 : Nat) (Option.none : Option Jvm.ClassFile.FieldType)) ∈ W0 := W0_c tk_4 (i := 75) rfl rfl
theorem wd_796 : (Jvm.Cond.methodLink "SpongeDigestsModel" (163 : Nat) ({ cls := "SpongeDigestsModel", name := "left", desc := "(JI)J" } : Jvm.MethodName)) ∈ W0 := W0_c tk_4 (i := 76) rfl rfl
theorem wd_797 : (Jvm.Cond.static ({ cls := "SpongeDigestsModel", name := "left", desc := "(JI)J" } : Jvm.MethodName)) ∈ W0 := W0_c tk_4 (i := 77) rfl rfl
theorem wd_798 : (Jvm.Cond.code ({ cls := "SpongeDigestsModel", name := "left", desc := "(JI)J" } : Jvm.MethodName) prog_6_method_30_code (3 : Nat) (Option.some Jvm.ClassFile.FieldType.long)) ∈ W0 := W0_c tk_4 (i := 78) rfl rfl
theorem wd_799 : (Jvm.Cond.constantLong "SpongeDigestsModel" (167 : Nat) (-1 : Int64)) ∈ W0 := W0_c tk_4 (i := 79) rfl rfl
theorem wd_800 : (Jvm.Cond.methodLink "SpongeDigestsModel" (157 : Nat) ({ cls := "SpongeDigestsModel", name := "compress32", desc := "()V" } : Jvm.MethodName)) ∈ W0 := W0_c tk_4 (i := 80) rfl rfl
theorem wd_802 : (Jvm.Cond.instanceMethod ({ cls := "SpongeDigestsModel", name := "compress32", desc := "()V" } : Jvm.MethodName)) ∈ W0 := W0_c tk_4 (i := 82) rfl rfl
theorem wd_803 : (Jvm.Cond.code ({ cls := "SpongeDigestsModel", name := "compress32", desc := "()V" } : Jvm.MethodName) prog_6_method_34_code (12 : Nat) (Option.none : Option Jvm.ClassFile.FieldType)) ∈ W0 := W0_c tk_4 (i := 83) rfl rfl
theorem wd_804 : (Jvm.Cond.methodLink "SpongeDigestsModel" (172 : Nat) ({ cls := "SpongeDigestsModel", name := "turn", desc := "(II)I" } : Jvm.MethodName)) ∈ W0 := W0_c tk_4 (i := 84) rfl rfl
theorem wd_805 : (Jvm.Cond.static ({ cls := "SpongeDigestsModel", name := "turn", desc := "(II)I" } : Jvm.MethodName)) ∈ W0 := W0_c tk_4 (i := 85) rfl rfl
theorem wd_806 : (Jvm.Cond.code ({ cls := "SpongeDigestsModel", name := "turn", desc := "(II)I" } : Jvm.MethodName) prog_6_method_32_code (2 : Nat) (Option.some Jvm.ClassFile.FieldType.int)) ∈ W0 := W0_c tk_4 (i := 86) rfl rfl
theorem wd_807 : (Jvm.Cond.methodLink "SpongeDigestsModel" (160 : Nat) ({ cls := "SpongeDigestsModel", name := "compress64", desc := "()V" } : Jvm.MethodName)) ∈ W0 := W0_c tk_4 (i := 87) rfl rfl
theorem wd_809 : (Jvm.Cond.instanceMethod ({ cls := "SpongeDigestsModel", name := "compress64", desc := "()V" } : Jvm.MethodName)) ∈ W0 := W0_c tk_4 (i := 89) rfl rfl
theorem wd_810 : (Jvm.Cond.code ({ cls := "SpongeDigestsModel", name := "compress64", desc := "()V" } : Jvm.MethodName) prog_6_method_33_code (22 : Nat) (Option.none : Option Jvm.ClassFile.FieldType)) ∈ W0 := W0_c tk_4 (i := 90) rfl rfl
theorem wd_811 : (Jvm.Cond.methodLink "SpongeDigestsModel" (169 : Nat) ({ cls := "SpongeDigestsModel", name := "right", desc := "(JI)J" } : Jvm.MethodName)) ∈ W0 := W0_c tk_4 (i := 91) rfl rfl
theorem wd_812 : (Jvm.Cond.static ({ cls := "SpongeDigestsModel", name := "right", desc := "(JI)J" } : Jvm.MethodName)) ∈ W0 := W0_c tk_4 (i := 92) rfl rfl
theorem wd_813 : (Jvm.Cond.code ({ cls := "SpongeDigestsModel", name := "right", desc := "(JI)J" } : Jvm.MethodName) prog_6_method_31_code (3 : Nat) (Option.some Jvm.ClassFile.FieldType.long)) ∈ W0 := W0_c tk_4 (i := 93) rfl rfl
theorem wd_814 : (Jvm.Cond.methodLink "SpongeDigestsModel" (122 : Nat) ({ cls := "SpongeDigestsModel", name := "finish", desc := "()V" } : Jvm.MethodName)) ∈ W0 := W0_c tk_4 (i := 94) rfl rfl
theorem wd_816 : (Jvm.Cond.instanceMethod ({ cls := "SpongeDigestsModel", name := "finish", desc := "()V" } : Jvm.MethodName)) ∈ W0 := W0_c tk_4 (i := 96) rfl rfl
theorem wd_817 : (Jvm.Cond.code ({ cls := "SpongeDigestsModel", name := "finish", desc := "()V" } : Jvm.MethodName) prog_6_method_35_code (4 : Nat) (Option.none : Option Jvm.ClassFile.FieldType)) ∈ W0 := W0_c tk_4 (i := 97) rfl rfl
theorem wd_818 : (Jvm.Cond.constantLong "SpongeDigestsModel" (176 : Nat) (8 : Int64)) ∈ W0 := W0_c tk_4 (i := 98) rfl rfl
theorem wd_819 : (Jvm.Cond.fieldLink "SpongeDigestsModel" (9 : Nat) "SpongeDigestsModel" "tape" "[B") ∈ W0 := W0_c tk_4 (i := 99) rfl rfl
theorem wd_820 : (Jvm.Cond.fieldLink "SpongeDigestsModel" (15 : Nat) "SpongeDigestsModel" "slot" "[[B") ∈ W0 := W0_c tk_4 (i := 100) rfl rfl
theorem wd_821 : (Jvm.Cond.fieldLink "SpongeDigestsModel" (18 : Nat) "SpongeDigestsModel" "length" "[I") ∈ W0 := W0_c tk_4 (i := 101) rfl rfl
theorem wd_822 : (Jvm.Cond.fieldLink "SpongeDigestsModel" (75 : Nat) "SpongeDigestsModel" "taped" "I") ∈ W0 := W0_c tk_4 (i := 102) rfl rfl
theorem wd_823 : (Jvm.Cond.fieldLink "SpongeDigestsModel" (71 : Nat) "SpongeDigestsModel" "code" "I") ∈ W0 := W0_c tk_4 (i := 103) rfl rfl
theorem wd_824 : (Jvm.Cond.fieldLink "SpongeDigestsModel" (22 : Nat) "SpongeDigestsModel" "roots" "[J") ∈ W0 := W0_c tk_4 (i := 104) rfl rfl
theorem wd_825 : (Jvm.Cond.fieldLink "SpongeDigestsModel" (26 : Nat) "SpongeDigestsModel" "cubes" "[J") ∈ W0 := W0_c tk_4 (i := 105) rfl rfl
theorem wd_826 : (Jvm.Cond.fieldLink "SpongeDigestsModel" (29 : Nat) "SpongeDigestsModel" "start224" "[J") ∈ W0 := W0_c tk_4 (i := 106) rfl rfl
theorem wd_827 : (Jvm.Cond.fieldLink "SpongeDigestsModel" (32 : Nat) "SpongeDigestsModel" "start256" "[J") ∈ W0 := W0_c tk_4 (i := 107) rfl rfl
theorem wd_828 : (Jvm.Cond.fieldLink "SpongeDigestsModel" (35 : Nat) "SpongeDigestsModel" "limbs" "[J") ∈ W0 := W0_c tk_4 (i := 108) rfl rfl
theorem wd_829 : (Jvm.Cond.fieldLink "SpongeDigestsModel" (38 : Nat) "SpongeDigestsModel" "product" "[J") ∈ W0 := W0_c tk_4 (i := 109) rfl rfl
theorem wd_830 : (Jvm.Cond.fieldLink "SpongeDigestsModel" (41 : Nat) "SpongeDigestsModel" "turns" "[I") ∈ W0 := W0_c tk_4 (i := 110) rfl rfl
theorem wd_831 : (Jvm.Cond.fieldLink "SpongeDigestsModel" (44 : Nat) "SpongeDigestsModel" "round" "[J") ∈ W0 := W0_c tk_4 (i := 111) rfl rfl
theorem wd_832 : (Jvm.Cond.fieldLink "SpongeDigestsModel" (47 : Nat) "SpongeDigestsModel" "state" "[J") ∈ W0 := W0_c tk_4 (i := 112) rfl rfl
theorem wd_833 : (Jvm.Cond.fieldLink "SpongeDigestsModel" (50 : Nat) "SpongeDigestsModel" "other" "[J") ∈ W0 := W0_c tk_4 (i := 113) rfl rfl
theorem wd_834 : (Jvm.Cond.fieldLink "SpongeDigestsModel" (53 : Nat) "SpongeDigestsModel" "column" "[J") ∈ W0 := W0_c tk_4 (i := 114) rfl rfl
theorem wd_835 : (Jvm.Cond.fieldLink "SpongeDigestsModel" (56 : Nat) "SpongeDigestsModel" "words" "[J") ∈ W0 := W0_c tk_4 (i := 115) rfl rfl
theorem wd_836 : (Jvm.Cond.fieldLink "SpongeDigestsModel" (59 : Nat) "SpongeDigestsModel" "block" "[B") ∈ W0 := W0_c tk_4 (i := 116) rfl rfl
theorem wd_837 : (Jvm.Cond.fieldLink "SpongeDigestsModel" (125 : Nat) "SpongeDigestsModel" "kind" "I") ∈ W0 := W0_c tk_4 (i := 117) rfl rfl
theorem wd_838 : (Jvm.Cond.fieldLink "SpongeDigestsModel" (141 : Nat) "SpongeDigestsModel" "rate" "I") ∈ W0 := W0_c tk_4 (i := 118) rfl rfl
theorem wd_839 : (Jvm.Cond.fieldLink "SpongeDigestsModel" (128 : Nat) "SpongeDigestsModel" "filled" "I") ∈ W0 := W0_c tk_4 (i := 119) rfl rfl
theorem wd_840 : (Jvm.Cond.fieldLink "SpongeDigestsModel" (131 : Nat) "SpongeDigestsModel" "total" "J") ∈ W0 := W0_c tk_4 (i := 120) rfl rfl
theorem wd_841 : (Jvm.Cond.fieldLink "SpongeDigestsModel" (62 : Nat) "SpongeDigestsModel" "hashKey" "[B") ∈ W0 := W0_c tk_4 (i := 121) rfl rfl
theorem wd_842 : (Jvm.Cond.fieldLink "SpongeDigestsModel" (65 : Nat) "SpongeDigestsModel" "inner" "[B") ∈ W0 := W0_c tk_4 (i := 122) rfl rfl
theorem wd_892 : (Jvm.Cond.arrayClass Jvm.ClassFile.FieldType.int) ∈ W0 := W0_c tk_4 (i := 172) rfl rfl
theorem wd_893 : (Jvm.Cond.methodLink "SpongeDigestsLaw" (56 : Nat) ({ cls := "SpongeDigestsModel", name := "thrown", desc := "()I" } : Jvm.MethodName)) ∈ W0 := W0_c tk_4 (i := 173) rfl rfl
theorem wd_894 : (Jvm.Cond.instanceMethod ({ cls := "SpongeDigestsModel", name := "thrown", desc := "()I" } : Jvm.MethodName)) ∈ W0 := W0_c tk_4 (i := 174) rfl rfl
theorem wd_895 : (Jvm.Cond.selects "SpongeDigestsModel" ({ cls := "SpongeDigestsModel", name := "thrown", desc := "()I" } : Jvm.MethodName) ({ cls := "SpongeDigestsModel", name := "thrown", desc := "()I" } : Jvm.MethodName)) ∈ W0 := W0_c tk_4 (i := 175) rfl rfl
theorem wd_896 : (Jvm.Cond.code ({ cls := "SpongeDigestsModel", name := "thrown", desc := "()I" } : Jvm.MethodName) prog_6_method_2_code (1 : Nat) (Option.some Jvm.ClassFile.FieldType.int)) ∈ W0 := W0_c tk_4 (i := 176) rfl rfl
theorem wd_897 : (Jvm.Cond.methodLink "SpongeDigestsLaw" (55 : Nat) ({ cls := "SpongeDigestsModel", name := "feed", desc := "(IIIII)I" } : Jvm.MethodName)) ∈ W0 := W0_c tk_4 (i := 177) rfl rfl
theorem wd_898 : (Jvm.Cond.instanceMethod ({ cls := "SpongeDigestsModel", name := "feed", desc := "(IIIII)I" } : Jvm.MethodName)) ∈ W0 := W0_c tk_4 (i := 178) rfl rfl
theorem wd_899 : (Jvm.Cond.selects "SpongeDigestsModel" ({ cls := "SpongeDigestsModel", name := "feed", desc := "(IIIII)I" } : Jvm.MethodName) ({ cls := "SpongeDigestsModel", name := "feed", desc := "(IIIII)I" } : Jvm.MethodName)) ∈ W0 := W0_c tk_4 (i := 179) rfl rfl
theorem wd_900 : (Jvm.Cond.code ({ cls := "SpongeDigestsModel", name := "feed", desc := "(IIIII)I" } : Jvm.MethodName) prog_6_method_5_code (6 : Nat) (Option.some Jvm.ClassFile.FieldType.int)) ∈ W0 := W0_c tk_4 (i := 180) rfl rfl
theorem wd_901 : (Jvm.Cond.methodLink "SpongeDigestsModel" (78 : Nat) ({ cls := "SpongeDigestsModel", name := "good", desc := "(ZI)Z" } : Jvm.MethodName)) ∈ W0 := W0_c tk_4 (i := 181) rfl rfl
theorem wd_903 : (Jvm.Cond.instanceMethod ({ cls := "SpongeDigestsModel", name := "good", desc := "(ZI)Z" } : Jvm.MethodName)) ∈ W0 := W0_c tk_4 (i := 183) rfl rfl
theorem wd_904 : (Jvm.Cond.code ({ cls := "SpongeDigestsModel", name := "good", desc := "(ZI)Z" } : Jvm.MethodName) prog_6_method_4_code (3 : Nat) (Option.some Jvm.ClassFile.FieldType.boolean)) ∈ W0 := W0_c tk_4 (i := 184) rfl rfl
theorem wd_905 : (Jvm.Cond.methodLink "SpongeDigestsModel" (82 : Nat) ({ cls := "SpongeDigestsModel", name := "word", desc := "(I)V" } : Jvm.MethodName)) ∈ W0 := W0_c tk_4 (i := 185) rfl rfl
theorem wd_907 : (Jvm.Cond.instanceMethod ({ cls := "SpongeDigestsModel", name := "word", desc := "(I)V" } : Jvm.MethodName)) ∈ W0 := W0_c tk_4 (i := 187) rfl rfl
theorem wd_908 : (Jvm.Cond.code ({ cls := "SpongeDigestsModel", name := "word", desc := "(I)V" } : Jvm.MethodName) prog_6_method_6_code (3 : Nat) (Option.none : Option Jvm.ClassFile.FieldType)) ∈ W0 := W0_c tk_4 (i := 188) rfl rfl
theorem wd_909 : (Jvm.Cond.methodLink "SpongeDigestsLaw" (63 : Nat) ({ cls := "SpongeDigestsModel", name := "end", desc := "(II)I" } : Jvm.MethodName)) ∈ W0 := W0_c tk_4 (i := 189) rfl rfl
theorem wd_910 : (Jvm.Cond.instanceMethod ({ cls := "SpongeDigestsModel", name := "end", desc := "(II)I" } : Jvm.MethodName)) ∈ W0 := W0_c tk_4 (i := 190) rfl rfl
theorem wd_911 : (Jvm.Cond.selects "SpongeDigestsModel" ({ cls := "SpongeDigestsModel", name := "end", desc := "(II)I" } : Jvm.MethodName) ({ cls := "SpongeDigestsModel", name := "end", desc := "(II)I" } : Jvm.MethodName)) ∈ W0 := W0_c tk_4 (i := 191) rfl rfl
theorem wd_912 : (Jvm.Cond.code ({ cls := "SpongeDigestsModel", name := "end", desc := "(II)I" } : Jvm.MethodName) prog_6_method_7_code (4 : Nat) (Option.some Jvm.ClassFile.FieldType.int)) ∈ W0 := W0_c tk_4 (i := 192) rfl rfl
theorem wd_913 : (Jvm.Cond.methodLink "SpongeDigestsModel" (86 : Nat) ({ cls := "SpongeDigestsModel", name := "in", desc := "(III)Z" } : Jvm.MethodName)) ∈ W0 := W0_c tk_4 (i := 193) rfl rfl
theorem wd_914 : (Jvm.Cond.static ({ cls := "SpongeDigestsModel", name := "in", desc := "(III)Z" } : Jvm.MethodName)) ∈ W0 := W0_c tk_4 (i := 194) rfl rfl
theorem wd_915 : (Jvm.Cond.code ({ cls := "SpongeDigestsModel", name := "in", desc := "(III)Z" } : Jvm.MethodName) prog_6_method_3_code (3 : Nat) (Option.some Jvm.ClassFile.FieldType.boolean)) ∈ W0 := W0_c tk_4 (i := 195) rfl rfl
theorem wd_916 : (Jvm.Cond.methodLink "SpongeDigestsLaw" (66 : Nat) ({ cls := "SpongeDigestsModel", name := "copy", desc := "(II)I" } : Jvm.MethodName)) ∈ W0 := W0_c tk_4 (i := 196) rfl rfl
theorem wd_917 : (Jvm.Cond.instanceMethod ({ cls := "SpongeDigestsModel", name := "copy", desc := "(II)I" } : Jvm.MethodName)) ∈ W0 := W0_c tk_4 (i := 197) rfl rfl
theorem wd_918 : (Jvm.Cond.selects "SpongeDigestsModel" ({ cls := "SpongeDigestsModel", name := "copy", desc := "(II)I" } : Jvm.MethodName) ({ cls := "SpongeDigestsModel", name := "copy", desc := "(II)I" } : Jvm.MethodName)) ∈ W0 := W0_c tk_4 (i := 198) rfl rfl
theorem wd_919 : (Jvm.Cond.code ({ cls := "SpongeDigestsModel", name := "copy", desc := "(II)I" } : Jvm.MethodName) prog_6_method_8_code (4 : Nat) (Option.some Jvm.ClassFile.FieldType.int)) ∈ W0 := W0_c tk_4 (i := 199) rfl rfl
theorem wd_920 : (Jvm.Cond.methodLink "SpongeDigestsLaw" (69 : Nat) ({ cls := "SpongeDigestsModel", name := "resize", desc := "(II)I" } : Jvm.MethodName)) ∈ W0 := W0_c tk_4 (i := 200) rfl rfl
theorem wd_921 : (Jvm.Cond.instanceMethod ({ cls := "SpongeDigestsModel", name := "resize", desc := "(II)I" } : Jvm.MethodName)) ∈ W0 := W0_c tk_4 (i := 201) rfl rfl
theorem wd_922 : (Jvm.Cond.selects "SpongeDigestsModel" ({ cls := "SpongeDigestsModel", name := "resize", desc := "(II)I" } : Jvm.MethodName) ({ cls := "SpongeDigestsModel", name := "resize", desc := "(II)I" } : Jvm.MethodName)) ∈ W0 := W0_c tk_4 (i := 202) rfl rfl
theorem wd_923 : (Jvm.Cond.code ({ cls := "SpongeDigestsModel", name := "resize", desc := "(II)I" } : Jvm.MethodName) prog_6_method_9_code (5 : Nat) (Option.some Jvm.ClassFile.FieldType.int)) ∈ W0 := W0_c tk_4 (i := 203) rfl rfl
theorem wd_924 : (Jvm.Cond.methodLink "SpongeDigestsLaw" (73 : Nat) ({ cls := "SpongeDigestsModel", name := "alter", desc := "(III)I" } : Jvm.MethodName)) ∈ W0 := W0_c tk_4 (i := 204) rfl rfl
theorem wd_925 : (Jvm.Cond.instanceMethod ({ cls := "SpongeDigestsModel", name := "alter", desc := "(III)I" } : Jvm.MethodName)) ∈ W0 := W0_c tk_4 (i := 205) rfl rfl
theorem wd_926 : (Jvm.Cond.selects "SpongeDigestsModel" ({ cls := "SpongeDigestsModel", name := "alter", desc := "(III)I" } : Jvm.MethodName) ({ cls := "SpongeDigestsModel", name := "alter", desc := "(III)I" } : Jvm.MethodName)) ∈ W0 := W0_c tk_4 (i := 206) rfl rfl
theorem wd_927 : (Jvm.Cond.code ({ cls := "SpongeDigestsModel", name := "alter", desc := "(III)I" } : Jvm.MethodName) prog_6_method_10_code (4 : Nat) (Option.some Jvm.ClassFile.FieldType.int)) ∈ W0 := W0_c tk_4 (i := 207) rfl rfl
theorem wd_928 : (Jvm.Cond.methodLink "SpongeDigestsLaw" (77 : Nat) ({ cls := "SpongeDigestsModel", name := "length", desc := "(I)I" } : Jvm.MethodName)) ∈ W0 := W0_c tk_4 (i := 208) rfl rfl
theorem wd_929 : (Jvm.Cond.instanceMethod ({ cls := "SpongeDigestsModel", name := "length", desc := "(I)I" } : Jvm.MethodName)) ∈ W0 := W0_c tk_4 (i := 209) rfl rfl
theorem wd_930 : (Jvm.Cond.selects "SpongeDigestsModel" ({ cls := "SpongeDigestsModel", name := "length", desc := "(I)I" } : Jvm.MethodName) ({ cls := "SpongeDigestsModel", name := "length", desc := "(I)I" } : Jvm.MethodName)) ∈ W0 := W0_c tk_4 (i := 210) rfl rfl
theorem wd_931 : (Jvm.Cond.code ({ cls := "SpongeDigestsModel", name := "length", desc := "(I)I" } : Jvm.MethodName) prog_6_method_11_code (2 : Nat) (Option.some Jvm.ClassFile.FieldType.int)) ∈ W0 := W0_c tk_4 (i := 211) rfl rfl
theorem wd_932 : (Jvm.Cond.methodLink "SpongeDigestsLaw" (80 : Nat) ({ cls := "SpongeDigestsModel", name := "word", desc := "(II)J" } : Jvm.MethodName)) ∈ W0 := W0_c tk_4 (i := 212) rfl rfl
theorem wd_933 : (Jvm.Cond.instanceMethod ({ cls := "SpongeDigestsModel", name := "word", desc := "(II)J" } : Jvm.MethodName)) ∈ W0 := W0_c tk_4 (i := 213) rfl rfl
theorem wd_934 : (Jvm.Cond.selects "SpongeDigestsModel" ({ cls := "SpongeDigestsModel", name := "word", desc := "(II)J" } : Jvm.MethodName) ({ cls := "SpongeDigestsModel", name := "word", desc := "(II)J" } : Jvm.MethodName)) ∈ W0 := W0_c tk_4 (i := 214) rfl rfl
theorem wd_935 : (Jvm.Cond.code ({ cls := "SpongeDigestsModel", name := "word", desc := "(II)J" } : Jvm.MethodName) prog_6_method_12_code (6 : Nat) (Option.some Jvm.ClassFile.FieldType.long)) ∈ W0 := W0_c tk_4 (i := 215) rfl rfl
theorem wd_936 : (Jvm.Cond.methodLink "SpongeDigestsLaw" (83 : Nat) ({ cls := "SpongeDigestsModel", name := "same", desc := "(II)Z" } : Jvm.MethodName)) ∈ W0 := W0_c tk_4 (i := 216) rfl rfl
theorem wd_937 : (Jvm.Cond.instanceMethod ({ cls := "SpongeDigestsModel", name := "same", desc := "(II)Z" } : Jvm.MethodName)) ∈ W0 := W0_c tk_4 (i := 217) rfl rfl
theorem wd_938 : (Jvm.Cond.selects "SpongeDigestsModel" ({ cls := "SpongeDigestsModel", name := "same", desc := "(II)Z" } : Jvm.MethodName) ({ cls := "SpongeDigestsModel", name := "same", desc := "(II)Z" } : Jvm.MethodName)) ∈ W0 := W0_c tk_4 (i := 218) rfl rfl
theorem wd_939 : (Jvm.Cond.code ({ cls := "SpongeDigestsModel", name := "same", desc := "(II)Z" } : Jvm.MethodName) prog_6_method_13_code (5 : Nat) (Option.some Jvm.ClassFile.FieldType.boolean)) ∈ W0 := W0_c tk_4 (i := 219) rfl rfl
theorem wd_940 : (Jvm.Cond.methodLink "SpongeDigestsLaw" (86 : Nat) ({ cls := "SpongeDigestsModel", name := "digest", desc := "(II)I" } : Jvm.MethodName)) ∈ W0 := W0_c tk_4 (i := 220) rfl rfl
theorem wd_941 : (Jvm.Cond.instanceMethod ({ cls := "SpongeDigestsModel", name := "digest", desc := "(II)I" } : Jvm.MethodName)) ∈ W0 := W0_c tk_4 (i := 221) rfl rfl
theorem wd_942 : (Jvm.Cond.selects "SpongeDigestsModel" ({ cls := "SpongeDigestsModel", name := "digest", desc := "(II)I" } : Jvm.MethodName) ({ cls := "SpongeDigestsModel", name := "digest", desc := "(II)I" } : Jvm.MethodName)) ∈ W0 := W0_c tk_4 (i := 222) rfl rfl
theorem wd_943 : (Jvm.Cond.code ({ cls := "SpongeDigestsModel", name := "digest", desc := "(II)I" } : Jvm.MethodName) prog_6_method_41_code (5 : Nat) (Option.some Jvm.ClassFile.FieldType.int)) ∈ W0 := W0_c tk_4 (i := 223) rfl rfl
theorem wd_944 : (Jvm.Cond.methodLink "SpongeDigestsModel" (182 : Nat) ({ cls := "SpongeDigestsModel", name := "put", desc := "([BII)V" } : Jvm.MethodName)) ∈ W0 := W0_c tk_4 (i := 224) rfl rfl
theorem wd_946 : (Jvm.Cond.instanceMethod ({ cls := "SpongeDigestsModel", name := "put", desc := "([BII)V" } : Jvm.MethodName)) ∈ W0 := W0_c tk_4 (i := 226) rfl rfl
theorem wd_947 : (Jvm.Cond.code ({ cls := "SpongeDigestsModel", name := "put", desc := "([BII)V" } : Jvm.MethodName) prog_6_method_28_code (5 : Nat) (Option.none : Option Jvm.ClassFile.FieldType)) ∈ W0 := W0_c tk_4 (i := 227) rfl rfl
theorem wd_948 : (Jvm.Cond.methodLink "SpongeDigestsModel" (185 : Nat) ({ cls := "SpongeDigestsModel", name := "give", desc := "([BII)V" } : Jvm.MethodName)) ∈ W0 := W0_c tk_4 (i := 228) rfl rfl
theorem wd_950 : (Jvm.Cond.instanceMethod ({ cls := "SpongeDigestsModel", name := "give", desc := "([BII)V" } : Jvm.MethodName)) ∈ W0 := W0_c tk_4 (i := 230) rfl rfl
theorem wd_951 : (Jvm.Cond.code ({ cls := "SpongeDigestsModel", name := "give", desc := "([BII)V" } : Jvm.MethodName) prog_6_method_37_code (5 : Nat) (Option.none : Option Jvm.ClassFile.FieldType)) ∈ W0 := W0_c tk_4 (i := 231) rfl rfl
theorem wd_952 : (Jvm.Cond.methodLink "SpongeDigestsModel" (178 : Nat) ({ cls := "SpongeDigestsModel", name := "squeeze", desc := "()I" } : Jvm.MethodName)) ∈ W0 := W0_c tk_4 (i := 232) rfl rfl
theorem wd_954 : (Jvm.Cond.instanceMethod ({ cls := "SpongeDigestsModel", name := "squeeze", desc := "()I" } : Jvm.MethodName)) ∈ W0 := W0_c tk_4 (i := 234) rfl rfl
theorem wd_955 : (Jvm.Cond.code ({ cls := "SpongeDigestsModel", name := "squeeze", desc := "()I" } : Jvm.MethodName) prog_6_method_36_code (2 : Nat) (Option.some Jvm.ClassFile.FieldType.int)) ∈ W0 := W0_c tk_4 (i := 235) rfl rfl
theorem wd_956 : (Jvm.Cond.methodLink "SpongeDigestsModel" (192 : Nat) ({ cls := "SpongeDigestsModel", name := "startMac", desc := "(I[BII)V" } : Jvm.MethodName)) ∈ W0 := W0_c tk_4 (i := 236) rfl rfl
theorem wd_958 : (Jvm.Cond.instanceMethod ({ cls := "SpongeDigestsModel", name := "startMac", desc := "(I[BII)V" } : Jvm.MethodName)) ∈ W0 := W0_c tk_4 (i := 238) rfl rfl
theorem wd_959 : (Jvm.Cond.code ({ cls := "SpongeDigestsModel", name := "startMac", desc := "(I[BII)V" } : Jvm.MethodName) prog_6_method_38_code (7 : Nat) (Option.none : Option Jvm.ClassFile.FieldType)) ∈ W0 := W0_c tk_4 (i := 239) rfl rfl
theorem wd_960 : (Jvm.Cond.methodLink "SpongeDigestsModel" (188 : Nat) ({ cls := "SpongeDigestsModel", name := "move", desc := "([BI[BII)V" } : Jvm.MethodName)) ∈ W0 := W0_c tk_5 (i := 0) rfl rfl
theorem wd_961 : (Jvm.Cond.static ({ cls := "SpongeDigestsModel", name := "move", desc := "([BI[BII)V" } : Jvm.MethodName)) ∈ W0 := W0_c tk_5 (i := 1) rfl rfl
theorem wd_962 : (Jvm.Cond.code ({ cls := "SpongeDigestsModel", name := "move", desc := "([BI[BII)V" } : Jvm.MethodName) prog_6_method_14_code (6 : Nat) (Option.none : Option Jvm.ClassFile.FieldType)) ∈ W0 := W0_c tk_5 (i := 2) rfl rfl
theorem wd_963 : (Jvm.Cond.methodLink "SpongeDigestsModel" (196 : Nat) ({ cls := "SpongeDigestsModel", name := "endMac", desc := "(I[BII)V" } : Jvm.MethodName)) ∈ W0 := W0_c tk_5 (i := 3) rfl rfl
theorem wd_965 : (Jvm.Cond.instanceMethod ({ cls := "SpongeDigestsModel", name := "endMac", desc := "(I[BII)V" } : Jvm.MethodName)) ∈ W0 := W0_c tk_5 (i := 5) rfl rfl
theorem wd_966 : (Jvm.Cond.code ({ cls := "SpongeDigestsModel", name := "endMac", desc := "(I[BII)V" } : Jvm.MethodName) prog_6_method_39_code (7 : Nat) (Option.none : Option Jvm.ClassFile.FieldType)) ∈ W0 := W0_c tk_5 (i := 6) rfl rfl
theorem wd_967 : (Jvm.Cond.methodLink "SpongeDigestsModel" (199 : Nat) ({ cls := "SpongeDigestsModel", name := "mask", desc := "(I[BI[BII)V" } : Jvm.MethodName)) ∈ W0 := W0_c tk_5 (i := 7) rfl rfl
theorem wd_969 : (Jvm.Cond.instanceMethod ({ cls := "SpongeDigestsModel", name := "mask", desc := "(I[BI[BII)V" } : Jvm.MethodName)) ∈ W0 := W0_c tk_5 (i := 9) rfl rfl
theorem wd_970 : (Jvm.Cond.code ({ cls := "SpongeDigestsModel", name := "mask", desc := "(I[BI[BII)V" } : Jvm.MethodName) prog_6_method_40_code (10 : Nat) (Option.none : Option Jvm.ClassFile.FieldType)) ∈ W0 := W0_c tk_5 (i := 10) rfl rfl
theorem wn_0 : (Jvm.Cond.methodLinkNest "SpongeDigests" (15 : Nat) ({ cls := "SpongeDigests$Bytes", name := "<init>", desc := "()V" } : Jvm.MethodName) "SpongeDigests") ∈ nestWords := List.mem_of_getElem? (i := 0) rfl
theorem wn_1 : (Jvm.Cond.fieldLinkNest "SpongeDigests" (100 : Nat) "SpongeDigests$Bytes" "data" "[B" "SpongeDigests") ∈ nestWords := List.mem_of_getElem? (i := 1) rfl
theorem wn_2 : (Jvm.Cond.fieldLinkNest "SpongeDigests" (66 : Nat) "SpongeDigests$Bytes" "size" "I" "SpongeDigests") ∈ nestWords := List.mem_of_getElem? (i := 2) rfl
theorem wn_3 : (Jvm.Cond.methodLinkNest "SpongeDigests" (22 : Nat) ({ cls := "SpongeDigests$Sponge", name := "<init>", desc := "()V" } : Jvm.MethodName) "SpongeDigests") ∈ nestWords := List.mem_of_getElem? (i := 3) rfl
theorem wn_4 : (Jvm.Cond.methodLinkNest "SpongeDigests" (33 : Nat) ({ cls := "SpongeDigests$BlockHash", name := "<init>", desc := "(II[I)V" } : Jvm.MethodName) "SpongeDigests") ∈ nestWords := List.mem_of_getElem? (i := 4) rfl
theorem wn_5 : (Jvm.Cond.fieldLinkNest "SpongeDigests" (46 : Nat) "SpongeDigests$BlockHash" "blockBytes" "I" "SpongeDigests") ∈ nestWords := List.mem_of_getElem? (i := 5) rfl
theorem wn_6 : (Jvm.Cond.fieldLinkNest "SpongeDigests" (57 : Nat) "SpongeDigests$BlockHash" "resultBytes" "I" "SpongeDigests") ∈ nestWords := List.mem_of_getElem? (i := 6) rfl
theorem wn_7 : (Jvm.Cond.methodLinkNest "SpongeDigests" (76 : Nat) ({ cls := "SpongeDigests$Bytes", name := "append", desc := "(I)V" } : Jvm.MethodName) "SpongeDigests") ∈ nestWords := List.mem_of_getElem? (i := 7) rfl
theorem wn_8 : (Jvm.Cond.methodLinkNest "SpongeDigests" (90 : Nat) ({ cls := "SpongeDigests$Bytes", name := "take", desc := "(LSpongeDigests$Bytes;I)V" } : Jvm.MethodName) "SpongeDigests") ∈ nestWords := List.mem_of_getElem? (i := 8) rfl
theorem wn_9 : (Jvm.Cond.methodLinkNest "SpongeDigests" (94 : Nat) ({ cls := "SpongeDigests$Bytes", name := "cutOrFill", desc := "(I)V" } : Jvm.MethodName) "SpongeDigests") ∈ nestWords := List.mem_of_getElem? (i := 9) rfl
theorem wn_10 : (Jvm.Cond.methodLinkNest "SpongeDigests" (103 : Nat) ({ cls := "SpongeDigests$Bytes", name := "eightFrom", desc := "(I)J" } : Jvm.MethodName) "SpongeDigests") ∈ nestWords := List.mem_of_getElem? (i := 10) rfl
theorem wn_11 : (Jvm.Cond.methodLinkNest "SpongeDigests" (107 : Nat) ({ cls := "SpongeDigests$Bytes", name := "matches", desc := "(LSpongeDigests$Bytes;)Z" } : Jvm.MethodName) "SpongeDigests") ∈ nestWords := List.mem_of_getElem? (i := 11) rfl
theorem wn_12 : (Jvm.Cond.methodLinkNest "SpongeDigests" (151 : Nat) ({ cls := "SpongeDigests$BlockHash", name := "begin", desc := "([J)V" } : Jvm.MethodName) "SpongeDigests") ∈ nestWords := List.mem_of_getElem? (i := 12) rfl
theorem wn_13 : (Jvm.Cond.methodLinkNest "SpongeDigests" (155 : Nat) ({ cls := "SpongeDigests$BlockHash", name := "absorb", desc := "([BII)V" } : Jvm.MethodName) "SpongeDigests") ∈ nestWords := List.mem_of_getElem? (i := 13) rfl
theorem wn_14 : (Jvm.Cond.fieldLinkNest "SpongeDigests$BlockHash" (84 : Nat) "SpongeDigests" "CUBE_ROOTS" "[J" "SpongeDigests") ∈ nestWords := List.mem_of_getElem? (i := 14) rfl
theorem wn_15 : (Jvm.Cond.methodLinkNest "SpongeDigests" (159 : Nat) ({ cls := "SpongeDigests$BlockHash", name := "finish", desc := "([BII)V" } : Jvm.MethodName) "SpongeDigests") ∈ nestWords := List.mem_of_getElem? (i := 15) rfl
theorem wn_16 : (Jvm.Cond.methodLinkNest "SpongeDigests" (162 : Nat) ({ cls := "SpongeDigests$Sponge", name := "absorb", desc := "(II[BI)V" } : Jvm.MethodName) "SpongeDigests") ∈ nestWords := List.mem_of_getElem? (i := 16) rfl
theorem wn_17 : (Jvm.Cond.fieldLinkNest "SpongeDigests$Sponge" (50 : Nat) "SpongeDigests" "LANE_TARGETS" "[I" "SpongeDigests") ∈ nestWords := List.mem_of_getElem? (i := 17) rfl
theorem wn_18 : (Jvm.Cond.fieldLinkNest "SpongeDigests$Sponge" (54 : Nat) "SpongeDigests" "LANE_TURNS" "[I" "SpongeDigests") ∈ nestWords := List.mem_of_getElem? (i := 18) rfl
theorem wn_19 : (Jvm.Cond.fieldLinkNest "SpongeDigests$Sponge" (43 : Nat) "SpongeDigests" "ROUND_CONSTANTS" "[J" "SpongeDigests") ∈ nestWords := List.mem_of_getElem? (i := 19) rfl
theorem wn_20 : (Jvm.Cond.methodLinkNest "SpongeDigests" (165 : Nat) ({ cls := "SpongeDigests$Sponge", name := "squeeze", desc := "(I[BI)V" } : Jvm.MethodName) "SpongeDigests") ∈ nestWords := List.mem_of_getElem? (i := 20) rfl
theorem wn_21 : (Jvm.Cond.methodLinkNest "SpongeDigests" (187 : Nat) ({ cls := "SpongeDigests$BlockHash", name := "setMark", desc := "()V" } : Jvm.MethodName) "SpongeDigests") ∈ nestWords := List.mem_of_getElem? (i := 21) rfl
theorem wn_22 : (Jvm.Cond.methodLinkNest "SpongeDigests" (199 : Nat) ({ cls := "SpongeDigests$BlockHash", name := "goToMark", desc := "()V" } : Jvm.MethodName) "SpongeDigests") ∈ nestWords := List.mem_of_getElem? (i := 22) rfl
end
section
abbrev b_D_init : ByteArray := prog_1_method_1_code
def y_D_init : MethodName := ⟨R_D, "<init>", "()V"⟩
theorem hd_D_init : y_D_init.cls ≠ "java/lang/invoke/MethodHandle" ∧ y_D_init.cls ≠ "java/lang/invoke/VarHandle" ∧ (parseMethodDescriptor y_D_init.desc).map (fun d => d.parameters.length) = some 0 := by decide +kernel
abbrev b_Y_init : ByteArray := prog_3_method_1_code
def y_Y_init : MethodName := ⟨R_Y, "<init>", "()V"⟩
theorem hd_Y_init : y_Y_init.cls ≠ "java/lang/invoke/MethodHandle" ∧ y_Y_init.cls ≠ "java/lang/invoke/VarHandle" ∧ (parseMethodDescriptor y_Y_init.desc).map (fun d => d.parameters.length) = some 0 := by decide +kernel
abbrev b_P_init : ByteArray := prog_4_method_1_code
def y_P_init : MethodName := ⟨R_P, "<init>", "()V"⟩
theorem hd_P_init : y_P_init.cls ≠ "java/lang/invoke/MethodHandle" ∧ y_P_init.cls ≠ "java/lang/invoke/VarHandle" ∧ (parseMethodDescriptor y_P_init.desc).map (fun d => d.parameters.length) = some 0 := by decide +kernel
abbrev b_H_init : ByteArray := prog_2_method_1_code
def y_H_init : MethodName := ⟨R_H, "<init>", "(II[I)V"⟩
theorem hd_H_init : y_H_init.cls ≠ "java/lang/invoke/MethodHandle" ∧ y_H_init.cls ≠ "java/lang/invoke/VarHandle" ∧ (parseMethodDescriptor y_H_init.desc).map (fun d => d.parameters.length) = some 3 := by decide +kernel
abbrev b_L_feed : ByteArray := method_3_code
def y_L_feed : MethodName := ⟨R_L, "feed", "(LSpongeDigests;IIIII[J)I"⟩
theorem hd_L_feed : y_L_feed.cls ≠ "java/lang/invoke/MethodHandle" ∧ y_L_feed.cls ≠ "java/lang/invoke/VarHandle" ∧ (parseMethodDescriptor y_L_feed.desc).map (fun d => d.parameters.length) = some 7 := by decide +kernel
abbrev b_D_feed : ByteArray := prog_1_method_2_code
def y_D_feed : MethodName := ⟨R_D, "feed", "(IIIII)I"⟩
theorem hd_D_feed : y_D_feed.cls ≠ "java/lang/invoke/MethodHandle" ∧ y_D_feed.cls ≠ "java/lang/invoke/VarHandle" ∧ (parseMethodDescriptor y_D_feed.desc).map (fun d => d.parameters.length) = some 5 := by decide +kernel
abbrev b_Y_append : ByteArray := prog_3_method_2_code
def y_Y_append : MethodName := ⟨R_Y, "append", "(I)V"⟩
theorem hd_Y_append : y_Y_append.cls ≠ "java/lang/invoke/MethodHandle" ∧ y_Y_append.cls ≠ "java/lang/invoke/VarHandle" ∧ (parseMethodDescriptor y_Y_append.desc).map (fun d => d.parameters.length) = some 1 := by decide +kernel
abbrev b_L_end : ByteArray := method_4_code
def y_L_end : MethodName := ⟨R_L, "end", "(LSpongeDigests;II[J)I"⟩
theorem hd_L_end : y_L_end.cls ≠ "java/lang/invoke/MethodHandle" ∧ y_L_end.cls ≠ "java/lang/invoke/VarHandle" ∧ (parseMethodDescriptor y_L_end.desc).map (fun d => d.parameters.length) = some 4 := by decide +kernel
abbrev b_D_end : ByteArray := prog_1_method_3_code
def y_D_end : MethodName := ⟨R_D, "end", "(II)I"⟩
theorem hd_D_end : y_D_end.cls ≠ "java/lang/invoke/MethodHandle" ∧ y_D_end.cls ≠ "java/lang/invoke/VarHandle" ∧ (parseMethodDescriptor y_D_end.desc).map (fun d => d.parameters.length) = some 2 := by decide +kernel
abbrev b_D_slotAt : ByteArray := prog_1_method_11_code
def y_D_slotAt : MethodName := ⟨R_D, "slotAt", "(I)LSpongeDigests$Bytes;"⟩
theorem hd_D_slotAt : y_D_slotAt.cls ≠ "java/lang/invoke/MethodHandle" ∧ y_D_slotAt.cls ≠ "java/lang/invoke/VarHandle" ∧ (parseMethodDescriptor y_D_slotAt.desc).map (fun d => d.parameters.length) = some 1 := by decide +kernel
abbrev b_D_requireWithin : ByteArray := prog_1_method_12_code
def y_D_requireWithin : MethodName := ⟨R_D, "requireWithin", "(III)V"⟩
theorem hd_D_requireWithin : y_D_requireWithin.cls ≠ "java/lang/invoke/MethodHandle" ∧ y_D_requireWithin.cls ≠ "java/lang/invoke/VarHandle" ∧ (parseMethodDescriptor y_D_requireWithin.desc).map (fun d => d.parameters.length) = some 3 := by decide +kernel
abbrev b_Y_take : ByteArray := prog_3_method_3_code
def y_Y_take : MethodName := ⟨R_Y, "take", "(LSpongeDigests$Bytes;I)V"⟩
theorem hd_Y_take : y_Y_take.cls ≠ "java/lang/invoke/MethodHandle" ∧ y_Y_take.cls ≠ "java/lang/invoke/VarHandle" ∧ (parseMethodDescriptor y_Y_take.desc).map (fun d => d.parameters.length) = some 2 := by decide +kernel
abbrev b_L_copy : ByteArray := method_5_code
def y_L_copy : MethodName := ⟨R_L, "copy", "(LSpongeDigests;II[J)I"⟩
theorem hd_L_copy : y_L_copy.cls ≠ "java/lang/invoke/MethodHandle" ∧ y_L_copy.cls ≠ "java/lang/invoke/VarHandle" ∧ (parseMethodDescriptor y_L_copy.desc).map (fun d => d.parameters.length) = some 4 := by decide +kernel
abbrev b_D_copy : ByteArray := prog_1_method_4_code
def y_D_copy : MethodName := ⟨R_D, "copy", "(II)I"⟩
theorem hd_D_copy : y_D_copy.cls ≠ "java/lang/invoke/MethodHandle" ∧ y_D_copy.cls ≠ "java/lang/invoke/VarHandle" ∧ (parseMethodDescriptor y_D_copy.desc).map (fun d => d.parameters.length) = some 2 := by decide +kernel
abbrev b_L_resize : ByteArray := method_6_code
def y_L_resize : MethodName := ⟨R_L, "resize", "(LSpongeDigests;II[J)I"⟩
theorem hd_L_resize : y_L_resize.cls ≠ "java/lang/invoke/MethodHandle" ∧ y_L_resize.cls ≠ "java/lang/invoke/VarHandle" ∧ (parseMethodDescriptor y_L_resize.desc).map (fun d => d.parameters.length) = some 4 := by decide +kernel
abbrev b_D_resize : ByteArray := prog_1_method_5_code
def y_D_resize : MethodName := ⟨R_D, "resize", "(II)I"⟩
theorem hd_D_resize : y_D_resize.cls ≠ "java/lang/invoke/MethodHandle" ∧ y_D_resize.cls ≠ "java/lang/invoke/VarHandle" ∧ (parseMethodDescriptor y_D_resize.desc).map (fun d => d.parameters.length) = some 2 := by decide +kernel
abbrev b_Y_cutOrFill : ByteArray := prog_3_method_4_code
def y_Y_cutOrFill : MethodName := ⟨R_Y, "cutOrFill", "(I)V"⟩
theorem hd_Y_cutOrFill : y_Y_cutOrFill.cls ≠ "java/lang/invoke/MethodHandle" ∧ y_Y_cutOrFill.cls ≠ "java/lang/invoke/VarHandle" ∧ (parseMethodDescriptor y_Y_cutOrFill.desc).map (fun d => d.parameters.length) = some 1 := by decide +kernel
abbrev b_J_fill : ByteArray := prog_22_method_110_code
def y_J_fill : MethodName := ⟨"java/util/Arrays", "fill", "([BIIB)V"⟩
theorem hd_J_fill : y_J_fill.cls ≠ "java/lang/invoke/MethodHandle" ∧ y_J_fill.cls ≠ "java/lang/invoke/VarHandle" ∧ (parseMethodDescriptor y_J_fill.desc).map (fun d => d.parameters.length) = some 4 := by decide +kernel
abbrev b_J_rangeCheck : ByteArray := prog_22_method_30_code
def y_J_rangeCheck : MethodName := ⟨"java/util/Arrays", "rangeCheck", "(III)V"⟩
theorem hd_J_rangeCheck : y_J_rangeCheck.cls ≠ "java/lang/invoke/MethodHandle" ∧ y_J_rangeCheck.cls ≠ "java/lang/invoke/VarHandle" ∧ (parseMethodDescriptor y_J_rangeCheck.desc).map (fun d => d.parameters.length) = some 3 := by decide +kernel
abbrev b_L_alter : ByteArray := method_7_code
def y_L_alter : MethodName := ⟨R_L, "alter", "(LSpongeDigests;III[J)I"⟩
theorem hd_L_alter : y_L_alter.cls ≠ "java/lang/invoke/MethodHandle" ∧ y_L_alter.cls ≠ "java/lang/invoke/VarHandle" ∧ (parseMethodDescriptor y_L_alter.desc).map (fun d => d.parameters.length) = some 5 := by decide +kernel
abbrev b_D_alter : ByteArray := prog_1_method_6_code
def y_D_alter : MethodName := ⟨R_D, "alter", "(III)I"⟩
theorem hd_D_alter : y_D_alter.cls ≠ "java/lang/invoke/MethodHandle" ∧ y_D_alter.cls ≠ "java/lang/invoke/VarHandle" ∧ (parseMethodDescriptor y_D_alter.desc).map (fun d => d.parameters.length) = some 3 := by decide +kernel
abbrev b_D_requirePlace : ByteArray := prog_1_method_13_code
def y_D_requirePlace : MethodName := ⟨R_D, "requirePlace", "(LSpongeDigests$Bytes;I)V"⟩
theorem hd_D_requirePlace : y_D_requirePlace.cls ≠ "java/lang/invoke/MethodHandle" ∧ y_D_requirePlace.cls ≠ "java/lang/invoke/VarHandle" ∧ (parseMethodDescriptor y_D_requirePlace.desc).map (fun d => d.parameters.length) = some 2 := by decide +kernel
abbrev b_L_length : ByteArray := method_8_code
def y_L_length : MethodName := ⟨R_L, "length", "(LSpongeDigests;I[J)I"⟩
theorem hd_L_length : y_L_length.cls ≠ "java/lang/invoke/MethodHandle" ∧ y_L_length.cls ≠ "java/lang/invoke/VarHandle" ∧ (parseMethodDescriptor y_L_length.desc).map (fun d => d.parameters.length) = some 3 := by decide +kernel
abbrev b_D_length : ByteArray := prog_1_method_7_code
def y_D_length : MethodName := ⟨R_D, "length", "(I)I"⟩
theorem hd_D_length : y_D_length.cls ≠ "java/lang/invoke/MethodHandle" ∧ y_D_length.cls ≠ "java/lang/invoke/VarHandle" ∧ (parseMethodDescriptor y_D_length.desc).map (fun d => d.parameters.length) = some 1 := by decide +kernel
abbrev b_L_word : ByteArray := method_9_code
def y_L_word : MethodName := ⟨R_L, "word", "(LSpongeDigests;II[J)I"⟩
theorem hd_L_word : y_L_word.cls ≠ "java/lang/invoke/MethodHandle" ∧ y_L_word.cls ≠ "java/lang/invoke/VarHandle" ∧ (parseMethodDescriptor y_L_word.desc).map (fun d => d.parameters.length) = some 4 := by decide +kernel
abbrev b_D_word : ByteArray := prog_1_method_8_code
def y_D_word : MethodName := ⟨R_D, "word", "(II)J"⟩
theorem hd_D_word : y_D_word.cls ≠ "java/lang/invoke/MethodHandle" ∧ y_D_word.cls ≠ "java/lang/invoke/VarHandle" ∧ (parseMethodDescriptor y_D_word.desc).map (fun d => d.parameters.length) = some 2 := by decide +kernel
abbrev b_Y_eightFrom : ByteArray := prog_3_method_5_code
def y_Y_eightFrom : MethodName := ⟨R_Y, "eightFrom", "(I)J"⟩
theorem hd_Y_eightFrom : y_Y_eightFrom.cls ≠ "java/lang/invoke/MethodHandle" ∧ y_Y_eightFrom.cls ≠ "java/lang/invoke/VarHandle" ∧ (parseMethodDescriptor y_Y_eightFrom.desc).map (fun d => d.parameters.length) = some 1 := by decide +kernel
abbrev b_L_same : ByteArray := method_10_code
def y_L_same : MethodName := ⟨R_L, "same", "(LSpongeDigests;II[J)I"⟩
theorem hd_L_same : y_L_same.cls ≠ "java/lang/invoke/MethodHandle" ∧ y_L_same.cls ≠ "java/lang/invoke/VarHandle" ∧ (parseMethodDescriptor y_L_same.desc).map (fun d => d.parameters.length) = some 4 := by decide +kernel
abbrev b_D_same : ByteArray := prog_1_method_9_code
def y_D_same : MethodName := ⟨R_D, "same", "(II)Z"⟩
theorem hd_D_same : y_D_same.cls ≠ "java/lang/invoke/MethodHandle" ∧ y_D_same.cls ≠ "java/lang/invoke/VarHandle" ∧ (parseMethodDescriptor y_D_same.desc).map (fun d => d.parameters.length) = some 2 := by decide +kernel
abbrev b_Y_matches : ByteArray := prog_3_method_6_code
def y_Y_matches : MethodName := ⟨R_Y, "matches", "(LSpongeDigests$Bytes;)Z"⟩
theorem hd_Y_matches : y_Y_matches.cls ≠ "java/lang/invoke/MethodHandle" ∧ y_Y_matches.cls ≠ "java/lang/invoke/VarHandle" ∧ (parseMethodDescriptor y_Y_matches.desc).map (fun d => d.parameters.length) = some 1 := by decide +kernel
abbrev b_L_digest : ByteArray := method_11_code
def y_L_digest : MethodName := ⟨R_L, "digest", "(LSpongeDigests;II[J)I"⟩
theorem hd_L_digest : y_L_digest.cls ≠ "java/lang/invoke/MethodHandle" ∧ y_L_digest.cls ≠ "java/lang/invoke/VarHandle" ∧ (parseMethodDescriptor y_L_digest.desc).map (fun d => d.parameters.length) = some 4 := by decide +kernel
abbrev b_D_digest : ByteArray := prog_1_method_10_code
def y_D_digest : MethodName := ⟨R_D, "digest", "(II)I"⟩
theorem hd_D_digest : y_D_digest.cls ≠ "java/lang/invoke/MethodHandle" ∧ y_D_digest.cls ≠ "java/lang/invoke/VarHandle" ∧ (parseMethodDescriptor y_D_digest.desc).map (fun d => d.parameters.length) = some 2 := by decide +kernel
abbrev b_D_hashInBlocks : ByteArray := prog_1_method_14_code
def y_D_hashInBlocks : MethodName := ⟨R_D, "hashInBlocks", "(LSpongeDigests$BlockHash;[JI)V"⟩
theorem hd_D_hashInBlocks : y_D_hashInBlocks.cls ≠ "java/lang/invoke/MethodHandle" ∧ y_D_hashInBlocks.cls ≠ "java/lang/invoke/VarHandle" ∧ (parseMethodDescriptor y_D_hashInBlocks.desc).map (fun d => d.parameters.length) = some 3 := by decide +kernel
abbrev b_H_begin : ByteArray := prog_2_method_2_code
def y_H_begin : MethodName := ⟨R_H, "begin", "([J)V"⟩
theorem hd_H_begin : y_H_begin.cls ≠ "java/lang/invoke/MethodHandle" ∧ y_H_begin.cls ≠ "java/lang/invoke/VarHandle" ∧ (parseMethodDescriptor y_H_begin.desc).map (fun d => d.parameters.length) = some 1 := by decide +kernel
abbrev b_H_absorb : ByteArray := prog_2_method_3_code
def y_H_absorb : MethodName := ⟨R_H, "absorb", "([BII)V"⟩
theorem hd_H_absorb : y_H_absorb.cls ≠ "java/lang/invoke/MethodHandle" ∧ y_H_absorb.cls ≠ "java/lang/invoke/VarHandle" ∧ (parseMethodDescriptor y_H_absorb.desc).map (fun d => d.parameters.length) = some 3 := by decide +kernel
abbrev b_H_compress : ByteArray := prog_2_method_8_code
def y_H_compress : MethodName := ⟨R_H, "compress", "()V"⟩
theorem hd_H_compress : y_H_compress.cls ≠ "java/lang/invoke/MethodHandle" ∧ y_H_compress.cls ≠ "java/lang/invoke/VarHandle" ∧ (parseMethodDescriptor y_H_compress.desc).map (fun d => d.parameters.length) = some 0 := by decide +kernel
abbrev b_H_fillSchedule : ByteArray := prog_2_method_10_code
def y_H_fillSchedule : MethodName := ⟨R_H, "fillSchedule", "()V"⟩
theorem hd_H_fillSchedule : y_H_fillSchedule.cls ≠ "java/lang/invoke/MethodHandle" ∧ y_H_fillSchedule.cls ≠ "java/lang/invoke/VarHandle" ∧ (parseMethodDescriptor y_H_fillSchedule.desc).map (fun d => d.parameters.length) = some 0 := by decide +kernel
abbrev b_H_twoTurnsAndShift : ByteArray := prog_2_method_12_code
def y_H_twoTurnsAndShift : MethodName := ⟨R_H, "twoTurnsAndShift", "(JI)J"⟩
theorem hd_H_twoTurnsAndShift : y_H_twoTurnsAndShift.cls ≠ "java/lang/invoke/MethodHandle" ∧ y_H_twoTurnsAndShift.cls ≠ "java/lang/invoke/VarHandle" ∧ (parseMethodDescriptor y_H_twoTurnsAndShift.desc).map (fun d => d.parameters.length) = some 2 := by decide +kernel
abbrev b_H_rotr : ByteArray := prog_2_method_13_code
def y_H_rotr : MethodName := ⟨R_H, "rotr", "(JI)J"⟩
theorem hd_H_rotr : y_H_rotr.cls ≠ "java/lang/invoke/MethodHandle" ∧ y_H_rotr.cls ≠ "java/lang/invoke/VarHandle" ∧ (parseMethodDescriptor y_H_rotr.desc).map (fun d => d.parameters.length) = some 2 := by decide +kernel
abbrev b_H_threeTurns : ByteArray := prog_2_method_11_code
def y_H_threeTurns : MethodName := ⟨R_H, "threeTurns", "(JI)J"⟩
theorem hd_H_threeTurns : y_H_threeTurns.cls ≠ "java/lang/invoke/MethodHandle" ∧ y_H_threeTurns.cls ≠ "java/lang/invoke/VarHandle" ∧ (parseMethodDescriptor y_H_threeTurns.desc).map (fun d => d.parameters.length) = some 2 := by decide +kernel
abbrev b_H_addToState : ByteArray := prog_2_method_9_code
def y_H_addToState : MethodName := ⟨R_H, "addToState", "(IJJJJ)V"⟩
theorem hd_H_addToState : y_H_addToState.cls ≠ "java/lang/invoke/MethodHandle" ∧ y_H_addToState.cls ≠ "java/lang/invoke/VarHandle" ∧ (parseMethodDescriptor y_H_addToState.desc).map (fun d => d.parameters.length) = some 5 := by decide +kernel
abbrev b_H_finish : ByteArray := prog_2_method_6_code
def y_H_finish : MethodName := ⟨R_H, "finish", "([BII)V"⟩
theorem hd_H_finish : y_H_finish.cls ≠ "java/lang/invoke/MethodHandle" ∧ y_H_finish.cls ≠ "java/lang/invoke/VarHandle" ∧ (parseMethodDescriptor y_H_finish.desc).map (fun d => d.parameters.length) = some 3 := by decide +kernel
abbrev b_H_writeState : ByteArray := prog_2_method_7_code
def y_H_writeState : MethodName := ⟨R_H, "writeState", "([BII)V"⟩
theorem hd_H_writeState : y_H_writeState.cls ≠ "java/lang/invoke/MethodHandle" ∧ y_H_writeState.cls ≠ "java/lang/invoke/VarHandle" ∧ (parseMethodDescriptor y_H_writeState.desc).map (fun d => d.parameters.length) = some 3 := by decide +kernel
abbrev b_D_hashInSponge : ByteArray := prog_1_method_15_code
def y_D_hashInSponge : MethodName := ⟨R_D, "hashInSponge", "(III)V"⟩
theorem hd_D_hashInSponge : y_D_hashInSponge.cls ≠ "java/lang/invoke/MethodHandle" ∧ y_D_hashInSponge.cls ≠ "java/lang/invoke/VarHandle" ∧ (parseMethodDescriptor y_D_hashInSponge.desc).map (fun d => d.parameters.length) = some 3 := by decide +kernel
abbrev b_P_absorb : ByteArray := prog_4_method_2_code
def y_P_absorb : MethodName := ⟨R_P, "absorb", "(II[BI)V"⟩
theorem hd_P_absorb : y_P_absorb.cls ≠ "java/lang/invoke/MethodHandle" ∧ y_P_absorb.cls ≠ "java/lang/invoke/VarHandle" ∧ (parseMethodDescriptor y_P_absorb.desc).map (fun d => d.parameters.length) = some 4 := by decide +kernel
abbrev b_J_fill2 : ByteArray := prog_22_method_101_code
def y_J_fill2 : MethodName := ⟨"java/util/Arrays", "fill", "([JJ)V"⟩
theorem hd_J_fill2 : y_J_fill2.cls ≠ "java/lang/invoke/MethodHandle" ∧ y_J_fill2.cls ≠ "java/lang/invoke/VarHandle" ∧ (parseMethodDescriptor y_J_fill2.desc).map (fun d => d.parameters.length) = some 2 := by decide +kernel
abbrev b_P_mixIn : ByteArray := prog_4_method_4_code
def y_P_mixIn : MethodName := ⟨R_P, "mixIn", "(II)V"⟩
theorem hd_P_mixIn : y_P_mixIn.cls ≠ "java/lang/invoke/MethodHandle" ∧ y_P_mixIn.cls ≠ "java/lang/invoke/VarHandle" ∧ (parseMethodDescriptor y_P_mixIn.desc).map (fun d => d.parameters.length) = some 2 := by decide +kernel
abbrev b_P_permute : ByteArray := prog_4_method_5_code
def y_P_permute : MethodName := ⟨R_P, "permute", "()V"⟩
theorem hd_P_permute : y_P_permute.cls ≠ "java/lang/invoke/MethodHandle" ∧ y_P_permute.cls ≠ "java/lang/invoke/VarHandle" ∧ (parseMethodDescriptor y_P_permute.desc).map (fun d => d.parameters.length) = some 0 := by decide +kernel
abbrev b_P_mixColumns : ByteArray := prog_4_method_6_code
def y_P_mixColumns : MethodName := ⟨R_P, "mixColumns", "()V"⟩
theorem hd_P_mixColumns : y_P_mixColumns.cls ≠ "java/lang/invoke/MethodHandle" ∧ y_P_mixColumns.cls ≠ "java/lang/invoke/VarHandle" ∧ (parseMethodDescriptor y_P_mixColumns.desc).map (fun d => d.parameters.length) = some 0 := by decide +kernel
abbrev b_P_rotl : ByteArray := prog_4_method_9_code
def y_P_rotl : MethodName := ⟨R_P, "rotl", "(JI)J"⟩
theorem hd_P_rotl : y_P_rotl.cls ≠ "java/lang/invoke/MethodHandle" ∧ y_P_rotl.cls ≠ "java/lang/invoke/VarHandle" ∧ (parseMethodDescriptor y_P_rotl.desc).map (fun d => d.parameters.length) = some 2 := by decide +kernel
abbrev b_P_turnAndMove : ByteArray := prog_4_method_7_code
def y_P_turnAndMove : MethodName := ⟨R_P, "turnAndMove", "()V"⟩
theorem hd_P_turnAndMove : y_P_turnAndMove.cls ≠ "java/lang/invoke/MethodHandle" ∧ y_P_turnAndMove.cls ≠ "java/lang/invoke/VarHandle" ∧ (parseMethodDescriptor y_P_turnAndMove.desc).map (fun d => d.parameters.length) = some 0 := by decide +kernel
abbrev b_P_mixRows : ByteArray := prog_4_method_8_code
def y_P_mixRows : MethodName := ⟨R_P, "mixRows", "()V"⟩
theorem hd_P_mixRows : y_P_mixRows.cls ≠ "java/lang/invoke/MethodHandle" ∧ y_P_mixRows.cls ≠ "java/lang/invoke/VarHandle" ∧ (parseMethodDescriptor y_P_mixRows.desc).map (fun d => d.parameters.length) = some 0 := by decide +kernel
abbrev b_P_squeeze : ByteArray := prog_4_method_3_code
def y_P_squeeze : MethodName := ⟨R_P, "squeeze", "(I[BI)V"⟩
theorem hd_P_squeeze : y_P_squeeze.cls ≠ "java/lang/invoke/MethodHandle" ∧ y_P_squeeze.cls ≠ "java/lang/invoke/VarHandle" ∧ (parseMethodDescriptor y_P_squeeze.desc).map (fun d => d.parameters.length) = some 3 := by decide +kernel
abbrev b_D_hashWithKey : ByteArray := prog_1_method_16_code
def y_D_hashWithKey : MethodName := ⟨R_D, "hashWithKey", "(LSpongeDigests$BlockHash;[J)V"⟩
theorem hd_D_hashWithKey : y_D_hashWithKey.cls ≠ "java/lang/invoke/MethodHandle" ∧ y_D_hashWithKey.cls ≠ "java/lang/invoke/VarHandle" ∧ (parseMethodDescriptor y_D_hashWithKey.desc).map (fun d => d.parameters.length) = some 2 := by decide +kernel
abbrev b_D_setKey : ByteArray := prog_1_method_17_code
def y_D_setKey : MethodName := ⟨R_D, "setKey", "(LSpongeDigests$BlockHash;[J)V"⟩
theorem hd_D_setKey : y_D_setKey.cls ≠ "java/lang/invoke/MethodHandle" ∧ y_D_setKey.cls ≠ "java/lang/invoke/VarHandle" ∧ (parseMethodDescriptor y_D_setKey.desc).map (fun d => d.parameters.length) = some 2 := by decide +kernel
abbrev b_J_fill3 : ByteArray := prog_22_method_109_code
def y_J_fill3 : MethodName := ⟨"java/util/Arrays", "fill", "([BB)V"⟩
theorem hd_J_fill3 : y_J_fill3.cls ≠ "java/lang/invoke/MethodHandle" ∧ y_J_fill3.cls ≠ "java/lang/invoke/VarHandle" ∧ (parseMethodDescriptor y_J_fill3.desc).map (fun d => d.parameters.length) = some 2 := by decide +kernel
abbrev b_D_beginWithKey : ByteArray := prog_1_method_18_code
def y_D_beginWithKey : MethodName := ⟨R_D, "beginWithKey", "(LSpongeDigests$BlockHash;[JI)V"⟩
theorem hd_D_beginWithKey : y_D_beginWithKey.cls ≠ "java/lang/invoke/MethodHandle" ∧ y_D_beginWithKey.cls ≠ "java/lang/invoke/VarHandle" ∧ (parseMethodDescriptor y_D_beginWithKey.desc).map (fun d => d.parameters.length) = some 3 := by decide +kernel
abbrev b_D_hashWithCounter : ByteArray := prog_1_method_19_code
def y_D_hashWithCounter : MethodName := ⟨R_D, "hashWithCounter", "(LSpongeDigests$BlockHash;[JI)V"⟩
theorem hd_D_hashWithCounter : y_D_hashWithCounter.cls ≠ "java/lang/invoke/MethodHandle" ∧ y_D_hashWithCounter.cls ≠ "java/lang/invoke/VarHandle" ∧ (parseMethodDescriptor y_D_hashWithCounter.desc).map (fun d => d.parameters.length) = some 3 := by decide +kernel
abbrev b_H_setMark : ByteArray := prog_2_method_4_code
def y_H_setMark : MethodName := ⟨R_H, "setMark", "()V"⟩
theorem hd_H_setMark : y_H_setMark.cls ≠ "java/lang/invoke/MethodHandle" ∧ y_H_setMark.cls ≠ "java/lang/invoke/VarHandle" ∧ (parseMethodDescriptor y_H_setMark.desc).map (fun d => d.parameters.length) = some 0 := by decide +kernel
abbrev b_D_setCounter : ByteArray := prog_1_method_20_code
def y_D_setCounter : MethodName := ⟨R_D, "setCounter", "(I)V"⟩
theorem hd_D_setCounter : y_D_setCounter.cls ≠ "java/lang/invoke/MethodHandle" ∧ y_D_setCounter.cls ≠ "java/lang/invoke/VarHandle" ∧ (parseMethodDescriptor y_D_setCounter.desc).map (fun d => d.parameters.length) = some 1 := by decide +kernel
abbrev b_H_goToMark : ByteArray := prog_2_method_5_code
def y_H_goToMark : MethodName := ⟨R_H, "goToMark", "()V"⟩
theorem hd_H_goToMark : y_H_goToMark.cls ≠ "java/lang/invoke/MethodHandle" ∧ y_H_goToMark.cls ≠ "java/lang/invoke/VarHandle" ∧ (parseMethodDescriptor y_H_goToMark.desc).map (fun d => d.parameters.length) = some 0 := by decide +kernel
abbrev b_O_init : ByteArray := prog_6_method_1_code
def y_O_init : MethodName := ⟨R_O, "<init>", "()V"⟩
theorem hd_O_init : y_O_init.cls ≠ "java/lang/invoke/MethodHandle" ∧ y_O_init.cls ≠ "java/lang/invoke/VarHandle" ∧ (parseMethodDescriptor y_O_init.desc).map (fun d => d.parameters.length) = some 0 := by decide +kernel
abbrev b_O_constants : ByteArray := prog_6_method_19_code
def y_O_constants : MethodName := ⟨R_O, "constants", "()V"⟩
theorem hd_O_constants : y_O_constants.cls ≠ "java/lang/invoke/MethodHandle" ∧ y_O_constants.cls ≠ "java/lang/invoke/VarHandle" ∧ (parseMethodDescriptor y_O_constants.desc).map (fun d => d.parameters.length) = some 0 := by decide +kernel
abbrev b_O_prime : ByteArray := prog_6_method_16_code
def y_O_prime : MethodName := ⟨R_O, "prime", "(I)Z"⟩
theorem hd_O_prime : y_O_prime.cls ≠ "java/lang/invoke/MethodHandle" ∧ y_O_prime.cls ≠ "java/lang/invoke/VarHandle" ∧ (parseMethodDescriptor y_O_prime.desc).map (fun d => d.parameters.length) = some 1 := by decide +kernel
abbrev b_O_root : ByteArray := prog_6_method_18_code
def y_O_root : MethodName := ⟨R_O, "root", "(II)J"⟩
theorem hd_O_root : y_O_root.cls ≠ "java/lang/invoke/MethodHandle" ∧ y_O_root.cls ≠ "java/lang/invoke/VarHandle" ∧ (parseMethodDescriptor y_O_root.desc).map (fun d => d.parameters.length) = some 2 := by decide +kernel
abbrev b_O_above : ByteArray := prog_6_method_17_code
def y_O_above : MethodName := ⟨R_O, "above", "(IJII)Z"⟩
theorem hd_O_above : y_O_above.cls ≠ "java/lang/invoke/MethodHandle" ∧ y_O_above.cls ≠ "java/lang/invoke/VarHandle" ∧ (parseMethodDescriptor y_O_above.desc).map (fun d => d.parameters.length) = some 4 := by decide +kernel
abbrev b_O_bit : ByteArray := prog_6_method_20_code
def y_O_bit : MethodName := ⟨R_O, "bit", "(I)I"⟩
theorem hd_O_bit : y_O_bit.cls ≠ "java/lang/invoke/MethodHandle" ∧ y_O_bit.cls ≠ "java/lang/invoke/VarHandle" ∧ (parseMethodDescriptor y_O_bit.desc).map (fun d => d.parameters.length) = some 1 := by decide +kernel
abbrev b_O_named : ByteArray := prog_6_method_21_code
def y_O_named : MethodName := ⟨R_O, "named", "([JII)V"⟩
theorem hd_O_named : y_O_named.cls ≠ "java/lang/invoke/MethodHandle" ∧ y_O_named.cls ≠ "java/lang/invoke/VarHandle" ∧ (parseMethodDescriptor y_O_named.desc).map (fun d => d.parameters.length) = some 3 := by decide +kernel
abbrev b_O_begin : ByteArray := prog_6_method_25_code
def y_O_begin : MethodName := ⟨R_O, "begin", "(I)V"⟩
theorem hd_O_begin : y_O_begin.cls ≠ "java/lang/invoke/MethodHandle" ∧ y_O_begin.cls ≠ "java/lang/invoke/VarHandle" ∧ (parseMethodDescriptor y_O_begin.desc).map (fun d => d.parameters.length) = some 1 := by decide +kernel
abbrev b_O_digestOf : ByteArray := prog_6_method_24_code
def y_O_digestOf : MethodName := ⟨R_O, "digestOf", "(I)I"⟩
theorem hd_O_digestOf : y_O_digestOf.cls ≠ "java/lang/invoke/MethodHandle" ∧ y_O_digestOf.cls ≠ "java/lang/invoke/VarHandle" ∧ (parseMethodDescriptor y_O_digestOf.desc).map (fun d => d.parameters.length) = some 1 := by decide +kernel
abbrev b_O_blockOf : ByteArray := prog_6_method_23_code
def y_O_blockOf : MethodName := ⟨R_O, "blockOf", "(I)I"⟩
theorem hd_O_blockOf : y_O_blockOf.cls ≠ "java/lang/invoke/MethodHandle" ∧ y_O_blockOf.cls ≠ "java/lang/invoke/VarHandle" ∧ (parseMethodDescriptor y_O_blockOf.desc).map (fun d => d.parameters.length) = some 1 := by decide +kernel
abbrev b_O_put : ByteArray := prog_6_method_27_code
def y_O_put : MethodName := ⟨R_O, "put", "(I)V"⟩
theorem hd_O_put : y_O_put.cls ≠ "java/lang/invoke/MethodHandle" ∧ y_O_put.cls ≠ "java/lang/invoke/VarHandle" ∧ (parseMethodDescriptor y_O_put.desc).map (fun d => d.parameters.length) = some 1 := by decide +kernel
abbrev b_O_sponge : ByteArray := prog_6_method_22_code
def y_O_sponge : MethodName := ⟨R_O, "sponge", "()Z"⟩
theorem hd_O_sponge : y_O_sponge.cls ≠ "java/lang/invoke/MethodHandle" ∧ y_O_sponge.cls ≠ "java/lang/invoke/VarHandle" ∧ (parseMethodDescriptor y_O_sponge.desc).map (fun d => d.parameters.length) = some 0 := by decide +kernel
abbrev b_O_flip : ByteArray := prog_6_method_26_code
def y_O_flip : MethodName := ⟨R_O, "flip", "(II)V"⟩
theorem hd_O_flip : y_O_flip.cls ≠ "java/lang/invoke/MethodHandle" ∧ y_O_flip.cls ≠ "java/lang/invoke/VarHandle" ∧ (parseMethodDescriptor y_O_flip.desc).map (fun d => d.parameters.length) = some 2 := by decide +kernel
abbrev b_O_permute : ByteArray := prog_6_method_29_code
def y_O_permute : MethodName := ⟨R_O, "permute", "()V"⟩
theorem hd_O_permute : y_O_permute.cls ≠ "java/lang/invoke/MethodHandle" ∧ y_O_permute.cls ≠ "java/lang/invoke/VarHandle" ∧ (parseMethodDescriptor y_O_permute.desc).map (fun d => d.parameters.length) = some 0 := by decide +kernel
abbrev b_O_left : ByteArray := prog_6_method_30_code
def y_O_left : MethodName := ⟨R_O, "left", "(JI)J"⟩
theorem hd_O_left : y_O_left.cls ≠ "java/lang/invoke/MethodHandle" ∧ y_O_left.cls ≠ "java/lang/invoke/VarHandle" ∧ (parseMethodDescriptor y_O_left.desc).map (fun d => d.parameters.length) = some 2 := by decide +kernel
abbrev b_O_compress32 : ByteArray := prog_6_method_34_code
def y_O_compress32 : MethodName := ⟨R_O, "compress32", "()V"⟩
theorem hd_O_compress32 : y_O_compress32.cls ≠ "java/lang/invoke/MethodHandle" ∧ y_O_compress32.cls ≠ "java/lang/invoke/VarHandle" ∧ (parseMethodDescriptor y_O_compress32.desc).map (fun d => d.parameters.length) = some 0 := by decide +kernel
abbrev b_O_turn : ByteArray := prog_6_method_32_code
def y_O_turn : MethodName := ⟨R_O, "turn", "(II)I"⟩
theorem hd_O_turn : y_O_turn.cls ≠ "java/lang/invoke/MethodHandle" ∧ y_O_turn.cls ≠ "java/lang/invoke/VarHandle" ∧ (parseMethodDescriptor y_O_turn.desc).map (fun d => d.parameters.length) = some 2 := by decide +kernel
abbrev b_O_compress64 : ByteArray := prog_6_method_33_code
def y_O_compress64 : MethodName := ⟨R_O, "compress64", "()V"⟩
theorem hd_O_compress64 : y_O_compress64.cls ≠ "java/lang/invoke/MethodHandle" ∧ y_O_compress64.cls ≠ "java/lang/invoke/VarHandle" ∧ (parseMethodDescriptor y_O_compress64.desc).map (fun d => d.parameters.length) = some 0 := by decide +kernel
abbrev b_O_right : ByteArray := prog_6_method_31_code
def y_O_right : MethodName := ⟨R_O, "right", "(JI)J"⟩
theorem hd_O_right : y_O_right.cls ≠ "java/lang/invoke/MethodHandle" ∧ y_O_right.cls ≠ "java/lang/invoke/VarHandle" ∧ (parseMethodDescriptor y_O_right.desc).map (fun d => d.parameters.length) = some 2 := by decide +kernel
abbrev b_O_finish : ByteArray := prog_6_method_35_code
def y_O_finish : MethodName := ⟨R_O, "finish", "()V"⟩
theorem hd_O_finish : y_O_finish.cls ≠ "java/lang/invoke/MethodHandle" ∧ y_O_finish.cls ≠ "java/lang/invoke/VarHandle" ∧ (parseMethodDescriptor y_O_finish.desc).map (fun d => d.parameters.length) = some 0 := by decide +kernel
abbrev b_O_thrown : ByteArray := prog_6_method_2_code
def y_O_thrown : MethodName := ⟨R_O, "thrown", "()I"⟩
theorem hd_O_thrown : y_O_thrown.cls ≠ "java/lang/invoke/MethodHandle" ∧ y_O_thrown.cls ≠ "java/lang/invoke/VarHandle" ∧ (parseMethodDescriptor y_O_thrown.desc).map (fun d => d.parameters.length) = some 0 := by decide +kernel
abbrev b_O_feed : ByteArray := prog_6_method_5_code
def y_O_feed : MethodName := ⟨R_O, "feed", "(IIIII)I"⟩
theorem hd_O_feed : y_O_feed.cls ≠ "java/lang/invoke/MethodHandle" ∧ y_O_feed.cls ≠ "java/lang/invoke/VarHandle" ∧ (parseMethodDescriptor y_O_feed.desc).map (fun d => d.parameters.length) = some 5 := by decide +kernel
abbrev b_O_good : ByteArray := prog_6_method_4_code
def y_O_good : MethodName := ⟨R_O, "good", "(ZI)Z"⟩
theorem hd_O_good : y_O_good.cls ≠ "java/lang/invoke/MethodHandle" ∧ y_O_good.cls ≠ "java/lang/invoke/VarHandle" ∧ (parseMethodDescriptor y_O_good.desc).map (fun d => d.parameters.length) = some 2 := by decide +kernel
abbrev b_O_word : ByteArray := prog_6_method_6_code
def y_O_word : MethodName := ⟨R_O, "word", "(I)V"⟩
theorem hd_O_word : y_O_word.cls ≠ "java/lang/invoke/MethodHandle" ∧ y_O_word.cls ≠ "java/lang/invoke/VarHandle" ∧ (parseMethodDescriptor y_O_word.desc).map (fun d => d.parameters.length) = some 1 := by decide +kernel
abbrev b_O_end : ByteArray := prog_6_method_7_code
def y_O_end : MethodName := ⟨R_O, "end", "(II)I"⟩
theorem hd_O_end : y_O_end.cls ≠ "java/lang/invoke/MethodHandle" ∧ y_O_end.cls ≠ "java/lang/invoke/VarHandle" ∧ (parseMethodDescriptor y_O_end.desc).map (fun d => d.parameters.length) = some 2 := by decide +kernel
abbrev b_O_in : ByteArray := prog_6_method_3_code
def y_O_in : MethodName := ⟨R_O, "in", "(III)Z"⟩
theorem hd_O_in : y_O_in.cls ≠ "java/lang/invoke/MethodHandle" ∧ y_O_in.cls ≠ "java/lang/invoke/VarHandle" ∧ (parseMethodDescriptor y_O_in.desc).map (fun d => d.parameters.length) = some 3 := by decide +kernel
abbrev b_O_copy : ByteArray := prog_6_method_8_code
def y_O_copy : MethodName := ⟨R_O, "copy", "(II)I"⟩
theorem hd_O_copy : y_O_copy.cls ≠ "java/lang/invoke/MethodHandle" ∧ y_O_copy.cls ≠ "java/lang/invoke/VarHandle" ∧ (parseMethodDescriptor y_O_copy.desc).map (fun d => d.parameters.length) = some 2 := by decide +kernel
abbrev b_O_resize : ByteArray := prog_6_method_9_code
def y_O_resize : MethodName := ⟨R_O, "resize", "(II)I"⟩
theorem hd_O_resize : y_O_resize.cls ≠ "java/lang/invoke/MethodHandle" ∧ y_O_resize.cls ≠ "java/lang/invoke/VarHandle" ∧ (parseMethodDescriptor y_O_resize.desc).map (fun d => d.parameters.length) = some 2 := by decide +kernel
abbrev b_O_alter : ByteArray := prog_6_method_10_code
def y_O_alter : MethodName := ⟨R_O, "alter", "(III)I"⟩
theorem hd_O_alter : y_O_alter.cls ≠ "java/lang/invoke/MethodHandle" ∧ y_O_alter.cls ≠ "java/lang/invoke/VarHandle" ∧ (parseMethodDescriptor y_O_alter.desc).map (fun d => d.parameters.length) = some 3 := by decide +kernel
abbrev b_O_length : ByteArray := prog_6_method_11_code
def y_O_length : MethodName := ⟨R_O, "length", "(I)I"⟩
theorem hd_O_length : y_O_length.cls ≠ "java/lang/invoke/MethodHandle" ∧ y_O_length.cls ≠ "java/lang/invoke/VarHandle" ∧ (parseMethodDescriptor y_O_length.desc).map (fun d => d.parameters.length) = some 1 := by decide +kernel
abbrev b_O_word2 : ByteArray := prog_6_method_12_code
def y_O_word2 : MethodName := ⟨R_O, "word", "(II)J"⟩
theorem hd_O_word2 : y_O_word2.cls ≠ "java/lang/invoke/MethodHandle" ∧ y_O_word2.cls ≠ "java/lang/invoke/VarHandle" ∧ (parseMethodDescriptor y_O_word2.desc).map (fun d => d.parameters.length) = some 2 := by decide +kernel
abbrev b_O_same : ByteArray := prog_6_method_13_code
def y_O_same : MethodName := ⟨R_O, "same", "(II)Z"⟩
theorem hd_O_same : y_O_same.cls ≠ "java/lang/invoke/MethodHandle" ∧ y_O_same.cls ≠ "java/lang/invoke/VarHandle" ∧ (parseMethodDescriptor y_O_same.desc).map (fun d => d.parameters.length) = some 2 := by decide +kernel
abbrev b_O_digest : ByteArray := prog_6_method_41_code
def y_O_digest : MethodName := ⟨R_O, "digest", "(II)I"⟩
theorem hd_O_digest : y_O_digest.cls ≠ "java/lang/invoke/MethodHandle" ∧ y_O_digest.cls ≠ "java/lang/invoke/VarHandle" ∧ (parseMethodDescriptor y_O_digest.desc).map (fun d => d.parameters.length) = some 2 := by decide +kernel
abbrev b_O_put2 : ByteArray := prog_6_method_28_code
def y_O_put2 : MethodName := ⟨R_O, "put", "([BII)V"⟩
theorem hd_O_put2 : y_O_put2.cls ≠ "java/lang/invoke/MethodHandle" ∧ y_O_put2.cls ≠ "java/lang/invoke/VarHandle" ∧ (parseMethodDescriptor y_O_put2.desc).map (fun d => d.parameters.length) = some 3 := by decide +kernel
abbrev b_O_give : ByteArray := prog_6_method_37_code
def y_O_give : MethodName := ⟨R_O, "give", "([BII)V"⟩
theorem hd_O_give : y_O_give.cls ≠ "java/lang/invoke/MethodHandle" ∧ y_O_give.cls ≠ "java/lang/invoke/VarHandle" ∧ (parseMethodDescriptor y_O_give.desc).map (fun d => d.parameters.length) = some 3 := by decide +kernel
abbrev b_O_squeeze : ByteArray := prog_6_method_36_code
def y_O_squeeze : MethodName := ⟨R_O, "squeeze", "()I"⟩
theorem hd_O_squeeze : y_O_squeeze.cls ≠ "java/lang/invoke/MethodHandle" ∧ y_O_squeeze.cls ≠ "java/lang/invoke/VarHandle" ∧ (parseMethodDescriptor y_O_squeeze.desc).map (fun d => d.parameters.length) = some 0 := by decide +kernel
abbrev b_O_startMac : ByteArray := prog_6_method_38_code
def y_O_startMac : MethodName := ⟨R_O, "startMac", "(I[BII)V"⟩
theorem hd_O_startMac : y_O_startMac.cls ≠ "java/lang/invoke/MethodHandle" ∧ y_O_startMac.cls ≠ "java/lang/invoke/VarHandle" ∧ (parseMethodDescriptor y_O_startMac.desc).map (fun d => d.parameters.length) = some 4 := by decide +kernel
abbrev b_O_move : ByteArray := prog_6_method_14_code
def y_O_move : MethodName := ⟨R_O, "move", "([BI[BII)V"⟩
theorem hd_O_move : y_O_move.cls ≠ "java/lang/invoke/MethodHandle" ∧ y_O_move.cls ≠ "java/lang/invoke/VarHandle" ∧ (parseMethodDescriptor y_O_move.desc).map (fun d => d.parameters.length) = some 5 := by decide +kernel
abbrev b_O_endMac : ByteArray := prog_6_method_39_code
def y_O_endMac : MethodName := ⟨R_O, "endMac", "(I[BII)V"⟩
theorem hd_O_endMac : y_O_endMac.cls ≠ "java/lang/invoke/MethodHandle" ∧ y_O_endMac.cls ≠ "java/lang/invoke/VarHandle" ∧ (parseMethodDescriptor y_O_endMac.desc).map (fun d => d.parameters.length) = some 4 := by decide +kernel
abbrev b_O_mask : ByteArray := prog_6_method_40_code
def y_O_mask : MethodName := ⟨R_O, "mask", "(I[BI[BII)V"⟩
theorem hd_O_mask : y_O_mask.cls ≠ "java/lang/invoke/MethodHandle" ∧ y_O_mask.cls ≠ "java/lang/invoke/VarHandle" ∧ (parseMethodDescriptor y_O_mask.desc).map (fun d => d.parameters.length) = some 6 := by decide +kernel
theorem wp_Y_append : Cond.selects (y_Y_append).cls y_Y_append y_Y_append ∈ W0 := W0_p (i := 1) (by decide +kernel) (by decide +kernel)
theorem wp_D_slotAt : Cond.selects (y_D_slotAt).cls y_D_slotAt y_D_slotAt ∈ W0 := W0_p (i := 2) (by decide +kernel) (by decide +kernel)
theorem wp_Y_take : Cond.selects (y_Y_take).cls y_Y_take y_Y_take ∈ W0 := W0_p (i := 3) (by decide +kernel) (by decide +kernel)
theorem wp_Y_cutOrFill : Cond.selects (y_Y_cutOrFill).cls y_Y_cutOrFill y_Y_cutOrFill ∈ W0 := W0_p (i := 4) (by decide +kernel) (by decide +kernel)
theorem wp_Y_eightFrom : Cond.selects (y_Y_eightFrom).cls y_Y_eightFrom y_Y_eightFrom ∈ W0 := W0_p (i := 5) (by decide +kernel) (by decide +kernel)
theorem wp_Y_matches : Cond.selects (y_Y_matches).cls y_Y_matches y_Y_matches ∈ W0 := W0_p (i := 6) (by decide +kernel) (by decide +kernel)
theorem wp_D_hashInBlocks : Cond.selects (y_D_hashInBlocks).cls y_D_hashInBlocks y_D_hashInBlocks ∈ W0 := W0_p (i := 7) (by decide +kernel) (by decide +kernel)
theorem wp_H_begin : Cond.selects (y_H_begin).cls y_H_begin y_H_begin ∈ W0 := W0_p (i := 8) (by decide +kernel) (by decide +kernel)
theorem wp_H_absorb : Cond.selects (y_H_absorb).cls y_H_absorb y_H_absorb ∈ W0 := W0_p (i := 9) (by decide +kernel) (by decide +kernel)
theorem wp_H_compress : Cond.selects (y_H_compress).cls y_H_compress y_H_compress ∈ W0 := W0_p (i := 10) (by decide +kernel) (by decide +kernel)
theorem wp_H_fillSchedule : Cond.selects (y_H_fillSchedule).cls y_H_fillSchedule y_H_fillSchedule ∈ W0 := W0_p (i := 11) (by decide +kernel) (by decide +kernel)
theorem wp_H_twoTurnsAndShift : Cond.selects (y_H_twoTurnsAndShift).cls y_H_twoTurnsAndShift y_H_twoTurnsAndShift ∈ W0 := W0_p (i := 12) (by decide +kernel) (by decide +kernel)
theorem wp_H_rotr : Cond.selects (y_H_rotr).cls y_H_rotr y_H_rotr ∈ W0 := W0_p (i := 13) (by decide +kernel) (by decide +kernel)
theorem wp_H_threeTurns : Cond.selects (y_H_threeTurns).cls y_H_threeTurns y_H_threeTurns ∈ W0 := W0_p (i := 14) (by decide +kernel) (by decide +kernel)
theorem wp_H_addToState : Cond.selects (y_H_addToState).cls y_H_addToState y_H_addToState ∈ W0 := W0_p (i := 15) (by decide +kernel) (by decide +kernel)
theorem wp_H_finish : Cond.selects (y_H_finish).cls y_H_finish y_H_finish ∈ W0 := W0_p (i := 16) (by decide +kernel) (by decide +kernel)
theorem wp_H_writeState : Cond.selects (y_H_writeState).cls y_H_writeState y_H_writeState ∈ W0 := W0_p (i := 17) (by decide +kernel) (by decide +kernel)
theorem wp_D_hashInSponge : Cond.selects (y_D_hashInSponge).cls y_D_hashInSponge y_D_hashInSponge ∈ W0 := W0_p (i := 18) (by decide +kernel) (by decide +kernel)
theorem wp_P_absorb : Cond.selects (y_P_absorb).cls y_P_absorb y_P_absorb ∈ W0 := W0_p (i := 19) (by decide +kernel) (by decide +kernel)
theorem wp_P_mixIn : Cond.selects (y_P_mixIn).cls y_P_mixIn y_P_mixIn ∈ W0 := W0_p (i := 20) (by decide +kernel) (by decide +kernel)
theorem wp_P_permute : Cond.selects (y_P_permute).cls y_P_permute y_P_permute ∈ W0 := W0_p (i := 21) (by decide +kernel) (by decide +kernel)
theorem wp_P_mixColumns : Cond.selects (y_P_mixColumns).cls y_P_mixColumns y_P_mixColumns ∈ W0 := W0_p (i := 22) (by decide +kernel) (by decide +kernel)
theorem wp_P_turnAndMove : Cond.selects (y_P_turnAndMove).cls y_P_turnAndMove y_P_turnAndMove ∈ W0 := W0_p (i := 23) (by decide +kernel) (by decide +kernel)
theorem wp_P_mixRows : Cond.selects (y_P_mixRows).cls y_P_mixRows y_P_mixRows ∈ W0 := W0_p (i := 24) (by decide +kernel) (by decide +kernel)
theorem wp_P_squeeze : Cond.selects (y_P_squeeze).cls y_P_squeeze y_P_squeeze ∈ W0 := W0_p (i := 25) (by decide +kernel) (by decide +kernel)
theorem wp_D_hashWithKey : Cond.selects (y_D_hashWithKey).cls y_D_hashWithKey y_D_hashWithKey ∈ W0 := W0_p (i := 26) (by decide +kernel) (by decide +kernel)
theorem wp_D_setKey : Cond.selects (y_D_setKey).cls y_D_setKey y_D_setKey ∈ W0 := W0_p (i := 27) (by decide +kernel) (by decide +kernel)
theorem wp_D_beginWithKey : Cond.selects (y_D_beginWithKey).cls y_D_beginWithKey y_D_beginWithKey ∈ W0 := W0_p (i := 28) (by decide +kernel) (by decide +kernel)
theorem wp_D_hashWithCounter : Cond.selects (y_D_hashWithCounter).cls y_D_hashWithCounter y_D_hashWithCounter ∈ W0 := W0_p (i := 29) (by decide +kernel) (by decide +kernel)
theorem wp_H_setMark : Cond.selects (y_H_setMark).cls y_H_setMark y_H_setMark ∈ W0 := W0_p (i := 30) (by decide +kernel) (by decide +kernel)
theorem wp_D_setCounter : Cond.selects (y_D_setCounter).cls y_D_setCounter y_D_setCounter ∈ W0 := W0_p (i := 31) (by decide +kernel) (by decide +kernel)
theorem wp_H_goToMark : Cond.selects (y_H_goToMark).cls y_H_goToMark y_H_goToMark ∈ W0 := W0_p (i := 32) (by decide +kernel) (by decide +kernel)
theorem wp_O_constants : Cond.selects (y_O_constants).cls y_O_constants y_O_constants ∈ W0 := W0_p (i := 33) (by decide +kernel) (by decide +kernel)
theorem wp_O_root : Cond.selects (y_O_root).cls y_O_root y_O_root ∈ W0 := W0_p (i := 34) (by decide +kernel) (by decide +kernel)
theorem wp_O_above : Cond.selects (y_O_above).cls y_O_above y_O_above ∈ W0 := W0_p (i := 35) (by decide +kernel) (by decide +kernel)
theorem wp_O_named : Cond.selects (y_O_named).cls y_O_named y_O_named ∈ W0 := W0_p (i := 36) (by decide +kernel) (by decide +kernel)
theorem wp_O_begin : Cond.selects (y_O_begin).cls y_O_begin y_O_begin ∈ W0 := W0_p (i := 37) (by decide +kernel) (by decide +kernel)
theorem wp_O_put : Cond.selects (y_O_put).cls y_O_put y_O_put ∈ W0 := W0_p (i := 38) (by decide +kernel) (by decide +kernel)
theorem wp_O_sponge : Cond.selects (y_O_sponge).cls y_O_sponge y_O_sponge ∈ W0 := W0_p (i := 39) (by decide +kernel) (by decide +kernel)
theorem wp_O_flip : Cond.selects (y_O_flip).cls y_O_flip y_O_flip ∈ W0 := W0_p (i := 40) (by decide +kernel) (by decide +kernel)
theorem wp_O_permute : Cond.selects (y_O_permute).cls y_O_permute y_O_permute ∈ W0 := W0_p (i := 41) (by decide +kernel) (by decide +kernel)
theorem wp_O_compress32 : Cond.selects (y_O_compress32).cls y_O_compress32 y_O_compress32 ∈ W0 := W0_p (i := 42) (by decide +kernel) (by decide +kernel)
theorem wp_O_compress64 : Cond.selects (y_O_compress64).cls y_O_compress64 y_O_compress64 ∈ W0 := W0_p (i := 43) (by decide +kernel) (by decide +kernel)
theorem wp_O_finish : Cond.selects (y_O_finish).cls y_O_finish y_O_finish ∈ W0 := W0_p (i := 44) (by decide +kernel) (by decide +kernel)
theorem wp_O_good : Cond.selects (y_O_good).cls y_O_good y_O_good ∈ W0 := W0_p (i := 45) (by decide +kernel) (by decide +kernel)
theorem wp_O_word : Cond.selects (y_O_word).cls y_O_word y_O_word ∈ W0 := W0_p (i := 46) (by decide +kernel) (by decide +kernel)
theorem wp_O_put2 : Cond.selects (y_O_put2).cls y_O_put2 y_O_put2 ∈ W0 := W0_p (i := 47) (by decide +kernel) (by decide +kernel)
theorem wp_O_give : Cond.selects (y_O_give).cls y_O_give y_O_give ∈ W0 := W0_p (i := 48) (by decide +kernel) (by decide +kernel)
theorem wp_O_squeeze : Cond.selects (y_O_squeeze).cls y_O_squeeze y_O_squeeze ∈ W0 := W0_p (i := 49) (by decide +kernel) (by decide +kernel)
theorem wp_O_startMac : Cond.selects (y_O_startMac).cls y_O_startMac y_O_startMac ∈ W0 := W0_p (i := 50) (by decide +kernel) (by decide +kernel)
theorem wp_O_endMac : Cond.selects (y_O_endMac).cls y_O_endMac y_O_endMac ∈ W0 := W0_p (i := 51) (by decide +kernel) (by decide +kernel)
theorem wp_O_mask : Cond.selects (y_O_mask).cls y_O_mask y_O_mask ∈ W0 := W0_p (i := 52) (by decide +kernel) (by decide +kernel)
end
section
theorem d_D_init_0 : decode b_D_init 0 = .ok (.aload_n 0, 1) := by decide +kernel
theorem d_D_init_1 : decode b_D_init 1 = .ok (.invokespecial 3, 3) := by decide +kernel
theorem d_D_init_4 : decode b_D_init 4 = .ok (.aload_n 0, 1) := by decide +kernel
theorem d_D_init_5 : decode b_D_init 5 = .ok (.bipush 8, 2) := by decide +kernel
theorem d_D_init_7 : decode b_D_init 7 = .ok (.anewarray 9, 3) := by decide +kernel
theorem d_D_init_10 : decode b_D_init 10 = .ok (.putfield 11, 3) := by decide +kernel
theorem d_D_init_13 : decode b_D_init 13 = .ok (.iconst 0, 1) := by decide +kernel
theorem d_D_init_14 : decode b_D_init 14 = .ok (.istore_n 1, 1) := by decide +kernel
theorem d_D_init_15 : decode b_D_init 15 = .ok (.iload_n 1, 1) := by decide +kernel
theorem d_D_init_16 : decode b_D_init 16 = .ok (.bipush 8, 2) := by decide +kernel
theorem d_D_init_18 : decode b_D_init 18 = .ok (.if_icmp .ge 22, 3) := by decide +kernel
theorem d_D_init_21 : decode b_D_init 21 = .ok (.aload_n 0, 1) := by decide +kernel
theorem d_D_init_22 : decode b_D_init 22 = .ok (.getfield 11, 3) := by decide +kernel
theorem d_D_init_25 : decode b_D_init 25 = .ok (.iload_n 1, 1) := by decide +kernel
theorem d_D_init_26 : decode b_D_init 26 = .ok (.new 9, 3) := by decide +kernel
theorem d_D_init_29 : decode b_D_init 29 = .ok (.dup, 1) := by decide +kernel
theorem d_D_init_30 : decode b_D_init 30 = .ok (.invokespecial 15, 3) := by decide +kernel
theorem d_D_init_33 : decode b_D_init 33 = .ok (.aastore, 1) := by decide +kernel
theorem d_D_init_34 : decode b_D_init 34 = .ok (.iinc 1 1, 3) := by decide +kernel
theorem d_D_init_37 : decode b_D_init 37 = .ok (.goto (-22), 3) := by decide +kernel
theorem d_D_init_40 : decode b_D_init 40 = .ok (.aload_n 0, 1) := by decide +kernel
theorem d_D_init_41 : decode b_D_init 41 = .ok (.new 9, 3) := by decide +kernel
theorem d_D_init_44 : decode b_D_init 44 = .ok (.dup, 1) := by decide +kernel
theorem d_D_init_45 : decode b_D_init 45 = .ok (.invokespecial 15, 3) := by decide +kernel
theorem d_D_init_48 : decode b_D_init 48 = .ok (.putfield 16, 3) := by decide +kernel
theorem d_D_init_51 : decode b_D_init 51 = .ok (.aload_n 0, 1) := by decide +kernel
theorem d_D_init_52 : decode b_D_init 52 = .ok (.new 20, 3) := by decide +kernel
theorem d_D_init_55 : decode b_D_init 55 = .ok (.dup, 1) := by decide +kernel
theorem d_D_init_56 : decode b_D_init 56 = .ok (.invokespecial 22, 3) := by decide +kernel
theorem d_D_init_59 : decode b_D_init 59 = .ok (.putfield 23, 3) := by decide +kernel
theorem d_D_init_62 : decode b_D_init 62 = .ok (.aload_n 0, 1) := by decide +kernel
theorem d_D_init_63 : decode b_D_init 63 = .ok (.new 27, 3) := by decide +kernel
theorem d_D_init_66 : decode b_D_init 66 = .ok (.dup, 1) := by decide +kernel
theorem d_D_init_67 : decode b_D_init 67 = .ok (.iconst 4, 1) := by decide +kernel
theorem d_D_init_68 : decode b_D_init 68 = .ok (.bipush 64, 2) := by decide +kernel
theorem d_D_init_70 : decode b_D_init 70 = .ok (.getstatic 29, 3) := by decide +kernel
theorem d_D_init_73 : decode b_D_init 73 = .ok (.invokespecial 33, 3) := by decide +kernel
theorem d_D_init_76 : decode b_D_init 76 = .ok (.putfield 36, 3) := by decide +kernel
theorem d_D_init_79 : decode b_D_init 79 = .ok (.aload_n 0, 1) := by decide +kernel
theorem d_D_init_80 : decode b_D_init 80 = .ok (.new 27, 3) := by decide +kernel
theorem d_D_init_83 : decode b_D_init 83 = .ok (.dup, 1) := by decide +kernel
theorem d_D_init_84 : decode b_D_init 84 = .ok (.bipush 8, 2) := by decide +kernel
theorem d_D_init_86 : decode b_D_init 86 = .ok (.bipush 80, 2) := by decide +kernel
theorem d_D_init_88 : decode b_D_init 88 = .ok (.getstatic 40, 3) := by decide +kernel
theorem d_D_init_91 : decode b_D_init 91 = .ok (.invokespecial 33, 3) := by decide +kernel
theorem d_D_init_94 : decode b_D_init 94 = .ok (.putfield 43, 3) := by decide +kernel
theorem d_D_init_97 : decode b_D_init 97 = .ok (.aload_n 0, 1) := by decide +kernel
theorem d_D_init_98 : decode b_D_init 98 = .ok (.aload_n 0, 1) := by decide +kernel
theorem d_D_init_99 : decode b_D_init 99 = .ok (.getfield 43, 3) := by decide +kernel
theorem d_D_init_102 : decode b_D_init 102 = .ok (.getfield 46, 3) := by decide +kernel
theorem d_D_init_105 : decode b_D_init 105 = .ok (.newarray .byte, 2) := by decide +kernel
theorem d_D_init_107 : decode b_D_init 107 = .ok (.putfield 50, 3) := by decide +kernel
theorem d_D_init_110 : decode b_D_init 110 = .ok (.aload_n 0, 1) := by decide +kernel
theorem d_D_init_111 : decode b_D_init 111 = .ok (.aload_n 0, 1) := by decide +kernel
theorem d_D_init_112 : decode b_D_init 112 = .ok (.getfield 43, 3) := by decide +kernel
theorem d_D_init_115 : decode b_D_init 115 = .ok (.getfield 46, 3) := by decide +kernel
theorem d_D_init_118 : decode b_D_init 118 = .ok (.newarray .byte, 2) := by decide +kernel
theorem d_D_init_120 : decode b_D_init 120 = .ok (.putfield 54, 3) := by decide +kernel
theorem d_D_init_123 : decode b_D_init 123 = .ok (.aload_n 0, 1) := by decide +kernel
theorem d_D_init_124 : decode b_D_init 124 = .ok (.aload_n 0, 1) := by decide +kernel
theorem d_D_init_125 : decode b_D_init 125 = .ok (.getfield 43, 3) := by decide +kernel
theorem d_D_init_128 : decode b_D_init 128 = .ok (.getfield 57, 3) := by decide +kernel
theorem d_D_init_131 : decode b_D_init 131 = .ok (.newarray .byte, 2) := by decide +kernel
theorem d_D_init_133 : decode b_D_init 133 = .ok (.putfield 60, 3) := by decide +kernel
theorem d_D_init_136 : decode b_D_init 136 = .ok (.aload_n 0, 1) := by decide +kernel
theorem d_D_init_137 : decode b_D_init 137 = .ok (.iconst 4, 1) := by decide +kernel
theorem d_D_init_138 : decode b_D_init 138 = .ok (.newarray .byte, 2) := by decide +kernel
theorem d_D_init_140 : decode b_D_init 140 = .ok (.putfield 63, 3) := by decide +kernel
theorem d_D_init_143 : decode b_D_init 143 = .ok (.return_, 1) := by decide +kernel
theorem d_Y_init_0 : decode b_Y_init 0 = .ok (.aload_n 0, 1) := by decide +kernel
theorem d_Y_init_1 : decode b_Y_init 1 = .ok (.invokespecial 3, 3) := by decide +kernel
theorem d_Y_init_4 : decode b_Y_init 4 = .ok (.aload_n 0, 1) := by decide +kernel
theorem d_Y_init_5 : decode b_Y_init 5 = .ok (.sipush 8192, 3) := by decide +kernel
theorem d_Y_init_8 : decode b_Y_init 8 = .ok (.newarray .byte, 2) := by decide +kernel
theorem d_Y_init_10 : decode b_Y_init 10 = .ok (.putfield 9, 3) := by decide +kernel
theorem d_Y_init_13 : decode b_Y_init 13 = .ok (.return_, 1) := by decide +kernel
theorem d_P_init_0 : decode b_P_init 0 = .ok (.aload_n 0, 1) := by decide +kernel
theorem d_P_init_1 : decode b_P_init 1 = .ok (.invokespecial 3, 3) := by decide +kernel
theorem d_P_init_4 : decode b_P_init 4 = .ok (.aload_n 0, 1) := by decide +kernel
theorem d_P_init_5 : decode b_P_init 5 = .ok (.bipush 25, 2) := by decide +kernel
theorem d_P_init_7 : decode b_P_init 7 = .ok (.newarray .long, 2) := by decide +kernel
theorem d_P_init_9 : decode b_P_init 9 = .ok (.putfield 9, 3) := by decide +kernel
theorem d_P_init_12 : decode b_P_init 12 = .ok (.aload_n 0, 1) := by decide +kernel
theorem d_P_init_13 : decode b_P_init 13 = .ok (.bipush 25, 2) := by decide +kernel
theorem d_P_init_15 : decode b_P_init 15 = .ok (.newarray .long, 2) := by decide +kernel
theorem d_P_init_17 : decode b_P_init 17 = .ok (.putfield 15, 3) := by decide +kernel
theorem d_P_init_20 : decode b_P_init 20 = .ok (.aload_n 0, 1) := by decide +kernel
theorem d_P_init_21 : decode b_P_init 21 = .ok (.iconst 5, 1) := by decide +kernel
theorem d_P_init_22 : decode b_P_init 22 = .ok (.newarray .long, 2) := by decide +kernel
theorem d_P_init_24 : decode b_P_init 24 = .ok (.putfield 18, 3) := by decide +kernel
theorem d_P_init_27 : decode b_P_init 27 = .ok (.return_, 1) := by decide +kernel
theorem d_H_init_0 : decode b_H_init 0 = .ok (.aload_n 0, 1) := by decide +kernel
theorem d_H_init_1 : decode b_H_init 1 = .ok (.invokespecial 3, 3) := by decide +kernel
theorem d_H_init_4 : decode b_H_init 4 = .ok (.aload_n 0, 1) := by decide +kernel
theorem d_H_init_5 : decode b_H_init 5 = .ok (.iload_n 1, 1) := by decide +kernel
theorem d_H_init_6 : decode b_H_init 6 = .ok (.putfield 9, 3) := by decide +kernel
theorem d_H_init_9 : decode b_H_init 9 = .ok (.aload_n 0, 1) := by decide +kernel
theorem d_H_init_10 : decode b_H_init 10 = .ok (.iload_n 2, 1) := by decide +kernel
theorem d_H_init_11 : decode b_H_init 11 = .ok (.putfield 15, 3) := by decide +kernel
theorem d_H_init_14 : decode b_H_init 14 = .ok (.aload_n 0, 1) := by decide +kernel
theorem d_H_init_15 : decode b_H_init 15 = .ok (.aload_n 3, 1) := by decide +kernel
theorem d_H_init_16 : decode b_H_init 16 = .ok (.putfield 18, 3) := by decide +kernel
theorem d_H_init_19 : decode b_H_init 19 = .ok (.aload_n 0, 1) := by decide +kernel
theorem d_H_init_20 : decode b_H_init 20 = .ok (.bipush 8, 2) := by decide +kernel
theorem d_H_init_22 : decode b_H_init 22 = .ok (.iload_n 1, 1) := by decide +kernel
theorem d_H_init_23 : decode b_H_init 23 = .ok (.imul, 1) := by decide +kernel
theorem d_H_init_24 : decode b_H_init 24 = .ok (.putfield 22, 3) := by decide +kernel
theorem d_H_init_27 : decode b_H_init 27 = .ok (.aload_n 0, 1) := by decide +kernel
theorem d_H_init_28 : decode b_H_init 28 = .ok (.ldc2_w 25, 3) := by decide +kernel
theorem d_H_init_31 : decode b_H_init 31 = .ok (.bipush 64, 2) := by decide +kernel
theorem d_H_init_33 : decode b_H_init 33 = .ok (.aload_n 0, 1) := by decide +kernel
theorem d_H_init_34 : decode b_H_init 34 = .ok (.getfield 22, 3) := by decide +kernel
theorem d_H_init_37 : decode b_H_init 37 = .ok (.isub, 1) := by decide +kernel
theorem d_H_init_38 : decode b_H_init 38 = .ok (.lushr, 1) := by decide +kernel
theorem d_H_init_39 : decode b_H_init 39 = .ok (.putfield 27, 3) := by decide +kernel
theorem d_H_init_42 : decode b_H_init 42 = .ok (.aload_n 0, 1) := by decide +kernel
theorem d_H_init_43 : decode b_H_init 43 = .ok (.bipush 16, 2) := by decide +kernel
theorem d_H_init_45 : decode b_H_init 45 = .ok (.iload_n 1, 1) := by decide +kernel
theorem d_H_init_46 : decode b_H_init 46 = .ok (.imul, 1) := by decide +kernel
theorem d_H_init_47 : decode b_H_init 47 = .ok (.putfield 31, 3) := by decide +kernel
theorem d_H_init_50 : decode b_H_init 50 = .ok (.aload_n 0, 1) := by decide +kernel
theorem d_H_init_51 : decode b_H_init 51 = .ok (.bipush 8, 2) := by decide +kernel
theorem d_H_init_53 : decode b_H_init 53 = .ok (.iload_n 1, 1) := by decide +kernel
theorem d_H_init_54 : decode b_H_init 54 = .ok (.imul, 1) := by decide +kernel
theorem d_H_init_55 : decode b_H_init 55 = .ok (.putfield 34, 3) := by decide +kernel
theorem d_H_init_58 : decode b_H_init 58 = .ok (.aload_n 0, 1) := by decide +kernel
theorem d_H_init_59 : decode b_H_init 59 = .ok (.aload_n 0, 1) := by decide +kernel
theorem d_H_init_60 : decode b_H_init 60 = .ok (.getfield 31, 3) := by decide +kernel
theorem d_H_init_63 : decode b_H_init 63 = .ok (.newarray .byte, 2) := by decide +kernel
theorem d_H_init_65 : decode b_H_init 65 = .ok (.putfield 37, 3) := by decide +kernel
theorem d_H_init_68 : decode b_H_init 68 = .ok (.aload_n 0, 1) := by decide +kernel
theorem d_H_init_69 : decode b_H_init 69 = .ok (.bipush 8, 2) := by decide +kernel
theorem d_H_init_71 : decode b_H_init 71 = .ok (.newarray .long, 2) := by decide +kernel
theorem d_H_init_73 : decode b_H_init 73 = .ok (.putfield 41, 3) := by decide +kernel
theorem d_H_init_76 : decode b_H_init 76 = .ok (.aload_n 0, 1) := by decide +kernel
theorem d_H_init_77 : decode b_H_init 77 = .ok (.iload_n 2, 1) := by decide +kernel
theorem d_H_init_78 : decode b_H_init 78 = .ok (.newarray .long, 2) := by decide +kernel
theorem d_H_init_80 : decode b_H_init 80 = .ok (.putfield 45, 3) := by decide +kernel
theorem d_H_init_83 : decode b_H_init 83 = .ok (.aload_n 0, 1) := by decide +kernel
theorem d_H_init_84 : decode b_H_init 84 = .ok (.bipush 8, 2) := by decide +kernel
theorem d_H_init_86 : decode b_H_init 86 = .ok (.newarray .long, 2) := by decide +kernel
theorem d_H_init_88 : decode b_H_init 88 = .ok (.putfield 48, 3) := by decide +kernel
theorem d_H_init_91 : decode b_H_init 91 = .ok (.return_, 1) := by decide +kernel
theorem d_L_feed_0 : decode b_L_feed 0 = .ok (.aload 6, 2) := by decide +kernel
theorem d_L_feed_2 : decode b_L_feed 2 = .ok (.iconst 0, 1) := by decide +kernel
theorem d_L_feed_3 : decode b_L_feed 3 = .ok (.aload_n 0, 1) := by decide +kernel
theorem d_L_feed_4 : decode b_L_feed 4 = .ok (.iload_n 1, 1) := by decide +kernel
theorem d_L_feed_5 : decode b_L_feed 5 = .ok (.iload_n 2, 1) := by decide +kernel
theorem d_L_feed_6 : decode b_L_feed 6 = .ok (.iload_n 3, 1) := by decide +kernel
theorem d_L_feed_7 : decode b_L_feed 7 = .ok (.iload 4, 2) := by decide +kernel
theorem d_L_feed_9 : decode b_L_feed 9 = .ok (.iload 5, 2) := by decide +kernel
theorem d_L_feed_11 : decode b_L_feed 11 = .ok (.invokevirtual 7, 3) := by decide +kernel
theorem d_L_feed_14 : decode b_L_feed 14 = .ok (.i2l, 1) := by decide +kernel
theorem d_L_feed_15 : decode b_L_feed 15 = .ok (.lastore, 1) := by decide +kernel
theorem d_L_feed_16 : decode b_L_feed 16 = .ok (.goto 7, 3) := by decide +kernel
theorem d_L_feed_19 : decode b_L_feed 19 = .ok (.astore 7, 2) := by decide +kernel
theorem d_L_feed_21 : decode b_L_feed 21 = .ok (.iconst 1, 1) := by decide +kernel
theorem d_L_feed_22 : decode b_L_feed 22 = .ok (.ireturn, 1) := by decide +kernel
theorem d_L_feed_23 : decode b_L_feed 23 = .ok (.iconst 0, 1) := by decide +kernel
theorem d_L_feed_24 : decode b_L_feed 24 = .ok (.ireturn, 1) := by decide +kernel
theorem d_D_feed_0 : decode b_D_feed 0 = .ok (.aload_n 0, 1) := by decide +kernel
theorem d_D_feed_1 : decode b_D_feed 1 = .ok (.getfield 16, 3) := by decide +kernel
theorem d_D_feed_4 : decode b_D_feed 4 = .ok (.getfield 66, 3) := by decide +kernel
theorem d_D_feed_7 : decode b_D_feed 7 = .ok (.sipush 8172, 3) := by decide +kernel
theorem d_D_feed_10 : decode b_D_feed 10 = .ok (.if_icmp .le 13, 3) := by decide +kernel
theorem d_D_feed_13 : decode b_D_feed 13 = .ok (.new 69, 3) := by decide +kernel
theorem d_D_feed_16 : decode b_D_feed 16 = .ok (.dup, 1) := by decide +kernel
theorem d_D_feed_17 : decode b_D_feed 17 = .ok (.ldc 71, 2) := by decide +kernel
theorem d_D_feed_19 : decode b_D_feed 19 = .ok (.invokespecial 73, 3) := by decide +kernel
theorem d_D_feed_22 : decode b_D_feed 22 = .ok (.athrow, 1) := by decide +kernel
theorem d_D_feed_23 : decode b_D_feed 23 = .ok (.aload_n 0, 1) := by decide +kernel
theorem d_D_feed_24 : decode b_D_feed 24 = .ok (.getfield 16, 3) := by decide +kernel
theorem d_D_feed_27 : decode b_D_feed 27 = .ok (.iload_n 1, 1) := by decide +kernel
theorem d_D_feed_28 : decode b_D_feed 28 = .ok (.invokevirtual 76, 3) := by decide +kernel
theorem d_D_feed_31 : decode b_D_feed 31 = .ok (.aload_n 0, 1) := by decide +kernel
theorem d_D_feed_32 : decode b_D_feed 32 = .ok (.getfield 16, 3) := by decide +kernel
theorem d_D_feed_35 : decode b_D_feed 35 = .ok (.iload_n 2, 1) := by decide +kernel
theorem d_D_feed_36 : decode b_D_feed 36 = .ok (.invokevirtual 76, 3) := by decide +kernel
theorem d_D_feed_39 : decode b_D_feed 39 = .ok (.aload_n 0, 1) := by decide +kernel
theorem d_D_feed_40 : decode b_D_feed 40 = .ok (.getfield 16, 3) := by decide +kernel
theorem d_D_feed_43 : decode b_D_feed 43 = .ok (.iload_n 3, 1) := by decide +kernel
theorem d_D_feed_44 : decode b_D_feed 44 = .ok (.invokevirtual 76, 3) := by decide +kernel
theorem d_D_feed_47 : decode b_D_feed 47 = .ok (.aload_n 0, 1) := by decide +kernel
theorem d_D_feed_48 : decode b_D_feed 48 = .ok (.getfield 16, 3) := by decide +kernel
theorem d_D_feed_51 : decode b_D_feed 51 = .ok (.iload 4, 2) := by decide +kernel
theorem d_D_feed_53 : decode b_D_feed 53 = .ok (.invokevirtual 76, 3) := by decide +kernel
theorem d_D_feed_56 : decode b_D_feed 56 = .ok (.aload_n 0, 1) := by decide +kernel
theorem d_D_feed_57 : decode b_D_feed 57 = .ok (.getfield 16, 3) := by decide +kernel
theorem d_D_feed_60 : decode b_D_feed 60 = .ok (.iload 5, 2) := by decide +kernel
theorem d_D_feed_62 : decode b_D_feed 62 = .ok (.invokevirtual 76, 3) := by decide +kernel
theorem d_D_feed_65 : decode b_D_feed 65 = .ok (.aload_n 0, 1) := by decide +kernel
theorem d_D_feed_66 : decode b_D_feed 66 = .ok (.getfield 16, 3) := by decide +kernel
theorem d_D_feed_69 : decode b_D_feed 69 = .ok (.getfield 66, 3) := by decide +kernel
theorem d_D_feed_72 : decode b_D_feed 72 = .ok (.ireturn, 1) := by decide +kernel
theorem d_Y_append_0 : decode b_Y_append 0 = .ok (.bipush 24, 2) := by decide +kernel
theorem d_Y_append_2 : decode b_Y_append 2 = .ok (.istore_n 2, 1) := by decide +kernel
theorem d_Y_append_3 : decode b_Y_append 3 = .ok (.iload_n 2, 1) := by decide +kernel
theorem d_Y_append_4 : decode b_Y_append 4 = .ok (.ifCond .lt 32, 3) := by decide +kernel
theorem d_Y_append_7 : decode b_Y_append 7 = .ok (.aload_n 0, 1) := by decide +kernel
theorem d_Y_append_8 : decode b_Y_append 8 = .ok (.getfield 9, 3) := by decide +kernel
theorem d_Y_append_11 : decode b_Y_append 11 = .ok (.aload_n 0, 1) := by decide +kernel
theorem d_Y_append_12 : decode b_Y_append 12 = .ok (.getfield 15, 3) := by decide +kernel
theorem d_Y_append_15 : decode b_Y_append 15 = .ok (.iload_n 1, 1) := by decide +kernel
theorem d_Y_append_16 : decode b_Y_append 16 = .ok (.iload_n 2, 1) := by decide +kernel
theorem d_Y_append_17 : decode b_Y_append 17 = .ok (.iushr, 1) := by decide +kernel
theorem d_Y_append_18 : decode b_Y_append 18 = .ok (.i2b, 1) := by decide +kernel
theorem d_Y_append_19 : decode b_Y_append 19 = .ok (.bastore, 1) := by decide +kernel
theorem d_Y_append_20 : decode b_Y_append 20 = .ok (.aload_n 0, 1) := by decide +kernel
theorem d_Y_append_21 : decode b_Y_append 21 = .ok (.dup, 1) := by decide +kernel
theorem d_Y_append_22 : decode b_Y_append 22 = .ok (.getfield 15, 3) := by decide +kernel
theorem d_Y_append_25 : decode b_Y_append 25 = .ok (.iconst 1, 1) := by decide +kernel
theorem d_Y_append_26 : decode b_Y_append 26 = .ok (.iadd, 1) := by decide +kernel
theorem d_Y_append_27 : decode b_Y_append 27 = .ok (.putfield 15, 3) := by decide +kernel
theorem d_Y_append_30 : decode b_Y_append 30 = .ok (.iinc 2 (-8), 3) := by decide +kernel
theorem d_Y_append_33 : decode b_Y_append 33 = .ok (.goto (-30), 3) := by decide +kernel
theorem d_Y_append_36 : decode b_Y_append 36 = .ok (.return_, 1) := by decide +kernel
theorem d_L_end_0 : decode b_L_end 0 = .ok (.aload_n 3, 1) := by decide +kernel
theorem d_L_end_1 : decode b_L_end 1 = .ok (.iconst 0, 1) := by decide +kernel
theorem d_L_end_2 : decode b_L_end 2 = .ok (.aload_n 0, 1) := by decide +kernel
theorem d_L_end_3 : decode b_L_end 3 = .ok (.iload_n 1, 1) := by decide +kernel
theorem d_L_end_4 : decode b_L_end 4 = .ok (.iload_n 2, 1) := by decide +kernel
theorem d_L_end_5 : decode b_L_end 5 = .ok (.invokevirtual 15, 3) := by decide +kernel
theorem d_L_end_8 : decode b_L_end 8 = .ok (.i2l, 1) := by decide +kernel
theorem d_L_end_9 : decode b_L_end 9 = .ok (.lastore, 1) := by decide +kernel
theorem d_L_end_10 : decode b_L_end 10 = .ok (.goto 11, 3) := by decide +kernel
theorem d_L_end_13 : decode b_L_end 13 = .ok (.astore 4, 2) := by decide +kernel
theorem d_L_end_15 : decode b_L_end 15 = .ok (.iconst 1, 1) := by decide +kernel
theorem d_L_end_16 : decode b_L_end 16 = .ok (.ireturn, 1) := by decide +kernel
theorem d_L_end_17 : decode b_L_end 17 = .ok (.astore 4, 2) := by decide +kernel
theorem d_L_end_19 : decode b_L_end 19 = .ok (.iconst 2, 1) := by decide +kernel
theorem d_L_end_20 : decode b_L_end 20 = .ok (.ireturn, 1) := by decide +kernel
theorem d_L_end_21 : decode b_L_end 21 = .ok (.iconst 0, 1) := by decide +kernel
theorem d_L_end_22 : decode b_L_end 22 = .ok (.ireturn, 1) := by decide +kernel
theorem d_D_end_0 : decode b_D_end 0 = .ok (.aload_n 0, 1) := by decide +kernel
theorem d_D_end_1 : decode b_D_end 1 = .ok (.iload_n 1, 1) := by decide +kernel
theorem d_D_end_2 : decode b_D_end 2 = .ok (.invokevirtual 80, 3) := by decide +kernel
theorem d_D_end_5 : decode b_D_end 5 = .ok (.astore_n 3, 1) := by decide +kernel
theorem d_D_end_6 : decode b_D_end 6 = .ok (.iload_n 2, 1) := by decide +kernel
theorem d_D_end_7 : decode b_D_end 7 = .ok (.iconst 0, 1) := by decide +kernel
theorem d_D_end_8 : decode b_D_end 8 = .ok (.sipush 8192, 3) := by decide +kernel
theorem d_D_end_11 : decode b_D_end 11 = .ok (.invokestatic 84, 3) := by decide +kernel
theorem d_D_end_14 : decode b_D_end 14 = .ok (.aload_n 0, 1) := by decide +kernel
theorem d_D_end_15 : decode b_D_end 15 = .ok (.getfield 16, 3) := by decide +kernel
theorem d_D_end_18 : decode b_D_end 18 = .ok (.getfield 66, 3) := by decide +kernel
theorem d_D_end_21 : decode b_D_end 21 = .ok (.iload_n 2, 1) := by decide +kernel
theorem d_D_end_22 : decode b_D_end 22 = .ok (.if_icmp .ge 13, 3) := by decide +kernel
theorem d_D_end_25 : decode b_D_end 25 = .ok (.new 69, 3) := by decide +kernel
theorem d_D_end_28 : decode b_D_end 28 = .ok (.dup, 1) := by decide +kernel
theorem d_D_end_29 : decode b_D_end 29 = .ok (.ldc 88, 2) := by decide +kernel
theorem d_D_end_31 : decode b_D_end 31 = .ok (.invokespecial 73, 3) := by decide +kernel
theorem d_D_end_34 : decode b_D_end 34 = .ok (.athrow, 1) := by decide +kernel
theorem d_D_end_35 : decode b_D_end 35 = .ok (.aload_n 3, 1) := by decide +kernel
theorem d_D_end_36 : decode b_D_end 36 = .ok (.aload_n 0, 1) := by decide +kernel
theorem d_D_end_37 : decode b_D_end 37 = .ok (.getfield 16, 3) := by decide +kernel
theorem d_D_end_40 : decode b_D_end 40 = .ok (.iload_n 2, 1) := by decide +kernel
theorem d_D_end_41 : decode b_D_end 41 = .ok (.invokevirtual 90, 3) := by decide +kernel
theorem d_D_end_44 : decode b_D_end 44 = .ok (.aload_n 0, 1) := by decide +kernel
theorem d_D_end_45 : decode b_D_end 45 = .ok (.getfield 16, 3) := by decide +kernel
theorem d_D_end_48 : decode b_D_end 48 = .ok (.iconst 0, 1) := by decide +kernel
theorem d_D_end_49 : decode b_D_end 49 = .ok (.putfield 66, 3) := by decide +kernel
theorem d_D_end_52 : decode b_D_end 52 = .ok (.iload_n 2, 1) := by decide +kernel
theorem d_D_end_53 : decode b_D_end 53 = .ok (.ireturn, 1) := by decide +kernel
theorem d_D_slotAt_0 : decode b_D_slotAt 0 = .ok (.iload_n 1, 1) := by decide +kernel
theorem d_D_slotAt_1 : decode b_D_slotAt 1 = .ok (.iconst 0, 1) := by decide +kernel
theorem d_D_slotAt_2 : decode b_D_slotAt 2 = .ok (.bipush 7, 2) := by decide +kernel
theorem d_D_slotAt_4 : decode b_D_slotAt 4 = .ok (.invokestatic 84, 3) := by decide +kernel
theorem d_D_slotAt_7 : decode b_D_slotAt 7 = .ok (.aload_n 0, 1) := by decide +kernel
theorem d_D_slotAt_8 : decode b_D_slotAt 8 = .ok (.getfield 11, 3) := by decide +kernel
theorem d_D_slotAt_11 : decode b_D_slotAt 11 = .ok (.iload_n 1, 1) := by decide +kernel
theorem d_D_slotAt_12 : decode b_D_slotAt 12 = .ok (.aaload, 1) := by decide +kernel
theorem d_D_slotAt_13 : decode b_D_slotAt 13 = .ok (.areturn, 1) := by decide +kernel
theorem d_D_requireWithin_0 : decode b_D_requireWithin 0 = .ok (.iload_n 0, 1) := by decide +kernel
theorem d_D_requireWithin_1 : decode b_D_requireWithin 1 = .ok (.iload_n 1, 1) := by decide +kernel
theorem d_D_requireWithin_2 : decode b_D_requireWithin 2 = .ok (.if_icmp .lt 8, 3) := by decide +kernel
theorem d_D_requireWithin_5 : decode b_D_requireWithin 5 = .ok (.iload_n 0, 1) := by decide +kernel
theorem d_D_requireWithin_6 : decode b_D_requireWithin 6 = .ok (.iload_n 2, 1) := by decide +kernel
theorem d_D_requireWithin_7 : decode b_D_requireWithin 7 = .ok (.if_icmp .le 13, 3) := by decide +kernel
theorem d_D_requireWithin_10 : decode b_D_requireWithin 10 = .ok (.new 144, 3) := by decide +kernel
theorem d_D_requireWithin_13 : decode b_D_requireWithin 13 = .ok (.dup, 1) := by decide +kernel
theorem d_D_requireWithin_14 : decode b_D_requireWithin 14 = .ok (.ldc 146, 2) := by decide +kernel
theorem d_D_requireWithin_16 : decode b_D_requireWithin 16 = .ok (.invokespecial 148, 3) := by decide +kernel
theorem d_D_requireWithin_19 : decode b_D_requireWithin 19 = .ok (.athrow, 1) := by decide +kernel
theorem d_D_requireWithin_20 : decode b_D_requireWithin 20 = .ok (.return_, 1) := by decide +kernel
theorem d_Y_take_0 : decode b_Y_take 0 = .ok (.aload_n 1, 1) := by decide +kernel
theorem d_Y_take_1 : decode b_Y_take 1 = .ok (.getfield 9, 3) := by decide +kernel
theorem d_Y_take_4 : decode b_Y_take 4 = .ok (.iconst 0, 1) := by decide +kernel
theorem d_Y_take_5 : decode b_Y_take 5 = .ok (.aload_n 0, 1) := by decide +kernel
theorem d_Y_take_6 : decode b_Y_take 6 = .ok (.getfield 9, 3) := by decide +kernel
theorem d_Y_take_9 : decode b_Y_take 9 = .ok (.iconst 0, 1) := by decide +kernel
theorem d_Y_take_10 : decode b_Y_take 10 = .ok (.iload_n 2, 1) := by decide +kernel
theorem d_Y_take_11 : decode b_Y_take 11 = .ok (.invokestatic 19, 3) := by decide +kernel
theorem d_Y_take_14 : decode b_Y_take 14 = .ok (.aload_n 0, 1) := by decide +kernel
theorem d_Y_take_15 : decode b_Y_take 15 = .ok (.iload_n 2, 1) := by decide +kernel
theorem d_Y_take_16 : decode b_Y_take 16 = .ok (.putfield 15, 3) := by decide +kernel
theorem d_Y_take_19 : decode b_Y_take 19 = .ok (.return_, 1) := by decide +kernel
theorem d_L_copy_0 : decode b_L_copy 0 = .ok (.aload_n 3, 1) := by decide +kernel
theorem d_L_copy_1 : decode b_L_copy 1 = .ok (.iconst 0, 1) := by decide +kernel
theorem d_L_copy_2 : decode b_L_copy 2 = .ok (.aload_n 0, 1) := by decide +kernel
theorem d_L_copy_3 : decode b_L_copy 3 = .ok (.iload_n 1, 1) := by decide +kernel
theorem d_L_copy_4 : decode b_L_copy 4 = .ok (.iload_n 2, 1) := by decide +kernel
end
section
theorem d_L_copy_5 : decode b_L_copy 5 = .ok (.invokevirtual 21, 3) := by decide +kernel
theorem d_L_copy_8 : decode b_L_copy 8 = .ok (.i2l, 1) := by decide +kernel
theorem d_L_copy_9 : decode b_L_copy 9 = .ok (.lastore, 1) := by decide +kernel
theorem d_L_copy_10 : decode b_L_copy 10 = .ok (.goto 7, 3) := by decide +kernel
theorem d_L_copy_13 : decode b_L_copy 13 = .ok (.astore 4, 2) := by decide +kernel
theorem d_L_copy_15 : decode b_L_copy 15 = .ok (.iconst 1, 1) := by decide +kernel
theorem d_L_copy_16 : decode b_L_copy 16 = .ok (.ireturn, 1) := by decide +kernel
theorem d_L_copy_17 : decode b_L_copy 17 = .ok (.iconst 0, 1) := by decide +kernel
theorem d_L_copy_18 : decode b_L_copy 18 = .ok (.ireturn, 1) := by decide +kernel
theorem d_D_copy_0 : decode b_D_copy 0 = .ok (.aload_n 0, 1) := by decide +kernel
theorem d_D_copy_1 : decode b_D_copy 1 = .ok (.iload_n 1, 1) := by decide +kernel
theorem d_D_copy_2 : decode b_D_copy 2 = .ok (.invokevirtual 80, 3) := by decide +kernel
theorem d_D_copy_5 : decode b_D_copy 5 = .ok (.astore_n 3, 1) := by decide +kernel
theorem d_D_copy_6 : decode b_D_copy 6 = .ok (.aload_n 0, 1) := by decide +kernel
theorem d_D_copy_7 : decode b_D_copy 7 = .ok (.iload_n 2, 1) := by decide +kernel
theorem d_D_copy_8 : decode b_D_copy 8 = .ok (.invokevirtual 80, 3) := by decide +kernel
theorem d_D_copy_11 : decode b_D_copy 11 = .ok (.astore 4, 2) := by decide +kernel
theorem d_D_copy_13 : decode b_D_copy 13 = .ok (.aload 4, 2) := by decide +kernel
theorem d_D_copy_15 : decode b_D_copy 15 = .ok (.aload_n 3, 1) := by decide +kernel
theorem d_D_copy_16 : decode b_D_copy 16 = .ok (.aload_n 3, 1) := by decide +kernel
theorem d_D_copy_17 : decode b_D_copy 17 = .ok (.getfield 66, 3) := by decide +kernel
theorem d_D_copy_20 : decode b_D_copy 20 = .ok (.invokevirtual 90, 3) := by decide +kernel
theorem d_D_copy_23 : decode b_D_copy 23 = .ok (.aload 4, 2) := by decide +kernel
theorem d_D_copy_25 : decode b_D_copy 25 = .ok (.getfield 66, 3) := by decide +kernel
theorem d_D_copy_28 : decode b_D_copy 28 = .ok (.ireturn, 1) := by decide +kernel
theorem d_L_resize_0 : decode b_L_resize 0 = .ok (.aload_n 3, 1) := by decide +kernel
theorem d_L_resize_1 : decode b_L_resize 1 = .ok (.iconst 0, 1) := by decide +kernel
theorem d_L_resize_2 : decode b_L_resize 2 = .ok (.aload_n 0, 1) := by decide +kernel
theorem d_L_resize_3 : decode b_L_resize 3 = .ok (.iload_n 1, 1) := by decide +kernel
theorem d_L_resize_4 : decode b_L_resize 4 = .ok (.iload_n 2, 1) := by decide +kernel
theorem d_L_resize_5 : decode b_L_resize 5 = .ok (.invokevirtual 24, 3) := by decide +kernel
theorem d_L_resize_8 : decode b_L_resize 8 = .ok (.i2l, 1) := by decide +kernel
theorem d_L_resize_9 : decode b_L_resize 9 = .ok (.lastore, 1) := by decide +kernel
theorem d_L_resize_10 : decode b_L_resize 10 = .ok (.goto 7, 3) := by decide +kernel
theorem d_L_resize_13 : decode b_L_resize 13 = .ok (.astore 4, 2) := by decide +kernel
theorem d_L_resize_15 : decode b_L_resize 15 = .ok (.iconst 1, 1) := by decide +kernel
theorem d_L_resize_16 : decode b_L_resize 16 = .ok (.ireturn, 1) := by decide +kernel
theorem d_L_resize_17 : decode b_L_resize 17 = .ok (.iconst 0, 1) := by decide +kernel
theorem d_L_resize_18 : decode b_L_resize 18 = .ok (.ireturn, 1) := by decide +kernel
theorem d_D_resize_0 : decode b_D_resize 0 = .ok (.aload_n 0, 1) := by decide +kernel
theorem d_D_resize_1 : decode b_D_resize 1 = .ok (.iload_n 1, 1) := by decide +kernel
theorem d_D_resize_2 : decode b_D_resize 2 = .ok (.invokevirtual 80, 3) := by decide +kernel
theorem d_D_resize_5 : decode b_D_resize 5 = .ok (.astore_n 3, 1) := by decide +kernel
theorem d_D_resize_6 : decode b_D_resize 6 = .ok (.iload_n 2, 1) := by decide +kernel
theorem d_D_resize_7 : decode b_D_resize 7 = .ok (.iconst 0, 1) := by decide +kernel
theorem d_D_resize_8 : decode b_D_resize 8 = .ok (.sipush 8192, 3) := by decide +kernel
theorem d_D_resize_11 : decode b_D_resize 11 = .ok (.invokestatic 84, 3) := by decide +kernel
theorem d_D_resize_14 : decode b_D_resize 14 = .ok (.aload_n 3, 1) := by decide +kernel
theorem d_D_resize_15 : decode b_D_resize 15 = .ok (.getfield 66, 3) := by decide +kernel
theorem d_D_resize_18 : decode b_D_resize 18 = .ok (.istore 4, 2) := by decide +kernel
theorem d_D_resize_20 : decode b_D_resize 20 = .ok (.aload_n 3, 1) := by decide +kernel
theorem d_D_resize_21 : decode b_D_resize 21 = .ok (.iload_n 2, 1) := by decide +kernel
theorem d_D_resize_22 : decode b_D_resize 22 = .ok (.invokevirtual 94, 3) := by decide +kernel
theorem d_D_resize_25 : decode b_D_resize 25 = .ok (.iload 4, 2) := by decide +kernel
theorem d_D_resize_27 : decode b_D_resize 27 = .ok (.ireturn, 1) := by decide +kernel
theorem d_Y_cutOrFill_0 : decode b_Y_cutOrFill 0 = .ok (.iload_n 1, 1) := by decide +kernel
theorem d_Y_cutOrFill_1 : decode b_Y_cutOrFill 1 = .ok (.aload_n 0, 1) := by decide +kernel
theorem d_Y_cutOrFill_2 : decode b_Y_cutOrFill 2 = .ok (.getfield 15, 3) := by decide +kernel
theorem d_Y_cutOrFill_5 : decode b_Y_cutOrFill 5 = .ok (.if_icmp .le 16, 3) := by decide +kernel
theorem d_Y_cutOrFill_8 : decode b_Y_cutOrFill 8 = .ok (.aload_n 0, 1) := by decide +kernel
theorem d_Y_cutOrFill_9 : decode b_Y_cutOrFill 9 = .ok (.getfield 9, 3) := by decide +kernel
theorem d_Y_cutOrFill_12 : decode b_Y_cutOrFill 12 = .ok (.aload_n 0, 1) := by decide +kernel
theorem d_Y_cutOrFill_13 : decode b_Y_cutOrFill 13 = .ok (.getfield 15, 3) := by decide +kernel
theorem d_Y_cutOrFill_16 : decode b_Y_cutOrFill 16 = .ok (.iload_n 1, 1) := by decide +kernel
theorem d_Y_cutOrFill_17 : decode b_Y_cutOrFill 17 = .ok (.iconst 0, 1) := by decide +kernel
theorem d_Y_cutOrFill_18 : decode b_Y_cutOrFill 18 = .ok (.invokestatic 25, 3) := by decide +kernel
theorem d_Y_cutOrFill_21 : decode b_Y_cutOrFill 21 = .ok (.aload_n 0, 1) := by decide +kernel
theorem d_Y_cutOrFill_22 : decode b_Y_cutOrFill 22 = .ok (.iload_n 1, 1) := by decide +kernel
theorem d_Y_cutOrFill_23 : decode b_Y_cutOrFill 23 = .ok (.putfield 15, 3) := by decide +kernel
theorem d_Y_cutOrFill_26 : decode b_Y_cutOrFill 26 = .ok (.return_, 1) := by decide +kernel
theorem d_J_fill_0 : decode b_J_fill 0 = .ok (.aload_n 0, 1) := by decide +kernel
theorem d_J_fill_1 : decode b_J_fill 1 = .ok (.arraylength, 1) := by decide +kernel
theorem d_J_fill_2 : decode b_J_fill 2 = .ok (.iload_n 1, 1) := by decide +kernel
theorem d_J_fill_3 : decode b_J_fill 3 = .ok (.iload_n 2, 1) := by decide +kernel
theorem d_J_fill_4 : decode b_J_fill 4 = .ok (.invokestatic 13, 3) := by decide +kernel
theorem d_J_fill_7 : decode b_J_fill 7 = .ok (.iload_n 1, 1) := by decide +kernel
theorem d_J_fill_8 : decode b_J_fill 8 = .ok (.istore 4, 2) := by decide +kernel
theorem d_J_fill_10 : decode b_J_fill 10 = .ok (.iload 4, 2) := by decide +kernel
theorem d_J_fill_12 : decode b_J_fill 12 = .ok (.iload_n 2, 1) := by decide +kernel
theorem d_J_fill_13 : decode b_J_fill 13 = .ok (.if_icmp .ge 14, 3) := by decide +kernel
theorem d_J_fill_16 : decode b_J_fill 16 = .ok (.aload_n 0, 1) := by decide +kernel
theorem d_J_fill_17 : decode b_J_fill 17 = .ok (.iload 4, 2) := by decide +kernel
theorem d_J_fill_19 : decode b_J_fill 19 = .ok (.iload_n 3, 1) := by decide +kernel
theorem d_J_fill_20 : decode b_J_fill 20 = .ok (.bastore, 1) := by decide +kernel
theorem d_J_fill_21 : decode b_J_fill 21 = .ok (.iinc 4 1, 3) := by decide +kernel
theorem d_J_fill_24 : decode b_J_fill 24 = .ok (.goto (-14), 3) := by decide +kernel
theorem d_J_fill_27 : decode b_J_fill 27 = .ok (.return_, 1) := by decide +kernel
theorem d_J_rangeCheck_0 : decode b_J_rangeCheck 0 = .ok (.iload_n 1, 1) := by decide +kernel
theorem d_J_rangeCheck_1 : decode b_J_rangeCheck 1 = .ok (.iload_n 2, 1) := by decide +kernel
theorem d_J_rangeCheck_2 : decode b_J_rangeCheck 2 = .ok (.if_icmp .le 44, 3) := by decide +kernel
theorem d_J_rangeCheck_5 : decode b_J_rangeCheck 5 = .ok (.new 43, 3) := by decide +kernel
theorem d_J_rangeCheck_8 : decode b_J_rangeCheck 8 = .ok (.dup, 1) := by decide +kernel
theorem d_J_rangeCheck_9 : decode b_J_rangeCheck 9 = .ok (.new 45, 3) := by decide +kernel
theorem d_J_rangeCheck_12 : decode b_J_rangeCheck 12 = .ok (.dup, 1) := by decide +kernel
theorem d_J_rangeCheck_13 : decode b_J_rangeCheck 13 = .ok (.invokespecial 47, 3) := by decide +kernel
theorem d_J_rangeCheck_16 : decode b_J_rangeCheck 16 = .ok (.ldc 48, 2) := by decide +kernel
theorem d_J_rangeCheck_18 : decode b_J_rangeCheck 18 = .ok (.invokevirtual 50, 3) := by decide +kernel
theorem d_J_rangeCheck_21 : decode b_J_rangeCheck 21 = .ok (.iload_n 1, 1) := by decide +kernel
theorem d_J_rangeCheck_22 : decode b_J_rangeCheck 22 = .ok (.invokevirtual 54, 3) := by decide +kernel
theorem d_J_rangeCheck_25 : decode b_J_rangeCheck 25 = .ok (.ldc 57, 2) := by decide +kernel
theorem d_J_rangeCheck_27 : decode b_J_rangeCheck 27 = .ok (.invokevirtual 50, 3) := by decide +kernel
theorem d_J_rangeCheck_30 : decode b_J_rangeCheck 30 = .ok (.iload_n 2, 1) := by decide +kernel
theorem d_J_rangeCheck_31 : decode b_J_rangeCheck 31 = .ok (.invokevirtual 54, 3) := by decide +kernel
theorem d_J_rangeCheck_34 : decode b_J_rangeCheck 34 = .ok (.ldc 59, 2) := by decide +kernel
theorem d_J_rangeCheck_36 : decode b_J_rangeCheck 36 = .ok (.invokevirtual 50, 3) := by decide +kernel
theorem d_J_rangeCheck_39 : decode b_J_rangeCheck 39 = .ok (.invokevirtual 61, 3) := by decide +kernel
theorem d_J_rangeCheck_42 : decode b_J_rangeCheck 42 = .ok (.invokespecial 65, 3) := by decide +kernel
theorem d_J_rangeCheck_45 : decode b_J_rangeCheck 45 = .ok (.athrow, 1) := by decide +kernel
theorem d_J_rangeCheck_46 : decode b_J_rangeCheck 46 = .ok (.iload_n 1, 1) := by decide +kernel
theorem d_J_rangeCheck_47 : decode b_J_rangeCheck 47 = .ok (.ifCond .ge 12, 3) := by decide +kernel
theorem d_J_rangeCheck_50 : decode b_J_rangeCheck 50 = .ok (.new 68, 3) := by decide +kernel
theorem d_J_rangeCheck_53 : decode b_J_rangeCheck 53 = .ok (.dup, 1) := by decide +kernel
theorem d_J_rangeCheck_54 : decode b_J_rangeCheck 54 = .ok (.iload_n 1, 1) := by decide +kernel
theorem d_J_rangeCheck_55 : decode b_J_rangeCheck 55 = .ok (.invokespecial 70, 3) := by decide +kernel
theorem d_J_rangeCheck_58 : decode b_J_rangeCheck 58 = .ok (.athrow, 1) := by decide +kernel
theorem d_J_rangeCheck_59 : decode b_J_rangeCheck 59 = .ok (.iload_n 2, 1) := by decide +kernel
theorem d_J_rangeCheck_60 : decode b_J_rangeCheck 60 = .ok (.iload_n 0, 1) := by decide +kernel
theorem d_J_rangeCheck_61 : decode b_J_rangeCheck 61 = .ok (.if_icmp .le 12, 3) := by decide +kernel
theorem d_J_rangeCheck_64 : decode b_J_rangeCheck 64 = .ok (.new 68, 3) := by decide +kernel
theorem d_J_rangeCheck_67 : decode b_J_rangeCheck 67 = .ok (.dup, 1) := by decide +kernel
theorem d_J_rangeCheck_68 : decode b_J_rangeCheck 68 = .ok (.iload_n 2, 1) := by decide +kernel
theorem d_J_rangeCheck_69 : decode b_J_rangeCheck 69 = .ok (.invokespecial 70, 3) := by decide +kernel
theorem d_J_rangeCheck_72 : decode b_J_rangeCheck 72 = .ok (.athrow, 1) := by decide +kernel
theorem d_J_rangeCheck_73 : decode b_J_rangeCheck 73 = .ok (.return_, 1) := by decide +kernel
theorem d_L_alter_0 : decode b_L_alter 0 = .ok (.aload 4, 2) := by decide +kernel
theorem d_L_alter_2 : decode b_L_alter 2 = .ok (.iconst 0, 1) := by decide +kernel
theorem d_L_alter_3 : decode b_L_alter 3 = .ok (.aload_n 0, 1) := by decide +kernel
theorem d_L_alter_4 : decode b_L_alter 4 = .ok (.iload_n 1, 1) := by decide +kernel
theorem d_L_alter_5 : decode b_L_alter 5 = .ok (.iload_n 2, 1) := by decide +kernel
theorem d_L_alter_6 : decode b_L_alter 6 = .ok (.iload_n 3, 1) := by decide +kernel
theorem d_L_alter_7 : decode b_L_alter 7 = .ok (.invokevirtual 27, 3) := by decide +kernel
theorem d_L_alter_10 : decode b_L_alter 10 = .ok (.i2l, 1) := by decide +kernel
theorem d_L_alter_11 : decode b_L_alter 11 = .ok (.lastore, 1) := by decide +kernel
theorem d_L_alter_12 : decode b_L_alter 12 = .ok (.goto 11, 3) := by decide +kernel
theorem d_L_alter_15 : decode b_L_alter 15 = .ok (.astore 5, 2) := by decide +kernel
theorem d_L_alter_17 : decode b_L_alter 17 = .ok (.iconst 1, 1) := by decide +kernel
theorem d_L_alter_18 : decode b_L_alter 18 = .ok (.ireturn, 1) := by decide +kernel
theorem d_L_alter_19 : decode b_L_alter 19 = .ok (.astore 5, 2) := by decide +kernel
theorem d_L_alter_21 : decode b_L_alter 21 = .ok (.iconst 2, 1) := by decide +kernel
theorem d_L_alter_22 : decode b_L_alter 22 = .ok (.ireturn, 1) := by decide +kernel
theorem d_L_alter_23 : decode b_L_alter 23 = .ok (.iconst 0, 1) := by decide +kernel
theorem d_L_alter_24 : decode b_L_alter 24 = .ok (.ireturn, 1) := by decide +kernel
theorem d_D_alter_0 : decode b_D_alter 0 = .ok (.aload_n 0, 1) := by decide +kernel
theorem d_D_alter_1 : decode b_D_alter 1 = .ok (.iload_n 1, 1) := by decide +kernel
theorem d_D_alter_2 : decode b_D_alter 2 = .ok (.invokevirtual 80, 3) := by decide +kernel
theorem d_D_alter_5 : decode b_D_alter 5 = .ok (.astore 4, 2) := by decide +kernel
theorem d_D_alter_7 : decode b_D_alter 7 = .ok (.iload_n 3, 1) := by decide +kernel
theorem d_D_alter_8 : decode b_D_alter 8 = .ok (.iconst 0, 1) := by decide +kernel
theorem d_D_alter_9 : decode b_D_alter 9 = .ok (.sipush 255, 3) := by decide +kernel
theorem d_D_alter_12 : decode b_D_alter 12 = .ok (.invokestatic 84, 3) := by decide +kernel
theorem d_D_alter_15 : decode b_D_alter 15 = .ok (.aload 4, 2) := by decide +kernel
theorem d_D_alter_17 : decode b_D_alter 17 = .ok (.iload_n 2, 1) := by decide +kernel
theorem d_D_alter_18 : decode b_D_alter 18 = .ok (.invokestatic 97, 3) := by decide +kernel
theorem d_D_alter_21 : decode b_D_alter 21 = .ok (.aload 4, 2) := by decide +kernel
theorem d_D_alter_23 : decode b_D_alter 23 = .ok (.getfield 100, 3) := by decide +kernel
theorem d_D_alter_26 : decode b_D_alter 26 = .ok (.iload_n 2, 1) := by decide +kernel
theorem d_D_alter_27 : decode b_D_alter 27 = .ok (.aload 4, 2) := by decide +kernel
theorem d_D_alter_29 : decode b_D_alter 29 = .ok (.getfield 100, 3) := by decide +kernel
theorem d_D_alter_32 : decode b_D_alter 32 = .ok (.iload_n 2, 1) := by decide +kernel
theorem d_D_alter_33 : decode b_D_alter 33 = .ok (.baload, 1) := by decide +kernel
theorem d_D_alter_34 : decode b_D_alter 34 = .ok (.iload_n 3, 1) := by decide +kernel
theorem d_D_alter_35 : decode b_D_alter 35 = .ok (.ixor, 1) := by decide +kernel
theorem d_D_alter_36 : decode b_D_alter 36 = .ok (.i2b, 1) := by decide +kernel
theorem d_D_alter_37 : decode b_D_alter 37 = .ok (.bastore, 1) := by decide +kernel
theorem d_D_alter_38 : decode b_D_alter 38 = .ok (.aload 4, 2) := by decide +kernel
theorem d_D_alter_40 : decode b_D_alter 40 = .ok (.getfield 100, 3) := by decide +kernel
theorem d_D_alter_43 : decode b_D_alter 43 = .ok (.iload_n 2, 1) := by decide +kernel
theorem d_D_alter_44 : decode b_D_alter 44 = .ok (.baload, 1) := by decide +kernel
theorem d_D_alter_45 : decode b_D_alter 45 = .ok (.sipush 255, 3) := by decide +kernel
theorem d_D_alter_48 : decode b_D_alter 48 = .ok (.iand, 1) := by decide +kernel
theorem d_D_alter_49 : decode b_D_alter 49 = .ok (.ireturn, 1) := by decide +kernel
theorem d_D_requirePlace_0 : decode b_D_requirePlace 0 = .ok (.iload_n 1, 1) := by decide +kernel
theorem d_D_requirePlace_1 : decode b_D_requirePlace 1 = .ok (.ifCond .lt 11, 3) := by decide +kernel
theorem d_D_requirePlace_4 : decode b_D_requirePlace 4 = .ok (.iload_n 1, 1) := by decide +kernel
theorem d_D_requirePlace_5 : decode b_D_requirePlace 5 = .ok (.aload_n 0, 1) := by decide +kernel
theorem d_D_requirePlace_6 : decode b_D_requirePlace 6 = .ok (.getfield 66, 3) := by decide +kernel
theorem d_D_requirePlace_9 : decode b_D_requirePlace 9 = .ok (.if_icmp .lt 13, 3) := by decide +kernel
theorem d_D_requirePlace_12 : decode b_D_requirePlace 12 = .ok (.new 69, 3) := by decide +kernel
theorem d_D_requirePlace_15 : decode b_D_requirePlace 15 = .ok (.dup, 1) := by decide +kernel
theorem d_D_requirePlace_16 : decode b_D_requirePlace 16 = .ok (.ldc 149, 2) := by decide +kernel
theorem d_D_requirePlace_18 : decode b_D_requirePlace 18 = .ok (.invokespecial 73, 3) := by decide +kernel
theorem d_D_requirePlace_21 : decode b_D_requirePlace 21 = .ok (.athrow, 1) := by decide +kernel
theorem d_D_requirePlace_22 : decode b_D_requirePlace 22 = .ok (.return_, 1) := by decide +kernel
theorem d_L_length_0 : decode b_L_length 0 = .ok (.aload_n 2, 1) := by decide +kernel
theorem d_L_length_1 : decode b_L_length 1 = .ok (.iconst 0, 1) := by decide +kernel
theorem d_L_length_2 : decode b_L_length 2 = .ok (.aload_n 0, 1) := by decide +kernel
theorem d_L_length_3 : decode b_L_length 3 = .ok (.iload_n 1, 1) := by decide +kernel
theorem d_L_length_4 : decode b_L_length 4 = .ok (.invokevirtual 31, 3) := by decide +kernel
theorem d_L_length_7 : decode b_L_length 7 = .ok (.i2l, 1) := by decide +kernel
theorem d_L_length_8 : decode b_L_length 8 = .ok (.lastore, 1) := by decide +kernel
theorem d_L_length_9 : decode b_L_length 9 = .ok (.goto 6, 3) := by decide +kernel
theorem d_L_length_12 : decode b_L_length 12 = .ok (.astore_n 3, 1) := by decide +kernel
theorem d_L_length_13 : decode b_L_length 13 = .ok (.iconst 1, 1) := by decide +kernel
theorem d_L_length_14 : decode b_L_length 14 = .ok (.ireturn, 1) := by decide +kernel
theorem d_L_length_15 : decode b_L_length 15 = .ok (.iconst 0, 1) := by decide +kernel
theorem d_L_length_16 : decode b_L_length 16 = .ok (.ireturn, 1) := by decide +kernel
theorem d_D_length_0 : decode b_D_length 0 = .ok (.aload_n 0, 1) := by decide +kernel
theorem d_D_length_1 : decode b_D_length 1 = .ok (.iload_n 1, 1) := by decide +kernel
theorem d_D_length_2 : decode b_D_length 2 = .ok (.invokevirtual 80, 3) := by decide +kernel
theorem d_D_length_5 : decode b_D_length 5 = .ok (.getfield 66, 3) := by decide +kernel
theorem d_D_length_8 : decode b_D_length 8 = .ok (.ireturn, 1) := by decide +kernel
theorem d_L_word_0 : decode b_L_word 0 = .ok (.aload_n 3, 1) := by decide +kernel
theorem d_L_word_1 : decode b_L_word 1 = .ok (.iconst 0, 1) := by decide +kernel
theorem d_L_word_2 : decode b_L_word 2 = .ok (.aload_n 0, 1) := by decide +kernel
theorem d_L_word_3 : decode b_L_word 3 = .ok (.iload_n 1, 1) := by decide +kernel
theorem d_L_word_4 : decode b_L_word 4 = .ok (.iload_n 2, 1) := by decide +kernel
theorem d_L_word_5 : decode b_L_word 5 = .ok (.invokevirtual 35, 3) := by decide +kernel
theorem d_L_word_8 : decode b_L_word 8 = .ok (.lastore, 1) := by decide +kernel
theorem d_L_word_9 : decode b_L_word 9 = .ok (.goto 11, 3) := by decide +kernel
theorem d_L_word_12 : decode b_L_word 12 = .ok (.astore 4, 2) := by decide +kernel
theorem d_L_word_14 : decode b_L_word 14 = .ok (.iconst 1, 1) := by decide +kernel
theorem d_L_word_15 : decode b_L_word 15 = .ok (.ireturn, 1) := by decide +kernel
theorem d_L_word_16 : decode b_L_word 16 = .ok (.astore 4, 2) := by decide +kernel
theorem d_L_word_18 : decode b_L_word 18 = .ok (.iconst 2, 1) := by decide +kernel
theorem d_L_word_19 : decode b_L_word 19 = .ok (.ireturn, 1) := by decide +kernel
theorem d_L_word_20 : decode b_L_word 20 = .ok (.iconst 0, 1) := by decide +kernel
theorem d_L_word_21 : decode b_L_word 21 = .ok (.ireturn, 1) := by decide +kernel
theorem d_D_word_0 : decode b_D_word 0 = .ok (.aload_n 0, 1) := by decide +kernel
theorem d_D_word_1 : decode b_D_word 1 = .ok (.iload_n 1, 1) := by decide +kernel
theorem d_D_word_2 : decode b_D_word 2 = .ok (.invokevirtual 80, 3) := by decide +kernel
theorem d_D_word_5 : decode b_D_word 5 = .ok (.astore_n 3, 1) := by decide +kernel
theorem d_D_word_6 : decode b_D_word 6 = .ok (.aload_n 3, 1) := by decide +kernel
theorem d_D_word_7 : decode b_D_word 7 = .ok (.iload_n 2, 1) := by decide +kernel
theorem d_D_word_8 : decode b_D_word 8 = .ok (.invokestatic 97, 3) := by decide +kernel
theorem d_D_word_11 : decode b_D_word 11 = .ok (.aload_n 3, 1) := by decide +kernel
theorem d_D_word_12 : decode b_D_word 12 = .ok (.iload_n 2, 1) := by decide +kernel
theorem d_D_word_13 : decode b_D_word 13 = .ok (.invokevirtual 103, 3) := by decide +kernel
theorem d_D_word_16 : decode b_D_word 16 = .ok (.lreturn, 1) := by decide +kernel
theorem d_Y_eightFrom_0 : decode b_Y_eightFrom 0 = .ok (.lconst 0, 1) := by decide +kernel
theorem d_Y_eightFrom_1 : decode b_Y_eightFrom 1 = .ok (.lstore_n 2, 1) := by decide +kernel
theorem d_Y_eightFrom_2 : decode b_Y_eightFrom 2 = .ok (.iconst 0, 1) := by decide +kernel
theorem d_Y_eightFrom_3 : decode b_Y_eightFrom 3 = .ok (.istore 4, 2) := by decide +kernel
theorem d_Y_eightFrom_5 : decode b_Y_eightFrom 5 = .ok (.iload 4, 2) := by decide +kernel
theorem d_Y_eightFrom_7 : decode b_Y_eightFrom 7 = .ok (.bipush 8, 2) := by decide +kernel
theorem d_Y_eightFrom_9 : decode b_Y_eightFrom 9 = .ok (.if_icmp .ge 48, 3) := by decide +kernel
theorem d_Y_eightFrom_12 : decode b_Y_eightFrom 12 = .ok (.iload_n 1, 1) := by decide +kernel
theorem d_Y_eightFrom_13 : decode b_Y_eightFrom 13 = .ok (.iload 4, 2) := by decide +kernel
theorem d_Y_eightFrom_15 : decode b_Y_eightFrom 15 = .ok (.iadd, 1) := by decide +kernel
theorem d_Y_eightFrom_16 : decode b_Y_eightFrom 16 = .ok (.aload_n 0, 1) := by decide +kernel
theorem d_Y_eightFrom_17 : decode b_Y_eightFrom 17 = .ok (.getfield 15, 3) := by decide +kernel
theorem d_Y_eightFrom_20 : decode b_Y_eightFrom 20 = .ok (.if_icmp .ge 19, 3) := by decide +kernel
theorem d_Y_eightFrom_23 : decode b_Y_eightFrom 23 = .ok (.aload_n 0, 1) := by decide +kernel
theorem d_Y_eightFrom_24 : decode b_Y_eightFrom 24 = .ok (.getfield 9, 3) := by decide +kernel
theorem d_Y_eightFrom_27 : decode b_Y_eightFrom 27 = .ok (.iload_n 1, 1) := by decide +kernel
theorem d_Y_eightFrom_28 : decode b_Y_eightFrom 28 = .ok (.iload 4, 2) := by decide +kernel
theorem d_Y_eightFrom_30 : decode b_Y_eightFrom 30 = .ok (.iadd, 1) := by decide +kernel
theorem d_Y_eightFrom_31 : decode b_Y_eightFrom 31 = .ok (.baload, 1) := by decide +kernel
theorem d_Y_eightFrom_32 : decode b_Y_eightFrom 32 = .ok (.sipush 255, 3) := by decide +kernel
theorem d_Y_eightFrom_35 : decode b_Y_eightFrom 35 = .ok (.iand, 1) := by decide +kernel
theorem d_Y_eightFrom_36 : decode b_Y_eightFrom 36 = .ok (.goto 4, 3) := by decide +kernel
theorem d_Y_eightFrom_39 : decode b_Y_eightFrom 39 = .ok (.iconst 0, 1) := by decide +kernel
theorem d_Y_eightFrom_40 : decode b_Y_eightFrom 40 = .ok (.istore 5, 2) := by decide +kernel
theorem d_Y_eightFrom_42 : decode b_Y_eightFrom 42 = .ok (.lload_n 2, 1) := by decide +kernel
theorem d_Y_eightFrom_43 : decode b_Y_eightFrom 43 = .ok (.bipush 8, 2) := by decide +kernel
theorem d_Y_eightFrom_45 : decode b_Y_eightFrom 45 = .ok (.lshl, 1) := by decide +kernel
theorem d_Y_eightFrom_46 : decode b_Y_eightFrom 46 = .ok (.iload 5, 2) := by decide +kernel
theorem d_Y_eightFrom_48 : decode b_Y_eightFrom 48 = .ok (.i2l, 1) := by decide +kernel
theorem d_Y_eightFrom_49 : decode b_Y_eightFrom 49 = .ok (.lor, 1) := by decide +kernel
theorem d_Y_eightFrom_50 : decode b_Y_eightFrom 50 = .ok (.lstore_n 2, 1) := by decide +kernel
theorem d_Y_eightFrom_51 : decode b_Y_eightFrom 51 = .ok (.iinc 4 1, 3) := by decide +kernel
theorem d_Y_eightFrom_54 : decode b_Y_eightFrom 54 = .ok (.goto (-49), 3) := by decide +kernel
theorem d_Y_eightFrom_57 : decode b_Y_eightFrom 57 = .ok (.lload_n 2, 1) := by decide +kernel
theorem d_Y_eightFrom_58 : decode b_Y_eightFrom 58 = .ok (.lreturn, 1) := by decide +kernel
theorem d_L_same_0 : decode b_L_same 0 = .ok (.aload_n 3, 1) := by decide +kernel
theorem d_L_same_1 : decode b_L_same 1 = .ok (.iconst 0, 1) := by decide +kernel
theorem d_L_same_2 : decode b_L_same 2 = .ok (.aload_n 0, 1) := by decide +kernel
theorem d_L_same_3 : decode b_L_same 3 = .ok (.iload_n 1, 1) := by decide +kernel
theorem d_L_same_4 : decode b_L_same 4 = .ok (.iload_n 2, 1) := by decide +kernel
theorem d_L_same_5 : decode b_L_same 5 = .ok (.invokevirtual 39, 3) := by decide +kernel
theorem d_L_same_8 : decode b_L_same 8 = .ok (.ifCond .eq 7, 3) := by decide +kernel
theorem d_L_same_11 : decode b_L_same 11 = .ok (.lconst 1, 1) := by decide +kernel
theorem d_L_same_12 : decode b_L_same 12 = .ok (.goto 4, 3) := by decide +kernel
theorem d_L_same_15 : decode b_L_same 15 = .ok (.lconst 0, 1) := by decide +kernel
theorem d_L_same_16 : decode b_L_same 16 = .ok (.lastore, 1) := by decide +kernel
theorem d_L_same_17 : decode b_L_same 17 = .ok (.goto 7, 3) := by decide +kernel
theorem d_L_same_20 : decode b_L_same 20 = .ok (.astore 4, 2) := by decide +kernel
theorem d_L_same_22 : decode b_L_same 22 = .ok (.iconst 1, 1) := by decide +kernel
theorem d_L_same_23 : decode b_L_same 23 = .ok (.ireturn, 1) := by decide +kernel
theorem d_L_same_24 : decode b_L_same 24 = .ok (.iconst 0, 1) := by decide +kernel
theorem d_L_same_25 : decode b_L_same 25 = .ok (.ireturn, 1) := by decide +kernel
theorem d_D_same_0 : decode b_D_same 0 = .ok (.aload_n 0, 1) := by decide +kernel
theorem d_D_same_1 : decode b_D_same 1 = .ok (.iload_n 1, 1) := by decide +kernel
theorem d_D_same_2 : decode b_D_same 2 = .ok (.invokevirtual 80, 3) := by decide +kernel
theorem d_D_same_5 : decode b_D_same 5 = .ok (.aload_n 0, 1) := by decide +kernel
theorem d_D_same_6 : decode b_D_same 6 = .ok (.iload_n 2, 1) := by decide +kernel
theorem d_D_same_7 : decode b_D_same 7 = .ok (.invokevirtual 80, 3) := by decide +kernel
theorem d_D_same_10 : decode b_D_same 10 = .ok (.invokevirtual 107, 3) := by decide +kernel
theorem d_D_same_13 : decode b_D_same 13 = .ok (.ireturn, 1) := by decide +kernel
theorem d_Y_matches_0 : decode b_Y_matches 0 = .ok (.aload_n 0, 1) := by decide +kernel
theorem d_Y_matches_1 : decode b_Y_matches 1 = .ok (.getfield 15, 3) := by decide +kernel
theorem d_Y_matches_4 : decode b_Y_matches 4 = .ok (.aload_n 1, 1) := by decide +kernel
theorem d_Y_matches_5 : decode b_Y_matches 5 = .ok (.getfield 15, 3) := by decide +kernel
theorem d_Y_matches_8 : decode b_Y_matches 8 = .ok (.if_icmp .eq 5, 3) := by decide +kernel
theorem d_Y_matches_11 : decode b_Y_matches 11 = .ok (.iconst 0, 1) := by decide +kernel
theorem d_Y_matches_12 : decode b_Y_matches 12 = .ok (.ireturn, 1) := by decide +kernel
theorem d_Y_matches_13 : decode b_Y_matches 13 = .ok (.iconst 0, 1) := by decide +kernel
theorem d_Y_matches_14 : decode b_Y_matches 14 = .ok (.istore_n 2, 1) := by decide +kernel
theorem d_Y_matches_15 : decode b_Y_matches 15 = .ok (.iload_n 2, 1) := by decide +kernel
theorem d_Y_matches_16 : decode b_Y_matches 16 = .ok (.aload_n 0, 1) := by decide +kernel
theorem d_Y_matches_17 : decode b_Y_matches 17 = .ok (.getfield 15, 3) := by decide +kernel
end
section
theorem d_Y_matches_20 : decode b_Y_matches 20 = .ok (.if_icmp .ge 26, 3) := by decide +kernel
theorem d_Y_matches_23 : decode b_Y_matches 23 = .ok (.aload_n 0, 1) := by decide +kernel
theorem d_Y_matches_24 : decode b_Y_matches 24 = .ok (.getfield 9, 3) := by decide +kernel
theorem d_Y_matches_27 : decode b_Y_matches 27 = .ok (.iload_n 2, 1) := by decide +kernel
theorem d_Y_matches_28 : decode b_Y_matches 28 = .ok (.baload, 1) := by decide +kernel
theorem d_Y_matches_29 : decode b_Y_matches 29 = .ok (.aload_n 1, 1) := by decide +kernel
theorem d_Y_matches_30 : decode b_Y_matches 30 = .ok (.getfield 9, 3) := by decide +kernel
theorem d_Y_matches_33 : decode b_Y_matches 33 = .ok (.iload_n 2, 1) := by decide +kernel
theorem d_Y_matches_34 : decode b_Y_matches 34 = .ok (.baload, 1) := by decide +kernel
theorem d_Y_matches_35 : decode b_Y_matches 35 = .ok (.if_icmp .eq 5, 3) := by decide +kernel
theorem d_Y_matches_38 : decode b_Y_matches 38 = .ok (.iconst 0, 1) := by decide +kernel
theorem d_Y_matches_39 : decode b_Y_matches 39 = .ok (.ireturn, 1) := by decide +kernel
theorem d_Y_matches_40 : decode b_Y_matches 40 = .ok (.iinc 2 1, 3) := by decide +kernel
theorem d_Y_matches_43 : decode b_Y_matches 43 = .ok (.goto (-28), 3) := by decide +kernel
theorem d_Y_matches_46 : decode b_Y_matches 46 = .ok (.iconst 1, 1) := by decide +kernel
theorem d_Y_matches_47 : decode b_Y_matches 47 = .ok (.ireturn, 1) := by decide +kernel
theorem d_L_digest_0 : decode b_L_digest 0 = .ok (.aload_n 3, 1) := by decide +kernel
theorem d_L_digest_1 : decode b_L_digest 1 = .ok (.iconst 0, 1) := by decide +kernel
theorem d_L_digest_2 : decode b_L_digest 2 = .ok (.aload_n 0, 1) := by decide +kernel
theorem d_L_digest_3 : decode b_L_digest 3 = .ok (.iload_n 1, 1) := by decide +kernel
theorem d_L_digest_4 : decode b_L_digest 4 = .ok (.iload_n 2, 1) := by decide +kernel
theorem d_L_digest_5 : decode b_L_digest 5 = .ok (.invokevirtual 43, 3) := by decide +kernel
theorem d_L_digest_8 : decode b_L_digest 8 = .ok (.i2l, 1) := by decide +kernel
theorem d_L_digest_9 : decode b_L_digest 9 = .ok (.lastore, 1) := by decide +kernel
theorem d_L_digest_10 : decode b_L_digest 10 = .ok (.goto 7, 3) := by decide +kernel
theorem d_L_digest_13 : decode b_L_digest 13 = .ok (.astore 4, 2) := by decide +kernel
theorem d_L_digest_15 : decode b_L_digest 15 = .ok (.iconst 1, 1) := by decide +kernel
theorem d_L_digest_16 : decode b_L_digest 16 = .ok (.ireturn, 1) := by decide +kernel
theorem d_L_digest_17 : decode b_L_digest 17 = .ok (.iconst 0, 1) := by decide +kernel
theorem d_L_digest_18 : decode b_L_digest 18 = .ok (.ireturn, 1) := by decide +kernel
theorem d_D_digest_0 : decode b_D_digest 0 = .ok (.iload_n 1, 1) := by decide +kernel
theorem d_D_digest_1 : decode b_D_digest 1 = .ok (.iconst 1, 1) := by decide +kernel
theorem d_D_digest_2 : decode b_D_digest 2 = .ok (.bipush 16, 2) := by decide +kernel
theorem d_D_digest_4 : decode b_D_digest 4 = .ok (.invokestatic 84, 3) := by decide +kernel
theorem d_D_digest_7 : decode b_D_digest 7 = .ok (.iload_n 2, 1) := by decide +kernel
theorem d_D_digest_8 : decode b_D_digest 8 = .ok (.iconst 0, 1) := by decide +kernel
theorem d_D_digest_9 : decode b_D_digest 9 = .ok (.sipush 8192, 3) := by decide +kernel
theorem d_D_digest_12 : decode b_D_digest 12 = .ok (.invokestatic 84, 3) := by decide +kernel
theorem d_D_digest_15 : decode b_D_digest 15 = .ok (.iload_n 1, 1) := by decide +kernel
theorem d_D_digest_16 : decode b_D_digest 16 = .ok (.tableswitch 295 1 15 #[76, 92, 108, 124, 140, 156, 172, 186, 200, 213, 226, 239, 252, 266, 280], 76) := by decide +kernel
theorem d_D_digest_92 : decode b_D_digest 92 = .ok (.aload_n 0, 1) := by decide +kernel
theorem d_D_digest_93 : decode b_D_digest 93 = .ok (.aload_n 0, 1) := by decide +kernel
theorem d_D_digest_94 : decode b_D_digest 94 = .ok (.getfield 36, 3) := by decide +kernel
theorem d_D_digest_97 : decode b_D_digest 97 = .ok (.getstatic 111, 3) := by decide +kernel
theorem d_D_digest_100 : decode b_D_digest 100 = .ok (.bipush 32, 2) := by decide +kernel
theorem d_D_digest_102 : decode b_D_digest 102 = .ok (.invokevirtual 115, 3) := by decide +kernel
theorem d_D_digest_105 : decode b_D_digest 105 = .ok (.goto 218, 3) := by decide +kernel
theorem d_D_digest_108 : decode b_D_digest 108 = .ok (.aload_n 0, 1) := by decide +kernel
theorem d_D_digest_109 : decode b_D_digest 109 = .ok (.aload_n 0, 1) := by decide +kernel
theorem d_D_digest_110 : decode b_D_digest 110 = .ok (.getfield 43, 3) := by decide +kernel
theorem d_D_digest_113 : decode b_D_digest 113 = .ok (.getstatic 119, 3) := by decide +kernel
theorem d_D_digest_116 : decode b_D_digest 116 = .ok (.bipush 48, 2) := by decide +kernel
theorem d_D_digest_118 : decode b_D_digest 118 = .ok (.invokevirtual 115, 3) := by decide +kernel
theorem d_D_digest_121 : decode b_D_digest 121 = .ok (.goto 202, 3) := by decide +kernel
theorem d_D_digest_124 : decode b_D_digest 124 = .ok (.aload_n 0, 1) := by decide +kernel
theorem d_D_digest_125 : decode b_D_digest 125 = .ok (.aload_n 0, 1) := by decide +kernel
theorem d_D_digest_126 : decode b_D_digest 126 = .ok (.getfield 43, 3) := by decide +kernel
theorem d_D_digest_129 : decode b_D_digest 129 = .ok (.getstatic 122, 3) := by decide +kernel
theorem d_D_digest_132 : decode b_D_digest 132 = .ok (.bipush 64, 2) := by decide +kernel
theorem d_D_digest_134 : decode b_D_digest 134 = .ok (.invokevirtual 115, 3) := by decide +kernel
theorem d_D_digest_137 : decode b_D_digest 137 = .ok (.goto 186, 3) := by decide +kernel
theorem d_D_digest_140 : decode b_D_digest 140 = .ok (.aload_n 0, 1) := by decide +kernel
theorem d_D_digest_141 : decode b_D_digest 141 = .ok (.aload_n 0, 1) := by decide +kernel
theorem d_D_digest_142 : decode b_D_digest 142 = .ok (.getfield 36, 3) := by decide +kernel
theorem d_D_digest_145 : decode b_D_digest 145 = .ok (.getstatic 125, 3) := by decide +kernel
theorem d_D_digest_148 : decode b_D_digest 148 = .ok (.bipush 28, 2) := by decide +kernel
theorem d_D_digest_150 : decode b_D_digest 150 = .ok (.invokevirtual 115, 3) := by decide +kernel
theorem d_D_digest_153 : decode b_D_digest 153 = .ok (.goto 170, 3) := by decide +kernel
theorem d_D_digest_156 : decode b_D_digest 156 = .ok (.aload_n 0, 1) := by decide +kernel
theorem d_D_digest_157 : decode b_D_digest 157 = .ok (.aload_n 0, 1) := by decide +kernel
theorem d_D_digest_158 : decode b_D_digest 158 = .ok (.getfield 43, 3) := by decide +kernel
theorem d_D_digest_161 : decode b_D_digest 161 = .ok (.getstatic 128, 3) := by decide +kernel
theorem d_D_digest_164 : decode b_D_digest 164 = .ok (.bipush 28, 2) := by decide +kernel
theorem d_D_digest_166 : decode b_D_digest 166 = .ok (.invokevirtual 115, 3) := by decide +kernel
theorem d_D_digest_169 : decode b_D_digest 169 = .ok (.goto 154, 3) := by decide +kernel
theorem d_D_digest_172 : decode b_D_digest 172 = .ok (.aload_n 0, 1) := by decide +kernel
theorem d_D_digest_173 : decode b_D_digest 173 = .ok (.aload_n 0, 1) := by decide +kernel
theorem d_D_digest_174 : decode b_D_digest 174 = .ok (.getfield 43, 3) := by decide +kernel
theorem d_D_digest_177 : decode b_D_digest 177 = .ok (.getstatic 131, 3) := by decide +kernel
theorem d_D_digest_180 : decode b_D_digest 180 = .ok (.bipush 32, 2) := by decide +kernel
theorem d_D_digest_182 : decode b_D_digest 182 = .ok (.invokevirtual 115, 3) := by decide +kernel
theorem d_D_digest_185 : decode b_D_digest 185 = .ok (.goto 138, 3) := by decide +kernel
theorem d_D_digest_188 : decode b_D_digest 188 = .ok (.aload_n 0, 1) := by decide +kernel
theorem d_D_digest_189 : decode b_D_digest 189 = .ok (.sipush 144, 3) := by decide +kernel
theorem d_D_digest_192 : decode b_D_digest 192 = .ok (.bipush 6, 2) := by decide +kernel
theorem d_D_digest_194 : decode b_D_digest 194 = .ok (.bipush 28, 2) := by decide +kernel
theorem d_D_digest_196 : decode b_D_digest 196 = .ok (.invokevirtual 134, 3) := by decide +kernel
theorem d_D_digest_199 : decode b_D_digest 199 = .ok (.goto 124, 3) := by decide +kernel
theorem d_D_digest_202 : decode b_D_digest 202 = .ok (.aload_n 0, 1) := by decide +kernel
theorem d_D_digest_203 : decode b_D_digest 203 = .ok (.sipush 136, 3) := by decide +kernel
theorem d_D_digest_206 : decode b_D_digest 206 = .ok (.bipush 6, 2) := by decide +kernel
theorem d_D_digest_208 : decode b_D_digest 208 = .ok (.bipush 32, 2) := by decide +kernel
theorem d_D_digest_210 : decode b_D_digest 210 = .ok (.invokevirtual 134, 3) := by decide +kernel
theorem d_D_digest_213 : decode b_D_digest 213 = .ok (.goto 110, 3) := by decide +kernel
theorem d_D_digest_216 : decode b_D_digest 216 = .ok (.aload_n 0, 1) := by decide +kernel
theorem d_D_digest_217 : decode b_D_digest 217 = .ok (.bipush 104, 2) := by decide +kernel
theorem d_D_digest_219 : decode b_D_digest 219 = .ok (.bipush 6, 2) := by decide +kernel
theorem d_D_digest_221 : decode b_D_digest 221 = .ok (.bipush 48, 2) := by decide +kernel
theorem d_D_digest_223 : decode b_D_digest 223 = .ok (.invokevirtual 134, 3) := by decide +kernel
theorem d_D_digest_226 : decode b_D_digest 226 = .ok (.goto 97, 3) := by decide +kernel
theorem d_D_digest_229 : decode b_D_digest 229 = .ok (.aload_n 0, 1) := by decide +kernel
theorem d_D_digest_230 : decode b_D_digest 230 = .ok (.bipush 72, 2) := by decide +kernel
theorem d_D_digest_232 : decode b_D_digest 232 = .ok (.bipush 6, 2) := by decide +kernel
theorem d_D_digest_234 : decode b_D_digest 234 = .ok (.bipush 64, 2) := by decide +kernel
theorem d_D_digest_236 : decode b_D_digest 236 = .ok (.invokevirtual 134, 3) := by decide +kernel
theorem d_D_digest_239 : decode b_D_digest 239 = .ok (.goto 84, 3) := by decide +kernel
theorem d_D_digest_242 : decode b_D_digest 242 = .ok (.aload_n 0, 1) := by decide +kernel
theorem d_D_digest_243 : decode b_D_digest 243 = .ok (.sipush 168, 3) := by decide +kernel
theorem d_D_digest_246 : decode b_D_digest 246 = .ok (.bipush 31, 2) := by decide +kernel
theorem d_D_digest_248 : decode b_D_digest 248 = .ok (.iload_n 2, 1) := by decide +kernel
theorem d_D_digest_249 : decode b_D_digest 249 = .ok (.invokevirtual 134, 3) := by decide +kernel
theorem d_D_digest_252 : decode b_D_digest 252 = .ok (.goto 71, 3) := by decide +kernel
theorem d_D_digest_255 : decode b_D_digest 255 = .ok (.aload_n 0, 1) := by decide +kernel
theorem d_D_digest_256 : decode b_D_digest 256 = .ok (.sipush 136, 3) := by decide +kernel
theorem d_D_digest_259 : decode b_D_digest 259 = .ok (.bipush 31, 2) := by decide +kernel
theorem d_D_digest_261 : decode b_D_digest 261 = .ok (.iload_n 2, 1) := by decide +kernel
theorem d_D_digest_262 : decode b_D_digest 262 = .ok (.invokevirtual 134, 3) := by decide +kernel
theorem d_D_digest_265 : decode b_D_digest 265 = .ok (.goto 58, 3) := by decide +kernel
theorem d_D_digest_268 : decode b_D_digest 268 = .ok (.aload_n 0, 1) := by decide +kernel
theorem d_D_digest_269 : decode b_D_digest 269 = .ok (.aload_n 0, 1) := by decide +kernel
theorem d_D_digest_270 : decode b_D_digest 270 = .ok (.getfield 36, 3) := by decide +kernel
theorem d_D_digest_273 : decode b_D_digest 273 = .ok (.getstatic 111, 3) := by decide +kernel
theorem d_D_digest_276 : decode b_D_digest 276 = .ok (.invokevirtual 137, 3) := by decide +kernel
theorem d_D_digest_279 : decode b_D_digest 279 = .ok (.goto 44, 3) := by decide +kernel
theorem d_D_digest_282 : decode b_D_digest 282 = .ok (.aload_n 0, 1) := by decide +kernel
theorem d_D_digest_283 : decode b_D_digest 283 = .ok (.aload_n 0, 1) := by decide +kernel
theorem d_D_digest_284 : decode b_D_digest 284 = .ok (.getfield 43, 3) := by decide +kernel
theorem d_D_digest_287 : decode b_D_digest 287 = .ok (.getstatic 122, 3) := by decide +kernel
theorem d_D_digest_290 : decode b_D_digest 290 = .ok (.invokevirtual 137, 3) := by decide +kernel
theorem d_D_digest_293 : decode b_D_digest 293 = .ok (.goto 30, 3) := by decide +kernel
theorem d_D_digest_296 : decode b_D_digest 296 = .ok (.aload_n 0, 1) := by decide +kernel
theorem d_D_digest_297 : decode b_D_digest 297 = .ok (.aload_n 0, 1) := by decide +kernel
theorem d_D_digest_298 : decode b_D_digest 298 = .ok (.getfield 36, 3) := by decide +kernel
theorem d_D_digest_301 : decode b_D_digest 301 = .ok (.getstatic 111, 3) := by decide +kernel
theorem d_D_digest_304 : decode b_D_digest 304 = .ok (.iload_n 2, 1) := by decide +kernel
theorem d_D_digest_305 : decode b_D_digest 305 = .ok (.invokevirtual 141, 3) := by decide +kernel
theorem d_D_digest_308 : decode b_D_digest 308 = .ok (.goto 15, 3) := by decide +kernel
theorem d_D_digest_311 : decode b_D_digest 311 = .ok (.aload_n 0, 1) := by decide +kernel
theorem d_D_digest_312 : decode b_D_digest 312 = .ok (.aload_n 0, 1) := by decide +kernel
theorem d_D_digest_313 : decode b_D_digest 313 = .ok (.getfield 43, 3) := by decide +kernel
theorem d_D_digest_316 : decode b_D_digest 316 = .ok (.getstatic 122, 3) := by decide +kernel
theorem d_D_digest_319 : decode b_D_digest 319 = .ok (.iload_n 2, 1) := by decide +kernel
theorem d_D_digest_320 : decode b_D_digest 320 = .ok (.invokevirtual 141, 3) := by decide +kernel
theorem d_D_digest_323 : decode b_D_digest 323 = .ok (.aload_n 0, 1) := by decide +kernel
theorem d_D_digest_324 : decode b_D_digest 324 = .ok (.getfield 11, 3) := by decide +kernel
theorem d_D_digest_327 : decode b_D_digest 327 = .ok (.bipush 6, 2) := by decide +kernel
theorem d_D_digest_329 : decode b_D_digest 329 = .ok (.aaload, 1) := by decide +kernel
theorem d_D_digest_330 : decode b_D_digest 330 = .ok (.getfield 66, 3) := by decide +kernel
theorem d_D_digest_333 : decode b_D_digest 333 = .ok (.ireturn, 1) := by decide +kernel
theorem d_D_hashInBlocks_0 : decode b_D_hashInBlocks 0 = .ok (.aload_n 0, 1) := by decide +kernel
theorem d_D_hashInBlocks_1 : decode b_D_hashInBlocks 1 = .ok (.getfield 11, 3) := by decide +kernel
theorem d_D_hashInBlocks_4 : decode b_D_hashInBlocks 4 = .ok (.iconst 3, 1) := by decide +kernel
theorem d_D_hashInBlocks_5 : decode b_D_hashInBlocks 5 = .ok (.aaload, 1) := by decide +kernel
theorem d_D_hashInBlocks_6 : decode b_D_hashInBlocks 6 = .ok (.astore 4, 2) := by decide +kernel
theorem d_D_hashInBlocks_8 : decode b_D_hashInBlocks 8 = .ok (.aload_n 1, 1) := by decide +kernel
theorem d_D_hashInBlocks_9 : decode b_D_hashInBlocks 9 = .ok (.aload_n 2, 1) := by decide +kernel
theorem d_D_hashInBlocks_10 : decode b_D_hashInBlocks 10 = .ok (.invokevirtual 151, 3) := by decide +kernel
theorem d_D_hashInBlocks_13 : decode b_D_hashInBlocks 13 = .ok (.aload_n 1, 1) := by decide +kernel
theorem d_D_hashInBlocks_14 : decode b_D_hashInBlocks 14 = .ok (.aload 4, 2) := by decide +kernel
theorem d_D_hashInBlocks_16 : decode b_D_hashInBlocks 16 = .ok (.getfield 100, 3) := by decide +kernel
theorem d_D_hashInBlocks_19 : decode b_D_hashInBlocks 19 = .ok (.iconst 0, 1) := by decide +kernel
theorem d_D_hashInBlocks_20 : decode b_D_hashInBlocks 20 = .ok (.aload 4, 2) := by decide +kernel
theorem d_D_hashInBlocks_22 : decode b_D_hashInBlocks 22 = .ok (.getfield 66, 3) := by decide +kernel
theorem d_D_hashInBlocks_25 : decode b_D_hashInBlocks 25 = .ok (.invokevirtual 155, 3) := by decide +kernel
theorem d_D_hashInBlocks_28 : decode b_D_hashInBlocks 28 = .ok (.aload_n 1, 1) := by decide +kernel
theorem d_D_hashInBlocks_29 : decode b_D_hashInBlocks 29 = .ok (.aload_n 0, 1) := by decide +kernel
theorem d_D_hashInBlocks_30 : decode b_D_hashInBlocks 30 = .ok (.getfield 11, 3) := by decide +kernel
theorem d_D_hashInBlocks_33 : decode b_D_hashInBlocks 33 = .ok (.bipush 6, 2) := by decide +kernel
theorem d_D_hashInBlocks_35 : decode b_D_hashInBlocks 35 = .ok (.aaload, 1) := by decide +kernel
theorem d_D_hashInBlocks_36 : decode b_D_hashInBlocks 36 = .ok (.getfield 100, 3) := by decide +kernel
theorem d_D_hashInBlocks_39 : decode b_D_hashInBlocks 39 = .ok (.iconst 0, 1) := by decide +kernel
theorem d_D_hashInBlocks_40 : decode b_D_hashInBlocks 40 = .ok (.iload_n 3, 1) := by decide +kernel
theorem d_D_hashInBlocks_41 : decode b_D_hashInBlocks 41 = .ok (.invokevirtual 159, 3) := by decide +kernel
theorem d_D_hashInBlocks_44 : decode b_D_hashInBlocks 44 = .ok (.aload_n 0, 1) := by decide +kernel
theorem d_D_hashInBlocks_45 : decode b_D_hashInBlocks 45 = .ok (.getfield 11, 3) := by decide +kernel
theorem d_D_hashInBlocks_48 : decode b_D_hashInBlocks 48 = .ok (.bipush 6, 2) := by decide +kernel
theorem d_D_hashInBlocks_50 : decode b_D_hashInBlocks 50 = .ok (.aaload, 1) := by decide +kernel
theorem d_D_hashInBlocks_51 : decode b_D_hashInBlocks 51 = .ok (.iload_n 3, 1) := by decide +kernel
theorem d_D_hashInBlocks_52 : decode b_D_hashInBlocks 52 = .ok (.putfield 66, 3) := by decide +kernel
theorem d_D_hashInBlocks_55 : decode b_D_hashInBlocks 55 = .ok (.return_, 1) := by decide +kernel
theorem d_H_begin_0 : decode b_H_begin 0 = .ok (.aload_n 1, 1) := by decide +kernel
theorem d_H_begin_1 : decode b_H_begin 1 = .ok (.iconst 0, 1) := by decide +kernel
theorem d_H_begin_2 : decode b_H_begin 2 = .ok (.aload_n 0, 1) := by decide +kernel
theorem d_H_begin_3 : decode b_H_begin 3 = .ok (.getfield 41, 3) := by decide +kernel
theorem d_H_begin_6 : decode b_H_begin 6 = .ok (.iconst 0, 1) := by decide +kernel
theorem d_H_begin_7 : decode b_H_begin 7 = .ok (.bipush 8, 2) := by decide +kernel
theorem d_H_begin_9 : decode b_H_begin 9 = .ok (.invokestatic 51, 3) := by decide +kernel
theorem d_H_begin_12 : decode b_H_begin 12 = .ok (.aload_n 0, 1) := by decide +kernel
theorem d_H_begin_13 : decode b_H_begin 13 = .ok (.iconst 0, 1) := by decide +kernel
theorem d_H_begin_14 : decode b_H_begin 14 = .ok (.putfield 57, 3) := by decide +kernel
theorem d_H_begin_17 : decode b_H_begin 17 = .ok (.aload_n 0, 1) := by decide +kernel
theorem d_H_begin_18 : decode b_H_begin 18 = .ok (.lconst 0, 1) := by decide +kernel
theorem d_H_begin_19 : decode b_H_begin 19 = .ok (.putfield 60, 3) := by decide +kernel
theorem d_H_begin_22 : decode b_H_begin 22 = .ok (.return_, 1) := by decide +kernel
theorem d_H_absorb_0 : decode b_H_absorb 0 = .ok (.iconst 0, 1) := by decide +kernel
theorem d_H_absorb_1 : decode b_H_absorb 1 = .ok (.istore 4, 2) := by decide +kernel
theorem d_H_absorb_3 : decode b_H_absorb 3 = .ok (.iload 4, 2) := by decide +kernel
theorem d_H_absorb_5 : decode b_H_absorb 5 = .ok (.iload_n 3, 1) := by decide +kernel
theorem d_H_absorb_6 : decode b_H_absorb 6 = .ok (.if_icmp .ge 54, 3) := by decide +kernel
theorem d_H_absorb_9 : decode b_H_absorb 9 = .ok (.aload_n 0, 1) := by decide +kernel
theorem d_H_absorb_10 : decode b_H_absorb 10 = .ok (.getfield 37, 3) := by decide +kernel
theorem d_H_absorb_13 : decode b_H_absorb 13 = .ok (.aload_n 0, 1) := by decide +kernel
theorem d_H_absorb_14 : decode b_H_absorb 14 = .ok (.getfield 57, 3) := by decide +kernel
theorem d_H_absorb_17 : decode b_H_absorb 17 = .ok (.aload_n 1, 1) := by decide +kernel
theorem d_H_absorb_18 : decode b_H_absorb 18 = .ok (.iload_n 2, 1) := by decide +kernel
theorem d_H_absorb_19 : decode b_H_absorb 19 = .ok (.iload 4, 2) := by decide +kernel
theorem d_H_absorb_21 : decode b_H_absorb 21 = .ok (.iadd, 1) := by decide +kernel
theorem d_H_absorb_22 : decode b_H_absorb 22 = .ok (.baload, 1) := by decide +kernel
theorem d_H_absorb_23 : decode b_H_absorb 23 = .ok (.bastore, 1) := by decide +kernel
theorem d_H_absorb_24 : decode b_H_absorb 24 = .ok (.aload_n 0, 1) := by decide +kernel
theorem d_H_absorb_25 : decode b_H_absorb 25 = .ok (.dup, 1) := by decide +kernel
theorem d_H_absorb_26 : decode b_H_absorb 26 = .ok (.getfield 57, 3) := by decide +kernel
theorem d_H_absorb_29 : decode b_H_absorb 29 = .ok (.iconst 1, 1) := by decide +kernel
theorem d_H_absorb_30 : decode b_H_absorb 30 = .ok (.iadd, 1) := by decide +kernel
theorem d_H_absorb_31 : decode b_H_absorb 31 = .ok (.putfield 57, 3) := by decide +kernel
theorem d_H_absorb_34 : decode b_H_absorb 34 = .ok (.aload_n 0, 1) := by decide +kernel
theorem d_H_absorb_35 : decode b_H_absorb 35 = .ok (.getfield 57, 3) := by decide +kernel
theorem d_H_absorb_38 : decode b_H_absorb 38 = .ok (.aload_n 0, 1) := by decide +kernel
theorem d_H_absorb_39 : decode b_H_absorb 39 = .ok (.getfield 31, 3) := by decide +kernel
theorem d_H_absorb_42 : decode b_H_absorb 42 = .ok (.if_icmp .ne 12, 3) := by decide +kernel
theorem d_H_absorb_45 : decode b_H_absorb 45 = .ok (.aload_n 0, 1) := by decide +kernel
theorem d_H_absorb_46 : decode b_H_absorb 46 = .ok (.invokevirtual 63, 3) := by decide +kernel
theorem d_H_absorb_49 : decode b_H_absorb 49 = .ok (.aload_n 0, 1) := by decide +kernel
theorem d_H_absorb_50 : decode b_H_absorb 50 = .ok (.iconst 0, 1) := by decide +kernel
theorem d_H_absorb_51 : decode b_H_absorb 51 = .ok (.putfield 57, 3) := by decide +kernel
theorem d_H_absorb_54 : decode b_H_absorb 54 = .ok (.iinc 4 1, 3) := by decide +kernel
theorem d_H_absorb_57 : decode b_H_absorb 57 = .ok (.goto (-54), 3) := by decide +kernel
theorem d_H_absorb_60 : decode b_H_absorb 60 = .ok (.aload_n 0, 1) := by decide +kernel
theorem d_H_absorb_61 : decode b_H_absorb 61 = .ok (.dup, 1) := by decide +kernel
theorem d_H_absorb_62 : decode b_H_absorb 62 = .ok (.getfield 60, 3) := by decide +kernel
theorem d_H_absorb_65 : decode b_H_absorb 65 = .ok (.iload_n 3, 1) := by decide +kernel
theorem d_H_absorb_66 : decode b_H_absorb 66 = .ok (.i2l, 1) := by decide +kernel
theorem d_H_absorb_67 : decode b_H_absorb 67 = .ok (.ladd, 1) := by decide +kernel
theorem d_H_absorb_68 : decode b_H_absorb 68 = .ok (.putfield 60, 3) := by decide +kernel
theorem d_H_absorb_71 : decode b_H_absorb 71 = .ok (.return_, 1) := by decide +kernel
theorem d_H_compress_0 : decode b_H_compress 0 = .ok (.aload_n 0, 1) := by decide +kernel
theorem d_H_compress_1 : decode b_H_compress 1 = .ok (.invokevirtual 81, 3) := by decide +kernel
theorem d_H_compress_4 : decode b_H_compress 4 = .ok (.aload_n 0, 1) := by decide +kernel
theorem d_H_compress_5 : decode b_H_compress 5 = .ok (.getfield 41, 3) := by decide +kernel
theorem d_H_compress_8 : decode b_H_compress 8 = .ok (.iconst 0, 1) := by decide +kernel
theorem d_H_compress_9 : decode b_H_compress 9 = .ok (.laload, 1) := by decide +kernel
theorem d_H_compress_10 : decode b_H_compress 10 = .ok (.lstore_n 1, 1) := by decide +kernel
theorem d_H_compress_11 : decode b_H_compress 11 = .ok (.aload_n 0, 1) := by decide +kernel
theorem d_H_compress_12 : decode b_H_compress 12 = .ok (.getfield 41, 3) := by decide +kernel
theorem d_H_compress_15 : decode b_H_compress 15 = .ok (.iconst 1, 1) := by decide +kernel
theorem d_H_compress_16 : decode b_H_compress 16 = .ok (.laload, 1) := by decide +kernel
theorem d_H_compress_17 : decode b_H_compress 17 = .ok (.lstore_n 3, 1) := by decide +kernel
theorem d_H_compress_18 : decode b_H_compress 18 = .ok (.aload_n 0, 1) := by decide +kernel
theorem d_H_compress_19 : decode b_H_compress 19 = .ok (.getfield 41, 3) := by decide +kernel
theorem d_H_compress_22 : decode b_H_compress 22 = .ok (.iconst 2, 1) := by decide +kernel
theorem d_H_compress_23 : decode b_H_compress 23 = .ok (.laload, 1) := by decide +kernel
theorem d_H_compress_24 : decode b_H_compress 24 = .ok (.lstore 5, 2) := by decide +kernel
theorem d_H_compress_26 : decode b_H_compress 26 = .ok (.aload_n 0, 1) := by decide +kernel
theorem d_H_compress_27 : decode b_H_compress 27 = .ok (.getfield 41, 3) := by decide +kernel
theorem d_H_compress_30 : decode b_H_compress 30 = .ok (.iconst 3, 1) := by decide +kernel
theorem d_H_compress_31 : decode b_H_compress 31 = .ok (.laload, 1) := by decide +kernel
theorem d_H_compress_32 : decode b_H_compress 32 = .ok (.lstore 7, 2) := by decide +kernel
theorem d_H_compress_34 : decode b_H_compress 34 = .ok (.aload_n 0, 1) := by decide +kernel
theorem d_H_compress_35 : decode b_H_compress 35 = .ok (.getfield 41, 3) := by decide +kernel
theorem d_H_compress_38 : decode b_H_compress 38 = .ok (.iconst 4, 1) := by decide +kernel
theorem d_H_compress_39 : decode b_H_compress 39 = .ok (.laload, 1) := by decide +kernel
theorem d_H_compress_40 : decode b_H_compress 40 = .ok (.lstore 9, 2) := by decide +kernel
theorem d_H_compress_42 : decode b_H_compress 42 = .ok (.aload_n 0, 1) := by decide +kernel
theorem d_H_compress_43 : decode b_H_compress 43 = .ok (.getfield 41, 3) := by decide +kernel
theorem d_H_compress_46 : decode b_H_compress 46 = .ok (.iconst 5, 1) := by decide +kernel
theorem d_H_compress_47 : decode b_H_compress 47 = .ok (.laload, 1) := by decide +kernel
theorem d_H_compress_48 : decode b_H_compress 48 = .ok (.lstore 11, 2) := by decide +kernel
theorem d_H_compress_50 : decode b_H_compress 50 = .ok (.aload_n 0, 1) := by decide +kernel
theorem d_H_compress_51 : decode b_H_compress 51 = .ok (.getfield 41, 3) := by decide +kernel
theorem d_H_compress_54 : decode b_H_compress 54 = .ok (.bipush 6, 2) := by decide +kernel
theorem d_H_compress_56 : decode b_H_compress 56 = .ok (.laload, 1) := by decide +kernel
theorem d_H_compress_57 : decode b_H_compress 57 = .ok (.lstore 13, 2) := by decide +kernel
theorem d_H_compress_59 : decode b_H_compress 59 = .ok (.aload_n 0, 1) := by decide +kernel
theorem d_H_compress_60 : decode b_H_compress 60 = .ok (.getfield 41, 3) := by decide +kernel
theorem d_H_compress_63 : decode b_H_compress 63 = .ok (.bipush 7, 2) := by decide +kernel
theorem d_H_compress_65 : decode b_H_compress 65 = .ok (.laload, 1) := by decide +kernel
theorem d_H_compress_66 : decode b_H_compress 66 = .ok (.lstore 15, 2) := by decide +kernel
theorem d_H_compress_68 : decode b_H_compress 68 = .ok (.iconst 0, 1) := by decide +kernel
theorem d_H_compress_69 : decode b_H_compress 69 = .ok (.istore 17, 2) := by decide +kernel
theorem d_H_compress_71 : decode b_H_compress 71 = .ok (.iload 17, 2) := by decide +kernel
theorem d_H_compress_73 : decode b_H_compress 73 = .ok (.aload_n 0, 1) := by decide +kernel
theorem d_H_compress_74 : decode b_H_compress 74 = .ok (.getfield 15, 3) := by decide +kernel
theorem d_H_compress_77 : decode b_H_compress 77 = .ok (.if_icmp .ge 130, 3) := by decide +kernel
theorem d_H_compress_80 : decode b_H_compress 80 = .ok (.getstatic 84, 3) := by decide +kernel
theorem d_H_compress_83 : decode b_H_compress 83 = .ok (.iload 17, 2) := by decide +kernel
theorem d_H_compress_85 : decode b_H_compress 85 = .ok (.laload, 1) := by decide +kernel
theorem d_H_compress_86 : decode b_H_compress 86 = .ok (.bipush 64, 2) := by decide +kernel
theorem d_H_compress_88 : decode b_H_compress 88 = .ok (.aload_n 0, 1) := by decide +kernel
theorem d_H_compress_89 : decode b_H_compress 89 = .ok (.getfield 22, 3) := by decide +kernel
theorem d_H_compress_92 : decode b_H_compress 92 = .ok (.isub, 1) := by decide +kernel
theorem d_H_compress_93 : decode b_H_compress 93 = .ok (.lushr, 1) := by decide +kernel
theorem d_H_compress_94 : decode b_H_compress 94 = .ok (.lstore 18, 2) := by decide +kernel
theorem d_H_compress_96 : decode b_H_compress 96 = .ok (.lload 15, 2) := by decide +kernel
theorem d_H_compress_98 : decode b_H_compress 98 = .ok (.aload_n 0, 1) := by decide +kernel
theorem d_H_compress_99 : decode b_H_compress 99 = .ok (.lload 9, 2) := by decide +kernel
theorem d_H_compress_101 : decode b_H_compress 101 = .ok (.iconst 3, 1) := by decide +kernel
theorem d_H_compress_102 : decode b_H_compress 102 = .ok (.invokevirtual 87, 3) := by decide +kernel
theorem d_H_compress_105 : decode b_H_compress 105 = .ok (.ladd, 1) := by decide +kernel
theorem d_H_compress_106 : decode b_H_compress 106 = .ok (.lload 9, 2) := by decide +kernel
theorem d_H_compress_108 : decode b_H_compress 108 = .ok (.lload 11, 2) := by decide +kernel
end
section
theorem d_H_compress_110 : decode b_H_compress 110 = .ok (.land, 1) := by decide +kernel
theorem d_H_compress_111 : decode b_H_compress 111 = .ok (.lload 9, 2) := by decide +kernel
theorem d_H_compress_113 : decode b_H_compress 113 = .ok (.ldc2_w 25, 3) := by decide +kernel
theorem d_H_compress_116 : decode b_H_compress 116 = .ok (.lxor, 1) := by decide +kernel
theorem d_H_compress_117 : decode b_H_compress 117 = .ok (.lload 13, 2) := by decide +kernel
theorem d_H_compress_119 : decode b_H_compress 119 = .ok (.land, 1) := by decide +kernel
theorem d_H_compress_120 : decode b_H_compress 120 = .ok (.lxor, 1) := by decide +kernel
theorem d_H_compress_121 : decode b_H_compress 121 = .ok (.ladd, 1) := by decide +kernel
theorem d_H_compress_122 : decode b_H_compress 122 = .ok (.lload 18, 2) := by decide +kernel
theorem d_H_compress_124 : decode b_H_compress 124 = .ok (.ladd, 1) := by decide +kernel
theorem d_H_compress_125 : decode b_H_compress 125 = .ok (.aload_n 0, 1) := by decide +kernel
theorem d_H_compress_126 : decode b_H_compress 126 = .ok (.getfield 45, 3) := by decide +kernel
theorem d_H_compress_129 : decode b_H_compress 129 = .ok (.iload 17, 2) := by decide +kernel
theorem d_H_compress_131 : decode b_H_compress 131 = .ok (.laload, 1) := by decide +kernel
theorem d_H_compress_132 : decode b_H_compress 132 = .ok (.ladd, 1) := by decide +kernel
theorem d_H_compress_133 : decode b_H_compress 133 = .ok (.lstore 20, 2) := by decide +kernel
theorem d_H_compress_135 : decode b_H_compress 135 = .ok (.aload_n 0, 1) := by decide +kernel
theorem d_H_compress_136 : decode b_H_compress 136 = .ok (.lload_n 1, 1) := by decide +kernel
theorem d_H_compress_137 : decode b_H_compress 137 = .ok (.iconst 0, 1) := by decide +kernel
theorem d_H_compress_138 : decode b_H_compress 138 = .ok (.invokevirtual 87, 3) := by decide +kernel
theorem d_H_compress_141 : decode b_H_compress 141 = .ok (.lload_n 1, 1) := by decide +kernel
theorem d_H_compress_142 : decode b_H_compress 142 = .ok (.lload_n 3, 1) := by decide +kernel
theorem d_H_compress_143 : decode b_H_compress 143 = .ok (.land, 1) := by decide +kernel
theorem d_H_compress_144 : decode b_H_compress 144 = .ok (.lload_n 1, 1) := by decide +kernel
theorem d_H_compress_145 : decode b_H_compress 145 = .ok (.lload 5, 2) := by decide +kernel
theorem d_H_compress_147 : decode b_H_compress 147 = .ok (.land, 1) := by decide +kernel
theorem d_H_compress_148 : decode b_H_compress 148 = .ok (.lxor, 1) := by decide +kernel
theorem d_H_compress_149 : decode b_H_compress 149 = .ok (.lload_n 3, 1) := by decide +kernel
theorem d_H_compress_150 : decode b_H_compress 150 = .ok (.lload 5, 2) := by decide +kernel
theorem d_H_compress_152 : decode b_H_compress 152 = .ok (.land, 1) := by decide +kernel
theorem d_H_compress_153 : decode b_H_compress 153 = .ok (.lxor, 1) := by decide +kernel
theorem d_H_compress_154 : decode b_H_compress 154 = .ok (.ladd, 1) := by decide +kernel
theorem d_H_compress_155 : decode b_H_compress 155 = .ok (.lstore 22, 2) := by decide +kernel
theorem d_H_compress_157 : decode b_H_compress 157 = .ok (.lload 13, 2) := by decide +kernel
theorem d_H_compress_159 : decode b_H_compress 159 = .ok (.lstore 15, 2) := by decide +kernel
theorem d_H_compress_161 : decode b_H_compress 161 = .ok (.lload 11, 2) := by decide +kernel
theorem d_H_compress_163 : decode b_H_compress 163 = .ok (.lstore 13, 2) := by decide +kernel
theorem d_H_compress_165 : decode b_H_compress 165 = .ok (.lload 9, 2) := by decide +kernel
theorem d_H_compress_167 : decode b_H_compress 167 = .ok (.lstore 11, 2) := by decide +kernel
theorem d_H_compress_169 : decode b_H_compress 169 = .ok (.lload 7, 2) := by decide +kernel
theorem d_H_compress_171 : decode b_H_compress 171 = .ok (.lload 20, 2) := by decide +kernel
theorem d_H_compress_173 : decode b_H_compress 173 = .ok (.ladd, 1) := by decide +kernel
theorem d_H_compress_174 : decode b_H_compress 174 = .ok (.aload_n 0, 1) := by decide +kernel
theorem d_H_compress_175 : decode b_H_compress 175 = .ok (.getfield 27, 3) := by decide +kernel
theorem d_H_compress_178 : decode b_H_compress 178 = .ok (.land, 1) := by decide +kernel
theorem d_H_compress_179 : decode b_H_compress 179 = .ok (.lstore 9, 2) := by decide +kernel
theorem d_H_compress_181 : decode b_H_compress 181 = .ok (.lload 5, 2) := by decide +kernel
theorem d_H_compress_183 : decode b_H_compress 183 = .ok (.lstore 7, 2) := by decide +kernel
theorem d_H_compress_185 : decode b_H_compress 185 = .ok (.lload_n 3, 1) := by decide +kernel
theorem d_H_compress_186 : decode b_H_compress 186 = .ok (.lstore 5, 2) := by decide +kernel
theorem d_H_compress_188 : decode b_H_compress 188 = .ok (.lload_n 1, 1) := by decide +kernel
theorem d_H_compress_189 : decode b_H_compress 189 = .ok (.lstore_n 3, 1) := by decide +kernel
theorem d_H_compress_190 : decode b_H_compress 190 = .ok (.lload 20, 2) := by decide +kernel
theorem d_H_compress_192 : decode b_H_compress 192 = .ok (.lload 22, 2) := by decide +kernel
theorem d_H_compress_194 : decode b_H_compress 194 = .ok (.ladd, 1) := by decide +kernel
theorem d_H_compress_195 : decode b_H_compress 195 = .ok (.aload_n 0, 1) := by decide +kernel
theorem d_H_compress_196 : decode b_H_compress 196 = .ok (.getfield 27, 3) := by decide +kernel
theorem d_H_compress_199 : decode b_H_compress 199 = .ok (.land, 1) := by decide +kernel
theorem d_H_compress_200 : decode b_H_compress 200 = .ok (.lstore_n 1, 1) := by decide +kernel
theorem d_H_compress_201 : decode b_H_compress 201 = .ok (.iinc 17 1, 3) := by decide +kernel
theorem d_H_compress_204 : decode b_H_compress 204 = .ok (.goto (-133), 3) := by decide +kernel
theorem d_H_compress_207 : decode b_H_compress 207 = .ok (.aload_n 0, 1) := by decide +kernel
theorem d_H_compress_208 : decode b_H_compress 208 = .ok (.iconst 0, 1) := by decide +kernel
theorem d_H_compress_209 : decode b_H_compress 209 = .ok (.lload_n 1, 1) := by decide +kernel
theorem d_H_compress_210 : decode b_H_compress 210 = .ok (.lload_n 3, 1) := by decide +kernel
theorem d_H_compress_211 : decode b_H_compress 211 = .ok (.lload 5, 2) := by decide +kernel
theorem d_H_compress_213 : decode b_H_compress 213 = .ok (.lload 7, 2) := by decide +kernel
theorem d_H_compress_215 : decode b_H_compress 215 = .ok (.invokevirtual 91, 3) := by decide +kernel
theorem d_H_compress_218 : decode b_H_compress 218 = .ok (.aload_n 0, 1) := by decide +kernel
theorem d_H_compress_219 : decode b_H_compress 219 = .ok (.iconst 4, 1) := by decide +kernel
theorem d_H_compress_220 : decode b_H_compress 220 = .ok (.lload 9, 2) := by decide +kernel
theorem d_H_compress_222 : decode b_H_compress 222 = .ok (.lload 11, 2) := by decide +kernel
theorem d_H_compress_224 : decode b_H_compress 224 = .ok (.lload 13, 2) := by decide +kernel
theorem d_H_compress_226 : decode b_H_compress 226 = .ok (.lload 15, 2) := by decide +kernel
theorem d_H_compress_228 : decode b_H_compress 228 = .ok (.invokevirtual 91, 3) := by decide +kernel
theorem d_H_compress_231 : decode b_H_compress 231 = .ok (.return_, 1) := by decide +kernel
theorem d_H_fillSchedule_0 : decode b_H_fillSchedule 0 = .ok (.iconst 0, 1) := by decide +kernel
theorem d_H_fillSchedule_1 : decode b_H_fillSchedule 1 = .ok (.istore_n 1, 1) := by decide +kernel
theorem d_H_fillSchedule_2 : decode b_H_fillSchedule 2 = .ok (.iload_n 1, 1) := by decide +kernel
theorem d_H_fillSchedule_3 : decode b_H_fillSchedule 3 = .ok (.bipush 16, 2) := by decide +kernel
theorem d_H_fillSchedule_5 : decode b_H_fillSchedule 5 = .ok (.if_icmp .ge 61, 3) := by decide +kernel
theorem d_H_fillSchedule_8 : decode b_H_fillSchedule 8 = .ok (.lconst 0, 1) := by decide +kernel
theorem d_H_fillSchedule_9 : decode b_H_fillSchedule 9 = .ok (.lstore_n 2, 1) := by decide +kernel
theorem d_H_fillSchedule_10 : decode b_H_fillSchedule 10 = .ok (.iconst 0, 1) := by decide +kernel
theorem d_H_fillSchedule_11 : decode b_H_fillSchedule 11 = .ok (.istore 4, 2) := by decide +kernel
theorem d_H_fillSchedule_13 : decode b_H_fillSchedule 13 = .ok (.iload 4, 2) := by decide +kernel
theorem d_H_fillSchedule_15 : decode b_H_fillSchedule 15 = .ok (.aload_n 0, 1) := by decide +kernel
theorem d_H_fillSchedule_16 : decode b_H_fillSchedule 16 = .ok (.getfield 9, 3) := by decide +kernel
theorem d_H_fillSchedule_19 : decode b_H_fillSchedule 19 = .ok (.if_icmp .ge 34, 3) := by decide +kernel
theorem d_H_fillSchedule_22 : decode b_H_fillSchedule 22 = .ok (.lload_n 2, 1) := by decide +kernel
theorem d_H_fillSchedule_23 : decode b_H_fillSchedule 23 = .ok (.bipush 8, 2) := by decide +kernel
theorem d_H_fillSchedule_25 : decode b_H_fillSchedule 25 = .ok (.lshl, 1) := by decide +kernel
theorem d_H_fillSchedule_26 : decode b_H_fillSchedule 26 = .ok (.aload_n 0, 1) := by decide +kernel
theorem d_H_fillSchedule_27 : decode b_H_fillSchedule 27 = .ok (.getfield 37, 3) := by decide +kernel
theorem d_H_fillSchedule_30 : decode b_H_fillSchedule 30 = .ok (.iload_n 1, 1) := by decide +kernel
theorem d_H_fillSchedule_31 : decode b_H_fillSchedule 31 = .ok (.aload_n 0, 1) := by decide +kernel
theorem d_H_fillSchedule_32 : decode b_H_fillSchedule 32 = .ok (.getfield 9, 3) := by decide +kernel
theorem d_H_fillSchedule_35 : decode b_H_fillSchedule 35 = .ok (.imul, 1) := by decide +kernel
theorem d_H_fillSchedule_36 : decode b_H_fillSchedule 36 = .ok (.iload 4, 2) := by decide +kernel
theorem d_H_fillSchedule_38 : decode b_H_fillSchedule 38 = .ok (.iadd, 1) := by decide +kernel
theorem d_H_fillSchedule_39 : decode b_H_fillSchedule 39 = .ok (.baload, 1) := by decide +kernel
theorem d_H_fillSchedule_40 : decode b_H_fillSchedule 40 = .ok (.sipush 255, 3) := by decide +kernel
theorem d_H_fillSchedule_43 : decode b_H_fillSchedule 43 = .ok (.iand, 1) := by decide +kernel
theorem d_H_fillSchedule_44 : decode b_H_fillSchedule 44 = .ok (.i2l, 1) := by decide +kernel
theorem d_H_fillSchedule_45 : decode b_H_fillSchedule 45 = .ok (.lor, 1) := by decide +kernel
theorem d_H_fillSchedule_46 : decode b_H_fillSchedule 46 = .ok (.lstore_n 2, 1) := by decide +kernel
theorem d_H_fillSchedule_47 : decode b_H_fillSchedule 47 = .ok (.iinc 4 1, 3) := by decide +kernel
theorem d_H_fillSchedule_50 : decode b_H_fillSchedule 50 = .ok (.goto (-37), 3) := by decide +kernel
theorem d_H_fillSchedule_53 : decode b_H_fillSchedule 53 = .ok (.aload_n 0, 1) := by decide +kernel
theorem d_H_fillSchedule_54 : decode b_H_fillSchedule 54 = .ok (.getfield 45, 3) := by decide +kernel
theorem d_H_fillSchedule_57 : decode b_H_fillSchedule 57 = .ok (.iload_n 1, 1) := by decide +kernel
theorem d_H_fillSchedule_58 : decode b_H_fillSchedule 58 = .ok (.lload_n 2, 1) := by decide +kernel
theorem d_H_fillSchedule_59 : decode b_H_fillSchedule 59 = .ok (.lastore, 1) := by decide +kernel
theorem d_H_fillSchedule_60 : decode b_H_fillSchedule 60 = .ok (.iinc 1 1, 3) := by decide +kernel
theorem d_H_fillSchedule_63 : decode b_H_fillSchedule 63 = .ok (.goto (-61), 3) := by decide +kernel
theorem d_H_fillSchedule_66 : decode b_H_fillSchedule 66 = .ok (.bipush 16, 2) := by decide +kernel
theorem d_H_fillSchedule_68 : decode b_H_fillSchedule 68 = .ok (.istore_n 1, 1) := by decide +kernel
theorem d_H_fillSchedule_69 : decode b_H_fillSchedule 69 = .ok (.iload_n 1, 1) := by decide +kernel
theorem d_H_fillSchedule_70 : decode b_H_fillSchedule 70 = .ok (.aload_n 0, 1) := by decide +kernel
theorem d_H_fillSchedule_71 : decode b_H_fillSchedule 71 = .ok (.getfield 15, 3) := by decide +kernel
theorem d_H_fillSchedule_74 : decode b_H_fillSchedule 74 = .ok (.if_icmp .ge 76, 3) := by decide +kernel
theorem d_H_fillSchedule_77 : decode b_H_fillSchedule 77 = .ok (.aload_n 0, 1) := by decide +kernel
theorem d_H_fillSchedule_78 : decode b_H_fillSchedule 78 = .ok (.aload_n 0, 1) := by decide +kernel
theorem d_H_fillSchedule_79 : decode b_H_fillSchedule 79 = .ok (.getfield 45, 3) := by decide +kernel
theorem d_H_fillSchedule_82 : decode b_H_fillSchedule 82 = .ok (.iload_n 1, 1) := by decide +kernel
theorem d_H_fillSchedule_83 : decode b_H_fillSchedule 83 = .ok (.iconst 2, 1) := by decide +kernel
theorem d_H_fillSchedule_84 : decode b_H_fillSchedule 84 = .ok (.isub, 1) := by decide +kernel
theorem d_H_fillSchedule_85 : decode b_H_fillSchedule 85 = .ok (.laload, 1) := by decide +kernel
theorem d_H_fillSchedule_86 : decode b_H_fillSchedule 86 = .ok (.bipush 9, 2) := by decide +kernel
theorem d_H_fillSchedule_88 : decode b_H_fillSchedule 88 = .ok (.invokevirtual 95, 3) := by decide +kernel
theorem d_H_fillSchedule_91 : decode b_H_fillSchedule 91 = .ok (.lstore_n 2, 1) := by decide +kernel
theorem d_H_fillSchedule_92 : decode b_H_fillSchedule 92 = .ok (.aload_n 0, 1) := by decide +kernel
theorem d_H_fillSchedule_93 : decode b_H_fillSchedule 93 = .ok (.aload_n 0, 1) := by decide +kernel
theorem d_H_fillSchedule_94 : decode b_H_fillSchedule 94 = .ok (.getfield 45, 3) := by decide +kernel
theorem d_H_fillSchedule_97 : decode b_H_fillSchedule 97 = .ok (.iload_n 1, 1) := by decide +kernel
theorem d_H_fillSchedule_98 : decode b_H_fillSchedule 98 = .ok (.bipush 15, 2) := by decide +kernel
theorem d_H_fillSchedule_100 : decode b_H_fillSchedule 100 = .ok (.isub, 1) := by decide +kernel
theorem d_H_fillSchedule_101 : decode b_H_fillSchedule 101 = .ok (.laload, 1) := by decide +kernel
theorem d_H_fillSchedule_102 : decode b_H_fillSchedule 102 = .ok (.bipush 6, 2) := by decide +kernel
theorem d_H_fillSchedule_104 : decode b_H_fillSchedule 104 = .ok (.invokevirtual 95, 3) := by decide +kernel
theorem d_H_fillSchedule_107 : decode b_H_fillSchedule 107 = .ok (.lstore 4, 2) := by decide +kernel
theorem d_H_fillSchedule_109 : decode b_H_fillSchedule 109 = .ok (.aload_n 0, 1) := by decide +kernel
theorem d_H_fillSchedule_110 : decode b_H_fillSchedule 110 = .ok (.getfield 45, 3) := by decide +kernel
theorem d_H_fillSchedule_113 : decode b_H_fillSchedule 113 = .ok (.iload_n 1, 1) := by decide +kernel
theorem d_H_fillSchedule_114 : decode b_H_fillSchedule 114 = .ok (.lload_n 2, 1) := by decide +kernel
theorem d_H_fillSchedule_115 : decode b_H_fillSchedule 115 = .ok (.aload_n 0, 1) := by decide +kernel
theorem d_H_fillSchedule_116 : decode b_H_fillSchedule 116 = .ok (.getfield 45, 3) := by decide +kernel
theorem d_H_fillSchedule_119 : decode b_H_fillSchedule 119 = .ok (.iload_n 1, 1) := by decide +kernel
theorem d_H_fillSchedule_120 : decode b_H_fillSchedule 120 = .ok (.bipush 7, 2) := by decide +kernel
theorem d_H_fillSchedule_122 : decode b_H_fillSchedule 122 = .ok (.isub, 1) := by decide +kernel
theorem d_H_fillSchedule_123 : decode b_H_fillSchedule 123 = .ok (.laload, 1) := by decide +kernel
theorem d_H_fillSchedule_124 : decode b_H_fillSchedule 124 = .ok (.ladd, 1) := by decide +kernel
theorem d_H_fillSchedule_125 : decode b_H_fillSchedule 125 = .ok (.lload 4, 2) := by decide +kernel
theorem d_H_fillSchedule_127 : decode b_H_fillSchedule 127 = .ok (.ladd, 1) := by decide +kernel
theorem d_H_fillSchedule_128 : decode b_H_fillSchedule 128 = .ok (.aload_n 0, 1) := by decide +kernel
theorem d_H_fillSchedule_129 : decode b_H_fillSchedule 129 = .ok (.getfield 45, 3) := by decide +kernel
theorem d_H_fillSchedule_132 : decode b_H_fillSchedule 132 = .ok (.iload_n 1, 1) := by decide +kernel
theorem d_H_fillSchedule_133 : decode b_H_fillSchedule 133 = .ok (.bipush 16, 2) := by decide +kernel
theorem d_H_fillSchedule_135 : decode b_H_fillSchedule 135 = .ok (.isub, 1) := by decide +kernel
theorem d_H_fillSchedule_136 : decode b_H_fillSchedule 136 = .ok (.laload, 1) := by decide +kernel
theorem d_H_fillSchedule_137 : decode b_H_fillSchedule 137 = .ok (.ladd, 1) := by decide +kernel
theorem d_H_fillSchedule_138 : decode b_H_fillSchedule 138 = .ok (.aload_n 0, 1) := by decide +kernel
theorem d_H_fillSchedule_139 : decode b_H_fillSchedule 139 = .ok (.getfield 27, 3) := by decide +kernel
theorem d_H_fillSchedule_142 : decode b_H_fillSchedule 142 = .ok (.land, 1) := by decide +kernel
theorem d_H_fillSchedule_143 : decode b_H_fillSchedule 143 = .ok (.lastore, 1) := by decide +kernel
theorem d_H_fillSchedule_144 : decode b_H_fillSchedule 144 = .ok (.iinc 1 1, 3) := by decide +kernel
theorem d_H_fillSchedule_147 : decode b_H_fillSchedule 147 = .ok (.goto (-78), 3) := by decide +kernel
theorem d_H_fillSchedule_150 : decode b_H_fillSchedule 150 = .ok (.return_, 1) := by decide +kernel
theorem d_H_twoTurnsAndShift_0 : decode b_H_twoTurnsAndShift 0 = .ok (.aload_n 0, 1) := by decide +kernel
theorem d_H_twoTurnsAndShift_1 : decode b_H_twoTurnsAndShift 1 = .ok (.lload_n 1, 1) := by decide +kernel
theorem d_H_twoTurnsAndShift_2 : decode b_H_twoTurnsAndShift 2 = .ok (.aload_n 0, 1) := by decide +kernel
theorem d_H_twoTurnsAndShift_3 : decode b_H_twoTurnsAndShift 3 = .ok (.getfield 18, 3) := by decide +kernel
theorem d_H_twoTurnsAndShift_6 : decode b_H_twoTurnsAndShift 6 = .ok (.iload_n 3, 1) := by decide +kernel
theorem d_H_twoTurnsAndShift_7 : decode b_H_twoTurnsAndShift 7 = .ok (.iaload, 1) := by decide +kernel
theorem d_H_twoTurnsAndShift_8 : decode b_H_twoTurnsAndShift 8 = .ok (.invokevirtual 98, 3) := by decide +kernel
theorem d_H_twoTurnsAndShift_11 : decode b_H_twoTurnsAndShift 11 = .ok (.aload_n 0, 1) := by decide +kernel
theorem d_H_twoTurnsAndShift_12 : decode b_H_twoTurnsAndShift 12 = .ok (.lload_n 1, 1) := by decide +kernel
theorem d_H_twoTurnsAndShift_13 : decode b_H_twoTurnsAndShift 13 = .ok (.aload_n 0, 1) := by decide +kernel
theorem d_H_twoTurnsAndShift_14 : decode b_H_twoTurnsAndShift 14 = .ok (.getfield 18, 3) := by decide +kernel
theorem d_H_twoTurnsAndShift_17 : decode b_H_twoTurnsAndShift 17 = .ok (.iload_n 3, 1) := by decide +kernel
theorem d_H_twoTurnsAndShift_18 : decode b_H_twoTurnsAndShift 18 = .ok (.iconst 1, 1) := by decide +kernel
theorem d_H_twoTurnsAndShift_19 : decode b_H_twoTurnsAndShift 19 = .ok (.iadd, 1) := by decide +kernel
theorem d_H_twoTurnsAndShift_20 : decode b_H_twoTurnsAndShift 20 = .ok (.iaload, 1) := by decide +kernel
theorem d_H_twoTurnsAndShift_21 : decode b_H_twoTurnsAndShift 21 = .ok (.invokevirtual 98, 3) := by decide +kernel
theorem d_H_twoTurnsAndShift_24 : decode b_H_twoTurnsAndShift 24 = .ok (.lxor, 1) := by decide +kernel
theorem d_H_twoTurnsAndShift_25 : decode b_H_twoTurnsAndShift 25 = .ok (.lload_n 1, 1) := by decide +kernel
theorem d_H_twoTurnsAndShift_26 : decode b_H_twoTurnsAndShift 26 = .ok (.aload_n 0, 1) := by decide +kernel
theorem d_H_twoTurnsAndShift_27 : decode b_H_twoTurnsAndShift 27 = .ok (.getfield 18, 3) := by decide +kernel
theorem d_H_twoTurnsAndShift_30 : decode b_H_twoTurnsAndShift 30 = .ok (.iload_n 3, 1) := by decide +kernel
theorem d_H_twoTurnsAndShift_31 : decode b_H_twoTurnsAndShift 31 = .ok (.iconst 2, 1) := by decide +kernel
theorem d_H_twoTurnsAndShift_32 : decode b_H_twoTurnsAndShift 32 = .ok (.iadd, 1) := by decide +kernel
theorem d_H_twoTurnsAndShift_33 : decode b_H_twoTurnsAndShift 33 = .ok (.iaload, 1) := by decide +kernel
theorem d_H_twoTurnsAndShift_34 : decode b_H_twoTurnsAndShift 34 = .ok (.lushr, 1) := by decide +kernel
theorem d_H_twoTurnsAndShift_35 : decode b_H_twoTurnsAndShift 35 = .ok (.lxor, 1) := by decide +kernel
theorem d_H_twoTurnsAndShift_36 : decode b_H_twoTurnsAndShift 36 = .ok (.lreturn, 1) := by decide +kernel
theorem d_H_rotr_0 : decode b_H_rotr 0 = .ok (.lload_n 1, 1) := by decide +kernel
theorem d_H_rotr_1 : decode b_H_rotr 1 = .ok (.iload_n 3, 1) := by decide +kernel
theorem d_H_rotr_2 : decode b_H_rotr 2 = .ok (.lushr, 1) := by decide +kernel
theorem d_H_rotr_3 : decode b_H_rotr 3 = .ok (.lload_n 1, 1) := by decide +kernel
theorem d_H_rotr_4 : decode b_H_rotr 4 = .ok (.aload_n 0, 1) := by decide +kernel
theorem d_H_rotr_5 : decode b_H_rotr 5 = .ok (.getfield 22, 3) := by decide +kernel
theorem d_H_rotr_8 : decode b_H_rotr 8 = .ok (.iload_n 3, 1) := by decide +kernel
theorem d_H_rotr_9 : decode b_H_rotr 9 = .ok (.isub, 1) := by decide +kernel
theorem d_H_rotr_10 : decode b_H_rotr 10 = .ok (.lshl, 1) := by decide +kernel
theorem d_H_rotr_11 : decode b_H_rotr 11 = .ok (.lor, 1) := by decide +kernel
theorem d_H_rotr_12 : decode b_H_rotr 12 = .ok (.aload_n 0, 1) := by decide +kernel
theorem d_H_rotr_13 : decode b_H_rotr 13 = .ok (.getfield 27, 3) := by decide +kernel
theorem d_H_rotr_16 : decode b_H_rotr 16 = .ok (.land, 1) := by decide +kernel
theorem d_H_rotr_17 : decode b_H_rotr 17 = .ok (.lreturn, 1) := by decide +kernel
theorem d_H_threeTurns_0 : decode b_H_threeTurns 0 = .ok (.aload_n 0, 1) := by decide +kernel
theorem d_H_threeTurns_1 : decode b_H_threeTurns 1 = .ok (.lload_n 1, 1) := by decide +kernel
theorem d_H_threeTurns_2 : decode b_H_threeTurns 2 = .ok (.aload_n 0, 1) := by decide +kernel
theorem d_H_threeTurns_3 : decode b_H_threeTurns 3 = .ok (.getfield 18, 3) := by decide +kernel
theorem d_H_threeTurns_6 : decode b_H_threeTurns 6 = .ok (.iload_n 3, 1) := by decide +kernel
theorem d_H_threeTurns_7 : decode b_H_threeTurns 7 = .ok (.iaload, 1) := by decide +kernel
theorem d_H_threeTurns_8 : decode b_H_threeTurns 8 = .ok (.invokevirtual 98, 3) := by decide +kernel
theorem d_H_threeTurns_11 : decode b_H_threeTurns 11 = .ok (.aload_n 0, 1) := by decide +kernel
theorem d_H_threeTurns_12 : decode b_H_threeTurns 12 = .ok (.lload_n 1, 1) := by decide +kernel
theorem d_H_threeTurns_13 : decode b_H_threeTurns 13 = .ok (.aload_n 0, 1) := by decide +kernel
theorem d_H_threeTurns_14 : decode b_H_threeTurns 14 = .ok (.getfield 18, 3) := by decide +kernel
theorem d_H_threeTurns_17 : decode b_H_threeTurns 17 = .ok (.iload_n 3, 1) := by decide +kernel
theorem d_H_threeTurns_18 : decode b_H_threeTurns 18 = .ok (.iconst 1, 1) := by decide +kernel
theorem d_H_threeTurns_19 : decode b_H_threeTurns 19 = .ok (.iadd, 1) := by decide +kernel
theorem d_H_threeTurns_20 : decode b_H_threeTurns 20 = .ok (.iaload, 1) := by decide +kernel
theorem d_H_threeTurns_21 : decode b_H_threeTurns 21 = .ok (.invokevirtual 98, 3) := by decide +kernel
theorem d_H_threeTurns_24 : decode b_H_threeTurns 24 = .ok (.lxor, 1) := by decide +kernel
theorem d_H_threeTurns_25 : decode b_H_threeTurns 25 = .ok (.aload_n 0, 1) := by decide +kernel
theorem d_H_threeTurns_26 : decode b_H_threeTurns 26 = .ok (.lload_n 1, 1) := by decide +kernel
theorem d_H_threeTurns_27 : decode b_H_threeTurns 27 = .ok (.aload_n 0, 1) := by decide +kernel
theorem d_H_threeTurns_28 : decode b_H_threeTurns 28 = .ok (.getfield 18, 3) := by decide +kernel
theorem d_H_threeTurns_31 : decode b_H_threeTurns 31 = .ok (.iload_n 3, 1) := by decide +kernel
theorem d_H_threeTurns_32 : decode b_H_threeTurns 32 = .ok (.iconst 2, 1) := by decide +kernel
theorem d_H_threeTurns_33 : decode b_H_threeTurns 33 = .ok (.iadd, 1) := by decide +kernel
theorem d_H_threeTurns_34 : decode b_H_threeTurns 34 = .ok (.iaload, 1) := by decide +kernel
theorem d_H_threeTurns_35 : decode b_H_threeTurns 35 = .ok (.invokevirtual 98, 3) := by decide +kernel
theorem d_H_threeTurns_38 : decode b_H_threeTurns 38 = .ok (.lxor, 1) := by decide +kernel
theorem d_H_threeTurns_39 : decode b_H_threeTurns 39 = .ok (.lreturn, 1) := by decide +kernel
theorem d_H_addToState_0 : decode b_H_addToState 0 = .ok (.aload_n 0, 1) := by decide +kernel
theorem d_H_addToState_1 : decode b_H_addToState 1 = .ok (.getfield 41, 3) := by decide +kernel
theorem d_H_addToState_4 : decode b_H_addToState 4 = .ok (.iload_n 1, 1) := by decide +kernel
theorem d_H_addToState_5 : decode b_H_addToState 5 = .ok (.aload_n 0, 1) := by decide +kernel
theorem d_H_addToState_6 : decode b_H_addToState 6 = .ok (.getfield 41, 3) := by decide +kernel
theorem d_H_addToState_9 : decode b_H_addToState 9 = .ok (.iload_n 1, 1) := by decide +kernel
theorem d_H_addToState_10 : decode b_H_addToState 10 = .ok (.laload, 1) := by decide +kernel
theorem d_H_addToState_11 : decode b_H_addToState 11 = .ok (.lload_n 2, 1) := by decide +kernel
theorem d_H_addToState_12 : decode b_H_addToState 12 = .ok (.ladd, 1) := by decide +kernel
theorem d_H_addToState_13 : decode b_H_addToState 13 = .ok (.aload_n 0, 1) := by decide +kernel
theorem d_H_addToState_14 : decode b_H_addToState 14 = .ok (.getfield 27, 3) := by decide +kernel
theorem d_H_addToState_17 : decode b_H_addToState 17 = .ok (.land, 1) := by decide +kernel
theorem d_H_addToState_18 : decode b_H_addToState 18 = .ok (.lastore, 1) := by decide +kernel
theorem d_H_addToState_19 : decode b_H_addToState 19 = .ok (.aload_n 0, 1) := by decide +kernel
theorem d_H_addToState_20 : decode b_H_addToState 20 = .ok (.getfield 41, 3) := by decide +kernel
theorem d_H_addToState_23 : decode b_H_addToState 23 = .ok (.iload_n 1, 1) := by decide +kernel
theorem d_H_addToState_24 : decode b_H_addToState 24 = .ok (.iconst 1, 1) := by decide +kernel
theorem d_H_addToState_25 : decode b_H_addToState 25 = .ok (.iadd, 1) := by decide +kernel
theorem d_H_addToState_26 : decode b_H_addToState 26 = .ok (.aload_n 0, 1) := by decide +kernel
theorem d_H_addToState_27 : decode b_H_addToState 27 = .ok (.getfield 41, 3) := by decide +kernel
theorem d_H_addToState_30 : decode b_H_addToState 30 = .ok (.iload_n 1, 1) := by decide +kernel
theorem d_H_addToState_31 : decode b_H_addToState 31 = .ok (.iconst 1, 1) := by decide +kernel
theorem d_H_addToState_32 : decode b_H_addToState 32 = .ok (.iadd, 1) := by decide +kernel
theorem d_H_addToState_33 : decode b_H_addToState 33 = .ok (.laload, 1) := by decide +kernel
theorem d_H_addToState_34 : decode b_H_addToState 34 = .ok (.lload 4, 2) := by decide +kernel
theorem d_H_addToState_36 : decode b_H_addToState 36 = .ok (.ladd, 1) := by decide +kernel
theorem d_H_addToState_37 : decode b_H_addToState 37 = .ok (.aload_n 0, 1) := by decide +kernel
theorem d_H_addToState_38 : decode b_H_addToState 38 = .ok (.getfield 27, 3) := by decide +kernel
theorem d_H_addToState_41 : decode b_H_addToState 41 = .ok (.land, 1) := by decide +kernel
theorem d_H_addToState_42 : decode b_H_addToState 42 = .ok (.lastore, 1) := by decide +kernel
theorem d_H_addToState_43 : decode b_H_addToState 43 = .ok (.aload_n 0, 1) := by decide +kernel
theorem d_H_addToState_44 : decode b_H_addToState 44 = .ok (.getfield 41, 3) := by decide +kernel
theorem d_H_addToState_47 : decode b_H_addToState 47 = .ok (.iload_n 1, 1) := by decide +kernel
theorem d_H_addToState_48 : decode b_H_addToState 48 = .ok (.iconst 2, 1) := by decide +kernel
theorem d_H_addToState_49 : decode b_H_addToState 49 = .ok (.iadd, 1) := by decide +kernel
theorem d_H_addToState_50 : decode b_H_addToState 50 = .ok (.aload_n 0, 1) := by decide +kernel
theorem d_H_addToState_51 : decode b_H_addToState 51 = .ok (.getfield 41, 3) := by decide +kernel
theorem d_H_addToState_54 : decode b_H_addToState 54 = .ok (.iload_n 1, 1) := by decide +kernel
theorem d_H_addToState_55 : decode b_H_addToState 55 = .ok (.iconst 2, 1) := by decide +kernel
theorem d_H_addToState_56 : decode b_H_addToState 56 = .ok (.iadd, 1) := by decide +kernel
theorem d_H_addToState_57 : decode b_H_addToState 57 = .ok (.laload, 1) := by decide +kernel
theorem d_H_addToState_58 : decode b_H_addToState 58 = .ok (.lload 6, 2) := by decide +kernel
theorem d_H_addToState_60 : decode b_H_addToState 60 = .ok (.ladd, 1) := by decide +kernel
theorem d_H_addToState_61 : decode b_H_addToState 61 = .ok (.aload_n 0, 1) := by decide +kernel
theorem d_H_addToState_62 : decode b_H_addToState 62 = .ok (.getfield 27, 3) := by decide +kernel
theorem d_H_addToState_65 : decode b_H_addToState 65 = .ok (.land, 1) := by decide +kernel
theorem d_H_addToState_66 : decode b_H_addToState 66 = .ok (.lastore, 1) := by decide +kernel
theorem d_H_addToState_67 : decode b_H_addToState 67 = .ok (.aload_n 0, 1) := by decide +kernel
theorem d_H_addToState_68 : decode b_H_addToState 68 = .ok (.getfield 41, 3) := by decide +kernel
theorem d_H_addToState_71 : decode b_H_addToState 71 = .ok (.iload_n 1, 1) := by decide +kernel
theorem d_H_addToState_72 : decode b_H_addToState 72 = .ok (.iconst 3, 1) := by decide +kernel
theorem d_H_addToState_73 : decode b_H_addToState 73 = .ok (.iadd, 1) := by decide +kernel
theorem d_H_addToState_74 : decode b_H_addToState 74 = .ok (.aload_n 0, 1) := by decide +kernel
theorem d_H_addToState_75 : decode b_H_addToState 75 = .ok (.getfield 41, 3) := by decide +kernel
theorem d_H_addToState_78 : decode b_H_addToState 78 = .ok (.iload_n 1, 1) := by decide +kernel
theorem d_H_addToState_79 : decode b_H_addToState 79 = .ok (.iconst 3, 1) := by decide +kernel
theorem d_H_addToState_80 : decode b_H_addToState 80 = .ok (.iadd, 1) := by decide +kernel
theorem d_H_addToState_81 : decode b_H_addToState 81 = .ok (.laload, 1) := by decide +kernel
theorem d_H_addToState_82 : decode b_H_addToState 82 = .ok (.lload 8, 2) := by decide +kernel
theorem d_H_addToState_84 : decode b_H_addToState 84 = .ok (.ladd, 1) := by decide +kernel
theorem d_H_addToState_85 : decode b_H_addToState 85 = .ok (.aload_n 0, 1) := by decide +kernel
theorem d_H_addToState_86 : decode b_H_addToState 86 = .ok (.getfield 27, 3) := by decide +kernel
theorem d_H_addToState_89 : decode b_H_addToState 89 = .ok (.land, 1) := by decide +kernel
end
section
theorem d_H_addToState_90 : decode b_H_addToState 90 = .ok (.lastore, 1) := by decide +kernel
theorem d_H_addToState_91 : decode b_H_addToState 91 = .ok (.return_, 1) := by decide +kernel
theorem d_H_finish_0 : decode b_H_finish 0 = .ok (.aload_n 0, 1) := by decide +kernel
theorem d_H_finish_1 : decode b_H_finish 1 = .ok (.getfield 37, 3) := by decide +kernel
theorem d_H_finish_4 : decode b_H_finish 4 = .ok (.aload_n 0, 1) := by decide +kernel
theorem d_H_finish_5 : decode b_H_finish 5 = .ok (.getfield 57, 3) := by decide +kernel
theorem d_H_finish_8 : decode b_H_finish 8 = .ok (.bipush (-128), 2) := by decide +kernel
theorem d_H_finish_10 : decode b_H_finish 10 = .ok (.bastore, 1) := by decide +kernel
theorem d_H_finish_11 : decode b_H_finish 11 = .ok (.aload_n 0, 1) := by decide +kernel
theorem d_H_finish_12 : decode b_H_finish 12 = .ok (.dup, 1) := by decide +kernel
theorem d_H_finish_13 : decode b_H_finish 13 = .ok (.getfield 57, 3) := by decide +kernel
theorem d_H_finish_16 : decode b_H_finish 16 = .ok (.iconst 1, 1) := by decide +kernel
theorem d_H_finish_17 : decode b_H_finish 17 = .ok (.iadd, 1) := by decide +kernel
theorem d_H_finish_18 : decode b_H_finish 18 = .ok (.putfield 57, 3) := by decide +kernel
theorem d_H_finish_21 : decode b_H_finish 21 = .ok (.aload_n 0, 1) := by decide +kernel
theorem d_H_finish_22 : decode b_H_finish 22 = .ok (.getfield 57, 3) := by decide +kernel
theorem d_H_finish_25 : decode b_H_finish 25 = .ok (.aload_n 0, 1) := by decide +kernel
theorem d_H_finish_26 : decode b_H_finish 26 = .ok (.getfield 31, 3) := by decide +kernel
theorem d_H_finish_29 : decode b_H_finish 29 = .ok (.aload_n 0, 1) := by decide +kernel
theorem d_H_finish_30 : decode b_H_finish 30 = .ok (.getfield 31, 3) := by decide +kernel
theorem d_H_finish_33 : decode b_H_finish 33 = .ok (.bipush 8, 2) := by decide +kernel
theorem d_H_finish_35 : decode b_H_finish 35 = .ok (.idiv, 1) := by decide +kernel
theorem d_H_finish_36 : decode b_H_finish 36 = .ok (.isub, 1) := by decide +kernel
theorem d_H_finish_37 : decode b_H_finish 37 = .ok (.if_icmp .le 28, 3) := by decide +kernel
theorem d_H_finish_40 : decode b_H_finish 40 = .ok (.aload_n 0, 1) := by decide +kernel
theorem d_H_finish_41 : decode b_H_finish 41 = .ok (.getfield 37, 3) := by decide +kernel
theorem d_H_finish_44 : decode b_H_finish 44 = .ok (.aload_n 0, 1) := by decide +kernel
theorem d_H_finish_45 : decode b_H_finish 45 = .ok (.getfield 57, 3) := by decide +kernel
theorem d_H_finish_48 : decode b_H_finish 48 = .ok (.aload_n 0, 1) := by decide +kernel
theorem d_H_finish_49 : decode b_H_finish 49 = .ok (.getfield 31, 3) := by decide +kernel
theorem d_H_finish_52 : decode b_H_finish 52 = .ok (.iconst 0, 1) := by decide +kernel
theorem d_H_finish_53 : decode b_H_finish 53 = .ok (.invokestatic 69, 3) := by decide +kernel
theorem d_H_finish_56 : decode b_H_finish 56 = .ok (.aload_n 0, 1) := by decide +kernel
theorem d_H_finish_57 : decode b_H_finish 57 = .ok (.invokevirtual 63, 3) := by decide +kernel
theorem d_H_finish_60 : decode b_H_finish 60 = .ok (.aload_n 0, 1) := by decide +kernel
theorem d_H_finish_61 : decode b_H_finish 61 = .ok (.iconst 0, 1) := by decide +kernel
theorem d_H_finish_62 : decode b_H_finish 62 = .ok (.putfield 57, 3) := by decide +kernel
theorem d_H_finish_65 : decode b_H_finish 65 = .ok (.aload_n 0, 1) := by decide +kernel
theorem d_H_finish_66 : decode b_H_finish 66 = .ok (.getfield 37, 3) := by decide +kernel
theorem d_H_finish_69 : decode b_H_finish 69 = .ok (.aload_n 0, 1) := by decide +kernel
theorem d_H_finish_70 : decode b_H_finish 70 = .ok (.getfield 57, 3) := by decide +kernel
theorem d_H_finish_73 : decode b_H_finish 73 = .ok (.aload_n 0, 1) := by decide +kernel
theorem d_H_finish_74 : decode b_H_finish 74 = .ok (.getfield 31, 3) := by decide +kernel
theorem d_H_finish_77 : decode b_H_finish 77 = .ok (.iconst 0, 1) := by decide +kernel
theorem d_H_finish_78 : decode b_H_finish 78 = .ok (.invokestatic 69, 3) := by decide +kernel
theorem d_H_finish_81 : decode b_H_finish 81 = .ok (.ldc2_w 75, 3) := by decide +kernel
theorem d_H_finish_84 : decode b_H_finish 84 = .ok (.aload_n 0, 1) := by decide +kernel
theorem d_H_finish_85 : decode b_H_finish 85 = .ok (.getfield 60, 3) := by decide +kernel
theorem d_H_finish_88 : decode b_H_finish 88 = .ok (.lmul, 1) := by decide +kernel
theorem d_H_finish_89 : decode b_H_finish 89 = .ok (.lstore 4, 2) := by decide +kernel
theorem d_H_finish_91 : decode b_H_finish 91 = .ok (.iconst 0, 1) := by decide +kernel
theorem d_H_finish_92 : decode b_H_finish 92 = .ok (.istore 6, 2) := by decide +kernel
theorem d_H_finish_94 : decode b_H_finish 94 = .ok (.iload 6, 2) := by decide +kernel
theorem d_H_finish_96 : decode b_H_finish 96 = .ok (.bipush 8, 2) := by decide +kernel
theorem d_H_finish_98 : decode b_H_finish 98 = .ok (.if_icmp .ge 33, 3) := by decide +kernel
theorem d_H_finish_101 : decode b_H_finish 101 = .ok (.aload_n 0, 1) := by decide +kernel
theorem d_H_finish_102 : decode b_H_finish 102 = .ok (.getfield 37, 3) := by decide +kernel
theorem d_H_finish_105 : decode b_H_finish 105 = .ok (.aload_n 0, 1) := by decide +kernel
theorem d_H_finish_106 : decode b_H_finish 106 = .ok (.getfield 31, 3) := by decide +kernel
theorem d_H_finish_109 : decode b_H_finish 109 = .ok (.iconst 1, 1) := by decide +kernel
theorem d_H_finish_110 : decode b_H_finish 110 = .ok (.isub, 1) := by decide +kernel
theorem d_H_finish_111 : decode b_H_finish 111 = .ok (.iload 6, 2) := by decide +kernel
theorem d_H_finish_113 : decode b_H_finish 113 = .ok (.isub, 1) := by decide +kernel
theorem d_H_finish_114 : decode b_H_finish 114 = .ok (.lload 4, 2) := by decide +kernel
theorem d_H_finish_116 : decode b_H_finish 116 = .ok (.bipush 8, 2) := by decide +kernel
theorem d_H_finish_118 : decode b_H_finish 118 = .ok (.iload 6, 2) := by decide +kernel
theorem d_H_finish_120 : decode b_H_finish 120 = .ok (.imul, 1) := by decide +kernel
theorem d_H_finish_121 : decode b_H_finish 121 = .ok (.lushr, 1) := by decide +kernel
theorem d_H_finish_122 : decode b_H_finish 122 = .ok (.l2i, 1) := by decide +kernel
theorem d_H_finish_123 : decode b_H_finish 123 = .ok (.i2b, 1) := by decide +kernel
theorem d_H_finish_124 : decode b_H_finish 124 = .ok (.bastore, 1) := by decide +kernel
theorem d_H_finish_125 : decode b_H_finish 125 = .ok (.iinc 6 1, 3) := by decide +kernel
theorem d_H_finish_128 : decode b_H_finish 128 = .ok (.goto (-34), 3) := by decide +kernel
theorem d_H_finish_131 : decode b_H_finish 131 = .ok (.aload_n 0, 1) := by decide +kernel
theorem d_H_finish_132 : decode b_H_finish 132 = .ok (.invokevirtual 63, 3) := by decide +kernel
theorem d_H_finish_135 : decode b_H_finish 135 = .ok (.aload_n 0, 1) := by decide +kernel
theorem d_H_finish_136 : decode b_H_finish 136 = .ok (.aload_n 1, 1) := by decide +kernel
theorem d_H_finish_137 : decode b_H_finish 137 = .ok (.iload_n 2, 1) := by decide +kernel
theorem d_H_finish_138 : decode b_H_finish 138 = .ok (.iload_n 3, 1) := by decide +kernel
theorem d_H_finish_139 : decode b_H_finish 139 = .ok (.invokevirtual 77, 3) := by decide +kernel
theorem d_H_finish_142 : decode b_H_finish 142 = .ok (.return_, 1) := by decide +kernel
theorem d_H_writeState_0 : decode b_H_writeState 0 = .ok (.iconst 0, 1) := by decide +kernel
theorem d_H_writeState_1 : decode b_H_writeState 1 = .ok (.istore 4, 2) := by decide +kernel
theorem d_H_writeState_3 : decode b_H_writeState 3 = .ok (.iconst 0, 1) := by decide +kernel
theorem d_H_writeState_4 : decode b_H_writeState 4 = .ok (.istore 5, 2) := by decide +kernel
theorem d_H_writeState_6 : decode b_H_writeState 6 = .ok (.iload 5, 2) := by decide +kernel
theorem d_H_writeState_8 : decode b_H_writeState 8 = .ok (.bipush 8, 2) := by decide +kernel
theorem d_H_writeState_10 : decode b_H_writeState 10 = .ok (.if_icmp .ge 56, 3) := by decide +kernel
theorem d_H_writeState_13 : decode b_H_writeState 13 = .ok (.aload_n 0, 1) := by decide +kernel
theorem d_H_writeState_14 : decode b_H_writeState 14 = .ok (.getfield 22, 3) := by decide +kernel
theorem d_H_writeState_17 : decode b_H_writeState 17 = .ok (.bipush 8, 2) := by decide +kernel
theorem d_H_writeState_19 : decode b_H_writeState 19 = .ok (.isub, 1) := by decide +kernel
theorem d_H_writeState_20 : decode b_H_writeState 20 = .ok (.istore 6, 2) := by decide +kernel
theorem d_H_writeState_22 : decode b_H_writeState 22 = .ok (.iload 6, 2) := by decide +kernel
theorem d_H_writeState_24 : decode b_H_writeState 24 = .ok (.ifCond .lt 36, 3) := by decide +kernel
theorem d_H_writeState_27 : decode b_H_writeState 27 = .ok (.iload 4, 2) := by decide +kernel
theorem d_H_writeState_29 : decode b_H_writeState 29 = .ok (.iload_n 3, 1) := by decide +kernel
theorem d_H_writeState_30 : decode b_H_writeState 30 = .ok (.if_icmp .ge 30, 3) := by decide +kernel
theorem d_H_writeState_33 : decode b_H_writeState 33 = .ok (.aload_n 1, 1) := by decide +kernel
theorem d_H_writeState_34 : decode b_H_writeState 34 = .ok (.iload_n 2, 1) := by decide +kernel
theorem d_H_writeState_35 : decode b_H_writeState 35 = .ok (.iload 4, 2) := by decide +kernel
theorem d_H_writeState_37 : decode b_H_writeState 37 = .ok (.iadd, 1) := by decide +kernel
theorem d_H_writeState_38 : decode b_H_writeState 38 = .ok (.aload_n 0, 1) := by decide +kernel
theorem d_H_writeState_39 : decode b_H_writeState 39 = .ok (.getfield 41, 3) := by decide +kernel
theorem d_H_writeState_42 : decode b_H_writeState 42 = .ok (.iload 5, 2) := by decide +kernel
theorem d_H_writeState_44 : decode b_H_writeState 44 = .ok (.laload, 1) := by decide +kernel
theorem d_H_writeState_45 : decode b_H_writeState 45 = .ok (.iload 6, 2) := by decide +kernel
theorem d_H_writeState_47 : decode b_H_writeState 47 = .ok (.lushr, 1) := by decide +kernel
theorem d_H_writeState_48 : decode b_H_writeState 48 = .ok (.l2i, 1) := by decide +kernel
theorem d_H_writeState_49 : decode b_H_writeState 49 = .ok (.i2b, 1) := by decide +kernel
theorem d_H_writeState_50 : decode b_H_writeState 50 = .ok (.bastore, 1) := by decide +kernel
theorem d_H_writeState_51 : decode b_H_writeState 51 = .ok (.iinc 4 1, 3) := by decide +kernel
theorem d_H_writeState_54 : decode b_H_writeState 54 = .ok (.iinc 6 (-8), 3) := by decide +kernel
theorem d_H_writeState_57 : decode b_H_writeState 57 = .ok (.goto (-35), 3) := by decide +kernel
theorem d_H_writeState_60 : decode b_H_writeState 60 = .ok (.iinc 5 1, 3) := by decide +kernel
theorem d_H_writeState_63 : decode b_H_writeState 63 = .ok (.goto (-57), 3) := by decide +kernel
theorem d_H_writeState_66 : decode b_H_writeState 66 = .ok (.return_, 1) := by decide +kernel
theorem d_D_hashInSponge_0 : decode b_D_hashInSponge 0 = .ok (.aload_n 0, 1) := by decide +kernel
theorem d_D_hashInSponge_1 : decode b_D_hashInSponge 1 = .ok (.getfield 11, 3) := by decide +kernel
theorem d_D_hashInSponge_4 : decode b_D_hashInSponge 4 = .ok (.iconst 3, 1) := by decide +kernel
theorem d_D_hashInSponge_5 : decode b_D_hashInSponge 5 = .ok (.aaload, 1) := by decide +kernel
theorem d_D_hashInSponge_6 : decode b_D_hashInSponge 6 = .ok (.astore 4, 2) := by decide +kernel
theorem d_D_hashInSponge_8 : decode b_D_hashInSponge 8 = .ok (.aload_n 0, 1) := by decide +kernel
theorem d_D_hashInSponge_9 : decode b_D_hashInSponge 9 = .ok (.getfield 23, 3) := by decide +kernel
theorem d_D_hashInSponge_12 : decode b_D_hashInSponge 12 = .ok (.iload_n 1, 1) := by decide +kernel
theorem d_D_hashInSponge_13 : decode b_D_hashInSponge 13 = .ok (.iload_n 2, 1) := by decide +kernel
theorem d_D_hashInSponge_14 : decode b_D_hashInSponge 14 = .ok (.aload 4, 2) := by decide +kernel
theorem d_D_hashInSponge_16 : decode b_D_hashInSponge 16 = .ok (.getfield 100, 3) := by decide +kernel
theorem d_D_hashInSponge_19 : decode b_D_hashInSponge 19 = .ok (.aload 4, 2) := by decide +kernel
theorem d_D_hashInSponge_21 : decode b_D_hashInSponge 21 = .ok (.getfield 66, 3) := by decide +kernel
theorem d_D_hashInSponge_24 : decode b_D_hashInSponge 24 = .ok (.invokevirtual 162, 3) := by decide +kernel
theorem d_D_hashInSponge_27 : decode b_D_hashInSponge 27 = .ok (.aload_n 0, 1) := by decide +kernel
theorem d_D_hashInSponge_28 : decode b_D_hashInSponge 28 = .ok (.getfield 23, 3) := by decide +kernel
theorem d_D_hashInSponge_31 : decode b_D_hashInSponge 31 = .ok (.iload_n 1, 1) := by decide +kernel
theorem d_D_hashInSponge_32 : decode b_D_hashInSponge 32 = .ok (.aload_n 0, 1) := by decide +kernel
theorem d_D_hashInSponge_33 : decode b_D_hashInSponge 33 = .ok (.getfield 11, 3) := by decide +kernel
theorem d_D_hashInSponge_36 : decode b_D_hashInSponge 36 = .ok (.bipush 6, 2) := by decide +kernel
theorem d_D_hashInSponge_38 : decode b_D_hashInSponge 38 = .ok (.aaload, 1) := by decide +kernel
theorem d_D_hashInSponge_39 : decode b_D_hashInSponge 39 = .ok (.getfield 100, 3) := by decide +kernel
theorem d_D_hashInSponge_42 : decode b_D_hashInSponge 42 = .ok (.iload_n 3, 1) := by decide +kernel
theorem d_D_hashInSponge_43 : decode b_D_hashInSponge 43 = .ok (.invokevirtual 165, 3) := by decide +kernel
theorem d_D_hashInSponge_46 : decode b_D_hashInSponge 46 = .ok (.aload_n 0, 1) := by decide +kernel
theorem d_D_hashInSponge_47 : decode b_D_hashInSponge 47 = .ok (.getfield 11, 3) := by decide +kernel
theorem d_D_hashInSponge_50 : decode b_D_hashInSponge 50 = .ok (.bipush 6, 2) := by decide +kernel
theorem d_D_hashInSponge_52 : decode b_D_hashInSponge 52 = .ok (.aaload, 1) := by decide +kernel
theorem d_D_hashInSponge_53 : decode b_D_hashInSponge 53 = .ok (.iload_n 3, 1) := by decide +kernel
theorem d_D_hashInSponge_54 : decode b_D_hashInSponge 54 = .ok (.putfield 66, 3) := by decide +kernel
theorem d_D_hashInSponge_57 : decode b_D_hashInSponge 57 = .ok (.return_, 1) := by decide +kernel
theorem d_P_absorb_0 : decode b_P_absorb 0 = .ok (.aload_n 0, 1) := by decide +kernel
theorem d_P_absorb_1 : decode b_P_absorb 1 = .ok (.getfield 9, 3) := by decide +kernel
theorem d_P_absorb_4 : decode b_P_absorb 4 = .ok (.lconst 0, 1) := by decide +kernel
theorem d_P_absorb_5 : decode b_P_absorb 5 = .ok (.invokestatic 21, 3) := by decide +kernel
theorem d_P_absorb_8 : decode b_P_absorb 8 = .ok (.iconst 0, 1) := by decide +kernel
theorem d_P_absorb_9 : decode b_P_absorb 9 = .ok (.istore 5, 2) := by decide +kernel
theorem d_P_absorb_11 : decode b_P_absorb 11 = .ok (.iconst 0, 1) := by decide +kernel
theorem d_P_absorb_12 : decode b_P_absorb 12 = .ok (.istore 6, 2) := by decide +kernel
theorem d_P_absorb_14 : decode b_P_absorb 14 = .ok (.iload 6, 2) := by decide +kernel
theorem d_P_absorb_16 : decode b_P_absorb 16 = .ok (.iload 4, 2) := by decide +kernel
theorem d_P_absorb_18 : decode b_P_absorb 18 = .ok (.if_icmp .ge 39, 3) := by decide +kernel
theorem d_P_absorb_21 : decode b_P_absorb 21 = .ok (.aload_n 0, 1) := by decide +kernel
theorem d_P_absorb_22 : decode b_P_absorb 22 = .ok (.iload 5, 2) := by decide +kernel
theorem d_P_absorb_24 : decode b_P_absorb 24 = .ok (.aload_n 3, 1) := by decide +kernel
theorem d_P_absorb_25 : decode b_P_absorb 25 = .ok (.iload 6, 2) := by decide +kernel
theorem d_P_absorb_27 : decode b_P_absorb 27 = .ok (.baload, 1) := by decide +kernel
theorem d_P_absorb_28 : decode b_P_absorb 28 = .ok (.sipush 255, 3) := by decide +kernel
theorem d_P_absorb_31 : decode b_P_absorb 31 = .ok (.iand, 1) := by decide +kernel
theorem d_P_absorb_32 : decode b_P_absorb 32 = .ok (.invokevirtual 27, 3) := by decide +kernel
theorem d_P_absorb_35 : decode b_P_absorb 35 = .ok (.iinc 5 1, 3) := by decide +kernel
theorem d_P_absorb_38 : decode b_P_absorb 38 = .ok (.iload 5, 2) := by decide +kernel
theorem d_P_absorb_40 : decode b_P_absorb 40 = .ok (.iload_n 1, 1) := by decide +kernel
theorem d_P_absorb_41 : decode b_P_absorb 41 = .ok (.if_icmp .ne 10, 3) := by decide +kernel
theorem d_P_absorb_44 : decode b_P_absorb 44 = .ok (.aload_n 0, 1) := by decide +kernel
theorem d_P_absorb_45 : decode b_P_absorb 45 = .ok (.invokevirtual 31, 3) := by decide +kernel
theorem d_P_absorb_48 : decode b_P_absorb 48 = .ok (.iconst 0, 1) := by decide +kernel
theorem d_P_absorb_49 : decode b_P_absorb 49 = .ok (.istore 5, 2) := by decide +kernel
theorem d_P_absorb_51 : decode b_P_absorb 51 = .ok (.iinc 6 1, 3) := by decide +kernel
theorem d_P_absorb_54 : decode b_P_absorb 54 = .ok (.goto (-40), 3) := by decide +kernel
theorem d_P_absorb_57 : decode b_P_absorb 57 = .ok (.aload_n 0, 1) := by decide +kernel
theorem d_P_absorb_58 : decode b_P_absorb 58 = .ok (.iload 5, 2) := by decide +kernel
theorem d_P_absorb_60 : decode b_P_absorb 60 = .ok (.iload_n 2, 1) := by decide +kernel
theorem d_P_absorb_61 : decode b_P_absorb 61 = .ok (.invokevirtual 27, 3) := by decide +kernel
theorem d_P_absorb_64 : decode b_P_absorb 64 = .ok (.aload_n 0, 1) := by decide +kernel
theorem d_P_absorb_65 : decode b_P_absorb 65 = .ok (.iload_n 1, 1) := by decide +kernel
theorem d_P_absorb_66 : decode b_P_absorb 66 = .ok (.iconst 1, 1) := by decide +kernel
theorem d_P_absorb_67 : decode b_P_absorb 67 = .ok (.isub, 1) := by decide +kernel
theorem d_P_absorb_68 : decode b_P_absorb 68 = .ok (.sipush 128, 3) := by decide +kernel
theorem d_P_absorb_71 : decode b_P_absorb 71 = .ok (.invokevirtual 27, 3) := by decide +kernel
theorem d_P_absorb_74 : decode b_P_absorb 74 = .ok (.aload_n 0, 1) := by decide +kernel
theorem d_P_absorb_75 : decode b_P_absorb 75 = .ok (.invokevirtual 31, 3) := by decide +kernel
theorem d_P_absorb_78 : decode b_P_absorb 78 = .ok (.return_, 1) := by decide +kernel
theorem d_J_fill2_0 : decode b_J_fill2 0 = .ok (.iconst 0, 1) := by decide +kernel
theorem d_J_fill2_1 : decode b_J_fill2 1 = .ok (.istore_n 3, 1) := by decide +kernel
theorem d_J_fill2_2 : decode b_J_fill2 2 = .ok (.aload_n 0, 1) := by decide +kernel
theorem d_J_fill2_3 : decode b_J_fill2 3 = .ok (.arraylength, 1) := by decide +kernel
theorem d_J_fill2_4 : decode b_J_fill2 4 = .ok (.istore 4, 2) := by decide +kernel
theorem d_J_fill2_6 : decode b_J_fill2 6 = .ok (.iload_n 3, 1) := by decide +kernel
theorem d_J_fill2_7 : decode b_J_fill2 7 = .ok (.iload 4, 2) := by decide +kernel
theorem d_J_fill2_9 : decode b_J_fill2 9 = .ok (.if_icmp .ge 13, 3) := by decide +kernel
theorem d_J_fill2_12 : decode b_J_fill2 12 = .ok (.aload_n 0, 1) := by decide +kernel
theorem d_J_fill2_13 : decode b_J_fill2 13 = .ok (.iload_n 3, 1) := by decide +kernel
theorem d_J_fill2_14 : decode b_J_fill2 14 = .ok (.lload_n 1, 1) := by decide +kernel
theorem d_J_fill2_15 : decode b_J_fill2 15 = .ok (.lastore, 1) := by decide +kernel
theorem d_J_fill2_16 : decode b_J_fill2 16 = .ok (.iinc 3 1, 3) := by decide +kernel
theorem d_J_fill2_19 : decode b_J_fill2 19 = .ok (.goto (-13), 3) := by decide +kernel
theorem d_J_fill2_22 : decode b_J_fill2 22 = .ok (.return_, 1) := by decide +kernel
theorem d_P_mixIn_0 : decode b_P_mixIn 0 = .ok (.aload_n 0, 1) := by decide +kernel
theorem d_P_mixIn_1 : decode b_P_mixIn 1 = .ok (.getfield 9, 3) := by decide +kernel
theorem d_P_mixIn_4 : decode b_P_mixIn 4 = .ok (.iload_n 1, 1) := by decide +kernel
theorem d_P_mixIn_5 : decode b_P_mixIn 5 = .ok (.iconst 3, 1) := by decide +kernel
theorem d_P_mixIn_6 : decode b_P_mixIn 6 = .ok (.ishr, 1) := by decide +kernel
theorem d_P_mixIn_7 : decode b_P_mixIn 7 = .ok (.dup2, 1) := by decide +kernel
theorem d_P_mixIn_8 : decode b_P_mixIn 8 = .ok (.laload, 1) := by decide +kernel
theorem d_P_mixIn_9 : decode b_P_mixIn 9 = .ok (.iload_n 2, 1) := by decide +kernel
theorem d_P_mixIn_10 : decode b_P_mixIn 10 = .ok (.i2l, 1) := by decide +kernel
theorem d_P_mixIn_11 : decode b_P_mixIn 11 = .ok (.bipush 8, 2) := by decide +kernel
theorem d_P_mixIn_13 : decode b_P_mixIn 13 = .ok (.iload_n 1, 1) := by decide +kernel
theorem d_P_mixIn_14 : decode b_P_mixIn 14 = .ok (.bipush 7, 2) := by decide +kernel
theorem d_P_mixIn_16 : decode b_P_mixIn 16 = .ok (.iand, 1) := by decide +kernel
theorem d_P_mixIn_17 : decode b_P_mixIn 17 = .ok (.imul, 1) := by decide +kernel
theorem d_P_mixIn_18 : decode b_P_mixIn 18 = .ok (.lshl, 1) := by decide +kernel
theorem d_P_mixIn_19 : decode b_P_mixIn 19 = .ok (.lxor, 1) := by decide +kernel
theorem d_P_mixIn_20 : decode b_P_mixIn 20 = .ok (.lastore, 1) := by decide +kernel
theorem d_P_mixIn_21 : decode b_P_mixIn 21 = .ok (.return_, 1) := by decide +kernel
theorem d_P_permute_0 : decode b_P_permute 0 = .ok (.iconst 0, 1) := by decide +kernel
theorem d_P_permute_1 : decode b_P_permute 1 = .ok (.istore_n 1, 1) := by decide +kernel
theorem d_P_permute_2 : decode b_P_permute 2 = .ok (.iload_n 1, 1) := by decide +kernel
theorem d_P_permute_3 : decode b_P_permute 3 = .ok (.bipush 24, 2) := by decide +kernel
theorem d_P_permute_5 : decode b_P_permute 5 = .ok (.if_icmp .ge 35, 3) := by decide +kernel
theorem d_P_permute_8 : decode b_P_permute 8 = .ok (.aload_n 0, 1) := by decide +kernel
theorem d_P_permute_9 : decode b_P_permute 9 = .ok (.invokevirtual 34, 3) := by decide +kernel
theorem d_P_permute_12 : decode b_P_permute 12 = .ok (.aload_n 0, 1) := by decide +kernel
theorem d_P_permute_13 : decode b_P_permute 13 = .ok (.invokevirtual 37, 3) := by decide +kernel
theorem d_P_permute_16 : decode b_P_permute 16 = .ok (.aload_n 0, 1) := by decide +kernel
theorem d_P_permute_17 : decode b_P_permute 17 = .ok (.invokevirtual 40, 3) := by decide +kernel
theorem d_P_permute_20 : decode b_P_permute 20 = .ok (.aload_n 0, 1) := by decide +kernel
theorem d_P_permute_21 : decode b_P_permute 21 = .ok (.getfield 9, 3) := by decide +kernel
theorem d_P_permute_24 : decode b_P_permute 24 = .ok (.iconst 0, 1) := by decide +kernel
theorem d_P_permute_25 : decode b_P_permute 25 = .ok (.dup2, 1) := by decide +kernel
theorem d_P_permute_26 : decode b_P_permute 26 = .ok (.laload, 1) := by decide +kernel
theorem d_P_permute_27 : decode b_P_permute 27 = .ok (.getstatic 43, 3) := by decide +kernel
theorem d_P_permute_30 : decode b_P_permute 30 = .ok (.iload_n 1, 1) := by decide +kernel
theorem d_P_permute_31 : decode b_P_permute 31 = .ok (.laload, 1) := by decide +kernel
theorem d_P_permute_32 : decode b_P_permute 32 = .ok (.lxor, 1) := by decide +kernel
theorem d_P_permute_33 : decode b_P_permute 33 = .ok (.lastore, 1) := by decide +kernel
theorem d_P_permute_34 : decode b_P_permute 34 = .ok (.iinc 1 1, 3) := by decide +kernel
theorem d_P_permute_37 : decode b_P_permute 37 = .ok (.goto (-35), 3) := by decide +kernel
theorem d_P_permute_40 : decode b_P_permute 40 = .ok (.return_, 1) := by decide +kernel
theorem d_P_mixColumns_0 : decode b_P_mixColumns 0 = .ok (.iconst 0, 1) := by decide +kernel
theorem d_P_mixColumns_1 : decode b_P_mixColumns 1 = .ok (.istore_n 1, 1) := by decide +kernel
theorem d_P_mixColumns_2 : decode b_P_mixColumns 2 = .ok (.iload_n 1, 1) := by decide +kernel
theorem d_P_mixColumns_3 : decode b_P_mixColumns 3 = .ok (.iconst 5, 1) := by decide +kernel
theorem d_P_mixColumns_4 : decode b_P_mixColumns 4 = .ok (.if_icmp .ge 60, 3) := by decide +kernel
theorem d_P_mixColumns_7 : decode b_P_mixColumns 7 = .ok (.aload_n 0, 1) := by decide +kernel
theorem d_P_mixColumns_8 : decode b_P_mixColumns 8 = .ok (.getfield 18, 3) := by decide +kernel
theorem d_P_mixColumns_11 : decode b_P_mixColumns 11 = .ok (.iload_n 1, 1) := by decide +kernel
theorem d_P_mixColumns_12 : decode b_P_mixColumns 12 = .ok (.aload_n 0, 1) := by decide +kernel
theorem d_P_mixColumns_13 : decode b_P_mixColumns 13 = .ok (.getfield 9, 3) := by decide +kernel
theorem d_P_mixColumns_16 : decode b_P_mixColumns 16 = .ok (.iload_n 1, 1) := by decide +kernel
theorem d_P_mixColumns_17 : decode b_P_mixColumns 17 = .ok (.laload, 1) := by decide +kernel
theorem d_P_mixColumns_18 : decode b_P_mixColumns 18 = .ok (.aload_n 0, 1) := by decide +kernel
theorem d_P_mixColumns_19 : decode b_P_mixColumns 19 = .ok (.getfield 9, 3) := by decide +kernel
theorem d_P_mixColumns_22 : decode b_P_mixColumns 22 = .ok (.iload_n 1, 1) := by decide +kernel
theorem d_P_mixColumns_23 : decode b_P_mixColumns 23 = .ok (.iconst 5, 1) := by decide +kernel
theorem d_P_mixColumns_24 : decode b_P_mixColumns 24 = .ok (.iadd, 1) := by decide +kernel
theorem d_P_mixColumns_25 : decode b_P_mixColumns 25 = .ok (.laload, 1) := by decide +kernel
theorem d_P_mixColumns_26 : decode b_P_mixColumns 26 = .ok (.lxor, 1) := by decide +kernel
theorem d_P_mixColumns_27 : decode b_P_mixColumns 27 = .ok (.aload_n 0, 1) := by decide +kernel
theorem d_P_mixColumns_28 : decode b_P_mixColumns 28 = .ok (.getfield 9, 3) := by decide +kernel
theorem d_P_mixColumns_31 : decode b_P_mixColumns 31 = .ok (.iload_n 1, 1) := by decide +kernel
theorem d_P_mixColumns_32 : decode b_P_mixColumns 32 = .ok (.bipush 10, 2) := by decide +kernel
theorem d_P_mixColumns_34 : decode b_P_mixColumns 34 = .ok (.iadd, 1) := by decide +kernel
theorem d_P_mixColumns_35 : decode b_P_mixColumns 35 = .ok (.laload, 1) := by decide +kernel
theorem d_P_mixColumns_36 : decode b_P_mixColumns 36 = .ok (.lxor, 1) := by decide +kernel
theorem d_P_mixColumns_37 : decode b_P_mixColumns 37 = .ok (.aload_n 0, 1) := by decide +kernel
theorem d_P_mixColumns_38 : decode b_P_mixColumns 38 = .ok (.getfield 9, 3) := by decide +kernel
theorem d_P_mixColumns_41 : decode b_P_mixColumns 41 = .ok (.iload_n 1, 1) := by decide +kernel
theorem d_P_mixColumns_42 : decode b_P_mixColumns 42 = .ok (.bipush 15, 2) := by decide +kernel
theorem d_P_mixColumns_44 : decode b_P_mixColumns 44 = .ok (.iadd, 1) := by decide +kernel
theorem d_P_mixColumns_45 : decode b_P_mixColumns 45 = .ok (.laload, 1) := by decide +kernel
theorem d_P_mixColumns_46 : decode b_P_mixColumns 46 = .ok (.lxor, 1) := by decide +kernel
theorem d_P_mixColumns_47 : decode b_P_mixColumns 47 = .ok (.aload_n 0, 1) := by decide +kernel
theorem d_P_mixColumns_48 : decode b_P_mixColumns 48 = .ok (.getfield 9, 3) := by decide +kernel
theorem d_P_mixColumns_51 : decode b_P_mixColumns 51 = .ok (.iload_n 1, 1) := by decide +kernel
theorem d_P_mixColumns_52 : decode b_P_mixColumns 52 = .ok (.bipush 20, 2) := by decide +kernel
theorem d_P_mixColumns_54 : decode b_P_mixColumns 54 = .ok (.iadd, 1) := by decide +kernel
theorem d_P_mixColumns_55 : decode b_P_mixColumns 55 = .ok (.laload, 1) := by decide +kernel
theorem d_P_mixColumns_56 : decode b_P_mixColumns 56 = .ok (.lxor, 1) := by decide +kernel
theorem d_P_mixColumns_57 : decode b_P_mixColumns 57 = .ok (.lastore, 1) := by decide +kernel
theorem d_P_mixColumns_58 : decode b_P_mixColumns 58 = .ok (.iinc 1 1, 3) := by decide +kernel
theorem d_P_mixColumns_61 : decode b_P_mixColumns 61 = .ok (.goto (-59), 3) := by decide +kernel
theorem d_P_mixColumns_64 : decode b_P_mixColumns 64 = .ok (.iconst 0, 1) := by decide +kernel
theorem d_P_mixColumns_65 : decode b_P_mixColumns 65 = .ok (.istore_n 1, 1) := by decide +kernel
theorem d_P_mixColumns_66 : decode b_P_mixColumns 66 = .ok (.iload_n 1, 1) := by decide +kernel
theorem d_P_mixColumns_67 : decode b_P_mixColumns 67 = .ok (.iconst 5, 1) := by decide +kernel
theorem d_P_mixColumns_68 : decode b_P_mixColumns 68 = .ok (.if_icmp .ge 64, 3) := by decide +kernel
theorem d_P_mixColumns_71 : decode b_P_mixColumns 71 = .ok (.aload_n 0, 1) := by decide +kernel
theorem d_P_mixColumns_72 : decode b_P_mixColumns 72 = .ok (.getfield 18, 3) := by decide +kernel
theorem d_P_mixColumns_75 : decode b_P_mixColumns 75 = .ok (.iload_n 1, 1) := by decide +kernel
theorem d_P_mixColumns_76 : decode b_P_mixColumns 76 = .ok (.iconst 4, 1) := by decide +kernel
theorem d_P_mixColumns_77 : decode b_P_mixColumns 77 = .ok (.iadd, 1) := by decide +kernel
end
section
theorem d_P_mixColumns_78 : decode b_P_mixColumns 78 = .ok (.iconst 5, 1) := by decide +kernel
theorem d_P_mixColumns_79 : decode b_P_mixColumns 79 = .ok (.irem, 1) := by decide +kernel
theorem d_P_mixColumns_80 : decode b_P_mixColumns 80 = .ok (.laload, 1) := by decide +kernel
theorem d_P_mixColumns_81 : decode b_P_mixColumns 81 = .ok (.aload_n 0, 1) := by decide +kernel
theorem d_P_mixColumns_82 : decode b_P_mixColumns 82 = .ok (.getfield 18, 3) := by decide +kernel
theorem d_P_mixColumns_85 : decode b_P_mixColumns 85 = .ok (.iload_n 1, 1) := by decide +kernel
theorem d_P_mixColumns_86 : decode b_P_mixColumns 86 = .ok (.iconst 1, 1) := by decide +kernel
theorem d_P_mixColumns_87 : decode b_P_mixColumns 87 = .ok (.iadd, 1) := by decide +kernel
theorem d_P_mixColumns_88 : decode b_P_mixColumns 88 = .ok (.iconst 5, 1) := by decide +kernel
theorem d_P_mixColumns_89 : decode b_P_mixColumns 89 = .ok (.irem, 1) := by decide +kernel
theorem d_P_mixColumns_90 : decode b_P_mixColumns 90 = .ok (.laload, 1) := by decide +kernel
theorem d_P_mixColumns_91 : decode b_P_mixColumns 91 = .ok (.iconst 1, 1) := by decide +kernel
theorem d_P_mixColumns_92 : decode b_P_mixColumns 92 = .ok (.invokestatic 46, 3) := by decide +kernel
theorem d_P_mixColumns_95 : decode b_P_mixColumns 95 = .ok (.lxor, 1) := by decide +kernel
theorem d_P_mixColumns_96 : decode b_P_mixColumns 96 = .ok (.lstore_n 2, 1) := by decide +kernel
theorem d_P_mixColumns_97 : decode b_P_mixColumns 97 = .ok (.iconst 0, 1) := by decide +kernel
theorem d_P_mixColumns_98 : decode b_P_mixColumns 98 = .ok (.istore 4, 2) := by decide +kernel
theorem d_P_mixColumns_100 : decode b_P_mixColumns 100 = .ok (.iload 4, 2) := by decide +kernel
theorem d_P_mixColumns_102 : decode b_P_mixColumns 102 = .ok (.bipush 25, 2) := by decide +kernel
theorem d_P_mixColumns_104 : decode b_P_mixColumns 104 = .ok (.if_icmp .ge 22, 3) := by decide +kernel
theorem d_P_mixColumns_107 : decode b_P_mixColumns 107 = .ok (.aload_n 0, 1) := by decide +kernel
theorem d_P_mixColumns_108 : decode b_P_mixColumns 108 = .ok (.getfield 9, 3) := by decide +kernel
theorem d_P_mixColumns_111 : decode b_P_mixColumns 111 = .ok (.iload_n 1, 1) := by decide +kernel
theorem d_P_mixColumns_112 : decode b_P_mixColumns 112 = .ok (.iload 4, 2) := by decide +kernel
theorem d_P_mixColumns_114 : decode b_P_mixColumns 114 = .ok (.iadd, 1) := by decide +kernel
theorem d_P_mixColumns_115 : decode b_P_mixColumns 115 = .ok (.dup2, 1) := by decide +kernel
theorem d_P_mixColumns_116 : decode b_P_mixColumns 116 = .ok (.laload, 1) := by decide +kernel
theorem d_P_mixColumns_117 : decode b_P_mixColumns 117 = .ok (.lload_n 2, 1) := by decide +kernel
theorem d_P_mixColumns_118 : decode b_P_mixColumns 118 = .ok (.lxor, 1) := by decide +kernel
theorem d_P_mixColumns_119 : decode b_P_mixColumns 119 = .ok (.lastore, 1) := by decide +kernel
theorem d_P_mixColumns_120 : decode b_P_mixColumns 120 = .ok (.iinc 4 5, 3) := by decide +kernel
theorem d_P_mixColumns_123 : decode b_P_mixColumns 123 = .ok (.goto (-23), 3) := by decide +kernel
theorem d_P_mixColumns_126 : decode b_P_mixColumns 126 = .ok (.iinc 1 1, 3) := by decide +kernel
theorem d_P_mixColumns_129 : decode b_P_mixColumns 129 = .ok (.goto (-63), 3) := by decide +kernel
theorem d_P_mixColumns_132 : decode b_P_mixColumns 132 = .ok (.return_, 1) := by decide +kernel
theorem d_P_rotl_0 : decode b_P_rotl 0 = .ok (.lload_n 0, 1) := by decide +kernel
theorem d_P_rotl_1 : decode b_P_rotl 1 = .ok (.iload_n 2, 1) := by decide +kernel
theorem d_P_rotl_2 : decode b_P_rotl 2 = .ok (.lshl, 1) := by decide +kernel
theorem d_P_rotl_3 : decode b_P_rotl 3 = .ok (.lload_n 0, 1) := by decide +kernel
theorem d_P_rotl_4 : decode b_P_rotl 4 = .ok (.bipush 64, 2) := by decide +kernel
theorem d_P_rotl_6 : decode b_P_rotl 6 = .ok (.iload_n 2, 1) := by decide +kernel
theorem d_P_rotl_7 : decode b_P_rotl 7 = .ok (.isub, 1) := by decide +kernel
theorem d_P_rotl_8 : decode b_P_rotl 8 = .ok (.lushr, 1) := by decide +kernel
theorem d_P_rotl_9 : decode b_P_rotl 9 = .ok (.lor, 1) := by decide +kernel
theorem d_P_rotl_10 : decode b_P_rotl 10 = .ok (.lreturn, 1) := by decide +kernel
theorem d_P_turnAndMove_0 : decode b_P_turnAndMove 0 = .ok (.iconst 0, 1) := by decide +kernel
theorem d_P_turnAndMove_1 : decode b_P_turnAndMove 1 = .ok (.istore_n 1, 1) := by decide +kernel
theorem d_P_turnAndMove_2 : decode b_P_turnAndMove 2 = .ok (.iload_n 1, 1) := by decide +kernel
theorem d_P_turnAndMove_3 : decode b_P_turnAndMove 3 = .ok (.bipush 25, 2) := by decide +kernel
theorem d_P_turnAndMove_5 : decode b_P_turnAndMove 5 = .ok (.if_icmp .ge 33, 3) := by decide +kernel
theorem d_P_turnAndMove_8 : decode b_P_turnAndMove 8 = .ok (.aload_n 0, 1) := by decide +kernel
theorem d_P_turnAndMove_9 : decode b_P_turnAndMove 9 = .ok (.getfield 15, 3) := by decide +kernel
theorem d_P_turnAndMove_12 : decode b_P_turnAndMove 12 = .ok (.getstatic 50, 3) := by decide +kernel
theorem d_P_turnAndMove_15 : decode b_P_turnAndMove 15 = .ok (.iload_n 1, 1) := by decide +kernel
theorem d_P_turnAndMove_16 : decode b_P_turnAndMove 16 = .ok (.iaload, 1) := by decide +kernel
theorem d_P_turnAndMove_17 : decode b_P_turnAndMove 17 = .ok (.aload_n 0, 1) := by decide +kernel
theorem d_P_turnAndMove_18 : decode b_P_turnAndMove 18 = .ok (.getfield 9, 3) := by decide +kernel
theorem d_P_turnAndMove_21 : decode b_P_turnAndMove 21 = .ok (.iload_n 1, 1) := by decide +kernel
theorem d_P_turnAndMove_22 : decode b_P_turnAndMove 22 = .ok (.laload, 1) := by decide +kernel
theorem d_P_turnAndMove_23 : decode b_P_turnAndMove 23 = .ok (.getstatic 54, 3) := by decide +kernel
theorem d_P_turnAndMove_26 : decode b_P_turnAndMove 26 = .ok (.iload_n 1, 1) := by decide +kernel
theorem d_P_turnAndMove_27 : decode b_P_turnAndMove 27 = .ok (.iaload, 1) := by decide +kernel
theorem d_P_turnAndMove_28 : decode b_P_turnAndMove 28 = .ok (.invokestatic 46, 3) := by decide +kernel
theorem d_P_turnAndMove_31 : decode b_P_turnAndMove 31 = .ok (.lastore, 1) := by decide +kernel
theorem d_P_turnAndMove_32 : decode b_P_turnAndMove 32 = .ok (.iinc 1 1, 3) := by decide +kernel
theorem d_P_turnAndMove_35 : decode b_P_turnAndMove 35 = .ok (.goto (-33), 3) := by decide +kernel
theorem d_P_turnAndMove_38 : decode b_P_turnAndMove 38 = .ok (.return_, 1) := by decide +kernel
theorem d_P_mixRows_0 : decode b_P_mixRows 0 = .ok (.iconst 0, 1) := by decide +kernel
theorem d_P_mixRows_1 : decode b_P_mixRows 1 = .ok (.istore_n 1, 1) := by decide +kernel
theorem d_P_mixRows_2 : decode b_P_mixRows 2 = .ok (.iload_n 1, 1) := by decide +kernel
theorem d_P_mixRows_3 : decode b_P_mixRows 3 = .ok (.bipush 25, 2) := by decide +kernel
theorem d_P_mixRows_5 : decode b_P_mixRows 5 = .ok (.if_icmp .ge 68, 3) := by decide +kernel
theorem d_P_mixRows_8 : decode b_P_mixRows 8 = .ok (.iconst 0, 1) := by decide +kernel
theorem d_P_mixRows_9 : decode b_P_mixRows 9 = .ok (.istore_n 2, 1) := by decide +kernel
theorem d_P_mixRows_10 : decode b_P_mixRows 10 = .ok (.iload_n 2, 1) := by decide +kernel
theorem d_P_mixRows_11 : decode b_P_mixRows 11 = .ok (.iconst 5, 1) := by decide +kernel
theorem d_P_mixRows_12 : decode b_P_mixRows 12 = .ok (.if_icmp .ge 55, 3) := by decide +kernel
theorem d_P_mixRows_15 : decode b_P_mixRows 15 = .ok (.aload_n 0, 1) := by decide +kernel
theorem d_P_mixRows_16 : decode b_P_mixRows 16 = .ok (.getfield 9, 3) := by decide +kernel
theorem d_P_mixRows_19 : decode b_P_mixRows 19 = .ok (.iload_n 2, 1) := by decide +kernel
theorem d_P_mixRows_20 : decode b_P_mixRows 20 = .ok (.iload_n 1, 1) := by decide +kernel
theorem d_P_mixRows_21 : decode b_P_mixRows 21 = .ok (.iadd, 1) := by decide +kernel
theorem d_P_mixRows_22 : decode b_P_mixRows 22 = .ok (.aload_n 0, 1) := by decide +kernel
theorem d_P_mixRows_23 : decode b_P_mixRows 23 = .ok (.getfield 15, 3) := by decide +kernel
theorem d_P_mixRows_26 : decode b_P_mixRows 26 = .ok (.iload_n 2, 1) := by decide +kernel
theorem d_P_mixRows_27 : decode b_P_mixRows 27 = .ok (.iload_n 1, 1) := by decide +kernel
theorem d_P_mixRows_28 : decode b_P_mixRows 28 = .ok (.iadd, 1) := by decide +kernel
theorem d_P_mixRows_29 : decode b_P_mixRows 29 = .ok (.laload, 1) := by decide +kernel
theorem d_P_mixRows_30 : decode b_P_mixRows 30 = .ok (.aload_n 0, 1) := by decide +kernel
theorem d_P_mixRows_31 : decode b_P_mixRows 31 = .ok (.getfield 15, 3) := by decide +kernel
theorem d_P_mixRows_34 : decode b_P_mixRows 34 = .ok (.iload_n 2, 1) := by decide +kernel
theorem d_P_mixRows_35 : decode b_P_mixRows 35 = .ok (.iconst 1, 1) := by decide +kernel
theorem d_P_mixRows_36 : decode b_P_mixRows 36 = .ok (.iadd, 1) := by decide +kernel
theorem d_P_mixRows_37 : decode b_P_mixRows 37 = .ok (.iconst 5, 1) := by decide +kernel
theorem d_P_mixRows_38 : decode b_P_mixRows 38 = .ok (.irem, 1) := by decide +kernel
theorem d_P_mixRows_39 : decode b_P_mixRows 39 = .ok (.iload_n 1, 1) := by decide +kernel
theorem d_P_mixRows_40 : decode b_P_mixRows 40 = .ok (.iadd, 1) := by decide +kernel
theorem d_P_mixRows_41 : decode b_P_mixRows 41 = .ok (.laload, 1) := by decide +kernel
theorem d_P_mixRows_42 : decode b_P_mixRows 42 = .ok (.ldc2_w 57, 3) := by decide +kernel
theorem d_P_mixRows_45 : decode b_P_mixRows 45 = .ok (.lxor, 1) := by decide +kernel
theorem d_P_mixRows_46 : decode b_P_mixRows 46 = .ok (.aload_n 0, 1) := by decide +kernel
theorem d_P_mixRows_47 : decode b_P_mixRows 47 = .ok (.getfield 15, 3) := by decide +kernel
theorem d_P_mixRows_50 : decode b_P_mixRows 50 = .ok (.iload_n 2, 1) := by decide +kernel
theorem d_P_mixRows_51 : decode b_P_mixRows 51 = .ok (.iconst 2, 1) := by decide +kernel
theorem d_P_mixRows_52 : decode b_P_mixRows 52 = .ok (.iadd, 1) := by decide +kernel
theorem d_P_mixRows_53 : decode b_P_mixRows 53 = .ok (.iconst 5, 1) := by decide +kernel
theorem d_P_mixRows_54 : decode b_P_mixRows 54 = .ok (.irem, 1) := by decide +kernel
theorem d_P_mixRows_55 : decode b_P_mixRows 55 = .ok (.iload_n 1, 1) := by decide +kernel
theorem d_P_mixRows_56 : decode b_P_mixRows 56 = .ok (.iadd, 1) := by decide +kernel
theorem d_P_mixRows_57 : decode b_P_mixRows 57 = .ok (.laload, 1) := by decide +kernel
theorem d_P_mixRows_58 : decode b_P_mixRows 58 = .ok (.land, 1) := by decide +kernel
theorem d_P_mixRows_59 : decode b_P_mixRows 59 = .ok (.lxor, 1) := by decide +kernel
theorem d_P_mixRows_60 : decode b_P_mixRows 60 = .ok (.lastore, 1) := by decide +kernel
theorem d_P_mixRows_61 : decode b_P_mixRows 61 = .ok (.iinc 2 1, 3) := by decide +kernel
theorem d_P_mixRows_64 : decode b_P_mixRows 64 = .ok (.goto (-54), 3) := by decide +kernel
theorem d_P_mixRows_67 : decode b_P_mixRows 67 = .ok (.iinc 1 5, 3) := by decide +kernel
theorem d_P_mixRows_70 : decode b_P_mixRows 70 = .ok (.goto (-68), 3) := by decide +kernel
theorem d_P_mixRows_73 : decode b_P_mixRows 73 = .ok (.return_, 1) := by decide +kernel
theorem d_P_squeeze_0 : decode b_P_squeeze 0 = .ok (.iconst 0, 1) := by decide +kernel
theorem d_P_squeeze_1 : decode b_P_squeeze 1 = .ok (.istore 4, 2) := by decide +kernel
theorem d_P_squeeze_3 : decode b_P_squeeze 3 = .ok (.iconst 0, 1) := by decide +kernel
theorem d_P_squeeze_4 : decode b_P_squeeze 4 = .ok (.istore 5, 2) := by decide +kernel
theorem d_P_squeeze_6 : decode b_P_squeeze 6 = .ok (.iload 5, 2) := by decide +kernel
theorem d_P_squeeze_8 : decode b_P_squeeze 8 = .ok (.iload_n 3, 1) := by decide +kernel
theorem d_P_squeeze_9 : decode b_P_squeeze 9 = .ok (.if_icmp .ge 49, 3) := by decide +kernel
theorem d_P_squeeze_12 : decode b_P_squeeze 12 = .ok (.iload 4, 2) := by decide +kernel
theorem d_P_squeeze_14 : decode b_P_squeeze 14 = .ok (.iload_n 1, 1) := by decide +kernel
theorem d_P_squeeze_15 : decode b_P_squeeze 15 = .ok (.if_icmp .ne 10, 3) := by decide +kernel
theorem d_P_squeeze_18 : decode b_P_squeeze 18 = .ok (.aload_n 0, 1) := by decide +kernel
theorem d_P_squeeze_19 : decode b_P_squeeze 19 = .ok (.invokevirtual 31, 3) := by decide +kernel
theorem d_P_squeeze_22 : decode b_P_squeeze 22 = .ok (.iconst 0, 1) := by decide +kernel
theorem d_P_squeeze_23 : decode b_P_squeeze 23 = .ok (.istore 4, 2) := by decide +kernel
theorem d_P_squeeze_25 : decode b_P_squeeze 25 = .ok (.aload_n 2, 1) := by decide +kernel
theorem d_P_squeeze_26 : decode b_P_squeeze 26 = .ok (.iload 5, 2) := by decide +kernel
theorem d_P_squeeze_28 : decode b_P_squeeze 28 = .ok (.aload_n 0, 1) := by decide +kernel
theorem d_P_squeeze_29 : decode b_P_squeeze 29 = .ok (.getfield 9, 3) := by decide +kernel
theorem d_P_squeeze_32 : decode b_P_squeeze 32 = .ok (.iload 4, 2) := by decide +kernel
theorem d_P_squeeze_34 : decode b_P_squeeze 34 = .ok (.iconst 3, 1) := by decide +kernel
theorem d_P_squeeze_35 : decode b_P_squeeze 35 = .ok (.ishr, 1) := by decide +kernel
theorem d_P_squeeze_36 : decode b_P_squeeze 36 = .ok (.laload, 1) := by decide +kernel
theorem d_P_squeeze_37 : decode b_P_squeeze 37 = .ok (.bipush 8, 2) := by decide +kernel
theorem d_P_squeeze_39 : decode b_P_squeeze 39 = .ok (.iload 4, 2) := by decide +kernel
theorem d_P_squeeze_41 : decode b_P_squeeze 41 = .ok (.bipush 7, 2) := by decide +kernel
theorem d_P_squeeze_43 : decode b_P_squeeze 43 = .ok (.iand, 1) := by decide +kernel
theorem d_P_squeeze_44 : decode b_P_squeeze 44 = .ok (.imul, 1) := by decide +kernel
theorem d_P_squeeze_45 : decode b_P_squeeze 45 = .ok (.lushr, 1) := by decide +kernel
theorem d_P_squeeze_46 : decode b_P_squeeze 46 = .ok (.l2i, 1) := by decide +kernel
theorem d_P_squeeze_47 : decode b_P_squeeze 47 = .ok (.i2b, 1) := by decide +kernel
theorem d_P_squeeze_48 : decode b_P_squeeze 48 = .ok (.bastore, 1) := by decide +kernel
theorem d_P_squeeze_49 : decode b_P_squeeze 49 = .ok (.iinc 4 1, 3) := by decide +kernel
theorem d_P_squeeze_52 : decode b_P_squeeze 52 = .ok (.iinc 5 1, 3) := by decide +kernel
theorem d_P_squeeze_55 : decode b_P_squeeze 55 = .ok (.goto (-49), 3) := by decide +kernel
theorem d_P_squeeze_58 : decode b_P_squeeze 58 = .ok (.return_, 1) := by decide +kernel
theorem d_D_hashWithKey_0 : decode b_D_hashWithKey 0 = .ok (.aload_n 0, 1) := by decide +kernel
theorem d_D_hashWithKey_1 : decode b_D_hashWithKey 1 = .ok (.getfield 11, 3) := by decide +kernel
theorem d_D_hashWithKey_4 : decode b_D_hashWithKey 4 = .ok (.iconst 3, 1) := by decide +kernel
theorem d_D_hashWithKey_5 : decode b_D_hashWithKey 5 = .ok (.aaload, 1) := by decide +kernel
theorem d_D_hashWithKey_6 : decode b_D_hashWithKey 6 = .ok (.astore_n 3, 1) := by decide +kernel
theorem d_D_hashWithKey_7 : decode b_D_hashWithKey 7 = .ok (.aload_n 0, 1) := by decide +kernel
theorem d_D_hashWithKey_8 : decode b_D_hashWithKey 8 = .ok (.getfield 11, 3) := by decide +kernel
theorem d_D_hashWithKey_11 : decode b_D_hashWithKey 11 = .ok (.bipush 6, 2) := by decide +kernel
theorem d_D_hashWithKey_13 : decode b_D_hashWithKey 13 = .ok (.aaload, 1) := by decide +kernel
theorem d_D_hashWithKey_14 : decode b_D_hashWithKey 14 = .ok (.astore 4, 2) := by decide +kernel
theorem d_D_hashWithKey_16 : decode b_D_hashWithKey 16 = .ok (.aload_n 0, 1) := by decide +kernel
theorem d_D_hashWithKey_17 : decode b_D_hashWithKey 17 = .ok (.aload_n 1, 1) := by decide +kernel
theorem d_D_hashWithKey_18 : decode b_D_hashWithKey 18 = .ok (.aload_n 2, 1) := by decide +kernel
theorem d_D_hashWithKey_19 : decode b_D_hashWithKey 19 = .ok (.invokevirtual 169, 3) := by decide +kernel
theorem d_D_hashWithKey_22 : decode b_D_hashWithKey 22 = .ok (.aload_n 0, 1) := by decide +kernel
theorem d_D_hashWithKey_23 : decode b_D_hashWithKey 23 = .ok (.aload_n 1, 1) := by decide +kernel
theorem d_D_hashWithKey_24 : decode b_D_hashWithKey 24 = .ok (.aload_n 2, 1) := by decide +kernel
theorem d_D_hashWithKey_25 : decode b_D_hashWithKey 25 = .ok (.bipush 54, 2) := by decide +kernel
theorem d_D_hashWithKey_27 : decode b_D_hashWithKey 27 = .ok (.invokevirtual 172, 3) := by decide +kernel
theorem d_D_hashWithKey_30 : decode b_D_hashWithKey 30 = .ok (.aload_n 1, 1) := by decide +kernel
theorem d_D_hashWithKey_31 : decode b_D_hashWithKey 31 = .ok (.aload_n 3, 1) := by decide +kernel
theorem d_D_hashWithKey_32 : decode b_D_hashWithKey 32 = .ok (.getfield 100, 3) := by decide +kernel
theorem d_D_hashWithKey_35 : decode b_D_hashWithKey 35 = .ok (.iconst 0, 1) := by decide +kernel
theorem d_D_hashWithKey_36 : decode b_D_hashWithKey 36 = .ok (.aload_n 3, 1) := by decide +kernel
theorem d_D_hashWithKey_37 : decode b_D_hashWithKey 37 = .ok (.getfield 66, 3) := by decide +kernel
theorem d_D_hashWithKey_40 : decode b_D_hashWithKey 40 = .ok (.invokevirtual 155, 3) := by decide +kernel
theorem d_D_hashWithKey_43 : decode b_D_hashWithKey 43 = .ok (.aload_n 1, 1) := by decide +kernel
theorem d_D_hashWithKey_44 : decode b_D_hashWithKey 44 = .ok (.aload_n 0, 1) := by decide +kernel
theorem d_D_hashWithKey_45 : decode b_D_hashWithKey 45 = .ok (.getfield 60, 3) := by decide +kernel
theorem d_D_hashWithKey_48 : decode b_D_hashWithKey 48 = .ok (.iconst 0, 1) := by decide +kernel
theorem d_D_hashWithKey_49 : decode b_D_hashWithKey 49 = .ok (.aload_n 1, 1) := by decide +kernel
theorem d_D_hashWithKey_50 : decode b_D_hashWithKey 50 = .ok (.getfield 57, 3) := by decide +kernel
theorem d_D_hashWithKey_53 : decode b_D_hashWithKey 53 = .ok (.invokevirtual 159, 3) := by decide +kernel
theorem d_D_hashWithKey_56 : decode b_D_hashWithKey 56 = .ok (.aload_n 0, 1) := by decide +kernel
theorem d_D_hashWithKey_57 : decode b_D_hashWithKey 57 = .ok (.aload_n 1, 1) := by decide +kernel
theorem d_D_hashWithKey_58 : decode b_D_hashWithKey 58 = .ok (.aload_n 2, 1) := by decide +kernel
theorem d_D_hashWithKey_59 : decode b_D_hashWithKey 59 = .ok (.bipush 92, 2) := by decide +kernel
theorem d_D_hashWithKey_61 : decode b_D_hashWithKey 61 = .ok (.invokevirtual 172, 3) := by decide +kernel
theorem d_D_hashWithKey_64 : decode b_D_hashWithKey 64 = .ok (.aload_n 1, 1) := by decide +kernel
theorem d_D_hashWithKey_65 : decode b_D_hashWithKey 65 = .ok (.aload_n 0, 1) := by decide +kernel
theorem d_D_hashWithKey_66 : decode b_D_hashWithKey 66 = .ok (.getfield 60, 3) := by decide +kernel
theorem d_D_hashWithKey_69 : decode b_D_hashWithKey 69 = .ok (.iconst 0, 1) := by decide +kernel
theorem d_D_hashWithKey_70 : decode b_D_hashWithKey 70 = .ok (.aload_n 1, 1) := by decide +kernel
theorem d_D_hashWithKey_71 : decode b_D_hashWithKey 71 = .ok (.getfield 57, 3) := by decide +kernel
theorem d_D_hashWithKey_74 : decode b_D_hashWithKey 74 = .ok (.invokevirtual 155, 3) := by decide +kernel
theorem d_D_hashWithKey_77 : decode b_D_hashWithKey 77 = .ok (.aload_n 1, 1) := by decide +kernel
theorem d_D_hashWithKey_78 : decode b_D_hashWithKey 78 = .ok (.aload 4, 2) := by decide +kernel
theorem d_D_hashWithKey_80 : decode b_D_hashWithKey 80 = .ok (.getfield 100, 3) := by decide +kernel
theorem d_D_hashWithKey_83 : decode b_D_hashWithKey 83 = .ok (.iconst 0, 1) := by decide +kernel
theorem d_D_hashWithKey_84 : decode b_D_hashWithKey 84 = .ok (.aload_n 1, 1) := by decide +kernel
theorem d_D_hashWithKey_85 : decode b_D_hashWithKey 85 = .ok (.getfield 57, 3) := by decide +kernel
theorem d_D_hashWithKey_88 : decode b_D_hashWithKey 88 = .ok (.invokevirtual 159, 3) := by decide +kernel
theorem d_D_hashWithKey_91 : decode b_D_hashWithKey 91 = .ok (.aload 4, 2) := by decide +kernel
theorem d_D_hashWithKey_93 : decode b_D_hashWithKey 93 = .ok (.aload_n 1, 1) := by decide +kernel
theorem d_D_hashWithKey_94 : decode b_D_hashWithKey 94 = .ok (.getfield 57, 3) := by decide +kernel
theorem d_D_hashWithKey_97 : decode b_D_hashWithKey 97 = .ok (.putfield 66, 3) := by decide +kernel
theorem d_D_hashWithKey_100 : decode b_D_hashWithKey 100 = .ok (.return_, 1) := by decide +kernel
theorem d_D_setKey_0 : decode b_D_setKey 0 = .ok (.aload_n 0, 1) := by decide +kernel
theorem d_D_setKey_1 : decode b_D_setKey 1 = .ok (.getfield 11, 3) := by decide +kernel
theorem d_D_setKey_4 : decode b_D_setKey 4 = .ok (.iconst 0, 1) := by decide +kernel
theorem d_D_setKey_5 : decode b_D_setKey 5 = .ok (.aaload, 1) := by decide +kernel
theorem d_D_setKey_6 : decode b_D_setKey 6 = .ok (.astore_n 3, 1) := by decide +kernel
theorem d_D_setKey_7 : decode b_D_setKey 7 = .ok (.aload_n 0, 1) := by decide +kernel
theorem d_D_setKey_8 : decode b_D_setKey 8 = .ok (.getfield 50, 3) := by decide +kernel
theorem d_D_setKey_11 : decode b_D_setKey 11 = .ok (.iconst 0, 1) := by decide +kernel
theorem d_D_setKey_12 : decode b_D_setKey 12 = .ok (.invokestatic 175, 3) := by decide +kernel
theorem d_D_setKey_15 : decode b_D_setKey 15 = .ok (.aload_n 3, 1) := by decide +kernel
theorem d_D_setKey_16 : decode b_D_setKey 16 = .ok (.getfield 66, 3) := by decide +kernel
theorem d_D_setKey_19 : decode b_D_setKey 19 = .ok (.aload_n 1, 1) := by decide +kernel
theorem d_D_setKey_20 : decode b_D_setKey 20 = .ok (.getfield 46, 3) := by decide +kernel
theorem d_D_setKey_23 : decode b_D_setKey 23 = .ok (.if_icmp .le 37, 3) := by decide +kernel
theorem d_D_setKey_26 : decode b_D_setKey 26 = .ok (.aload_n 1, 1) := by decide +kernel
theorem d_D_setKey_27 : decode b_D_setKey 27 = .ok (.aload_n 2, 1) := by decide +kernel
theorem d_D_setKey_28 : decode b_D_setKey 28 = .ok (.invokevirtual 151, 3) := by decide +kernel
theorem d_D_setKey_31 : decode b_D_setKey 31 = .ok (.aload_n 1, 1) := by decide +kernel
theorem d_D_setKey_32 : decode b_D_setKey 32 = .ok (.aload_n 3, 1) := by decide +kernel
theorem d_D_setKey_33 : decode b_D_setKey 33 = .ok (.getfield 100, 3) := by decide +kernel
theorem d_D_setKey_36 : decode b_D_setKey 36 = .ok (.iconst 0, 1) := by decide +kernel
theorem d_D_setKey_37 : decode b_D_setKey 37 = .ok (.aload_n 3, 1) := by decide +kernel
theorem d_D_setKey_38 : decode b_D_setKey 38 = .ok (.getfield 66, 3) := by decide +kernel
theorem d_D_setKey_41 : decode b_D_setKey 41 = .ok (.invokevirtual 155, 3) := by decide +kernel
theorem d_D_setKey_44 : decode b_D_setKey 44 = .ok (.aload_n 1, 1) := by decide +kernel
theorem d_D_setKey_45 : decode b_D_setKey 45 = .ok (.aload_n 0, 1) := by decide +kernel
theorem d_D_setKey_46 : decode b_D_setKey 46 = .ok (.getfield 50, 3) := by decide +kernel
theorem d_D_setKey_49 : decode b_D_setKey 49 = .ok (.iconst 0, 1) := by decide +kernel
theorem d_D_setKey_50 : decode b_D_setKey 50 = .ok (.aload_n 1, 1) := by decide +kernel
theorem d_D_setKey_51 : decode b_D_setKey 51 = .ok (.getfield 57, 3) := by decide +kernel
theorem d_D_setKey_54 : decode b_D_setKey 54 = .ok (.invokevirtual 159, 3) := by decide +kernel
theorem d_D_setKey_57 : decode b_D_setKey 57 = .ok (.goto 20, 3) := by decide +kernel
theorem d_D_setKey_60 : decode b_D_setKey 60 = .ok (.aload_n 3, 1) := by decide +kernel
theorem d_D_setKey_61 : decode b_D_setKey 61 = .ok (.getfield 100, 3) := by decide +kernel
theorem d_D_setKey_64 : decode b_D_setKey 64 = .ok (.iconst 0, 1) := by decide +kernel
theorem d_D_setKey_65 : decode b_D_setKey 65 = .ok (.aload_n 0, 1) := by decide +kernel
theorem d_D_setKey_66 : decode b_D_setKey 66 = .ok (.getfield 50, 3) := by decide +kernel
theorem d_D_setKey_69 : decode b_D_setKey 69 = .ok (.iconst 0, 1) := by decide +kernel
theorem d_D_setKey_70 : decode b_D_setKey 70 = .ok (.aload_n 3, 1) := by decide +kernel
theorem d_D_setKey_71 : decode b_D_setKey 71 = .ok (.getfield 66, 3) := by decide +kernel
theorem d_D_setKey_74 : decode b_D_setKey 74 = .ok (.invokestatic 181, 3) := by decide +kernel
theorem d_D_setKey_77 : decode b_D_setKey 77 = .ok (.return_, 1) := by decide +kernel
theorem d_J_fill3_0 : decode b_J_fill3 0 = .ok (.iconst 0, 1) := by decide +kernel
theorem d_J_fill3_1 : decode b_J_fill3 1 = .ok (.istore_n 2, 1) := by decide +kernel
theorem d_J_fill3_2 : decode b_J_fill3 2 = .ok (.aload_n 0, 1) := by decide +kernel
theorem d_J_fill3_3 : decode b_J_fill3 3 = .ok (.arraylength, 1) := by decide +kernel
theorem d_J_fill3_4 : decode b_J_fill3 4 = .ok (.istore_n 3, 1) := by decide +kernel
theorem d_J_fill3_5 : decode b_J_fill3 5 = .ok (.iload_n 2, 1) := by decide +kernel
theorem d_J_fill3_6 : decode b_J_fill3 6 = .ok (.iload_n 3, 1) := by decide +kernel
theorem d_J_fill3_7 : decode b_J_fill3 7 = .ok (.if_icmp .ge 13, 3) := by decide +kernel
theorem d_J_fill3_10 : decode b_J_fill3 10 = .ok (.aload_n 0, 1) := by decide +kernel
theorem d_J_fill3_11 : decode b_J_fill3 11 = .ok (.iload_n 2, 1) := by decide +kernel
theorem d_J_fill3_12 : decode b_J_fill3 12 = .ok (.iload_n 1, 1) := by decide +kernel
theorem d_J_fill3_13 : decode b_J_fill3 13 = .ok (.bastore, 1) := by decide +kernel
theorem d_J_fill3_14 : decode b_J_fill3 14 = .ok (.iinc 2 1, 3) := by decide +kernel
theorem d_J_fill3_17 : decode b_J_fill3 17 = .ok (.goto (-12), 3) := by decide +kernel
theorem d_J_fill3_20 : decode b_J_fill3 20 = .ok (.return_, 1) := by decide +kernel
theorem d_D_beginWithKey_0 : decode b_D_beginWithKey 0 = .ok (.iconst 0, 1) := by decide +kernel
theorem d_D_beginWithKey_1 : decode b_D_beginWithKey 1 = .ok (.istore 4, 2) := by decide +kernel
theorem d_D_beginWithKey_3 : decode b_D_beginWithKey 3 = .ok (.iload 4, 2) := by decide +kernel
theorem d_D_beginWithKey_5 : decode b_D_beginWithKey 5 = .ok (.aload_n 1, 1) := by decide +kernel
theorem d_D_beginWithKey_6 : decode b_D_beginWithKey 6 = .ok (.getfield 46, 3) := by decide +kernel
theorem d_D_beginWithKey_9 : decode b_D_beginWithKey 9 = .ok (.if_icmp .ge 26, 3) := by decide +kernel
theorem d_D_beginWithKey_12 : decode b_D_beginWithKey 12 = .ok (.aload_n 0, 1) := by decide +kernel
theorem d_D_beginWithKey_13 : decode b_D_beginWithKey 13 = .ok (.getfield 54, 3) := by decide +kernel
theorem d_D_beginWithKey_16 : decode b_D_beginWithKey 16 = .ok (.iload 4, 2) := by decide +kernel
theorem d_D_beginWithKey_18 : decode b_D_beginWithKey 18 = .ok (.aload_n 0, 1) := by decide +kernel
theorem d_D_beginWithKey_19 : decode b_D_beginWithKey 19 = .ok (.getfield 50, 3) := by decide +kernel
theorem d_D_beginWithKey_22 : decode b_D_beginWithKey 22 = .ok (.iload 4, 2) := by decide +kernel
theorem d_D_beginWithKey_24 : decode b_D_beginWithKey 24 = .ok (.baload, 1) := by decide +kernel
theorem d_D_beginWithKey_25 : decode b_D_beginWithKey 25 = .ok (.iload_n 3, 1) := by decide +kernel
theorem d_D_beginWithKey_26 : decode b_D_beginWithKey 26 = .ok (.ixor, 1) := by decide +kernel
theorem d_D_beginWithKey_27 : decode b_D_beginWithKey 27 = .ok (.i2b, 1) := by decide +kernel
theorem d_D_beginWithKey_28 : decode b_D_beginWithKey 28 = .ok (.bastore, 1) := by decide +kernel
theorem d_D_beginWithKey_29 : decode b_D_beginWithKey 29 = .ok (.iinc 4 1, 3) := by decide +kernel
theorem d_D_beginWithKey_32 : decode b_D_beginWithKey 32 = .ok (.goto (-29), 3) := by decide +kernel
theorem d_D_beginWithKey_35 : decode b_D_beginWithKey 35 = .ok (.aload_n 1, 1) := by decide +kernel
theorem d_D_beginWithKey_36 : decode b_D_beginWithKey 36 = .ok (.aload_n 2, 1) := by decide +kernel
theorem d_D_beginWithKey_37 : decode b_D_beginWithKey 37 = .ok (.invokevirtual 151, 3) := by decide +kernel
theorem d_D_beginWithKey_40 : decode b_D_beginWithKey 40 = .ok (.aload_n 1, 1) := by decide +kernel
theorem d_D_beginWithKey_41 : decode b_D_beginWithKey 41 = .ok (.aload_n 0, 1) := by decide +kernel
theorem d_D_beginWithKey_42 : decode b_D_beginWithKey 42 = .ok (.getfield 54, 3) := by decide +kernel
theorem d_D_beginWithKey_45 : decode b_D_beginWithKey 45 = .ok (.iconst 0, 1) := by decide +kernel
theorem d_D_beginWithKey_46 : decode b_D_beginWithKey 46 = .ok (.aload_n 1, 1) := by decide +kernel
theorem d_D_beginWithKey_47 : decode b_D_beginWithKey 47 = .ok (.getfield 46, 3) := by decide +kernel
theorem d_D_beginWithKey_50 : decode b_D_beginWithKey 50 = .ok (.invokevirtual 155, 3) := by decide +kernel
theorem d_D_beginWithKey_53 : decode b_D_beginWithKey 53 = .ok (.return_, 1) := by decide +kernel
theorem d_D_hashWithCounter_0 : decode b_D_hashWithCounter 0 = .ok (.aload_n 0, 1) := by decide +kernel
theorem d_D_hashWithCounter_1 : decode b_D_hashWithCounter 1 = .ok (.getfield 11, 3) := by decide +kernel
theorem d_D_hashWithCounter_4 : decode b_D_hashWithCounter 4 = .ok (.iconst 3, 1) := by decide +kernel
end
section
theorem d_D_hashWithCounter_5 : decode b_D_hashWithCounter 5 = .ok (.aaload, 1) := by decide +kernel
theorem d_D_hashWithCounter_6 : decode b_D_hashWithCounter 6 = .ok (.astore 4, 2) := by decide +kernel
theorem d_D_hashWithCounter_8 : decode b_D_hashWithCounter 8 = .ok (.aload_n 0, 1) := by decide +kernel
theorem d_D_hashWithCounter_9 : decode b_D_hashWithCounter 9 = .ok (.getfield 11, 3) := by decide +kernel
theorem d_D_hashWithCounter_12 : decode b_D_hashWithCounter 12 = .ok (.bipush 6, 2) := by decide +kernel
theorem d_D_hashWithCounter_14 : decode b_D_hashWithCounter 14 = .ok (.aaload, 1) := by decide +kernel
theorem d_D_hashWithCounter_15 : decode b_D_hashWithCounter 15 = .ok (.astore 5, 2) := by decide +kernel
theorem d_D_hashWithCounter_17 : decode b_D_hashWithCounter 17 = .ok (.aload 4, 2) := by decide +kernel
theorem d_D_hashWithCounter_19 : decode b_D_hashWithCounter 19 = .ok (.getfield 66, 3) := by decide +kernel
theorem d_D_hashWithCounter_22 : decode b_D_hashWithCounter 22 = .ok (.aload_n 1, 1) := by decide +kernel
theorem d_D_hashWithCounter_23 : decode b_D_hashWithCounter 23 = .ok (.getfield 46, 3) := by decide +kernel
theorem d_D_hashWithCounter_26 : decode b_D_hashWithCounter 26 = .ok (.iconst 1, 1) := by decide +kernel
theorem d_D_hashWithCounter_27 : decode b_D_hashWithCounter 27 = .ok (.isub, 1) := by decide +kernel
theorem d_D_hashWithCounter_28 : decode b_D_hashWithCounter 28 = .ok (.iand, 1) := by decide +kernel
theorem d_D_hashWithCounter_29 : decode b_D_hashWithCounter 29 = .ok (.istore 6, 2) := by decide +kernel
theorem d_D_hashWithCounter_31 : decode b_D_hashWithCounter 31 = .ok (.aload_n 1, 1) := by decide +kernel
theorem d_D_hashWithCounter_32 : decode b_D_hashWithCounter 32 = .ok (.aload_n 2, 1) := by decide +kernel
theorem d_D_hashWithCounter_33 : decode b_D_hashWithCounter 33 = .ok (.invokevirtual 151, 3) := by decide +kernel
theorem d_D_hashWithCounter_36 : decode b_D_hashWithCounter 36 = .ok (.aload_n 1, 1) := by decide +kernel
theorem d_D_hashWithCounter_37 : decode b_D_hashWithCounter 37 = .ok (.aload 4, 2) := by decide +kernel
theorem d_D_hashWithCounter_39 : decode b_D_hashWithCounter 39 = .ok (.getfield 100, 3) := by decide +kernel
theorem d_D_hashWithCounter_42 : decode b_D_hashWithCounter 42 = .ok (.iconst 0, 1) := by decide +kernel
theorem d_D_hashWithCounter_43 : decode b_D_hashWithCounter 43 = .ok (.aload 4, 2) := by decide +kernel
theorem d_D_hashWithCounter_45 : decode b_D_hashWithCounter 45 = .ok (.getfield 66, 3) := by decide +kernel
theorem d_D_hashWithCounter_48 : decode b_D_hashWithCounter 48 = .ok (.iload 6, 2) := by decide +kernel
theorem d_D_hashWithCounter_50 : decode b_D_hashWithCounter 50 = .ok (.isub, 1) := by decide +kernel
theorem d_D_hashWithCounter_51 : decode b_D_hashWithCounter 51 = .ok (.invokevirtual 155, 3) := by decide +kernel
theorem d_D_hashWithCounter_54 : decode b_D_hashWithCounter 54 = .ok (.aload_n 1, 1) := by decide +kernel
theorem d_D_hashWithCounter_55 : decode b_D_hashWithCounter 55 = .ok (.invokevirtual 187, 3) := by decide +kernel
theorem d_D_hashWithCounter_58 : decode b_D_hashWithCounter 58 = .ok (.iconst 0, 1) := by decide +kernel
theorem d_D_hashWithCounter_59 : decode b_D_hashWithCounter 59 = .ok (.istore 7, 2) := by decide +kernel
theorem d_D_hashWithCounter_61 : decode b_D_hashWithCounter 61 = .ok (.iconst 0, 1) := by decide +kernel
theorem d_D_hashWithCounter_62 : decode b_D_hashWithCounter 62 = .ok (.istore 8, 2) := by decide +kernel
theorem d_D_hashWithCounter_64 : decode b_D_hashWithCounter 64 = .ok (.iload 8, 2) := by decide +kernel
theorem d_D_hashWithCounter_66 : decode b_D_hashWithCounter 66 = .ok (.sipush 256, 3) := by decide +kernel
theorem d_D_hashWithCounter_69 : decode b_D_hashWithCounter 69 = .ok (.if_icmp .ge 87, 3) := by decide +kernel
theorem d_D_hashWithCounter_72 : decode b_D_hashWithCounter 72 = .ok (.iload 7, 2) := by decide +kernel
theorem d_D_hashWithCounter_74 : decode b_D_hashWithCounter 74 = .ok (.iload_n 3, 1) := by decide +kernel
theorem d_D_hashWithCounter_75 : decode b_D_hashWithCounter 75 = .ok (.if_icmp .ge 81, 3) := by decide +kernel
theorem d_D_hashWithCounter_78 : decode b_D_hashWithCounter 78 = .ok (.aload_n 1, 1) := by decide +kernel
theorem d_D_hashWithCounter_79 : decode b_D_hashWithCounter 79 = .ok (.getfield 57, 3) := by decide +kernel
theorem d_D_hashWithCounter_82 : decode b_D_hashWithCounter 82 = .ok (.iload_n 3, 1) := by decide +kernel
theorem d_D_hashWithCounter_83 : decode b_D_hashWithCounter 83 = .ok (.iload 7, 2) := by decide +kernel
theorem d_D_hashWithCounter_85 : decode b_D_hashWithCounter 85 = .ok (.isub, 1) := by decide +kernel
theorem d_D_hashWithCounter_86 : decode b_D_hashWithCounter 86 = .ok (.invokestatic 190, 3) := by decide +kernel
theorem d_D_hashWithCounter_89 : decode b_D_hashWithCounter 89 = .ok (.istore 9, 2) := by decide +kernel
theorem d_D_hashWithCounter_91 : decode b_D_hashWithCounter 91 = .ok (.aload_n 0, 1) := by decide +kernel
theorem d_D_hashWithCounter_92 : decode b_D_hashWithCounter 92 = .ok (.iload 8, 2) := by decide +kernel
theorem d_D_hashWithCounter_94 : decode b_D_hashWithCounter 94 = .ok (.invokevirtual 196, 3) := by decide +kernel
theorem d_D_hashWithCounter_97 : decode b_D_hashWithCounter 97 = .ok (.aload_n 1, 1) := by decide +kernel
theorem d_D_hashWithCounter_98 : decode b_D_hashWithCounter 98 = .ok (.invokevirtual 199, 3) := by decide +kernel
theorem d_D_hashWithCounter_101 : decode b_D_hashWithCounter 101 = .ok (.aload_n 1, 1) := by decide +kernel
theorem d_D_hashWithCounter_102 : decode b_D_hashWithCounter 102 = .ok (.aload 4, 2) := by decide +kernel
theorem d_D_hashWithCounter_104 : decode b_D_hashWithCounter 104 = .ok (.getfield 100, 3) := by decide +kernel
theorem d_D_hashWithCounter_107 : decode b_D_hashWithCounter 107 = .ok (.aload 4, 2) := by decide +kernel
theorem d_D_hashWithCounter_109 : decode b_D_hashWithCounter 109 = .ok (.getfield 66, 3) := by decide +kernel
theorem d_D_hashWithCounter_112 : decode b_D_hashWithCounter 112 = .ok (.iload 6, 2) := by decide +kernel
theorem d_D_hashWithCounter_114 : decode b_D_hashWithCounter 114 = .ok (.isub, 1) := by decide +kernel
theorem d_D_hashWithCounter_115 : decode b_D_hashWithCounter 115 = .ok (.iload 6, 2) := by decide +kernel
theorem d_D_hashWithCounter_117 : decode b_D_hashWithCounter 117 = .ok (.invokevirtual 155, 3) := by decide +kernel
theorem d_D_hashWithCounter_120 : decode b_D_hashWithCounter 120 = .ok (.aload_n 1, 1) := by decide +kernel
theorem d_D_hashWithCounter_121 : decode b_D_hashWithCounter 121 = .ok (.aload_n 0, 1) := by decide +kernel
theorem d_D_hashWithCounter_122 : decode b_D_hashWithCounter 122 = .ok (.getfield 63, 3) := by decide +kernel
theorem d_D_hashWithCounter_125 : decode b_D_hashWithCounter 125 = .ok (.iconst 0, 1) := by decide +kernel
theorem d_D_hashWithCounter_126 : decode b_D_hashWithCounter 126 = .ok (.iconst 4, 1) := by decide +kernel
theorem d_D_hashWithCounter_127 : decode b_D_hashWithCounter 127 = .ok (.invokevirtual 155, 3) := by decide +kernel
theorem d_D_hashWithCounter_130 : decode b_D_hashWithCounter 130 = .ok (.aload_n 1, 1) := by decide +kernel
theorem d_D_hashWithCounter_131 : decode b_D_hashWithCounter 131 = .ok (.aload 5, 2) := by decide +kernel
theorem d_D_hashWithCounter_133 : decode b_D_hashWithCounter 133 = .ok (.getfield 100, 3) := by decide +kernel
theorem d_D_hashWithCounter_136 : decode b_D_hashWithCounter 136 = .ok (.iload 7, 2) := by decide +kernel
theorem d_D_hashWithCounter_138 : decode b_D_hashWithCounter 138 = .ok (.iload 9, 2) := by decide +kernel
theorem d_D_hashWithCounter_140 : decode b_D_hashWithCounter 140 = .ok (.invokevirtual 159, 3) := by decide +kernel
theorem d_D_hashWithCounter_143 : decode b_D_hashWithCounter 143 = .ok (.iload 7, 2) := by decide +kernel
theorem d_D_hashWithCounter_145 : decode b_D_hashWithCounter 145 = .ok (.iload 9, 2) := by decide +kernel
theorem d_D_hashWithCounter_147 : decode b_D_hashWithCounter 147 = .ok (.iadd, 1) := by decide +kernel
theorem d_D_hashWithCounter_148 : decode b_D_hashWithCounter 148 = .ok (.istore 7, 2) := by decide +kernel
theorem d_D_hashWithCounter_150 : decode b_D_hashWithCounter 150 = .ok (.iinc 8 1, 3) := by decide +kernel
theorem d_D_hashWithCounter_153 : decode b_D_hashWithCounter 153 = .ok (.goto (-89), 3) := by decide +kernel
theorem d_D_hashWithCounter_156 : decode b_D_hashWithCounter 156 = .ok (.aload 5, 2) := by decide +kernel
theorem d_D_hashWithCounter_158 : decode b_D_hashWithCounter 158 = .ok (.iload_n 3, 1) := by decide +kernel
theorem d_D_hashWithCounter_159 : decode b_D_hashWithCounter 159 = .ok (.putfield 66, 3) := by decide +kernel
theorem d_D_hashWithCounter_162 : decode b_D_hashWithCounter 162 = .ok (.return_, 1) := by decide +kernel
theorem d_H_setMark_0 : decode b_H_setMark 0 = .ok (.aload_n 0, 1) := by decide +kernel
theorem d_H_setMark_1 : decode b_H_setMark 1 = .ok (.getfield 41, 3) := by decide +kernel
theorem d_H_setMark_4 : decode b_H_setMark 4 = .ok (.iconst 0, 1) := by decide +kernel
theorem d_H_setMark_5 : decode b_H_setMark 5 = .ok (.aload_n 0, 1) := by decide +kernel
theorem d_H_setMark_6 : decode b_H_setMark 6 = .ok (.getfield 48, 3) := by decide +kernel
theorem d_H_setMark_9 : decode b_H_setMark 9 = .ok (.iconst 0, 1) := by decide +kernel
theorem d_H_setMark_10 : decode b_H_setMark 10 = .ok (.bipush 8, 2) := by decide +kernel
theorem d_H_setMark_12 : decode b_H_setMark 12 = .ok (.invokestatic 51, 3) := by decide +kernel
theorem d_H_setMark_15 : decode b_H_setMark 15 = .ok (.aload_n 0, 1) := by decide +kernel
theorem d_H_setMark_16 : decode b_H_setMark 16 = .ok (.aload_n 0, 1) := by decide +kernel
theorem d_H_setMark_17 : decode b_H_setMark 17 = .ok (.getfield 60, 3) := by decide +kernel
theorem d_H_setMark_20 : decode b_H_setMark 20 = .ok (.putfield 66, 3) := by decide +kernel
theorem d_H_setMark_23 : decode b_H_setMark 23 = .ok (.return_, 1) := by decide +kernel
theorem d_D_setCounter_0 : decode b_D_setCounter 0 = .ok (.iconst 0, 1) := by decide +kernel
theorem d_D_setCounter_1 : decode b_D_setCounter 1 = .ok (.istore_n 2, 1) := by decide +kernel
theorem d_D_setCounter_2 : decode b_D_setCounter 2 = .ok (.iload_n 2, 1) := by decide +kernel
theorem d_D_setCounter_3 : decode b_D_setCounter 3 = .ok (.iconst 4, 1) := by decide +kernel
theorem d_D_setCounter_4 : decode b_D_setCounter 4 = .ok (.if_icmp .ge 24, 3) := by decide +kernel
theorem d_D_setCounter_7 : decode b_D_setCounter 7 = .ok (.aload_n 0, 1) := by decide +kernel
theorem d_D_setCounter_8 : decode b_D_setCounter 8 = .ok (.getfield 63, 3) := by decide +kernel
theorem d_D_setCounter_11 : decode b_D_setCounter 11 = .ok (.iload_n 2, 1) := by decide +kernel
theorem d_D_setCounter_12 : decode b_D_setCounter 12 = .ok (.iload_n 1, 1) := by decide +kernel
theorem d_D_setCounter_13 : decode b_D_setCounter 13 = .ok (.bipush 8, 2) := by decide +kernel
theorem d_D_setCounter_15 : decode b_D_setCounter 15 = .ok (.iconst 3, 1) := by decide +kernel
theorem d_D_setCounter_16 : decode b_D_setCounter 16 = .ok (.iload_n 2, 1) := by decide +kernel
theorem d_D_setCounter_17 : decode b_D_setCounter 17 = .ok (.isub, 1) := by decide +kernel
theorem d_D_setCounter_18 : decode b_D_setCounter 18 = .ok (.imul, 1) := by decide +kernel
theorem d_D_setCounter_19 : decode b_D_setCounter 19 = .ok (.iushr, 1) := by decide +kernel
theorem d_D_setCounter_20 : decode b_D_setCounter 20 = .ok (.i2b, 1) := by decide +kernel
theorem d_D_setCounter_21 : decode b_D_setCounter 21 = .ok (.bastore, 1) := by decide +kernel
theorem d_D_setCounter_22 : decode b_D_setCounter 22 = .ok (.iinc 2 1, 3) := by decide +kernel
theorem d_D_setCounter_25 : decode b_D_setCounter 25 = .ok (.goto (-23), 3) := by decide +kernel
theorem d_D_setCounter_28 : decode b_D_setCounter 28 = .ok (.return_, 1) := by decide +kernel
theorem d_H_goToMark_0 : decode b_H_goToMark 0 = .ok (.aload_n 0, 1) := by decide +kernel
theorem d_H_goToMark_1 : decode b_H_goToMark 1 = .ok (.getfield 48, 3) := by decide +kernel
theorem d_H_goToMark_4 : decode b_H_goToMark 4 = .ok (.iconst 0, 1) := by decide +kernel
theorem d_H_goToMark_5 : decode b_H_goToMark 5 = .ok (.aload_n 0, 1) := by decide +kernel
theorem d_H_goToMark_6 : decode b_H_goToMark 6 = .ok (.getfield 41, 3) := by decide +kernel
theorem d_H_goToMark_9 : decode b_H_goToMark 9 = .ok (.iconst 0, 1) := by decide +kernel
theorem d_H_goToMark_10 : decode b_H_goToMark 10 = .ok (.bipush 8, 2) := by decide +kernel
theorem d_H_goToMark_12 : decode b_H_goToMark 12 = .ok (.invokestatic 51, 3) := by decide +kernel
theorem d_H_goToMark_15 : decode b_H_goToMark 15 = .ok (.aload_n 0, 1) := by decide +kernel
theorem d_H_goToMark_16 : decode b_H_goToMark 16 = .ok (.aload_n 0, 1) := by decide +kernel
theorem d_H_goToMark_17 : decode b_H_goToMark 17 = .ok (.getfield 66, 3) := by decide +kernel
theorem d_H_goToMark_20 : decode b_H_goToMark 20 = .ok (.putfield 60, 3) := by decide +kernel
theorem d_H_goToMark_23 : decode b_H_goToMark 23 = .ok (.aload_n 0, 1) := by decide +kernel
theorem d_H_goToMark_24 : decode b_H_goToMark 24 = .ok (.iconst 0, 1) := by decide +kernel
theorem d_H_goToMark_25 : decode b_H_goToMark 25 = .ok (.putfield 57, 3) := by decide +kernel
theorem d_H_goToMark_28 : decode b_H_goToMark 28 = .ok (.return_, 1) := by decide +kernel
theorem d_O_init_0 : decode b_O_init 0 = .ok (.aload_n 0, 1) := by decide +kernel
theorem d_O_init_1 : decode b_O_init 1 = .ok (.invokespecial 1, 3) := by decide +kernel
theorem d_O_init_4 : decode b_O_init 4 = .ok (.aload_n 0, 1) := by decide +kernel
theorem d_O_init_5 : decode b_O_init 5 = .ok (.sipush 8192, 3) := by decide +kernel
theorem d_O_init_8 : decode b_O_init 8 = .ok (.newarray .byte, 2) := by decide +kernel
theorem d_O_init_10 : decode b_O_init 10 = .ok (.putfield 9, 3) := by decide +kernel
theorem d_O_init_13 : decode b_O_init 13 = .ok (.aload_n 0, 1) := by decide +kernel
theorem d_O_init_14 : decode b_O_init 14 = .ok (.bipush 8, 2) := by decide +kernel
theorem d_O_init_16 : decode b_O_init 16 = .ok (.sipush 8192, 3) := by decide +kernel
theorem d_O_init_19 : decode b_O_init 19 = .ok (.multianewarray 13 2, 4) := by decide +kernel
theorem d_O_init_23 : decode b_O_init 23 = .ok (.putfield 15, 3) := by decide +kernel
theorem d_O_init_26 : decode b_O_init 26 = .ok (.aload_n 0, 1) := by decide +kernel
theorem d_O_init_27 : decode b_O_init 27 = .ok (.bipush 8, 2) := by decide +kernel
theorem d_O_init_29 : decode b_O_init 29 = .ok (.newarray .int, 2) := by decide +kernel
theorem d_O_init_31 : decode b_O_init 31 = .ok (.putfield 18, 3) := by decide +kernel
theorem d_O_init_34 : decode b_O_init 34 = .ok (.aload_n 0, 1) := by decide +kernel
theorem d_O_init_35 : decode b_O_init 35 = .ok (.bipush 16, 2) := by decide +kernel
theorem d_O_init_37 : decode b_O_init 37 = .ok (.newarray .long, 2) := by decide +kernel
theorem d_O_init_39 : decode b_O_init 39 = .ok (.putfield 22, 3) := by decide +kernel
theorem d_O_init_42 : decode b_O_init 42 = .ok (.aload_n 0, 1) := by decide +kernel
theorem d_O_init_43 : decode b_O_init 43 = .ok (.bipush 80, 2) := by decide +kernel
theorem d_O_init_45 : decode b_O_init 45 = .ok (.newarray .long, 2) := by decide +kernel
theorem d_O_init_47 : decode b_O_init 47 = .ok (.putfield 26, 3) := by decide +kernel
theorem d_O_init_50 : decode b_O_init 50 = .ok (.aload_n 0, 1) := by decide +kernel
theorem d_O_init_51 : decode b_O_init 51 = .ok (.bipush 8, 2) := by decide +kernel
theorem d_O_init_53 : decode b_O_init 53 = .ok (.newarray .long, 2) := by decide +kernel
theorem d_O_init_55 : decode b_O_init 55 = .ok (.putfield 29, 3) := by decide +kernel
theorem d_O_init_58 : decode b_O_init 58 = .ok (.aload_n 0, 1) := by decide +kernel
theorem d_O_init_59 : decode b_O_init 59 = .ok (.bipush 8, 2) := by decide +kernel
theorem d_O_init_61 : decode b_O_init 61 = .ok (.newarray .long, 2) := by decide +kernel
theorem d_O_init_63 : decode b_O_init 63 = .ok (.putfield 32, 3) := by decide +kernel
theorem d_O_init_66 : decode b_O_init 66 = .ok (.aload_n 0, 1) := by decide +kernel
theorem d_O_init_67 : decode b_O_init 67 = .ok (.bipush 16, 2) := by decide +kernel
theorem d_O_init_69 : decode b_O_init 69 = .ok (.newarray .long, 2) := by decide +kernel
theorem d_O_init_71 : decode b_O_init 71 = .ok (.putfield 35, 3) := by decide +kernel
theorem d_O_init_74 : decode b_O_init 74 = .ok (.aload_n 0, 1) := by decide +kernel
theorem d_O_init_75 : decode b_O_init 75 = .ok (.bipush 16, 2) := by decide +kernel
theorem d_O_init_77 : decode b_O_init 77 = .ok (.newarray .long, 2) := by decide +kernel
theorem d_O_init_79 : decode b_O_init 79 = .ok (.putfield 38, 3) := by decide +kernel
theorem d_O_init_82 : decode b_O_init 82 = .ok (.aload_n 0, 1) := by decide +kernel
theorem d_O_init_83 : decode b_O_init 83 = .ok (.bipush 25, 2) := by decide +kernel
theorem d_O_init_85 : decode b_O_init 85 = .ok (.newarray .int, 2) := by decide +kernel
theorem d_O_init_87 : decode b_O_init 87 = .ok (.putfield 41, 3) := by decide +kernel
theorem d_O_init_90 : decode b_O_init 90 = .ok (.aload_n 0, 1) := by decide +kernel
theorem d_O_init_91 : decode b_O_init 91 = .ok (.bipush 24, 2) := by decide +kernel
theorem d_O_init_93 : decode b_O_init 93 = .ok (.newarray .long, 2) := by decide +kernel
theorem d_O_init_95 : decode b_O_init 95 = .ok (.putfield 44, 3) := by decide +kernel
theorem d_O_init_98 : decode b_O_init 98 = .ok (.aload_n 0, 1) := by decide +kernel
theorem d_O_init_99 : decode b_O_init 99 = .ok (.bipush 25, 2) := by decide +kernel
theorem d_O_init_101 : decode b_O_init 101 = .ok (.newarray .long, 2) := by decide +kernel
theorem d_O_init_103 : decode b_O_init 103 = .ok (.putfield 47, 3) := by decide +kernel
theorem d_O_init_106 : decode b_O_init 106 = .ok (.aload_n 0, 1) := by decide +kernel
theorem d_O_init_107 : decode b_O_init 107 = .ok (.bipush 25, 2) := by decide +kernel
theorem d_O_init_109 : decode b_O_init 109 = .ok (.newarray .long, 2) := by decide +kernel
theorem d_O_init_111 : decode b_O_init 111 = .ok (.putfield 50, 3) := by decide +kernel
theorem d_O_init_114 : decode b_O_init 114 = .ok (.aload_n 0, 1) := by decide +kernel
theorem d_O_init_115 : decode b_O_init 115 = .ok (.iconst 5, 1) := by decide +kernel
theorem d_O_init_116 : decode b_O_init 116 = .ok (.newarray .long, 2) := by decide +kernel
theorem d_O_init_118 : decode b_O_init 118 = .ok (.putfield 53, 3) := by decide +kernel
theorem d_O_init_121 : decode b_O_init 121 = .ok (.aload_n 0, 1) := by decide +kernel
theorem d_O_init_122 : decode b_O_init 122 = .ok (.bipush 80, 2) := by decide +kernel
theorem d_O_init_124 : decode b_O_init 124 = .ok (.newarray .long, 2) := by decide +kernel
theorem d_O_init_126 : decode b_O_init 126 = .ok (.putfield 56, 3) := by decide +kernel
theorem d_O_init_129 : decode b_O_init 129 = .ok (.aload_n 0, 1) := by decide +kernel
theorem d_O_init_130 : decode b_O_init 130 = .ok (.sipush 128, 3) := by decide +kernel
theorem d_O_init_133 : decode b_O_init 133 = .ok (.newarray .byte, 2) := by decide +kernel
theorem d_O_init_135 : decode b_O_init 135 = .ok (.putfield 59, 3) := by decide +kernel
theorem d_O_init_138 : decode b_O_init 138 = .ok (.aload_n 0, 1) := by decide +kernel
theorem d_O_init_139 : decode b_O_init 139 = .ok (.sipush 128, 3) := by decide +kernel
theorem d_O_init_142 : decode b_O_init 142 = .ok (.newarray .byte, 2) := by decide +kernel
theorem d_O_init_144 : decode b_O_init 144 = .ok (.putfield 62, 3) := by decide +kernel
theorem d_O_init_147 : decode b_O_init 147 = .ok (.aload_n 0, 1) := by decide +kernel
theorem d_O_init_148 : decode b_O_init 148 = .ok (.bipush 64, 2) := by decide +kernel
theorem d_O_init_150 : decode b_O_init 150 = .ok (.newarray .byte, 2) := by decide +kernel
theorem d_O_init_152 : decode b_O_init 152 = .ok (.putfield 65, 3) := by decide +kernel
theorem d_O_init_155 : decode b_O_init 155 = .ok (.aload_n 0, 1) := by decide +kernel
theorem d_O_init_156 : decode b_O_init 156 = .ok (.invokevirtual 68, 3) := by decide +kernel
theorem d_O_init_159 : decode b_O_init 159 = .ok (.return_, 1) := by decide +kernel
theorem d_O_constants_0 : decode b_O_constants 0 = .ok (.iconst 0, 1) := by decide +kernel
theorem d_O_constants_1 : decode b_O_constants 1 = .ok (.istore_n 1, 1) := by decide +kernel
theorem d_O_constants_2 : decode b_O_constants 2 = .ok (.iconst 2, 1) := by decide +kernel
theorem d_O_constants_3 : decode b_O_constants 3 = .ok (.istore_n 2, 1) := by decide +kernel
theorem d_O_constants_4 : decode b_O_constants 4 = .ok (.iload_n 1, 1) := by decide +kernel
theorem d_O_constants_5 : decode b_O_constants 5 = .ok (.bipush 80, 2) := by decide +kernel
theorem d_O_constants_7 : decode b_O_constants 7 = .ok (.if_icmp .ge 52, 3) := by decide +kernel
theorem d_O_constants_10 : decode b_O_constants 10 = .ok (.iload_n 2, 1) := by decide +kernel
theorem d_O_constants_11 : decode b_O_constants 11 = .ok (.invokestatic 98, 3) := by decide +kernel
theorem d_O_constants_14 : decode b_O_constants 14 = .ok (.ifCond .ne 6, 3) := by decide +kernel
theorem d_O_constants_17 : decode b_O_constants 17 = .ok (.goto 36, 3) := by decide +kernel
theorem d_O_constants_20 : decode b_O_constants 20 = .ok (.iload_n 1, 1) := by decide +kernel
theorem d_O_constants_21 : decode b_O_constants 21 = .ok (.bipush 16, 2) := by decide +kernel
theorem d_O_constants_23 : decode b_O_constants 23 = .ok (.if_icmp .ge 15, 3) := by decide +kernel
theorem d_O_constants_26 : decode b_O_constants 26 = .ok (.aload_n 0, 1) := by decide +kernel
theorem d_O_constants_27 : decode b_O_constants 27 = .ok (.getfield 22, 3) := by decide +kernel
theorem d_O_constants_30 : decode b_O_constants 30 = .ok (.iload_n 1, 1) := by decide +kernel
theorem d_O_constants_31 : decode b_O_constants 31 = .ok (.aload_n 0, 1) := by decide +kernel
theorem d_O_constants_32 : decode b_O_constants 32 = .ok (.iload_n 2, 1) := by decide +kernel
theorem d_O_constants_33 : decode b_O_constants 33 = .ok (.iconst 2, 1) := by decide +kernel
theorem d_O_constants_34 : decode b_O_constants 34 = .ok (.invokevirtual 102, 3) := by decide +kernel
theorem d_O_constants_37 : decode b_O_constants 37 = .ok (.lastore, 1) := by decide +kernel
theorem d_O_constants_38 : decode b_O_constants 38 = .ok (.aload_n 0, 1) := by decide +kernel
theorem d_O_constants_39 : decode b_O_constants 39 = .ok (.getfield 26, 3) := by decide +kernel
theorem d_O_constants_42 : decode b_O_constants 42 = .ok (.iload_n 1, 1) := by decide +kernel
theorem d_O_constants_43 : decode b_O_constants 43 = .ok (.aload_n 0, 1) := by decide +kernel
theorem d_O_constants_44 : decode b_O_constants 44 = .ok (.iload_n 2, 1) := by decide +kernel
theorem d_O_constants_45 : decode b_O_constants 45 = .ok (.iconst 3, 1) := by decide +kernel
theorem d_O_constants_46 : decode b_O_constants 46 = .ok (.invokevirtual 102, 3) := by decide +kernel
theorem d_O_constants_49 : decode b_O_constants 49 = .ok (.lastore, 1) := by decide +kernel
theorem d_O_constants_50 : decode b_O_constants 50 = .ok (.iinc 1 1, 3) := by decide +kernel
theorem d_O_constants_53 : decode b_O_constants 53 = .ok (.iinc 2 1, 3) := by decide +kernel
theorem d_O_constants_56 : decode b_O_constants 56 = .ok (.goto (-52), 3) := by decide +kernel
theorem d_O_constants_59 : decode b_O_constants 59 = .ok (.iconst 1, 1) := by decide +kernel
theorem d_O_constants_60 : decode b_O_constants 60 = .ok (.istore_n 2, 1) := by decide +kernel
theorem d_O_constants_61 : decode b_O_constants 61 = .ok (.iconst 0, 1) := by decide +kernel
theorem d_O_constants_62 : decode b_O_constants 62 = .ok (.istore_n 3, 1) := by decide +kernel
theorem d_O_constants_63 : decode b_O_constants 63 = .ok (.iconst 0, 1) := by decide +kernel
theorem d_O_constants_64 : decode b_O_constants 64 = .ok (.istore 4, 2) := by decide +kernel
theorem d_O_constants_66 : decode b_O_constants 66 = .ok (.iload 4, 2) := by decide +kernel
theorem d_O_constants_68 : decode b_O_constants 68 = .ok (.bipush 24, 2) := by decide +kernel
theorem d_O_constants_70 : decode b_O_constants 70 = .ok (.if_icmp .ge 49, 3) := by decide +kernel
theorem d_O_constants_73 : decode b_O_constants 73 = .ok (.aload_n 0, 1) := by decide +kernel
theorem d_O_constants_74 : decode b_O_constants 74 = .ok (.getfield 41, 3) := by decide +kernel
theorem d_O_constants_77 : decode b_O_constants 77 = .ok (.iload_n 2, 1) := by decide +kernel
theorem d_O_constants_78 : decode b_O_constants 78 = .ok (.iconst 5, 1) := by decide +kernel
theorem d_O_constants_79 : decode b_O_constants 79 = .ok (.iload_n 3, 1) := by decide +kernel
theorem d_O_constants_80 : decode b_O_constants 80 = .ok (.imul, 1) := by decide +kernel
theorem d_O_constants_81 : decode b_O_constants 81 = .ok (.iadd, 1) := by decide +kernel
theorem d_O_constants_82 : decode b_O_constants 82 = .ok (.iload 4, 2) := by decide +kernel
theorem d_O_constants_84 : decode b_O_constants 84 = .ok (.iconst 1, 1) := by decide +kernel
theorem d_O_constants_85 : decode b_O_constants 85 = .ok (.iadd, 1) := by decide +kernel
theorem d_O_constants_86 : decode b_O_constants 86 = .ok (.iload 4, 2) := by decide +kernel
theorem d_O_constants_88 : decode b_O_constants 88 = .ok (.iconst 2, 1) := by decide +kernel
theorem d_O_constants_89 : decode b_O_constants 89 = .ok (.iadd, 1) := by decide +kernel
theorem d_O_constants_90 : decode b_O_constants 90 = .ok (.imul, 1) := by decide +kernel
theorem d_O_constants_91 : decode b_O_constants 91 = .ok (.iconst 2, 1) := by decide +kernel
theorem d_O_constants_92 : decode b_O_constants 92 = .ok (.idiv, 1) := by decide +kernel
theorem d_O_constants_93 : decode b_O_constants 93 = .ok (.bipush 64, 2) := by decide +kernel
theorem d_O_constants_95 : decode b_O_constants 95 = .ok (.irem, 1) := by decide +kernel
theorem d_O_constants_96 : decode b_O_constants 96 = .ok (.iastore, 1) := by decide +kernel
theorem d_O_constants_97 : decode b_O_constants 97 = .ok (.iconst 2, 1) := by decide +kernel
theorem d_O_constants_98 : decode b_O_constants 98 = .ok (.iload_n 2, 1) := by decide +kernel
theorem d_O_constants_99 : decode b_O_constants 99 = .ok (.imul, 1) := by decide +kernel
theorem d_O_constants_100 : decode b_O_constants 100 = .ok (.iconst 3, 1) := by decide +kernel
theorem d_O_constants_101 : decode b_O_constants 101 = .ok (.iload_n 3, 1) := by decide +kernel
theorem d_O_constants_102 : decode b_O_constants 102 = .ok (.imul, 1) := by decide +kernel
theorem d_O_constants_103 : decode b_O_constants 103 = .ok (.iadd, 1) := by decide +kernel
theorem d_O_constants_104 : decode b_O_constants 104 = .ok (.iconst 5, 1) := by decide +kernel
theorem d_O_constants_105 : decode b_O_constants 105 = .ok (.irem, 1) := by decide +kernel
theorem d_O_constants_106 : decode b_O_constants 106 = .ok (.istore 5, 2) := by decide +kernel
theorem d_O_constants_108 : decode b_O_constants 108 = .ok (.iload_n 3, 1) := by decide +kernel
theorem d_O_constants_109 : decode b_O_constants 109 = .ok (.istore_n 2, 1) := by decide +kernel
theorem d_O_constants_110 : decode b_O_constants 110 = .ok (.iload 5, 2) := by decide +kernel
theorem d_O_constants_112 : decode b_O_constants 112 = .ok (.istore_n 3, 1) := by decide +kernel
theorem d_O_constants_113 : decode b_O_constants 113 = .ok (.iinc 4 1, 3) := by decide +kernel
theorem d_O_constants_116 : decode b_O_constants 116 = .ok (.goto (-50), 3) := by decide +kernel
theorem d_O_constants_119 : decode b_O_constants 119 = .ok (.iconst 0, 1) := by decide +kernel
theorem d_O_constants_120 : decode b_O_constants 120 = .ok (.istore 4, 2) := by decide +kernel
theorem d_O_constants_122 : decode b_O_constants 122 = .ok (.iload 4, 2) := by decide +kernel
theorem d_O_constants_124 : decode b_O_constants 124 = .ok (.bipush 24, 2) := by decide +kernel
theorem d_O_constants_126 : decode b_O_constants 126 = .ok (.if_icmp .ge 58, 3) := by decide +kernel
theorem d_O_constants_129 : decode b_O_constants 129 = .ok (.iconst 0, 1) := by decide +kernel
theorem d_O_constants_130 : decode b_O_constants 130 = .ok (.istore 5, 2) := by decide +kernel
theorem d_O_constants_132 : decode b_O_constants 132 = .ok (.iload 5, 2) := by decide +kernel
theorem d_O_constants_134 : decode b_O_constants 134 = .ok (.bipush 6, 2) := by decide +kernel
theorem d_O_constants_136 : decode b_O_constants 136 = .ok (.if_icmp .gt 42, 3) := by decide +kernel
theorem d_O_constants_139 : decode b_O_constants 139 = .ok (.iload 5, 2) := by decide +kernel
theorem d_O_constants_141 : decode b_O_constants 141 = .ok (.bipush 7, 2) := by decide +kernel
theorem d_O_constants_143 : decode b_O_constants 143 = .ok (.iload 4, 2) := by decide +kernel
theorem d_O_constants_145 : decode b_O_constants 145 = .ok (.imul, 1) := by decide +kernel
end
section
theorem d_O_constants_146 : decode b_O_constants 146 = .ok (.iadd, 1) := by decide +kernel
theorem d_O_constants_147 : decode b_O_constants 147 = .ok (.invokestatic 106, 3) := by decide +kernel
theorem d_O_constants_150 : decode b_O_constants 150 = .ok (.iconst 1, 1) := by decide +kernel
theorem d_O_constants_151 : decode b_O_constants 151 = .ok (.if_icmp .ne 21, 3) := by decide +kernel
theorem d_O_constants_154 : decode b_O_constants 154 = .ok (.aload_n 0, 1) := by decide +kernel
theorem d_O_constants_155 : decode b_O_constants 155 = .ok (.getfield 44, 3) := by decide +kernel
theorem d_O_constants_158 : decode b_O_constants 158 = .ok (.iload 4, 2) := by decide +kernel
theorem d_O_constants_160 : decode b_O_constants 160 = .ok (.dup2, 1) := by decide +kernel
theorem d_O_constants_161 : decode b_O_constants 161 = .ok (.laload, 1) := by decide +kernel
theorem d_O_constants_162 : decode b_O_constants 162 = .ok (.lconst 1, 1) := by decide +kernel
theorem d_O_constants_163 : decode b_O_constants 163 = .ok (.iconst 1, 1) := by decide +kernel
theorem d_O_constants_164 : decode b_O_constants 164 = .ok (.iload 5, 2) := by decide +kernel
theorem d_O_constants_166 : decode b_O_constants 166 = .ok (.ishl, 1) := by decide +kernel
theorem d_O_constants_167 : decode b_O_constants 167 = .ok (.iconst 1, 1) := by decide +kernel
theorem d_O_constants_168 : decode b_O_constants 168 = .ok (.isub, 1) := by decide +kernel
theorem d_O_constants_169 : decode b_O_constants 169 = .ok (.lshl, 1) := by decide +kernel
theorem d_O_constants_170 : decode b_O_constants 170 = .ok (.lor, 1) := by decide +kernel
theorem d_O_constants_171 : decode b_O_constants 171 = .ok (.lastore, 1) := by decide +kernel
theorem d_O_constants_172 : decode b_O_constants 172 = .ok (.iinc 5 1, 3) := by decide +kernel
theorem d_O_constants_175 : decode b_O_constants 175 = .ok (.goto (-43), 3) := by decide +kernel
theorem d_O_constants_178 : decode b_O_constants 178 = .ok (.iinc 4 1, 3) := by decide +kernel
theorem d_O_constants_181 : decode b_O_constants 181 = .ok (.goto (-59), 3) := by decide +kernel
theorem d_O_constants_184 : decode b_O_constants 184 = .ok (.aload_n 0, 1) := by decide +kernel
theorem d_O_constants_185 : decode b_O_constants 185 = .ok (.aload_n 0, 1) := by decide +kernel
theorem d_O_constants_186 : decode b_O_constants 186 = .ok (.getfield 29, 3) := by decide +kernel
theorem d_O_constants_189 : decode b_O_constants 189 = .ok (.bipush 50, 2) := by decide +kernel
theorem d_O_constants_191 : decode b_O_constants 191 = .ok (.bipush 52, 2) := by decide +kernel
theorem d_O_constants_193 : decode b_O_constants 193 = .ok (.invokevirtual 110, 3) := by decide +kernel
theorem d_O_constants_196 : decode b_O_constants 196 = .ok (.aload_n 0, 1) := by decide +kernel
theorem d_O_constants_197 : decode b_O_constants 197 = .ok (.aload_n 0, 1) := by decide +kernel
theorem d_O_constants_198 : decode b_O_constants 198 = .ok (.getfield 32, 3) := by decide +kernel
theorem d_O_constants_201 : decode b_O_constants 201 = .ok (.bipush 53, 2) := by decide +kernel
theorem d_O_constants_203 : decode b_O_constants 203 = .ok (.bipush 54, 2) := by decide +kernel
theorem d_O_constants_205 : decode b_O_constants 205 = .ok (.invokevirtual 110, 3) := by decide +kernel
theorem d_O_constants_208 : decode b_O_constants 208 = .ok (.return_, 1) := by decide +kernel
theorem d_O_prime_0 : decode b_O_prime 0 = .ok (.iconst 2, 1) := by decide +kernel
theorem d_O_prime_1 : decode b_O_prime 1 = .ok (.istore_n 1, 1) := by decide +kernel
theorem d_O_prime_2 : decode b_O_prime 2 = .ok (.iload_n 1, 1) := by decide +kernel
theorem d_O_prime_3 : decode b_O_prime 3 = .ok (.iload_n 1, 1) := by decide +kernel
theorem d_O_prime_4 : decode b_O_prime 4 = .ok (.imul, 1) := by decide +kernel
theorem d_O_prime_5 : decode b_O_prime 5 = .ok (.iload_n 0, 1) := by decide +kernel
theorem d_O_prime_6 : decode b_O_prime 6 = .ok (.if_icmp .gt 17, 3) := by decide +kernel
theorem d_O_prime_9 : decode b_O_prime 9 = .ok (.iload_n 0, 1) := by decide +kernel
theorem d_O_prime_10 : decode b_O_prime 10 = .ok (.iload_n 1, 1) := by decide +kernel
theorem d_O_prime_11 : decode b_O_prime 11 = .ok (.irem, 1) := by decide +kernel
theorem d_O_prime_12 : decode b_O_prime 12 = .ok (.ifCond .ne 5, 3) := by decide +kernel
theorem d_O_prime_15 : decode b_O_prime 15 = .ok (.iconst 0, 1) := by decide +kernel
theorem d_O_prime_16 : decode b_O_prime 16 = .ok (.ireturn, 1) := by decide +kernel
theorem d_O_prime_17 : decode b_O_prime 17 = .ok (.iinc 1 1, 3) := by decide +kernel
theorem d_O_prime_20 : decode b_O_prime 20 = .ok (.goto (-18), 3) := by decide +kernel
theorem d_O_prime_23 : decode b_O_prime 23 = .ok (.iconst 1, 1) := by decide +kernel
theorem d_O_prime_24 : decode b_O_prime 24 = .ok (.ireturn, 1) := by decide +kernel
theorem d_O_root_0 : decode b_O_root 0 = .ok (.iconst 1, 1) := by decide +kernel
theorem d_O_root_1 : decode b_O_root 1 = .ok (.istore_n 3, 1) := by decide +kernel
theorem d_O_root_2 : decode b_O_root 2 = .ok (.aload_n 0, 1) := by decide +kernel
theorem d_O_root_3 : decode b_O_root 3 = .ok (.iload_n 3, 1) := by decide +kernel
theorem d_O_root_4 : decode b_O_root 4 = .ok (.iconst 1, 1) := by decide +kernel
theorem d_O_root_5 : decode b_O_root 5 = .ok (.iadd, 1) := by decide +kernel
theorem d_O_root_6 : decode b_O_root 6 = .ok (.lconst 0, 1) := by decide +kernel
theorem d_O_root_7 : decode b_O_root 7 = .ok (.iload_n 2, 1) := by decide +kernel
theorem d_O_root_8 : decode b_O_root 8 = .ok (.iload_n 1, 1) := by decide +kernel
theorem d_O_root_9 : decode b_O_root 9 = .ok (.invokevirtual 94, 3) := by decide +kernel
theorem d_O_root_12 : decode b_O_root 12 = .ok (.ifCond .ne 9, 3) := by decide +kernel
theorem d_O_root_15 : decode b_O_root 15 = .ok (.iinc 3 1, 3) := by decide +kernel
theorem d_O_root_18 : decode b_O_root 18 = .ok (.goto (-16), 3) := by decide +kernel
theorem d_O_root_21 : decode b_O_root 21 = .ok (.lconst 0, 1) := by decide +kernel
theorem d_O_root_22 : decode b_O_root 22 = .ok (.lstore 4, 2) := by decide +kernel
theorem d_O_root_24 : decode b_O_root 24 = .ok (.bipush 63, 2) := by decide +kernel
theorem d_O_root_26 : decode b_O_root 26 = .ok (.istore 6, 2) := by decide +kernel
theorem d_O_root_28 : decode b_O_root 28 = .ok (.iload 6, 2) := by decide +kernel
theorem d_O_root_30 : decode b_O_root 30 = .ok (.ifCond .lt 35, 3) := by decide +kernel
theorem d_O_root_33 : decode b_O_root 33 = .ok (.aload_n 0, 1) := by decide +kernel
theorem d_O_root_34 : decode b_O_root 34 = .ok (.iload_n 3, 1) := by decide +kernel
theorem d_O_root_35 : decode b_O_root 35 = .ok (.lload 4, 2) := by decide +kernel
theorem d_O_root_37 : decode b_O_root 37 = .ok (.lconst 1, 1) := by decide +kernel
theorem d_O_root_38 : decode b_O_root 38 = .ok (.iload 6, 2) := by decide +kernel
theorem d_O_root_40 : decode b_O_root 40 = .ok (.lshl, 1) := by decide +kernel
theorem d_O_root_41 : decode b_O_root 41 = .ok (.lor, 1) := by decide +kernel
theorem d_O_root_42 : decode b_O_root 42 = .ok (.iload_n 2, 1) := by decide +kernel
theorem d_O_root_43 : decode b_O_root 43 = .ok (.iload_n 1, 1) := by decide +kernel
theorem d_O_root_44 : decode b_O_root 44 = .ok (.invokevirtual 94, 3) := by decide +kernel
theorem d_O_root_47 : decode b_O_root 47 = .ok (.ifCond .ne 12, 3) := by decide +kernel
theorem d_O_root_50 : decode b_O_root 50 = .ok (.lload 4, 2) := by decide +kernel
theorem d_O_root_52 : decode b_O_root 52 = .ok (.lconst 1, 1) := by decide +kernel
theorem d_O_root_53 : decode b_O_root 53 = .ok (.iload 6, 2) := by decide +kernel
theorem d_O_root_55 : decode b_O_root 55 = .ok (.lshl, 1) := by decide +kernel
theorem d_O_root_56 : decode b_O_root 56 = .ok (.lor, 1) := by decide +kernel
theorem d_O_root_57 : decode b_O_root 57 = .ok (.lstore 4, 2) := by decide +kernel
theorem d_O_root_59 : decode b_O_root 59 = .ok (.iinc 6 (-1), 3) := by decide +kernel
theorem d_O_root_62 : decode b_O_root 62 = .ok (.goto (-34), 3) := by decide +kernel
theorem d_O_root_65 : decode b_O_root 65 = .ok (.lload 4, 2) := by decide +kernel
theorem d_O_root_67 : decode b_O_root 67 = .ok (.lreturn, 1) := by decide +kernel
theorem d_O_above_0 : decode b_O_above 0 = .ok (.iconst 0, 1) := by decide +kernel
theorem d_O_above_1 : decode b_O_above 1 = .ok (.istore 6, 2) := by decide +kernel
theorem d_O_above_3 : decode b_O_above 3 = .ok (.iload 6, 2) := by decide +kernel
theorem d_O_above_5 : decode b_O_above 5 = .ok (.bipush 16, 2) := by decide +kernel
theorem d_O_above_7 : decode b_O_above 7 = .ok (.if_icmp .ge 26, 3) := by decide +kernel
theorem d_O_above_10 : decode b_O_above 10 = .ok (.aload_n 0, 1) := by decide +kernel
theorem d_O_above_11 : decode b_O_above 11 = .ok (.getfield 38, 3) := by decide +kernel
theorem d_O_above_14 : decode b_O_above 14 = .ok (.iload 6, 2) := by decide +kernel
theorem d_O_above_16 : decode b_O_above 16 = .ok (.iload 6, 2) := by decide +kernel
theorem d_O_above_18 : decode b_O_above 18 = .ok (.ifCond .ne 7, 3) := by decide +kernel
theorem d_O_above_21 : decode b_O_above 21 = .ok (.lconst 1, 1) := by decide +kernel
theorem d_O_above_22 : decode b_O_above 22 = .ok (.goto 4, 3) := by decide +kernel
theorem d_O_above_25 : decode b_O_above 25 = .ok (.lconst 0, 1) := by decide +kernel
theorem d_O_above_26 : decode b_O_above 26 = .ok (.lastore, 1) := by decide +kernel
theorem d_O_above_27 : decode b_O_above 27 = .ok (.iinc 6 1, 3) := by decide +kernel
theorem d_O_above_30 : decode b_O_above 30 = .ok (.goto (-27), 3) := by decide +kernel
theorem d_O_above_33 : decode b_O_above 33 = .ok (.iconst 0, 1) := by decide +kernel
theorem d_O_above_34 : decode b_O_above 34 = .ok (.istore 6, 2) := by decide +kernel
theorem d_O_above_36 : decode b_O_above 36 = .ok (.iload 6, 2) := by decide +kernel
theorem d_O_above_38 : decode b_O_above 38 = .ok (.iload 4, 2) := by decide +kernel
theorem d_O_above_40 : decode b_O_above 40 = .ok (.if_icmp .ge 168, 3) := by decide +kernel
theorem d_O_above_43 : decode b_O_above 43 = .ok (.iconst 0, 1) := by decide +kernel
theorem d_O_above_44 : decode b_O_above 44 = .ok (.istore 7, 2) := by decide +kernel
theorem d_O_above_46 : decode b_O_above 46 = .ok (.iload 7, 2) := by decide +kernel
theorem d_O_above_48 : decode b_O_above 48 = .ok (.bipush 16, 2) := by decide +kernel
theorem d_O_above_50 : decode b_O_above 50 = .ok (.if_icmp .ge 17, 3) := by decide +kernel
theorem d_O_above_53 : decode b_O_above 53 = .ok (.aload_n 0, 1) := by decide +kernel
theorem d_O_above_54 : decode b_O_above 54 = .ok (.getfield 35, 3) := by decide +kernel
theorem d_O_above_57 : decode b_O_above 57 = .ok (.iload 7, 2) := by decide +kernel
theorem d_O_above_59 : decode b_O_above 59 = .ok (.lconst 0, 1) := by decide +kernel
theorem d_O_above_60 : decode b_O_above 60 = .ok (.lastore, 1) := by decide +kernel
theorem d_O_above_61 : decode b_O_above 61 = .ok (.iinc 7 1, 3) := by decide +kernel
theorem d_O_above_64 : decode b_O_above 64 = .ok (.goto (-18), 3) := by decide +kernel
theorem d_O_above_67 : decode b_O_above 67 = .ok (.iconst 0, 1) := by decide +kernel
theorem d_O_above_68 : decode b_O_above 68 = .ok (.istore 7, 2) := by decide +kernel
theorem d_O_above_70 : decode b_O_above 70 = .ok (.iload 7, 2) := by decide +kernel
theorem d_O_above_72 : decode b_O_above 72 = .ok (.bipush 16, 2) := by decide +kernel
theorem d_O_above_74 : decode b_O_above 74 = .ok (.if_icmp .ge 77, 3) := by decide +kernel
theorem d_O_above_77 : decode b_O_above 77 = .ok (.iconst 0, 1) := by decide +kernel
theorem d_O_above_78 : decode b_O_above 78 = .ok (.istore 8, 2) := by decide +kernel
theorem d_O_above_80 : decode b_O_above 80 = .ok (.iload 8, 2) := by decide +kernel
theorem d_O_above_82 : decode b_O_above 82 = .ok (.iconst 5, 1) := by decide +kernel
theorem d_O_above_83 : decode b_O_above 83 = .ok (.if_icmp .ge 62, 3) := by decide +kernel
theorem d_O_above_86 : decode b_O_above 86 = .ok (.iload 7, 2) := by decide +kernel
theorem d_O_above_88 : decode b_O_above 88 = .ok (.iload 8, 2) := by decide +kernel
theorem d_O_above_90 : decode b_O_above 90 = .ok (.iadd, 1) := by decide +kernel
theorem d_O_above_91 : decode b_O_above 91 = .ok (.bipush 16, 2) := by decide +kernel
theorem d_O_above_93 : decode b_O_above 93 = .ok (.if_icmp .ge 52, 3) := by decide +kernel
theorem d_O_above_96 : decode b_O_above 96 = .ok (.aload_n 0, 1) := by decide +kernel
theorem d_O_above_97 : decode b_O_above 97 = .ok (.getfield 35, 3) := by decide +kernel
theorem d_O_above_100 : decode b_O_above 100 = .ok (.iload 7, 2) := by decide +kernel
theorem d_O_above_102 : decode b_O_above 102 = .ok (.iload 8, 2) := by decide +kernel
theorem d_O_above_104 : decode b_O_above 104 = .ok (.iadd, 1) := by decide +kernel
theorem d_O_above_105 : decode b_O_above 105 = .ok (.dup2, 1) := by decide +kernel
theorem d_O_above_106 : decode b_O_above 106 = .ok (.laload, 1) := by decide +kernel
theorem d_O_above_107 : decode b_O_above 107 = .ok (.aload_n 0, 1) := by decide +kernel
theorem d_O_above_108 : decode b_O_above 108 = .ok (.getfield 38, 3) := by decide +kernel
theorem d_O_above_111 : decode b_O_above 111 = .ok (.iload 7, 2) := by decide +kernel
theorem d_O_above_113 : decode b_O_above 113 = .ok (.laload, 1) := by decide +kernel
theorem d_O_above_114 : decode b_O_above 114 = .ok (.iload 8, 2) := by decide +kernel
theorem d_O_above_116 : decode b_O_above 116 = .ok (.iconst 4, 1) := by decide +kernel
theorem d_O_above_117 : decode b_O_above 117 = .ok (.if_icmp .ge 17, 3) := by decide +kernel
theorem d_O_above_120 : decode b_O_above 120 = .ok (.lload_n 2, 1) := by decide +kernel
theorem d_O_above_121 : decode b_O_above 121 = .ok (.bipush 16, 2) := by decide +kernel
theorem d_O_above_123 : decode b_O_above 123 = .ok (.iload 8, 2) := by decide +kernel
theorem d_O_above_125 : decode b_O_above 125 = .ok (.imul, 1) := by decide +kernel
theorem d_O_above_126 : decode b_O_above 126 = .ok (.lushr, 1) := by decide +kernel
theorem d_O_above_127 : decode b_O_above 127 = .ok (.ldc2_w 92, 3) := by decide +kernel
theorem d_O_above_130 : decode b_O_above 130 = .ok (.land, 1) := by decide +kernel
theorem d_O_above_131 : decode b_O_above 131 = .ok (.goto 5, 3) := by decide +kernel
theorem d_O_above_134 : decode b_O_above 134 = .ok (.iload_n 1, 1) := by decide +kernel
theorem d_O_above_135 : decode b_O_above 135 = .ok (.i2l, 1) := by decide +kernel
theorem d_O_above_136 : decode b_O_above 136 = .ok (.lmul, 1) := by decide +kernel
theorem d_O_above_137 : decode b_O_above 137 = .ok (.ladd, 1) := by decide +kernel
theorem d_O_above_138 : decode b_O_above 138 = .ok (.lastore, 1) := by decide +kernel
theorem d_O_above_139 : decode b_O_above 139 = .ok (.iinc 8 1, 3) := by decide +kernel
theorem d_O_above_142 : decode b_O_above 142 = .ok (.goto (-62), 3) := by decide +kernel
theorem d_O_above_145 : decode b_O_above 145 = .ok (.iinc 7 1, 3) := by decide +kernel
theorem d_O_above_148 : decode b_O_above 148 = .ok (.goto (-78), 3) := by decide +kernel
theorem d_O_above_151 : decode b_O_above 151 = .ok (.lconst 0, 1) := by decide +kernel
theorem d_O_above_152 : decode b_O_above 152 = .ok (.lstore 7, 2) := by decide +kernel
theorem d_O_above_154 : decode b_O_above 154 = .ok (.iconst 0, 1) := by decide +kernel
theorem d_O_above_155 : decode b_O_above 155 = .ok (.istore 9, 2) := by decide +kernel
theorem d_O_above_157 : decode b_O_above 157 = .ok (.iload 9, 2) := by decide +kernel
theorem d_O_above_159 : decode b_O_above 159 = .ok (.bipush 16, 2) := by decide +kernel
theorem d_O_above_161 : decode b_O_above 161 = .ok (.if_icmp .ge 41, 3) := by decide +kernel
theorem d_O_above_164 : decode b_O_above 164 = .ok (.lload 7, 2) := by decide +kernel
theorem d_O_above_166 : decode b_O_above 166 = .ok (.aload_n 0, 1) := by decide +kernel
theorem d_O_above_167 : decode b_O_above 167 = .ok (.getfield 35, 3) := by decide +kernel
theorem d_O_above_170 : decode b_O_above 170 = .ok (.iload 9, 2) := by decide +kernel
theorem d_O_above_172 : decode b_O_above 172 = .ok (.laload, 1) := by decide +kernel
theorem d_O_above_173 : decode b_O_above 173 = .ok (.ladd, 1) := by decide +kernel
theorem d_O_above_174 : decode b_O_above 174 = .ok (.lstore 7, 2) := by decide +kernel
theorem d_O_above_176 : decode b_O_above 176 = .ok (.aload_n 0, 1) := by decide +kernel
theorem d_O_above_177 : decode b_O_above 177 = .ok (.getfield 38, 3) := by decide +kernel
theorem d_O_above_180 : decode b_O_above 180 = .ok (.iload 9, 2) := by decide +kernel
theorem d_O_above_182 : decode b_O_above 182 = .ok (.lload 7, 2) := by decide +kernel
theorem d_O_above_184 : decode b_O_above 184 = .ok (.ldc2_w 92, 3) := by decide +kernel
theorem d_O_above_187 : decode b_O_above 187 = .ok (.land, 1) := by decide +kernel
theorem d_O_above_188 : decode b_O_above 188 = .ok (.lastore, 1) := by decide +kernel
theorem d_O_above_189 : decode b_O_above 189 = .ok (.lload 7, 2) := by decide +kernel
theorem d_O_above_191 : decode b_O_above 191 = .ok (.bipush 16, 2) := by decide +kernel
theorem d_O_above_193 : decode b_O_above 193 = .ok (.lushr, 1) := by decide +kernel
theorem d_O_above_194 : decode b_O_above 194 = .ok (.lstore 7, 2) := by decide +kernel
theorem d_O_above_196 : decode b_O_above 196 = .ok (.iinc 9 1, 3) := by decide +kernel
theorem d_O_above_199 : decode b_O_above 199 = .ok (.goto (-42), 3) := by decide +kernel
theorem d_O_above_202 : decode b_O_above 202 = .ok (.iinc 6 1, 3) := by decide +kernel
theorem d_O_above_205 : decode b_O_above 205 = .ok (.goto (-169), 3) := by decide +kernel
theorem d_O_above_208 : decode b_O_above 208 = .ok (.aload_n 0, 1) := by decide +kernel
theorem d_O_above_209 : decode b_O_above 209 = .ok (.getfield 38, 3) := by decide +kernel
theorem d_O_above_212 : decode b_O_above 212 = .ok (.iconst 4, 1) := by decide +kernel
theorem d_O_above_213 : decode b_O_above 213 = .ok (.iload 4, 2) := by decide +kernel
theorem d_O_above_215 : decode b_O_above 215 = .ok (.imul, 1) := by decide +kernel
theorem d_O_above_216 : decode b_O_above 216 = .ok (.laload, 1) := by decide +kernel
theorem d_O_above_217 : decode b_O_above 217 = .ok (.aload_n 0, 1) := by decide +kernel
theorem d_O_above_218 : decode b_O_above 218 = .ok (.getfield 38, 3) := by decide +kernel
theorem d_O_above_221 : decode b_O_above 221 = .ok (.iconst 4, 1) := by decide +kernel
theorem d_O_above_222 : decode b_O_above 222 = .ok (.iload 4, 2) := by decide +kernel
theorem d_O_above_224 : decode b_O_above 224 = .ok (.imul, 1) := by decide +kernel
theorem d_O_above_225 : decode b_O_above 225 = .ok (.iconst 1, 1) := by decide +kernel
theorem d_O_above_226 : decode b_O_above 226 = .ok (.iadd, 1) := by decide +kernel
theorem d_O_above_227 : decode b_O_above 227 = .ok (.laload, 1) := by decide +kernel
theorem d_O_above_228 : decode b_O_above 228 = .ok (.bipush 16, 2) := by decide +kernel
theorem d_O_above_230 : decode b_O_above 230 = .ok (.lshl, 1) := by decide +kernel
theorem d_O_above_231 : decode b_O_above 231 = .ok (.ladd, 1) := by decide +kernel
theorem d_O_above_232 : decode b_O_above 232 = .ok (.lstore 6, 2) := by decide +kernel
theorem d_O_above_234 : decode b_O_above 234 = .ok (.iconst 0, 1) := by decide +kernel
theorem d_O_above_235 : decode b_O_above 235 = .ok (.istore 8, 2) := by decide +kernel
theorem d_O_above_237 : decode b_O_above 237 = .ok (.iconst 0, 1) := by decide +kernel
theorem d_O_above_238 : decode b_O_above 238 = .ok (.istore 9, 2) := by decide +kernel
theorem d_O_above_240 : decode b_O_above 240 = .ok (.iload 9, 2) := by decide +kernel
theorem d_O_above_242 : decode b_O_above 242 = .ok (.iconst 4, 1) := by decide +kernel
theorem d_O_above_243 : decode b_O_above 243 = .ok (.iload 4, 2) := by decide +kernel
theorem d_O_above_245 : decode b_O_above 245 = .ok (.imul, 1) := by decide +kernel
theorem d_O_above_246 : decode b_O_above 246 = .ok (.if_icmp .ge 24, 3) := by decide +kernel
theorem d_O_above_249 : decode b_O_above 249 = .ok (.aload_n 0, 1) := by decide +kernel
theorem d_O_above_250 : decode b_O_above 250 = .ok (.getfield 38, 3) := by decide +kernel
theorem d_O_above_253 : decode b_O_above 253 = .ok (.iload 9, 2) := by decide +kernel
theorem d_O_above_255 : decode b_O_above 255 = .ok (.laload, 1) := by decide +kernel
theorem d_O_above_256 : decode b_O_above 256 = .ok (.lconst 0, 1) := by decide +kernel
theorem d_O_above_257 : decode b_O_above 257 = .ok (.lcmp, 1) := by decide +kernel
theorem d_O_above_258 : decode b_O_above 258 = .ok (.ifCond .eq 6, 3) := by decide +kernel
theorem d_O_above_261 : decode b_O_above 261 = .ok (.iconst 1, 1) := by decide +kernel
theorem d_O_above_262 : decode b_O_above 262 = .ok (.istore 8, 2) := by decide +kernel
theorem d_O_above_264 : decode b_O_above 264 = .ok (.iinc 9 1, 3) := by decide +kernel
theorem d_O_above_267 : decode b_O_above 267 = .ok (.goto (-27), 3) := by decide +kernel
theorem d_O_above_270 : decode b_O_above 270 = .ok (.lload 6, 2) := by decide +kernel
theorem d_O_above_272 : decode b_O_above 272 = .ok (.iload 5, 2) := by decide +kernel
theorem d_O_above_274 : decode b_O_above 274 = .ok (.i2l, 1) := by decide +kernel
theorem d_O_above_275 : decode b_O_above 275 = .ok (.lcmp, 1) := by decide +kernel
theorem d_O_above_276 : decode b_O_above 276 = .ok (.ifCond .gt 17, 3) := by decide +kernel
theorem d_O_above_279 : decode b_O_above 279 = .ok (.lload 6, 2) := by decide +kernel
theorem d_O_above_281 : decode b_O_above 281 = .ok (.iload 5, 2) := by decide +kernel
theorem d_O_above_283 : decode b_O_above 283 = .ok (.i2l, 1) := by decide +kernel
theorem d_O_above_284 : decode b_O_above 284 = .ok (.lcmp, 1) := by decide +kernel
theorem d_O_above_285 : decode b_O_above 285 = .ok (.ifCond .ne 12, 3) := by decide +kernel
theorem d_O_above_288 : decode b_O_above 288 = .ok (.iload 8, 2) := by decide +kernel
theorem d_O_above_290 : decode b_O_above 290 = .ok (.ifCond .eq 7, 3) := by decide +kernel
theorem d_O_above_293 : decode b_O_above 293 = .ok (.iconst 1, 1) := by decide +kernel
theorem d_O_above_294 : decode b_O_above 294 = .ok (.goto 4, 3) := by decide +kernel
theorem d_O_above_297 : decode b_O_above 297 = .ok (.iconst 0, 1) := by decide +kernel
theorem d_O_above_298 : decode b_O_above 298 = .ok (.ireturn, 1) := by decide +kernel
theorem d_O_bit_0 : decode b_O_bit 0 = .ok (.iconst 1, 1) := by decide +kernel
theorem d_O_bit_1 : decode b_O_bit 1 = .ok (.istore_n 1, 1) := by decide +kernel
theorem d_O_bit_2 : decode b_O_bit 2 = .ok (.iconst 0, 1) := by decide +kernel
theorem d_O_bit_3 : decode b_O_bit 3 = .ok (.istore_n 2, 1) := by decide +kernel
theorem d_O_bit_4 : decode b_O_bit 4 = .ok (.iload_n 2, 1) := by decide +kernel
theorem d_O_bit_5 : decode b_O_bit 5 = .ok (.iload_n 0, 1) := by decide +kernel
theorem d_O_bit_6 : decode b_O_bit 6 = .ok (.sipush 255, 3) := by decide +kernel
theorem d_O_bit_9 : decode b_O_bit 9 = .ok (.irem, 1) := by decide +kernel
theorem d_O_bit_10 : decode b_O_bit 10 = .ok (.if_icmp .ge 33, 3) := by decide +kernel
theorem d_O_bit_13 : decode b_O_bit 13 = .ok (.iload_n 1, 1) := by decide +kernel
theorem d_O_bit_14 : decode b_O_bit 14 = .ok (.sipush 128, 3) := by decide +kernel
theorem d_O_bit_17 : decode b_O_bit 17 = .ok (.if_icmp .ge 9, 3) := by decide +kernel
theorem d_O_bit_20 : decode b_O_bit 20 = .ok (.iconst 2, 1) := by decide +kernel
theorem d_O_bit_21 : decode b_O_bit 21 = .ok (.iload_n 1, 1) := by decide +kernel
theorem d_O_bit_22 : decode b_O_bit 22 = .ok (.imul, 1) := by decide +kernel
theorem d_O_bit_23 : decode b_O_bit 23 = .ok (.goto 13, 3) := by decide +kernel
theorem d_O_bit_26 : decode b_O_bit 26 = .ok (.iconst 2, 1) := by decide +kernel
theorem d_O_bit_27 : decode b_O_bit 27 = .ok (.iload_n 1, 1) := by decide +kernel
theorem d_O_bit_28 : decode b_O_bit 28 = .ok (.imul, 1) := by decide +kernel
theorem d_O_bit_29 : decode b_O_bit 29 = .ok (.sipush 255, 3) := by decide +kernel
theorem d_O_bit_32 : decode b_O_bit 32 = .ok (.iand, 1) := by decide +kernel
theorem d_O_bit_33 : decode b_O_bit 33 = .ok (.bipush 113, 2) := by decide +kernel
theorem d_O_bit_35 : decode b_O_bit 35 = .ok (.ixor, 1) := by decide +kernel
theorem d_O_bit_36 : decode b_O_bit 36 = .ok (.istore_n 1, 1) := by decide +kernel
theorem d_O_bit_37 : decode b_O_bit 37 = .ok (.iinc 2 1, 3) := by decide +kernel
theorem d_O_bit_40 : decode b_O_bit 40 = .ok (.goto (-36), 3) := by decide +kernel
theorem d_O_bit_43 : decode b_O_bit 43 = .ok (.iload_n 1, 1) := by decide +kernel
theorem d_O_bit_44 : decode b_O_bit 44 = .ok (.iconst 1, 1) := by decide +kernel
theorem d_O_bit_45 : decode b_O_bit 45 = .ok (.iand, 1) := by decide +kernel
theorem d_O_bit_46 : decode b_O_bit 46 = .ok (.ireturn, 1) := by decide +kernel
theorem d_O_named_0 : decode b_O_named 0 = .ok (.aload_n 0, 1) := by decide +kernel
theorem d_O_named_1 : decode b_O_named 1 = .ok (.iconst 3, 1) := by decide +kernel
theorem d_O_named_2 : decode b_O_named 2 = .ok (.invokevirtual 114, 3) := by decide +kernel
theorem d_O_named_5 : decode b_O_named 5 = .ok (.iconst 0, 1) := by decide +kernel
theorem d_O_named_6 : decode b_O_named 6 = .ok (.istore 4, 2) := by decide +kernel
theorem d_O_named_8 : decode b_O_named 8 = .ok (.iload 4, 2) := by decide +kernel
theorem d_O_named_10 : decode b_O_named 10 = .ok (.bipush 8, 2) := by decide +kernel
theorem d_O_named_12 : decode b_O_named 12 = .ok (.if_icmp .ge 22, 3) := by decide +kernel
theorem d_O_named_15 : decode b_O_named 15 = .ok (.aload_n 0, 1) := by decide +kernel
theorem d_O_named_16 : decode b_O_named 16 = .ok (.getfield 47, 3) := by decide +kernel
theorem d_O_named_19 : decode b_O_named 19 = .ok (.iload 4, 2) := by decide +kernel
theorem d_O_named_21 : decode b_O_named 21 = .ok (.dup2, 1) := by decide +kernel
theorem d_O_named_22 : decode b_O_named 22 = .ok (.laload, 1) := by decide +kernel
theorem d_O_named_23 : decode b_O_named 23 = .ok (.ldc2_w 117, 3) := by decide +kernel
theorem d_O_named_26 : decode b_O_named 26 = .ok (.lxor, 1) := by decide +kernel
theorem d_O_named_27 : decode b_O_named 27 = .ok (.lastore, 1) := by decide +kernel
end
section
theorem d_O_named_28 : decode b_O_named 28 = .ok (.iinc 4 1, 3) := by decide +kernel
theorem d_O_named_31 : decode b_O_named 31 = .ok (.goto (-23), 3) := by decide +kernel
theorem d_O_named_34 : decode b_O_named 34 = .ok (.aload_n 0, 1) := by decide +kernel
theorem d_O_named_35 : decode b_O_named 35 = .ok (.bipush 83, 2) := by decide +kernel
theorem d_O_named_37 : decode b_O_named 37 = .ok (.invokevirtual 119, 3) := by decide +kernel
theorem d_O_named_40 : decode b_O_named 40 = .ok (.aload_n 0, 1) := by decide +kernel
theorem d_O_named_41 : decode b_O_named 41 = .ok (.bipush 72, 2) := by decide +kernel
theorem d_O_named_43 : decode b_O_named 43 = .ok (.invokevirtual 119, 3) := by decide +kernel
theorem d_O_named_46 : decode b_O_named 46 = .ok (.aload_n 0, 1) := by decide +kernel
theorem d_O_named_47 : decode b_O_named 47 = .ok (.bipush 65, 2) := by decide +kernel
theorem d_O_named_49 : decode b_O_named 49 = .ok (.invokevirtual 119, 3) := by decide +kernel
theorem d_O_named_52 : decode b_O_named 52 = .ok (.aload_n 0, 1) := by decide +kernel
theorem d_O_named_53 : decode b_O_named 53 = .ok (.bipush 45, 2) := by decide +kernel
theorem d_O_named_55 : decode b_O_named 55 = .ok (.invokevirtual 119, 3) := by decide +kernel
theorem d_O_named_58 : decode b_O_named 58 = .ok (.aload_n 0, 1) := by decide +kernel
theorem d_O_named_59 : decode b_O_named 59 = .ok (.bipush 53, 2) := by decide +kernel
theorem d_O_named_61 : decode b_O_named 61 = .ok (.invokevirtual 119, 3) := by decide +kernel
theorem d_O_named_64 : decode b_O_named 64 = .ok (.aload_n 0, 1) := by decide +kernel
theorem d_O_named_65 : decode b_O_named 65 = .ok (.bipush 49, 2) := by decide +kernel
theorem d_O_named_67 : decode b_O_named 67 = .ok (.invokevirtual 119, 3) := by decide +kernel
theorem d_O_named_70 : decode b_O_named 70 = .ok (.aload_n 0, 1) := by decide +kernel
theorem d_O_named_71 : decode b_O_named 71 = .ok (.bipush 50, 2) := by decide +kernel
theorem d_O_named_73 : decode b_O_named 73 = .ok (.invokevirtual 119, 3) := by decide +kernel
theorem d_O_named_76 : decode b_O_named 76 = .ok (.aload_n 0, 1) := by decide +kernel
theorem d_O_named_77 : decode b_O_named 77 = .ok (.bipush 47, 2) := by decide +kernel
theorem d_O_named_79 : decode b_O_named 79 = .ok (.invokevirtual 119, 3) := by decide +kernel
theorem d_O_named_82 : decode b_O_named 82 = .ok (.aload_n 0, 1) := by decide +kernel
theorem d_O_named_83 : decode b_O_named 83 = .ok (.bipush 50, 2) := by decide +kernel
theorem d_O_named_85 : decode b_O_named 85 = .ok (.invokevirtual 119, 3) := by decide +kernel
theorem d_O_named_88 : decode b_O_named 88 = .ok (.aload_n 0, 1) := by decide +kernel
theorem d_O_named_89 : decode b_O_named 89 = .ok (.iload_n 2, 1) := by decide +kernel
theorem d_O_named_90 : decode b_O_named 90 = .ok (.invokevirtual 119, 3) := by decide +kernel
theorem d_O_named_93 : decode b_O_named 93 = .ok (.aload_n 0, 1) := by decide +kernel
theorem d_O_named_94 : decode b_O_named 94 = .ok (.iload_n 3, 1) := by decide +kernel
theorem d_O_named_95 : decode b_O_named 95 = .ok (.invokevirtual 119, 3) := by decide +kernel
theorem d_O_named_98 : decode b_O_named 98 = .ok (.aload_n 0, 1) := by decide +kernel
theorem d_O_named_99 : decode b_O_named 99 = .ok (.invokevirtual 122, 3) := by decide +kernel
theorem d_O_named_102 : decode b_O_named 102 = .ok (.iconst 0, 1) := by decide +kernel
theorem d_O_named_103 : decode b_O_named 103 = .ok (.istore 4, 2) := by decide +kernel
theorem d_O_named_105 : decode b_O_named 105 = .ok (.iload 4, 2) := by decide +kernel
theorem d_O_named_107 : decode b_O_named 107 = .ok (.bipush 8, 2) := by decide +kernel
theorem d_O_named_109 : decode b_O_named 109 = .ok (.if_icmp .ge 20, 3) := by decide +kernel
theorem d_O_named_112 : decode b_O_named 112 = .ok (.aload_n 1, 1) := by decide +kernel
theorem d_O_named_113 : decode b_O_named 113 = .ok (.iload 4, 2) := by decide +kernel
theorem d_O_named_115 : decode b_O_named 115 = .ok (.aload_n 0, 1) := by decide +kernel
theorem d_O_named_116 : decode b_O_named 116 = .ok (.getfield 47, 3) := by decide +kernel
theorem d_O_named_119 : decode b_O_named 119 = .ok (.iload 4, 2) := by decide +kernel
theorem d_O_named_121 : decode b_O_named 121 = .ok (.laload, 1) := by decide +kernel
theorem d_O_named_122 : decode b_O_named 122 = .ok (.lastore, 1) := by decide +kernel
theorem d_O_named_123 : decode b_O_named 123 = .ok (.iinc 4 1, 3) := by decide +kernel
theorem d_O_named_126 : decode b_O_named 126 = .ok (.goto (-21), 3) := by decide +kernel
theorem d_O_named_129 : decode b_O_named 129 = .ok (.return_, 1) := by decide +kernel
theorem d_O_begin_0 : decode b_O_begin 0 = .ok (.aload_n 0, 1) := by decide +kernel
theorem d_O_begin_1 : decode b_O_begin 1 = .ok (.iload_n 1, 1) := by decide +kernel
theorem d_O_begin_2 : decode b_O_begin 2 = .ok (.putfield 125, 3) := by decide +kernel
theorem d_O_begin_5 : decode b_O_begin 5 = .ok (.aload_n 0, 1) := by decide +kernel
theorem d_O_begin_6 : decode b_O_begin 6 = .ok (.iconst 0, 1) := by decide +kernel
theorem d_O_begin_7 : decode b_O_begin 7 = .ok (.putfield 128, 3) := by decide +kernel
theorem d_O_begin_10 : decode b_O_begin 10 = .ok (.aload_n 0, 1) := by decide +kernel
theorem d_O_begin_11 : decode b_O_begin 11 = .ok (.lconst 0, 1) := by decide +kernel
theorem d_O_begin_12 : decode b_O_begin 12 = .ok (.putfield 131, 3) := by decide +kernel
theorem d_O_begin_15 : decode b_O_begin 15 = .ok (.iconst 0, 1) := by decide +kernel
theorem d_O_begin_16 : decode b_O_begin 16 = .ok (.istore_n 2, 1) := by decide +kernel
theorem d_O_begin_17 : decode b_O_begin 17 = .ok (.iload_n 2, 1) := by decide +kernel
theorem d_O_begin_18 : decode b_O_begin 18 = .ok (.bipush 25, 2) := by decide +kernel
theorem d_O_begin_20 : decode b_O_begin 20 = .ok (.if_icmp .ge 16, 3) := by decide +kernel
theorem d_O_begin_23 : decode b_O_begin 23 = .ok (.aload_n 0, 1) := by decide +kernel
theorem d_O_begin_24 : decode b_O_begin 24 = .ok (.getfield 47, 3) := by decide +kernel
theorem d_O_begin_27 : decode b_O_begin 27 = .ok (.iload_n 2, 1) := by decide +kernel
theorem d_O_begin_28 : decode b_O_begin 28 = .ok (.lconst 0, 1) := by decide +kernel
theorem d_O_begin_29 : decode b_O_begin 29 = .ok (.lastore, 1) := by decide +kernel
theorem d_O_begin_30 : decode b_O_begin 30 = .ok (.iinc 2 1, 3) := by decide +kernel
theorem d_O_begin_33 : decode b_O_begin 33 = .ok (.goto (-16), 3) := by decide +kernel
theorem d_O_begin_36 : decode b_O_begin 36 = .ok (.aload_n 0, 1) := by decide +kernel
theorem d_O_begin_37 : decode b_O_begin 37 = .ok (.iload_n 1, 1) := by decide +kernel
theorem d_O_begin_38 : decode b_O_begin 38 = .ok (.bipush 11, 2) := by decide +kernel
theorem d_O_begin_40 : decode b_O_begin 40 = .ok (.if_icmp .ne 9, 3) := by decide +kernel
theorem d_O_begin_43 : decode b_O_begin 43 = .ok (.sipush 168, 3) := by decide +kernel
theorem d_O_begin_46 : decode b_O_begin 46 = .ok (.goto 38, 3) := by decide +kernel
theorem d_O_begin_49 : decode b_O_begin 49 = .ok (.iload_n 1, 1) := by decide +kernel
theorem d_O_begin_50 : decode b_O_begin 50 = .ok (.bipush 12, 2) := by decide +kernel
theorem d_O_begin_52 : decode b_O_begin 52 = .ok (.if_icmp .ne 9, 3) := by decide +kernel
theorem d_O_begin_55 : decode b_O_begin 55 = .ok (.sipush 136, 3) := by decide +kernel
theorem d_O_begin_58 : decode b_O_begin 58 = .ok (.goto 26, 3) := by decide +kernel
theorem d_O_begin_61 : decode b_O_begin 61 = .ok (.iload_n 1, 1) := by decide +kernel
theorem d_O_begin_62 : decode b_O_begin 62 = .ok (.bipush 6, 2) := by decide +kernel
theorem d_O_begin_64 : decode b_O_begin 64 = .ok (.if_icmp .le 16, 3) := by decide +kernel
theorem d_O_begin_67 : decode b_O_begin 67 = .ok (.sipush 200, 3) := by decide +kernel
theorem d_O_begin_70 : decode b_O_begin 70 = .ok (.iconst 2, 1) := by decide +kernel
theorem d_O_begin_71 : decode b_O_begin 71 = .ok (.iload_n 1, 1) := by decide +kernel
theorem d_O_begin_72 : decode b_O_begin 72 = .ok (.invokestatic 135, 3) := by decide +kernel
theorem d_O_begin_75 : decode b_O_begin 75 = .ok (.imul, 1) := by decide +kernel
theorem d_O_begin_76 : decode b_O_begin 76 = .ok (.isub, 1) := by decide +kernel
theorem d_O_begin_77 : decode b_O_begin 77 = .ok (.goto 7, 3) := by decide +kernel
theorem d_O_begin_80 : decode b_O_begin 80 = .ok (.iload_n 1, 1) := by decide +kernel
theorem d_O_begin_81 : decode b_O_begin 81 = .ok (.invokestatic 138, 3) := by decide +kernel
theorem d_O_begin_84 : decode b_O_begin 84 = .ok (.putfield 141, 3) := by decide +kernel
theorem d_O_begin_87 : decode b_O_begin 87 = .ok (.iconst 0, 1) := by decide +kernel
theorem d_O_begin_88 : decode b_O_begin 88 = .ok (.istore_n 2, 1) := by decide +kernel
theorem d_O_begin_89 : decode b_O_begin 89 = .ok (.iload_n 2, 1) := by decide +kernel
theorem d_O_begin_90 : decode b_O_begin 90 = .ok (.bipush 8, 2) := by decide +kernel
theorem d_O_begin_92 : decode b_O_begin 92 = .ok (.if_icmp .ge 111, 3) := by decide +kernel
theorem d_O_begin_95 : decode b_O_begin 95 = .ok (.iload_n 1, 1) := by decide +kernel
theorem d_O_begin_96 : decode b_O_begin 96 = .ok (.bipush 7, 2) := by decide +kernel
theorem d_O_begin_98 : decode b_O_begin 98 = .ok (.if_icmp .ge 105, 3) := by decide +kernel
theorem d_O_begin_101 : decode b_O_begin 101 = .ok (.aload_n 0, 1) := by decide +kernel
theorem d_O_begin_102 : decode b_O_begin 102 = .ok (.getfield 47, 3) := by decide +kernel
theorem d_O_begin_105 : decode b_O_begin 105 = .ok (.iload_n 2, 1) := by decide +kernel
theorem d_O_begin_106 : decode b_O_begin 106 = .ok (.iload_n 1, 1) := by decide +kernel
theorem d_O_begin_107 : decode b_O_begin 107 = .ok (.iconst 1, 1) := by decide +kernel
theorem d_O_begin_108 : decode b_O_begin 108 = .ok (.if_icmp .ne 15, 3) := by decide +kernel
theorem d_O_begin_111 : decode b_O_begin 111 = .ok (.aload_n 0, 1) := by decide +kernel
theorem d_O_begin_112 : decode b_O_begin 112 = .ok (.getfield 22, 3) := by decide +kernel
theorem d_O_begin_115 : decode b_O_begin 115 = .ok (.iload_n 2, 1) := by decide +kernel
theorem d_O_begin_116 : decode b_O_begin 116 = .ok (.laload, 1) := by decide +kernel
theorem d_O_begin_117 : decode b_O_begin 117 = .ok (.bipush 32, 2) := by decide +kernel
theorem d_O_begin_119 : decode b_O_begin 119 = .ok (.lushr, 1) := by decide +kernel
theorem d_O_begin_120 : decode b_O_begin 120 = .ok (.goto 76, 3) := by decide +kernel
theorem d_O_begin_123 : decode b_O_begin 123 = .ok (.iload_n 1, 1) := by decide +kernel
theorem d_O_begin_124 : decode b_O_begin 124 = .ok (.iconst 4, 1) := by decide +kernel
theorem d_O_begin_125 : decode b_O_begin 125 = .ok (.if_icmp .ne 19, 3) := by decide +kernel
theorem d_O_begin_128 : decode b_O_begin 128 = .ok (.aload_n 0, 1) := by decide +kernel
theorem d_O_begin_129 : decode b_O_begin 129 = .ok (.getfield 22, 3) := by decide +kernel
theorem d_O_begin_132 : decode b_O_begin 132 = .ok (.bipush 8, 2) := by decide +kernel
theorem d_O_begin_134 : decode b_O_begin 134 = .ok (.iload_n 2, 1) := by decide +kernel
theorem d_O_begin_135 : decode b_O_begin 135 = .ok (.iadd, 1) := by decide +kernel
theorem d_O_begin_136 : decode b_O_begin 136 = .ok (.laload, 1) := by decide +kernel
theorem d_O_begin_137 : decode b_O_begin 137 = .ok (.ldc2_w 144, 3) := by decide +kernel
theorem d_O_begin_140 : decode b_O_begin 140 = .ok (.land, 1) := by decide +kernel
theorem d_O_begin_141 : decode b_O_begin 141 = .ok (.goto 55, 3) := by decide +kernel
theorem d_O_begin_144 : decode b_O_begin 144 = .ok (.iload_n 1, 1) := by decide +kernel
theorem d_O_begin_145 : decode b_O_begin 145 = .ok (.iconst 2, 1) := by decide +kernel
theorem d_O_begin_146 : decode b_O_begin 146 = .ok (.if_icmp .ne 15, 3) := by decide +kernel
theorem d_O_begin_149 : decode b_O_begin 149 = .ok (.aload_n 0, 1) := by decide +kernel
theorem d_O_begin_150 : decode b_O_begin 150 = .ok (.getfield 22, 3) := by decide +kernel
theorem d_O_begin_153 : decode b_O_begin 153 = .ok (.bipush 8, 2) := by decide +kernel
theorem d_O_begin_155 : decode b_O_begin 155 = .ok (.iload_n 2, 1) := by decide +kernel
theorem d_O_begin_156 : decode b_O_begin 156 = .ok (.iadd, 1) := by decide +kernel
theorem d_O_begin_157 : decode b_O_begin 157 = .ok (.laload, 1) := by decide +kernel
theorem d_O_begin_158 : decode b_O_begin 158 = .ok (.goto 38, 3) := by decide +kernel
theorem d_O_begin_161 : decode b_O_begin 161 = .ok (.iload_n 1, 1) := by decide +kernel
theorem d_O_begin_162 : decode b_O_begin 162 = .ok (.iconst 5, 1) := by decide +kernel
theorem d_O_begin_163 : decode b_O_begin 163 = .ok (.if_icmp .ne 12, 3) := by decide +kernel
theorem d_O_begin_166 : decode b_O_begin 166 = .ok (.aload_n 0, 1) := by decide +kernel
theorem d_O_begin_167 : decode b_O_begin 167 = .ok (.getfield 29, 3) := by decide +kernel
theorem d_O_begin_170 : decode b_O_begin 170 = .ok (.iload_n 2, 1) := by decide +kernel
theorem d_O_begin_171 : decode b_O_begin 171 = .ok (.laload, 1) := by decide +kernel
theorem d_O_begin_172 : decode b_O_begin 172 = .ok (.goto 24, 3) := by decide +kernel
theorem d_O_begin_175 : decode b_O_begin 175 = .ok (.iload_n 1, 1) := by decide +kernel
theorem d_O_begin_176 : decode b_O_begin 176 = .ok (.bipush 6, 2) := by decide +kernel
theorem d_O_begin_178 : decode b_O_begin 178 = .ok (.if_icmp .ne 12, 3) := by decide +kernel
theorem d_O_begin_181 : decode b_O_begin 181 = .ok (.aload_n 0, 1) := by decide +kernel
theorem d_O_begin_182 : decode b_O_begin 182 = .ok (.getfield 32, 3) := by decide +kernel
theorem d_O_begin_185 : decode b_O_begin 185 = .ok (.iload_n 2, 1) := by decide +kernel
theorem d_O_begin_186 : decode b_O_begin 186 = .ok (.laload, 1) := by decide +kernel
theorem d_O_begin_187 : decode b_O_begin 187 = .ok (.goto 9, 3) := by decide +kernel
theorem d_O_begin_190 : decode b_O_begin 190 = .ok (.aload_n 0, 1) := by decide +kernel
theorem d_O_begin_191 : decode b_O_begin 191 = .ok (.getfield 22, 3) := by decide +kernel
theorem d_O_begin_194 : decode b_O_begin 194 = .ok (.iload_n 2, 1) := by decide +kernel
theorem d_O_begin_195 : decode b_O_begin 195 = .ok (.laload, 1) := by decide +kernel
theorem d_O_begin_196 : decode b_O_begin 196 = .ok (.lastore, 1) := by decide +kernel
theorem d_O_begin_197 : decode b_O_begin 197 = .ok (.iinc 2 1, 3) := by decide +kernel
theorem d_O_begin_200 : decode b_O_begin 200 = .ok (.goto (-111), 3) := by decide +kernel
theorem d_O_begin_203 : decode b_O_begin 203 = .ok (.return_, 1) := by decide +kernel
theorem d_O_digestOf_0 : decode b_O_digestOf 0 = .ok (.iload_n 0, 1) := by decide +kernel
theorem d_O_digestOf_1 : decode b_O_digestOf 1 = .ok (.tableswitch 72 1 12 #[63, 66, 69, 72, 72, 63, 72, 63, 66, 69, 63, 69], 63) := by decide +kernel
theorem d_O_digestOf_64 : decode b_O_digestOf 64 = .ok (.bipush 32, 2) := by decide +kernel
theorem d_O_digestOf_66 : decode b_O_digestOf 66 = .ok (.ireturn, 1) := by decide +kernel
theorem d_O_digestOf_67 : decode b_O_digestOf 67 = .ok (.bipush 48, 2) := by decide +kernel
theorem d_O_digestOf_69 : decode b_O_digestOf 69 = .ok (.ireturn, 1) := by decide +kernel
theorem d_O_digestOf_70 : decode b_O_digestOf 70 = .ok (.bipush 64, 2) := by decide +kernel
theorem d_O_digestOf_72 : decode b_O_digestOf 72 = .ok (.ireturn, 1) := by decide +kernel
theorem d_O_digestOf_73 : decode b_O_digestOf 73 = .ok (.bipush 28, 2) := by decide +kernel
theorem d_O_digestOf_75 : decode b_O_digestOf 75 = .ok (.ireturn, 1) := by decide +kernel
theorem d_O_blockOf_0 : decode b_O_blockOf 0 = .ok (.iload_n 0, 1) := by decide +kernel
theorem d_O_blockOf_1 : decode b_O_blockOf 1 = .ok (.iconst 1, 1) := by decide +kernel
theorem d_O_blockOf_2 : decode b_O_blockOf 2 = .ok (.if_icmp .eq 8, 3) := by decide +kernel
theorem d_O_blockOf_5 : decode b_O_blockOf 5 = .ok (.iload_n 0, 1) := by decide +kernel
theorem d_O_blockOf_6 : decode b_O_blockOf 6 = .ok (.iconst 4, 1) := by decide +kernel
theorem d_O_blockOf_7 : decode b_O_blockOf 7 = .ok (.if_icmp .ne 8, 3) := by decide +kernel
theorem d_O_blockOf_10 : decode b_O_blockOf 10 = .ok (.bipush 64, 2) := by decide +kernel
theorem d_O_blockOf_12 : decode b_O_blockOf 12 = .ok (.goto 6, 3) := by decide +kernel
theorem d_O_blockOf_15 : decode b_O_blockOf 15 = .ok (.sipush 128, 3) := by decide +kernel
theorem d_O_blockOf_18 : decode b_O_blockOf 18 = .ok (.ireturn, 1) := by decide +kernel
theorem d_O_put_0 : decode b_O_put 0 = .ok (.aload_n 0, 1) := by decide +kernel
theorem d_O_put_1 : decode b_O_put 1 = .ok (.invokevirtual 146, 3) := by decide +kernel
theorem d_O_put_4 : decode b_O_put 4 = .ok (.ifCond .eq 15, 3) := by decide +kernel
theorem d_O_put_7 : decode b_O_put 7 = .ok (.aload_n 0, 1) := by decide +kernel
theorem d_O_put_8 : decode b_O_put 8 = .ok (.aload_n 0, 1) := by decide +kernel
theorem d_O_put_9 : decode b_O_put 9 = .ok (.getfield 128, 3) := by decide +kernel
theorem d_O_put_12 : decode b_O_put 12 = .ok (.iload_n 1, 1) := by decide +kernel
theorem d_O_put_13 : decode b_O_put 13 = .ok (.invokevirtual 150, 3) := by decide +kernel
theorem d_O_put_16 : decode b_O_put 16 = .ok (.goto 14, 3) := by decide +kernel
theorem d_O_put_19 : decode b_O_put 19 = .ok (.aload_n 0, 1) := by decide +kernel
theorem d_O_put_20 : decode b_O_put 20 = .ok (.getfield 59, 3) := by decide +kernel
theorem d_O_put_23 : decode b_O_put 23 = .ok (.aload_n 0, 1) := by decide +kernel
theorem d_O_put_24 : decode b_O_put 24 = .ok (.getfield 128, 3) := by decide +kernel
theorem d_O_put_27 : decode b_O_put 27 = .ok (.iload_n 1, 1) := by decide +kernel
theorem d_O_put_28 : decode b_O_put 28 = .ok (.i2b, 1) := by decide +kernel
theorem d_O_put_29 : decode b_O_put 29 = .ok (.bastore, 1) := by decide +kernel
theorem d_O_put_30 : decode b_O_put 30 = .ok (.aload_n 0, 1) := by decide +kernel
theorem d_O_put_31 : decode b_O_put 31 = .ok (.dup, 1) := by decide +kernel
theorem d_O_put_32 : decode b_O_put 32 = .ok (.getfield 128, 3) := by decide +kernel
theorem d_O_put_35 : decode b_O_put 35 = .ok (.iconst 1, 1) := by decide +kernel
theorem d_O_put_36 : decode b_O_put 36 = .ok (.iadd, 1) := by decide +kernel
theorem d_O_put_37 : decode b_O_put 37 = .ok (.putfield 128, 3) := by decide +kernel
theorem d_O_put_40 : decode b_O_put 40 = .ok (.aload_n 0, 1) := by decide +kernel
theorem d_O_put_41 : decode b_O_put 41 = .ok (.dup, 1) := by decide +kernel
theorem d_O_put_42 : decode b_O_put 42 = .ok (.getfield 131, 3) := by decide +kernel
theorem d_O_put_45 : decode b_O_put 45 = .ok (.lconst 1, 1) := by decide +kernel
theorem d_O_put_46 : decode b_O_put 46 = .ok (.ladd, 1) := by decide +kernel
theorem d_O_put_47 : decode b_O_put 47 = .ok (.putfield 131, 3) := by decide +kernel
theorem d_O_put_50 : decode b_O_put 50 = .ok (.aload_n 0, 1) := by decide +kernel
theorem d_O_put_51 : decode b_O_put 51 = .ok (.getfield 128, 3) := by decide +kernel
theorem d_O_put_54 : decode b_O_put 54 = .ok (.aload_n 0, 1) := by decide +kernel
theorem d_O_put_55 : decode b_O_put 55 = .ok (.getfield 141, 3) := by decide +kernel
theorem d_O_put_58 : decode b_O_put 58 = .ok (.if_icmp .ne 42, 3) := by decide +kernel
theorem d_O_put_61 : decode b_O_put 61 = .ok (.aload_n 0, 1) := by decide +kernel
theorem d_O_put_62 : decode b_O_put 62 = .ok (.invokevirtual 146, 3) := by decide +kernel
theorem d_O_put_65 : decode b_O_put 65 = .ok (.ifCond .eq 10, 3) := by decide +kernel
theorem d_O_put_68 : decode b_O_put 68 = .ok (.aload_n 0, 1) := by decide +kernel
theorem d_O_put_69 : decode b_O_put 69 = .ok (.invokevirtual 154, 3) := by decide +kernel
theorem d_O_put_72 : decode b_O_put 72 = .ok (.goto 23, 3) := by decide +kernel
theorem d_O_put_75 : decode b_O_put 75 = .ok (.aload_n 0, 1) := by decide +kernel
theorem d_O_put_76 : decode b_O_put 76 = .ok (.getfield 141, 3) := by decide +kernel
theorem d_O_put_79 : decode b_O_put 79 = .ok (.bipush 64, 2) := by decide +kernel
theorem d_O_put_81 : decode b_O_put 81 = .ok (.if_icmp .ne 10, 3) := by decide +kernel
theorem d_O_put_84 : decode b_O_put 84 = .ok (.aload_n 0, 1) := by decide +kernel
theorem d_O_put_85 : decode b_O_put 85 = .ok (.invokevirtual 157, 3) := by decide +kernel
theorem d_O_put_88 : decode b_O_put 88 = .ok (.goto 7, 3) := by decide +kernel
theorem d_O_put_91 : decode b_O_put 91 = .ok (.aload_n 0, 1) := by decide +kernel
theorem d_O_put_92 : decode b_O_put 92 = .ok (.invokevirtual 160, 3) := by decide +kernel
theorem d_O_put_95 : decode b_O_put 95 = .ok (.aload_n 0, 1) := by decide +kernel
theorem d_O_put_96 : decode b_O_put 96 = .ok (.iconst 0, 1) := by decide +kernel
theorem d_O_put_97 : decode b_O_put 97 = .ok (.putfield 128, 3) := by decide +kernel
theorem d_O_put_100 : decode b_O_put 100 = .ok (.return_, 1) := by decide +kernel
theorem d_O_sponge_0 : decode b_O_sponge 0 = .ok (.aload_n 0, 1) := by decide +kernel
theorem d_O_sponge_1 : decode b_O_sponge 1 = .ok (.getfield 125, 3) := by decide +kernel
theorem d_O_sponge_4 : decode b_O_sponge 4 = .ok (.bipush 6, 2) := by decide +kernel
theorem d_O_sponge_6 : decode b_O_sponge 6 = .ok (.if_icmp .le 7, 3) := by decide +kernel
theorem d_O_sponge_9 : decode b_O_sponge 9 = .ok (.iconst 1, 1) := by decide +kernel
theorem d_O_sponge_10 : decode b_O_sponge 10 = .ok (.goto 4, 3) := by decide +kernel
theorem d_O_sponge_13 : decode b_O_sponge 13 = .ok (.iconst 0, 1) := by decide +kernel
theorem d_O_sponge_14 : decode b_O_sponge 14 = .ok (.ireturn, 1) := by decide +kernel
theorem d_O_flip_0 : decode b_O_flip 0 = .ok (.aload_n 0, 1) := by decide +kernel
theorem d_O_flip_1 : decode b_O_flip 1 = .ok (.getfield 47, 3) := by decide +kernel
theorem d_O_flip_4 : decode b_O_flip 4 = .ok (.iload_n 1, 1) := by decide +kernel
theorem d_O_flip_5 : decode b_O_flip 5 = .ok (.bipush 8, 2) := by decide +kernel
theorem d_O_flip_7 : decode b_O_flip 7 = .ok (.idiv, 1) := by decide +kernel
theorem d_O_flip_8 : decode b_O_flip 8 = .ok (.dup2, 1) := by decide +kernel
theorem d_O_flip_9 : decode b_O_flip 9 = .ok (.laload, 1) := by decide +kernel
theorem d_O_flip_10 : decode b_O_flip 10 = .ok (.iload_n 2, 1) := by decide +kernel
theorem d_O_flip_11 : decode b_O_flip 11 = .ok (.i2l, 1) := by decide +kernel
theorem d_O_flip_12 : decode b_O_flip 12 = .ok (.ldc2_w 90, 3) := by decide +kernel
theorem d_O_flip_15 : decode b_O_flip 15 = .ok (.land, 1) := by decide +kernel
theorem d_O_flip_16 : decode b_O_flip 16 = .ok (.bipush 8, 2) := by decide +kernel
theorem d_O_flip_18 : decode b_O_flip 18 = .ok (.iload_n 1, 1) := by decide +kernel
theorem d_O_flip_19 : decode b_O_flip 19 = .ok (.bipush 8, 2) := by decide +kernel
theorem d_O_flip_21 : decode b_O_flip 21 = .ok (.irem, 1) := by decide +kernel
theorem d_O_flip_22 : decode b_O_flip 22 = .ok (.imul, 1) := by decide +kernel
theorem d_O_flip_23 : decode b_O_flip 23 = .ok (.lshl, 1) := by decide +kernel
theorem d_O_flip_24 : decode b_O_flip 24 = .ok (.lxor, 1) := by decide +kernel
theorem d_O_flip_25 : decode b_O_flip 25 = .ok (.lastore, 1) := by decide +kernel
theorem d_O_flip_26 : decode b_O_flip 26 = .ok (.return_, 1) := by decide +kernel
theorem d_O_permute_0 : decode b_O_permute 0 = .ok (.iconst 0, 1) := by decide +kernel
theorem d_O_permute_1 : decode b_O_permute 1 = .ok (.istore_n 1, 1) := by decide +kernel
theorem d_O_permute_2 : decode b_O_permute 2 = .ok (.iload_n 1, 1) := by decide +kernel
theorem d_O_permute_3 : decode b_O_permute 3 = .ok (.bipush 24, 2) := by decide +kernel
theorem d_O_permute_5 : decode b_O_permute 5 = .ok (.if_icmp .ge 287, 3) := by decide +kernel
theorem d_O_permute_8 : decode b_O_permute 8 = .ok (.iconst 0, 1) := by decide +kernel
theorem d_O_permute_9 : decode b_O_permute 9 = .ok (.istore_n 2, 1) := by decide +kernel
theorem d_O_permute_10 : decode b_O_permute 10 = .ok (.iload_n 2, 1) := by decide +kernel
theorem d_O_permute_11 : decode b_O_permute 11 = .ok (.iconst 5, 1) := by decide +kernel
theorem d_O_permute_12 : decode b_O_permute 12 = .ok (.if_icmp .ge 48, 3) := by decide +kernel
theorem d_O_permute_15 : decode b_O_permute 15 = .ok (.aload_n 0, 1) := by decide +kernel
theorem d_O_permute_16 : decode b_O_permute 16 = .ok (.getfield 53, 3) := by decide +kernel
theorem d_O_permute_19 : decode b_O_permute 19 = .ok (.iload_n 2, 1) := by decide +kernel
theorem d_O_permute_20 : decode b_O_permute 20 = .ok (.lconst 0, 1) := by decide +kernel
theorem d_O_permute_21 : decode b_O_permute 21 = .ok (.lastore, 1) := by decide +kernel
theorem d_O_permute_22 : decode b_O_permute 22 = .ok (.iconst 0, 1) := by decide +kernel
theorem d_O_permute_23 : decode b_O_permute 23 = .ok (.istore_n 3, 1) := by decide +kernel
theorem d_O_permute_24 : decode b_O_permute 24 = .ok (.iload_n 3, 1) := by decide +kernel
theorem d_O_permute_25 : decode b_O_permute 25 = .ok (.iconst 5, 1) := by decide +kernel
theorem d_O_permute_26 : decode b_O_permute 26 = .ok (.if_icmp .ge 28, 3) := by decide +kernel
theorem d_O_permute_29 : decode b_O_permute 29 = .ok (.aload_n 0, 1) := by decide +kernel
theorem d_O_permute_30 : decode b_O_permute 30 = .ok (.getfield 53, 3) := by decide +kernel
theorem d_O_permute_33 : decode b_O_permute 33 = .ok (.iload_n 2, 1) := by decide +kernel
theorem d_O_permute_34 : decode b_O_permute 34 = .ok (.dup2, 1) := by decide +kernel
theorem d_O_permute_35 : decode b_O_permute 35 = .ok (.laload, 1) := by decide +kernel
theorem d_O_permute_36 : decode b_O_permute 36 = .ok (.aload_n 0, 1) := by decide +kernel
theorem d_O_permute_37 : decode b_O_permute 37 = .ok (.getfield 47, 3) := by decide +kernel
theorem d_O_permute_40 : decode b_O_permute 40 = .ok (.iload_n 2, 1) := by decide +kernel
theorem d_O_permute_41 : decode b_O_permute 41 = .ok (.iconst 5, 1) := by decide +kernel
theorem d_O_permute_42 : decode b_O_permute 42 = .ok (.iload_n 3, 1) := by decide +kernel
theorem d_O_permute_43 : decode b_O_permute 43 = .ok (.imul, 1) := by decide +kernel
theorem d_O_permute_44 : decode b_O_permute 44 = .ok (.iadd, 1) := by decide +kernel
theorem d_O_permute_45 : decode b_O_permute 45 = .ok (.laload, 1) := by decide +kernel
theorem d_O_permute_46 : decode b_O_permute 46 = .ok (.lxor, 1) := by decide +kernel
theorem d_O_permute_47 : decode b_O_permute 47 = .ok (.lastore, 1) := by decide +kernel
theorem d_O_permute_48 : decode b_O_permute 48 = .ok (.iinc 3 1, 3) := by decide +kernel
end
section
theorem d_O_permute_51 : decode b_O_permute 51 = .ok (.goto (-27), 3) := by decide +kernel
theorem d_O_permute_54 : decode b_O_permute 54 = .ok (.iinc 2 1, 3) := by decide +kernel
theorem d_O_permute_57 : decode b_O_permute 57 = .ok (.goto (-47), 3) := by decide +kernel
theorem d_O_permute_60 : decode b_O_permute 60 = .ok (.iconst 0, 1) := by decide +kernel
theorem d_O_permute_61 : decode b_O_permute 61 = .ok (.istore_n 2, 1) := by decide +kernel
theorem d_O_permute_62 : decode b_O_permute 62 = .ok (.iload_n 2, 1) := by decide +kernel
theorem d_O_permute_63 : decode b_O_permute 63 = .ok (.iconst 5, 1) := by decide +kernel
theorem d_O_permute_64 : decode b_O_permute 64 = .ok (.if_icmp .ge 60, 3) := by decide +kernel
theorem d_O_permute_67 : decode b_O_permute 67 = .ok (.iconst 0, 1) := by decide +kernel
theorem d_O_permute_68 : decode b_O_permute 68 = .ok (.istore_n 3, 1) := by decide +kernel
theorem d_O_permute_69 : decode b_O_permute 69 = .ok (.iload_n 3, 1) := by decide +kernel
theorem d_O_permute_70 : decode b_O_permute 70 = .ok (.iconst 5, 1) := by decide +kernel
theorem d_O_permute_71 : decode b_O_permute 71 = .ok (.if_icmp .ge 47, 3) := by decide +kernel
theorem d_O_permute_74 : decode b_O_permute 74 = .ok (.aload_n 0, 1) := by decide +kernel
theorem d_O_permute_75 : decode b_O_permute 75 = .ok (.getfield 47, 3) := by decide +kernel
theorem d_O_permute_78 : decode b_O_permute 78 = .ok (.iload_n 2, 1) := by decide +kernel
theorem d_O_permute_79 : decode b_O_permute 79 = .ok (.iconst 5, 1) := by decide +kernel
theorem d_O_permute_80 : decode b_O_permute 80 = .ok (.iload_n 3, 1) := by decide +kernel
theorem d_O_permute_81 : decode b_O_permute 81 = .ok (.imul, 1) := by decide +kernel
theorem d_O_permute_82 : decode b_O_permute 82 = .ok (.iadd, 1) := by decide +kernel
theorem d_O_permute_83 : decode b_O_permute 83 = .ok (.dup2, 1) := by decide +kernel
theorem d_O_permute_84 : decode b_O_permute 84 = .ok (.laload, 1) := by decide +kernel
theorem d_O_permute_85 : decode b_O_permute 85 = .ok (.aload_n 0, 1) := by decide +kernel
theorem d_O_permute_86 : decode b_O_permute 86 = .ok (.getfield 53, 3) := by decide +kernel
theorem d_O_permute_89 : decode b_O_permute 89 = .ok (.iload_n 2, 1) := by decide +kernel
theorem d_O_permute_90 : decode b_O_permute 90 = .ok (.iconst 4, 1) := by decide +kernel
theorem d_O_permute_91 : decode b_O_permute 91 = .ok (.iadd, 1) := by decide +kernel
theorem d_O_permute_92 : decode b_O_permute 92 = .ok (.iconst 5, 1) := by decide +kernel
theorem d_O_permute_93 : decode b_O_permute 93 = .ok (.irem, 1) := by decide +kernel
theorem d_O_permute_94 : decode b_O_permute 94 = .ok (.laload, 1) := by decide +kernel
theorem d_O_permute_95 : decode b_O_permute 95 = .ok (.aload_n 0, 1) := by decide +kernel
theorem d_O_permute_96 : decode b_O_permute 96 = .ok (.getfield 53, 3) := by decide +kernel
theorem d_O_permute_99 : decode b_O_permute 99 = .ok (.iload_n 2, 1) := by decide +kernel
theorem d_O_permute_100 : decode b_O_permute 100 = .ok (.iconst 1, 1) := by decide +kernel
theorem d_O_permute_101 : decode b_O_permute 101 = .ok (.iadd, 1) := by decide +kernel
theorem d_O_permute_102 : decode b_O_permute 102 = .ok (.iconst 5, 1) := by decide +kernel
theorem d_O_permute_103 : decode b_O_permute 103 = .ok (.irem, 1) := by decide +kernel
theorem d_O_permute_104 : decode b_O_permute 104 = .ok (.laload, 1) := by decide +kernel
theorem d_O_permute_105 : decode b_O_permute 105 = .ok (.iconst 1, 1) := by decide +kernel
theorem d_O_permute_106 : decode b_O_permute 106 = .ok (.invokestatic 163, 3) := by decide +kernel
theorem d_O_permute_109 : decode b_O_permute 109 = .ok (.lxor, 1) := by decide +kernel
theorem d_O_permute_110 : decode b_O_permute 110 = .ok (.lxor, 1) := by decide +kernel
theorem d_O_permute_111 : decode b_O_permute 111 = .ok (.lastore, 1) := by decide +kernel
theorem d_O_permute_112 : decode b_O_permute 112 = .ok (.iinc 3 1, 3) := by decide +kernel
theorem d_O_permute_115 : decode b_O_permute 115 = .ok (.goto (-46), 3) := by decide +kernel
theorem d_O_permute_118 : decode b_O_permute 118 = .ok (.iinc 2 1, 3) := by decide +kernel
theorem d_O_permute_121 : decode b_O_permute 121 = .ok (.goto (-59), 3) := by decide +kernel
theorem d_O_permute_124 : decode b_O_permute 124 = .ok (.iconst 0, 1) := by decide +kernel
theorem d_O_permute_125 : decode b_O_permute 125 = .ok (.istore_n 2, 1) := by decide +kernel
theorem d_O_permute_126 : decode b_O_permute 126 = .ok (.iload_n 2, 1) := by decide +kernel
theorem d_O_permute_127 : decode b_O_permute 127 = .ok (.iconst 5, 1) := by decide +kernel
theorem d_O_permute_128 : decode b_O_permute 128 = .ok (.if_icmp .ge 63, 3) := by decide +kernel
theorem d_O_permute_131 : decode b_O_permute 131 = .ok (.iconst 0, 1) := by decide +kernel
theorem d_O_permute_132 : decode b_O_permute 132 = .ok (.istore_n 3, 1) := by decide +kernel
theorem d_O_permute_133 : decode b_O_permute 133 = .ok (.iload_n 3, 1) := by decide +kernel
theorem d_O_permute_134 : decode b_O_permute 134 = .ok (.iconst 5, 1) := by decide +kernel
theorem d_O_permute_135 : decode b_O_permute 135 = .ok (.if_icmp .ge 50, 3) := by decide +kernel
theorem d_O_permute_138 : decode b_O_permute 138 = .ok (.aload_n 0, 1) := by decide +kernel
theorem d_O_permute_139 : decode b_O_permute 139 = .ok (.getfield 50, 3) := by decide +kernel
theorem d_O_permute_142 : decode b_O_permute 142 = .ok (.iload_n 3, 1) := by decide +kernel
theorem d_O_permute_143 : decode b_O_permute 143 = .ok (.iconst 5, 1) := by decide +kernel
theorem d_O_permute_144 : decode b_O_permute 144 = .ok (.iconst 2, 1) := by decide +kernel
theorem d_O_permute_145 : decode b_O_permute 145 = .ok (.iload_n 2, 1) := by decide +kernel
theorem d_O_permute_146 : decode b_O_permute 146 = .ok (.imul, 1) := by decide +kernel
theorem d_O_permute_147 : decode b_O_permute 147 = .ok (.iconst 3, 1) := by decide +kernel
theorem d_O_permute_148 : decode b_O_permute 148 = .ok (.iload_n 3, 1) := by decide +kernel
theorem d_O_permute_149 : decode b_O_permute 149 = .ok (.imul, 1) := by decide +kernel
theorem d_O_permute_150 : decode b_O_permute 150 = .ok (.iadd, 1) := by decide +kernel
theorem d_O_permute_151 : decode b_O_permute 151 = .ok (.iconst 5, 1) := by decide +kernel
theorem d_O_permute_152 : decode b_O_permute 152 = .ok (.irem, 1) := by decide +kernel
theorem d_O_permute_153 : decode b_O_permute 153 = .ok (.imul, 1) := by decide +kernel
theorem d_O_permute_154 : decode b_O_permute 154 = .ok (.iadd, 1) := by decide +kernel
theorem d_O_permute_155 : decode b_O_permute 155 = .ok (.aload_n 0, 1) := by decide +kernel
theorem d_O_permute_156 : decode b_O_permute 156 = .ok (.getfield 47, 3) := by decide +kernel
theorem d_O_permute_159 : decode b_O_permute 159 = .ok (.iload_n 2, 1) := by decide +kernel
theorem d_O_permute_160 : decode b_O_permute 160 = .ok (.iconst 5, 1) := by decide +kernel
theorem d_O_permute_161 : decode b_O_permute 161 = .ok (.iload_n 3, 1) := by decide +kernel
theorem d_O_permute_162 : decode b_O_permute 162 = .ok (.imul, 1) := by decide +kernel
theorem d_O_permute_163 : decode b_O_permute 163 = .ok (.iadd, 1) := by decide +kernel
theorem d_O_permute_164 : decode b_O_permute 164 = .ok (.laload, 1) := by decide +kernel
theorem d_O_permute_165 : decode b_O_permute 165 = .ok (.aload_n 0, 1) := by decide +kernel
theorem d_O_permute_166 : decode b_O_permute 166 = .ok (.getfield 41, 3) := by decide +kernel
theorem d_O_permute_169 : decode b_O_permute 169 = .ok (.iload_n 2, 1) := by decide +kernel
theorem d_O_permute_170 : decode b_O_permute 170 = .ok (.iconst 5, 1) := by decide +kernel
theorem d_O_permute_171 : decode b_O_permute 171 = .ok (.iload_n 3, 1) := by decide +kernel
theorem d_O_permute_172 : decode b_O_permute 172 = .ok (.imul, 1) := by decide +kernel
theorem d_O_permute_173 : decode b_O_permute 173 = .ok (.iadd, 1) := by decide +kernel
theorem d_O_permute_174 : decode b_O_permute 174 = .ok (.iaload, 1) := by decide +kernel
theorem d_O_permute_175 : decode b_O_permute 175 = .ok (.invokestatic 163, 3) := by decide +kernel
theorem d_O_permute_178 : decode b_O_permute 178 = .ok (.lastore, 1) := by decide +kernel
theorem d_O_permute_179 : decode b_O_permute 179 = .ok (.iinc 3 1, 3) := by decide +kernel
theorem d_O_permute_182 : decode b_O_permute 182 = .ok (.goto (-49), 3) := by decide +kernel
theorem d_O_permute_185 : decode b_O_permute 185 = .ok (.iinc 2 1, 3) := by decide +kernel
theorem d_O_permute_188 : decode b_O_permute 188 = .ok (.goto (-62), 3) := by decide +kernel
theorem d_O_permute_191 : decode b_O_permute 191 = .ok (.iconst 0, 1) := by decide +kernel
theorem d_O_permute_192 : decode b_O_permute 192 = .ok (.istore_n 2, 1) := by decide +kernel
theorem d_O_permute_193 : decode b_O_permute 193 = .ok (.iload_n 2, 1) := by decide +kernel
theorem d_O_permute_194 : decode b_O_permute 194 = .ok (.iconst 5, 1) := by decide +kernel
theorem d_O_permute_195 : decode b_O_permute 195 = .ok (.if_icmp .ge 76, 3) := by decide +kernel
theorem d_O_permute_198 : decode b_O_permute 198 = .ok (.iconst 0, 1) := by decide +kernel
theorem d_O_permute_199 : decode b_O_permute 199 = .ok (.istore_n 3, 1) := by decide +kernel
theorem d_O_permute_200 : decode b_O_permute 200 = .ok (.iload_n 3, 1) := by decide +kernel
theorem d_O_permute_201 : decode b_O_permute 201 = .ok (.iconst 5, 1) := by decide +kernel
theorem d_O_permute_202 : decode b_O_permute 202 = .ok (.if_icmp .ge 63, 3) := by decide +kernel
theorem d_O_permute_205 : decode b_O_permute 205 = .ok (.aload_n 0, 1) := by decide +kernel
theorem d_O_permute_206 : decode b_O_permute 206 = .ok (.getfield 47, 3) := by decide +kernel
theorem d_O_permute_209 : decode b_O_permute 209 = .ok (.iload_n 2, 1) := by decide +kernel
theorem d_O_permute_210 : decode b_O_permute 210 = .ok (.iconst 5, 1) := by decide +kernel
theorem d_O_permute_211 : decode b_O_permute 211 = .ok (.iload_n 3, 1) := by decide +kernel
theorem d_O_permute_212 : decode b_O_permute 212 = .ok (.imul, 1) := by decide +kernel
theorem d_O_permute_213 : decode b_O_permute 213 = .ok (.iadd, 1) := by decide +kernel
theorem d_O_permute_214 : decode b_O_permute 214 = .ok (.aload_n 0, 1) := by decide +kernel
theorem d_O_permute_215 : decode b_O_permute 215 = .ok (.getfield 50, 3) := by decide +kernel
theorem d_O_permute_218 : decode b_O_permute 218 = .ok (.iload_n 2, 1) := by decide +kernel
theorem d_O_permute_219 : decode b_O_permute 219 = .ok (.iconst 5, 1) := by decide +kernel
theorem d_O_permute_220 : decode b_O_permute 220 = .ok (.iload_n 3, 1) := by decide +kernel
theorem d_O_permute_221 : decode b_O_permute 221 = .ok (.imul, 1) := by decide +kernel
theorem d_O_permute_222 : decode b_O_permute 222 = .ok (.iadd, 1) := by decide +kernel
theorem d_O_permute_223 : decode b_O_permute 223 = .ok (.laload, 1) := by decide +kernel
theorem d_O_permute_224 : decode b_O_permute 224 = .ok (.aload_n 0, 1) := by decide +kernel
theorem d_O_permute_225 : decode b_O_permute 225 = .ok (.getfield 50, 3) := by decide +kernel
theorem d_O_permute_228 : decode b_O_permute 228 = .ok (.iload_n 2, 1) := by decide +kernel
theorem d_O_permute_229 : decode b_O_permute 229 = .ok (.iconst 1, 1) := by decide +kernel
theorem d_O_permute_230 : decode b_O_permute 230 = .ok (.iadd, 1) := by decide +kernel
theorem d_O_permute_231 : decode b_O_permute 231 = .ok (.iconst 5, 1) := by decide +kernel
theorem d_O_permute_232 : decode b_O_permute 232 = .ok (.irem, 1) := by decide +kernel
theorem d_O_permute_233 : decode b_O_permute 233 = .ok (.iconst 5, 1) := by decide +kernel
theorem d_O_permute_234 : decode b_O_permute 234 = .ok (.iload_n 3, 1) := by decide +kernel
theorem d_O_permute_235 : decode b_O_permute 235 = .ok (.imul, 1) := by decide +kernel
theorem d_O_permute_236 : decode b_O_permute 236 = .ok (.iadd, 1) := by decide +kernel
theorem d_O_permute_237 : decode b_O_permute 237 = .ok (.laload, 1) := by decide +kernel
theorem d_O_permute_238 : decode b_O_permute 238 = .ok (.ldc2_w 167, 3) := by decide +kernel
theorem d_O_permute_241 : decode b_O_permute 241 = .ok (.lxor, 1) := by decide +kernel
theorem d_O_permute_242 : decode b_O_permute 242 = .ok (.aload_n 0, 1) := by decide +kernel
theorem d_O_permute_243 : decode b_O_permute 243 = .ok (.getfield 50, 3) := by decide +kernel
theorem d_O_permute_246 : decode b_O_permute 246 = .ok (.iload_n 2, 1) := by decide +kernel
theorem d_O_permute_247 : decode b_O_permute 247 = .ok (.iconst 2, 1) := by decide +kernel
theorem d_O_permute_248 : decode b_O_permute 248 = .ok (.iadd, 1) := by decide +kernel
theorem d_O_permute_249 : decode b_O_permute 249 = .ok (.iconst 5, 1) := by decide +kernel
theorem d_O_permute_250 : decode b_O_permute 250 = .ok (.irem, 1) := by decide +kernel
theorem d_O_permute_251 : decode b_O_permute 251 = .ok (.iconst 5, 1) := by decide +kernel
theorem d_O_permute_252 : decode b_O_permute 252 = .ok (.iload_n 3, 1) := by decide +kernel
theorem d_O_permute_253 : decode b_O_permute 253 = .ok (.imul, 1) := by decide +kernel
theorem d_O_permute_254 : decode b_O_permute 254 = .ok (.iadd, 1) := by decide +kernel
theorem d_O_permute_255 : decode b_O_permute 255 = .ok (.laload, 1) := by decide +kernel
theorem d_O_permute_256 : decode b_O_permute 256 = .ok (.land, 1) := by decide +kernel
theorem d_O_permute_257 : decode b_O_permute 257 = .ok (.lxor, 1) := by decide +kernel
theorem d_O_permute_258 : decode b_O_permute 258 = .ok (.lastore, 1) := by decide +kernel
theorem d_O_permute_259 : decode b_O_permute 259 = .ok (.iinc 3 1, 3) := by decide +kernel
theorem d_O_permute_262 : decode b_O_permute 262 = .ok (.goto (-62), 3) := by decide +kernel
theorem d_O_permute_265 : decode b_O_permute 265 = .ok (.iinc 2 1, 3) := by decide +kernel
theorem d_O_permute_268 : decode b_O_permute 268 = .ok (.goto (-75), 3) := by decide +kernel
theorem d_O_permute_271 : decode b_O_permute 271 = .ok (.aload_n 0, 1) := by decide +kernel
theorem d_O_permute_272 : decode b_O_permute 272 = .ok (.getfield 47, 3) := by decide +kernel
theorem d_O_permute_275 : decode b_O_permute 275 = .ok (.iconst 0, 1) := by decide +kernel
theorem d_O_permute_276 : decode b_O_permute 276 = .ok (.dup2, 1) := by decide +kernel
theorem d_O_permute_277 : decode b_O_permute 277 = .ok (.laload, 1) := by decide +kernel
theorem d_O_permute_278 : decode b_O_permute 278 = .ok (.aload_n 0, 1) := by decide +kernel
theorem d_O_permute_279 : decode b_O_permute 279 = .ok (.getfield 44, 3) := by decide +kernel
theorem d_O_permute_282 : decode b_O_permute 282 = .ok (.iload_n 1, 1) := by decide +kernel
theorem d_O_permute_283 : decode b_O_permute 283 = .ok (.laload, 1) := by decide +kernel
theorem d_O_permute_284 : decode b_O_permute 284 = .ok (.lxor, 1) := by decide +kernel
theorem d_O_permute_285 : decode b_O_permute 285 = .ok (.lastore, 1) := by decide +kernel
theorem d_O_permute_286 : decode b_O_permute 286 = .ok (.iinc 1 1, 3) := by decide +kernel
theorem d_O_permute_289 : decode b_O_permute 289 = .ok (.goto (-287), 3) := by decide +kernel
theorem d_O_permute_292 : decode b_O_permute 292 = .ok (.return_, 1) := by decide +kernel
theorem d_O_left_0 : decode b_O_left 0 = .ok (.iload_n 2, 1) := by decide +kernel
theorem d_O_left_1 : decode b_O_left 1 = .ok (.ifCond .ne 7, 3) := by decide +kernel
theorem d_O_left_4 : decode b_O_left 4 = .ok (.lload_n 0, 1) := by decide +kernel
theorem d_O_left_5 : decode b_O_left 5 = .ok (.goto 13, 3) := by decide +kernel
theorem d_O_left_8 : decode b_O_left 8 = .ok (.lload_n 0, 1) := by decide +kernel
theorem d_O_left_9 : decode b_O_left 9 = .ok (.iload_n 2, 1) := by decide +kernel
theorem d_O_left_10 : decode b_O_left 10 = .ok (.lshl, 1) := by decide +kernel
theorem d_O_left_11 : decode b_O_left 11 = .ok (.lload_n 0, 1) := by decide +kernel
theorem d_O_left_12 : decode b_O_left 12 = .ok (.bipush 64, 2) := by decide +kernel
theorem d_O_left_14 : decode b_O_left 14 = .ok (.iload_n 2, 1) := by decide +kernel
theorem d_O_left_15 : decode b_O_left 15 = .ok (.isub, 1) := by decide +kernel
theorem d_O_left_16 : decode b_O_left 16 = .ok (.lushr, 1) := by decide +kernel
theorem d_O_left_17 : decode b_O_left 17 = .ok (.lor, 1) := by decide +kernel
theorem d_O_left_18 : decode b_O_left 18 = .ok (.lreturn, 1) := by decide +kernel
theorem d_O_compress32_0 : decode b_O_compress32 0 = .ok (.iconst 0, 1) := by decide +kernel
theorem d_O_compress32_1 : decode b_O_compress32 1 = .ok (.istore_n 1, 1) := by decide +kernel
theorem d_O_compress32_2 : decode b_O_compress32 2 = .ok (.iload_n 1, 1) := by decide +kernel
theorem d_O_compress32_3 : decode b_O_compress32 3 = .ok (.bipush 16, 2) := by decide +kernel
theorem d_O_compress32_5 : decode b_O_compress32 5 = .ok (.if_icmp .ge 52, 3) := by decide +kernel
theorem d_O_compress32_8 : decode b_O_compress32 8 = .ok (.iconst 0, 1) := by decide +kernel
theorem d_O_compress32_9 : decode b_O_compress32 9 = .ok (.istore_n 2, 1) := by decide +kernel
theorem d_O_compress32_10 : decode b_O_compress32 10 = .ok (.iconst 0, 1) := by decide +kernel
theorem d_O_compress32_11 : decode b_O_compress32 11 = .ok (.istore_n 3, 1) := by decide +kernel
theorem d_O_compress32_12 : decode b_O_compress32 12 = .ok (.iload_n 3, 1) := by decide +kernel
theorem d_O_compress32_13 : decode b_O_compress32 13 = .ok (.iconst 4, 1) := by decide +kernel
theorem d_O_compress32_14 : decode b_O_compress32 14 = .ok (.if_icmp .ge 29, 3) := by decide +kernel
theorem d_O_compress32_17 : decode b_O_compress32 17 = .ok (.iload_n 2, 1) := by decide +kernel
theorem d_O_compress32_18 : decode b_O_compress32 18 = .ok (.bipush 8, 2) := by decide +kernel
theorem d_O_compress32_20 : decode b_O_compress32 20 = .ok (.ishl, 1) := by decide +kernel
theorem d_O_compress32_21 : decode b_O_compress32 21 = .ok (.aload_n 0, 1) := by decide +kernel
theorem d_O_compress32_22 : decode b_O_compress32 22 = .ok (.getfield 59, 3) := by decide +kernel
theorem d_O_compress32_25 : decode b_O_compress32 25 = .ok (.iconst 4, 1) := by decide +kernel
theorem d_O_compress32_26 : decode b_O_compress32 26 = .ok (.iload_n 1, 1) := by decide +kernel
theorem d_O_compress32_27 : decode b_O_compress32 27 = .ok (.imul, 1) := by decide +kernel
theorem d_O_compress32_28 : decode b_O_compress32 28 = .ok (.iload_n 3, 1) := by decide +kernel
theorem d_O_compress32_29 : decode b_O_compress32 29 = .ok (.iadd, 1) := by decide +kernel
theorem d_O_compress32_30 : decode b_O_compress32 30 = .ok (.baload, 1) := by decide +kernel
theorem d_O_compress32_31 : decode b_O_compress32 31 = .ok (.sipush 255, 3) := by decide +kernel
theorem d_O_compress32_34 : decode b_O_compress32 34 = .ok (.iand, 1) := by decide +kernel
theorem d_O_compress32_35 : decode b_O_compress32 35 = .ok (.ior, 1) := by decide +kernel
theorem d_O_compress32_36 : decode b_O_compress32 36 = .ok (.istore_n 2, 1) := by decide +kernel
theorem d_O_compress32_37 : decode b_O_compress32 37 = .ok (.iinc 3 1, 3) := by decide +kernel
theorem d_O_compress32_40 : decode b_O_compress32 40 = .ok (.goto (-28), 3) := by decide +kernel
theorem d_O_compress32_43 : decode b_O_compress32 43 = .ok (.aload_n 0, 1) := by decide +kernel
theorem d_O_compress32_44 : decode b_O_compress32 44 = .ok (.getfield 56, 3) := by decide +kernel
theorem d_O_compress32_47 : decode b_O_compress32 47 = .ok (.iload_n 1, 1) := by decide +kernel
theorem d_O_compress32_48 : decode b_O_compress32 48 = .ok (.iload_n 2, 1) := by decide +kernel
theorem d_O_compress32_49 : decode b_O_compress32 49 = .ok (.i2l, 1) := by decide +kernel
theorem d_O_compress32_50 : decode b_O_compress32 50 = .ok (.lastore, 1) := by decide +kernel
theorem d_O_compress32_51 : decode b_O_compress32 51 = .ok (.iinc 1 1, 3) := by decide +kernel
theorem d_O_compress32_54 : decode b_O_compress32 54 = .ok (.goto (-52), 3) := by decide +kernel
theorem d_O_compress32_57 : decode b_O_compress32 57 = .ok (.bipush 16, 2) := by decide +kernel
theorem d_O_compress32_59 : decode b_O_compress32 59 = .ok (.istore_n 1, 1) := by decide +kernel
theorem d_O_compress32_60 : decode b_O_compress32 60 = .ok (.iload_n 1, 1) := by decide +kernel
theorem d_O_compress32_61 : decode b_O_compress32 61 = .ok (.bipush 64, 2) := by decide +kernel
theorem d_O_compress32_63 : decode b_O_compress32 63 = .ok (.if_icmp .ge 95, 3) := by decide +kernel
theorem d_O_compress32_66 : decode b_O_compress32 66 = .ok (.aload_n 0, 1) := by decide +kernel
theorem d_O_compress32_67 : decode b_O_compress32 67 = .ok (.getfield 56, 3) := by decide +kernel
theorem d_O_compress32_70 : decode b_O_compress32 70 = .ok (.iload_n 1, 1) := by decide +kernel
theorem d_O_compress32_71 : decode b_O_compress32 71 = .ok (.iconst 2, 1) := by decide +kernel
theorem d_O_compress32_72 : decode b_O_compress32 72 = .ok (.isub, 1) := by decide +kernel
theorem d_O_compress32_73 : decode b_O_compress32 73 = .ok (.laload, 1) := by decide +kernel
theorem d_O_compress32_74 : decode b_O_compress32 74 = .ok (.l2i, 1) := by decide +kernel
theorem d_O_compress32_75 : decode b_O_compress32 75 = .ok (.istore_n 2, 1) := by decide +kernel
theorem d_O_compress32_76 : decode b_O_compress32 76 = .ok (.aload_n 0, 1) := by decide +kernel
theorem d_O_compress32_77 : decode b_O_compress32 77 = .ok (.getfield 56, 3) := by decide +kernel
theorem d_O_compress32_80 : decode b_O_compress32 80 = .ok (.iload_n 1, 1) := by decide +kernel
theorem d_O_compress32_81 : decode b_O_compress32 81 = .ok (.bipush 15, 2) := by decide +kernel
theorem d_O_compress32_83 : decode b_O_compress32 83 = .ok (.isub, 1) := by decide +kernel
theorem d_O_compress32_84 : decode b_O_compress32 84 = .ok (.laload, 1) := by decide +kernel
theorem d_O_compress32_85 : decode b_O_compress32 85 = .ok (.l2i, 1) := by decide +kernel
theorem d_O_compress32_86 : decode b_O_compress32 86 = .ok (.istore_n 3, 1) := by decide +kernel
theorem d_O_compress32_87 : decode b_O_compress32 87 = .ok (.aload_n 0, 1) := by decide +kernel
theorem d_O_compress32_88 : decode b_O_compress32 88 = .ok (.getfield 56, 3) := by decide +kernel
theorem d_O_compress32_91 : decode b_O_compress32 91 = .ok (.iload_n 1, 1) := by decide +kernel
theorem d_O_compress32_92 : decode b_O_compress32 92 = .ok (.iload_n 2, 1) := by decide +kernel
theorem d_O_compress32_93 : decode b_O_compress32 93 = .ok (.bipush 17, 2) := by decide +kernel
theorem d_O_compress32_95 : decode b_O_compress32 95 = .ok (.invokestatic 172, 3) := by decide +kernel
theorem d_O_compress32_98 : decode b_O_compress32 98 = .ok (.iload_n 2, 1) := by decide +kernel
theorem d_O_compress32_99 : decode b_O_compress32 99 = .ok (.bipush 19, 2) := by decide +kernel
theorem d_O_compress32_101 : decode b_O_compress32 101 = .ok (.invokestatic 172, 3) := by decide +kernel
theorem d_O_compress32_104 : decode b_O_compress32 104 = .ok (.ixor, 1) := by decide +kernel
theorem d_O_compress32_105 : decode b_O_compress32 105 = .ok (.iload_n 2, 1) := by decide +kernel
theorem d_O_compress32_106 : decode b_O_compress32 106 = .ok (.bipush 10, 2) := by decide +kernel
theorem d_O_compress32_108 : decode b_O_compress32 108 = .ok (.iushr, 1) := by decide +kernel
theorem d_O_compress32_109 : decode b_O_compress32 109 = .ok (.ixor, 1) := by decide +kernel
theorem d_O_compress32_110 : decode b_O_compress32 110 = .ok (.aload_n 0, 1) := by decide +kernel
theorem d_O_compress32_111 : decode b_O_compress32 111 = .ok (.getfield 56, 3) := by decide +kernel
theorem d_O_compress32_114 : decode b_O_compress32 114 = .ok (.iload_n 1, 1) := by decide +kernel
theorem d_O_compress32_115 : decode b_O_compress32 115 = .ok (.bipush 7, 2) := by decide +kernel
theorem d_O_compress32_117 : decode b_O_compress32 117 = .ok (.isub, 1) := by decide +kernel
theorem d_O_compress32_118 : decode b_O_compress32 118 = .ok (.laload, 1) := by decide +kernel
theorem d_O_compress32_119 : decode b_O_compress32 119 = .ok (.l2i, 1) := by decide +kernel
theorem d_O_compress32_120 : decode b_O_compress32 120 = .ok (.iadd, 1) := by decide +kernel
theorem d_O_compress32_121 : decode b_O_compress32 121 = .ok (.iload_n 3, 1) := by decide +kernel
theorem d_O_compress32_122 : decode b_O_compress32 122 = .ok (.bipush 7, 2) := by decide +kernel
theorem d_O_compress32_124 : decode b_O_compress32 124 = .ok (.invokestatic 172, 3) := by decide +kernel
theorem d_O_compress32_127 : decode b_O_compress32 127 = .ok (.iload_n 3, 1) := by decide +kernel
theorem d_O_compress32_128 : decode b_O_compress32 128 = .ok (.bipush 18, 2) := by decide +kernel
theorem d_O_compress32_130 : decode b_O_compress32 130 = .ok (.invokestatic 172, 3) := by decide +kernel
theorem d_O_compress32_133 : decode b_O_compress32 133 = .ok (.ixor, 1) := by decide +kernel
theorem d_O_compress32_134 : decode b_O_compress32 134 = .ok (.iload_n 3, 1) := by decide +kernel
theorem d_O_compress32_135 : decode b_O_compress32 135 = .ok (.iconst 3, 1) := by decide +kernel
theorem d_O_compress32_136 : decode b_O_compress32 136 = .ok (.iushr, 1) := by decide +kernel
theorem d_O_compress32_137 : decode b_O_compress32 137 = .ok (.ixor, 1) := by decide +kernel
theorem d_O_compress32_138 : decode b_O_compress32 138 = .ok (.iadd, 1) := by decide +kernel
theorem d_O_compress32_139 : decode b_O_compress32 139 = .ok (.aload_n 0, 1) := by decide +kernel
theorem d_O_compress32_140 : decode b_O_compress32 140 = .ok (.getfield 56, 3) := by decide +kernel
theorem d_O_compress32_143 : decode b_O_compress32 143 = .ok (.iload_n 1, 1) := by decide +kernel
theorem d_O_compress32_144 : decode b_O_compress32 144 = .ok (.bipush 16, 2) := by decide +kernel
theorem d_O_compress32_146 : decode b_O_compress32 146 = .ok (.isub, 1) := by decide +kernel
theorem d_O_compress32_147 : decode b_O_compress32 147 = .ok (.laload, 1) := by decide +kernel
theorem d_O_compress32_148 : decode b_O_compress32 148 = .ok (.l2i, 1) := by decide +kernel
theorem d_O_compress32_149 : decode b_O_compress32 149 = .ok (.iadd, 1) := by decide +kernel
theorem d_O_compress32_150 : decode b_O_compress32 150 = .ok (.i2l, 1) := by decide +kernel
theorem d_O_compress32_151 : decode b_O_compress32 151 = .ok (.lastore, 1) := by decide +kernel
theorem d_O_compress32_152 : decode b_O_compress32 152 = .ok (.iinc 1 1, 3) := by decide +kernel
theorem d_O_compress32_155 : decode b_O_compress32 155 = .ok (.goto (-95), 3) := by decide +kernel
theorem d_O_compress32_158 : decode b_O_compress32 158 = .ok (.aload_n 0, 1) := by decide +kernel
theorem d_O_compress32_159 : decode b_O_compress32 159 = .ok (.getfield 47, 3) := by decide +kernel
theorem d_O_compress32_162 : decode b_O_compress32 162 = .ok (.iconst 0, 1) := by decide +kernel
theorem d_O_compress32_163 : decode b_O_compress32 163 = .ok (.laload, 1) := by decide +kernel
theorem d_O_compress32_164 : decode b_O_compress32 164 = .ok (.l2i, 1) := by decide +kernel
theorem d_O_compress32_165 : decode b_O_compress32 165 = .ok (.istore_n 1, 1) := by decide +kernel
theorem d_O_compress32_166 : decode b_O_compress32 166 = .ok (.aload_n 0, 1) := by decide +kernel
theorem d_O_compress32_167 : decode b_O_compress32 167 = .ok (.getfield 47, 3) := by decide +kernel
theorem d_O_compress32_170 : decode b_O_compress32 170 = .ok (.iconst 1, 1) := by decide +kernel
theorem d_O_compress32_171 : decode b_O_compress32 171 = .ok (.laload, 1) := by decide +kernel
theorem d_O_compress32_172 : decode b_O_compress32 172 = .ok (.l2i, 1) := by decide +kernel
theorem d_O_compress32_173 : decode b_O_compress32 173 = .ok (.istore_n 2, 1) := by decide +kernel
theorem d_O_compress32_174 : decode b_O_compress32 174 = .ok (.aload_n 0, 1) := by decide +kernel
theorem d_O_compress32_175 : decode b_O_compress32 175 = .ok (.getfield 47, 3) := by decide +kernel
theorem d_O_compress32_178 : decode b_O_compress32 178 = .ok (.iconst 2, 1) := by decide +kernel
theorem d_O_compress32_179 : decode b_O_compress32 179 = .ok (.laload, 1) := by decide +kernel
end
section
theorem d_O_compress32_180 : decode b_O_compress32 180 = .ok (.l2i, 1) := by decide +kernel
theorem d_O_compress32_181 : decode b_O_compress32 181 = .ok (.istore_n 3, 1) := by decide +kernel
theorem d_O_compress32_182 : decode b_O_compress32 182 = .ok (.aload_n 0, 1) := by decide +kernel
theorem d_O_compress32_183 : decode b_O_compress32 183 = .ok (.getfield 47, 3) := by decide +kernel
theorem d_O_compress32_186 : decode b_O_compress32 186 = .ok (.iconst 3, 1) := by decide +kernel
theorem d_O_compress32_187 : decode b_O_compress32 187 = .ok (.laload, 1) := by decide +kernel
theorem d_O_compress32_188 : decode b_O_compress32 188 = .ok (.l2i, 1) := by decide +kernel
theorem d_O_compress32_189 : decode b_O_compress32 189 = .ok (.istore 4, 2) := by decide +kernel
theorem d_O_compress32_191 : decode b_O_compress32 191 = .ok (.aload_n 0, 1) := by decide +kernel
theorem d_O_compress32_192 : decode b_O_compress32 192 = .ok (.getfield 47, 3) := by decide +kernel
theorem d_O_compress32_195 : decode b_O_compress32 195 = .ok (.iconst 4, 1) := by decide +kernel
theorem d_O_compress32_196 : decode b_O_compress32 196 = .ok (.laload, 1) := by decide +kernel
theorem d_O_compress32_197 : decode b_O_compress32 197 = .ok (.l2i, 1) := by decide +kernel
theorem d_O_compress32_198 : decode b_O_compress32 198 = .ok (.istore 5, 2) := by decide +kernel
theorem d_O_compress32_200 : decode b_O_compress32 200 = .ok (.aload_n 0, 1) := by decide +kernel
theorem d_O_compress32_201 : decode b_O_compress32 201 = .ok (.getfield 47, 3) := by decide +kernel
theorem d_O_compress32_204 : decode b_O_compress32 204 = .ok (.iconst 5, 1) := by decide +kernel
theorem d_O_compress32_205 : decode b_O_compress32 205 = .ok (.laload, 1) := by decide +kernel
theorem d_O_compress32_206 : decode b_O_compress32 206 = .ok (.l2i, 1) := by decide +kernel
theorem d_O_compress32_207 : decode b_O_compress32 207 = .ok (.istore 6, 2) := by decide +kernel
theorem d_O_compress32_209 : decode b_O_compress32 209 = .ok (.aload_n 0, 1) := by decide +kernel
theorem d_O_compress32_210 : decode b_O_compress32 210 = .ok (.getfield 47, 3) := by decide +kernel
theorem d_O_compress32_213 : decode b_O_compress32 213 = .ok (.bipush 6, 2) := by decide +kernel
theorem d_O_compress32_215 : decode b_O_compress32 215 = .ok (.laload, 1) := by decide +kernel
theorem d_O_compress32_216 : decode b_O_compress32 216 = .ok (.l2i, 1) := by decide +kernel
theorem d_O_compress32_217 : decode b_O_compress32 217 = .ok (.istore 7, 2) := by decide +kernel
theorem d_O_compress32_219 : decode b_O_compress32 219 = .ok (.aload_n 0, 1) := by decide +kernel
theorem d_O_compress32_220 : decode b_O_compress32 220 = .ok (.getfield 47, 3) := by decide +kernel
theorem d_O_compress32_223 : decode b_O_compress32 223 = .ok (.bipush 7, 2) := by decide +kernel
theorem d_O_compress32_225 : decode b_O_compress32 225 = .ok (.laload, 1) := by decide +kernel
theorem d_O_compress32_226 : decode b_O_compress32 226 = .ok (.l2i, 1) := by decide +kernel
theorem d_O_compress32_227 : decode b_O_compress32 227 = .ok (.istore 8, 2) := by decide +kernel
theorem d_O_compress32_229 : decode b_O_compress32 229 = .ok (.iconst 0, 1) := by decide +kernel
theorem d_O_compress32_230 : decode b_O_compress32 230 = .ok (.istore 9, 2) := by decide +kernel
theorem d_O_compress32_232 : decode b_O_compress32 232 = .ok (.iload 9, 2) := by decide +kernel
theorem d_O_compress32_234 : decode b_O_compress32 234 = .ok (.bipush 64, 2) := by decide +kernel
theorem d_O_compress32_236 : decode b_O_compress32 236 = .ok (.if_icmp .ge 137, 3) := by decide +kernel
theorem d_O_compress32_239 : decode b_O_compress32 239 = .ok (.iload 8, 2) := by decide +kernel
theorem d_O_compress32_241 : decode b_O_compress32 241 = .ok (.iload 5, 2) := by decide +kernel
theorem d_O_compress32_243 : decode b_O_compress32 243 = .ok (.bipush 6, 2) := by decide +kernel
theorem d_O_compress32_245 : decode b_O_compress32 245 = .ok (.invokestatic 172, 3) := by decide +kernel
theorem d_O_compress32_248 : decode b_O_compress32 248 = .ok (.iload 5, 2) := by decide +kernel
theorem d_O_compress32_250 : decode b_O_compress32 250 = .ok (.bipush 11, 2) := by decide +kernel
theorem d_O_compress32_252 : decode b_O_compress32 252 = .ok (.invokestatic 172, 3) := by decide +kernel
theorem d_O_compress32_255 : decode b_O_compress32 255 = .ok (.ixor, 1) := by decide +kernel
theorem d_O_compress32_256 : decode b_O_compress32 256 = .ok (.iload 5, 2) := by decide +kernel
theorem d_O_compress32_258 : decode b_O_compress32 258 = .ok (.bipush 25, 2) := by decide +kernel
theorem d_O_compress32_260 : decode b_O_compress32 260 = .ok (.invokestatic 172, 3) := by decide +kernel
theorem d_O_compress32_263 : decode b_O_compress32 263 = .ok (.ixor, 1) := by decide +kernel
theorem d_O_compress32_264 : decode b_O_compress32 264 = .ok (.iadd, 1) := by decide +kernel
theorem d_O_compress32_265 : decode b_O_compress32 265 = .ok (.iload 5, 2) := by decide +kernel
theorem d_O_compress32_267 : decode b_O_compress32 267 = .ok (.iload 6, 2) := by decide +kernel
theorem d_O_compress32_269 : decode b_O_compress32 269 = .ok (.iand, 1) := by decide +kernel
theorem d_O_compress32_270 : decode b_O_compress32 270 = .ok (.iload 5, 2) := by decide +kernel
theorem d_O_compress32_272 : decode b_O_compress32 272 = .ok (.iconst (-1), 1) := by decide +kernel
theorem d_O_compress32_273 : decode b_O_compress32 273 = .ok (.ixor, 1) := by decide +kernel
theorem d_O_compress32_274 : decode b_O_compress32 274 = .ok (.iload 7, 2) := by decide +kernel
theorem d_O_compress32_276 : decode b_O_compress32 276 = .ok (.iand, 1) := by decide +kernel
theorem d_O_compress32_277 : decode b_O_compress32 277 = .ok (.ixor, 1) := by decide +kernel
theorem d_O_compress32_278 : decode b_O_compress32 278 = .ok (.iadd, 1) := by decide +kernel
theorem d_O_compress32_279 : decode b_O_compress32 279 = .ok (.aload_n 0, 1) := by decide +kernel
theorem d_O_compress32_280 : decode b_O_compress32 280 = .ok (.getfield 26, 3) := by decide +kernel
theorem d_O_compress32_283 : decode b_O_compress32 283 = .ok (.iload 9, 2) := by decide +kernel
theorem d_O_compress32_285 : decode b_O_compress32 285 = .ok (.laload, 1) := by decide +kernel
theorem d_O_compress32_286 : decode b_O_compress32 286 = .ok (.bipush 32, 2) := by decide +kernel
theorem d_O_compress32_288 : decode b_O_compress32 288 = .ok (.lushr, 1) := by decide +kernel
theorem d_O_compress32_289 : decode b_O_compress32 289 = .ok (.l2i, 1) := by decide +kernel
theorem d_O_compress32_290 : decode b_O_compress32 290 = .ok (.iadd, 1) := by decide +kernel
theorem d_O_compress32_291 : decode b_O_compress32 291 = .ok (.aload_n 0, 1) := by decide +kernel
theorem d_O_compress32_292 : decode b_O_compress32 292 = .ok (.getfield 56, 3) := by decide +kernel
theorem d_O_compress32_295 : decode b_O_compress32 295 = .ok (.iload 9, 2) := by decide +kernel
theorem d_O_compress32_297 : decode b_O_compress32 297 = .ok (.laload, 1) := by decide +kernel
theorem d_O_compress32_298 : decode b_O_compress32 298 = .ok (.l2i, 1) := by decide +kernel
theorem d_O_compress32_299 : decode b_O_compress32 299 = .ok (.iadd, 1) := by decide +kernel
theorem d_O_compress32_300 : decode b_O_compress32 300 = .ok (.istore 10, 2) := by decide +kernel
theorem d_O_compress32_302 : decode b_O_compress32 302 = .ok (.iload_n 1, 1) := by decide +kernel
theorem d_O_compress32_303 : decode b_O_compress32 303 = .ok (.iconst 2, 1) := by decide +kernel
theorem d_O_compress32_304 : decode b_O_compress32 304 = .ok (.invokestatic 172, 3) := by decide +kernel
theorem d_O_compress32_307 : decode b_O_compress32 307 = .ok (.iload_n 1, 1) := by decide +kernel
theorem d_O_compress32_308 : decode b_O_compress32 308 = .ok (.bipush 13, 2) := by decide +kernel
theorem d_O_compress32_310 : decode b_O_compress32 310 = .ok (.invokestatic 172, 3) := by decide +kernel
theorem d_O_compress32_313 : decode b_O_compress32 313 = .ok (.ixor, 1) := by decide +kernel
theorem d_O_compress32_314 : decode b_O_compress32 314 = .ok (.iload_n 1, 1) := by decide +kernel
theorem d_O_compress32_315 : decode b_O_compress32 315 = .ok (.bipush 22, 2) := by decide +kernel
theorem d_O_compress32_317 : decode b_O_compress32 317 = .ok (.invokestatic 172, 3) := by decide +kernel
theorem d_O_compress32_320 : decode b_O_compress32 320 = .ok (.ixor, 1) := by decide +kernel
theorem d_O_compress32_321 : decode b_O_compress32 321 = .ok (.iload_n 1, 1) := by decide +kernel
theorem d_O_compress32_322 : decode b_O_compress32 322 = .ok (.iload_n 2, 1) := by decide +kernel
theorem d_O_compress32_323 : decode b_O_compress32 323 = .ok (.iand, 1) := by decide +kernel
theorem d_O_compress32_324 : decode b_O_compress32 324 = .ok (.iload_n 1, 1) := by decide +kernel
theorem d_O_compress32_325 : decode b_O_compress32 325 = .ok (.iload_n 3, 1) := by decide +kernel
theorem d_O_compress32_326 : decode b_O_compress32 326 = .ok (.iand, 1) := by decide +kernel
theorem d_O_compress32_327 : decode b_O_compress32 327 = .ok (.ixor, 1) := by decide +kernel
theorem d_O_compress32_328 : decode b_O_compress32 328 = .ok (.iload_n 2, 1) := by decide +kernel
theorem d_O_compress32_329 : decode b_O_compress32 329 = .ok (.iload_n 3, 1) := by decide +kernel
theorem d_O_compress32_330 : decode b_O_compress32 330 = .ok (.iand, 1) := by decide +kernel
theorem d_O_compress32_331 : decode b_O_compress32 331 = .ok (.ixor, 1) := by decide +kernel
theorem d_O_compress32_332 : decode b_O_compress32 332 = .ok (.iadd, 1) := by decide +kernel
theorem d_O_compress32_333 : decode b_O_compress32 333 = .ok (.istore 11, 2) := by decide +kernel
theorem d_O_compress32_335 : decode b_O_compress32 335 = .ok (.iload 7, 2) := by decide +kernel
theorem d_O_compress32_337 : decode b_O_compress32 337 = .ok (.istore 8, 2) := by decide +kernel
theorem d_O_compress32_339 : decode b_O_compress32 339 = .ok (.iload 6, 2) := by decide +kernel
theorem d_O_compress32_341 : decode b_O_compress32 341 = .ok (.istore 7, 2) := by decide +kernel
theorem d_O_compress32_343 : decode b_O_compress32 343 = .ok (.iload 5, 2) := by decide +kernel
theorem d_O_compress32_345 : decode b_O_compress32 345 = .ok (.istore 6, 2) := by decide +kernel
theorem d_O_compress32_347 : decode b_O_compress32 347 = .ok (.iload 4, 2) := by decide +kernel
theorem d_O_compress32_349 : decode b_O_compress32 349 = .ok (.iload 10, 2) := by decide +kernel
theorem d_O_compress32_351 : decode b_O_compress32 351 = .ok (.iadd, 1) := by decide +kernel
theorem d_O_compress32_352 : decode b_O_compress32 352 = .ok (.istore 5, 2) := by decide +kernel
theorem d_O_compress32_354 : decode b_O_compress32 354 = .ok (.iload_n 3, 1) := by decide +kernel
theorem d_O_compress32_355 : decode b_O_compress32 355 = .ok (.istore 4, 2) := by decide +kernel
theorem d_O_compress32_357 : decode b_O_compress32 357 = .ok (.iload_n 2, 1) := by decide +kernel
theorem d_O_compress32_358 : decode b_O_compress32 358 = .ok (.istore_n 3, 1) := by decide +kernel
theorem d_O_compress32_359 : decode b_O_compress32 359 = .ok (.iload_n 1, 1) := by decide +kernel
theorem d_O_compress32_360 : decode b_O_compress32 360 = .ok (.istore_n 2, 1) := by decide +kernel
theorem d_O_compress32_361 : decode b_O_compress32 361 = .ok (.iload 10, 2) := by decide +kernel
theorem d_O_compress32_363 : decode b_O_compress32 363 = .ok (.iload 11, 2) := by decide +kernel
theorem d_O_compress32_365 : decode b_O_compress32 365 = .ok (.iadd, 1) := by decide +kernel
theorem d_O_compress32_366 : decode b_O_compress32 366 = .ok (.istore_n 1, 1) := by decide +kernel
theorem d_O_compress32_367 : decode b_O_compress32 367 = .ok (.iinc 9 1, 3) := by decide +kernel
theorem d_O_compress32_370 : decode b_O_compress32 370 = .ok (.goto (-138), 3) := by decide +kernel
theorem d_O_compress32_373 : decode b_O_compress32 373 = .ok (.aload_n 0, 1) := by decide +kernel
theorem d_O_compress32_374 : decode b_O_compress32 374 = .ok (.getfield 47, 3) := by decide +kernel
theorem d_O_compress32_377 : decode b_O_compress32 377 = .ok (.iconst 0, 1) := by decide +kernel
theorem d_O_compress32_378 : decode b_O_compress32 378 = .ok (.dup2, 1) := by decide +kernel
theorem d_O_compress32_379 : decode b_O_compress32 379 = .ok (.laload, 1) := by decide +kernel
theorem d_O_compress32_380 : decode b_O_compress32 380 = .ok (.iload_n 1, 1) := by decide +kernel
theorem d_O_compress32_381 : decode b_O_compress32 381 = .ok (.i2l, 1) := by decide +kernel
theorem d_O_compress32_382 : decode b_O_compress32 382 = .ok (.ladd, 1) := by decide +kernel
theorem d_O_compress32_383 : decode b_O_compress32 383 = .ok (.lastore, 1) := by decide +kernel
theorem d_O_compress32_384 : decode b_O_compress32 384 = .ok (.aload_n 0, 1) := by decide +kernel
theorem d_O_compress32_385 : decode b_O_compress32 385 = .ok (.getfield 47, 3) := by decide +kernel
theorem d_O_compress32_388 : decode b_O_compress32 388 = .ok (.iconst 1, 1) := by decide +kernel
theorem d_O_compress32_389 : decode b_O_compress32 389 = .ok (.dup2, 1) := by decide +kernel
theorem d_O_compress32_390 : decode b_O_compress32 390 = .ok (.laload, 1) := by decide +kernel
theorem d_O_compress32_391 : decode b_O_compress32 391 = .ok (.iload_n 2, 1) := by decide +kernel
theorem d_O_compress32_392 : decode b_O_compress32 392 = .ok (.i2l, 1) := by decide +kernel
theorem d_O_compress32_393 : decode b_O_compress32 393 = .ok (.ladd, 1) := by decide +kernel
theorem d_O_compress32_394 : decode b_O_compress32 394 = .ok (.lastore, 1) := by decide +kernel
theorem d_O_compress32_395 : decode b_O_compress32 395 = .ok (.aload_n 0, 1) := by decide +kernel
theorem d_O_compress32_396 : decode b_O_compress32 396 = .ok (.getfield 47, 3) := by decide +kernel
theorem d_O_compress32_399 : decode b_O_compress32 399 = .ok (.iconst 2, 1) := by decide +kernel
theorem d_O_compress32_400 : decode b_O_compress32 400 = .ok (.dup2, 1) := by decide +kernel
theorem d_O_compress32_401 : decode b_O_compress32 401 = .ok (.laload, 1) := by decide +kernel
theorem d_O_compress32_402 : decode b_O_compress32 402 = .ok (.iload_n 3, 1) := by decide +kernel
theorem d_O_compress32_403 : decode b_O_compress32 403 = .ok (.i2l, 1) := by decide +kernel
theorem d_O_compress32_404 : decode b_O_compress32 404 = .ok (.ladd, 1) := by decide +kernel
theorem d_O_compress32_405 : decode b_O_compress32 405 = .ok (.lastore, 1) := by decide +kernel
theorem d_O_compress32_406 : decode b_O_compress32 406 = .ok (.aload_n 0, 1) := by decide +kernel
theorem d_O_compress32_407 : decode b_O_compress32 407 = .ok (.getfield 47, 3) := by decide +kernel
theorem d_O_compress32_410 : decode b_O_compress32 410 = .ok (.iconst 3, 1) := by decide +kernel
theorem d_O_compress32_411 : decode b_O_compress32 411 = .ok (.dup2, 1) := by decide +kernel
theorem d_O_compress32_412 : decode b_O_compress32 412 = .ok (.laload, 1) := by decide +kernel
theorem d_O_compress32_413 : decode b_O_compress32 413 = .ok (.iload 4, 2) := by decide +kernel
theorem d_O_compress32_415 : decode b_O_compress32 415 = .ok (.i2l, 1) := by decide +kernel
theorem d_O_compress32_416 : decode b_O_compress32 416 = .ok (.ladd, 1) := by decide +kernel
theorem d_O_compress32_417 : decode b_O_compress32 417 = .ok (.lastore, 1) := by decide +kernel
theorem d_O_compress32_418 : decode b_O_compress32 418 = .ok (.aload_n 0, 1) := by decide +kernel
theorem d_O_compress32_419 : decode b_O_compress32 419 = .ok (.getfield 47, 3) := by decide +kernel
theorem d_O_compress32_422 : decode b_O_compress32 422 = .ok (.iconst 4, 1) := by decide +kernel
theorem d_O_compress32_423 : decode b_O_compress32 423 = .ok (.dup2, 1) := by decide +kernel
theorem d_O_compress32_424 : decode b_O_compress32 424 = .ok (.laload, 1) := by decide +kernel
theorem d_O_compress32_425 : decode b_O_compress32 425 = .ok (.iload 5, 2) := by decide +kernel
theorem d_O_compress32_427 : decode b_O_compress32 427 = .ok (.i2l, 1) := by decide +kernel
theorem d_O_compress32_428 : decode b_O_compress32 428 = .ok (.ladd, 1) := by decide +kernel
theorem d_O_compress32_429 : decode b_O_compress32 429 = .ok (.lastore, 1) := by decide +kernel
theorem d_O_compress32_430 : decode b_O_compress32 430 = .ok (.aload_n 0, 1) := by decide +kernel
theorem d_O_compress32_431 : decode b_O_compress32 431 = .ok (.getfield 47, 3) := by decide +kernel
theorem d_O_compress32_434 : decode b_O_compress32 434 = .ok (.iconst 5, 1) := by decide +kernel
theorem d_O_compress32_435 : decode b_O_compress32 435 = .ok (.dup2, 1) := by decide +kernel
theorem d_O_compress32_436 : decode b_O_compress32 436 = .ok (.laload, 1) := by decide +kernel
theorem d_O_compress32_437 : decode b_O_compress32 437 = .ok (.iload 6, 2) := by decide +kernel
theorem d_O_compress32_439 : decode b_O_compress32 439 = .ok (.i2l, 1) := by decide +kernel
theorem d_O_compress32_440 : decode b_O_compress32 440 = .ok (.ladd, 1) := by decide +kernel
theorem d_O_compress32_441 : decode b_O_compress32 441 = .ok (.lastore, 1) := by decide +kernel
theorem d_O_compress32_442 : decode b_O_compress32 442 = .ok (.aload_n 0, 1) := by decide +kernel
theorem d_O_compress32_443 : decode b_O_compress32 443 = .ok (.getfield 47, 3) := by decide +kernel
theorem d_O_compress32_446 : decode b_O_compress32 446 = .ok (.bipush 6, 2) := by decide +kernel
theorem d_O_compress32_448 : decode b_O_compress32 448 = .ok (.dup2, 1) := by decide +kernel
theorem d_O_compress32_449 : decode b_O_compress32 449 = .ok (.laload, 1) := by decide +kernel
theorem d_O_compress32_450 : decode b_O_compress32 450 = .ok (.iload 7, 2) := by decide +kernel
theorem d_O_compress32_452 : decode b_O_compress32 452 = .ok (.i2l, 1) := by decide +kernel
theorem d_O_compress32_453 : decode b_O_compress32 453 = .ok (.ladd, 1) := by decide +kernel
theorem d_O_compress32_454 : decode b_O_compress32 454 = .ok (.lastore, 1) := by decide +kernel
theorem d_O_compress32_455 : decode b_O_compress32 455 = .ok (.aload_n 0, 1) := by decide +kernel
theorem d_O_compress32_456 : decode b_O_compress32 456 = .ok (.getfield 47, 3) := by decide +kernel
theorem d_O_compress32_459 : decode b_O_compress32 459 = .ok (.bipush 7, 2) := by decide +kernel
theorem d_O_compress32_461 : decode b_O_compress32 461 = .ok (.dup2, 1) := by decide +kernel
theorem d_O_compress32_462 : decode b_O_compress32 462 = .ok (.laload, 1) := by decide +kernel
theorem d_O_compress32_463 : decode b_O_compress32 463 = .ok (.iload 8, 2) := by decide +kernel
theorem d_O_compress32_465 : decode b_O_compress32 465 = .ok (.i2l, 1) := by decide +kernel
theorem d_O_compress32_466 : decode b_O_compress32 466 = .ok (.ladd, 1) := by decide +kernel
theorem d_O_compress32_467 : decode b_O_compress32 467 = .ok (.lastore, 1) := by decide +kernel
theorem d_O_compress32_468 : decode b_O_compress32 468 = .ok (.return_, 1) := by decide +kernel
theorem d_O_turn_0 : decode b_O_turn 0 = .ok (.iload_n 0, 1) := by decide +kernel
theorem d_O_turn_1 : decode b_O_turn 1 = .ok (.iload_n 1, 1) := by decide +kernel
theorem d_O_turn_2 : decode b_O_turn 2 = .ok (.iushr, 1) := by decide +kernel
theorem d_O_turn_3 : decode b_O_turn 3 = .ok (.iload_n 0, 1) := by decide +kernel
theorem d_O_turn_4 : decode b_O_turn 4 = .ok (.bipush 32, 2) := by decide +kernel
theorem d_O_turn_6 : decode b_O_turn 6 = .ok (.iload_n 1, 1) := by decide +kernel
theorem d_O_turn_7 : decode b_O_turn 7 = .ok (.isub, 1) := by decide +kernel
theorem d_O_turn_8 : decode b_O_turn 8 = .ok (.ishl, 1) := by decide +kernel
theorem d_O_turn_9 : decode b_O_turn 9 = .ok (.ior, 1) := by decide +kernel
theorem d_O_turn_10 : decode b_O_turn 10 = .ok (.ireturn, 1) := by decide +kernel
theorem d_O_compress64_0 : decode b_O_compress64 0 = .ok (.iconst 0, 1) := by decide +kernel
theorem d_O_compress64_1 : decode b_O_compress64 1 = .ok (.istore_n 1, 1) := by decide +kernel
theorem d_O_compress64_2 : decode b_O_compress64 2 = .ok (.iload_n 1, 1) := by decide +kernel
theorem d_O_compress64_3 : decode b_O_compress64 3 = .ok (.bipush 16, 2) := by decide +kernel
theorem d_O_compress64_5 : decode b_O_compress64 5 = .ok (.if_icmp .ge 62, 3) := by decide +kernel
theorem d_O_compress64_8 : decode b_O_compress64 8 = .ok (.aload_n 0, 1) := by decide +kernel
theorem d_O_compress64_9 : decode b_O_compress64 9 = .ok (.getfield 56, 3) := by decide +kernel
theorem d_O_compress64_12 : decode b_O_compress64 12 = .ok (.iload_n 1, 1) := by decide +kernel
theorem d_O_compress64_13 : decode b_O_compress64 13 = .ok (.lconst 0, 1) := by decide +kernel
theorem d_O_compress64_14 : decode b_O_compress64 14 = .ok (.lastore, 1) := by decide +kernel
theorem d_O_compress64_15 : decode b_O_compress64 15 = .ok (.iconst 0, 1) := by decide +kernel
theorem d_O_compress64_16 : decode b_O_compress64 16 = .ok (.istore_n 2, 1) := by decide +kernel
theorem d_O_compress64_17 : decode b_O_compress64 17 = .ok (.iload_n 2, 1) := by decide +kernel
theorem d_O_compress64_18 : decode b_O_compress64 18 = .ok (.bipush 8, 2) := by decide +kernel
theorem d_O_compress64_20 : decode b_O_compress64 20 = .ok (.if_icmp .ge 41, 3) := by decide +kernel
theorem d_O_compress64_23 : decode b_O_compress64 23 = .ok (.aload_n 0, 1) := by decide +kernel
theorem d_O_compress64_24 : decode b_O_compress64 24 = .ok (.getfield 56, 3) := by decide +kernel
theorem d_O_compress64_27 : decode b_O_compress64 27 = .ok (.iload_n 1, 1) := by decide +kernel
theorem d_O_compress64_28 : decode b_O_compress64 28 = .ok (.aload_n 0, 1) := by decide +kernel
theorem d_O_compress64_29 : decode b_O_compress64 29 = .ok (.getfield 56, 3) := by decide +kernel
theorem d_O_compress64_32 : decode b_O_compress64 32 = .ok (.iload_n 1, 1) := by decide +kernel
theorem d_O_compress64_33 : decode b_O_compress64 33 = .ok (.laload, 1) := by decide +kernel
theorem d_O_compress64_34 : decode b_O_compress64 34 = .ok (.bipush 8, 2) := by decide +kernel
theorem d_O_compress64_36 : decode b_O_compress64 36 = .ok (.lshl, 1) := by decide +kernel
theorem d_O_compress64_37 : decode b_O_compress64 37 = .ok (.aload_n 0, 1) := by decide +kernel
theorem d_O_compress64_38 : decode b_O_compress64 38 = .ok (.getfield 59, 3) := by decide +kernel
theorem d_O_compress64_41 : decode b_O_compress64 41 = .ok (.bipush 8, 2) := by decide +kernel
theorem d_O_compress64_43 : decode b_O_compress64 43 = .ok (.iload_n 1, 1) := by decide +kernel
theorem d_O_compress64_44 : decode b_O_compress64 44 = .ok (.imul, 1) := by decide +kernel
theorem d_O_compress64_45 : decode b_O_compress64 45 = .ok (.iload_n 2, 1) := by decide +kernel
theorem d_O_compress64_46 : decode b_O_compress64 46 = .ok (.iadd, 1) := by decide +kernel
theorem d_O_compress64_47 : decode b_O_compress64 47 = .ok (.baload, 1) := by decide +kernel
theorem d_O_compress64_48 : decode b_O_compress64 48 = .ok (.i2l, 1) := by decide +kernel
theorem d_O_compress64_49 : decode b_O_compress64 49 = .ok (.ldc2_w 90, 3) := by decide +kernel
theorem d_O_compress64_52 : decode b_O_compress64 52 = .ok (.land, 1) := by decide +kernel
theorem d_O_compress64_53 : decode b_O_compress64 53 = .ok (.lor, 1) := by decide +kernel
theorem d_O_compress64_54 : decode b_O_compress64 54 = .ok (.lastore, 1) := by decide +kernel
theorem d_O_compress64_55 : decode b_O_compress64 55 = .ok (.iinc 2 1, 3) := by decide +kernel
theorem d_O_compress64_58 : decode b_O_compress64 58 = .ok (.goto (-41), 3) := by decide +kernel
theorem d_O_compress64_61 : decode b_O_compress64 61 = .ok (.iinc 1 1, 3) := by decide +kernel
theorem d_O_compress64_64 : decode b_O_compress64 64 = .ok (.goto (-62), 3) := by decide +kernel
theorem d_O_compress64_67 : decode b_O_compress64 67 = .ok (.bipush 16, 2) := by decide +kernel
theorem d_O_compress64_69 : decode b_O_compress64 69 = .ok (.istore_n 1, 1) := by decide +kernel
theorem d_O_compress64_70 : decode b_O_compress64 70 = .ok (.iload_n 1, 1) := by decide +kernel
theorem d_O_compress64_71 : decode b_O_compress64 71 = .ok (.bipush 80, 2) := by decide +kernel
theorem d_O_compress64_73 : decode b_O_compress64 73 = .ok (.if_icmp .ge 94, 3) := by decide +kernel
theorem d_O_compress64_76 : decode b_O_compress64 76 = .ok (.aload_n 0, 1) := by decide +kernel
theorem d_O_compress64_77 : decode b_O_compress64 77 = .ok (.getfield 56, 3) := by decide +kernel
theorem d_O_compress64_80 : decode b_O_compress64 80 = .ok (.iload_n 1, 1) := by decide +kernel
theorem d_O_compress64_81 : decode b_O_compress64 81 = .ok (.iconst 2, 1) := by decide +kernel
theorem d_O_compress64_82 : decode b_O_compress64 82 = .ok (.isub, 1) := by decide +kernel
theorem d_O_compress64_83 : decode b_O_compress64 83 = .ok (.laload, 1) := by decide +kernel
theorem d_O_compress64_84 : decode b_O_compress64 84 = .ok (.lstore_n 2, 1) := by decide +kernel
theorem d_O_compress64_85 : decode b_O_compress64 85 = .ok (.aload_n 0, 1) := by decide +kernel
theorem d_O_compress64_86 : decode b_O_compress64 86 = .ok (.getfield 56, 3) := by decide +kernel
theorem d_O_compress64_89 : decode b_O_compress64 89 = .ok (.iload_n 1, 1) := by decide +kernel
theorem d_O_compress64_90 : decode b_O_compress64 90 = .ok (.bipush 15, 2) := by decide +kernel
theorem d_O_compress64_92 : decode b_O_compress64 92 = .ok (.isub, 1) := by decide +kernel
theorem d_O_compress64_93 : decode b_O_compress64 93 = .ok (.laload, 1) := by decide +kernel
theorem d_O_compress64_94 : decode b_O_compress64 94 = .ok (.lstore 4, 2) := by decide +kernel
theorem d_O_compress64_96 : decode b_O_compress64 96 = .ok (.aload_n 0, 1) := by decide +kernel
theorem d_O_compress64_97 : decode b_O_compress64 97 = .ok (.getfield 56, 3) := by decide +kernel
theorem d_O_compress64_100 : decode b_O_compress64 100 = .ok (.iload_n 1, 1) := by decide +kernel
theorem d_O_compress64_101 : decode b_O_compress64 101 = .ok (.lload_n 2, 1) := by decide +kernel
theorem d_O_compress64_102 : decode b_O_compress64 102 = .ok (.bipush 19, 2) := by decide +kernel
theorem d_O_compress64_104 : decode b_O_compress64 104 = .ok (.invokestatic 169, 3) := by decide +kernel
theorem d_O_compress64_107 : decode b_O_compress64 107 = .ok (.lload_n 2, 1) := by decide +kernel
theorem d_O_compress64_108 : decode b_O_compress64 108 = .ok (.bipush 61, 2) := by decide +kernel
theorem d_O_compress64_110 : decode b_O_compress64 110 = .ok (.invokestatic 169, 3) := by decide +kernel
theorem d_O_compress64_113 : decode b_O_compress64 113 = .ok (.lxor, 1) := by decide +kernel
theorem d_O_compress64_114 : decode b_O_compress64 114 = .ok (.lload_n 2, 1) := by decide +kernel
theorem d_O_compress64_115 : decode b_O_compress64 115 = .ok (.bipush 6, 2) := by decide +kernel
theorem d_O_compress64_117 : decode b_O_compress64 117 = .ok (.lushr, 1) := by decide +kernel
theorem d_O_compress64_118 : decode b_O_compress64 118 = .ok (.lxor, 1) := by decide +kernel
theorem d_O_compress64_119 : decode b_O_compress64 119 = .ok (.aload_n 0, 1) := by decide +kernel
theorem d_O_compress64_120 : decode b_O_compress64 120 = .ok (.getfield 56, 3) := by decide +kernel
theorem d_O_compress64_123 : decode b_O_compress64 123 = .ok (.iload_n 1, 1) := by decide +kernel
theorem d_O_compress64_124 : decode b_O_compress64 124 = .ok (.bipush 7, 2) := by decide +kernel
theorem d_O_compress64_126 : decode b_O_compress64 126 = .ok (.isub, 1) := by decide +kernel
theorem d_O_compress64_127 : decode b_O_compress64 127 = .ok (.laload, 1) := by decide +kernel
theorem d_O_compress64_128 : decode b_O_compress64 128 = .ok (.ladd, 1) := by decide +kernel
theorem d_O_compress64_129 : decode b_O_compress64 129 = .ok (.lload 4, 2) := by decide +kernel
theorem d_O_compress64_131 : decode b_O_compress64 131 = .ok (.iconst 1, 1) := by decide +kernel
theorem d_O_compress64_132 : decode b_O_compress64 132 = .ok (.invokestatic 169, 3) := by decide +kernel
theorem d_O_compress64_135 : decode b_O_compress64 135 = .ok (.lload 4, 2) := by decide +kernel
theorem d_O_compress64_137 : decode b_O_compress64 137 = .ok (.bipush 8, 2) := by decide +kernel
theorem d_O_compress64_139 : decode b_O_compress64 139 = .ok (.invokestatic 169, 3) := by decide +kernel
theorem d_O_compress64_142 : decode b_O_compress64 142 = .ok (.lxor, 1) := by decide +kernel
theorem d_O_compress64_143 : decode b_O_compress64 143 = .ok (.lload 4, 2) := by decide +kernel
theorem d_O_compress64_145 : decode b_O_compress64 145 = .ok (.bipush 7, 2) := by decide +kernel
theorem d_O_compress64_147 : decode b_O_compress64 147 = .ok (.lushr, 1) := by decide +kernel
theorem d_O_compress64_148 : decode b_O_compress64 148 = .ok (.lxor, 1) := by decide +kernel
theorem d_O_compress64_149 : decode b_O_compress64 149 = .ok (.ladd, 1) := by decide +kernel
theorem d_O_compress64_150 : decode b_O_compress64 150 = .ok (.aload_n 0, 1) := by decide +kernel
theorem d_O_compress64_151 : decode b_O_compress64 151 = .ok (.getfield 56, 3) := by decide +kernel
theorem d_O_compress64_154 : decode b_O_compress64 154 = .ok (.iload_n 1, 1) := by decide +kernel
end
section
theorem d_O_compress64_155 : decode b_O_compress64 155 = .ok (.bipush 16, 2) := by decide +kernel
theorem d_O_compress64_157 : decode b_O_compress64 157 = .ok (.isub, 1) := by decide +kernel
theorem d_O_compress64_158 : decode b_O_compress64 158 = .ok (.laload, 1) := by decide +kernel
theorem d_O_compress64_159 : decode b_O_compress64 159 = .ok (.ladd, 1) := by decide +kernel
theorem d_O_compress64_160 : decode b_O_compress64 160 = .ok (.lastore, 1) := by decide +kernel
theorem d_O_compress64_161 : decode b_O_compress64 161 = .ok (.iinc 1 1, 3) := by decide +kernel
theorem d_O_compress64_164 : decode b_O_compress64 164 = .ok (.goto (-94), 3) := by decide +kernel
theorem d_O_compress64_167 : decode b_O_compress64 167 = .ok (.aload_n 0, 1) := by decide +kernel
theorem d_O_compress64_168 : decode b_O_compress64 168 = .ok (.getfield 47, 3) := by decide +kernel
theorem d_O_compress64_171 : decode b_O_compress64 171 = .ok (.iconst 0, 1) := by decide +kernel
theorem d_O_compress64_172 : decode b_O_compress64 172 = .ok (.laload, 1) := by decide +kernel
theorem d_O_compress64_173 : decode b_O_compress64 173 = .ok (.lstore_n 1, 1) := by decide +kernel
theorem d_O_compress64_174 : decode b_O_compress64 174 = .ok (.aload_n 0, 1) := by decide +kernel
theorem d_O_compress64_175 : decode b_O_compress64 175 = .ok (.getfield 47, 3) := by decide +kernel
theorem d_O_compress64_178 : decode b_O_compress64 178 = .ok (.iconst 1, 1) := by decide +kernel
theorem d_O_compress64_179 : decode b_O_compress64 179 = .ok (.laload, 1) := by decide +kernel
theorem d_O_compress64_180 : decode b_O_compress64 180 = .ok (.lstore_n 3, 1) := by decide +kernel
theorem d_O_compress64_181 : decode b_O_compress64 181 = .ok (.aload_n 0, 1) := by decide +kernel
theorem d_O_compress64_182 : decode b_O_compress64 182 = .ok (.getfield 47, 3) := by decide +kernel
theorem d_O_compress64_185 : decode b_O_compress64 185 = .ok (.iconst 2, 1) := by decide +kernel
theorem d_O_compress64_186 : decode b_O_compress64 186 = .ok (.laload, 1) := by decide +kernel
theorem d_O_compress64_187 : decode b_O_compress64 187 = .ok (.lstore 5, 2) := by decide +kernel
theorem d_O_compress64_189 : decode b_O_compress64 189 = .ok (.aload_n 0, 1) := by decide +kernel
theorem d_O_compress64_190 : decode b_O_compress64 190 = .ok (.getfield 47, 3) := by decide +kernel
theorem d_O_compress64_193 : decode b_O_compress64 193 = .ok (.iconst 3, 1) := by decide +kernel
theorem d_O_compress64_194 : decode b_O_compress64 194 = .ok (.laload, 1) := by decide +kernel
theorem d_O_compress64_195 : decode b_O_compress64 195 = .ok (.lstore 7, 2) := by decide +kernel
theorem d_O_compress64_197 : decode b_O_compress64 197 = .ok (.aload_n 0, 1) := by decide +kernel
theorem d_O_compress64_198 : decode b_O_compress64 198 = .ok (.getfield 47, 3) := by decide +kernel
theorem d_O_compress64_201 : decode b_O_compress64 201 = .ok (.iconst 4, 1) := by decide +kernel
theorem d_O_compress64_202 : decode b_O_compress64 202 = .ok (.laload, 1) := by decide +kernel
theorem d_O_compress64_203 : decode b_O_compress64 203 = .ok (.lstore 9, 2) := by decide +kernel
theorem d_O_compress64_205 : decode b_O_compress64 205 = .ok (.aload_n 0, 1) := by decide +kernel
theorem d_O_compress64_206 : decode b_O_compress64 206 = .ok (.getfield 47, 3) := by decide +kernel
theorem d_O_compress64_209 : decode b_O_compress64 209 = .ok (.iconst 5, 1) := by decide +kernel
theorem d_O_compress64_210 : decode b_O_compress64 210 = .ok (.laload, 1) := by decide +kernel
theorem d_O_compress64_211 : decode b_O_compress64 211 = .ok (.lstore 11, 2) := by decide +kernel
theorem d_O_compress64_213 : decode b_O_compress64 213 = .ok (.aload_n 0, 1) := by decide +kernel
theorem d_O_compress64_214 : decode b_O_compress64 214 = .ok (.getfield 47, 3) := by decide +kernel
theorem d_O_compress64_217 : decode b_O_compress64 217 = .ok (.bipush 6, 2) := by decide +kernel
theorem d_O_compress64_219 : decode b_O_compress64 219 = .ok (.laload, 1) := by decide +kernel
theorem d_O_compress64_220 : decode b_O_compress64 220 = .ok (.lstore 13, 2) := by decide +kernel
theorem d_O_compress64_222 : decode b_O_compress64 222 = .ok (.aload_n 0, 1) := by decide +kernel
theorem d_O_compress64_223 : decode b_O_compress64 223 = .ok (.getfield 47, 3) := by decide +kernel
theorem d_O_compress64_226 : decode b_O_compress64 226 = .ok (.bipush 7, 2) := by decide +kernel
theorem d_O_compress64_228 : decode b_O_compress64 228 = .ok (.laload, 1) := by decide +kernel
theorem d_O_compress64_229 : decode b_O_compress64 229 = .ok (.lstore 15, 2) := by decide +kernel
theorem d_O_compress64_231 : decode b_O_compress64 231 = .ok (.iconst 0, 1) := by decide +kernel
theorem d_O_compress64_232 : decode b_O_compress64 232 = .ok (.istore 17, 2) := by decide +kernel
theorem d_O_compress64_234 : decode b_O_compress64 234 = .ok (.iload 17, 2) := by decide +kernel
theorem d_O_compress64_236 : decode b_O_compress64 236 = .ok (.bipush 80, 2) := by decide +kernel
theorem d_O_compress64_238 : decode b_O_compress64 238 = .ok (.if_icmp .ge 139, 3) := by decide +kernel
theorem d_O_compress64_241 : decode b_O_compress64 241 = .ok (.lload 15, 2) := by decide +kernel
theorem d_O_compress64_243 : decode b_O_compress64 243 = .ok (.lload 9, 2) := by decide +kernel
theorem d_O_compress64_245 : decode b_O_compress64 245 = .ok (.bipush 14, 2) := by decide +kernel
theorem d_O_compress64_247 : decode b_O_compress64 247 = .ok (.invokestatic 169, 3) := by decide +kernel
theorem d_O_compress64_250 : decode b_O_compress64 250 = .ok (.lload 9, 2) := by decide +kernel
theorem d_O_compress64_252 : decode b_O_compress64 252 = .ok (.bipush 18, 2) := by decide +kernel
theorem d_O_compress64_254 : decode b_O_compress64 254 = .ok (.invokestatic 169, 3) := by decide +kernel
theorem d_O_compress64_257 : decode b_O_compress64 257 = .ok (.lxor, 1) := by decide +kernel
theorem d_O_compress64_258 : decode b_O_compress64 258 = .ok (.lload 9, 2) := by decide +kernel
theorem d_O_compress64_260 : decode b_O_compress64 260 = .ok (.bipush 41, 2) := by decide +kernel
theorem d_O_compress64_262 : decode b_O_compress64 262 = .ok (.invokestatic 169, 3) := by decide +kernel
theorem d_O_compress64_265 : decode b_O_compress64 265 = .ok (.lxor, 1) := by decide +kernel
theorem d_O_compress64_266 : decode b_O_compress64 266 = .ok (.ladd, 1) := by decide +kernel
theorem d_O_compress64_267 : decode b_O_compress64 267 = .ok (.lload 9, 2) := by decide +kernel
theorem d_O_compress64_269 : decode b_O_compress64 269 = .ok (.lload 11, 2) := by decide +kernel
theorem d_O_compress64_271 : decode b_O_compress64 271 = .ok (.land, 1) := by decide +kernel
theorem d_O_compress64_272 : decode b_O_compress64 272 = .ok (.lload 9, 2) := by decide +kernel
theorem d_O_compress64_274 : decode b_O_compress64 274 = .ok (.ldc2_w 167, 3) := by decide +kernel
theorem d_O_compress64_277 : decode b_O_compress64 277 = .ok (.lxor, 1) := by decide +kernel
theorem d_O_compress64_278 : decode b_O_compress64 278 = .ok (.lload 13, 2) := by decide +kernel
theorem d_O_compress64_280 : decode b_O_compress64 280 = .ok (.land, 1) := by decide +kernel
theorem d_O_compress64_281 : decode b_O_compress64 281 = .ok (.lxor, 1) := by decide +kernel
theorem d_O_compress64_282 : decode b_O_compress64 282 = .ok (.ladd, 1) := by decide +kernel
theorem d_O_compress64_283 : decode b_O_compress64 283 = .ok (.aload_n 0, 1) := by decide +kernel
theorem d_O_compress64_284 : decode b_O_compress64 284 = .ok (.getfield 26, 3) := by decide +kernel
theorem d_O_compress64_287 : decode b_O_compress64 287 = .ok (.iload 17, 2) := by decide +kernel
theorem d_O_compress64_289 : decode b_O_compress64 289 = .ok (.laload, 1) := by decide +kernel
theorem d_O_compress64_290 : decode b_O_compress64 290 = .ok (.ladd, 1) := by decide +kernel
theorem d_O_compress64_291 : decode b_O_compress64 291 = .ok (.aload_n 0, 1) := by decide +kernel
theorem d_O_compress64_292 : decode b_O_compress64 292 = .ok (.getfield 56, 3) := by decide +kernel
theorem d_O_compress64_295 : decode b_O_compress64 295 = .ok (.iload 17, 2) := by decide +kernel
theorem d_O_compress64_297 : decode b_O_compress64 297 = .ok (.laload, 1) := by decide +kernel
theorem d_O_compress64_298 : decode b_O_compress64 298 = .ok (.ladd, 1) := by decide +kernel
theorem d_O_compress64_299 : decode b_O_compress64 299 = .ok (.lstore 18, 2) := by decide +kernel
theorem d_O_compress64_301 : decode b_O_compress64 301 = .ok (.lload_n 1, 1) := by decide +kernel
theorem d_O_compress64_302 : decode b_O_compress64 302 = .ok (.bipush 28, 2) := by decide +kernel
theorem d_O_compress64_304 : decode b_O_compress64 304 = .ok (.invokestatic 169, 3) := by decide +kernel
theorem d_O_compress64_307 : decode b_O_compress64 307 = .ok (.lload_n 1, 1) := by decide +kernel
theorem d_O_compress64_308 : decode b_O_compress64 308 = .ok (.bipush 34, 2) := by decide +kernel
theorem d_O_compress64_310 : decode b_O_compress64 310 = .ok (.invokestatic 169, 3) := by decide +kernel
theorem d_O_compress64_313 : decode b_O_compress64 313 = .ok (.lxor, 1) := by decide +kernel
theorem d_O_compress64_314 : decode b_O_compress64 314 = .ok (.lload_n 1, 1) := by decide +kernel
theorem d_O_compress64_315 : decode b_O_compress64 315 = .ok (.bipush 39, 2) := by decide +kernel
theorem d_O_compress64_317 : decode b_O_compress64 317 = .ok (.invokestatic 169, 3) := by decide +kernel
theorem d_O_compress64_320 : decode b_O_compress64 320 = .ok (.lxor, 1) := by decide +kernel
theorem d_O_compress64_321 : decode b_O_compress64 321 = .ok (.lload_n 1, 1) := by decide +kernel
theorem d_O_compress64_322 : decode b_O_compress64 322 = .ok (.lload_n 3, 1) := by decide +kernel
theorem d_O_compress64_323 : decode b_O_compress64 323 = .ok (.land, 1) := by decide +kernel
theorem d_O_compress64_324 : decode b_O_compress64 324 = .ok (.lload_n 1, 1) := by decide +kernel
theorem d_O_compress64_325 : decode b_O_compress64 325 = .ok (.lload 5, 2) := by decide +kernel
theorem d_O_compress64_327 : decode b_O_compress64 327 = .ok (.land, 1) := by decide +kernel
theorem d_O_compress64_328 : decode b_O_compress64 328 = .ok (.lxor, 1) := by decide +kernel
theorem d_O_compress64_329 : decode b_O_compress64 329 = .ok (.lload_n 3, 1) := by decide +kernel
theorem d_O_compress64_330 : decode b_O_compress64 330 = .ok (.lload 5, 2) := by decide +kernel
theorem d_O_compress64_332 : decode b_O_compress64 332 = .ok (.land, 1) := by decide +kernel
theorem d_O_compress64_333 : decode b_O_compress64 333 = .ok (.lxor, 1) := by decide +kernel
theorem d_O_compress64_334 : decode b_O_compress64 334 = .ok (.ladd, 1) := by decide +kernel
theorem d_O_compress64_335 : decode b_O_compress64 335 = .ok (.lstore 20, 2) := by decide +kernel
theorem d_O_compress64_337 : decode b_O_compress64 337 = .ok (.lload 13, 2) := by decide +kernel
theorem d_O_compress64_339 : decode b_O_compress64 339 = .ok (.lstore 15, 2) := by decide +kernel
theorem d_O_compress64_341 : decode b_O_compress64 341 = .ok (.lload 11, 2) := by decide +kernel
theorem d_O_compress64_343 : decode b_O_compress64 343 = .ok (.lstore 13, 2) := by decide +kernel
theorem d_O_compress64_345 : decode b_O_compress64 345 = .ok (.lload 9, 2) := by decide +kernel
theorem d_O_compress64_347 : decode b_O_compress64 347 = .ok (.lstore 11, 2) := by decide +kernel
theorem d_O_compress64_349 : decode b_O_compress64 349 = .ok (.lload 7, 2) := by decide +kernel
theorem d_O_compress64_351 : decode b_O_compress64 351 = .ok (.lload 18, 2) := by decide +kernel
theorem d_O_compress64_353 : decode b_O_compress64 353 = .ok (.ladd, 1) := by decide +kernel
theorem d_O_compress64_354 : decode b_O_compress64 354 = .ok (.lstore 9, 2) := by decide +kernel
theorem d_O_compress64_356 : decode b_O_compress64 356 = .ok (.lload 5, 2) := by decide +kernel
theorem d_O_compress64_358 : decode b_O_compress64 358 = .ok (.lstore 7, 2) := by decide +kernel
theorem d_O_compress64_360 : decode b_O_compress64 360 = .ok (.lload_n 3, 1) := by decide +kernel
theorem d_O_compress64_361 : decode b_O_compress64 361 = .ok (.lstore 5, 2) := by decide +kernel
theorem d_O_compress64_363 : decode b_O_compress64 363 = .ok (.lload_n 1, 1) := by decide +kernel
theorem d_O_compress64_364 : decode b_O_compress64 364 = .ok (.lstore_n 3, 1) := by decide +kernel
theorem d_O_compress64_365 : decode b_O_compress64 365 = .ok (.lload 18, 2) := by decide +kernel
theorem d_O_compress64_367 : decode b_O_compress64 367 = .ok (.lload 20, 2) := by decide +kernel
theorem d_O_compress64_369 : decode b_O_compress64 369 = .ok (.ladd, 1) := by decide +kernel
theorem d_O_compress64_370 : decode b_O_compress64 370 = .ok (.lstore_n 1, 1) := by decide +kernel
theorem d_O_compress64_371 : decode b_O_compress64 371 = .ok (.iinc 17 1, 3) := by decide +kernel
theorem d_O_compress64_374 : decode b_O_compress64 374 = .ok (.goto (-140), 3) := by decide +kernel
theorem d_O_compress64_377 : decode b_O_compress64 377 = .ok (.aload_n 0, 1) := by decide +kernel
theorem d_O_compress64_378 : decode b_O_compress64 378 = .ok (.getfield 47, 3) := by decide +kernel
theorem d_O_compress64_381 : decode b_O_compress64 381 = .ok (.iconst 0, 1) := by decide +kernel
theorem d_O_compress64_382 : decode b_O_compress64 382 = .ok (.dup2, 1) := by decide +kernel
theorem d_O_compress64_383 : decode b_O_compress64 383 = .ok (.laload, 1) := by decide +kernel
theorem d_O_compress64_384 : decode b_O_compress64 384 = .ok (.lload_n 1, 1) := by decide +kernel
theorem d_O_compress64_385 : decode b_O_compress64 385 = .ok (.ladd, 1) := by decide +kernel
theorem d_O_compress64_386 : decode b_O_compress64 386 = .ok (.lastore, 1) := by decide +kernel
theorem d_O_compress64_387 : decode b_O_compress64 387 = .ok (.aload_n 0, 1) := by decide +kernel
theorem d_O_compress64_388 : decode b_O_compress64 388 = .ok (.getfield 47, 3) := by decide +kernel
theorem d_O_compress64_391 : decode b_O_compress64 391 = .ok (.iconst 1, 1) := by decide +kernel
theorem d_O_compress64_392 : decode b_O_compress64 392 = .ok (.dup2, 1) := by decide +kernel
theorem d_O_compress64_393 : decode b_O_compress64 393 = .ok (.laload, 1) := by decide +kernel
theorem d_O_compress64_394 : decode b_O_compress64 394 = .ok (.lload_n 3, 1) := by decide +kernel
theorem d_O_compress64_395 : decode b_O_compress64 395 = .ok (.ladd, 1) := by decide +kernel
theorem d_O_compress64_396 : decode b_O_compress64 396 = .ok (.lastore, 1) := by decide +kernel
theorem d_O_compress64_397 : decode b_O_compress64 397 = .ok (.aload_n 0, 1) := by decide +kernel
theorem d_O_compress64_398 : decode b_O_compress64 398 = .ok (.getfield 47, 3) := by decide +kernel
theorem d_O_compress64_401 : decode b_O_compress64 401 = .ok (.iconst 2, 1) := by decide +kernel
theorem d_O_compress64_402 : decode b_O_compress64 402 = .ok (.dup2, 1) := by decide +kernel
theorem d_O_compress64_403 : decode b_O_compress64 403 = .ok (.laload, 1) := by decide +kernel
theorem d_O_compress64_404 : decode b_O_compress64 404 = .ok (.lload 5, 2) := by decide +kernel
theorem d_O_compress64_406 : decode b_O_compress64 406 = .ok (.ladd, 1) := by decide +kernel
theorem d_O_compress64_407 : decode b_O_compress64 407 = .ok (.lastore, 1) := by decide +kernel
theorem d_O_compress64_408 : decode b_O_compress64 408 = .ok (.aload_n 0, 1) := by decide +kernel
theorem d_O_compress64_409 : decode b_O_compress64 409 = .ok (.getfield 47, 3) := by decide +kernel
theorem d_O_compress64_412 : decode b_O_compress64 412 = .ok (.iconst 3, 1) := by decide +kernel
theorem d_O_compress64_413 : decode b_O_compress64 413 = .ok (.dup2, 1) := by decide +kernel
theorem d_O_compress64_414 : decode b_O_compress64 414 = .ok (.laload, 1) := by decide +kernel
theorem d_O_compress64_415 : decode b_O_compress64 415 = .ok (.lload 7, 2) := by decide +kernel
theorem d_O_compress64_417 : decode b_O_compress64 417 = .ok (.ladd, 1) := by decide +kernel
theorem d_O_compress64_418 : decode b_O_compress64 418 = .ok (.lastore, 1) := by decide +kernel
theorem d_O_compress64_419 : decode b_O_compress64 419 = .ok (.aload_n 0, 1) := by decide +kernel
theorem d_O_compress64_420 : decode b_O_compress64 420 = .ok (.getfield 47, 3) := by decide +kernel
theorem d_O_compress64_423 : decode b_O_compress64 423 = .ok (.iconst 4, 1) := by decide +kernel
theorem d_O_compress64_424 : decode b_O_compress64 424 = .ok (.dup2, 1) := by decide +kernel
theorem d_O_compress64_425 : decode b_O_compress64 425 = .ok (.laload, 1) := by decide +kernel
theorem d_O_compress64_426 : decode b_O_compress64 426 = .ok (.lload 9, 2) := by decide +kernel
theorem d_O_compress64_428 : decode b_O_compress64 428 = .ok (.ladd, 1) := by decide +kernel
theorem d_O_compress64_429 : decode b_O_compress64 429 = .ok (.lastore, 1) := by decide +kernel
theorem d_O_compress64_430 : decode b_O_compress64 430 = .ok (.aload_n 0, 1) := by decide +kernel
theorem d_O_compress64_431 : decode b_O_compress64 431 = .ok (.getfield 47, 3) := by decide +kernel
theorem d_O_compress64_434 : decode b_O_compress64 434 = .ok (.iconst 5, 1) := by decide +kernel
theorem d_O_compress64_435 : decode b_O_compress64 435 = .ok (.dup2, 1) := by decide +kernel
theorem d_O_compress64_436 : decode b_O_compress64 436 = .ok (.laload, 1) := by decide +kernel
theorem d_O_compress64_437 : decode b_O_compress64 437 = .ok (.lload 11, 2) := by decide +kernel
theorem d_O_compress64_439 : decode b_O_compress64 439 = .ok (.ladd, 1) := by decide +kernel
theorem d_O_compress64_440 : decode b_O_compress64 440 = .ok (.lastore, 1) := by decide +kernel
theorem d_O_compress64_441 : decode b_O_compress64 441 = .ok (.aload_n 0, 1) := by decide +kernel
theorem d_O_compress64_442 : decode b_O_compress64 442 = .ok (.getfield 47, 3) := by decide +kernel
theorem d_O_compress64_445 : decode b_O_compress64 445 = .ok (.bipush 6, 2) := by decide +kernel
theorem d_O_compress64_447 : decode b_O_compress64 447 = .ok (.dup2, 1) := by decide +kernel
theorem d_O_compress64_448 : decode b_O_compress64 448 = .ok (.laload, 1) := by decide +kernel
theorem d_O_compress64_449 : decode b_O_compress64 449 = .ok (.lload 13, 2) := by decide +kernel
theorem d_O_compress64_451 : decode b_O_compress64 451 = .ok (.ladd, 1) := by decide +kernel
theorem d_O_compress64_452 : decode b_O_compress64 452 = .ok (.lastore, 1) := by decide +kernel
theorem d_O_compress64_453 : decode b_O_compress64 453 = .ok (.aload_n 0, 1) := by decide +kernel
theorem d_O_compress64_454 : decode b_O_compress64 454 = .ok (.getfield 47, 3) := by decide +kernel
theorem d_O_compress64_457 : decode b_O_compress64 457 = .ok (.bipush 7, 2) := by decide +kernel
theorem d_O_compress64_459 : decode b_O_compress64 459 = .ok (.dup2, 1) := by decide +kernel
theorem d_O_compress64_460 : decode b_O_compress64 460 = .ok (.laload, 1) := by decide +kernel
theorem d_O_compress64_461 : decode b_O_compress64 461 = .ok (.lload 15, 2) := by decide +kernel
theorem d_O_compress64_463 : decode b_O_compress64 463 = .ok (.ladd, 1) := by decide +kernel
theorem d_O_compress64_464 : decode b_O_compress64 464 = .ok (.lastore, 1) := by decide +kernel
theorem d_O_compress64_465 : decode b_O_compress64 465 = .ok (.return_, 1) := by decide +kernel
theorem d_O_right_0 : decode b_O_right 0 = .ok (.lload_n 0, 1) := by decide +kernel
theorem d_O_right_1 : decode b_O_right 1 = .ok (.iload_n 2, 1) := by decide +kernel
theorem d_O_right_2 : decode b_O_right 2 = .ok (.lushr, 1) := by decide +kernel
theorem d_O_right_3 : decode b_O_right 3 = .ok (.lload_n 0, 1) := by decide +kernel
theorem d_O_right_4 : decode b_O_right 4 = .ok (.bipush 64, 2) := by decide +kernel
theorem d_O_right_6 : decode b_O_right 6 = .ok (.iload_n 2, 1) := by decide +kernel
theorem d_O_right_7 : decode b_O_right 7 = .ok (.isub, 1) := by decide +kernel
theorem d_O_right_8 : decode b_O_right 8 = .ok (.lshl, 1) := by decide +kernel
theorem d_O_right_9 : decode b_O_right 9 = .ok (.lor, 1) := by decide +kernel
theorem d_O_right_10 : decode b_O_right 10 = .ok (.lreturn, 1) := by decide +kernel
theorem d_O_finish_0 : decode b_O_finish 0 = .ok (.aload_n 0, 1) := by decide +kernel
theorem d_O_finish_1 : decode b_O_finish 1 = .ok (.invokevirtual 146, 3) := by decide +kernel
theorem d_O_finish_4 : decode b_O_finish 4 = .ok (.ifCond .eq 50, 3) := by decide +kernel
theorem d_O_finish_7 : decode b_O_finish 7 = .ok (.aload_n 0, 1) := by decide +kernel
theorem d_O_finish_8 : decode b_O_finish 8 = .ok (.aload_n 0, 1) := by decide +kernel
theorem d_O_finish_9 : decode b_O_finish 9 = .ok (.getfield 128, 3) := by decide +kernel
theorem d_O_finish_12 : decode b_O_finish 12 = .ok (.aload_n 0, 1) := by decide +kernel
theorem d_O_finish_13 : decode b_O_finish 13 = .ok (.getfield 125, 3) := by decide +kernel
theorem d_O_finish_16 : decode b_O_finish 16 = .ok (.bipush 10, 2) := by decide +kernel
theorem d_O_finish_18 : decode b_O_finish 18 = .ok (.if_icmp .le 8, 3) := by decide +kernel
theorem d_O_finish_21 : decode b_O_finish 21 = .ok (.bipush 31, 2) := by decide +kernel
theorem d_O_finish_23 : decode b_O_finish 23 = .ok (.goto 5, 3) := by decide +kernel
theorem d_O_finish_26 : decode b_O_finish 26 = .ok (.bipush 6, 2) := by decide +kernel
theorem d_O_finish_28 : decode b_O_finish 28 = .ok (.invokevirtual 150, 3) := by decide +kernel
theorem d_O_finish_31 : decode b_O_finish 31 = .ok (.aload_n 0, 1) := by decide +kernel
theorem d_O_finish_32 : decode b_O_finish 32 = .ok (.aload_n 0, 1) := by decide +kernel
theorem d_O_finish_33 : decode b_O_finish 33 = .ok (.getfield 141, 3) := by decide +kernel
theorem d_O_finish_36 : decode b_O_finish 36 = .ok (.iconst 1, 1) := by decide +kernel
theorem d_O_finish_37 : decode b_O_finish 37 = .ok (.isub, 1) := by decide +kernel
theorem d_O_finish_38 : decode b_O_finish 38 = .ok (.sipush 128, 3) := by decide +kernel
theorem d_O_finish_41 : decode b_O_finish 41 = .ok (.invokevirtual 150, 3) := by decide +kernel
theorem d_O_finish_44 : decode b_O_finish 44 = .ok (.aload_n 0, 1) := by decide +kernel
theorem d_O_finish_45 : decode b_O_finish 45 = .ok (.invokevirtual 154, 3) := by decide +kernel
theorem d_O_finish_48 : decode b_O_finish 48 = .ok (.aload_n 0, 1) := by decide +kernel
theorem d_O_finish_49 : decode b_O_finish 49 = .ok (.iconst 0, 1) := by decide +kernel
theorem d_O_finish_50 : decode b_O_finish 50 = .ok (.putfield 128, 3) := by decide +kernel
theorem d_O_finish_53 : decode b_O_finish 53 = .ok (.return_, 1) := by decide +kernel
theorem d_O_finish_54 : decode b_O_finish 54 = .ok (.ldc2_w 176, 3) := by decide +kernel
theorem d_O_finish_57 : decode b_O_finish 57 = .ok (.aload_n 0, 1) := by decide +kernel
theorem d_O_finish_58 : decode b_O_finish 58 = .ok (.getfield 131, 3) := by decide +kernel
theorem d_O_finish_61 : decode b_O_finish 61 = .ok (.lmul, 1) := by decide +kernel
theorem d_O_finish_62 : decode b_O_finish 62 = .ok (.lstore_n 1, 1) := by decide +kernel
theorem d_O_finish_63 : decode b_O_finish 63 = .ok (.aload_n 0, 1) := by decide +kernel
theorem d_O_finish_64 : decode b_O_finish 64 = .ok (.sipush 128, 3) := by decide +kernel
theorem d_O_finish_67 : decode b_O_finish 67 = .ok (.invokevirtual 119, 3) := by decide +kernel
theorem d_O_finish_70 : decode b_O_finish 70 = .ok (.aload_n 0, 1) := by decide +kernel
theorem d_O_finish_71 : decode b_O_finish 71 = .ok (.getfield 128, 3) := by decide +kernel
theorem d_O_finish_74 : decode b_O_finish 74 = .ok (.aload_n 0, 1) := by decide +kernel
theorem d_O_finish_75 : decode b_O_finish 75 = .ok (.getfield 141, 3) := by decide +kernel
theorem d_O_finish_78 : decode b_O_finish 78 = .ok (.aload_n 0, 1) := by decide +kernel
theorem d_O_finish_79 : decode b_O_finish 79 = .ok (.getfield 141, 3) := by decide +kernel
theorem d_O_finish_82 : decode b_O_finish 82 = .ok (.bipush 8, 2) := by decide +kernel
theorem d_O_finish_84 : decode b_O_finish 84 = .ok (.idiv, 1) := by decide +kernel
theorem d_O_finish_85 : decode b_O_finish 85 = .ok (.isub, 1) := by decide +kernel
theorem d_O_finish_86 : decode b_O_finish 86 = .ok (.if_icmp .eq 11, 3) := by decide +kernel
theorem d_O_finish_89 : decode b_O_finish 89 = .ok (.aload_n 0, 1) := by decide +kernel
theorem d_O_finish_90 : decode b_O_finish 90 = .ok (.iconst 0, 1) := by decide +kernel
theorem d_O_finish_91 : decode b_O_finish 91 = .ok (.invokevirtual 119, 3) := by decide +kernel
theorem d_O_finish_94 : decode b_O_finish 94 = .ok (.goto (-24), 3) := by decide +kernel
theorem d_O_finish_97 : decode b_O_finish 97 = .ok (.aload_n 0, 1) := by decide +kernel
theorem d_O_finish_98 : decode b_O_finish 98 = .ok (.getfield 141, 3) := by decide +kernel
theorem d_O_finish_101 : decode b_O_finish 101 = .ok (.bipush 8, 2) := by decide +kernel
theorem d_O_finish_103 : decode b_O_finish 103 = .ok (.idiv, 1) := by decide +kernel
theorem d_O_finish_104 : decode b_O_finish 104 = .ok (.iconst 1, 1) := by decide +kernel
theorem d_O_finish_105 : decode b_O_finish 105 = .ok (.isub, 1) := by decide +kernel
theorem d_O_finish_106 : decode b_O_finish 106 = .ok (.istore_n 3, 1) := by decide +kernel
theorem d_O_finish_107 : decode b_O_finish 107 = .ok (.iload_n 3, 1) := by decide +kernel
theorem d_O_finish_108 : decode b_O_finish 108 = .ok (.ifCond .lt 30, 3) := by decide +kernel
theorem d_O_finish_111 : decode b_O_finish 111 = .ok (.aload_n 0, 1) := by decide +kernel
theorem d_O_finish_112 : decode b_O_finish 112 = .ok (.iload_n 3, 1) := by decide +kernel
theorem d_O_finish_113 : decode b_O_finish 113 = .ok (.bipush 8, 2) := by decide +kernel
theorem d_O_finish_115 : decode b_O_finish 115 = .ok (.if_icmp .ge 13, 3) := by decide +kernel
theorem d_O_finish_118 : decode b_O_finish 118 = .ok (.lload_n 1, 1) := by decide +kernel
theorem d_O_finish_119 : decode b_O_finish 119 = .ok (.bipush 8, 2) := by decide +kernel
theorem d_O_finish_121 : decode b_O_finish 121 = .ok (.iload_n 3, 1) := by decide +kernel
theorem d_O_finish_122 : decode b_O_finish 122 = .ok (.imul, 1) := by decide +kernel
theorem d_O_finish_123 : decode b_O_finish 123 = .ok (.lushr, 1) := by decide +kernel
theorem d_O_finish_124 : decode b_O_finish 124 = .ok (.l2i, 1) := by decide +kernel
theorem d_O_finish_125 : decode b_O_finish 125 = .ok (.goto 4, 3) := by decide +kernel
theorem d_O_finish_128 : decode b_O_finish 128 = .ok (.iconst 0, 1) := by decide +kernel
theorem d_O_finish_129 : decode b_O_finish 129 = .ok (.invokevirtual 119, 3) := by decide +kernel
theorem d_O_finish_132 : decode b_O_finish 132 = .ok (.iinc 3 (-1), 3) := by decide +kernel
theorem d_O_finish_135 : decode b_O_finish 135 = .ok (.goto (-28), 3) := by decide +kernel
theorem d_O_finish_138 : decode b_O_finish 138 = .ok (.return_, 1) := by decide +kernel
theorem d_O_thrown_0 : decode b_O_thrown 0 = .ok (.aload_n 0, 1) := by decide +kernel
theorem d_O_thrown_1 : decode b_O_thrown 1 = .ok (.getfield 71, 3) := by decide +kernel
theorem d_O_thrown_4 : decode b_O_thrown 4 = .ok (.ireturn, 1) := by decide +kernel
theorem d_O_feed_0 : decode b_O_feed 0 = .ok (.aload_n 0, 1) := by decide +kernel
theorem d_O_feed_1 : decode b_O_feed 1 = .ok (.aload_n 0, 1) := by decide +kernel
theorem d_O_feed_2 : decode b_O_feed 2 = .ok (.getfield 75, 3) := by decide +kernel
theorem d_O_feed_5 : decode b_O_feed 5 = .ok (.bipush 20, 2) := by decide +kernel
theorem d_O_feed_7 : decode b_O_feed 7 = .ok (.iadd, 1) := by decide +kernel
theorem d_O_feed_8 : decode b_O_feed 8 = .ok (.sipush 8192, 3) := by decide +kernel
theorem d_O_feed_11 : decode b_O_feed 11 = .ok (.if_icmp .gt 7, 3) := by decide +kernel
theorem d_O_feed_14 : decode b_O_feed 14 = .ok (.iconst 1, 1) := by decide +kernel
theorem d_O_feed_15 : decode b_O_feed 15 = .ok (.goto 4, 3) := by decide +kernel
theorem d_O_feed_18 : decode b_O_feed 18 = .ok (.iconst 0, 1) := by decide +kernel
theorem d_O_feed_19 : decode b_O_feed 19 = .ok (.iconst 1, 1) := by decide +kernel
theorem d_O_feed_20 : decode b_O_feed 20 = .ok (.invokevirtual 78, 3) := by decide +kernel
theorem d_O_feed_23 : decode b_O_feed 23 = .ok (.ifCond .ne 5, 3) := by decide +kernel
theorem d_O_feed_26 : decode b_O_feed 26 = .ok (.iconst 0, 1) := by decide +kernel
theorem d_O_feed_27 : decode b_O_feed 27 = .ok (.ireturn, 1) := by decide +kernel
theorem d_O_feed_28 : decode b_O_feed 28 = .ok (.aload_n 0, 1) := by decide +kernel
end
section
theorem d_O_feed_29 : decode b_O_feed 29 = .ok (.iload_n 1, 1) := by decide +kernel
theorem d_O_feed_30 : decode b_O_feed 30 = .ok (.invokevirtual 82, 3) := by decide +kernel
theorem d_O_feed_33 : decode b_O_feed 33 = .ok (.aload_n 0, 1) := by decide +kernel
theorem d_O_feed_34 : decode b_O_feed 34 = .ok (.iload_n 2, 1) := by decide +kernel
theorem d_O_feed_35 : decode b_O_feed 35 = .ok (.invokevirtual 82, 3) := by decide +kernel
theorem d_O_feed_38 : decode b_O_feed 38 = .ok (.aload_n 0, 1) := by decide +kernel
theorem d_O_feed_39 : decode b_O_feed 39 = .ok (.iload_n 3, 1) := by decide +kernel
theorem d_O_feed_40 : decode b_O_feed 40 = .ok (.invokevirtual 82, 3) := by decide +kernel
theorem d_O_feed_43 : decode b_O_feed 43 = .ok (.aload_n 0, 1) := by decide +kernel
theorem d_O_feed_44 : decode b_O_feed 44 = .ok (.iload 4, 2) := by decide +kernel
theorem d_O_feed_46 : decode b_O_feed 46 = .ok (.invokevirtual 82, 3) := by decide +kernel
theorem d_O_feed_49 : decode b_O_feed 49 = .ok (.aload_n 0, 1) := by decide +kernel
theorem d_O_feed_50 : decode b_O_feed 50 = .ok (.iload 5, 2) := by decide +kernel
theorem d_O_feed_52 : decode b_O_feed 52 = .ok (.invokevirtual 82, 3) := by decide +kernel
theorem d_O_feed_55 : decode b_O_feed 55 = .ok (.aload_n 0, 1) := by decide +kernel
theorem d_O_feed_56 : decode b_O_feed 56 = .ok (.getfield 75, 3) := by decide +kernel
theorem d_O_feed_59 : decode b_O_feed 59 = .ok (.ireturn, 1) := by decide +kernel
theorem d_O_good_0 : decode b_O_good 0 = .ok (.aload_n 0, 1) := by decide +kernel
theorem d_O_good_1 : decode b_O_good 1 = .ok (.iload_n 1, 1) := by decide +kernel
theorem d_O_good_2 : decode b_O_good 2 = .ok (.ifCond .eq 7, 3) := by decide +kernel
theorem d_O_good_5 : decode b_O_good 5 = .ok (.iconst 0, 1) := by decide +kernel
theorem d_O_good_6 : decode b_O_good 6 = .ok (.goto 4, 3) := by decide +kernel
theorem d_O_good_9 : decode b_O_good 9 = .ok (.iload_n 2, 1) := by decide +kernel
theorem d_O_good_10 : decode b_O_good 10 = .ok (.putfield 71, 3) := by decide +kernel
theorem d_O_good_13 : decode b_O_good 13 = .ok (.iload_n 1, 1) := by decide +kernel
theorem d_O_good_14 : decode b_O_good 14 = .ok (.ireturn, 1) := by decide +kernel
theorem d_O_word_0 : decode b_O_word 0 = .ok (.iconst 0, 1) := by decide +kernel
theorem d_O_word_1 : decode b_O_word 1 = .ok (.istore_n 2, 1) := by decide +kernel
theorem d_O_word_2 : decode b_O_word 2 = .ok (.iload_n 2, 1) := by decide +kernel
theorem d_O_word_3 : decode b_O_word 3 = .ok (.iconst 4, 1) := by decide +kernel
theorem d_O_word_4 : decode b_O_word 4 = .ok (.if_icmp .ge 30, 3) := by decide +kernel
theorem d_O_word_7 : decode b_O_word 7 = .ok (.aload_n 0, 1) := by decide +kernel
theorem d_O_word_8 : decode b_O_word 8 = .ok (.getfield 9, 3) := by decide +kernel
theorem d_O_word_11 : decode b_O_word 11 = .ok (.aload_n 0, 1) := by decide +kernel
theorem d_O_word_12 : decode b_O_word 12 = .ok (.getfield 75, 3) := by decide +kernel
theorem d_O_word_15 : decode b_O_word 15 = .ok (.iload_n 2, 1) := by decide +kernel
theorem d_O_word_16 : decode b_O_word 16 = .ok (.iadd, 1) := by decide +kernel
theorem d_O_word_17 : decode b_O_word 17 = .ok (.iload_n 1, 1) := by decide +kernel
theorem d_O_word_18 : decode b_O_word 18 = .ok (.bipush 24, 2) := by decide +kernel
theorem d_O_word_20 : decode b_O_word 20 = .ok (.bipush 8, 2) := by decide +kernel
theorem d_O_word_22 : decode b_O_word 22 = .ok (.iload_n 2, 1) := by decide +kernel
theorem d_O_word_23 : decode b_O_word 23 = .ok (.imul, 1) := by decide +kernel
theorem d_O_word_24 : decode b_O_word 24 = .ok (.isub, 1) := by decide +kernel
theorem d_O_word_25 : decode b_O_word 25 = .ok (.ishr, 1) := by decide +kernel
theorem d_O_word_26 : decode b_O_word 26 = .ok (.i2b, 1) := by decide +kernel
theorem d_O_word_27 : decode b_O_word 27 = .ok (.bastore, 1) := by decide +kernel
theorem d_O_word_28 : decode b_O_word 28 = .ok (.iinc 2 1, 3) := by decide +kernel
theorem d_O_word_31 : decode b_O_word 31 = .ok (.goto (-29), 3) := by decide +kernel
theorem d_O_word_34 : decode b_O_word 34 = .ok (.aload_n 0, 1) := by decide +kernel
theorem d_O_word_35 : decode b_O_word 35 = .ok (.dup, 1) := by decide +kernel
theorem d_O_word_36 : decode b_O_word 36 = .ok (.getfield 75, 3) := by decide +kernel
theorem d_O_word_39 : decode b_O_word 39 = .ok (.iconst 4, 1) := by decide +kernel
theorem d_O_word_40 : decode b_O_word 40 = .ok (.iadd, 1) := by decide +kernel
theorem d_O_word_41 : decode b_O_word 41 = .ok (.putfield 75, 3) := by decide +kernel
theorem d_O_word_44 : decode b_O_word 44 = .ok (.return_, 1) := by decide +kernel
theorem d_O_end_0 : decode b_O_end 0 = .ok (.aload_n 0, 1) := by decide +kernel
theorem d_O_end_1 : decode b_O_end 1 = .ok (.iload_n 1, 1) := by decide +kernel
theorem d_O_end_2 : decode b_O_end 2 = .ok (.iconst 0, 1) := by decide +kernel
theorem d_O_end_3 : decode b_O_end 3 = .ok (.bipush 7, 2) := by decide +kernel
theorem d_O_end_5 : decode b_O_end 5 = .ok (.invokestatic 86, 3) := by decide +kernel
theorem d_O_end_8 : decode b_O_end 8 = .ok (.ifCond .eq 18, 3) := by decide +kernel
theorem d_O_end_11 : decode b_O_end 11 = .ok (.iload_n 2, 1) := by decide +kernel
theorem d_O_end_12 : decode b_O_end 12 = .ok (.iconst 0, 1) := by decide +kernel
theorem d_O_end_13 : decode b_O_end 13 = .ok (.sipush 8192, 3) := by decide +kernel
theorem d_O_end_16 : decode b_O_end 16 = .ok (.invokestatic 86, 3) := by decide +kernel
theorem d_O_end_19 : decode b_O_end 19 = .ok (.ifCond .eq 7, 3) := by decide +kernel
theorem d_O_end_22 : decode b_O_end 22 = .ok (.iconst 1, 1) := by decide +kernel
theorem d_O_end_23 : decode b_O_end 23 = .ok (.goto 4, 3) := by decide +kernel
theorem d_O_end_26 : decode b_O_end 26 = .ok (.iconst 0, 1) := by decide +kernel
theorem d_O_end_27 : decode b_O_end 27 = .ok (.iconst 1, 1) := by decide +kernel
theorem d_O_end_28 : decode b_O_end 28 = .ok (.invokevirtual 78, 3) := by decide +kernel
theorem d_O_end_31 : decode b_O_end 31 = .ok (.ifCond .eq 24, 3) := by decide +kernel
theorem d_O_end_34 : decode b_O_end 34 = .ok (.aload_n 0, 1) := by decide +kernel
theorem d_O_end_35 : decode b_O_end 35 = .ok (.iload_n 2, 1) := by decide +kernel
theorem d_O_end_36 : decode b_O_end 36 = .ok (.aload_n 0, 1) := by decide +kernel
theorem d_O_end_37 : decode b_O_end 37 = .ok (.getfield 75, 3) := by decide +kernel
theorem d_O_end_40 : decode b_O_end 40 = .ok (.if_icmp .gt 7, 3) := by decide +kernel
theorem d_O_end_43 : decode b_O_end 43 = .ok (.iconst 1, 1) := by decide +kernel
theorem d_O_end_44 : decode b_O_end 44 = .ok (.goto 4, 3) := by decide +kernel
theorem d_O_end_47 : decode b_O_end 47 = .ok (.iconst 0, 1) := by decide +kernel
theorem d_O_end_48 : decode b_O_end 48 = .ok (.iconst 2, 1) := by decide +kernel
theorem d_O_end_49 : decode b_O_end 49 = .ok (.invokevirtual 78, 3) := by decide +kernel
theorem d_O_end_52 : decode b_O_end 52 = .ok (.ifCond .ne 5, 3) := by decide +kernel
theorem d_O_end_55 : decode b_O_end 55 = .ok (.iconst 0, 1) := by decide +kernel
theorem d_O_end_56 : decode b_O_end 56 = .ok (.ireturn, 1) := by decide +kernel
theorem d_O_end_57 : decode b_O_end 57 = .ok (.iconst 0, 1) := by decide +kernel
theorem d_O_end_58 : decode b_O_end 58 = .ok (.istore_n 3, 1) := by decide +kernel
theorem d_O_end_59 : decode b_O_end 59 = .ok (.iload_n 3, 1) := by decide +kernel
theorem d_O_end_60 : decode b_O_end 60 = .ok (.iload_n 2, 1) := by decide +kernel
theorem d_O_end_61 : decode b_O_end 61 = .ok (.if_icmp .ge 23, 3) := by decide +kernel
theorem d_O_end_64 : decode b_O_end 64 = .ok (.aload_n 0, 1) := by decide +kernel
theorem d_O_end_65 : decode b_O_end 65 = .ok (.getfield 15, 3) := by decide +kernel
theorem d_O_end_68 : decode b_O_end 68 = .ok (.iload_n 1, 1) := by decide +kernel
theorem d_O_end_69 : decode b_O_end 69 = .ok (.aaload, 1) := by decide +kernel
theorem d_O_end_70 : decode b_O_end 70 = .ok (.iload_n 3, 1) := by decide +kernel
theorem d_O_end_71 : decode b_O_end 71 = .ok (.aload_n 0, 1) := by decide +kernel
theorem d_O_end_72 : decode b_O_end 72 = .ok (.getfield 9, 3) := by decide +kernel
theorem d_O_end_75 : decode b_O_end 75 = .ok (.iload_n 3, 1) := by decide +kernel
theorem d_O_end_76 : decode b_O_end 76 = .ok (.baload, 1) := by decide +kernel
theorem d_O_end_77 : decode b_O_end 77 = .ok (.bastore, 1) := by decide +kernel
theorem d_O_end_78 : decode b_O_end 78 = .ok (.iinc 3 1, 3) := by decide +kernel
theorem d_O_end_81 : decode b_O_end 81 = .ok (.goto (-22), 3) := by decide +kernel
theorem d_O_end_84 : decode b_O_end 84 = .ok (.aload_n 0, 1) := by decide +kernel
theorem d_O_end_85 : decode b_O_end 85 = .ok (.getfield 18, 3) := by decide +kernel
theorem d_O_end_88 : decode b_O_end 88 = .ok (.iload_n 1, 1) := by decide +kernel
theorem d_O_end_89 : decode b_O_end 89 = .ok (.iload_n 2, 1) := by decide +kernel
theorem d_O_end_90 : decode b_O_end 90 = .ok (.iastore, 1) := by decide +kernel
theorem d_O_end_91 : decode b_O_end 91 = .ok (.aload_n 0, 1) := by decide +kernel
theorem d_O_end_92 : decode b_O_end 92 = .ok (.iconst 0, 1) := by decide +kernel
theorem d_O_end_93 : decode b_O_end 93 = .ok (.putfield 75, 3) := by decide +kernel
theorem d_O_end_96 : decode b_O_end 96 = .ok (.iload_n 2, 1) := by decide +kernel
theorem d_O_end_97 : decode b_O_end 97 = .ok (.ireturn, 1) := by decide +kernel
theorem d_O_in_0 : decode b_O_in 0 = .ok (.iload_n 0, 1) := by decide +kernel
theorem d_O_in_1 : decode b_O_in 1 = .ok (.iload_n 1, 1) := by decide +kernel
theorem d_O_in_2 : decode b_O_in 2 = .ok (.if_icmp .lt 12, 3) := by decide +kernel
theorem d_O_in_5 : decode b_O_in 5 = .ok (.iload_n 0, 1) := by decide +kernel
theorem d_O_in_6 : decode b_O_in 6 = .ok (.iload_n 2, 1) := by decide +kernel
theorem d_O_in_7 : decode b_O_in 7 = .ok (.if_icmp .gt 7, 3) := by decide +kernel
theorem d_O_in_10 : decode b_O_in 10 = .ok (.iconst 1, 1) := by decide +kernel
theorem d_O_in_11 : decode b_O_in 11 = .ok (.goto 4, 3) := by decide +kernel
theorem d_O_in_14 : decode b_O_in 14 = .ok (.iconst 0, 1) := by decide +kernel
theorem d_O_in_15 : decode b_O_in 15 = .ok (.ireturn, 1) := by decide +kernel
theorem d_O_copy_0 : decode b_O_copy 0 = .ok (.aload_n 0, 1) := by decide +kernel
theorem d_O_copy_1 : decode b_O_copy 1 = .ok (.iload_n 1, 1) := by decide +kernel
theorem d_O_copy_2 : decode b_O_copy 2 = .ok (.iconst 0, 1) := by decide +kernel
theorem d_O_copy_3 : decode b_O_copy 3 = .ok (.bipush 7, 2) := by decide +kernel
theorem d_O_copy_5 : decode b_O_copy 5 = .ok (.invokestatic 86, 3) := by decide +kernel
theorem d_O_copy_8 : decode b_O_copy 8 = .ok (.ifCond .eq 17, 3) := by decide +kernel
theorem d_O_copy_11 : decode b_O_copy 11 = .ok (.iload_n 2, 1) := by decide +kernel
theorem d_O_copy_12 : decode b_O_copy 12 = .ok (.iconst 0, 1) := by decide +kernel
theorem d_O_copy_13 : decode b_O_copy 13 = .ok (.bipush 7, 2) := by decide +kernel
theorem d_O_copy_15 : decode b_O_copy 15 = .ok (.invokestatic 86, 3) := by decide +kernel
theorem d_O_copy_18 : decode b_O_copy 18 = .ok (.ifCond .eq 7, 3) := by decide +kernel
theorem d_O_copy_21 : decode b_O_copy 21 = .ok (.iconst 1, 1) := by decide +kernel
theorem d_O_copy_22 : decode b_O_copy 22 = .ok (.goto 4, 3) := by decide +kernel
theorem d_O_copy_25 : decode b_O_copy 25 = .ok (.iconst 0, 1) := by decide +kernel
theorem d_O_copy_26 : decode b_O_copy 26 = .ok (.iconst 1, 1) := by decide +kernel
theorem d_O_copy_27 : decode b_O_copy 27 = .ok (.invokevirtual 78, 3) := by decide +kernel
theorem d_O_copy_30 : decode b_O_copy 30 = .ok (.ifCond .ne 5, 3) := by decide +kernel
theorem d_O_copy_33 : decode b_O_copy 33 = .ok (.iconst 0, 1) := by decide +kernel
theorem d_O_copy_34 : decode b_O_copy 34 = .ok (.ireturn, 1) := by decide +kernel
theorem d_O_copy_35 : decode b_O_copy 35 = .ok (.iconst 0, 1) := by decide +kernel
theorem d_O_copy_36 : decode b_O_copy 36 = .ok (.istore_n 3, 1) := by decide +kernel
theorem d_O_copy_37 : decode b_O_copy 37 = .ok (.iload_n 3, 1) := by decide +kernel
theorem d_O_copy_38 : decode b_O_copy 38 = .ok (.aload_n 0, 1) := by decide +kernel
theorem d_O_copy_39 : decode b_O_copy 39 = .ok (.getfield 18, 3) := by decide +kernel
theorem d_O_copy_42 : decode b_O_copy 42 = .ok (.iload_n 1, 1) := by decide +kernel
theorem d_O_copy_43 : decode b_O_copy 43 = .ok (.iaload, 1) := by decide +kernel
theorem d_O_copy_44 : decode b_O_copy 44 = .ok (.if_icmp .ge 25, 3) := by decide +kernel
theorem d_O_copy_47 : decode b_O_copy 47 = .ok (.aload_n 0, 1) := by decide +kernel
theorem d_O_copy_48 : decode b_O_copy 48 = .ok (.getfield 15, 3) := by decide +kernel
theorem d_O_copy_51 : decode b_O_copy 51 = .ok (.iload_n 2, 1) := by decide +kernel
theorem d_O_copy_52 : decode b_O_copy 52 = .ok (.aaload, 1) := by decide +kernel
theorem d_O_copy_53 : decode b_O_copy 53 = .ok (.iload_n 3, 1) := by decide +kernel
theorem d_O_copy_54 : decode b_O_copy 54 = .ok (.aload_n 0, 1) := by decide +kernel
theorem d_O_copy_55 : decode b_O_copy 55 = .ok (.getfield 15, 3) := by decide +kernel
theorem d_O_copy_58 : decode b_O_copy 58 = .ok (.iload_n 1, 1) := by decide +kernel
theorem d_O_copy_59 : decode b_O_copy 59 = .ok (.aaload, 1) := by decide +kernel
theorem d_O_copy_60 : decode b_O_copy 60 = .ok (.iload_n 3, 1) := by decide +kernel
theorem d_O_copy_61 : decode b_O_copy 61 = .ok (.baload, 1) := by decide +kernel
theorem d_O_copy_62 : decode b_O_copy 62 = .ok (.bastore, 1) := by decide +kernel
theorem d_O_copy_63 : decode b_O_copy 63 = .ok (.iinc 3 1, 3) := by decide +kernel
theorem d_O_copy_66 : decode b_O_copy 66 = .ok (.goto (-29), 3) := by decide +kernel
theorem d_O_copy_69 : decode b_O_copy 69 = .ok (.aload_n 0, 1) := by decide +kernel
theorem d_O_copy_70 : decode b_O_copy 70 = .ok (.getfield 18, 3) := by decide +kernel
theorem d_O_copy_73 : decode b_O_copy 73 = .ok (.iload_n 2, 1) := by decide +kernel
theorem d_O_copy_74 : decode b_O_copy 74 = .ok (.aload_n 0, 1) := by decide +kernel
theorem d_O_copy_75 : decode b_O_copy 75 = .ok (.getfield 18, 3) := by decide +kernel
theorem d_O_copy_78 : decode b_O_copy 78 = .ok (.iload_n 1, 1) := by decide +kernel
theorem d_O_copy_79 : decode b_O_copy 79 = .ok (.iaload, 1) := by decide +kernel
theorem d_O_copy_80 : decode b_O_copy 80 = .ok (.iastore, 1) := by decide +kernel
theorem d_O_copy_81 : decode b_O_copy 81 = .ok (.aload_n 0, 1) := by decide +kernel
theorem d_O_copy_82 : decode b_O_copy 82 = .ok (.getfield 18, 3) := by decide +kernel
theorem d_O_copy_85 : decode b_O_copy 85 = .ok (.iload_n 2, 1) := by decide +kernel
theorem d_O_copy_86 : decode b_O_copy 86 = .ok (.iaload, 1) := by decide +kernel
theorem d_O_copy_87 : decode b_O_copy 87 = .ok (.ireturn, 1) := by decide +kernel
theorem d_O_resize_0 : decode b_O_resize 0 = .ok (.aload_n 0, 1) := by decide +kernel
theorem d_O_resize_1 : decode b_O_resize 1 = .ok (.iload_n 1, 1) := by decide +kernel
theorem d_O_resize_2 : decode b_O_resize 2 = .ok (.iconst 0, 1) := by decide +kernel
theorem d_O_resize_3 : decode b_O_resize 3 = .ok (.bipush 7, 2) := by decide +kernel
theorem d_O_resize_5 : decode b_O_resize 5 = .ok (.invokestatic 86, 3) := by decide +kernel
theorem d_O_resize_8 : decode b_O_resize 8 = .ok (.ifCond .eq 18, 3) := by decide +kernel
theorem d_O_resize_11 : decode b_O_resize 11 = .ok (.iload_n 2, 1) := by decide +kernel
theorem d_O_resize_12 : decode b_O_resize 12 = .ok (.iconst 0, 1) := by decide +kernel
theorem d_O_resize_13 : decode b_O_resize 13 = .ok (.sipush 8192, 3) := by decide +kernel
theorem d_O_resize_16 : decode b_O_resize 16 = .ok (.invokestatic 86, 3) := by decide +kernel
theorem d_O_resize_19 : decode b_O_resize 19 = .ok (.ifCond .eq 7, 3) := by decide +kernel
theorem d_O_resize_22 : decode b_O_resize 22 = .ok (.iconst 1, 1) := by decide +kernel
theorem d_O_resize_23 : decode b_O_resize 23 = .ok (.goto 4, 3) := by decide +kernel
theorem d_O_resize_26 : decode b_O_resize 26 = .ok (.iconst 0, 1) := by decide +kernel
theorem d_O_resize_27 : decode b_O_resize 27 = .ok (.iconst 1, 1) := by decide +kernel
theorem d_O_resize_28 : decode b_O_resize 28 = .ok (.invokevirtual 78, 3) := by decide +kernel
theorem d_O_resize_31 : decode b_O_resize 31 = .ok (.ifCond .ne 5, 3) := by decide +kernel
theorem d_O_resize_34 : decode b_O_resize 34 = .ok (.iconst 0, 1) := by decide +kernel
theorem d_O_resize_35 : decode b_O_resize 35 = .ok (.ireturn, 1) := by decide +kernel
theorem d_O_resize_36 : decode b_O_resize 36 = .ok (.aload_n 0, 1) := by decide +kernel
theorem d_O_resize_37 : decode b_O_resize 37 = .ok (.getfield 18, 3) := by decide +kernel
theorem d_O_resize_40 : decode b_O_resize 40 = .ok (.iload_n 1, 1) := by decide +kernel
theorem d_O_resize_41 : decode b_O_resize 41 = .ok (.iaload, 1) := by decide +kernel
theorem d_O_resize_42 : decode b_O_resize 42 = .ok (.istore_n 3, 1) := by decide +kernel
theorem d_O_resize_43 : decode b_O_resize 43 = .ok (.iload_n 3, 1) := by decide +kernel
theorem d_O_resize_44 : decode b_O_resize 44 = .ok (.istore 4, 2) := by decide +kernel
theorem d_O_resize_46 : decode b_O_resize 46 = .ok (.iload 4, 2) := by decide +kernel
theorem d_O_resize_48 : decode b_O_resize 48 = .ok (.iload_n 2, 1) := by decide +kernel
theorem d_O_resize_49 : decode b_O_resize 49 = .ok (.if_icmp .ge 19, 3) := by decide +kernel
theorem d_O_resize_52 : decode b_O_resize 52 = .ok (.aload_n 0, 1) := by decide +kernel
theorem d_O_resize_53 : decode b_O_resize 53 = .ok (.getfield 15, 3) := by decide +kernel
theorem d_O_resize_56 : decode b_O_resize 56 = .ok (.iload_n 1, 1) := by decide +kernel
theorem d_O_resize_57 : decode b_O_resize 57 = .ok (.aaload, 1) := by decide +kernel
theorem d_O_resize_58 : decode b_O_resize 58 = .ok (.iload 4, 2) := by decide +kernel
theorem d_O_resize_60 : decode b_O_resize 60 = .ok (.iconst 0, 1) := by decide +kernel
theorem d_O_resize_61 : decode b_O_resize 61 = .ok (.bastore, 1) := by decide +kernel
theorem d_O_resize_62 : decode b_O_resize 62 = .ok (.iinc 4 1, 3) := by decide +kernel
theorem d_O_resize_65 : decode b_O_resize 65 = .ok (.goto (-19), 3) := by decide +kernel
theorem d_O_resize_68 : decode b_O_resize 68 = .ok (.aload_n 0, 1) := by decide +kernel
theorem d_O_resize_69 : decode b_O_resize 69 = .ok (.getfield 18, 3) := by decide +kernel
theorem d_O_resize_72 : decode b_O_resize 72 = .ok (.iload_n 1, 1) := by decide +kernel
theorem d_O_resize_73 : decode b_O_resize 73 = .ok (.iload_n 2, 1) := by decide +kernel
theorem d_O_resize_74 : decode b_O_resize 74 = .ok (.iastore, 1) := by decide +kernel
theorem d_O_resize_75 : decode b_O_resize 75 = .ok (.iload_n 3, 1) := by decide +kernel
theorem d_O_resize_76 : decode b_O_resize 76 = .ok (.ireturn, 1) := by decide +kernel
theorem d_O_alter_0 : decode b_O_alter 0 = .ok (.aload_n 0, 1) := by decide +kernel
theorem d_O_alter_1 : decode b_O_alter 1 = .ok (.iload_n 1, 1) := by decide +kernel
theorem d_O_alter_2 : decode b_O_alter 2 = .ok (.iconst 0, 1) := by decide +kernel
theorem d_O_alter_3 : decode b_O_alter 3 = .ok (.bipush 7, 2) := by decide +kernel
theorem d_O_alter_5 : decode b_O_alter 5 = .ok (.invokestatic 86, 3) := by decide +kernel
theorem d_O_alter_8 : decode b_O_alter 8 = .ok (.ifCond .eq 18, 3) := by decide +kernel
theorem d_O_alter_11 : decode b_O_alter 11 = .ok (.iload_n 3, 1) := by decide +kernel
theorem d_O_alter_12 : decode b_O_alter 12 = .ok (.iconst 0, 1) := by decide +kernel
theorem d_O_alter_13 : decode b_O_alter 13 = .ok (.sipush 255, 3) := by decide +kernel
theorem d_O_alter_16 : decode b_O_alter 16 = .ok (.invokestatic 86, 3) := by decide +kernel
theorem d_O_alter_19 : decode b_O_alter 19 = .ok (.ifCond .eq 7, 3) := by decide +kernel
theorem d_O_alter_22 : decode b_O_alter 22 = .ok (.iconst 1, 1) := by decide +kernel
theorem d_O_alter_23 : decode b_O_alter 23 = .ok (.goto 4, 3) := by decide +kernel
theorem d_O_alter_26 : decode b_O_alter 26 = .ok (.iconst 0, 1) := by decide +kernel
theorem d_O_alter_27 : decode b_O_alter 27 = .ok (.iconst 1, 1) := by decide +kernel
theorem d_O_alter_28 : decode b_O_alter 28 = .ok (.invokevirtual 78, 3) := by decide +kernel
theorem d_O_alter_31 : decode b_O_alter 31 = .ok (.ifCond .eq 24, 3) := by decide +kernel
theorem d_O_alter_34 : decode b_O_alter 34 = .ok (.aload_n 0, 1) := by decide +kernel
theorem d_O_alter_35 : decode b_O_alter 35 = .ok (.iload_n 2, 1) := by decide +kernel
theorem d_O_alter_36 : decode b_O_alter 36 = .ok (.iconst 0, 1) := by decide +kernel
theorem d_O_alter_37 : decode b_O_alter 37 = .ok (.aload_n 0, 1) := by decide +kernel
theorem d_O_alter_38 : decode b_O_alter 38 = .ok (.getfield 18, 3) := by decide +kernel
theorem d_O_alter_41 : decode b_O_alter 41 = .ok (.iload_n 1, 1) := by decide +kernel
theorem d_O_alter_42 : decode b_O_alter 42 = .ok (.iaload, 1) := by decide +kernel
theorem d_O_alter_43 : decode b_O_alter 43 = .ok (.iconst 1, 1) := by decide +kernel
theorem d_O_alter_44 : decode b_O_alter 44 = .ok (.isub, 1) := by decide +kernel
theorem d_O_alter_45 : decode b_O_alter 45 = .ok (.invokestatic 86, 3) := by decide +kernel
theorem d_O_alter_48 : decode b_O_alter 48 = .ok (.iconst 2, 1) := by decide +kernel
theorem d_O_alter_49 : decode b_O_alter 49 = .ok (.invokevirtual 78, 3) := by decide +kernel
theorem d_O_alter_52 : decode b_O_alter 52 = .ok (.ifCond .ne 5, 3) := by decide +kernel
theorem d_O_alter_55 : decode b_O_alter 55 = .ok (.iconst 0, 1) := by decide +kernel
theorem d_O_alter_56 : decode b_O_alter 56 = .ok (.ireturn, 1) := by decide +kernel
theorem d_O_alter_57 : decode b_O_alter 57 = .ok (.aload_n 0, 1) := by decide +kernel
theorem d_O_alter_58 : decode b_O_alter 58 = .ok (.getfield 15, 3) := by decide +kernel
theorem d_O_alter_61 : decode b_O_alter 61 = .ok (.iload_n 1, 1) := by decide +kernel
theorem d_O_alter_62 : decode b_O_alter 62 = .ok (.aaload, 1) := by decide +kernel
theorem d_O_alter_63 : decode b_O_alter 63 = .ok (.iload_n 2, 1) := by decide +kernel
theorem d_O_alter_64 : decode b_O_alter 64 = .ok (.dup2, 1) := by decide +kernel
theorem d_O_alter_65 : decode b_O_alter 65 = .ok (.baload, 1) := by decide +kernel
theorem d_O_alter_66 : decode b_O_alter 66 = .ok (.iload_n 3, 1) := by decide +kernel
theorem d_O_alter_67 : decode b_O_alter 67 = .ok (.i2b, 1) := by decide +kernel
theorem d_O_alter_68 : decode b_O_alter 68 = .ok (.ixor, 1) := by decide +kernel
theorem d_O_alter_69 : decode b_O_alter 69 = .ok (.i2b, 1) := by decide +kernel
theorem d_O_alter_70 : decode b_O_alter 70 = .ok (.bastore, 1) := by decide +kernel
theorem d_O_alter_71 : decode b_O_alter 71 = .ok (.aload_n 0, 1) := by decide +kernel
theorem d_O_alter_72 : decode b_O_alter 72 = .ok (.getfield 15, 3) := by decide +kernel
theorem d_O_alter_75 : decode b_O_alter 75 = .ok (.iload_n 1, 1) := by decide +kernel
theorem d_O_alter_76 : decode b_O_alter 76 = .ok (.aaload, 1) := by decide +kernel
theorem d_O_alter_77 : decode b_O_alter 77 = .ok (.iload_n 2, 1) := by decide +kernel
theorem d_O_alter_78 : decode b_O_alter 78 = .ok (.baload, 1) := by decide +kernel
theorem d_O_alter_79 : decode b_O_alter 79 = .ok (.sipush 255, 3) := by decide +kernel
theorem d_O_alter_82 : decode b_O_alter 82 = .ok (.iand, 1) := by decide +kernel
theorem d_O_alter_83 : decode b_O_alter 83 = .ok (.ireturn, 1) := by decide +kernel
theorem d_O_length_0 : decode b_O_length 0 = .ok (.aload_n 0, 1) := by decide +kernel
theorem d_O_length_1 : decode b_O_length 1 = .ok (.iload_n 1, 1) := by decide +kernel
theorem d_O_length_2 : decode b_O_length 2 = .ok (.iconst 0, 1) := by decide +kernel
theorem d_O_length_3 : decode b_O_length 3 = .ok (.bipush 7, 2) := by decide +kernel
theorem d_O_length_5 : decode b_O_length 5 = .ok (.invokestatic 86, 3) := by decide +kernel
theorem d_O_length_8 : decode b_O_length 8 = .ok (.iconst 1, 1) := by decide +kernel
theorem d_O_length_9 : decode b_O_length 9 = .ok (.invokevirtual 78, 3) := by decide +kernel
theorem d_O_length_12 : decode b_O_length 12 = .ok (.ifCond .ne 5, 3) := by decide +kernel
theorem d_O_length_15 : decode b_O_length 15 = .ok (.iconst 0, 1) := by decide +kernel
theorem d_O_length_16 : decode b_O_length 16 = .ok (.ireturn, 1) := by decide +kernel
theorem d_O_length_17 : decode b_O_length 17 = .ok (.aload_n 0, 1) := by decide +kernel
theorem d_O_length_18 : decode b_O_length 18 = .ok (.getfield 18, 3) := by decide +kernel
theorem d_O_length_21 : decode b_O_length 21 = .ok (.iload_n 1, 1) := by decide +kernel
theorem d_O_length_22 : decode b_O_length 22 = .ok (.iaload, 1) := by decide +kernel
theorem d_O_length_23 : decode b_O_length 23 = .ok (.ireturn, 1) := by decide +kernel
theorem d_O_word2_0 : decode b_O_word2 0 = .ok (.aload_n 0, 1) := by decide +kernel
theorem d_O_word2_1 : decode b_O_word2 1 = .ok (.iload_n 1, 1) := by decide +kernel
theorem d_O_word2_2 : decode b_O_word2 2 = .ok (.iconst 0, 1) := by decide +kernel
theorem d_O_word2_3 : decode b_O_word2 3 = .ok (.bipush 7, 2) := by decide +kernel
theorem d_O_word2_5 : decode b_O_word2 5 = .ok (.invokestatic 86, 3) := by decide +kernel
theorem d_O_word2_8 : decode b_O_word2 8 = .ok (.iconst 1, 1) := by decide +kernel
theorem d_O_word2_9 : decode b_O_word2 9 = .ok (.invokevirtual 78, 3) := by decide +kernel
theorem d_O_word2_12 : decode b_O_word2 12 = .ok (.ifCond .eq 24, 3) := by decide +kernel
theorem d_O_word2_15 : decode b_O_word2 15 = .ok (.aload_n 0, 1) := by decide +kernel
theorem d_O_word2_16 : decode b_O_word2 16 = .ok (.iload_n 2, 1) := by decide +kernel
theorem d_O_word2_17 : decode b_O_word2 17 = .ok (.iconst 0, 1) := by decide +kernel
end
section
theorem d_O_word2_18 : decode b_O_word2 18 = .ok (.aload_n 0, 1) := by decide +kernel
theorem d_O_word2_19 : decode b_O_word2 19 = .ok (.getfield 18, 3) := by decide +kernel
theorem d_O_word2_22 : decode b_O_word2 22 = .ok (.iload_n 1, 1) := by decide +kernel
theorem d_O_word2_23 : decode b_O_word2 23 = .ok (.iaload, 1) := by decide +kernel
theorem d_O_word2_24 : decode b_O_word2 24 = .ok (.iconst 1, 1) := by decide +kernel
theorem d_O_word2_25 : decode b_O_word2 25 = .ok (.isub, 1) := by decide +kernel
theorem d_O_word2_26 : decode b_O_word2 26 = .ok (.invokestatic 86, 3) := by decide +kernel
theorem d_O_word2_29 : decode b_O_word2 29 = .ok (.iconst 2, 1) := by decide +kernel
theorem d_O_word2_30 : decode b_O_word2 30 = .ok (.invokevirtual 78, 3) := by decide +kernel
theorem d_O_word2_33 : decode b_O_word2 33 = .ok (.ifCond .ne 5, 3) := by decide +kernel
theorem d_O_word2_36 : decode b_O_word2 36 = .ok (.lconst 0, 1) := by decide +kernel
theorem d_O_word2_37 : decode b_O_word2 37 = .ok (.lreturn, 1) := by decide +kernel
theorem d_O_word2_38 : decode b_O_word2 38 = .ok (.lconst 0, 1) := by decide +kernel
theorem d_O_word2_39 : decode b_O_word2 39 = .ok (.lstore_n 3, 1) := by decide +kernel
theorem d_O_word2_40 : decode b_O_word2 40 = .ok (.iload_n 2, 1) := by decide +kernel
theorem d_O_word2_41 : decode b_O_word2 41 = .ok (.istore 5, 2) := by decide +kernel
theorem d_O_word2_43 : decode b_O_word2 43 = .ok (.iload 5, 2) := by decide +kernel
theorem d_O_word2_45 : decode b_O_word2 45 = .ok (.iload_n 2, 1) := by decide +kernel
theorem d_O_word2_46 : decode b_O_word2 46 = .ok (.bipush 8, 2) := by decide +kernel
theorem d_O_word2_48 : decode b_O_word2 48 = .ok (.iadd, 1) := by decide +kernel
theorem d_O_word2_49 : decode b_O_word2 49 = .ok (.if_icmp .ge 44, 3) := by decide +kernel
theorem d_O_word2_52 : decode b_O_word2 52 = .ok (.lload_n 3, 1) := by decide +kernel
theorem d_O_word2_53 : decode b_O_word2 53 = .ok (.bipush 8, 2) := by decide +kernel
theorem d_O_word2_55 : decode b_O_word2 55 = .ok (.lshl, 1) := by decide +kernel
theorem d_O_word2_56 : decode b_O_word2 56 = .ok (.iload 5, 2) := by decide +kernel
theorem d_O_word2_58 : decode b_O_word2 58 = .ok (.aload_n 0, 1) := by decide +kernel
theorem d_O_word2_59 : decode b_O_word2 59 = .ok (.getfield 18, 3) := by decide +kernel
theorem d_O_word2_62 : decode b_O_word2 62 = .ok (.iload_n 1, 1) := by decide +kernel
theorem d_O_word2_63 : decode b_O_word2 63 = .ok (.iaload, 1) := by decide +kernel
theorem d_O_word2_64 : decode b_O_word2 64 = .ok (.if_icmp .ge 20, 3) := by decide +kernel
theorem d_O_word2_67 : decode b_O_word2 67 = .ok (.aload_n 0, 1) := by decide +kernel
theorem d_O_word2_68 : decode b_O_word2 68 = .ok (.getfield 15, 3) := by decide +kernel
theorem d_O_word2_71 : decode b_O_word2 71 = .ok (.iload_n 1, 1) := by decide +kernel
theorem d_O_word2_72 : decode b_O_word2 72 = .ok (.aaload, 1) := by decide +kernel
theorem d_O_word2_73 : decode b_O_word2 73 = .ok (.iload 5, 2) := by decide +kernel
theorem d_O_word2_75 : decode b_O_word2 75 = .ok (.baload, 1) := by decide +kernel
theorem d_O_word2_76 : decode b_O_word2 76 = .ok (.i2l, 1) := by decide +kernel
theorem d_O_word2_77 : decode b_O_word2 77 = .ok (.ldc2_w 90, 3) := by decide +kernel
theorem d_O_word2_80 : decode b_O_word2 80 = .ok (.land, 1) := by decide +kernel
theorem d_O_word2_81 : decode b_O_word2 81 = .ok (.goto 4, 3) := by decide +kernel
theorem d_O_word2_84 : decode b_O_word2 84 = .ok (.lconst 0, 1) := by decide +kernel
theorem d_O_word2_85 : decode b_O_word2 85 = .ok (.lor, 1) := by decide +kernel
theorem d_O_word2_86 : decode b_O_word2 86 = .ok (.lstore_n 3, 1) := by decide +kernel
theorem d_O_word2_87 : decode b_O_word2 87 = .ok (.iinc 5 1, 3) := by decide +kernel
theorem d_O_word2_90 : decode b_O_word2 90 = .ok (.goto (-47), 3) := by decide +kernel
theorem d_O_word2_93 : decode b_O_word2 93 = .ok (.lload_n 3, 1) := by decide +kernel
theorem d_O_word2_94 : decode b_O_word2 94 = .ok (.lreturn, 1) := by decide +kernel
theorem d_O_same_0 : decode b_O_same 0 = .ok (.aload_n 0, 1) := by decide +kernel
theorem d_O_same_1 : decode b_O_same 1 = .ok (.iload_n 1, 1) := by decide +kernel
theorem d_O_same_2 : decode b_O_same 2 = .ok (.iconst 0, 1) := by decide +kernel
theorem d_O_same_3 : decode b_O_same 3 = .ok (.bipush 7, 2) := by decide +kernel
theorem d_O_same_5 : decode b_O_same 5 = .ok (.invokestatic 86, 3) := by decide +kernel
theorem d_O_same_8 : decode b_O_same 8 = .ok (.ifCond .eq 17, 3) := by decide +kernel
theorem d_O_same_11 : decode b_O_same 11 = .ok (.iload_n 2, 1) := by decide +kernel
theorem d_O_same_12 : decode b_O_same 12 = .ok (.iconst 0, 1) := by decide +kernel
theorem d_O_same_13 : decode b_O_same 13 = .ok (.bipush 7, 2) := by decide +kernel
theorem d_O_same_15 : decode b_O_same 15 = .ok (.invokestatic 86, 3) := by decide +kernel
theorem d_O_same_18 : decode b_O_same 18 = .ok (.ifCond .eq 7, 3) := by decide +kernel
theorem d_O_same_21 : decode b_O_same 21 = .ok (.iconst 1, 1) := by decide +kernel
theorem d_O_same_22 : decode b_O_same 22 = .ok (.goto 4, 3) := by decide +kernel
theorem d_O_same_25 : decode b_O_same 25 = .ok (.iconst 0, 1) := by decide +kernel
theorem d_O_same_26 : decode b_O_same 26 = .ok (.iconst 1, 1) := by decide +kernel
theorem d_O_same_27 : decode b_O_same 27 = .ok (.invokevirtual 78, 3) := by decide +kernel
theorem d_O_same_30 : decode b_O_same 30 = .ok (.ifCond .ne 5, 3) := by decide +kernel
theorem d_O_same_33 : decode b_O_same 33 = .ok (.iconst 0, 1) := by decide +kernel
theorem d_O_same_34 : decode b_O_same 34 = .ok (.ireturn, 1) := by decide +kernel
theorem d_O_same_35 : decode b_O_same 35 = .ok (.aload_n 0, 1) := by decide +kernel
theorem d_O_same_36 : decode b_O_same 36 = .ok (.getfield 18, 3) := by decide +kernel
theorem d_O_same_39 : decode b_O_same 39 = .ok (.iload_n 1, 1) := by decide +kernel
theorem d_O_same_40 : decode b_O_same 40 = .ok (.iaload, 1) := by decide +kernel
theorem d_O_same_41 : decode b_O_same 41 = .ok (.aload_n 0, 1) := by decide +kernel
theorem d_O_same_42 : decode b_O_same 42 = .ok (.getfield 18, 3) := by decide +kernel
theorem d_O_same_45 : decode b_O_same 45 = .ok (.iload_n 2, 1) := by decide +kernel
theorem d_O_same_46 : decode b_O_same 46 = .ok (.iaload, 1) := by decide +kernel
theorem d_O_same_47 : decode b_O_same 47 = .ok (.if_icmp .eq 5, 3) := by decide +kernel
theorem d_O_same_50 : decode b_O_same 50 = .ok (.iconst 0, 1) := by decide +kernel
theorem d_O_same_51 : decode b_O_same 51 = .ok (.ireturn, 1) := by decide +kernel
theorem d_O_same_52 : decode b_O_same 52 = .ok (.iconst 1, 1) := by decide +kernel
theorem d_O_same_53 : decode b_O_same 53 = .ok (.istore_n 3, 1) := by decide +kernel
theorem d_O_same_54 : decode b_O_same 54 = .ok (.iconst 0, 1) := by decide +kernel
theorem d_O_same_55 : decode b_O_same 55 = .ok (.istore 4, 2) := by decide +kernel
theorem d_O_same_57 : decode b_O_same 57 = .ok (.iload 4, 2) := by decide +kernel
theorem d_O_same_59 : decode b_O_same 59 = .ok (.aload_n 0, 1) := by decide +kernel
theorem d_O_same_60 : decode b_O_same 60 = .ok (.getfield 18, 3) := by decide +kernel
theorem d_O_same_63 : decode b_O_same 63 = .ok (.iload_n 1, 1) := by decide +kernel
theorem d_O_same_64 : decode b_O_same 64 = .ok (.iaload, 1) := by decide +kernel
theorem d_O_same_65 : decode b_O_same 65 = .ok (.if_icmp .ge 32, 3) := by decide +kernel
theorem d_O_same_68 : decode b_O_same 68 = .ok (.aload_n 0, 1) := by decide +kernel
theorem d_O_same_69 : decode b_O_same 69 = .ok (.getfield 15, 3) := by decide +kernel
theorem d_O_same_72 : decode b_O_same 72 = .ok (.iload_n 1, 1) := by decide +kernel
theorem d_O_same_73 : decode b_O_same 73 = .ok (.aaload, 1) := by decide +kernel
theorem d_O_same_74 : decode b_O_same 74 = .ok (.iload 4, 2) := by decide +kernel
theorem d_O_same_76 : decode b_O_same 76 = .ok (.baload, 1) := by decide +kernel
theorem d_O_same_77 : decode b_O_same 77 = .ok (.aload_n 0, 1) := by decide +kernel
theorem d_O_same_78 : decode b_O_same 78 = .ok (.getfield 15, 3) := by decide +kernel
theorem d_O_same_81 : decode b_O_same 81 = .ok (.iload_n 2, 1) := by decide +kernel
theorem d_O_same_82 : decode b_O_same 82 = .ok (.aaload, 1) := by decide +kernel
theorem d_O_same_83 : decode b_O_same 83 = .ok (.iload 4, 2) := by decide +kernel
theorem d_O_same_85 : decode b_O_same 85 = .ok (.baload, 1) := by decide +kernel
theorem d_O_same_86 : decode b_O_same 86 = .ok (.if_icmp .eq 5, 3) := by decide +kernel
theorem d_O_same_89 : decode b_O_same 89 = .ok (.iconst 0, 1) := by decide +kernel
theorem d_O_same_90 : decode b_O_same 90 = .ok (.istore_n 3, 1) := by decide +kernel
theorem d_O_same_91 : decode b_O_same 91 = .ok (.iinc 4 1, 3) := by decide +kernel
theorem d_O_same_94 : decode b_O_same 94 = .ok (.goto (-37), 3) := by decide +kernel
theorem d_O_same_97 : decode b_O_same 97 = .ok (.iload_n 3, 1) := by decide +kernel
theorem d_O_same_98 : decode b_O_same 98 = .ok (.ireturn, 1) := by decide +kernel
theorem d_O_digest_0 : decode b_O_digest 0 = .ok (.aload_n 0, 1) := by decide +kernel
theorem d_O_digest_1 : decode b_O_digest 1 = .ok (.iload_n 1, 1) := by decide +kernel
theorem d_O_digest_2 : decode b_O_digest 2 = .ok (.iconst 1, 1) := by decide +kernel
theorem d_O_digest_3 : decode b_O_digest 3 = .ok (.bipush 16, 2) := by decide +kernel
theorem d_O_digest_5 : decode b_O_digest 5 = .ok (.invokestatic 86, 3) := by decide +kernel
theorem d_O_digest_8 : decode b_O_digest 8 = .ok (.ifCond .eq 18, 3) := by decide +kernel
theorem d_O_digest_11 : decode b_O_digest 11 = .ok (.iload_n 2, 1) := by decide +kernel
theorem d_O_digest_12 : decode b_O_digest 12 = .ok (.iconst 0, 1) := by decide +kernel
theorem d_O_digest_13 : decode b_O_digest 13 = .ok (.sipush 8192, 3) := by decide +kernel
theorem d_O_digest_16 : decode b_O_digest 16 = .ok (.invokestatic 86, 3) := by decide +kernel
theorem d_O_digest_19 : decode b_O_digest 19 = .ok (.ifCond .eq 7, 3) := by decide +kernel
theorem d_O_digest_22 : decode b_O_digest 22 = .ok (.iconst 1, 1) := by decide +kernel
theorem d_O_digest_23 : decode b_O_digest 23 = .ok (.goto 4, 3) := by decide +kernel
theorem d_O_digest_26 : decode b_O_digest 26 = .ok (.iconst 0, 1) := by decide +kernel
theorem d_O_digest_27 : decode b_O_digest 27 = .ok (.iconst 1, 1) := by decide +kernel
theorem d_O_digest_28 : decode b_O_digest 28 = .ok (.invokevirtual 78, 3) := by decide +kernel
theorem d_O_digest_31 : decode b_O_digest 31 = .ok (.ifCond .ne 5, 3) := by decide +kernel
theorem d_O_digest_34 : decode b_O_digest 34 = .ok (.iconst 0, 1) := by decide +kernel
theorem d_O_digest_35 : decode b_O_digest 35 = .ok (.ireturn, 1) := by decide +kernel
theorem d_O_digest_36 : decode b_O_digest 36 = .ok (.iload_n 1, 1) := by decide +kernel
theorem d_O_digest_37 : decode b_O_digest 37 = .ok (.bipush 13, 2) := by decide +kernel
theorem d_O_digest_39 : decode b_O_digest 39 = .ok (.if_icmp .ne 8, 3) := by decide +kernel
theorem d_O_digest_42 : decode b_O_digest 42 = .ok (.bipush 32, 2) := by decide +kernel
theorem d_O_digest_44 : decode b_O_digest 44 = .ok (.goto 40, 3) := by decide +kernel
theorem d_O_digest_47 : decode b_O_digest 47 = .ok (.iload_n 1, 1) := by decide +kernel
theorem d_O_digest_48 : decode b_O_digest 48 = .ok (.bipush 14, 2) := by decide +kernel
theorem d_O_digest_50 : decode b_O_digest 50 = .ok (.if_icmp .ne 8, 3) := by decide +kernel
theorem d_O_digest_53 : decode b_O_digest 53 = .ok (.bipush 64, 2) := by decide +kernel
theorem d_O_digest_55 : decode b_O_digest 55 = .ok (.goto 29, 3) := by decide +kernel
theorem d_O_digest_58 : decode b_O_digest 58 = .ok (.iload_n 1, 1) := by decide +kernel
theorem d_O_digest_59 : decode b_O_digest 59 = .ok (.bipush 14, 2) := by decide +kernel
theorem d_O_digest_61 : decode b_O_digest 61 = .ok (.if_icmp .gt 15, 3) := by decide +kernel
theorem d_O_digest_64 : decode b_O_digest 64 = .ok (.iload_n 1, 1) := by decide +kernel
theorem d_O_digest_65 : decode b_O_digest 65 = .ok (.bipush 10, 2) := by decide +kernel
theorem d_O_digest_67 : decode b_O_digest 67 = .ok (.if_icmp .le 13, 3) := by decide +kernel
theorem d_O_digest_70 : decode b_O_digest 70 = .ok (.iload_n 1, 1) := by decide +kernel
theorem d_O_digest_71 : decode b_O_digest 71 = .ok (.bipush 13, 2) := by decide +kernel
theorem d_O_digest_73 : decode b_O_digest 73 = .ok (.if_icmp .ge 7, 3) := by decide +kernel
theorem d_O_digest_76 : decode b_O_digest 76 = .ok (.iload_n 2, 1) := by decide +kernel
theorem d_O_digest_77 : decode b_O_digest 77 = .ok (.goto 7, 3) := by decide +kernel
theorem d_O_digest_80 : decode b_O_digest 80 = .ok (.iload_n 1, 1) := by decide +kernel
theorem d_O_digest_81 : decode b_O_digest 81 = .ok (.invokestatic 135, 3) := by decide +kernel
theorem d_O_digest_84 : decode b_O_digest 84 = .ok (.istore_n 3, 1) := by decide +kernel
theorem d_O_digest_85 : decode b_O_digest 85 = .ok (.iload_n 1, 1) := by decide +kernel
theorem d_O_digest_86 : decode b_O_digest 86 = .ok (.bipush 13, 2) := by decide +kernel
theorem d_O_digest_88 : decode b_O_digest 88 = .ok (.if_icmp .ge 41, 3) := by decide +kernel
theorem d_O_digest_91 : decode b_O_digest 91 = .ok (.aload_n 0, 1) := by decide +kernel
theorem d_O_digest_92 : decode b_O_digest 92 = .ok (.iload_n 1, 1) := by decide +kernel
theorem d_O_digest_93 : decode b_O_digest 93 = .ok (.invokevirtual 114, 3) := by decide +kernel
theorem d_O_digest_96 : decode b_O_digest 96 = .ok (.aload_n 0, 1) := by decide +kernel
theorem d_O_digest_97 : decode b_O_digest 97 = .ok (.aload_n 0, 1) := by decide +kernel
theorem d_O_digest_98 : decode b_O_digest 98 = .ok (.getfield 15, 3) := by decide +kernel
theorem d_O_digest_101 : decode b_O_digest 101 = .ok (.iconst 3, 1) := by decide +kernel
theorem d_O_digest_102 : decode b_O_digest 102 = .ok (.aaload, 1) := by decide +kernel
theorem d_O_digest_103 : decode b_O_digest 103 = .ok (.iconst 0, 1) := by decide +kernel
theorem d_O_digest_104 : decode b_O_digest 104 = .ok (.aload_n 0, 1) := by decide +kernel
theorem d_O_digest_105 : decode b_O_digest 105 = .ok (.getfield 18, 3) := by decide +kernel
theorem d_O_digest_108 : decode b_O_digest 108 = .ok (.iconst 3, 1) := by decide +kernel
theorem d_O_digest_109 : decode b_O_digest 109 = .ok (.iaload, 1) := by decide +kernel
theorem d_O_digest_110 : decode b_O_digest 110 = .ok (.invokevirtual 182, 3) := by decide +kernel
theorem d_O_digest_113 : decode b_O_digest 113 = .ok (.aload_n 0, 1) := by decide +kernel
theorem d_O_digest_114 : decode b_O_digest 114 = .ok (.aload_n 0, 1) := by decide +kernel
theorem d_O_digest_115 : decode b_O_digest 115 = .ok (.getfield 15, 3) := by decide +kernel
theorem d_O_digest_118 : decode b_O_digest 118 = .ok (.bipush 6, 2) := by decide +kernel
theorem d_O_digest_120 : decode b_O_digest 120 = .ok (.aaload, 1) := by decide +kernel
theorem d_O_digest_121 : decode b_O_digest 121 = .ok (.iconst 0, 1) := by decide +kernel
theorem d_O_digest_122 : decode b_O_digest 122 = .ok (.iload_n 3, 1) := by decide +kernel
theorem d_O_digest_123 : decode b_O_digest 123 = .ok (.invokevirtual 185, 3) := by decide +kernel
theorem d_O_digest_126 : decode b_O_digest 126 = .ok (.goto 112, 3) := by decide +kernel
theorem d_O_digest_129 : decode b_O_digest 129 = .ok (.iload_n 1, 1) := by decide +kernel
theorem d_O_digest_130 : decode b_O_digest 130 = .ok (.bipush 15, 2) := by decide +kernel
theorem d_O_digest_132 : decode b_O_digest 132 = .ok (.if_icmp .ge 70, 3) := by decide +kernel
theorem d_O_digest_135 : decode b_O_digest 135 = .ok (.iload_n 1, 1) := by decide +kernel
theorem d_O_digest_136 : decode b_O_digest 136 = .ok (.bipush 13, 2) := by decide +kernel
theorem d_O_digest_138 : decode b_O_digest 138 = .ok (.if_icmp .ne 7, 3) := by decide +kernel
theorem d_O_digest_141 : decode b_O_digest 141 = .ok (.iconst 1, 1) := by decide +kernel
theorem d_O_digest_142 : decode b_O_digest 142 = .ok (.goto 4, 3) := by decide +kernel
theorem d_O_digest_145 : decode b_O_digest 145 = .ok (.iconst 3, 1) := by decide +kernel
theorem d_O_digest_146 : decode b_O_digest 146 = .ok (.istore 4, 2) := by decide +kernel
theorem d_O_digest_148 : decode b_O_digest 148 = .ok (.aload_n 0, 1) := by decide +kernel
theorem d_O_digest_149 : decode b_O_digest 149 = .ok (.iload 4, 2) := by decide +kernel
theorem d_O_digest_151 : decode b_O_digest 151 = .ok (.aload_n 0, 1) := by decide +kernel
theorem d_O_digest_152 : decode b_O_digest 152 = .ok (.getfield 15, 3) := by decide +kernel
theorem d_O_digest_155 : decode b_O_digest 155 = .ok (.iconst 0, 1) := by decide +kernel
theorem d_O_digest_156 : decode b_O_digest 156 = .ok (.aaload, 1) := by decide +kernel
theorem d_O_digest_157 : decode b_O_digest 157 = .ok (.iconst 0, 1) := by decide +kernel
theorem d_O_digest_158 : decode b_O_digest 158 = .ok (.aload_n 0, 1) := by decide +kernel
theorem d_O_digest_159 : decode b_O_digest 159 = .ok (.getfield 18, 3) := by decide +kernel
theorem d_O_digest_162 : decode b_O_digest 162 = .ok (.iconst 0, 1) := by decide +kernel
theorem d_O_digest_163 : decode b_O_digest 163 = .ok (.iaload, 1) := by decide +kernel
theorem d_O_digest_164 : decode b_O_digest 164 = .ok (.invokevirtual 192, 3) := by decide +kernel
theorem d_O_digest_167 : decode b_O_digest 167 = .ok (.aload_n 0, 1) := by decide +kernel
theorem d_O_digest_168 : decode b_O_digest 168 = .ok (.aload_n 0, 1) := by decide +kernel
theorem d_O_digest_169 : decode b_O_digest 169 = .ok (.getfield 15, 3) := by decide +kernel
theorem d_O_digest_172 : decode b_O_digest 172 = .ok (.iconst 3, 1) := by decide +kernel
theorem d_O_digest_173 : decode b_O_digest 173 = .ok (.aaload, 1) := by decide +kernel
theorem d_O_digest_174 : decode b_O_digest 174 = .ok (.iconst 0, 1) := by decide +kernel
theorem d_O_digest_175 : decode b_O_digest 175 = .ok (.aload_n 0, 1) := by decide +kernel
theorem d_O_digest_176 : decode b_O_digest 176 = .ok (.getfield 18, 3) := by decide +kernel
theorem d_O_digest_179 : decode b_O_digest 179 = .ok (.iconst 3, 1) := by decide +kernel
theorem d_O_digest_180 : decode b_O_digest 180 = .ok (.iaload, 1) := by decide +kernel
theorem d_O_digest_181 : decode b_O_digest 181 = .ok (.invokevirtual 182, 3) := by decide +kernel
theorem d_O_digest_184 : decode b_O_digest 184 = .ok (.aload_n 0, 1) := by decide +kernel
theorem d_O_digest_185 : decode b_O_digest 185 = .ok (.iload 4, 2) := by decide +kernel
theorem d_O_digest_187 : decode b_O_digest 187 = .ok (.aload_n 0, 1) := by decide +kernel
theorem d_O_digest_188 : decode b_O_digest 188 = .ok (.getfield 15, 3) := by decide +kernel
theorem d_O_digest_191 : decode b_O_digest 191 = .ok (.bipush 6, 2) := by decide +kernel
theorem d_O_digest_193 : decode b_O_digest 193 = .ok (.aaload, 1) := by decide +kernel
theorem d_O_digest_194 : decode b_O_digest 194 = .ok (.iconst 0, 1) := by decide +kernel
theorem d_O_digest_195 : decode b_O_digest 195 = .ok (.iload_n 3, 1) := by decide +kernel
theorem d_O_digest_196 : decode b_O_digest 196 = .ok (.invokevirtual 196, 3) := by decide +kernel
theorem d_O_digest_199 : decode b_O_digest 199 = .ok (.goto 39, 3) := by decide +kernel
theorem d_O_digest_202 : decode b_O_digest 202 = .ok (.aload_n 0, 1) := by decide +kernel
theorem d_O_digest_203 : decode b_O_digest 203 = .ok (.iload_n 1, 1) := by decide +kernel
theorem d_O_digest_204 : decode b_O_digest 204 = .ok (.bipush 15, 2) := by decide +kernel
theorem d_O_digest_206 : decode b_O_digest 206 = .ok (.if_icmp .ne 7, 3) := by decide +kernel
theorem d_O_digest_209 : decode b_O_digest 209 = .ok (.iconst 1, 1) := by decide +kernel
theorem d_O_digest_210 : decode b_O_digest 210 = .ok (.goto 4, 3) := by decide +kernel
theorem d_O_digest_213 : decode b_O_digest 213 = .ok (.iconst 3, 1) := by decide +kernel
theorem d_O_digest_214 : decode b_O_digest 214 = .ok (.aload_n 0, 1) := by decide +kernel
theorem d_O_digest_215 : decode b_O_digest 215 = .ok (.getfield 15, 3) := by decide +kernel
theorem d_O_digest_218 : decode b_O_digest 218 = .ok (.iconst 3, 1) := by decide +kernel
theorem d_O_digest_219 : decode b_O_digest 219 = .ok (.aaload, 1) := by decide +kernel
theorem d_O_digest_220 : decode b_O_digest 220 = .ok (.aload_n 0, 1) := by decide +kernel
theorem d_O_digest_221 : decode b_O_digest 221 = .ok (.getfield 18, 3) := by decide +kernel
theorem d_O_digest_224 : decode b_O_digest 224 = .ok (.iconst 3, 1) := by decide +kernel
theorem d_O_digest_225 : decode b_O_digest 225 = .ok (.iaload, 1) := by decide +kernel
theorem d_O_digest_226 : decode b_O_digest 226 = .ok (.aload_n 0, 1) := by decide +kernel
theorem d_O_digest_227 : decode b_O_digest 227 = .ok (.getfield 15, 3) := by decide +kernel
theorem d_O_digest_230 : decode b_O_digest 230 = .ok (.bipush 6, 2) := by decide +kernel
theorem d_O_digest_232 : decode b_O_digest 232 = .ok (.aaload, 1) := by decide +kernel
theorem d_O_digest_233 : decode b_O_digest 233 = .ok (.iconst 0, 1) := by decide +kernel
theorem d_O_digest_234 : decode b_O_digest 234 = .ok (.iload_n 3, 1) := by decide +kernel
theorem d_O_digest_235 : decode b_O_digest 235 = .ok (.invokevirtual 199, 3) := by decide +kernel
theorem d_O_digest_238 : decode b_O_digest 238 = .ok (.aload_n 0, 1) := by decide +kernel
theorem d_O_digest_239 : decode b_O_digest 239 = .ok (.getfield 18, 3) := by decide +kernel
theorem d_O_digest_242 : decode b_O_digest 242 = .ok (.bipush 6, 2) := by decide +kernel
theorem d_O_digest_244 : decode b_O_digest 244 = .ok (.iload_n 3, 1) := by decide +kernel
theorem d_O_digest_245 : decode b_O_digest 245 = .ok (.iastore, 1) := by decide +kernel
theorem d_O_digest_246 : decode b_O_digest 246 = .ok (.iload_n 3, 1) := by decide +kernel
theorem d_O_digest_247 : decode b_O_digest 247 = .ok (.ireturn, 1) := by decide +kernel
theorem d_O_put2_0 : decode b_O_put2 0 = .ok (.iconst 0, 1) := by decide +kernel
theorem d_O_put2_1 : decode b_O_put2 1 = .ok (.istore 4, 2) := by decide +kernel
theorem d_O_put2_3 : decode b_O_put2 3 = .ok (.iload 4, 2) := by decide +kernel
theorem d_O_put2_5 : decode b_O_put2 5 = .ok (.iload_n 3, 1) := by decide +kernel
theorem d_O_put2_6 : decode b_O_put2 6 = .ok (.if_icmp .ge 19, 3) := by decide +kernel
theorem d_O_put2_9 : decode b_O_put2 9 = .ok (.aload_n 0, 1) := by decide +kernel
theorem d_O_put2_10 : decode b_O_put2 10 = .ok (.aload_n 1, 1) := by decide +kernel
theorem d_O_put2_11 : decode b_O_put2 11 = .ok (.iload_n 2, 1) := by decide +kernel
theorem d_O_put2_12 : decode b_O_put2 12 = .ok (.iload 4, 2) := by decide +kernel
theorem d_O_put2_14 : decode b_O_put2 14 = .ok (.iadd, 1) := by decide +kernel
theorem d_O_put2_15 : decode b_O_put2 15 = .ok (.baload, 1) := by decide +kernel
theorem d_O_put2_16 : decode b_O_put2 16 = .ok (.invokevirtual 119, 3) := by decide +kernel
theorem d_O_put2_19 : decode b_O_put2 19 = .ok (.iinc 4 1, 3) := by decide +kernel
theorem d_O_put2_22 : decode b_O_put2 22 = .ok (.goto (-19), 3) := by decide +kernel
theorem d_O_put2_25 : decode b_O_put2 25 = .ok (.return_, 1) := by decide +kernel
theorem d_O_give_0 : decode b_O_give 0 = .ok (.aload_n 0, 1) := by decide +kernel
theorem d_O_give_1 : decode b_O_give 1 = .ok (.invokevirtual 122, 3) := by decide +kernel
theorem d_O_give_4 : decode b_O_give 4 = .ok (.iconst 0, 1) := by decide +kernel
theorem d_O_give_5 : decode b_O_give 5 = .ok (.istore 4, 2) := by decide +kernel
theorem d_O_give_7 : decode b_O_give 7 = .ok (.iload 4, 2) := by decide +kernel
theorem d_O_give_9 : decode b_O_give 9 = .ok (.iload_n 3, 1) := by decide +kernel
theorem d_O_give_10 : decode b_O_give 10 = .ok (.if_icmp .ge 92, 3) := by decide +kernel
theorem d_O_give_13 : decode b_O_give 13 = .ok (.aload_n 0, 1) := by decide +kernel
theorem d_O_give_14 : decode b_O_give 14 = .ok (.invokevirtual 146, 3) := by decide +kernel
theorem d_O_give_17 : decode b_O_give 17 = .ok (.ifCond .eq 17, 3) := by decide +kernel
theorem d_O_give_20 : decode b_O_give 20 = .ok (.aload_n 1, 1) := by decide +kernel
theorem d_O_give_21 : decode b_O_give 21 = .ok (.iload_n 2, 1) := by decide +kernel
theorem d_O_give_22 : decode b_O_give 22 = .ok (.iload 4, 2) := by decide +kernel
theorem d_O_give_24 : decode b_O_give 24 = .ok (.iadd, 1) := by decide +kernel
theorem d_O_give_25 : decode b_O_give 25 = .ok (.aload_n 0, 1) := by decide +kernel
theorem d_O_give_26 : decode b_O_give 26 = .ok (.invokevirtual 178, 3) := by decide +kernel
theorem d_O_give_29 : decode b_O_give 29 = .ok (.i2b, 1) := by decide +kernel
theorem d_O_give_30 : decode b_O_give 30 = .ok (.bastore, 1) := by decide +kernel
theorem d_O_give_31 : decode b_O_give 31 = .ok (.goto 65, 3) := by decide +kernel
theorem d_O_give_34 : decode b_O_give 34 = .ok (.aload_n 1, 1) := by decide +kernel
theorem d_O_give_35 : decode b_O_give 35 = .ok (.iload_n 2, 1) := by decide +kernel
theorem d_O_give_36 : decode b_O_give 36 = .ok (.iload 4, 2) := by decide +kernel
theorem d_O_give_38 : decode b_O_give 38 = .ok (.iadd, 1) := by decide +kernel
theorem d_O_give_39 : decode b_O_give 39 = .ok (.aload_n 0, 1) := by decide +kernel
theorem d_O_give_40 : decode b_O_give 40 = .ok (.getfield 141, 3) := by decide +kernel
theorem d_O_give_43 : decode b_O_give 43 = .ok (.bipush 64, 2) := by decide +kernel
theorem d_O_give_45 : decode b_O_give 45 = .ok (.if_icmp .ne 26, 3) := by decide +kernel
theorem d_O_give_48 : decode b_O_give 48 = .ok (.aload_n 0, 1) := by decide +kernel
theorem d_O_give_49 : decode b_O_give 49 = .ok (.getfield 47, 3) := by decide +kernel
theorem d_O_give_52 : decode b_O_give 52 = .ok (.iload 4, 2) := by decide +kernel
theorem d_O_give_54 : decode b_O_give 54 = .ok (.iconst 4, 1) := by decide +kernel
theorem d_O_give_55 : decode b_O_give 55 = .ok (.idiv, 1) := by decide +kernel
theorem d_O_give_56 : decode b_O_give 56 = .ok (.laload, 1) := by decide +kernel
theorem d_O_give_57 : decode b_O_give 57 = .ok (.bipush 24, 2) := by decide +kernel
theorem d_O_give_59 : decode b_O_give 59 = .ok (.bipush 8, 2) := by decide +kernel
theorem d_O_give_61 : decode b_O_give 61 = .ok (.iload 4, 2) := by decide +kernel
theorem d_O_give_63 : decode b_O_give 63 = .ok (.iconst 4, 1) := by decide +kernel
theorem d_O_give_64 : decode b_O_give 64 = .ok (.irem, 1) := by decide +kernel
end
section
theorem d_O_give_65 : decode b_O_give 65 = .ok (.imul, 1) := by decide +kernel
theorem d_O_give_66 : decode b_O_give 66 = .ok (.isub, 1) := by decide +kernel
theorem d_O_give_67 : decode b_O_give 67 = .ok (.lushr, 1) := by decide +kernel
theorem d_O_give_68 : decode b_O_give 68 = .ok (.goto 25, 3) := by decide +kernel
theorem d_O_give_71 : decode b_O_give 71 = .ok (.aload_n 0, 1) := by decide +kernel
theorem d_O_give_72 : decode b_O_give 72 = .ok (.getfield 47, 3) := by decide +kernel
theorem d_O_give_75 : decode b_O_give 75 = .ok (.iload 4, 2) := by decide +kernel
theorem d_O_give_77 : decode b_O_give 77 = .ok (.bipush 8, 2) := by decide +kernel
theorem d_O_give_79 : decode b_O_give 79 = .ok (.idiv, 1) := by decide +kernel
theorem d_O_give_80 : decode b_O_give 80 = .ok (.laload, 1) := by decide +kernel
theorem d_O_give_81 : decode b_O_give 81 = .ok (.bipush 56, 2) := by decide +kernel
theorem d_O_give_83 : decode b_O_give 83 = .ok (.bipush 8, 2) := by decide +kernel
theorem d_O_give_85 : decode b_O_give 85 = .ok (.iload 4, 2) := by decide +kernel
theorem d_O_give_87 : decode b_O_give 87 = .ok (.bipush 8, 2) := by decide +kernel
theorem d_O_give_89 : decode b_O_give 89 = .ok (.irem, 1) := by decide +kernel
theorem d_O_give_90 : decode b_O_give 90 = .ok (.imul, 1) := by decide +kernel
theorem d_O_give_91 : decode b_O_give 91 = .ok (.isub, 1) := by decide +kernel
theorem d_O_give_92 : decode b_O_give 92 = .ok (.lushr, 1) := by decide +kernel
theorem d_O_give_93 : decode b_O_give 93 = .ok (.l2i, 1) := by decide +kernel
theorem d_O_give_94 : decode b_O_give 94 = .ok (.i2b, 1) := by decide +kernel
theorem d_O_give_95 : decode b_O_give 95 = .ok (.bastore, 1) := by decide +kernel
theorem d_O_give_96 : decode b_O_give 96 = .ok (.iinc 4 1, 3) := by decide +kernel
theorem d_O_give_99 : decode b_O_give 99 = .ok (.goto (-92), 3) := by decide +kernel
theorem d_O_give_102 : decode b_O_give 102 = .ok (.return_, 1) := by decide +kernel
theorem d_O_squeeze_0 : decode b_O_squeeze 0 = .ok (.aload_n 0, 1) := by decide +kernel
theorem d_O_squeeze_1 : decode b_O_squeeze 1 = .ok (.getfield 128, 3) := by decide +kernel
theorem d_O_squeeze_4 : decode b_O_squeeze 4 = .ok (.aload_n 0, 1) := by decide +kernel
theorem d_O_squeeze_5 : decode b_O_squeeze 5 = .ok (.getfield 141, 3) := by decide +kernel
theorem d_O_squeeze_8 : decode b_O_squeeze 8 = .ok (.if_icmp .ne 12, 3) := by decide +kernel
theorem d_O_squeeze_11 : decode b_O_squeeze 11 = .ok (.aload_n 0, 1) := by decide +kernel
theorem d_O_squeeze_12 : decode b_O_squeeze 12 = .ok (.invokevirtual 154, 3) := by decide +kernel
theorem d_O_squeeze_15 : decode b_O_squeeze 15 = .ok (.aload_n 0, 1) := by decide +kernel
theorem d_O_squeeze_16 : decode b_O_squeeze 16 = .ok (.iconst 0, 1) := by decide +kernel
theorem d_O_squeeze_17 : decode b_O_squeeze 17 = .ok (.putfield 128, 3) := by decide +kernel
theorem d_O_squeeze_20 : decode b_O_squeeze 20 = .ok (.aload_n 0, 1) := by decide +kernel
theorem d_O_squeeze_21 : decode b_O_squeeze 21 = .ok (.getfield 47, 3) := by decide +kernel
theorem d_O_squeeze_24 : decode b_O_squeeze 24 = .ok (.aload_n 0, 1) := by decide +kernel
theorem d_O_squeeze_25 : decode b_O_squeeze 25 = .ok (.getfield 128, 3) := by decide +kernel
theorem d_O_squeeze_28 : decode b_O_squeeze 28 = .ok (.bipush 8, 2) := by decide +kernel
theorem d_O_squeeze_30 : decode b_O_squeeze 30 = .ok (.idiv, 1) := by decide +kernel
theorem d_O_squeeze_31 : decode b_O_squeeze 31 = .ok (.laload, 1) := by decide +kernel
theorem d_O_squeeze_32 : decode b_O_squeeze 32 = .ok (.bipush 8, 2) := by decide +kernel
theorem d_O_squeeze_34 : decode b_O_squeeze 34 = .ok (.aload_n 0, 1) := by decide +kernel
theorem d_O_squeeze_35 : decode b_O_squeeze 35 = .ok (.getfield 128, 3) := by decide +kernel
theorem d_O_squeeze_38 : decode b_O_squeeze 38 = .ok (.bipush 8, 2) := by decide +kernel
theorem d_O_squeeze_40 : decode b_O_squeeze 40 = .ok (.irem, 1) := by decide +kernel
theorem d_O_squeeze_41 : decode b_O_squeeze 41 = .ok (.imul, 1) := by decide +kernel
theorem d_O_squeeze_42 : decode b_O_squeeze 42 = .ok (.lushr, 1) := by decide +kernel
theorem d_O_squeeze_43 : decode b_O_squeeze 43 = .ok (.l2i, 1) := by decide +kernel
theorem d_O_squeeze_44 : decode b_O_squeeze 44 = .ok (.sipush 255, 3) := by decide +kernel
theorem d_O_squeeze_47 : decode b_O_squeeze 47 = .ok (.iand, 1) := by decide +kernel
theorem d_O_squeeze_48 : decode b_O_squeeze 48 = .ok (.istore_n 1, 1) := by decide +kernel
theorem d_O_squeeze_49 : decode b_O_squeeze 49 = .ok (.aload_n 0, 1) := by decide +kernel
theorem d_O_squeeze_50 : decode b_O_squeeze 50 = .ok (.dup, 1) := by decide +kernel
theorem d_O_squeeze_51 : decode b_O_squeeze 51 = .ok (.getfield 128, 3) := by decide +kernel
theorem d_O_squeeze_54 : decode b_O_squeeze 54 = .ok (.iconst 1, 1) := by decide +kernel
theorem d_O_squeeze_55 : decode b_O_squeeze 55 = .ok (.iadd, 1) := by decide +kernel
theorem d_O_squeeze_56 : decode b_O_squeeze 56 = .ok (.putfield 128, 3) := by decide +kernel
theorem d_O_squeeze_59 : decode b_O_squeeze 59 = .ok (.iload_n 1, 1) := by decide +kernel
theorem d_O_squeeze_60 : decode b_O_squeeze 60 = .ok (.ireturn, 1) := by decide +kernel
theorem d_O_startMac_0 : decode b_O_startMac 0 = .ok (.iload_n 1, 1) := by decide +kernel
theorem d_O_startMac_1 : decode b_O_startMac 1 = .ok (.invokestatic 138, 3) := by decide +kernel
theorem d_O_startMac_4 : decode b_O_startMac 4 = .ok (.istore 5, 2) := by decide +kernel
theorem d_O_startMac_6 : decode b_O_startMac 6 = .ok (.iconst 0, 1) := by decide +kernel
theorem d_O_startMac_7 : decode b_O_startMac 7 = .ok (.istore 6, 2) := by decide +kernel
theorem d_O_startMac_9 : decode b_O_startMac 9 = .ok (.iload 6, 2) := by decide +kernel
theorem d_O_startMac_11 : decode b_O_startMac 11 = .ok (.sipush 128, 3) := by decide +kernel
theorem d_O_startMac_14 : decode b_O_startMac 14 = .ok (.if_icmp .ge 17, 3) := by decide +kernel
theorem d_O_startMac_17 : decode b_O_startMac 17 = .ok (.aload_n 0, 1) := by decide +kernel
theorem d_O_startMac_18 : decode b_O_startMac 18 = .ok (.getfield 62, 3) := by decide +kernel
theorem d_O_startMac_21 : decode b_O_startMac 21 = .ok (.iload 6, 2) := by decide +kernel
theorem d_O_startMac_23 : decode b_O_startMac 23 = .ok (.iconst 0, 1) := by decide +kernel
theorem d_O_startMac_24 : decode b_O_startMac 24 = .ok (.bastore, 1) := by decide +kernel
theorem d_O_startMac_25 : decode b_O_startMac 25 = .ok (.iinc 6 1, 3) := by decide +kernel
theorem d_O_startMac_28 : decode b_O_startMac 28 = .ok (.goto (-19), 3) := by decide +kernel
theorem d_O_startMac_31 : decode b_O_startMac 31 = .ok (.iload 4, 2) := by decide +kernel
theorem d_O_startMac_33 : decode b_O_startMac 33 = .ok (.iload 5, 2) := by decide +kernel
theorem d_O_startMac_35 : decode b_O_startMac 35 = .ok (.if_icmp .le 32, 3) := by decide +kernel
theorem d_O_startMac_38 : decode b_O_startMac 38 = .ok (.aload_n 0, 1) := by decide +kernel
theorem d_O_startMac_39 : decode b_O_startMac 39 = .ok (.iload_n 1, 1) := by decide +kernel
theorem d_O_startMac_40 : decode b_O_startMac 40 = .ok (.invokevirtual 114, 3) := by decide +kernel
theorem d_O_startMac_43 : decode b_O_startMac 43 = .ok (.aload_n 0, 1) := by decide +kernel
theorem d_O_startMac_44 : decode b_O_startMac 44 = .ok (.aload_n 2, 1) := by decide +kernel
theorem d_O_startMac_45 : decode b_O_startMac 45 = .ok (.iload_n 3, 1) := by decide +kernel
theorem d_O_startMac_46 : decode b_O_startMac 46 = .ok (.iload 4, 2) := by decide +kernel
theorem d_O_startMac_48 : decode b_O_startMac 48 = .ok (.invokevirtual 182, 3) := by decide +kernel
theorem d_O_startMac_51 : decode b_O_startMac 51 = .ok (.aload_n 0, 1) := by decide +kernel
theorem d_O_startMac_52 : decode b_O_startMac 52 = .ok (.aload_n 0, 1) := by decide +kernel
theorem d_O_startMac_53 : decode b_O_startMac 53 = .ok (.getfield 62, 3) := by decide +kernel
theorem d_O_startMac_56 : decode b_O_startMac 56 = .ok (.iconst 0, 1) := by decide +kernel
theorem d_O_startMac_57 : decode b_O_startMac 57 = .ok (.iload_n 1, 1) := by decide +kernel
theorem d_O_startMac_58 : decode b_O_startMac 58 = .ok (.invokestatic 135, 3) := by decide +kernel
theorem d_O_startMac_61 : decode b_O_startMac 61 = .ok (.invokevirtual 185, 3) := by decide +kernel
theorem d_O_startMac_64 : decode b_O_startMac 64 = .ok (.goto 15, 3) := by decide +kernel
theorem d_O_startMac_67 : decode b_O_startMac 67 = .ok (.aload_n 2, 1) := by decide +kernel
theorem d_O_startMac_68 : decode b_O_startMac 68 = .ok (.iload_n 3, 1) := by decide +kernel
theorem d_O_startMac_69 : decode b_O_startMac 69 = .ok (.aload_n 0, 1) := by decide +kernel
theorem d_O_startMac_70 : decode b_O_startMac 70 = .ok (.getfield 62, 3) := by decide +kernel
theorem d_O_startMac_73 : decode b_O_startMac 73 = .ok (.iconst 0, 1) := by decide +kernel
theorem d_O_startMac_74 : decode b_O_startMac 74 = .ok (.iload 4, 2) := by decide +kernel
theorem d_O_startMac_76 : decode b_O_startMac 76 = .ok (.invokestatic 188, 3) := by decide +kernel
theorem d_O_startMac_79 : decode b_O_startMac 79 = .ok (.aload_n 0, 1) := by decide +kernel
theorem d_O_startMac_80 : decode b_O_startMac 80 = .ok (.iload_n 1, 1) := by decide +kernel
theorem d_O_startMac_81 : decode b_O_startMac 81 = .ok (.invokevirtual 114, 3) := by decide +kernel
theorem d_O_startMac_84 : decode b_O_startMac 84 = .ok (.iconst 0, 1) := by decide +kernel
theorem d_O_startMac_85 : decode b_O_startMac 85 = .ok (.istore 6, 2) := by decide +kernel
theorem d_O_startMac_87 : decode b_O_startMac 87 = .ok (.iload 6, 2) := by decide +kernel
theorem d_O_startMac_89 : decode b_O_startMac 89 = .ok (.iload 5, 2) := by decide +kernel
theorem d_O_startMac_91 : decode b_O_startMac 91 = .ok (.if_icmp .ge 23, 3) := by decide +kernel
theorem d_O_startMac_94 : decode b_O_startMac 94 = .ok (.aload_n 0, 1) := by decide +kernel
theorem d_O_startMac_95 : decode b_O_startMac 95 = .ok (.aload_n 0, 1) := by decide +kernel
theorem d_O_startMac_96 : decode b_O_startMac 96 = .ok (.getfield 62, 3) := by decide +kernel
theorem d_O_startMac_99 : decode b_O_startMac 99 = .ok (.iload 6, 2) := by decide +kernel
theorem d_O_startMac_101 : decode b_O_startMac 101 = .ok (.baload, 1) := by decide +kernel
theorem d_O_startMac_102 : decode b_O_startMac 102 = .ok (.bipush 54, 2) := by decide +kernel
theorem d_O_startMac_104 : decode b_O_startMac 104 = .ok (.ixor, 1) := by decide +kernel
theorem d_O_startMac_105 : decode b_O_startMac 105 = .ok (.invokevirtual 119, 3) := by decide +kernel
theorem d_O_startMac_108 : decode b_O_startMac 108 = .ok (.iinc 6 1, 3) := by decide +kernel
theorem d_O_startMac_111 : decode b_O_startMac 111 = .ok (.goto (-24), 3) := by decide +kernel
theorem d_O_startMac_114 : decode b_O_startMac 114 = .ok (.return_, 1) := by decide +kernel
theorem d_O_move_0 : decode b_O_move 0 = .ok (.iconst 0, 1) := by decide +kernel
theorem d_O_move_1 : decode b_O_move 1 = .ok (.istore 5, 2) := by decide +kernel
theorem d_O_move_3 : decode b_O_move 3 = .ok (.iload 5, 2) := by decide +kernel
theorem d_O_move_5 : decode b_O_move 5 = .ok (.iload 4, 2) := by decide +kernel
theorem d_O_move_7 : decode b_O_move 7 = .ok (.if_icmp .ge 21, 3) := by decide +kernel
theorem d_O_move_10 : decode b_O_move 10 = .ok (.aload_n 2, 1) := by decide +kernel
theorem d_O_move_11 : decode b_O_move 11 = .ok (.iload_n 3, 1) := by decide +kernel
theorem d_O_move_12 : decode b_O_move 12 = .ok (.iload 5, 2) := by decide +kernel
theorem d_O_move_14 : decode b_O_move 14 = .ok (.iadd, 1) := by decide +kernel
theorem d_O_move_15 : decode b_O_move 15 = .ok (.aload_n 0, 1) := by decide +kernel
theorem d_O_move_16 : decode b_O_move 16 = .ok (.iload_n 1, 1) := by decide +kernel
theorem d_O_move_17 : decode b_O_move 17 = .ok (.iload 5, 2) := by decide +kernel
theorem d_O_move_19 : decode b_O_move 19 = .ok (.iadd, 1) := by decide +kernel
theorem d_O_move_20 : decode b_O_move 20 = .ok (.baload, 1) := by decide +kernel
theorem d_O_move_21 : decode b_O_move 21 = .ok (.bastore, 1) := by decide +kernel
theorem d_O_move_22 : decode b_O_move 22 = .ok (.iinc 5 1, 3) := by decide +kernel
theorem d_O_move_25 : decode b_O_move 25 = .ok (.goto (-22), 3) := by decide +kernel
theorem d_O_move_28 : decode b_O_move 28 = .ok (.return_, 1) := by decide +kernel
theorem d_O_endMac_0 : decode b_O_endMac 0 = .ok (.iload_n 1, 1) := by decide +kernel
theorem d_O_endMac_1 : decode b_O_endMac 1 = .ok (.invokestatic 138, 3) := by decide +kernel
theorem d_O_endMac_4 : decode b_O_endMac 4 = .ok (.istore 5, 2) := by decide +kernel
theorem d_O_endMac_6 : decode b_O_endMac 6 = .ok (.aload_n 0, 1) := by decide +kernel
theorem d_O_endMac_7 : decode b_O_endMac 7 = .ok (.aload_n 0, 1) := by decide +kernel
theorem d_O_endMac_8 : decode b_O_endMac 8 = .ok (.getfield 65, 3) := by decide +kernel
theorem d_O_endMac_11 : decode b_O_endMac 11 = .ok (.iconst 0, 1) := by decide +kernel
theorem d_O_endMac_12 : decode b_O_endMac 12 = .ok (.iload_n 1, 1) := by decide +kernel
theorem d_O_endMac_13 : decode b_O_endMac 13 = .ok (.invokestatic 135, 3) := by decide +kernel
theorem d_O_endMac_16 : decode b_O_endMac 16 = .ok (.invokevirtual 185, 3) := by decide +kernel
theorem d_O_endMac_19 : decode b_O_endMac 19 = .ok (.aload_n 0, 1) := by decide +kernel
theorem d_O_endMac_20 : decode b_O_endMac 20 = .ok (.iload_n 1, 1) := by decide +kernel
theorem d_O_endMac_21 : decode b_O_endMac 21 = .ok (.invokevirtual 114, 3) := by decide +kernel
theorem d_O_endMac_24 : decode b_O_endMac 24 = .ok (.iconst 0, 1) := by decide +kernel
theorem d_O_endMac_25 : decode b_O_endMac 25 = .ok (.istore 6, 2) := by decide +kernel
theorem d_O_endMac_27 : decode b_O_endMac 27 = .ok (.iload 6, 2) := by decide +kernel
theorem d_O_endMac_29 : decode b_O_endMac 29 = .ok (.iload 5, 2) := by decide +kernel
theorem d_O_endMac_31 : decode b_O_endMac 31 = .ok (.if_icmp .ge 23, 3) := by decide +kernel
theorem d_O_endMac_34 : decode b_O_endMac 34 = .ok (.aload_n 0, 1) := by decide +kernel
theorem d_O_endMac_35 : decode b_O_endMac 35 = .ok (.aload_n 0, 1) := by decide +kernel
theorem d_O_endMac_36 : decode b_O_endMac 36 = .ok (.getfield 62, 3) := by decide +kernel
theorem d_O_endMac_39 : decode b_O_endMac 39 = .ok (.iload 6, 2) := by decide +kernel
theorem d_O_endMac_41 : decode b_O_endMac 41 = .ok (.baload, 1) := by decide +kernel
theorem d_O_endMac_42 : decode b_O_endMac 42 = .ok (.bipush 92, 2) := by decide +kernel
theorem d_O_endMac_44 : decode b_O_endMac 44 = .ok (.ixor, 1) := by decide +kernel
theorem d_O_endMac_45 : decode b_O_endMac 45 = .ok (.invokevirtual 119, 3) := by decide +kernel
theorem d_O_endMac_48 : decode b_O_endMac 48 = .ok (.iinc 6 1, 3) := by decide +kernel
theorem d_O_endMac_51 : decode b_O_endMac 51 = .ok (.goto (-24), 3) := by decide +kernel
theorem d_O_endMac_54 : decode b_O_endMac 54 = .ok (.aload_n 0, 1) := by decide +kernel
theorem d_O_endMac_55 : decode b_O_endMac 55 = .ok (.aload_n 0, 1) := by decide +kernel
theorem d_O_endMac_56 : decode b_O_endMac 56 = .ok (.getfield 65, 3) := by decide +kernel
theorem d_O_endMac_59 : decode b_O_endMac 59 = .ok (.iconst 0, 1) := by decide +kernel
theorem d_O_endMac_60 : decode b_O_endMac 60 = .ok (.iload_n 1, 1) := by decide +kernel
theorem d_O_endMac_61 : decode b_O_endMac 61 = .ok (.invokestatic 135, 3) := by decide +kernel
theorem d_O_endMac_64 : decode b_O_endMac 64 = .ok (.invokevirtual 182, 3) := by decide +kernel
theorem d_O_endMac_67 : decode b_O_endMac 67 = .ok (.aload_n 0, 1) := by decide +kernel
theorem d_O_endMac_68 : decode b_O_endMac 68 = .ok (.aload_n 2, 1) := by decide +kernel
theorem d_O_endMac_69 : decode b_O_endMac 69 = .ok (.iload_n 3, 1) := by decide +kernel
theorem d_O_endMac_70 : decode b_O_endMac 70 = .ok (.iload 4, 2) := by decide +kernel
theorem d_O_endMac_72 : decode b_O_endMac 72 = .ok (.invokevirtual 185, 3) := by decide +kernel
theorem d_O_endMac_75 : decode b_O_endMac 75 = .ok (.return_, 1) := by decide +kernel
theorem d_O_mask_0 : decode b_O_mask 0 = .ok (.iload_n 1, 1) := by decide +kernel
theorem d_O_mask_1 : decode b_O_mask 1 = .ok (.invokestatic 135, 3) := by decide +kernel
theorem d_O_mask_4 : decode b_O_mask 4 = .ok (.istore 7, 2) := by decide +kernel
theorem d_O_mask_6 : decode b_O_mask 6 = .ok (.iconst 0, 1) := by decide +kernel
theorem d_O_mask_7 : decode b_O_mask 7 = .ok (.istore 8, 2) := by decide +kernel
theorem d_O_mask_9 : decode b_O_mask 9 = .ok (.iload 8, 2) := by decide +kernel
theorem d_O_mask_11 : decode b_O_mask 11 = .ok (.iload 7, 2) := by decide +kernel
theorem d_O_mask_13 : decode b_O_mask 13 = .ok (.imul, 1) := by decide +kernel
theorem d_O_mask_14 : decode b_O_mask 14 = .ok (.iload 6, 2) := by decide +kernel
theorem d_O_mask_16 : decode b_O_mask 16 = .ok (.if_icmp .ge 100, 3) := by decide +kernel
theorem d_O_mask_19 : decode b_O_mask 19 = .ok (.aload_n 0, 1) := by decide +kernel
theorem d_O_mask_20 : decode b_O_mask 20 = .ok (.iload_n 1, 1) := by decide +kernel
theorem d_O_mask_21 : decode b_O_mask 21 = .ok (.invokevirtual 114, 3) := by decide +kernel
theorem d_O_mask_24 : decode b_O_mask 24 = .ok (.aload_n 0, 1) := by decide +kernel
theorem d_O_mask_25 : decode b_O_mask 25 = .ok (.aload_n 2, 1) := by decide +kernel
theorem d_O_mask_26 : decode b_O_mask 26 = .ok (.iconst 0, 1) := by decide +kernel
theorem d_O_mask_27 : decode b_O_mask 27 = .ok (.iload_n 3, 1) := by decide +kernel
theorem d_O_mask_28 : decode b_O_mask 28 = .ok (.invokevirtual 182, 3) := by decide +kernel
theorem d_O_mask_31 : decode b_O_mask 31 = .ok (.bipush 24, 2) := by decide +kernel
theorem d_O_mask_33 : decode b_O_mask 33 = .ok (.istore 9, 2) := by decide +kernel
theorem d_O_mask_35 : decode b_O_mask 35 = .ok (.iload 9, 2) := by decide +kernel
theorem d_O_mask_37 : decode b_O_mask 37 = .ok (.ifCond .lt 18, 3) := by decide +kernel
theorem d_O_mask_40 : decode b_O_mask 40 = .ok (.aload_n 0, 1) := by decide +kernel
theorem d_O_mask_41 : decode b_O_mask 41 = .ok (.iload 8, 2) := by decide +kernel
theorem d_O_mask_43 : decode b_O_mask 43 = .ok (.iload 9, 2) := by decide +kernel
theorem d_O_mask_45 : decode b_O_mask 45 = .ok (.ishr, 1) := by decide +kernel
theorem d_O_mask_46 : decode b_O_mask 46 = .ok (.invokevirtual 119, 3) := by decide +kernel
theorem d_O_mask_49 : decode b_O_mask 49 = .ok (.iinc 9 (-8), 3) := by decide +kernel
theorem d_O_mask_52 : decode b_O_mask 52 = .ok (.goto (-17), 3) := by decide +kernel
theorem d_O_mask_55 : decode b_O_mask 55 = .ok (.aload_n 0, 1) := by decide +kernel
theorem d_O_mask_56 : decode b_O_mask 56 = .ok (.aload_n 0, 1) := by decide +kernel
theorem d_O_mask_57 : decode b_O_mask 57 = .ok (.getfield 65, 3) := by decide +kernel
theorem d_O_mask_60 : decode b_O_mask 60 = .ok (.iconst 0, 1) := by decide +kernel
theorem d_O_mask_61 : decode b_O_mask 61 = .ok (.iload 7, 2) := by decide +kernel
theorem d_O_mask_63 : decode b_O_mask 63 = .ok (.invokevirtual 185, 3) := by decide +kernel
theorem d_O_mask_66 : decode b_O_mask 66 = .ok (.aload_n 0, 1) := by decide +kernel
theorem d_O_mask_67 : decode b_O_mask 67 = .ok (.getfield 65, 3) := by decide +kernel
theorem d_O_mask_70 : decode b_O_mask 70 = .ok (.iconst 0, 1) := by decide +kernel
theorem d_O_mask_71 : decode b_O_mask 71 = .ok (.aload 4, 2) := by decide +kernel
theorem d_O_mask_73 : decode b_O_mask 73 = .ok (.iload 5, 2) := by decide +kernel
theorem d_O_mask_75 : decode b_O_mask 75 = .ok (.iload 8, 2) := by decide +kernel
theorem d_O_mask_77 : decode b_O_mask 77 = .ok (.iload 7, 2) := by decide +kernel
theorem d_O_mask_79 : decode b_O_mask 79 = .ok (.imul, 1) := by decide +kernel
theorem d_O_mask_80 : decode b_O_mask 80 = .ok (.iadd, 1) := by decide +kernel
theorem d_O_mask_81 : decode b_O_mask 81 = .ok (.iload 6, 2) := by decide +kernel
theorem d_O_mask_83 : decode b_O_mask 83 = .ok (.iload 8, 2) := by decide +kernel
theorem d_O_mask_85 : decode b_O_mask 85 = .ok (.iload 7, 2) := by decide +kernel
theorem d_O_mask_87 : decode b_O_mask 87 = .ok (.imul, 1) := by decide +kernel
theorem d_O_mask_88 : decode b_O_mask 88 = .ok (.isub, 1) := by decide +kernel
theorem d_O_mask_89 : decode b_O_mask 89 = .ok (.iload 7, 2) := by decide +kernel
theorem d_O_mask_91 : decode b_O_mask 91 = .ok (.if_icmp .ge 14, 3) := by decide +kernel
theorem d_O_mask_94 : decode b_O_mask 94 = .ok (.iload 6, 2) := by decide +kernel
theorem d_O_mask_96 : decode b_O_mask 96 = .ok (.iload 8, 2) := by decide +kernel
theorem d_O_mask_98 : decode b_O_mask 98 = .ok (.iload 7, 2) := by decide +kernel
theorem d_O_mask_100 : decode b_O_mask 100 = .ok (.imul, 1) := by decide +kernel
theorem d_O_mask_101 : decode b_O_mask 101 = .ok (.isub, 1) := by decide +kernel
theorem d_O_mask_102 : decode b_O_mask 102 = .ok (.goto 5, 3) := by decide +kernel
theorem d_O_mask_105 : decode b_O_mask 105 = .ok (.iload 7, 2) := by decide +kernel
theorem d_O_mask_107 : decode b_O_mask 107 = .ok (.invokestatic 188, 3) := by decide +kernel
theorem d_O_mask_110 : decode b_O_mask 110 = .ok (.iinc 8 1, 3) := by decide +kernel
theorem d_O_mask_113 : decode b_O_mask 113 = .ok (.goto (-104), 3) := by decide +kernel
theorem d_O_mask_116 : decode b_O_mask 116 = .ok (.return_, 1) := by decide +kernel
theorem d_law_0 : decode code 0 = .ok (.new 8, 3) := by decide +kernel
theorem d_law_3 : decode code 3 = .ok (.dup, 1) := by decide +kernel
theorem d_law_4 : decode code 4 = .ok (.invokespecial 46, 3) := by decide +kernel
theorem d_law_7 : decode code 7 = .ok (.astore_n 1, 1) := by decide +kernel
theorem d_law_8 : decode code 8 = .ok (.new 47, 3) := by decide +kernel
theorem d_law_11 : decode code 11 = .ok (.dup, 1) := by decide +kernel
theorem d_law_12 : decode code 12 = .ok (.invokespecial 49, 3) := by decide +kernel
theorem d_law_15 : decode code 15 = .ok (.astore_n 2, 1) := by decide +kernel
theorem d_law_16 : decode code 16 = .ok (.iconst 1, 1) := by decide +kernel
theorem d_law_17 : decode code 17 = .ok (.newarray .long, 2) := by decide +kernel
theorem d_law_19 : decode code 19 = .ok (.astore_n 3, 1) := by decide +kernel
theorem d_law_20 : decode code 20 = .ok (.iconst 0, 1) := by decide +kernel
theorem d_law_21 : decode code 21 = .ok (.istore 4, 2) := by decide +kernel
theorem d_law_23 : decode code 23 = .ok (.iload 4, 2) := by decide +kernel
theorem d_law_25 : decode code 25 = .ok (.aload_n 0, 1) := by decide +kernel
theorem d_law_26 : decode code 26 = .ok (.arraylength, 1) := by decide +kernel
theorem d_law_27 : decode code 27 = .ok (.bipush 6, 2) := by decide +kernel
theorem d_law_29 : decode code 29 = .ok (.isub, 1) := by decide +kernel
theorem d_law_30 : decode code 30 = .ok (.if_icmp .gt 722, 3) := by decide +kernel
theorem d_law_33 : decode code 33 = .ok (.aload_n 0, 1) := by decide +kernel
theorem d_law_34 : decode code 34 = .ok (.iload 4, 2) := by decide +kernel
theorem d_law_36 : decode code 36 = .ok (.iaload, 1) := by decide +kernel
theorem d_law_37 : decode code 37 = .ok (.bipush 15, 2) := by decide +kernel
theorem d_law_39 : decode code 39 = .ok (.iand, 1) := by decide +kernel
theorem d_law_40 : decode code 40 = .ok (.tableswitch 706 0 8 #[52, 156, 224, 292, 360, 440, 496, 563, 638], 52) := by decide +kernel
theorem d_law_92 : decode code 92 = .ok (.aload_n 1, 1) := by decide +kernel
theorem d_law_93 : decode code 93 = .ok (.aload_n 0, 1) := by decide +kernel
theorem d_law_94 : decode code 94 = .ok (.iload 4, 2) := by decide +kernel
theorem d_law_96 : decode code 96 = .ok (.iconst 1, 1) := by decide +kernel
theorem d_law_97 : decode code 97 = .ok (.iadd, 1) := by decide +kernel
theorem d_law_98 : decode code 98 = .ok (.iaload, 1) := by decide +kernel
theorem d_law_99 : decode code 99 = .ok (.aload_n 0, 1) := by decide +kernel
theorem d_law_100 : decode code 100 = .ok (.iload 4, 2) := by decide +kernel
theorem d_law_102 : decode code 102 = .ok (.iconst 2, 1) := by decide +kernel
theorem d_law_103 : decode code 103 = .ok (.iadd, 1) := by decide +kernel
theorem d_law_104 : decode code 104 = .ok (.iaload, 1) := by decide +kernel
theorem d_law_105 : decode code 105 = .ok (.aload_n 0, 1) := by decide +kernel
theorem d_law_106 : decode code 106 = .ok (.iload 4, 2) := by decide +kernel
theorem d_law_108 : decode code 108 = .ok (.iconst 3, 1) := by decide +kernel
theorem d_law_109 : decode code 109 = .ok (.iadd, 1) := by decide +kernel
theorem d_law_110 : decode code 110 = .ok (.iaload, 1) := by decide +kernel
theorem d_law_111 : decode code 111 = .ok (.aload_n 0, 1) := by decide +kernel
theorem d_law_112 : decode code 112 = .ok (.iload 4, 2) := by decide +kernel
theorem d_law_114 : decode code 114 = .ok (.iconst 4, 1) := by decide +kernel
theorem d_law_115 : decode code 115 = .ok (.iadd, 1) := by decide +kernel
theorem d_law_116 : decode code 116 = .ok (.iaload, 1) := by decide +kernel
theorem d_law_117 : decode code 117 = .ok (.aload_n 0, 1) := by decide +kernel
theorem d_law_118 : decode code 118 = .ok (.iload 4, 2) := by decide +kernel
theorem d_law_120 : decode code 120 = .ok (.iconst 5, 1) := by decide +kernel
theorem d_law_121 : decode code 121 = .ok (.iadd, 1) := by decide +kernel
theorem d_law_122 : decode code 122 = .ok (.iaload, 1) := by decide +kernel
theorem d_law_123 : decode code 123 = .ok (.aload_n 3, 1) := by decide +kernel
theorem d_law_124 : decode code 124 = .ok (.invokestatic 50, 3) := by decide +kernel
theorem d_law_127 : decode code 127 = .ok (.istore 5, 2) := by decide +kernel
theorem d_law_129 : decode code 129 = .ok (.aload_n 2, 1) := by decide +kernel
theorem d_law_130 : decode code 130 = .ok (.aload_n 0, 1) := by decide +kernel
theorem d_law_131 : decode code 131 = .ok (.iload 4, 2) := by decide +kernel
theorem d_law_133 : decode code 133 = .ok (.iconst 1, 1) := by decide +kernel
theorem d_law_134 : decode code 134 = .ok (.iadd, 1) := by decide +kernel
end
section
theorem d_law_135 : decode code 135 = .ok (.iaload, 1) := by decide +kernel
theorem d_law_136 : decode code 136 = .ok (.aload_n 0, 1) := by decide +kernel
theorem d_law_137 : decode code 137 = .ok (.iload 4, 2) := by decide +kernel
theorem d_law_139 : decode code 139 = .ok (.iconst 2, 1) := by decide +kernel
theorem d_law_140 : decode code 140 = .ok (.iadd, 1) := by decide +kernel
theorem d_law_141 : decode code 141 = .ok (.iaload, 1) := by decide +kernel
theorem d_law_142 : decode code 142 = .ok (.aload_n 0, 1) := by decide +kernel
theorem d_law_143 : decode code 143 = .ok (.iload 4, 2) := by decide +kernel
theorem d_law_145 : decode code 145 = .ok (.iconst 3, 1) := by decide +kernel
theorem d_law_146 : decode code 146 = .ok (.iadd, 1) := by decide +kernel
theorem d_law_147 : decode code 147 = .ok (.iaload, 1) := by decide +kernel
theorem d_law_148 : decode code 148 = .ok (.aload_n 0, 1) := by decide +kernel
theorem d_law_149 : decode code 149 = .ok (.iload 4, 2) := by decide +kernel
theorem d_law_151 : decode code 151 = .ok (.iconst 4, 1) := by decide +kernel
theorem d_law_152 : decode code 152 = .ok (.iadd, 1) := by decide +kernel
theorem d_law_153 : decode code 153 = .ok (.iaload, 1) := by decide +kernel
theorem d_law_154 : decode code 154 = .ok (.aload_n 0, 1) := by decide +kernel
theorem d_law_155 : decode code 155 = .ok (.iload 4, 2) := by decide +kernel
theorem d_law_157 : decode code 157 = .ok (.iconst 5, 1) := by decide +kernel
theorem d_law_158 : decode code 158 = .ok (.iadd, 1) := by decide +kernel
theorem d_law_159 : decode code 159 = .ok (.iaload, 1) := by decide +kernel
theorem d_law_160 : decode code 160 = .ok (.invokevirtual 55, 3) := by decide +kernel
theorem d_law_163 : decode code 163 = .ok (.istore 6, 2) := by decide +kernel
theorem d_law_165 : decode code 165 = .ok (.aload_n 2, 1) := by decide +kernel
theorem d_law_166 : decode code 166 = .ok (.invokevirtual 56, 3) := by decide +kernel
theorem d_law_169 : decode code 169 = .ok (.iload 5, 2) := by decide +kernel
theorem d_law_171 : decode code 171 = .ok (.if_icmp .eq 5, 3) := by decide +kernel
theorem d_law_174 : decode code 174 = .ok (.iconst 0, 1) := by decide +kernel
theorem d_law_175 : decode code 175 = .ok (.ireturn, 1) := by decide +kernel
theorem d_law_176 : decode code 176 = .ok (.iload 5, 2) := by decide +kernel
theorem d_law_178 : decode code 178 = .ok (.ifCond .ne 15, 3) := by decide +kernel
theorem d_law_181 : decode code 181 = .ok (.aload_n 3, 1) := by decide +kernel
theorem d_law_182 : decode code 182 = .ok (.iconst 0, 1) := by decide +kernel
theorem d_law_183 : decode code 183 = .ok (.laload, 1) := by decide +kernel
theorem d_law_184 : decode code 184 = .ok (.iload 6, 2) := by decide +kernel
theorem d_law_186 : decode code 186 = .ok (.i2l, 1) := by decide +kernel
theorem d_law_187 : decode code 187 = .ok (.lcmp, 1) := by decide +kernel
theorem d_law_188 : decode code 188 = .ok (.ifCond .eq 5, 3) := by decide +kernel
theorem d_law_191 : decode code 191 = .ok (.iconst 0, 1) := by decide +kernel
theorem d_law_192 : decode code 192 = .ok (.ireturn, 1) := by decide +kernel
theorem d_law_193 : decode code 193 = .ok (.goto 553, 3) := by decide +kernel
theorem d_law_196 : decode code 196 = .ok (.aload_n 1, 1) := by decide +kernel
theorem d_law_197 : decode code 197 = .ok (.aload_n 0, 1) := by decide +kernel
theorem d_law_198 : decode code 198 = .ok (.iload 4, 2) := by decide +kernel
theorem d_law_200 : decode code 200 = .ok (.iconst 1, 1) := by decide +kernel
theorem d_law_201 : decode code 201 = .ok (.iadd, 1) := by decide +kernel
theorem d_law_202 : decode code 202 = .ok (.iaload, 1) := by decide +kernel
theorem d_law_203 : decode code 203 = .ok (.aload_n 0, 1) := by decide +kernel
theorem d_law_204 : decode code 204 = .ok (.iload 4, 2) := by decide +kernel
theorem d_law_206 : decode code 206 = .ok (.iconst 2, 1) := by decide +kernel
theorem d_law_207 : decode code 207 = .ok (.iadd, 1) := by decide +kernel
theorem d_law_208 : decode code 208 = .ok (.iaload, 1) := by decide +kernel
theorem d_law_209 : decode code 209 = .ok (.aload_n 3, 1) := by decide +kernel
theorem d_law_210 : decode code 210 = .ok (.invokestatic 60, 3) := by decide +kernel
theorem d_law_213 : decode code 213 = .ok (.istore 5, 2) := by decide +kernel
theorem d_law_215 : decode code 215 = .ok (.aload_n 2, 1) := by decide +kernel
theorem d_law_216 : decode code 216 = .ok (.aload_n 0, 1) := by decide +kernel
theorem d_law_217 : decode code 217 = .ok (.iload 4, 2) := by decide +kernel
theorem d_law_219 : decode code 219 = .ok (.iconst 1, 1) := by decide +kernel
theorem d_law_220 : decode code 220 = .ok (.iadd, 1) := by decide +kernel
theorem d_law_221 : decode code 221 = .ok (.iaload, 1) := by decide +kernel
theorem d_law_222 : decode code 222 = .ok (.aload_n 0, 1) := by decide +kernel
theorem d_law_223 : decode code 223 = .ok (.iload 4, 2) := by decide +kernel
theorem d_law_225 : decode code 225 = .ok (.iconst 2, 1) := by decide +kernel
theorem d_law_226 : decode code 226 = .ok (.iadd, 1) := by decide +kernel
theorem d_law_227 : decode code 227 = .ok (.iaload, 1) := by decide +kernel
theorem d_law_228 : decode code 228 = .ok (.invokevirtual 63, 3) := by decide +kernel
theorem d_law_231 : decode code 231 = .ok (.istore 6, 2) := by decide +kernel
theorem d_law_233 : decode code 233 = .ok (.aload_n 2, 1) := by decide +kernel
theorem d_law_234 : decode code 234 = .ok (.invokevirtual 56, 3) := by decide +kernel
theorem d_law_237 : decode code 237 = .ok (.iload 5, 2) := by decide +kernel
theorem d_law_239 : decode code 239 = .ok (.if_icmp .eq 5, 3) := by decide +kernel
theorem d_law_242 : decode code 242 = .ok (.iconst 0, 1) := by decide +kernel
theorem d_law_243 : decode code 243 = .ok (.ireturn, 1) := by decide +kernel
theorem d_law_244 : decode code 244 = .ok (.iload 5, 2) := by decide +kernel
theorem d_law_246 : decode code 246 = .ok (.ifCond .ne 15, 3) := by decide +kernel
theorem d_law_249 : decode code 249 = .ok (.aload_n 3, 1) := by decide +kernel
theorem d_law_250 : decode code 250 = .ok (.iconst 0, 1) := by decide +kernel
theorem d_law_251 : decode code 251 = .ok (.laload, 1) := by decide +kernel
theorem d_law_252 : decode code 252 = .ok (.iload 6, 2) := by decide +kernel
theorem d_law_254 : decode code 254 = .ok (.i2l, 1) := by decide +kernel
theorem d_law_255 : decode code 255 = .ok (.lcmp, 1) := by decide +kernel
theorem d_law_256 : decode code 256 = .ok (.ifCond .eq 5, 3) := by decide +kernel
theorem d_law_259 : decode code 259 = .ok (.iconst 0, 1) := by decide +kernel
theorem d_law_260 : decode code 260 = .ok (.ireturn, 1) := by decide +kernel
theorem d_law_261 : decode code 261 = .ok (.goto 485, 3) := by decide +kernel
theorem d_law_264 : decode code 264 = .ok (.aload_n 1, 1) := by decide +kernel
theorem d_law_265 : decode code 265 = .ok (.aload_n 0, 1) := by decide +kernel
theorem d_law_266 : decode code 266 = .ok (.iload 4, 2) := by decide +kernel
theorem d_law_268 : decode code 268 = .ok (.iconst 1, 1) := by decide +kernel
theorem d_law_269 : decode code 269 = .ok (.iadd, 1) := by decide +kernel
theorem d_law_270 : decode code 270 = .ok (.iaload, 1) := by decide +kernel
theorem d_law_271 : decode code 271 = .ok (.aload_n 0, 1) := by decide +kernel
theorem d_law_272 : decode code 272 = .ok (.iload 4, 2) := by decide +kernel
theorem d_law_274 : decode code 274 = .ok (.iconst 2, 1) := by decide +kernel
theorem d_law_275 : decode code 275 = .ok (.iadd, 1) := by decide +kernel
theorem d_law_276 : decode code 276 = .ok (.iaload, 1) := by decide +kernel
theorem d_law_277 : decode code 277 = .ok (.aload_n 3, 1) := by decide +kernel
theorem d_law_278 : decode code 278 = .ok (.invokestatic 64, 3) := by decide +kernel
theorem d_law_281 : decode code 281 = .ok (.istore 5, 2) := by decide +kernel
theorem d_law_283 : decode code 283 = .ok (.aload_n 2, 1) := by decide +kernel
theorem d_law_284 : decode code 284 = .ok (.aload_n 0, 1) := by decide +kernel
theorem d_law_285 : decode code 285 = .ok (.iload 4, 2) := by decide +kernel
theorem d_law_287 : decode code 287 = .ok (.iconst 1, 1) := by decide +kernel
theorem d_law_288 : decode code 288 = .ok (.iadd, 1) := by decide +kernel
theorem d_law_289 : decode code 289 = .ok (.iaload, 1) := by decide +kernel
theorem d_law_290 : decode code 290 = .ok (.aload_n 0, 1) := by decide +kernel
theorem d_law_291 : decode code 291 = .ok (.iload 4, 2) := by decide +kernel
theorem d_law_293 : decode code 293 = .ok (.iconst 2, 1) := by decide +kernel
theorem d_law_294 : decode code 294 = .ok (.iadd, 1) := by decide +kernel
theorem d_law_295 : decode code 295 = .ok (.iaload, 1) := by decide +kernel
theorem d_law_296 : decode code 296 = .ok (.invokevirtual 66, 3) := by decide +kernel
theorem d_law_299 : decode code 299 = .ok (.istore 6, 2) := by decide +kernel
theorem d_law_301 : decode code 301 = .ok (.aload_n 2, 1) := by decide +kernel
theorem d_law_302 : decode code 302 = .ok (.invokevirtual 56, 3) := by decide +kernel
theorem d_law_305 : decode code 305 = .ok (.iload 5, 2) := by decide +kernel
theorem d_law_307 : decode code 307 = .ok (.if_icmp .eq 5, 3) := by decide +kernel
theorem d_law_310 : decode code 310 = .ok (.iconst 0, 1) := by decide +kernel
theorem d_law_311 : decode code 311 = .ok (.ireturn, 1) := by decide +kernel
theorem d_law_312 : decode code 312 = .ok (.iload 5, 2) := by decide +kernel
theorem d_law_314 : decode code 314 = .ok (.ifCond .ne 15, 3) := by decide +kernel
theorem d_law_317 : decode code 317 = .ok (.aload_n 3, 1) := by decide +kernel
theorem d_law_318 : decode code 318 = .ok (.iconst 0, 1) := by decide +kernel
theorem d_law_319 : decode code 319 = .ok (.laload, 1) := by decide +kernel
theorem d_law_320 : decode code 320 = .ok (.iload 6, 2) := by decide +kernel
theorem d_law_322 : decode code 322 = .ok (.i2l, 1) := by decide +kernel
theorem d_law_323 : decode code 323 = .ok (.lcmp, 1) := by decide +kernel
theorem d_law_324 : decode code 324 = .ok (.ifCond .eq 5, 3) := by decide +kernel
theorem d_law_327 : decode code 327 = .ok (.iconst 0, 1) := by decide +kernel
theorem d_law_328 : decode code 328 = .ok (.ireturn, 1) := by decide +kernel
theorem d_law_329 : decode code 329 = .ok (.goto 417, 3) := by decide +kernel
theorem d_law_332 : decode code 332 = .ok (.aload_n 1, 1) := by decide +kernel
theorem d_law_333 : decode code 333 = .ok (.aload_n 0, 1) := by decide +kernel
theorem d_law_334 : decode code 334 = .ok (.iload 4, 2) := by decide +kernel
theorem d_law_336 : decode code 336 = .ok (.iconst 1, 1) := by decide +kernel
theorem d_law_337 : decode code 337 = .ok (.iadd, 1) := by decide +kernel
theorem d_law_338 : decode code 338 = .ok (.iaload, 1) := by decide +kernel
theorem d_law_339 : decode code 339 = .ok (.aload_n 0, 1) := by decide +kernel
theorem d_law_340 : decode code 340 = .ok (.iload 4, 2) := by decide +kernel
theorem d_law_342 : decode code 342 = .ok (.iconst 2, 1) := by decide +kernel
theorem d_law_343 : decode code 343 = .ok (.iadd, 1) := by decide +kernel
theorem d_law_344 : decode code 344 = .ok (.iaload, 1) := by decide +kernel
theorem d_law_345 : decode code 345 = .ok (.aload_n 3, 1) := by decide +kernel
theorem d_law_346 : decode code 346 = .ok (.invokestatic 67, 3) := by decide +kernel
theorem d_law_349 : decode code 349 = .ok (.istore 5, 2) := by decide +kernel
theorem d_law_351 : decode code 351 = .ok (.aload_n 2, 1) := by decide +kernel
theorem d_law_352 : decode code 352 = .ok (.aload_n 0, 1) := by decide +kernel
theorem d_law_353 : decode code 353 = .ok (.iload 4, 2) := by decide +kernel
theorem d_law_355 : decode code 355 = .ok (.iconst 1, 1) := by decide +kernel
theorem d_law_356 : decode code 356 = .ok (.iadd, 1) := by decide +kernel
theorem d_law_357 : decode code 357 = .ok (.iaload, 1) := by decide +kernel
theorem d_law_358 : decode code 358 = .ok (.aload_n 0, 1) := by decide +kernel
theorem d_law_359 : decode code 359 = .ok (.iload 4, 2) := by decide +kernel
theorem d_law_361 : decode code 361 = .ok (.iconst 2, 1) := by decide +kernel
theorem d_law_362 : decode code 362 = .ok (.iadd, 1) := by decide +kernel
theorem d_law_363 : decode code 363 = .ok (.iaload, 1) := by decide +kernel
theorem d_law_364 : decode code 364 = .ok (.invokevirtual 69, 3) := by decide +kernel
theorem d_law_367 : decode code 367 = .ok (.istore 6, 2) := by decide +kernel
theorem d_law_369 : decode code 369 = .ok (.aload_n 2, 1) := by decide +kernel
theorem d_law_370 : decode code 370 = .ok (.invokevirtual 56, 3) := by decide +kernel
theorem d_law_373 : decode code 373 = .ok (.iload 5, 2) := by decide +kernel
theorem d_law_375 : decode code 375 = .ok (.if_icmp .eq 5, 3) := by decide +kernel
theorem d_law_378 : decode code 378 = .ok (.iconst 0, 1) := by decide +kernel
theorem d_law_379 : decode code 379 = .ok (.ireturn, 1) := by decide +kernel
theorem d_law_380 : decode code 380 = .ok (.iload 5, 2) := by decide +kernel
theorem d_law_382 : decode code 382 = .ok (.ifCond .ne 15, 3) := by decide +kernel
theorem d_law_385 : decode code 385 = .ok (.aload_n 3, 1) := by decide +kernel
theorem d_law_386 : decode code 386 = .ok (.iconst 0, 1) := by decide +kernel
theorem d_law_387 : decode code 387 = .ok (.laload, 1) := by decide +kernel
theorem d_law_388 : decode code 388 = .ok (.iload 6, 2) := by decide +kernel
theorem d_law_390 : decode code 390 = .ok (.i2l, 1) := by decide +kernel
theorem d_law_391 : decode code 391 = .ok (.lcmp, 1) := by decide +kernel
theorem d_law_392 : decode code 392 = .ok (.ifCond .eq 5, 3) := by decide +kernel
theorem d_law_395 : decode code 395 = .ok (.iconst 0, 1) := by decide +kernel
theorem d_law_396 : decode code 396 = .ok (.ireturn, 1) := by decide +kernel
theorem d_law_397 : decode code 397 = .ok (.goto 349, 3) := by decide +kernel
theorem d_law_400 : decode code 400 = .ok (.aload_n 1, 1) := by decide +kernel
theorem d_law_401 : decode code 401 = .ok (.aload_n 0, 1) := by decide +kernel
theorem d_law_402 : decode code 402 = .ok (.iload 4, 2) := by decide +kernel
theorem d_law_404 : decode code 404 = .ok (.iconst 1, 1) := by decide +kernel
theorem d_law_405 : decode code 405 = .ok (.iadd, 1) := by decide +kernel
theorem d_law_406 : decode code 406 = .ok (.iaload, 1) := by decide +kernel
theorem d_law_407 : decode code 407 = .ok (.aload_n 0, 1) := by decide +kernel
theorem d_law_408 : decode code 408 = .ok (.iload 4, 2) := by decide +kernel
theorem d_law_410 : decode code 410 = .ok (.iconst 2, 1) := by decide +kernel
theorem d_law_411 : decode code 411 = .ok (.iadd, 1) := by decide +kernel
theorem d_law_412 : decode code 412 = .ok (.iaload, 1) := by decide +kernel
theorem d_law_413 : decode code 413 = .ok (.aload_n 0, 1) := by decide +kernel
theorem d_law_414 : decode code 414 = .ok (.iload 4, 2) := by decide +kernel
theorem d_law_416 : decode code 416 = .ok (.iconst 3, 1) := by decide +kernel
theorem d_law_417 : decode code 417 = .ok (.iadd, 1) := by decide +kernel
theorem d_law_418 : decode code 418 = .ok (.iaload, 1) := by decide +kernel
theorem d_law_419 : decode code 419 = .ok (.aload_n 3, 1) := by decide +kernel
theorem d_law_420 : decode code 420 = .ok (.invokestatic 70, 3) := by decide +kernel
theorem d_law_423 : decode code 423 = .ok (.istore 5, 2) := by decide +kernel
theorem d_law_425 : decode code 425 = .ok (.aload_n 2, 1) := by decide +kernel
theorem d_law_426 : decode code 426 = .ok (.aload_n 0, 1) := by decide +kernel
theorem d_law_427 : decode code 427 = .ok (.iload 4, 2) := by decide +kernel
theorem d_law_429 : decode code 429 = .ok (.iconst 1, 1) := by decide +kernel
theorem d_law_430 : decode code 430 = .ok (.iadd, 1) := by decide +kernel
theorem d_law_431 : decode code 431 = .ok (.iaload, 1) := by decide +kernel
theorem d_law_432 : decode code 432 = .ok (.aload_n 0, 1) := by decide +kernel
theorem d_law_433 : decode code 433 = .ok (.iload 4, 2) := by decide +kernel
theorem d_law_435 : decode code 435 = .ok (.iconst 2, 1) := by decide +kernel
theorem d_law_436 : decode code 436 = .ok (.iadd, 1) := by decide +kernel
theorem d_law_437 : decode code 437 = .ok (.iaload, 1) := by decide +kernel
theorem d_law_438 : decode code 438 = .ok (.aload_n 0, 1) := by decide +kernel
theorem d_law_439 : decode code 439 = .ok (.iload 4, 2) := by decide +kernel
theorem d_law_441 : decode code 441 = .ok (.iconst 3, 1) := by decide +kernel
theorem d_law_442 : decode code 442 = .ok (.iadd, 1) := by decide +kernel
theorem d_law_443 : decode code 443 = .ok (.iaload, 1) := by decide +kernel
theorem d_law_444 : decode code 444 = .ok (.invokevirtual 73, 3) := by decide +kernel
theorem d_law_447 : decode code 447 = .ok (.istore 6, 2) := by decide +kernel
theorem d_law_449 : decode code 449 = .ok (.aload_n 2, 1) := by decide +kernel
theorem d_law_450 : decode code 450 = .ok (.invokevirtual 56, 3) := by decide +kernel
theorem d_law_453 : decode code 453 = .ok (.iload 5, 2) := by decide +kernel
theorem d_law_455 : decode code 455 = .ok (.if_icmp .eq 5, 3) := by decide +kernel
theorem d_law_458 : decode code 458 = .ok (.iconst 0, 1) := by decide +kernel
theorem d_law_459 : decode code 459 = .ok (.ireturn, 1) := by decide +kernel
theorem d_law_460 : decode code 460 = .ok (.iload 5, 2) := by decide +kernel
theorem d_law_462 : decode code 462 = .ok (.ifCond .ne 15, 3) := by decide +kernel
theorem d_law_465 : decode code 465 = .ok (.aload_n 3, 1) := by decide +kernel
theorem d_law_466 : decode code 466 = .ok (.iconst 0, 1) := by decide +kernel
theorem d_law_467 : decode code 467 = .ok (.laload, 1) := by decide +kernel
theorem d_law_468 : decode code 468 = .ok (.iload 6, 2) := by decide +kernel
theorem d_law_470 : decode code 470 = .ok (.i2l, 1) := by decide +kernel
theorem d_law_471 : decode code 471 = .ok (.lcmp, 1) := by decide +kernel
theorem d_law_472 : decode code 472 = .ok (.ifCond .eq 5, 3) := by decide +kernel
theorem d_law_475 : decode code 475 = .ok (.iconst 0, 1) := by decide +kernel
theorem d_law_476 : decode code 476 = .ok (.ireturn, 1) := by decide +kernel
theorem d_law_477 : decode code 477 = .ok (.goto 269, 3) := by decide +kernel
theorem d_law_480 : decode code 480 = .ok (.aload_n 1, 1) := by decide +kernel
theorem d_law_481 : decode code 481 = .ok (.aload_n 0, 1) := by decide +kernel
theorem d_law_482 : decode code 482 = .ok (.iload 4, 2) := by decide +kernel
theorem d_law_484 : decode code 484 = .ok (.iconst 1, 1) := by decide +kernel
theorem d_law_485 : decode code 485 = .ok (.iadd, 1) := by decide +kernel
theorem d_law_486 : decode code 486 = .ok (.iaload, 1) := by decide +kernel
theorem d_law_487 : decode code 487 = .ok (.aload_n 3, 1) := by decide +kernel
theorem d_law_488 : decode code 488 = .ok (.invokestatic 74, 3) := by decide +kernel
theorem d_law_491 : decode code 491 = .ok (.istore 5, 2) := by decide +kernel
theorem d_law_493 : decode code 493 = .ok (.aload_n 2, 1) := by decide +kernel
theorem d_law_494 : decode code 494 = .ok (.aload_n 0, 1) := by decide +kernel
theorem d_law_495 : decode code 495 = .ok (.iload 4, 2) := by decide +kernel
theorem d_law_497 : decode code 497 = .ok (.iconst 1, 1) := by decide +kernel
theorem d_law_498 : decode code 498 = .ok (.iadd, 1) := by decide +kernel
theorem d_law_499 : decode code 499 = .ok (.iaload, 1) := by decide +kernel
theorem d_law_500 : decode code 500 = .ok (.invokevirtual 77, 3) := by decide +kernel
theorem d_law_503 : decode code 503 = .ok (.istore 6, 2) := by decide +kernel
theorem d_law_505 : decode code 505 = .ok (.aload_n 2, 1) := by decide +kernel
theorem d_law_506 : decode code 506 = .ok (.invokevirtual 56, 3) := by decide +kernel
theorem d_law_509 : decode code 509 = .ok (.iload 5, 2) := by decide +kernel
theorem d_law_511 : decode code 511 = .ok (.if_icmp .eq 5, 3) := by decide +kernel
theorem d_law_514 : decode code 514 = .ok (.iconst 0, 1) := by decide +kernel
theorem d_law_515 : decode code 515 = .ok (.ireturn, 1) := by decide +kernel
theorem d_law_516 : decode code 516 = .ok (.iload 5, 2) := by decide +kernel
theorem d_law_518 : decode code 518 = .ok (.ifCond .ne 15, 3) := by decide +kernel
theorem d_law_521 : decode code 521 = .ok (.aload_n 3, 1) := by decide +kernel
theorem d_law_522 : decode code 522 = .ok (.iconst 0, 1) := by decide +kernel
theorem d_law_523 : decode code 523 = .ok (.laload, 1) := by decide +kernel
theorem d_law_524 : decode code 524 = .ok (.iload 6, 2) := by decide +kernel
theorem d_law_526 : decode code 526 = .ok (.i2l, 1) := by decide +kernel
theorem d_law_527 : decode code 527 = .ok (.lcmp, 1) := by decide +kernel
theorem d_law_528 : decode code 528 = .ok (.ifCond .eq 5, 3) := by decide +kernel
theorem d_law_531 : decode code 531 = .ok (.iconst 0, 1) := by decide +kernel
theorem d_law_532 : decode code 532 = .ok (.ireturn, 1) := by decide +kernel
theorem d_law_533 : decode code 533 = .ok (.goto 213, 3) := by decide +kernel
theorem d_law_536 : decode code 536 = .ok (.aload_n 1, 1) := by decide +kernel
theorem d_law_537 : decode code 537 = .ok (.aload_n 0, 1) := by decide +kernel
theorem d_law_538 : decode code 538 = .ok (.iload 4, 2) := by decide +kernel
theorem d_law_540 : decode code 540 = .ok (.iconst 1, 1) := by decide +kernel
theorem d_law_541 : decode code 541 = .ok (.iadd, 1) := by decide +kernel
theorem d_law_542 : decode code 542 = .ok (.iaload, 1) := by decide +kernel
theorem d_law_543 : decode code 543 = .ok (.aload_n 0, 1) := by decide +kernel
theorem d_law_544 : decode code 544 = .ok (.iload 4, 2) := by decide +kernel
theorem d_law_546 : decode code 546 = .ok (.iconst 2, 1) := by decide +kernel
theorem d_law_547 : decode code 547 = .ok (.iadd, 1) := by decide +kernel
theorem d_law_548 : decode code 548 = .ok (.iaload, 1) := by decide +kernel
theorem d_law_549 : decode code 549 = .ok (.aload_n 3, 1) := by decide +kernel
theorem d_law_550 : decode code 550 = .ok (.invokestatic 78, 3) := by decide +kernel
theorem d_law_553 : decode code 553 = .ok (.istore 5, 2) := by decide +kernel
theorem d_law_555 : decode code 555 = .ok (.aload_n 2, 1) := by decide +kernel
theorem d_law_556 : decode code 556 = .ok (.aload_n 0, 1) := by decide +kernel
theorem d_law_557 : decode code 557 = .ok (.iload 4, 2) := by decide +kernel
theorem d_law_559 : decode code 559 = .ok (.iconst 1, 1) := by decide +kernel
theorem d_law_560 : decode code 560 = .ok (.iadd, 1) := by decide +kernel
theorem d_law_561 : decode code 561 = .ok (.iaload, 1) := by decide +kernel
theorem d_law_562 : decode code 562 = .ok (.aload_n 0, 1) := by decide +kernel
theorem d_law_563 : decode code 563 = .ok (.iload 4, 2) := by decide +kernel
theorem d_law_565 : decode code 565 = .ok (.iconst 2, 1) := by decide +kernel
theorem d_law_566 : decode code 566 = .ok (.iadd, 1) := by decide +kernel
theorem d_law_567 : decode code 567 = .ok (.iaload, 1) := by decide +kernel
theorem d_law_568 : decode code 568 = .ok (.invokevirtual 80, 3) := by decide +kernel
theorem d_law_571 : decode code 571 = .ok (.lstore 6, 2) := by decide +kernel
theorem d_law_573 : decode code 573 = .ok (.aload_n 2, 1) := by decide +kernel
theorem d_law_574 : decode code 574 = .ok (.invokevirtual 56, 3) := by decide +kernel
theorem d_law_577 : decode code 577 = .ok (.iload 5, 2) := by decide +kernel
theorem d_law_579 : decode code 579 = .ok (.if_icmp .eq 5, 3) := by decide +kernel
theorem d_law_582 : decode code 582 = .ok (.iconst 0, 1) := by decide +kernel
theorem d_law_583 : decode code 583 = .ok (.ireturn, 1) := by decide +kernel
theorem d_law_584 : decode code 584 = .ok (.iload 5, 2) := by decide +kernel
end
section
theorem d_law_586 : decode code 586 = .ok (.ifCond .ne 14, 3) := by decide +kernel
theorem d_law_589 : decode code 589 = .ok (.aload_n 3, 1) := by decide +kernel
theorem d_law_590 : decode code 590 = .ok (.iconst 0, 1) := by decide +kernel
theorem d_law_591 : decode code 591 = .ok (.laload, 1) := by decide +kernel
theorem d_law_592 : decode code 592 = .ok (.lload 6, 2) := by decide +kernel
theorem d_law_594 : decode code 594 = .ok (.lcmp, 1) := by decide +kernel
theorem d_law_595 : decode code 595 = .ok (.ifCond .eq 5, 3) := by decide +kernel
theorem d_law_598 : decode code 598 = .ok (.iconst 0, 1) := by decide +kernel
theorem d_law_599 : decode code 599 = .ok (.ireturn, 1) := by decide +kernel
theorem d_law_600 : decode code 600 = .ok (.goto 146, 3) := by decide +kernel
theorem d_law_603 : decode code 603 = .ok (.aload_n 1, 1) := by decide +kernel
theorem d_law_604 : decode code 604 = .ok (.aload_n 0, 1) := by decide +kernel
theorem d_law_605 : decode code 605 = .ok (.iload 4, 2) := by decide +kernel
theorem d_law_607 : decode code 607 = .ok (.iconst 1, 1) := by decide +kernel
theorem d_law_608 : decode code 608 = .ok (.iadd, 1) := by decide +kernel
theorem d_law_609 : decode code 609 = .ok (.iaload, 1) := by decide +kernel
theorem d_law_610 : decode code 610 = .ok (.aload_n 0, 1) := by decide +kernel
theorem d_law_611 : decode code 611 = .ok (.iload 4, 2) := by decide +kernel
theorem d_law_613 : decode code 613 = .ok (.iconst 2, 1) := by decide +kernel
theorem d_law_614 : decode code 614 = .ok (.iadd, 1) := by decide +kernel
theorem d_law_615 : decode code 615 = .ok (.iaload, 1) := by decide +kernel
theorem d_law_616 : decode code 616 = .ok (.aload_n 3, 1) := by decide +kernel
theorem d_law_617 : decode code 617 = .ok (.invokestatic 81, 3) := by decide +kernel
theorem d_law_620 : decode code 620 = .ok (.istore 5, 2) := by decide +kernel
theorem d_law_622 : decode code 622 = .ok (.aload_n 2, 1) := by decide +kernel
theorem d_law_623 : decode code 623 = .ok (.aload_n 0, 1) := by decide +kernel
theorem d_law_624 : decode code 624 = .ok (.iload 4, 2) := by decide +kernel
theorem d_law_626 : decode code 626 = .ok (.iconst 1, 1) := by decide +kernel
theorem d_law_627 : decode code 627 = .ok (.iadd, 1) := by decide +kernel
theorem d_law_628 : decode code 628 = .ok (.iaload, 1) := by decide +kernel
theorem d_law_629 : decode code 629 = .ok (.aload_n 0, 1) := by decide +kernel
theorem d_law_630 : decode code 630 = .ok (.iload 4, 2) := by decide +kernel
theorem d_law_632 : decode code 632 = .ok (.iconst 2, 1) := by decide +kernel
theorem d_law_633 : decode code 633 = .ok (.iadd, 1) := by decide +kernel
theorem d_law_634 : decode code 634 = .ok (.iaload, 1) := by decide +kernel
theorem d_law_635 : decode code 635 = .ok (.invokevirtual 83, 3) := by decide +kernel
theorem d_law_638 : decode code 638 = .ok (.istore 6, 2) := by decide +kernel
theorem d_law_640 : decode code 640 = .ok (.aload_n 2, 1) := by decide +kernel
theorem d_law_641 : decode code 641 = .ok (.invokevirtual 56, 3) := by decide +kernel
theorem d_law_644 : decode code 644 = .ok (.iload 5, 2) := by decide +kernel
theorem d_law_646 : decode code 646 = .ok (.if_icmp .eq 5, 3) := by decide +kernel
theorem d_law_649 : decode code 649 = .ok (.iconst 0, 1) := by decide +kernel
theorem d_law_650 : decode code 650 = .ok (.ireturn, 1) := by decide +kernel
theorem d_law_651 : decode code 651 = .ok (.iload 5, 2) := by decide +kernel
theorem d_law_653 : decode code 653 = .ok (.ifCond .ne 22, 3) := by decide +kernel
theorem d_law_656 : decode code 656 = .ok (.aload_n 3, 1) := by decide +kernel
theorem d_law_657 : decode code 657 = .ok (.iconst 0, 1) := by decide +kernel
theorem d_law_658 : decode code 658 = .ok (.laload, 1) := by decide +kernel
theorem d_law_659 : decode code 659 = .ok (.iload 6, 2) := by decide +kernel
theorem d_law_661 : decode code 661 = .ok (.ifCond .eq 7, 3) := by decide +kernel
theorem d_law_664 : decode code 664 = .ok (.lconst 1, 1) := by decide +kernel
theorem d_law_665 : decode code 665 = .ok (.goto 4, 3) := by decide +kernel
theorem d_law_668 : decode code 668 = .ok (.lconst 0, 1) := by decide +kernel
theorem d_law_669 : decode code 669 = .ok (.lcmp, 1) := by decide +kernel
theorem d_law_670 : decode code 670 = .ok (.ifCond .eq 5, 3) := by decide +kernel
theorem d_law_673 : decode code 673 = .ok (.iconst 0, 1) := by decide +kernel
theorem d_law_674 : decode code 674 = .ok (.ireturn, 1) := by decide +kernel
theorem d_law_675 : decode code 675 = .ok (.goto 71, 3) := by decide +kernel
theorem d_law_678 : decode code 678 = .ok (.aload_n 1, 1) := by decide +kernel
theorem d_law_679 : decode code 679 = .ok (.aload_n 0, 1) := by decide +kernel
theorem d_law_680 : decode code 680 = .ok (.iload 4, 2) := by decide +kernel
theorem d_law_682 : decode code 682 = .ok (.iconst 1, 1) := by decide +kernel
theorem d_law_683 : decode code 683 = .ok (.iadd, 1) := by decide +kernel
theorem d_law_684 : decode code 684 = .ok (.iaload, 1) := by decide +kernel
theorem d_law_685 : decode code 685 = .ok (.aload_n 0, 1) := by decide +kernel
theorem d_law_686 : decode code 686 = .ok (.iload 4, 2) := by decide +kernel
theorem d_law_688 : decode code 688 = .ok (.iconst 2, 1) := by decide +kernel
theorem d_law_689 : decode code 689 = .ok (.iadd, 1) := by decide +kernel
theorem d_law_690 : decode code 690 = .ok (.iaload, 1) := by decide +kernel
theorem d_law_691 : decode code 691 = .ok (.aload_n 3, 1) := by decide +kernel
theorem d_law_692 : decode code 692 = .ok (.invokestatic 84, 3) := by decide +kernel
theorem d_law_695 : decode code 695 = .ok (.istore 5, 2) := by decide +kernel
theorem d_law_697 : decode code 697 = .ok (.aload_n 2, 1) := by decide +kernel
theorem d_law_698 : decode code 698 = .ok (.aload_n 0, 1) := by decide +kernel
theorem d_law_699 : decode code 699 = .ok (.iload 4, 2) := by decide +kernel
theorem d_law_701 : decode code 701 = .ok (.iconst 1, 1) := by decide +kernel
theorem d_law_702 : decode code 702 = .ok (.iadd, 1) := by decide +kernel
theorem d_law_703 : decode code 703 = .ok (.iaload, 1) := by decide +kernel
theorem d_law_704 : decode code 704 = .ok (.aload_n 0, 1) := by decide +kernel
theorem d_law_705 : decode code 705 = .ok (.iload 4, 2) := by decide +kernel
theorem d_law_707 : decode code 707 = .ok (.iconst 2, 1) := by decide +kernel
theorem d_law_708 : decode code 708 = .ok (.iadd, 1) := by decide +kernel
theorem d_law_709 : decode code 709 = .ok (.iaload, 1) := by decide +kernel
theorem d_law_710 : decode code 710 = .ok (.invokevirtual 86, 3) := by decide +kernel
theorem d_law_713 : decode code 713 = .ok (.istore 6, 2) := by decide +kernel
theorem d_law_715 : decode code 715 = .ok (.aload_n 2, 1) := by decide +kernel
theorem d_law_716 : decode code 716 = .ok (.invokevirtual 56, 3) := by decide +kernel
theorem d_law_719 : decode code 719 = .ok (.iload 5, 2) := by decide +kernel
theorem d_law_721 : decode code 721 = .ok (.if_icmp .eq 5, 3) := by decide +kernel
theorem d_law_724 : decode code 724 = .ok (.iconst 0, 1) := by decide +kernel
theorem d_law_725 : decode code 725 = .ok (.ireturn, 1) := by decide +kernel
theorem d_law_726 : decode code 726 = .ok (.iload 5, 2) := by decide +kernel
theorem d_law_728 : decode code 728 = .ok (.ifCond .ne 15, 3) := by decide +kernel
theorem d_law_731 : decode code 731 = .ok (.aload_n 3, 1) := by decide +kernel
theorem d_law_732 : decode code 732 = .ok (.iconst 0, 1) := by decide +kernel
theorem d_law_733 : decode code 733 = .ok (.laload, 1) := by decide +kernel
theorem d_law_734 : decode code 734 = .ok (.iload 6, 2) := by decide +kernel
theorem d_law_736 : decode code 736 = .ok (.i2l, 1) := by decide +kernel
theorem d_law_737 : decode code 737 = .ok (.lcmp, 1) := by decide +kernel
theorem d_law_738 : decode code 738 = .ok (.ifCond .eq 5, 3) := by decide +kernel
theorem d_law_741 : decode code 741 = .ok (.iconst 0, 1) := by decide +kernel
theorem d_law_742 : decode code 742 = .ok (.ireturn, 1) := by decide +kernel
theorem d_law_743 : decode code 743 = .ok (.goto 3, 3) := by decide +kernel
theorem d_law_746 : decode code 746 = .ok (.iinc 4 6, 3) := by decide +kernel
theorem d_law_749 : decode code 749 = .ok (.goto (-726), 3) := by decide +kernel
theorem d_law_752 : decode code 752 = .ok (.iconst 1, 1) := by decide +kernel
theorem d_law_753 : decode code 753 = .ok (.ireturn, 1) := by decide +kernel
end
section
section VXA
def vx_T (XC : String → State → State → Prop) (st : State) (q : Addr) (t : State) (mc ms : Nat) (free : Addr → Prop) : Prop :=
  ∃ (E : String) (ce : Cell) (L : List Loc), XC E st t ∧ t.heap[q]? = some ce ∧ ce.vm = .none ∧ st.vm.findClass E = some ce.cls ∧ st.WarmedH t.vm ∧ st.sameButNew ({ t with vm := st.vm } : State) L mc ms ∧ ∀ z ∈ L, free z.base
def vx_Q (Qc : Array Value → State → Outcome → State → Prop) (XC : String → State → State → Prop) (mc ms : Nat) (free : Addr → Prop) : Array Value → State → Outcome → State → Prop := fun a st o t =>
  (Qc a st o t ∧ ∃ L, FrameEnd st o t L mc ms ∧ ∀ q ∈ L, free q.base) ∨ ∃ q, o = .threw q ∧ vx_T XC st q t mc ms free
def vx_Met (l : Launch) (y : MethodName) (ws : List Cond) (rm : Room) (Pc : Array Value → State → Prop) (Qc : Array Value → State → Outcome → State → Prop) (XC : String → State → State → Prop) (mc ms : Nat) (free : Addr → Prop) : Prop :=
  MetFree l y (headSpec ws rm) Pc (fun _ _ _ _ _ => True) (vx_Q Qc XC mc ms free)
def vx_Post (XC : String → State → State → Prop) (mc ms : Nat) (free : Addr → Prop) : Pt → Array Value → Addr → Pt → Prop := fun A a q B =>
  ∃ (g : JFrame) (mk : MethodId) (t : State) (L : List Loc) (E : String) (ce : Cell), B.U.heap = t.heap ∧ B.U.vm = t.vm ∧ XC E (A.U.calling g mk a) t ∧ t.heap[q]? = some ce ∧ ce.vm = .none ∧ A.U.vm.findClass E = some ce.cls ∧ B.locs = A.locs ++ L ∧ (∀ z ∈ L, free z.base) ∧ B.cells = A.cells + mc ∧ B.slots = A.slots + ms
def vx_Back (l : Launch) (R : Room) (p : Program) (e : Env) (below : List Frame) (s : State) (sargs : Array Value) (y : MethodName) (len W9 : Nat)
    (Pre : Pt → Array Value → Prop) (Post : Pt → Array Value → Option Value → Pt → Prop) (PostX : Pt → Array Value → Addr → Pt → Prop) : Prop :=
  ∀ (m : MethodId) (meth : Method) (c : Code) (A : Pt) (g : JFrame) (ig : Instr) (mk : MethodId) (a : Array Value),
    Stand p l e R s m sargs below meth c A.U A.locs A.cells A.slots → g.method = m → g.locals.size = c.maxLocals → decode c.code g.pc = .ok (ig, len) →
    2 * g.monitorRoom + (g.stack.map fun v => v.category).sum ≤ W9 → A.U.methodNamed? y = some mk → Pre A a →
    (∃ (v : Option Value) (B : Pt), Stand p l e R s m sargs below meth c B.U B.locs B.cells B.slots ∧ Post A a v B ∧
      Steps p.tables e below (doInvoke e (A.U.setTop g) [] mk a).1 (B.U.setTop { g with pc := g.pc + len, stack := v.toList ++ g.stack })) ∨
    (∃ (q : Addr) (B : Pt), Stand p l e R s m sargs below meth c B.U B.locs B.cells B.slots ∧ PostX A a q B ∧
      Steps p.tables e below (doInvoke e (A.U.setTop g) [] mk a).1 ((B.U.setTop g).pushFrame (.throwing q)))
section Payer
variable {l : Launch} {R : Room} {p : Program} {e : Env} {below : List Frame} {s : State} {sargs : Array Value} {y : MethodName} {len W9 : Nat}
theorem vx_back {ws : List Cond} {rm : Room} {Pc : Array Value → State → Prop} {Qc : Array Value → State → Outcome → State → Prop} {XC : String → State → State → Prop} {mc ms : Nat} {free : Addr → Prop} {bytes : ByteArray} {maxL : Nat} {ret : Option FieldType}
    (hM : vx_Met l y ws rm Pc Qc XC mc ms free) (hblind : FrameBlind Pc) (hrc : rm.cells = mc) (hrs : rm.slots = ms)
    (hframes : rm.frames + 1 ≤ R.frames) (hlocals : W9 + (maxL + 11) + rm.locals ≤ R.locals)
    (hws : ∀ w ∈ ws, ∀ a' U, s.WarmedH U.vm → w.before a' U = true) (hcode : Cond.code y bytes maxL ret ∈ ws) (hinit : ∀ a' U, s.WarmedH U.vm → (Cond.initialized y.cls).before a' U = true) :
    vx_Back l R p e below s sargs y len W9 (PreOf R mc ms Pc) (PostOf Qc mc ms free) (vx_Post XC mc ms free) := by
  intro m meth c A g ig mk a X hg hsize hdg hW hn hp
  have h1 : (headSpec ws rm).pre.before a A.U = true := atoms_intro fun w hw => hws w hw _ _ X.warmed
  have h2 : (Cond.code y bytes maxL ret).before a A.U = true := hws _ hcode _ _ X.warmed
  have h3 : (Cond.initialized y.cls).before a A.U = true := hinit _ _ X.warmed
  have h4 : A.cells + (headSpec ws rm).room.cells ≤ R.cells := by rw [show (headSpec ws rm).room.cells = mc from hrc]; exact hp.1
  have h5 : A.slots + (headSpec ws rm).room.slots ≤ R.slots := by rw [show (headSpec ws rm).room.slots = ms from hrs]; exact hp.2.1
  have hPc : Pc a (A.U.calling g mk a) := hblind _ _ _ _ hp.2.2
  obtain ⟨U, Ls, c0, s0⟩ := A
  dsimp only [Pt.U, Pt.locs, Pt.cells, Pt.slots] at h1 h2 h3 h4 h5 X hn hPc ⊢
  obtain ⟨methY, cY, hmY, hcY, -, hlY, -, -, -, -⟩ := Cond.code_spec hn h2
  obtain ⟨kY, hkY, -⟩ := className_of_methodNamed hn
  have hinitY : kY.init = .initialized := Cond.initialized_spec (findClass_of_methodNamed hn) hkY h3
  have h : At U g.method c below := by rw [hg]; exact X.here
  have hlocals9 : W9 + (maxL + 11) + (headSpec ws rm).room.locals ≤ R.locals := hlocals
  have happ : (headSpec ws rm).appliesLoose y e.platform (U.calling g mk a) = true :=
    Spec.appliesLoose_calling (g := g) h hdg hn hkY hinitY
      (X.room_calling (g := g) (R' := (headSpec ws rm).room) hsize hmY hcY hframes (by rw [hlY]; omega) h4 h5) h1
  obtain ⟨mid, hmid⟩ := h.above
  have hfr : (U.setTop g).frames = (.java g :: mid) ++ below := by rw [State.frames_setTop' g h.top, hmid]; rfl
  obtain ⟨o, s₂, hsteps, -, hend, hq⟩ := Steps.callFree hM p X.admits X.cas X.clock (acts := []) hfr happ hPc trivial
  have hq' : vx_Q Qc XC mc ms free a (U.calling g mk a) o s₂ := hq
  rw [State.frames_setTop' g h.top] at hend
  obtain ⟨g₀, hg0⟩ := Option.isSome_iff_exists.mp h.top
  obtain ⟨r, hr⟩ := State.topJava?_eq_some.mp hg0
  have hr' : (({ U with heap := s₂.heap, slotsUsed := s₂.slotsUsed } : State).setVm s₂.vm).frames = .java g₀ :: r := hr
  rcases hq' with ⟨hqc, L, hfe, hL⟩ | ⟨q, rfl, E, ce, L, hx, hce, hcv, hcl, hW₂, hsm, hL⟩
  · obtain ⟨⟨v, rfl⟩, hW₂, e2, q2, q3, q4, q5, q6⟩ := id hfe
    have e3 : s₂ = ({ (U.calling g mk a).setFrames s₂.frames with heap := s₂.heap, slotsUsed := s₂.slotsUsed } : State).setVm s₂.vm := by
      have : s₂ = ({ s₂ with vm := (U.calling g mk a).vm } : State).setVm s₂.vm := rfl
      rw [e2] at this
      exact this
    obtain ⟨c₂, i₂, len₂, hc₂, hd₂, hf₂⟩ := hend
    have hW' : U.WarmedH s₂.vm := hW₂
    have hcc : c₂ = c := by
      have h1 : s₂.code? g.method = U.code? g.method := by
        rw [State.code?_eq, State.code?_eq, hW'.alike.method?]
      exact Option.some.inj (hc₂.symm.trans (h1.trans h.code))
    subst hcc
    have hlen : len₂ = len := by rw [hdg] at hd₂; cases hd₂; rfl
    subst hlen
    have hs₂ : s₂ = (({ U with heap := s₂.heap, slotsUsed := s₂.slotsUsed } : State).setVm s₂.vm).setTop { g with pc := g.pc + len₂, stack := v.toList ++ g.stack } := by
      refine e3.trans ?_
      rw [hf₂, State.calling_eq h.top, State.setFrames_setFrames, State.setTop_of_frames _ hr', hr]
      rfl
    have hsame : U.sameButNew ({ U with heap := s₂.heap, slotsUsed := s₂.slotsUsed } : State) L mc ms := by
      refine ⟨?_, q2, q3, q4, q5, q6⟩
      obtain ⟨t, ht, -⟩ := State.frames_cons hr
      show ({ U with heap := s₂.heap, slotsUsed := s₂.slotsUsed } : State) = { U.setFrames U.frames with heap := s₂.heap, slotsUsed := s₂.slotsUsed }
      rw [State.setFrames_self ht]
    subst hg
    refine Or.inl ⟨v, ⟨(({ U with heap := s₂.heap, slotsUsed := s₂.slotsUsed } : State).setVm s₂.vm), Ls ++ L, c0 + mc, s0 + ms⟩,
      ⟨X.admits, X.cas, X.clock, X.frames, X.room, X.hears, X.method, X.code, (X.here.setHeapUsed s₂.heap s₂.slotsUsed).setVm hW'.alike, X.tail, State.WarmedH.trans X.warmed hW', X.limits, X.bytes, X.same.trans (hsame.setVm s.vm)⟩,
      ⟨g, mk, s₂, L, rfl, rfl, hqc, rfl, hL, rfl, rfl⟩, ?_⟩
    show Steps p.tables e below _ ((({ U with heap := s₂.heap, slotsUsed := s₂.slotsUsed } : State).setVm s₂.vm).setTop { g with pc := g.pc + len₂, stack := v.toList ++ g.stack })
    rw [← hs₂]
    exact hsteps
  · obtain ⟨e2, q2, q3, q4, q5, q6⟩ := id hsm
    have e3 : s₂ = ({ (U.calling g mk a).setFrames s₂.frames with heap := s₂.heap, slotsUsed := s₂.slotsUsed } : State).setVm s₂.vm := by
      have : s₂ = ({ s₂ with vm := (U.calling g mk a).vm } : State).setVm s₂.vm := rfl
      rw [e2] at this
      exact this
    have hf₂ : s₂.frames = .throwing q :: .java g :: U.frames.tail := hend
    have hW' : U.WarmedH s₂.vm := hW₂
    have hs₂ : s₂ = ((({ U with heap := s₂.heap, slotsUsed := s₂.slotsUsed } : State).setVm s₂.vm).setTop g).pushFrame (.throwing q) := by
      refine e3.trans ?_
      rw [hf₂, State.calling_eq h.top, State.setFrames_setFrames, State.pushFrame, State.frames_setTop _ hr', State.setTop_of_frames _ hr', State.setFrames_setFrames, hr]
      rfl
    have hsame : U.sameButNew ({ U with heap := s₂.heap, slotsUsed := s₂.slotsUsed } : State) L mc ms := by
      refine ⟨?_, q2, q3, q4, q5, q6⟩
      obtain ⟨t, ht, -⟩ := State.frames_cons hr
      show ({ U with heap := s₂.heap, slotsUsed := s₂.slotsUsed } : State) = { U.setFrames U.frames with heap := s₂.heap, slotsUsed := s₂.slotsUsed }
      rw [State.setFrames_self ht]
    subst hg
    refine Or.inr ⟨q, ⟨(({ U with heap := s₂.heap, slotsUsed := s₂.slotsUsed } : State).setVm s₂.vm), Ls ++ L, c0 + mc, s0 + ms⟩,
      ⟨X.admits, X.cas, X.clock, X.frames, X.room, X.hears, X.method, X.code, (X.here.setHeapUsed s₂.heap s₂.slotsUsed).setVm hW'.alike, X.tail, State.WarmedH.trans X.warmed hW', X.limits, X.bytes, X.same.trans (hsame.setVm s.vm)⟩,
      ⟨g, mk, s₂, L, E, ce, rfl, rfl, hx, hce, hcv, hcl, rfl, hL, rfl, rfl⟩, ?_⟩
    show Steps p.tables e below _ (((({ U with heap := s₂.heap, slotsUsed := s₂.slotsUsed } : State).setVm s₂.vm).setTop g).pushFrame (.throwing q))
    rw [← hs₂]
    exact hsteps
end Payer
section Calls
variable {p : Program} {l : Launch} {e : Env} {R : Room} {s : State} {m : MethodId} {args : Array Value} {below : List Frame} {meth : Method} {c : Code} {T : State} {locs : List Loc} {cells slots : Nat}
theorem vx_callV (X : Stand p l e R s m args below meth c T locs cells slots) (hexec : p.tables.exec = Jvm.exec) {own C : String} {index : Nat} {y : MethodName} {bytes : ByteArray} {maxL : Nat} {ret : Option FieldType}
    (hown : s.vm.findClass own = some m.cls) (hlink : (Cond.methodLink own index y).before args s = true) (hinst : (Cond.instanceMethod y).before args s = true) (hsel : (Cond.selects C y y).before args s = true)
    (hcode : (Cond.code y bytes maxL ret).before args s = true) (hy : y.cls ≠ "java/lang/invoke/MethodHandle" ∧ y.cls ≠ "java/lang/invoke/VarHandle")
    {W9 : Nat} {Pre : Pt → Array Value → Prop} {Post : Pt → Array Value → Option Value → Pt → Prop} {PostX : Pt → Array Value → Addr → Pt → Prop} (hK : vx_Back l R p e below s args y 3 W9 Pre Post PostX)
    {b : Addr} {cellB : Cell} (hcell : T.heap[b]? = some cellB) (hobj : cellB.vm.isStatics = false) (hcls : s.vm.findClass C = some cellB.cls)
    {g : JFrame} (hg : g.method = m) (hsize : g.locals.size = c.maxLocals) {argsL rest : List Value} (hlen : ∀ sig, parseMethodDescriptor y.desc = some sig → argsL.length = sig.parameters.length)
    (hstack : g.stack = argsL.reverse ++ .ref b :: rest) (hW : 2 * g.monitorRoom + (rest.map fun v => v.category).sum ≤ W9) (hdg : decode c.code g.pc = .ok (.invokevirtual index, 3))
    (hpre : ∀ vm₁, s.WarmedH vm₁ → Pre ⟨T.setVm vm₁, locs, cells, slots⟩ (Value.ref b :: argsL).toArray) :
    (∃ (v : Option Value) (vm₁ : Vm) (B : Pt), s.WarmedH vm₁ ∧ Stand p l e R s m args below meth c B.U B.locs B.cells B.slots ∧ Post ⟨T.setVm vm₁, locs, cells, slots⟩ (Value.ref b :: argsL).toArray v B ∧
      ∀ target, Steps p.tables e below (B.U.setTop { g with pc := g.pc + 3, stack := v.toList ++ rest }) target → Steps p.tables e below (T.setTop g) target) ∨
    (∃ (q : Addr) (vm₁ : Vm) (B : Pt), s.WarmedH vm₁ ∧ Stand p l e R s m args below meth c B.U B.locs B.cells B.slots ∧ PostX ⟨T.setVm vm₁, locs, cells, slots⟩ (Value.ref b :: argsL).toArray q B ∧
      Steps p.tables e below (T.setTop g) ((B.U.setTop { g with stack := rest }).pushFrame (.throwing q))) := by
  obtain ⟨mk, methM, hnamed, hmethM, hstM, habM⟩ := Cond.instanceMethod_spec hinst
  obtain ⟨methM', cM, hmethM', -, -, -, -, -, -, hsigM⟩ := Cond.code_spec hnamed hcode
  cases hmethM.symm.trans hmethM'
  obtain ⟨c2, r2, m2, q1, q2, q3, q4, kP, hkP, hkPi⟩ := Cond.selects_spec hsel
  cases hcls.symm.trans q1
  cases (State.methodFound?_of_named hnamed hy).symm.trans q2
  cases hnamed.symm.trans q3
  have hselP : selectMethod e.platform s.vm cellB.cls mk = .method mk := by rw [Launch.admits_selectMethod X.admits]; exact q4
  obtain ⟨vm₁, X₁, hstep₁⟩ := X.invokevirtual hexec hown hlink hnamed hmethM hstM hkP hkPi hy (a := b) (cell := cellB) hcell
    (fun z h => by rw [h] at hobj; cases hobj) hselP hmethM habM hkP hkPi (g := g) hg (argsL := argsL) (rest := rest) (hlen _ hsigM) hstack hdg
  rcases hK m meth c ⟨T.setVm vm₁, locs, cells, slots⟩ { g with stack := rest } (.invokevirtual index) mk (Value.ref b :: argsL).toArray X₁ hg hsize hdg hW (X₁.named hnamed) (hpre vm₁ X₁.warmed) with ⟨v, B, X', hpost, hsteps⟩ | ⟨q, B, X', hpost, hsteps⟩
  · exact Or.inl ⟨v, vm₁, B, X₁.warmed, X', hpost, fun target h => hstep₁ _ fun acts => by rw [doInvoke_state]; exact hsteps.trans h⟩
  · exact Or.inr ⟨q, vm₁, B, X₁.warmed, X', hpost, hstep₁ _ fun acts => by rw [doInvoke_state]; exact hsteps⟩
theorem vx_callS (X : Stand p l e R s m args below meth c T locs cells slots) (hexec : p.tables.exec = Jvm.exec) {own : String} {index : Nat} {y : MethodName} {bytes : ByteArray} {maxL : Nat} {ret : Option FieldType}
    (hown : s.vm.findClass own = some m.cls) (hlink : (Cond.methodLink own index y).before args s = true) (hstat : (Cond.static y).before args s = true) (hinit : (Cond.initialized y.cls).before args s = true)
    (hcode : (Cond.code y bytes maxL ret).before args s = true) (hy : y.cls ≠ "java/lang/invoke/MethodHandle" ∧ y.cls ≠ "java/lang/invoke/VarHandle")
    {W9 : Nat} {Pre : Pt → Array Value → Prop} {Post : Pt → Array Value → Option Value → Pt → Prop} {PostX : Pt → Array Value → Addr → Pt → Prop} (hK : vx_Back l R p e below s args y 3 W9 Pre Post PostX)
    {g : JFrame} (hg : g.method = m) (hsize : g.locals.size = c.maxLocals) {argsL rest : List Value} (hlen : ∀ sig, parseMethodDescriptor y.desc = some sig → argsL.length = sig.parameters.length)
    (hstack : g.stack = argsL.reverse ++ rest) (hW : 2 * g.monitorRoom + (rest.map fun v => v.category).sum ≤ W9) (hdg : decode c.code g.pc = .ok (.invokestatic index, 3))
    (hpre : ∀ vm₁, s.WarmedH vm₁ → Pre ⟨T.setVm vm₁, locs, cells, slots⟩ argsL.toArray) :
    (∃ (v : Option Value) (vm₁ : Vm) (B : Pt), s.WarmedH vm₁ ∧ Stand p l e R s m args below meth c B.U B.locs B.cells B.slots ∧ Post ⟨T.setVm vm₁, locs, cells, slots⟩ argsL.toArray v B ∧
      ∀ target, Steps p.tables e below (B.U.setTop { g with pc := g.pc + 3, stack := v.toList ++ rest }) target → Steps p.tables e below (T.setTop g) target) ∨
    (∃ (q : Addr) (vm₁ : Vm) (B : Pt), s.WarmedH vm₁ ∧ Stand p l e R s m args below meth c B.U B.locs B.cells B.slots ∧ PostX ⟨T.setVm vm₁, locs, cells, slots⟩ argsL.toArray q B ∧
      Steps p.tables e below (T.setTop g) ((B.U.setTop { g with stack := rest }).pushFrame (.throwing q))) := by
  obtain ⟨mk, hnamed⟩ := Cond.code_named hcode
  obtain ⟨methM, cM, hmethM, -, -, -, -, -, -, hsigM⟩ := Cond.code_spec hnamed hcode
  have hstatic : methM.isStatic = true := Cond.static_spec hnamed hmethM hstat
  obtain ⟨kP, hkP, -⟩ := className_of_methodNamed hnamed
  have hinitP : kP.init = .initialized := Cond.initialized_spec (findClass_of_methodNamed hnamed) hkP hinit
  obtain ⟨vm₁, X₁, hstep₁⟩ := X.invokestatic hexec hown hlink hnamed hmethM hstatic hkP hinitP hy (g := g) hg (argsL := argsL) (rest := rest) (hlen _ hsigM) hstack hdg
  rcases hK m meth c ⟨T.setVm vm₁, locs, cells, slots⟩ { g with stack := rest } (.invokestatic index) mk argsL.toArray X₁ hg hsize hdg hW (X₁.named hnamed) (hpre vm₁ X₁.warmed) with ⟨v, B, X', hpost, hsteps⟩ | ⟨q, B, X', hpost, hsteps⟩
  · exact Or.inl ⟨v, vm₁, B, X₁.warmed, X', hpost, fun target h => hstep₁ _ fun acts => by rw [doInvoke_state]; exact hsteps.trans h⟩
  · exact Or.inr ⟨q, vm₁, B, X₁.warmed, X', hpost, hstep₁ _ fun acts => by rw [doInvoke_state]; exact hsteps⟩
end Calls
theorem vx_cls {s : State} {T : State} {vm₁ : Vm} {E : String} {k : ClassId} (hW : s.WarmedH vm₁) (h : (T.setVm vm₁).vm.findClass E = some k) : s.vm.findClass E = some k := by
  have h1 : vm₁.findClass E = some k := h
  rw [hW.alike.findClass] at h1
  exact h1
def vx_W (p : Program) (l : Launch) (e : Env) (R : Room) (s : State) (m : MethodId) (args : Array Value) (below : List Frame) (meth : Method) (c : Code) (H : Heap) (locs : List Loc) (cells slots : Nat) (Q : State → Prop) (g : JFrame) (q : Addr) : Prop :=
  ∀ T : State, T.heap = H → Stand p l e R s m args below meth c T locs cells slots → ∃ t, Steps p.tables e below ((T.setTop g).pushFrame (.throwing q)) t ∧ Q t
def vx_Run (p : Program) (l : Launch) (e : Env) (R : Room) (s : State) (m : MethodId) (args : Array Value) (below : List Frame) (meth : Method) (c : Code) (H : Heap) (locs : List Loc) (cells slots mc ms : Nat) (g : JFrame) (rest : List Value) (Qa : State → Outcome → State → Prop) (XC : String → State → State → Prop) (free : Addr → Prop) : Prop :=
  ∀ T : State, T.heap = H → Stand p l e R s m args below meth c T locs cells slots →
    (∃ (v : Option Value) (st₀ t T' : State) (L : List Loc), st₀.heap = H ∧ Stand p l e R s m args below meth c T' (locs ++ L) (cells + mc) (slots + ms) ∧ (∀ q ∈ L, free q.base) ∧ T'.heap = t.heap ∧ T'.vm = t.vm ∧ Qa st₀ (.returned v) t ∧
      Goes p e below T g T' { g with pc := g.pc + 3, stack := v.toList ++ rest }) ∨
    (∃ (q : Addr) (st₀ t T' : State) (L : List Loc) (E : String) (ce : Cell), st₀.heap = H ∧ Stand p l e R s m args below meth c T' (locs ++ L) (cells + mc) (slots + ms) ∧ (∀ z ∈ L, free z.base) ∧ T'.heap = t.heap ∧ T'.vm = t.vm ∧ XC E st₀ t ∧ t.heap[q]? = some ce ∧ ce.vm = .none ∧ s.vm.findClass E = some ce.cls ∧
      Steps p.tables e below (T.setTop g) ((T'.setTop { g with stack := rest }).pushFrame (.throwing q)))
def vx_X {S : Type} (px : S → Prop) (B : String → S → State → Prop) (A : Nat → Prop) : String → State → State → Prop := fun E st t => ∃ u : S, px u ∧ B E u t ∧ va_F A st t
section Runs
variable {p : Program} {l : Launch} {e : Env} {R : Room} {s : State} {m : MethodId} {args : Array Value} {below : List Frame} {meth : Method} {c : Code} {H : Heap} {locs : List Loc} {cells slots : Nat}
variable {y : MethodName} {bytes cc : ByteArray} {maxL nL mc ms n index : Nat} {ret : Option FieldType} {ws : List Cond} {rm : Room} {Pc : Array Value → State → Prop} {Qc : Array Value → State → Outcome → State → Prop} {XC : String → State → State → Prop} {free : Addr → Prop} {Ts : List Cond} {own C : String} {b : Addr} {As rest : List Value} {g : JFrame}
theorem vx_callBack (cb : CallB R s args own index y bytes maxL ret ws rm mc ms n) (hM : vx_Met l y ws rm Pc Qc XC mc ms free) (hbl : FrameBlind Pc) : vx_Back l R p e below s args y 3 8 (PreOf R mc ms Pc) (PostOf Qc mc ms free) (vx_Post XC mc ms free) := by
  obtain ⟨hrc, hrs, hfr, hlo, hws, hcw, -, hini, -⟩ := cb
  exact vx_back (bytes := bytes) (maxL := maxL) (ret := ret) hM hbl hrc hrs hfr hlo hws hcw (fun a' U hW => word_at hW (Or.inl (by first | rfl | simp [Cond.onTables, Cond.keeps, Cond.steady])) hini)
theorem vx_runV (S : CallFix p m c cc nL s args Ts own) (hM : vx_Met l y ws rm Pc Qc XC mc ms free) (cw : CallW R s args own C index y bytes maxL ret ws rm mc ms n) (hp : PreV s H C b Pc As)
    (hg : g.method = m) (hn : As.length = n) (hsize : g.locals.size = nL) (hstack : g.stack = As.reverse ++ .ref b :: rest) (hW : 2 * g.monitorRoom + (rest.map fun v => v.category).sum ≤ 8) (hdg : decode cc g.pc = .ok (.invokevirtual index, 3)) (hf : cells + mc ≤ R.cells ∧ slots + ms ≤ R.slots) :
    vx_Run p l e R s m args below meth c H locs cells slots mc ms g rest (Qc (Value.ref b :: As).toArray) XC free := by
  have hK : vx_Back l R p e below s args y 3 8 (PreOf R mc ms Pc) (PostOf Qc mc ms free) (vx_Post XC mc ms free) := vx_callBack cw.1 hM hp.1
  obtain ⟨⟨-, -, -, -, -, -, hcode, -, hy, hlen, hl⟩, hin, hse⟩ := cw
  obtain ⟨hx, hb, hml, ho, -⟩ := S
  obtain ⟨-, ⟨cellB, hcB, hoB, hclB⟩, hPc⟩ := hp
  intro T hT X
  rcases vx_callV X hx (C := C) (bytes := bytes) (maxL := maxL) (ret := ret) ho hl hin hse hcode hy hK (by rw [hT]; exact hcB) hoB hclB hg (hsize.trans hml.symm) (argsL := As) (rest := rest) (fun sig h => hn.trans (hlen sig h)) hstack hW (by rw [hb]; exact hdg)
    (fun vm₁ hW₁ => ⟨hf.1, hf.2, hPc (T.setVm vm₁) hT hW₁⟩) with ⟨v, vm₁, ⟨U', l2, c2, s2⟩, hW₁, X', ⟨g', mk, t, L, e1, e2, hq, h1, hL, h2, h3⟩, st⟩ | ⟨q, vm₁, ⟨U', l2, c2, s2⟩, hW₁, X', ⟨g', mk, t, L, E, ce, e1, e2, hq, hce, hcv, hcl, h1, hL, h2, h3⟩, st⟩
  · dsimp only [Pt.U, Pt.locs, Pt.cells, Pt.slots] at X' e1 e2 h1 h2 h3 st
    subst h1; subst h2; subst h3
    exact Or.inl ⟨v, (T.setVm vm₁).calling g' mk (Value.ref b :: As).toArray, t, U', L, hT, X', hL, e1, e2, hq, st⟩
  · dsimp only [Pt.U, Pt.locs, Pt.cells, Pt.slots] at X' e1 e2 h1 h2 h3 st hcl
    subst h1; subst h2; subst h3
    exact Or.inr ⟨q, (T.setVm vm₁).calling g' mk (Value.ref b :: As).toArray, t, U', L, E, ce, hT, X', hL, e1, e2, hq, hce, hcv, vx_cls hW₁ hcl, st⟩
theorem vx_runS (S : CallFix p m c cc nL s args Ts own) (hM : vx_Met l y ws rm Pc Qc XC mc ms free) (cw : CallB R s args own index y bytes maxL ret ws rm mc ms n ∧ (Cond.static y).before args s = true) (hp : PreS s H Pc As)
    (hg : g.method = m) (hn : As.length = n) (hsize : g.locals.size = nL) (hstack : g.stack = As.reverse ++ rest) (hW : 2 * g.monitorRoom + (rest.map fun v => v.category).sum ≤ 8) (hdg : decode cc g.pc = .ok (.invokestatic index, 3)) (hf : cells + mc ≤ R.cells ∧ slots + ms ≤ R.slots) :
    vx_Run p l e R s m args below meth c H locs cells slots mc ms g rest (Qc As.toArray) XC free := by
  have hK : vx_Back l R p e below s args y 3 8 (PreOf R mc ms Pc) (PostOf Qc mc ms free) (vx_Post XC mc ms free) := vx_callBack cw.1 hM hp.1
  obtain ⟨⟨-, -, -, -, -, -, hcode, hini, hy, hlen, hl⟩, hstt⟩ := cw
  obtain ⟨hx, hb, hml, ho, -⟩ := S
  intro T hT X
  rcases vx_callS X hx (bytes := bytes) (maxL := maxL) (ret := ret) ho hl hstt hini hcode hy hK hg (hsize.trans hml.symm) (argsL := As) (rest := rest) (fun sig h => hn.trans (hlen sig h)) hstack hW (by rw [hb]; exact hdg)
    (fun vm₁ hW₁ => ⟨hf.1, hf.2, hp.2 (T.setVm vm₁) hT hW₁⟩) with ⟨v, vm₁, ⟨U', l2, c2, s2⟩, hW₁, X', ⟨g', mk, t, L, e1, e2, hq, h1, hL, h2, h3⟩, st⟩ | ⟨q, vm₁, ⟨U', l2, c2, s2⟩, hW₁, X', ⟨g', mk, t, L, E, ce, e1, e2, hq, hce, hcv, hcl, h1, hL, h2, h3⟩, st⟩
  · dsimp only [Pt.U, Pt.locs, Pt.cells, Pt.slots] at X' e1 e2 h1 h2 h3 st
    subst h1; subst h2; subst h3
    exact Or.inl ⟨v, (T.setVm vm₁).calling g' mk As.toArray, t, U', L, hT, X', hL, e1, e2, hq, st⟩
  · dsimp only [Pt.U, Pt.locs, Pt.cells, Pt.slots] at X' e1 e2 h1 h2 h3 st hcl
    subst h1; subst h2; subst h3
    exact Or.inr ⟨q, (T.setVm vm₁).calling g' mk As.toArray, t, U', L, E, ce, hT, X', hL, e1, e2, hq, hce, hcv, vx_cls hW₁ hcl, st⟩
end Runs
section Rows
variable {p : Program} {l : Launch} {e : Env} {R : Room} {s : State} {m : MethodId} {args : Array Value} {below : List Frame} {meth : Method} {c : Code} {H : Heap} {locs : List Loc} {cells slots : Nat} {Q : State → Prop}
variable {mc ms : Nat} {free : Addr → Prop} {A0 A1 : Nat → Prop} {H0 : Heap} {a : Array Value} {pc : Nat} {ls : Array Slot} {st0 rest : List Value}
theorem vx_keep {st₀ t T' : State} {L : List Loc} (h0 : st₀.heap = H) (e1 : T'.heap = t.heap) (hS : va_S A0 H0 H locs) (hA : ∀ q, q < H.size → A1 q → A0 q) (hf : ∀ q, free q → A0 q) (hL : ∀ q ∈ L, free q.base) (hF : va_F A1 st₀ t) :
    H.size ≤ T'.heap.size ∧ (∀ q : Nat, q < H.size → ¬ A1 q → T'.heap[q]? = H[q]?) ∧ va_S A0 H0 T'.heap (locs ++ L) := by
  obtain ⟨hz, hk⟩ := hF
  rw [h0] at hz hk
  exact ⟨by rw [e1]; exact hz, fun q h1 h2 => by rw [e1]; exact hk q h1 h2,
    ⟨Nat.le_trans hS.1 (by rw [e1]; exact hz), fun q h1 h2 => by rw [e1, hk q (Nat.lt_of_lt_of_le h1 hS.1) (fun z => h2 (hA q (Nat.lt_of_lt_of_le h1 hS.1) z))]; exact hS.2.1 q h1 h2, fun q hq => by
      rcases List.mem_append.mp hq with h | h
      · exact hS.2.2 q h
      · exact hf _ (hL q h)⟩⟩
theorem vx_calli {S SX : Type} {post : Int32 → S → Prop} {px : SX → Prop} {B : S → State → Prop} {BX : String → SX → State → Prop} {AX : Nat → Prop} (hr : vx_Run p l e R s m args below meth c H locs cells slots mc ms (F0 m pc ls st0) rest (va_Qi post B A1 a) (vx_X px BX AX) free) (hS : va_S A0 H0 H locs) (hA : ∀ q, q < H.size → A1 q → A0 q) (hf : ∀ q, free q → A0 q) (hAX : ∀ q, q < H.size → AX q → A0 q)
    (kx : ∀ (E : String) (ce : Cell) (q9 : Addr) (u : SX) (t : State) (H1 : Heap) (locs1 : List Loc), t.heap = H1 → s.vm.Alike t.vm → px u → BX E u t → H.size ≤ H1.size → (∀ q : Nat, q < H.size → ¬ AX q → H1[q]? = H[q]?) → va_S A0 H0 H1 locs1 → H1[q9]? = some ce → ce.vm = .none → s.vm.findClass E = some ce.cls → vx_W p l e R s m args below meth c H1 locs1 (cells + mc) (slots + ms) Q (F0 m pc ls rest) q9)
    (kk : ∀ (r : Int32) (u : S) (t : State) (H1 : Heap) (locs1 : List Loc), t.heap = H1 → s.vm.Alike t.vm → post r u → B u t → H.size ≤ H1.size → (∀ q : Nat, q < H.size → ¬ A1 q → H1[q]? = H[q]?) → va_S A0 H0 H1 locs1 → W p l e R s m args below meth c H1 locs1 (cells + mc) (slots + ms) Q (F0 m (pc + 3) ls (.int r :: rest))) : W p l e R s m args below meth c H locs cells slots Q (F0 m pc ls st0) := by
  intro T hT X
  rcases hr T hT X with ⟨v, st₀, t, T', L, h0, X', hL, e1, e2, ⟨⟨r, u, hv, hp, hb⟩, hF⟩, st⟩ | ⟨q, st₀, t, T', L, E, ce, h0, X', hL, e1, e2, ⟨u, hp, hb, hF⟩, hce, hcv, hcl, st⟩
  · cases hv
    obtain ⟨k1, k2, k3⟩ := vx_keep h0 e1 hS hA hf hL hF
    obtain ⟨t2, a1, b1⟩ := kk r u t T'.heap (locs ++ L) e1.symm (by rw [← e2]; exact X'.warmed.alike) hp hb k1 k2 k3 T' rfl X'
    exact ⟨t2, st t2 a1, b1⟩
  · obtain ⟨k1, k2, k3⟩ := vx_keep h0 e1 hS hAX hf hL hF
    obtain ⟨t2, a1, b1⟩ := kx E ce q u t T'.heap (locs ++ L) e1.symm (by rw [← e2]; exact X'.warmed.alike) hp hb k1 k2 k3 (by rw [e1]; exact hce) hcv hcl T' rfl X'
    exact ⟨t2, st.trans a1, b1⟩
theorem vx_calll {S SX : Type} {post : Int64 → S → Prop} {px : SX → Prop} {B : S → State → Prop} {BX : String → SX → State → Prop} {AX : Nat → Prop} (hr : vx_Run p l e R s m args below meth c H locs cells slots mc ms (F0 m pc ls st0) rest (va_Ql post B A1 a) (vx_X px BX AX) free) (hS : va_S A0 H0 H locs) (hA : ∀ q, q < H.size → A1 q → A0 q) (hf : ∀ q, free q → A0 q) (hAX : ∀ q, q < H.size → AX q → A0 q)
    (kx : ∀ (E : String) (ce : Cell) (q9 : Addr) (u : SX) (t : State) (H1 : Heap) (locs1 : List Loc), t.heap = H1 → s.vm.Alike t.vm → px u → BX E u t → H.size ≤ H1.size → (∀ q : Nat, q < H.size → ¬ AX q → H1[q]? = H[q]?) → va_S A0 H0 H1 locs1 → H1[q9]? = some ce → ce.vm = .none → s.vm.findClass E = some ce.cls → vx_W p l e R s m args below meth c H1 locs1 (cells + mc) (slots + ms) Q (F0 m pc ls rest) q9)
    (kk : ∀ (r : Int64) (u : S) (t : State) (H1 : Heap) (locs1 : List Loc), t.heap = H1 → s.vm.Alike t.vm → post r u → B u t → H.size ≤ H1.size → (∀ q : Nat, q < H.size → ¬ A1 q → H1[q]? = H[q]?) → va_S A0 H0 H1 locs1 → W p l e R s m args below meth c H1 locs1 (cells + mc) (slots + ms) Q (F0 m (pc + 3) ls (.long r :: rest))) : W p l e R s m args below meth c H locs cells slots Q (F0 m pc ls st0) := by
  intro T hT X
  rcases hr T hT X with ⟨v, st₀, t, T', L, h0, X', hL, e1, e2, ⟨⟨r, u, hv, hp, hb⟩, hF⟩, st⟩ | ⟨q, st₀, t, T', L, E, ce, h0, X', hL, e1, e2, ⟨u, hp, hb, hF⟩, hce, hcv, hcl, st⟩
  · cases hv
    obtain ⟨k1, k2, k3⟩ := vx_keep h0 e1 hS hA hf hL hF
    obtain ⟨t2, a1, b1⟩ := kk r u t T'.heap (locs ++ L) e1.symm (by rw [← e2]; exact X'.warmed.alike) hp hb k1 k2 k3 T' rfl X'
    exact ⟨t2, st t2 a1, b1⟩
  · obtain ⟨k1, k2, k3⟩ := vx_keep h0 e1 hS hAX hf hL hF
    obtain ⟨t2, a1, b1⟩ := kx E ce q u t T'.heap (locs ++ L) e1.symm (by rw [← e2]; exact X'.warmed.alike) hp hb k1 k2 k3 (by rw [e1]; exact hce) hcv hcl T' rfl X'
    exact ⟨t2, st.trans a1, b1⟩
theorem vx_callf {S SX : Type} {post : UInt32 → S → Prop} {px : SX → Prop} {B : S → State → Prop} {BX : String → SX → State → Prop} {AX : Nat → Prop} (hr : vx_Run p l e R s m args below meth c H locs cells slots mc ms (F0 m pc ls st0) rest (va_Qf post B A1 a) (vx_X px BX AX) free) (hS : va_S A0 H0 H locs) (hA : ∀ q, q < H.size → A1 q → A0 q) (hf : ∀ q, free q → A0 q) (hAX : ∀ q, q < H.size → AX q → A0 q)
    (kx : ∀ (E : String) (ce : Cell) (q9 : Addr) (u : SX) (t : State) (H1 : Heap) (locs1 : List Loc), t.heap = H1 → s.vm.Alike t.vm → px u → BX E u t → H.size ≤ H1.size → (∀ q : Nat, q < H.size → ¬ AX q → H1[q]? = H[q]?) → va_S A0 H0 H1 locs1 → H1[q9]? = some ce → ce.vm = .none → s.vm.findClass E = some ce.cls → vx_W p l e R s m args below meth c H1 locs1 (cells + mc) (slots + ms) Q (F0 m pc ls rest) q9)
    (kk : ∀ (r : UInt32) (u : S) (t : State) (H1 : Heap) (locs1 : List Loc), t.heap = H1 → s.vm.Alike t.vm → post r u → B u t → H.size ≤ H1.size → (∀ q : Nat, q < H.size → ¬ A1 q → H1[q]? = H[q]?) → va_S A0 H0 H1 locs1 → W p l e R s m args below meth c H1 locs1 (cells + mc) (slots + ms) Q (F0 m (pc + 3) ls (.float r :: rest))) : W p l e R s m args below meth c H locs cells slots Q (F0 m pc ls st0) := by
  intro T hT X
  rcases hr T hT X with ⟨v, st₀, t, T', L, h0, X', hL, e1, e2, ⟨⟨r, u, hv, hp, hb⟩, hF⟩, st⟩ | ⟨q, st₀, t, T', L, E, ce, h0, X', hL, e1, e2, ⟨u, hp, hb, hF⟩, hce, hcv, hcl, st⟩
  · cases hv
    obtain ⟨k1, k2, k3⟩ := vx_keep h0 e1 hS hA hf hL hF
    obtain ⟨t2, a1, b1⟩ := kk r u t T'.heap (locs ++ L) e1.symm (by rw [← e2]; exact X'.warmed.alike) hp hb k1 k2 k3 T' rfl X'
    exact ⟨t2, st t2 a1, b1⟩
  · obtain ⟨k1, k2, k3⟩ := vx_keep h0 e1 hS hAX hf hL hF
    obtain ⟨t2, a1, b1⟩ := kx E ce q u t T'.heap (locs ++ L) e1.symm (by rw [← e2]; exact X'.warmed.alike) hp hb k1 k2 k3 (by rw [e1]; exact hce) hcv hcl T' rfl X'
    exact ⟨t2, st.trans a1, b1⟩
theorem vx_calld {S SX : Type} {post : UInt64 → S → Prop} {px : SX → Prop} {B : S → State → Prop} {BX : String → SX → State → Prop} {AX : Nat → Prop} (hr : vx_Run p l e R s m args below meth c H locs cells slots mc ms (F0 m pc ls st0) rest (va_Qd post B A1 a) (vx_X px BX AX) free) (hS : va_S A0 H0 H locs) (hA : ∀ q, q < H.size → A1 q → A0 q) (hf : ∀ q, free q → A0 q) (hAX : ∀ q, q < H.size → AX q → A0 q)
    (kx : ∀ (E : String) (ce : Cell) (q9 : Addr) (u : SX) (t : State) (H1 : Heap) (locs1 : List Loc), t.heap = H1 → s.vm.Alike t.vm → px u → BX E u t → H.size ≤ H1.size → (∀ q : Nat, q < H.size → ¬ AX q → H1[q]? = H[q]?) → va_S A0 H0 H1 locs1 → H1[q9]? = some ce → ce.vm = .none → s.vm.findClass E = some ce.cls → vx_W p l e R s m args below meth c H1 locs1 (cells + mc) (slots + ms) Q (F0 m pc ls rest) q9)
    (kk : ∀ (r : UInt64) (u : S) (t : State) (H1 : Heap) (locs1 : List Loc), t.heap = H1 → s.vm.Alike t.vm → post r u → B u t → H.size ≤ H1.size → (∀ q : Nat, q < H.size → ¬ A1 q → H1[q]? = H[q]?) → va_S A0 H0 H1 locs1 → W p l e R s m args below meth c H1 locs1 (cells + mc) (slots + ms) Q (F0 m (pc + 3) ls (.double r :: rest))) : W p l e R s m args below meth c H locs cells slots Q (F0 m pc ls st0) := by
  intro T hT X
  rcases hr T hT X with ⟨v, st₀, t, T', L, h0, X', hL, e1, e2, ⟨⟨r, u, hv, hp, hb⟩, hF⟩, st⟩ | ⟨q, st₀, t, T', L, E, ce, h0, X', hL, e1, e2, ⟨u, hp, hb, hF⟩, hce, hcv, hcl, st⟩
  · cases hv
    obtain ⟨k1, k2, k3⟩ := vx_keep h0 e1 hS hA hf hL hF
    obtain ⟨t2, a1, b1⟩ := kk r u t T'.heap (locs ++ L) e1.symm (by rw [← e2]; exact X'.warmed.alike) hp hb k1 k2 k3 T' rfl X'
    exact ⟨t2, st t2 a1, b1⟩
  · obtain ⟨k1, k2, k3⟩ := vx_keep h0 e1 hS hAX hf hL hF
    obtain ⟨t2, a1, b1⟩ := kx E ce q u t T'.heap (locs ++ L) e1.symm (by rw [← e2]; exact X'.warmed.alike) hp hb k1 k2 k3 (by rw [e1]; exact hce) hcv hcl T' rfl X'
    exact ⟨t2, st.trans a1, b1⟩
theorem vx_callv {S SX : Type} {post : S → Prop} {px : SX → Prop} {B : S → State → Prop} {BX : String → SX → State → Prop} {AX : Nat → Prop} (hr : vx_Run p l e R s m args below meth c H locs cells slots mc ms (F0 m pc ls st0) rest (va_Qv post B A1 a) (vx_X px BX AX) free) (hS : va_S A0 H0 H locs) (hA : ∀ q, q < H.size → A1 q → A0 q) (hf : ∀ q, free q → A0 q) (hAX : ∀ q, q < H.size → AX q → A0 q)
    (kx : ∀ (E : String) (ce : Cell) (q9 : Addr) (u : SX) (t : State) (H1 : Heap) (locs1 : List Loc), t.heap = H1 → s.vm.Alike t.vm → px u → BX E u t → H.size ≤ H1.size → (∀ q : Nat, q < H.size → ¬ AX q → H1[q]? = H[q]?) → va_S A0 H0 H1 locs1 → H1[q9]? = some ce → ce.vm = .none → s.vm.findClass E = some ce.cls → vx_W p l e R s m args below meth c H1 locs1 (cells + mc) (slots + ms) Q (F0 m pc ls rest) q9)
    (kk : ∀ (u : S) (t : State) (H1 : Heap) (locs1 : List Loc), t.heap = H1 → s.vm.Alike t.vm → post u → B u t → H.size ≤ H1.size → (∀ q : Nat, q < H.size → ¬ A1 q → H1[q]? = H[q]?) → va_S A0 H0 H1 locs1 → W p l e R s m args below meth c H1 locs1 (cells + mc) (slots + ms) Q (F0 m (pc + 3) ls (rest))) : W p l e R s m args below meth c H locs cells slots Q (F0 m pc ls st0) := by
  intro T hT X
  rcases hr T hT X with ⟨v, st₀, t, T', L, h0, X', hL, e1, e2, ⟨⟨u, hv, hp, hb⟩, hF⟩, st⟩ | ⟨q, st₀, t, T', L, E, ce, h0, X', hL, e1, e2, ⟨u, hp, hb, hF⟩, hce, hcv, hcl, st⟩
  · cases hv
    obtain ⟨k1, k2, k3⟩ := vx_keep h0 e1 hS hA hf hL hF
    obtain ⟨t2, a1, b1⟩ := kk u t T'.heap (locs ++ L) e1.symm (by rw [← e2]; exact X'.warmed.alike) hp hb k1 k2 k3 T' rfl X'
    exact ⟨t2, st t2 a1, b1⟩
  · obtain ⟨k1, k2, k3⟩ := vx_keep h0 e1 hS hAX hf hL hF
    obtain ⟨t2, a1, b1⟩ := kx E ce q u t T'.heap (locs ++ L) e1.symm (by rw [← e2]; exact X'.warmed.alike) hp hb k1 k2 k3 (by rw [e1]; exact hce) hcv hcl T' rfl X'
    exact ⟨t2, st.trans a1, b1⟩
theorem vx_catch {own name : String} {E : String} {ce : Cell} {q : Addr} (hown : s.vm.findClass own = some m.cls) (pre : List ExceptionTableEntry) (x : ExceptionTableEntry) (suf : List ExceptionTableEntry) (hsplit : c.exceptionTable.toList = pre ++ x :: suf)
    (hpass : ∀ z ∈ pre, covers z pc = false ∨ (z.catchType ≠ 0 ∧ ∃ nm : String, (Cond.classLink own z.catchType nm).before args s = true ∧ va_Nc E nm s)) (hx : covers x pc = true) (h0 : x.catchType ≠ 0)
    (hlink : (Cond.classLink own x.catchType name).before args s = true) (hcast : (Cond.castable E name).before args s = true) (hcell : H[q]? = some ce) (hv : ce.vm = .none) (hcl : s.vm.findClass E = some ce.cls)
    (kk : W p l e R s m args below meth c H locs cells slots Q (F0 m x.handlerPc ls [.ref q])) : vx_W p l e R s m args below meth c H locs cells slots Q (F0 m pc ls rest) q := by
  intro T hT X
  have hpl : e.platform.magicAccessors = ({} : Platform).magicAccessors := by rw [X.admits.platform]
  obtain ⟨c3, c4, hc3, hc4, hasg⟩ := Cond.castable_spec hcast
  cases Option.some.inj (hc3.symm.trans hcl)
  obtain ⟨c5, hc5, hcl5⟩ := Cond.classLink_spec hown hlink e.platform hpl
  cases Option.some.inj (hc4.symm.trans hc5)
  obtain ⟨vm', X', st⟩ := X.thenCaughtThrough q (g := F0 m pc ls rest) rfl (Steps.refl _) (by rw [hT]; exact hcell) (by rw [hv]; rfl) (by obtain ⟨k9, h9, -⟩ := Vm.findClass_spec hcl; exact ⟨k9, h9⟩) pre x suf hsplit
    (fun z hz => by
      rcases hpass z hz with h | ⟨hz0, nm, hl1, hn1⟩
      · exact Or.inl h
      · obtain ⟨c6, hc6, hcl6⟩ := Cond.classLink_spec hown hl1 e.platform hpl
        obtain ⟨a8, b8, h1, h2, h3⟩ := hn1
        cases Option.some.inj (h1.symm.trans hcl)
        cases Option.some.inj (h2.symm.trans hc6)
        exact Or.inr ⟨hz0, _, hcl6, h3⟩) hx (Or.inr ⟨h0, c4, hcl5, hasg⟩)
  obtain ⟨t, a1, b1⟩ := kk (T.setVm vm') hT X'
  exact ⟨t, st.trans a1, b1⟩
end Rows
section Ends
variable {p : Program} {l : Launch} {e : Env} {R : Room} {s : State} {m : MethodId} {args : Array Value} {below : List Frame} {meth : Method} {c : Code} {H : Heap} {locs : List Loc} {cells slots : Nat} {Q : State → Prop}
variable {mc ms : Nat} {free : Addr → Prop} {A0 A1 : Nat → Prop} {H0 : Heap} {a : Array Value} {ls : Array Slot} {st0 rest : List Value}
variable {Qc : Array Value → State → Outcome → State → Prop} {XC : String → State → State → Prop}
def vx_MQ (below : List Frame) (Qc : Array Value → State → Outcome → State → Prop) (XC : String → State → State → Prop) (a : Array Value) (s : State) (mc ms : Nat) (free : Addr → Prop) : State → Prop := fun t =>
  ∃ o, t.status = .running ∧ Ended t below o ∧ vx_Q Qc XC mc ms free a s o t
theorem vx_ret {g : JFrame} {mc ms : Nat} (k : W p l e R s m args below meth c H locs cells slots (MQ below Qc args s mc ms free) g) : W p l e R s m args below meth c H locs cells slots (vx_MQ below Qc XC args s mc ms free) g := by
  intro T hT X
  obtain ⟨t, a1, o, b1, b2, b3, b4⟩ := k T hT X
  exact ⟨t, a1, o, b1, b2, Or.inl ⟨b3, b4⟩⟩
theorem vx_widen {g : JFrame} {q : Addr} {k n : Nat} (h1 : cells ≤ k) (h2 : slots ≤ n) (kk : vx_W p l e R s m args below meth c H locs k n Q g q) : vx_W p l e R s m args below meth c H locs cells slots Q g q := fun T hT X => kk T hT (stand_widen X h1 h2)
theorem vx_out {pc : Nat} {E : String} {ce : Cell} {q : Addr} {mc ms : Nat} (hout : ∀ x ∈ c.exceptionTable.toList, covers x pc = false) (hlocks : meth.locks = false) (hcell : H[q]? = some ce) (hv : ce.vm = .none) (hcl : s.vm.findClass E = some ce.cls)
    (hx : ∀ t : State, t.heap = H → s.vm.Alike t.vm → XC E s t) (hf : ∀ z ∈ locs, free z.base) (hc : cells ≤ mc) (hs : slots ≤ ms) :
    vx_W p l e R s m args below meth c H locs cells slots (vx_MQ below Qc XC args s mc ms free) (F0 m pc ls rest) q := by
  intro T hT X
  obtain ⟨st1, hrun, hend, hW, hsm⟩ := X.leaveThrown q (g := F0 m pc ls rest) rfl rfl rfl hout hlocks
  have hcell9 : (T.setFrames (.throwing q :: below)).heap[q]? = some ce := by
    show T.heap[q]? = some ce
    rw [hT]; exact hcell
  exact ⟨_, st1, .threw q, hrun, hend, Or.inr ⟨q, rfl, E, ce, locs, hx _ hT hW.alike, hcell9, hv, hcl, hW, hsm.mono hc hs, hf⟩⟩
theorem vx_frame {U : State} {k n : Nat} (h : s.sameButNew ({ U with vm := s.vm } : State) locs k n) : s.heap.size ≤ U.heap.size ∧ ∀ q : Nat, q < s.heap.size → (∀ z ∈ locs, z.base ≠ q) → U.heap[q]? = s.heap[q]? := by
  obtain ⟨-, h2, -, -, -, h6⟩ := h
  refine ⟨h2, fun q hq hz => ?_⟩
  obtain ⟨c9, e1, e2, e3, e4⟩ := h6 q _ (Array.getElem?_eq_getElem hq)
  have hs : c9.slots = (s.heap[q]).slots := Array.ext_getElem? fun i => e4 i fun hm => hz _ hm rfl
  have h9 : c9 = s.heap[q] := by
    rw [hs] at e2
    exact e2
  have e5 : U.heap[q]? = some c9 := e1
  rw [e5, h9, Array.getElem?_eq_getElem hq]
def vx_no (w : Cond) : Bool := decide (w ≠ .isRef (.static Bundle.tN "UNASSIGNED_STACK" Bundle.steD)) && decide (w ≠ .isRef (.static Bundle.tN "SUPPRESSED_SENTINEL" Bundle.listD)) && decide (w ≠ .laysStatic Bundle.tN "UNASSIGNED_STACK" Bundle.steD) && decide (w ≠ .laysStatic Bundle.tN "SUPPRESSED_SENTINEL" Bundle.listD)
def vx_at0 (own : String) (ic : Nat) (X : String) (names : List String) : List Cond := (Bundle.ownAtoms0 own ic X names).filter vx_no
def vx_atS (own : String) (ic : Nat) (X : String) (names : List String) : List Cond := (Bundle.ownAtoms own ic X names).filter vx_no
def vx_ot (w : Cond) : Bool := w.onTables || goodWord w
theorem vx_ot_at {args a' : Array Value} {s U : State} {w : Cond} (hW : s.WarmedH U.vm) (hvm : s.vm = U.vm) (hg : vx_ot w = true) (h : w.before args s = true) : w.before a' U = true := by
  simp only [vx_ot, Bool.or_eq_true] at hg
  rcases hg with hg | hg
  · exact va_tabs hg hvm h
  · exact word_at hW (good_of_word hg) h
theorem vx_hat {args : Array Value} {s : State} {L B : List Cond} (h1 : ∀ w ∈ L.filter goodWord, w.before args s = true) (h2 : ∀ w ∈ L.filter (fun w => !goodWord w), w ∈ B) (h3 : ∀ w ∈ B, w.before args s = true) : ∀ w ∈ L, w.before args s = true := by
  intro w hw
  by_cases g : goodWord w = true
  · exact h1 w (List.mem_filter.mpr ⟨hw, g⟩)
  · refine h3 w (h2 w (List.mem_filter.mpr ⟨hw, ?_⟩))
    show (!goodWord w) = true
    cases hgw : goodWord w
    · rfl
    · exact absurd hgw g
theorem vx_c {args : Array Value} {s : State} {w : Cond} {B : List Cond} (h : w.before args s = true) (t : ∀ w ∈ B, w.before args s = true) : ∀ w' ∈ w :: B, w'.before args s = true := fun w' h' => (List.mem_cons.mp h').elim (fun e => by rw [e]; exact h) (t w')
theorem vx_n {args : Array Value} {s : State} : ∀ w ∈ ([] : List Cond), w.before args s = true := fun _ h => nomatch h
theorem vx_own {args : Array Value} {s : State} {L : List Cond} (h1 : ∀ w ∈ L.filter vx_no, w.before args s = true)
    (hU : (Cond.isRef (.static Bundle.tN "UNASSIGNED_STACK" Bundle.steD)).before args s = true) (hN : (Cond.isRef (.static Bundle.tN "SUPPRESSED_SENTINEL" Bundle.listD)).before args s = true)
    (lU : (Cond.laysStatic Bundle.tN "UNASSIGNED_STACK" Bundle.steD).before args s = true) (lN : (Cond.laysStatic Bundle.tN "SUPPRESSED_SENTINEL" Bundle.listD).before args s = true) : ∀ w ∈ L, w.before args s = true := by
  intro w hw
  by_cases e1 : w = .isRef (.static Bundle.tN "UNASSIGNED_STACK" Bundle.steD)
  · rw [e1]; exact hU
  · by_cases e2 : w = .isRef (.static Bundle.tN "SUPPRESSED_SENTINEL" Bundle.listD)
    · rw [e2]; exact hN
    · by_cases e3 : w = .laysStatic Bundle.tN "UNASSIGNED_STACK" Bundle.steD
      · rw [e3]; exact lU
      · by_cases e4 : w = .laysStatic Bundle.tN "SUPPRESSED_SENTINEL" Bundle.listD
        · rw [e4]; exact lN
        · exact h1 w (List.mem_filter.mpr ⟨hw, by unfold vx_no; rw [decide_eq_true e1, decide_eq_true e2, decide_eq_true e3, decide_eq_true e4]; rfl⟩)
def vx_L (C n d : String) (A : Nat → Prop) (U : State) (H : Heap) : Prop := ∃ (c : ClassId) (k : Class) (i : Nat) (f : Field) (a : Nat) (cell : Cell), U.vm.findClass C = some c ∧ U.fieldFound? C n d = some (c, k, i, f) ∧ f.isStatic = true ∧ k.statics = some a ∧ H[a]? = some cell ∧ cell.vm.isStatics = true ∧ cell.cls = c ∧ f.slot < cell.slots.size ∧ k.staticTypes[f.slot]? = some f.type ∧ ¬ A a
theorem vx_L.moved {C n d : String} {A : Nat → Prop} {u U : State} {H : Heap} (hvm : u.vm.Alike U.vm) (h : vx_L C n d A u H) : vx_L C n d A U H := by
  obtain ⟨c, k, i, f, a, cell, h1, h2, h3, h4, h5, h6, h7, h8, h9, h10⟩ := h
  obtain ⟨k', hi', he⟩ := State.fieldFound?_setVm hvm h2
  exact ⟨c, k', i, f, a, cell, by rw [hvm.findClass]; exact h1, hi', h3, by rw [he]; exact h4, h5, h6, h7, h8, by rw [he]; exact h9, h10⟩
theorem vx_L.kept {C n d : String} {A : Nat → Prop} {U : State} {H H1 : Heap} (h : vx_L C n d A U H) (hq : ∀ a : Nat, a < H.size → ¬ A a → H1[a]? = H[a]?) : vx_L C n d A U H1 := by
  obtain ⟨c, k, i, f, a, cell, h1, h2, h3, h4, h5, h6, h7, h8, h9, h10⟩ := h
  exact ⟨c, k, i, f, a, cell, h1, h2, h3, h4, by rw [hq a (Array.getElem?_eq_some_iff.mp h5).1 h10]; exact h5, h6, h7, h8, h9, h10⟩
theorem vx_L.narrow {C n d : String} {A B : Nat → Prop} {U : State} {H : Heap} (h : vx_L C n d A U H) (hAB : ∀ q, B q → A q) : vx_L C n d B U H := by
  obtain ⟨c, k, i, f, a, cell, h1, h2, h3, h4, h5, h6, h7, h8, h9, h10⟩ := h
  exact ⟨c, k, i, f, a, cell, h1, h2, h3, h4, h5, h6, h7, h8, h9, fun z => h10 (hAB _ z)⟩
theorem vx_L.word {C n d : String} {A : Nat → Prop} {s : State} {args : Array Value} (h : vx_L C n d A s s.heap) : (Cond.laysStatic C n d).before args s = true := by
  obtain ⟨c, k, i, f, a, cell, h1, h2, h3, h4, h5, h6, h7, h8, h9, -⟩ := h
  show (Cond.laysStatic C n d).holds args s none s [] = true
  exact Cond.laysStatic_of h1 h2 h3 h4 h5 h6 h7 h8 h9
def vx_Zq (C n d : String) (A : Nat → Prop) (U : State) (H : Heap) : Prop := va_Zq C n d A U H ∧ vx_L C n d A U H
theorem vx_Zq.moved {C n d : String} {A : Nat → Prop} {u U : State} {H : Heap} (hvm : u.vm.Alike U.vm) (h : vx_Zq C n d A u H) : vx_Zq C n d A U H := ⟨va_Zq.moved hvm h.1, vx_L.moved hvm h.2⟩
theorem vx_Zq.kept {C n d : String} {A : Nat → Prop} {U : State} {H H1 : Heap} (h : vx_Zq C n d A U H) (hq : ∀ a : Nat, a < H.size → ¬ A a → H1[a]? = H[a]?) : vx_Zq C n d A U H1 := ⟨va_Zq.kept h.1 hq, vx_L.kept h.2 hq⟩
theorem vx_Zq.narrow {C n d : String} {A B : Nat → Prop} {U : State} {H : Heap} (h : vx_Zq C n d A U H) (hAB : ∀ q, B q → A q) : vx_Zq C n d B U H := ⟨va_Zq.narrow h.1 hAB, vx_L.narrow h.2 hAB⟩
theorem vx_Zqof {args : Array Value} {s : State} {C n d : String} {A : Nat → Prop} (hl : (Cond.laysStatic C n d).before args s = true) (hini : (Cond.initialized C).before args s = true) (h : (Cond.isRef (.static C n d)).before args s = true) (hA : ∀ a : Nat, a < s.heap.size → ¬ A a) : vx_Zq C n d A s s.heap := by
  refine ⟨va_Zqof hl hini h hA, ?_⟩
  obtain ⟨c, k, i, f, a, cell, h1, h2, h3, h4, h5, h6, h7, h8, h9⟩ := Cond.laysStatic_spec hl
  exact ⟨c, k, i, f, a, cell, h1, h2, h3, h4, h5, h6, h7, h8, h9, hA a (Array.getElem?_eq_some_iff.mp h5).1⟩
theorem vx_isRef {C n d : String} {v : Value} {A : Nat → Prop} {s : State} {args : Array Value} (h : va_Z C n d v A s s.heap) (hv : v.isRef = true) : (Cond.isRef (.static C n d)).before args s = true := by
  obtain ⟨cf, kf, fi, f, a, cell, h1, h2, h3, h4, h5, h6, h7, -⟩ := h
  have he : (Term.static C n d).eval args s none [] s = some v := by
    simp [Term.eval, State.fieldNamed?, h1, h2, h4, h5, h6, h7]
  simp only [Cond.before, Cond.holds, Cond.value, he]
  cases v <;> simp_all [Value.isRef]
theorem vx_isRefq {C n d : String} {A : Nat → Prop} {s : State} {args : Array Value} (h : va_Zq C n d A s s.heap) : (Cond.isRef (.static C n d)).before args s = true := by
  rcases h with h | ⟨t, h⟩
  · exact vx_isRef h rfl
  · exact vx_isRef h rfl
theorem vx_rebase {T : State} (X : Stand p l e R s m args below meth c T locs cells slots) {R' : Room} (hf : R'.frames ≤ R.frames) (hl : R'.locals ≤ R.locals) (hc : cells + R'.cells ≤ R.cells) (hs : slots + R'.slots ≤ R.slots) :
    Stand p l e R' ((T.setVm s.vm).setFrames (.invoking m args :: below)) m args below meth c T [] 0 0 := by
  have htop : (T.setVm s.vm).topJava?.isSome := X.here.top
  have hF : ((T.setVm s.vm).setFrames (.invoking m args :: below)).frames = .invoking m args :: below := State.frames_setFrames _ (State.cur_lt_of_top htop)
  obtain ⟨g₀, hg0⟩ := Option.isSome_iff_exists.mp htop
  obtain ⟨r, hr⟩ := State.topJava?_eq_some.mp hg0
  have hl9 : e.platform.stackLimits (T.setVm s.vm).me = e.platform.stackLimits s.me := X.limits
  have hb9 : (T.setVm s.vm).me.stackBytes = s.me.stackBytes := X.bytes
  refine ⟨X.admits, X.cas, X.clock, hF, ?_, X.hears, X.method, X.code, X.here, X.tail, X.warmed, ?_, ?_, ?_⟩
  · have h := X.room
    have hU : ((T.setVm s.vm).setFrames (.invoking m args :: below)).localsInUse = s.localsInUse := by
      rw [State.localsInUse_invoking hF (meth := meth) (c := c) X.method X.code, State.localsInUse_invoking X.frames X.method X.code]
    simp only [State.hasRoom, Bool.and_eq_true, decide_eq_true_eq] at h ⊢
    obtain ⟨⟨⟨⟨h1, h2, h3, h4, h5, h6⟩, h7⟩, h8⟩, h9⟩ := h
    rw [X.frames, List.length_cons] at h2 h3
    have q1 := X.heapSize
    have q2 := X.used
    simp only [hF, hU, List.length_cons, State.stackLimits_setFrames, State.stackBytes_setFrames, hl9, hb9]
    refine ⟨⟨⟨⟨by omega, by omega, by omega, by omega, by omega, h6⟩, ?_⟩, ?_⟩, X.book⟩
    · show T.heap.size + R'.cells ≤ e.platform.maxCells
      omega
    · show T.slotsUsed + R'.slots ≤ e.platform.maxSlots
      omega
  · rw [State.stackLimits_setFrames]; rfl
  · rw [State.stackBytes_setFrames]; rfl
  · refine ⟨?_, Nat.le_refl _, Nat.le_refl _, ?_, ?_, fun a c9 h9 => ⟨c9, h9, rfl, rfl, fun _ _ => rfl⟩⟩
    · obtain ⟨t, ht, -⟩ := State.frames_cons hr
      show T.setVm s.vm = { ((T.setVm s.vm).setFrames (.invoking m args :: below)).setFrames (T.setVm s.vm).frames with heap := T.heap, slotsUsed := T.slotsUsed }
      rw [State.setFrames_setFrames, State.setFrames_self ht]
      rfl
    · show T.slotsUsed = T.slotsUsed + ((T.heap.toList.drop T.heap.size).map (·.slots.size)).sum
      rw [List.drop_eq_nil_of_le (Nat.le_of_eq Array.length_toList)]
      rfl
    · show ((T.heap.toList.drop T.heap.size).map (·.slots.size)).sum ≤ 0
      rw [List.drop_eq_nil_of_le (Nat.le_of_eq Array.length_toList)]
      exact Nat.le_refl _
theorem vx_throw0 {cc : ByteArray} {pc : Nat} (hexec : p.tables.exec = Jvm.exec) (hb : c.code = cc) (hl : l.stackTraces = false) {own cls : String} {names : List String} {ik ic mc ms : Nat} {A : Nat → Prop}
    (hown : s.vm.findClass own = some m.cls) (hcls : Bundle.fit cls = true) (hnames : ∀ n ∈ names, Bundle.fit n = true)
    (hk : (Cond.classLink own ik cls).before args s = true) (hini : (Cond.initialized cls).before args s = true) (hat : ∀ w ∈ vx_at0 own ic cls names, w.before args s = true)
    (hgood : ∀ w ∈ Cond.classLink own ik cls :: Cond.initialized cls :: vx_at0 own ic cls names, vx_ot w = true)
    (hU : vx_Zq Bundle.tN "UNASSIGNED_STACK" Bundle.steD A s s.heap) (hN : vx_Zq Bundle.tN "SUPPRESSED_SENTINEL" Bundle.listD A s s.heap) (hS : va_S A s.heap H locs) (hsize : ls.size = c.maxLocals)
    (d0 : decode cc pc = .ok (.new ik, 3)) (d3 : decode cc (pc + 3) = .ok (.dup, 1)) (d4 : decode cc (pc + 4) = .ok (.invokespecial ic, 3)) (d7 : decode cc (pc + 7) = .ok (.athrow, 1))
    (hout : ∀ x ∈ c.exceptionTable.toList, covers x (pc + 7) = false)
    (hRframes : names.length + 3 < R.frames) (hRlocals : (rest.map fun v => v.category).sum + (13 * (names.length + 1) + 42) ≤ R.locals) (hRcells : cells + 1 ≤ R.cells) (hRslots : slots + 6 ≤ R.slots) (hlocks : meth.locks = false)
    (hx : ∀ t : State, s.vm.Alike t.vm → H.size ≤ t.heap.size → (∀ q : Nat, q < H.size → t.heap[q]? = H[q]?) → XC cls s t)
    (hf : ∀ z ∈ locs, free z.base) (hc : cells + 1 ≤ mc) (hs : slots + 6 ≤ ms) :
    W p l e R s m args below meth c H locs cells slots (vx_MQ below Qc XC args s mc ms free) (F0 m pc ls rest) := by
  intro T hT X
  have htr : e.platform.stackTraces = false := (show e.platform.stackTraces = l.stackTraces by rw [X.admits.platform]).trans hl
  have Y := vx_rebase X (R' := { frames := R.frames, locals := R.locals, cells := 1, slots := 6 }) (Nat.le_refl _) (Nat.le_refl _) hRcells hRslots
  obtain ⟨s', hA⟩ : ∃ z, z = (T.setVm s.vm).setFrames (.invoking m args :: below) := ⟨_, rfl⟩
  rw [← hA] at Y
  have hvm : s'.vm = s.vm := by rw [hA]; rfl
  have hhp : s'.heap = H := by rw [hA]; exact hT
  have hW0 : s.WarmedH s'.vm := by rw [hvm]; exact State.WarmedH.refl s
  have hat' : ∀ w ∈ vx_at0 own ic cls names, w.before args s' = true := fun w hw => vx_ot_at hW0 hvm.symm (hgood w (List.mem_cons_of_mem _ (List.mem_cons_of_mem _ hw))) (hat w hw)
  have hk' : (Cond.classLink own ik cls).before args s' = true := vx_ot_at hW0 hvm.symm (hgood _ List.mem_cons_self) hk
  have hini' : (Cond.initialized cls).before args s' = true := vx_ot_at hW0 hvm.symm (hgood _ (List.mem_cons_of_mem _ List.mem_cons_self)) hini
  have hU' : vx_Zq Bundle.tN "UNASSIGNED_STACK" Bundle.steD A s' s'.heap := by rw [hhp]; exact vx_Zq.moved hW0.alike (hU.kept hS.2.1)
  have hN' : vx_Zq Bundle.tN "SUPPRESSED_SENTINEL" Bundle.listD A s' s'.heap := by rw [hhp]; exact vx_Zq.moved hW0.alike (hN.kept hS.2.1)
  have h : ∀ w ∈ Bundle.ownAtoms0 own ic cls names, w.before args s' = true := vx_own hat' (vx_isRefq hU'.1) (vx_isRefq hN'.1) hU'.2.word hN'.2.word
  have hown' : s'.vm.findClass own = some m.cls := by rw [hvm]; exact hown
  have hins : (Cond.instantiable cls 6).before args s' = true := h _ (by simp [Bundle.ownAtoms0])
  obtain ⟨vm₁, cX, kX, hfX, hkX, -, -, X₁, st1⟩ := Y.newCold hexec (own := own) (C := cls) (index := ik) (n := 6) hown' hk' hins hini'
    (g := F0 m pc ls rest) rfl (by rw [hb]; exact d0) (Nat.le_refl _) (Nat.le_refl _)
  generalize hT1 : (T.setVm vm₁).pushCell { cls := cX, slots := kX.instanceTypes.map defaultValue, vm := .none } = T1 at X₁ st1
  have hcat : (Value.ref T.heap.size).category = 1 := rfl
  have hcellA : T1.heap[T.heap.size]? = some (freshCell cX kX) := by rw [← hT1]; exact State.heap_pushCell_size _ _
  have d3' : decode c.code (pc + 3) = .ok (.dup, 1) := by rw [hb]; exact d3
  obtain ⟨U, hsteps, hrun, hend, hW, hsame, ce, hce, hO⟩ := X₁.ctorThrow0 hexec htr (own := own) (cls := cls) (names := names) (ic := ic) hown' hcls hnames h (fun x hx => nomatch hx) hfX hkX hcellA (by rw [hhp, hT]; exact Nat.le_refl _)
    (g := { method := m, pc := pc + 4, locals := ls, stack := .ref T.heap.size :: .ref T.heap.size :: rest, locked := none }) rfl hsize rfl rfl (rest := rest) rfl
    (by rw [hb]; exact d4) (by rw [hb]; exact d7) hout hRframes (by simp only [List.map_cons, List.sum_cons, hcat]; omega) hlocks
  obtain ⟨f1, f2⟩ := vx_frame hsame
  rw [hhp] at f1 f2
  have hWs : s.WarmedH U.vm := State.WarmedH.trans hW0 hW
  have hcl : s.vm.findClass cls = some ce.cls := by
    have h9 := hO.cls
    rw [hvm] at h9
    exact h9
  have hall : s.sameButNew ({ U with vm := s.vm } : State) locs mc ms := by
    subst hA
    obtain ⟨e1, e2⟩ := hsame
    rw [State.setFrames_setFrames] at e1
    have h2 : (T.setVm s.vm).sameButNew ({ U with vm := s.vm } : State) [] (0 + 1) (0 + 6) := ⟨e1, e2⟩
    have h3 := X.same.trans h2
    rw [List.append_nil] at h3
    exact h3.mono hc hs
  refine ⟨U, ?_, .threw T.heap.size, hrun, hend, Or.inr ⟨T.heap.size, rfl, cls, ce, locs, hx U hWs.alike f1 (fun q hq => f2 q hq (fun z hz => nomatch hz)), hce, hO.vm, hcl, hWs, hall, hf⟩⟩
  refine st1 _ ?_
  show Steps p.tables e below (T1.setTop { method := m, pc := pc + 3, locals := ls, stack := .ref T.heap.size :: rest, locked := none }) _
  jvm_step X₁.here [X₁.here.top, hexec, d3', Value.category]
  exact hsteps
theorem vx_throwS {cc : ByteArray} {pc : Nat} (hexec : p.tables.exec = Jvm.exec) (hb : c.code = cc) (hl : l.stackTraces = false) {own cls text : String} {names : List String} {ik is ic mc ms sa : Nat} {A : Nat → Prop}
    (hown : s.vm.findClass own = some m.cls) (hcls : Bundle.fit cls = true) (hnames : ∀ n ∈ names, Bundle.fit n = true)
    (hk : (Cond.classLink own ik cls).before args s = true) (hini : (Cond.initialized cls).before args s = true) (hstr : vk_R own is text sa s) (hat : ∀ w ∈ vx_atS own ic cls names, w.before args s = true)
    (hgood : ∀ w ∈ Cond.classLink own ik cls :: Cond.initialized cls :: vx_atS own ic cls names, vx_ot w = true)
    (hU : vx_Zq Bundle.tN "UNASSIGNED_STACK" Bundle.steD A s s.heap) (hN : vx_Zq Bundle.tN "SUPPRESSED_SENTINEL" Bundle.listD A s s.heap) (hS : va_S A s.heap H locs) (hsize : ls.size = c.maxLocals)
    (d0 : decode cc pc = .ok (.new ik, 3)) (d3 : decode cc (pc + 3) = .ok (.dup, 1)) (d4 : decode cc (pc + 4) = .ok (.ldc is, 2)) (d6 : decode cc (pc + 6) = .ok (.invokespecial ic, 3)) (d9 : decode cc (pc + 9) = .ok (.athrow, 1))
    (hout : ∀ x ∈ c.exceptionTable.toList, covers x (pc + 9) = false)
    (hRframes : names.length + 3 < R.frames) (hRlocals : (rest.map fun v => v.category).sum + (13 * (names.length + 1) + 43) ≤ R.locals) (hRcells : cells + 1 ≤ R.cells) (hRslots : slots + 6 ≤ R.slots) (hlocks : meth.locks = false)
    (hx : ∀ t : State, s.vm.Alike t.vm → H.size ≤ t.heap.size → (∀ q : Nat, q < H.size → t.heap[q]? = H[q]?) → XC cls s t)
    (hf : ∀ z ∈ locs, free z.base) (hc : cells + 1 ≤ mc) (hs : slots + 6 ≤ ms) :
    W p l e R s m args below meth c H locs cells slots (vx_MQ below Qc XC args s mc ms free) (F0 m pc ls rest) := by
  intro T hT X
  have htr : e.platform.stackTraces = false := (show e.platform.stackTraces = l.stackTraces by rw [X.admits.platform]).trans hl
  have Y := vx_rebase X (R' := { frames := R.frames, locals := R.locals, cells := 1, slots := 6 }) (Nat.le_refl _) (Nat.le_refl _) hRcells hRslots
  obtain ⟨s', hA⟩ : ∃ z, z = (T.setVm s.vm).setFrames (.invoking m args :: below) := ⟨_, rfl⟩
  rw [← hA] at Y
  have hvm : s'.vm = s.vm := by rw [hA]; rfl
  have hhp : s'.heap = H := by rw [hA]; exact hT
  have hW0 : s.WarmedH s'.vm := by rw [hvm]; exact State.WarmedH.refl s
  have hat' : ∀ w ∈ vx_atS own ic cls names, w.before args s' = true := fun w hw => vx_ot_at hW0 hvm.symm (hgood w (List.mem_cons_of_mem _ (List.mem_cons_of_mem _ hw))) (hat w hw)
  have hk' : (Cond.classLink own ik cls).before args s' = true := vx_ot_at hW0 hvm.symm (hgood _ List.mem_cons_self) hk
  have hini' : (Cond.initialized cls).before args s' = true := vx_ot_at hW0 hvm.symm (hgood _ (List.mem_cons_of_mem _ List.mem_cons_self)) hini
  have hU' : vx_Zq Bundle.tN "UNASSIGNED_STACK" Bundle.steD A s' s'.heap := by rw [hhp]; exact vx_Zq.moved hW0.alike (hU.kept hS.2.1)
  have hN' : vx_Zq Bundle.tN "SUPPRESSED_SENTINEL" Bundle.listD A s' s'.heap := by rw [hhp]; exact vx_Zq.moved hW0.alike (hN.kept hS.2.1)
  have h : ∀ w ∈ Bundle.ownAtoms own ic cls names, w.before args s' = true := vx_own hat' (vx_isRefq hU'.1) (vx_isRefq hN'.1) hU'.2.word hN'.2.word
  have hown' : s'.vm.findClass own = some m.cls := by rw [hvm]; exact hown
  have hins : (Cond.instantiable cls 6).before args s' = true := h _ (by simp [Bundle.ownAtoms])
  obtain ⟨vm₁, cX, kX, hfX, hkX, -, -, X₁, st1⟩ := Y.newCold hexec (own := own) (C := cls) (index := ik) (n := 6) hown' hk' hins hini'
    (g := F0 m pc ls rest) rfl (by rw [hb]; exact d0) (Nat.le_refl _) (Nat.le_refl _)
  generalize hT1 : (T.setVm vm₁).pushCell { cls := cX, slots := kX.instanceTypes.map defaultValue, vm := .none } = T1 at X₁ st1
  have hcat : (Value.ref T.heap.size).category = 1 := rfl
  have hcellA : T1.heap[T.heap.size]? = some (freshCell cX kX) := by rw [← hT1]; exact State.heap_pushCell_size _ _
  have d3' : decode c.code (pc + 3) = .ok (.dup, 1) := by rw [hb]; exact d3
  have d4' : decode c.code (pc + 4) = .ok (.ldc is, 2) := by rw [hb]; exact d4
  have hstr' : vk_R own is text sa s' := vk_R.warm hW0 hstr
  obtain ⟨U, hsteps, hrun, hend, hW, hsame, ce, hce, hO⟩ := X₁.ctorThrowS hexec htr (own := own) (cls := cls) (names := names) (ic := ic) hown' hcls hnames h (fun x hx => nomatch hx) hfX hkX hcellA (by rw [hhp, hT]; exact Nat.le_refl _) (msg := .ref sa) rfl
    (g := { method := m, pc := pc + 6, locals := ls, stack := .ref sa :: .ref T.heap.size :: .ref T.heap.size :: rest, locked := none }) rfl hsize rfl rfl (rest := rest) rfl
    (by rw [hb]; exact d6) (by rw [hb]; exact d9) hout hRframes (by simp only [List.map_cons, List.sum_cons, hcat]; omega) hlocks
  obtain ⟨f1, f2⟩ := vx_frame hsame
  rw [hhp] at f1 f2
  have hWs : s.WarmedH U.vm := State.WarmedH.trans hW0 hW
  have hcl : s.vm.findClass cls = some ce.cls := by
    have h9 := hO.cls
    rw [hvm] at h9
    exact h9
  have hall : s.sameButNew ({ U with vm := s.vm } : State) locs mc ms := by
    subst hA
    obtain ⟨e1, e2⟩ := hsame
    rw [State.setFrames_setFrames] at e1
    have h2 : (T.setVm s.vm).sameButNew ({ U with vm := s.vm } : State) [] (0 + 1) (0 + 6) := ⟨e1, e2⟩
    have h3 := X.same.trans h2
    rw [List.append_nil] at h3
    exact h3.mono hc hs
  refine ⟨U, ?_, .threw T.heap.size, hrun, hend, Or.inr ⟨T.heap.size, rfl, cls, ce, locs, hx U hWs.alike f1 (fun q hq => f2 q hq (fun z hz => nomatch hz)), hce, hO.vm, hcl, hWs, hall, hf⟩⟩
  refine st1 _ ?_
  show Steps p.tables e below (T1.setTop { method := m, pc := pc + 3, locals := ls, stack := .ref T.heap.size :: rest, locked := none }) _
  jvm_step X₁.here [X₁.here.top, hexec, d3', Value.category]
  exact X₁.ldcString hexec (own := own) (text := text) (index := is) (a := sa) hown' hstr'.1 hstr'.2
    (g := { method := m, pc := pc + 4, locals := ls, stack := .ref T.heap.size :: .ref T.heap.size :: rest, locked := none }) rfl d4' _ hsteps
theorem vx_throwSW {cc : ByteArray} {pc : Nat} (hexec : p.tables.exec = Jvm.exec) (hb : c.code = cc) (hl : l.stackTraces = false) {own cls text : String} {names : List String} {ik is ic mc ms sa : Nat} {A : Nat → Prop}
    (hown : s.vm.findClass own = some m.cls) (hcls : Bundle.fit cls = true) (hnames : ∀ n ∈ names, Bundle.fit n = true)
    (hk : (Cond.classLink own ik cls).before args s = true) (hini : (Cond.initialized cls).before args s = true) (hstr : vk_R own is text sa s) (hat : ∀ w ∈ vx_atS own ic cls names, w.before args s = true)
    (hgood : ∀ w ∈ Cond.classLink own ik cls :: Cond.initialized cls :: vx_atS own ic cls names, vx_ot w = true)
    (hU : vx_Zq Bundle.tN "UNASSIGNED_STACK" Bundle.steD A s s.heap) (hN : vx_Zq Bundle.tN "SUPPRESSED_SENTINEL" Bundle.listD A s s.heap) (hS : va_S A s.heap H locs) (hsize : ls.size = c.maxLocals)
    (d0 : decode cc pc = .ok (.new ik, 3)) (d3 : decode cc (pc + 3) = .ok (.dup, 1)) (d4 : decode cc (pc + 4) = .ok (.ldc_w is, 3)) (d7 : decode cc (pc + 7) = .ok (.invokespecial ic, 3)) (d10 : decode cc (pc + 10) = .ok (.athrow, 1))
    (hout : ∀ x ∈ c.exceptionTable.toList, covers x (pc + 10) = false)
    (hRframes : names.length + 3 < R.frames) (hRlocals : (rest.map fun v => v.category).sum + (13 * (names.length + 1) + 43) ≤ R.locals) (hRcells : cells + 1 ≤ R.cells) (hRslots : slots + 6 ≤ R.slots) (hlocks : meth.locks = false)
    (hx : ∀ t : State, s.vm.Alike t.vm → H.size ≤ t.heap.size → (∀ q : Nat, q < H.size → t.heap[q]? = H[q]?) → XC cls s t)
    (hf : ∀ z ∈ locs, free z.base) (hc : cells + 1 ≤ mc) (hs : slots + 6 ≤ ms) :
    W p l e R s m args below meth c H locs cells slots (vx_MQ below Qc XC args s mc ms free) (F0 m pc ls rest) := by
  intro T hT X
  have htr : e.platform.stackTraces = false := (show e.platform.stackTraces = l.stackTraces by rw [X.admits.platform]).trans hl
  have Y := vx_rebase X (R' := { frames := R.frames, locals := R.locals, cells := 1, slots := 6 }) (Nat.le_refl _) (Nat.le_refl _) hRcells hRslots
  obtain ⟨s', hA⟩ : ∃ z, z = (T.setVm s.vm).setFrames (.invoking m args :: below) := ⟨_, rfl⟩
  rw [← hA] at Y
  have hvm : s'.vm = s.vm := by rw [hA]; rfl
  have hhp : s'.heap = H := by rw [hA]; exact hT
  have hW0 : s.WarmedH s'.vm := by rw [hvm]; exact State.WarmedH.refl s
  have hat' : ∀ w ∈ vx_atS own ic cls names, w.before args s' = true := fun w hw => vx_ot_at hW0 hvm.symm (hgood w (List.mem_cons_of_mem _ (List.mem_cons_of_mem _ hw))) (hat w hw)
  have hk' : (Cond.classLink own ik cls).before args s' = true := vx_ot_at hW0 hvm.symm (hgood _ List.mem_cons_self) hk
  have hini' : (Cond.initialized cls).before args s' = true := vx_ot_at hW0 hvm.symm (hgood _ (List.mem_cons_of_mem _ List.mem_cons_self)) hini
  have hU' : vx_Zq Bundle.tN "UNASSIGNED_STACK" Bundle.steD A s' s'.heap := by rw [hhp]; exact vx_Zq.moved hW0.alike (hU.kept hS.2.1)
  have hN' : vx_Zq Bundle.tN "SUPPRESSED_SENTINEL" Bundle.listD A s' s'.heap := by rw [hhp]; exact vx_Zq.moved hW0.alike (hN.kept hS.2.1)
  have h : ∀ w ∈ Bundle.ownAtoms own ic cls names, w.before args s' = true := vx_own hat' (vx_isRefq hU'.1) (vx_isRefq hN'.1) hU'.2.word hN'.2.word
  have hown' : s'.vm.findClass own = some m.cls := by rw [hvm]; exact hown
  have hins : (Cond.instantiable cls 6).before args s' = true := h _ (by simp [Bundle.ownAtoms])
  obtain ⟨vm₁, cX, kX, hfX, hkX, -, -, X₁, st1⟩ := Y.newCold hexec (own := own) (C := cls) (index := ik) (n := 6) hown' hk' hins hini'
    (g := F0 m pc ls rest) rfl (by rw [hb]; exact d0) (Nat.le_refl _) (Nat.le_refl _)
  generalize hT1 : (T.setVm vm₁).pushCell { cls := cX, slots := kX.instanceTypes.map defaultValue, vm := .none } = T1 at X₁ st1
  have hcat : (Value.ref T.heap.size).category = 1 := rfl
  have hcellA : T1.heap[T.heap.size]? = some (freshCell cX kX) := by rw [← hT1]; exact State.heap_pushCell_size _ _
  have d3' : decode c.code (pc + 3) = .ok (.dup, 1) := by rw [hb]; exact d3
  have d4' : decode c.code (pc + 4) = .ok (.ldc_w is, 3) := by rw [hb]; exact d4
  have hstr' : vk_R own is text sa s' := vk_R.warm hW0 hstr
  obtain ⟨U, hsteps, hrun, hend, hW, hsame, ce, hce, hO⟩ := X₁.ctorThrowS hexec htr (own := own) (cls := cls) (names := names) (ic := ic) hown' hcls hnames h (fun x hx => nomatch hx) hfX hkX hcellA (by rw [hhp, hT]; exact Nat.le_refl _) (msg := .ref sa) rfl
    (g := { method := m, pc := pc + 7, locals := ls, stack := .ref sa :: .ref T.heap.size :: .ref T.heap.size :: rest, locked := none }) rfl hsize rfl rfl (rest := rest) rfl
    (by rw [hb]; exact d7) (by rw [hb]; exact d10) hout hRframes (by simp only [List.map_cons, List.sum_cons, hcat]; omega) hlocks
  obtain ⟨f1, f2⟩ := vx_frame hsame
  rw [hhp] at f1 f2
  have hWs : s.WarmedH U.vm := State.WarmedH.trans hW0 hW
  have hcl : s.vm.findClass cls = some ce.cls := by
    have h9 := hO.cls
    rw [hvm] at h9
    exact h9
  have hall : s.sameButNew ({ U with vm := s.vm } : State) locs mc ms := by
    subst hA
    obtain ⟨e1, e2⟩ := hsame
    rw [State.setFrames_setFrames] at e1
    have h2 : (T.setVm s.vm).sameButNew ({ U with vm := s.vm } : State) [] (0 + 1) (0 + 6) := ⟨e1, e2⟩
    have h3 := X.same.trans h2
    rw [List.append_nil] at h3
    exact h3.mono hc hs
  refine ⟨U, ?_, .threw T.heap.size, hrun, hend, Or.inr ⟨T.heap.size, rfl, cls, ce, locs, hx U hWs.alike f1 (fun q hq => f2 q hq (fun z hz => nomatch hz)), hce, hO.vm, hcl, hWs, hall, hf⟩⟩
  refine st1 _ ?_
  show Steps p.tables e below (T1.setTop { method := m, pc := pc + 3, locals := ls, stack := .ref T.heap.size :: rest, locked := none }) _
  jvm_step X₁.here [X₁.here.top, hexec, d3', Value.category]
  exact X₁.ldcStringW hexec (own := own) (text := text) (index := is) (a := sa) hown' hstr'.1 hstr'.2
    (g := { method := m, pc := pc + 4, locals := ls, stack := .ref T.heap.size :: .ref T.heap.size :: rest, locked := none }) rfl d4' _ hsteps
end Ends
section Bodies
variable {l : Launch}
theorem vx_ofW {y : MethodName} {ws ws' : List Cond} {rm : Room} {Pc : Array Value → State → Prop} {Qc : Array Value → State → Outcome → State → Prop} {XC : String → State → State → Prop} {mc ms : Nat} {free : Addr → Prop} {cc : ByteArray} {maxL : Nat} {ret : Option FieldType}
    (hy : plainName y.cls = true) (hw : ws = Cond.code y cc maxL ret :: ws')
    (body : ∀ p e s m args below meth c s₁, BodyLoose p l y (headSpec ws rm) cc maxL ret e s m args below meth c s₁ → c.maxLocals = maxL → (∀ x ∈ c.exceptionTable.toList, False) → Pc args s →
      W p l e (headSpec ws rm).room s m args below meth c s.heap [] 0 0 (vx_MQ below Qc XC args s mc ms free) (entryFrame m args maxL)) : vx_Met l y ws rm Pc Qc XC mc ms free := by
  refine MetFree.of_bodyS (code := cc) (maxLocals := maxL) (ret := ret) hy ?_ ?_
  · intro args s m h hn
    obtain ⟨meth, c, h1, h2, h3, h4, h5, h6, -, -⟩ := Cond.code_spec hn (atoms_spec (ws := ws) h _ (by rw [hw]; exact List.mem_cons_self))
    exact ⟨meth, c, h1, h2, h3, h4, h5, h6⟩
  · intro p e s m args below meth c s₁ B hml hP _
    have hh0 : s₁.heap = s.heap := by rw [B.state]; rfl
    have ht : ∀ x ∈ c.exceptionTable.toList, False := by
      obtain ⟨meth9, c9, h1, h2, -, -, -, -, h7, -⟩ := Cond.code_spec B.named (atoms_spec (ws := ws) B.pre _ (by rw [hw]; exact List.mem_cons_self))
      cases Option.some.inj (h1.symm.trans B.method)
      cases Option.some.inj (h2.symm.trans (Stand.of_body B).code)
      intro x hx
      rw [Array.isEmpty_iff.mp h7] at hx
      cases hx
    obtain ⟨t, a1, o, b1, b2, b3⟩ := body p e s m args below meth c s₁ B hml ht hP s₁ hh0 (Stand.of_body B)
    exact ⟨t, o, a1, b1, b2, b3⟩
theorem vx_table {p : Program} {x y : MethodName} {S : Spec} {cc bytes : ByteArray} {maxL maxL' : Nat} {ret ret' : Option FieldType} {e : Env} {s s₁ : State} {m : MethodId} {args : Array Value} {below : List Frame} {meth : Method} {c : Code} {hh : List (Nat × Nat × Nat × Nat)}
    (B : BodyLoose p l y S cc maxL ret e s m args below meth c s₁) (h : (Cond.codeWith y bytes maxL' ret' hh).before args s = true) : c.exceptionTable.toList = tableOf hh := by
  obtain ⟨m9, meth9, c9, hn9, h1, h2, -, -, h6, -⟩ := Cond.codeWith_spec h
  cases Option.some.inj (hn9.symm.trans B.named)
  cases Option.some.inj (h1.symm.trans B.method)
  cases Option.some.inj (h2.symm.trans (Stand.of_body B).code)
  rw [← h6, table_eq]
end Bodies
end VXA
section VXS
variable {p : Program} {l : Launch} {e : Env} {R : Room} {s : State} {m : MethodId} {args : Array Value} {below : List Frame} {meth : Method} {c : Code} {T : State} {H : Heap} {locs : List Loc} {cells slots : Nat}
abbrev vx_CSW (R : Room) (s : State) (args : Array Value) (own : String) (index : Nat) (y : MethodName) (bytes : ByteArray) (maxL : Nat) (ret : Option FieldType) (hh : List (Nat × Nat × Nat × Nat)) (ws : List Cond) (rm : Room) (mc ms n : Nat) : Prop :=
  (rm.cells = mc ∧ rm.slots = ms ∧ rm.frames + 1 ≤ R.frames ∧ 8 + (maxL + 11) + rm.locals ≤ R.locals ∧ (∀ w ∈ ws, ∀ (a' : Array Value) (U : State), s.WarmedH U.vm → w.before a' U = true) ∧ Cond.codeWith y bytes maxL ret hh ∈ ws) ∧
  (Cond.codeWith y bytes maxL ret hh).before args s = true ∧ (Cond.initialized y.cls).before args s = true ∧ (y.cls ≠ "java/lang/invoke/MethodHandle" ∧ y.cls ≠ "java/lang/invoke/VarHandle") ∧
  (∀ sig, parseMethodDescriptor y.desc = some sig → n = sig.parameters.length) ∧ (Cond.methodLink own index y).before args s = true ∧ (Cond.static y).before args s = true
theorem vx_cwSW {own : String} {index maxL mc ms : Nat} {y : MethodName} {bytes : ByteArray} {ret : Option FieldType} {hh : List (Nat × Nat × Nat × Nat)} {Ts ws ws' : List Cond} {rm : Room} (n : Nat) (ht : ∀ w ∈ Ts, w.before args s = true) (hT : GoodIn Ts (va_wsS own index y ws)) (hw : ws = Cond.codeWith y bytes maxL ret hh :: ws') (hrc : rm.cells = mc) (hrs : rm.slots = ms)
    (hd : y.cls ≠ "java/lang/invoke/MethodHandle" ∧ y.cls ≠ "java/lang/invoke/VarHandle" ∧ (parseMethodDescriptor y.desc).map (fun d => d.parameters.length) = some n) (hR : rm.frames + 1 ≤ R.frames ∧ 8 + (maxL + 11) + rm.locals ≤ R.locals) :
    vx_CSW R s args own index y bytes maxL ret hh ws rm mc ms n := by
  have ok : ∀ w ∈ va_wsS own index y ws, w.before args s = true := fun w h => ht w (hT w h).1
  have hG : GoodIn Ts ws := fun w h => hT w (by unfold va_wsS; exact List.mem_append_right _ h)
  have hc : Cond.codeWith y bytes maxL ret hh ∈ ws := by rw [hw]; exact List.mem_cons_self
  refine ⟨⟨hrc, hrs, hR.1, hR.2, pay_in ht hG, hc⟩, ht _ (hG _ hc).1, ok _ (by simp [va_wsS]), ⟨hd.1, hd.2.1⟩, fun sig h => ?_, ok _ (by simp [va_wsS]), ok _ (by simp [va_wsS])⟩
  have h2 := hd.2.2
  rw [h] at h2
  exact (Option.some.inj h2).symm
theorem vx_callSW (X : Stand p l e R s m args below meth c T locs cells slots) (hexec : p.tables.exec = Jvm.exec) {own : String} {index : Nat} {y : MethodName} {bytes : ByteArray} {maxL : Nat} {ret : Option FieldType} {hh : List (Nat × Nat × Nat × Nat)}
    (hown : s.vm.findClass own = some m.cls) (hlink : (Cond.methodLink own index y).before args s = true) (hstat : (Cond.static y).before args s = true) (hinit : (Cond.initialized y.cls).before args s = true)
    (hcode : (Cond.codeWith y bytes maxL ret hh).before args s = true) (hy : y.cls ≠ "java/lang/invoke/MethodHandle" ∧ y.cls ≠ "java/lang/invoke/VarHandle")
    {W9 : Nat} {Pre : Pt → Array Value → Prop} {Post : Pt → Array Value → Option Value → Pt → Prop} (hK : Back l R p e below s args y 3 W9 Pre Post)
    {g : JFrame} (hg : g.method = m) (hsize : g.locals.size = c.maxLocals) {argsL rest : List Value} (hlen : ∀ sig, parseMethodDescriptor y.desc = some sig → argsL.length = sig.parameters.length)
    (hstack : g.stack = argsL.reverse ++ rest) (hW : 2 * g.monitorRoom + (rest.map fun v => v.category).sum ≤ W9) (hdg : decode c.code g.pc = .ok (.invokestatic index, 3))
    (hpre : ∀ vm₁, s.WarmedH vm₁ → Pre ⟨T.setVm vm₁, locs, cells, slots⟩ argsL.toArray) :
    ∃ (v : Option Value) (vm₁ : Vm) (B : Pt), s.WarmedH vm₁ ∧ Stand p l e R s m args below meth c B.U B.locs B.cells B.slots ∧ Post ⟨T.setVm vm₁, locs, cells, slots⟩ argsL.toArray v B ∧
      ∀ target, Steps p.tables e below (B.U.setTop { g with pc := g.pc + 3, stack := v.toList ++ rest }) target → Steps p.tables e below (T.setTop g) target := by
  obtain ⟨mk, methM, cM, hnamed, hmethM, -, -, -, -, -, -, hsigM⟩ := Cond.codeWith_spec hcode
  have hstatic : methM.isStatic = true := Cond.static_spec hnamed hmethM hstat
  obtain ⟨kP, hkP, -⟩ := className_of_methodNamed hnamed
  have hinitP : kP.init = .initialized := Cond.initialized_spec (findClass_of_methodNamed hnamed) hkP hinit
  obtain ⟨vm₁, X₁, hstep₁⟩ := X.invokestatic hexec hown hlink hnamed hmethM hstatic hkP hinitP hy (g := g) hg (argsL := argsL) (rest := rest) (hlen _ hsigM) hstack hdg
  obtain ⟨v, B, X', hpost, hsteps⟩ := hK m meth c ⟨T.setVm vm₁, locs, cells, slots⟩ { g with stack := rest } (.invokestatic index) mk argsL.toArray X₁ hg hsize hdg hW (X₁.named hnamed) (hpre vm₁ X₁.warmed)
  exact ⟨v, vm₁, B, X₁.warmed, X', hpost, fun target h => hstep₁ _ fun acts => by rw [doInvoke_state]; exact hsteps.trans h⟩
theorem vx_runSW {y : MethodName} {bytes cc : ByteArray} {maxL nL mc ms n index : Nat} {ret : Option FieldType} {hh : List (Nat × Nat × Nat × Nat)} {ws : List Cond} {rm : Room} {Pc : Array Value → State → Prop} {Qc : Array Value → State → Outcome → State → Prop} {free : Addr → Prop} {Ts : List Cond} {own : String} {As rest : List Value} {g : JFrame}
    (S : CallFix p m c cc nL s args Ts own) (hM : Met l y ws rm Pc Qc mc ms free) (cw : vx_CSW R s args own index y bytes maxL ret hh ws rm mc ms n) (hp : PreS s H Pc As)
    (hg : g.method = m) (hn : As.length = n) (hsize : g.locals.size = nL) (hstack : g.stack = As.reverse ++ rest) (hW : 2 * g.monitorRoom + (rest.map fun v => v.category).sum ≤ 8) (hdg : decode cc g.pc = .ok (.invokestatic index, 3)) (hf : cells + mc ≤ R.cells ∧ slots + ms ≤ R.slots) :
    va_Run p l e R s m args below meth c H locs cells slots mc ms g rest (Qc As.toArray) (free) := by
  obtain ⟨⟨hrc, hrs, hfr, hlo, hws, hcw⟩, hcode, hini, hy, hlen, hl, hstt⟩ := cw
  have hK : Back l R p e below s args y 3 8 (PreOf R mc ms Pc) (PostOf Qc mc ms free) := va_backW (hh := hh) (bytes := bytes) (maxL := maxL) (ret := ret) hM hp.1 hrc hrs hfr hlo hws hcw (fun a' U hW => word_at hW (Or.inl (by first | rfl | simp [Cond.onTables, Cond.keeps, Cond.steady])) hini)
  obtain ⟨hx, hb, hml, ho, -⟩ := S
  intro T hT X
  obtain ⟨v, vm₁, ⟨U', l2, c2, s2⟩, hW₁, X', ⟨g', mk, t, L, e1, e2, hq, h1, hL, h2, h3⟩, st⟩ := vx_callSW X hx (hh := hh) (bytes := bytes) (maxL := maxL) (ret := ret) ho hl hstt hini hcode hy hK hg (hsize.trans hml.symm) (argsL := As) (rest := rest) (fun sig h => hn.trans (hlen sig h)) hstack hW (by rw [hb]; exact hdg)
    (fun vm₁ hW₁ => ⟨hf.1, hf.2, hp.2 (T.setVm vm₁) hT hW₁⟩)
  dsimp only [Pt.U, Pt.locs, Pt.cells, Pt.slots] at X' e1 e2 h1 h2 h3 st
  subst h1; subst h2; subst h3
  exact ⟨v, (T.setVm vm₁).calling g' mk As.toArray, t, U', L, hT, X', hL, e1, e2, hq, st⟩
theorem vx_outP {p : Program} {l : Launch} {e : Env} {R : Room} {s : State} {m : MethodId} {args : Array Value} {below : List Frame} {meth : Method} {c : Code} {H : Heap} {locs : List Loc} {cells slots : Nat} {free : Addr → Prop} {ls : Array Slot} {rest : List Value} {Qc : Array Value → State → Outcome → State → Prop} {XC : String → State → State → Prop}
    {pc : Nat} {own E : String} {ce : Cell} {q : Addr} {mc ms : Nat} (hown : s.vm.findClass own = some m.cls) (hlocks : meth.locks = false)
    (hpass : ∀ z ∈ c.exceptionTable.toList, covers z pc = false ∨ (z.catchType ≠ 0 ∧ ∃ nm : String, (Cond.classLink own z.catchType nm).before args s = true ∧ va_Nc E nm s)) (hcell : H[q]? = some ce) (hv : ce.vm = .none) (hcl : s.vm.findClass E = some ce.cls)
    (hx : ∀ t : State, t.heap = H → s.vm.Alike t.vm → XC E s t) (hf : ∀ z ∈ locs, free z.base) (hc : cells ≤ mc) (hs : slots ≤ ms) :
    vx_W p l e R s m args below meth c H locs cells slots (vx_MQ below Qc XC args s mc ms free) (F0 m pc ls rest) q := by
  intro T hT X
  have hpl : e.platform.magicAccessors = ({} : Platform).magicAccessors := by rw [X.admits.platform]
  obtain ⟨vm', hW', X', st⟩ := X.outThrough hlocks q (g := F0 m pc ls rest) rfl rfl rfl (cell := ce) (by rw [hT]; exact hcell) (by rw [hv]; rfl)
    (by obtain ⟨k9, h9, -⟩ := Vm.findClass_spec hcl; exact ⟨k9, h9⟩) (fun z hz => by
      rcases hpass z hz with h | ⟨hz0, nm, hl1, hn1⟩
      · exact Or.inl h
      · obtain ⟨c6, hc6, hcl6⟩ := Cond.classLink_spec hown hl1 e.platform hpl
        obtain ⟨a8, b8, h1, h2, h3⟩ := hn1
        cases Option.some.inj (h1.symm.trans hcl)
        cases Option.some.inj (h2.symm.trans hc6)
        exact Or.inr ⟨hz0, _, hcl6, h3⟩)
  obtain ⟨g₀, hfr⟩ := X'.frames_eq
  have hcell9 : ((T.setVm vm').setFrames (.throwing q :: below)).heap[q]? = some ce := by
    show T.heap[q]? = some ce
    rw [hT]; exact hcell
  have hend : Ended ((T.setVm vm').setFrames (.throwing q :: below)) below (.threw q) := State.frames_setFrames _ (State.cur_lt_of_frames hfr)
  refine ⟨(T.setVm vm').setFrames (.throwing q :: below), ?_, .threw q, X'.here.running, hend, Or.inr ⟨q, rfl, E, ce, locs, hx _ hT (X'.ends _).1.alike, hcell9, hv, hcl, (X'.ends _).1, (X'.ends _).2.mono hc hs, hf⟩⟩
  rw [X.pushThrowing_eq]
  exact st
theorem vx_lt {D : va_G} {cl : List vw_C} {ws : va_W} {H1 : Heap} (h : va_P D cl ws H1) {k : Nat} {q : Nat × va_E} (hk : ws[k]? = some q) : q.1 < H1.size := (h k q hk).lt
end VXS
section VXH
section
variable {l : Launch} {R : Room} {p : Program} {e : Env} {below : List Frame} {s : State} {sargs : Array Value} {y : MethodName} {len W9 : Nat}
theorem vx_backW {ws : List Cond} {rm : Room} {Pc : Array Value → State → Prop} {Qc : Array Value → State → Outcome → State → Prop} {XC : String → State → State → Prop} {mc ms : Nat} {free : Addr → Prop} {bytes : ByteArray} {maxL : Nat} {ret : Option FieldType} {hh : List (Nat × Nat × Nat × Nat)}
    (hM : vx_Met l y ws rm Pc Qc XC mc ms free) (hblind : FrameBlind Pc) (hrc : rm.cells = mc) (hrs : rm.slots = ms)
    (hframes : rm.frames + 1 ≤ R.frames) (hlocals : W9 + (maxL + 11) + rm.locals ≤ R.locals)
    (hws : ∀ w ∈ ws, ∀ a' U, s.WarmedH U.vm → w.before a' U = true) (hcode : Cond.codeWith y bytes maxL ret hh ∈ ws) (hinit : ∀ a' U, s.WarmedH U.vm → (Cond.initialized y.cls).before a' U = true) :
    vx_Back l R p e below s sargs y len W9 (PreOf R mc ms Pc) (PostOf Qc mc ms free) (vx_Post XC mc ms free) := by
  intro m meth c A g ig mk a X hg hsize hdg hW hn hp
  have h1 : (headSpec ws rm).pre.before a A.U = true := atoms_intro fun w hw => hws w hw _ _ X.warmed
  have h2 : (Cond.codeWith y bytes maxL ret hh).before a A.U = true := hws _ hcode _ _ X.warmed
  have h3 : (Cond.initialized y.cls).before a A.U = true := hinit _ _ X.warmed
  have h4 : A.cells + (headSpec ws rm).room.cells ≤ R.cells := by rw [show (headSpec ws rm).room.cells = mc from hrc]; exact hp.1
  have h5 : A.slots + (headSpec ws rm).room.slots ≤ R.slots := by rw [show (headSpec ws rm).room.slots = ms from hrs]; exact hp.2.1
  have hPc : Pc a (A.U.calling g mk a) := hblind _ _ _ _ hp.2.2
  obtain ⟨U, Ls, c0, s0⟩ := A
  dsimp only [Pt.U, Pt.locs, Pt.cells, Pt.slots] at h1 h2 h3 h4 h5 X hn hPc ⊢
  obtain ⟨m9, methY, cY, hn9, hmY, hcY, -, hlY, -⟩ := Cond.codeWith_spec h2
  cases Option.some.inj (hn9.symm.trans hn)
  obtain ⟨kY, hkY, -⟩ := className_of_methodNamed hn
  have hinitY : kY.init = .initialized := Cond.initialized_spec (findClass_of_methodNamed hn) hkY h3
  have h : At U g.method c below := by rw [hg]; exact X.here
  have hlocals9 : W9 + (maxL + 11) + (headSpec ws rm).room.locals ≤ R.locals := hlocals
  have happ : (headSpec ws rm).appliesLoose y e.platform (U.calling g mk a) = true :=
    Spec.appliesLoose_calling (g := g) h hdg hn hkY hinitY
      (X.room_calling (g := g) (R' := (headSpec ws rm).room) hsize hmY hcY hframes (by rw [hlY]; omega) h4 h5) h1
  obtain ⟨mid, hmid⟩ := h.above
  have hfr : (U.setTop g).frames = (.java g :: mid) ++ below := by rw [State.frames_setTop' g h.top, hmid]; rfl
  obtain ⟨o, s₂, hsteps, -, hend, hq⟩ := Steps.callFree hM p X.admits X.cas X.clock (acts := []) hfr happ hPc trivial
  have hq' : vx_Q Qc XC mc ms free a (U.calling g mk a) o s₂ := hq
  rw [State.frames_setTop' g h.top] at hend
  obtain ⟨g₀, hg0⟩ := Option.isSome_iff_exists.mp h.top
  obtain ⟨r, hr⟩ := State.topJava?_eq_some.mp hg0
  have hr' : (({ U with heap := s₂.heap, slotsUsed := s₂.slotsUsed } : State).setVm s₂.vm).frames = .java g₀ :: r := hr
  rcases hq' with ⟨hqc, L, hfe, hL⟩ | ⟨q, rfl, E, ce, L, hx, hce, hcv, hcl, hW₂, hsm, hL⟩
  · obtain ⟨⟨v, rfl⟩, hW₂, e2, q2, q3, q4, q5, q6⟩ := id hfe
    have e3 : s₂ = ({ (U.calling g mk a).setFrames s₂.frames with heap := s₂.heap, slotsUsed := s₂.slotsUsed } : State).setVm s₂.vm := by
      have : s₂ = ({ s₂ with vm := (U.calling g mk a).vm } : State).setVm s₂.vm := rfl
      rw [e2] at this
      exact this
    obtain ⟨c₂, i₂, len₂, hc₂, hd₂, hf₂⟩ := hend
    have hW' : U.WarmedH s₂.vm := hW₂
    have hcc : c₂ = c := by
      have h1 : s₂.code? g.method = U.code? g.method := by
        rw [State.code?_eq, State.code?_eq, hW'.alike.method?]
      exact Option.some.inj (hc₂.symm.trans (h1.trans h.code))
    subst hcc
    have hlen : len₂ = len := by rw [hdg] at hd₂; cases hd₂; rfl
    subst hlen
    have hs₂ : s₂ = (({ U with heap := s₂.heap, slotsUsed := s₂.slotsUsed } : State).setVm s₂.vm).setTop { g with pc := g.pc + len₂, stack := v.toList ++ g.stack } := by
      refine e3.trans ?_
      rw [hf₂, State.calling_eq h.top, State.setFrames_setFrames, State.setTop_of_frames _ hr', hr]
      rfl
    have hsame : U.sameButNew ({ U with heap := s₂.heap, slotsUsed := s₂.slotsUsed } : State) L mc ms := by
      refine ⟨?_, q2, q3, q4, q5, q6⟩
      obtain ⟨t, ht, -⟩ := State.frames_cons hr
      show ({ U with heap := s₂.heap, slotsUsed := s₂.slotsUsed } : State) = { U.setFrames U.frames with heap := s₂.heap, slotsUsed := s₂.slotsUsed }
      rw [State.setFrames_self ht]
    subst hg
    refine Or.inl ⟨v, ⟨(({ U with heap := s₂.heap, slotsUsed := s₂.slotsUsed } : State).setVm s₂.vm), Ls ++ L, c0 + mc, s0 + ms⟩,
      ⟨X.admits, X.cas, X.clock, X.frames, X.room, X.hears, X.method, X.code, (X.here.setHeapUsed s₂.heap s₂.slotsUsed).setVm hW'.alike, X.tail, State.WarmedH.trans X.warmed hW', X.limits, X.bytes, X.same.trans (hsame.setVm s.vm)⟩,
      ⟨g, mk, s₂, L, rfl, rfl, hqc, rfl, hL, rfl, rfl⟩, ?_⟩
    show Steps p.tables e below _ ((({ U with heap := s₂.heap, slotsUsed := s₂.slotsUsed } : State).setVm s₂.vm).setTop { g with pc := g.pc + len₂, stack := v.toList ++ g.stack })
    rw [← hs₂]
    exact hsteps
  · obtain ⟨e2, q2, q3, q4, q5, q6⟩ := id hsm
    have e3 : s₂ = ({ (U.calling g mk a).setFrames s₂.frames with heap := s₂.heap, slotsUsed := s₂.slotsUsed } : State).setVm s₂.vm := by
      have : s₂ = ({ s₂ with vm := (U.calling g mk a).vm } : State).setVm s₂.vm := rfl
      rw [e2] at this
      exact this
    have hf₂ : s₂.frames = .throwing q :: .java g :: U.frames.tail := hend
    have hW' : U.WarmedH s₂.vm := hW₂
    have hs₂ : s₂ = ((({ U with heap := s₂.heap, slotsUsed := s₂.slotsUsed } : State).setVm s₂.vm).setTop g).pushFrame (.throwing q) := by
      refine e3.trans ?_
      rw [hf₂, State.calling_eq h.top, State.setFrames_setFrames, State.pushFrame, State.frames_setTop _ hr', State.setTop_of_frames _ hr', State.setFrames_setFrames, hr]
      rfl
    have hsame : U.sameButNew ({ U with heap := s₂.heap, slotsUsed := s₂.slotsUsed } : State) L mc ms := by
      refine ⟨?_, q2, q3, q4, q5, q6⟩
      obtain ⟨t, ht, -⟩ := State.frames_cons hr
      show ({ U with heap := s₂.heap, slotsUsed := s₂.slotsUsed } : State) = { U.setFrames U.frames with heap := s₂.heap, slotsUsed := s₂.slotsUsed }
      rw [State.setFrames_self ht]
    subst hg
    refine Or.inr ⟨q, ⟨(({ U with heap := s₂.heap, slotsUsed := s₂.slotsUsed } : State).setVm s₂.vm), Ls ++ L, c0 + mc, s0 + ms⟩,
      ⟨X.admits, X.cas, X.clock, X.frames, X.room, X.hears, X.method, X.code, (X.here.setHeapUsed s₂.heap s₂.slotsUsed).setVm hW'.alike, X.tail, State.WarmedH.trans X.warmed hW', X.limits, X.bytes, X.same.trans (hsame.setVm s.vm)⟩,
      ⟨g, mk, s₂, L, E, ce, rfl, rfl, hx, hce, hcv, hcl, rfl, hL, rfl, rfl⟩, ?_⟩
    show Steps p.tables e below _ (((({ U with heap := s₂.heap, slotsUsed := s₂.slotsUsed } : State).setVm s₂.vm).setTop g).pushFrame (.throwing q))
    rw [← hs₂]
    exact hsteps
end
variable {p : Program} {l : Launch} {e : Env} {R : Room} {s : State} {m : MethodId} {args : Array Value} {below : List Frame} {meth : Method} {c : Code} {T : State} {H : Heap} {locs : List Loc} {cells slots : Nat}
theorem vx_callVX (X : Stand p l e R s m args below meth c T locs cells slots) (hexec : p.tables.exec = Jvm.exec) {own C : String} {index : Nat} {y : MethodName} {bytes : ByteArray} {maxL : Nat} {ret : Option FieldType} {hh : List (Nat × Nat × Nat × Nat)}
    (hown : s.vm.findClass own = some m.cls) (hlink : (Cond.methodLink own index y).before args s = true) (hinst : (Cond.instanceMethod y).before args s = true) (hsel : (Cond.selects C y y).before args s = true)
    (hcode : (Cond.codeWith y bytes maxL ret hh).before args s = true) (hy : y.cls ≠ "java/lang/invoke/MethodHandle" ∧ y.cls ≠ "java/lang/invoke/VarHandle")
    {W9 : Nat} {Pre : Pt → Array Value → Prop} {Post : Pt → Array Value → Option Value → Pt → Prop} {PostX : Pt → Array Value → Addr → Pt → Prop} (hK : vx_Back l R p e below s args y 3 W9 Pre Post PostX)
    {b : Addr} {cellB : Cell} (hcell : T.heap[b]? = some cellB) (hobj : cellB.vm.isStatics = false) (hcls : s.vm.findClass C = some cellB.cls)
    {g : JFrame} (hg : g.method = m) (hsize : g.locals.size = c.maxLocals) {argsL rest : List Value} (hlen : ∀ sig, parseMethodDescriptor y.desc = some sig → argsL.length = sig.parameters.length)
    (hstack : g.stack = argsL.reverse ++ .ref b :: rest) (hW : 2 * g.monitorRoom + (rest.map fun v => v.category).sum ≤ W9) (hdg : decode c.code g.pc = .ok (.invokevirtual index, 3))
    (hpre : ∀ vm₁, s.WarmedH vm₁ → Pre ⟨T.setVm vm₁, locs, cells, slots⟩ (Value.ref b :: argsL).toArray) :
    (∃ (v : Option Value) (vm₁ : Vm) (B : Pt), s.WarmedH vm₁ ∧ Stand p l e R s m args below meth c B.U B.locs B.cells B.slots ∧ Post ⟨T.setVm vm₁, locs, cells, slots⟩ (Value.ref b :: argsL).toArray v B ∧
      ∀ target, Steps p.tables e below (B.U.setTop { g with pc := g.pc + 3, stack := v.toList ++ rest }) target → Steps p.tables e below (T.setTop g) target) ∨
    (∃ (q : Addr) (vm₁ : Vm) (B : Pt), s.WarmedH vm₁ ∧ Stand p l e R s m args below meth c B.U B.locs B.cells B.slots ∧ PostX ⟨T.setVm vm₁, locs, cells, slots⟩ (Value.ref b :: argsL).toArray q B ∧
      Steps p.tables e below (T.setTop g) ((B.U.setTop { g with stack := rest }).pushFrame (.throwing q))) := by
  obtain ⟨mk, methM, hnamed, hmethM, hstM, habM⟩ := Cond.instanceMethod_spec hinst
  obtain ⟨m8, methM', cM, hn8, hmethM', -, -, -, -, -, -, hsigM⟩ := Cond.codeWith_spec hcode
  cases Option.some.inj (hn8.symm.trans hnamed)
  cases hmethM.symm.trans hmethM'
  obtain ⟨c2, r2, m2, q1, q2, q3, q4, kP, hkP, hkPi⟩ := Cond.selects_spec hsel
  cases hcls.symm.trans q1
  cases (State.methodFound?_of_named hnamed hy).symm.trans q2
  cases hnamed.symm.trans q3
  have hselP : selectMethod e.platform s.vm cellB.cls mk = .method mk := by rw [Launch.admits_selectMethod X.admits]; exact q4
  obtain ⟨vm₁, X₁, hstep₁⟩ := X.invokevirtual hexec hown hlink hnamed hmethM hstM hkP hkPi hy (a := b) (cell := cellB) hcell
    (fun z h => by rw [h] at hobj; cases hobj) hselP hmethM habM hkP hkPi (g := g) hg (argsL := argsL) (rest := rest) (hlen _ hsigM) hstack hdg
  rcases hK m meth c ⟨T.setVm vm₁, locs, cells, slots⟩ { g with stack := rest } (.invokevirtual index) mk (Value.ref b :: argsL).toArray X₁ hg hsize hdg hW (X₁.named hnamed) (hpre vm₁ X₁.warmed) with ⟨v, B, X', hpost, hsteps⟩ | ⟨q, B, X', hpost, hsteps⟩
  · exact Or.inl ⟨v, vm₁, B, X₁.warmed, X', hpost, fun target h => hstep₁ _ fun acts => by rw [doInvoke_state]; exact hsteps.trans h⟩
  · exact Or.inr ⟨q, vm₁, B, X₁.warmed, X', hpost, hstep₁ _ fun acts => by rw [doInvoke_state]; exact hsteps⟩
theorem vx_callSX (X : Stand p l e R s m args below meth c T locs cells slots) (hexec : p.tables.exec = Jvm.exec) {own : String} {index : Nat} {y : MethodName} {bytes : ByteArray} {maxL : Nat} {ret : Option FieldType} {hh : List (Nat × Nat × Nat × Nat)}
    (hown : s.vm.findClass own = some m.cls) (hlink : (Cond.methodLink own index y).before args s = true) (hstat : (Cond.static y).before args s = true) (hinit : (Cond.initialized y.cls).before args s = true)
    (hcode : (Cond.codeWith y bytes maxL ret hh).before args s = true) (hy : y.cls ≠ "java/lang/invoke/MethodHandle" ∧ y.cls ≠ "java/lang/invoke/VarHandle")
    {W9 : Nat} {Pre : Pt → Array Value → Prop} {Post : Pt → Array Value → Option Value → Pt → Prop} {PostX : Pt → Array Value → Addr → Pt → Prop} (hK : vx_Back l R p e below s args y 3 W9 Pre Post PostX)
    {g : JFrame} (hg : g.method = m) (hsize : g.locals.size = c.maxLocals) {argsL rest : List Value} (hlen : ∀ sig, parseMethodDescriptor y.desc = some sig → argsL.length = sig.parameters.length)
    (hstack : g.stack = argsL.reverse ++ rest) (hW : 2 * g.monitorRoom + (rest.map fun v => v.category).sum ≤ W9) (hdg : decode c.code g.pc = .ok (.invokestatic index, 3))
    (hpre : ∀ vm₁, s.WarmedH vm₁ → Pre ⟨T.setVm vm₁, locs, cells, slots⟩ argsL.toArray) :
    (∃ (v : Option Value) (vm₁ : Vm) (B : Pt), s.WarmedH vm₁ ∧ Stand p l e R s m args below meth c B.U B.locs B.cells B.slots ∧ Post ⟨T.setVm vm₁, locs, cells, slots⟩ argsL.toArray v B ∧
      ∀ target, Steps p.tables e below (B.U.setTop { g with pc := g.pc + 3, stack := v.toList ++ rest }) target → Steps p.tables e below (T.setTop g) target) ∨
    (∃ (q : Addr) (vm₁ : Vm) (B : Pt), s.WarmedH vm₁ ∧ Stand p l e R s m args below meth c B.U B.locs B.cells B.slots ∧ PostX ⟨T.setVm vm₁, locs, cells, slots⟩ argsL.toArray q B ∧
      Steps p.tables e below (T.setTop g) ((B.U.setTop { g with stack := rest }).pushFrame (.throwing q))) := by
  obtain ⟨mk, methM, cM, hnamed, hmethM, -, -, -, -, -, -, hsigM⟩ := Cond.codeWith_spec hcode
  have hstatic : methM.isStatic = true := Cond.static_spec hnamed hmethM hstat
  obtain ⟨kP, hkP, -⟩ := className_of_methodNamed hnamed
  have hinitP : kP.init = .initialized := Cond.initialized_spec (findClass_of_methodNamed hnamed) hkP hinit
  obtain ⟨vm₁, X₁, hstep₁⟩ := X.invokestatic hexec hown hlink hnamed hmethM hstatic hkP hinitP hy (g := g) hg (argsL := argsL) (rest := rest) (hlen _ hsigM) hstack hdg
  rcases hK m meth c ⟨T.setVm vm₁, locs, cells, slots⟩ { g with stack := rest } (.invokestatic index) mk argsL.toArray X₁ hg hsize hdg hW (X₁.named hnamed) (hpre vm₁ X₁.warmed) with ⟨v, B, X', hpost, hsteps⟩ | ⟨q, B, X', hpost, hsteps⟩
  · exact Or.inl ⟨v, vm₁, B, X₁.warmed, X', hpost, fun target h => hstep₁ _ fun acts => by rw [doInvoke_state]; exact hsteps.trans h⟩
  · exact Or.inr ⟨q, vm₁, B, X₁.warmed, X', hpost, hstep₁ _ fun acts => by rw [doInvoke_state]; exact hsteps⟩
theorem vx_callVW (X : Stand p l e R s m args below meth c T locs cells slots) (hexec : p.tables.exec = Jvm.exec) {own C : String} {index : Nat} {y : MethodName} {bytes : ByteArray} {maxL : Nat} {ret : Option FieldType} {hh : List (Nat × Nat × Nat × Nat)}
    (hown : s.vm.findClass own = some m.cls) (hlink : (Cond.methodLink own index y).before args s = true) (hinst : (Cond.instanceMethod y).before args s = true) (hsel : (Cond.selects C y y).before args s = true)
    (hcode : (Cond.codeWith y bytes maxL ret hh).before args s = true) (hy : y.cls ≠ "java/lang/invoke/MethodHandle" ∧ y.cls ≠ "java/lang/invoke/VarHandle")
    {W9 : Nat} {Pre : Pt → Array Value → Prop} {Post : Pt → Array Value → Option Value → Pt → Prop} (hK : Back l R p e below s args y 3 W9 Pre Post)
    {b : Addr} {cellB : Cell} (hcell : T.heap[b]? = some cellB) (hobj : cellB.vm.isStatics = false) (hcls : s.vm.findClass C = some cellB.cls)
    {g : JFrame} (hg : g.method = m) (hsize : g.locals.size = c.maxLocals) {argsL rest : List Value} (hlen : ∀ sig, parseMethodDescriptor y.desc = some sig → argsL.length = sig.parameters.length)
    (hstack : g.stack = argsL.reverse ++ .ref b :: rest) (hW : 2 * g.monitorRoom + (rest.map fun v => v.category).sum ≤ W9) (hdg : decode c.code g.pc = .ok (.invokevirtual index, 3))
    (hpre : ∀ vm₁, s.WarmedH vm₁ → Pre ⟨T.setVm vm₁, locs, cells, slots⟩ (Value.ref b :: argsL).toArray) :
    ∃ (v : Option Value) (vm₁ : Vm) (B : Pt), s.WarmedH vm₁ ∧ Stand p l e R s m args below meth c B.U B.locs B.cells B.slots ∧ Post ⟨T.setVm vm₁, locs, cells, slots⟩ (Value.ref b :: argsL).toArray v B ∧
      ∀ target, Steps p.tables e below (B.U.setTop { g with pc := g.pc + 3, stack := v.toList ++ rest }) target → Steps p.tables e below (T.setTop g) target := by
  obtain ⟨mk, methM, hnamed, hmethM, hstM, habM⟩ := Cond.instanceMethod_spec hinst
  obtain ⟨m8, methM', cM, hn8, hmethM', -, -, -, -, -, -, hsigM⟩ := Cond.codeWith_spec hcode
  cases Option.some.inj (hn8.symm.trans hnamed)
  cases hmethM.symm.trans hmethM'
  obtain ⟨c2, r2, m2, q1, q2, q3, q4, kP, hkP, hkPi⟩ := Cond.selects_spec hsel
  cases hcls.symm.trans q1
  cases (State.methodFound?_of_named hnamed hy).symm.trans q2
  cases hnamed.symm.trans q3
  have hselP : selectMethod e.platform s.vm cellB.cls mk = .method mk := by rw [Launch.admits_selectMethod X.admits]; exact q4
  obtain ⟨vm₁, X₁, hstep₁⟩ := X.invokevirtual hexec hown hlink hnamed hmethM hstM hkP hkPi hy (a := b) (cell := cellB) hcell
    (fun z h => by rw [h] at hobj; cases hobj) hselP hmethM habM hkP hkPi (g := g) hg (argsL := argsL) (rest := rest) (hlen _ hsigM) hstack hdg
  obtain ⟨v, B, X', hpost, hsteps⟩ := hK m meth c ⟨T.setVm vm₁, locs, cells, slots⟩ { g with stack := rest } (.invokevirtual index) mk (Value.ref b :: argsL).toArray X₁ hg hsize hdg hW (X₁.named hnamed) (hpre vm₁ X₁.warmed)
  exact ⟨v, vm₁, B, X₁.warmed, X', hpost, fun target h => hstep₁ _ fun acts => by rw [doInvoke_state]; exact hsteps.trans h⟩
abbrev vx_CVW (R : Room) (s : State) (args : Array Value) (own C : String) (index : Nat) (y : MethodName) (bytes : ByteArray) (maxL : Nat) (ret : Option FieldType) (hh : List (Nat × Nat × Nat × Nat)) (ws : List Cond) (rm : Room) (mc ms n : Nat) : Prop :=
  (rm.cells = mc ∧ rm.slots = ms ∧ rm.frames + 1 ≤ R.frames ∧ 8 + (maxL + 11) + rm.locals ≤ R.locals ∧ (∀ w ∈ ws, ∀ (a' : Array Value) (U : State), s.WarmedH U.vm → w.before a' U = true) ∧ Cond.codeWith y bytes maxL ret hh ∈ ws) ∧
  (Cond.codeWith y bytes maxL ret hh).before args s = true ∧ (Cond.initialized y.cls).before args s = true ∧ (y.cls ≠ "java/lang/invoke/MethodHandle" ∧ y.cls ≠ "java/lang/invoke/VarHandle") ∧
  (∀ sig, parseMethodDescriptor y.desc = some sig → n = sig.parameters.length) ∧ (Cond.methodLink own index y).before args s = true ∧ (Cond.instanceMethod y).before args s = true ∧ (Cond.selects C y y).before args s = true
theorem vx_cwVW {own C : String} {index maxL mc ms : Nat} {y : MethodName} {bytes : ByteArray} {ret : Option FieldType} {hh : List (Nat × Nat × Nat × Nat)} {Ts ws ws' : List Cond} {rm : Room} (n : Nat) (ht : ∀ w ∈ Ts, w.before args s = true) (hT : GoodIn Ts (wsV own index C y ws)) (hw : ws = Cond.codeWith y bytes maxL ret hh :: ws') (hrc : rm.cells = mc) (hrs : rm.slots = ms)
    (hd : y.cls = C ∧ y.cls ≠ "java/lang/invoke/MethodHandle" ∧ y.cls ≠ "java/lang/invoke/VarHandle" ∧ (parseMethodDescriptor y.desc).map (fun d => d.parameters.length) = some n) (hR : rm.frames + 1 ≤ R.frames ∧ 8 + (maxL + 11) + rm.locals ≤ R.locals) :
    vx_CVW R s args own C index y bytes maxL ret hh ws rm mc ms n := by
  obtain ⟨hC, hd⟩ := hd
  subst hC
  have ok : ∀ w ∈ wsV own index y.cls y ws, w.before args s = true := fun w h => ht w (hT w h).1
  have hG : GoodIn Ts ws := fun w h => hT w (by unfold wsV; exact List.mem_append_right _ h)
  have hc : Cond.codeWith y bytes maxL ret hh ∈ ws := by rw [hw]; exact List.mem_cons_self
  refine ⟨⟨hrc, hrs, hR.1, hR.2, pay_in ht hG, hc⟩, ht _ (hG _ hc).1, ok _ (by simp [wsV]), ⟨hd.1, hd.2.1⟩, fun sig h => ?_, ok _ (by simp [wsV]), ok _ (by simp [wsV]), ok _ (by simp [wsV])⟩
  have h2 := hd.2.2
  rw [h] at h2
  exact (Option.some.inj h2).symm
theorem vx_runVW {y : MethodName} {bytes cc : ByteArray} {maxL nL mc ms n index : Nat} {ret : Option FieldType} {hh : List (Nat × Nat × Nat × Nat)} {ws : List Cond} {rm : Room} {Pc : Array Value → State → Prop} {Qc : Array Value → State → Outcome → State → Prop} {free : Addr → Prop} {Ts : List Cond} {own C : String} {b : Addr} {As rest : List Value} {g : JFrame}
    (S : CallFix p m c cc nL s args Ts own) (hM : Met l y ws rm Pc Qc mc ms free) (cw : vx_CVW R s args own C index y bytes maxL ret hh ws rm mc ms n) (hp : PreV s H C b Pc As)
    (hg : g.method = m) (hn : As.length = n) (hsize : g.locals.size = nL) (hstack : g.stack = As.reverse ++ .ref b :: rest) (hW : 2 * g.monitorRoom + (rest.map fun v => v.category).sum ≤ 8) (hdg : decode cc g.pc = .ok (.invokevirtual index, 3)) (hf : cells + mc ≤ R.cells ∧ slots + ms ≤ R.slots) :
    va_Run p l e R s m args below meth c H locs cells slots mc ms g rest (Qc (Value.ref b :: As).toArray) free := by
  obtain ⟨⟨hrc, hrs, hfr, hlo, hws, hcw⟩, hcode, hini, hy, hlen, hl, hin, hse⟩ := cw
  have hK : Back l R p e below s args y 3 8 (PreOf R mc ms Pc) (PostOf Qc mc ms free) := va_backW (hh := hh) (bytes := bytes) (maxL := maxL) (ret := ret) hM hp.1 hrc hrs hfr hlo hws hcw (fun a' U hW => word_at hW (Or.inl (by first | rfl | simp [Cond.onTables, Cond.keeps, Cond.steady])) hini)
  obtain ⟨hx, hb, hml, ho, -⟩ := S
  obtain ⟨-, ⟨cellB, hcB, hoB, hclB⟩, hPc⟩ := hp
  intro T hT X
  obtain ⟨v, vm₁, ⟨U', l2, c2, s2⟩, hW₁, X', ⟨g', mk, t, L, e1, e2, hq, h1, hL, h2, h3⟩, st⟩ := vx_callVW X hx (C := C) (hh := hh) (bytes := bytes) (maxL := maxL) (ret := ret) ho hl hin hse hcode hy hK (by rw [hT]; exact hcB) hoB hclB hg (hsize.trans hml.symm) (argsL := As) (rest := rest) (fun sig h => hn.trans (hlen sig h)) hstack hW (by rw [hb]; exact hdg)
    (fun vm₁ hW₁ => ⟨hf.1, hf.2, hPc (T.setVm vm₁) hT hW₁⟩)
  dsimp only [Pt.U, Pt.locs, Pt.cells, Pt.slots] at X' e1 e2 h1 h2 h3 st
  subst h1; subst h2; subst h3
  exact ⟨v, (T.setVm vm₁).calling g' mk (Value.ref b :: As).toArray, t, U', L, hT, X', hL, e1, e2, hq, st⟩
section
variable {y : MethodName} {bytes cc : ByteArray} {maxL nL mc ms n index : Nat} {ret : Option FieldType} {ws : List Cond} {rm : Room} {Pc : Array Value → State → Prop} {Qc : Array Value → State → Outcome → State → Prop} {XC : String → State → State → Prop} {free : Addr → Prop} {Ts : List Cond} {own C : String} {b : Addr} {As rest : List Value} {g : JFrame}
theorem vx_runVX {hh : List (Nat × Nat × Nat × Nat)} (S : CallFix p m c cc nL s args Ts own) (hM : vx_Met l y ws rm Pc Qc XC mc ms free) (cw : vx_CVW R s args own C index y bytes maxL ret hh ws rm mc ms n) (hp : PreV s H C b Pc As)
    (hg : g.method = m) (hn : As.length = n) (hsize : g.locals.size = nL) (hstack : g.stack = As.reverse ++ .ref b :: rest) (hW : 2 * g.monitorRoom + (rest.map fun v => v.category).sum ≤ 8) (hdg : decode cc g.pc = .ok (.invokevirtual index, 3)) (hf : cells + mc ≤ R.cells ∧ slots + ms ≤ R.slots) :
    vx_Run p l e R s m args below meth c H locs cells slots mc ms g rest (Qc (Value.ref b :: As).toArray) XC free := by
  obtain ⟨⟨hrc, hrs, hfr, hlo, hws, hcw⟩, hcode, hini, hy, hlen, hl, hin, hse⟩ := cw
  have hK : vx_Back l R p e below s args y 3 8 (PreOf R mc ms Pc) (PostOf Qc mc ms free) (vx_Post XC mc ms free) := vx_backW (hh := hh) (bytes := bytes) (maxL := maxL) (ret := ret) hM hp.1 hrc hrs hfr hlo hws hcw (fun a' U hW => word_at hW (Or.inl (by first | rfl | simp [Cond.onTables, Cond.keeps, Cond.steady])) hini)
  obtain ⟨hx, hb, hml, ho, -⟩ := S
  obtain ⟨-, ⟨cellB, hcB, hoB, hclB⟩, hPc⟩ := hp
  intro T hT X
  rcases vx_callVX X hx (C := C) (hh := hh) (bytes := bytes) (maxL := maxL) (ret := ret) ho hl hin hse hcode hy hK (by rw [hT]; exact hcB) hoB hclB hg (hsize.trans hml.symm) (argsL := As) (rest := rest) (fun sig h => hn.trans (hlen sig h)) hstack hW (by rw [hb]; exact hdg)
    (fun vm₁ hW₁ => ⟨hf.1, hf.2, hPc (T.setVm vm₁) hT hW₁⟩) with ⟨v, vm₁, ⟨U', l2, c2, s2⟩, hW₁, X', ⟨g', mk, t, L, e1, e2, hq, h1, hL, h2, h3⟩, st⟩ | ⟨q, vm₁, ⟨U', l2, c2, s2⟩, hW₁, X', ⟨g', mk, t, L, E, ce, e1, e2, hq, hce, hcv, hcl, h1, hL, h2, h3⟩, st⟩
  · dsimp only [Pt.U, Pt.locs, Pt.cells, Pt.slots] at X' e1 e2 h1 h2 h3 st
    subst h1; subst h2; subst h3
    exact Or.inl ⟨v, (T.setVm vm₁).calling g' mk (Value.ref b :: As).toArray, t, U', L, hT, X', hL, e1, e2, hq, st⟩
  · dsimp only [Pt.U, Pt.locs, Pt.cells, Pt.slots] at X' e1 e2 h1 h2 h3 st hcl
    subst h1; subst h2; subst h3
    exact Or.inr ⟨q, (T.setVm vm₁).calling g' mk (Value.ref b :: As).toArray, t, U', L, E, ce, hT, X', hL, e1, e2, hq, hce, hcv, vx_cls hW₁ hcl, st⟩
theorem vx_runSX {hh : List (Nat × Nat × Nat × Nat)} (S : CallFix p m c cc nL s args Ts own) (hM : vx_Met l y ws rm Pc Qc XC mc ms free) (cw : vx_CSW R s args own index y bytes maxL ret hh ws rm mc ms n) (hp : PreS s H Pc As)
    (hg : g.method = m) (hn : As.length = n) (hsize : g.locals.size = nL) (hstack : g.stack = As.reverse ++ rest) (hW : 2 * g.monitorRoom + (rest.map fun v => v.category).sum ≤ 8) (hdg : decode cc g.pc = .ok (.invokestatic index, 3)) (hf : cells + mc ≤ R.cells ∧ slots + ms ≤ R.slots) :
    vx_Run p l e R s m args below meth c H locs cells slots mc ms g rest (Qc As.toArray) XC free := by
  obtain ⟨⟨hrc, hrs, hfr, hlo, hws, hcw⟩, hcode, hini, hy, hlen, hl, hstt⟩ := cw
  have hK : vx_Back l R p e below s args y 3 8 (PreOf R mc ms Pc) (PostOf Qc mc ms free) (vx_Post XC mc ms free) := vx_backW (hh := hh) (bytes := bytes) (maxL := maxL) (ret := ret) hM hp.1 hrc hrs hfr hlo hws hcw (fun a' U hW => word_at hW (Or.inl (by first | rfl | simp [Cond.onTables, Cond.keeps, Cond.steady])) hini)
  obtain ⟨hx, hb, hml, ho, -⟩ := S
  intro T hT X
  rcases vx_callSX X hx (hh := hh) (bytes := bytes) (maxL := maxL) (ret := ret) ho hl hstt hini hcode hy hK hg (hsize.trans hml.symm) (argsL := As) (rest := rest) (fun sig h => hn.trans (hlen sig h)) hstack hW (by rw [hb]; exact hdg)
    (fun vm₁ hW₁ => ⟨hf.1, hf.2, hp.2 (T.setVm vm₁) hT hW₁⟩) with ⟨v, vm₁, ⟨U', l2, c2, s2⟩, hW₁, X', ⟨g', mk, t, L, e1, e2, hq, h1, hL, h2, h3⟩, st⟩ | ⟨q, vm₁, ⟨U', l2, c2, s2⟩, hW₁, X', ⟨g', mk, t, L, E, ce, e1, e2, hq, hce, hcv, hcl, h1, hL, h2, h3⟩, st⟩
  · dsimp only [Pt.U, Pt.locs, Pt.cells, Pt.slots] at X' e1 e2 h1 h2 h3 st
    subst h1; subst h2; subst h3
    exact Or.inl ⟨v, (T.setVm vm₁).calling g' mk As.toArray, t, U', L, hT, X', hL, e1, e2, hq, st⟩
  · dsimp only [Pt.U, Pt.locs, Pt.cells, Pt.slots] at X' e1 e2 h1 h2 h3 st hcl
    subst h1; subst h2; subst h3
    exact Or.inr ⟨q, (T.setVm vm₁).calling g' mk As.toArray, t, U', L, E, ce, hT, X', hL, e1, e2, hq, hce, hcv, vx_cls hW₁ hcl, st⟩
end
end VXH
end
section
def s_nm : Nat → String := fun k => match k with
  | 0 => "DISTANCES_256"
  | 1 => "DISTANCES_512"
  | 2 => "START_256"
  | 3 => "START_224"
  | 4 => "START_512"
  | 5 => "START_384"
  | 6 => "START_512_224"
  | 7 => "START_512_256"
  | 8 => "CUBE_ROOTS"
  | 9 => "ROUND_CONSTANTS"
  | 10 => "LANE_TURNS"
  | _ => "LANE_TARGETS"
def s_ds : Nat → String := fun k => match k with
  | 0 => "[I"
  | 1 => "[I"
  | 2 => "[J"
  | 3 => "[J"
  | 4 => "[J"
  | 5 => "[J"
  | 6 => "[J"
  | 7 => "[J"
  | 8 => "[J"
  | 9 => "[J"
  | 10 => "[I"
  | _ => "[I"
def s_ty : Nat → FieldType := fun k => match k with
  | 0 => .int
  | 1 => .int
  | 2 => .long
  | 3 => .long
  | 4 => .long
  | 5 => .long
  | 6 => .long
  | 7 => .long
  | 8 => .long
  | 9 => .long
  | 10 => .int
  | _ => .int
def s_N : Nat → Nat := fun k => match k with
  | 0 => 12
  | 1 => 12
  | 2 => 8
  | 3 => 8
  | 4 => 8
  | 5 => 8
  | 6 => 8
  | 7 => 8
  | 8 => 80
  | 9 => 24
  | 10 => 25
  | _ => 25
def sv_0 : List Int32 := [2, 13, 22, 6, 11, 25, 7, 18, 3, 17, 19, 10]
def sv_1 : List Int32 := [28, 34, 39, 14, 18, 41, 1, 8, 7, 19, 61, 6]
def sv_2 : List Int64 := [1779033703, 3144134277, 1013904242, 2773480762, 1359893119, 2600822924, 528734635, 1541459225]
def sv_3 : List Int64 := [3238371032, 914150663, 812702999, 4144912697, 4290775857, 1750603025, 1694076839, 3204075428]
def sv_4 : List Int64 := [7640891576956012808, (-4942790177534073029), 4354685564936845355, (-6534734903238641935), 5840696475078001361, (-7276294671716946913), 2270897969802886507, 6620516959819538809]
def sv_5 : List Int64 := [(-3766243637369397544), 7105036623409894663, (-7973340178411365097), 1526699215303891257, 7436329637833083697, (-8163818279084223215), (-2662702644619276377), 5167115440072839076]
def sv_6 : List Int64 := [(-8341449602262348382), 8350123849800275158, 2160240930085379202, 7466358040605728719, 1111592415079452072, 8638871050018654530, 4583966954114332360, 1230299281376055969]
def sv_7 : List Int64 := [2463787394917988140, (-6965556091613846334), 2563595384472711505, (-7622211418569250115), (-7626776825740460061), (-4729309413028513390), 3098927326965381290, 1060366662362279074]
def sv_8 : List Int64 := [4794697086780616226, 8158064640168781261, (-5349999486874862801), (-1606136188198331460), 4131703408338449720, 6480981068601479193, (-7908458776815382629), (-6116909921290321640), (-2880145864133508542), 1334009975649890238, 2608012711638119052, 6128411473006802146, 8268148722764581231, (-9160688886553864527), (-7215885187991268811), (-4495734319001033068), (-1973867731355612462), (-1171420211273849373), 1135362057144423861, 2597628984639134821, 3308224258029322869, 5365058923640841347, 6679025012923562964, 8573033837759648693, (-7476448914759557205), (-6327057829258317296), (-5763719355590565569), (-4658551843659510044), (-4116276920077217854), (-3051310485924567259), 489312712824947311, 1452737877330783856, 2861767655752347644, 3322285676063803686, 5560940570517711597, 5996557281743188959, 7280758554555802590, 8532644243296465576, (-9096487096722542874), (-7894198246740708037), (-6719396339535248540), (-6333637450476146687), (-4446306890439682159), (-4076793802049405392), (-3345356375505022440), (-2983346525034927856), (-860691631967231958), 1182934255886127544, 1847814050463011016, 2177327727835720531, 2830643537854262169, 3796741975233480872, 4115178125766777443, 5681478168544905931, 6601373596472566643, 7507060721942968483, 8399075790359081724, 8693463985226723168, (-8878714635349349518), (-8302665154208450068), (-8016688836872298968), (-6606660893046293015), (-4685533653050689259), (-4147400797238176981), (-3880063495543823972), (-3348786107499101689), (-1523767162380948706), (-757361751448694408), 500013540394364858, 748580250866718886, 1242879168328830382, 1977374033974150939, 2944078676154940804, 3659926193048069267, 4368137639120453308, 4836135668995329356, 5532061633213252278, 6448918945643986474, 6902733635092675308, 7801388544844847127]
def sv_9 : List Int64 := [1, 32898, (-9223372036854742902), (-9223372034707259392), 32907, 2147483649, (-9223372034707259263), (-9223372036854743031), 138, 136, 2147516425, 2147483658, 2147516555, (-9223372036854775669), (-9223372036854742903), (-9223372036854743037), (-9223372036854743038), (-9223372036854775680), 32778, (-9223372034707292150), (-9223372034707259263), (-9223372036854742912), 2147483649, (-9223372034707259384)]
def sv_10 : List Int32 := [0, 1, 62, 28, 27, 36, 44, 6, 55, 20, 3, 10, 43, 25, 39, 41, 45, 15, 21, 8, 18, 2, 61, 56, 14]
def sv_11 : List Int32 := [0, 10, 20, 5, 15, 16, 1, 11, 21, 6, 7, 17, 2, 12, 22, 23, 8, 18, 3, 13, 14, 24, 9, 19, 4]
def s_l : Nat → Nat → Int64 := fun k => match k with
  | 0 => fun _ => 0
  | 1 => fun _ => 0
  | 2 => fun j => sv_2.getD j 0
  | 3 => fun j => sv_3.getD j 0
  | 4 => fun j => sv_4.getD j 0
  | 5 => fun j => sv_5.getD j 0
  | 6 => fun j => sv_6.getD j 0
  | 7 => fun j => sv_7.getD j 0
  | 8 => fun j => sv_8.getD j 0
  | 9 => fun j => sv_9.getD j 0
  | 10 => fun _ => 0
  | _ => fun _ => 0
def s_i : Nat → Nat → Int32 := fun k => match k with
  | 0 => fun j => sv_0.getD j 0
  | 1 => fun j => sv_1.getD j 0
  | 2 => fun _ => 0
  | 3 => fun _ => 0
  | 4 => fun _ => 0
  | 5 => fun _ => 0
  | 6 => fun _ => 0
  | 7 => fun _ => 0
  | 8 => fun _ => 0
  | 9 => fun _ => 0
  | 10 => fun j => sv_10.getD j 0
  | _ => fun j => sv_11.getD j 0
def s_f (k : Nat) : Nat → Value := fun j => match s_ty k with
  | .int => .int (s_i k j)
  | _ => .long (s_l k j)
theorem s_fi {k : Nat} (h : s_ty k = .int) (j : Nat) : s_f k j = .int (s_i k j) := by unfold s_f; rw [h]
theorem s_fl {k : Nat} (h : s_ty k = .long) (j : Nat) : s_f k j = .long (s_l k j) := by unfold s_f; rw [h]
theorem s_N_lt : ∀ k, k < 12 → s_N k < 2 ^ 31 := by decide +kernel
def isNest (w : Cond) : Bool := match w with
  | .fieldLinkNest .. => true
  | .methodLinkNest .. => true
  | _ => false
theorem nest_all : nestWords.all isNest = true := by decide +kernel
theorem nest_is {w : Cond} (h : w ∈ nestWords) : isNest w = true := List.all_eq_true.mp nest_all w h
theorem nest_on {w : Cond} (h : w ∈ nestWords) : w.onTables = true := by
  have h1 := nest_is h
  cases w <;> first | rfl | exact absurd h1 (by simp [isNest])
theorem nest_warm {w : Cond} {s U : State} (h : w ∈ nestWords) (hW : s.WarmedH U.vm) (hZ : va_Nw w s) : va_Nw w U := by
  have h1 := nest_is h
  cases w <;> first | exact va_Nw.warmF hW hZ | exact va_Nw.warmM hW hZ | exact absurd h1 (by simp [isNest])
theorem by_fits (x : Int8) : fits .byte (.int x.toInt32) = true := by
  have h : x.toInt32.toInt8.toInt32 = x.toInt32 := by rw [Int8.toInt8_toInt32]
  rw [← h]
  exact pk_fb _
theorem cpy_bt (f g : Nat → Int8) (sp dp k : Nat) : va_cpy (fun j => (f j).toInt32) (fun j => (g j).toInt32) sp dp k = fun j => (va_cpy f g sp dp k j).toInt32 := by
  funext j
  unfold va_cpy
  by_cases h : dp ≤ j ∧ j < dp + k
  · rw [if_pos h, if_pos h]
  · rw [if_neg h, if_neg h]
section GB
abbrev Bx : Type := va_G × (Nat → ClassId) × Nat × (Nat → Nat) × (Nat → Nat)
abbrev b_z (B : Bx) : Nat := B.2.2.1
abbrev b_t (B : Bx) : Nat → Nat := B.2.2.2.1
abbrev b_s (B : Bx) : Nat → Nat := B.2.2.2.2
abbrev b_c (B : Bx) : Nat → ClassId := B.2.1
abbrev b_y (B : Bx) : List (ClassId × FieldType) := [(b_c B 0, .byte), (b_c B 1, .long), (b_c B 2, .int), (b_c B 3, .object "SpongeDigests$Bytes"), (b_c B 4, .array .byte)]
abbrev Mx : Type := Program × Launch × Env × Room × State × MethodId × Array Value × List Frame × Method × Code × (Nat → Prop)
abbrev m_p (M : Mx) : Program := M.1
abbrev m_l (M : Mx) : Launch := M.2.1
abbrev m_e (M : Mx) : Env := M.2.2.1
abbrev m_R (M : Mx) : Room := M.2.2.2.1
abbrev m_s (M : Mx) : State := M.2.2.2.2.1
abbrev m_m (M : Mx) : MethodId := M.2.2.2.2.2.1
abbrev m_a (M : Mx) : Array Value := M.2.2.2.2.2.2.1
abbrev m_b (M : Mx) : List Frame := M.2.2.2.2.2.2.2.1
abbrev m_h (M : Mx) : Method := M.2.2.2.2.2.2.2.2.1
abbrev m_c (M : Mx) : Code := M.2.2.2.2.2.2.2.2.2.1
abbrev m_A (M : Mx) : Nat → Prop := M.2.2.2.2.2.2.2.2.2.2
abbrev cb (B : Bx) (a n : Nat) (g : Nat → Int8) : Nat × va_E := (a, .inl (b_c B 0, n, .inl (fun j => (g j).toInt32)))
abbrev cj (B : Bx) (a n : Nat) (f : Nat → Int64) : Nat × va_E := (a, .inl (b_c B 1, n, .inr (.inl f)))
abbrev cn (B : Bx) (a n : Nat) (f : Nat → Int32) : Nat × va_E := (a, .inl (b_c B 2, n, .inl f))
abbrev cr (B : Bx) (a n : Nat) (f : Nat → Option Nat) : Nat × va_E := (a, .inl (b_c B 3, n, .inr (.inr (.inr (.inr f)))))
abbrev cq (B : Bx) (a n : Nat) (f : Nat → Option Nat) : Nat × va_E := (a, .inl (b_c B 4, n, .inr (.inr (.inr (.inr f)))))
abbrev co (a k : Nat) (fs : List Value) : Nat × va_E := (a, .inr (k, fs))
abbrev nIAE : String := "java/lang/IllegalArgumentException"
abbrev nIOO : String := "java/lang/IndexOutOfBoundsException"
def st_k : Nat → Nat := fun i => match i with | 0 => 71 | 1 => 88 | 2 => 146 | _ => 149
def st_t : Nat → String := fun i => match i with | 0 => "the tape is full" | 1 => "the tape has fewer bytes" | 2 => "a number is out of range" | _ => "the slot has no such byte"
def exWords : List Cond := [.castable nIAE nIAE, .castable nIOO nIOO, .declares ⟨"java/lang/RuntimeException", "<init>", "(Ljava/lang/String;)V"⟩, .declares ⟨"java/lang/Exception", "<init>", "(Ljava/lang/String;)V"⟩, .declares ⟨"java/lang/Throwable", "<init>", "(Ljava/lang/String;)V"⟩]
def isEx (w : Cond) : Bool := match w with
  | .castable .. => true
  | .declares .. => true
  | _ => false
theorem ex_is {w : Cond} (h : w ∈ exWords) : isEx w = true := List.all_eq_true.mp (show exWords.all isEx = true by decide +kernel) w h
theorem ex_on {w : Cond} (h : w ∈ exWords) : w.onTables = true := by
  have h1 := ex_is h
  cases w <;> first | rfl | exact absurd h1 (by simp [isEx])
theorem ex_warm {w : Cond} {s U : State} (h : w ∈ exWords) (hW : s.WarmedH U.vm) (hZ : va_Nw w s) : va_Nw w U := by
  have h1 := ex_is h
  cases w <;> first | exact va_Nw.warmC hW hZ | exact va_Nw.warmD hW hZ | exact absurd h1 (by simp [isEx])
def EX (B : Bx) (U : State) : Prop := vx_Zq Bundle.tN "UNASSIGNED_STACK" Bundle.steD (fun q => b_z B ≤ q) U U.heap ∧ vx_Zq Bundle.tN "SUPPRESSED_SENTINEL" Bundle.listD (fun q => b_z B ≤ q) U U.heap ∧ (∀ i, i < 4 → vk_R "SpongeDigests" (st_k i) (st_t i) (b_s B i) U) ∧ (∀ w ∈ exWords, va_Nw w U) ∧ va_Nc nIOO nIAE U
def KX (B : Bx) (U : State) : Prop := b_z B ≤ U.heap.size ∧ (∀ w ∈ nestWords, va_Nw w U) ∧ (∀ k, k < 12 → va_Z "SpongeDigests" (s_nm k) (s_ds k) (.ref (b_t B k)) (fun q => b_z B ≤ q) U U.heap ∧ va_T (s_ty k) (b_t B k) (s_N k) (s_f k) (fun q => b_z B ≤ q) U U.heap) ∧ EX B U
def CX (B : Bx) (M : Mx) (cc : ByteArray) (nL : Nat) (own : String) : Prop :=
  (m_p M).tables.exec = Jvm.exec ∧ (m_c M).code = cc ∧ (m_c M).maxLocals = nL ∧ (m_s M).vm.findClass own = some (m_m M).cls ∧ (∀ w ∈ W0, w.before (m_a M) (m_s M) = true) ∧ va_K B.1 classes (b_y B) (m_s M) ∧ (∀ q, (m_s M).heap.size ≤ q → m_A M q) ∧ (∀ q, m_A M q → b_z B ≤ q) ∧ KX B (m_s M)
theorem CX.x {B : Bx} {M : Mx} {cc : ByteArray} {nL : Nat} {own : String} (X : CX B M cc nL own) : (m_p M).tables.exec = Jvm.exec := X.1
theorem CX.b {B : Bx} {M : Mx} {cc : ByteArray} {nL : Nat} {own : String} (X : CX B M cc nL own) : (m_c M).code = cc := X.2.1
theorem CX.n {B : Bx} {M : Mx} {cc : ByteArray} {nL : Nat} {own : String} (X : CX B M cc nL own) : (m_c M).maxLocals = nL := X.2.2.1
theorem CX.o {B : Bx} {M : Mx} {cc : ByteArray} {nL : Nat} {own : String} (X : CX B M cc nL own) : (m_s M).vm.findClass own = some (m_m M).cls := X.2.2.2.1
theorem CX.t {B : Bx} {M : Mx} {cc : ByteArray} {nL : Nat} {own : String} (X : CX B M cc nL own) : ∀ w ∈ W0, w.before (m_a M) (m_s M) = true := X.2.2.2.2.1
theorem CX.k {B : Bx} {M : Mx} {cc : ByteArray} {nL : Nat} {own : String} (X : CX B M cc nL own) : va_K B.1 classes (b_y B) (m_s M) := X.2.2.2.2.2.1
theorem CX.A {B : Bx} {M : Mx} {cc : ByteArray} {nL : Nat} {own : String} (X : CX B M cc nL own) : ∀ q, (m_s M).heap.size ≤ q → m_A M q := X.2.2.2.2.2.2.1
theorem CX.z {B : Bx} {M : Mx} {cc : ByteArray} {nL : Nat} {own : String} (X : CX B M cc nL own) : ∀ q, m_A M q → b_z B ≤ q := X.2.2.2.2.2.2.2.1
theorem CX.s {B : Bx} {M : Mx} {cc : ByteArray} {nL : Nat} {own : String} (X : CX B M cc nL own) : KX B (m_s M) := X.2.2.2.2.2.2.2.2
def G (B : Bx) (M : Mx) (nL n1 n2 : Nat) (Q : State → Prop) (ws : va_W) (lv : List (Nat × Value)) (pc : Nat) (st : List Value) : Prop :=
  ∀ (H : Heap) (locs : List Loc) (ls : Array Slot), va_P B.1 classes ws H → va_D (m_A M) ws → va_S (m_A M) (m_s M).heap H locs → lv_has ls nL lv →
    W (m_p M) (m_l M) (m_e M) (m_R M) (m_s M) (m_m M) (m_a M) (m_b M) (m_h M) (m_c M) H locs n1 n2 Q (F0 (m_m M) pc ls st)
def lvq (lv : List (Nat × Value)) (i : Nat) : Option Value := (lv.find? (fun q => q.1 == i)).map (fun q => q.2)
theorem lvq_mem {lv : List (Nat × Value)} {i : Nat} {v : Value} (h : lvq lv i = some v) : (i, v) ∈ lv := by
  unfold lvq at h
  cases hf : lv.find? (fun q => q.1 == i) with
  | none => rw [hf] at h; cases h
  | some q =>
    rw [hf] at h
    have h1 := List.find?_some hf
    have h2 := List.mem_of_find?_eq_some hf
    have h3 : q.1 = i := by simpa using h1
    have h4 : q.2 = v := by simpa using h
    obtain ⟨q1, q2⟩ := q
    subst h3
    subst h4
    exact h2
theorem lvq_at {ls : Array Slot} {nL : Nat} {lv : List (Nat × Value)} (h : lv_has ls nL lv) {i : Nat} {v : Value} (hq : lvq lv i = some v) : ls[i]? = some (.val v) := h.2.2 (i, v) (lvq_mem hq)
variable {B : Bx} {M : Mx} {cc : ByteArray} {nL n1 n2 : Nat} {own : String} {Q : State → Prop} {ws : va_W} {lv : List (Nat × Value)} {pc : Nat} {st rest : List Value}
theorem g_lv (lv' : List (Nat × Value)) (h : lv'.map (fun q => lvq lv q.1) = lv'.map (fun q => some q.2)) (k : G B M nL n1 n2 Q ws lv' pc st) : G B M nL n1 n2 Q ws lv pc st := by
  intro H locs ls hP hD hS hl
  refine k H locs ls hP hD hS ⟨hl.1, hl.2.1, fun q hq => ?_⟩
  obtain ⟨i, hi⟩ := List.getElem?_of_mem hq
  have h1 : (lv'.map (fun q => lvq lv q.1))[i]? = (lv'.map (fun q => some q.2))[i]? := by rw [h]
  rw [List.getElem?_map, List.getElem?_map, hi] at h1
  exact lvq_at hl (Option.some.inj h1)
theorem g_ws (ws' : va_W) (is : List Nat) (hn : va_nd is = true) (h : is.map (fun i => ws[i]?) = ws'.map some) (k : G B M nL n1 n2 Q ws' lv pc st) : G B M nL n1 n2 Q ws lv pc st := by
  intro H locs ls hP hD hS hl
  refine k H locs ls (fun i q hq => ?_) (hD.sub is hn h) hS hl
  have h1 : (is.map (fun i => ws[i]?))[i]? = (ws'.map some)[i]? := by rw [h]
  rw [List.getElem?_map, List.getElem?_map, hq] at h1
  cases hi : is[i]? with
  | none => rw [hi] at h1; cases h1
  | some j => rw [hi] at h1; exact hP j q (Option.some.inj h1)
theorem g_widen (k n : Nat) (h1 : n1 ≤ k) (h2 : n2 ≤ n) (kk : G B M nL k n Q ws lv pc st) : G B M nL n1 n2 Q ws lv pc st := fun H locs ls hP hD hS hl => W.widen h1 h2 (kk H locs ls hP hD hS hl)
theorem g_topi {x : Int32} (k : ∀ y : Int32, y = x → G B M nL n1 n2 Q ws lv pc (.int y :: rest)) : G B M nL n1 n2 Q ws lv pc (.int x :: rest) := k x rfl
theorem g_topl {x : Int64} (k : ∀ y : Int64, y = x → G B M nL n1 n2 Q ws lv pc (.long y :: rest)) : G B M nL n1 n2 Q ws lv pc (.long x :: rest) := k x rfl
theorem g_seti {x : Int32} (y : Int32) (h : x = y) (k : G B M nL n1 n2 Q ws lv pc (.int y :: rest)) : G B M nL n1 n2 Q ws lv pc (.int x :: rest) := h ▸ k
theorem g_setl {x : Int64} (y : Int64) (h : x = y) (k : G B M nL n1 n2 Q ws lv pc (.long y :: rest)) : G B M nL n1 n2 Q ws lv pc (.long x :: rest) := h ▸ k
theorem g_iconst (X : CX B M cc nL own) {n : Int} {v : Int32} (hdg : decode cc pc = .ok (.iconst n, 1)) (hv : Int32.ofInt n = v) (k : G B M nL n1 n2 Q ws lv (pc + 1) (.int v :: rest)) : G B M nL n1 n2 Q ws lv pc (rest) :=
  fun H locs ls hP hD hS hl0 => lv_iconst X.x X.b hdg hv (k H locs ls hP hD hS hl0)
theorem g_bipush (X : CX B M cc nL own) {n : Int} {v : Int32} (hdg : decode cc pc = .ok (.bipush n, 2)) (hv : (Int8.ofInt n).toInt32 = v) (k : G B M nL n1 n2 Q ws lv (pc + 2) (.int v :: rest)) : G B M nL n1 n2 Q ws lv pc (rest) :=
  fun H locs ls hP hD hS hl0 => lv_bipush X.x X.b hdg hv (k H locs ls hP hD hS hl0)
theorem g_sipush (X : CX B M cc nL own) {n : Int} {v : Int32} (hdg : decode cc pc = .ok (.sipush n, 3)) (hv : (Int16.ofInt n).toInt32 = v) (k : G B M nL n1 n2 Q ws lv (pc + 3) (.int v :: rest)) : G B M nL n1 n2 Q ws lv pc (rest) :=
  fun H locs ls hP hD hS hl0 => lv_sipush X.x X.b hdg hv (k H locs ls hP hD hS hl0)
theorem g_lconst (X : CX B M cc nL own) {n : Fin 2} {v : Int64} (hdg : decode cc pc = .ok (.lconst n, 1)) (hv : Int64.ofNat (n : Nat) = v) (k : G B M nL n1 n2 Q ws lv (pc + 1) (.long v :: rest)) : G B M nL n1 n2 Q ws lv pc (rest) :=
  fun H locs ls hP hD hS hl0 => lv_lconst X.x X.b hdg hv (k H locs ls hP hD hS hl0)
theorem g_iload_n (X : CX B M cc nL own) {k : Fin 4} {i : Nat} {x : Int32} (hdg : decode cc pc = .ok (.iload_n k, 1)) (hi : (k : Nat) = i) (hl : lvq lv i = some (.int x)) (k : G B M nL n1 n2 Q ws lv (pc + 1) (.int x :: rest)) : G B M nL n1 n2 Q ws lv pc (rest) :=
  fun H locs ls hP hD hS hl0 => lv_iload_n X.x X.b hdg hi (lvq_at hl0 hl) (k H locs ls hP hD hS hl0)
theorem g_iload (X : CX B M cc nL own) {i : Nat} {x : Int32} (hdg : decode cc pc = .ok (.iload i, 2)) (hl : lvq lv i = some (.int x)) (k : G B M nL n1 n2 Q ws lv (pc + 2) (.int x :: rest)) : G B M nL n1 n2 Q ws lv pc (rest) :=
  fun H locs ls hP hD hS hl0 => lv_iload X.x X.b hdg (lvq_at hl0 hl) (k H locs ls hP hD hS hl0)
theorem g_lload_n (X : CX B M cc nL own) {k : Fin 4} {i : Nat} {x : Int64} (hdg : decode cc pc = .ok (.lload_n k, 1)) (hi : (k : Nat) = i) (hl : lvq lv i = some (.long x)) (k : G B M nL n1 n2 Q ws lv (pc + 1) (.long x :: rest)) : G B M nL n1 n2 Q ws lv pc (rest) :=
  fun H locs ls hP hD hS hl0 => lv_lload_n X.x X.b hdg hi (lvq_at hl0 hl) (k H locs ls hP hD hS hl0)
theorem g_lload (X : CX B M cc nL own) {i : Nat} {x : Int64} (hdg : decode cc pc = .ok (.lload i, 2)) (hl : lvq lv i = some (.long x)) (k : G B M nL n1 n2 Q ws lv (pc + 2) (.long x :: rest)) : G B M nL n1 n2 Q ws lv pc (rest) :=
  fun H locs ls hP hD hS hl0 => lv_lload X.x X.b hdg (lvq_at hl0 hl) (k H locs ls hP hD hS hl0)
theorem g_aload_n (X : CX B M cc nL own) {k : Fin 4} {i : Nat} {x : Nat} (hdg : decode cc pc = .ok (.aload_n k, 1)) (hi : (k : Nat) = i) (hl : lvq lv i = some (.ref x)) (k : G B M nL n1 n2 Q ws lv (pc + 1) (.ref x :: rest)) : G B M nL n1 n2 Q ws lv pc (rest) :=
  fun H locs ls hP hD hS hl0 => lv_aload_n X.x X.b hdg hi (lvq_at hl0 hl) (k H locs ls hP hD hS hl0)
theorem g_aload (X : CX B M cc nL own) {i : Nat} {x : Nat} (hdg : decode cc pc = .ok (.aload i, 2)) (hl : lvq lv i = some (.ref x)) (k : G B M nL n1 n2 Q ws lv (pc + 2) (.ref x :: rest)) : G B M nL n1 n2 Q ws lv pc (rest) :=
  fun H locs ls hP hD hS hl0 => lv_aload X.x X.b hdg (lvq_at hl0 hl) (k H locs ls hP hD hS hl0)
theorem g_istore_n (X : CX B M cc nL own) {k : Fin 4} {i : Nat} {x : Int32} (hdg : decode cc pc = .ok (.istore_n k, 1)) (hi : (k : Nat) = i) (hn : i < nL) (kk : G B M nL n1 n2 Q ws ((i, Value.int x) :: lv.filter (fun q => !(q.1 == i) && !(q.1 + 1 == i && q.2.category == 2))) (pc + 1) rest) : G B M nL n1 n2 Q ws lv pc (.int x :: rest) :=
  fun H locs ls hP hD hS hl0 => lv_istore_n X.x X.b hdg hi hl0 hn rfl (fun ls' hl' => kk H locs ls' hP hD hS hl')
theorem g_istore (X : CX B M cc nL own) {i : Nat} {x : Int32} (hdg : decode cc pc = .ok (.istore i, 2)) (hn : i < nL) (kk : G B M nL n1 n2 Q ws ((i, Value.int x) :: lv.filter (fun q => !(q.1 == i) && !(q.1 + 1 == i && q.2.category == 2))) (pc + 2) rest) : G B M nL n1 n2 Q ws lv pc (.int x :: rest) :=
  fun H locs ls hP hD hS hl0 => lv_istore X.x X.b hdg hl0 hn rfl (fun ls' hl' => kk H locs ls' hP hD hS hl')
theorem g_lstore_n (X : CX B M cc nL own) {k : Fin 4} {i : Nat} {x : Int64} (hdg : decode cc pc = .ok (.lstore_n k, 1)) (hi : (k : Nat) = i) (hn : i + 1 < nL) (kk : G B M nL n1 n2 Q ws ((i, Value.long x) :: lv.filter (fun q => !(q.1 == i) && (!(q.1 == i + 1) && !(q.1 + 1 == i && q.2.category == 2)))) (pc + 1) rest) : G B M nL n1 n2 Q ws lv pc (.long x :: rest) :=
  fun H locs ls hP hD hS hl0 => lv_lstore_n X.x X.b hdg hi hl0 hn rfl (fun ls' hl' => kk H locs ls' hP hD hS hl')
theorem g_lstore (X : CX B M cc nL own) {i : Nat} {x : Int64} (hdg : decode cc pc = .ok (.lstore i, 2)) (hn : i + 1 < nL) (kk : G B M nL n1 n2 Q ws ((i, Value.long x) :: lv.filter (fun q => !(q.1 == i) && (!(q.1 == i + 1) && !(q.1 + 1 == i && q.2.category == 2)))) (pc + 2) rest) : G B M nL n1 n2 Q ws lv pc (.long x :: rest) :=
  fun H locs ls hP hD hS hl0 => lv_lstore X.x X.b hdg hl0 hn rfl (fun ls' hl' => kk H locs ls' hP hD hS hl')
theorem g_astore_n (X : CX B M cc nL own) {k : Fin 4} {i : Nat} {x : Nat} (hdg : decode cc pc = .ok (.astore_n k, 1)) (hi : (k : Nat) = i) (hn : i < nL) (kk : G B M nL n1 n2 Q ws ((i, Value.ref x) :: lv.filter (fun q => !(q.1 == i) && !(q.1 + 1 == i && q.2.category == 2))) (pc + 1) rest) : G B M nL n1 n2 Q ws lv pc (.ref x :: rest) :=
  fun H locs ls hP hD hS hl0 => lv_astore_n X.x X.b hdg hi hl0 hn rfl (fun ls' hl' => kk H locs ls' hP hD hS hl')
theorem g_astore (X : CX B M cc nL own) {i : Nat} {x : Nat} (hdg : decode cc pc = .ok (.astore i, 2)) (hn : i < nL) (kk : G B M nL n1 n2 Q ws ((i, Value.ref x) :: lv.filter (fun q => !(q.1 == i) && !(q.1 + 1 == i && q.2.category == 2))) (pc + 2) rest) : G B M nL n1 n2 Q ws lv pc (.ref x :: rest) :=
  fun H locs ls hP hD hS hl0 => lv_astore X.x X.b hdg hl0 hn rfl (fun ls' hl' => kk H locs ls' hP hD hS hl')
theorem g_iadd (X : CX B M cc nL own) {x y : Int32} (hdg : decode cc pc = .ok (.iadd, 1)) (k : G B M nL n1 n2 Q ws lv (pc + 1) (.int (x + y) :: rest)) : G B M nL n1 n2 Q ws lv pc (.int y :: .int x :: rest) :=
  fun H locs ls hP hD hS hl0 => lv_iadd X.x X.b hdg (k H locs ls hP hD hS hl0)
theorem g_isub (X : CX B M cc nL own) {x y : Int32} (hdg : decode cc pc = .ok (.isub, 1)) (k : G B M nL n1 n2 Q ws lv (pc + 1) (.int (x - y) :: rest)) : G B M nL n1 n2 Q ws lv pc (.int y :: .int x :: rest) :=
  fun H locs ls hP hD hS hl0 => lv_isub X.x X.b hdg (k H locs ls hP hD hS hl0)
theorem g_imul (X : CX B M cc nL own) {x y : Int32} (hdg : decode cc pc = .ok (.imul, 1)) (k : G B M nL n1 n2 Q ws lv (pc + 1) (.int (x * y) :: rest)) : G B M nL n1 n2 Q ws lv pc (.int y :: .int x :: rest) :=
  fun H locs ls hP hD hS hl0 => lv_imul X.x X.b hdg (k H locs ls hP hD hS hl0)
theorem g_iand (X : CX B M cc nL own) {x y : Int32} (hdg : decode cc pc = .ok (.iand, 1)) (k : G B M nL n1 n2 Q ws lv (pc + 1) (.int (x &&& y) :: rest)) : G B M nL n1 n2 Q ws lv pc (.int y :: .int x :: rest) :=
  fun H locs ls hP hD hS hl0 => lv_iand X.x X.b hdg (k H locs ls hP hD hS hl0)
theorem g_ior (X : CX B M cc nL own) {x y : Int32} (hdg : decode cc pc = .ok (.ior, 1)) (k : G B M nL n1 n2 Q ws lv (pc + 1) (.int (x ||| y) :: rest)) : G B M nL n1 n2 Q ws lv pc (.int y :: .int x :: rest) :=
  fun H locs ls hP hD hS hl0 => lv_ior X.x X.b hdg (k H locs ls hP hD hS hl0)
theorem g_ixor (X : CX B M cc nL own) {x y : Int32} (hdg : decode cc pc = .ok (.ixor, 1)) (k : G B M nL n1 n2 Q ws lv (pc + 1) (.int (x ^^^ y) :: rest)) : G B M nL n1 n2 Q ws lv pc (.int y :: .int x :: rest) :=
  fun H locs ls hP hD hS hl0 => lv_ixor X.x X.b hdg (k H locs ls hP hD hS hl0)
theorem g_idiv (X : CX B M cc nL own) {x y : Int32} (hdg : decode cc pc = .ok (.idiv, 1)) (hne : ¬ y = 0) (k : G B M nL n1 n2 Q ws lv (pc + 1) (.int (x / y) :: rest)) : G B M nL n1 n2 Q ws lv pc (.int y :: .int x :: rest) :=
  fun H locs ls hP hD hS hl0 => lv_idiv X.x X.b hdg hne (k H locs ls hP hD hS hl0)
theorem g_irem (X : CX B M cc nL own) {x y : Int32} (hdg : decode cc pc = .ok (.irem, 1)) (hne : ¬ y = 0) (k : G B M nL n1 n2 Q ws lv (pc + 1) (.int (x - x / y * y) :: rest)) : G B M nL n1 n2 Q ws lv pc (.int y :: .int x :: rest) :=
  fun H locs ls hP hD hS hl0 => lv_irem X.x X.b hdg hne (k H locs ls hP hD hS hl0)
theorem g_ineg (X : CX B M cc nL own) {x : Int32} (hdg : decode cc pc = .ok (.ineg, 1)) (k : G B M nL n1 n2 Q ws lv (pc + 1) (.int (-x) :: rest)) : G B M nL n1 n2 Q ws lv pc (.int x :: rest) :=
  fun H locs ls hP hD hS hl0 => lv_ineg X.x X.b hdg (k H locs ls hP hD hS hl0)
theorem g_ladd (X : CX B M cc nL own) {x y : Int64} (hdg : decode cc pc = .ok (.ladd, 1)) (k : G B M nL n1 n2 Q ws lv (pc + 1) (.long (x + y) :: rest)) : G B M nL n1 n2 Q ws lv pc (.long y :: .long x :: rest) :=
  fun H locs ls hP hD hS hl0 => lv_ladd X.x X.b hdg (k H locs ls hP hD hS hl0)
theorem g_lsub (X : CX B M cc nL own) {x y : Int64} (hdg : decode cc pc = .ok (.lsub, 1)) (k : G B M nL n1 n2 Q ws lv (pc + 1) (.long (x - y) :: rest)) : G B M nL n1 n2 Q ws lv pc (.long y :: .long x :: rest) :=
  fun H locs ls hP hD hS hl0 => lv_lsub X.x X.b hdg (k H locs ls hP hD hS hl0)
theorem g_lmul (X : CX B M cc nL own) {x y : Int64} (hdg : decode cc pc = .ok (.lmul, 1)) (k : G B M nL n1 n2 Q ws lv (pc + 1) (.long (x * y) :: rest)) : G B M nL n1 n2 Q ws lv pc (.long y :: .long x :: rest) :=
  fun H locs ls hP hD hS hl0 => lv_lmul X.x X.b hdg (k H locs ls hP hD hS hl0)
theorem g_land (X : CX B M cc nL own) {x y : Int64} (hdg : decode cc pc = .ok (.land, 1)) (k : G B M nL n1 n2 Q ws lv (pc + 1) (.long (x &&& y) :: rest)) : G B M nL n1 n2 Q ws lv pc (.long y :: .long x :: rest) :=
  fun H locs ls hP hD hS hl0 => lv_land X.x X.b hdg (k H locs ls hP hD hS hl0)
theorem g_lor (X : CX B M cc nL own) {x y : Int64} (hdg : decode cc pc = .ok (.lor, 1)) (k : G B M nL n1 n2 Q ws lv (pc + 1) (.long (x ||| y) :: rest)) : G B M nL n1 n2 Q ws lv pc (.long y :: .long x :: rest) :=
  fun H locs ls hP hD hS hl0 => lv_lor X.x X.b hdg (k H locs ls hP hD hS hl0)
theorem g_lxor (X : CX B M cc nL own) {x y : Int64} (hdg : decode cc pc = .ok (.lxor, 1)) (k : G B M nL n1 n2 Q ws lv (pc + 1) (.long (x ^^^ y) :: rest)) : G B M nL n1 n2 Q ws lv pc (.long y :: .long x :: rest) :=
  fun H locs ls hP hD hS hl0 => lv_lxor X.x X.b hdg (k H locs ls hP hD hS hl0)
theorem g_ldiv (X : CX B M cc nL own) {x y : Int64} (hdg : decode cc pc = .ok (.ldiv, 1)) (hne : ¬ y = 0) (k : G B M nL n1 n2 Q ws lv (pc + 1) (.long (x / y) :: rest)) : G B M nL n1 n2 Q ws lv pc (.long y :: .long x :: rest) :=
  fun H locs ls hP hD hS hl0 => lv_ldiv X.x X.b hdg hne (k H locs ls hP hD hS hl0)
theorem g_lrem (X : CX B M cc nL own) {x y : Int64} (hdg : decode cc pc = .ok (.lrem, 1)) (hne : ¬ y = 0) (k : G B M nL n1 n2 Q ws lv (pc + 1) (.long (x - x / y * y) :: rest)) : G B M nL n1 n2 Q ws lv pc (.long y :: .long x :: rest) :=
  fun H locs ls hP hD hS hl0 => lv_lrem X.x X.b hdg hne (k H locs ls hP hD hS hl0)
theorem g_lneg (X : CX B M cc nL own) {x : Int64} (hdg : decode cc pc = .ok (.lneg, 1)) (k : G B M nL n1 n2 Q ws lv (pc + 1) (.long (-x) :: rest)) : G B M nL n1 n2 Q ws lv pc (.long x :: rest) :=
  fun H locs ls hP hD hS hl0 => lv_lneg X.x X.b hdg (k H locs ls hP hD hS hl0)
theorem g_ishl (X : CX B M cc nL own) {x y : Int32} (hdg : decode cc pc = .ok (.ishl, 1)) (k : G B M nL n1 n2 Q ws lv (pc + 1) (.int (x <<< (y &&& 31)) :: rest)) : G B M nL n1 n2 Q ws lv pc (.int y :: .int x :: rest) :=
  fun H locs ls hP hD hS hl0 => lv_ishl X.x X.b hdg (k H locs ls hP hD hS hl0)
theorem g_ishr (X : CX B M cc nL own) {x y : Int32} (hdg : decode cc pc = .ok (.ishr, 1)) (k : G B M nL n1 n2 Q ws lv (pc + 1) (.int (x >>> (y &&& 31)) :: rest)) : G B M nL n1 n2 Q ws lv pc (.int y :: .int x :: rest) :=
  fun H locs ls hP hD hS hl0 => lv_ishr X.x X.b hdg (k H locs ls hP hD hS hl0)
theorem g_i2l (X : CX B M cc nL own) {x : Int32} {v : Int64} (hdg : decode cc pc = .ok (.i2l, 1)) (hv : x.toInt64 = v) (k : G B M nL n1 n2 Q ws lv (pc + 1) (.long v :: rest)) : G B M nL n1 n2 Q ws lv pc (.int x :: rest) :=
  fun H locs ls hP hD hS hl0 => lv_i2l X.x X.b hdg hv (k H locs ls hP hD hS hl0)
theorem g_l2i (X : CX B M cc nL own) {x : Int64} {v : Int32} (hdg : decode cc pc = .ok (.l2i, 1)) (hv : x.toInt32 = v) (k : G B M nL n1 n2 Q ws lv (pc + 1) (.int v :: rest)) : G B M nL n1 n2 Q ws lv pc (.long x :: rest) :=
  fun H locs ls hP hD hS hl0 => lv_l2i X.x X.b hdg hv (k H locs ls hP hD hS hl0)
theorem g_i2b (X : CX B M cc nL own) {x : Int32} {v : Int32} (hdg : decode cc pc = .ok (.i2b, 1)) (hv : x.toInt8.toInt32 = v) (k : G B M nL n1 n2 Q ws lv (pc + 1) (.int v :: rest)) : G B M nL n1 n2 Q ws lv pc (.int x :: rest) :=
  fun H locs ls hP hD hS hl0 => lv_i2b X.x X.b hdg hv (k H locs ls hP hD hS hl0)
theorem g_iushr (X : CX B M cc nL own) {x y v : Int32} (hdg : decode cc pc = .ok (.iushr, 1)) (hv : (x.toUInt32 >>> (y.toUInt32 &&& Int32.toUInt32 31)).toInt32 = v) (k : G B M nL n1 n2 Q ws lv (pc + 1) (.int v :: rest)) : G B M nL n1 n2 Q ws lv pc (.int y :: .int x :: rest) :=
  fun H locs ls hP hD hS hl0 => lv_iushr X.x X.b hdg hv (k H locs ls hP hD hS hl0)
theorem g_lushr (X : CX B M cc nL own) {x v : Int64} {y : Int32} (hdg : decode cc pc = .ok (.lushr, 1)) (hv : (x.toUInt64 >>> (y.toInt64.toUInt64 &&& Int64.toUInt64 63)).toInt64 = v) (k : G B M nL n1 n2 Q ws lv (pc + 1) (.long v :: rest)) : G B M nL n1 n2 Q ws lv pc (.int y :: .long x :: rest) :=
  fun H locs ls hP hD hS hl0 => lv_lushr X.x X.b hdg hv (k H locs ls hP hD hS hl0)
theorem g_lshl (X : CX B M cc nL own) {x v : Int64} {y : Int32} (hdg : decode cc pc = .ok (.lshl, 1)) (hv : x <<< (y.toInt64 &&& 63) = v) (k : G B M nL n1 n2 Q ws lv (pc + 1) (.long v :: rest)) : G B M nL n1 n2 Q ws lv pc (.int y :: .long x :: rest) :=
  fun H locs ls hP hD hS hl0 => lv_lshl X.x X.b hdg hv (k H locs ls hP hD hS hl0)
theorem g_lshr (X : CX B M cc nL own) {x v : Int64} {y : Int32} (hdg : decode cc pc = .ok (.lshr, 1)) (hv : x >>> (y.toInt64 &&& 63) = v) (k : G B M nL n1 n2 Q ws lv (pc + 1) (.long v :: rest)) : G B M nL n1 n2 Q ws lv pc (.int y :: .long x :: rest) :=
  fun H locs ls hP hD hS hl0 => lv_lshr X.x X.b hdg hv (k H locs ls hP hD hS hl0)
theorem g_dup (X : CX B M cc nL own) {va : Value} (hdg : decode cc pc = .ok (.dup, 1)) (hva : va.category = 1) (k : G B M nL n1 n2 Q ws lv (pc + 1) (va :: va :: rest)) : G B M nL n1 n2 Q ws lv pc (va :: rest) :=
  fun H locs ls hP hD hS hl0 => lv_dup X.x X.b hdg hva (k H locs ls hP hD hS hl0)
theorem g_pop (X : CX B M cc nL own) {va : Value} (hdg : decode cc pc = .ok (.pop, 1)) (hva : va.category = 1) (k : G B M nL n1 n2 Q ws lv (pc + 1) (rest)) : G B M nL n1 n2 Q ws lv pc (va :: rest) :=
  fun H locs ls hP hD hS hl0 => lv_pop X.x X.b hdg hva (k H locs ls hP hD hS hl0)
theorem g_dup_x1 (X : CX B M cc nL own) {va vb : Value} (hdg : decode cc pc = .ok (.dup_x1, 1)) (hva : va.category = 1) (hvb : vb.category = 1) (k : G B M nL n1 n2 Q ws lv (pc + 1) (va :: vb :: va :: rest)) : G B M nL n1 n2 Q ws lv pc (va :: vb :: rest) :=
  fun H locs ls hP hD hS hl0 => lv_dup_x1 X.x X.b hdg hva hvb (k H locs ls hP hD hS hl0)
theorem g_dup_x2 (X : CX B M cc nL own) {va vb vd : Value} (hdg : decode cc pc = .ok (.dup_x2, 1)) (hva : va.category = 1) (hvb : vb.category = 1) (hvd : vd.category = 1) (k : G B M nL n1 n2 Q ws lv (pc + 1) (va :: vb :: vd :: va :: rest)) : G B M nL n1 n2 Q ws lv pc (va :: vb :: vd :: rest) :=
  fun H locs ls hP hD hS hl0 => lv_dup_x2 X.x X.b hdg hva hvb hvd (k H locs ls hP hD hS hl0)
theorem g_dup2_11 (X : CX B M cc nL own) {va vb : Value} (hdg : decode cc pc = .ok (.dup2, 1)) (hva : va.category = 1) (hvb : vb.category = 1) (k : G B M nL n1 n2 Q ws lv (pc + 1) (va :: vb :: va :: vb :: rest)) : G B M nL n1 n2 Q ws lv pc (va :: vb :: rest) :=
  fun H locs ls hP hD hS hl0 => lv_dup2_11 X.x X.b hdg hva hvb (k H locs ls hP hD hS hl0)
theorem g_dup2_2 (X : CX B M cc nL own) {va : Value} (hdg : decode cc pc = .ok (.dup2, 1)) (hva : va.category = 2) (k : G B M nL n1 n2 Q ws lv (pc + 1) (va :: va :: rest)) : G B M nL n1 n2 Q ws lv pc (va :: rest) :=
  fun H locs ls hP hD hS hl0 => lv_dup2_2 X.x X.b hdg hva (k H locs ls hP hD hS hl0)
theorem g_pop2_2 (X : CX B M cc nL own) {va : Value} (hdg : decode cc pc = .ok (.pop2, 1)) (hva : va.category = 2) (k : G B M nL n1 n2 Q ws lv (pc + 1) (rest)) : G B M nL n1 n2 Q ws lv pc (va :: rest) :=
  fun H locs ls hP hD hS hl0 => lv_pop2_2 X.x X.b hdg hva (k H locs ls hP hD hS hl0)
theorem g_dup2_x1_2 (X : CX B M cc nL own) {va vb : Value} (hdg : decode cc pc = .ok (.dup2_x1, 1)) (hva : va.category = 2) (hvb : vb.category = 1) (k : G B M nL n1 n2 Q ws lv (pc + 1) (va :: vb :: va :: rest)) : G B M nL n1 n2 Q ws lv pc (va :: vb :: rest) :=
  fun H locs ls hP hD hS hl0 => lv_dup2_x1_2 X.x X.b hdg hva hvb (k H locs ls hP hD hS hl0)
theorem g_dup2_x2_2 (X : CX B M cc nL own) {va vb vd : Value} (hdg : decode cc pc = .ok (.dup2_x2, 1)) (hva : va.category = 2) (hvb : vb.category = 1) (hvd : vd.category = 1) (k : G B M nL n1 n2 Q ws lv (pc + 1) (va :: vb :: vd :: va :: rest)) : G B M nL n1 n2 Q ws lv pc (va :: vb :: vd :: rest) :=
  fun H locs ls hP hD hS hl0 => lv_dup2_x2_2 X.x X.b hdg hva hvb hvd (k H locs ls hP hD hS hl0)
theorem g_if_eq (X : CX B M cc nL own) {x : Int32} {off : Int} {tgt : Nat} (hdg : decode cc pc = .ok (.ifCond .eq off, 3)) (ht : (pc : Int) + off = (tgt : Int)) (kt : x = 0 → G B M nL n1 n2 Q ws lv tgt rest) (kf : ¬ x = 0 → G B M nL n1 n2 Q ws lv (pc + 3) rest) : G B M nL n1 n2 Q ws lv pc (.int x :: rest) :=
  fun H locs ls hP hD hS hl0 => lv_if_eq X.x X.b hdg ht (fun hc => kt hc H locs ls hP hD hS hl0) (fun hc => kf hc H locs ls hP hD hS hl0)
theorem g_if_ne (X : CX B M cc nL own) {x : Int32} {off : Int} {tgt : Nat} (hdg : decode cc pc = .ok (.ifCond .ne off, 3)) (ht : (pc : Int) + off = (tgt : Int)) (kt : ¬ x = 0 → G B M nL n1 n2 Q ws lv tgt rest) (kf : x = 0 → G B M nL n1 n2 Q ws lv (pc + 3) rest) : G B M nL n1 n2 Q ws lv pc (.int x :: rest) :=
  fun H locs ls hP hD hS hl0 => lv_if_ne X.x X.b hdg ht (fun hc => kt hc H locs ls hP hD hS hl0) (fun hc => kf hc H locs ls hP hD hS hl0)
theorem g_if_lt (X : CX B M cc nL own) {x : Int32} {off : Int} {tgt : Nat} (hdg : decode cc pc = .ok (.ifCond .lt off, 3)) (ht : (pc : Int) + off = (tgt : Int)) (kt : x < 0 → G B M nL n1 n2 Q ws lv tgt rest) (kf : ¬ x < 0 → G B M nL n1 n2 Q ws lv (pc + 3) rest) : G B M nL n1 n2 Q ws lv pc (.int x :: rest) :=
  fun H locs ls hP hD hS hl0 => lv_if_lt X.x X.b hdg ht (fun hc => kt hc H locs ls hP hD hS hl0) (fun hc => kf hc H locs ls hP hD hS hl0)
theorem g_if_ge (X : CX B M cc nL own) {x : Int32} {off : Int} {tgt : Nat} (hdg : decode cc pc = .ok (.ifCond .ge off, 3)) (ht : (pc : Int) + off = (tgt : Int)) (kt : 0 ≤ x → G B M nL n1 n2 Q ws lv tgt rest) (kf : ¬ 0 ≤ x → G B M nL n1 n2 Q ws lv (pc + 3) rest) : G B M nL n1 n2 Q ws lv pc (.int x :: rest) :=
  fun H locs ls hP hD hS hl0 => lv_if_ge X.x X.b hdg ht (fun hc => kt hc H locs ls hP hD hS hl0) (fun hc => kf hc H locs ls hP hD hS hl0)
theorem g_if_gt (X : CX B M cc nL own) {x : Int32} {off : Int} {tgt : Nat} (hdg : decode cc pc = .ok (.ifCond .gt off, 3)) (ht : (pc : Int) + off = (tgt : Int)) (kt : 0 < x → G B M nL n1 n2 Q ws lv tgt rest) (kf : ¬ 0 < x → G B M nL n1 n2 Q ws lv (pc + 3) rest) : G B M nL n1 n2 Q ws lv pc (.int x :: rest) :=
  fun H locs ls hP hD hS hl0 => lv_if_gt X.x X.b hdg ht (fun hc => kt hc H locs ls hP hD hS hl0) (fun hc => kf hc H locs ls hP hD hS hl0)
theorem g_if_le (X : CX B M cc nL own) {x : Int32} {off : Int} {tgt : Nat} (hdg : decode cc pc = .ok (.ifCond .le off, 3)) (ht : (pc : Int) + off = (tgt : Int)) (kt : x ≤ 0 → G B M nL n1 n2 Q ws lv tgt rest) (kf : ¬ x ≤ 0 → G B M nL n1 n2 Q ws lv (pc + 3) rest) : G B M nL n1 n2 Q ws lv pc (.int x :: rest) :=
  fun H locs ls hP hD hS hl0 => lv_if_le X.x X.b hdg ht (fun hc => kt hc H locs ls hP hD hS hl0) (fun hc => kf hc H locs ls hP hD hS hl0)
theorem g_icmp_eq (X : CX B M cc nL own) {x y : Int32} {off : Int} {tgt : Nat} (hdg : decode cc pc = .ok (.if_icmp .eq off, 3)) (ht : (pc : Int) + off = (tgt : Int)) (kt : x = y → G B M nL n1 n2 Q ws lv tgt rest) (kf : ¬ x = y → G B M nL n1 n2 Q ws lv (pc + 3) rest) : G B M nL n1 n2 Q ws lv pc (.int y :: .int x :: rest) :=
  fun H locs ls hP hD hS hl0 => lv_icmp_eq X.x X.b hdg ht (fun hc => kt hc H locs ls hP hD hS hl0) (fun hc => kf hc H locs ls hP hD hS hl0)
theorem g_icmp_ne (X : CX B M cc nL own) {x y : Int32} {off : Int} {tgt : Nat} (hdg : decode cc pc = .ok (.if_icmp .ne off, 3)) (ht : (pc : Int) + off = (tgt : Int)) (kt : ¬ x = y → G B M nL n1 n2 Q ws lv tgt rest) (kf : x = y → G B M nL n1 n2 Q ws lv (pc + 3) rest) : G B M nL n1 n2 Q ws lv pc (.int y :: .int x :: rest) :=
  fun H locs ls hP hD hS hl0 => lv_icmp_ne X.x X.b hdg ht (fun hc => kt hc H locs ls hP hD hS hl0) (fun hc => kf hc H locs ls hP hD hS hl0)
theorem g_icmp_lt (X : CX B M cc nL own) {x y : Int32} {off : Int} {tgt : Nat} (hdg : decode cc pc = .ok (.if_icmp .lt off, 3)) (ht : (pc : Int) + off = (tgt : Int)) (kt : x < y → G B M nL n1 n2 Q ws lv tgt rest) (kf : ¬ x < y → G B M nL n1 n2 Q ws lv (pc + 3) rest) : G B M nL n1 n2 Q ws lv pc (.int y :: .int x :: rest) :=
  fun H locs ls hP hD hS hl0 => lv_icmp_lt X.x X.b hdg ht (fun hc => kt hc H locs ls hP hD hS hl0) (fun hc => kf hc H locs ls hP hD hS hl0)
theorem g_icmp_ge (X : CX B M cc nL own) {x y : Int32} {off : Int} {tgt : Nat} (hdg : decode cc pc = .ok (.if_icmp .ge off, 3)) (ht : (pc : Int) + off = (tgt : Int)) (kt : y ≤ x → G B M nL n1 n2 Q ws lv tgt rest) (kf : ¬ y ≤ x → G B M nL n1 n2 Q ws lv (pc + 3) rest) : G B M nL n1 n2 Q ws lv pc (.int y :: .int x :: rest) :=
  fun H locs ls hP hD hS hl0 => lv_icmp_ge X.x X.b hdg ht (fun hc => kt hc H locs ls hP hD hS hl0) (fun hc => kf hc H locs ls hP hD hS hl0)
theorem g_icmp_gt (X : CX B M cc nL own) {x y : Int32} {off : Int} {tgt : Nat} (hdg : decode cc pc = .ok (.if_icmp .gt off, 3)) (ht : (pc : Int) + off = (tgt : Int)) (kt : y < x → G B M nL n1 n2 Q ws lv tgt rest) (kf : ¬ y < x → G B M nL n1 n2 Q ws lv (pc + 3) rest) : G B M nL n1 n2 Q ws lv pc (.int y :: .int x :: rest) :=
  fun H locs ls hP hD hS hl0 => lv_icmp_gt X.x X.b hdg ht (fun hc => kt hc H locs ls hP hD hS hl0) (fun hc => kf hc H locs ls hP hD hS hl0)
theorem g_icmp_le (X : CX B M cc nL own) {x y : Int32} {off : Int} {tgt : Nat} (hdg : decode cc pc = .ok (.if_icmp .le off, 3)) (ht : (pc : Int) + off = (tgt : Int)) (kt : x ≤ y → G B M nL n1 n2 Q ws lv tgt rest) (kf : ¬ x ≤ y → G B M nL n1 n2 Q ws lv (pc + 3) rest) : G B M nL n1 n2 Q ws lv pc (.int y :: .int x :: rest) :=
  fun H locs ls hP hD hS hl0 => lv_icmp_le X.x X.b hdg ht (fun hc => kt hc H locs ls hP hD hS hl0) (fun hc => kf hc H locs ls hP hD hS hl0)
theorem g_goto (X : CX B M cc nL own) {off : Int} {tgt : Nat} (hdg : decode cc pc = .ok (.goto off, 3)) (ht : (pc : Int) + off = (tgt : Int)) (k : G B M nL n1 n2 Q ws lv tgt rest) : G B M nL n1 n2 Q ws lv pc rest :=
  fun H locs ls hP hD hS hl0 => lv_goto X.x X.b hdg ht (k H locs ls hP hD hS hl0)
theorem g_ldc (X : CX B M cc nL own) {index : Nat} {v : Int32} (hconst : Cond.constant own index v ∈ W0) (hdg : decode cc pc = .ok (.ldc index, 2)) (k : G B M nL n1 n2 Q ws lv (pc + 2) (.int v :: rest)) : G B M nL n1 n2 Q ws lv pc rest :=
  fun H locs ls hP hD hS hl0 => lv_ldc X.x X.b X.o (X.t _ hconst) hdg (k H locs ls hP hD hS hl0)
theorem g_ldc2 (X : CX B M cc nL own) {index : Nat} {v : Int64} (hconst : Cond.constantLong own index v ∈ W0) (hdg : decode cc pc = .ok (.ldc2_w index, 3)) (k : G B M nL n1 n2 Q ws lv (pc + 3) (.long v :: rest)) : G B M nL n1 n2 Q ws lv pc rest :=
  fun H locs ls hP hD hS hl0 => lv_ldc2 X.x X.b X.o (X.t _ hconst) hdg (k H locs ls hP hD hS hl0)
theorem g_tableIn (X : CX B M cc nL own) {dflt lo hi : Int} {offs : Array Int} {len : Nat} {x : Int32} {off : Int} {tgt : Nat} (hdg : decode cc pc = .ok (.tableswitch dflt lo hi offs, len)) (h1 : ¬ x.toInt < lo) (h2 : ¬ hi < x.toInt) (ho : offs[(x.toInt - lo).toNat]? = some off) (ht : (pc : Int) + off = (tgt : Int)) (k : G B M nL n1 n2 Q ws lv tgt rest) : G B M nL n1 n2 Q ws lv pc (.int x :: rest) :=
  fun H locs ls hP hD hS hl0 => lv_tableIn X.x X.b hdg h1 h2 ho ht (k H locs ls hP hD hS hl0)
theorem g_tableOut (X : CX B M cc nL own) {dflt lo hi : Int} {offs : Array Int} {len : Nat} {x : Int32} {tgt : Nat} (hdg : decode cc pc = .ok (.tableswitch dflt lo hi offs, len)) (h : x.toInt < lo ∨ hi < x.toInt) (ht : (pc : Int) + dflt = (tgt : Int)) (k : G B M nL n1 n2 Q ws lv tgt rest) : G B M nL n1 n2 Q ws lv pc (.int x :: rest) :=
  fun H locs ls hP hD hS hl0 => lv_tableOut X.x X.b hdg h ht (k H locs ls hP hD hS hl0)
theorem g_lookup (X : CX B M cc nL own) {dflt : Int} {ps : Array (Int × Int)} {len : Nat} {x : Int32} {off : Int} {tgt : Nat} (hdg : decode cc pc = .ok (.lookupswitch dflt ps, len)) (hp : (ps.toList.zip (ps.toList.drop 1)).all (fun (a, next) => a.1 < next.1) = true) (ho : Op.lookupswitch.offset ps.toList dflt x.toInt = off) (ht : (pc : Int) + off = (tgt : Int)) (k : G B M nL n1 n2 Q ws lv tgt rest) : G B M nL n1 n2 Q ws lv pc (.int x :: rest) :=
  fun H locs ls hP hD hS hl0 => lv_lookup X.x X.b hdg hp ho ht (k H locs ls hP hD hS hl0)
theorem g_get (X : CX B M cc nL own) {C : String} {T : u_T} {N ci index a : Nat} (hin : ∀ w ∈ u_ws C T N, w ∈ W0) (q0 : Nat) {fs : List Value} (he : ws[q0]? = some (a, .inr (ci, fs))) (hc : classes[ci]? = some (C, T, N)) (k : Nat) (hk : k < N) (hlink : Cond.fieldLink own index (T k).1 (T k).2.1 (T k).2.2.1 ∈ W0) {v : Value} (hv : fs[k]? = some v) (hdg : decode cc pc = .ok (.getfield index, 3))
    (kk : G B M nL n1 n2 Q ws lv (pc + 3) (v :: rest)) : G B M nL n1 n2 Q ws lv pc (.ref a :: rest) :=
  fun H locs ls hP hD hS hl => va_get X.x X.b X.t hin X.o X.k hP q0 he hc k hk (X.t _ hlink) (fun _ h => h) hv hdg (kk H locs ls hP hD hS hl)
theorem g_getN (X : CX B M cc nL own) {C host : String} {T : u_T} {N ci index a : Nat} (hin : ∀ w ∈ u_ws C T N, w ∈ W0) (q0 : Nat) {fs : List Value} (he : ws[q0]? = some (a, .inr (ci, fs))) (hc : classes[ci]? = some (C, T, N)) (k : Nat) (hk : k < N) (hlink : Cond.fieldLinkNest own index (T k).1 (T k).2.1 (T k).2.2.1 host ∈ nestWords) {v : Value} (hv : fs[k]? = some v) (hdg : decode cc pc = .ok (.getfield index, 3))
    (kk : G B M nL n1 n2 Q ws lv (pc + 3) (v :: rest)) : G B M nL n1 n2 Q ws lv pc (.ref a :: rest) :=
  fun H locs ls hP hD hS hl => va_getN X.x X.b X.t hin X.o X.k hP q0 he hc k hk (va_Nw.use rfl (X.s.2.1 _ hlink)) (fun _ h => h) hv hdg (kk H locs ls hP hD hS hl)
theorem g_put (X : CX B M cc nL own) {C : String} {T : u_T} {N ci index a : Nat} (hin : ∀ w ∈ u_ws C T N, w ∈ W0) (ty0 : Nat → FieldType) (hty : ∀ k, k < N → parseFieldDescriptor (T k).2.2.1 = some (ty0 k)) (hnm : ∀ a, a < N → ∀ b, b < N → a ≠ b → (T a).2.1 ≠ (T b).2.1) (q0 : Nat) {fs : List Value} (he : ws[q0]? = some (a, .inr (ci, fs))) (hc : classes[ci]? = some (C, T, N)) (k : Nat) (hk : k < N) (hlink : Cond.fieldLink own index (T k).1 (T k).2.1 (T k).2.2.1 ∈ W0) (hfin : (T k).2.2.2 = false) {v : Value} (hn : narrow (ty0 k) v = v) (hfit : fits (ty0 k) v = true) (hl9 : k < fs.length) (hdg : decode cc pc = .ok (.putfield index, 3))
    (kk : G B M nL n1 n2 Q (ws.set q0 (a, .inr (ci, fs.set k v))) lv (pc + 3) rest) : G B M nL n1 n2 Q ws lv pc (v :: .ref a :: rest) :=
  fun H locs ls hP hD hS hl => va_put X.x X.b X.t hin ty0 hty hnm X.o X.k hP hD hS q0 he hc k hk (X.t _ hlink) (fun _ h => h) hfin (hty k hk) hn hfit hl9 hdg (fun H1 locs1 hP1 hD1 hS1 => kk H1 locs1 ls hP1 hD1 hS1 hl)
theorem g_putN (X : CX B M cc nL own) {C host : String} {T : u_T} {N ci index a : Nat} (hin : ∀ w ∈ u_ws C T N, w ∈ W0) (ty0 : Nat → FieldType) (hty : ∀ k, k < N → parseFieldDescriptor (T k).2.2.1 = some (ty0 k)) (hnm : ∀ a, a < N → ∀ b, b < N → a ≠ b → (T a).2.1 ≠ (T b).2.1) (q0 : Nat) {fs : List Value} (he : ws[q0]? = some (a, .inr (ci, fs))) (hc : classes[ci]? = some (C, T, N)) (k : Nat) (hk : k < N) (hlink : Cond.fieldLinkNest own index (T k).1 (T k).2.1 (T k).2.2.1 host ∈ nestWords) (hfin : (T k).2.2.2 = false) {v : Value} (hn : narrow (ty0 k) v = v) (hfit : fits (ty0 k) v = true) (hl9 : k < fs.length) (hdg : decode cc pc = .ok (.putfield index, 3))
    (kk : G B M nL n1 n2 Q (ws.set q0 (a, .inr (ci, fs.set k v))) lv (pc + 3) rest) : G B M nL n1 n2 Q ws lv pc (v :: .ref a :: rest) :=
  fun H locs ls hP hD hS hl => va_putN X.x X.b X.t hin ty0 hty hnm X.o X.k hP hD hS q0 he hc k hk (va_Nw.use rfl (X.s.2.1 _ hlink)) (fun _ h => h) hfin (hty k hk) hn hfit hl9 hdg (fun H1 locs1 hP1 hD1 hS1 => kk H1 locs1 ls hP1 hD1 hS1 hl)
theorem g_putF (X : CX B M cc nL own) (hini : (m_h M).name = "<init>") {C : String} {T : u_T} {N ci index a : Nat} (hin : ∀ w ∈ u_ws C T N, w ∈ W0) (ty0 : Nat → FieldType) (hty : ∀ k, k < N → parseFieldDescriptor (T k).2.2.1 = some (ty0 k)) (hnm : ∀ a, a < N → ∀ b, b < N → a ≠ b → (T a).2.1 ≠ (T b).2.1) (q0 : Nat) {fs : List Value} (he : ws[q0]? = some (a, .inr (ci, fs))) (hc : classes[ci]? = some (C, T, N)) (k : Nat) (hk : k < N) (hlink : Cond.fieldLink own index (T k).1 (T k).2.1 (T k).2.2.1 ∈ W0) (hfin : (T k).2.2.2 = true) (hdecl : (T k).1 = own) {v : Value} (hn : narrow (ty0 k) v = v) (hfit : fits (ty0 k) v = true) (hl9 : k < fs.length) (hdg : decode cc pc = .ok (.putfield index, 3))
    (kk : G B M nL n1 n2 Q (ws.set q0 (a, .inr (ci, fs.set k v))) lv (pc + 3) rest) : G B M nL n1 n2 Q ws lv pc (v :: .ref a :: rest) :=
  fun H locs ls hP hD hS hl => va_putF X.x X.b X.t hin ty0 hty hnm X.o X.k hP hD hS q0 he hc k hk (X.t _ hlink) (fun _ h => h) hfin hini hdecl (hty k hk) hn hfit hl9 hdg (fun H1 locs1 hP1 hD1 hS1 => kk H1 locs1 ls hP1 hD1 hS1 hl)
theorem bt_up (g : Nat → Int8) (k : Nat) (x : Int32) : upd (fun j => (g j).toInt32) k (vp_nar .byte x) = fun j => (va_up g k x.toInt8 j).toInt32 := by
  funext j
  rw [vp_nar_byte]
  by_cases h : j = k
  · subst h; simp [upd, va_up]
  · simp [upd, va_up, h]
theorem g_bald (X : CX B M cc nL own) {a n : Nat} {g : Nat → Int8} (q0 : Nat) (he : ws[q0]? = some (cb B a n g)) (k : Nat) {i : Int32} (hi : i = nI k) (hk : k < n) (hn : n < 2 ^ 31) (hdg : decode cc pc = .ok (.baload, 1))
    (kk : G B M nL n1 n2 Q ws lv (pc + 1) (.int (g k).toInt32 :: rest)) : G B M nL n1 n2 Q ws lv pc (.int i :: .ref a :: rest) := by
  intro H locs ls hP hD hS hl
  subst hi
  refine va_bald X.x X.b X.k hP q0 0 he rfl (vp_in_nI hk hn) hdg ?_
  rw [nI_clamp (Nat.lt_trans hk hn)]
  exact kk H locs ls hP hD hS hl
theorem g_bast (X : CX B M cc nL own) {a n : Nat} {g : Nat → Int8} (q0 : Nat) (he : ws[q0]? = some (cb B a n g)) (k : Nat) {i x : Int32} (hi : i = nI k) (hk : k < n) (hn : n < 2 ^ 31) (hdg : decode cc pc = .ok (.bastore, 1))
    (kk : G B M nL n1 n2 Q (ws.set q0 (cb B a n (va_up g k x.toInt8))) lv (pc + 1) rest) : G B M nL n1 n2 Q ws lv pc (.int x :: .int i :: .ref a :: rest) := by
  intro H locs ls hP hD hS hl
  subst hi
  refine va_bast X.x X.b X.k hP hD hS q0 0 he rfl (vp_in_nI hk hn) hdg (fun H1 locs1 hP1 hD1 hS1 => ?_)
  rw [nI_clamp (Nat.lt_trans hk hn), bt_up] at hP1 hD1
  exact kk H1 locs1 ls hP1 hD1 hS1 hl
theorem g_lald (X : CX B M cc nL own) {a n : Nat} {f : Nat → Int64} (q0 : Nat) (he : ws[q0]? = some (cj B a n f)) (k : Nat) {i : Int32} (hi : i = nI k) (hk : k < n) (hn : n < 2 ^ 31) (hdg : decode cc pc = .ok (.laload, 1))
    (kk : G B M nL n1 n2 Q ws lv (pc + 1) (.long (f k) :: rest)) : G B M nL n1 n2 Q ws lv pc (.int i :: .ref a :: rest) := by
  intro H locs ls hP hD hS hl
  subst hi
  refine va_lald X.x X.b X.k hP q0 1 he rfl (vp_in_nI hk hn) hdg ?_
  rw [nI_clamp (Nat.lt_trans hk hn)]
  exact kk H locs ls hP hD hS hl
theorem g_last (X : CX B M cc nL own) {a n : Nat} {f : Nat → Int64} (q0 : Nat) (he : ws[q0]? = some (cj B a n f)) (k : Nat) {i : Int32} {x : Int64} (hi : i = nI k) (hk : k < n) (hn : n < 2 ^ 31) (hdg : decode cc pc = .ok (.lastore, 1))
    (kk : G B M nL n1 n2 Q (ws.set q0 (cj B a n (va_up f k x))) lv (pc + 1) rest) : G B M nL n1 n2 Q ws lv pc (.long x :: .int i :: .ref a :: rest) := by
  intro H locs ls hP hD hS hl
  subst hi
  refine va_last X.x X.b X.k hP hD hS q0 1 he rfl (vp_in_nI hk hn) hdg (fun H1 locs1 hP1 hD1 hS1 => ?_)
  rw [nI_clamp (Nat.lt_trans hk hn)] at hP1 hD1
  exact kk H1 locs1 ls hP1 hD1 hS1 hl
theorem g_iald (X : CX B M cc nL own) {a n : Nat} {f : Nat → Int32} (q0 : Nat) (he : ws[q0]? = some (cn B a n f)) (k : Nat) {i : Int32} (hi : i = nI k) (hk : k < n) (hn : n < 2 ^ 31) (hdg : decode cc pc = .ok (.iaload, 1))
    (kk : G B M nL n1 n2 Q ws lv (pc + 1) (.int (f k) :: rest)) : G B M nL n1 n2 Q ws lv pc (.int i :: .ref a :: rest) := by
  intro H locs ls hP hD hS hl
  subst hi
  refine va_iald X.x X.b X.k hP q0 2 he rfl (vp_in_nI hk hn) hdg ?_
  rw [nI_clamp (Nat.lt_trans hk hn)]
  exact kk H locs ls hP hD hS hl
theorem g_iast (X : CX B M cc nL own) {a n : Nat} {f : Nat → Int32} (q0 : Nat) (he : ws[q0]? = some (cn B a n f)) (k : Nat) {i x : Int32} (hi : i = nI k) (hk : k < n) (hn : n < 2 ^ 31) (hdg : decode cc pc = .ok (.iastore, 1))
    (kk : G B M nL n1 n2 Q (ws.set q0 (cn B a n (va_up f k x))) lv (pc + 1) rest) : G B M nL n1 n2 Q ws lv pc (.int x :: .int i :: .ref a :: rest) := by
  intro H locs ls hP hD hS hl
  subst hi
  refine va_iast X.x X.b X.k hP hD hS q0 2 he rfl (vp_in_nI hk hn) hdg (fun H1 locs1 hP1 hD1 hS1 => ?_)
  rw [nI_clamp (Nat.lt_trans hk hn)] at hP1 hD1
  exact kk H1 locs1 ls hP1 hD1 hS1 hl
theorem g_rald (X : CX B M cc nL own) {a n : Nat} {f : Nat → Option Nat} (q0 : Nat) (he : ws[q0]? = some (cr B a n f)) (k : Nat) {i : Int32} (hi : i = nI k) (hk : k < n) (hn : n < 2 ^ 31) {r : Nat} (hr : f k = some r) (hdg : decode cc pc = .ok (.aaload, 1))
    (kk : G B M nL n1 n2 Q ws lv (pc + 1) (.ref r :: rest)) : G B M nL n1 n2 Q ws lv pc (.int i :: .ref a :: rest) := by
  intro H locs ls hP hD hS hl
  subst hi
  refine va_aldq X.x X.b X.k hP q0 3 he rfl (vp_in_nI hk hn) hdg ?_
  rw [nI_clamp (Nat.lt_trans hk hn), hr]
  exact kk H locs ls hP hD hS hl
theorem g_qald (X : CX B M cc nL own) {a n : Nat} {f : Nat → Option Nat} (q0 : Nat) (he : ws[q0]? = some (cq B a n f)) (k : Nat) {i : Int32} (hi : i = nI k) (hk : k < n) (hn : n < 2 ^ 31) {r : Nat} (hr : f k = some r) (hdg : decode cc pc = .ok (.aaload, 1))
    (kk : G B M nL n1 n2 Q ws lv (pc + 1) (.ref r :: rest)) : G B M nL n1 n2 Q ws lv pc (.int i :: .ref a :: rest) := by
  intro H locs ls hP hD hS hl
  subst hi
  have hin : vp_in (nI k) n := vp_in_nI hk hn
  have ec : (nI k).toNatClampNeg = k := nI_clamp (Nat.lt_trans hk hn)
  exact W.aald (v := .ref r) (ty := .array .byte) X.x X.b (hP q0 _ he) ((X.k.2 4 _ rfl).1 n (fun j => va_rf (f j))) rfl (fun q => by cases q) (by show ¬ (nI k < 0 ∨ (arrV _ _ _).slots.size ≤ _); rw [arrV_size]; exact hin) (by show (arrV _ _ _).slots[_]? = _; rw [ec, arrV_read _ _ hk, hr]; rfl) rfl rfl hdg (kk H locs ls hP hD hS hl)
theorem g_alen (X : CX B M cc nL own) {a : Nat} {cA : ClassId} {x : vp_A} (q0 t0 : Nat) (he : ws[q0]? = some (a, .inl (cA, x))) {ty : FieldType} (ht : (b_y B)[t0]? = some (cA, ty)) {v : Int32} (hv : nI x.1 = v) (hdg : decode cc pc = .ok (.arraylength, 1))
    (kk : G B M nL n1 n2 Q ws lv (pc + 1) (.int v :: rest)) : G B M nL n1 n2 Q ws lv pc (.ref a :: rest) :=
  fun H locs ls hP hD hS hl => va_alen X.x X.b X.k hP q0 t0 he ht hv hdg (kk H locs ls hP hD hS hl)
theorem CX.Z (X : CX B M cc nL own) (k : Nat) (hk : k < 12) : va_Z "SpongeDigests" (s_nm k) (s_ds k) (.ref (b_t B k)) (m_A M) (m_s M) (m_s M).heap := (X.s.2.2.1 k hk).1.narrow X.z
theorem CX.T (X : CX B M cc nL own) (k : Nat) (hk : k < 12) : va_T (s_ty k) (b_t B k) (s_N k) (s_f k) (m_A M) (m_s M) (m_s M).heap := (X.s.2.2.1 k hk).2.narrow X.z
theorem g_gets (X : CX B M cc nL own) {index : Nat} (k : Nat) (hk : k < 12) (hlink : Cond.fieldLink own index "SpongeDigests" (s_nm k) (s_ds k) ∈ W0) (hdg : decode cc pc = .ok (.getstatic index, 3))
    (kk : G B M nL n1 n2 Q ws lv (pc + 3) (.ref (b_t B k) :: rest)) : G B M nL n1 n2 Q ws lv pc rest :=
  fun H locs ls hP hD hS hl => va_gets X.x X.b (X.Z k hk) hS X.o (X.t _ hlink) (fun _ h => h) hdg (kk H locs ls hP hD hS hl)
theorem g_getsN (X : CX B M cc nL own) {index : Nat} {host : String} (k : Nat) (hk : k < 12) (hlink : Cond.fieldLinkNest own index "SpongeDigests" (s_nm k) (s_ds k) host ∈ nestWords) (hdg : decode cc pc = .ok (.getstatic index, 3))
    (kk : G B M nL n1 n2 Q ws lv (pc + 3) (.ref (b_t B k) :: rest)) : G B M nL n1 n2 Q ws lv pc rest :=
  fun H locs ls hP hD hS hl => va_getsN X.x X.b (X.Z k hk) hS X.o (va_Nw.use rfl (X.s.2.1 _ hlink)) (fun _ h => h) hdg (kk H locs ls hP hD hS hl)
theorem g_ti (X : CX B M cc nL own) (k : Nat) (hk : k < 12) (hty : s_ty k = .int) (j : Nat) {i : Int32} (hi : i = nI j) (hj : j < s_N k) (hdg : decode cc pc = .ok (.iaload, 1))
    (kk : G B M nL n1 n2 Q ws lv (pc + 1) (.int (s_i k j) :: rest)) : G B M nL n1 n2 Q ws lv pc (.int i :: .ref (b_t B k) :: rest) := by
  intro H locs ls hP hD hS hl
  subst hi
  have hn := s_N_lt k hk
  have hT := X.T k hk
  rw [hty] at hT
  exact va_ti X.x X.b hT hS (vp_in_nI hj hn) (by rw [nI_clamp (Nat.lt_trans hj hn)]; exact s_fi hty j) hdg (kk H locs ls hP hD hS hl)
theorem g_tl (X : CX B M cc nL own) (k : Nat) (hk : k < 12) (hty : s_ty k = .long) (j : Nat) {i : Int32} (hi : i = nI j) (hj : j < s_N k) (hdg : decode cc pc = .ok (.laload, 1))
    (kk : G B M nL n1 n2 Q ws lv (pc + 1) (.long (s_l k j) :: rest)) : G B M nL n1 n2 Q ws lv pc (.int i :: .ref (b_t B k) :: rest) := by
  intro H locs ls hP hD hS hl
  subst hi
  have hn := s_N_lt k hk
  have hT := X.T k hk
  rw [hty] at hT
  exact va_tl X.x X.b hT hS (vp_in_nI hj hn) (by rw [nI_clamp (Nat.lt_trans hj hn)]; exact s_fl hty j) hdg (kk H locs ls hP hD hS hl)
def PreW (B : Bx) (ws : va_W) (sz : Nat) (U : State) : Prop := U.heap.size = sz ∧ KX B U ∧ va_P B.1 classes ws U.heap ∧ va_K B.1 classes (b_y B) U ∧ va_D (fun q => b_z B ≤ q) ws
def PostW (B : Bx) (A : Nat → Prop) (ws1 : va_W) (t : State) : Prop := va_P B.1 classes ws1 t.heap ∧ va_K B.1 classes (b_y B) t ∧ va_D A ws1
def Cv {S : Type} (l : Launch) (B : Bx) (y : MethodName) (b : ByteArray) (n : Nat) (rm : Room) (av : List Value) (ws : va_W) (ok : S → Prop) (ws1 : S → va_W) : Prop :=
  ∀ sz : Nat, Met l y (Cond.code y b n none :: W0) rm (va_Pc av (PreW B ws sz)) (va_Qv ok (fun u t => PostW B (va_A ws sz) (ws1 u) t) (va_A ws sz)) rm.cells rm.slots (va_A ws sz)
def Ci {S : Type} (l : Launch) (B : Bx) (y : MethodName) (b : ByteArray) (n : Nat) (rt : FieldType) (rm : Room) (av : List Value) (ws : va_W) (ok : Int32 → S → Prop) (ws1 : S → va_W) : Prop :=
  ∀ sz : Nat, Met l y (Cond.code y b n (some rt) :: W0) rm (va_Pc av (PreW B ws sz)) (va_Qi ok (fun u t => PostW B (va_A ws sz) (ws1 u) t) (va_A ws sz)) rm.cells rm.slots (va_A ws sz)
def Cl {S : Type} (l : Launch) (B : Bx) (y : MethodName) (b : ByteArray) (n : Nat) (rm : Room) (av : List Value) (ws : va_W) (ok : Int64 → S → Prop) (ws1 : S → va_W) : Prop :=
  ∀ sz : Nat, Met l y (Cond.code y b n (some .long) :: W0) rm (va_Pc av (PreW B ws sz)) (va_Ql ok (fun u t => PostW B (va_A ws sz) (ws1 u) t) (va_A ws sz)) rm.cells rm.slots (va_A ws sz)
def Cr {S : Type} (l : Launch) (B : Bx) (y : MethodName) (b : ByteArray) (n : Nat) (rt : FieldType) (rm : Room) (av : List Value) (ws : va_W) (ok : S → Prop) (ra : S → Nat) (ws1 : S → va_W) : Prop :=
  ∀ sz : Nat, Met l y (Cond.code y b n (some rt) :: W0) rm (va_Pc av (PreW B ws sz)) (va_Qr ok (fun u a t => a = ra u ∧ PostW B (va_A ws sz) (ws1 u) t) (va_A ws sz)) rm.cells rm.slots (va_A ws sz)
theorem KX.go {s U : State} {H : Heap} {A : Nat → Prop} {locs : List Loc} (h : KX B s) (hA : ∀ q, A q → b_z B ≤ q) (hS : va_S A s.heap H locs) (hU : U.heap = H) (hW : s.WarmedH U.vm) : KX B U := by
  obtain ⟨h1, h2, h3, e1, e2, e3, e4, e6⟩ := h
  have hq : ∀ a : Nat, a < s.heap.size → ¬ (b_z B ≤ a) → U.heap[a]? = s.heap[a]? := fun a h4 h5 => by rw [hU]; exact hS.2.1 a h4 (fun h6 => h5 (hA a h6))
  refine ⟨by rw [hU]; exact Nat.le_trans h1 hS.1, fun w hw => nest_warm hw hW (h2 w hw), fun k hk => ?_, vx_Zq.moved hW.alike (e1.kept hq), vx_Zq.moved hW.alike (e2.kept hq), fun i hi => (e3 i hi).warm hW, fun w hw => ex_warm hw hW (e4 w hw), va_Nc.moved hW.alike e6⟩
  obtain ⟨z, t⟩ := h3 k hk
  exact ⟨va_Z.moved hW.alike (z.kept hq), va_T.moved hW.alike (t.kept hq)⟩
theorem KX.same {u U : State} (h : KX B u) (hv : u.vm = U.vm) (hh : U.heap = u.heap) : KX B U := by
  obtain ⟨h1, h2, h3, e1, e2, e3, e4, e6⟩ := h
  have hal : u.vm.Alike U.vm := by rw [hv]; exact Vm.Alike.refl _
  refine ⟨by rw [hh]; exact h1, fun w hw => va_Nw.same (nest_on hw) hv (h2 w hw), fun k hk => ?_, ?_, ?_, fun i hi => (e3 i hi).same hv.symm, fun w hw => va_Nw.same (ex_on hw) hv (e4 w hw), va_Nc.moved hal e6⟩
  · rw [hh]
    exact ⟨va_Z.moved hal (h3 k hk).1, va_T.moved hal (h3 k hk).2⟩
  · rw [hh]; exact vx_Zq.moved hal e1
  · rw [hh]; exact vx_Zq.moved hal e2
theorem PreW.blind (av : List Value) (ws : va_W) (sz : Nat) : FrameBlind (va_Pc av (PreW B ws sz)) := fun a U g mk q => by
  obtain ⟨q0, q1, q2, q3, q4, q5⟩ := q
  exact ⟨q0, q1, KX.same q2 rfl rfl, q3, va_K.moved (u := U) (U := U.calling g mk a) (Vm.Alike.refl U.vm) q4, q5⟩
theorem PreW.at (X : CX B M cc nL own) {H : Heap} {locs : List Loc} (av : List Value) {wc : va_W} {isC : List Nat} (hP : va_P B.1 classes ws H) (hD : va_D (m_A M) ws) (hS : va_S (m_A M) (m_s M).heap H locs) (hnC : va_nd isC = true) (hC : isC.map (fun i => ws[i]?) = wc.map some) : ∀ U : State, U.heap = H → (m_s M).WarmedH U.vm → va_Pc av (PreW B wc H.size) av.toArray U := by
  intro U hU hW
  refine ⟨rfl, by rw [hU], X.s.go X.z hS hU hW, ?_, va_K.moved hW.alike X.k, (hD.sub isC hnC hC).weaken (fun _ q _ h => X.z q.1 h)⟩
  rw [hU]
  intro i q hq
  have h1 : (isC.map (fun i => ws[i]?))[i]? = (wc.map some)[i]? := by rw [hC]
  rw [List.getElem?_map, List.getElem?_map, hq] at h1
  cases hi : isC[i]? with
  | none => rw [hi] at h1; cases h1
  | some j => rw [hi] at h1; exact hP j q (Option.some.inj h1)
theorem W0_good {y' : MethodName} {b' : ByteArray} {n' : Nat} {r' : Option FieldType} (h : Cond.code y' b' n' r' ∈ W0) : GoodIn W0 (Cond.code y' b' n' r' :: W0) := by
  intro w hw
  have hm : w ∈ W0 := by
    rcases List.mem_cons.mp hw with rfl | h1
    · exact h
    · exact h1
  exact ⟨hm, good_of_word (List.mem_filter.mp hm).2⟩
end GB
end
section
def wput (ws : va_W) : List Nat → va_W → va_W
  | i :: is, c :: cs => wput (ws.set i c) is cs
  | [], _ => ws
  | _ :: _, [] => ws
theorem wset_fst {ws : va_W} {i : Nat} {c : Nat × va_E} (h : (ws[i]?).map Prod.fst = some c.1) (k : Nat) : ((ws.set i c)[k]?).map Prod.fst = (ws[k]?).map Prod.fst := by
  rw [List.getElem?_set]
  by_cases hik : i = k
  · subst hik
    rw [if_pos rfl]
    by_cases hl : i < ws.length
    · rw [if_pos hl, h]; rfl
    · rw [List.getElem?_eq_none (by omega)] at h; cases h
  · rw [if_neg hik]
theorem wput_fst : ∀ (is : List Nat) (cs ws : va_W), (∀ (j i : Nat) (c : Nat × va_E), is[j]? = some i → cs[j]? = some c → (ws[i]?).map Prod.fst = some c.1) → ∀ k : Nat, ((wput ws is cs)[k]?).map Prod.fst = (ws[k]?).map Prod.fst
  | [], cs, ws, _, k => by cases cs <;> rfl
  | i :: is, [], ws, _, k => rfl
  | i :: is, c :: cs, ws, h, k => by
    have h0 := h 0 i c rfl rfl
    show ((wput (ws.set i c) is cs)[k]?).map Prod.fst = _
    rw [wput_fst is cs (ws.set i c) (fun j i' c' h1 h2 => by rw [wset_fst h0]; exact h (j + 1) i' c' h1 h2) k, wset_fst h0]
theorem wput_in : ∀ (is : List Nat) (cs ws : va_W), is.length = cs.length → ∀ (k : Nat) (q : Nat × va_E), (wput ws is cs)[k]? = some q → q ∈ cs ∨ (k ∉ is ∧ ws[k]? = some q)
  | [], [], ws, _, k, q, h => Or.inr ⟨List.not_mem_nil, h⟩
  | [], c :: cs, ws, hl, k, q, h => by simp at hl
  | i :: is, [], ws, hl, k, q, h => by simp at hl
  | i :: is, c :: cs, ws, hl, k, q, h => by
    have hl' : is.length = cs.length := by simpa using hl
    rcases wput_in is cs (ws.set i c) hl' k q h with h1 | ⟨h1, h2⟩
    · exact Or.inl (List.mem_cons_of_mem _ h1)
    · rw [List.getElem?_set] at h2
      by_cases hik : i = k
      · rw [if_pos hik] at h2
        by_cases h3 : i < ws.length
        · rw [if_pos h3] at h2
          cases h2
          exact Or.inl List.mem_cons_self
        · rw [if_neg h3] at h2; cases h2
      · rw [if_neg hik] at h2
        refine Or.inr ⟨fun hm => ?_, h2⟩
        rcases List.mem_cons.mp hm with h4 | h4
        · exact hik h4.symm
        · exact h1 h4
theorem va_D.fst {A : Nat → Prop} {ws ws' : va_W} (hD : va_D A ws) (h : ∀ k : Nat, (ws'[k]?).map Prod.fst = (ws[k]?).map Prod.fst) : va_D A ws' := by
  have key : ∀ (k : Nat) (q : Nat × va_E), ws'[k]? = some q → ∃ q', ws[k]? = some q' ∧ q'.1 = q.1 := by
    intro k q hq
    have h1 := h k
    rw [hq] at h1
    cases hw : ws[k]? with
    | none => rw [hw] at h1; cases h1
    | some q' => rw [hw] at h1; exact ⟨q', rfl, (Option.some.inj h1).symm⟩
  refine ⟨fun i j x y hx hy hxy => ?_, fun k q hq => ?_⟩
  · obtain ⟨x', h1, h2⟩ := key i x hx
    obtain ⟨y', h3, h4⟩ := key j y hy
    exact hD.1 i j x' y' h1 h3 (by rw [h2, h4]; exact hxy)
  · obtain ⟨q', h1, h2⟩ := key k q hq
    rw [← h2]
    exact hD.2 k q' h1
theorem wput_at {ws wc : va_W} {isC : List Nat} (hC : isC.map (fun i => ws[i]?) = wc.map some) : ∀ (k : Nat) (q : Nat × va_E), wc[k]? = some q → ∃ i, isC[k]? = some i ∧ ws[i]? = some q := by
  intro k q hq
  have h1 : (isC.map (fun i => ws[i]?))[k]? = some (some q) := by rw [hC, List.getElem?_map, hq]; rfl
  rw [List.getElem?_map] at h1
  cases hi : isC[k]? with
  | none => rw [hi] at h1; cases h1
  | some i => rw [hi] at h1; exact ⟨i, rfl, Option.some.inj h1⟩
theorem wput_adr {ws wc w1 : va_W} {isC : List Nat} (hC : isC.map (fun i => ws[i]?) = wc.map some) (hadr : w1.map Prod.fst = wc.map Prod.fst) : ∀ k : Nat, ((wput ws isC w1)[k]?).map Prod.fst = (ws[k]?).map Prod.fst := by
  refine wput_fst isC w1 ws (fun j i c hj hc => ?_)
  have e1 : (w1.map Prod.fst)[j]? = (wc.map Prod.fst)[j]? := by rw [hadr]
  rw [List.getElem?_map, List.getElem?_map, hc] at e1
  cases hw : wc[j]? with
  | none => rw [hw] at e1; cases e1
  | some q =>
    rw [hw] at e1
    obtain ⟨i', h3, h4⟩ := wput_at hC j q hw
    rw [hj] at h3
    cases h3
    rw [h4]
    exact e1.symm
theorem wput_join {A0 : Nat → Prop} {D : va_G} {cl : List vw_C} {ws wc w1 : va_W} {H H1 : Heap} (hP : va_P D cl ws H) (hD : va_D A0 ws) (isC : List Nat) (hC : isC.map (fun i => ws[i]?) = wc.map some) (hadr : w1.map Prod.fst = wc.map Prod.fst)
    (hk : ∀ q : Nat, q < H.size → ¬ va_A wc H.size q → H1[q]? = H[q]?) (hP1 : va_P D cl w1 H1) : va_P D cl (wput ws isC w1) H1 ∧ va_D A0 (wput ws isC w1) := by
  have hlC : isC.length = wc.length := by have := congrArg List.length hC; simpa using this
  have hl1 : w1.length = wc.length := by have := congrArg List.length hadr; simpa using this
  refine ⟨fun k q hq => ?_, hD.fst (wput_adr hC hadr)⟩
  rcases wput_in isC w1 ws (hlC.trans hl1.symm) k q hq with h1 | ⟨h1, h2⟩
  · obtain ⟨j, hj⟩ := List.getElem?_of_mem h1
    exact hP1 j q hj
  · have hlt := (hP k q h2).lt
    refine (hP k q h2).kept (hk q.1 hlt (fun h => ?_))
    rcases h with ⟨k2, e, h⟩ | h
    · obtain ⟨j, h3, h4⟩ := wput_at hC k2 (q.1, e) h
      have h5 := hD.1 k j q (q.1, e) h2 h4 rfl
      subst h5
      exact h1 (List.mem_of_getElem? h3)
    · omega
theorem wput_joinA {A0 : Nat → Prop} {D : va_G} {cl : List vw_C} {ws wc w1 wn : va_W} {H H1 : Heap} (hP : va_P D cl ws H) (hD : va_D A0 ws) (isC : List Nat) (hC : isC.map (fun i => ws[i]?) = wc.map some) (hadr : w1.map Prod.fst = wc.map Prod.fst)
    (hk : ∀ q : Nat, q < H.size → ¬ va_A wc H.size q → H1[q]? = H[q]?) (hF : ∀ q, va_A wc H.size q → A0 q) (hP1 : va_P D cl (w1 ++ wn) H1) (hD1 : va_D (va_A wc H.size) (w1 ++ wn)) : va_P D cl (wput ws isC w1 ++ wn) H1 ∧ va_D A0 (wput ws isC w1 ++ wn) := by
  have hP1a : va_P D cl w1 H1 := fun k q hq => hP1 k q (by rw [List.getElem?_append_left (List.getElem?_eq_some_iff.mp hq).1]; exact hq)
  have hr : ∀ (j : Nat) (q : Nat × va_E), wn[j]? = some q → (w1 ++ wn)[w1.length + j]? = some q := fun j q hq => by rw [List.getElem?_append_right (by omega), Nat.add_sub_cancel_left]; exact hq
  obtain ⟨p1, d1⟩ := wput_join hP hD isC hC hadr hk hP1a
  refine ⟨va_P.app p1 (fun k q hq => hP1 _ q (hr k q hq)), va_D.app d1 ⟨fun i j x y hx hy hxy => ?_, fun k q hq => hF _ (hD1.2 _ q (hr k q hq))⟩ (fun i j x y hx hy hxy => ?_)⟩
  · have := hD1.1 _ _ x y (hr i x hx) (hr j y hy) hxy
    omega
  · have h1 := wput_adr hC hadr i
    rw [hx] at h1
    cases hw : ws[i]? with
    | none => rw [hw] at h1; cases h1
    | some q =>
      rw [hw] at h1
      have h2 : x.1 = q.1 := Option.some.inj h1
      have hlt := (hP i q hw).lt
      rcases hD1.2 _ y (hr j y hy) with ⟨k2, e, h⟩ | h
      · have e1 : (w1.map Prod.fst)[k2]? = (wc.map Prod.fst)[k2]? := by rw [hadr]
        rw [List.getElem?_map, List.getElem?_map, h] at e1
        cases hw1 : w1[k2]? with
        | none => rw [hw1] at e1; cases e1
        | some z =>
          rw [hw1] at e1
          have h3 : z.1 = y.1 := Option.some.inj e1
          have hlk := (List.getElem?_eq_some_iff.mp hw1).1
          have h4 := hD1.1 k2 (w1.length + j) z y (by rw [List.getElem?_append_left hlk]; exact hw1) (hr j y hy) h3
          omega
      · omega
section GC
variable {B : Bx} {M : Mx} {cc : ByteArray} {nL n1 n2 : Nat} {own : String} {Q : State → Prop} {ws : va_W} {lv : List (Nat × Value)} {pc : Nat} {st rest : List Value}
theorem g_callVv {S : Type} (X : CX B M cc nL own) {ok : S → Prop} {ws1 : S → va_W} {y : MethodName} {b : ByteArray} {n index : Nat} {rm : Room} {As : List Value} {wc : va_W} {a q0 ci N : Nat} {T : u_T} {fs : List Value} (hM : Cv (m_l M) B y b n rm (.ref a :: As) wc ok ws1)
    (hlink : Cond.methodLink own index y ∈ W0) (hinst : Cond.instanceMethod y ∈ W0) (hsel : Cond.selects y.cls y y ∈ W0) (hini : Cond.initialized y.cls ∈ W0) (hcode : Cond.code y b n none ∈ W0) (hd : y.cls ≠ "java/lang/invoke/MethodHandle" ∧ y.cls ≠ "java/lang/invoke/VarHandle" ∧ (parseMethodDescriptor y.desc).map (fun d => d.parameters.length) = some As.length)
    (isC : List Nat) (hnC : va_nd isC = true) (hC : isC.map (fun i => ws[i]?) = wc.map some) (ad : List Nat) (hadr : ∀ u : S, (ws1 u).map Prod.fst = ad) (hadc : wc.map Prod.fst = ad) (he : ws[q0]? = some (a, .inr (ci, fs))) (hci : classes[ci]? = some (y.cls, T, N)) 
    (hroom : rm.frames + 1 ≤ (m_R M).frames ∧ 8 + (n + 11) + rm.locals ≤ (m_R M).locals) (hcs : n1 + rm.cells ≤ (m_R M).cells ∧ n2 + rm.slots ≤ (m_R M).slots) (hst : st = As.reverse ++ .ref a :: rest) (hrs : (rest.map fun v => v.category).sum ≤ 8) (hdg : decode cc pc = .ok (.invokevirtual index, 3))
    (kk : ∀ (u : S), ok u → G B M nL (n1 + rm.cells) (n2 + rm.slots) Q (wput ws isC (ws1 u)) lv (pc + 3) (rest)) : G B M nL n1 n2 Q ws lv pc st := by
  intro H locs ls hP hD hS hl
  subst hst
  have hFc := va_free (wc := wc) hD hS X.A isC hC
  refine va_callv (va_runV (As := As) (rest := rest) ⟨X.x, X.b, X.n, X.o, X.t⟩ (hM H.size) ⟨callB_of As.length X.t (W0_good hcode) rfl rfl rfl (X.t _ hini) (X.t _ hlink) hd hroom, X.t _ hinst, X.t _ hsel⟩ ⟨PreW.blind _ _ _, va_recv X.k hP hci he, PreW.at X (.ref a :: As) hP hD hS hnC hC⟩ rfl rfl hl.1 rfl (lv_room hrs) hdg hcs) hS (fun q _ h => hFc q h) hFc (fun u t H1 locs1 ht hvm hw hB hz1 hk1 hS1 => ?_)
  obtain ⟨hP1, hK1, hD1⟩ := hB
  rw [ht] at hP1
  obtain ⟨hP2, hD2⟩ := wput_join (w1 := ws1 u) hP hD isC hC ((hadr u).trans hadc.symm) hk1 hP1
  skip
  exact kk u hw H1 locs1 ls hP2 hD2 hS1 hl
theorem g_callVi {S : Type} (X : CX B M cc nL own) {ok : Int32 → S → Prop} {rt : FieldType} {ws1 : S → va_W} {y : MethodName} {b : ByteArray} {n index : Nat} {rm : Room} {As : List Value} {wc : va_W} {a q0 ci N : Nat} {T : u_T} {fs : List Value} (hM : Ci (m_l M) B y b n rt rm (.ref a :: As) wc ok ws1)
    (hlink : Cond.methodLink own index y ∈ W0) (hinst : Cond.instanceMethod y ∈ W0) (hsel : Cond.selects y.cls y y ∈ W0) (hini : Cond.initialized y.cls ∈ W0) (hcode : Cond.code y b n (some rt) ∈ W0) (hd : y.cls ≠ "java/lang/invoke/MethodHandle" ∧ y.cls ≠ "java/lang/invoke/VarHandle" ∧ (parseMethodDescriptor y.desc).map (fun d => d.parameters.length) = some As.length)
    (isC : List Nat) (hnC : va_nd isC = true) (hC : isC.map (fun i => ws[i]?) = wc.map some) (ad : List Nat) (hadr : ∀ u : S, (ws1 u).map Prod.fst = ad) (hadc : wc.map Prod.fst = ad) (he : ws[q0]? = some (a, .inr (ci, fs))) (hci : classes[ci]? = some (y.cls, T, N)) 
    (hroom : rm.frames + 1 ≤ (m_R M).frames ∧ 8 + (n + 11) + rm.locals ≤ (m_R M).locals) (hcs : n1 + rm.cells ≤ (m_R M).cells ∧ n2 + rm.slots ≤ (m_R M).slots) (hst : st = As.reverse ++ .ref a :: rest) (hrs : (rest.map fun v => v.category).sum ≤ 8) (hdg : decode cc pc = .ok (.invokevirtual index, 3))
    (kk : ∀ (r : Int32) (u : S), ok r u → G B M nL (n1 + rm.cells) (n2 + rm.slots) Q (wput ws isC (ws1 u)) lv (pc + 3) (.int r :: rest)) : G B M nL n1 n2 Q ws lv pc st := by
  intro H locs ls hP hD hS hl
  subst hst
  have hFc := va_free (wc := wc) hD hS X.A isC hC
  refine va_calli (va_runV (As := As) (rest := rest) ⟨X.x, X.b, X.n, X.o, X.t⟩ (hM H.size) ⟨callB_of As.length X.t (W0_good hcode) rfl rfl rfl (X.t _ hini) (X.t _ hlink) hd hroom, X.t _ hinst, X.t _ hsel⟩ ⟨PreW.blind _ _ _, va_recv X.k hP hci he, PreW.at X (.ref a :: As) hP hD hS hnC hC⟩ rfl rfl hl.1 rfl (lv_room hrs) hdg hcs) hS (fun q _ h => hFc q h) hFc (fun r u t H1 locs1 ht hvm hw hB hz1 hk1 hS1 => ?_)
  obtain ⟨hP1, hK1, hD1⟩ := hB
  rw [ht] at hP1
  obtain ⟨hP2, hD2⟩ := wput_join (w1 := ws1 u) hP hD isC hC ((hadr u).trans hadc.symm) hk1 hP1
  skip
  exact kk r u hw H1 locs1 ls hP2 hD2 hS1 hl
theorem g_callVl {S : Type} (X : CX B M cc nL own) {ok : Int64 → S → Prop} {ws1 : S → va_W} {y : MethodName} {b : ByteArray} {n index : Nat} {rm : Room} {As : List Value} {wc : va_W} {a q0 ci N : Nat} {T : u_T} {fs : List Value} (hM : Cl (m_l M) B y b n rm (.ref a :: As) wc ok ws1)
    (hlink : Cond.methodLink own index y ∈ W0) (hinst : Cond.instanceMethod y ∈ W0) (hsel : Cond.selects y.cls y y ∈ W0) (hini : Cond.initialized y.cls ∈ W0) (hcode : Cond.code y b n (some .long) ∈ W0) (hd : y.cls ≠ "java/lang/invoke/MethodHandle" ∧ y.cls ≠ "java/lang/invoke/VarHandle" ∧ (parseMethodDescriptor y.desc).map (fun d => d.parameters.length) = some As.length)
    (isC : List Nat) (hnC : va_nd isC = true) (hC : isC.map (fun i => ws[i]?) = wc.map some) (ad : List Nat) (hadr : ∀ u : S, (ws1 u).map Prod.fst = ad) (hadc : wc.map Prod.fst = ad) (he : ws[q0]? = some (a, .inr (ci, fs))) (hci : classes[ci]? = some (y.cls, T, N)) 
    (hroom : rm.frames + 1 ≤ (m_R M).frames ∧ 8 + (n + 11) + rm.locals ≤ (m_R M).locals) (hcs : n1 + rm.cells ≤ (m_R M).cells ∧ n2 + rm.slots ≤ (m_R M).slots) (hst : st = As.reverse ++ .ref a :: rest) (hrs : (rest.map fun v => v.category).sum ≤ 8) (hdg : decode cc pc = .ok (.invokevirtual index, 3))
    (kk : ∀ (r : Int64) (u : S), ok r u → G B M nL (n1 + rm.cells) (n2 + rm.slots) Q (wput ws isC (ws1 u)) lv (pc + 3) (.long r :: rest)) : G B M nL n1 n2 Q ws lv pc st := by
  intro H locs ls hP hD hS hl
  subst hst
  have hFc := va_free (wc := wc) hD hS X.A isC hC
  refine va_calll (va_runV (As := As) (rest := rest) ⟨X.x, X.b, X.n, X.o, X.t⟩ (hM H.size) ⟨callB_of As.length X.t (W0_good hcode) rfl rfl rfl (X.t _ hini) (X.t _ hlink) hd hroom, X.t _ hinst, X.t _ hsel⟩ ⟨PreW.blind _ _ _, va_recv X.k hP hci he, PreW.at X (.ref a :: As) hP hD hS hnC hC⟩ rfl rfl hl.1 rfl (lv_room hrs) hdg hcs) hS (fun q _ h => hFc q h) hFc (fun r u t H1 locs1 ht hvm hw hB hz1 hk1 hS1 => ?_)
  obtain ⟨hP1, hK1, hD1⟩ := hB
  rw [ht] at hP1
  obtain ⟨hP2, hD2⟩ := wput_join (w1 := ws1 u) hP hD isC hC ((hadr u).trans hadc.symm) hk1 hP1
  skip
  exact kk r u hw H1 locs1 ls hP2 hD2 hS1 hl
theorem g_callVr {S : Type} (X : CX B M cc nL own) {ok : S → Prop} {ra : S → Nat} {rt : FieldType} {ws1 : S → va_W} {y : MethodName} {b : ByteArray} {n index : Nat} {rm : Room} {As : List Value} {wc : va_W} {a q0 ci N : Nat} {T : u_T} {fs : List Value} (hM : Cr (m_l M) B y b n rt rm (.ref a :: As) wc ok ra ws1)
    (hlink : Cond.methodLink own index y ∈ W0) (hinst : Cond.instanceMethod y ∈ W0) (hsel : Cond.selects y.cls y y ∈ W0) (hini : Cond.initialized y.cls ∈ W0) (hcode : Cond.code y b n (some rt) ∈ W0) (hd : y.cls ≠ "java/lang/invoke/MethodHandle" ∧ y.cls ≠ "java/lang/invoke/VarHandle" ∧ (parseMethodDescriptor y.desc).map (fun d => d.parameters.length) = some As.length)
    (isC : List Nat) (hnC : va_nd isC = true) (hC : isC.map (fun i => ws[i]?) = wc.map some) (ad : List Nat) (hadr : ∀ u : S, (ws1 u).map Prod.fst = ad) (hadc : wc.map Prod.fst = ad) (he : ws[q0]? = some (a, .inr (ci, fs))) (hci : classes[ci]? = some (y.cls, T, N)) 
    (hroom : rm.frames + 1 ≤ (m_R M).frames ∧ 8 + (n + 11) + rm.locals ≤ (m_R M).locals) (hcs : n1 + rm.cells ≤ (m_R M).cells ∧ n2 + rm.slots ≤ (m_R M).slots) (hst : st = As.reverse ++ .ref a :: rest) (hrs : (rest.map fun v => v.category).sum ≤ 8) (hdg : decode cc pc = .ok (.invokevirtual index, 3))
    (kk : ∀ (u : S), ok u → G B M nL (n1 + rm.cells) (n2 + rm.slots) Q (wput ws isC (ws1 u)) lv (pc + 3) (.ref (ra u) :: rest)) : G B M nL n1 n2 Q ws lv pc st := by
  intro H locs ls hP hD hS hl
  subst hst
  have hFc := va_free (wc := wc) hD hS X.A isC hC
  refine va_callr (va_runV (As := As) (rest := rest) ⟨X.x, X.b, X.n, X.o, X.t⟩ (hM H.size) ⟨callB_of As.length X.t (W0_good hcode) rfl rfl rfl (X.t _ hini) (X.t _ hlink) hd hroom, X.t _ hinst, X.t _ hsel⟩ ⟨PreW.blind _ _ _, va_recv X.k hP hci he, PreW.at X (.ref a :: As) hP hD hS hnC hC⟩ rfl rfl hl.1 rfl (lv_room hrs) hdg hcs) hS (fun q _ h => hFc q h) hFc (fun u ra9 t H1 locs1 ht hvm hw hB hz1 hk1 hS1 => ?_)
  obtain ⟨hra, hP1, hK1, hD1⟩ := hB
  rw [ht] at hP1
  obtain ⟨hP2, hD2⟩ := wput_join (w1 := ws1 u) hP hD isC hC ((hadr u).trans hadc.symm) hk1 hP1
  subst hra
  exact kk u hw H1 locs1 ls hP2 hD2 hS1 hl
theorem g_callVNv {S : Type} (X : CX B M cc nL own) {ok : S → Prop} {ws1 : S → va_W} {y : MethodName} {b : ByteArray} {n index : Nat} {rm : Room} {As : List Value} {wc : va_W} {host : String} {a q0 ci N : Nat} {T : u_T} {fs : List Value} (hM : Cv (m_l M) B y b n rm (.ref a :: As) wc ok ws1)
    (hlink : Cond.methodLinkNest own index y host ∈ nestWords) (hinst : Cond.instanceMethod y ∈ W0) (hsel : Cond.selects y.cls y y ∈ W0) (hini : Cond.initialized y.cls ∈ W0) (hcode : Cond.code y b n none ∈ W0) (hd : y.cls ≠ "java/lang/invoke/MethodHandle" ∧ y.cls ≠ "java/lang/invoke/VarHandle" ∧ (parseMethodDescriptor y.desc).map (fun d => d.parameters.length) = some As.length)
    (isC : List Nat) (hnC : va_nd isC = true) (hC : isC.map (fun i => ws[i]?) = wc.map some) (ad : List Nat) (hadr : ∀ u : S, (ws1 u).map Prod.fst = ad) (hadc : wc.map Prod.fst = ad) (he : ws[q0]? = some (a, .inr (ci, fs))) (hci : classes[ci]? = some (y.cls, T, N)) 
    (hroom : rm.frames + 1 ≤ (m_R M).frames ∧ 8 + (n + 11) + rm.locals ≤ (m_R M).locals) (hcs : n1 + rm.cells ≤ (m_R M).cells ∧ n2 + rm.slots ≤ (m_R M).slots) (hst : st = As.reverse ++ .ref a :: rest) (hrs : (rest.map fun v => v.category).sum ≤ 8) (hdg : decode cc pc = .ok (.invokevirtual index, 3))
    (kk : ∀ (u : S), ok u → G B M nL (n1 + rm.cells) (n2 + rm.slots) Q (wput ws isC (ws1 u)) lv (pc + 3) (rest)) : G B M nL n1 n2 Q ws lv pc st := by
  intro H locs ls hP hD hS hl
  subst hst
  have hFc := va_free (wc := wc) hD hS X.A isC hC
  refine va_callv (va_runVN (As := As) (rest := rest) ⟨X.x, X.b, X.n, X.o, X.t⟩ (hM H.size) ⟨va_cnB As.length X.t (W0_good hcode) rfl rfl rfl (X.s.2.1 _ hlink) (X.t _ hini) hd hroom, X.t _ hinst, X.t _ hsel⟩ ⟨PreW.blind _ _ _, va_recv X.k hP hci he, PreW.at X (.ref a :: As) hP hD hS hnC hC⟩ rfl rfl hl.1 rfl (lv_room hrs) hdg hcs) hS (fun q _ h => hFc q h) hFc (fun u t H1 locs1 ht hvm hw hB hz1 hk1 hS1 => ?_)
  obtain ⟨hP1, hK1, hD1⟩ := hB
  rw [ht] at hP1
  obtain ⟨hP2, hD2⟩ := wput_join (w1 := ws1 u) hP hD isC hC ((hadr u).trans hadc.symm) hk1 hP1
  skip
  exact kk u hw H1 locs1 ls hP2 hD2 hS1 hl
theorem g_callVNi {S : Type} (X : CX B M cc nL own) {ok : Int32 → S → Prop} {rt : FieldType} {ws1 : S → va_W} {y : MethodName} {b : ByteArray} {n index : Nat} {rm : Room} {As : List Value} {wc : va_W} {host : String} {a q0 ci N : Nat} {T : u_T} {fs : List Value} (hM : Ci (m_l M) B y b n rt rm (.ref a :: As) wc ok ws1)
    (hlink : Cond.methodLinkNest own index y host ∈ nestWords) (hinst : Cond.instanceMethod y ∈ W0) (hsel : Cond.selects y.cls y y ∈ W0) (hini : Cond.initialized y.cls ∈ W0) (hcode : Cond.code y b n (some rt) ∈ W0) (hd : y.cls ≠ "java/lang/invoke/MethodHandle" ∧ y.cls ≠ "java/lang/invoke/VarHandle" ∧ (parseMethodDescriptor y.desc).map (fun d => d.parameters.length) = some As.length)
    (isC : List Nat) (hnC : va_nd isC = true) (hC : isC.map (fun i => ws[i]?) = wc.map some) (ad : List Nat) (hadr : ∀ u : S, (ws1 u).map Prod.fst = ad) (hadc : wc.map Prod.fst = ad) (he : ws[q0]? = some (a, .inr (ci, fs))) (hci : classes[ci]? = some (y.cls, T, N)) 
    (hroom : rm.frames + 1 ≤ (m_R M).frames ∧ 8 + (n + 11) + rm.locals ≤ (m_R M).locals) (hcs : n1 + rm.cells ≤ (m_R M).cells ∧ n2 + rm.slots ≤ (m_R M).slots) (hst : st = As.reverse ++ .ref a :: rest) (hrs : (rest.map fun v => v.category).sum ≤ 8) (hdg : decode cc pc = .ok (.invokevirtual index, 3))
    (kk : ∀ (r : Int32) (u : S), ok r u → G B M nL (n1 + rm.cells) (n2 + rm.slots) Q (wput ws isC (ws1 u)) lv (pc + 3) (.int r :: rest)) : G B M nL n1 n2 Q ws lv pc st := by
  intro H locs ls hP hD hS hl
  subst hst
  have hFc := va_free (wc := wc) hD hS X.A isC hC
  refine va_calli (va_runVN (As := As) (rest := rest) ⟨X.x, X.b, X.n, X.o, X.t⟩ (hM H.size) ⟨va_cnB As.length X.t (W0_good hcode) rfl rfl rfl (X.s.2.1 _ hlink) (X.t _ hini) hd hroom, X.t _ hinst, X.t _ hsel⟩ ⟨PreW.blind _ _ _, va_recv X.k hP hci he, PreW.at X (.ref a :: As) hP hD hS hnC hC⟩ rfl rfl hl.1 rfl (lv_room hrs) hdg hcs) hS (fun q _ h => hFc q h) hFc (fun r u t H1 locs1 ht hvm hw hB hz1 hk1 hS1 => ?_)
  obtain ⟨hP1, hK1, hD1⟩ := hB
  rw [ht] at hP1
  obtain ⟨hP2, hD2⟩ := wput_join (w1 := ws1 u) hP hD isC hC ((hadr u).trans hadc.symm) hk1 hP1
  skip
  exact kk r u hw H1 locs1 ls hP2 hD2 hS1 hl
theorem g_callVNl {S : Type} (X : CX B M cc nL own) {ok : Int64 → S → Prop} {ws1 : S → va_W} {y : MethodName} {b : ByteArray} {n index : Nat} {rm : Room} {As : List Value} {wc : va_W} {host : String} {a q0 ci N : Nat} {T : u_T} {fs : List Value} (hM : Cl (m_l M) B y b n rm (.ref a :: As) wc ok ws1)
    (hlink : Cond.methodLinkNest own index y host ∈ nestWords) (hinst : Cond.instanceMethod y ∈ W0) (hsel : Cond.selects y.cls y y ∈ W0) (hini : Cond.initialized y.cls ∈ W0) (hcode : Cond.code y b n (some .long) ∈ W0) (hd : y.cls ≠ "java/lang/invoke/MethodHandle" ∧ y.cls ≠ "java/lang/invoke/VarHandle" ∧ (parseMethodDescriptor y.desc).map (fun d => d.parameters.length) = some As.length)
    (isC : List Nat) (hnC : va_nd isC = true) (hC : isC.map (fun i => ws[i]?) = wc.map some) (ad : List Nat) (hadr : ∀ u : S, (ws1 u).map Prod.fst = ad) (hadc : wc.map Prod.fst = ad) (he : ws[q0]? = some (a, .inr (ci, fs))) (hci : classes[ci]? = some (y.cls, T, N)) 
    (hroom : rm.frames + 1 ≤ (m_R M).frames ∧ 8 + (n + 11) + rm.locals ≤ (m_R M).locals) (hcs : n1 + rm.cells ≤ (m_R M).cells ∧ n2 + rm.slots ≤ (m_R M).slots) (hst : st = As.reverse ++ .ref a :: rest) (hrs : (rest.map fun v => v.category).sum ≤ 8) (hdg : decode cc pc = .ok (.invokevirtual index, 3))
    (kk : ∀ (r : Int64) (u : S), ok r u → G B M nL (n1 + rm.cells) (n2 + rm.slots) Q (wput ws isC (ws1 u)) lv (pc + 3) (.long r :: rest)) : G B M nL n1 n2 Q ws lv pc st := by
  intro H locs ls hP hD hS hl
  subst hst
  have hFc := va_free (wc := wc) hD hS X.A isC hC
  refine va_calll (va_runVN (As := As) (rest := rest) ⟨X.x, X.b, X.n, X.o, X.t⟩ (hM H.size) ⟨va_cnB As.length X.t (W0_good hcode) rfl rfl rfl (X.s.2.1 _ hlink) (X.t _ hini) hd hroom, X.t _ hinst, X.t _ hsel⟩ ⟨PreW.blind _ _ _, va_recv X.k hP hci he, PreW.at X (.ref a :: As) hP hD hS hnC hC⟩ rfl rfl hl.1 rfl (lv_room hrs) hdg hcs) hS (fun q _ h => hFc q h) hFc (fun r u t H1 locs1 ht hvm hw hB hz1 hk1 hS1 => ?_)
  obtain ⟨hP1, hK1, hD1⟩ := hB
  rw [ht] at hP1
  obtain ⟨hP2, hD2⟩ := wput_join (w1 := ws1 u) hP hD isC hC ((hadr u).trans hadc.symm) hk1 hP1
  skip
  exact kk r u hw H1 locs1 ls hP2 hD2 hS1 hl
theorem g_callVNr {S : Type} (X : CX B M cc nL own) {ok : S → Prop} {ra : S → Nat} {rt : FieldType} {ws1 : S → va_W} {y : MethodName} {b : ByteArray} {n index : Nat} {rm : Room} {As : List Value} {wc : va_W} {host : String} {a q0 ci N : Nat} {T : u_T} {fs : List Value} (hM : Cr (m_l M) B y b n rt rm (.ref a :: As) wc ok ra ws1)
    (hlink : Cond.methodLinkNest own index y host ∈ nestWords) (hinst : Cond.instanceMethod y ∈ W0) (hsel : Cond.selects y.cls y y ∈ W0) (hini : Cond.initialized y.cls ∈ W0) (hcode : Cond.code y b n (some rt) ∈ W0) (hd : y.cls ≠ "java/lang/invoke/MethodHandle" ∧ y.cls ≠ "java/lang/invoke/VarHandle" ∧ (parseMethodDescriptor y.desc).map (fun d => d.parameters.length) = some As.length)
    (isC : List Nat) (hnC : va_nd isC = true) (hC : isC.map (fun i => ws[i]?) = wc.map some) (ad : List Nat) (hadr : ∀ u : S, (ws1 u).map Prod.fst = ad) (hadc : wc.map Prod.fst = ad) (he : ws[q0]? = some (a, .inr (ci, fs))) (hci : classes[ci]? = some (y.cls, T, N)) 
    (hroom : rm.frames + 1 ≤ (m_R M).frames ∧ 8 + (n + 11) + rm.locals ≤ (m_R M).locals) (hcs : n1 + rm.cells ≤ (m_R M).cells ∧ n2 + rm.slots ≤ (m_R M).slots) (hst : st = As.reverse ++ .ref a :: rest) (hrs : (rest.map fun v => v.category).sum ≤ 8) (hdg : decode cc pc = .ok (.invokevirtual index, 3))
    (kk : ∀ (u : S), ok u → G B M nL (n1 + rm.cells) (n2 + rm.slots) Q (wput ws isC (ws1 u)) lv (pc + 3) (.ref (ra u) :: rest)) : G B M nL n1 n2 Q ws lv pc st := by
  intro H locs ls hP hD hS hl
  subst hst
  have hFc := va_free (wc := wc) hD hS X.A isC hC
  refine va_callr (va_runVN (As := As) (rest := rest) ⟨X.x, X.b, X.n, X.o, X.t⟩ (hM H.size) ⟨va_cnB As.length X.t (W0_good hcode) rfl rfl rfl (X.s.2.1 _ hlink) (X.t _ hini) hd hroom, X.t _ hinst, X.t _ hsel⟩ ⟨PreW.blind _ _ _, va_recv X.k hP hci he, PreW.at X (.ref a :: As) hP hD hS hnC hC⟩ rfl rfl hl.1 rfl (lv_room hrs) hdg hcs) hS (fun q _ h => hFc q h) hFc (fun u ra9 t H1 locs1 ht hvm hw hB hz1 hk1 hS1 => ?_)
  obtain ⟨hra, hP1, hK1, hD1⟩ := hB
  rw [ht] at hP1
  obtain ⟨hP2, hD2⟩ := wput_join (w1 := ws1 u) hP hD isC hC ((hadr u).trans hadc.symm) hk1 hP1
  subst hra
  exact kk u hw H1 locs1 ls hP2 hD2 hS1 hl
theorem g_callSv {S : Type} (X : CX B M cc nL own) {ok : S → Prop} {ws1 : S → va_W} {y : MethodName} {b : ByteArray} {n index : Nat} {rm : Room} {As : List Value} {wc : va_W} (hM : Cv (m_l M) B y b n rm As wc ok ws1)
    (hlink : Cond.methodLink own index y ∈ W0) (hstat : Cond.static y ∈ W0) (hini : Cond.initialized y.cls ∈ W0) (hcode : Cond.code y b n none ∈ W0) (hd : y.cls ≠ "java/lang/invoke/MethodHandle" ∧ y.cls ≠ "java/lang/invoke/VarHandle" ∧ (parseMethodDescriptor y.desc).map (fun d => d.parameters.length) = some As.length)
    (isC : List Nat) (hnC : va_nd isC = true) (hC : isC.map (fun i => ws[i]?) = wc.map some) (ad : List Nat) (hadr : ∀ u : S, (ws1 u).map Prod.fst = ad) (hadc : wc.map Prod.fst = ad) 
    (hroom : rm.frames + 1 ≤ (m_R M).frames ∧ 8 + (n + 11) + rm.locals ≤ (m_R M).locals) (hcs : n1 + rm.cells ≤ (m_R M).cells ∧ n2 + rm.slots ≤ (m_R M).slots) (hst : st = As.reverse ++ rest) (hrs : (rest.map fun v => v.category).sum ≤ 8) (hdg : decode cc pc = .ok (.invokestatic index, 3))
    (kk : ∀ (u : S), ok u → G B M nL (n1 + rm.cells) (n2 + rm.slots) Q (wput ws isC (ws1 u)) lv (pc + 3) (rest)) : G B M nL n1 n2 Q ws lv pc st := by
  intro H locs ls hP hD hS hl
  subst hst
  have hFc := va_free (wc := wc) hD hS X.A isC hC
  refine va_callv (va_runS (As := As) (rest := rest) ⟨X.x, X.b, X.n, X.o, X.t⟩ (hM H.size) ⟨callB_of As.length X.t (W0_good hcode) rfl rfl rfl (X.t _ hini) (X.t _ hlink) hd hroom, X.t _ hstat⟩ ⟨PreW.blind _ _ _, PreW.at X As hP hD hS hnC hC⟩ rfl rfl hl.1 rfl (lv_room hrs) hdg hcs) hS (fun q _ h => hFc q h) hFc (fun u t H1 locs1 ht hvm hw hB hz1 hk1 hS1 => ?_)
  obtain ⟨hP1, hK1, hD1⟩ := hB
  rw [ht] at hP1
  obtain ⟨hP2, hD2⟩ := wput_join (w1 := ws1 u) hP hD isC hC ((hadr u).trans hadc.symm) hk1 hP1
  skip
  exact kk u hw H1 locs1 ls hP2 hD2 hS1 hl
theorem g_callSi {S : Type} (X : CX B M cc nL own) {ok : Int32 → S → Prop} {rt : FieldType} {ws1 : S → va_W} {y : MethodName} {b : ByteArray} {n index : Nat} {rm : Room} {As : List Value} {wc : va_W} (hM : Ci (m_l M) B y b n rt rm As wc ok ws1)
    (hlink : Cond.methodLink own index y ∈ W0) (hstat : Cond.static y ∈ W0) (hini : Cond.initialized y.cls ∈ W0) (hcode : Cond.code y b n (some rt) ∈ W0) (hd : y.cls ≠ "java/lang/invoke/MethodHandle" ∧ y.cls ≠ "java/lang/invoke/VarHandle" ∧ (parseMethodDescriptor y.desc).map (fun d => d.parameters.length) = some As.length)
    (isC : List Nat) (hnC : va_nd isC = true) (hC : isC.map (fun i => ws[i]?) = wc.map some) (ad : List Nat) (hadr : ∀ u : S, (ws1 u).map Prod.fst = ad) (hadc : wc.map Prod.fst = ad) 
    (hroom : rm.frames + 1 ≤ (m_R M).frames ∧ 8 + (n + 11) + rm.locals ≤ (m_R M).locals) (hcs : n1 + rm.cells ≤ (m_R M).cells ∧ n2 + rm.slots ≤ (m_R M).slots) (hst : st = As.reverse ++ rest) (hrs : (rest.map fun v => v.category).sum ≤ 8) (hdg : decode cc pc = .ok (.invokestatic index, 3))
    (kk : ∀ (r : Int32) (u : S), ok r u → G B M nL (n1 + rm.cells) (n2 + rm.slots) Q (wput ws isC (ws1 u)) lv (pc + 3) (.int r :: rest)) : G B M nL n1 n2 Q ws lv pc st := by
  intro H locs ls hP hD hS hl
  subst hst
  have hFc := va_free (wc := wc) hD hS X.A isC hC
  refine va_calli (va_runS (As := As) (rest := rest) ⟨X.x, X.b, X.n, X.o, X.t⟩ (hM H.size) ⟨callB_of As.length X.t (W0_good hcode) rfl rfl rfl (X.t _ hini) (X.t _ hlink) hd hroom, X.t _ hstat⟩ ⟨PreW.blind _ _ _, PreW.at X As hP hD hS hnC hC⟩ rfl rfl hl.1 rfl (lv_room hrs) hdg hcs) hS (fun q _ h => hFc q h) hFc (fun r u t H1 locs1 ht hvm hw hB hz1 hk1 hS1 => ?_)
  obtain ⟨hP1, hK1, hD1⟩ := hB
  rw [ht] at hP1
  obtain ⟨hP2, hD2⟩ := wput_join (w1 := ws1 u) hP hD isC hC ((hadr u).trans hadc.symm) hk1 hP1
  skip
  exact kk r u hw H1 locs1 ls hP2 hD2 hS1 hl
theorem g_callSl {S : Type} (X : CX B M cc nL own) {ok : Int64 → S → Prop} {ws1 : S → va_W} {y : MethodName} {b : ByteArray} {n index : Nat} {rm : Room} {As : List Value} {wc : va_W} (hM : Cl (m_l M) B y b n rm As wc ok ws1)
    (hlink : Cond.methodLink own index y ∈ W0) (hstat : Cond.static y ∈ W0) (hini : Cond.initialized y.cls ∈ W0) (hcode : Cond.code y b n (some .long) ∈ W0) (hd : y.cls ≠ "java/lang/invoke/MethodHandle" ∧ y.cls ≠ "java/lang/invoke/VarHandle" ∧ (parseMethodDescriptor y.desc).map (fun d => d.parameters.length) = some As.length)
    (isC : List Nat) (hnC : va_nd isC = true) (hC : isC.map (fun i => ws[i]?) = wc.map some) (ad : List Nat) (hadr : ∀ u : S, (ws1 u).map Prod.fst = ad) (hadc : wc.map Prod.fst = ad) 
    (hroom : rm.frames + 1 ≤ (m_R M).frames ∧ 8 + (n + 11) + rm.locals ≤ (m_R M).locals) (hcs : n1 + rm.cells ≤ (m_R M).cells ∧ n2 + rm.slots ≤ (m_R M).slots) (hst : st = As.reverse ++ rest) (hrs : (rest.map fun v => v.category).sum ≤ 8) (hdg : decode cc pc = .ok (.invokestatic index, 3))
    (kk : ∀ (r : Int64) (u : S), ok r u → G B M nL (n1 + rm.cells) (n2 + rm.slots) Q (wput ws isC (ws1 u)) lv (pc + 3) (.long r :: rest)) : G B M nL n1 n2 Q ws lv pc st := by
  intro H locs ls hP hD hS hl
  subst hst
  have hFc := va_free (wc := wc) hD hS X.A isC hC
  refine va_calll (va_runS (As := As) (rest := rest) ⟨X.x, X.b, X.n, X.o, X.t⟩ (hM H.size) ⟨callB_of As.length X.t (W0_good hcode) rfl rfl rfl (X.t _ hini) (X.t _ hlink) hd hroom, X.t _ hstat⟩ ⟨PreW.blind _ _ _, PreW.at X As hP hD hS hnC hC⟩ rfl rfl hl.1 rfl (lv_room hrs) hdg hcs) hS (fun q _ h => hFc q h) hFc (fun r u t H1 locs1 ht hvm hw hB hz1 hk1 hS1 => ?_)
  obtain ⟨hP1, hK1, hD1⟩ := hB
  rw [ht] at hP1
  obtain ⟨hP2, hD2⟩ := wput_join (w1 := ws1 u) hP hD isC hC ((hadr u).trans hadc.symm) hk1 hP1
  skip
  exact kk r u hw H1 locs1 ls hP2 hD2 hS1 hl
theorem g_callSr {S : Type} (X : CX B M cc nL own) {ok : S → Prop} {ra : S → Nat} {rt : FieldType} {ws1 : S → va_W} {y : MethodName} {b : ByteArray} {n index : Nat} {rm : Room} {As : List Value} {wc : va_W} (hM : Cr (m_l M) B y b n rt rm As wc ok ra ws1)
    (hlink : Cond.methodLink own index y ∈ W0) (hstat : Cond.static y ∈ W0) (hini : Cond.initialized y.cls ∈ W0) (hcode : Cond.code y b n (some rt) ∈ W0) (hd : y.cls ≠ "java/lang/invoke/MethodHandle" ∧ y.cls ≠ "java/lang/invoke/VarHandle" ∧ (parseMethodDescriptor y.desc).map (fun d => d.parameters.length) = some As.length)
    (isC : List Nat) (hnC : va_nd isC = true) (hC : isC.map (fun i => ws[i]?) = wc.map some) (ad : List Nat) (hadr : ∀ u : S, (ws1 u).map Prod.fst = ad) (hadc : wc.map Prod.fst = ad) 
    (hroom : rm.frames + 1 ≤ (m_R M).frames ∧ 8 + (n + 11) + rm.locals ≤ (m_R M).locals) (hcs : n1 + rm.cells ≤ (m_R M).cells ∧ n2 + rm.slots ≤ (m_R M).slots) (hst : st = As.reverse ++ rest) (hrs : (rest.map fun v => v.category).sum ≤ 8) (hdg : decode cc pc = .ok (.invokestatic index, 3))
    (kk : ∀ (u : S), ok u → G B M nL (n1 + rm.cells) (n2 + rm.slots) Q (wput ws isC (ws1 u)) lv (pc + 3) (.ref (ra u) :: rest)) : G B M nL n1 n2 Q ws lv pc st := by
  intro H locs ls hP hD hS hl
  subst hst
  have hFc := va_free (wc := wc) hD hS X.A isC hC
  refine va_callr (va_runS (As := As) (rest := rest) ⟨X.x, X.b, X.n, X.o, X.t⟩ (hM H.size) ⟨callB_of As.length X.t (W0_good hcode) rfl rfl rfl (X.t _ hini) (X.t _ hlink) hd hroom, X.t _ hstat⟩ ⟨PreW.blind _ _ _, PreW.at X As hP hD hS hnC hC⟩ rfl rfl hl.1 rfl (lv_room hrs) hdg hcs) hS (fun q _ h => hFc q h) hFc (fun u ra9 t H1 locs1 ht hvm hw hB hz1 hk1 hS1 => ?_)
  obtain ⟨hra, hP1, hK1, hD1⟩ := hB
  rw [ht] at hP1
  obtain ⟨hP2, hD2⟩ := wput_join (w1 := ws1 u) hP hD isC hC ((hadr u).trans hadc.symm) hk1 hP1
  subst hra
  exact kk u hw H1 locs1 ls hP2 hD2 hS1 hl
theorem g_callSNv {S : Type} (X : CX B M cc nL own) {ok : S → Prop} {ws1 : S → va_W} {y : MethodName} {b : ByteArray} {n index : Nat} {rm : Room} {As : List Value} {wc : va_W} {host : String} (hM : Cv (m_l M) B y b n rm As wc ok ws1)
    (hlink : Cond.methodLinkNest own index y host ∈ nestWords) (hstat : Cond.static y ∈ W0) (hini : Cond.initialized y.cls ∈ W0) (hcode : Cond.code y b n none ∈ W0) (hd : y.cls ≠ "java/lang/invoke/MethodHandle" ∧ y.cls ≠ "java/lang/invoke/VarHandle" ∧ (parseMethodDescriptor y.desc).map (fun d => d.parameters.length) = some As.length)
    (isC : List Nat) (hnC : va_nd isC = true) (hC : isC.map (fun i => ws[i]?) = wc.map some) (ad : List Nat) (hadr : ∀ u : S, (ws1 u).map Prod.fst = ad) (hadc : wc.map Prod.fst = ad) 
    (hroom : rm.frames + 1 ≤ (m_R M).frames ∧ 8 + (n + 11) + rm.locals ≤ (m_R M).locals) (hcs : n1 + rm.cells ≤ (m_R M).cells ∧ n2 + rm.slots ≤ (m_R M).slots) (hst : st = As.reverse ++ rest) (hrs : (rest.map fun v => v.category).sum ≤ 8) (hdg : decode cc pc = .ok (.invokestatic index, 3))
    (kk : ∀ (u : S), ok u → G B M nL (n1 + rm.cells) (n2 + rm.slots) Q (wput ws isC (ws1 u)) lv (pc + 3) (rest)) : G B M nL n1 n2 Q ws lv pc st := by
  intro H locs ls hP hD hS hl
  subst hst
  have hFc := va_free (wc := wc) hD hS X.A isC hC
  refine va_callv (va_runSN (As := As) (rest := rest) ⟨X.x, X.b, X.n, X.o, X.t⟩ (hM H.size) ⟨va_cnB As.length X.t (W0_good hcode) rfl rfl rfl (X.s.2.1 _ hlink) (X.t _ hini) hd hroom, X.t _ hstat, trivial⟩ ⟨PreW.blind _ _ _, PreW.at X As hP hD hS hnC hC⟩ rfl rfl hl.1 rfl (lv_room hrs) hdg hcs) hS (fun q _ h => hFc q h) hFc (fun u t H1 locs1 ht hvm hw hB hz1 hk1 hS1 => ?_)
  obtain ⟨hP1, hK1, hD1⟩ := hB
  rw [ht] at hP1
  obtain ⟨hP2, hD2⟩ := wput_join (w1 := ws1 u) hP hD isC hC ((hadr u).trans hadc.symm) hk1 hP1
  skip
  exact kk u hw H1 locs1 ls hP2 hD2 hS1 hl
theorem g_callSNi {S : Type} (X : CX B M cc nL own) {ok : Int32 → S → Prop} {rt : FieldType} {ws1 : S → va_W} {y : MethodName} {b : ByteArray} {n index : Nat} {rm : Room} {As : List Value} {wc : va_W} {host : String} (hM : Ci (m_l M) B y b n rt rm As wc ok ws1)
    (hlink : Cond.methodLinkNest own index y host ∈ nestWords) (hstat : Cond.static y ∈ W0) (hini : Cond.initialized y.cls ∈ W0) (hcode : Cond.code y b n (some rt) ∈ W0) (hd : y.cls ≠ "java/lang/invoke/MethodHandle" ∧ y.cls ≠ "java/lang/invoke/VarHandle" ∧ (parseMethodDescriptor y.desc).map (fun d => d.parameters.length) = some As.length)
    (isC : List Nat) (hnC : va_nd isC = true) (hC : isC.map (fun i => ws[i]?) = wc.map some) (ad : List Nat) (hadr : ∀ u : S, (ws1 u).map Prod.fst = ad) (hadc : wc.map Prod.fst = ad) 
    (hroom : rm.frames + 1 ≤ (m_R M).frames ∧ 8 + (n + 11) + rm.locals ≤ (m_R M).locals) (hcs : n1 + rm.cells ≤ (m_R M).cells ∧ n2 + rm.slots ≤ (m_R M).slots) (hst : st = As.reverse ++ rest) (hrs : (rest.map fun v => v.category).sum ≤ 8) (hdg : decode cc pc = .ok (.invokestatic index, 3))
    (kk : ∀ (r : Int32) (u : S), ok r u → G B M nL (n1 + rm.cells) (n2 + rm.slots) Q (wput ws isC (ws1 u)) lv (pc + 3) (.int r :: rest)) : G B M nL n1 n2 Q ws lv pc st := by
  intro H locs ls hP hD hS hl
  subst hst
  have hFc := va_free (wc := wc) hD hS X.A isC hC
  refine va_calli (va_runSN (As := As) (rest := rest) ⟨X.x, X.b, X.n, X.o, X.t⟩ (hM H.size) ⟨va_cnB As.length X.t (W0_good hcode) rfl rfl rfl (X.s.2.1 _ hlink) (X.t _ hini) hd hroom, X.t _ hstat, trivial⟩ ⟨PreW.blind _ _ _, PreW.at X As hP hD hS hnC hC⟩ rfl rfl hl.1 rfl (lv_room hrs) hdg hcs) hS (fun q _ h => hFc q h) hFc (fun r u t H1 locs1 ht hvm hw hB hz1 hk1 hS1 => ?_)
  obtain ⟨hP1, hK1, hD1⟩ := hB
  rw [ht] at hP1
  obtain ⟨hP2, hD2⟩ := wput_join (w1 := ws1 u) hP hD isC hC ((hadr u).trans hadc.symm) hk1 hP1
  skip
  exact kk r u hw H1 locs1 ls hP2 hD2 hS1 hl
theorem g_callSNl {S : Type} (X : CX B M cc nL own) {ok : Int64 → S → Prop} {ws1 : S → va_W} {y : MethodName} {b : ByteArray} {n index : Nat} {rm : Room} {As : List Value} {wc : va_W} {host : String} (hM : Cl (m_l M) B y b n rm As wc ok ws1)
    (hlink : Cond.methodLinkNest own index y host ∈ nestWords) (hstat : Cond.static y ∈ W0) (hini : Cond.initialized y.cls ∈ W0) (hcode : Cond.code y b n (some .long) ∈ W0) (hd : y.cls ≠ "java/lang/invoke/MethodHandle" ∧ y.cls ≠ "java/lang/invoke/VarHandle" ∧ (parseMethodDescriptor y.desc).map (fun d => d.parameters.length) = some As.length)
    (isC : List Nat) (hnC : va_nd isC = true) (hC : isC.map (fun i => ws[i]?) = wc.map some) (ad : List Nat) (hadr : ∀ u : S, (ws1 u).map Prod.fst = ad) (hadc : wc.map Prod.fst = ad) 
    (hroom : rm.frames + 1 ≤ (m_R M).frames ∧ 8 + (n + 11) + rm.locals ≤ (m_R M).locals) (hcs : n1 + rm.cells ≤ (m_R M).cells ∧ n2 + rm.slots ≤ (m_R M).slots) (hst : st = As.reverse ++ rest) (hrs : (rest.map fun v => v.category).sum ≤ 8) (hdg : decode cc pc = .ok (.invokestatic index, 3))
    (kk : ∀ (r : Int64) (u : S), ok r u → G B M nL (n1 + rm.cells) (n2 + rm.slots) Q (wput ws isC (ws1 u)) lv (pc + 3) (.long r :: rest)) : G B M nL n1 n2 Q ws lv pc st := by
  intro H locs ls hP hD hS hl
  subst hst
  have hFc := va_free (wc := wc) hD hS X.A isC hC
  refine va_calll (va_runSN (As := As) (rest := rest) ⟨X.x, X.b, X.n, X.o, X.t⟩ (hM H.size) ⟨va_cnB As.length X.t (W0_good hcode) rfl rfl rfl (X.s.2.1 _ hlink) (X.t _ hini) hd hroom, X.t _ hstat, trivial⟩ ⟨PreW.blind _ _ _, PreW.at X As hP hD hS hnC hC⟩ rfl rfl hl.1 rfl (lv_room hrs) hdg hcs) hS (fun q _ h => hFc q h) hFc (fun r u t H1 locs1 ht hvm hw hB hz1 hk1 hS1 => ?_)
  obtain ⟨hP1, hK1, hD1⟩ := hB
  rw [ht] at hP1
  obtain ⟨hP2, hD2⟩ := wput_join (w1 := ws1 u) hP hD isC hC ((hadr u).trans hadc.symm) hk1 hP1
  skip
  exact kk r u hw H1 locs1 ls hP2 hD2 hS1 hl
theorem g_callSNr {S : Type} (X : CX B M cc nL own) {ok : S → Prop} {ra : S → Nat} {rt : FieldType} {ws1 : S → va_W} {y : MethodName} {b : ByteArray} {n index : Nat} {rm : Room} {As : List Value} {wc : va_W} {host : String} (hM : Cr (m_l M) B y b n rt rm As wc ok ra ws1)
    (hlink : Cond.methodLinkNest own index y host ∈ nestWords) (hstat : Cond.static y ∈ W0) (hini : Cond.initialized y.cls ∈ W0) (hcode : Cond.code y b n (some rt) ∈ W0) (hd : y.cls ≠ "java/lang/invoke/MethodHandle" ∧ y.cls ≠ "java/lang/invoke/VarHandle" ∧ (parseMethodDescriptor y.desc).map (fun d => d.parameters.length) = some As.length)
    (isC : List Nat) (hnC : va_nd isC = true) (hC : isC.map (fun i => ws[i]?) = wc.map some) (ad : List Nat) (hadr : ∀ u : S, (ws1 u).map Prod.fst = ad) (hadc : wc.map Prod.fst = ad) 
    (hroom : rm.frames + 1 ≤ (m_R M).frames ∧ 8 + (n + 11) + rm.locals ≤ (m_R M).locals) (hcs : n1 + rm.cells ≤ (m_R M).cells ∧ n2 + rm.slots ≤ (m_R M).slots) (hst : st = As.reverse ++ rest) (hrs : (rest.map fun v => v.category).sum ≤ 8) (hdg : decode cc pc = .ok (.invokestatic index, 3))
    (kk : ∀ (u : S), ok u → G B M nL (n1 + rm.cells) (n2 + rm.slots) Q (wput ws isC (ws1 u)) lv (pc + 3) (.ref (ra u) :: rest)) : G B M nL n1 n2 Q ws lv pc st := by
  intro H locs ls hP hD hS hl
  subst hst
  have hFc := va_free (wc := wc) hD hS X.A isC hC
  refine va_callr (va_runSN (As := As) (rest := rest) ⟨X.x, X.b, X.n, X.o, X.t⟩ (hM H.size) ⟨va_cnB As.length X.t (W0_good hcode) rfl rfl rfl (X.s.2.1 _ hlink) (X.t _ hini) hd hroom, X.t _ hstat, trivial⟩ ⟨PreW.blind _ _ _, PreW.at X As hP hD hS hnC hC⟩ rfl rfl hl.1 rfl (lv_room hrs) hdg hcs) hS (fun q _ h => hFc q h) hFc (fun u ra9 t H1 locs1 ht hvm hw hB hz1 hk1 hS1 => ?_)
  obtain ⟨hra, hP1, hK1, hD1⟩ := hB
  rw [ht] at hP1
  obtain ⟨hP2, hD2⟩ := wput_join (w1 := ws1 u) hP hD isC hC ((hadr u).trans hadc.symm) hk1 hP1
  subst hra
  exact kk u hw H1 locs1 ls hP2 hD2 hS1 hl
theorem g_callIv {S : Type} (X : CX B M cc nL own) {ok : S → Prop} {ws1 : S → va_W} {y : MethodName} {b : ByteArray} {n index : Nat} {rm : Room} {As : List Value} {wc : va_W} {a : Nat} (hM : Cv (m_l M) B y b n rm (.ref a :: As) wc ok ws1)
    (hlink : Cond.methodLink own index y ∈ W0) (hinst : Cond.instanceMethod y ∈ W0) (hnm : y.name = "<init>") (hini : Cond.initialized y.cls ∈ W0) (hcode : Cond.code y b n none ∈ W0) (hd : y.cls ≠ "java/lang/invoke/MethodHandle" ∧ y.cls ≠ "java/lang/invoke/VarHandle" ∧ (parseMethodDescriptor y.desc).map (fun d => d.parameters.length) = some As.length)
    (isC : List Nat) (hnC : va_nd isC = true) (hC : isC.map (fun i => ws[i]?) = wc.map some) (ad : List Nat) (hadr : ∀ u : S, (ws1 u).map Prod.fst = ad) (hadc : wc.map Prod.fst = ad) 
    (hroom : rm.frames + 1 ≤ (m_R M).frames ∧ 8 + (n + 11) + rm.locals ≤ (m_R M).locals) (hcs : n1 + rm.cells ≤ (m_R M).cells ∧ n2 + rm.slots ≤ (m_R M).slots) (hst : st = As.reverse ++ .ref a :: rest) (hrs : (rest.map fun v => v.category).sum ≤ 8) (hdg : decode cc pc = .ok (.invokespecial index, 3))
    (kk : ∀ (u : S), ok u → G B M nL (n1 + rm.cells) (n2 + rm.slots) Q (wput ws isC (ws1 u)) lv (pc + 3) (rest)) : G B M nL n1 n2 Q ws lv pc st := by
  intro H locs ls hP hD hS hl
  subst hst
  have hFc := va_free (wc := wc) hD hS X.A isC hC
  refine va_callv (va_runI (As := As) (rest := rest) ⟨X.x, X.b, X.n, X.o, X.t⟩ (hM H.size) ⟨callB_of As.length X.t (W0_good hcode) rfl rfl rfl (X.t _ hini) (X.t _ hlink) hd hroom, hnm, X.t _ hinst⟩ ⟨PreW.blind _ _ _, PreW.at X (.ref a :: As) hP hD hS hnC hC⟩ rfl rfl hl.1 rfl (lv_room hrs) hdg hcs) hS (fun q _ h => hFc q h) hFc (fun u t H1 locs1 ht hvm hw hB hz1 hk1 hS1 => ?_)
  obtain ⟨hP1, hK1, hD1⟩ := hB
  rw [ht] at hP1
  obtain ⟨hP2, hD2⟩ := wput_join (w1 := ws1 u) hP hD isC hC ((hadr u).trans hadc.symm) hk1 hP1
  skip
  exact kk u hw H1 locs1 ls hP2 hD2 hS1 hl
theorem g_callIvA {S : Type} (X : CX B M cc nL own) {ok : S → Prop} {ws1 : S → va_W} (wn : S → va_W) {y : MethodName} {b : ByteArray} {n index : Nat} {rm : Room} {As : List Value} {wc : va_W} {a : Nat} (hM : Cv (m_l M) B y b n rm (.ref a :: As) wc ok (fun u => ws1 u ++ wn u))
    (hlink : Cond.methodLink own index y ∈ W0) (hinst : Cond.instanceMethod y ∈ W0) (hnm : y.name = "<init>") (hini : Cond.initialized y.cls ∈ W0) (hcode : Cond.code y b n none ∈ W0) (hd : y.cls ≠ "java/lang/invoke/MethodHandle" ∧ y.cls ≠ "java/lang/invoke/VarHandle" ∧ (parseMethodDescriptor y.desc).map (fun d => d.parameters.length) = some As.length)
    (isC : List Nat) (hnC : va_nd isC = true) (hC : isC.map (fun i => ws[i]?) = wc.map some) (ad : List Nat) (hadr : ∀ u : S, (ws1 u).map Prod.fst = ad) (hadc : wc.map Prod.fst = ad) 
    (hroom : rm.frames + 1 ≤ (m_R M).frames ∧ 8 + (n + 11) + rm.locals ≤ (m_R M).locals) (hcs : n1 + rm.cells ≤ (m_R M).cells ∧ n2 + rm.slots ≤ (m_R M).slots) (hst : st = As.reverse ++ .ref a :: rest) (hrs : (rest.map fun v => v.category).sum ≤ 8) (hdg : decode cc pc = .ok (.invokespecial index, 3))
    (kk : ∀ (u : S), ok u → G B M nL (n1 + rm.cells) (n2 + rm.slots) Q (wput ws isC (ws1 u) ++ wn u) lv (pc + 3) (rest)) : G B M nL n1 n2 Q ws lv pc st := by
  intro H locs ls hP hD hS hl
  subst hst
  have hFc := va_free (wc := wc) hD hS X.A isC hC
  refine va_callv (va_runI (As := As) (rest := rest) ⟨X.x, X.b, X.n, X.o, X.t⟩ (hM H.size) ⟨callB_of As.length X.t (W0_good hcode) rfl rfl rfl (X.t _ hini) (X.t _ hlink) hd hroom, hnm, X.t _ hinst⟩ ⟨PreW.blind _ _ _, PreW.at X (.ref a :: As) hP hD hS hnC hC⟩ rfl rfl hl.1 rfl (lv_room hrs) hdg hcs) hS (fun q _ h => hFc q h) hFc (fun u t H1 locs1 ht hvm hw hB hz1 hk1 hS1 => ?_)
  obtain ⟨hP1, hK1, hD1⟩ := hB
  rw [ht] at hP1
  obtain ⟨hP2, hD2⟩ := wput_joinA (w1 := ws1 u) (wn := wn u) hP hD isC hC ((hadr u).trans hadc.symm) hk1 hFc hP1 hD1
  skip
  exact kk u hw H1 locs1 ls hP2 hD2 hS1 hl
theorem g_callINv {S : Type} (X : CX B M cc nL own) {ok : S → Prop} {ws1 : S → va_W} {y : MethodName} {b : ByteArray} {n index : Nat} {rm : Room} {As : List Value} {wc : va_W} {host : String} {a : Nat} (hM : Cv (m_l M) B y b n rm (.ref a :: As) wc ok ws1)
    (hlink : Cond.methodLinkNest own index y host ∈ nestWords) (hinst : Cond.instanceMethod y ∈ W0) (hnm : y.name = "<init>") (hini : Cond.initialized y.cls ∈ W0) (hcode : Cond.code y b n none ∈ W0) (hd : y.cls ≠ "java/lang/invoke/MethodHandle" ∧ y.cls ≠ "java/lang/invoke/VarHandle" ∧ (parseMethodDescriptor y.desc).map (fun d => d.parameters.length) = some As.length)
    (isC : List Nat) (hnC : va_nd isC = true) (hC : isC.map (fun i => ws[i]?) = wc.map some) (ad : List Nat) (hadr : ∀ u : S, (ws1 u).map Prod.fst = ad) (hadc : wc.map Prod.fst = ad) 
    (hroom : rm.frames + 1 ≤ (m_R M).frames ∧ 8 + (n + 11) + rm.locals ≤ (m_R M).locals) (hcs : n1 + rm.cells ≤ (m_R M).cells ∧ n2 + rm.slots ≤ (m_R M).slots) (hst : st = As.reverse ++ .ref a :: rest) (hrs : (rest.map fun v => v.category).sum ≤ 8) (hdg : decode cc pc = .ok (.invokespecial index, 3))
    (kk : ∀ (u : S), ok u → G B M nL (n1 + rm.cells) (n2 + rm.slots) Q (wput ws isC (ws1 u)) lv (pc + 3) (rest)) : G B M nL n1 n2 Q ws lv pc st := by
  intro H locs ls hP hD hS hl
  subst hst
  have hFc := va_free (wc := wc) hD hS X.A isC hC
  refine va_callv (va_runIN (As := As) (rest := rest) ⟨X.x, X.b, X.n, X.o, X.t⟩ (hM H.size) ⟨va_cnB As.length X.t (W0_good hcode) rfl rfl rfl (X.s.2.1 _ hlink) (X.t _ hini) hd hroom, hnm, X.t _ hinst⟩ ⟨PreW.blind _ _ _, PreW.at X (.ref a :: As) hP hD hS hnC hC⟩ rfl rfl hl.1 rfl (lv_room hrs) hdg hcs) hS (fun q _ h => hFc q h) hFc (fun u t H1 locs1 ht hvm hw hB hz1 hk1 hS1 => ?_)
  obtain ⟨hP1, hK1, hD1⟩ := hB
  rw [ht] at hP1
  obtain ⟨hP2, hD2⟩ := wput_join (w1 := ws1 u) hP hD isC hC ((hadr u).trans hadc.symm) hk1 hP1
  skip
  exact kk u hw H1 locs1 ls hP2 hD2 hS1 hl
theorem g_callINvA {S : Type} (X : CX B M cc nL own) {ok : S → Prop} {ws1 : S → va_W} (wn : S → va_W) {y : MethodName} {b : ByteArray} {n index : Nat} {rm : Room} {As : List Value} {wc : va_W} {host : String} {a : Nat} (hM : Cv (m_l M) B y b n rm (.ref a :: As) wc ok (fun u => ws1 u ++ wn u))
    (hlink : Cond.methodLinkNest own index y host ∈ nestWords) (hinst : Cond.instanceMethod y ∈ W0) (hnm : y.name = "<init>") (hini : Cond.initialized y.cls ∈ W0) (hcode : Cond.code y b n none ∈ W0) (hd : y.cls ≠ "java/lang/invoke/MethodHandle" ∧ y.cls ≠ "java/lang/invoke/VarHandle" ∧ (parseMethodDescriptor y.desc).map (fun d => d.parameters.length) = some As.length)
    (isC : List Nat) (hnC : va_nd isC = true) (hC : isC.map (fun i => ws[i]?) = wc.map some) (ad : List Nat) (hadr : ∀ u : S, (ws1 u).map Prod.fst = ad) (hadc : wc.map Prod.fst = ad) 
    (hroom : rm.frames + 1 ≤ (m_R M).frames ∧ 8 + (n + 11) + rm.locals ≤ (m_R M).locals) (hcs : n1 + rm.cells ≤ (m_R M).cells ∧ n2 + rm.slots ≤ (m_R M).slots) (hst : st = As.reverse ++ .ref a :: rest) (hrs : (rest.map fun v => v.category).sum ≤ 8) (hdg : decode cc pc = .ok (.invokespecial index, 3))
    (kk : ∀ (u : S), ok u → G B M nL (n1 + rm.cells) (n2 + rm.slots) Q (wput ws isC (ws1 u) ++ wn u) lv (pc + 3) (rest)) : G B M nL n1 n2 Q ws lv pc st := by
  intro H locs ls hP hD hS hl
  subst hst
  have hFc := va_free (wc := wc) hD hS X.A isC hC
  refine va_callv (va_runIN (As := As) (rest := rest) ⟨X.x, X.b, X.n, X.o, X.t⟩ (hM H.size) ⟨va_cnB As.length X.t (W0_good hcode) rfl rfl rfl (X.s.2.1 _ hlink) (X.t _ hini) hd hroom, hnm, X.t _ hinst⟩ ⟨PreW.blind _ _ _, PreW.at X (.ref a :: As) hP hD hS hnC hC⟩ rfl rfl hl.1 rfl (lv_room hrs) hdg hcs) hS (fun q _ h => hFc q h) hFc (fun u t H1 locs1 ht hvm hw hB hz1 hk1 hS1 => ?_)
  obtain ⟨hP1, hK1, hD1⟩ := hB
  rw [ht] at hP1
  obtain ⟨hP2, hD2⟩ := wput_joinA (w1 := ws1 u) (wn := wn u) hP hD isC hC ((hadr u).trans hadc.symm) hk1 hFc hP1 hD1
  skip
  exact kk u hw H1 locs1 ls hP2 hD2 hS1 hl
end GC
section GD
theorem ctr_v {S : Type} {l : Launch} {B : Bx} {y : MethodName} {b : ByteArray} {nL : Nat} {rm : Room} {av : List Value} {ws : va_W} {ok : S → Prop} {ws1 : S → va_W} (hy : plainName y.cls = true) (hav : (lg_sl av).length ≤ nL)
    (body : ∀ (M : Mx) (Q : State → Prop), m_l M = l → m_R M = rm → (m_h M).name = y.name → CX B M b nL y.cls → (∀ (u : S) (lv : List (Nat × Value)) (pc : Nat), ok u → decode b pc = .ok (.return_, 1) → G B M nL rm.cells rm.slots Q (ws1 u) lv pc []) → G B M nL 0 0 Q ws (lv_args 0 av) 0 []) : Cv l B y b nL rm av ws ok ws1 := by
  intro sz
  refine Met.ofW (cc := b) (maxL := nL) (ret := none) hy rfl ?_
  intro p e s m args below meth c s₁ Bd hml hv
  obtain ⟨rfl, hsz, hX, hP, hK, hD0⟩ := hv
  subst hsz
  have hin : meth.name = y.name := (name_of_methodNamed Bd.named Bd.method).1
  have hD := hD0.self (sz := s.heap.size)
  rw [lg_entry_eq]
  refine body (p, l, e, rm, s, m, av.toArray, below, meth, c, va_A ws s.heap.size) _ rfl rfl hin ⟨Bd.exec, Bd.bytes, hml, findClass_of_methodNamed Bd.named, fun w hw => atoms_spec (ws := Cond.code y b nL none :: W0) Bd.pre w (List.mem_cons_of_mem _ hw), hK, fun q h => Or.inr h, fun q h => ?_, hX⟩ ?_ s.heap [] _ hP hD va_S.rf (lv_entry av hav)
  · rcases h with ⟨k, e9, hk⟩ | h
    · exact hD0.2 k _ hk
    · exact Nat.le_trans hX.1 h
  · intro u lv pc hok hd H locs ls hP2 hD2 hS2 hl2
    exact W.vret Bd.exec Bd.bytes Bd.returns (fun t ht hW => ⟨⟨u, rfl, hok, by rw [ht]; exact hP2, va_K.moved hW.alike hK, hD2⟩, hS2.F ht⟩) hS2.2.2 hd Bd.notSynchronized
theorem ctr_i {S : Type} {l : Launch} {B : Bx} {y : MethodName} {b : ByteArray} {nL : Nat} {rm : Room} {av : List Value} {ws : va_W} {ok : Int32 → S → Prop} {ws1 : S → va_W} (hy : plainName y.cls = true) (hav : (lg_sl av).length ≤ nL)
    (body : ∀ (M : Mx) (Q : State → Prop), m_l M = l → m_R M = rm → (m_h M).name = y.name → CX B M b nL y.cls → (∀ (r : Int32) (u : S) (lv : List (Nat × Value)) (pc : Nat), ok r u → decode b pc = .ok (.ireturn, 1) → G B M nL rm.cells rm.slots Q (ws1 u) lv pc [.int r]) → G B M nL 0 0 Q ws (lv_args 0 av) 0 []) : Ci l B y b nL .int rm av ws ok ws1 := by
  intro sz
  refine Met.ofW (cc := b) (maxL := nL) (ret := (some .int)) hy rfl ?_
  intro p e s m args below meth c s₁ Bd hml hv
  obtain ⟨rfl, hsz, hX, hP, hK, hD0⟩ := hv
  subst hsz
  have hin : meth.name = y.name := (name_of_methodNamed Bd.named Bd.method).1
  have hD := hD0.self (sz := s.heap.size)
  rw [lg_entry_eq]
  refine body (p, l, e, rm, s, m, av.toArray, below, meth, c, va_A ws s.heap.size) _ rfl rfl hin ⟨Bd.exec, Bd.bytes, hml, findClass_of_methodNamed Bd.named, fun w hw => atoms_spec (ws := Cond.code y b nL (some .int) :: W0) Bd.pre w (List.mem_cons_of_mem _ hw), hK, fun q h => Or.inr h, fun q h => ?_, hX⟩ ?_ s.heap [] _ hP hD va_S.rf (lv_entry av hav)
  · rcases h with ⟨k, e9, hk⟩ | h
    · exact hD0.2 k _ hk
    · exact Nat.le_trans hX.1 h
  · intro r u lv pc hok hd H locs ls hP2 hD2 hS2 hl2
    exact W.iret Bd.exec Bd.bytes Bd.returns (fun t ht hW => ⟨⟨r, u, rfl, hok, by rw [ht]; exact hP2, va_K.moved hW.alike hK, hD2⟩, hS2.F ht⟩) hS2.2.2 hd Bd.notSynchronized
theorem ctr_z {S : Type} {l : Launch} {B : Bx} {y : MethodName} {b : ByteArray} {nL : Nat} {rm : Room} {av : List Value} {ws : va_W} {ok : Int32 → S → Prop} {ws1 : S → va_W} (hy : plainName y.cls = true) (hav : (lg_sl av).length ≤ nL)
    (body : ∀ (M : Mx) (Q : State → Prop), m_l M = l → m_R M = rm → (m_h M).name = y.name → CX B M b nL y.cls → (∀ (r : Int32) (u : S) (lv : List (Nat × Value)) (pc : Nat), narrow .boolean (.int r) = .int r ∧ ok r u → decode b pc = .ok (.ireturn, 1) → G B M nL rm.cells rm.slots Q (ws1 u) lv pc [.int r]) → G B M nL 0 0 Q ws (lv_args 0 av) 0 []) : Ci l B y b nL .boolean rm av ws ok ws1 := by
  intro sz
  refine Met.ofW (cc := b) (maxL := nL) (ret := (some .boolean)) hy rfl ?_
  intro p e s m args below meth c s₁ Bd hml hv
  obtain ⟨rfl, hsz, hX, hP, hK, hD0⟩ := hv
  subst hsz
  have hin : meth.name = y.name := (name_of_methodNamed Bd.named Bd.method).1
  have hD := hD0.self (sz := s.heap.size)
  rw [lg_entry_eq]
  refine body (p, l, e, rm, s, m, av.toArray, below, meth, c, va_A ws s.heap.size) _ rfl rfl hin ⟨Bd.exec, Bd.bytes, hml, findClass_of_methodNamed Bd.named, fun w hw => atoms_spec (ws := Cond.code y b nL (some .boolean) :: W0) Bd.pre w (List.mem_cons_of_mem _ hw), hK, fun q h => Or.inr h, fun q h => ?_, hX⟩ ?_ s.heap [] _ hP hD va_S.rf (lv_entry av hav)
  · rcases h with ⟨k, e9, hk⟩ | h
    · exact hD0.2 k _ hk
    · exact Nat.le_trans hX.1 h
  · intro r u lv pc hok hd H locs ls hP2 hD2 hS2 hl2
    exact W.zret Bd.exec Bd.bytes Bd.returns hok.1 (fun t ht hW => ⟨⟨r, u, rfl, hok.2, by rw [ht]; exact hP2, va_K.moved hW.alike hK, hD2⟩, hS2.F ht⟩) hS2.2.2 hd Bd.notSynchronized
theorem ctr_l {S : Type} {l : Launch} {B : Bx} {y : MethodName} {b : ByteArray} {nL : Nat} {rm : Room} {av : List Value} {ws : va_W} {ok : Int64 → S → Prop} {ws1 : S → va_W} (hy : plainName y.cls = true) (hav : (lg_sl av).length ≤ nL)
    (body : ∀ (M : Mx) (Q : State → Prop), m_l M = l → m_R M = rm → (m_h M).name = y.name → CX B M b nL y.cls → (∀ (r : Int64) (u : S) (lv : List (Nat × Value)) (pc : Nat), ok r u → decode b pc = .ok (.lreturn, 1) → G B M nL rm.cells rm.slots Q (ws1 u) lv pc [.long r]) → G B M nL 0 0 Q ws (lv_args 0 av) 0 []) : Cl l B y b nL rm av ws ok ws1 := by
  intro sz
  refine Met.ofW (cc := b) (maxL := nL) (ret := (some .long)) hy rfl ?_
  intro p e s m args below meth c s₁ Bd hml hv
  obtain ⟨rfl, hsz, hX, hP, hK, hD0⟩ := hv
  subst hsz
  have hin : meth.name = y.name := (name_of_methodNamed Bd.named Bd.method).1
  have hD := hD0.self (sz := s.heap.size)
  rw [lg_entry_eq]
  refine body (p, l, e, rm, s, m, av.toArray, below, meth, c, va_A ws s.heap.size) _ rfl rfl hin ⟨Bd.exec, Bd.bytes, hml, findClass_of_methodNamed Bd.named, fun w hw => atoms_spec (ws := Cond.code y b nL (some .long) :: W0) Bd.pre w (List.mem_cons_of_mem _ hw), hK, fun q h => Or.inr h, fun q h => ?_, hX⟩ ?_ s.heap [] _ hP hD va_S.rf (lv_entry av hav)
  · rcases h with ⟨k, e9, hk⟩ | h
    · exact hD0.2 k _ hk
    · exact Nat.le_trans hX.1 h
  · intro r u lv pc hok hd H locs ls hP2 hD2 hS2 hl2
    exact W.lret Bd.exec Bd.bytes Bd.returns (fun t ht hW => ⟨⟨r, u, rfl, hok, by rw [ht]; exact hP2, va_K.moved hW.alike hK, hD2⟩, hS2.F ht⟩) hS2.2.2 hd Bd.notSynchronized
theorem ctr_r {S : Type} {l : Launch} {B : Bx} {y : MethodName} {b : ByteArray} {nL : Nat} {rm : Room} {av : List Value} {ws : va_W} {ok : S → Prop} {ra : S → Nat} {rt : FieldType} {ws1 : S → va_W} (hy : plainName y.cls = true) (hrt : (∃ n, rt = .object n) ∨ ∃ t, rt = .array t) (hav : (lg_sl av).length ≤ nL)
    (body : ∀ (M : Mx) (Q : State → Prop), m_l M = l → m_R M = rm → (m_h M).name = y.name → CX B M b nL y.cls → (∀ (u : S) (lv : List (Nat × Value)) (pc : Nat), ok u → decode b pc = .ok (.areturn, 1) → G B M nL rm.cells rm.slots Q (ws1 u) lv pc [.ref (ra u)]) → G B M nL 0 0 Q ws (lv_args 0 av) 0 []) : Cr l B y b nL rt rm av ws ok ra ws1 := by
  intro sz
  refine Met.ofW (cc := b) (maxL := nL) (ret := (some rt)) hy rfl ?_
  intro p e s m args below meth c s₁ Bd hml hv
  obtain ⟨rfl, hsz, hX, hP, hK, hD0⟩ := hv
  subst hsz
  have hin : meth.name = y.name := (name_of_methodNamed Bd.named Bd.method).1
  have hD := hD0.self (sz := s.heap.size)
  rw [lg_entry_eq]
  refine body (p, l, e, rm, s, m, av.toArray, below, meth, c, va_A ws s.heap.size) _ rfl rfl hin ⟨Bd.exec, Bd.bytes, hml, findClass_of_methodNamed Bd.named, fun w hw => atoms_spec (ws := Cond.code y b nL (some rt) :: W0) Bd.pre w (List.mem_cons_of_mem _ hw), hK, fun q h => Or.inr h, fun q h => ?_, hX⟩ ?_ s.heap [] _ hP hD va_S.rf (lv_entry av hav)
  · rcases h with ⟨k, e9, hk⟩ | h
    · exact hD0.2 k _ hk
    · exact Nat.le_trans hX.1 h
  · intro u lv pc hok hd H locs ls hP2 hD2 hS2 hl2
    exact W.aret Bd.exec Bd.bytes Bd.returns hrt (Or.inr ⟨_, rfl⟩) (fun t ht hW => ⟨⟨u, ra u, rfl, hok, rfl, by rw [ht]; exact hP2, va_K.moved hW.alike hK, hD2⟩, hS2.F ht⟩) hS2.2.2 hd Bd.notSynchronized
end GD
end
section
section GE
variable {B : Bx} {M : Mx} {cc : ByteArray} {nL n1 n2 : Nat} {own : String} {Q : State → Prop} {ws : va_W} {lv : List (Nat × Value)} {pc : Nat} {st rest : List Value}
theorem g_iinc (X : CX B M cc nL own) {i : Nat} {n : Int} {x k9 : Int32} (hdg : decode cc pc = .ok (.iinc i n, 3)) (hl : lvq lv i = some (.int x)) (hv : Int32.ofInt n = k9) (hn : i < nL)
    (kk : G B M nL n1 n2 Q ws ((i, Value.int (x + k9)) :: lv.filter (fun q => !(q.1 == i) && !(q.1 + 1 == i && q.2.category == 2))) (pc + 3) rest) : G B M nL n1 n2 Q ws lv pc rest := by
  intro H locs ls hP hD hS hl0
  obtain ⟨k, hk⟩ := List.getElem?_of_mem (lvq_mem hl)
  exact lv_iinc X.x X.b hdg hl0 hk (by rw [hv]) hn rfl (fun ls' hl' => kk H locs ls' hP hD hS hl')
theorem g_lcmp (X : CX B M cc nL own) {x y : Int64} (hdg : decode cc pc = .ok (.lcmp, 1)) (k : G B M nL n1 n2 Q ws lv (pc + 1) (.int (lg_cmp x y) :: rest)) : G B M nL n1 n2 Q ws lv pc (.long y :: .long x :: rest) :=
  fun H locs ls hP hD hS hl => W.lcmp X.x X.b hdg (k H locs ls hP hD hS hl)
theorem g_mmin (X : CX B M cc nL own) {index : Nat} (hlink : Cond.methodLink own index Lib.Math.min.name ∈ W0) (hstat : Cond.static Lib.Math.min.name ∈ W0) (hini : Cond.initialized "java/lang/Math" ∈ W0) (hcode : Cond.code Lib.Math.min.name Lib.Math.min.code 2 (some .int) ∈ W0)
    (hframes : 1 ≤ (m_R M).frames) (hlocals : (rest.map fun v => v.category).sum + 13 ≤ (m_R M).locals) (hc : n1 ≤ (m_R M).cells) (hs : n2 ≤ (m_R M).slots) {x y : Int32} (hdg : decode cc pc = .ok (.invokestatic index, 3))
    (kk : G B M nL n1 n2 Q ws lv (pc + 3) (.int (if y < x then y else x) :: rest)) : G B M nL n1 n2 Q ws lv pc (.int y :: .int x :: rest) :=
  fun H locs ls hP hD hS hl => va_mmin X.x X.b (by rw [X.n]; exact hl.1.symm) X.o (X.t _ hlink) (X.t _ hstat) (X.t _ hini) (X.t _ hcode) hframes hlocals hc hs hdg (kk H locs ls hP hD hS hl)
theorem nI_nn {k : Nat} (h : k < 2 ^ 31) : ¬ nI k < 0 := nI_pos h
theorem g_copyb (X : CX B M cc nL own) {index : Nat} (hlink : Cond.methodLink own index arraycopyName ∈ W0) (hnat : Cond.native arraycopyName ∈ W0) (hstat : Cond.static arraycopyName ∈ W0) (hini : Cond.initialized "java/lang/System" ∈ W0)
    (q0 q1 : Nat) {a0 a n0 m0 : Nat} {f g : Nat → Int8} (he0 : ws[q0]? = some (cb B a0 n0 f)) (he1 : ws[q1]? = some (cb B a m0 g)) (sp dp k : Nat) {x1 x2 x3 : Int32} (h1 : x1 = nI sp) (h2 : x2 = nI dp) (h3 : x3 = nI k) (h4 : sp + k ≤ n0) (h5 : dp + k ≤ m0) (hn0 : n0 < 2 ^ 31) (hm0 : m0 < 2 ^ 31)
    (hframes : 1 ≤ (m_R M).frames) (hlocals : (rest.map fun v => v.category).sum + (nativeFrameWords "java/lang/System" "arraycopy" 5 + 11) ≤ (m_R M).locals) (hdg : decode cc pc = .ok (.invokestatic index, 3))
    (kk : G B M nL n1 n2 Q (ws.set q1 (cb B a m0 (va_cpy f g sp dp k))) lv (pc + 3) rest) : G B M nL n1 n2 Q ws lv pc (.int x3 :: .int x2 :: .ref a :: .int x1 :: .ref a0 :: rest) := by
  intro H locs ls hP hD hS hl
  subst h1 h2 h3
  have e1 := nI_clamp (n := sp) (by omega)
  have e2 := nI_clamp (n := dp) (by omega)
  have e3 := nI_clamp (n := k) (by omega)
  refine va_copyi X.x X.b (by rw [X.n]; exact hl.1.symm) X.o (X.t _ hlink) (X.t _ hnat) (X.t _ hstat) (X.t _ hini) X.k hP hD hS q0 q1 0 0 he0 he1 rfl rfl rfl (nI_pos (by omega)) (nI_pos (by omega)) (nI_pos (by omega)) (by rw [e1, e3]; exact h4) (by rw [e2, e3]; exact h5) (fun i _ => by_fits _) hframes hlocals hdg (fun H1 locs1 hP1 hD1 hS1 => ?_)
  rw [e1, e2, e3, cpy_bt] at hP1 hD1
  exact kk H1 locs1 ls hP1 hD1 hS1 hl
theorem g_copyj (X : CX B M cc nL own) {index : Nat} (hlink : Cond.methodLink own index arraycopyName ∈ W0) (hnat : Cond.native arraycopyName ∈ W0) (hstat : Cond.static arraycopyName ∈ W0) (hini : Cond.initialized "java/lang/System" ∈ W0)
    (q0 q1 : Nat) {a0 a n0 m0 : Nat} {f g : Nat → Int64} (he0 : ws[q0]? = some (cj B a0 n0 f)) (he1 : ws[q1]? = some (cj B a m0 g)) (sp dp k : Nat) {x1 x2 x3 : Int32} (h1 : x1 = nI sp) (h2 : x2 = nI dp) (h3 : x3 = nI k) (h4 : sp + k ≤ n0) (h5 : dp + k ≤ m0) (hn0 : n0 < 2 ^ 31) (hm0 : m0 < 2 ^ 31)
    (hframes : 1 ≤ (m_R M).frames) (hlocals : (rest.map fun v => v.category).sum + (nativeFrameWords "java/lang/System" "arraycopy" 5 + 11) ≤ (m_R M).locals) (hdg : decode cc pc = .ok (.invokestatic index, 3))
    (kk : G B M nL n1 n2 Q (ws.set q1 (cj B a m0 (va_cpy f g sp dp k))) lv (pc + 3) rest) : G B M nL n1 n2 Q ws lv pc (.int x3 :: .int x2 :: .ref a :: .int x1 :: .ref a0 :: rest) := by
  intro H locs ls hP hD hS hl
  subst h1 h2 h3
  have e1 := nI_clamp (n := sp) (by omega)
  have e2 := nI_clamp (n := dp) (by omega)
  have e3 := nI_clamp (n := k) (by omega)
  refine va_copyl X.x X.b (by rw [X.n]; exact hl.1.symm) X.o (X.t _ hlink) (X.t _ hnat) (X.t _ hstat) (X.t _ hini) X.k hP hD hS q0 q1 1 1 he0 he1 rfl rfl rfl (nI_pos (by omega)) (nI_pos (by omega)) (nI_pos (by omega)) (by rw [e1, e3]; exact h4) (by rw [e2, e3]; exact h5) (fun i _ => rfl) hframes hlocals hdg (fun H1 locs1 hP1 hD1 hS1 => ?_)
  rw [e1, e2, e3] at hP1 hD1
  exact kk H1 locs1 ls hP1 hD1 hS1 hl
theorem w_copyt {p : Program} {l : Launch} {e : Env} {R : Room} {s : State} {m : MethodId} {args : Array Value} {below : List Frame} {meth : Method} {c : Code} {H : Heap} {locs : List Loc} {cells slots : Nat} {Q : State → Prop} {cc : ByteArray} {pc : Nat} {ls : Array Slot} {rest : List Value} {D : va_G} {cl : List vw_C} {A : Nat → Prop} {a : Nat} {tys : List (ClassId × FieldType)} {ws : va_W}
    (hexec : p.tables.exec = Jvm.exec) (hb : c.code = cc) (hml : c.maxLocals = ls.size) {own : String} {index : Nat} (hown : s.vm.findClass own = some m.cls) (hlink : (Cond.methodLink own index arraycopyName).before args s = true) (hnat : (Cond.native arraycopyName).before args s = true) (hstat : (Cond.static arraycopyName).before args s = true) (hini : (Cond.initialized "java/lang/System").before args s = true)
    (hK : va_K D cl tys s) (hP : va_P D cl ws H) (hD : va_D A ws) (hS : va_S A s.heap H locs) {b0 n0 : Nat} {f : Nat → Int64} (hX : va_T .long b0 n0 (fun j => .long (f j)) A s s.heap) (q1 t1 : Nat) {c1 : ClassId} {n1 : Nat} {g : Nat → Int64} (ha1 : ws[q1]? = some (a, .inl (c1, n1, .inr (.inl g)))) (ht1 : tys[t1]? = some (c1, .long))
    {sp dp n : Int32} (h1 : ¬ sp < 0) (h2 : ¬ dp < 0) (h3 : ¬ n < 0) (h4 : sp.toNatClampNeg + n.toNatClampNeg ≤ n0) (h5 : dp.toNatClampNeg + n.toNatClampNeg ≤ n1)
    (hframes : 1 ≤ R.frames) (hlocals : (rest.map fun v => v.category).sum + (nativeFrameWords "java/lang/System" "arraycopy" 5 + 11) ≤ R.locals) (hdg : decode cc pc = .ok (.invokestatic index, 3))
    (kk : ∀ (H1 : Heap) (locs1 : List Loc), va_P D cl (ws.set q1 (a, .inl (c1, n1, .inr (.inl (va_cpy f g sp.toNatClampNeg dp.toNatClampNeg n.toNatClampNeg))))) H1 → va_D A (ws.set q1 (a, .inl (c1, n1, .inr (.inl (va_cpy f g sp.toNatClampNeg dp.toNatClampNeg n.toNatClampNeg))))) → va_S A s.heap H1 locs1 → W p l e R s m args below meth c H1 locs1 cells slots Q (F0 m (pc + 3) ls rest)) : W p l e R s m args below meth c H locs cells slots Q (F0 m pc ls (.int n :: .int dp :: .ref a :: .int sp :: .ref b0 :: rest)) := by
  have nn : ∀ z : Int32, ¬ z < 0 → z.toInt = (z.toNatClampNeg : Int) := by
    intro z hz
    have hz0 : (0 : Int) ≤ z.toInt := by
      have := Int32.not_lt.mp hz
      simpa using Int32.le_iff_toInt_le.mp this
    show z.toInt = ((z.toInt.toNat : Nat) : Int)
    omega
  intro T hT X
  obtain ⟨scr, hs1, hs2, hs3, hs4, -, hs5, hs7⟩ := hX
  have hc0 : H[b0]? = some scr := by rw [hS.2.1 b0 (Array.getElem?_eq_some_iff.mp hs1).1 hs7]; exact hs1
  have hc1 : H[a]? = some (vp_cell c1 (n1, .inr (.inl g))) := hP q1 _ ha1
  obtain ⟨hs6, k0, hk0, cm0, hkk0⟩ := hs2
  obtain ⟨-, k1, hk1, cm1, hkk1⟩ := (hK.2 t1 _ ht1).1 n1 (fun j => .long (g j))
  obtain ⟨vm', X', step⟩ := X.arraycopy hexec hown hlink hnat hstat hini (src := b0) (dst := a) (cs := scr) (cd := vp_cell c1 (n1, .inr (.inl g))) (srcPos := sp) (destPos := dp) (n := n) (by rw [hT]; exact hc0) (by rw [hT]; exact hc1)
    hs6 (fun _ h => by cases h) hs3 (fun h => by cases h) hk0 hk1 hkk0 hkk1 (by simp [refKind]) h1 h2 h3
    (by rw [nn sp h1, nn n h3]; omega)
    (by rw [nn dp h2, nn n h3]; show ¬ _ > ((arrV c1 n1 (fun j => .long (g j))).slots.size : Int); rw [arrV_size]; omega)
    (fun vm₁ _ i hi => by
      have e : scr.slots.getD (sp.toNatClampNeg + i) .null = .long (f (sp.toNatClampNeg + i)) := by
        rw [Array.getD_eq_getD_getElem?, hs5 _ (by omega)]
        rfl
      refine ⟨?_, ?_⟩
      · rw [e]
        rfl
      · rw [e]
        exact trivial)
    (g := F0 m pc ls (.int n :: .int dp :: .ref a :: .int sp :: .ref b0 :: rest)) rfl (by rw [hml]) (rest := rest) rfl (by rw [hb]; exact hdg) hframes (by show 2 * 0 + _ + _ ≤ _; omega)
  have e1 : copied scr (vp_cell c1 (n1, .inr (.inl g))) sp dp n = vp_cell c1 (n1, .inr (.inl (va_cpy f g sp.toNatClampNeg dp.toNatClampNeg n.toNatClampNeg))) := va_copiedX (fun z => .long z) scr c1 f g hs5 h4
  rw [e1] at X' step
  have hl : a < H.size := (Array.getElem?_eq_some_iff.mp hc1).1
  have hheap : ((T.setVm vm').setCell a (vp_cell c1 (n1, .inr (.inl (va_cpy f g sp.toNatClampNeg dp.toNatClampNeg n.toNatClampNeg))))).heap = H.setIfInBounds a (vp_cell c1 (n1, .inr (.inl (va_cpy f g sp.toNatClampNeg dp.toNatClampNeg n.toNatClampNeg)))) := by rw [← hT]; rfl
  have oq : ∀ q : Nat, q ≠ a → (H.setIfInBounds a (vp_cell c1 (n1, .inr (.inl (va_cpy f g sp.toNatClampNeg dp.toNatClampNeg n.toNatClampNeg)))))[q]? = H[q]? := fun q hq => by simp [Array.getElem?_setIfInBounds, Ne.symm hq]
  obtain ⟨t, a1, b1⟩ := kk _ _ (hP.set hD ha1 (show (H.setIfInBounds a _)[a]? = some _ by simp [Array.getElem?_setIfInBounds, hl]) oq) (hD.set ha1) ⟨by simp; exact hS.1, fun q g1 g2 => by
      rw [oq q (fun e => g2 (by rw [e]; exact hD.2 q1 _ ha1))]
      exact hS.2.1 q g1 g2, fun q hq => by
      rcases List.mem_append.mp hq with h | h
      · exact hS.2.2 q h
      · obtain ⟨z, -, hz⟩ := List.mem_map.mp h
        rw [← hz]
        exact hD.2 q1 _ ha1⟩ _ hheap X'
  exact ⟨t, step t a1, b1⟩
theorem g_copyt (X : CX B M cc nL own) {index : Nat} (hlink : Cond.methodLink own index arraycopyName ∈ W0) (hnat : Cond.native arraycopyName ∈ W0) (hstat : Cond.static arraycopyName ∈ W0) (hini : Cond.initialized "java/lang/System" ∈ W0)
    (k0 : Nat) (hk0 : k0 < 12) (hty : s_ty k0 = .long) (q1 : Nat) {a m0 : Nat} {g : Nat → Int64} (he1 : ws[q1]? = some (cj B a m0 g)) (sp dp k : Nat) {x1 x2 x3 : Int32} (h1 : x1 = nI sp) (h2 : x2 = nI dp) (h3 : x3 = nI k) (h4 : sp + k ≤ s_N k0) (h5 : dp + k ≤ m0) (hm0 : m0 < 2 ^ 31)
    (hframes : 1 ≤ (m_R M).frames) (hlocals : (rest.map fun v => v.category).sum + (nativeFrameWords "java/lang/System" "arraycopy" 5 + 11) ≤ (m_R M).locals) (hdg : decode cc pc = .ok (.invokestatic index, 3))
    (kk : G B M nL n1 n2 Q (ws.set q1 (cj B a m0 (va_cpy (s_l k0) g sp dp k))) lv (pc + 3) rest) : G B M nL n1 n2 Q ws lv pc (.int x3 :: .int x2 :: .ref a :: .int x1 :: .ref (b_t B k0) :: rest) := by
  intro H locs ls hP hD hS hl
  subst h1 h2 h3
  have hn0 := s_N_lt k0 hk0
  have e1 := nI_clamp (n := sp) (by omega)
  have e2 := nI_clamp (n := dp) (by omega)
  have e3 := nI_clamp (n := k) (by omega)
  have hT := X.T k0 hk0
  rw [hty, show s_f k0 = (fun j => .long (s_l k0 j)) from funext (s_fl hty)] at hT
  refine w_copyt X.x X.b (by rw [X.n]; exact hl.1.symm) X.o (X.t _ hlink) (X.t _ hnat) (X.t _ hstat) (X.t _ hini) X.k hP hD hS hT q1 1 he1 rfl (nI_pos (by omega)) (nI_pos (by omega)) (nI_pos (by omega)) (by rw [e1, e3]; exact h4) (by rw [e2, e3]; exact h5) hframes hlocals hdg (fun H1 locs1 hP1 hD1 hS1 => ?_)
  rw [e1, e2, e3] at hP1 hD1
  exact kk H1 locs1 ls hP1 hD1 hS1 hl
theorem g_objinit (X : CX B M cc nL own) {idx a : Nat} (hlink : Cond.methodLink own idx Lib.objectInit ∈ W0) (hinst : Cond.instanceMethod Lib.objectInit ∈ W0) (hcode : Cond.code Lib.objectInit ⟨#[0xb1]⟩ 1 none ∈ W0) (hframes : 1 ≤ (m_R M).frames) (hlocals : (rest.map fun v => v.category).sum + 12 ≤ (m_R M).locals) (hdg : decode cc pc = .ok (.invokespecial idx, 3))
    (kk : G B M nL n1 n2 Q ws lv (pc + 3) rest) : G B M nL n1 n2 Q ws lv pc (.ref a :: rest) :=
  fun H locs ls hP hD hS hl => W.objInit X.x X.b X.o (X.t _ hlink) (X.t _ hinst) (X.t _ hcode) rfl (by rw [X.n]; exact hl.1) rfl hdg hframes (by show 2 * 0 + _ + 12 ≤ _; omega) (kk H locs ls hP hD hS hl)
end GE
def it {σ : Type} (F : Nat → σ → σ) : Nat → σ → σ
  | 0, s => s
  | k + 1, s => F k (it F k s)
theorem loopI {σ : Type} (F : Nat → σ → σ) (J : Nat → σ → Prop) (P : Nat → σ → Prop) (n : Nat) (s0 : σ) (h0 : J 0 s0) (hJ : ∀ (k : Nat) (s : σ), k < n → J k s → J (k + 1) (F k s))
    (hs : ∀ (k : Nat) (s : σ), k < n → J k s → (∀ t : σ, t = F k s → P (k + 1) t) → P k s) (he : J n (it F n s0) → P n (it F n s0)) : P 0 s0 := by
  have hall : ∀ k, k ≤ n → J k (it F k s0) := by
    intro k
    induction k with
    | zero => exact fun _ => h0
    | succ k ih => exact fun h => hJ k _ (by omega) (ih (by omega))
  have hdn : ∀ j k, k + j = n → P k (it F k s0) := by
    intro j
    induction j with
    | zero => intro k hk; have : k = n := by omega
              subst this; exact he (hall _ (Nat.le_refl _))
    | succ j ih => intro k hk; exact hs k _ (by omega) (hall k (by omega)) (fun t ht => by subst ht; exact ih (k + 1) (by omega))
  exact hdn n 0 (by omega)
theorem loopF {σ : Type} (F : Nat → σ → σ) (P : Nat → σ → Prop) (n : Nat) (s0 : σ) (hs : ∀ (k : Nat) (s : σ), k < n → (∀ t : σ, t = F k s → P (k + 1) t) → P k s) (he : P n (it F n s0)) : P 0 s0 :=
  loopI F (fun _ _ => True) P n s0 trivial (fun _ _ _ _ => trivial) (fun k s hk _ kk => hs k s hk kk) (fun _ => he)
theorem loopK (P : Nat → Prop) (n : Nat) (hs : ∀ k : Nat, k < n → P (k + 1) → P k) (he : P n) : P 0 := by
  have hdn : ∀ j k, k + j = n → P k := by
    intro j
    induction j with
    | zero => intro k hk; have : k = n := by omega
              subst this; exact he
    | succ j ih => intro k hk; exact hs k (by omega) (ih (k + 1) (by omega))
  exact hdn n 0 (by omega)
theorem mul_lt {k r w n : Nat} (hk : k < n) (hr : r < w) : k * w + r < n * w := by
  have h1 : (k + 1) * w ≤ n * w := Nat.mul_le_mul_right _ hk
  rw [Nat.succ_mul] at h1
  omega
abbrev Rm (d c s : Nat) : Room := { frames := d, cells := c, slots := s, locals := 100 * d }
def ush (x y : Int32) : Int32 := (x.toUInt32 >>> (y.toUInt32 &&& Int32.toUInt32 31)).toInt32
def lush (x : Int64) (y : Int32) : Int64 := (x.toUInt64 >>> (y.toInt64.toUInt64 &&& Int64.toUInt64 63)).toInt64
def lshl (x : Int64) (y : Int32) : Int64 := x <<< (y.toInt64 &&& 63)
def lshr (x : Int64) (y : Int32) : Int64 := x >>> (y.toInt64 &&& 63)
section GN
variable {B : Bx} {M : Mx} {cc : ByteArray} {nL n1 n2 : Nat} {own : String} {Q : State → Prop} {ws : va_W} {lv : List (Nat × Value)} {pc : Nat} {st rest : List Value}
theorem g_wsq (ws' : va_W) (h : ws = ws') (k : G B M nL n1 n2 Q ws' lv pc st) : G B M nL n1 n2 Q ws lv pc st := h ▸ k
theorem g_lve (lv' : List (Nat × Value)) (h : lv = lv') (k : G B M nL n1 n2 Q ws lv' pc st) : G B M nL n1 n2 Q ws lv pc st := h ▸ k
theorem g_iaddN (X : CX B M cc nL own) {a b : Nat} (c : Nat) (hc : a + b = c) (hdg : decode cc pc = .ok (.iadd, 1)) (k : G B M nL n1 n2 Q ws lv (pc + 1) (.int (nI c) :: rest)) : G B M nL n1 n2 Q ws lv pc (.int (nI b) :: .int (nI a) :: rest) := g_iadd X hdg (by rw [nI_add, hc]; exact k)
theorem g_isubN (X : CX B M cc nL own) {a b : Nat} (c : Nat) (hc : c + b = a) (hdg : decode cc pc = .ok (.isub, 1)) (k : G B M nL n1 n2 Q ws lv (pc + 1) (.int (nI c) :: rest)) : G B M nL n1 n2 Q ws lv pc (.int (nI b) :: .int (nI a) :: rest) := g_isub X hdg (by rw [pk_sub (by omega), show a - b = c by omega]; exact k)
theorem g_imulN (X : CX B M cc nL own) {a b : Nat} (c : Nat) (hc : a * b = c) (hdg : decode cc pc = .ok (.imul, 1)) (k : G B M nL n1 n2 Q ws lv (pc + 1) (.int (nI c) :: rest)) : G B M nL n1 n2 Q ws lv pc (.int (nI b) :: .int (nI a) :: rest) := g_imul X hdg (by rw [pk_mul, hc]; exact k)
theorem g_idivN (X : CX B M cc nL own) {a b : Nat} (c : Nat) (ha : a < 2 ^ 31) (h0 : 0 < b) (hb : b < 2 ^ 31) (hc : a / b = c) (hdg : decode cc pc = .ok (.idiv, 1)) (k : G B M nL n1 n2 Q ws lv (pc + 1) (.int (nI c) :: rest)) : G B M nL n1 n2 Q ws lv pc (.int (nI b) :: .int (nI a) :: rest) := g_idiv X hdg (nI_ne0 h0 hb) (by rw [pk_div ha h0 hb, hc]; exact k)
theorem g_iremN (X : CX B M cc nL own) {a b : Nat} (c : Nat) (ha : a < 2 ^ 31) (h0 : 0 < b) (hb : b < 2 ^ 31) (hc : a % b = c) (hdg : decode cc pc = .ok (.irem, 1)) (k : G B M nL n1 n2 Q ws lv (pc + 1) (.int (nI c) :: rest)) : G B M nL n1 n2 Q ws lv pc (.int (nI b) :: .int (nI a) :: rest) := g_irem X hdg (nI_ne0 h0 hb) (by rw [pk_rem ha h0 hb, hc]; exact k)
theorem g_ishrN (X : CX B M cc nL own) {a b : Nat} (k9 c : Nat) (hs : ((nI b &&& 31).toBitVec.smod 32).toNat = k9) (ha : a < 2 ^ 31) (hc : a / 2 ^ k9 = c) (hdg : decode cc pc = .ok (.ishr, 1)) (k : G B M nL n1 n2 Q ws lv (pc + 1) (.int (nI c) :: rest)) : G B M nL n1 n2 Q ws lv pc (.int (nI b) :: .int (nI a) :: rest) := g_ishr X hdg (by rw [pk_shrN ha _ k9 hs, hc]; exact k)
theorem g_iandN (X : CX B M cc nL own) {a b : Nat} (k9 c : Nat) (hs : (nI b).toBitVec.toNat = 2 ^ k9 - 1) (ha : a < 2 ^ 32) (hc : a % 2 ^ k9 = c) (hdg : decode cc pc = .ok (.iand, 1)) (k : G B M nL n1 n2 Q ws lv (pc + 1) (.int (nI c) :: rest)) : G B M nL n1 n2 Q ws lv pc (.int (nI b) :: .int (nI a) :: rest) := g_iand X hdg (by rw [pk_andN ha k9 hs, hc]; exact k)
theorem g_iincN (X : CX B M cc nL own) {i : Nat} {n : Int} {a : Nat} (c : Nat) (hdg : decode cc pc = .ok (.iinc i n, 3)) (hl : lvq lv i = some (.int (nI a))) (d : Nat) (hv : n = (d : Int)) (hc : a + d = c) (hn : i < nL)
    (kk : G B M nL n1 n2 Q ws ((i, Value.int (nI c)) :: lv.filter (fun q => !(q.1 == i) && !(q.1 + 1 == i && q.2.category == 2))) (pc + 3) rest) : G B M nL n1 n2 Q ws lv pc rest :=
  g_iinc (k9 := nI d) X hdg hl (by subst hv; exact Int32.ofInt_eq_ofNat) hn (by rw [nI_add, hc]; exact kk)
theorem g_iincD (X : CX B M cc nL own) {i : Nat} {n : Int} {a : Nat} (c : Nat) (hdg : decode cc pc = .ok (.iinc i n, 3)) (hl : lvq lv i = some (.int (nI a))) (d : Nat) (hv : n = -(d : Int)) (hc : c + d = a) (hn : i < nL)
    (kk : G B M nL n1 n2 Q ws ((i, Value.int (nI c)) :: lv.filter (fun q => !(q.1 == i) && !(q.1 + 1 == i && q.2.category == 2))) (pc + 3) rest) : G B M nL n1 n2 Q ws lv pc rest :=
  g_iinc (k9 := -nI d) X hdg hl (by subst hv; rw [Int32.ofInt_neg]; rfl) hn (by rw [show nI a + -nI d = nI c by rw [← Int32.sub_eq_add_neg, pk_sub (by omega)]; congr 1; omega]; exact kk)
theorem g_bastB (X : CX B M cc nL own) {a n : Nat} {g : Nat → Int8} (q0 : Nat) (he : ws[q0]? = some (cb B a n g)) (k : Nat) {i : Int32} {t : Int8} (hi : i = nI k) (hk : k < n) (hn : n < 2 ^ 31) (hdg : decode cc pc = .ok (.bastore, 1))
    (kk : G B M nL n1 n2 Q (ws.set q0 (cb B a n (va_up g k t))) lv (pc + 1) rest) : G B M nL n1 n2 Q ws lv pc (.int t.toInt32 :: .int i :: .ref a :: rest) := g_bast X q0 he k hi hk hn hdg (by rw [Int8.toInt8_toInt32]; exact kk)
theorem g_icmp_eqN (X : CX B M cc nL own) {a b : Nat} {off : Int} {tgt : Nat} (hdg : decode cc pc = .ok (.if_icmp .eq off, 3)) (ht : (pc : Int) + off = (tgt : Int)) (ha : a < 2 ^ 31) (hb : b < 2 ^ 31) (kt : a = b → G B M nL n1 n2 Q ws lv tgt rest) (kf : a ≠ b → G B M nL n1 n2 Q ws lv (pc + 3) rest) : G B M nL n1 n2 Q ws lv pc (.int (nI b) :: .int (nI a) :: rest) :=
  g_icmp_eq X hdg ht (fun h => kt ((nI_eq ha hb).mp h)) (fun h => kf (fun h2 => h ((nI_eq ha hb).mpr h2)))
theorem g_icmp_neN (X : CX B M cc nL own) {a b : Nat} {off : Int} {tgt : Nat} (hdg : decode cc pc = .ok (.if_icmp .ne off, 3)) (ht : (pc : Int) + off = (tgt : Int)) (ha : a < 2 ^ 31) (hb : b < 2 ^ 31) (kt : a ≠ b → G B M nL n1 n2 Q ws lv tgt rest) (kf : a = b → G B M nL n1 n2 Q ws lv (pc + 3) rest) : G B M nL n1 n2 Q ws lv pc (.int (nI b) :: .int (nI a) :: rest) :=
  g_icmp_ne X hdg ht (fun h => kt (fun h2 => h ((nI_eq ha hb).mpr h2))) (fun h => kf ((nI_eq ha hb).mp h))
theorem g_icmp_ltN (X : CX B M cc nL own) {a b : Nat} {off : Int} {tgt : Nat} (hdg : decode cc pc = .ok (.if_icmp .lt off, 3)) (ht : (pc : Int) + off = (tgt : Int)) (ha : a < 2 ^ 31) (hb : b < 2 ^ 31) (kt : a < b → G B M nL n1 n2 Q ws lv tgt rest) (kf : b ≤ a → G B M nL n1 n2 Q ws lv (pc + 3) rest) : G B M nL n1 n2 Q ws lv pc (.int (nI b) :: .int (nI a) :: rest) :=
  g_icmp_lt X hdg ht (fun h => kt ((nI_ltI ha hb).mp h)) (fun h => kf (Nat.le_of_not_lt (fun h2 => h ((nI_ltI ha hb).mpr h2))))
theorem g_icmp_geN (X : CX B M cc nL own) {a b : Nat} {off : Int} {tgt : Nat} (hdg : decode cc pc = .ok (.if_icmp .ge off, 3)) (ht : (pc : Int) + off = (tgt : Int)) (ha : a < 2 ^ 31) (hb : b < 2 ^ 31) (kt : b ≤ a → G B M nL n1 n2 Q ws lv tgt rest) (kf : a < b → G B M nL n1 n2 Q ws lv (pc + 3) rest) : G B M nL n1 n2 Q ws lv pc (.int (nI b) :: .int (nI a) :: rest) :=
  g_icmp_ge X hdg ht (fun h => kt ((nI_leI hb ha).mp h)) (fun h => kf (Nat.lt_of_not_le (fun h2 => h ((nI_leI hb ha).mpr h2))))
theorem g_icmp_gtN (X : CX B M cc nL own) {a b : Nat} {off : Int} {tgt : Nat} (hdg : decode cc pc = .ok (.if_icmp .gt off, 3)) (ht : (pc : Int) + off = (tgt : Int)) (ha : a < 2 ^ 31) (hb : b < 2 ^ 31) (kt : b < a → G B M nL n1 n2 Q ws lv tgt rest) (kf : a ≤ b → G B M nL n1 n2 Q ws lv (pc + 3) rest) : G B M nL n1 n2 Q ws lv pc (.int (nI b) :: .int (nI a) :: rest) :=
  g_icmp_gt X hdg ht (fun h => kt ((nI_ltI hb ha).mp h)) (fun h => kf (Nat.le_of_not_lt (fun h2 => h ((nI_ltI hb ha).mpr h2))))
theorem g_icmp_leN (X : CX B M cc nL own) {a b : Nat} {off : Int} {tgt : Nat} (hdg : decode cc pc = .ok (.if_icmp .le off, 3)) (ht : (pc : Int) + off = (tgt : Int)) (ha : a < 2 ^ 31) (hb : b < 2 ^ 31) (kt : a ≤ b → G B M nL n1 n2 Q ws lv tgt rest) (kf : b < a → G B M nL n1 n2 Q ws lv (pc + 3) rest) : G B M nL n1 n2 Q ws lv pc (.int (nI b) :: .int (nI a) :: rest) :=
  g_icmp_le X hdg ht (fun h => kt ((nI_leI ha hb).mp h)) (fun h => kf (Nat.lt_of_not_le (fun h2 => h ((nI_leI ha hb).mpr h2))))
theorem g_if_eqN (X : CX B M cc nL own) {a : Nat} {off : Int} {tgt : Nat} (hdg : decode cc pc = .ok (.ifCond .eq off, 3)) (ht : (pc : Int) + off = (tgt : Int)) (ha : a < 2 ^ 31) (kt : a = 0 → G B M nL n1 n2 Q ws lv tgt rest) (kf : 0 < a → G B M nL n1 n2 Q ws lv (pc + 3) rest) : G B M nL n1 n2 Q ws lv pc (.int (nI a) :: rest) :=
  g_if_eq X hdg ht (fun h => kt ((nI_eq ha (by omega)).mp (h.trans nI_0.symm))) (fun h => kf (Nat.pos_of_ne_zero (fun h2 => h (by rw [h2]; exact nI_0))))
theorem g_if_neN (X : CX B M cc nL own) {a : Nat} {off : Int} {tgt : Nat} (hdg : decode cc pc = .ok (.ifCond .ne off, 3)) (ht : (pc : Int) + off = (tgt : Int)) (ha : a < 2 ^ 31) (kt : 0 < a → G B M nL n1 n2 Q ws lv tgt rest) (kf : a = 0 → G B M nL n1 n2 Q ws lv (pc + 3) rest) : G B M nL n1 n2 Q ws lv pc (.int (nI a) :: rest) :=
  g_if_ne X hdg ht (fun h => kt (Nat.pos_of_ne_zero (fun h2 => h (by rw [h2]; exact nI_0)))) (fun h => kf ((nI_eq ha (by omega)).mp (h.trans nI_0.symm)))
theorem g_if_gtN (X : CX B M cc nL own) {a : Nat} {off : Int} {tgt : Nat} (hdg : decode cc pc = .ok (.ifCond .gt off, 3)) (ht : (pc : Int) + off = (tgt : Int)) (ha : a < 2 ^ 31) (kt : 0 < a → G B M nL n1 n2 Q ws lv tgt rest) (kf : a = 0 → G B M nL n1 n2 Q ws lv (pc + 3) rest) : G B M nL n1 n2 Q ws lv pc (.int (nI a) :: rest) :=
  g_if_gt X hdg ht (fun h => kt (by rw [← nI_0] at h; exact (nI_ltI (by omega) ha).mp h)) (fun h => kf (Nat.eq_zero_of_not_pos (fun h2 => h (by rw [← nI_0]; exact (nI_ltI (by omega) ha).mpr h2))))
theorem g_if_leN (X : CX B M cc nL own) {a : Nat} {off : Int} {tgt : Nat} (hdg : decode cc pc = .ok (.ifCond .le off, 3)) (ht : (pc : Int) + off = (tgt : Int)) (ha : a < 2 ^ 31) (kt : a = 0 → G B M nL n1 n2 Q ws lv tgt rest) (kf : 0 < a → G B M nL n1 n2 Q ws lv (pc + 3) rest) : G B M nL n1 n2 Q ws lv pc (.int (nI a) :: rest) :=
  g_if_le X hdg ht (fun h => kt (Nat.le_zero.mp (by rw [← nI_0] at h; exact (nI_leI ha (by omega)).mp h))) (fun h => kf (Nat.pos_of_ne_zero (fun h2 => h (by rw [h2, nI_0]; exact Int32.le_refl _))))
theorem g_if_ltN (X : CX B M cc nL own) {a : Nat} {off : Int} {tgt : Nat} (hdg : decode cc pc = .ok (.ifCond .lt off, 3)) (ht : (pc : Int) + off = (tgt : Int)) (ha : a < 2 ^ 31) (kf : G B M nL n1 n2 Q ws lv (pc + 3) rest) : G B M nL n1 n2 Q ws lv pc (.int (nI a) :: rest) :=
  g_if_lt X hdg ht (fun h => absurd h (nI_pos ha)) (fun _ => kf)
theorem g_if_geN (X : CX B M cc nL own) {a : Nat} {off : Int} {tgt : Nat} (hdg : decode cc pc = .ok (.ifCond .ge off, 3)) (ht : (pc : Int) + off = (tgt : Int)) (ha : a < 2 ^ 31) (kt : G B M nL n1 n2 Q ws lv tgt rest) : G B M nL n1 n2 Q ws lv pc (.int (nI a) :: rest) :=
  g_if_ge X hdg ht (fun _ => kt) (fun h => absurd (nI_pos' ha) h)
end GN
end
section
section GX9
variable {B : Bx} {M : Mx} {cc : ByteArray} {nL n1 n2 : Nat} {own : String} {Q : State → Prop} {ws : va_W} {lv : List (Nat × Value)} {pc : Nat} {st rest : List Value}
def GX (B : Bx) (M : Mx) (nL n1 n2 : Nat) (Q : State → Prop) (ws : va_W) (E : String) (lv : List (Nat × Value)) (pc : Nat) (rest : List Value) : Prop :=
  ∀ (H : Heap) (locs : List Loc) (ls : Array Slot) (q : Addr) (ce : Cell), va_P B.1 classes ws H → va_D (m_A M) ws → va_S (m_A M) (m_s M).heap H locs → lv_has ls nL lv → H[q]? = some ce → ce.vm = .none → (m_s M).vm.findClass E = some ce.cls →
    vx_W (m_p M) (m_l M) (m_e M) (m_R M) (m_s M) (m_m M) (m_a M) (m_b M) (m_h M) (m_c M) H locs n1 n2 Q (F0 (m_m M) pc ls rest) q
def Cx (l : Launch) (B : Bx) (y : MethodName) (b : ByteArray) (n : Nat) (ret : Option FieldType) (rm : Room) (av : List Value) (ws : va_W) (E : String) : Prop :=
  ∀ sz : Nat, vx_Met l y (Cond.code y b n ret :: W0) rm (va_Pc av (PreW B ws sz)) (va_Qv (S := Unit) (fun _ => False) (fun _ _ => True) (va_A ws sz)) (vx_X (S := Unit) (fun _ => True) (fun E' _ t => E' = E ∧ PostW B (va_A ws sz) ws t) (va_A ws sz)) rm.cells rm.slots (va_A ws sz)
abbrev nmX : List String := ["java/lang/RuntimeException", "java/lang/Exception"]
theorem ctr_x {l : Launch} {B : Bx} {y : MethodName} {b : ByteArray} {nL : Nat} {ret : Option FieldType} {rm : Room} {av : List Value} {ws : va_W} {E : String} (hst : l.stackTraces = false) (hy : plainName y.cls = true) (hav : (lg_sl av).length ≤ nL)
    (body : ∀ (M : Mx) (Q : State → Prop), m_l M = l → m_R M = rm → CX B M b nL y.cls → (∀ (n1 n2 : Nat) (lv : List (Nat × Value)) (pc : Nat) (rest : List Value), n1 ≤ rm.cells → n2 ≤ rm.slots → GX B M nL n1 n2 Q ws E lv pc rest) →
      (∀ (i ik ic pc n1 n2 : Nat) (lv : List (Nat × Value)) (rest : List Value), i < 4 → y.cls = "SpongeDigests" → Bundle.fit E = true → Cond.classLink y.cls ik E ∈ W0 → Cond.initialized E ∈ W0 → (∀ w ∈ (vx_atS "SpongeDigests" ic E nmX).filter goodWord, w ∈ W0) → (∀ w ∈ (vx_atS "SpongeDigests" ic E nmX).filter (fun w => !goodWord w), w ∈ exWords) → (∀ w ∈ Cond.classLink "SpongeDigests" ik E :: Cond.initialized E :: vx_atS "SpongeDigests" ic E nmX, vx_ot w = true) →
        decode b pc = .ok (.new ik, 3) → decode b (pc + 3) = .ok (.dup, 1) → decode b (pc + 4) = .ok (.ldc (st_k i), 2) → decode b (pc + 6) = .ok (.invokespecial ic, 3) → decode b (pc + 9) = .ok (.athrow, 1) →
        5 < rm.frames → (rest.map fun v => v.category).sum + 82 ≤ rm.locals → n1 + 1 ≤ rm.cells → n2 + 6 ≤ rm.slots → G B M nL n1 n2 Q ws lv pc rest) → G B M nL 0 0 Q ws (lv_args 0 av) 0 []) : Cx l B y b nL ret rm av ws E := by
  intro sz
  refine vx_ofW (cc := b) (maxL := nL) (ret := ret) hy rfl ?_
  intro p e s m args below meth c s₁ Bd hml hno hv
  obtain ⟨rfl, hsz, hX, hP, hK, hD0⟩ := hv
  subst hsz
  have hD := hD0.self (sz := s.heap.size)
  have hAz : ∀ q, va_A ws s.heap.size q → b_z B ≤ q := fun q h => by
    rcases h with ⟨k, e9, hk⟩ | h
    · exact hD0.2 k _ hk
    · exact Nat.le_trans hX.1 h
  have hts : ∀ w ∈ W0, w.before av.toArray s = true := fun w hw => atoms_spec (ws := Cond.code y b nL ret :: W0) Bd.pre w (List.mem_cons_of_mem _ hw)
  have hfc := findClass_of_methodNamed Bd.named
  rw [lg_entry_eq]
  refine body (p, l, e, rm, s, m, av.toArray, below, meth, c, va_A ws s.heap.size) _ rfl rfl ⟨Bd.exec, Bd.bytes, hml, hfc, hts, hK, fun q h => Or.inr h, hAz, hX⟩ ?_ ?_ s.heap [] _ hP hD va_S.rf (lv_entry av hav)
  · intro n1 n2 lv pc rest h1 h2 H locs ls q ce hP2 hD2 hS2 hl2 hq1 hq2 hq3
    exact vx_out (fun x hx => (hno x hx).elim) Bd.notSynchronized hq1 hq2 hq3 (fun t ht hal => ⟨(), trivial, ⟨rfl, by rw [ht]; exact hP2, va_K.moved hal hK, hD2⟩, hS2.F ht⟩) hS2.2.2 h1 h2
  · intro i ik ic pc n1 n2 lv rest hi hyc hfit hk hini hat1 hat2 hgood d0 d3 d4 d6 d9 hfr hlo hc1 hs1 H locs ls hP2 hD2 hS2 hl2
    rw [hyc] at hk hfc
    have hN : ∀ w ∈ vx_atS "SpongeDigests" ic E nmX, w.before av.toArray s = true := vx_hat (fun w hw => hts w (hat1 w hw)) hat2 (fun w hw => va_Nw.use (ex_on hw) (hX.2.2.2.2.2.2.1 w hw))
    refine vx_throwS (own := "SpongeDigests") (cls := E) (text := st_t i) (names := nmX) (sa := b_s B i) Bd.exec Bd.bytes hst hfc hfit (by decide) (hts _ hk) (hts _ hini) (hX.2.2.2.2.2.1 i hi) hN hgood (hX.2.2.2.1.narrow hAz) (hX.2.2.2.2.1.narrow hAz) hS2 (by rw [hml]; exact hl2.1) d0 d3 d4 d6 d9 (fun x hx => (hno x hx).elim) hfr hlo hc1 hs1 Bd.notSynchronized (fun t hal hz hq => ?_) hS2.2.2 hc1 hs1
    exact ⟨(), trivial, ⟨rfl, va_P.kept hP2 (fun k x hx => hq x.1 (hP2 k x hx).lt), va_K.moved hal hK, hD2⟩, Nat.le_trans hS2.1 hz, fun q9 h8 h9 => (hq q9 (Nat.lt_of_lt_of_le h8 hS2.1)).trans (hS2.2.1 q9 h8 h9)⟩
theorem va_P_back {A0 : Nat → Prop} {D : va_G} {cl : List vw_C} {ws wc : va_W} {H H1 : Heap} (hP : va_P D cl ws H) (hD : va_D A0 ws) (isC : List Nat) (hC : isC.map (fun i => ws[i]?) = wc.map some)
    (hk : ∀ q : Nat, q < H.size → ¬ va_A wc H.size q → H1[q]? = H[q]?) (hP1 : va_P D cl wc H1) : va_P D cl ws H1 := by
  intro k q hq
  have hlt := (hP k q hq).lt
  by_cases h : ∃ (j : Nat) (e : va_E), wc[j]? = some (q.1, e)
  · obtain ⟨j, e, hj⟩ := h
    obtain ⟨i, h3, h4⟩ := wput_at hC j (q.1, e) hj
    have h5 := hD.1 k i q (q.1, e) hq h4 rfl
    subst h5
    have h6 : q = (q.1, e) := Option.some.inj (hq.symm.trans h4)
    rw [h6]
    exact hP1 j _ hj
  · refine (hP k q hq).kept (hk q.1 hlt (fun h2 => ?_))
    rcases h2 with ⟨j, e, h2⟩ | h2
    · exact h ⟨j, e, h2⟩
    · omega
theorem g_callSx (X : CX B M cc nL own) {y : MethodName} {b : ByteArray} {n index : Nat} {ret : Option FieldType} {rm : Room} {As : List Value} {wc : va_W} {E : String} (hM : Cx (m_l M) B y b n ret rm As wc E)
    (hlink : Cond.methodLink own index y ∈ W0) (hstat : Cond.static y ∈ W0) (hini : Cond.initialized y.cls ∈ W0) (hcode : Cond.code y b n ret ∈ W0) (hd : y.cls ≠ "java/lang/invoke/MethodHandle" ∧ y.cls ≠ "java/lang/invoke/VarHandle" ∧ (parseMethodDescriptor y.desc).map (fun d => d.parameters.length) = some As.length)
    (isC : List Nat) (hnC : va_nd isC = true) (hC : isC.map (fun i => ws[i]?) = wc.map some)
    (hroom : rm.frames + 1 ≤ (m_R M).frames ∧ 8 + (n + 11) + rm.locals ≤ (m_R M).locals) (hcs : n1 + rm.cells ≤ (m_R M).cells ∧ n2 + rm.slots ≤ (m_R M).slots) (hst : st = As.reverse ++ rest) (hrs : (rest.map fun v => v.category).sum ≤ 8) (hdg : decode cc pc = .ok (.invokestatic index, 3))
    (kk : GX B M nL (n1 + rm.cells) (n2 + rm.slots) Q ws E lv pc rest) : G B M nL n1 n2 Q ws lv pc st := by
  intro H locs ls hP hD hS hl
  subst hst
  have hFc := va_free (wc := wc) hD hS X.A isC hC
  refine vx_callv (vx_runS (As := As) (rest := rest) ⟨X.x, X.b, X.n, X.o, X.t⟩ (hM H.size) ⟨callB_of As.length X.t (W0_good hcode) rfl rfl rfl (X.t _ hini) (X.t _ hlink) hd hroom, X.t _ hstat⟩ ⟨PreW.blind _ _ _, PreW.at X As hP hD hS hnC hC⟩ rfl rfl hl.1 rfl (lv_room hrs) hdg hcs) hS (fun q _ h => hFc q h) hFc (fun q _ h => hFc q h) (fun E' ce q9 u t H1 locs1 ht hvm hpx hBX hz1 hk1 hS1 hq1 hq2 hq3 => ?_) (fun u t H1 locs1 ht hvm hp => hp.elim)
  obtain ⟨rfl, hP1, hK1, hD1⟩ := hBX
  rw [ht] at hP1
  exact kk H1 locs1 ls q9 ce (va_P_back hP hD isC hC hk1 hP1) hD hS1 hl hq1 hq2 hq3
theorem g_callVx (X : CX B M cc nL own) {y : MethodName} {b : ByteArray} {n index : Nat} {ret : Option FieldType} {rm : Room} {As : List Value} {wc : va_W} {E : String} {a q0 ci N : Nat} {T : u_T} {fs : List Value} (hM : Cx (m_l M) B y b n ret rm (.ref a :: As) wc E)
    (hlink : Cond.methodLink own index y ∈ W0) (hinst : Cond.instanceMethod y ∈ W0) (hsel : Cond.selects y.cls y y ∈ W0) (hini : Cond.initialized y.cls ∈ W0) (hcode : Cond.code y b n ret ∈ W0) (hd : y.cls ≠ "java/lang/invoke/MethodHandle" ∧ y.cls ≠ "java/lang/invoke/VarHandle" ∧ (parseMethodDescriptor y.desc).map (fun d => d.parameters.length) = some As.length)
    (isC : List Nat) (hnC : va_nd isC = true) (hC : isC.map (fun i => ws[i]?) = wc.map some) (he : ws[q0]? = some (a, .inr (ci, fs))) (hci : classes[ci]? = some (y.cls, T, N))
    (hroom : rm.frames + 1 ≤ (m_R M).frames ∧ 8 + (n + 11) + rm.locals ≤ (m_R M).locals) (hcs : n1 + rm.cells ≤ (m_R M).cells ∧ n2 + rm.slots ≤ (m_R M).slots) (hst : st = As.reverse ++ .ref a :: rest) (hrs : (rest.map fun v => v.category).sum ≤ 8) (hdg : decode cc pc = .ok (.invokevirtual index, 3))
    (kk : GX B M nL (n1 + rm.cells) (n2 + rm.slots) Q ws E lv pc rest) : G B M nL n1 n2 Q ws lv pc st := by
  intro H locs ls hP hD hS hl
  subst hst
  have hFc := va_free (wc := wc) hD hS X.A isC hC
  refine vx_callv (vx_runV (As := As) (rest := rest) ⟨X.x, X.b, X.n, X.o, X.t⟩ (hM H.size) ⟨callB_of As.length X.t (W0_good hcode) rfl rfl rfl (X.t _ hini) (X.t _ hlink) hd hroom, X.t _ hinst, X.t _ hsel⟩ ⟨PreW.blind _ _ _, va_recv X.k hP hci he, PreW.at X (.ref a :: As) hP hD hS hnC hC⟩ rfl rfl hl.1 rfl (lv_room hrs) hdg hcs) hS (fun q _ h => hFc q h) hFc (fun q _ h => hFc q h) (fun E' ce q9 u t H1 locs1 ht hvm hpx hBX hz1 hk1 hS1 hq1 hq2 hq3 => ?_) (fun u t H1 locs1 ht hvm hp => hp.elim)
  obtain ⟨rfl, hP1, hK1, hD1⟩ := hBX
  rw [ht] at hP1
  exact kk H1 locs1 ls q9 ce (va_P_back hP hD isC hC hk1 hP1) hD hS1 hl hq1 hq2 hq3
theorem at_IAE : ∀ w ∈ (vx_atS "SpongeDigests" 148 nIAE nmX).filter goodWord, w ∈ W0 := by decide +kernel
theorem an_IAE : ∀ w ∈ (vx_atS "SpongeDigests" 148 nIAE nmX).filter (fun w => !goodWord w), w ∈ exWords := by decide +kernel
theorem ag_IAE : ∀ w ∈ Cond.classLink "SpongeDigests" 144 nIAE :: Cond.initialized nIAE :: vx_atS "SpongeDigests" 148 nIAE nmX, vx_ot w = true := by decide +kernel
theorem at_IOO : ∀ w ∈ (vx_atS "SpongeDigests" 73 nIOO nmX).filter goodWord, w ∈ W0 := by decide +kernel
theorem an_IOO : ∀ w ∈ (vx_atS "SpongeDigests" 73 nIOO nmX).filter (fun w => !goodWord w), w ∈ exWords := by decide +kernel
theorem ag_IOO : ∀ w ∈ Cond.classLink "SpongeDigests" 69 nIOO :: Cond.initialized nIOO :: vx_atS "SpongeDigests" 73 nIOO nmX, vx_ot w = true := by decide +kernel
end GX9
end
