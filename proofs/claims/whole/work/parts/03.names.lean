abbrev b_D_init : ByteArray := prog_1_method_1_code
def y_D_init : MethodName := ⟨R_D, "<init>", "()V"⟩
theorem hd_D_init : y_D_init.cls ≠ "java/lang/invoke/MethodHandle" ∧ y_D_init.cls ≠ "java/lang/invoke/VarHandle" ∧ (parseMethodDescriptor y_D_init.desc).map (fun d => d.parameters.length) = some 0 := by decide +kernel
abbrev b_Y_init : ByteArray := prog_3_method_1_code
def y_Y_init : MethodName := ⟨R_Y, "<init>", "()V"⟩
theorem hd_Y_init : y_Y_init.cls ≠ "java/lang/invoke/MethodHandle" ∧ y_Y_init.cls ≠ "java/lang/invoke/VarHandle" ∧ (parseMethodDescriptor y_Y_init.desc).map (fun d => d.parameters.length) = some 0 := by decide +kernel
abbrev b_P_init : ByteArray := prog_4_method_1_code
def y_P_init : MethodName := ⟨R_P, "<init>", "()V"⟩
theorem hd_P_init : y_P_init.cls ≠ "java/lang/invoke/MethodHandle" ∧ y_P_init.cls ≠ "java/lang/invoke/VarHandle" ∧ (parseMethodDescriptor y_P_init.desc).map (fun d => d.parameters.length) = some 0 := by decide +kernel
abbrev b_H_init : ByteArray := prog_2_method_1_code
def y_H_init : MethodName := ⟨R_H, "<init>", "(II[I)V"⟩
theorem hd_H_init : y_H_init.cls ≠ "java/lang/invoke/MethodHandle" ∧ y_H_init.cls ≠ "java/lang/invoke/VarHandle" ∧ (parseMethodDescriptor y_H_init.desc).map (fun d => d.parameters.length) = some 3 := by decide +kernel
abbrev b_L_feed : ByteArray := method_3_code
def y_L_feed : MethodName := ⟨R_L, "feed", "(LSpongeDigests;IIIII[J)I"⟩
theorem hd_L_feed : y_L_feed.cls ≠ "java/lang/invoke/MethodHandle" ∧ y_L_feed.cls ≠ "java/lang/invoke/VarHandle" ∧ (parseMethodDescriptor y_L_feed.desc).map (fun d => d.parameters.length) = some 7 := by decide +kernel
abbrev b_D_feed : ByteArray := prog_1_method_2_code
def y_D_feed : MethodName := ⟨R_D, "feed", "(IIIII)I"⟩
theorem hd_D_feed : y_D_feed.cls ≠ "java/lang/invoke/MethodHandle" ∧ y_D_feed.cls ≠ "java/lang/invoke/VarHandle" ∧ (parseMethodDescriptor y_D_feed.desc).map (fun d => d.parameters.length) = some 5 := by decide +kernel
abbrev b_Y_append : ByteArray := prog_3_method_2_code
def y_Y_append : MethodName := ⟨R_Y, "append", "(I)V"⟩
theorem hd_Y_append : y_Y_append.cls ≠ "java/lang/invoke/MethodHandle" ∧ y_Y_append.cls ≠ "java/lang/invoke/VarHandle" ∧ (parseMethodDescriptor y_Y_append.desc).map (fun d => d.parameters.length) = some 1 := by decide +kernel
abbrev b_L_end : ByteArray := method_4_code
def y_L_end : MethodName := ⟨R_L, "end", "(LSpongeDigests;II[J)I"⟩
theorem hd_L_end : y_L_end.cls ≠ "java/lang/invoke/MethodHandle" ∧ y_L_end.cls ≠ "java/lang/invoke/VarHandle" ∧ (parseMethodDescriptor y_L_end.desc).map (fun d => d.parameters.length) = some 4 := by decide +kernel
abbrev b_D_end : ByteArray := prog_1_method_3_code
def y_D_end : MethodName := ⟨R_D, "end", "(II)I"⟩
theorem hd_D_end : y_D_end.cls ≠ "java/lang/invoke/MethodHandle" ∧ y_D_end.cls ≠ "java/lang/invoke/VarHandle" ∧ (parseMethodDescriptor y_D_end.desc).map (fun d => d.parameters.length) = some 2 := by decide +kernel
abbrev b_D_slotAt : ByteArray := prog_1_method_11_code
def y_D_slotAt : MethodName := ⟨R_D, "slotAt", "(I)LSpongeDigests$Bytes;"⟩
theorem hd_D_slotAt : y_D_slotAt.cls ≠ "java/lang/invoke/MethodHandle" ∧ y_D_slotAt.cls ≠ "java/lang/invoke/VarHandle" ∧ (parseMethodDescriptor y_D_slotAt.desc).map (fun d => d.parameters.length) = some 1 := by decide +kernel
abbrev b_D_requireWithin : ByteArray := prog_1_method_12_code
def y_D_requireWithin : MethodName := ⟨R_D, "requireWithin", "(III)V"⟩
theorem hd_D_requireWithin : y_D_requireWithin.cls ≠ "java/lang/invoke/MethodHandle" ∧ y_D_requireWithin.cls ≠ "java/lang/invoke/VarHandle" ∧ (parseMethodDescriptor y_D_requireWithin.desc).map (fun d => d.parameters.length) = some 3 := by decide +kernel
abbrev b_Y_take : ByteArray := prog_3_method_3_code
def y_Y_take : MethodName := ⟨R_Y, "take", "(LSpongeDigests$Bytes;I)V"⟩
theorem hd_Y_take : y_Y_take.cls ≠ "java/lang/invoke/MethodHandle" ∧ y_Y_take.cls ≠ "java/lang/invoke/VarHandle" ∧ (parseMethodDescriptor y_Y_take.desc).map (fun d => d.parameters.length) = some 2 := by decide +kernel
abbrev b_L_copy : ByteArray := method_5_code
def y_L_copy : MethodName := ⟨R_L, "copy", "(LSpongeDigests;II[J)I"⟩
theorem hd_L_copy : y_L_copy.cls ≠ "java/lang/invoke/MethodHandle" ∧ y_L_copy.cls ≠ "java/lang/invoke/VarHandle" ∧ (parseMethodDescriptor y_L_copy.desc).map (fun d => d.parameters.length) = some 4 := by decide +kernel
abbrev b_D_copy : ByteArray := prog_1_method_4_code
def y_D_copy : MethodName := ⟨R_D, "copy", "(II)I"⟩
theorem hd_D_copy : y_D_copy.cls ≠ "java/lang/invoke/MethodHandle" ∧ y_D_copy.cls ≠ "java/lang/invoke/VarHandle" ∧ (parseMethodDescriptor y_D_copy.desc).map (fun d => d.parameters.length) = some 2 := by decide +kernel
abbrev b_L_resize : ByteArray := method_6_code
def y_L_resize : MethodName := ⟨R_L, "resize", "(LSpongeDigests;II[J)I"⟩
theorem hd_L_resize : y_L_resize.cls ≠ "java/lang/invoke/MethodHandle" ∧ y_L_resize.cls ≠ "java/lang/invoke/VarHandle" ∧ (parseMethodDescriptor y_L_resize.desc).map (fun d => d.parameters.length) = some 4 := by decide +kernel
abbrev b_D_resize : ByteArray := prog_1_method_5_code
def y_D_resize : MethodName := ⟨R_D, "resize", "(II)I"⟩
theorem hd_D_resize : y_D_resize.cls ≠ "java/lang/invoke/MethodHandle" ∧ y_D_resize.cls ≠ "java/lang/invoke/VarHandle" ∧ (parseMethodDescriptor y_D_resize.desc).map (fun d => d.parameters.length) = some 2 := by decide +kernel
abbrev b_Y_cutOrFill : ByteArray := prog_3_method_4_code
def y_Y_cutOrFill : MethodName := ⟨R_Y, "cutOrFill", "(I)V"⟩
theorem hd_Y_cutOrFill : y_Y_cutOrFill.cls ≠ "java/lang/invoke/MethodHandle" ∧ y_Y_cutOrFill.cls ≠ "java/lang/invoke/VarHandle" ∧ (parseMethodDescriptor y_Y_cutOrFill.desc).map (fun d => d.parameters.length) = some 1 := by decide +kernel
abbrev b_J_fill : ByteArray := prog_22_method_110_code
def y_J_fill : MethodName := ⟨"java/util/Arrays", "fill", "([BIIB)V"⟩
theorem hd_J_fill : y_J_fill.cls ≠ "java/lang/invoke/MethodHandle" ∧ y_J_fill.cls ≠ "java/lang/invoke/VarHandle" ∧ (parseMethodDescriptor y_J_fill.desc).map (fun d => d.parameters.length) = some 4 := by decide +kernel
abbrev b_J_rangeCheck : ByteArray := prog_22_method_30_code
def y_J_rangeCheck : MethodName := ⟨"java/util/Arrays", "rangeCheck", "(III)V"⟩
theorem hd_J_rangeCheck : y_J_rangeCheck.cls ≠ "java/lang/invoke/MethodHandle" ∧ y_J_rangeCheck.cls ≠ "java/lang/invoke/VarHandle" ∧ (parseMethodDescriptor y_J_rangeCheck.desc).map (fun d => d.parameters.length) = some 3 := by decide +kernel
abbrev b_L_alter : ByteArray := method_7_code
def y_L_alter : MethodName := ⟨R_L, "alter", "(LSpongeDigests;III[J)I"⟩
theorem hd_L_alter : y_L_alter.cls ≠ "java/lang/invoke/MethodHandle" ∧ y_L_alter.cls ≠ "java/lang/invoke/VarHandle" ∧ (parseMethodDescriptor y_L_alter.desc).map (fun d => d.parameters.length) = some 5 := by decide +kernel
abbrev b_D_alter : ByteArray := prog_1_method_6_code
def y_D_alter : MethodName := ⟨R_D, "alter", "(III)I"⟩
theorem hd_D_alter : y_D_alter.cls ≠ "java/lang/invoke/MethodHandle" ∧ y_D_alter.cls ≠ "java/lang/invoke/VarHandle" ∧ (parseMethodDescriptor y_D_alter.desc).map (fun d => d.parameters.length) = some 3 := by decide +kernel
abbrev b_D_requirePlace : ByteArray := prog_1_method_13_code
def y_D_requirePlace : MethodName := ⟨R_D, "requirePlace", "(LSpongeDigests$Bytes;I)V"⟩
theorem hd_D_requirePlace : y_D_requirePlace.cls ≠ "java/lang/invoke/MethodHandle" ∧ y_D_requirePlace.cls ≠ "java/lang/invoke/VarHandle" ∧ (parseMethodDescriptor y_D_requirePlace.desc).map (fun d => d.parameters.length) = some 2 := by decide +kernel
abbrev b_L_length : ByteArray := method_8_code
def y_L_length : MethodName := ⟨R_L, "length", "(LSpongeDigests;I[J)I"⟩
theorem hd_L_length : y_L_length.cls ≠ "java/lang/invoke/MethodHandle" ∧ y_L_length.cls ≠ "java/lang/invoke/VarHandle" ∧ (parseMethodDescriptor y_L_length.desc).map (fun d => d.parameters.length) = some 3 := by decide +kernel
abbrev b_D_length : ByteArray := prog_1_method_7_code
def y_D_length : MethodName := ⟨R_D, "length", "(I)I"⟩
theorem hd_D_length : y_D_length.cls ≠ "java/lang/invoke/MethodHandle" ∧ y_D_length.cls ≠ "java/lang/invoke/VarHandle" ∧ (parseMethodDescriptor y_D_length.desc).map (fun d => d.parameters.length) = some 1 := by decide +kernel
abbrev b_L_word : ByteArray := method_9_code
def y_L_word : MethodName := ⟨R_L, "word", "(LSpongeDigests;II[J)I"⟩
theorem hd_L_word : y_L_word.cls ≠ "java/lang/invoke/MethodHandle" ∧ y_L_word.cls ≠ "java/lang/invoke/VarHandle" ∧ (parseMethodDescriptor y_L_word.desc).map (fun d => d.parameters.length) = some 4 := by decide +kernel
abbrev b_D_word : ByteArray := prog_1_method_8_code
def y_D_word : MethodName := ⟨R_D, "word", "(II)J"⟩
theorem hd_D_word : y_D_word.cls ≠ "java/lang/invoke/MethodHandle" ∧ y_D_word.cls ≠ "java/lang/invoke/VarHandle" ∧ (parseMethodDescriptor y_D_word.desc).map (fun d => d.parameters.length) = some 2 := by decide +kernel
abbrev b_Y_eightFrom : ByteArray := prog_3_method_5_code
def y_Y_eightFrom : MethodName := ⟨R_Y, "eightFrom", "(I)J"⟩
theorem hd_Y_eightFrom : y_Y_eightFrom.cls ≠ "java/lang/invoke/MethodHandle" ∧ y_Y_eightFrom.cls ≠ "java/lang/invoke/VarHandle" ∧ (parseMethodDescriptor y_Y_eightFrom.desc).map (fun d => d.parameters.length) = some 1 := by decide +kernel
abbrev b_L_same : ByteArray := method_10_code
def y_L_same : MethodName := ⟨R_L, "same", "(LSpongeDigests;II[J)I"⟩
theorem hd_L_same : y_L_same.cls ≠ "java/lang/invoke/MethodHandle" ∧ y_L_same.cls ≠ "java/lang/invoke/VarHandle" ∧ (parseMethodDescriptor y_L_same.desc).map (fun d => d.parameters.length) = some 4 := by decide +kernel
abbrev b_D_same : ByteArray := prog_1_method_9_code
def y_D_same : MethodName := ⟨R_D, "same", "(II)Z"⟩
theorem hd_D_same : y_D_same.cls ≠ "java/lang/invoke/MethodHandle" ∧ y_D_same.cls ≠ "java/lang/invoke/VarHandle" ∧ (parseMethodDescriptor y_D_same.desc).map (fun d => d.parameters.length) = some 2 := by decide +kernel
abbrev b_Y_matches : ByteArray := prog_3_method_6_code
def y_Y_matches : MethodName := ⟨R_Y, "matches", "(LSpongeDigests$Bytes;)Z"⟩
theorem hd_Y_matches : y_Y_matches.cls ≠ "java/lang/invoke/MethodHandle" ∧ y_Y_matches.cls ≠ "java/lang/invoke/VarHandle" ∧ (parseMethodDescriptor y_Y_matches.desc).map (fun d => d.parameters.length) = some 1 := by decide +kernel
abbrev b_L_digest : ByteArray := method_11_code
def y_L_digest : MethodName := ⟨R_L, "digest", "(LSpongeDigests;II[J)I"⟩
theorem hd_L_digest : y_L_digest.cls ≠ "java/lang/invoke/MethodHandle" ∧ y_L_digest.cls ≠ "java/lang/invoke/VarHandle" ∧ (parseMethodDescriptor y_L_digest.desc).map (fun d => d.parameters.length) = some 4 := by decide +kernel
abbrev b_D_digest : ByteArray := prog_1_method_10_code
def y_D_digest : MethodName := ⟨R_D, "digest", "(II)I"⟩
theorem hd_D_digest : y_D_digest.cls ≠ "java/lang/invoke/MethodHandle" ∧ y_D_digest.cls ≠ "java/lang/invoke/VarHandle" ∧ (parseMethodDescriptor y_D_digest.desc).map (fun d => d.parameters.length) = some 2 := by decide +kernel
abbrev b_D_hashInBlocks : ByteArray := prog_1_method_14_code
def y_D_hashInBlocks : MethodName := ⟨R_D, "hashInBlocks", "(LSpongeDigests$BlockHash;[JI)V"⟩
theorem hd_D_hashInBlocks : y_D_hashInBlocks.cls ≠ "java/lang/invoke/MethodHandle" ∧ y_D_hashInBlocks.cls ≠ "java/lang/invoke/VarHandle" ∧ (parseMethodDescriptor y_D_hashInBlocks.desc).map (fun d => d.parameters.length) = some 3 := by decide +kernel
abbrev b_H_begin : ByteArray := prog_2_method_2_code
def y_H_begin : MethodName := ⟨R_H, "begin", "([J)V"⟩
theorem hd_H_begin : y_H_begin.cls ≠ "java/lang/invoke/MethodHandle" ∧ y_H_begin.cls ≠ "java/lang/invoke/VarHandle" ∧ (parseMethodDescriptor y_H_begin.desc).map (fun d => d.parameters.length) = some 1 := by decide +kernel
abbrev b_H_absorb : ByteArray := prog_2_method_3_code
def y_H_absorb : MethodName := ⟨R_H, "absorb", "([BII)V"⟩
theorem hd_H_absorb : y_H_absorb.cls ≠ "java/lang/invoke/MethodHandle" ∧ y_H_absorb.cls ≠ "java/lang/invoke/VarHandle" ∧ (parseMethodDescriptor y_H_absorb.desc).map (fun d => d.parameters.length) = some 3 := by decide +kernel
abbrev b_H_compress : ByteArray := prog_2_method_8_code
def y_H_compress : MethodName := ⟨R_H, "compress", "()V"⟩
theorem hd_H_compress : y_H_compress.cls ≠ "java/lang/invoke/MethodHandle" ∧ y_H_compress.cls ≠ "java/lang/invoke/VarHandle" ∧ (parseMethodDescriptor y_H_compress.desc).map (fun d => d.parameters.length) = some 0 := by decide +kernel
abbrev b_H_fillSchedule : ByteArray := prog_2_method_10_code
def y_H_fillSchedule : MethodName := ⟨R_H, "fillSchedule", "()V"⟩
theorem hd_H_fillSchedule : y_H_fillSchedule.cls ≠ "java/lang/invoke/MethodHandle" ∧ y_H_fillSchedule.cls ≠ "java/lang/invoke/VarHandle" ∧ (parseMethodDescriptor y_H_fillSchedule.desc).map (fun d => d.parameters.length) = some 0 := by decide +kernel
abbrev b_H_twoTurnsAndShift : ByteArray := prog_2_method_12_code
def y_H_twoTurnsAndShift : MethodName := ⟨R_H, "twoTurnsAndShift", "(JI)J"⟩
theorem hd_H_twoTurnsAndShift : y_H_twoTurnsAndShift.cls ≠ "java/lang/invoke/MethodHandle" ∧ y_H_twoTurnsAndShift.cls ≠ "java/lang/invoke/VarHandle" ∧ (parseMethodDescriptor y_H_twoTurnsAndShift.desc).map (fun d => d.parameters.length) = some 2 := by decide +kernel
abbrev b_H_rotr : ByteArray := prog_2_method_13_code
def y_H_rotr : MethodName := ⟨R_H, "rotr", "(JI)J"⟩
theorem hd_H_rotr : y_H_rotr.cls ≠ "java/lang/invoke/MethodHandle" ∧ y_H_rotr.cls ≠ "java/lang/invoke/VarHandle" ∧ (parseMethodDescriptor y_H_rotr.desc).map (fun d => d.parameters.length) = some 2 := by decide +kernel
abbrev b_H_threeTurns : ByteArray := prog_2_method_11_code
def y_H_threeTurns : MethodName := ⟨R_H, "threeTurns", "(JI)J"⟩
theorem hd_H_threeTurns : y_H_threeTurns.cls ≠ "java/lang/invoke/MethodHandle" ∧ y_H_threeTurns.cls ≠ "java/lang/invoke/VarHandle" ∧ (parseMethodDescriptor y_H_threeTurns.desc).map (fun d => d.parameters.length) = some 2 := by decide +kernel
abbrev b_H_addToState : ByteArray := prog_2_method_9_code
def y_H_addToState : MethodName := ⟨R_H, "addToState", "(IJJJJ)V"⟩
theorem hd_H_addToState : y_H_addToState.cls ≠ "java/lang/invoke/MethodHandle" ∧ y_H_addToState.cls ≠ "java/lang/invoke/VarHandle" ∧ (parseMethodDescriptor y_H_addToState.desc).map (fun d => d.parameters.length) = some 5 := by decide +kernel
abbrev b_H_finish : ByteArray := prog_2_method_6_code
def y_H_finish : MethodName := ⟨R_H, "finish", "([BII)V"⟩
theorem hd_H_finish : y_H_finish.cls ≠ "java/lang/invoke/MethodHandle" ∧ y_H_finish.cls ≠ "java/lang/invoke/VarHandle" ∧ (parseMethodDescriptor y_H_finish.desc).map (fun d => d.parameters.length) = some 3 := by decide +kernel
abbrev b_H_writeState : ByteArray := prog_2_method_7_code
def y_H_writeState : MethodName := ⟨R_H, "writeState", "([BII)V"⟩
theorem hd_H_writeState : y_H_writeState.cls ≠ "java/lang/invoke/MethodHandle" ∧ y_H_writeState.cls ≠ "java/lang/invoke/VarHandle" ∧ (parseMethodDescriptor y_H_writeState.desc).map (fun d => d.parameters.length) = some 3 := by decide +kernel
abbrev b_D_hashInSponge : ByteArray := prog_1_method_15_code
def y_D_hashInSponge : MethodName := ⟨R_D, "hashInSponge", "(III)V"⟩
theorem hd_D_hashInSponge : y_D_hashInSponge.cls ≠ "java/lang/invoke/MethodHandle" ∧ y_D_hashInSponge.cls ≠ "java/lang/invoke/VarHandle" ∧ (parseMethodDescriptor y_D_hashInSponge.desc).map (fun d => d.parameters.length) = some 3 := by decide +kernel
abbrev b_P_absorb : ByteArray := prog_4_method_2_code
def y_P_absorb : MethodName := ⟨R_P, "absorb", "(II[BI)V"⟩
theorem hd_P_absorb : y_P_absorb.cls ≠ "java/lang/invoke/MethodHandle" ∧ y_P_absorb.cls ≠ "java/lang/invoke/VarHandle" ∧ (parseMethodDescriptor y_P_absorb.desc).map (fun d => d.parameters.length) = some 4 := by decide +kernel
abbrev b_J_fill2 : ByteArray := prog_22_method_101_code
def y_J_fill2 : MethodName := ⟨"java/util/Arrays", "fill", "([JJ)V"⟩
theorem hd_J_fill2 : y_J_fill2.cls ≠ "java/lang/invoke/MethodHandle" ∧ y_J_fill2.cls ≠ "java/lang/invoke/VarHandle" ∧ (parseMethodDescriptor y_J_fill2.desc).map (fun d => d.parameters.length) = some 2 := by decide +kernel
abbrev b_P_mixIn : ByteArray := prog_4_method_4_code
def y_P_mixIn : MethodName := ⟨R_P, "mixIn", "(II)V"⟩
theorem hd_P_mixIn : y_P_mixIn.cls ≠ "java/lang/invoke/MethodHandle" ∧ y_P_mixIn.cls ≠ "java/lang/invoke/VarHandle" ∧ (parseMethodDescriptor y_P_mixIn.desc).map (fun d => d.parameters.length) = some 2 := by decide +kernel
abbrev b_P_permute : ByteArray := prog_4_method_5_code
def y_P_permute : MethodName := ⟨R_P, "permute", "()V"⟩
theorem hd_P_permute : y_P_permute.cls ≠ "java/lang/invoke/MethodHandle" ∧ y_P_permute.cls ≠ "java/lang/invoke/VarHandle" ∧ (parseMethodDescriptor y_P_permute.desc).map (fun d => d.parameters.length) = some 0 := by decide +kernel
abbrev b_P_mixColumns : ByteArray := prog_4_method_6_code
def y_P_mixColumns : MethodName := ⟨R_P, "mixColumns", "()V"⟩
theorem hd_P_mixColumns : y_P_mixColumns.cls ≠ "java/lang/invoke/MethodHandle" ∧ y_P_mixColumns.cls ≠ "java/lang/invoke/VarHandle" ∧ (parseMethodDescriptor y_P_mixColumns.desc).map (fun d => d.parameters.length) = some 0 := by decide +kernel
abbrev b_P_rotl : ByteArray := prog_4_method_9_code
def y_P_rotl : MethodName := ⟨R_P, "rotl", "(JI)J"⟩
theorem hd_P_rotl : y_P_rotl.cls ≠ "java/lang/invoke/MethodHandle" ∧ y_P_rotl.cls ≠ "java/lang/invoke/VarHandle" ∧ (parseMethodDescriptor y_P_rotl.desc).map (fun d => d.parameters.length) = some 2 := by decide +kernel
abbrev b_P_turnAndMove : ByteArray := prog_4_method_7_code
def y_P_turnAndMove : MethodName := ⟨R_P, "turnAndMove", "()V"⟩
theorem hd_P_turnAndMove : y_P_turnAndMove.cls ≠ "java/lang/invoke/MethodHandle" ∧ y_P_turnAndMove.cls ≠ "java/lang/invoke/VarHandle" ∧ (parseMethodDescriptor y_P_turnAndMove.desc).map (fun d => d.parameters.length) = some 0 := by decide +kernel
abbrev b_P_mixRows : ByteArray := prog_4_method_8_code
def y_P_mixRows : MethodName := ⟨R_P, "mixRows", "()V"⟩
theorem hd_P_mixRows : y_P_mixRows.cls ≠ "java/lang/invoke/MethodHandle" ∧ y_P_mixRows.cls ≠ "java/lang/invoke/VarHandle" ∧ (parseMethodDescriptor y_P_mixRows.desc).map (fun d => d.parameters.length) = some 0 := by decide +kernel
abbrev b_P_squeeze : ByteArray := prog_4_method_3_code
def y_P_squeeze : MethodName := ⟨R_P, "squeeze", "(I[BI)V"⟩
theorem hd_P_squeeze : y_P_squeeze.cls ≠ "java/lang/invoke/MethodHandle" ∧ y_P_squeeze.cls ≠ "java/lang/invoke/VarHandle" ∧ (parseMethodDescriptor y_P_squeeze.desc).map (fun d => d.parameters.length) = some 3 := by decide +kernel
abbrev b_D_hashWithKey : ByteArray := prog_1_method_16_code
def y_D_hashWithKey : MethodName := ⟨R_D, "hashWithKey", "(LSpongeDigests$BlockHash;[J)V"⟩
theorem hd_D_hashWithKey : y_D_hashWithKey.cls ≠ "java/lang/invoke/MethodHandle" ∧ y_D_hashWithKey.cls ≠ "java/lang/invoke/VarHandle" ∧ (parseMethodDescriptor y_D_hashWithKey.desc).map (fun d => d.parameters.length) = some 2 := by decide +kernel
abbrev b_D_setKey : ByteArray := prog_1_method_17_code
def y_D_setKey : MethodName := ⟨R_D, "setKey", "(LSpongeDigests$BlockHash;[J)V"⟩
theorem hd_D_setKey : y_D_setKey.cls ≠ "java/lang/invoke/MethodHandle" ∧ y_D_setKey.cls ≠ "java/lang/invoke/VarHandle" ∧ (parseMethodDescriptor y_D_setKey.desc).map (fun d => d.parameters.length) = some 2 := by decide +kernel
abbrev b_J_fill3 : ByteArray := prog_22_method_109_code
def y_J_fill3 : MethodName := ⟨"java/util/Arrays", "fill", "([BB)V"⟩
theorem hd_J_fill3 : y_J_fill3.cls ≠ "java/lang/invoke/MethodHandle" ∧ y_J_fill3.cls ≠ "java/lang/invoke/VarHandle" ∧ (parseMethodDescriptor y_J_fill3.desc).map (fun d => d.parameters.length) = some 2 := by decide +kernel
abbrev b_D_beginWithKey : ByteArray := prog_1_method_18_code
def y_D_beginWithKey : MethodName := ⟨R_D, "beginWithKey", "(LSpongeDigests$BlockHash;[JI)V"⟩
theorem hd_D_beginWithKey : y_D_beginWithKey.cls ≠ "java/lang/invoke/MethodHandle" ∧ y_D_beginWithKey.cls ≠ "java/lang/invoke/VarHandle" ∧ (parseMethodDescriptor y_D_beginWithKey.desc).map (fun d => d.parameters.length) = some 3 := by decide +kernel
abbrev b_D_hashWithCounter : ByteArray := prog_1_method_19_code
def y_D_hashWithCounter : MethodName := ⟨R_D, "hashWithCounter", "(LSpongeDigests$BlockHash;[JI)V"⟩
theorem hd_D_hashWithCounter : y_D_hashWithCounter.cls ≠ "java/lang/invoke/MethodHandle" ∧ y_D_hashWithCounter.cls ≠ "java/lang/invoke/VarHandle" ∧ (parseMethodDescriptor y_D_hashWithCounter.desc).map (fun d => d.parameters.length) = some 3 := by decide +kernel
abbrev b_H_setMark : ByteArray := prog_2_method_4_code
def y_H_setMark : MethodName := ⟨R_H, "setMark", "()V"⟩
theorem hd_H_setMark : y_H_setMark.cls ≠ "java/lang/invoke/MethodHandle" ∧ y_H_setMark.cls ≠ "java/lang/invoke/VarHandle" ∧ (parseMethodDescriptor y_H_setMark.desc).map (fun d => d.parameters.length) = some 0 := by decide +kernel
abbrev b_D_setCounter : ByteArray := prog_1_method_20_code
def y_D_setCounter : MethodName := ⟨R_D, "setCounter", "(I)V"⟩
theorem hd_D_setCounter : y_D_setCounter.cls ≠ "java/lang/invoke/MethodHandle" ∧ y_D_setCounter.cls ≠ "java/lang/invoke/VarHandle" ∧ (parseMethodDescriptor y_D_setCounter.desc).map (fun d => d.parameters.length) = some 1 := by decide +kernel
abbrev b_H_goToMark : ByteArray := prog_2_method_5_code
def y_H_goToMark : MethodName := ⟨R_H, "goToMark", "()V"⟩
theorem hd_H_goToMark : y_H_goToMark.cls ≠ "java/lang/invoke/MethodHandle" ∧ y_H_goToMark.cls ≠ "java/lang/invoke/VarHandle" ∧ (parseMethodDescriptor y_H_goToMark.desc).map (fun d => d.parameters.length) = some 0 := by decide +kernel
abbrev b_O_init : ByteArray := prog_6_method_1_code
def y_O_init : MethodName := ⟨R_O, "<init>", "()V"⟩
theorem hd_O_init : y_O_init.cls ≠ "java/lang/invoke/MethodHandle" ∧ y_O_init.cls ≠ "java/lang/invoke/VarHandle" ∧ (parseMethodDescriptor y_O_init.desc).map (fun d => d.parameters.length) = some 0 := by decide +kernel
abbrev b_O_constants : ByteArray := prog_6_method_19_code
def y_O_constants : MethodName := ⟨R_O, "constants", "()V"⟩
theorem hd_O_constants : y_O_constants.cls ≠ "java/lang/invoke/MethodHandle" ∧ y_O_constants.cls ≠ "java/lang/invoke/VarHandle" ∧ (parseMethodDescriptor y_O_constants.desc).map (fun d => d.parameters.length) = some 0 := by decide +kernel
abbrev b_O_prime : ByteArray := prog_6_method_16_code
def y_O_prime : MethodName := ⟨R_O, "prime", "(I)Z"⟩
theorem hd_O_prime : y_O_prime.cls ≠ "java/lang/invoke/MethodHandle" ∧ y_O_prime.cls ≠ "java/lang/invoke/VarHandle" ∧ (parseMethodDescriptor y_O_prime.desc).map (fun d => d.parameters.length) = some 1 := by decide +kernel
abbrev b_O_root : ByteArray := prog_6_method_18_code
def y_O_root : MethodName := ⟨R_O, "root", "(II)J"⟩
theorem hd_O_root : y_O_root.cls ≠ "java/lang/invoke/MethodHandle" ∧ y_O_root.cls ≠ "java/lang/invoke/VarHandle" ∧ (parseMethodDescriptor y_O_root.desc).map (fun d => d.parameters.length) = some 2 := by decide +kernel
abbrev b_O_above : ByteArray := prog_6_method_17_code
def y_O_above : MethodName := ⟨R_O, "above", "(IJII)Z"⟩
theorem hd_O_above : y_O_above.cls ≠ "java/lang/invoke/MethodHandle" ∧ y_O_above.cls ≠ "java/lang/invoke/VarHandle" ∧ (parseMethodDescriptor y_O_above.desc).map (fun d => d.parameters.length) = some 4 := by decide +kernel
abbrev b_O_bit : ByteArray := prog_6_method_20_code
def y_O_bit : MethodName := ⟨R_O, "bit", "(I)I"⟩
theorem hd_O_bit : y_O_bit.cls ≠ "java/lang/invoke/MethodHandle" ∧ y_O_bit.cls ≠ "java/lang/invoke/VarHandle" ∧ (parseMethodDescriptor y_O_bit.desc).map (fun d => d.parameters.length) = some 1 := by decide +kernel
abbrev b_O_named : ByteArray := prog_6_method_21_code
def y_O_named : MethodName := ⟨R_O, "named", "([JII)V"⟩
theorem hd_O_named : y_O_named.cls ≠ "java/lang/invoke/MethodHandle" ∧ y_O_named.cls ≠ "java/lang/invoke/VarHandle" ∧ (parseMethodDescriptor y_O_named.desc).map (fun d => d.parameters.length) = some 3 := by decide +kernel
abbrev b_O_begin : ByteArray := prog_6_method_25_code
def y_O_begin : MethodName := ⟨R_O, "begin", "(I)V"⟩
theorem hd_O_begin : y_O_begin.cls ≠ "java/lang/invoke/MethodHandle" ∧ y_O_begin.cls ≠ "java/lang/invoke/VarHandle" ∧ (parseMethodDescriptor y_O_begin.desc).map (fun d => d.parameters.length) = some 1 := by decide +kernel
abbrev b_O_digestOf : ByteArray := prog_6_method_24_code
def y_O_digestOf : MethodName := ⟨R_O, "digestOf", "(I)I"⟩
theorem hd_O_digestOf : y_O_digestOf.cls ≠ "java/lang/invoke/MethodHandle" ∧ y_O_digestOf.cls ≠ "java/lang/invoke/VarHandle" ∧ (parseMethodDescriptor y_O_digestOf.desc).map (fun d => d.parameters.length) = some 1 := by decide +kernel
abbrev b_O_blockOf : ByteArray := prog_6_method_23_code
def y_O_blockOf : MethodName := ⟨R_O, "blockOf", "(I)I"⟩
theorem hd_O_blockOf : y_O_blockOf.cls ≠ "java/lang/invoke/MethodHandle" ∧ y_O_blockOf.cls ≠ "java/lang/invoke/VarHandle" ∧ (parseMethodDescriptor y_O_blockOf.desc).map (fun d => d.parameters.length) = some 1 := by decide +kernel
abbrev b_O_put : ByteArray := prog_6_method_27_code
def y_O_put : MethodName := ⟨R_O, "put", "(I)V"⟩
theorem hd_O_put : y_O_put.cls ≠ "java/lang/invoke/MethodHandle" ∧ y_O_put.cls ≠ "java/lang/invoke/VarHandle" ∧ (parseMethodDescriptor y_O_put.desc).map (fun d => d.parameters.length) = some 1 := by decide +kernel
abbrev b_O_sponge : ByteArray := prog_6_method_22_code
def y_O_sponge : MethodName := ⟨R_O, "sponge", "()Z"⟩
theorem hd_O_sponge : y_O_sponge.cls ≠ "java/lang/invoke/MethodHandle" ∧ y_O_sponge.cls ≠ "java/lang/invoke/VarHandle" ∧ (parseMethodDescriptor y_O_sponge.desc).map (fun d => d.parameters.length) = some 0 := by decide +kernel
abbrev b_O_flip : ByteArray := prog_6_method_26_code
def y_O_flip : MethodName := ⟨R_O, "flip", "(II)V"⟩
theorem hd_O_flip : y_O_flip.cls ≠ "java/lang/invoke/MethodHandle" ∧ y_O_flip.cls ≠ "java/lang/invoke/VarHandle" ∧ (parseMethodDescriptor y_O_flip.desc).map (fun d => d.parameters.length) = some 2 := by decide +kernel
abbrev b_O_permute : ByteArray := prog_6_method_29_code
def y_O_permute : MethodName := ⟨R_O, "permute", "()V"⟩
theorem hd_O_permute : y_O_permute.cls ≠ "java/lang/invoke/MethodHandle" ∧ y_O_permute.cls ≠ "java/lang/invoke/VarHandle" ∧ (parseMethodDescriptor y_O_permute.desc).map (fun d => d.parameters.length) = some 0 := by decide +kernel
abbrev b_O_left : ByteArray := prog_6_method_30_code
def y_O_left : MethodName := ⟨R_O, "left", "(JI)J"⟩
theorem hd_O_left : y_O_left.cls ≠ "java/lang/invoke/MethodHandle" ∧ y_O_left.cls ≠ "java/lang/invoke/VarHandle" ∧ (parseMethodDescriptor y_O_left.desc).map (fun d => d.parameters.length) = some 2 := by decide +kernel
abbrev b_O_compress32 : ByteArray := prog_6_method_34_code
def y_O_compress32 : MethodName := ⟨R_O, "compress32", "()V"⟩
theorem hd_O_compress32 : y_O_compress32.cls ≠ "java/lang/invoke/MethodHandle" ∧ y_O_compress32.cls ≠ "java/lang/invoke/VarHandle" ∧ (parseMethodDescriptor y_O_compress32.desc).map (fun d => d.parameters.length) = some 0 := by decide +kernel
abbrev b_O_turn : ByteArray := prog_6_method_32_code
def y_O_turn : MethodName := ⟨R_O, "turn", "(II)I"⟩
theorem hd_O_turn : y_O_turn.cls ≠ "java/lang/invoke/MethodHandle" ∧ y_O_turn.cls ≠ "java/lang/invoke/VarHandle" ∧ (parseMethodDescriptor y_O_turn.desc).map (fun d => d.parameters.length) = some 2 := by decide +kernel
abbrev b_O_compress64 : ByteArray := prog_6_method_33_code
def y_O_compress64 : MethodName := ⟨R_O, "compress64", "()V"⟩
theorem hd_O_compress64 : y_O_compress64.cls ≠ "java/lang/invoke/MethodHandle" ∧ y_O_compress64.cls ≠ "java/lang/invoke/VarHandle" ∧ (parseMethodDescriptor y_O_compress64.desc).map (fun d => d.parameters.length) = some 0 := by decide +kernel
abbrev b_O_right : ByteArray := prog_6_method_31_code
def y_O_right : MethodName := ⟨R_O, "right", "(JI)J"⟩
theorem hd_O_right : y_O_right.cls ≠ "java/lang/invoke/MethodHandle" ∧ y_O_right.cls ≠ "java/lang/invoke/VarHandle" ∧ (parseMethodDescriptor y_O_right.desc).map (fun d => d.parameters.length) = some 2 := by decide +kernel
abbrev b_O_finish : ByteArray := prog_6_method_35_code
def y_O_finish : MethodName := ⟨R_O, "finish", "()V"⟩
theorem hd_O_finish : y_O_finish.cls ≠ "java/lang/invoke/MethodHandle" ∧ y_O_finish.cls ≠ "java/lang/invoke/VarHandle" ∧ (parseMethodDescriptor y_O_finish.desc).map (fun d => d.parameters.length) = some 0 := by decide +kernel
abbrev b_O_thrown : ByteArray := prog_6_method_2_code
def y_O_thrown : MethodName := ⟨R_O, "thrown", "()I"⟩
theorem hd_O_thrown : y_O_thrown.cls ≠ "java/lang/invoke/MethodHandle" ∧ y_O_thrown.cls ≠ "java/lang/invoke/VarHandle" ∧ (parseMethodDescriptor y_O_thrown.desc).map (fun d => d.parameters.length) = some 0 := by decide +kernel
abbrev b_O_feed : ByteArray := prog_6_method_5_code
def y_O_feed : MethodName := ⟨R_O, "feed", "(IIIII)I"⟩
theorem hd_O_feed : y_O_feed.cls ≠ "java/lang/invoke/MethodHandle" ∧ y_O_feed.cls ≠ "java/lang/invoke/VarHandle" ∧ (parseMethodDescriptor y_O_feed.desc).map (fun d => d.parameters.length) = some 5 := by decide +kernel
abbrev b_O_good : ByteArray := prog_6_method_4_code
def y_O_good : MethodName := ⟨R_O, "good", "(ZI)Z"⟩
theorem hd_O_good : y_O_good.cls ≠ "java/lang/invoke/MethodHandle" ∧ y_O_good.cls ≠ "java/lang/invoke/VarHandle" ∧ (parseMethodDescriptor y_O_good.desc).map (fun d => d.parameters.length) = some 2 := by decide +kernel
abbrev b_O_word : ByteArray := prog_6_method_6_code
def y_O_word : MethodName := ⟨R_O, "word", "(I)V"⟩
theorem hd_O_word : y_O_word.cls ≠ "java/lang/invoke/MethodHandle" ∧ y_O_word.cls ≠ "java/lang/invoke/VarHandle" ∧ (parseMethodDescriptor y_O_word.desc).map (fun d => d.parameters.length) = some 1 := by decide +kernel
abbrev b_O_end : ByteArray := prog_6_method_7_code
def y_O_end : MethodName := ⟨R_O, "end", "(II)I"⟩
theorem hd_O_end : y_O_end.cls ≠ "java/lang/invoke/MethodHandle" ∧ y_O_end.cls ≠ "java/lang/invoke/VarHandle" ∧ (parseMethodDescriptor y_O_end.desc).map (fun d => d.parameters.length) = some 2 := by decide +kernel
abbrev b_O_in : ByteArray := prog_6_method_3_code
def y_O_in : MethodName := ⟨R_O, "in", "(III)Z"⟩
theorem hd_O_in : y_O_in.cls ≠ "java/lang/invoke/MethodHandle" ∧ y_O_in.cls ≠ "java/lang/invoke/VarHandle" ∧ (parseMethodDescriptor y_O_in.desc).map (fun d => d.parameters.length) = some 3 := by decide +kernel
abbrev b_O_copy : ByteArray := prog_6_method_8_code
def y_O_copy : MethodName := ⟨R_O, "copy", "(II)I"⟩
theorem hd_O_copy : y_O_copy.cls ≠ "java/lang/invoke/MethodHandle" ∧ y_O_copy.cls ≠ "java/lang/invoke/VarHandle" ∧ (parseMethodDescriptor y_O_copy.desc).map (fun d => d.parameters.length) = some 2 := by decide +kernel
abbrev b_O_resize : ByteArray := prog_6_method_9_code
def y_O_resize : MethodName := ⟨R_O, "resize", "(II)I"⟩
theorem hd_O_resize : y_O_resize.cls ≠ "java/lang/invoke/MethodHandle" ∧ y_O_resize.cls ≠ "java/lang/invoke/VarHandle" ∧ (parseMethodDescriptor y_O_resize.desc).map (fun d => d.parameters.length) = some 2 := by decide +kernel
abbrev b_O_alter : ByteArray := prog_6_method_10_code
def y_O_alter : MethodName := ⟨R_O, "alter", "(III)I"⟩
theorem hd_O_alter : y_O_alter.cls ≠ "java/lang/invoke/MethodHandle" ∧ y_O_alter.cls ≠ "java/lang/invoke/VarHandle" ∧ (parseMethodDescriptor y_O_alter.desc).map (fun d => d.parameters.length) = some 3 := by decide +kernel
abbrev b_O_length : ByteArray := prog_6_method_11_code
def y_O_length : MethodName := ⟨R_O, "length", "(I)I"⟩
theorem hd_O_length : y_O_length.cls ≠ "java/lang/invoke/MethodHandle" ∧ y_O_length.cls ≠ "java/lang/invoke/VarHandle" ∧ (parseMethodDescriptor y_O_length.desc).map (fun d => d.parameters.length) = some 1 := by decide +kernel
abbrev b_O_word2 : ByteArray := prog_6_method_12_code
def y_O_word2 : MethodName := ⟨R_O, "word", "(II)J"⟩
theorem hd_O_word2 : y_O_word2.cls ≠ "java/lang/invoke/MethodHandle" ∧ y_O_word2.cls ≠ "java/lang/invoke/VarHandle" ∧ (parseMethodDescriptor y_O_word2.desc).map (fun d => d.parameters.length) = some 2 := by decide +kernel
abbrev b_O_same : ByteArray := prog_6_method_13_code
def y_O_same : MethodName := ⟨R_O, "same", "(II)Z"⟩
theorem hd_O_same : y_O_same.cls ≠ "java/lang/invoke/MethodHandle" ∧ y_O_same.cls ≠ "java/lang/invoke/VarHandle" ∧ (parseMethodDescriptor y_O_same.desc).map (fun d => d.parameters.length) = some 2 := by decide +kernel
abbrev b_O_digest : ByteArray := prog_6_method_41_code
def y_O_digest : MethodName := ⟨R_O, "digest", "(II)I"⟩
theorem hd_O_digest : y_O_digest.cls ≠ "java/lang/invoke/MethodHandle" ∧ y_O_digest.cls ≠ "java/lang/invoke/VarHandle" ∧ (parseMethodDescriptor y_O_digest.desc).map (fun d => d.parameters.length) = some 2 := by decide +kernel
abbrev b_O_put2 : ByteArray := prog_6_method_28_code
def y_O_put2 : MethodName := ⟨R_O, "put", "([BII)V"⟩
theorem hd_O_put2 : y_O_put2.cls ≠ "java/lang/invoke/MethodHandle" ∧ y_O_put2.cls ≠ "java/lang/invoke/VarHandle" ∧ (parseMethodDescriptor y_O_put2.desc).map (fun d => d.parameters.length) = some 3 := by decide +kernel
abbrev b_O_give : ByteArray := prog_6_method_37_code
def y_O_give : MethodName := ⟨R_O, "give", "([BII)V"⟩
theorem hd_O_give : y_O_give.cls ≠ "java/lang/invoke/MethodHandle" ∧ y_O_give.cls ≠ "java/lang/invoke/VarHandle" ∧ (parseMethodDescriptor y_O_give.desc).map (fun d => d.parameters.length) = some 3 := by decide +kernel
abbrev b_O_squeeze : ByteArray := prog_6_method_36_code
def y_O_squeeze : MethodName := ⟨R_O, "squeeze", "()I"⟩
theorem hd_O_squeeze : y_O_squeeze.cls ≠ "java/lang/invoke/MethodHandle" ∧ y_O_squeeze.cls ≠ "java/lang/invoke/VarHandle" ∧ (parseMethodDescriptor y_O_squeeze.desc).map (fun d => d.parameters.length) = some 0 := by decide +kernel
abbrev b_O_startMac : ByteArray := prog_6_method_38_code
def y_O_startMac : MethodName := ⟨R_O, "startMac", "(I[BII)V"⟩
theorem hd_O_startMac : y_O_startMac.cls ≠ "java/lang/invoke/MethodHandle" ∧ y_O_startMac.cls ≠ "java/lang/invoke/VarHandle" ∧ (parseMethodDescriptor y_O_startMac.desc).map (fun d => d.parameters.length) = some 4 := by decide +kernel
abbrev b_O_move : ByteArray := prog_6_method_14_code
def y_O_move : MethodName := ⟨R_O, "move", "([BI[BII)V"⟩
theorem hd_O_move : y_O_move.cls ≠ "java/lang/invoke/MethodHandle" ∧ y_O_move.cls ≠ "java/lang/invoke/VarHandle" ∧ (parseMethodDescriptor y_O_move.desc).map (fun d => d.parameters.length) = some 5 := by decide +kernel
abbrev b_O_endMac : ByteArray := prog_6_method_39_code
def y_O_endMac : MethodName := ⟨R_O, "endMac", "(I[BII)V"⟩
theorem hd_O_endMac : y_O_endMac.cls ≠ "java/lang/invoke/MethodHandle" ∧ y_O_endMac.cls ≠ "java/lang/invoke/VarHandle" ∧ (parseMethodDescriptor y_O_endMac.desc).map (fun d => d.parameters.length) = some 4 := by decide +kernel
abbrev b_O_mask : ByteArray := prog_6_method_40_code
def y_O_mask : MethodName := ⟨R_O, "mask", "(I[BI[BII)V"⟩
theorem hd_O_mask : y_O_mask.cls ≠ "java/lang/invoke/MethodHandle" ∧ y_O_mask.cls ≠ "java/lang/invoke/VarHandle" ∧ (parseMethodDescriptor y_O_mask.desc).map (fun d => d.parameters.length) = some 6 := by decide +kernel
theorem wp_Y_append : Cond.selects (y_Y_append).cls y_Y_append y_Y_append ∈ W0 := W0_p (i := 1) (by decide +kernel) (by decide +kernel)
theorem wp_D_slotAt : Cond.selects (y_D_slotAt).cls y_D_slotAt y_D_slotAt ∈ W0 := W0_p (i := 2) (by decide +kernel) (by decide +kernel)
theorem wp_Y_take : Cond.selects (y_Y_take).cls y_Y_take y_Y_take ∈ W0 := W0_p (i := 3) (by decide +kernel) (by decide +kernel)
theorem wp_Y_cutOrFill : Cond.selects (y_Y_cutOrFill).cls y_Y_cutOrFill y_Y_cutOrFill ∈ W0 := W0_p (i := 4) (by decide +kernel) (by decide +kernel)
theorem wp_Y_eightFrom : Cond.selects (y_Y_eightFrom).cls y_Y_eightFrom y_Y_eightFrom ∈ W0 := W0_p (i := 5) (by decide +kernel) (by decide +kernel)
theorem wp_Y_matches : Cond.selects (y_Y_matches).cls y_Y_matches y_Y_matches ∈ W0 := W0_p (i := 6) (by decide +kernel) (by decide +kernel)
theorem wp_D_hashInBlocks : Cond.selects (y_D_hashInBlocks).cls y_D_hashInBlocks y_D_hashInBlocks ∈ W0 := W0_p (i := 7) (by decide +kernel) (by decide +kernel)
theorem wp_H_begin : Cond.selects (y_H_begin).cls y_H_begin y_H_begin ∈ W0 := W0_p (i := 8) (by decide +kernel) (by decide +kernel)
theorem wp_H_absorb : Cond.selects (y_H_absorb).cls y_H_absorb y_H_absorb ∈ W0 := W0_p (i := 9) (by decide +kernel) (by decide +kernel)
theorem wp_H_compress : Cond.selects (y_H_compress).cls y_H_compress y_H_compress ∈ W0 := W0_p (i := 10) (by decide +kernel) (by decide +kernel)
theorem wp_H_fillSchedule : Cond.selects (y_H_fillSchedule).cls y_H_fillSchedule y_H_fillSchedule ∈ W0 := W0_p (i := 11) (by decide +kernel) (by decide +kernel)
theorem wp_H_twoTurnsAndShift : Cond.selects (y_H_twoTurnsAndShift).cls y_H_twoTurnsAndShift y_H_twoTurnsAndShift ∈ W0 := W0_p (i := 12) (by decide +kernel) (by decide +kernel)
theorem wp_H_rotr : Cond.selects (y_H_rotr).cls y_H_rotr y_H_rotr ∈ W0 := W0_p (i := 13) (by decide +kernel) (by decide +kernel)
theorem wp_H_threeTurns : Cond.selects (y_H_threeTurns).cls y_H_threeTurns y_H_threeTurns ∈ W0 := W0_p (i := 14) (by decide +kernel) (by decide +kernel)
theorem wp_H_addToState : Cond.selects (y_H_addToState).cls y_H_addToState y_H_addToState ∈ W0 := W0_p (i := 15) (by decide +kernel) (by decide +kernel)
theorem wp_H_finish : Cond.selects (y_H_finish).cls y_H_finish y_H_finish ∈ W0 := W0_p (i := 16) (by decide +kernel) (by decide +kernel)
theorem wp_H_writeState : Cond.selects (y_H_writeState).cls y_H_writeState y_H_writeState ∈ W0 := W0_p (i := 17) (by decide +kernel) (by decide +kernel)
theorem wp_D_hashInSponge : Cond.selects (y_D_hashInSponge).cls y_D_hashInSponge y_D_hashInSponge ∈ W0 := W0_p (i := 18) (by decide +kernel) (by decide +kernel)
theorem wp_P_absorb : Cond.selects (y_P_absorb).cls y_P_absorb y_P_absorb ∈ W0 := W0_p (i := 19) (by decide +kernel) (by decide +kernel)
theorem wp_P_mixIn : Cond.selects (y_P_mixIn).cls y_P_mixIn y_P_mixIn ∈ W0 := W0_p (i := 20) (by decide +kernel) (by decide +kernel)
theorem wp_P_permute : Cond.selects (y_P_permute).cls y_P_permute y_P_permute ∈ W0 := W0_p (i := 21) (by decide +kernel) (by decide +kernel)
theorem wp_P_mixColumns : Cond.selects (y_P_mixColumns).cls y_P_mixColumns y_P_mixColumns ∈ W0 := W0_p (i := 22) (by decide +kernel) (by decide +kernel)
theorem wp_P_turnAndMove : Cond.selects (y_P_turnAndMove).cls y_P_turnAndMove y_P_turnAndMove ∈ W0 := W0_p (i := 23) (by decide +kernel) (by decide +kernel)
theorem wp_P_mixRows : Cond.selects (y_P_mixRows).cls y_P_mixRows y_P_mixRows ∈ W0 := W0_p (i := 24) (by decide +kernel) (by decide +kernel)
theorem wp_P_squeeze : Cond.selects (y_P_squeeze).cls y_P_squeeze y_P_squeeze ∈ W0 := W0_p (i := 25) (by decide +kernel) (by decide +kernel)
theorem wp_D_hashWithKey : Cond.selects (y_D_hashWithKey).cls y_D_hashWithKey y_D_hashWithKey ∈ W0 := W0_p (i := 26) (by decide +kernel) (by decide +kernel)
theorem wp_D_setKey : Cond.selects (y_D_setKey).cls y_D_setKey y_D_setKey ∈ W0 := W0_p (i := 27) (by decide +kernel) (by decide +kernel)
theorem wp_D_beginWithKey : Cond.selects (y_D_beginWithKey).cls y_D_beginWithKey y_D_beginWithKey ∈ W0 := W0_p (i := 28) (by decide +kernel) (by decide +kernel)
theorem wp_D_hashWithCounter : Cond.selects (y_D_hashWithCounter).cls y_D_hashWithCounter y_D_hashWithCounter ∈ W0 := W0_p (i := 29) (by decide +kernel) (by decide +kernel)
theorem wp_H_setMark : Cond.selects (y_H_setMark).cls y_H_setMark y_H_setMark ∈ W0 := W0_p (i := 30) (by decide +kernel) (by decide +kernel)
theorem wp_D_setCounter : Cond.selects (y_D_setCounter).cls y_D_setCounter y_D_setCounter ∈ W0 := W0_p (i := 31) (by decide +kernel) (by decide +kernel)
theorem wp_H_goToMark : Cond.selects (y_H_goToMark).cls y_H_goToMark y_H_goToMark ∈ W0 := W0_p (i := 32) (by decide +kernel) (by decide +kernel)
theorem wp_O_constants : Cond.selects (y_O_constants).cls y_O_constants y_O_constants ∈ W0 := W0_p (i := 33) (by decide +kernel) (by decide +kernel)
theorem wp_O_root : Cond.selects (y_O_root).cls y_O_root y_O_root ∈ W0 := W0_p (i := 34) (by decide +kernel) (by decide +kernel)
theorem wp_O_above : Cond.selects (y_O_above).cls y_O_above y_O_above ∈ W0 := W0_p (i := 35) (by decide +kernel) (by decide +kernel)
theorem wp_O_named : Cond.selects (y_O_named).cls y_O_named y_O_named ∈ W0 := W0_p (i := 36) (by decide +kernel) (by decide +kernel)
theorem wp_O_begin : Cond.selects (y_O_begin).cls y_O_begin y_O_begin ∈ W0 := W0_p (i := 37) (by decide +kernel) (by decide +kernel)
theorem wp_O_put : Cond.selects (y_O_put).cls y_O_put y_O_put ∈ W0 := W0_p (i := 38) (by decide +kernel) (by decide +kernel)
theorem wp_O_sponge : Cond.selects (y_O_sponge).cls y_O_sponge y_O_sponge ∈ W0 := W0_p (i := 39) (by decide +kernel) (by decide +kernel)
theorem wp_O_flip : Cond.selects (y_O_flip).cls y_O_flip y_O_flip ∈ W0 := W0_p (i := 40) (by decide +kernel) (by decide +kernel)
theorem wp_O_permute : Cond.selects (y_O_permute).cls y_O_permute y_O_permute ∈ W0 := W0_p (i := 41) (by decide +kernel) (by decide +kernel)
theorem wp_O_compress32 : Cond.selects (y_O_compress32).cls y_O_compress32 y_O_compress32 ∈ W0 := W0_p (i := 42) (by decide +kernel) (by decide +kernel)
theorem wp_O_compress64 : Cond.selects (y_O_compress64).cls y_O_compress64 y_O_compress64 ∈ W0 := W0_p (i := 43) (by decide +kernel) (by decide +kernel)
theorem wp_O_finish : Cond.selects (y_O_finish).cls y_O_finish y_O_finish ∈ W0 := W0_p (i := 44) (by decide +kernel) (by decide +kernel)
theorem wp_O_good : Cond.selects (y_O_good).cls y_O_good y_O_good ∈ W0 := W0_p (i := 45) (by decide +kernel) (by decide +kernel)
theorem wp_O_word : Cond.selects (y_O_word).cls y_O_word y_O_word ∈ W0 := W0_p (i := 46) (by decide +kernel) (by decide +kernel)
theorem wp_O_put2 : Cond.selects (y_O_put2).cls y_O_put2 y_O_put2 ∈ W0 := W0_p (i := 47) (by decide +kernel) (by decide +kernel)
theorem wp_O_give : Cond.selects (y_O_give).cls y_O_give y_O_give ∈ W0 := W0_p (i := 48) (by decide +kernel) (by decide +kernel)
theorem wp_O_squeeze : Cond.selects (y_O_squeeze).cls y_O_squeeze y_O_squeeze ∈ W0 := W0_p (i := 49) (by decide +kernel) (by decide +kernel)
theorem wp_O_startMac : Cond.selects (y_O_startMac).cls y_O_startMac y_O_startMac ∈ W0 := W0_p (i := 50) (by decide +kernel) (by decide +kernel)
theorem wp_O_endMac : Cond.selects (y_O_endMac).cls y_O_endMac y_O_endMac ∈ W0 := W0_p (i := 51) (by decide +kernel) (by decide +kernel)
theorem wp_O_mask : Cond.selects (y_O_mask).cls y_O_mask y_O_mask ∈ W0 := W0_p (i := 52) (by decide +kernel) (by decide +kernel)
