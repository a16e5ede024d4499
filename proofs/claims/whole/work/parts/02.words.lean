def R_H : String := "SpongeDigests$BlockHash"
def T_H : u_T := fun k => match k with
  | 0 => ("SpongeDigests$BlockHash", "wordBytes", "I", true)
  | 1 => ("SpongeDigests$BlockHash", "wordBits", "I", true)
  | 2 => ("SpongeDigests$BlockHash", "rounds", "I", true)
  | 3 => ("SpongeDigests$BlockHash", "distances", "[I", true)
  | 4 => ("SpongeDigests$BlockHash", "mask", "J", true)
  | 5 => ("SpongeDigests$BlockHash", "blockBytes", "I", true)
  | 6 => ("SpongeDigests$BlockHash", "resultBytes", "I", true)
  | 7 => ("SpongeDigests$BlockHash", "block", "[B", true)
  | 8 => ("SpongeDigests$BlockHash", "state", "[J", true)
  | 9 => ("SpongeDigests$BlockHash", "schedule", "[J", true)
  | 10 => ("SpongeDigests$BlockHash", "markedState", "[J", true)
  | 11 => ("SpongeDigests$BlockHash", "filled", "I", false)
  | 12 => ("SpongeDigests$BlockHash", "total", "J", false)
  | _ => ("SpongeDigests$BlockHash", "markedTotal", "J", false)
def ty_H : Nat → FieldType := fun k => match k with
  | 0 => .int
  | 1 => .int
  | 2 => .int
  | 3 => .array .int
  | 4 => .long
  | 5 => .int
  | 6 => .int
  | 7 => .array .byte
  | 8 => .array .long
  | 9 => .array .long
  | 10 => .array .long
  | 11 => .int
  | 12 => .long
  | _ => .long
theorem nm_H : ∀ a, a < 14 → ∀ b, b < 14 → a ≠ b → (T_H a).2.1 ≠ (T_H b).2.1 := by decide +kernel
theorem ok_H : ∀ k, k < 14 → parseFieldDescriptor (T_H k).2.2.1 = some (ty_H k) := by decide +kernel
def R_Y : String := "SpongeDigests$Bytes"
def T_Y : u_T := fun k => match k with
  | 0 => ("SpongeDigests$Bytes", "data", "[B", true)
  | _ => ("SpongeDigests$Bytes", "size", "I", false)
def ty_Y : Nat → FieldType := fun k => match k with
  | 0 => .array .byte
  | _ => .int
theorem nm_Y : ∀ a, a < 2 → ∀ b, b < 2 → a ≠ b → (T_Y a).2.1 ≠ (T_Y b).2.1 := by decide +kernel
theorem ok_Y : ∀ k, k < 2 → parseFieldDescriptor (T_Y k).2.2.1 = some (ty_Y k) := by decide +kernel
def R_P : String := "SpongeDigests$Sponge"
def T_P : u_T := fun k => match k with
  | 0 => ("SpongeDigests$Sponge", "lanes", "[J", true)
  | 1 => ("SpongeDigests$Sponge", "moved", "[J", true)
  | _ => ("SpongeDigests$Sponge", "columns", "[J", true)
def ty_P : Nat → FieldType := fun k => match k with
  | 0 => .array .long
  | 1 => .array .long
  | _ => .array .long
theorem nm_P : ∀ a, a < 3 → ∀ b, b < 3 → a ≠ b → (T_P a).2.1 ≠ (T_P b).2.1 := by decide +kernel
theorem ok_P : ∀ k, k < 3 → parseFieldDescriptor (T_P k).2.2.1 = some (ty_P k) := by decide +kernel
def R_D : String := "SpongeDigests"
def T_D : u_T := fun k => match k with
  | 0 => ("SpongeDigests", "slots", "[LSpongeDigests$Bytes;", true)
  | 1 => ("SpongeDigests", "tape", "LSpongeDigests$Bytes;", true)
  | 2 => ("SpongeDigests", "sponge", "LSpongeDigests$Sponge;", true)
  | 3 => ("SpongeDigests", "hash256", "LSpongeDigests$BlockHash;", true)
  | 4 => ("SpongeDigests", "hash512", "LSpongeDigests$BlockHash;", true)
  | 5 => ("SpongeDigests", "key", "[B", true)
  | 6 => ("SpongeDigests", "padded", "[B", true)
  | 7 => ("SpongeDigests", "inner", "[B", true)
  | _ => ("SpongeDigests", "counter", "[B", true)
def ty_D : Nat → FieldType := fun k => match k with
  | 0 => .array (.object "SpongeDigests$Bytes")
  | 1 => .object "SpongeDigests$Bytes"
  | 2 => .object "SpongeDigests$Sponge"
  | 3 => .object "SpongeDigests$BlockHash"
  | 4 => .object "SpongeDigests$BlockHash"
  | 5 => .array .byte
  | 6 => .array .byte
  | 7 => .array .byte
  | _ => .array .byte
theorem nm_D : ∀ a, a < 9 → ∀ b, b < 9 → a ≠ b → (T_D a).2.1 ≠ (T_D b).2.1 := by decide +kernel
theorem ok_D : ∀ k, k < 9 → parseFieldDescriptor (T_D k).2.2.1 = some (ty_D k) := by decide +kernel
def R_O : String := "SpongeDigestsModel"
def T_O : u_T := fun k => match k with
  | 0 => ("SpongeDigestsModel", "tape", "[B", true)
  | 1 => ("SpongeDigestsModel", "slot", "[[B", true)
  | 2 => ("SpongeDigestsModel", "length", "[I", true)
  | 3 => ("SpongeDigestsModel", "taped", "I", false)
  | 4 => ("SpongeDigestsModel", "code", "I", false)
  | 5 => ("SpongeDigestsModel", "roots", "[J", true)
  | 6 => ("SpongeDigestsModel", "cubes", "[J", true)
  | 7 => ("SpongeDigestsModel", "start224", "[J", true)
  | 8 => ("SpongeDigestsModel", "start256", "[J", true)
  | 9 => ("SpongeDigestsModel", "limbs", "[J", true)
  | 10 => ("SpongeDigestsModel", "product", "[J", true)
  | 11 => ("SpongeDigestsModel", "turns", "[I", true)
  | 12 => ("SpongeDigestsModel", "round", "[J", true)
  | 13 => ("SpongeDigestsModel", "state", "[J", true)
  | 14 => ("SpongeDigestsModel", "other", "[J", true)
  | 15 => ("SpongeDigestsModel", "column", "[J", true)
  | 16 => ("SpongeDigestsModel", "words", "[J", true)
  | 17 => ("SpongeDigestsModel", "block", "[B", true)
  | 18 => ("SpongeDigestsModel", "kind", "I", false)
  | 19 => ("SpongeDigestsModel", "rate", "I", false)
  | 20 => ("SpongeDigestsModel", "filled", "I", false)
  | 21 => ("SpongeDigestsModel", "total", "J", false)
  | 22 => ("SpongeDigestsModel", "hashKey", "[B", true)
  | _ => ("SpongeDigestsModel", "inner", "[B", true)
def ty_O : Nat → FieldType := fun k => match k with
  | 0 => .array .byte
  | 1 => .array (.array .byte)
  | 2 => .array .int
  | 3 => .int
  | 4 => .int
  | 5 => .array .long
  | 6 => .array .long
  | 7 => .array .long
  | 8 => .array .long
  | 9 => .array .long
  | 10 => .array .long
  | 11 => .array .int
  | 12 => .array .long
  | 13 => .array .long
  | 14 => .array .long
  | 15 => .array .long
  | 16 => .array .long
  | 17 => .array .byte
  | 18 => .int
  | 19 => .int
  | 20 => .int
  | 21 => .long
  | 22 => .array .byte
  | _ => .array .byte
theorem nm_O : ∀ a, a < 24 → ∀ b, b < 24 → a ≠ b → (T_O a).2.1 ≠ (T_O b).2.1 := by decide +kernel
theorem ok_O : ∀ k, k < 24 → parseFieldDescriptor (T_O k).2.2.1 = some (ty_O k) := by decide +kernel
def R_L : String := "SpongeDigestsLaw"
abbrev classes : List vw_C := [(R_H, T_H, 14), (R_Y, T_Y, 2), (R_P, T_P, 3), (R_D, T_D, 9), (R_O, T_O, 24)]
def W0 : List Cond := lw_tbl.filter goodWord
theorem W0_i {i : Nat} {w : Cond} (h : tables_1[i]? = some w) (hg : goodWord w = true) : w ∈ W0 := List.mem_filter.mpr ⟨List.mem_append_right _ (List.mem_of_getElem? h), hg⟩
theorem W0_p {i : Nat} {w : Cond} (h : (k2_sels lw_privs)[i]? = some w) (hg : goodWord w = true) : w ∈ W0 := List.mem_filter.mpr ⟨List.mem_append_left _ (List.mem_of_getElem? h), hg⟩
theorem W0_c {c : List Cond} (hs : ∀ w ∈ c, w ∈ tables_1) {i : Nat} {w : Cond} (h : c[i]? = some w) (hg : goodWord w = true) : w ∈ W0 := List.mem_filter.mpr ⟨List.mem_append_right _ (hs w (List.mem_of_getElem? h)), hg⟩
theorem tk_1 : ∀ w ∈ tables_1_1, w ∈ tables_1 := fun w h => List.mem_append_left _ h
theorem tk_2 : ∀ w ∈ tables_1_2, w ∈ tables_1 := fun w h => List.mem_append_right _ (List.mem_append_left _ h)
theorem tk_3 : ∀ w ∈ tables_1_3, w ∈ tables_1 := fun w h => List.mem_append_right _ (List.mem_append_right _ (List.mem_append_left _ h))
theorem tk_4 : ∀ w ∈ tables_1_4, w ∈ tables_1 := fun w h => List.mem_append_right _ (List.mem_append_right _ (List.mem_append_right _ (List.mem_append_left _ h)))
theorem tk_5 : ∀ w ∈ tables_1_5, w ∈ tables_1 := fun w h => List.mem_append_right _ (List.mem_append_right _ (List.mem_append_right _ (List.mem_append_right _ (h))))
theorem in_H : ∀ w ∈ u_ws R_H T_H 14, w ∈ W0 := by decide +kernel
theorem in_Y : ∀ w ∈ u_ws R_Y T_Y 2, w ∈ W0 := by decide +kernel
theorem in_P : ∀ w ∈ u_ws R_P T_P 3, w ∈ W0 := by decide +kernel
theorem in_D : ∀ w ∈ u_ws R_D T_D 9, w ∈ W0 := by decide +kernel
theorem in_O : ∀ w ∈ u_ws R_O T_O 24, w ∈ W0 := by decide +kernel
def nestWords : List Cond := [(Jvm.Cond.methodLinkNest "SpongeDigests" (15 : Nat) ({ cls := "SpongeDigests$Bytes", name := "<init>", desc := "()V" } : Jvm.MethodName) "SpongeDigests"), (Jvm.Cond.fieldLinkNest "SpongeDigests" (100 : Nat) "SpongeDigests$Bytes" "data" "[B" "SpongeDigests"), (Jvm.Cond.fieldLinkNest "SpongeDigests" (66 : Nat) "SpongeDigests$Bytes" "size" "I" "SpongeDigests"), (Jvm.Cond.methodLinkNest "SpongeDigests" (22 : Nat) ({ cls := "SpongeDigests$Sponge", name := "<init>", desc := "()V" } : Jvm.MethodName) "SpongeDigests"), (Jvm.Cond.methodLinkNest "SpongeDigests" (33 : Nat) ({ cls := "SpongeDigests$BlockHash", name := "<init>", desc := "(II[I)V" } : Jvm.MethodName) "SpongeDigests"), (Jvm.Cond.fieldLinkNest "SpongeDigests" (46 : Nat) "SpongeDigests$BlockHash" "blockBytes" "I" "SpongeDigests"), (Jvm.Cond.fieldLinkNest "SpongeDigests" (57 : Nat) "SpongeDigests$BlockHash" "resultBytes" "I" "SpongeDigests"), (Jvm.Cond.methodLinkNest "SpongeDigests" (76 : Nat) ({ cls := "SpongeDigests$Bytes", name := "append", desc := "(I)V" } : Jvm.MethodName) "SpongeDigests"), (Jvm.Cond.methodLinkNest "SpongeDigests" (90 : Nat) ({ cls := "SpongeDigests$Bytes", name := "take", desc := "(LSpongeDigests$Bytes;I)V" } : Jvm.MethodName) "SpongeDigests"), (Jvm.Cond.methodLinkNest "SpongeDigests" (94 : Nat) ({ cls := "SpongeDigests$Bytes", name := "cutOrFill", desc := "(I)V" } : Jvm.MethodName) "SpongeDigests"), (Jvm.Cond.methodLinkNest "SpongeDigests" (103 : Nat) ({ cls := "SpongeDigests$Bytes", name := "eightFrom", desc := "(I)J" } : Jvm.MethodName) "SpongeDigests"), (Jvm.Cond.methodLinkNest "SpongeDigests" (107 : Nat) ({ cls := "SpongeDigests$Bytes", name := "matches", desc := "(LSpongeDigests$Bytes;)Z" } : Jvm.MethodName) "SpongeDigests"), (Jvm.Cond.methodLinkNest "SpongeDigests" (151 : Nat) ({ cls := "SpongeDigests$BlockHash", name := "begin", desc := "([J)V" } : Jvm.MethodName) "SpongeDigests"), (Jvm.Cond.methodLinkNest "SpongeDigests" (155 : Nat) ({ cls := "SpongeDigests$BlockHash", name := "absorb", desc := "([BII)V" } : Jvm.MethodName) "SpongeDigests"), (Jvm.Cond.fieldLinkNest "SpongeDigests$BlockHash" (84 : Nat) "SpongeDigests" "CUBE_ROOTS" "[J" "SpongeDigests"), (Jvm.Cond.methodLinkNest "SpongeDigests" (159 : Nat) ({ cls := "SpongeDigests$BlockHash", name := "finish", desc := "([BII)V" } : Jvm.MethodName) "SpongeDigests"), (Jvm.Cond.methodLinkNest "SpongeDigests" (162 : Nat) ({ cls := "SpongeDigests$Sponge", name := "absorb", desc := "(II[BI)V" } : Jvm.MethodName) "SpongeDigests"), (Jvm.Cond.fieldLinkNest "SpongeDigests$Sponge" (50 : Nat) "SpongeDigests" "LANE_TARGETS" "[I" "SpongeDigests"), (Jvm.Cond.fieldLinkNest "SpongeDigests$Sponge" (54 : Nat) "SpongeDigests" "LANE_TURNS" "[I" "SpongeDigests"), (Jvm.Cond.fieldLinkNest "SpongeDigests$Sponge" (43 : Nat) "SpongeDigests" "ROUND_CONSTANTS" "[J" "SpongeDigests"), (Jvm.Cond.methodLinkNest "SpongeDigests" (165 : Nat) ({ cls := "SpongeDigests$Sponge", name := "squeeze", desc := "(I[BI)V" } : Jvm.MethodName) "SpongeDigests"), (Jvm.Cond.methodLinkNest "SpongeDigests" (187 : Nat) ({ cls := "SpongeDigests$BlockHash", name := "setMark", desc := "()V" } : Jvm.MethodName) "SpongeDigests"), (Jvm.Cond.methodLinkNest "SpongeDigests" (199 : Nat) ({ cls := "SpongeDigests$BlockHash", name := "goToMark", desc := "()V" } : Jvm.MethodName) "SpongeDigests")]
theorem wd_0 : (Jvm.Cond.initialized "SpongeDigestsLaw") ∈ W0 := W0_c tk_1 (i := 0) rfl rfl
theorem wd_1 : (Jvm.Cond.initialized "SpongeDigests") ∈ W0 := W0_c tk_1 (i := 1) rfl rfl
theorem wd_2 : (Jvm.Cond.initialized "SpongeDigests$Bytes") ∈ W0 := W0_c tk_1 (i := 2) rfl rfl
theorem wd_3 : (Jvm.Cond.initialized "SpongeDigests$Sponge") ∈ W0 := W0_c tk_1 (i := 3) rfl rfl
theorem wd_4 : (Jvm.Cond.initialized "SpongeDigests$BlockHash") ∈ W0 := W0_c tk_1 (i := 4) rfl rfl
theorem wd_5 : (Jvm.Cond.initialized "SpongeDigestsModel") ∈ W0 := W0_c tk_1 (i := 5) rfl rfl
theorem wd_9 : (Jvm.Cond.initialized "java/lang/IndexOutOfBoundsException") ∈ W0 := W0_c tk_1 (i := 9) rfl rfl
theorem wd_10 : (Jvm.Cond.initialized "java/lang/IllegalArgumentException") ∈ W0 := W0_c tk_1 (i := 10) rfl rfl
theorem wd_11 : (Jvm.Cond.initialized "java/lang/System") ∈ W0 := W0_c tk_1 (i := 11) rfl rfl
theorem wd_12 : (Jvm.Cond.initialized "java/util/Arrays") ∈ W0 := W0_c tk_1 (i := 12) rfl rfl
theorem wd_18 : (Jvm.Cond.initialized "java/lang/Math") ∈ W0 := W0_c tk_1 (i := 18) rfl rfl
theorem wd_23 : (Jvm.Cond.classLink "SpongeDigestsLaw" (8 : Nat) "SpongeDigests") ∈ W0 := W0_c tk_1 (i := 23) rfl rfl
theorem wd_24 : (Jvm.Cond.instantiable "SpongeDigests" (9 : Nat)) ∈ W0 := W0_c tk_1 (i := 24) rfl rfl
theorem wd_25 : (Jvm.Cond.methodLink "SpongeDigestsLaw" (46 : Nat) ({ cls := "SpongeDigests", name := "<init>", desc := "()V" } : Jvm.MethodName)) ∈ W0 := W0_c tk_1 (i := 25) rfl rfl
theorem wd_26 : (Jvm.Cond.instanceMethod ({ cls := "SpongeDigests", name := "<init>", desc := "()V" } : Jvm.MethodName)) ∈ W0 := W0_c tk_1 (i := 26) rfl rfl
theorem wd_27 : (Jvm.Cond.code ({ cls := "SpongeDigests", name := "<init>", desc := "()V" } : Jvm.MethodName) prog_1_method_1_code (2 : Nat) (Option.none : Option Jvm.ClassFile.FieldType)) ∈ W0 := W0_c tk_1 (i := 27) rfl rfl
theorem wd_28 : (Jvm.Cond.methodLink "SpongeDigests" (3 : Nat) ({ cls := "java/lang/Object", name := "<init>", desc := "()V" } : Jvm.MethodName)) ∈ W0 := W0_c tk_1 (i := 28) rfl rfl
theorem wd_29 : (Jvm.Cond.instanceMethod ({ cls := "java/lang/Object", name := "<init>", desc := "()V" } : Jvm.MethodName)) ∈ W0 := W0_c tk_1 (i := 29) rfl rfl
theorem wd_30 : (Jvm.Cond.code ({ cls := "java/lang/Object", name := "<init>", desc := "()V" } : Jvm.MethodName) object_method_1_code (1 : Nat) (Option.none : Option Jvm.ClassFile.FieldType)) ∈ W0 := W0_c tk_1 (i := 30) rfl rfl
theorem wd_31 : (Jvm.Cond.classLink "SpongeDigests" (9 : Nat) "SpongeDigests$Bytes") ∈ W0 := W0_c tk_1 (i := 31) rfl rfl
theorem wd_33 : (Jvm.Cond.instantiable "SpongeDigests$Bytes" (2 : Nat)) ∈ W0 := W0_c tk_1 (i := 33) rfl rfl
theorem wd_35 : (Jvm.Cond.instanceMethod ({ cls := "SpongeDigests$Bytes", name := "<init>", desc := "()V" } : Jvm.MethodName)) ∈ W0 := W0_c tk_1 (i := 35) rfl rfl
theorem wd_36 : (Jvm.Cond.code ({ cls := "SpongeDigests$Bytes", name := "<init>", desc := "()V" } : Jvm.MethodName) prog_3_method_1_code (1 : Nat) (Option.none : Option Jvm.ClassFile.FieldType)) ∈ W0 := W0_c tk_1 (i := 36) rfl rfl
theorem wd_37 : (Jvm.Cond.methodLink "SpongeDigests$Bytes" (3 : Nat) ({ cls := "java/lang/Object", name := "<init>", desc := "()V" } : Jvm.MethodName)) ∈ W0 := W0_c tk_1 (i := 37) rfl rfl
theorem wd_38 : (Jvm.Cond.fieldLink "SpongeDigests$Bytes" (9 : Nat) "SpongeDigests$Bytes" "data" "[B") ∈ W0 := W0_c tk_1 (i := 38) rfl rfl
theorem wd_41 : (Jvm.Cond.fieldLink "SpongeDigests$Bytes" (15 : Nat) "SpongeDigests$Bytes" "size" "I") ∈ W0 := W0_c tk_1 (i := 41) rfl rfl
theorem wd_47 : (Jvm.Cond.arrayClass Jvm.ClassFile.FieldType.byte) ∈ W0 := W0_c tk_1 (i := 47) rfl rfl
theorem wd_48 : (Jvm.Cond.classLink "SpongeDigests" (20 : Nat) "SpongeDigests$Sponge") ∈ W0 := W0_c tk_1 (i := 48) rfl rfl
theorem wd_49 : (Jvm.Cond.instantiable "SpongeDigests$Sponge" (3 : Nat)) ∈ W0 := W0_c tk_1 (i := 49) rfl rfl
theorem wd_51 : (Jvm.Cond.instanceMethod ({ cls := "SpongeDigests$Sponge", name := "<init>", desc := "()V" } : Jvm.MethodName)) ∈ W0 := W0_c tk_1 (i := 51) rfl rfl
theorem wd_52 : (Jvm.Cond.code ({ cls := "SpongeDigests$Sponge", name := "<init>", desc := "()V" } : Jvm.MethodName) prog_4_method_1_code (1 : Nat) (Option.none : Option Jvm.ClassFile.FieldType)) ∈ W0 := W0_c tk_1 (i := 52) rfl rfl
theorem wd_53 : (Jvm.Cond.methodLink "SpongeDigests$Sponge" (3 : Nat) ({ cls := "java/lang/Object", name := "<init>", desc := "()V" } : Jvm.MethodName)) ∈ W0 := W0_c tk_1 (i := 53) rfl rfl
theorem wd_54 : (Jvm.Cond.fieldLink "SpongeDigests$Sponge" (9 : Nat) "SpongeDigests$Sponge" "lanes" "[J") ∈ W0 := W0_c tk_1 (i := 54) rfl rfl
theorem wd_55 : (Jvm.Cond.fieldLink "SpongeDigests$Sponge" (15 : Nat) "SpongeDigests$Sponge" "moved" "[J") ∈ W0 := W0_c tk_1 (i := 55) rfl rfl
theorem wd_56 : (Jvm.Cond.fieldLink "SpongeDigests$Sponge" (18 : Nat) "SpongeDigests$Sponge" "columns" "[J") ∈ W0 := W0_c tk_1 (i := 56) rfl rfl
theorem wd_64 : (Jvm.Cond.arrayClass Jvm.ClassFile.FieldType.long) ∈ W0 := W0_c tk_1 (i := 64) rfl rfl
theorem wd_65 : (Jvm.Cond.classLink "SpongeDigests" (27 : Nat) "SpongeDigests$BlockHash") ∈ W0 := W0_c tk_1 (i := 65) rfl rfl
theorem wd_66 : (Jvm.Cond.instantiable "SpongeDigests$BlockHash" (14 : Nat)) ∈ W0 := W0_c tk_1 (i := 66) rfl rfl
theorem wd_67 : (Jvm.Cond.fieldLink "SpongeDigests" (29 : Nat) "SpongeDigests" "DISTANCES_256" "[I") ∈ W0 := W0_c tk_1 (i := 67) rfl rfl
theorem wd_70 : (Jvm.Cond.instanceMethod ({ cls := "SpongeDigests$BlockHash", name := "<init>", desc := "(II[I)V" } : Jvm.MethodName)) ∈ W0 := W0_c tk_1 (i := 70) rfl rfl
theorem wd_71 : (Jvm.Cond.code ({ cls := "SpongeDigests$BlockHash", name := "<init>", desc := "(II[I)V" } : Jvm.MethodName) prog_2_method_1_code (4 : Nat) (Option.none : Option Jvm.ClassFile.FieldType)) ∈ W0 := W0_c tk_1 (i := 71) rfl rfl
theorem wd_72 : (Jvm.Cond.methodLink "SpongeDigests$BlockHash" (3 : Nat) ({ cls := "java/lang/Object", name := "<init>", desc := "()V" } : Jvm.MethodName)) ∈ W0 := W0_c tk_1 (i := 72) rfl rfl
theorem wd_73 : (Jvm.Cond.constantLong "SpongeDigests$BlockHash" (25 : Nat) (-1 : Int64)) ∈ W0 := W0_c tk_1 (i := 73) rfl rfl
theorem wd_74 : (Jvm.Cond.fieldLink "SpongeDigests$BlockHash" (9 : Nat) "SpongeDigests$BlockHash" "wordBytes" "I") ∈ W0 := W0_c tk_1 (i := 74) rfl rfl
theorem wd_75 : (Jvm.Cond.fieldLink "SpongeDigests$BlockHash" (22 : Nat) "SpongeDigests$BlockHash" "wordBits" "I") ∈ W0 := W0_c tk_1 (i := 75) rfl rfl
theorem wd_76 : (Jvm.Cond.fieldLink "SpongeDigests$BlockHash" (15 : Nat) "SpongeDigests$BlockHash" "rounds" "I") ∈ W0 := W0_c tk_1 (i := 76) rfl rfl
theorem wd_77 : (Jvm.Cond.fieldLink "SpongeDigests$BlockHash" (18 : Nat) "SpongeDigests$BlockHash" "distances" "[I") ∈ W0 := W0_c tk_1 (i := 77) rfl rfl
theorem wd_78 : (Jvm.Cond.fieldLink "SpongeDigests$BlockHash" (27 : Nat) "SpongeDigests$BlockHash" "mask" "J") ∈ W0 := W0_c tk_1 (i := 78) rfl rfl
theorem wd_79 : (Jvm.Cond.fieldLink "SpongeDigests$BlockHash" (31 : Nat) "SpongeDigests$BlockHash" "blockBytes" "I") ∈ W0 := W0_c tk_1 (i := 79) rfl rfl
theorem wd_81 : (Jvm.Cond.fieldLink "SpongeDigests$BlockHash" (34 : Nat) "SpongeDigests$BlockHash" "resultBytes" "I") ∈ W0 := W0_c tk_1 (i := 81) rfl rfl
theorem wd_83 : (Jvm.Cond.fieldLink "SpongeDigests$BlockHash" (37 : Nat) "SpongeDigests$BlockHash" "block" "[B") ∈ W0 := W0_c tk_1 (i := 83) rfl rfl
theorem wd_84 : (Jvm.Cond.fieldLink "SpongeDigests$BlockHash" (41 : Nat) "SpongeDigests$BlockHash" "state" "[J") ∈ W0 := W0_c tk_1 (i := 84) rfl rfl
theorem wd_85 : (Jvm.Cond.fieldLink "SpongeDigests$BlockHash" (45 : Nat) "SpongeDigests$BlockHash" "schedule" "[J") ∈ W0 := W0_c tk_1 (i := 85) rfl rfl
theorem wd_86 : (Jvm.Cond.fieldLink "SpongeDigests$BlockHash" (48 : Nat) "SpongeDigests$BlockHash" "markedState" "[J") ∈ W0 := W0_c tk_1 (i := 86) rfl rfl
theorem wd_87 : (Jvm.Cond.fieldLink "SpongeDigests$BlockHash" (57 : Nat) "SpongeDigests$BlockHash" "filled" "I") ∈ W0 := W0_c tk_1 (i := 87) rfl rfl
theorem wd_88 : (Jvm.Cond.fieldLink "SpongeDigests$BlockHash" (60 : Nat) "SpongeDigests$BlockHash" "total" "J") ∈ W0 := W0_c tk_1 (i := 88) rfl rfl
theorem wd_89 : (Jvm.Cond.fieldLink "SpongeDigests$BlockHash" (66 : Nat) "SpongeDigests$BlockHash" "markedTotal" "J") ∈ W0 := W0_c tk_1 (i := 89) rfl rfl
theorem wd_119 : (Jvm.Cond.fieldLink "SpongeDigests" (40 : Nat) "SpongeDigests" "DISTANCES_512" "[I") ∈ W0 := W0_c tk_1 (i := 119) rfl rfl
theorem wd_121 : (Jvm.Cond.fieldLink "SpongeDigests" (11 : Nat) "SpongeDigests" "slots" "[LSpongeDigests$Bytes;") ∈ W0 := W0_c tk_1 (i := 121) rfl rfl
theorem wd_122 : (Jvm.Cond.fieldLink "SpongeDigests" (16 : Nat) "SpongeDigests" "tape" "LSpongeDigests$Bytes;") ∈ W0 := W0_c tk_1 (i := 122) rfl rfl
theorem wd_123 : (Jvm.Cond.fieldLink "SpongeDigests" (23 : Nat) "SpongeDigests" "sponge" "LSpongeDigests$Sponge;") ∈ W0 := W0_c tk_1 (i := 123) rfl rfl
theorem wd_124 : (Jvm.Cond.fieldLink "SpongeDigests" (36 : Nat) "SpongeDigests" "hash256" "LSpongeDigests$BlockHash;") ∈ W0 := W0_c tk_1 (i := 124) rfl rfl
theorem wd_125 : (Jvm.Cond.fieldLink "SpongeDigests" (43 : Nat) "SpongeDigests" "hash512" "LSpongeDigests$BlockHash;") ∈ W0 := W0_c tk_1 (i := 125) rfl rfl
theorem wd_126 : (Jvm.Cond.fieldLink "SpongeDigests" (50 : Nat) "SpongeDigests" "key" "[B") ∈ W0 := W0_c tk_1 (i := 126) rfl rfl
theorem wd_127 : (Jvm.Cond.fieldLink "SpongeDigests" (54 : Nat) "SpongeDigests" "padded" "[B") ∈ W0 := W0_c tk_1 (i := 127) rfl rfl
theorem wd_128 : (Jvm.Cond.fieldLink "SpongeDigests" (60 : Nat) "SpongeDigests" "inner" "[B") ∈ W0 := W0_c tk_1 (i := 128) rfl rfl
theorem wd_129 : (Jvm.Cond.fieldLink "SpongeDigests" (63 : Nat) "SpongeDigests" "counter" "[B") ∈ W0 := W0_c tk_1 (i := 129) rfl rfl
theorem wd_149 : (Jvm.Cond.methodLink "SpongeDigestsLaw" (50 : Nat) ({ cls := "SpongeDigestsLaw", name := "feed", desc := "(LSpongeDigests;IIIII[J)I" } : Jvm.MethodName)) ∈ W0 := W0_c tk_1 (i := 149) rfl rfl
theorem wd_150 : (Jvm.Cond.static ({ cls := "SpongeDigestsLaw", name := "feed", desc := "(LSpongeDigests;IIIII[J)I" } : Jvm.MethodName)) ∈ W0 := W0_c tk_1 (i := 150) rfl rfl
theorem wd_151 : (Jvm.Cond.codeWith ({ cls := "SpongeDigestsLaw", name := "feed", desc := "(LSpongeDigests;IIIII[J)I" } : Jvm.MethodName) method_3_code (8 : Nat) (Option.some Jvm.ClassFile.FieldType.int) [((0 : Nat), (16 : Nat), (19 : Nat), (13 : Nat))]) ∈ W0 := W0_c tk_1 (i := 151) rfl rfl
theorem wd_152 : (Jvm.Cond.classLink "SpongeDigestsLaw" (13 : Nat) "java/lang/IndexOutOfBoundsException") ∈ W0 := W0_c tk_1 (i := 152) rfl rfl
theorem wd_153 : (Jvm.Cond.methodLink "SpongeDigestsLaw" (7 : Nat) ({ cls := "SpongeDigests", name := "feed", desc := "(IIIII)I" } : Jvm.MethodName)) ∈ W0 := W0_c tk_1 (i := 153) rfl rfl
theorem wd_154 : (Jvm.Cond.instanceMethod ({ cls := "SpongeDigests", name := "feed", desc := "(IIIII)I" } : Jvm.MethodName)) ∈ W0 := W0_c tk_1 (i := 154) rfl rfl
theorem wd_155 : (Jvm.Cond.selects "SpongeDigests" ({ cls := "SpongeDigests", name := "feed", desc := "(IIIII)I" } : Jvm.MethodName) ({ cls := "SpongeDigests", name := "feed", desc := "(IIIII)I" } : Jvm.MethodName)) ∈ W0 := W0_c tk_1 (i := 155) rfl rfl
theorem wd_156 : (Jvm.Cond.code ({ cls := "SpongeDigests", name := "feed", desc := "(IIIII)I" } : Jvm.MethodName) prog_1_method_2_code (6 : Nat) (Option.some Jvm.ClassFile.FieldType.int)) ∈ W0 := W0_c tk_1 (i := 156) rfl rfl
theorem wd_157 : (Jvm.Cond.classLink "SpongeDigests" (69 : Nat) "java/lang/IndexOutOfBoundsException") ∈ W0 := W0_c tk_1 (i := 157) rfl rfl
theorem wd_199 : (Jvm.Cond.methodLink "SpongeDigests" (73 : Nat) ({ cls := "java/lang/IndexOutOfBoundsException", name := "<init>", desc := "(Ljava/lang/String;)V" } : Jvm.MethodName)) ∈ W0 := W0_c tk_1 (i := 199) rfl rfl
theorem wd_226 : (Jvm.Cond.instanceMethod ({ cls := "SpongeDigests$Bytes", name := "append", desc := "(I)V" } : Jvm.MethodName)) ∈ W0 := W0_c tk_1 (i := 226) rfl rfl
theorem wd_227 : (Jvm.Cond.code ({ cls := "SpongeDigests$Bytes", name := "append", desc := "(I)V" } : Jvm.MethodName) prog_3_method_2_code (3 : Nat) (Option.none : Option Jvm.ClassFile.FieldType)) ∈ W0 := W0_c tk_1 (i := 227) rfl rfl
theorem wd_228 : (Jvm.Cond.methodLink "SpongeDigestsLaw" (60 : Nat) ({ cls := "SpongeDigestsLaw", name := "end", desc := "(LSpongeDigests;II[J)I" } : Jvm.MethodName)) ∈ W0 := W0_c tk_1 (i := 228) rfl rfl
theorem wd_229 : (Jvm.Cond.static ({ cls := "SpongeDigestsLaw", name := "end", desc := "(LSpongeDigests;II[J)I" } : Jvm.MethodName)) ∈ W0 := W0_c tk_1 (i := 229) rfl rfl
theorem wd_230 : (Jvm.Cond.codeWith ({ cls := "SpongeDigestsLaw", name := "end", desc := "(LSpongeDigests;II[J)I" } : Jvm.MethodName) method_4_code (5 : Nat) (Option.some Jvm.ClassFile.FieldType.int) [((0 : Nat), (10 : Nat), (13 : Nat), (19 : Nat)), ((0 : Nat), (10 : Nat), (17 : Nat), (13 : Nat))]) ∈ W0 := W0_c tk_1 (i := 230) rfl rfl
theorem wd_231 : (Jvm.Cond.classLink "SpongeDigestsLaw" (19 : Nat) "java/lang/IllegalArgumentException") ∈ W0 := W0_c tk_1 (i := 231) rfl rfl
theorem wd_232 : (Jvm.Cond.methodLink "SpongeDigestsLaw" (15 : Nat) ({ cls := "SpongeDigests", name := "end", desc := "(II)I" } : Jvm.MethodName)) ∈ W0 := W0_c tk_1 (i := 232) rfl rfl
theorem wd_233 : (Jvm.Cond.instanceMethod ({ cls := "SpongeDigests", name := "end", desc := "(II)I" } : Jvm.MethodName)) ∈ W0 := W0_c tk_1 (i := 233) rfl rfl
theorem wd_234 : (Jvm.Cond.selects "SpongeDigests" ({ cls := "SpongeDigests", name := "end", desc := "(II)I" } : Jvm.MethodName) ({ cls := "SpongeDigests", name := "end", desc := "(II)I" } : Jvm.MethodName)) ∈ W0 := W0_c tk_1 (i := 234) rfl rfl
theorem wd_235 : (Jvm.Cond.code ({ cls := "SpongeDigests", name := "end", desc := "(II)I" } : Jvm.MethodName) prog_1_method_3_code (4 : Nat) (Option.some Jvm.ClassFile.FieldType.int)) ∈ W0 := W0_c tk_1 (i := 235) rfl rfl
theorem wd_236 : (Jvm.Cond.methodLink "SpongeDigests" (80 : Nat) ({ cls := "SpongeDigests", name := "slotAt", desc := "(I)LSpongeDigests$Bytes;" } : Jvm.MethodName)) ∈ W0 := W0_c tk_1 (i := 236) rfl rfl
theorem wd_238 : (Jvm.Cond.instanceMethod ({ cls := "SpongeDigests", name := "slotAt", desc := "(I)LSpongeDigests$Bytes;" } : Jvm.MethodName)) ∈ W0 := W0_c tk_1 (i := 238) rfl rfl
theorem wd_239 : (Jvm.Cond.code ({ cls := "SpongeDigests", name := "slotAt", desc := "(I)LSpongeDigests$Bytes;" } : Jvm.MethodName) prog_1_method_11_code (2 : Nat) (Option.some (Jvm.ClassFile.FieldType.object "SpongeDigests$Bytes"))) ∈ W0 := W0_c tk_1 (i := 239) rfl rfl
theorem wd_240 : (Jvm.Cond.methodLink "SpongeDigests" (84 : Nat) ({ cls := "SpongeDigests", name := "requireWithin", desc := "(III)V" } : Jvm.MethodName)) ∈ W0 := W0_c tk_2 (i := 0) rfl rfl
theorem wd_241 : (Jvm.Cond.static ({ cls := "SpongeDigests", name := "requireWithin", desc := "(III)V" } : Jvm.MethodName)) ∈ W0 := W0_c tk_2 (i := 1) rfl rfl
theorem wd_242 : (Jvm.Cond.code ({ cls := "SpongeDigests", name := "requireWithin", desc := "(III)V" } : Jvm.MethodName) prog_1_method_12_code (3 : Nat) (Option.none : Option Jvm.ClassFile.FieldType)) ∈ W0 := W0_c tk_2 (i := 2) rfl rfl
theorem wd_243 : (Jvm.Cond.classLink "SpongeDigests" (144 : Nat) "java/lang/IllegalArgumentException") ∈ W0 := W0_c tk_2 (i := 3) rfl rfl
theorem wd_253 : (Jvm.Cond.methodLink "SpongeDigests" (148 : Nat) ({ cls := "java/lang/IllegalArgumentException", name := "<init>", desc := "(Ljava/lang/String;)V" } : Jvm.MethodName)) ∈ W0 := W0_c tk_2 (i := 13) rfl rfl
theorem wd_262 : (Jvm.Cond.instanceMethod ({ cls := "SpongeDigests$Bytes", name := "take", desc := "(LSpongeDigests$Bytes;I)V" } : Jvm.MethodName)) ∈ W0 := W0_c tk_2 (i := 22) rfl rfl
theorem wd_263 : (Jvm.Cond.code ({ cls := "SpongeDigests$Bytes", name := "take", desc := "(LSpongeDigests$Bytes;I)V" } : Jvm.MethodName) prog_3_method_3_code (3 : Nat) (Option.none : Option Jvm.ClassFile.FieldType)) ∈ W0 := W0_c tk_2 (i := 23) rfl rfl
theorem wd_264 : (Jvm.Cond.methodLink "SpongeDigests$Bytes" (19 : Nat) ({ cls := "java/lang/System", name := "arraycopy", desc := "(Ljava/lang/Object;ILjava/lang/Object;II)V" } : Jvm.MethodName)) ∈ W0 := W0_c tk_2 (i := 24) rfl rfl
theorem wd_265 : (Jvm.Cond.static ({ cls := "java/lang/System", name := "arraycopy", desc := "(Ljava/lang/Object;ILjava/lang/Object;II)V" } : Jvm.MethodName)) ∈ W0 := W0_c tk_2 (i := 25) rfl rfl
theorem wd_266 : (Jvm.Cond.native ({ cls := "java/lang/System", name := "arraycopy", desc := "(Ljava/lang/Object;ILjava/lang/Object;II)V" } : Jvm.MethodName)) ∈ W0 := W0_c tk_2 (i := 26) rfl rfl
theorem wd_267 : (Jvm.Cond.methodLink "SpongeDigestsLaw" (64 : Nat) ({ cls := "SpongeDigestsLaw", name := "copy", desc := "(LSpongeDigests;II[J)I" } : Jvm.MethodName)) ∈ W0 := W0_c tk_2 (i := 27) rfl rfl
theorem wd_268 : (Jvm.Cond.static ({ cls := "SpongeDigestsLaw", name := "copy", desc := "(LSpongeDigests;II[J)I" } : Jvm.MethodName)) ∈ W0 := W0_c tk_2 (i := 28) rfl rfl
theorem wd_269 : (Jvm.Cond.codeWith ({ cls := "SpongeDigestsLaw", name := "copy", desc := "(LSpongeDigests;II[J)I" } : Jvm.MethodName) method_5_code (5 : Nat) (Option.some Jvm.ClassFile.FieldType.int) [((0 : Nat), (10 : Nat), (13 : Nat), (19 : Nat))]) ∈ W0 := W0_c tk_2 (i := 29) rfl rfl
theorem wd_270 : (Jvm.Cond.methodLink "SpongeDigestsLaw" (21 : Nat) ({ cls := "SpongeDigests", name := "copy", desc := "(II)I" } : Jvm.MethodName)) ∈ W0 := W0_c tk_2 (i := 30) rfl rfl
theorem wd_271 : (Jvm.Cond.instanceMethod ({ cls := "SpongeDigests", name := "copy", desc := "(II)I" } : Jvm.MethodName)) ∈ W0 := W0_c tk_2 (i := 31) rfl rfl
theorem wd_272 : (Jvm.Cond.selects "SpongeDigests" ({ cls := "SpongeDigests", name := "copy", desc := "(II)I" } : Jvm.MethodName) ({ cls := "SpongeDigests", name := "copy", desc := "(II)I" } : Jvm.MethodName)) ∈ W0 := W0_c tk_2 (i := 32) rfl rfl
theorem wd_273 : (Jvm.Cond.code ({ cls := "SpongeDigests", name := "copy", desc := "(II)I" } : Jvm.MethodName) prog_1_method_4_code (5 : Nat) (Option.some Jvm.ClassFile.FieldType.int)) ∈ W0 := W0_c tk_2 (i := 33) rfl rfl
theorem wd_274 : (Jvm.Cond.methodLink "SpongeDigestsLaw" (67 : Nat) ({ cls := "SpongeDigestsLaw", name := "resize", desc := "(LSpongeDigests;II[J)I" } : Jvm.MethodName)) ∈ W0 := W0_c tk_2 (i := 34) rfl rfl
theorem wd_275 : (Jvm.Cond.static ({ cls := "SpongeDigestsLaw", name := "resize", desc := "(LSpongeDigests;II[J)I" } : Jvm.MethodName)) ∈ W0 := W0_c tk_2 (i := 35) rfl rfl
theorem wd_276 : (Jvm.Cond.codeWith ({ cls := "SpongeDigestsLaw", name := "resize", desc := "(LSpongeDigests;II[J)I" } : Jvm.MethodName) method_6_code (5 : Nat) (Option.some Jvm.ClassFile.FieldType.int) [((0 : Nat), (10 : Nat), (13 : Nat), (19 : Nat))]) ∈ W0 := W0_c tk_2 (i := 36) rfl rfl
theorem wd_277 : (Jvm.Cond.methodLink "SpongeDigestsLaw" (24 : Nat) ({ cls := "SpongeDigests", name := "resize", desc := "(II)I" } : Jvm.MethodName)) ∈ W0 := W0_c tk_2 (i := 37) rfl rfl
theorem wd_278 : (Jvm.Cond.instanceMethod ({ cls := "SpongeDigests", name := "resize", desc := "(II)I" } : Jvm.MethodName)) ∈ W0 := W0_c tk_2 (i := 38) rfl rfl
theorem wd_279 : (Jvm.Cond.selects "SpongeDigests" ({ cls := "SpongeDigests", name := "resize", desc := "(II)I" } : Jvm.MethodName) ({ cls := "SpongeDigests", name := "resize", desc := "(II)I" } : Jvm.MethodName)) ∈ W0 := W0_c tk_2 (i := 39) rfl rfl
theorem wd_280 : (Jvm.Cond.code ({ cls := "SpongeDigests", name := "resize", desc := "(II)I" } : Jvm.MethodName) prog_1_method_5_code (5 : Nat) (Option.some Jvm.ClassFile.FieldType.int)) ∈ W0 := W0_c tk_2 (i := 40) rfl rfl
theorem wd_283 : (Jvm.Cond.instanceMethod ({ cls := "SpongeDigests$Bytes", name := "cutOrFill", desc := "(I)V" } : Jvm.MethodName)) ∈ W0 := W0_c tk_2 (i := 43) rfl rfl
theorem wd_284 : (Jvm.Cond.code ({ cls := "SpongeDigests$Bytes", name := "cutOrFill", desc := "(I)V" } : Jvm.MethodName) prog_3_method_4_code (2 : Nat) (Option.none : Option Jvm.ClassFile.FieldType)) ∈ W0 := W0_c tk_2 (i := 44) rfl rfl
theorem wd_285 : (Jvm.Cond.methodLink "SpongeDigests$Bytes" (25 : Nat) ({ cls := "java/util/Arrays", name := "fill", desc := "([BIIB)V" } : Jvm.MethodName)) ∈ W0 := W0_c tk_2 (i := 45) rfl rfl
theorem wd_286 : (Jvm.Cond.static ({ cls := "java/util/Arrays", name := "fill", desc := "([BIIB)V" } : Jvm.MethodName)) ∈ W0 := W0_c tk_2 (i := 46) rfl rfl
theorem wd_287 : (Jvm.Cond.code ({ cls := "java/util/Arrays", name := "fill", desc := "([BIIB)V" } : Jvm.MethodName) prog_22_method_110_code (5 : Nat) (Option.none : Option Jvm.ClassFile.FieldType)) ∈ W0 := W0_c tk_2 (i := 47) rfl rfl
theorem wd_288 : (Jvm.Cond.methodLink "java/util/Arrays" (13 : Nat) ({ cls := "java/util/Arrays", name := "rangeCheck", desc := "(III)V" } : Jvm.MethodName)) ∈ W0 := W0_c tk_2 (i := 48) rfl rfl
theorem wd_289 : (Jvm.Cond.static ({ cls := "java/util/Arrays", name := "rangeCheck", desc := "(III)V" } : Jvm.MethodName)) ∈ W0 := W0_c tk_2 (i := 49) rfl rfl
theorem wd_290 : (Jvm.Cond.code ({ cls := "java/util/Arrays", name := "rangeCheck", desc := "(III)V" } : Jvm.MethodName) prog_22_method_30_code (3 : Nat) (Option.none : Option Jvm.ClassFile.FieldType)) ∈ W0 := W0_c tk_2 (i := 50) rfl rfl
theorem wd_365 : (Jvm.Cond.static ({ cls := "java/lang/Math", name := "min", desc := "(II)I" } : Jvm.MethodName)) ∈ W0 := W0_c tk_2 (i := 125) rfl rfl
theorem wd_366 : (Jvm.Cond.code ({ cls := "java/lang/Math", name := "min", desc := "(II)I" } : Jvm.MethodName) prog_14_method_69_code (2 : Nat) (Option.some Jvm.ClassFile.FieldType.int)) ∈ W0 := W0_c tk_2 (i := 126) rfl rfl
theorem wd_550 : (Jvm.Cond.methodLink "SpongeDigestsLaw" (70 : Nat) ({ cls := "SpongeDigestsLaw", name := "alter", desc := "(LSpongeDigests;III[J)I" } : Jvm.MethodName)) ∈ W0 := W0_c tk_3 (i := 70) rfl rfl
theorem wd_551 : (Jvm.Cond.static ({ cls := "SpongeDigestsLaw", name := "alter", desc := "(LSpongeDigests;III[J)I" } : Jvm.MethodName)) ∈ W0 := W0_c tk_3 (i := 71) rfl rfl
theorem wd_552 : (Jvm.Cond.codeWith ({ cls := "SpongeDigestsLaw", name := "alter", desc := "(LSpongeDigests;III[J)I" } : Jvm.MethodName) method_7_code (6 : Nat) (Option.some Jvm.ClassFile.FieldType.int) [((0 : Nat), (12 : Nat), (15 : Nat), (19 : Nat)), ((0 : Nat), (12 : Nat), (19 : Nat), (13 : Nat))]) ∈ W0 := W0_c tk_3 (i := 72) rfl rfl
theorem wd_553 : (Jvm.Cond.methodLink "SpongeDigestsLaw" (27 : Nat) ({ cls := "SpongeDigests", name := "alter", desc := "(III)I" } : Jvm.MethodName)) ∈ W0 := W0_c tk_3 (i := 73) rfl rfl
theorem wd_554 : (Jvm.Cond.instanceMethod ({ cls := "SpongeDigests", name := "alter", desc := "(III)I" } : Jvm.MethodName)) ∈ W0 := W0_c tk_3 (i := 74) rfl rfl
theorem wd_555 : (Jvm.Cond.selects "SpongeDigests" ({ cls := "SpongeDigests", name := "alter", desc := "(III)I" } : Jvm.MethodName) ({ cls := "SpongeDigests", name := "alter", desc := "(III)I" } : Jvm.MethodName)) ∈ W0 := W0_c tk_3 (i := 75) rfl rfl
theorem wd_556 : (Jvm.Cond.code ({ cls := "SpongeDigests", name := "alter", desc := "(III)I" } : Jvm.MethodName) prog_1_method_6_code (5 : Nat) (Option.some Jvm.ClassFile.FieldType.int)) ∈ W0 := W0_c tk_3 (i := 76) rfl rfl
theorem wd_557 : (Jvm.Cond.methodLink "SpongeDigests" (97 : Nat) ({ cls := "SpongeDigests", name := "requirePlace", desc := "(LSpongeDigests$Bytes;I)V" } : Jvm.MethodName)) ∈ W0 := W0_c tk_3 (i := 77) rfl rfl
theorem wd_558 : (Jvm.Cond.static ({ cls := "SpongeDigests", name := "requirePlace", desc := "(LSpongeDigests$Bytes;I)V" } : Jvm.MethodName)) ∈ W0 := W0_c tk_3 (i := 78) rfl rfl
theorem wd_559 : (Jvm.Cond.code ({ cls := "SpongeDigests", name := "requirePlace", desc := "(LSpongeDigests$Bytes;I)V" } : Jvm.MethodName) prog_1_method_13_code (2 : Nat) (Option.none : Option Jvm.ClassFile.FieldType)) ∈ W0 := W0_c tk_3 (i := 79) rfl rfl
theorem wd_561 : (Jvm.Cond.methodLink "SpongeDigestsLaw" (74 : Nat) ({ cls := "SpongeDigestsLaw", name := "length", desc := "(LSpongeDigests;I[J)I" } : Jvm.MethodName)) ∈ W0 := W0_c tk_3 (i := 81) rfl rfl
theorem wd_562 : (Jvm.Cond.static ({ cls := "SpongeDigestsLaw", name := "length", desc := "(LSpongeDigests;I[J)I" } : Jvm.MethodName)) ∈ W0 := W0_c tk_3 (i := 82) rfl rfl
theorem wd_563 : (Jvm.Cond.codeWith ({ cls := "SpongeDigestsLaw", name := "length", desc := "(LSpongeDigests;I[J)I" } : Jvm.MethodName) method_8_code (4 : Nat) (Option.some Jvm.ClassFile.FieldType.int) [((0 : Nat), (9 : Nat), (12 : Nat), (19 : Nat))]) ∈ W0 := W0_c tk_3 (i := 83) rfl rfl
theorem wd_564 : (Jvm.Cond.methodLink "SpongeDigestsLaw" (31 : Nat) ({ cls := "SpongeDigests", name := "length", desc := "(I)I" } : Jvm.MethodName)) ∈ W0 := W0_c tk_3 (i := 84) rfl rfl
theorem wd_565 : (Jvm.Cond.instanceMethod ({ cls := "SpongeDigests", name := "length", desc := "(I)I" } : Jvm.MethodName)) ∈ W0 := W0_c tk_3 (i := 85) rfl rfl
theorem wd_566 : (Jvm.Cond.selects "SpongeDigests" ({ cls := "SpongeDigests", name := "length", desc := "(I)I" } : Jvm.MethodName) ({ cls := "SpongeDigests", name := "length", desc := "(I)I" } : Jvm.MethodName)) ∈ W0 := W0_c tk_3 (i := 86) rfl rfl
theorem wd_567 : (Jvm.Cond.code ({ cls := "SpongeDigests", name := "length", desc := "(I)I" } : Jvm.MethodName) prog_1_method_7_code (2 : Nat) (Option.some Jvm.ClassFile.FieldType.int)) ∈ W0 := W0_c tk_3 (i := 87) rfl rfl
theorem wd_568 : (Jvm.Cond.methodLink "SpongeDigestsLaw" (78 : Nat) ({ cls := "SpongeDigestsLaw", name := "word", desc := "(LSpongeDigests;II[J)I" } : Jvm.MethodName)) ∈ W0 := W0_c tk_3 (i := 88) rfl rfl
theorem wd_569 : (Jvm.Cond.static ({ cls := "SpongeDigestsLaw", name := "word", desc := "(LSpongeDigests;II[J)I" } : Jvm.MethodName)) ∈ W0 := W0_c tk_3 (i := 89) rfl rfl
theorem wd_570 : (Jvm.Cond.codeWith ({ cls := "SpongeDigestsLaw", name := "word", desc := "(LSpongeDigests;II[J)I" } : Jvm.MethodName) method_9_code (5 : Nat) (Option.some Jvm.ClassFile.FieldType.int) [((0 : Nat), (9 : Nat), (12 : Nat), (19 : Nat)), ((0 : Nat), (9 : Nat), (16 : Nat), (13 : Nat))]) ∈ W0 := W0_c tk_3 (i := 90) rfl rfl
theorem wd_571 : (Jvm.Cond.methodLink "SpongeDigestsLaw" (35 : Nat) ({ cls := "SpongeDigests", name := "word", desc := "(II)J" } : Jvm.MethodName)) ∈ W0 := W0_c tk_3 (i := 91) rfl rfl
theorem wd_572 : (Jvm.Cond.instanceMethod ({ cls := "SpongeDigests", name := "word", desc := "(II)J" } : Jvm.MethodName)) ∈ W0 := W0_c tk_3 (i := 92) rfl rfl
theorem wd_573 : (Jvm.Cond.selects "SpongeDigests" ({ cls := "SpongeDigests", name := "word", desc := "(II)J" } : Jvm.MethodName) ({ cls := "SpongeDigests", name := "word", desc := "(II)J" } : Jvm.MethodName)) ∈ W0 := W0_c tk_3 (i := 93) rfl rfl
theorem wd_574 : (Jvm.Cond.code ({ cls := "SpongeDigests", name := "word", desc := "(II)J" } : Jvm.MethodName) prog_1_method_8_code (4 : Nat) (Option.some Jvm.ClassFile.FieldType.long)) ∈ W0 := W0_c tk_3 (i := 94) rfl rfl
theorem wd_577 : (Jvm.Cond.instanceMethod ({ cls := "SpongeDigests$Bytes", name := "eightFrom", desc := "(I)J" } : Jvm.MethodName)) ∈ W0 := W0_c tk_3 (i := 97) rfl rfl
theorem wd_578 : (Jvm.Cond.code ({ cls := "SpongeDigests$Bytes", name := "eightFrom", desc := "(I)J" } : Jvm.MethodName) prog_3_method_5_code (6 : Nat) (Option.some Jvm.ClassFile.FieldType.long)) ∈ W0 := W0_c tk_3 (i := 98) rfl rfl
theorem wd_579 : (Jvm.Cond.methodLink "SpongeDigestsLaw" (81 : Nat) ({ cls := "SpongeDigestsLaw", name := "same", desc := "(LSpongeDigests;II[J)I" } : Jvm.MethodName)) ∈ W0 := W0_c tk_3 (i := 99) rfl rfl
theorem wd_580 : (Jvm.Cond.static ({ cls := "SpongeDigestsLaw", name := "same", desc := "(LSpongeDigests;II[J)I" } : Jvm.MethodName)) ∈ W0 := W0_c tk_3 (i := 100) rfl rfl
theorem wd_581 : (Jvm.Cond.codeWith ({ cls := "SpongeDigestsLaw", name := "same", desc := "(LSpongeDigests;II[J)I" } : Jvm.MethodName) method_10_code (5 : Nat) (Option.some Jvm.ClassFile.FieldType.int) [((0 : Nat), (17 : Nat), (20 : Nat), (19 : Nat))]) ∈ W0 := W0_c tk_3 (i := 101) rfl rfl
theorem wd_582 : (Jvm.Cond.methodLink "SpongeDigestsLaw" (39 : Nat) ({ cls := "SpongeDigests", name := "same", desc := "(II)Z" } : Jvm.MethodName)) ∈ W0 := W0_c tk_3 (i := 102) rfl rfl
theorem wd_583 : (Jvm.Cond.instanceMethod ({ cls := "SpongeDigests", name := "same", desc := "(II)Z" } : Jvm.MethodName)) ∈ W0 := W0_c tk_3 (i := 103) rfl rfl
theorem wd_584 : (Jvm.Cond.selects "SpongeDigests" ({ cls := "SpongeDigests", name := "same", desc := "(II)Z" } : Jvm.MethodName) ({ cls := "SpongeDigests", name := "same", desc := "(II)Z" } : Jvm.MethodName)) ∈ W0 := W0_c tk_3 (i := 104) rfl rfl
theorem wd_585 : (Jvm.Cond.code ({ cls := "SpongeDigests", name := "same", desc := "(II)Z" } : Jvm.MethodName) prog_1_method_9_code (3 : Nat) (Option.some Jvm.ClassFile.FieldType.boolean)) ∈ W0 := W0_c tk_3 (i := 105) rfl rfl
theorem wd_588 : (Jvm.Cond.instanceMethod ({ cls := "SpongeDigests$Bytes", name := "matches", desc := "(LSpongeDigests$Bytes;)Z" } : Jvm.MethodName)) ∈ W0 := W0_c tk_3 (i := 108) rfl rfl
theorem wd_589 : (Jvm.Cond.code ({ cls := "SpongeDigests$Bytes", name := "matches", desc := "(LSpongeDigests$Bytes;)Z" } : Jvm.MethodName) prog_3_method_6_code (3 : Nat) (Option.some Jvm.ClassFile.FieldType.boolean)) ∈ W0 := W0_c tk_3 (i := 109) rfl rfl
theorem wd_590 : (Jvm.Cond.methodLink "SpongeDigestsLaw" (84 : Nat) ({ cls := "SpongeDigestsLaw", name := "digest", desc := "(LSpongeDigests;II[J)I" } : Jvm.MethodName)) ∈ W0 := W0_c tk_3 (i := 110) rfl rfl
theorem wd_591 : (Jvm.Cond.static ({ cls := "SpongeDigestsLaw", name := "digest", desc := "(LSpongeDigests;II[J)I" } : Jvm.MethodName)) ∈ W0 := W0_c tk_3 (i := 111) rfl rfl
theorem wd_592 : (Jvm.Cond.codeWith ({ cls := "SpongeDigestsLaw", name := "digest", desc := "(LSpongeDigests;II[J)I" } : Jvm.MethodName) method_11_code (5 : Nat) (Option.some Jvm.ClassFile.FieldType.int) [((0 : Nat), (10 : Nat), (13 : Nat), (19 : Nat))]) ∈ W0 := W0_c tk_3 (i := 112) rfl rfl
theorem wd_593 : (Jvm.Cond.methodLink "SpongeDigestsLaw" (43 : Nat) ({ cls := "SpongeDigests", name := "digest", desc := "(II)I" } : Jvm.MethodName)) ∈ W0 := W0_c tk_3 (i := 113) rfl rfl
theorem wd_594 : (Jvm.Cond.instanceMethod ({ cls := "SpongeDigests", name := "digest", desc := "(II)I" } : Jvm.MethodName)) ∈ W0 := W0_c tk_3 (i := 114) rfl rfl
theorem wd_595 : (Jvm.Cond.selects "SpongeDigests" ({ cls := "SpongeDigests", name := "digest", desc := "(II)I" } : Jvm.MethodName) ({ cls := "SpongeDigests", name := "digest", desc := "(II)I" } : Jvm.MethodName)) ∈ W0 := W0_c tk_3 (i := 115) rfl rfl
theorem wd_596 : (Jvm.Cond.code ({ cls := "SpongeDigests", name := "digest", desc := "(II)I" } : Jvm.MethodName) prog_1_method_10_code (3 : Nat) (Option.some Jvm.ClassFile.FieldType.int)) ∈ W0 := W0_c tk_3 (i := 116) rfl rfl
theorem wd_597 : (Jvm.Cond.fieldLink "SpongeDigests" (111 : Nat) "SpongeDigests" "START_256" "[J") ∈ W0 := W0_c tk_3 (i := 117) rfl rfl
theorem wd_599 : (Jvm.Cond.methodLink "SpongeDigests" (115 : Nat) ({ cls := "SpongeDigests", name := "hashInBlocks", desc := "(LSpongeDigests$BlockHash;[JI)V" } : Jvm.MethodName)) ∈ W0 := W0_c tk_3 (i := 119) rfl rfl
theorem wd_601 : (Jvm.Cond.instanceMethod ({ cls := "SpongeDigests", name := "hashInBlocks", desc := "(LSpongeDigests$BlockHash;[JI)V" } : Jvm.MethodName)) ∈ W0 := W0_c tk_3 (i := 121) rfl rfl
theorem wd_602 : (Jvm.Cond.code ({ cls := "SpongeDigests", name := "hashInBlocks", desc := "(LSpongeDigests$BlockHash;[JI)V" } : Jvm.MethodName) prog_1_method_14_code (5 : Nat) (Option.none : Option Jvm.ClassFile.FieldType)) ∈ W0 := W0_c tk_3 (i := 122) rfl rfl
theorem wd_605 : (Jvm.Cond.instanceMethod ({ cls := "SpongeDigests$BlockHash", name := "begin", desc := "([J)V" } : Jvm.MethodName)) ∈ W0 := W0_c tk_3 (i := 125) rfl rfl
theorem wd_606 : (Jvm.Cond.code ({ cls := "SpongeDigests$BlockHash", name := "begin", desc := "([J)V" } : Jvm.MethodName) prog_2_method_2_code (2 : Nat) (Option.none : Option Jvm.ClassFile.FieldType)) ∈ W0 := W0_c tk_3 (i := 126) rfl rfl
theorem wd_607 : (Jvm.Cond.methodLink "SpongeDigests$BlockHash" (51 : Nat) ({ cls := "java/lang/System", name := "arraycopy", desc := "(Ljava/lang/Object;ILjava/lang/Object;II)V" } : Jvm.MethodName)) ∈ W0 := W0_c tk_3 (i := 127) rfl rfl
theorem wd_610 : (Jvm.Cond.instanceMethod ({ cls := "SpongeDigests$BlockHash", name := "absorb", desc := "([BII)V" } : Jvm.MethodName)) ∈ W0 := W0_c tk_3 (i := 130) rfl rfl
theorem wd_611 : (Jvm.Cond.code ({ cls := "SpongeDigests$BlockHash", name := "absorb", desc := "([BII)V" } : Jvm.MethodName) prog_2_method_3_code (5 : Nat) (Option.none : Option Jvm.ClassFile.FieldType)) ∈ W0 := W0_c tk_3 (i := 131) rfl rfl
theorem wd_612 : (Jvm.Cond.methodLink "SpongeDigests$BlockHash" (63 : Nat) ({ cls := "SpongeDigests$BlockHash", name := "compress", desc := "()V" } : Jvm.MethodName)) ∈ W0 := W0_c tk_3 (i := 132) rfl rfl
theorem wd_614 : (Jvm.Cond.instanceMethod ({ cls := "SpongeDigests$BlockHash", name := "compress", desc := "()V" } : Jvm.MethodName)) ∈ W0 := W0_c tk_3 (i := 134) rfl rfl
theorem wd_615 : (Jvm.Cond.code ({ cls := "SpongeDigests$BlockHash", name := "compress", desc := "()V" } : Jvm.MethodName) prog_2_method_8_code (24 : Nat) (Option.none : Option Jvm.ClassFile.FieldType)) ∈ W0 := W0_c tk_3 (i := 135) rfl rfl
theorem wd_616 : (Jvm.Cond.methodLink "SpongeDigests$BlockHash" (81 : Nat) ({ cls := "SpongeDigests$BlockHash", name := "fillSchedule", desc := "()V" } : Jvm.MethodName)) ∈ W0 := W0_c tk_3 (i := 136) rfl rfl
theorem wd_618 : (Jvm.Cond.instanceMethod ({ cls := "SpongeDigests$BlockHash", name := "fillSchedule", desc := "()V" } : Jvm.MethodName)) ∈ W0 := W0_c tk_3 (i := 138) rfl rfl
theorem wd_619 : (Jvm.Cond.code ({ cls := "SpongeDigests$BlockHash", name := "fillSchedule", desc := "()V" } : Jvm.MethodName) prog_2_method_10_code (6 : Nat) (Option.none : Option Jvm.ClassFile.FieldType)) ∈ W0 := W0_c tk_3 (i := 139) rfl rfl
theorem wd_620 : (Jvm.Cond.methodLink "SpongeDigests$BlockHash" (95 : Nat) ({ cls := "SpongeDigests$BlockHash", name := "twoTurnsAndShift", desc := "(JI)J" } : Jvm.MethodName)) ∈ W0 := W0_c tk_3 (i := 140) rfl rfl
theorem wd_622 : (Jvm.Cond.instanceMethod ({ cls := "SpongeDigests$BlockHash", name := "twoTurnsAndShift", desc := "(JI)J" } : Jvm.MethodName)) ∈ W0 := W0_c tk_3 (i := 142) rfl rfl
theorem wd_623 : (Jvm.Cond.code ({ cls := "SpongeDigests$BlockHash", name := "twoTurnsAndShift", desc := "(JI)J" } : Jvm.MethodName) prog_2_method_12_code (4 : Nat) (Option.some Jvm.ClassFile.FieldType.long)) ∈ W0 := W0_c tk_3 (i := 143) rfl rfl
theorem wd_624 : (Jvm.Cond.methodLink "SpongeDigests$BlockHash" (98 : Nat) ({ cls := "SpongeDigests$BlockHash", name := "rotr", desc := "(JI)J" } : Jvm.MethodName)) ∈ W0 := W0_c tk_3 (i := 144) rfl rfl
theorem wd_626 : (Jvm.Cond.instanceMethod ({ cls := "SpongeDigests$BlockHash", name := "rotr", desc := "(JI)J" } : Jvm.MethodName)) ∈ W0 := W0_c tk_3 (i := 146) rfl rfl
theorem wd_627 : (Jvm.Cond.code ({ cls := "SpongeDigests$BlockHash", name := "rotr", desc := "(JI)J" } : Jvm.MethodName) prog_2_method_13_code (4 : Nat) (Option.some Jvm.ClassFile.FieldType.long)) ∈ W0 := W0_c tk_3 (i := 147) rfl rfl
theorem wd_630 : (Jvm.Cond.methodLink "SpongeDigests$BlockHash" (87 : Nat) ({ cls := "SpongeDigests$BlockHash", name := "threeTurns", desc := "(JI)J" } : Jvm.MethodName)) ∈ W0 := W0_c tk_3 (i := 150) rfl rfl
theorem wd_632 : (Jvm.Cond.instanceMethod ({ cls := "SpongeDigests$BlockHash", name := "threeTurns", desc := "(JI)J" } : Jvm.MethodName)) ∈ W0 := W0_c tk_3 (i := 152) rfl rfl
theorem wd_633 : (Jvm.Cond.code ({ cls := "SpongeDigests$BlockHash", name := "threeTurns", desc := "(JI)J" } : Jvm.MethodName) prog_2_method_11_code (4 : Nat) (Option.some Jvm.ClassFile.FieldType.long)) ∈ W0 := W0_c tk_3 (i := 153) rfl rfl
theorem wd_634 : (Jvm.Cond.methodLink "SpongeDigests$BlockHash" (91 : Nat) ({ cls := "SpongeDigests$BlockHash", name := "addToState", desc := "(IJJJJ)V" } : Jvm.MethodName)) ∈ W0 := W0_c tk_3 (i := 154) rfl rfl
theorem wd_636 : (Jvm.Cond.instanceMethod ({ cls := "SpongeDigests$BlockHash", name := "addToState", desc := "(IJJJJ)V" } : Jvm.MethodName)) ∈ W0 := W0_c tk_3 (i := 156) rfl rfl
theorem wd_637 : (Jvm.Cond.code ({ cls := "SpongeDigests$BlockHash", name := "addToState", desc := "(IJJJJ)V" } : Jvm.MethodName) prog_2_method_9_code (10 : Nat) (Option.none : Option Jvm.ClassFile.FieldType)) ∈ W0 := W0_c tk_3 (i := 157) rfl rfl
theorem wd_640 : (Jvm.Cond.instanceMethod ({ cls := "SpongeDigests$BlockHash", name := "finish", desc := "([BII)V" } : Jvm.MethodName)) ∈ W0 := W0_c tk_3 (i := 160) rfl rfl
theorem wd_641 : (Jvm.Cond.code ({ cls := "SpongeDigests$BlockHash", name := "finish", desc := "([BII)V" } : Jvm.MethodName) prog_2_method_6_code (7 : Nat) (Option.none : Option Jvm.ClassFile.FieldType)) ∈ W0 := W0_c tk_3 (i := 161) rfl rfl
theorem wd_642 : (Jvm.Cond.methodLink "SpongeDigests$BlockHash" (69 : Nat) ({ cls := "java/util/Arrays", name := "fill", desc := "([BIIB)V" } : Jvm.MethodName)) ∈ W0 := W0_c tk_3 (i := 162) rfl rfl
theorem wd_643 : (Jvm.Cond.constantLong "SpongeDigests$BlockHash" (75 : Nat) (8 : Int64)) ∈ W0 := W0_c tk_3 (i := 163) rfl rfl
theorem wd_644 : (Jvm.Cond.methodLink "SpongeDigests$BlockHash" (77 : Nat) ({ cls := "SpongeDigests$BlockHash", name := "writeState", desc := "([BII)V" } : Jvm.MethodName)) ∈ W0 := W0_c tk_3 (i := 164) rfl rfl
theorem wd_646 : (Jvm.Cond.instanceMethod ({ cls := "SpongeDigests$BlockHash", name := "writeState", desc := "([BII)V" } : Jvm.MethodName)) ∈ W0 := W0_c tk_3 (i := 166) rfl rfl
theorem wd_647 : (Jvm.Cond.code ({ cls := "SpongeDigests$BlockHash", name := "writeState", desc := "([BII)V" } : Jvm.MethodName) prog_2_method_7_code (7 : Nat) (Option.none : Option Jvm.ClassFile.FieldType)) ∈ W0 := W0_c tk_3 (i := 167) rfl rfl
theorem wd_648 : (Jvm.Cond.fieldLink "SpongeDigests" (119 : Nat) "SpongeDigests" "START_384" "[J") ∈ W0 := W0_c tk_3 (i := 168) rfl rfl
theorem wd_650 : (Jvm.Cond.fieldLink "SpongeDigests" (122 : Nat) "SpongeDigests" "START_512" "[J") ∈ W0 := W0_c tk_3 (i := 170) rfl rfl
theorem wd_652 : (Jvm.Cond.fieldLink "SpongeDigests" (125 : Nat) "SpongeDigests" "START_224" "[J") ∈ W0 := W0_c tk_3 (i := 172) rfl rfl
theorem wd_654 : (Jvm.Cond.fieldLink "SpongeDigests" (128 : Nat) "SpongeDigests" "START_512_224" "[J") ∈ W0 := W0_c tk_3 (i := 174) rfl rfl
theorem wd_656 : (Jvm.Cond.fieldLink "SpongeDigests" (131 : Nat) "SpongeDigests" "START_512_256" "[J") ∈ W0 := W0_c tk_3 (i := 176) rfl rfl
theorem wd_658 : (Jvm.Cond.methodLink "SpongeDigests" (134 : Nat) ({ cls := "SpongeDigests", name := "hashInSponge", desc := "(III)V" } : Jvm.MethodName)) ∈ W0 := W0_c tk_3 (i := 178) rfl rfl
theorem wd_660 : (Jvm.Cond.instanceMethod ({ cls := "SpongeDigests", name := "hashInSponge", desc := "(III)V" } : Jvm.MethodName)) ∈ W0 := W0_c tk_3 (i := 180) rfl rfl
theorem wd_661 : (Jvm.Cond.code ({ cls := "SpongeDigests", name := "hashInSponge", desc := "(III)V" } : Jvm.MethodName) prog_1_method_15_code (5 : Nat) (Option.none : Option Jvm.ClassFile.FieldType)) ∈ W0 := W0_c tk_3 (i := 181) rfl rfl
theorem wd_664 : (Jvm.Cond.instanceMethod ({ cls := "SpongeDigests$Sponge", name := "absorb", desc := "(II[BI)V" } : Jvm.MethodName)) ∈ W0 := W0_c tk_3 (i := 184) rfl rfl
theorem wd_665 : (Jvm.Cond.code ({ cls := "SpongeDigests$Sponge", name := "absorb", desc := "(II[BI)V" } : Jvm.MethodName) prog_4_method_2_code (7 : Nat) (Option.none : Option Jvm.ClassFile.FieldType)) ∈ W0 := W0_c tk_3 (i := 185) rfl rfl
theorem wd_666 : (Jvm.Cond.methodLink "SpongeDigests$Sponge" (21 : Nat) ({ cls := "java/util/Arrays", name := "fill", desc := "([JJ)V" } : Jvm.MethodName)) ∈ W0 := W0_c tk_3 (i := 186) rfl rfl
theorem wd_667 : (Jvm.Cond.static ({ cls := "java/util/Arrays", name := "fill", desc := "([JJ)V" } : Jvm.MethodName)) ∈ W0 := W0_c tk_3 (i := 187) rfl rfl
theorem wd_668 : (Jvm.Cond.code ({ cls := "java/util/Arrays", name := "fill", desc := "([JJ)V" } : Jvm.MethodName) prog_22_method_101_code (5 : Nat) (Option.none : Option Jvm.ClassFile.FieldType)) ∈ W0 := W0_c tk_3 (i := 188) rfl rfl
theorem wd_669 : (Jvm.Cond.methodLink "SpongeDigests$Sponge" (27 : Nat) ({ cls := "SpongeDigests$Sponge", name := "mixIn", desc := "(II)V" } : Jvm.MethodName)) ∈ W0 := W0_c tk_3 (i := 189) rfl rfl
theorem wd_671 : (Jvm.Cond.instanceMethod ({ cls := "SpongeDigests$Sponge", name := "mixIn", desc := "(II)V" } : Jvm.MethodName)) ∈ W0 := W0_c tk_3 (i := 191) rfl rfl
theorem wd_672 : (Jvm.Cond.code ({ cls := "SpongeDigests$Sponge", name := "mixIn", desc := "(II)V" } : Jvm.MethodName) prog_4_method_4_code (3 : Nat) (Option.none : Option Jvm.ClassFile.FieldType)) ∈ W0 := W0_c tk_3 (i := 192) rfl rfl
theorem wd_673 : (Jvm.Cond.methodLink "SpongeDigests$Sponge" (31 : Nat) ({ cls := "SpongeDigests$Sponge", name := "permute", desc := "()V" } : Jvm.MethodName)) ∈ W0 := W0_c tk_3 (i := 193) rfl rfl
theorem wd_675 : (Jvm.Cond.instanceMethod ({ cls := "SpongeDigests$Sponge", name := "permute", desc := "()V" } : Jvm.MethodName)) ∈ W0 := W0_c tk_3 (i := 195) rfl rfl
theorem wd_676 : (Jvm.Cond.code ({ cls := "SpongeDigests$Sponge", name := "permute", desc := "()V" } : Jvm.MethodName) prog_4_method_5_code (2 : Nat) (Option.none : Option Jvm.ClassFile.FieldType)) ∈ W0 := W0_c tk_3 (i := 196) rfl rfl
theorem wd_677 : (Jvm.Cond.methodLink "SpongeDigests$Sponge" (34 : Nat) ({ cls := "SpongeDigests$Sponge", name := "mixColumns", desc := "()V" } : Jvm.MethodName)) ∈ W0 := W0_c tk_3 (i := 197) rfl rfl
theorem wd_679 : (Jvm.Cond.instanceMethod ({ cls := "SpongeDigests$Sponge", name := "mixColumns", desc := "()V" } : Jvm.MethodName)) ∈ W0 := W0_c tk_3 (i := 199) rfl rfl
theorem wd_680 : (Jvm.Cond.code ({ cls := "SpongeDigests$Sponge", name := "mixColumns", desc := "()V" } : Jvm.MethodName) prog_4_method_6_code (5 : Nat) (Option.none : Option Jvm.ClassFile.FieldType)) ∈ W0 := W0_c tk_3 (i := 200) rfl rfl
theorem wd_681 : (Jvm.Cond.methodLink "SpongeDigests$Sponge" (46 : Nat) ({ cls := "SpongeDigests$Sponge", name := "rotl", desc := "(JI)J" } : Jvm.MethodName)) ∈ W0 := W0_c tk_3 (i := 201) rfl rfl
theorem wd_682 : (Jvm.Cond.static ({ cls := "SpongeDigests$Sponge", name := "rotl", desc := "(JI)J" } : Jvm.MethodName)) ∈ W0 := W0_c tk_3 (i := 202) rfl rfl
theorem wd_683 : (Jvm.Cond.code ({ cls := "SpongeDigests$Sponge", name := "rotl", desc := "(JI)J" } : Jvm.MethodName) prog_4_method_9_code (3 : Nat) (Option.some Jvm.ClassFile.FieldType.long)) ∈ W0 := W0_c tk_3 (i := 203) rfl rfl
theorem wd_684 : (Jvm.Cond.methodLink "SpongeDigests$Sponge" (37 : Nat) ({ cls := "SpongeDigests$Sponge", name := "turnAndMove", desc := "()V" } : Jvm.MethodName)) ∈ W0 := W0_c tk_3 (i := 204) rfl rfl
theorem wd_686 : (Jvm.Cond.instanceMethod ({ cls := "SpongeDigests$Sponge", name := "turnAndMove", desc := "()V" } : Jvm.MethodName)) ∈ W0 := W0_c tk_3 (i := 206) rfl rfl
theorem wd_687 : (Jvm.Cond.code ({ cls := "SpongeDigests$Sponge", name := "turnAndMove", desc := "()V" } : Jvm.MethodName) prog_4_method_7_code (2 : Nat) (Option.none : Option Jvm.ClassFile.FieldType)) ∈ W0 := W0_c tk_3 (i := 207) rfl rfl
theorem wd_692 : (Jvm.Cond.methodLink "SpongeDigests$Sponge" (40 : Nat) ({ cls := "SpongeDigests$Sponge", name := "mixRows", desc := "()V" } : Jvm.MethodName)) ∈ W0 := W0_c tk_3 (i := 212) rfl rfl
theorem wd_694 : (Jvm.Cond.instanceMethod ({ cls := "SpongeDigests$Sponge", name := "mixRows", desc := "()V" } : Jvm.MethodName)) ∈ W0 := W0_c tk_3 (i := 214) rfl rfl
theorem wd_695 : (Jvm.Cond.code ({ cls := "SpongeDigests$Sponge", name := "mixRows", desc := "()V" } : Jvm.MethodName) prog_4_method_8_code (3 : Nat) (Option.none : Option Jvm.ClassFile.FieldType)) ∈ W0 := W0_c tk_3 (i := 215) rfl rfl
theorem wd_696 : (Jvm.Cond.constantLong "SpongeDigests$Sponge" (57 : Nat) (-1 : Int64)) ∈ W0 := W0_c tk_3 (i := 216) rfl rfl
theorem wd_701 : (Jvm.Cond.instanceMethod ({ cls := "SpongeDigests$Sponge", name := "squeeze", desc := "(I[BI)V" } : Jvm.MethodName)) ∈ W0 := W0_c tk_3 (i := 221) rfl rfl
theorem wd_702 : (Jvm.Cond.code ({ cls := "SpongeDigests$Sponge", name := "squeeze", desc := "(I[BI)V" } : Jvm.MethodName) prog_4_method_3_code (6 : Nat) (Option.none : Option Jvm.ClassFile.FieldType)) ∈ W0 := W0_c tk_3 (i := 222) rfl rfl
theorem wd_703 : (Jvm.Cond.methodLink "SpongeDigests" (137 : Nat) ({ cls := "SpongeDigests", name := "hashWithKey", desc := "(LSpongeDigests$BlockHash;[J)V" } : Jvm.MethodName)) ∈ W0 := W0_c tk_3 (i := 223) rfl rfl
theorem wd_705 : (Jvm.Cond.instanceMethod ({ cls := "SpongeDigests", name := "hashWithKey", desc := "(LSpongeDigests$BlockHash;[J)V" } : Jvm.MethodName)) ∈ W0 := W0_c tk_3 (i := 225) rfl rfl
theorem wd_706 : (Jvm.Cond.code ({ cls := "SpongeDigests", name := "hashWithKey", desc := "(LSpongeDigests$BlockHash;[J)V" } : Jvm.MethodName) prog_1_method_16_code (5 : Nat) (Option.none : Option Jvm.ClassFile.FieldType)) ∈ W0 := W0_c tk_3 (i := 226) rfl rfl
theorem wd_707 : (Jvm.Cond.methodLink "SpongeDigests" (169 : Nat) ({ cls := "SpongeDigests", name := "setKey", desc := "(LSpongeDigests$BlockHash;[J)V" } : Jvm.MethodName)) ∈ W0 := W0_c tk_3 (i := 227) rfl rfl
theorem wd_709 : (Jvm.Cond.instanceMethod ({ cls := "SpongeDigests", name := "setKey", desc := "(LSpongeDigests$BlockHash;[J)V" } : Jvm.MethodName)) ∈ W0 := W0_c tk_3 (i := 229) rfl rfl
theorem wd_710 : (Jvm.Cond.code ({ cls := "SpongeDigests", name := "setKey", desc := "(LSpongeDigests$BlockHash;[J)V" } : Jvm.MethodName) prog_1_method_17_code (4 : Nat) (Option.none : Option Jvm.ClassFile.FieldType)) ∈ W0 := W0_c tk_3 (i := 230) rfl rfl
theorem wd_711 : (Jvm.Cond.methodLink "SpongeDigests" (175 : Nat) ({ cls := "java/util/Arrays", name := "fill", desc := "([BB)V" } : Jvm.MethodName)) ∈ W0 := W0_c tk_3 (i := 231) rfl rfl
theorem wd_712 : (Jvm.Cond.static ({ cls := "java/util/Arrays", name := "fill", desc := "([BB)V" } : Jvm.MethodName)) ∈ W0 := W0_c tk_3 (i := 232) rfl rfl
theorem wd_713 : (Jvm.Cond.code ({ cls := "java/util/Arrays", name := "fill", desc := "([BB)V" } : Jvm.MethodName) prog_22_method_109_code (4 : Nat) (Option.none : Option Jvm.ClassFile.FieldType)) ∈ W0 := W0_c tk_3 (i := 233) rfl rfl
theorem wd_714 : (Jvm.Cond.methodLink "SpongeDigests" (181 : Nat) ({ cls := "java/lang/System", name := "arraycopy", desc := "(Ljava/lang/Object;ILjava/lang/Object;II)V" } : Jvm.MethodName)) ∈ W0 := W0_c tk_3 (i := 234) rfl rfl
theorem wd_715 : (Jvm.Cond.methodLink "SpongeDigests" (172 : Nat) ({ cls := "SpongeDigests", name := "beginWithKey", desc := "(LSpongeDigests$BlockHash;[JI)V" } : Jvm.MethodName)) ∈ W0 := W0_c tk_3 (i := 235) rfl rfl
theorem wd_717 : (Jvm.Cond.instanceMethod ({ cls := "SpongeDigests", name := "beginWithKey", desc := "(LSpongeDigests$BlockHash;[JI)V" } : Jvm.MethodName)) ∈ W0 := W0_c tk_3 (i := 237) rfl rfl
theorem wd_718 : (Jvm.Cond.code ({ cls := "SpongeDigests", name := "beginWithKey", desc := "(LSpongeDigests$BlockHash;[JI)V" } : Jvm.MethodName) prog_1_method_18_code (5 : Nat) (Option.none : Option Jvm.ClassFile.FieldType)) ∈ W0 := W0_c tk_3 (i := 238) rfl rfl
theorem wd_719 : (Jvm.Cond.methodLink "SpongeDigests" (141 : Nat) ({ cls := "SpongeDigests", name := "hashWithCounter", desc := "(LSpongeDigests$BlockHash;[JI)V" } : Jvm.MethodName)) ∈ W0 := W0_c tk_3 (i := 239) rfl rfl
theorem wd_721 : (Jvm.Cond.instanceMethod ({ cls := "SpongeDigests", name := "hashWithCounter", desc := "(LSpongeDigests$BlockHash;[JI)V" } : Jvm.MethodName)) ∈ W0 := W0_c tk_4 (i := 1) rfl rfl
theorem wd_722 : (Jvm.Cond.code ({ cls := "SpongeDigests", name := "hashWithCounter", desc := "(LSpongeDigests$BlockHash;[JI)V" } : Jvm.MethodName) prog_1_method_19_code (10 : Nat) (Option.none : Option Jvm.ClassFile.FieldType)) ∈ W0 := W0_c tk_4 (i := 2) rfl rfl
theorem wd_725 : (Jvm.Cond.instanceMethod ({ cls := "SpongeDigests$BlockHash", name := "setMark", desc := "()V" } : Jvm.MethodName)) ∈ W0 := W0_c tk_4 (i := 5) rfl rfl
theorem wd_726 : (Jvm.Cond.code ({ cls := "SpongeDigests$BlockHash", name := "setMark", desc := "()V" } : Jvm.MethodName) prog_2_method_4_code (1 : Nat) (Option.none : Option Jvm.ClassFile.FieldType)) ∈ W0 := W0_c tk_4 (i := 6) rfl rfl
theorem wd_727 : (Jvm.Cond.methodLink "SpongeDigests" (190 : Nat) ({ cls := "java/lang/Math", name := "min", desc := "(II)I" } : Jvm.MethodName)) ∈ W0 := W0_c tk_4 (i := 7) rfl rfl
theorem wd_728 : (Jvm.Cond.methodLink "SpongeDigests" (196 : Nat) ({ cls := "SpongeDigests", name := "setCounter", desc := "(I)V" } : Jvm.MethodName)) ∈ W0 := W0_c tk_4 (i := 8) rfl rfl
theorem wd_730 : (Jvm.Cond.instanceMethod ({ cls := "SpongeDigests", name := "setCounter", desc := "(I)V" } : Jvm.MethodName)) ∈ W0 := W0_c tk_4 (i := 10) rfl rfl
theorem wd_731 : (Jvm.Cond.code ({ cls := "SpongeDigests", name := "setCounter", desc := "(I)V" } : Jvm.MethodName) prog_1_method_20_code (3 : Nat) (Option.none : Option Jvm.ClassFile.FieldType)) ∈ W0 := W0_c tk_4 (i := 11) rfl rfl
theorem wd_734 : (Jvm.Cond.instanceMethod ({ cls := "SpongeDigests$BlockHash", name := "goToMark", desc := "()V" } : Jvm.MethodName)) ∈ W0 := W0_c tk_4 (i := 14) rfl rfl
theorem wd_735 : (Jvm.Cond.code ({ cls := "SpongeDigests$BlockHash", name := "goToMark", desc := "()V" } : Jvm.MethodName) prog_2_method_5_code (1 : Nat) (Option.none : Option Jvm.ClassFile.FieldType)) ∈ W0 := W0_c tk_4 (i := 15) rfl rfl
theorem wd_736 : (Jvm.Cond.classLink "SpongeDigestsLaw" (47 : Nat) "SpongeDigestsModel") ∈ W0 := W0_c tk_4 (i := 16) rfl rfl
theorem wd_737 : (Jvm.Cond.instantiable "SpongeDigestsModel" (24 : Nat)) ∈ W0 := W0_c tk_4 (i := 17) rfl rfl
theorem wd_738 : (Jvm.Cond.methodLink "SpongeDigestsLaw" (49 : Nat) ({ cls := "SpongeDigestsModel", name := "<init>", desc := "()V" } : Jvm.MethodName)) ∈ W0 := W0_c tk_4 (i := 18) rfl rfl
theorem wd_739 : (Jvm.Cond.instanceMethod ({ cls := "SpongeDigestsModel", name := "<init>", desc := "()V" } : Jvm.MethodName)) ∈ W0 := W0_c tk_4 (i := 19) rfl rfl
theorem wd_740 : (Jvm.Cond.code ({ cls := "SpongeDigestsModel", name := "<init>", desc := "()V" } : Jvm.MethodName) prog_6_method_1_code (1 : Nat) (Option.none : Option Jvm.ClassFile.FieldType)) ∈ W0 := W0_c tk_4 (i := 20) rfl rfl
theorem wd_741 : (Jvm.Cond.methodLink "SpongeDigestsModel" (1 : Nat) ({ cls := "java/lang/Object", name := "<init>", desc := "()V" } : Jvm.MethodName)) ∈ W0 := W0_c tk_4 (i := 21) rfl rfl
theorem wd_742 : (Jvm.Cond.classLink "SpongeDigestsModel" (13 : Nat) "[[B") ∈ W0 := W0_c tk_4 (i := 22) rfl rfl
theorem wd_744 : (Jvm.Cond.methodLink "SpongeDigestsModel" (68 : Nat) ({ cls := "SpongeDigestsModel", name := "constants", desc := "()V" } : Jvm.MethodName)) ∈ W0 := W0_c tk_4 (i := 24) rfl rfl
theorem wd_746 : (Jvm.Cond.instanceMethod ({ cls := "SpongeDigestsModel", name := "constants", desc := "()V" } : Jvm.MethodName)) ∈ W0 := W0_c tk_4 (i := 26) rfl rfl
theorem wd_747 : (Jvm.Cond.code ({ cls := "SpongeDigestsModel", name := "constants", desc := "()V" } : Jvm.MethodName) prog_6_method_19_code (6 : Nat) (Option.none : Option Jvm.ClassFile.FieldType)) ∈ W0 := W0_c tk_4 (i := 27) rfl rfl
theorem wd_748 : (Jvm.Cond.methodLink "SpongeDigestsModel" (98 : Nat) ({ cls := "SpongeDigestsModel", name := "prime", desc := "(I)Z" } : Jvm.MethodName)) ∈ W0 := W0_c tk_4 (i := 28) rfl rfl
theorem wd_749 : (Jvm.Cond.static ({ cls := "SpongeDigestsModel", name := "prime", desc := "(I)Z" } : Jvm.MethodName)) ∈ W0 := W0_c tk_4 (i := 29) rfl rfl
theorem wd_750 : (Jvm.Cond.code ({ cls := "SpongeDigestsModel", name := "prime", desc := "(I)Z" } : Jvm.MethodName) prog_6_method_16_code (2 : Nat) (Option.some Jvm.ClassFile.FieldType.boolean)) ∈ W0 := W0_c tk_4 (i := 30) rfl rfl
theorem wd_751 : (Jvm.Cond.methodLink "SpongeDigestsModel" (102 : Nat) ({ cls := "SpongeDigestsModel", name := "root", desc := "(II)J" } : Jvm.MethodName)) ∈ W0 := W0_c tk_4 (i := 31) rfl rfl
theorem wd_753 : (Jvm.Cond.instanceMethod ({ cls := "SpongeDigestsModel", name := "root", desc := "(II)J" } : Jvm.MethodName)) ∈ W0 := W0_c tk_4 (i := 33) rfl rfl
theorem wd_754 : (Jvm.Cond.code ({ cls := "SpongeDigestsModel", name := "root", desc := "(II)J" } : Jvm.MethodName) prog_6_method_18_code (7 : Nat) (Option.some Jvm.ClassFile.FieldType.long)) ∈ W0 := W0_c tk_4 (i := 34) rfl rfl
theorem wd_755 : (Jvm.Cond.methodLink "SpongeDigestsModel" (94 : Nat) ({ cls := "SpongeDigestsModel", name := "above", desc := "(IJII)Z" } : Jvm.MethodName)) ∈ W0 := W0_c tk_4 (i := 35) rfl rfl
theorem wd_757 : (Jvm.Cond.instanceMethod ({ cls := "SpongeDigestsModel", name := "above", desc := "(IJII)Z" } : Jvm.MethodName)) ∈ W0 := W0_c tk_4 (i := 37) rfl rfl
theorem wd_758 : (Jvm.Cond.code ({ cls := "SpongeDigestsModel", name := "above", desc := "(IJII)Z" } : Jvm.MethodName) prog_6_method_17_code (10 : Nat) (Option.some Jvm.ClassFile.FieldType.boolean)) ∈ W0 := W0_c tk_4 (i := 38) rfl rfl
theorem wd_759 : (Jvm.Cond.constantLong "SpongeDigestsModel" (92 : Nat) (65535 : Int64)) ∈ W0 := W0_c tk_4 (i := 39) rfl rfl
theorem wd_760 : (Jvm.Cond.methodLink "SpongeDigestsModel" (106 : Nat) ({ cls := "SpongeDigestsModel", name := "bit", desc := "(I)I" } : Jvm.MethodName)) ∈ W0 := W0_c tk_4 (i := 40) rfl rfl
theorem wd_761 : (Jvm.Cond.static ({ cls := "SpongeDigestsModel", name := "bit", desc := "(I)I" } : Jvm.MethodName)) ∈ W0 := W0_c tk_4 (i := 41) rfl rfl
theorem wd_762 : (Jvm.Cond.code ({ cls := "SpongeDigestsModel", name := "bit", desc := "(I)I" } : Jvm.MethodName) prog_6_method_20_code (3 : Nat) (Option.some Jvm.ClassFile.FieldType.int)) ∈ W0 := W0_c tk_4 (i := 42) rfl rfl
theorem wd_763 : (Jvm.Cond.methodLink "SpongeDigestsModel" (110 : Nat) ({ cls := "SpongeDigestsModel", name := "named", desc := "([JII)V" } : Jvm.MethodName)) ∈ W0 := W0_c tk_4 (i := 43) rfl rfl
theorem wd_765 : (Jvm.Cond.instanceMethod ({ cls := "SpongeDigestsModel", name := "named", desc := "([JII)V" } : Jvm.MethodName)) ∈ W0 := W0_c tk_4 (i := 45) rfl rfl
theorem wd_766 : (Jvm.Cond.code ({ cls := "SpongeDigestsModel", name := "named", desc := "([JII)V" } : Jvm.MethodName) prog_6_method_21_code (5 : Nat) (Option.none : Option Jvm.ClassFile.FieldType)) ∈ W0 := W0_c tk_4 (i := 46) rfl rfl
theorem wd_767 : (Jvm.Cond.methodLink "SpongeDigestsModel" (114 : Nat) ({ cls := "SpongeDigestsModel", name := "begin", desc := "(I)V" } : Jvm.MethodName)) ∈ W0 := W0_c tk_4 (i := 47) rfl rfl
theorem wd_769 : (Jvm.Cond.instanceMethod ({ cls := "SpongeDigestsModel", name := "begin", desc := "(I)V" } : Jvm.MethodName)) ∈ W0 := W0_c tk_4 (i := 49) rfl rfl
theorem wd_770 : (Jvm.Cond.code ({ cls := "SpongeDigestsModel", name := "begin", desc := "(I)V" } : Jvm.MethodName) prog_6_method_25_code (3 : Nat) (Option.none : Option Jvm.ClassFile.FieldType)) ∈ W0 := W0_c tk_4 (i := 50) rfl rfl
theorem wd_771 : (Jvm.Cond.methodLink "SpongeDigestsModel" (135 : Nat) ({ cls := "SpongeDigestsModel", name := "digestOf", desc := "(I)I" } : Jvm.MethodName)) ∈ W0 := W0_c tk_4 (i := 51) rfl rfl
theorem wd_772 : (Jvm.Cond.static ({ cls := "SpongeDigestsModel", name := "digestOf", desc := "(I)I" } : Jvm.MethodName)) ∈ W0 := W0_c tk_4 (i := 52) rfl rfl
theorem wd_773 : (Jvm.Cond.code ({ cls := "SpongeDigestsModel", name := "digestOf", desc := "(I)I" } : Jvm.MethodName) prog_6_method_24_code (1 : Nat) (Option.some Jvm.ClassFile.FieldType.int)) ∈ W0 := W0_c tk_4 (i := 53) rfl rfl
theorem wd_774 : (Jvm.Cond.methodLink "SpongeDigestsModel" (138 : Nat) ({ cls := "SpongeDigestsModel", name := "blockOf", desc := "(I)I" } : Jvm.MethodName)) ∈ W0 := W0_c tk_4 (i := 54) rfl rfl
theorem wd_775 : (Jvm.Cond.static ({ cls := "SpongeDigestsModel", name := "blockOf", desc := "(I)I" } : Jvm.MethodName)) ∈ W0 := W0_c tk_4 (i := 55) rfl rfl
theorem wd_776 : (Jvm.Cond.code ({ cls := "SpongeDigestsModel", name := "blockOf", desc := "(I)I" } : Jvm.MethodName) prog_6_method_23_code (1 : Nat) (Option.some Jvm.ClassFile.FieldType.int)) ∈ W0 := W0_c tk_4 (i := 56) rfl rfl
theorem wd_777 : (Jvm.Cond.constantLong "SpongeDigestsModel" (144 : Nat) (4294967295 : Int64)) ∈ W0 := W0_c tk_4 (i := 57) rfl rfl
theorem wd_778 : (Jvm.Cond.constantLong "SpongeDigestsModel" (117 : Nat) (-6510615555426900571 : Int64)) ∈ W0 := W0_c tk_4 (i := 58) rfl rfl
theorem wd_779 : (Jvm.Cond.methodLink "SpongeDigestsModel" (119 : Nat) ({ cls := "SpongeDigestsModel", name := "put", desc := "(I)V" } : Jvm.MethodName)) ∈ W0 := W0_c tk_4 (i := 59) rfl rfl
theorem wd_781 : (Jvm.Cond.instanceMethod ({ cls := "SpongeDigestsModel", name := "put", desc := "(I)V" } : Jvm.MethodName)) ∈ W0 := W0_c tk_4 (i := 61) rfl rfl
theorem wd_782 : (Jvm.Cond.code ({ cls := "SpongeDigestsModel", name := "put", desc := "(I)V" } : Jvm.MethodName) prog_6_method_27_code (2 : Nat) (Option.none : Option Jvm.ClassFile.FieldType)) ∈ W0 := W0_c tk_4 (i := 62) rfl rfl
theorem wd_783 : (Jvm.Cond.methodLink "SpongeDigestsModel" (146 : Nat) ({ cls := "SpongeDigestsModel", name := "sponge", desc := "()Z" } : Jvm.MethodName)) ∈ W0 := W0_c tk_4 (i := 63) rfl rfl
theorem wd_785 : (Jvm.Cond.instanceMethod ({ cls := "SpongeDigestsModel", name := "sponge", desc := "()Z" } : Jvm.MethodName)) ∈ W0 := W0_c tk_4 (i := 65) rfl rfl
theorem wd_786 : (Jvm.Cond.code ({ cls := "SpongeDigestsModel", name := "sponge", desc := "()Z" } : Jvm.MethodName) prog_6_method_22_code (1 : Nat) (Option.some Jvm.ClassFile.FieldType.boolean)) ∈ W0 := W0_c tk_4 (i := 66) rfl rfl
theorem wd_787 : (Jvm.Cond.methodLink "SpongeDigestsModel" (150 : Nat) ({ cls := "SpongeDigestsModel", name := "flip", desc := "(II)V" } : Jvm.MethodName)) ∈ W0 := W0_c tk_4 (i := 67) rfl rfl
theorem wd_789 : (Jvm.Cond.instanceMethod ({ cls := "SpongeDigestsModel", name := "flip", desc := "(II)V" } : Jvm.MethodName)) ∈ W0 := W0_c tk_4 (i := 69) rfl rfl
theorem wd_790 : (Jvm.Cond.code ({ cls := "SpongeDigestsModel", name := "flip", desc := "(II)V" } : Jvm.MethodName) prog_6_method_26_code (3 : Nat) (Option.none : Option Jvm.ClassFile.FieldType)) ∈ W0 := W0_c tk_4 (i := 70) rfl rfl
theorem wd_791 : (Jvm.Cond.constantLong "SpongeDigestsModel" (90 : Nat) (255 : Int64)) ∈ W0 := W0_c tk_4 (i := 71) rfl rfl
theorem wd_792 : (Jvm.Cond.methodLink "SpongeDigestsModel" (154 : Nat) ({ cls := "SpongeDigestsModel", name := "permute", desc := "()V" } : Jvm.MethodName)) ∈ W0 := W0_c tk_4 (i := 72) rfl rfl
theorem wd_794 : (Jvm.Cond.instanceMethod ({ cls := "SpongeDigestsModel", name := "permute", desc := "()V" } : Jvm.MethodName)) ∈ W0 := W0_c tk_4 (i := 74) rfl rfl
theorem wd_795 : (Jvm.Cond.code ({ cls := "SpongeDigestsModel", name := "permute", desc := "()V" } : Jvm.MethodName) prog_6_method_29_code (4 : Nat) (Option.none : Option Jvm.ClassFile.FieldType)) ∈ W0 := W0_c tk_4 (i := 75) rfl rfl
theorem wd_796 : (Jvm.Cond.methodLink "SpongeDigestsModel" (163 : Nat) ({ cls := "SpongeDigestsModel", name := "left", desc := "(JI)J" } : Jvm.MethodName)) ∈ W0 := W0_c tk_4 (i := 76) rfl rfl
theorem wd_797 : (Jvm.Cond.static ({ cls := "SpongeDigestsModel", name := "left", desc := "(JI)J" } : Jvm.MethodName)) ∈ W0 := W0_c tk_4 (i := 77) rfl rfl
theorem wd_798 : (Jvm.Cond.code ({ cls := "SpongeDigestsModel", name := "left", desc := "(JI)J" } : Jvm.MethodName) prog_6_method_30_code (3 : Nat) (Option.some Jvm.ClassFile.FieldType.long)) ∈ W0 := W0_c tk_4 (i := 78) rfl rfl
theorem wd_799 : (Jvm.Cond.constantLong "SpongeDigestsModel" (167 : Nat) (-1 : Int64)) ∈ W0 := W0_c tk_4 (i := 79) rfl rfl
theorem wd_800 : (Jvm.Cond.methodLink "SpongeDigestsModel" (157 : Nat) ({ cls := "SpongeDigestsModel", name := "compress32", desc := "()V" } : Jvm.MethodName)) ∈ W0 := W0_c tk_4 (i := 80) rfl rfl
theorem wd_802 : (Jvm.Cond.instanceMethod ({ cls := "SpongeDigestsModel", name := "compress32", desc := "()V" } : Jvm.MethodName)) ∈ W0 := W0_c tk_4 (i := 82) rfl rfl
theorem wd_803 : (Jvm.Cond.code ({ cls := "SpongeDigestsModel", name := "compress32", desc := "()V" } : Jvm.MethodName) prog_6_method_34_code (12 : Nat) (Option.none : Option Jvm.ClassFile.FieldType)) ∈ W0 := W0_c tk_4 (i := 83) rfl rfl
theorem wd_804 : (Jvm.Cond.methodLink "SpongeDigestsModel" (172 : Nat) ({ cls := "SpongeDigestsModel", name := "turn", desc := "(II)I" } : Jvm.MethodName)) ∈ W0 := W0_c tk_4 (i := 84) rfl rfl
theorem wd_805 : (Jvm.Cond.static ({ cls := "SpongeDigestsModel", name := "turn", desc := "(II)I" } : Jvm.MethodName)) ∈ W0 := W0_c tk_4 (i := 85) rfl rfl
theorem wd_806 : (Jvm.Cond.code ({ cls := "SpongeDigestsModel", name := "turn", desc := "(II)I" } : Jvm.MethodName) prog_6_method_32_code (2 : Nat) (Option.some Jvm.ClassFile.FieldType.int)) ∈ W0 := W0_c tk_4 (i := 86) rfl rfl
theorem wd_807 : (Jvm.Cond.methodLink "SpongeDigestsModel" (160 : Nat) ({ cls := "SpongeDigestsModel", name := "compress64", desc := "()V" } : Jvm.MethodName)) ∈ W0 := W0_c tk_4 (i := 87) rfl rfl
theorem wd_809 : (Jvm.Cond.instanceMethod ({ cls := "SpongeDigestsModel", name := "compress64", desc := "()V" } : Jvm.MethodName)) ∈ W0 := W0_c tk_4 (i := 89) rfl rfl
theorem wd_810 : (Jvm.Cond.code ({ cls := "SpongeDigestsModel", name := "compress64", desc := "()V" } : Jvm.MethodName) prog_6_method_33_code (22 : Nat) (Option.none : Option Jvm.ClassFile.FieldType)) ∈ W0 := W0_c tk_4 (i := 90) rfl rfl
theorem wd_811 : (Jvm.Cond.methodLink "SpongeDigestsModel" (169 : Nat) ({ cls := "SpongeDigestsModel", name := "right", desc := "(JI)J" } : Jvm.MethodName)) ∈ W0 := W0_c tk_4 (i := 91) rfl rfl
theorem wd_812 : (Jvm.Cond.static ({ cls := "SpongeDigestsModel", name := "right", desc := "(JI)J" } : Jvm.MethodName)) ∈ W0 := W0_c tk_4 (i := 92) rfl rfl
theorem wd_813 : (Jvm.Cond.code ({ cls := "SpongeDigestsModel", name := "right", desc := "(JI)J" } : Jvm.MethodName) prog_6_method_31_code (3 : Nat) (Option.some Jvm.ClassFile.FieldType.long)) ∈ W0 := W0_c tk_4 (i := 93) rfl rfl
theorem wd_814 : (Jvm.Cond.methodLink "SpongeDigestsModel" (122 : Nat) ({ cls := "SpongeDigestsModel", name := "finish", desc := "()V" } : Jvm.MethodName)) ∈ W0 := W0_c tk_4 (i := 94) rfl rfl
theorem wd_816 : (Jvm.Cond.instanceMethod ({ cls := "SpongeDigestsModel", name := "finish", desc := "()V" } : Jvm.MethodName)) ∈ W0 := W0_c tk_4 (i := 96) rfl rfl
theorem wd_817 : (Jvm.Cond.code ({ cls := "SpongeDigestsModel", name := "finish", desc := "()V" } : Jvm.MethodName) prog_6_method_35_code (4 : Nat) (Option.none : Option Jvm.ClassFile.FieldType)) ∈ W0 := W0_c tk_4 (i := 97) rfl rfl
theorem wd_818 : (Jvm.Cond.constantLong "SpongeDigestsModel" (176 : Nat) (8 : Int64)) ∈ W0 := W0_c tk_4 (i := 98) rfl rfl
theorem wd_819 : (Jvm.Cond.fieldLink "SpongeDigestsModel" (9 : Nat) "SpongeDigestsModel" "tape" "[B") ∈ W0 := W0_c tk_4 (i := 99) rfl rfl
theorem wd_820 : (Jvm.Cond.fieldLink "SpongeDigestsModel" (15 : Nat) "SpongeDigestsModel" "slot" "[[B") ∈ W0 := W0_c tk_4 (i := 100) rfl rfl
theorem wd_821 : (Jvm.Cond.fieldLink "SpongeDigestsModel" (18 : Nat) "SpongeDigestsModel" "length" "[I") ∈ W0 := W0_c tk_4 (i := 101) rfl rfl
theorem wd_822 : (Jvm.Cond.fieldLink "SpongeDigestsModel" (75 : Nat) "SpongeDigestsModel" "taped" "I") ∈ W0 := W0_c tk_4 (i := 102) rfl rfl
theorem wd_823 : (Jvm.Cond.fieldLink "SpongeDigestsModel" (71 : Nat) "SpongeDigestsModel" "code" "I") ∈ W0 := W0_c tk_4 (i := 103) rfl rfl
theorem wd_824 : (Jvm.Cond.fieldLink "SpongeDigestsModel" (22 : Nat) "SpongeDigestsModel" "roots" "[J") ∈ W0 := W0_c tk_4 (i := 104) rfl rfl
theorem wd_825 : (Jvm.Cond.fieldLink "SpongeDigestsModel" (26 : Nat) "SpongeDigestsModel" "cubes" "[J") ∈ W0 := W0_c tk_4 (i := 105) rfl rfl
theorem wd_826 : (Jvm.Cond.fieldLink "SpongeDigestsModel" (29 : Nat) "SpongeDigestsModel" "start224" "[J") ∈ W0 := W0_c tk_4 (i := 106) rfl rfl
theorem wd_827 : (Jvm.Cond.fieldLink "SpongeDigestsModel" (32 : Nat) "SpongeDigestsModel" "start256" "[J") ∈ W0 := W0_c tk_4 (i := 107) rfl rfl
theorem wd_828 : (Jvm.Cond.fieldLink "SpongeDigestsModel" (35 : Nat) "SpongeDigestsModel" "limbs" "[J") ∈ W0 := W0_c tk_4 (i := 108) rfl rfl
theorem wd_829 : (Jvm.Cond.fieldLink "SpongeDigestsModel" (38 : Nat) "SpongeDigestsModel" "product" "[J") ∈ W0 := W0_c tk_4 (i := 109) rfl rfl
theorem wd_830 : (Jvm.Cond.fieldLink "SpongeDigestsModel" (41 : Nat) "SpongeDigestsModel" "turns" "[I") ∈ W0 := W0_c tk_4 (i := 110) rfl rfl
theorem wd_831 : (Jvm.Cond.fieldLink "SpongeDigestsModel" (44 : Nat) "SpongeDigestsModel" "round" "[J") ∈ W0 := W0_c tk_4 (i := 111) rfl rfl
theorem wd_832 : (Jvm.Cond.fieldLink "SpongeDigestsModel" (47 : Nat) "SpongeDigestsModel" "state" "[J") ∈ W0 := W0_c tk_4 (i := 112) rfl rfl
theorem wd_833 : (Jvm.Cond.fieldLink "SpongeDigestsModel" (50 : Nat) "SpongeDigestsModel" "other" "[J") ∈ W0 := W0_c tk_4 (i := 113) rfl rfl
theorem wd_834 : (Jvm.Cond.fieldLink "SpongeDigestsModel" (53 : Nat) "SpongeDigestsModel" "column" "[J") ∈ W0 := W0_c tk_4 (i := 114) rfl rfl
theorem wd_835 : (Jvm.Cond.fieldLink "SpongeDigestsModel" (56 : Nat) "SpongeDigestsModel" "words" "[J") ∈ W0 := W0_c tk_4 (i := 115) rfl rfl
theorem wd_836 : (Jvm.Cond.fieldLink "SpongeDigestsModel" (59 : Nat) "SpongeDigestsModel" "block" "[B") ∈ W0 := W0_c tk_4 (i := 116) rfl rfl
theorem wd_837 : (Jvm.Cond.fieldLink "SpongeDigestsModel" (125 : Nat) "SpongeDigestsModel" "kind" "I") ∈ W0 := W0_c tk_4 (i := 117) rfl rfl
theorem wd_838 : (Jvm.Cond.fieldLink "SpongeDigestsModel" (141 : Nat) "SpongeDigestsModel" "rate" "I") ∈ W0 := W0_c tk_4 (i := 118) rfl rfl
theorem wd_839 : (Jvm.Cond.fieldLink "SpongeDigestsModel" (128 : Nat) "SpongeDigestsModel" "filled" "I") ∈ W0 := W0_c tk_4 (i := 119) rfl rfl
theorem wd_840 : (Jvm.Cond.fieldLink "SpongeDigestsModel" (131 : Nat) "SpongeDigestsModel" "total" "J") ∈ W0 := W0_c tk_4 (i := 120) rfl rfl
theorem wd_841 : (Jvm.Cond.fieldLink "SpongeDigestsModel" (62 : Nat) "SpongeDigestsModel" "hashKey" "[B") ∈ W0 := W0_c tk_4 (i := 121) rfl rfl
theorem wd_842 : (Jvm.Cond.fieldLink "SpongeDigestsModel" (65 : Nat) "SpongeDigestsModel" "inner" "[B") ∈ W0 := W0_c tk_4 (i := 122) rfl rfl
theorem wd_892 : (Jvm.Cond.arrayClass Jvm.ClassFile.FieldType.int) ∈ W0 := W0_c tk_4 (i := 172) rfl rfl
theorem wd_893 : (Jvm.Cond.methodLink "SpongeDigestsLaw" (56 : Nat) ({ cls := "SpongeDigestsModel", name := "thrown", desc := "()I" } : Jvm.MethodName)) ∈ W0 := W0_c tk_4 (i := 173) rfl rfl
theorem wd_894 : (Jvm.Cond.instanceMethod ({ cls := "SpongeDigestsModel", name := "thrown", desc := "()I" } : Jvm.MethodName)) ∈ W0 := W0_c tk_4 (i := 174) rfl rfl
theorem wd_895 : (Jvm.Cond.selects "SpongeDigestsModel" ({ cls := "SpongeDigestsModel", name := "thrown", desc := "()I" } : Jvm.MethodName) ({ cls := "SpongeDigestsModel", name := "thrown", desc := "()I" } : Jvm.MethodName)) ∈ W0 := W0_c tk_4 (i := 175) rfl rfl
theorem wd_896 : (Jvm.Cond.code ({ cls := "SpongeDigestsModel", name := "thrown", desc := "()I" } : Jvm.MethodName) prog_6_method_2_code (1 : Nat) (Option.some Jvm.ClassFile.FieldType.int)) ∈ W0 := W0_c tk_4 (i := 176) rfl rfl
theorem wd_897 : (Jvm.Cond.methodLink "SpongeDigestsLaw" (55 : Nat) ({ cls := "SpongeDigestsModel", name := "feed", desc := "(IIIII)I" } : Jvm.MethodName)) ∈ W0 := W0_c tk_4 (i := 177) rfl rfl
theorem wd_898 : (Jvm.Cond.instanceMethod ({ cls := "SpongeDigestsModel", name := "feed", desc := "(IIIII)I" } : Jvm.MethodName)) ∈ W0 := W0_c tk_4 (i := 178) rfl rfl
theorem wd_899 : (Jvm.Cond.selects "SpongeDigestsModel" ({ cls := "SpongeDigestsModel", name := "feed", desc := "(IIIII)I" } : Jvm.MethodName) ({ cls := "SpongeDigestsModel", name := "feed", desc := "(IIIII)I" } : Jvm.MethodName)) ∈ W0 := W0_c tk_4 (i := 179) rfl rfl
theorem wd_900 : (Jvm.Cond.code ({ cls := "SpongeDigestsModel", name := "feed", desc := "(IIIII)I" } : Jvm.MethodName) prog_6_method_5_code (6 : Nat) (Option.some Jvm.ClassFile.FieldType.int)) ∈ W0 := W0_c tk_4 (i := 180) rfl rfl
theorem wd_901 : (Jvm.Cond.methodLink "SpongeDigestsModel" (78 : Nat) ({ cls := "SpongeDigestsModel", name := "good", desc := "(ZI)Z" } : Jvm.MethodName)) ∈ W0 := W0_c tk_4 (i := 181) rfl rfl
theorem wd_903 : (Jvm.Cond.instanceMethod ({ cls := "SpongeDigestsModel", name := "good", desc := "(ZI)Z" } : Jvm.MethodName)) ∈ W0 := W0_c tk_4 (i := 183) rfl rfl
theorem wd_904 : (Jvm.Cond.code ({ cls := "SpongeDigestsModel", name := "good", desc := "(ZI)Z" } : Jvm.MethodName) prog_6_method_4_code (3 : Nat) (Option.some Jvm.ClassFile.FieldType.boolean)) ∈ W0 := W0_c tk_4 (i := 184) rfl rfl
theorem wd_905 : (Jvm.Cond.methodLink "SpongeDigestsModel" (82 : Nat) ({ cls := "SpongeDigestsModel", name := "word", desc := "(I)V" } : Jvm.MethodName)) ∈ W0 := W0_c tk_4 (i := 185) rfl rfl
theorem wd_907 : (Jvm.Cond.instanceMethod ({ cls := "SpongeDigestsModel", name := "word", desc := "(I)V" } : Jvm.MethodName)) ∈ W0 := W0_c tk_4 (i := 187) rfl rfl
theorem wd_908 : (Jvm.Cond.code ({ cls := "SpongeDigestsModel", name := "word", desc := "(I)V" } : Jvm.MethodName) prog_6_method_6_code (3 : Nat) (Option.none : Option Jvm.ClassFile.FieldType)) ∈ W0 := W0_c tk_4 (i := 188) rfl rfl
theorem wd_909 : (Jvm.Cond.methodLink "SpongeDigestsLaw" (63 : Nat) ({ cls := "SpongeDigestsModel", name := "end", desc := "(II)I" } : Jvm.MethodName)) ∈ W0 := W0_c tk_4 (i := 189) rfl rfl
theorem wd_910 : (Jvm.Cond.instanceMethod ({ cls := "SpongeDigestsModel", name := "end", desc := "(II)I" } : Jvm.MethodName)) ∈ W0 := W0_c tk_4 (i := 190) rfl rfl
theorem wd_911 : (Jvm.Cond.selects "SpongeDigestsModel" ({ cls := "SpongeDigestsModel", name := "end", desc := "(II)I" } : Jvm.MethodName) ({ cls := "SpongeDigestsModel", name := "end", desc := "(II)I" } : Jvm.MethodName)) ∈ W0 := W0_c tk_4 (i := 191) rfl rfl
theorem wd_912 : (Jvm.Cond.code ({ cls := "SpongeDigestsModel", name := "end", desc := "(II)I" } : Jvm.MethodName) prog_6_method_7_code (4 : Nat) (Option.some Jvm.ClassFile.FieldType.int)) ∈ W0 := W0_c tk_4 (i := 192) rfl rfl
theorem wd_913 : (Jvm.Cond.methodLink "SpongeDigestsModel" (86 : Nat) ({ cls := "SpongeDigestsModel", name := "in", desc := "(III)Z" } : Jvm.MethodName)) ∈ W0 := W0_c tk_4 (i := 193) rfl rfl
theorem wd_914 : (Jvm.Cond.static ({ cls := "SpongeDigestsModel", name := "in", desc := "(III)Z" } : Jvm.MethodName)) ∈ W0 := W0_c tk_4 (i := 194) rfl rfl
theorem wd_915 : (Jvm.Cond.code ({ cls := "SpongeDigestsModel", name := "in", desc := "(III)Z" } : Jvm.MethodName) prog_6_method_3_code (3 : Nat) (Option.some Jvm.ClassFile.FieldType.boolean)) ∈ W0 := W0_c tk_4 (i := 195) rfl rfl
theorem wd_916 : (Jvm.Cond.methodLink "SpongeDigestsLaw" (66 : Nat) ({ cls := "SpongeDigestsModel", name := "copy", desc := "(II)I" } : Jvm.MethodName)) ∈ W0 := W0_c tk_4 (i := 196) rfl rfl
theorem wd_917 : (Jvm.Cond.instanceMethod ({ cls := "SpongeDigestsModel", name := "copy", desc := "(II)I" } : Jvm.MethodName)) ∈ W0 := W0_c tk_4 (i := 197) rfl rfl
theorem wd_918 : (Jvm.Cond.selects "SpongeDigestsModel" ({ cls := "SpongeDigestsModel", name := "copy", desc := "(II)I" } : Jvm.MethodName) ({ cls := "SpongeDigestsModel", name := "copy", desc := "(II)I" } : Jvm.MethodName)) ∈ W0 := W0_c tk_4 (i := 198) rfl rfl
theorem wd_919 : (Jvm.Cond.code ({ cls := "SpongeDigestsModel", name := "copy", desc := "(II)I" } : Jvm.MethodName) prog_6_method_8_code (4 : Nat) (Option.some Jvm.ClassFile.FieldType.int)) ∈ W0 := W0_c tk_4 (i := 199) rfl rfl
theorem wd_920 : (Jvm.Cond.methodLink "SpongeDigestsLaw" (69 : Nat) ({ cls := "SpongeDigestsModel", name := "resize", desc := "(II)I" } : Jvm.MethodName)) ∈ W0 := W0_c tk_4 (i := 200) rfl rfl
theorem wd_921 : (Jvm.Cond.instanceMethod ({ cls := "SpongeDigestsModel", name := "resize", desc := "(II)I" } : Jvm.MethodName)) ∈ W0 := W0_c tk_4 (i := 201) rfl rfl
theorem wd_922 : (Jvm.Cond.selects "SpongeDigestsModel" ({ cls := "SpongeDigestsModel", name := "resize", desc := "(II)I" } : Jvm.MethodName) ({ cls := "SpongeDigestsModel", name := "resize", desc := "(II)I" } : Jvm.MethodName)) ∈ W0 := W0_c tk_4 (i := 202) rfl rfl
theorem wd_923 : (Jvm.Cond.code ({ cls := "SpongeDigestsModel", name := "resize", desc := "(II)I" } : Jvm.MethodName) prog_6_method_9_code (5 : Nat) (Option.some Jvm.ClassFile.FieldType.int)) ∈ W0 := W0_c tk_4 (i := 203) rfl rfl
theorem wd_924 : (Jvm.Cond.methodLink "SpongeDigestsLaw" (73 : Nat) ({ cls := "SpongeDigestsModel", name := "alter", desc := "(III)I" } : Jvm.MethodName)) ∈ W0 := W0_c tk_4 (i := 204) rfl rfl
theorem wd_925 : (Jvm.Cond.instanceMethod ({ cls := "SpongeDigestsModel", name := "alter", desc := "(III)I" } : Jvm.MethodName)) ∈ W0 := W0_c tk_4 (i := 205) rfl rfl
theorem wd_926 : (Jvm.Cond.selects "SpongeDigestsModel" ({ cls := "SpongeDigestsModel", name := "alter", desc := "(III)I" } : Jvm.MethodName) ({ cls := "SpongeDigestsModel", name := "alter", desc := "(III)I" } : Jvm.MethodName)) ∈ W0 := W0_c tk_4 (i := 206) rfl rfl
theorem wd_927 : (Jvm.Cond.code ({ cls := "SpongeDigestsModel", name := "alter", desc := "(III)I" } : Jvm.MethodName) prog_6_method_10_code (4 : Nat) (Option.some Jvm.ClassFile.FieldType.int)) ∈ W0 := W0_c tk_4 (i := 207) rfl rfl
theorem wd_928 : (Jvm.Cond.methodLink "SpongeDigestsLaw" (77 : Nat) ({ cls := "SpongeDigestsModel", name := "length", desc := "(I)I" } : Jvm.MethodName)) ∈ W0 := W0_c tk_4 (i := 208) rfl rfl
theorem wd_929 : (Jvm.Cond.instanceMethod ({ cls := "SpongeDigestsModel", name := "length", desc := "(I)I" } : Jvm.MethodName)) ∈ W0 := W0_c tk_4 (i := 209) rfl rfl
theorem wd_930 : (Jvm.Cond.selects "SpongeDigestsModel" ({ cls := "SpongeDigestsModel", name := "length", desc := "(I)I" } : Jvm.MethodName) ({ cls := "SpongeDigestsModel", name := "length", desc := "(I)I" } : Jvm.MethodName)) ∈ W0 := W0_c tk_4 (i := 210) rfl rfl
theorem wd_931 : (Jvm.Cond.code ({ cls := "SpongeDigestsModel", name := "length", desc := "(I)I" } : Jvm.MethodName) prog_6_method_11_code (2 : Nat) (Option.some Jvm.ClassFile.FieldType.int)) ∈ W0 := W0_c tk_4 (i := 211) rfl rfl
theorem wd_932 : (Jvm.Cond.methodLink "SpongeDigestsLaw" (80 : Nat) ({ cls := "SpongeDigestsModel", name := "word", desc := "(II)J" } : Jvm.MethodName)) ∈ W0 := W0_c tk_4 (i := 212) rfl rfl
theorem wd_933 : (Jvm.Cond.instanceMethod ({ cls := "SpongeDigestsModel", name := "word", desc := "(II)J" } : Jvm.MethodName)) ∈ W0 := W0_c tk_4 (i := 213) rfl rfl
theorem wd_934 : (Jvm.Cond.selects "SpongeDigestsModel" ({ cls := "SpongeDigestsModel", name := "word", desc := "(II)J" } : Jvm.MethodName) ({ cls := "SpongeDigestsModel", name := "word", desc := "(II)J" } : Jvm.MethodName)) ∈ W0 := W0_c tk_4 (i := 214) rfl rfl
theorem wd_935 : (Jvm.Cond.code ({ cls := "SpongeDigestsModel", name := "word", desc := "(II)J" } : Jvm.MethodName) prog_6_method_12_code (6 : Nat) (Option.some Jvm.ClassFile.FieldType.long)) ∈ W0 := W0_c tk_4 (i := 215) rfl rfl
theorem wd_936 : (Jvm.Cond.methodLink "SpongeDigestsLaw" (83 : Nat) ({ cls := "SpongeDigestsModel", name := "same", desc := "(II)Z" } : Jvm.MethodName)) ∈ W0 := W0_c tk_4 (i := 216) rfl rfl
theorem wd_937 : (Jvm.Cond.instanceMethod ({ cls := "SpongeDigestsModel", name := "same", desc := "(II)Z" } : Jvm.MethodName)) ∈ W0 := W0_c tk_4 (i := 217) rfl rfl
theorem wd_938 : (Jvm.Cond.selects "SpongeDigestsModel" ({ cls := "SpongeDigestsModel", name := "same", desc := "(II)Z" } : Jvm.MethodName) ({ cls := "SpongeDigestsModel", name := "same", desc := "(II)Z" } : Jvm.MethodName)) ∈ W0 := W0_c tk_4 (i := 218) rfl rfl
theorem wd_939 : (Jvm.Cond.code ({ cls := "SpongeDigestsModel", name := "same", desc := "(II)Z" } : Jvm.MethodName) prog_6_method_13_code (5 : Nat) (Option.some Jvm.ClassFile.FieldType.boolean)) ∈ W0 := W0_c tk_4 (i := 219) rfl rfl
theorem wd_940 : (Jvm.Cond.methodLink "SpongeDigestsLaw" (86 : Nat) ({ cls := "SpongeDigestsModel", name := "digest", desc := "(II)I" } : Jvm.MethodName)) ∈ W0 := W0_c tk_4 (i := 220) rfl rfl
theorem wd_941 : (Jvm.Cond.instanceMethod ({ cls := "SpongeDigestsModel", name := "digest", desc := "(II)I" } : Jvm.MethodName)) ∈ W0 := W0_c tk_4 (i := 221) rfl rfl
theorem wd_942 : (Jvm.Cond.selects "SpongeDigestsModel" ({ cls := "SpongeDigestsModel", name := "digest", desc := "(II)I" } : Jvm.MethodName) ({ cls := "SpongeDigestsModel", name := "digest", desc := "(II)I" } : Jvm.MethodName)) ∈ W0 := W0_c tk_4 (i := 222) rfl rfl
theorem wd_943 : (Jvm.Cond.code ({ cls := "SpongeDigestsModel", name := "digest", desc := "(II)I" } : Jvm.MethodName) prog_6_method_41_code (5 : Nat) (Option.some Jvm.ClassFile.FieldType.int)) ∈ W0 := W0_c tk_4 (i := 223) rfl rfl
theorem wd_944 : (Jvm.Cond.methodLink "SpongeDigestsModel" (182 : Nat) ({ cls := "SpongeDigestsModel", name := "put", desc := "([BII)V" } : Jvm.MethodName)) ∈ W0 := W0_c tk_4 (i := 224) rfl rfl
theorem wd_946 : (Jvm.Cond.instanceMethod ({ cls := "SpongeDigestsModel", name := "put", desc := "([BII)V" } : Jvm.MethodName)) ∈ W0 := W0_c tk_4 (i := 226) rfl rfl
theorem wd_947 : (Jvm.Cond.code ({ cls := "SpongeDigestsModel", name := "put", desc := "([BII)V" } : Jvm.MethodName) prog_6_method_28_code (5 : Nat) (Option.none : Option Jvm.ClassFile.FieldType)) ∈ W0 := W0_c tk_4 (i := 227) rfl rfl
theorem wd_948 : (Jvm.Cond.methodLink "SpongeDigestsModel" (185 : Nat) ({ cls := "SpongeDigestsModel", name := "give", desc := "([BII)V" } : Jvm.MethodName)) ∈ W0 := W0_c tk_4 (i := 228) rfl rfl
theorem wd_950 : (Jvm.Cond.instanceMethod ({ cls := "SpongeDigestsModel", name := "give", desc := "([BII)V" } : Jvm.MethodName)) ∈ W0 := W0_c tk_4 (i := 230) rfl rfl
theorem wd_951 : (Jvm.Cond.code ({ cls := "SpongeDigestsModel", name := "give", desc := "([BII)V" } : Jvm.MethodName) prog_6_method_37_code (5 : Nat) (Option.none : Option Jvm.ClassFile.FieldType)) ∈ W0 := W0_c tk_4 (i := 231) rfl rfl
theorem wd_952 : (Jvm.Cond.methodLink "SpongeDigestsModel" (178 : Nat) ({ cls := "SpongeDigestsModel", name := "squeeze", desc := "()I" } : Jvm.MethodName)) ∈ W0 := W0_c tk_4 (i := 232) rfl rfl
theorem wd_954 : (Jvm.Cond.instanceMethod ({ cls := "SpongeDigestsModel", name := "squeeze", desc := "()I" } : Jvm.MethodName)) ∈ W0 := W0_c tk_4 (i := 234) rfl rfl
theorem wd_955 : (Jvm.Cond.code ({ cls := "SpongeDigestsModel", name := "squeeze", desc := "()I" } : Jvm.MethodName) prog_6_method_36_code (2 : Nat) (Option.some Jvm.ClassFile.FieldType.int)) ∈ W0 := W0_c tk_4 (i := 235) rfl rfl
theorem wd_956 : (Jvm.Cond.methodLink "SpongeDigestsModel" (192 : Nat) ({ cls := "SpongeDigestsModel", name := "startMac", desc := "(I[BII)V" } : Jvm.MethodName)) ∈ W0 := W0_c tk_4 (i := 236) rfl rfl
theorem wd_958 : (Jvm.Cond.instanceMethod ({ cls := "SpongeDigestsModel", name := "startMac", desc := "(I[BII)V" } : Jvm.MethodName)) ∈ W0 := W0_c tk_4 (i := 238) rfl rfl
theorem wd_959 : (Jvm.Cond.code ({ cls := "SpongeDigestsModel", name := "startMac", desc := "(I[BII)V" } : Jvm.MethodName) prog_6_method_38_code (7 : Nat) (Option.none : Option Jvm.ClassFile.FieldType)) ∈ W0 := W0_c tk_4 (i := 239) rfl rfl
theorem wd_960 : (Jvm.Cond.methodLink "SpongeDigestsModel" (188 : Nat) ({ cls := "SpongeDigestsModel", name := "move", desc := "([BI[BII)V" } : Jvm.MethodName)) ∈ W0 := W0_c tk_5 (i := 0) rfl rfl
theorem wd_961 : (Jvm.Cond.static ({ cls := "SpongeDigestsModel", name := "move", desc := "([BI[BII)V" } : Jvm.MethodName)) ∈ W0 := W0_c tk_5 (i := 1) rfl rfl
theorem wd_962 : (Jvm.Cond.code ({ cls := "SpongeDigestsModel", name := "move", desc := "([BI[BII)V" } : Jvm.MethodName) prog_6_method_14_code (6 : Nat) (Option.none : Option Jvm.ClassFile.FieldType)) ∈ W0 := W0_c tk_5 (i := 2) rfl rfl
theorem wd_963 : (Jvm.Cond.methodLink "SpongeDigestsModel" (196 : Nat) ({ cls := "SpongeDigestsModel", name := "endMac", desc := "(I[BII)V" } : Jvm.MethodName)) ∈ W0 := W0_c tk_5 (i := 3) rfl rfl
theorem wd_965 : (Jvm.Cond.instanceMethod ({ cls := "SpongeDigestsModel", name := "endMac", desc := "(I[BII)V" } : Jvm.MethodName)) ∈ W0 := W0_c tk_5 (i := 5) rfl rfl
theorem wd_966 : (Jvm.Cond.code ({ cls := "SpongeDigestsModel", name := "endMac", desc := "(I[BII)V" } : Jvm.MethodName) prog_6_method_39_code (7 : Nat) (Option.none : Option Jvm.ClassFile.FieldType)) ∈ W0 := W0_c tk_5 (i := 6) rfl rfl
theorem wd_967 : (Jvm.Cond.methodLink "SpongeDigestsModel" (199 : Nat) ({ cls := "SpongeDigestsModel", name := "mask", desc := "(I[BI[BII)V" } : Jvm.MethodName)) ∈ W0 := W0_c tk_5 (i := 7) rfl rfl
theorem wd_969 : (Jvm.Cond.instanceMethod ({ cls := "SpongeDigestsModel", name := "mask", desc := "(I[BI[BII)V" } : Jvm.MethodName)) ∈ W0 := W0_c tk_5 (i := 9) rfl rfl
theorem wd_970 : (Jvm.Cond.code ({ cls := "SpongeDigestsModel", name := "mask", desc := "(I[BI[BII)V" } : Jvm.MethodName) prog_6_method_40_code (10 : Nat) (Option.none : Option Jvm.ClassFile.FieldType)) ∈ W0 := W0_c tk_5 (i := 10) rfl rfl
theorem wn_0 : (Jvm.Cond.methodLinkNest "SpongeDigests" (15 : Nat) ({ cls := "SpongeDigests$Bytes", name := "<init>", desc := "()V" } : Jvm.MethodName) "SpongeDigests") ∈ nestWords := List.mem_of_getElem? (i := 0) rfl
theorem wn_1 : (Jvm.Cond.fieldLinkNest "SpongeDigests" (100 : Nat) "SpongeDigests$Bytes" "data" "[B" "SpongeDigests") ∈ nestWords := List.mem_of_getElem? (i := 1) rfl
theorem wn_2 : (Jvm.Cond.fieldLinkNest "SpongeDigests" (66 : Nat) "SpongeDigests$Bytes" "size" "I" "SpongeDigests") ∈ nestWords := List.mem_of_getElem? (i := 2) rfl
theorem wn_3 : (Jvm.Cond.methodLinkNest "SpongeDigests" (22 : Nat) ({ cls := "SpongeDigests$Sponge", name := "<init>", desc := "()V" } : Jvm.MethodName) "SpongeDigests") ∈ nestWords := List.mem_of_getElem? (i := 3) rfl
theorem wn_4 : (Jvm.Cond.methodLinkNest "SpongeDigests" (33 : Nat) ({ cls := "SpongeDigests$BlockHash", name := "<init>", desc := "(II[I)V" } : Jvm.MethodName) "SpongeDigests") ∈ nestWords := List.mem_of_getElem? (i := 4) rfl
theorem wn_5 : (Jvm.Cond.fieldLinkNest "SpongeDigests" (46 : Nat) "SpongeDigests$BlockHash" "blockBytes" "I" "SpongeDigests") ∈ nestWords := List.mem_of_getElem? (i := 5) rfl
theorem wn_6 : (Jvm.Cond.fieldLinkNest "SpongeDigests" (57 : Nat) "SpongeDigests$BlockHash" "resultBytes" "I" "SpongeDigests") ∈ nestWords := List.mem_of_getElem? (i := 6) rfl
theorem wn_7 : (Jvm.Cond.methodLinkNest "SpongeDigests" (76 : Nat) ({ cls := "SpongeDigests$Bytes", name := "append", desc := "(I)V" } : Jvm.MethodName) "SpongeDigests") ∈ nestWords := List.mem_of_getElem? (i := 7) rfl
theorem wn_8 : (Jvm.Cond.methodLinkNest "SpongeDigests" (90 : Nat) ({ cls := "SpongeDigests$Bytes", name := "take", desc := "(LSpongeDigests$Bytes;I)V" } : Jvm.MethodName) "SpongeDigests") ∈ nestWords := List.mem_of_getElem? (i := 8) rfl
theorem wn_9 : (Jvm.Cond.methodLinkNest "SpongeDigests" (94 : Nat) ({ cls := "SpongeDigests$Bytes", name := "cutOrFill", desc := "(I)V" } : Jvm.MethodName) "SpongeDigests") ∈ nestWords := List.mem_of_getElem? (i := 9) rfl
theorem wn_10 : (Jvm.Cond.methodLinkNest "SpongeDigests" (103 : Nat) ({ cls := "SpongeDigests$Bytes", name := "eightFrom", desc := "(I)J" } : Jvm.MethodName) "SpongeDigests") ∈ nestWords := List.mem_of_getElem? (i := 10) rfl
theorem wn_11 : (Jvm.Cond.methodLinkNest "SpongeDigests" (107 : Nat) ({ cls := "SpongeDigests$Bytes", name := "matches", desc := "(LSpongeDigests$Bytes;)Z" } : Jvm.MethodName) "SpongeDigests") ∈ nestWords := List.mem_of_getElem? (i := 11) rfl
theorem wn_12 : (Jvm.Cond.methodLinkNest "SpongeDigests" (151 : Nat) ({ cls := "SpongeDigests$BlockHash", name := "begin", desc := "([J)V" } : Jvm.MethodName) "SpongeDigests") ∈ nestWords := List.mem_of_getElem? (i := 12) rfl
theorem wn_13 : (Jvm.Cond.methodLinkNest "SpongeDigests" (155 : Nat) ({ cls := "SpongeDigests$BlockHash", name := "absorb", desc := "([BII)V" } : Jvm.MethodName) "SpongeDigests") ∈ nestWords := List.mem_of_getElem? (i := 13) rfl
theorem wn_14 : (Jvm.Cond.fieldLinkNest "SpongeDigests$BlockHash" (84 : Nat) "SpongeDigests" "CUBE_ROOTS" "[J" "SpongeDigests") ∈ nestWords := List.mem_of_getElem? (i := 14) rfl
theorem wn_15 : (Jvm.Cond.methodLinkNest "SpongeDigests" (159 : Nat) ({ cls := "SpongeDigests$BlockHash", name := "finish", desc := "([BII)V" } : Jvm.MethodName) "SpongeDigests") ∈ nestWords := List.mem_of_getElem? (i := 15) rfl
theorem wn_16 : (Jvm.Cond.methodLinkNest "SpongeDigests" (162 : Nat) ({ cls := "SpongeDigests$Sponge", name := "absorb", desc := "(II[BI)V" } : Jvm.MethodName) "SpongeDigests") ∈ nestWords := List.mem_of_getElem? (i := 16) rfl
theorem wn_17 : (Jvm.Cond.fieldLinkNest "SpongeDigests$Sponge" (50 : Nat) "SpongeDigests" "LANE_TARGETS" "[I" "SpongeDigests") ∈ nestWords := List.mem_of_getElem? (i := 17) rfl
theorem wn_18 : (Jvm.Cond.fieldLinkNest "SpongeDigests$Sponge" (54 : Nat) "SpongeDigests" "LANE_TURNS" "[I" "SpongeDigests") ∈ nestWords := List.mem_of_getElem? (i := 18) rfl
theorem wn_19 : (Jvm.Cond.fieldLinkNest "SpongeDigests$Sponge" (43 : Nat) "SpongeDigests" "ROUND_CONSTANTS" "[J" "SpongeDigests") ∈ nestWords := List.mem_of_getElem? (i := 19) rfl
theorem wn_20 : (Jvm.Cond.methodLinkNest "SpongeDigests" (165 : Nat) ({ cls := "SpongeDigests$Sponge", name := "squeeze", desc := "(I[BI)V" } : Jvm.MethodName) "SpongeDigests") ∈ nestWords := List.mem_of_getElem? (i := 20) rfl
theorem wn_21 : (Jvm.Cond.methodLinkNest "SpongeDigests" (187 : Nat) ({ cls := "SpongeDigests$BlockHash", name := "setMark", desc := "()V" } : Jvm.MethodName) "SpongeDigests") ∈ nestWords := List.mem_of_getElem? (i := 21) rfl
theorem wn_22 : (Jvm.Cond.methodLinkNest "SpongeDigests" (199 : Nat) ({ cls := "SpongeDigests$BlockHash", name := "goToMark", desc := "()V" } : Jvm.MethodName) "SpongeDigests") ∈ nestWords := List.mem_of_getElem? (i := 22) rfl
