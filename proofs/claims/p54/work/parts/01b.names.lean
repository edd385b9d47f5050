def RX0 : String := "Smartcrate$Crate"
def TX0 : u_T := fun k => match k with
  | 0 => ("Smartcrate$Crate", "rule", "LSmartcrate$Rule;", false)
  | 1 => ("Smartcrate$Crate", "order", "C", false)
  | _ => ("Smartcrate$Crate", "limit", "I", false)
def tyX0 : Nat → FieldType := fun k => match k with
  | 0 => .object "Smartcrate$Rule"
  | 1 => .char
  | _ => .int
abbrev wsX00 : List Cond := u_ws RX0 TX0 3
theorem nmX0 : ∀ a, a < 3 → ∀ b, b < 3 → a ≠ b → (TX0 a).2.1 ≠ (TX0 b).2.1 := by decide +kernel
theorem tyX0_ok : ∀ k, k < 3 → parseFieldDescriptor (TX0 k).2.2.1 = some (tyX0 k) := by decide +kernel
abbrev cX0_init : ByteArray := prog_2_method_1_code
def yX0_init : MethodName := ⟨RX0, "<init>", "(LSmartcrate$Rule;CI)V"⟩
def RX1 : String := "Smartcrate$Rule"
def TX1 : u_T := fun k => match k with
  | 0 => ("Smartcrate$Rule", "number", "I", true)
  | 1 => ("Smartcrate$Rule", "kind", "I", true)
  | 2 => ("Smartcrate$Rule", "asked", "I", true)
  | 3 => ("Smartcrate$Rule", "one", "LSmartcrate$Rule;", true)
  | 4 => ("Smartcrate$Rule", "other", "LSmartcrate$Rule;", true)
  | 5 => ("Smartcrate$Rule", "size", "I", true)
  | _ => ("Smartcrate$Rule", "listSet", "I", true)
def tyX1 : Nat → FieldType := fun k => match k with
  | 0 => .int
  | 1 => .int
  | 2 => .int
  | 3 => .object "Smartcrate$Rule"
  | 4 => .object "Smartcrate$Rule"
  | 5 => .int
  | _ => .int
abbrev wsX10 : List Cond := u_ws RX1 TX1 7
theorem nmX1 : ∀ a, a < 7 → ∀ b, b < 7 → a ≠ b → (TX1 a).2.1 ≠ (TX1 b).2.1 := by decide +kernel
theorem tyX1_ok : ∀ k, k < 7 → parseFieldDescriptor (TX1 k).2.2.1 = some (tyX1 k) := by decide +kernel
abbrev cX1_init : ByteArray := prog_3_method_1_code
def yX1_init : MethodName := ⟨RX1, "<init>", "(IIILSmartcrate$Rule;LSmartcrate$Rule;)V"⟩
def RX2 : String := "Smartcrate$Tag"
def TX2 : u_T := fun k => match k with
  | 0 => ("Smartcrate$Tag", "number", "I", true)
  | 1 => ("Smartcrate$Tag", "name", "[C", true)
  | 2 => ("Smartcrate$Tag", "letters", "I", false)
  | 3 => ("Smartcrate$Tag", "becomes", "LSmartcrate$Tag;", false)
  | 4 => ("Smartcrate$Tag", "tagSetsAhead", "[I", true)
  | _ => ("Smartcrate$Tag", "goneEarlier", "LSmartcrate$Tag;", false)
def tyX2 : Nat → FieldType := fun k => match k with
  | 0 => .int
  | 1 => .array .char
  | 2 => .int
  | 3 => .object "Smartcrate$Tag"
  | 4 => .array .int
  | _ => .object "Smartcrate$Tag"
abbrev wsX20 : List Cond := u_ws RX2 TX2 6
theorem nmX2 : ∀ a, a < 6 → ∀ b, b < 6 → a ≠ b → (TX2 a).2.1 ≠ (TX2 b).2.1 := by decide +kernel
theorem tyX2_ok : ∀ k, k < 6 → parseFieldDescriptor (TX2 k).2.2.1 = some (tyX2 k) := by decide +kernel
abbrev cX2_init : ByteArray := prog_4_method_1_code
def yX2_init : MethodName := ⟨RX2, "<init>", "(I)V"⟩
def RX3 : String := "Smartcrate$Track"
def TX3 : u_T := fun k => match k with
  | 0 => ("Smartcrate$Track", "number", "I", true)
  | 1 => ("Smartcrate$Track", "length", "I", true)
  | 2 => ("Smartcrate$Track", "rating", "I", false)
  | 3 => ("Smartcrate$Track", "plays", "I", false)
  | 4 => ("Smartcrate$Track", "lastDay", "I", false)
  | _ => ("Smartcrate$Track", "tagSet", "I", false)
def tyX3 : Nat → FieldType := fun k => match k with
  | 0 => .int
  | 1 => .int
  | 2 => .int
  | 3 => .int
  | 4 => .int
  | _ => .int
abbrev wsX30 : List Cond := u_ws RX3 TX3 6
theorem nmX3 : ∀ a, a < 6 → ∀ b, b < 6 → a ≠ b → (TX3 a).2.1 ≠ (TX3 b).2.1 := by decide +kernel
theorem tyX3_ok : ∀ k, k < 6 → parseFieldDescriptor (TX3 k).2.2.1 = some (tyX3 k) := by decide +kernel
abbrev cX3_init : ByteArray := prog_5_method_1_code
def yX3_init : MethodName := ⟨RX3, "<init>", "(III)V"⟩
def RX4 : String := "Smartcrate"
def TX4 : u_T := fun k => match k with
  | 0 => ("Smartcrate", "allTracks", "[LSmartcrate$Track;", true)
  | 1 => ("Smartcrate", "allTags", "[LSmartcrate$Tag;", true)
  | 2 => ("Smartcrate", "allRules", "[LSmartcrate$Rule;", true)
  | 3 => ("Smartcrate", "allLists", "[LSmartcrate$Crate;", true)
  | 4 => ("Smartcrate", "tracksAdded", "I", false)
  | 5 => ("Smartcrate", "tracksLeft", "I", false)
  | 6 => ("Smartcrate", "tagCount", "I", false)
  | 7 => ("Smartcrate", "ruleCount", "I", false)
  | 8 => ("Smartcrate", "listCount", "I", false)
  | 9 => ("Smartcrate", "kept", "[I", true)
  | 10 => ("Smartcrate", "keptAhead", "[I", true)
  | 11 => ("Smartcrate", "byRounds", "[I", true)
  | 12 => ("Smartcrate", "distanceTable", "[[I", true)
  | 13 => ("Smartcrate", "goneLatest", "LSmartcrate$Tag;", false)
  | 14 => ("Smartcrate", "day", "I", false)
  | 15 => ("Smartcrate", "secondsPlayed", "J", false)
  | _ => ("Smartcrate", "listsTouched", "I", false)
def tyX4 : Nat → FieldType := fun k => match k with
  | 0 => .array (.object "Smartcrate$Track")
  | 1 => .array (.object "Smartcrate$Tag")
  | 2 => .array (.object "Smartcrate$Rule")
  | 3 => .array (.object "Smartcrate$Crate")
  | 4 => .int
  | 5 => .int
  | 6 => .int
  | 7 => .int
  | 8 => .int
  | 9 => .array .int
  | 10 => .array .int
  | 11 => .array .int
  | 12 => .array (.array .int)
  | 13 => .object "Smartcrate$Tag"
  | 14 => .int
  | 15 => .long
  | _ => .int
abbrev wsX40 : List Cond := u_ws RX4 TX4 17
theorem nmX4 : ∀ a, a < 17 → ∀ b, b < 17 → a ≠ b → (TX4 a).2.1 ≠ (TX4 b).2.1 := by decide +kernel
theorem tyX4_ok : ∀ k, k < 17 → parseFieldDescriptor (TX4 k).2.2.1 = some (tyX4 k) := by decide +kernel
abbrev cX4_init : ByteArray := prog_1_method_1_code
def yX4_init : MethodName := ⟨RX4, "<init>", "()V"⟩
abbrev cX4_addTrack : ByteArray := prog_1_method_2_code
def yX4_addTrack : MethodName := ⟨RX4, "addTrack", "(II)I"⟩
abbrev cX4_removeTrack : ByteArray := prog_1_method_3_code
def yX4_removeTrack : MethodName := ⟨RX4, "removeTrack", "(I)I"⟩
abbrev cX4_setRating : ByteArray := prog_1_method_4_code
def yX4_setRating : MethodName := ⟨RX4, "setRating", "(II)I"⟩
abbrev cX4_play : ByteArray := prog_1_method_5_code
def yX4_play : MethodName := ⟨RX4, "play", "(I)I"⟩
abbrev cX4_pass : ByteArray := prog_1_method_6_code
def yX4_pass : MethodName := ⟨RX4, "pass", "(I)I"⟩
abbrev cX4_addTag : ByteArray := prog_1_method_7_code
def yX4_addTag : MethodName := ⟨RX4, "addTag", "()I"⟩
abbrev cX4_letter : ByteArray := prog_1_method_8_code
def yX4_letter : MethodName := ⟨RX4, "letter", "(IC)I"⟩
abbrev cX4_tag : ByteArray := prog_1_method_9_code
def yX4_tag : MethodName := ⟨RX4, "tag", "(II)I"⟩
abbrev cX4_untag : ByteArray := prog_1_method_10_code
def yX4_untag : MethodName := ⟨RX4, "untag", "(II)I"⟩
abbrev cX4_tidy : ByteArray := prog_1_method_11_code
def yX4_tidy : MethodName := ⟨RX4, "tidy", "(II)I"⟩
abbrev cX4_undoTidy : ByteArray := prog_1_method_12_code
def yX4_undoTidy : MethodName := ⟨RX4, "undoTidy", "()I"⟩
abbrev cX4_hasTag : ByteArray := prog_1_method_13_code
def yX4_hasTag : MethodName := ⟨RX4, "hasTag", "(I)I"⟩
abbrev cX4_rated : ByteArray := prog_1_method_14_code
def yX4_rated : MethodName := ⟨RX4, "rated", "(I)I"⟩
abbrev cX4_playedAtMost : ByteArray := prog_1_method_15_code
def yX4_playedAtMost : MethodName := ⟨RX4, "playedAtMost", "(I)I"⟩
abbrev cX4_asLongAs : ByteArray := prog_1_method_16_code
def yX4_asLongAs : MethodName := ⟨RX4, "asLongAs", "(I)I"⟩
abbrev cX4_playedWithin : ByteArray := prog_1_method_17_code
def yX4_playedWithin : MethodName := ⟨RX4, "playedWithin", "(I)I"⟩
abbrev cX4_inList : ByteArray := prog_1_method_18_code
def yX4_inList : MethodName := ⟨RX4, "inList", "(I)I"⟩
abbrev cX4_both : ByteArray := prog_1_method_19_code
def yX4_both : MethodName := ⟨RX4, "both", "(II)I"⟩
abbrev cX4_either : ByteArray := prog_1_method_20_code
def yX4_either : MethodName := ⟨RX4, "either", "(II)I"⟩
abbrev cX4_not : ByteArray := prog_1_method_21_code
def yX4_not : MethodName := ⟨RX4, "not", "(I)I"⟩
abbrev cX4_addList : ByteArray := prog_1_method_22_code
def yX4_addList : MethodName := ⟨RX4, "addList", "(ICI)I"⟩
abbrev cX4_setRule : ByteArray := prog_1_method_23_code
def yX4_setRule : MethodName := ⟨RX4, "setRule", "(II)I"⟩
abbrev cX4_setOrder : ByteArray := prog_1_method_24_code
def yX4_setOrder : MethodName := ⟨RX4, "setOrder", "(IC)C"⟩
abbrev cX4_setLimit : ByteArray := prog_1_method_25_code
def yX4_setLimit : MethodName := ⟨RX4, "setLimit", "(II)I"⟩
abbrev cX4_tracks : ByteArray := prog_1_method_26_code
def yX4_tracks : MethodName := ⟨RX4, "tracks", "()I"⟩
abbrev cX4_today : ByteArray := prog_1_method_27_code
def yX4_today : MethodName := ⟨RX4, "today", "()I"⟩
abbrev cX4_lengthOf : ByteArray := prog_1_method_28_code
def yX4_lengthOf : MethodName := ⟨RX4, "lengthOf", "(I)I"⟩
abbrev cX4_ratingOf : ByteArray := prog_1_method_29_code
def yX4_ratingOf : MethodName := ⟨RX4, "ratingOf", "(I)I"⟩
abbrev cX4_playsOf : ByteArray := prog_1_method_30_code
def yX4_playsOf : MethodName := ⟨RX4, "playsOf", "(I)I"⟩
abbrev cX4_playedLast : ByteArray := prog_1_method_31_code
def yX4_playedLast : MethodName := ⟨RX4, "playedLast", "(I)I"⟩
abbrev cX4_tagBits : ByteArray := prog_1_method_32_code
def yX4_tagBits : MethodName := ⟨RX4, "tagBits", "(I)I"⟩
abbrev cX4_nameLength : ByteArray := prog_1_method_33_code
def yX4_nameLength : MethodName := ⟨RX4, "nameLength", "(I)I"⟩
abbrev cX4_nameAt : ByteArray := prog_1_method_34_code
def yX4_nameAt : MethodName := ⟨RX4, "nameAt", "(II)C"⟩
abbrev cX4_distance : ByteArray := prog_1_method_35_code
def yX4_distance : MethodName := ⟨RX4, "distance", "(II)I"⟩
abbrev cX4_distanceByTrying : ByteArray := prog_1_method_36_code
def yX4_distanceByTrying : MethodName := ⟨RX4, "distanceByTrying", "(II)I"⟩
abbrev cX4_nearest : ByteArray := prog_1_method_37_code
def yX4_nearest : MethodName := ⟨RX4, "nearest", "(I)I"⟩
abbrev cX4_sizeOf : ByteArray := prog_1_method_38_code
def yX4_sizeOf : MethodName := ⟨RX4, "sizeOf", "(I)I"⟩
abbrev cX4_holds : ByteArray := prog_1_method_39_code
def yX4_holds : MethodName := ⟨RX4, "holds", "(II)Z"⟩
abbrev cX4_matches : ByteArray := prog_1_method_40_code
def yX4_matches : MethodName := ⟨RX4, "matches", "(I)I"⟩
abbrev cX4_size : ByteArray := prog_1_method_41_code
def yX4_size : MethodName := ⟨RX4, "size", "(I)I"⟩
abbrev cX4_trackAt : ByteArray := prog_1_method_42_code
def yX4_trackAt : MethodName := ⟨RX4, "trackAt", "(II)I"⟩
abbrev cX4_contains : ByteArray := prog_1_method_43_code
def yX4_contains : MethodName := ⟨RX4, "contains", "(II)Z"⟩
abbrev cX4_containsByRounds : ByteArray := prog_1_method_44_code
def yX4_containsByRounds : MethodName := ⟨RX4, "containsByRounds", "(II)Z"⟩
abbrev cX4_secondsOf : ByteArray := prog_1_method_45_code
def yX4_secondsOf : MethodName := ⟨RX4, "secondsOf", "(I)I"⟩
abbrev cX4_common : ByteArray := prog_1_method_46_code
def yX4_common : MethodName := ⟨RX4, "common", "(II)I"⟩
abbrev cX4_dependsOn : ByteArray := prog_1_method_47_code
def yX4_dependsOn : MethodName := ⟨RX4, "dependsOn", "(II)Z"⟩
abbrev cX4_mixes : ByteArray := prog_1_method_49_code
def yX4_mixes : MethodName := ⟨RX4, "mixes", "(I)I"⟩
abbrev cX4_listedShare : ByteArray := prog_1_method_51_code
def yX4_listedShare : MethodName := ⟨RX4, "listedShare", "()F"⟩
abbrev cX4_meanLength : ByteArray := prog_1_method_52_code
def yX4_meanLength : MethodName := ⟨RX4, "meanLength", "(I)D"⟩
abbrev cX4_trackOrNull : ByteArray := prog_1_method_53_code
def yX4_trackOrNull : MethodName := ⟨RX4, "trackOrNull", "(I)LSmartcrate$Track;"⟩
abbrev cX4_needTrack : ByteArray := prog_1_method_54_code
def yX4_needTrack : MethodName := ⟨RX4, "needTrack", "(I)LSmartcrate$Track;"⟩
abbrev cX4_tagOrNull : ByteArray := prog_1_method_55_code
def yX4_tagOrNull : MethodName := ⟨RX4, "tagOrNull", "(I)LSmartcrate$Tag;"⟩
abbrev cX4_needTag : ByteArray := prog_1_method_56_code
def yX4_needTag : MethodName := ⟨RX4, "needTag", "(I)LSmartcrate$Tag;"⟩
abbrev cX4_needRule : ByteArray := prog_1_method_57_code
def yX4_needRule : MethodName := ⟨RX4, "needRule", "(I)LSmartcrate$Rule;"⟩
abbrev cX4_listOrNull : ByteArray := prog_1_method_58_code
def yX4_listOrNull : MethodName := ⟨RX4, "listOrNull", "(I)LSmartcrate$Crate;"⟩
abbrev cX4_needList : ByteArray := prog_1_method_59_code
def yX4_needList : MethodName := ⟨RX4, "needList", "(I)LSmartcrate$Crate;"⟩
abbrev cX4_needRange : ByteArray := prog_1_method_60_code
def yX4_needRange : MethodName := ⟨RX4, "needRange", "(III)V"⟩
abbrev cX4_needOrder : ByteArray := prog_1_method_61_code
def yX4_needOrder : MethodName := ⟨RX4, "needOrder", "(C)V"⟩
abbrev cX4_hasBit : ByteArray := prog_1_method_62_code
def yX4_hasBit : MethodName := ⟨RX4, "hasBit", "(II)Z"⟩
abbrev cX4_changeTags : ByteArray := prog_1_method_63_code
def yX4_changeTags : MethodName := ⟨RX4, "changeTags", "(LSmartcrate$Track;I)I"⟩
abbrev cX4_moveTag : ByteArray := prog_1_method_64_code
def yX4_moveTag : MethodName := ⟨RX4, "moveTag", "(LSmartcrate$Tag;LSmartcrate$Tag;)I"⟩
abbrev cX4_bitMeant : ByteArray := prog_1_method_65_code
def yX4_bitMeant : MethodName := ⟨RX4, "bitMeant", "(I)I"⟩
abbrev cX4_distanceByTable : ByteArray := prog_1_method_66_code
def yX4_distanceByTable : MethodName := ⟨RX4, "distanceByTable", "(LSmartcrate$Tag;LSmartcrate$Tag;)I"⟩
abbrev cX4_leastByTrying : ByteArray := prog_1_method_67_code
def yX4_leastByTrying : MethodName := ⟨RX4, "leastByTrying", "(LSmartcrate$Tag;ILSmartcrate$Tag;I)I"⟩
abbrev cX4_addRule : ByteArray := prog_1_method_68_code
def yX4_addRule : MethodName := ⟨RX4, "addRule", "(IILSmartcrate$Rule;LSmartcrate$Rule;)I"⟩
abbrev cX4_tracksMeeting : ByteArray := prog_1_method_69_code
def yX4_tracksMeeting : MethodName := ⟨RX4, "tracksMeeting", "(LSmartcrate$Rule;[I)I"⟩
abbrev cX4_tracksThere : ByteArray := prog_1_method_70_code
def yX4_tracksThere : MethodName := ⟨RX4, "tracksThere", "()I"⟩
abbrev cX4_tracksTagged : ByteArray := prog_1_method_71_code
def yX4_tracksTagged : MethodName := ⟨RX4, "tracksTagged", "(I)I"⟩
abbrev cX4_tracksMeetingNumber : ByteArray := prog_1_method_72_code
def yX4_tracksMeetingNumber : MethodName := ⟨RX4, "tracksMeetingNumber", "(II)I"⟩
abbrev cX4_meetsNumber : ByteArray := prog_1_method_73_code
def yX4_meetsNumber : MethodName := ⟨RX4, "meetsNumber", "(LSmartcrate$Track;II)Z"⟩
abbrev cX4_withListsBehind : ByteArray := prog_1_method_74_code
def yX4_withListsBehind : MethodName := ⟨RX4, "withListsBehind", "(I)I"⟩
abbrev cX4_update : ByteArray := prog_1_method_75_code
def yX4_update : MethodName := ⟨RX4, "update", "()V"⟩
abbrev cX4_fillKept : ByteArray := prog_1_method_76_code
def yX4_fillKept : MethodName := ⟨RX4, "fillKept", "()V"⟩
abbrev cX4_fillByRounds : ByteArray := prog_1_method_77_code
def yX4_fillByRounds : MethodName := ⟨RX4, "fillByRounds", "()V"⟩
abbrev cX4_chosen : ByteArray := prog_1_method_78_code
def yX4_chosen : MethodName := ⟨RX4, "chosen", "(LSmartcrate$Crate;[I)I"⟩
abbrev cX4_firstOf : ByteArray := prog_1_method_79_code
def yX4_firstOf : MethodName := ⟨RX4, "firstOf", "(IC)I"⟩
abbrev cX4_placeIn : ByteArray := prog_1_method_80_code
def yX4_placeIn : MethodName := ⟨RX4, "placeIn", "(LSmartcrate$Track;C)I"⟩
abbrev cX4_lengthsOf : ByteArray := prog_1_method_81_code
def yX4_lengthsOf : MethodName := ⟨RX4, "lengthsOf", "(I)I"⟩
def RX5 : String := "SmartcrateModel"
def TX5 : u_T := fun k => match k with
  | _ => ("", "", "", false)
def tyX5 : Nat → FieldType := fun k => match k with
  | _ => .int
abbrev wsX50 : List Cond := u_ws RX5 TX5 0
theorem nmX5 : ∀ a, a < 0 → ∀ b, b < 0 → a ≠ b → (TX5 a).2.1 ≠ (TX5 b).2.1 := by decide +kernel
theorem tyX5_ok : ∀ k, k < 0 → parseFieldDescriptor (TX5 k).2.2.1 = some (tyX5 k) := by decide +kernel
def RJx145de : String := "java/io/Serializable"
def TJx145de : u_T := fun k => match k with
  | _ => ("", "", "", false)
def tyJx145de : Nat → FieldType := fun k => match k with
  | _ => .int
abbrev wsJx145de0 : List Cond := u_ws RJx145de TJx145de 0
theorem nmJx145de : ∀ a, a < 0 → ∀ b, b < 0 → a ≠ b → (TJx145de a).2.1 ≠ (TJx145de b).2.1 := by decide +kernel
theorem tyJx145de_ok : ∀ k, k < 0 → parseFieldDescriptor (TJx145de k).2.2.1 = some (tyJx145de k) := by decide +kernel
def RJx00060 : String := "java/lang/ArrayIndexOutOfBoundsException"
def TJx00060 : u_T := fun k => match k with
  | 0 => ("java/lang/Throwable", "backtrace", "Ljava/lang/Object;", false)
  | 1 => ("java/lang/Throwable", "detailMessage", "Ljava/lang/String;", false)
  | 2 => ("java/lang/Throwable", "cause", "Ljava/lang/Throwable;", false)
  | 3 => ("java/lang/Throwable", "stackTrace", "[Ljava/lang/StackTraceElement;", false)
  | 4 => ("java/lang/Throwable", "depth", "I", false)
  | _ => ("java/lang/Throwable", "suppressedExceptions", "Ljava/util/List;", false)
def tyJx00060 : Nat → FieldType := fun k => match k with
  | 0 => .object "java/lang/Object"
  | 1 => .object "java/lang/String"
  | 2 => .object "java/lang/Throwable"
  | 3 => .array (.object "java/lang/StackTraceElement")
  | 4 => .int
  | _ => .object "java/util/List"
abbrev wsJx000600 : List Cond := u_ws RJx00060 TJx00060 6
theorem nmJx00060 : ∀ a, a < 6 → ∀ b, b < 6 → a ≠ b → (TJx00060 a).2.1 ≠ (TJx00060 b).2.1 := by decide +kernel
theorem tyJx00060_ok : ∀ k, k < 6 → parseFieldDescriptor (TJx00060 k).2.2.1 = some (tyJx00060 k) := by decide +kernel
abbrev cJx00060_init_a7421 : ByteArray := prog_10_method_2_code
def yJx00060_init_a7421 : MethodName := ⟨RJx00060, "<init>", "(Ljava/lang/String;)V"⟩
def RJ6 : String := "java/lang/Integer"
def TJ6 : u_T := fun k => match k with
  | _ => ("", "", "", false)
def tyJ6 : Nat → FieldType := fun k => match k with
  | _ => .int
abbrev wsJ60 : List Cond := u_ws RJ6 TJ6 0
theorem nmJ6 : ∀ a, a < 0 → ∀ b, b < 0 → a ≠ b → (TJ6 a).2.1 ≠ (TJ6 b).2.1 := by decide +kernel
theorem tyJ6_ok : ∀ k, k < 0 → parseFieldDescriptor (TJ6 k).2.2.1 = some (tyJ6 k) := by decide +kernel
abbrev cJ6_bitCount_0f7a4 : ByteArray := prog_15_method_49_code
def yJ6_bitCount_0f7a4 : MethodName := ⟨RJ6, "bitCount", "(I)I"⟩
def RJ9 : String := "java/lang/Math"
def TJ9 : u_T := fun k => match k with
  | _ => ("", "", "", false)
def tyJ9 : Nat → FieldType := fun k => match k with
  | _ => .int
abbrev wsJ90 : List Cond := u_ws RJ9 TJ9 0
theorem nmJ9 : ∀ a, a < 0 → ∀ b, b < 0 → a ≠ b → (TJ9 a).2.1 ≠ (TJ9 b).2.1 := by decide +kernel
theorem tyJ9_ok : ∀ k, k < 0 → parseFieldDescriptor (TJ9 k).2.2.1 = some (tyJ9 k) := by decide +kernel
abbrev cJ9_max_7cf53 : ByteArray := prog_16_method_65_code
def yJ9_max_7cf53 : MethodName := ⟨RJ9, "max", "(II)I"⟩
abbrev cJ9_min_7cf53 : ByteArray := prog_16_method_69_code
def yJ9_min_7cf53 : MethodName := ⟨RJ9, "min", "(II)I"⟩
def RJ0 : String := "java/lang/String"
def TJ0 : u_T := fun k => match k with
  | 0 => ("java/lang/String", "value", "[B", true)
  | _ => ("java/lang/String", "coder", "B", true)
def tyJ0 : Nat → FieldType := fun k => match k with
  | 0 => .array .byte
  | _ => .byte
abbrev wsJ00 : List Cond := u_ws RJ0 TJ0 2
theorem nmJ0 : ∀ a, a < 2 → ∀ b, b < 2 → a ≠ b → (TJ0 a).2.1 ≠ (TJ0 b).2.1 := by decide +kernel
theorem tyJ0_ok : ∀ k, k < 2 → parseFieldDescriptor (TJ0 k).2.2.1 = some (tyJ0 k) := by decide +kernel
def RJ10 : String := "java/lang/System"
def TJ10 : u_T := fun k => match k with
  | _ => ("", "", "", false)
def tyJ10 : Nat → FieldType := fun k => match k with
  | _ => .int
abbrev wsJ100 : List Cond := u_ws RJ10 TJ10 0
theorem nmJ10 : ∀ a, a < 0 → ∀ b, b < 0 → a ≠ b → (TJ10 a).2.1 ≠ (TJ10 b).2.1 := by decide +kernel
theorem tyJ10_ok : ∀ k, k < 0 → parseFieldDescriptor (TJ10 k).2.2.1 = some (tyJ10 k) := by decide +kernel
def RJ7 : String := "java/util/Arrays"
def TJ7 : u_T := fun k => match k with
  | _ => ("", "", "", false)
def tyJ7 : Nat → FieldType := fun k => match k with
  | _ => .int
abbrev wsJ70 : List Cond := u_ws RJ7 TJ7 0
theorem nmJ7 : ∀ a, a < 0 → ∀ b, b < 0 → a ≠ b → (TJ7 a).2.1 ≠ (TJ7 b).2.1 := by decide +kernel
theorem tyJ7_ok : ∀ k, k < 0 → parseFieldDescriptor (TJ7 k).2.2.1 = some (tyJ7 k) := by decide +kernel
abbrev cJ7_fill_53178 : ByteArray := prog_22_method_103_code
def yJ7_fill_53178 : MethodName := ⟨RJ7, "fill", "([II)V"⟩
def RL : String := "SmartcrateLaw"
abbrev cL_cell : ByteArray := method_2_code
def yL_cell : MethodName := ⟨RL, "cell", "([II)I"⟩
abbrev cL_pick : ByteArray := method_3_code
def yL_pick : MethodName := ⟨RL, "pick", "([III)I"⟩
abbrev cL_told : ByteArray := method_4_code
def yL_told : MethodName := ⟨RL, "told", "(Z)I"⟩
abbrev cL_plain : ByteArray := method_5_code
def yL_plain : MethodName := ⟨RL, "plain", "(LSmartcrate;IIII)I"⟩
abbrev cL_deed : ByteArray := method_6_code
def yL_deed : MethodName := ⟨RL, "deed", "(LSmartcrate;IIII)I"⟩
abbrev cL_asked : ByteArray := method_7_code
def yL_asked : MethodName := ⟨RL, "asked", "(LSmartcrate;III)I"⟩
abbrev cL_ask : ByteArray := method_8_code
def yL_ask : MethodName := ⟨RL, "ask", "(LSmartcrate;III)I"⟩
abbrev cL_order : ByteArray := method_9_code
def yL_order : MethodName := ⟨RL, "order", "(I)C"⟩
abbrev cL_rule : ByteArray := method_10_code
def yL_rule : MethodName := ⟨RL, "rule", "(LSmartcrate;[IIII)I"⟩
abbrev cL_adds : ByteArray := method_11_code
def yL_adds : MethodName := ⟨RL, "adds", "(LSmartcrate;[I[II)Z"⟩
abbrev cL_lists : ByteArray := method_12_code
def yL_lists : MethodName := ⟨RL, "lists", "(LSmartcrate;[I[II)Z"⟩
abbrev cL_acts : ByteArray := method_13_code
def yL_acts : MethodName := ⟨RL, "acts", "(LSmartcrate;[I[II)Z"⟩
abbrev cL_holds : ByteArray := method_14_code
def yL_holds : MethodName := ⟨RL, "holds", "(LSmartcrate;[III)Z"⟩
abbrev cL_areRules : ByteArray := method_15_code
def yL_areRules : MethodName := ⟨RL, "areRules", "(LSmartcrate;[I)Z"⟩
abbrev cL_isAhead : ByteArray := method_16_code
def yL_isAhead : MethodName := ⟨RL, "isAhead", "(LSmartcrate;III)Z"⟩
abbrev cL_isList : ByteArray := method_17_code
def yL_isList : MethodName := ⟨RL, "isList", "(LSmartcrate;[II)Z"⟩
abbrev cL_areLists : ByteArray := method_18_code
def yL_areLists : MethodName := ⟨RL, "areLists", "(LSmartcrate;[I)Z"⟩
abbrev cL_law : ByteArray := code
def yL_law : MethodName := ⟨RL, "law", "([I)Z"⟩
abbrev vwCl : List vw_C := [(RJ0, TJ0, 2), (RJx00060, TJx00060, 6), (RX0, TX0, 3), (RX1, TX1, 7), (RX2, TX2, 6), (RX3, TX3, 6), (RX4, TX4, 17)]
