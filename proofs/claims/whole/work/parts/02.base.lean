/-! ===== BEGIN printed: names, fields, word lists, decode rows ===== -/
def RX0 : String := "StageConsole$Channel"
def TX0 : u_T := fun k => match k with
  | 0 => ("StageConsole$Channel", "cueLevel", "I", false)
  | 1 => ("StageConsole$Channel", "fadeTicks", "I", false)
  | 2 => ("StageConsole$Channel", "fadeTicksDone", "I", false)
  | 3 => ("StageConsole$Channel", "fadeFrom", "I", false)
  | 4 => ("StageConsole$Channel", "fadeTo", "I", false)
  | 5 => ("StageConsole$Channel", "fadeCurve", "C", false)
  | 6 => ("StageConsole$Channel", "isLatest", "Z", false)
  | 7 => ("StageConsole$Channel", "source", "I", false)
  | _ => ("StageConsole$Channel", "parkedAt", "I", false)
def tyX0 : Nat → FieldType := fun k => match k with
  | 0 => .int
  | 1 => .int
  | 2 => .int
  | 3 => .int
  | 4 => .int
  | 5 => .char
  | 6 => .boolean
  | 7 => .int
  | _ => .int
abbrev wsX00 : List Cond := u_ws RX0 TX0 9
theorem nmX0 : ∀ a, a < 9 → ∀ b, b < 9 → a ≠ b → (TX0 a).2.1 ≠ (TX0 b).2.1 := by decide +kernel
theorem tyX0_ok : ∀ k, k < 9 → parseFieldDescriptor (TX0 k).2.2.1 = some (tyX0 k) := by decide +kernel
abbrev cX0_init : ByteArray := prog_2_method_1_code
def yX0_init : MethodName := ⟨RX0, "<init>", "()V"⟩
abbrev cX0_follow : ByteArray := prog_2_method_2_code
def yX0_follow : MethodName := ⟨RX0, "follow", "(IIC)V"⟩
abbrev cX0_fadeTicksLeft : ByteArray := prog_2_method_3_code
def yX0_fadeTicksLeft : MethodName := ⟨RX0, "fadeTicksLeft", "()I"⟩
abbrev cX0_fadeOneTick : ByteArray := prog_2_method_4_code
def yX0_fadeOneTick : MethodName := ⟨RX0, "fadeOneTick", "()V"⟩
abbrev cX0_fadedPart : ByteArray := prog_2_method_5_code
def yX0_fadedPart : MethodName := ⟨RX0, "fadedPart", "(III)I"⟩
def RX1 : String := "StageConsole$Cue"
def TX1 : u_T := fun k => match k with
  | 0 => ("StageConsole$Cue", "number", "I", true)
  | 1 => ("StageConsole$Cue", "ticks", "I", true)
  | 2 => ("StageConsole$Cue", "curve", "C", true)
  | 3 => ("StageConsole$Cue", "isBlock", "Z", false)
  | _ => ("StageConsole$Cue", "changes", "[I", true)
def tyX1 : Nat → FieldType := fun k => match k with
  | 0 => .int
  | 1 => .int
  | 2 => .char
  | 3 => .boolean
  | _ => .array .int
abbrev wsX10 : List Cond := u_ws RX1 TX1 5
theorem nmX1 : ∀ a, a < 5 → ∀ b, b < 5 → a ≠ b → (TX1 a).2.1 ≠ (TX1 b).2.1 := by decide +kernel
theorem tyX1_ok : ∀ k, k < 5 → parseFieldDescriptor (TX1 k).2.2.1 = some (tyX1 k) := by decide +kernel
abbrev cX1_init : ByteArray := prog_3_method_1_code
def yX1_init : MethodName := ⟨RX1, "<init>", "(IIC)V"⟩
def RX2 : String := "StageConsole$Effect"
def TX2 : u_T := fun k => match k with
  | 0 => ("StageConsole$Effect", "group", "LStageConsole$Group;", true)
  | 1 => ("StageConsole$Effect", "shape", "C", true)
  | 2 => ("StageConsole$Effect", "period", "I", true)
  | 3 => ("StageConsole$Effect", "size", "I", true)
  | 4 => ("StageConsole$Effect", "spread", "I", true)
  | 5 => ("StageConsole$Effect", "isRunning", "Z", false)
  | _ => ("StageConsole$Effect", "startedAt", "I", false)
def tyX2 : Nat → FieldType := fun k => match k with
  | 0 => .object "StageConsole$Group"
  | 1 => .char
  | 2 => .int
  | 3 => .int
  | 4 => .int
  | 5 => .boolean
  | _ => .int
abbrev wsX20 : List Cond := u_ws RX2 TX2 7
theorem nmX2 : ∀ a, a < 7 → ∀ b, b < 7 → a ≠ b → (TX2 a).2.1 ≠ (TX2 b).2.1 := by decide +kernel
theorem tyX2_ok : ∀ k, k < 7 → parseFieldDescriptor (TX2 k).2.2.1 = some (tyX2 k) := by decide +kernel
abbrev cX2_init : ByteArray := prog_4_method_1_code
def yX2_init : MethodName := ⟨RX2, "<init>", "(LStageConsole$Group;CIII)V"⟩
abbrev cX2_valueAt : ByteArray := prog_4_method_2_code
def yX2_valueAt : MethodName := ⟨RX2, "valueAt", "(II)I"⟩
def RX3 : String := "StageConsole$Group"
def TX3 : u_T := fun k => match k with
  | 0 => ("StageConsole$Group", "members", "[Z", true)
  | _ => ("StageConsole$Group", "fader", "I", false)
def tyX3 : Nat → FieldType := fun k => match k with
  | 0 => .array .boolean
  | _ => .int
abbrev wsX30 : List Cond := u_ws RX3 TX3 2
theorem nmX3 : ∀ a, a < 2 → ∀ b, b < 2 → a ≠ b → (TX3 a).2.1 ≠ (TX3 b).2.1 := by decide +kernel
theorem tyX3_ok : ∀ k, k < 2 → parseFieldDescriptor (TX3 k).2.2.1 = some (tyX3 k) := by decide +kernel
abbrev cX3_init : ByteArray := prog_5_method_1_code
def yX3_init : MethodName := ⟨RX3, "<init>", "()V"⟩
abbrev cX3_membersBelow : ByteArray := prog_5_method_2_code
def yX3_membersBelow : MethodName := ⟨RX3, "membersBelow", "(I)I"⟩
def RX4 : String := "StageConsole$Step"
def TX4 : u_T := fun k => match k with
  | 0 => ("StageConsole$Step", "call", "C", true)
  | 1 => ("StageConsole$Step", "first", "I", true)
  | _ => ("StageConsole$Step", "second", "I", true)
def tyX4 : Nat → FieldType := fun k => match k with
  | 0 => .char
  | 1 => .int
  | _ => .int
abbrev wsX40 : List Cond := u_ws RX4 TX4 3
theorem nmX4 : ∀ a, a < 3 → ∀ b, b < 3 → a ≠ b → (TX4 a).2.1 ≠ (TX4 b).2.1 := by decide +kernel
theorem tyX4_ok : ∀ k, k < 3 → parseFieldDescriptor (TX4 k).2.2.1 = some (tyX4 k) := by decide +kernel
abbrev cX4_init : ByteArray := prog_6_method_1_code
def yX4_init : MethodName := ⟨RX4, "<init>", "(CII)V"⟩
def RX5 : String := "StageConsole"
def TX5 : u_T := fun k => match k with
  | 0 => ("StageConsole", "cueList", "Ljava/util/ArrayList;", true)
  | 1 => ("StageConsole", "playedNumber", "I", false)
  | 2 => ("StageConsole", "now", "I", false)
  | 3 => ("StageConsole", "channels", "[LStageConsole$Channel;", true)
  | 4 => ("StageConsole", "groups", "Ljava/util/ArrayList;", true)
  | 5 => ("StageConsole", "effects", "Ljava/util/ArrayList;", true)
  | 6 => ("StageConsole", "master", "I", false)
  | 7 => ("StageConsole", "levelRow", "[I", true)
  | 8 => ("StageConsole", "energySum", "J", false)
  | 9 => ("StageConsole", "steps", "Ljava/util/ArrayList;", true)
  | _ => ("StageConsole", "lastFault", "C", false)
def tyX5 : Nat → FieldType := fun k => match k with
  | 0 => .object "java/util/ArrayList"
  | 1 => .int
  | 2 => .int
  | 3 => .array (.object "StageConsole$Channel")
  | 4 => .object "java/util/ArrayList"
  | 5 => .object "java/util/ArrayList"
  | 6 => .int
  | 7 => .array .int
  | 8 => .long
  | 9 => .object "java/util/ArrayList"
  | _ => .char
abbrev wsX50 : List Cond := u_ws RX5 TX5 11
theorem nmX5 : ∀ a, a < 11 → ∀ b, b < 11 → a ≠ b → (TX5 a).2.1 ≠ (TX5 b).2.1 := by decide +kernel
theorem tyX5_ok : ∀ k, k < 11 → parseFieldDescriptor (TX5 k).2.2.1 = some (tyX5 k) := by decide +kernel
abbrev cX5_init : ByteArray := prog_1_method_1_code
def yX5_init : MethodName := ⟨RX5, "<init>", "()V"⟩
abbrev cX5_addCue : ByteArray := prog_1_method_2_code
def yX5_addCue : MethodName := ⟨RX5, "addCue", "(IIC)I"⟩
abbrev cX5_removeCue : ByteArray := prog_1_method_3_code
def yX5_removeCue : MethodName := ⟨RX5, "removeCue", "(I)I"⟩
abbrev cX5_setChange : ByteArray := prog_1_method_4_code
def yX5_setChange : MethodName := ⟨RX5, "setChange", "(III)I"⟩
abbrev cX5_removeChange : ByteArray := prog_1_method_5_code
def yX5_removeChange : MethodName := ⟨RX5, "removeChange", "(II)I"⟩
abbrev cX5_setBlock : ByteArray := prog_1_method_6_code
def yX5_setBlock : MethodName := ⟨RX5, "setBlock", "(IZ)Z"⟩
abbrev cX5_trackedLevel : ByteArray := prog_1_method_7_code
def yX5_trackedLevel : MethodName := ⟨RX5, "trackedLevel", "(II)I"⟩
abbrev cX5_cues : ByteArray := prog_1_method_8_code
def yX5_cues : MethodName := ⟨RX5, "cues", "()I"⟩
abbrev cX5_go : ByteArray := prog_1_method_9_code
def yX5_go : MethodName := ⟨RX5, "go", "()I"⟩
abbrev cX5_back : ByteArray := prog_1_method_10_code
def yX5_back : MethodName := ⟨RX5, "back", "()I"⟩
abbrev cX5_goTo : ByteArray := prog_1_method_11_code
def yX5_goTo : MethodName := ⟨RX5, "goTo", "(I)I"⟩
abbrev cX5_pass : ByteArray := prog_1_method_12_code
def yX5_pass : MethodName := ⟨RX5, "pass", "(I)I"⟩
abbrev cX5_currentCue : ByteArray := prog_1_method_13_code
def yX5_currentCue : MethodName := ⟨RX5, "currentCue", "()I"⟩
abbrev cX5_cueLevel : ByteArray := prog_1_method_14_code
def yX5_cueLevel : MethodName := ⟨RX5, "cueLevel", "(I)I"⟩
abbrev cX5_ticksLeft : ByteArray := prog_1_method_15_code
def yX5_ticksLeft : MethodName := ⟨RX5, "ticksLeft", "()I"⟩
abbrev cX5_addGroup : ByteArray := prog_1_method_16_code
def yX5_addGroup : MethodName := ⟨RX5, "addGroup", "()I"⟩
abbrev cX5_setMember : ByteArray := prog_1_method_17_code
def yX5_setMember : MethodName := ⟨RX5, "setMember", "(IIZ)Z"⟩
abbrev cX5_setFader : ByteArray := prog_1_method_18_code
def yX5_setFader : MethodName := ⟨RX5, "setFader", "(II)I"⟩
abbrev cX5_setLatest : ByteArray := prog_1_method_19_code
def yX5_setLatest : MethodName := ⟨RX5, "setLatest", "(IZ)Z"⟩
abbrev cX5_latestSource : ByteArray := prog_1_method_20_code
def yX5_latestSource : MethodName := ⟨RX5, "latestSource", "(I)I"⟩
abbrev cX5_baseLevel : ByteArray := prog_1_method_21_code
def yX5_baseLevel : MethodName := ⟨RX5, "baseLevel", "(I)I"⟩
abbrev cX5_addEffect : ByteArray := prog_1_method_22_code
def yX5_addEffect : MethodName := ⟨RX5, "addEffect", "(ICIII)I"⟩
abbrev cX5_startEffect : ByteArray := prog_1_method_23_code
def yX5_startEffect : MethodName := ⟨RX5, "startEffect", "(I)I"⟩
abbrev cX5_stopEffect : ByteArray := prog_1_method_24_code
def yX5_stopEffect : MethodName := ⟨RX5, "stopEffect", "(I)I"⟩
abbrev cX5_effectOn : ByteArray := prog_1_method_25_code
def yX5_effectOn : MethodName := ⟨RX5, "effectOn", "(II)I"⟩
abbrev cX5_park : ByteArray := prog_1_method_26_code
def yX5_park : MethodName := ⟨RX5, "park", "(II)I"⟩
abbrev cX5_unpark : ByteArray := prog_1_method_27_code
def yX5_unpark : MethodName := ⟨RX5, "unpark", "(I)I"⟩
abbrev cX5_setMaster : ByteArray := prog_1_method_28_code
def yX5_setMaster : MethodName := ⟨RX5, "setMaster", "(I)I"⟩
abbrev cX5_level : ByteArray := prog_1_method_29_code
def yX5_level : MethodName := ⟨RX5, "level", "(I)I"⟩
abbrev cX5_levelAlone : ByteArray := prog_1_method_30_code
def yX5_levelAlone : MethodName := ⟨RX5, "levelAlone", "(I)I"⟩
abbrev cX5_channelByLevel : ByteArray := prog_1_method_31_code
def yX5_channelByLevel : MethodName := ⟨RX5, "channelByLevel", "(I)I"⟩
abbrev cX5_energy : ByteArray := prog_1_method_32_code
def yX5_energy : MethodName := ⟨RX5, "energy", "()J"⟩
abbrev cX5_litShare : ByteArray := prog_1_method_33_code
def yX5_litShare : MethodName := ⟨RX5, "litShare", "()F"⟩
abbrev cX5_meanLevel : ByteArray := prog_1_method_34_code
def yX5_meanLevel : MethodName := ⟨RX5, "meanLevel", "()D"⟩
abbrev cX5_addStep : ByteArray := prog_1_method_35_code
def yX5_addStep : MethodName := ⟨RX5, "addStep", "(CII)I"⟩
abbrev cX5_clearMacro : ByteArray := prog_1_method_36_code
def yX5_clearMacro : MethodName := ⟨RX5, "clearMacro", "()I"⟩
abbrev cX5_runMacro : ByteArray := prog_1_method_37_code
def yX5_runMacro : MethodName := ⟨RX5, "runMacro", "()I"⟩
abbrev cX5_macroFault : ByteArray := prog_1_method_38_code
def yX5_macroFault : MethodName := ⟨RX5, "macroFault", "()C"⟩
abbrev cX5_isWithin : ByteArray := prog_1_method_39_code
def yX5_isWithin : MethodName := ⟨RX5, "isWithin", "(III)Z"⟩
abbrev cX5_isChannel : ByteArray := prog_1_method_40_code
def yX5_isChannel : MethodName := ⟨RX5, "isChannel", "(I)Z"⟩
abbrev cX5_isLevel : ByteArray := prog_1_method_41_code
def yX5_isLevel : MethodName := ⟨RX5, "isLevel", "(I)Z"⟩
abbrev cX5_isPassing : ByteArray := prog_1_method_42_code
def yX5_isPassing : MethodName := ⟨RX5, "isPassing", "(I)Z"⟩
abbrev cX5_isCurve : ByteArray := prog_1_method_43_code
def yX5_isCurve : MethodName := ⟨RX5, "isCurve", "(C)Z"⟩
abbrev cX5_isShape : ByteArray := prog_1_method_44_code
def yX5_isShape : MethodName := ⟨RX5, "isShape", "(C)Z"⟩
abbrev cX5_isStepCall : ByteArray := prog_1_method_45_code
def yX5_isStepCall : MethodName := ⟨RX5, "isStepCall", "(C)Z"⟩
abbrev cX5_isGroup : ByteArray := prog_1_method_46_code
def yX5_isGroup : MethodName := ⟨RX5, "isGroup", "(I)Z"⟩
abbrev cX5_requireChannel : ByteArray := prog_1_method_47_code
def yX5_requireChannel : MethodName := ⟨RX5, "requireChannel", "(I)V"⟩
abbrev cX5_requireLevel : ByteArray := prog_1_method_48_code
def yX5_requireLevel : MethodName := ⟨RX5, "requireLevel", "(I)V"⟩
abbrev cX5_requireGroup : ByteArray := prog_1_method_49_code
def yX5_requireGroup : MethodName := ⟨RX5, "requireGroup", "(I)V"⟩
abbrev cX5_requireEffect : ByteArray := prog_1_method_50_code
def yX5_requireEffect : MethodName := ⟨RX5, "requireEffect", "(I)V"⟩
abbrev cX5_requireCue : ByteArray := prog_1_method_51_code
def yX5_requireCue : MethodName := ⟨RX5, "requireCue", "(I)I"⟩
abbrev cX5_placeOf : ByteArray := prog_1_method_52_code
def yX5_placeOf : MethodName := ⟨RX5, "placeOf", "(I)I"⟩
abbrev cX5_hasCue : ByteArray := prog_1_method_53_code
def yX5_hasCue : MethodName := ⟨RX5, "hasCue", "(I)Z"⟩
abbrev cX5_placeAbove : ByteArray := prog_1_method_54_code
def yX5_placeAbove : MethodName := ⟨RX5, "placeAbove", "()I"⟩
abbrev cX5_placeBelow : ByteArray := prog_1_method_55_code
def yX5_placeBelow : MethodName := ⟨RX5, "placeBelow", "()I"⟩
abbrev cX5_hasCueAbove : ByteArray := prog_1_method_56_code
def yX5_hasCueAbove : MethodName := ⟨RX5, "hasCueAbove", "()Z"⟩
abbrev cX5_hasCueBelow : ByteArray := prog_1_method_57_code
def yX5_hasCueBelow : MethodName := ⟨RX5, "hasCueBelow", "()Z"⟩
abbrev cX5_trackedAt : ByteArray := prog_1_method_58_code
def yX5_trackedAt : MethodName := ⟨RX5, "trackedAt", "(II)I"⟩
abbrev cX5_playPlace : ByteArray := prog_1_method_59_code
def yX5_playPlace : MethodName := ⟨RX5, "playPlace", "(I)V"⟩
abbrev cX5_fadingChannels : ByteArray := prog_1_method_60_code
def yX5_fadingChannels : MethodName := ⟨RX5, "fadingChannels", "()I"⟩
abbrev cX5_passTicks : ByteArray := prog_1_method_61_code
def yX5_passTicks : MethodName := ⟨RX5, "passTicks", "(I)V"⟩
abbrev cX5_moveFader : ByteArray := prog_1_method_62_code
def yX5_moveFader : MethodName := ⟨RX5, "moveFader", "(II)I"⟩
abbrev cX5_moveMaster : ByteArray := prog_1_method_63_code
def yX5_moveMaster : MethodName := ⟨RX5, "moveMaster", "(I)I"⟩
abbrev cX5_parkAt : ByteArray := prog_1_method_64_code
def yX5_parkAt : MethodName := ⟨RX5, "parkAt", "(II)I"⟩
abbrev cX5_baseOf : ByteArray := prog_1_method_65_code
def yX5_baseOf : MethodName := ⟨RX5, "baseOf", "(I)I"⟩
abbrev cX5_latestLevel : ByteArray := prog_1_method_66_code
def yX5_latestLevel : MethodName := ⟨RX5, "latestLevel", "(I)I"⟩
abbrev cX5_highestLevel : ByteArray := prog_1_method_67_code
def yX5_highestLevel : MethodName := ⟨RX5, "highestLevel", "(I)I"⟩
abbrev cX5_runningEffects : ByteArray := prog_1_method_68_code
def yX5_runningEffects : MethodName := ⟨RX5, "runningEffects", "()I"⟩
abbrev cX5_givenBy : ByteArray := prog_1_method_69_code
def yX5_givenBy : MethodName := ⟨RX5, "givenBy", "(LStageConsole$Effect;I)I"⟩
abbrev cX5_outputOf : ByteArray := prog_1_method_70_code
def yX5_outputOf : MethodName := ⟨RX5, "outputOf", "(II)I"⟩
abbrev cX5_fillLevelRow : ByteArray := prog_1_method_71_code
def yX5_fillLevelRow : MethodName := ⟨RX5, "fillLevelRow", "()V"⟩
abbrev cX5_addToLevelRow : ByteArray := prog_1_method_72_code
def yX5_addToLevelRow : MethodName := ⟨RX5, "addToLevelRow", "(LStageConsole$Effect;)V"⟩
abbrev cX5_rankInRow : ByteArray := prog_1_method_73_code
def yX5_rankInRow : MethodName := ⟨RX5, "rankInRow", "(I)I"⟩
abbrev cX5_faultOf : ByteArray := prog_1_method_74_code
def yX5_faultOf : MethodName := ⟨RX5, "faultOf", "(LStageConsole$Step;)C"⟩
abbrev cX5_faultOfLevel : ByteArray := prog_1_method_75_code
def yX5_faultOfLevel : MethodName := ⟨RX5, "faultOfLevel", "(ZI)C"⟩
abbrev cX5_doStep : ByteArray := prog_1_method_76_code
def yX5_doStep : MethodName := ⟨RX5, "doStep", "(LStageConsole$Step;)V"⟩
def RX6 : String := "StageConsoleModel"
def TX6 : u_T := fun k => match k with
  | 0 => ("StageConsoleModel", "numbers", "[I", true)
  | 1 => ("StageConsoleModel", "times", "[I", true)
  | 2 => ("StageConsoleModel", "curves", "[C", true)
  | 3 => ("StageConsoleModel", "blocks", "[Z", true)
  | 4 => ("StageConsoleModel", "changes", "[I", true)
  | 5 => ("StageConsoleModel", "cueMany", "I", false)
  | 6 => ("StageConsoleModel", "current", "I", false)
  | 7 => ("StageConsoleModel", "from", "[I", true)
  | 8 => ("StageConsoleModel", "to", "[I", true)
  | 9 => ("StageConsoleModel", "since", "[I", true)
  | 10 => ("StageConsoleModel", "during", "[I", true)
  | 11 => ("StageConsoleModel", "how", "[C", true)
  | 12 => ("StageConsoleModel", "fades", "[Z", true)
  | 13 => ("StageConsoleModel", "latest", "[Z", true)
  | 14 => ("StageConsoleModel", "source", "[I", true)
  | 15 => ("StageConsoleModel", "parked", "[I", true)
  | 16 => ("StageConsoleModel", "members", "[I", true)
  | 17 => ("StageConsoleModel", "faders", "[I", true)
  | 18 => ("StageConsoleModel", "groupMany", "I", false)
  | 19 => ("StageConsoleModel", "groups", "[I", true)
  | 20 => ("StageConsoleModel", "shapes", "[C", true)
  | 21 => ("StageConsoleModel", "periods", "[I", true)
  | 22 => ("StageConsoleModel", "sizes", "[I", true)
  | 23 => ("StageConsoleModel", "spreads", "[I", true)
  | 24 => ("StageConsoleModel", "started", "[I", true)
  | 25 => ("StageConsoleModel", "runs", "[Z", true)
  | 26 => ("StageConsoleModel", "effectMany", "I", false)
  | 27 => ("StageConsoleModel", "steps", "[C", true)
  | 28 => ("StageConsoleModel", "firsts", "[I", true)
  | 29 => ("StageConsoleModel", "seconds", "[I", true)
  | 30 => ("StageConsoleModel", "stepMany", "I", false)
  | 31 => ("StageConsoleModel", "fault", "C", false)
  | 32 => ("StageConsoleModel", "now", "I", false)
  | 33 => ("StageConsoleModel", "master", "I", false)
  | 34 => ("StageConsoleModel", "energy", "J", false)
  | _ => ("StageConsoleModel", "thrown", "I", false)
def tyX6 : Nat → FieldType := fun k => match k with
  | 0 => .array .int
  | 1 => .array .int
  | 2 => .array .char
  | 3 => .array .boolean
  | 4 => .array .int
  | 5 => .int
  | 6 => .int
  | 7 => .array .int
  | 8 => .array .int
  | 9 => .array .int
  | 10 => .array .int
  | 11 => .array .char
  | 12 => .array .boolean
  | 13 => .array .boolean
  | 14 => .array .int
  | 15 => .array .int
  | 16 => .array .int
  | 17 => .array .int
  | 18 => .int
  | 19 => .array .int
  | 20 => .array .char
  | 21 => .array .int
  | 22 => .array .int
  | 23 => .array .int
  | 24 => .array .int
  | 25 => .array .boolean
  | 26 => .int
  | 27 => .array .char
  | 28 => .array .int
  | 29 => .array .int
  | 30 => .int
  | 31 => .char
  | 32 => .int
  | 33 => .int
  | 34 => .long
  | _ => .int
abbrev wsX60 : List Cond := u_ws RX6 TX6 36
theorem nmX6 : ∀ a, a < 36 → ∀ b, b < 36 → a ≠ b → (TX6 a).2.1 ≠ (TX6 b).2.1 := by decide +kernel
theorem tyX6_ok : ∀ k, k < 36 → parseFieldDescriptor (TX6 k).2.2.1 = some (tyX6 k) := by decide +kernel
abbrev cX6_init : ByteArray := prog_8_method_1_code
def yX6_init : MethodName := ⟨RX6, "<init>", "()V"⟩
abbrev cX6_thrown : ByteArray := prog_8_method_2_code
def yX6_thrown : MethodName := ⟨RX6, "thrown", "()I"⟩
abbrev cX6_in : ByteArray := prog_8_method_3_code
def yX6_in : MethodName := ⟨RX6, "in", "(JJJ)Z"⟩
abbrev cX6_isChannel : ByteArray := prog_8_method_4_code
def yX6_isChannel : MethodName := ⟨RX6, "isChannel", "(I)Z"⟩
abbrev cX6_isLevel : ByteArray := prog_8_method_5_code
def yX6_isLevel : MethodName := ⟨RX6, "isLevel", "(I)Z"⟩
abbrev cX6_cueAt : ByteArray := prog_8_method_6_code
def yX6_cueAt : MethodName := ⟨RX6, "cueAt", "(I)I"⟩
abbrev cX6_addCue : ByteArray := prog_8_method_7_code
def yX6_addCue : MethodName := ⟨RX6, "addCue", "(IIC)I"⟩
abbrev cX6_copies : ByteArray := prog_8_method_8_code
def yX6_copies : MethodName := ⟨RX6, "copies", "(II)V"⟩
abbrev cX6_removeCue : ByteArray := prog_8_method_9_code
def yX6_removeCue : MethodName := ⟨RX6, "removeCue", "(I)I"⟩
abbrev cX6_setChange : ByteArray := prog_8_method_10_code
def yX6_setChange : MethodName := ⟨RX6, "setChange", "(III)I"⟩
abbrev cX6_removeChange : ByteArray := prog_8_method_11_code
def yX6_removeChange : MethodName := ⟨RX6, "removeChange", "(II)I"⟩
abbrev cX6_setBlock : ByteArray := prog_8_method_12_code
def yX6_setBlock : MethodName := ⟨RX6, "setBlock", "(IZ)Z"⟩
abbrev cX6_tracked : ByteArray := prog_8_method_13_code
def yX6_tracked : MethodName := ⟨RX6, "tracked", "(II)I"⟩
abbrev cX6_trackedLevel : ByteArray := prog_8_method_14_code
def yX6_trackedLevel : MethodName := ⟨RX6, "trackedLevel", "(II)I"⟩
abbrev cX6_cues : ByteArray := prog_8_method_15_code
def yX6_cues : MethodName := ⟨RX6, "cues", "()I"⟩
abbrev cX6_faded : ByteArray := prog_8_method_16_code
def yX6_faded : MethodName := ⟨RX6, "faded", "(I)I"⟩
abbrev cX6_plays : ByteArray := prog_8_method_17_code
def yX6_plays : MethodName := ⟨RX6, "plays", "(I)V"⟩
abbrev cX6_playing : ByteArray := prog_8_method_18_code
def yX6_playing : MethodName := ⟨RX6, "playing", "(I)I"⟩
abbrev cX6_go : ByteArray := prog_8_method_19_code
def yX6_go : MethodName := ⟨RX6, "go", "()I"⟩
abbrev cX6_back : ByteArray := prog_8_method_20_code
def yX6_back : MethodName := ⟨RX6, "back", "()I"⟩
abbrev cX6_goTo : ByteArray := prog_8_method_21_code
def yX6_goTo : MethodName := ⟨RX6, "goTo", "(I)I"⟩
abbrev cX6_pass : ByteArray := prog_8_method_22_code
def yX6_pass : MethodName := ⟨RX6, "pass", "(I)I"⟩
abbrev cX6_currentCue : ByteArray := prog_8_method_23_code
def yX6_currentCue : MethodName := ⟨RX6, "currentCue", "()I"⟩
abbrev cX6_cueLevel : ByteArray := prog_8_method_24_code
def yX6_cueLevel : MethodName := ⟨RX6, "cueLevel", "(I)I"⟩
abbrev cX6_ticksLeft : ByteArray := prog_8_method_25_code
def yX6_ticksLeft : MethodName := ⟨RX6, "ticksLeft", "()I"⟩
abbrev cX6_isGroup : ByteArray := prog_8_method_26_code
def yX6_isGroup : MethodName := ⟨RX6, "isGroup", "(I)Z"⟩
abbrev cX6_addGroup : ByteArray := prog_8_method_27_code
def yX6_addGroup : MethodName := ⟨RX6, "addGroup", "()I"⟩
abbrev cX6_isMember : ByteArray := prog_8_method_28_code
def yX6_isMember : MethodName := ⟨RX6, "isMember", "(II)Z"⟩
abbrev cX6_setMember : ByteArray := prog_8_method_29_code
def yX6_setMember : MethodName := ⟨RX6, "setMember", "(IIZ)Z"⟩
abbrev cX6_setFader : ByteArray := prog_8_method_30_code
def yX6_setFader : MethodName := ⟨RX6, "setFader", "(II)I"⟩
abbrev cX6_setLatest : ByteArray := prog_8_method_31_code
def yX6_setLatest : MethodName := ⟨RX6, "setLatest", "(IZ)Z"⟩
abbrev cX6_latestSource : ByteArray := prog_8_method_32_code
def yX6_latestSource : MethodName := ⟨RX6, "latestSource", "(I)I"⟩
abbrev cX6_base : ByteArray := prog_8_method_33_code
def yX6_base : MethodName := ⟨RX6, "base", "(I)I"⟩
abbrev cX6_baseLevel : ByteArray := prog_8_method_34_code
def yX6_baseLevel : MethodName := ⟨RX6, "baseLevel", "(I)I"⟩
abbrev cX6_isEffect : ByteArray := prog_8_method_35_code
def yX6_isEffect : MethodName := ⟨RX6, "isEffect", "(I)Z"⟩
abbrev cX6_addEffect : ByteArray := prog_8_method_36_code
def yX6_addEffect : MethodName := ⟨RX6, "addEffect", "(ICIII)I"⟩
abbrev cX6_startEffect : ByteArray := prog_8_method_37_code
def yX6_startEffect : MethodName := ⟨RX6, "startEffect", "(I)I"⟩
abbrev cX6_stopEffect : ByteArray := prog_8_method_38_code
def yX6_stopEffect : MethodName := ⟨RX6, "stopEffect", "(I)I"⟩
abbrev cX6_gives : ByteArray := prog_8_method_39_code
def yX6_gives : MethodName := ⟨RX6, "gives", "(II)I"⟩
abbrev cX6_effectOn : ByteArray := prog_8_method_40_code
def yX6_effectOn : MethodName := ⟨RX6, "effectOn", "(II)I"⟩
abbrev cX6_park : ByteArray := prog_8_method_41_code
def yX6_park : MethodName := ⟨RX6, "park", "(II)I"⟩
abbrev cX6_unpark : ByteArray := prog_8_method_42_code
def yX6_unpark : MethodName := ⟨RX6, "unpark", "(I)I"⟩
abbrev cX6_setMaster : ByteArray := prog_8_method_43_code
def yX6_setMaster : MethodName := ⟨RX6, "setMaster", "(I)I"⟩
abbrev cX6_levelOf : ByteArray := prog_8_method_44_code
def yX6_levelOf : MethodName := ⟨RX6, "levelOf", "(I)I"⟩
abbrev cX6_level : ByteArray := prog_8_method_45_code
def yX6_level : MethodName := ⟨RX6, "level", "(I)I"⟩
abbrev cX6_levelAlone : ByteArray := prog_8_method_46_code
def yX6_levelAlone : MethodName := ⟨RX6, "levelAlone", "(I)I"⟩
abbrev cX6_channelByLevel : ByteArray := prog_8_method_47_code
def yX6_channelByLevel : MethodName := ⟨RX6, "channelByLevel", "(I)I"⟩
abbrev cX6_energy : ByteArray := prog_8_method_48_code
def yX6_energy : MethodName := ⟨RX6, "energy", "()J"⟩
abbrev cX6_litShare : ByteArray := prog_8_method_49_code
def yX6_litShare : MethodName := ⟨RX6, "litShare", "()F"⟩
abbrev cX6_meanLevel : ByteArray := prog_8_method_50_code
def yX6_meanLevel : MethodName := ⟨RX6, "meanLevel", "()D"⟩
abbrev cX6_isCall : ByteArray := prog_8_method_51_code
def yX6_isCall : MethodName := ⟨RX6, "isCall", "(C)Z"⟩
abbrev cX6_addStep : ByteArray := prog_8_method_52_code
def yX6_addStep : MethodName := ⟨RX6, "addStep", "(CII)I"⟩
abbrev cX6_clearMacro : ByteArray := prog_8_method_53_code
def yX6_clearMacro : MethodName := ⟨RX6, "clearMacro", "()I"⟩
abbrev cX6_does : ByteArray := prog_8_method_54_code
def yX6_does : MethodName := ⟨RX6, "does", "(I)C"⟩
abbrev cX6_runMacro : ByteArray := prog_8_method_55_code
def yX6_runMacro : MethodName := ⟨RX6, "runMacro", "()I"⟩
abbrev cX6_macroFault : ByteArray := prog_8_method_56_code
def yX6_macroFault : MethodName := ⟨RX6, "macroFault", "()C"⟩
def RJx145de : String := "java/io/Serializable"
def TJx145de : u_T := fun k => match k with
  | _ => ("", "", "", false)
def tyJx145de : Nat → FieldType := fun k => match k with
  | _ => .int
abbrev wsJx145de0 : List Cond := u_ws RJx145de TJx145de 0
theorem nmJx145de : ∀ a, a < 0 → ∀ b, b < 0 → a ≠ b → (TJx145de a).2.1 ≠ (TJx145de b).2.1 := by decide +kernel
theorem tyJx145de_ok : ∀ k, k < 0 → parseFieldDescriptor (TJx145de k).2.2.1 = some (tyJx145de k) := by decide +kernel
def RJ5 : String := "java/lang/AbstractStringBuilder"
def TJ5 : u_T := fun k => match k with
  | _ => ("", "", "", false)
def tyJ5 : Nat → FieldType := fun k => match k with
  | _ => .int
abbrev wsJ50 : List Cond := u_ws RJ5 TJ5 0
theorem nmJ5 : ∀ a, a < 0 → ∀ b, b < 0 → a ≠ b → (TJ5 a).2.1 ≠ (TJ5 b).2.1 := by decide +kernel
theorem tyJ5_ok : ∀ k, k < 0 → parseFieldDescriptor (TJ5 k).2.2.1 = some (tyJ5 k) := by decide +kernel
abbrev cJ5_init_d00df : ByteArray := prog_10_method_2_code
def yJ5_init_d00df : MethodName := ⟨RJ5, "<init>", "(I)V"⟩
abbrev cJ5_length_8abf5 : ByteArray := prog_10_method_6_code
def yJ5_length_8abf5 : MethodName := ⟨RJ5, "length", "()I"⟩
abbrev cJ5_ensureCapacityInternal_d00df : ByteArray := prog_10_method_9_code
def yJ5_ensureCapacityInternal_d00df : MethodName := ⟨RJ5, "ensureCapacityInternal", "(I)V"⟩
abbrev cJ5_newCapacity_0f7a4 : ByteArray := prog_10_method_10_code
def yJ5_newCapacity_0f7a4 : MethodName := ⟨RJ5, "newCapacity", "(I)I"⟩
abbrev cJ5_inflate_da8c8 : ByteArray := prog_10_method_11_code
def yJ5_inflate_da8c8 : MethodName := ⟨RJ5, "inflate", "()V"⟩
abbrev cJ5_append_cf1ce : ByteArray := prog_10_method_22_code
def yJ5_append_cf1ce : MethodName := ⟨RJ5, "append", "(Ljava/lang/String;)Ljava/lang/AbstractStringBuilder;"⟩
abbrev cJ5_appendNull_278bc : ByteArray := prog_10_method_26_code
def yJ5_appendNull_278bc : MethodName := ⟨RJ5, "appendNull", "()Ljava/lang/AbstractStringBuilder;"⟩
abbrev cJ5_append_c97b9 : ByteArray := prog_10_method_32_code
def yJ5_append_c97b9 : MethodName := ⟨RJ5, "append", "(I)Ljava/lang/AbstractStringBuilder;"⟩
abbrev cJ5_getValue_6d5f1 : ByteArray := prog_10_method_64_code
def yJ5_getValue_6d5f1 : MethodName := ⟨RJ5, "getValue", "()[B"⟩
abbrev cJ5_isLatin1_aae02 : ByteArray := prog_10_method_68_code
def yJ5_isLatin1_aae02 : MethodName := ⟨RJ5, "isLatin1", "()Z"⟩
abbrev cJ5_inflateIfNeededFor_a7421 : ByteArray := prog_10_method_71_code
def yJ5_inflateIfNeededFor_a7421 : MethodName := ⟨RJ5, "inflateIfNeededFor", "(Ljava/lang/String;)V"⟩
abbrev cJ5_putStringAt_47b60 : ByteArray := prog_10_method_73_code
def yJ5_putStringAt_47b60 : MethodName := ⟨RJ5, "putStringAt", "(ILjava/lang/String;)V"⟩
def RJx2cfe8 : String := "java/lang/Appendable"
def TJx2cfe8 : u_T := fun k => match k with
  | _ => ("", "", "", false)
def tyJx2cfe8 : Nat → FieldType := fun k => match k with
  | _ => .int
abbrev wsJx2cfe80 : List Cond := u_ws RJx2cfe8 TJx2cfe8 0
theorem nmJx2cfe8 : ∀ a, a < 0 → ∀ b, b < 0 → a ≠ b → (TJx2cfe8 a).2.1 ≠ (TJx2cfe8 b).2.1 := by decide +kernel
theorem tyJx2cfe8_ok : ∀ k, k < 0 → parseFieldDescriptor (TJx2cfe8 k).2.2.1 = some (tyJx2cfe8 k) := by decide +kernel
def RJx00060 : String := "java/lang/ArrayIndexOutOfBoundsException"
def TJx00060 : u_T := fun k => match k with
  | 0 => ("java/lang/Throwable", "backtrace", "Ljava/lang/Object;", false)
  | 1 => ("java/lang/Throwable", "detailMessage", "Ljava/lang/String;", false)
  | 2 => ("java/lang/Throwable", "cause", "Ljava/lang/Throwable;", false)
  | 3 => ("java/lang/Throwable", "stackTrace", "[Ljava/lang/StackTraceElement;", false)
  | 4 => ("java/lang/Throwable", "depth", "I", false)
  | _ => ("java/lang/Throwable", "suppressedExceptions", "Ljava/util/List;", false)
def tyJx00060 : Nat → FieldType := fun k => match k with
  | 0 => .object "java/lang/Object"
  | 1 => .object "java/lang/String"
  | 2 => .object "java/lang/Throwable"
  | 3 => .array (.object "java/lang/StackTraceElement")
  | 4 => .int
  | _ => .object "java/util/List"
abbrev wsJx000600 : List Cond := u_ws RJx00060 TJx00060 6
theorem nmJx00060 : ∀ a, a < 6 → ∀ b, b < 6 → a ≠ b → (TJx00060 a).2.1 ≠ (TJx00060 b).2.1 := by decide +kernel
theorem tyJx00060_ok : ∀ k, k < 6 → parseFieldDescriptor (TJx00060 k).2.2.1 = some (tyJx00060 k) := by decide +kernel
abbrev cJx00060_init_a7421 : ByteArray := prog_13_method_2_code
def yJx00060_init_a7421 : MethodName := ⟨RJx00060, "<init>", "(Ljava/lang/String;)V"⟩
def RJx9f9b0 : String := "java/lang/CharSequence"
def TJx9f9b0 : u_T := fun k => match k with
  | _ => ("", "", "", false)
def tyJx9f9b0 : Nat → FieldType := fun k => match k with
  | _ => .int
abbrev wsJx9f9b00 : List Cond := u_ws RJx9f9b0 TJx9f9b0 0
theorem nmJx9f9b0 : ∀ a, a < 0 → ∀ b, b < 0 → a ≠ b → (TJx9f9b0 a).2.1 ≠ (TJx9f9b0 b).2.1 := by decide +kernel
theorem tyJx9f9b0_ok : ∀ k, k < 0 → parseFieldDescriptor (TJx9f9b0 k).2.2.1 = some (tyJx9f9b0 k) := by decide +kernel
def RJx8e188 : String := "java/lang/Cloneable"
def TJx8e188 : u_T := fun k => match k with
  | _ => ("", "", "", false)
def tyJx8e188 : Nat → FieldType := fun k => match k with
  | _ => .int
abbrev wsJx8e1880 : List Cond := u_ws RJx8e188 TJx8e188 0
theorem nmJx8e188 : ∀ a, a < 0 → ∀ b, b < 0 → a ≠ b → (TJx8e188 a).2.1 ≠ (TJx8e188 b).2.1 := by decide +kernel
theorem tyJx8e188_ok : ∀ k, k < 0 → parseFieldDescriptor (TJx8e188 k).2.2.1 = some (tyJx8e188 k) := by decide +kernel
def RJxb160c : String := "java/lang/Comparable"
def TJxb160c : u_T := fun k => match k with
  | _ => ("", "", "", false)
def tyJxb160c : Nat → FieldType := fun k => match k with
  | _ => .int
abbrev wsJxb160c0 : List Cond := u_ws RJxb160c TJxb160c 0
theorem nmJxb160c : ∀ a, a < 0 → ∀ b, b < 0 → a ≠ b → (TJxb160c a).2.1 ≠ (TJxb160c b).2.1 := by decide +kernel
theorem tyJxb160c_ok : ∀ k, k < 0 → parseFieldDescriptor (TJxb160c k).2.2.1 = some (tyJxb160c k) := by decide +kernel
def RJ6 : String := "java/lang/Integer"
def TJ6 : u_T := fun k => match k with
  | _ => ("", "", "", false)
def tyJ6 : Nat → FieldType := fun k => match k with
  | _ => .int
abbrev wsJ60 : List Cond := u_ws RJ6 TJ6 0
theorem nmJ6 : ∀ a, a < 0 → ∀ b, b < 0 → a ≠ b → (TJ6 a).2.1 ≠ (TJ6 b).2.1 := by decide +kernel
theorem tyJ6_ok : ∀ k, k < 0 → parseFieldDescriptor (TJ6 k).2.2.1 = some (tyJ6 k) := by decide +kernel
abbrev cJ6_getChars_ba4f3 : ByteArray := prog_21_method_12_code
def yJ6_getChars_ba4f3 : MethodName := ⟨RJ6, "getChars", "(II[B)I"⟩
abbrev cJ6_stringSize_0f7a4 : ByteArray := prog_21_method_13_code
def yJ6_stringSize_0f7a4 : MethodName := ⟨RJ6, "stringSize", "(I)I"⟩
def RJxab1ab : String := "java/lang/Iterable"
def TJxab1ab : u_T := fun k => match k with
  | _ => ("", "", "", false)
def tyJxab1ab : Nat → FieldType := fun k => match k with
  | _ => .int
abbrev wsJxab1ab0 : List Cond := u_ws RJxab1ab TJxab1ab 0
theorem nmJxab1ab : ∀ a, a < 0 → ∀ b, b < 0 → a ≠ b → (TJxab1ab a).2.1 ≠ (TJxab1ab b).2.1 := by decide +kernel
theorem tyJxab1ab_ok : ∀ k, k < 0 → parseFieldDescriptor (TJxab1ab k).2.2.1 = some (tyJxab1ab k) := by decide +kernel
def RJ9 : String := "java/lang/Math"
def TJ9 : u_T := fun k => match k with
  | _ => ("", "", "", false)
def tyJ9 : Nat → FieldType := fun k => match k with
  | _ => .int
abbrev wsJ90 : List Cond := u_ws RJ9 TJ9 0
theorem nmJ9 : ∀ a, a < 0 → ∀ b, b < 0 → a ≠ b → (TJ9 a).2.1 ≠ (TJ9 b).2.1 := by decide +kernel
theorem tyJ9_ok : ∀ k, k < 0 → parseFieldDescriptor (TJ9 k).2.2.1 = some (tyJ9 k) := by decide +kernel
abbrev cJ9_max_7cf53 : ByteArray := prog_23_method_65_code
def yJ9_max_7cf53 : MethodName := ⟨RJ9, "max", "(II)I"⟩
abbrev cJ9_min_7cf53 : ByteArray := prog_23_method_69_code
def yJ9_min_7cf53 : MethodName := ⟨RJ9, "min", "(II)I"⟩
def RJxd2413 : String := "java/lang/Number"
def TJxd2413 : u_T := fun k => match k with
  | _ => ("", "", "", false)
def tyJxd2413 : Nat → FieldType := fun k => match k with
  | _ => .int
abbrev wsJxd24130 : List Cond := u_ws RJxd2413 TJxd2413 0
theorem nmJxd2413 : ∀ a, a < 0 → ∀ b, b < 0 → a ≠ b → (TJxd2413 a).2.1 ≠ (TJxd2413 b).2.1 := by decide +kernel
theorem tyJxd2413_ok : ∀ k, k < 0 → parseFieldDescriptor (TJxd2413 k).2.2.1 = some (tyJxd2413 k) := by decide +kernel
def RJ0 : String := "java/lang/String"
def TJ0 : u_T := fun k => match k with
  | 0 => ("java/lang/String", "value", "[B", true)
  | 1 => ("java/lang/String", "coder", "B", true)
  | 2 => ("java/lang/String", "hash", "I", false)
  | _ => ("java/lang/String", "hashIsZero", "Z", false)
def tyJ0 : Nat → FieldType := fun k => match k with
  | 0 => .array .byte
  | 1 => .byte
  | 2 => .int
  | _ => .boolean
abbrev wsJ00 : List Cond := u_ws RJ0 TJ0 4
theorem nmJ0 : ∀ a, a < 4 → ∀ b, b < 4 → a ≠ b → (TJ0 a).2.1 ≠ (TJ0 b).2.1 := by decide +kernel
theorem tyJ0_ok : ∀ k, k < 4 → parseFieldDescriptor (TJ0 k).2.2.1 = some (tyJ0 k) := by decide +kernel
abbrev cJ0_init_81219 : ByteArray := prog_26_method_53_code
def yJ0_init_81219 : MethodName := ⟨RJ0, "<init>", "(Ljava/lang/StringBuilder;)V"⟩
abbrev cJ0_length_8abf5 : ByteArray := prog_26_method_54_code
def yJ0_length_8abf5 : MethodName := ⟨RJ0, "length", "()I"⟩
abbrev cJ0_getBytes_840e7 : ByteArray := prog_26_method_147_code
def yJ0_getBytes_840e7 : MethodName := ⟨RJ0, "getBytes", "([BIB)V"⟩
abbrev cJ0_init_db425 : ByteArray := prog_26_method_150_code
def yJ0_init_db425 : MethodName := ⟨RJ0, "<init>", "(Ljava/lang/AbstractStringBuilder;Ljava/lang/Void;)V"⟩
abbrev cJ0_coder_7d493 : ByteArray := prog_26_method_152_code
def yJ0_coder_7d493 : MethodName := ⟨RJ0, "coder", "()B"⟩
abbrev cJ0_checkBoundsOffCount_cabcc : ByteArray := prog_26_method_157_code
def yJ0_checkBoundsOffCount_cabcc : MethodName := ⟨RJ0, "checkBoundsOffCount", "(III)I"⟩
abbrev cJ0_checkBoundsBeginEnd_23922 : ByteArray := prog_26_method_158_code
def yJ0_checkBoundsBeginEnd_23922 : MethodName := ⟨RJ0, "checkBoundsBeginEnd", "(III)V"⟩
def RJ4 : String := "java/lang/StringBuilder"
def TJ4 : u_T := fun k => match k with
  | 0 => ("java/lang/AbstractStringBuilder", "value", "[B", false)
  | 1 => ("java/lang/AbstractStringBuilder", "coder", "B", false)
  | 2 => ("java/lang/AbstractStringBuilder", "maybeLatin1", "Z", false)
  | _ => ("java/lang/AbstractStringBuilder", "count", "I", false)
def tyJ4 : Nat → FieldType := fun k => match k with
  | 0 => .array .byte
  | 1 => .byte
  | 2 => .boolean
  | _ => .int
abbrev wsJ40 : List Cond := u_ws RJ4 TJ4 4
theorem nmJ4 : ∀ a, a < 4 → ∀ b, b < 4 → a ≠ b → (TJ4 a).2.1 ≠ (TJ4 b).2.1 := by decide +kernel
theorem tyJ4_ok : ∀ k, k < 4 → parseFieldDescriptor (TJ4 k).2.2.1 = some (tyJ4 k) := by decide +kernel
abbrev cJ4_init_da8c8 : ByteArray := prog_27_method_1_code
def yJ4_init_da8c8 : MethodName := ⟨RJ4, "<init>", "()V"⟩
abbrev cJ4_append_15ec4 : ByteArray := prog_27_method_7_code
def yJ4_append_15ec4 : MethodName := ⟨RJ4, "append", "(Ljava/lang/String;)Ljava/lang/StringBuilder;"⟩
abbrev cJ4_append_bf812 : ByteArray := prog_27_method_15_code
def yJ4_append_bf812 : MethodName := ⟨RJ4, "append", "(I)Ljava/lang/StringBuilder;"⟩
abbrev cJ4_toString_0e30d : ByteArray := prog_27_method_42_code
def yJ4_toString_0e30d : MethodName := ⟨RJ4, "toString", "()Ljava/lang/String;"⟩
abbrev cJ4_length_8abf5 : ByteArray := prog_27_method_93_code
def yJ4_length_8abf5 : MethodName := ⟨RJ4, "length", "()I"⟩
def RJ1 : String := "java/lang/StringLatin1"
def TJ1 : u_T := fun k => match k with
  | _ => ("", "", "", false)
def tyJ1 : Nat → FieldType := fun k => match k with
  | _ => .int
abbrev wsJ10 : List Cond := u_ws RJ1 TJ1 0
theorem nmJ1 : ∀ a, a < 0 → ∀ b, b < 0 → a ≠ b → (TJ1 a).2.1 ≠ (TJ1 b).2.1 := by decide +kernel
theorem tyJ1_ok : ∀ k, k < 0 → parseFieldDescriptor (TJ1 k).2.2.1 = some (tyJ1 k) := by decide +kernel
abbrev cJ1_inflate_0e8fd : ByteArray := prog_28_method_50_code
def yJ1_inflate_0e8fd : MethodName := ⟨RJ1, "inflate", "([BI[BII)V"⟩
def RJ2 : String := "java/lang/StringUTF16"
def TJ2 : u_T := fun k => match k with
  | _ => ("", "", "", false)
def tyJ2 : Nat → FieldType := fun k => match k with
  | _ => .int
abbrev wsJ20 : List Cond := u_ws RJ2 TJ2 0
theorem nmJ2 : ∀ a, a < 0 → ∀ b, b < 0 → a ≠ b → (TJ2 a).2.1 ≠ (TJ2 b).2.1 := by decide +kernel
theorem tyJ2_ok : ∀ k, k < 0 → parseFieldDescriptor (TJ2 k).2.2.1 = some (tyJ2 k) := by decide +kernel
abbrev cJ2_newBytesFor_77867 : ByteArray := prog_29_method_2_code
def yJ2_newBytesFor_77867 : MethodName := ⟨RJ2, "newBytesFor", "(I)[B"⟩
abbrev cJ2_newBytesLength_0f7a4 : ByteArray := prog_29_method_3_code
def yJ2_newBytesLength_0f7a4 : MethodName := ⟨RJ2, "newBytesLength", "(I)I"⟩
abbrev cJ2_putChar_b72d1 : ByteArray := prog_29_method_4_code
def yJ2_putChar_b72d1 : MethodName := ⟨RJ2, "putChar", "([BII)V"⟩
abbrev cJ2_getChar_3b067 : ByteArray := prog_29_method_5_code
def yJ2_getChar_3b067 : MethodName := ⟨RJ2, "getChar", "([BI)C"⟩
abbrev cJ2_length_9d52b : ByteArray := prog_29_method_6_code
def yJ2_length_9d52b : MethodName := ⟨RJ2, "length", "([B)I"⟩
abbrev cJ2_coderFromArrayLen_85cad : ByteArray := prog_29_method_15_code
def yJ2_coderFromArrayLen_85cad : MethodName := ⟨RJ2, "coderFromArrayLen", "([BI)B"⟩
abbrev cJ2_compress_39247 : ByteArray := prog_29_method_17_code
def yJ2_compress_39247 : MethodName := ⟨RJ2, "compress", "([BII)[B"⟩
abbrev cJ2_compress_5af95 : ByteArray := prog_29_method_22_code
def yJ2_compress_5af95 : MethodName := ⟨RJ2, "compress", "([BI[BII)I"⟩
abbrev cJ2_getChars_46870 : ByteArray := prog_29_method_77_code
def yJ2_getChars_46870 : MethodName := ⟨RJ2, "getChars", "(III[B)I"⟩
abbrev cJ2_putCharsAt_cd4e5 : ByteArray := prog_29_method_81_code
def yJ2_putCharsAt_cd4e5 : MethodName := ⟨RJ2, "putCharsAt", "([BICCCC)I"⟩
abbrev cJ2_inflate_0e8fd : ByteArray := prog_29_method_86_code
def yJ2_inflate_0e8fd : MethodName := ⟨RJ2, "inflate", "([BI[BII)V"⟩
abbrev cJ2_getChars_ba4f3 : ByteArray := prog_29_method_89_code
def yJ2_getChars_ba4f3 : MethodName := ⟨RJ2, "getChars", "(II[B)I"⟩
abbrev cJ2_checkBoundsBeginEnd_d044e : ByteArray := prog_29_method_93_code
def yJ2_checkBoundsBeginEnd_d044e : MethodName := ⟨RJ2, "checkBoundsBeginEnd", "(II[B)V"⟩
abbrev cJ2_checkBoundsOffCount_d044e : ByteArray := prog_29_method_94_code
def yJ2_checkBoundsOffCount_d044e : MethodName := ⟨RJ2, "checkBoundsOffCount", "(II[B)V"⟩
def RJ10 : String := "java/lang/System"
def TJ10 : u_T := fun k => match k with
  | _ => ("", "", "", false)
def tyJ10 : Nat → FieldType := fun k => match k with
  | _ => .int
abbrev wsJ100 : List Cond := u_ws RJ10 TJ10 0
theorem nmJ10 : ∀ a, a < 0 → ∀ b, b < 0 → a ≠ b → (TJ10 a).2.1 ≠ (TJ10 b).2.1 := by decide +kernel
theorem tyJ10_ok : ∀ k, k < 0 → parseFieldDescriptor (TJ10 k).2.2.1 = some (tyJ10 k) := by decide +kernel
def RJxfd54e : String := "java/lang/constant/Constable"
def TJxfd54e : u_T := fun k => match k with
  | _ => ("", "", "", false)
def tyJxfd54e : Nat → FieldType := fun k => match k with
  | _ => .int
abbrev wsJxfd54e0 : List Cond := u_ws RJxfd54e TJxfd54e 0
theorem nmJxfd54e : ∀ a, a < 0 → ∀ b, b < 0 → a ≠ b → (TJxfd54e a).2.1 ≠ (TJxfd54e b).2.1 := by decide +kernel
theorem tyJxfd54e_ok : ∀ k, k < 0 → parseFieldDescriptor (TJxfd54e k).2.2.1 = some (tyJxfd54e k) := by decide +kernel
def RJx3cf43 : String := "java/lang/constant/ConstantDesc"
def TJx3cf43 : u_T := fun k => match k with
  | _ => ("", "", "", false)
def tyJx3cf43 : Nat → FieldType := fun k => match k with
  | _ => .int
abbrev wsJx3cf430 : List Cond := u_ws RJx3cf43 TJx3cf43 0
theorem nmJx3cf43 : ∀ a, a < 0 → ∀ b, b < 0 → a ≠ b → (TJx3cf43 a).2.1 ≠ (TJx3cf43 b).2.1 := by decide +kernel
theorem tyJx3cf43_ok : ∀ k, k < 0 → parseFieldDescriptor (TJx3cf43 k).2.2.1 = some (tyJx3cf43 k) := by decide +kernel
def RJxa1e45 : String := "java/util/AbstractCollection"
def TJxa1e45 : u_T := fun k => match k with
  | _ => ("", "", "", false)
def tyJxa1e45 : Nat → FieldType := fun k => match k with
  | _ => .int
abbrev wsJxa1e450 : List Cond := u_ws RJxa1e45 TJxa1e45 0
theorem nmJxa1e45 : ∀ a, a < 0 → ∀ b, b < 0 → a ≠ b → (TJxa1e45 a).2.1 ≠ (TJxa1e45 b).2.1 := by decide +kernel
theorem tyJxa1e45_ok : ∀ k, k < 0 → parseFieldDescriptor (TJxa1e45 k).2.2.1 = some (tyJxa1e45 k) := by decide +kernel
abbrev cJxa1e45_init_da8c8 : ByteArray := prog_35_method_1_code
def yJxa1e45_init_da8c8 : MethodName := ⟨RJxa1e45, "<init>", "()V"⟩
def RJxc12de : String := "java/util/AbstractList"
def TJxc12de : u_T := fun k => match k with
  | _ => ("", "", "", false)
def tyJxc12de : Nat → FieldType := fun k => match k with
  | _ => .int
abbrev wsJxc12de0 : List Cond := u_ws RJxc12de TJxc12de 0
theorem nmJxc12de : ∀ a, a < 0 → ∀ b, b < 0 → a ≠ b → (TJxc12de a).2.1 ≠ (TJxc12de b).2.1 := by decide +kernel
theorem tyJxc12de_ok : ∀ k, k < 0 → parseFieldDescriptor (TJxc12de k).2.2.1 = some (tyJxc12de k) := by decide +kernel
abbrev cJxc12de_init_da8c8 : ByteArray := prog_36_method_1_code
def yJxc12de_init_da8c8 : MethodName := ⟨RJxc12de, "<init>", "()V"⟩
def RJx4a65c : String := "java/util/ArrayList"
def TJx4a65c : u_T := fun k => match k with
  | 0 => ("java/util/AbstractList", "modCount", "I", false)
  | 1 => ("java/util/ArrayList", "elementData", "[Ljava/lang/Object;", false)
  | _ => ("java/util/ArrayList", "size", "I", false)
def tyJx4a65c : Nat → FieldType := fun k => match k with
  | 0 => .int
  | 1 => .array (.object "java/lang/Object")
  | _ => .int
abbrev wsJx4a65c0 : List Cond := u_ws RJx4a65c TJx4a65c 3
theorem nmJx4a65c : ∀ a, a < 3 → ∀ b, b < 3 → a ≠ b → (TJx4a65c a).2.1 ≠ (TJx4a65c b).2.1 := by decide +kernel
theorem tyJx4a65c_ok : ∀ k, k < 3 → parseFieldDescriptor (TJx4a65c k).2.2.1 = some (tyJx4a65c k) := by decide +kernel
abbrev cJx4a65c_init_da8c8 : ByteArray := prog_37_method_2_code
def yJx4a65c_init_da8c8 : MethodName := ⟨RJx4a65c, "<init>", "()V"⟩
abbrev cJx4a65c_grow_92f84 : ByteArray := prog_37_method_6_code
def yJx4a65c_grow_92f84 : MethodName := ⟨RJx4a65c, "grow", "(I)[Ljava/lang/Object;"⟩
abbrev cJx4a65c_grow_d5877 : ByteArray := prog_37_method_7_code
def yJx4a65c_grow_d5877 : MethodName := ⟨RJx4a65c, "grow", "()[Ljava/lang/Object;"⟩
abbrev cJx4a65c_size_8abf5 : ByteArray := prog_37_method_8_code
def yJx4a65c_size_8abf5 : MethodName := ⟨RJx4a65c, "size", "()I"⟩
abbrev cJx4a65c_elementData_915e3 : ByteArray := prog_37_method_18_code
def yJx4a65c_elementData_915e3 : MethodName := ⟨RJx4a65c, "elementData", "(I)Ljava/lang/Object;"⟩
abbrev cJx4a65c_get_915e3 : ByteArray := prog_37_method_20_code
def yJx4a65c_get_915e3 : MethodName := ⟨RJx4a65c, "get", "(I)Ljava/lang/Object;"⟩
abbrev cJx4a65c_add_72be8 : ByteArray := prog_37_method_24_code
def yJx4a65c_add_72be8 : MethodName := ⟨RJx4a65c, "add", "(Ljava/lang/Object;[Ljava/lang/Object;I)V"⟩
abbrev cJx4a65c_add_9ea2d : ByteArray := prog_37_method_25_code
def yJx4a65c_add_9ea2d : MethodName := ⟨RJx4a65c, "add", "(Ljava/lang/Object;)Z"⟩
abbrev cJx4a65c_add_7a177 : ByteArray := prog_37_method_26_code
def yJx4a65c_add_7a177 : MethodName := ⟨RJx4a65c, "add", "(ILjava/lang/Object;)V"⟩
abbrev cJx4a65c_remove_915e3 : ByteArray := prog_37_method_29_code
def yJx4a65c_remove_915e3 : MethodName := ⟨RJx4a65c, "remove", "(I)Ljava/lang/Object;"⟩
abbrev cJx4a65c_fastRemove_b59b0 : ByteArray := prog_37_method_39_code
def yJx4a65c_fastRemove_b59b0 : MethodName := ⟨RJx4a65c, "fastRemove", "([Ljava/lang/Object;I)V"⟩
abbrev cJx4a65c_clear_da8c8 : ByteArray := prog_37_method_40_code
def yJx4a65c_clear_da8c8 : MethodName := ⟨RJx4a65c, "clear", "()V"⟩
abbrev cJx4a65c_rangeCheckForAdd_d00df : ByteArray := prog_37_method_45_code
def yJx4a65c_rangeCheckForAdd_d00df : MethodName := ⟨RJx4a65c, "rangeCheckForAdd", "(I)V"⟩
abbrev cJx4a65c_outOfBoundsMsg_b52d3 : ByteArray := prog_37_method_46_code
def yJx4a65c_outOfBoundsMsg_b52d3 : MethodName := ⟨RJx4a65c, "outOfBoundsMsg", "(I)Ljava/lang/String;"⟩
def RJ7 : String := "java/util/Arrays"
def TJ7 : u_T := fun k => match k with
  | _ => ("", "", "", false)
def tyJ7 : Nat → FieldType := fun k => match k with
  | _ => .int
abbrev wsJ70 : List Cond := u_ws RJ7 TJ7 0
theorem nmJ7 : ∀ a, a < 0 → ∀ b, b < 0 → a ≠ b → (TJ7 a).2.1 ≠ (TJ7 b).2.1 := by decide +kernel
theorem tyJ7_ok : ∀ k, k < 0 → parseFieldDescriptor (TJ7 k).2.2.1 = some (tyJ7 k) := by decide +kernel
abbrev cJ7_copyOf_1904c : ByteArray := prog_38_method_119_code
def yJ7_copyOf_1904c : MethodName := ⟨RJ7, "copyOf", "([Ljava/lang/Object;I)[Ljava/lang/Object;"⟩
abbrev cJ7_copyOf_6403c : ByteArray := prog_38_method_120_code
def yJ7_copyOf_6403c : MethodName := ⟨RJ7, "copyOf", "([Ljava/lang/Object;ILjava/lang/Class;)[Ljava/lang/Object;"⟩
abbrev cJ7_copyOf_9075b : ByteArray := prog_38_method_121_code
def yJ7_copyOf_9075b : MethodName := ⟨RJ7, "copyOf", "([BI)[B"⟩
abbrev cJ7_checkLength_df160 : ByteArray := prog_38_method_131_code
def yJ7_checkLength_df160 : MethodName := ⟨RJ7, "checkLength", "(II)V"⟩
abbrev cJ7_copyOfRange_39247 : ByteArray := prog_38_method_132_code
def yJ7_copyOfRange_39247 : MethodName := ⟨RJ7, "copyOfRange", "([BII)[B"⟩
abbrev cJ7_copyOfRangeByte_39247 : ByteArray := prog_38_method_133_code
def yJ7_copyOfRangeByte_39247 : MethodName := ⟨RJ7, "copyOfRangeByte", "([BII)[B"⟩
def RJx5ef63 : String := "java/util/Collection"
def TJx5ef63 : u_T := fun k => match k with
  | _ => ("", "", "", false)
def tyJx5ef63 : Nat → FieldType := fun k => match k with
  | _ => .int
abbrev wsJx5ef630 : List Cond := u_ws RJx5ef63 TJx5ef63 0
theorem nmJx5ef63 : ∀ a, a < 0 → ∀ b, b < 0 → a ≠ b → (TJx5ef63 a).2.1 ≠ (TJx5ef63 b).2.1 := by decide +kernel
theorem tyJx5ef63_ok : ∀ k, k < 0 → parseFieldDescriptor (TJx5ef63 k).2.2.1 = some (tyJx5ef63 k) := by decide +kernel
def RJxbd725 : String := "java/util/List"
def TJxbd725 : u_T := fun k => match k with
  | _ => ("", "", "", false)
def tyJxbd725 : Nat → FieldType := fun k => match k with
  | _ => .int
abbrev wsJxbd7250 : List Cond := u_ws RJxbd725 TJxbd725 0
theorem nmJxbd725 : ∀ a, a < 0 → ∀ b, b < 0 → a ≠ b → (TJxbd725 a).2.1 ≠ (TJxbd725 b).2.1 := by decide +kernel
theorem tyJxbd725_ok : ∀ k, k < 0 → parseFieldDescriptor (TJxbd725 k).2.2.1 = some (tyJxbd725 k) := by decide +kernel
def RJ15 : String := "java/util/Objects"
def TJ15 : u_T := fun k => match k with
  | _ => ("", "", "", false)
def tyJ15 : Nat → FieldType := fun k => match k with
  | _ => .int
abbrev wsJ150 : List Cond := u_ws RJ15 TJ15 0
theorem nmJ15 : ∀ a, a < 0 → ∀ b, b < 0 → a ≠ b → (TJ15 a).2.1 ≠ (TJ15 b).2.1 := by decide +kernel
theorem tyJ15_ok : ∀ k, k < 0 → parseFieldDescriptor (TJ15 k).2.2.1 = some (tyJ15 k) := by decide +kernel
abbrev cJ15_checkIndex_7cf53 : ByteArray := prog_42_method_17_code
def yJ15_checkIndex_7cf53 : MethodName := ⟨RJ15, "checkIndex", "(II)I"⟩
def RJxf0a74 : String := "java/util/RandomAccess"
def TJxf0a74 : u_T := fun k => match k with
  | _ => ("", "", "", false)
def tyJxf0a74 : Nat → FieldType := fun k => match k with
  | _ => .int
abbrev wsJxf0a740 : List Cond := u_ws RJxf0a74 TJxf0a74 0
theorem nmJxf0a74 : ∀ a, a < 0 → ∀ b, b < 0 → a ≠ b → (TJxf0a74 a).2.1 ≠ (TJxf0a74 b).2.1 := by decide +kernel
theorem tyJxf0a74_ok : ∀ k, k < 0 → parseFieldDescriptor (TJxf0a74 k).2.2.1 = some (tyJxf0a74 k) := by decide +kernel
def RJxa66e6 : String := "java/util/SequencedCollection"
def TJxa66e6 : u_T := fun k => match k with
  | _ => ("", "", "", false)
def tyJxa66e6 : Nat → FieldType := fun k => match k with
  | _ => .int
abbrev wsJxa66e60 : List Cond := u_ws RJxa66e6 TJxa66e6 0
theorem nmJxa66e6 : ∀ a, a < 0 → ∀ b, b < 0 → a ≠ b → (TJxa66e6 a).2.1 ≠ (TJxa66e6 b).2.1 := by decide +kernel
theorem tyJxa66e6_ok : ∀ k, k < 0 → parseFieldDescriptor (TJxa66e6 k).2.2.1 = some (tyJxa66e6 k) := by decide +kernel
def RJ8 : String := "jdk/internal/util/ArraysSupport"
def TJ8 : u_T := fun k => match k with
  | _ => ("", "", "", false)
def tyJ8 : Nat → FieldType := fun k => match k with
  | _ => .int
abbrev wsJ80 : List Cond := u_ws RJ8 TJ8 0
theorem nmJ8 : ∀ a, a < 0 → ∀ b, b < 0 → a ≠ b → (TJ8 a).2.1 ≠ (TJ8 b).2.1 := by decide +kernel
theorem tyJ8_ok : ∀ k, k < 0 → parseFieldDescriptor (TJ8 k).2.2.1 = some (tyJ8 k) := by decide +kernel
abbrev cJ8_newLength_cabcc : ByteArray := prog_45_method_27_code
def yJ8_newLength_cabcc : MethodName := ⟨RJ8, "newLength", "(III)I"⟩
abbrev cJ8_hugeLength_7cf53 : ByteArray := prog_45_method_28_code
def yJ8_hugeLength_7cf53 : MethodName := ⟨RJ8, "hugeLength", "(II)I"⟩
def RJ3 : String := "jdk/internal/util/Preconditions"
def TJ3 : u_T := fun k => match k with
  | _ => ("", "", "", false)
def tyJ3 : Nat → FieldType := fun k => match k with
  | _ => .int
abbrev wsJ30 : List Cond := u_ws RJ3 TJ3 0
theorem nmJ3 : ∀ a, a < 0 → ∀ b, b < 0 → a ≠ b → (TJ3 a).2.1 ≠ (TJ3 b).2.1 := by decide +kernel
theorem tyJ3_ok : ∀ k, k < 0 → parseFieldDescriptor (TJ3 k).2.2.1 = some (tyJ3 k) := by decide +kernel
abbrev cJ3_checkIndex_8e157 : ByteArray := prog_46_method_11_code
def yJ3_checkIndex_8e157 : MethodName := ⟨RJ3, "checkIndex", "(IILjava/util/function/BiFunction;)I"⟩
abbrev cJ3_checkFromToIndex_8c36e : ByteArray := prog_46_method_12_code
def yJ3_checkFromToIndex_8c36e : MethodName := ⟨RJ3, "checkFromToIndex", "(IIILjava/util/function/BiFunction;)I"⟩
abbrev cJ3_checkFromIndexSize_8c36e : ByteArray := prog_46_method_13_code
def yJ3_checkFromIndexSize_8c36e : MethodName := ⟨RJ3, "checkFromIndexSize", "(IIILjava/util/function/BiFunction;)I"⟩
def RL : String := "StageConsoleLaw"
abbrev cL_addCue : ByteArray := method_3_code
def yL_addCue : MethodName := ⟨RL, "addCue", "(LStageConsole;IIC[J)I"⟩
abbrev cL_removeCue : ByteArray := method_4_code
def yL_removeCue : MethodName := ⟨RL, "removeCue", "(LStageConsole;I[J)I"⟩
abbrev cL_setChange : ByteArray := method_5_code
def yL_setChange : MethodName := ⟨RL, "setChange", "(LStageConsole;III[J)I"⟩
abbrev cL_removeChange : ByteArray := method_6_code
def yL_removeChange : MethodName := ⟨RL, "removeChange", "(LStageConsole;II[J)I"⟩
abbrev cL_setBlock : ByteArray := method_7_code
def yL_setBlock : MethodName := ⟨RL, "setBlock", "(LStageConsole;IZ[J)I"⟩
abbrev cL_trackedLevel : ByteArray := method_8_code
def yL_trackedLevel : MethodName := ⟨RL, "trackedLevel", "(LStageConsole;II[J)I"⟩
abbrev cL_go : ByteArray := method_9_code
def yL_go : MethodName := ⟨RL, "go", "(LStageConsole;[J)I"⟩
abbrev cL_back : ByteArray := method_10_code
def yL_back : MethodName := ⟨RL, "back", "(LStageConsole;[J)I"⟩
abbrev cL_goTo : ByteArray := method_11_code
def yL_goTo : MethodName := ⟨RL, "goTo", "(LStageConsole;I[J)I"⟩
abbrev cL_pass : ByteArray := method_12_code
def yL_pass : MethodName := ⟨RL, "pass", "(LStageConsole;I[J)I"⟩
abbrev cL_cueLevel : ByteArray := method_13_code
def yL_cueLevel : MethodName := ⟨RL, "cueLevel", "(LStageConsole;I[J)I"⟩
abbrev cL_addGroup : ByteArray := method_14_code
def yL_addGroup : MethodName := ⟨RL, "addGroup", "(LStageConsole;[J)I"⟩
abbrev cL_setMember : ByteArray := method_15_code
def yL_setMember : MethodName := ⟨RL, "setMember", "(LStageConsole;IIZ[J)I"⟩
abbrev cL_setFader : ByteArray := method_16_code
def yL_setFader : MethodName := ⟨RL, "setFader", "(LStageConsole;II[J)I"⟩
abbrev cL_setLatest : ByteArray := method_17_code
def yL_setLatest : MethodName := ⟨RL, "setLatest", "(LStageConsole;IZ[J)I"⟩
abbrev cL_latestSource : ByteArray := method_18_code
def yL_latestSource : MethodName := ⟨RL, "latestSource", "(LStageConsole;I[J)I"⟩
abbrev cL_baseLevel : ByteArray := method_19_code
def yL_baseLevel : MethodName := ⟨RL, "baseLevel", "(LStageConsole;I[J)I"⟩
abbrev cL_addEffect : ByteArray := method_20_code
def yL_addEffect : MethodName := ⟨RL, "addEffect", "(LStageConsole;ICIII[J)I"⟩
abbrev cL_startEffect : ByteArray := method_21_code
def yL_startEffect : MethodName := ⟨RL, "startEffect", "(LStageConsole;I[J)I"⟩
abbrev cL_stopEffect : ByteArray := method_22_code
def yL_stopEffect : MethodName := ⟨RL, "stopEffect", "(LStageConsole;I[J)I"⟩
abbrev cL_effectOn : ByteArray := method_23_code
def yL_effectOn : MethodName := ⟨RL, "effectOn", "(LStageConsole;II[J)I"⟩
abbrev cL_park : ByteArray := method_24_code
def yL_park : MethodName := ⟨RL, "park", "(LStageConsole;II[J)I"⟩
abbrev cL_unpark : ByteArray := method_25_code
def yL_unpark : MethodName := ⟨RL, "unpark", "(LStageConsole;I[J)I"⟩
abbrev cL_setMaster : ByteArray := method_26_code
def yL_setMaster : MethodName := ⟨RL, "setMaster", "(LStageConsole;I[J)I"⟩
abbrev cL_level : ByteArray := method_27_code
def yL_level : MethodName := ⟨RL, "level", "(LStageConsole;I[J)I"⟩
abbrev cL_levelAlone : ByteArray := method_28_code
def yL_levelAlone : MethodName := ⟨RL, "levelAlone", "(LStageConsole;I[J)I"⟩
abbrev cL_channelByLevel : ByteArray := method_29_code
def yL_channelByLevel : MethodName := ⟨RL, "channelByLevel", "(LStageConsole;I[J)I"⟩
abbrev cL_meanLevel : ByteArray := method_30_code
def yL_meanLevel : MethodName := ⟨RL, "meanLevel", "(LStageConsole;[D)I"⟩
abbrev cL_addStep : ByteArray := method_31_code
def yL_addStep : MethodName := ⟨RL, "addStep", "(LStageConsole;CII[J)I"⟩
abbrev cL_macroFault : ByteArray := method_32_code
def yL_macroFault : MethodName := ⟨RL, "macroFault", "(LStageConsole;[J)I"⟩
abbrev cL_law : ByteArray := code
def yL_law : MethodName := ⟨RL, "law", "([I)Z"⟩
abbrev vwCl : List vw_C := [(RJ0, TJ0, 4), (RJ4, TJ4, 4), (RJx00060, TJx00060, 6), (RJx4a65c, TJx4a65c, 3), (RX0, TX0, 9), (RX1, TX1, 5), (RX2, TX2, 7), (RX3, TX3, 2), (RX4, TX4, 3), (RX5, TX5, 11), (RX6, TX6, 36)]
