/-! THE SMALL MACHINE: tables (by program, wip/gen/gen03.py) -/
def am_cn : Nat → String := fun k => ((["RodYard", "RodYard$History", "RodYard$Packing", "RodYard$Parser", "RodYard$Plan", "RodYard$State", "RodYard$Text", "RodYard$Trial", "RodYard$Works", "RodYardModel", "java/lang/IndexOutOfBoundsException", "java/lang/IllegalArgumentException", "java/lang/IllegalStateException", "RodYardLaw", "java/lang/String", "java/lang/StringLatin1", "jdk/internal/util/Preconditions", "java/lang/Math", "java/lang/Object"] : List String)).getD k "?"
def am_F0 : u_T := fun k => match k with
  | 0 => ("RodYard", "input", "[B", true)
  | 1 => ("RodYard", "buffered", "I", false)
  | 2 => ("RodYard", "parser", "LRodYard$Parser;", true)
  | 3 => ("RodYard", "parseError", "I", false)
  | 4 => ("RodYard", "errorPosition", "I", false)
  | 5 => ("RodYard", "errorLine", "I", false)
  | 6 => ("RodYard", "loaded", "Z", false)
  | 7 => ("RodYard", "plan", "LRodYard$Plan;", true)
  | 8 => ("RodYard", "state", "LRodYard$State;", true)
  | 9 => ("RodYard", "works", "LRodYard$Works;", true)
  | 10 => ("RodYard", "trial", "LRodYard$Trial;", true)
  | 11 => ("RodYard", "packing", "LRodYard$Packing;", true)
  | 12 => ("RodYard", "history", "LRodYard$History;", true)
  | 13 => ("RodYard", "slots", "[LRodYard$State;", true)
  | 14 => ("RodYard", "slotUsed", "[Z", true)
  | _ => ("RodYard", "text", "LRodYard$Text;", true)
def am_ty0 : Nat → FieldType := fun k => match k with
  | 0 => .array (.byte)
  | 1 => .int
  | 2 => .object "RodYard$Parser"
  | 3 => .int
  | 4 => .int
  | 5 => .int
  | 6 => .boolean
  | 7 => .object "RodYard$Plan"
  | 8 => .object "RodYard$State"
  | 9 => .object "RodYard$Works"
  | 10 => .object "RodYard$Trial"
  | 11 => .object "RodYard$Packing"
  | 12 => .object "RodYard$History"
  | 13 => .array (.object "RodYard$State")
  | 14 => .array (.boolean)
  | _ => .object "RodYard$Text"
def am_F1 : u_T := fun k => match k with
  | 0 => ("RodYard$History", "states", "[LRodYard$State;", true)
  | 1 => ("RodYard$History", "next", "I", false)
  | _ => ("RodYard$History", "size", "I", false)
def am_ty1 : Nat → FieldType := fun k => match k with
  | 0 => .array (.object "RodYard$State")
  | 1 => .int
  | _ => .int
def am_F2 : u_T := fun k => match k with
  | 0 => ("RodYard$Packing", "state", "LRodYard$State;", true)
  | 1 => ("RodYard$Packing", "fewest", "[I", true)
  | 2 => ("RodYard$Packing", "leastLeft", "I", false)
  | _ => ("RodYard$Packing", "fewestPieces", "I", false)
def am_ty2 : Nat → FieldType := fun k => match k with
  | 0 => .object "RodYard$State"
  | 1 => .array (.int)
  | 2 => .int
  | _ => .int
def am_F3 : u_T := fun k => match k with
  | 0 => ("RodYard$Parser", "bytes", "[B", true)
  | 1 => ("RodYard$Parser", "plan", "LRodYard$Plan;", true)
  | 2 => ("RodYard$Parser", "state", "LRodYard$State;", true)
  | 3 => ("RodYard$Parser", "end", "I", false)
  | 4 => ("RodYard$Parser", "at", "I", false)
  | 5 => ("RodYard$Parser", "start", "I", false)
  | 6 => ("RodYard$Parser", "type", "I", false)
  | 7 => ("RodYard$Parser", "value", "I", false)
  | _ => ("RodYard$Parser", "error", "I", false)
def am_ty3 : Nat → FieldType := fun k => match k with
  | 0 => .array (.byte)
  | 1 => .object "RodYard$Plan"
  | 2 => .object "RodYard$State"
  | 3 => .int
  | 4 => .int
  | 5 => .int
  | 6 => .int
  | 7 => .int
  | _ => .int
def am_F4 : u_T := fun k => match k with
  | 0 => ("RodYard$Plan", "kinds", "I", false)
  | 1 => ("RodYard$Plan", "kindLength", "[I", true)
  | 2 => ("RodYard$Plan", "kindPrice", "[I", true)
  | 3 => ("RodYard$Plan", "patterns", "I", false)
  | 4 => ("RodYard$Plan", "patternSize", "[I", true)
  | _ => ("RodYard$Plan", "pattern", "[[I", true)
def am_ty4 : Nat → FieldType := fun k => match k with
  | 0 => .int
  | 1 => .array (.int)
  | 2 => .array (.int)
  | 3 => .int
  | 4 => .array (.int)
  | _ => .array (.array (.int))
def am_F5 : u_T := fun k => match k with
  | 0 => ("RodYard$State", "round", "I", false)
  | 1 => ("RodYard$State", "setting", "[I", true)
  | 2 => ("RodYard$State", "rods", "I", false)
  | 3 => ("RodYard$State", "rod", "[[I", true)
  | 4 => ("RodYard$State", "orders", "I", false)
  | 5 => ("RodYard$State", "order", "[[I", true)
  | 6 => ("RodYard$State", "store", "[I", true)
  | 7 => ("RodYard$State", "cuts", "I", false)
  | 8 => ("RodYard$State", "log", "[[I", true)
  | _ => ("RodYard$State", "account", "[I", true)
def am_ty5 : Nat → FieldType := fun k => match k with
  | 0 => .int
  | 1 => .array (.int)
  | 2 => .int
  | 3 => .array (.array (.int))
  | 4 => .int
  | 5 => .array (.array (.int))
  | 6 => .array (.int)
  | 7 => .int
  | 8 => .array (.array (.int))
  | _ => .array (.int)
def am_F6 : u_T := fun k => match k with
  | 0 => ("RodYard$Text", "bytes", "[B", true)
  | _ => ("RodYard$Text", "size", "I", false)
def am_ty6 : Nat → FieldType := fun k => match k with
  | 0 => .array (.byte)
  | _ => .int
def am_F7 : u_T := fun k => match k with
  | 0 => ("RodYard$Trial", "plan", "LRodYard$Plan;", true)
  | 1 => ("RodYard$Trial", "real", "LRodYard$State;", true)
  | 2 => ("RodYard$Trial", "state", "LRodYard$State;", true)
  | _ => ("RodYard$Trial", "works", "LRodYard$Works;", true)
def am_ty7 : Nat → FieldType := fun k => match k with
  | 0 => .object "RodYard$Plan"
  | 1 => .object "RodYard$State"
  | 2 => .object "RodYard$State"
  | _ => .object "RodYard$Works"
def am_F8 : u_T := fun k => match k with
  | 0 => ("RodYard$Works", "plan", "LRodYard$Plan;", true)
  | _ => ("RodYard$Works", "state", "LRodYard$State;", true)
def am_ty8 : Nat → FieldType := fun k => match k with
  | 0 => .object "RodYard$Plan"
  | _ => .object "RodYard$State"
def am_F9 : u_T := fun k => match k with
  | 0 => ("RodYardModel", "thrown", "I", false)
  | 1 => ("RodYardModel", "hasYard", "Z", false)
  | 2 => ("RodYardModel", "kinds", "I", false)
  | 3 => ("RodYardModel", "patterns", "I", false)
  | 4 => ("RodYardModel", "kindLength", "[I", true)
  | 5 => ("RodYardModel", "price", "[I", true)
  | 6 => ("RodYardModel", "patternLong", "[I", true)
  | 7 => ("RodYardModel", "pattern", "[I", true)
  | 8 => ("RodYardModel", "s", "[I", true)
  | 9 => ("RodYardModel", "stores", "[I", true)
  | 10 => ("RodYardModel", "changes", "I", false)
  | 11 => ("RodYardModel", "isKept", "[Z", true)
  | 12 => ("RodYardModel", "buffer", "[I", true)
  | 13 => ("RodYardModel", "buffered", "I", false)
  | 14 => ("RodYardModel", "parseError", "I", false)
  | 15 => ("RodYardModel", "errorPosition", "I", false)
  | 16 => ("RodYardModel", "errorLine", "I", false)
  | 17 => ("RodYardModel", "size", "I", false)
  | 18 => ("RodYardModel", "next", "I", false)
  | 19 => ("RodYardModel", "from", "I", false)
  | 20 => ("RodYardModel", "sort", "I", false)
  | 21 => ("RodYardModel", "number", "I", false)
  | 22 => ("RodYardModel", "wrong", "I", false)
  | 23 => ("RodYardModel", "wrongAt", "I", false)
  | 24 => ("RodYardModel", "first", "[I", true)
  | 25 => ("RodYardModel", "readLength", "[I", true)
  | 26 => ("RodYardModel", "readPrice", "[I", true)
  | 27 => ("RodYardModel", "readLong", "[I", true)
  | 28 => ("RodYardModel", "readPattern", "[I", true)
  | 29 => ("RodYardModel", "readKinds", "I", false)
  | 30 => ("RodYardModel", "readPatterns", "I", false)
  | 31 => ("RodYardModel", "fewest", "[I", true)
  | 32 => ("RodYardModel", "bestLeft", "I", false)
  | 33 => ("RodYardModel", "bestPieces", "I", false)
  | 34 => ("RodYardModel", "text", "[I", true)
  | _ => ("RodYardModel", "textLong", "I", false)
def am_ty9 : Nat → FieldType := fun k => match k with
  | 0 => .int
  | 1 => .boolean
  | 2 => .int
  | 3 => .int
  | 4 => .array (.int)
  | 5 => .array (.int)
  | 6 => .array (.int)
  | 7 => .array (.int)
  | 8 => .array (.int)
  | 9 => .array (.int)
  | 10 => .int
  | 11 => .array (.boolean)
  | 12 => .array (.int)
  | 13 => .int
  | 14 => .int
  | 15 => .int
  | 16 => .int
  | 17 => .int
  | 18 => .int
  | 19 => .int
  | 20 => .int
  | 21 => .int
  | 22 => .int
  | 23 => .int
  | 24 => .array (.int)
  | 25 => .array (.int)
  | 26 => .array (.int)
  | 27 => .array (.int)
  | 28 => .array (.int)
  | 29 => .int
  | 30 => .int
  | 31 => .array (.int)
  | 32 => .int
  | 33 => .int
  | 34 => .array (.int)
  | _ => .int
abbrev am_cl : List vw_C := [("RodYard", am_F0, 16), ("RodYard$History", am_F1, 3), ("RodYard$Packing", am_F2, 4), ("RodYard$Parser", am_F3, 9), ("RodYard$Plan", am_F4, 6), ("RodYard$State", am_F5, 10), ("RodYard$Text", am_F6, 2), ("RodYard$Trial", am_F7, 4), ("RodYard$Works", am_F8, 2), ("RodYardModel", am_F9, 36)]
/-- the fields of a class: 0 an int, 1 a reference, 2 a boolean; and 4 more where it is final -/
def am_fk : List (List Nat) := [[5, 0, 5, 0, 0, 0, 2, 5, 5, 5, 5, 5, 5, 5, 5, 5], [5, 0, 0], [5, 5, 0, 0], [5, 5, 5, 0, 0, 0, 0, 0, 0], [0, 5, 5, 0, 5, 5], [0, 5, 0, 5, 0, 5, 5, 0, 5, 5], [5, 0], [5, 5, 5, 5], [5, 5], [0, 2, 0, 0, 5, 5, 5, 5, 5, 5, 0, 5, 5, 0, 0, 0, 0, 0, 0, 0, 0, 0, 0, 0, 5, 5, 5, 5, 5, 0, 0, 5, 0, 0, 5, 0]]
def am_nf (ci : Nat) : Nat := (am_fk.getD ci []).length
def am_fkd (ci k : Nat) : Nat := (am_fk.getD ci []).getD k 9
abbrev am_MT : Type := MethodName × ByteArray × Nat × Option FieldType × Nat × Nat × Bool × List (Nat × Nat × Nat × Nat)
def am_mt0 : List am_MT := [(⟨"RodYardLaw", "law", "([I)Z"⟩, code, 9, (some .boolean), 13, 1, true, []),
  (⟨"java/lang/String", "length", "()I"⟩, prog_18_method_54_code, 1, (some .int), 14, 0, false, []),
  (⟨"java/lang/String", "charAt", "(I)C"⟩, prog_18_method_56_code, 2, (some .char), 14, 1, false, []),
  (⟨"java/lang/String", "isLatin1", "()Z"⟩, prog_18_method_154_code, 1, (some .boolean), 14, 0, false, []),
  (⟨"java/lang/String", "coder", "()B"⟩, prog_18_method_152_code, 1, (some .byte), 14, 0, false, []),
  (⟨"java/lang/String", "checkIndex", "(II)V"⟩, prog_18_method_155_code, 2, none, 14, 2, true, []),
  (⟨"java/lang/StringLatin1", "charAt", "([BI)C"⟩, prog_19_method_2_code, 2, (some .char), 15, 2, true, []),
  (⟨"jdk/internal/util/Preconditions", "checkIndex", "(IILjava/util/function/BiFunction;)I"⟩, prog_23_method_11_code, 3, (some .int), 16, 3, true, []),
  (⟨"RodYard$Plan", "<init>", "()V"⟩, prog_5_method_1_code, 1, none, 4, 0, false, []),
  (⟨"RodYard$Plan", "hasKind", "(II)Z"⟩, prog_5_method_4_code, 4, (some .boolean), 4, 2, false, []),
  (⟨"RodYard$Plan", "enterKind", "(II)V"⟩, prog_5_method_3_code, 3, none, 4, 2, false, []),
  (⟨"RodYard$Plan", "enterPattern", "()V"⟩, prog_5_method_5_code, 1, none, 4, 0, false, []),
  (⟨"RodYard$Plan", "extendLastPattern", "(I)V"⟩, prog_5_method_6_code, 3, none, 4, 1, false, []),
  (⟨"RodYard$Plan", "copyFrom", "(LRodYard$Plan;)V"⟩, prog_5_method_2_code, 3, none, 4, 1, false, []),
  (⟨"RodYard$State", "<init>", "()V"⟩, prog_6_method_1_code, 1, none, 5, 0, false, []),
  (⟨"RodYard$State", "enterRod", "(II)I"⟩, prog_6_method_3_code, 4, (some .int), 5, 2, false, []),
  (⟨"RodYard$State", "enterOrder", "(IIII)I"⟩, prog_6_method_4_code, 6, (some .int), 5, 4, false, []),
  (⟨"RodYard$State", "copyFrom", "(LRodYard$State;)V"⟩, prog_6_method_2_code, 3, none, 5, 1, false, []),
  (⟨"RodYard$State", "rodsInStock", "()I"⟩, prog_6_method_6_code, 3, (some .int), 5, 0, false, []),
  (⟨"RodYard$State", "openOrders", "()I"⟩, prog_6_method_8_code, 3, (some .int), 5, 0, false, []),
  (⟨"RodYard$State", "lackingPieces", "()I"⟩, prog_6_method_9_code, 3, (some .int), 5, 0, false, []),
  (⟨"RodYard$State", "storedPieces", "()I"⟩, prog_6_method_11_code, 3, (some .int), 5, 0, false, []),
  (⟨"RodYard$State", "lackingOf", "(I)I"⟩, prog_6_method_10_code, 4, (some .int), 5, 1, false, []),
  (⟨"RodYard$State", "longestRod", "()I"⟩, prog_6_method_7_code, 4, (some .int), 5, 0, false, []),
  (⟨"RodYard$State", "firstDueUpTo", "(I)I"⟩, prog_6_method_12_code, 4, (some .int), 5, 1, false, []),
  (⟨"RodYard$State", "takerOf", "(I)I"⟩, prog_6_method_14_code, 4, (some .int), 5, 1, false, []),
  (⟨"RodYard$State", "logCut", "(III)V"⟩, prog_6_method_5_code, 4, none, 5, 3, false, []),
  (⟨"RodYard$State", "greatestLackingUpTo", "(I)I"⟩, prog_6_method_13_code, 5, (some .int), 5, 1, false, []),
  (⟨"RodYard$Text", "<init>", "()V"⟩, prog_7_method_1_code, 1, none, 6, 0, false, []),
  (⟨"RodYard$Text", "putSign", "(C)V"⟩, prog_7_method_2_code, 2, none, 6, 1, false, []),
  (⟨"RodYard$Text", "putNumber", "(I)V"⟩, prog_7_method_4_code, 3, none, 6, 1, false, []),
  (⟨"RodYard$Text", "putWord", "(Ljava/lang/String;)V"⟩, prog_7_method_3_code, 3, none, 6, 1, false, []),
  (⟨"RodYard$Works", "<init>", "(LRodYard$Plan;LRodYard$State;)V"⟩, prog_9_method_1_code, 3, none, 8, 2, false, []),
  (⟨"RodYard$Works", "leftBehind", "(II)I"⟩, prog_9_method_3_code, 3, (some .int), 8, 2, false, []),
  (⟨"RodYard$Works", "chooseRod", "(II)I"⟩, prog_9_method_5_code, 5, (some .int), 8, 2, false, []),
  (⟨"RodYard$Works", "prefers", "(III)Z"⟩, prog_9_method_6_code, 6, (some .boolean), 8, 3, false, []),
  (⟨"RodYard$Works", "priceOf", "(I)I"⟩, prog_9_method_2_code, 2, (some .int), 8, 1, false, []),
  (⟨"RodYard$Works", "leftByPattern", "(II)I"⟩, prog_9_method_4_code, 6, (some .int), 8, 2, false, []),
  (⟨"RodYard$Works", "choosePatternRod", "(I)I"⟩, prog_9_method_7_code, 4, (some .int), 8, 1, false, []),
  (⟨"RodYard$Works", "isWanted", "(I)Z"⟩, prog_9_method_8_code, 5, (some .boolean), 8, 1, false, [])]
def am_mt1 : List am_MT := [(⟨"RodYard$Works", "timesIn", "(II)I"⟩, prog_9_method_9_code, 6, (some .int), 8, 2, false, []),
  (⟨"RodYard$Works", "fillBy", "(I)I"⟩, prog_9_method_14_code, 2, (some .int), 8, 1, false, []),
  (⟨"RodYard$Works", "fillByPatterns", "()I"⟩, prog_9_method_17_code, 5, (some .int), 8, 0, false, []),
  (⟨"RodYard$Works", "cutWhole", "(II)I"⟩, prog_9_method_13_code, 6, (some .int), 8, 2, false, []),
  (⟨"RodYard$Works", "cutOne", "(II)I"⟩, prog_9_method_10_code, 6, (some .int), 8, 2, false, []),
  (⟨"RodYard$Works", "deliver", "(I)V"⟩, prog_9_method_11_code, 3, none, 8, 1, false, []),
  (⟨"RodYard$Works", "fillByPieces", "(I)I"⟩, prog_9_method_15_code, 5, (some .int), 8, 1, false, []),
  (⟨"RodYard$Works", "nextLength", "(I)I"⟩, prog_9_method_16_code, 5, (some .int), 8, 1, false, []),
  (⟨"RodYard$Works", "closeRound", "()I"⟩, prog_9_method_18_code, 3, (some .int), 8, 0, false, []),
  (⟨"RodYard$Works", "scrapRod", "(I)I"⟩, prog_9_method_19_code, 3, (some .int), 8, 1, false, []),
  (⟨"RodYard$Works", "buyRod", "(I)I"⟩, prog_9_method_20_code, 3, (some .int), 8, 1, false, []),
  (⟨"RodYard$Works", "supplyFromStore", "(I)V"⟩, prog_9_method_12_code, 5, none, 8, 1, false, []),
  (⟨"RodYard$Trial", "<init>", "(LRodYard$Plan;LRodYard$State;)V"⟩, prog_8_method_1_code, 3, none, 7, 2, false, []),
  (⟨"RodYard$Trial", "piecesBy", "(I)I"⟩, prog_8_method_2_code, 2, (some .int), 7, 1, false, []),
  (⟨"RodYard$Trial", "lossBy", "(I)I"⟩, prog_8_method_3_code, 2, (some .int), 7, 1, false, []),
  (⟨"RodYard$Trial", "lackingBy", "(II)I"⟩, prog_8_method_4_code, 3, (some .int), 7, 2, false, []),
  (⟨"RodYard$Trial", "rodsToBuy", "(I)I"⟩, prog_8_method_5_code, 4, (some .int), 7, 1, false, []),
  (⟨"RodYard$Trial", "chooseKind", "()I"⟩, prog_8_method_6_code, 6, (some .int), 7, 0, false, []),
  (⟨"RodYard$Trial", "roundsWith", "(I)I"⟩, prog_8_method_7_code, 3, (some .int), 7, 1, false, []),
  (⟨"RodYard$Packing", "<init>", "(LRodYard$State;)V"⟩, prog_3_method_1_code, 2, none, 2, 1, false, []),
  (⟨"RodYard$Packing", "pack", "(I)V"⟩, prog_3_method_2_code, 6, none, 2, 1, false, []),
  (⟨"RodYard$Packing", "offerPiece", "(II)V"⟩, prog_3_method_3_code, 4, none, 2, 2, false, []),
  (⟨"RodYard$Packing", "pickBest", "(II)V"⟩, prog_3_method_4_code, 5, none, 2, 2, false, []),
  (⟨"RodYard$History", "<init>", "()V"⟩, prog_2_method_1_code, 2, none, 1, 0, false, []),
  (⟨"RodYard$History", "keepCopy", "(LRodYard$State;)V"⟩, prog_2_method_2_code, 2, none, 1, 1, false, []),
  (⟨"RodYard$History", "giveBack", "(LRodYard$State;)V"⟩, prog_2_method_3_code, 2, none, 1, 1, false, []),
  (⟨"RodYard$Parser", "<init>", "([B)V"⟩, prog_4_method_1_code, 2, none, 3, 1, false, []),
  (⟨"RodYard$Parser", "readText", "(I)Z"⟩, prog_4_method_2_code, 3, (some .boolean), 3, 1, false, []),
  (⟨"RodYard$Parser", "beginText", "(I)V"⟩, prog_4_method_3_code, 2, none, 3, 1, false, []),
  (⟨"RodYard$Parser", "readHead", "()Z"⟩, prog_4_method_5_code, 1, (some .boolean), 3, 0, false, []),
  (⟨"RodYard$Parser", "readWord", "(Ljava/lang/String;)Z"⟩, prog_4_method_11_code, 2, (some .boolean), 3, 1, false, []),
  (⟨"RodYard$Parser", "nextToken", "()V"⟩, prog_4_method_15_code, 1, none, 3, 0, false, []),
  (⟨"RodYard$Parser", "skipBlanks", "()V"⟩, prog_4_method_17_code, 1, none, 3, 0, false, []),
  (⟨"RodYard$Parser", "isLetter", "(B)Z"⟩, prog_4_method_20_code, 1, (some .boolean), 3, 1, true, []),
  (⟨"RodYard$Parser", "takeWord", "()V"⟩, prog_4_method_18_code, 1, none, 3, 0, false, []),
  (⟨"RodYard$Parser", "isDigit", "(B)Z"⟩, prog_4_method_21_code, 1, (some .boolean), 3, 1, true, []),
  (⟨"RodYard$Parser", "takeNumber", "()V"⟩, prog_4_method_19_code, 1, none, 3, 0, false, []),
  (⟨"RodYard$Parser", "isWord", "(Ljava/lang/String;)Z"⟩, prog_4_method_14_code, 3, (some .boolean), 3, 1, false, []),
  (⟨"RodYard$Parser", "fail", "(I)Z"⟩, prog_4_method_13_code, 2, (some .boolean), 3, 1, false, []),
  (⟨"RodYard$Parser", "readNumber", "(II)Z"⟩, prog_4_method_12_code, 3, (some .boolean), 3, 2, false, [])]
def am_mt2 : List am_MT := [(⟨"RodYard$Parser", "readLine", "()Z"⟩, prog_4_method_6_code, 1, (some .boolean), 3, 0, false, []),
  (⟨"RodYard$Parser", "readKind", "()Z"⟩, prog_4_method_7_code, 2, (some .boolean), 3, 0, false, []),
  (⟨"RodYard$Parser", "readRods", "()Z"⟩, prog_4_method_8_code, 3, (some .boolean), 3, 0, false, []),
  (⟨"RodYard$Parser", "readOrder", "()Z"⟩, prog_4_method_9_code, 4, (some .boolean), 3, 0, false, []),
  (⟨"RodYard$Parser", "readPattern", "()Z"⟩, prog_4_method_10_code, 2, (some .boolean), 3, 0, false, []),
  (⟨"RodYard$Parser", "digitFollows", "()Z"⟩, prog_4_method_16_code, 1, (some .boolean), 3, 0, false, []),
  (⟨"RodYard$Parser", "semicolonsAhead", "()I"⟩, prog_4_method_4_code, 3, (some .int), 3, 0, false, []),
  (⟨"RodYard", "<init>", "()V"⟩, prog_1_method_1_code, 2, none, 0, 0, false, []),
  (⟨"RodYard", "append", "(IIIII)I"⟩, prog_1_method_2_code, 6, (some .int), 0, 5, false, []),
  (⟨"RodYard", "putBytes", "(II)V"⟩, prog_1_method_59_code, 3, none, 0, 2, false, []),
  (⟨"RodYard", "parseError", "()I"⟩, prog_1_method_4_code, 1, (some .int), 0, 0, false, []),
  (⟨"RodYard", "errorPosition", "()I"⟩, prog_1_method_5_code, 1, (some .int), 0, 0, false, []),
  (⟨"RodYard", "errorLine", "()I"⟩, prog_1_method_6_code, 1, (some .int), 0, 0, false, []),
  (⟨"RodYard", "buffered", "()I"⟩, prog_1_method_7_code, 1, (some .int), 0, 0, false, []),
  (⟨"RodYard", "cuts", "()I"⟩, prog_1_method_41_code, 1, (some .int), 0, 0, false, []),
  (⟨"RodYard", "undoable", "()I"⟩, prog_1_method_56_code, 1, (some .int), 0, 0, false, []),
  (⟨"RodYard", "load", "(I)I"⟩, prog_1_method_3_code, 2, (some .int), 0, 1, false, []),
  (⟨"RodYard", "takeParsedYard", "()V"⟩, prog_1_method_60_code, 2, none, 0, 0, false, []),
  (⟨"RodYard", "count", "(I)I"⟩, prog_1_method_8_code, 2, (some .int), 0, 1, false, []),
  (⟨"RodYard", "needYard", "()V"⟩, prog_1_method_62_code, 1, none, 0, 0, false, []),
  (⟨"RodYard", "kind", "(IZ)I"⟩, prog_1_method_9_code, 3, (some .int), 0, 2, false, []),
  (⟨"RodYard", "needKind", "(I)V"⟩, prog_1_method_63_code, 2, none, 0, 1, false, []),
  (⟨"RodYard", "rod", "(II)I"⟩, prog_1_method_10_code, 3, (some .int), 0, 2, false, []),
  (⟨"RodYard", "needRod", "(I)V"⟩, prog_1_method_64_code, 2, none, 0, 1, false, []),
  (⟨"RodYard", "needRange", "(III)V"⟩, prog_1_method_69_code, 3, none, 0, 3, true, []),
  (⟨"RodYard", "order", "(II)I"⟩, prog_1_method_11_code, 3, (some .int), 0, 2, false, []),
  (⟨"RodYard", "needOrder", "(I)V"⟩, prog_1_method_65_code, 2, none, 0, 1, false, []),
  (⟨"RodYard", "patternSize", "(I)I"⟩, prog_1_method_12_code, 2, (some .int), 0, 1, false, []),
  (⟨"RodYard", "needPattern", "(I)V"⟩, prog_1_method_66_code, 2, none, 0, 1, false, []),
  (⟨"RodYard", "patternLength", "(II)I"⟩, prog_1_method_13_code, 3, (some .int), 0, 2, false, []),
  (⟨"RodYard", "setting", "(I)I"⟩, prog_1_method_14_code, 2, (some .int), 0, 1, false, []),
  (⟨"RodYard", "round", "()I"⟩, prog_1_method_15_code, 1, (some .int), 0, 0, false, []),
  (⟨"RodYard", "wanted", "(I)I"⟩, prog_1_method_16_code, 2, (some .int), 0, 1, false, []),
  (⟨"RodYard", "needLength", "(I)V"⟩, prog_1_method_68_code, 1, none, 0, 1, true, []),
  (⟨"RodYard", "stored", "(I)I"⟩, prog_1_method_17_code, 2, (some .int), 0, 1, false, []),
  (⟨"RodYard", "left", "(II)I"⟩, prog_1_method_18_code, 3, (some .int), 0, 2, false, []),
  (⟨"RodYard", "rodFor", "(II)I"⟩, prog_1_method_19_code, 3, (some .int), 0, 2, false, []),
  (⟨"RodYard", "longest", "()I"⟩, prog_1_method_20_code, 1, (some .int), 0, 0, false, []),
  (⟨"RodYard", "total", "()I"⟩, prog_1_method_21_code, 3, (some .int), 0, 0, false, []),
  (⟨"RodYard", "worth", "()I"⟩, prog_1_method_22_code, 3, (some .int), 0, 0, false, [])]
def am_mt3 : List am_MT := [(⟨"RodYard", "firstDue", "()I"⟩, prog_1_method_23_code, 1, (some .int), 0, 0, false, []),
  (⟨"RodYard", "overdue", "()I"⟩, prog_1_method_24_code, 3, (some .int), 0, 0, false, []),
  (⟨"RodYard", "fits", "(II)Z"⟩, prog_1_method_25_code, 3, (some .boolean), 0, 2, false, []),
  (⟨"RodYard", "patternLeft", "(II)I"⟩, prog_1_method_26_code, 3, (some .int), 0, 2, false, []),
  (⟨"RodYard", "patternRod", "(I)I"⟩, prog_1_method_27_code, 2, (some .int), 0, 1, false, []),
  (⟨"RodYard", "wantedPatterns", "()I"⟩, prog_1_method_28_code, 3, (some .int), 0, 0, false, []),
  (⟨"RodYard", "bestLeft", "(I)I"⟩, prog_1_method_29_code, 2, (some .int), 0, 1, false, []),
  (⟨"RodYard", "bestPieces", "(I)I"⟩, prog_1_method_30_code, 2, (some .int), 0, 1, false, []),
  (⟨"RodYard", "piecesIf", "(I)I"⟩, prog_1_method_31_code, 2, (some .int), 0, 1, false, []),
  (⟨"RodYard", "lossIf", "(I)I"⟩, prog_1_method_32_code, 2, (some .int), 0, 1, false, []),
  (⟨"RodYard", "lackingIf", "(II)I"⟩, prog_1_method_33_code, 3, (some .int), 0, 2, false, []),
  (⟨"RodYard", "bestPolicy", "()I"⟩, prog_1_method_34_code, 7, (some .int), 0, 0, false, []),
  (⟨"RodYard", "rodsNeeded", "(I)I"⟩, prog_1_method_35_code, 2, (some .int), 0, 1, false, []),
  (⟨"RodYard", "cheapestKind", "()I"⟩, prog_1_method_36_code, 1, (some .int), 0, 0, false, []),
  (⟨"RodYard", "roundsToFill", "(I)I"⟩, prog_1_method_37_code, 2, (some .int), 0, 1, false, []),
  (⟨"RodYard", "account", "(I)I"⟩, prog_1_method_38_code, 2, (some .int), 0, 1, false, []),
  (⟨"RodYard", "meanLoss", "()D"⟩, prog_1_method_39_code, 2, (some .double), 0, 0, false, []),
  (⟨"RodYard", "shareUsed", "()F"⟩, prog_1_method_40_code, 3, (some .float), 0, 0, false, []),
  (⟨"RodYard", "cut", "(II)I"⟩, prog_1_method_42_code, 3, (some .int), 0, 2, false, []),
  (⟨"RodYard", "writeRods", "()I"⟩, prog_1_method_43_code, 2, (some .int), 0, 0, false, []),
  (⟨"RodYard", "writeRod", "(I)V"⟩, prog_1_method_61_code, 2, none, 0, 1, false, []),
  (⟨"RodYard", "writeOrder", "(I)I"⟩, prog_1_method_44_code, 2, (some .int), 0, 1, false, []),
  (⟨"RodYard", "textByte", "(I)I"⟩, prog_1_method_45_code, 2, (some .int), 0, 1, false, []),
  (⟨"RodYard", "cutPiece", "(II)I"⟩, prog_1_method_46_code, 3, (some .int), 0, 2, false, []),
  (⟨"RodYard", "cutPattern", "(II)I"⟩, prog_1_method_47_code, 3, (some .int), 0, 2, false, []),
  (⟨"RodYard", "fill", "(I)I"⟩, prog_1_method_48_code, 2, (some .int), 0, 1, false, []),
  (⟨"RodYard", "endRound", "()I"⟩, prog_1_method_49_code, 1, (some .int), 0, 0, false, []),
  (⟨"RodYard", "buy", "(I)I"⟩, prog_1_method_50_code, 2, (some .int), 0, 1, false, []),
  (⟨"RodYard", "addOrder", "(IIII)I"⟩, prog_1_method_51_code, 6, (some .int), 0, 4, false, []),
  (⟨"RodYard", "cancel", "(I)I"⟩, prog_1_method_52_code, 3, (some .int), 0, 1, false, []),
  (⟨"RodYard", "scrap", "(I)I"⟩, prog_1_method_53_code, 2, (some .int), 0, 1, false, []),
  (⟨"RodYard", "setSetting", "(II)I"⟩, prog_1_method_54_code, 4, (some .int), 0, 2, false, []),
  (⟨"RodYard", "undo", "()I"⟩, prog_1_method_55_code, 1, (some .int), 0, 0, false, []),
  (⟨"RodYard", "save", "(I)I"⟩, prog_1_method_57_code, 2, (some .int), 0, 1, false, []),
  (⟨"RodYard", "needSlot", "(I)V"⟩, prog_1_method_67_code, 1, none, 0, 1, true, []),
  (⟨"RodYard", "restore", "(I)I"⟩, prog_1_method_58_code, 2, (some .int), 0, 1, false, []),
  (⟨"RodYardModel", "<init>", "()V"⟩, prog_11_method_1_code, 1, none, 9, 0, false, []),
  (⟨"RodYardModel", "thrown", "()I"⟩, prog_11_method_2_code, 1, (some .int), 9, 0, false, []),
  (⟨"RodYardModel", "append", "(IIIII)I"⟩, prog_11_method_7_code, 8, (some .int), 9, 5, false, []),
  (⟨"RodYardModel", "buffered", "()I"⟩, prog_11_method_8_code, 1, (some .int), 9, 0, false, [])]
def am_mt4 : List am_MT := [(⟨"RodYardModel", "parseError", "()I"⟩, prog_11_method_9_code, 1, (some .int), 9, 0, false, []),
  (⟨"RodYardModel", "errorPosition", "()I"⟩, prog_11_method_10_code, 1, (some .int), 9, 0, false, []),
  (⟨"RodYardModel", "errorLine", "()I"⟩, prog_11_method_11_code, 1, (some .int), 9, 0, false, []),
  (⟨"RodYardModel", "load", "(I)I"⟩, prog_11_method_32_code, 2, (some .int), 9, 1, false, []),
  (⟨"RodYardModel", "in", "(III)Z"⟩, prog_11_method_3_code, 3, (some .boolean), 9, 3, true, []),
  (⟨"RodYardModel", "refuse", "(ZI)Z"⟩, prog_11_method_5_code, 3, (some .boolean), 9, 2, false, []),
  (⟨"RodYardModel", "reads", "(I)V"⟩, prog_11_method_29_code, 3, none, 9, 1, false, []),
  (⟨"RodYardModel", "token", "()V"⟩, prog_11_method_15_code, 2, none, 9, 0, false, []),
  (⟨"RodYardModel", "seen", "(I)I"⟩, prog_11_method_12_code, 2, (some .int), 9, 1, false, []),
  (⟨"RodYardModel", "isLetter", "(I)Z"⟩, prog_11_method_13_code, 1, (some .boolean), 9, 1, true, []),
  (⟨"RodYardModel", "isDigit", "(I)Z"⟩, prog_11_method_14_code, 1, (some .boolean), 9, 1, true, []),
  (⟨"RodYardModel", "needs", "(Ljava/lang/String;)V"⟩, prog_11_method_20_code, 2, none, 9, 1, false, []),
  (⟨"RodYardModel", "isWord", "(Ljava/lang/String;)Z"⟩, prog_11_method_19_code, 3, (some .boolean), 9, 1, false, []),
  (⟨"RodYardModel", "failsIf", "(ZI)V"⟩, prog_11_method_17_code, 3, none, 9, 2, false, []),
  (⟨"RodYardModel", "fails", "(I)V"⟩, prog_11_method_16_code, 2, none, 9, 1, false, []),
  (⟨"RodYardModel", "goesOn", "()V"⟩, prog_11_method_18_code, 1, none, 9, 0, false, []),
  (⟨"RodYardModel", "takes", "(II)I"⟩, prog_11_method_22_code, 4, (some .int), 9, 2, false, []),
  (⟨"RodYardModel", "numberHere", "(II)I"⟩, prog_11_method_21_code, 3, (some .int), 9, 2, false, []),
  (⟨"RodYardModel", "line", "()V"⟩, prog_11_method_28_code, 1, none, 9, 0, false, []),
  (⟨"RodYardModel", "kindLine", "()V"⟩, prog_11_method_23_code, 4, none, 9, 0, false, []),
  (⟨"RodYardModel", "rodsLine", "()V"⟩, prog_11_method_24_code, 4, none, 9, 0, false, []),
  (⟨"RodYardModel", "orderLine", "()V"⟩, prog_11_method_25_code, 5, none, 9, 0, false, []),
  (⟨"RodYardModel", "laysOrder", "([IIIII)V"⟩, prog_11_method_26_code, 6, none, 9, 5, true, []),
  (⟨"RodYardModel", "patternLine", "()V"⟩, prog_11_method_27_code, 3, none, 9, 0, false, []),
  (⟨"RodYardModel", "linesTo", "(I)I"⟩, prog_11_method_31_code, 4, (some .int), 9, 1, false, []),
  (⟨"RodYardModel", "flag", "(Z)I"⟩, prog_11_method_4_code, 1, (some .int), 9, 1, true, []),
  (⟨"RodYardModel", "copies", "([I[I)V"⟩, prog_11_method_30_code, 3, none, 9, 2, true, []),
  (⟨"RodYardModel", "count", "(I)I"⟩, prog_11_method_45_code, 4, (some .int), 9, 1, false, []),
  (⟨"RodYardModel", "noYard", "()Z"⟩, prog_11_method_6_code, 1, (some .boolean), 9, 0, false, []),
  (⟨"RodYardModel", "isStock", "(I)Z"⟩, prog_11_method_40_code, 2, (some .boolean), 9, 1, false, []),
  (⟨"RodYardModel", "isOpen", "(I)Z"⟩, prog_11_method_42_code, 2, (some .boolean), 9, 1, false, []),
  (⟨"RodYardModel", "of", "(II)I"⟩, prog_11_method_41_code, 3, (some .int), 9, 2, false, []),
  (⟨"RodYardModel", "allLacking", "()I"⟩, prog_11_method_44_code, 3, (some .int), 9, 0, false, []),
  (⟨"RodYardModel", "kind", "(IZ)I"⟩, prog_11_method_46_code, 3, (some .int), 9, 2, false, []),
  (⟨"RodYardModel", "noKind", "(I)Z"⟩, prog_11_method_33_code, 2, (some .boolean), 9, 1, false, []),
  (⟨"RodYardModel", "rod", "(II)I"⟩, prog_11_method_47_code, 3, (some .int), 9, 2, false, []),
  (⟨"RodYardModel", "noRod", "(I)Z"⟩, prog_11_method_35_code, 2, (some .boolean), 9, 1, false, []),
  (⟨"RodYardModel", "isRod", "(I)Z"⟩, prog_11_method_34_code, 2, (some .boolean), 9, 1, false, []),
  (⟨"RodYardModel", "order", "(II)I"⟩, prog_11_method_48_code, 3, (some .int), 9, 2, false, []),
  (⟨"RodYardModel", "noOrder", "(I)Z"⟩, prog_11_method_36_code, 2, (some .boolean), 9, 1, false, [])]
def am_mt5 : List am_MT := [(⟨"RodYardModel", "patternSize", "(I)I"⟩, prog_11_method_49_code, 2, (some .int), 9, 1, false, []),
  (⟨"RodYardModel", "noPattern", "(I)Z"⟩, prog_11_method_37_code, 2, (some .boolean), 9, 1, false, []),
  (⟨"RodYardModel", "patternLength", "(II)I"⟩, prog_11_method_50_code, 3, (some .int), 9, 2, false, []),
  (⟨"RodYardModel", "setting", "(I)I"⟩, prog_11_method_51_code, 2, (some .int), 9, 1, false, []),
  (⟨"RodYardModel", "round", "()I"⟩, prog_11_method_52_code, 1, (some .int), 9, 0, false, []),
  (⟨"RodYardModel", "wanted", "(I)I"⟩, prog_11_method_53_code, 2, (some .int), 9, 1, false, []),
  (⟨"RodYardModel", "noLength", "(II)Z"⟩, prog_11_method_39_code, 3, (some .boolean), 9, 2, false, []),
  (⟨"RodYardModel", "lacking", "(I)I"⟩, prog_11_method_43_code, 4, (some .int), 9, 1, false, []),
  (⟨"RodYardModel", "stored", "(I)I"⟩, prog_11_method_54_code, 2, (some .int), 9, 1, false, []),
  (⟨"RodYardModel", "left", "(II)I"⟩, prog_11_method_57_code, 3, (some .int), 9, 2, false, []),
  (⟨"RodYardModel", "canCut", "(II)Z"⟩, prog_11_method_56_code, 3, (some .boolean), 9, 2, false, []),
  (⟨"RodYardModel", "behind", "(II)I"⟩, prog_11_method_55_code, 3, (some .int), 9, 2, false, []),
  (⟨"RodYardModel", "rodFor", "(II)I"⟩, prog_11_method_59_code, 3, (some .int), 9, 2, false, []),
  (⟨"RodYardModel", "rodOf", "(II)I"⟩, prog_11_method_58_code, 7, (some .int), 9, 2, false, []),
  (⟨"RodYardModel", "longest", "()I"⟩, prog_11_method_60_code, 1, (some .int), 9, 0, false, []),
  (⟨"RodYardModel", "total", "()I"⟩, prog_11_method_61_code, 3, (some .int), 9, 0, false, []),
  (⟨"RodYardModel", "worth", "()I"⟩, prog_11_method_62_code, 3, (some .int), 9, 0, false, []),
  (⟨"RodYardModel", "firstDue", "()I"⟩, prog_11_method_64_code, 1, (some .int), 9, 0, false, []),
  (⟨"RodYardModel", "firstOpen", "(I)I"⟩, prog_11_method_63_code, 5, (some .int), 9, 1, false, []),
  (⟨"RodYardModel", "overdue", "()I"⟩, prog_11_method_65_code, 3, (some .int), 9, 0, false, []),
  (⟨"RodYardModel", "fits", "(II)Z"⟩, prog_11_method_67_code, 3, (some .boolean), 9, 2, false, []),
  (⟨"RodYardModel", "noBoth", "(II)Z"⟩, prog_11_method_38_code, 3, (some .boolean), 9, 2, false, []),
  (⟨"RodYardModel", "patternBehind", "(II)I"⟩, prog_11_method_66_code, 5, (some .int), 9, 2, false, []),
  (⟨"RodYardModel", "patternLeft", "(II)I"⟩, prog_11_method_68_code, 3, (some .int), 9, 2, false, []),
  (⟨"RodYardModel", "patternRod", "(I)I"⟩, prog_11_method_70_code, 2, (some .int), 9, 1, false, []),
  (⟨"RodYardModel", "rodOfPattern", "(I)I"⟩, prog_11_method_69_code, 5, (some .int), 9, 1, false, []),
  (⟨"RodYardModel", "wantedPatterns", "()I"⟩, prog_11_method_72_code, 3, (some .int), 9, 0, false, []),
  (⟨"RodYardModel", "isWanted", "(I)Z"⟩, prog_11_method_71_code, 6, (some .boolean), 9, 1, false, []),
  (⟨"RodYardModel", "bestLeft", "(I)I"⟩, prog_11_method_74_code, 2, (some .int), 9, 1, false, []),
  (⟨"RodYardModel", "reckonsBest", "(I)V"⟩, prog_11_method_73_code, 9, none, 9, 1, false, []),
  (⟨"RodYardModel", "bestPieces", "(I)I"⟩, prog_11_method_75_code, 2, (some .int), 9, 1, false, []),
  (⟨"RodYardModel", "piecesIf", "(I)I"⟩, prog_11_method_89_code, 2, (some .int), 9, 1, false, []),
  (⟨"RodYardModel", "noPolicy", "(I)Z"⟩, prog_11_method_88_code, 2, (some .boolean), 9, 1, false, []),
  (⟨"RodYardModel", "piecesOf", "(I)I"⟩, prog_11_method_87_code, 3, (some .int), 9, 1, false, []),
  (⟨"RodYardModel", "keeps", "(I)V"⟩, prog_11_method_109_code, 3, none, 9, 1, false, []),
  (⟨"RodYardModel", "fills", "(I)I"⟩, prog_11_method_82_code, 6, (some .int), 9, 1, false, []),
  (⟨"RodYardModel", "fillsPatterns", "()V"⟩, prog_11_method_81_code, 4, none, 9, 0, false, []),
  (⟨"RodYardModel", "cutsPattern", "(II)I"⟩, prog_11_method_79_code, 5, (some .int), 9, 2, false, []),
  (⟨"RodYardModel", "cuts", "(II)I"⟩, prog_11_method_78_code, 6, (some .int), 9, 2, false, []),
  (⟨"RodYardModel", "loses", "(III)V"⟩, prog_11_method_76_code, 4, none, 9, 3, false, [])]
def am_mt6 : List am_MT := [(⟨"RodYardModel", "gives", "(I)V"⟩, prog_11_method_77_code, 3, none, 9, 1, false, []),
  (⟨"RodYardModel", "nextLength", "(I)I"⟩, prog_11_method_80_code, 5, (some .int), 9, 1, false, []),
  (⟨"RodYardModel", "fetches", "(I)V"⟩, prog_11_method_110_code, 3, none, 9, 1, false, []),
  (⟨"RodYardModel", "lossIf", "(I)I"⟩, prog_11_method_90_code, 2, (some .int), 9, 1, false, []),
  (⟨"RodYardModel", "lossOf", "(I)I"⟩, prog_11_method_86_code, 5, (some .int), 9, 1, false, []),
  (⟨"RodYardModel", "endsRound", "()I"⟩, prog_11_method_84_code, 3, (some .int), 9, 0, false, []),
  (⟨"RodYardModel", "scraps", "(I)I"⟩, prog_11_method_83_code, 3, (some .int), 9, 1, false, []),
  (⟨"RodYardModel", "lackingIf", "(II)I"⟩, prog_11_method_91_code, 5, (some .int), 9, 2, false, []),
  (⟨"RodYardModel", "bestPolicy", "()I"⟩, prog_11_method_92_code, 4, (some .int), 9, 0, false, []),
  (⟨"RodYardModel", "rodsNeeded", "(I)I"⟩, prog_11_method_94_code, 2, (some .int), 9, 1, false, []),
  (⟨"RodYardModel", "neededOf", "(I)I"⟩, prog_11_method_93_code, 5, (some .int), 9, 1, false, []),
  (⟨"RodYardModel", "adds", "(I)V"⟩, prog_11_method_85_code, 3, none, 9, 1, false, []),
  (⟨"RodYardModel", "cheapestKind", "()I"⟩, prog_11_method_95_code, 6, (some .int), 9, 0, false, []),
  (⟨"RodYardModel", "roundsToFill", "(I)I"⟩, prog_11_method_96_code, 5, (some .int), 9, 1, false, []),
  (⟨"RodYardModel", "account", "(I)I"⟩, prog_11_method_97_code, 2, (some .int), 9, 1, false, []),
  (⟨"RodYardModel", "meanLoss", "()D"⟩, prog_11_method_98_code, 1, (some .double), 9, 0, false, []),
  (⟨"RodYardModel", "shareUsed", "()F"⟩, prog_11_method_99_code, 2, (some .float), 9, 0, false, []),
  (⟨"RodYardModel", "cuts", "()I"⟩, prog_11_method_101_code, 1, (some .int), 9, 0, false, []),
  (⟨"RodYardModel", "told", "(I)I"⟩, prog_11_method_100_code, 2, (some .int), 9, 1, false, []),
  (⟨"RodYardModel", "undoable", "()I"⟩, prog_11_method_102_code, 1, (some .int), 9, 0, false, []),
  (⟨"RodYardModel", "cut", "(II)I"⟩, prog_11_method_103_code, 3, (some .int), 9, 2, false, []),
  (⟨"RodYardModel", "writeRods", "()I"⟩, prog_11_method_106_code, 2, (some .int), 9, 0, false, []),
  (⟨"RodYardModel", "says", "(I)V"⟩, prog_11_method_104_code, 2, none, 9, 1, false, []),
  (⟨"RodYardModel", "saysNumber", "(I)V"⟩, prog_11_method_105_code, 2, none, 9, 1, false, []),
  (⟨"RodYardModel", "writeOrder", "(I)I"⟩, prog_11_method_107_code, 2, (some .int), 9, 1, false, []),
  (⟨"RodYardModel", "textByte", "(I)I"⟩, prog_11_method_108_code, 2, (some .int), 9, 1, false, []),
  (⟨"RodYardModel", "cutPiece", "(II)I"⟩, prog_11_method_112_code, 3, (some .int), 9, 2, false, []),
  (⟨"RodYardModel", "keepsAll", "()V"⟩, prog_11_method_111_code, 2, none, 9, 0, false, []),
  (⟨"RodYardModel", "cutPattern", "(II)I"⟩, prog_11_method_113_code, 3, (some .int), 9, 2, false, []),
  (⟨"RodYardModel", "fill", "(I)I"⟩, prog_11_method_114_code, 2, (some .int), 9, 1, false, []),
  (⟨"RodYardModel", "endRound", "()I"⟩, prog_11_method_115_code, 1, (some .int), 9, 0, false, []),
  (⟨"RodYardModel", "buy", "(I)I"⟩, prog_11_method_116_code, 2, (some .int), 9, 1, false, []),
  (⟨"RodYardModel", "addOrder", "(IIII)I"⟩, prog_11_method_117_code, 7, (some .int), 9, 4, false, []),
  (⟨"RodYardModel", "cancel", "(I)I"⟩, prog_11_method_118_code, 3, (some .int), 9, 1, false, []),
  (⟨"RodYardModel", "scrap", "(I)I"⟩, prog_11_method_119_code, 2, (some .int), 9, 1, false, []),
  (⟨"RodYardModel", "setSetting", "(II)I"⟩, prog_11_method_120_code, 4, (some .int), 9, 2, false, []),
  (⟨"RodYardModel", "undo", "()I"⟩, prog_11_method_121_code, 1, (some .int), 9, 0, false, []),
  (⟨"RodYardModel", "save", "(I)I"⟩, prog_11_method_122_code, 2, (some .int), 9, 1, false, []),
  (⟨"RodYardModel", "restore", "(I)I"⟩, prog_11_method_123_code, 2, (some .int), 9, 1, false, []),
  (⟨"RodYardLaw", "load", "(LRodYard;I[J)I"⟩, method_3_code, 4, (some .int), 13, 3, true, [(0, 9, 12, 13), (0, 9, 15, 15)])]
def am_mt7 : List am_MT := [(⟨"RodYardLaw", "count", "(LRodYard;I[J)I"⟩, method_4_code, 4, (some .int), 13, 3, true, [(0, 9, 12, 20), (0, 9, 15, 15)]),
  (⟨"RodYardLaw", "kind", "(LRodYard;IZ[J)I"⟩, method_5_code, 5, (some .int), 13, 4, true, [(0, 10, 13, 20), (0, 10, 17, 13)]),
  (⟨"RodYardLaw", "rod", "(LRodYard;II[J)I"⟩, method_6_code, 5, (some .int), 13, 4, true, [(0, 10, 13, 20), (0, 10, 17, 13), (0, 10, 21, 15)]),
  (⟨"RodYardLaw", "order", "(LRodYard;II[J)I"⟩, method_7_code, 5, (some .int), 13, 4, true, [(0, 10, 13, 20), (0, 10, 17, 13), (0, 10, 21, 15)]),
  (⟨"RodYardLaw", "patternSize", "(LRodYard;I[J)I"⟩, method_8_code, 4, (some .int), 13, 3, true, [(0, 9, 12, 20), (0, 9, 15, 13)]),
  (⟨"RodYardLaw", "patternLength", "(LRodYard;II[J)I"⟩, method_9_code, 5, (some .int), 13, 4, true, [(0, 10, 13, 20), (0, 10, 17, 13)]),
  (⟨"RodYardLaw", "setting", "(LRodYard;I[J)I"⟩, method_10_code, 4, (some .int), 13, 3, true, [(0, 9, 12, 20), (0, 9, 15, 15)]),
  (⟨"RodYardLaw", "round", "(LRodYard;[J)I"⟩, method_11_code, 3, (some .int), 13, 2, true, [(0, 8, 11, 20)]),
  (⟨"RodYardLaw", "wanted", "(LRodYard;I[J)I"⟩, method_12_code, 4, (some .int), 13, 3, true, [(0, 9, 12, 20), (0, 9, 15, 15)]),
  (⟨"RodYardLaw", "stored", "(LRodYard;I[J)I"⟩, method_13_code, 4, (some .int), 13, 3, true, [(0, 9, 12, 20), (0, 9, 15, 15)]),
  (⟨"RodYardLaw", "left", "(LRodYard;II[J)I"⟩, method_14_code, 5, (some .int), 13, 4, true, [(0, 10, 13, 20), (0, 10, 17, 13), (0, 10, 21, 15)]),
  (⟨"RodYardLaw", "rodFor", "(LRodYard;II[J)I"⟩, method_15_code, 5, (some .int), 13, 4, true, [(0, 10, 13, 20), (0, 10, 17, 15)]),
  (⟨"RodYardLaw", "longest", "(LRodYard;[J)I"⟩, method_16_code, 3, (some .int), 13, 2, true, [(0, 8, 11, 20)]),
  (⟨"RodYardLaw", "total", "(LRodYard;[J)I"⟩, method_17_code, 3, (some .int), 13, 2, true, [(0, 8, 11, 20)]),
  (⟨"RodYardLaw", "worth", "(LRodYard;[J)I"⟩, method_18_code, 3, (some .int), 13, 2, true, [(0, 8, 11, 20)]),
  (⟨"RodYardLaw", "firstDue", "(LRodYard;[J)I"⟩, method_19_code, 3, (some .int), 13, 2, true, [(0, 8, 11, 20)]),
  (⟨"RodYardLaw", "overdue", "(LRodYard;[J)I"⟩, method_20_code, 3, (some .int), 13, 2, true, [(0, 8, 11, 20)]),
  (⟨"RodYardLaw", "fits", "(LRodYard;II[J)I"⟩, method_21_code, 5, (some .int), 13, 4, true, [(0, 17, 20, 20), (0, 17, 24, 13)]),
  (⟨"RodYardLaw", "patternLeft", "(LRodYard;II[J)I"⟩, method_22_code, 5, (some .int), 13, 4, true, [(0, 10, 13, 20), (0, 10, 17, 13)]),
  (⟨"RodYardLaw", "patternRod", "(LRodYard;I[J)I"⟩, method_23_code, 4, (some .int), 13, 3, true, [(0, 9, 12, 20), (0, 9, 15, 13)]),
  (⟨"RodYardLaw", "wantedPatterns", "(LRodYard;[J)I"⟩, method_24_code, 3, (some .int), 13, 2, true, [(0, 8, 11, 20)]),
  (⟨"RodYardLaw", "bestLeft", "(LRodYard;I[J)I"⟩, method_25_code, 4, (some .int), 13, 3, true, [(0, 9, 12, 20), (0, 9, 15, 13)]),
  (⟨"RodYardLaw", "bestPieces", "(LRodYard;I[J)I"⟩, method_26_code, 4, (some .int), 13, 3, true, [(0, 9, 12, 20), (0, 9, 15, 13)]),
  (⟨"RodYardLaw", "piecesIf", "(LRodYard;I[J)I"⟩, method_27_code, 4, (some .int), 13, 3, true, [(0, 9, 12, 20), (0, 9, 15, 15)]),
  (⟨"RodYardLaw", "lossIf", "(LRodYard;I[J)I"⟩, method_28_code, 4, (some .int), 13, 3, true, [(0, 9, 12, 20), (0, 9, 15, 15)]),
  (⟨"RodYardLaw", "lackingIf", "(LRodYard;II[J)I"⟩, method_29_code, 5, (some .int), 13, 4, true, [(0, 10, 13, 20), (0, 10, 17, 13), (0, 10, 21, 15)]),
  (⟨"RodYardLaw", "bestPolicy", "(LRodYard;[J)I"⟩, method_30_code, 3, (some .int), 13, 2, true, [(0, 8, 11, 20)]),
  (⟨"RodYardLaw", "rodsNeeded", "(LRodYard;I[J)I"⟩, method_31_code, 4, (some .int), 13, 3, true, [(0, 9, 12, 20), (0, 9, 15, 13)]),
  (⟨"RodYardLaw", "cheapestKind", "(LRodYard;[J)I"⟩, method_32_code, 3, (some .int), 13, 2, true, [(0, 8, 11, 20)]),
  (⟨"RodYardLaw", "roundsToFill", "(LRodYard;I[J)I"⟩, method_33_code, 4, (some .int), 13, 3, true, [(0, 9, 12, 20), (0, 9, 15, 13)]),
  (⟨"RodYardLaw", "account", "(LRodYard;I[J)I"⟩, method_34_code, 4, (some .int), 13, 3, true, [(0, 9, 12, 20), (0, 9, 15, 15)]),
  (⟨"RodYardLaw", "meanLoss", "(LRodYard;[D)I"⟩, method_35_code, 3, (some .int), 13, 2, true, [(0, 7, 10, 20)]),
  (⟨"RodYardLaw", "shareUsed", "(LRodYard;[D)I"⟩, method_36_code, 3, (some .int), 13, 2, true, [(0, 8, 11, 20)]),
  (⟨"RodYardLaw", "cut", "(LRodYard;II[J)I"⟩, method_37_code, 5, (some .int), 13, 4, true, [(0, 10, 13, 20), (0, 10, 17, 13), (0, 10, 21, 15)]),
  (⟨"RodYardLaw", "writeRods", "(LRodYard;[J)I"⟩, method_38_code, 3, (some .int), 13, 2, true, [(0, 8, 11, 20)]),
  (⟨"RodYardLaw", "writeOrder", "(LRodYard;I[J)I"⟩, method_39_code, 4, (some .int), 13, 3, true, [(0, 9, 12, 20), (0, 9, 15, 13)]),
  (⟨"RodYardLaw", "textByte", "(LRodYard;I[J)I"⟩, method_40_code, 4, (some .int), 13, 3, true, [(0, 9, 12, 13)]),
  (⟨"RodYardLaw", "cutPiece", "(LRodYard;II[J)I"⟩, method_41_code, 5, (some .int), 13, 4, true, [(0, 10, 13, 20), (0, 10, 17, 13), (0, 10, 21, 15)]),
  (⟨"RodYardLaw", "cutPattern", "(LRodYard;II[J)I"⟩, method_42_code, 5, (some .int), 13, 4, true, [(0, 10, 13, 20), (0, 10, 17, 13), (0, 10, 21, 15)]),
  (⟨"RodYardLaw", "fill", "(LRodYard;I[J)I"⟩, method_43_code, 4, (some .int), 13, 3, true, [(0, 9, 12, 20), (0, 9, 15, 15)])]
def am_mt8 : List am_MT := [(⟨"RodYardLaw", "endRound", "(LRodYard;[J)I"⟩, method_44_code, 3, (some .int), 13, 2, true, [(0, 8, 11, 20)]),
  (⟨"RodYardLaw", "buy", "(LRodYard;I[J)I"⟩, method_45_code, 4, (some .int), 13, 3, true, [(0, 9, 12, 20), (0, 9, 15, 13), (0, 9, 18, 15)]),
  (⟨"RodYardLaw", "addOrder", "(LRodYard;IIII[J)I"⟩, method_46_code, 7, (some .int), 13, 6, true, [(0, 14, 17, 20), (0, 14, 21, 15)]),
  (⟨"RodYardLaw", "cancel", "(LRodYard;I[J)I"⟩, method_47_code, 4, (some .int), 13, 3, true, [(0, 9, 12, 20), (0, 9, 15, 13), (0, 9, 18, 15)]),
  (⟨"RodYardLaw", "scrap", "(LRodYard;I[J)I"⟩, method_48_code, 4, (some .int), 13, 3, true, [(0, 9, 12, 20), (0, 9, 15, 13), (0, 9, 18, 15)]),
  (⟨"RodYardLaw", "setSetting", "(LRodYard;II[J)I"⟩, method_49_code, 5, (some .int), 13, 4, true, [(0, 10, 13, 20), (0, 10, 17, 15)]),
  (⟨"RodYardLaw", "undo", "(LRodYard;[J)I"⟩, method_50_code, 3, (some .int), 13, 2, true, [(0, 8, 11, 20)]),
  (⟨"RodYardLaw", "save", "(LRodYard;I[J)I"⟩, method_51_code, 4, (some .int), 13, 3, true, [(0, 9, 12, 20), (0, 9, 15, 13)]),
  (⟨"RodYardLaw", "restore", "(LRodYard;I[J)I"⟩, method_52_code, 4, (some .int), 13, 3, true, [(0, 9, 12, 13), (0, 9, 15, 20)])]
def am_mt : List am_MT := am_mt0 ++ (am_mt1 ++ (am_mt2 ++ (am_mt3 ++ (am_mt4 ++ (am_mt5 ++ (am_mt6 ++ (am_mt7 ++ (am_mt8))))))))
def am_md : am_MT := (⟨"?", "?", "?"⟩, ⟨#[]⟩, 0, none, 99, 0, false, [])
def am_mr (mi : Nat) : am_MT := am_mt.getD mi am_md
def am_name (mi : Nat) : MethodName := (am_mr mi).1
def am_code (mi : Nat) : ByteArray := (am_mr mi).2.1
def am_nL (mi : Nat) : Nat := (am_mr mi).2.2.1
def am_rt (mi : Nat) : Option FieldType := (am_mr mi).2.2.2.1
def am_oc (mi : Nat) : Nat := (am_mr mi).2.2.2.2.1
def am_na (mi : Nat) : Nat := (am_mr mi).2.2.2.2.2.1
def am_hh (mi : Nat) : List (Nat × Nat × Nat × Nat) := (am_mr mi).2.2.2.2.2.2.2
def am_own (mi : Nat) : String := am_cn (am_oc mi)
def am_flT : List (List (Nat × Nat × Nat × Nat)) := [[(135, 4, 0, 138), (166, 4, 1, 142), (162, 4, 2, 147), (141, 4, 3, 150), (189, 4, 4, 154), (194, 4, 5, 157), (200, 5, 0, 182), (197, 5, 1, 187), (129, 5, 2, 190), (176, 5, 3, 194), (138, 5, 4, 198), (183, 5, 5, 203), (210, 5, 6, 206), (272, 5, 7, 208), (277, 5, 8, 210), (265, 5, 9, 214), (360, 3, 1, 238), (364, 3, 2, 240), (114, 3, 5, 243), (108, 3, 8, 247), (241, 2, 2, 317), (244, 2, 3, 319), (343, 1, 2, 341), (300, 6, 0, 356), (280, 6, 1, 358), (9, 0, 0, 365), (90, 0, 1, 366), (18, 0, 2, 367), (111, 0, 3, 368), (22, 0, 4, 369), (26, 0, 5, 370), (268, 0, 6, 371), (32, 0, 7, 372), (39, 0, 8, 373), (48, 0, 9, 374), (55, 0, 10, 375), (64, 0, 11, 376), (71, 0, 12, 377), (75, 0, 13, 378), (79, 0, 14, 379), (86, 0, 15, 380)],
  [(11, 1, 0, 338), (18, 1, 1, 339), (26, 1, 2, 340)],
  [(19, 5, 1, 184), (30, 5, 4, 196), (34, 5, 5, 200), (15, 2, 0, 314), (9, 2, 1, 315), (45, 2, 2, 316), (48, 2, 3, 318)],
  [(63, 4, 0, 136), (128, 4, 1, 141), (66, 4, 3, 149), (90, 5, 1, 186), (69, 5, 2, 189), (72, 5, 4, 197), (25, 3, 0, 236), (12, 3, 1, 237), (21, 3, 2, 239), (57, 3, 3, 241), (60, 3, 4, 242), (75, 3, 5, 244), (40, 3, 6, 245), (94, 3, 7, 246), (147, 3, 8, 248)],
  [(26, 4, 0, 135), (9, 4, 1, 139), (15, 4, 2, 144), (30, 4, 3, 148), (18, 4, 4, 152), (23, 4, 5, 155)],
  [(32, 5, 0, 180), (9, 5, 1, 183), (36, 5, 2, 188), (17, 5, 3, 192), (39, 5, 4, 195), (20, 5, 5, 199), (23, 5, 6, 204), (42, 5, 7, 207), (26, 5, 8, 209), (29, 5, 9, 211)],
  [(11, 6, 0, 355), (15, 6, 1, 357)],
  [(63, 4, 0, 137), (72, 4, 1, 140), (75, 4, 2, 146), (50, 5, 5, 201), (46, 5, 9, 212), (9, 7, 0, 295), (15, 7, 1, 296), (22, 7, 2, 297), (30, 7, 3, 298)],
  [(137, 4, 1, 143), (19, 4, 2, 145), (121, 4, 3, 151), (40, 4, 4, 153), (43, 4, 5, 156), (93, 5, 0, 181), (31, 5, 1, 185), (49, 5, 2, 191), (25, 5, 3, 193), (90, 5, 5, 202), (79, 5, 6, 205), (70, 5, 9, 213), (9, 8, 0, 278), (15, 8, 1, 279)],
  [(63, 9, 0, 1337), (66, 9, 1, 1338), (203, 9, 2, 1339), (206, 9, 3, 1340), (7, 9, 4, 1341), (13, 9, 5, 1342), (16, 9, 6, 1343), (19, 9, 7, 1344), (22, 9, 8, 1345), (25, 9, 9, 1346), (213, 9, 10, 1347), (28, 9, 11, 1348), (32, 9, 12, 1349), (74, 9, 13, 1350), (77, 9, 14, 1351), (35, 9, 15, 1352), (39, 9, 16, 1353), (80, 9, 17, 1354), (83, 9, 18, 1355), (90, 9, 19, 1356), (93, 9, 20, 1357), (103, 9, 21, 1358), (106, 9, 22, 1359), (109, 9, 23, 1360), (42, 9, 24, 1361), (45, 9, 25, 1362), (48, 9, 26, 1363), (51, 9, 27, 1364), (54, 9, 28, 1365), (148, 9, 29, 1366), (158, 9, 30, 1367), (57, 9, 31, 1368), (283, 9, 32, 1369), (286, 9, 33, 1370), (60, 9, 34, 1371), (344, 9, 35, 1372)],
  [],
  [],
  [],
  [],
  [],
  [],
  [],
  [],
  []]
def am_fl (oc idx : Nat) : Option (Nat × Nat × Nat × Nat) := (am_flT.getD oc []).find? (fun q => q.1 == idx)
def am_mlT : List (List (Nat × Nat × Nat × Nat × Nat × Nat × Nat)) := [[(3, 5, 0, 118, 0, 0, 0), (15, 2, 66, 123, 124, 92, 0), (31, 3, 8, 269, 130, 93, 0), (38, 3, 14, 271, 176, 94, 0), (45, 2, 32, 274, 275, 95, 0), (54, 2, 52, 287, 288, 96, 0), (61, 2, 59, 310, 311, 97, 0), (70, 2, 63, 331, 332, 98, 0), (85, 3, 28, 351, 352, 99, 0), (93, 0, 89, 418, 420, 91, 0), (104, 0, 67, 522, 523, 92, 524), (117, 0, 86, 678, 679, 92, 680), (126, 0, 97, 698, 700, 91, 18), (361, 0, 13, 702, 703, 93, 704), (355, 0, 17, 709, 710, 94, 711), (132, 0, 99, 722, 724, 91, 19), (144, 0, 18, 742, 743, 94, 744), (147, 0, 19, 746, 747, 94, 748), (150, 0, 20, 750, 751, 94, 752), (153, 0, 21, 754, 755, 94, 756), (158, 0, 101, 766, 768, 91, 20), (169, 0, 103, 778, 780, 91, 21), (172, 1, 104, 783, 784, 91, 0), (180, 0, 106, 794, 796, 91, 22), (186, 0, 108, 806, 808, 91, 23), (203, 1, 113, 840, 841, 91, 0), (206, 0, 22, 843, 844, 94, 845), (213, 0, 33, 861, 862, 95, 863), (217, 0, 34, 875, 876, 95, 877), (220, 0, 23, 890, 891, 94, 892), (223, 0, 36, 908, 909, 95, 910), (226, 0, 24, 919, 920, 94, 921), (229, 0, 37, 937, 938, 95, 939), (232, 0, 38, 956, 957, 95, 958), (235, 0, 39, 968, 969, 95, 970), (238, 0, 60, 984, 985, 97, 986), (247, 0, 53, 1012, 1013, 96, 1014), (250, 0, 54, 1071, 1072, 96, 1073), (253, 0, 55, 1090, 1091, 96, 1092), (256, 0, 56, 1108, 1109, 96, 1110), (259, 0, 57, 1126, 1127, 96, 1128), (262, 0, 58, 1138, 1139, 96, 1140), (283, 0, 140, 1178, 1180, 91, 31), (286, 0, 29, 1182, 1183, 99, 1184), (290, 0, 30, 1186, 1187, 99, 1188), (295, 0, 31, 1200, 1201, 99, 1202), (305, 0, 64, 1222, 1223, 98, 1224), (308, 0, 44, 1228, 1032, 95, 1033), (313, 0, 43, 1237, 1028, 95, 1029), (316, 0, 41, 1245, 1018, 95, 1019), (319, 0, 48, 1253, 1076, 95, 1077), (324, 0, 50, 1262, 1113, 95, 1114), (329, 0, 16, 1271, 658, 94, 659), (333, 0, 51, 1272, 1273, 95, 1274), (340, 0, 49, 1292, 1080, 95, 1081), (349, 0, 65, 1308, 1309, 98, 1310), (352, 1, 154, 1319, 1320, 91, 0)],
  [(3, 5, 0, 334, 0, 0, 0), (17, 3, 14, 337, 176, 94, 0), (22, 0, 17, 1226, 710, 94, 711), (29, 7, 0, 1227, 0, 0, 0)],
  [(3, 5, 0, 313, 0, 0, 0), (24, 7, 0, 988, 0, 0, 0), (38, 0, 61, 989, 991, 97, 26), (42, 0, 62, 993, 995, 97, 27), (51, 6, 0, 997, 0, 0, 0)],
  [(3, 5, 0, 126, 0, 0, 0), (11, 3, 8, 129, 130, 93, 0), (20, 3, 14, 175, 176, 94, 0), (29, 0, 68, 526, 528, 92, 2), (51, 7, 0, 530, 0, 0, 0), (33, 0, 69, 533, 535, 92, 3), (80, 0, 70, 538, 540, 92, 4), (37, 0, 71, 542, 544, 92, 5), (160, 0, 72, 546, 548, 92, 6), (163, 1, 73, 550, 551, 92, 0), (167, 0, 74, 553, 555, 92, 7), (170, 1, 75, 557, 558, 92, 0), (173, 0, 76, 560, 562, 92, 8), (101, 0, 77, 564, 566, 92, 9), (150, 0, 1, 568, 569, 106, 570), (156, 0, 2, 578, 579, 106, 580), (44, 0, 78, 616, 618, 92, 10), (86, 0, 79, 621, 623, 92, 11), (48, 0, 80, 626, 628, 92, 12), (104, 0, 81, 631, 633, 92, 13), (121, 0, 9, 635, 636, 93, 637), (124, 0, 10, 639, 640, 93, 641), (108, 0, 82, 644, 646, 92, 14), (131, 0, 15, 648, 649, 94, 650), (113, 0, 83, 653, 655, 92, 15), (134, 0, 16, 657, 658, 94, 659), (118, 0, 84, 662, 664, 92, 16), (138, 0, 11, 666, 667, 93, 668), (141, 0, 12, 670, 671, 93, 672), (144, 0, 85, 674, 676, 92, 17)],
  [(3, 5, 0, 132, 0, 0, 0), (33, 4, 0, 706, 0, 0, 0)],
  [(3, 5, 0, 178, 0, 0, 0), (45, 4, 0, 713, 0, 0, 0)],
  [(3, 5, 0, 354, 0, 0, 0), (29, 0, 29, 1191, 1183, 99, 1184), (19, 0, 1, 1204, 569, 106, 570), (25, 0, 2, 1205, 579, 106, 580)],
  [(3, 5, 0, 290, 0, 0, 0), (21, 3, 14, 292, 176, 94, 0), (27, 2, 32, 294, 275, 95, 0), (34, 0, 17, 1016, 710, 94, 711), (38, 0, 41, 1017, 1018, 95, 1019), (42, 0, 48, 1075, 1076, 95, 1077), (54, 0, 50, 1112, 1113, 95, 1114), (57, 0, 46, 1117, 1050, 95, 1051), (60, 0, 20, 1118, 751, 94, 752), (69, 0, 56, 1130, 1109, 96, 1110)],
  [(3, 5, 0, 277, 0, 0, 0), (34, 6, 0, 865, 0, 0, 0), (53, 0, 35, 879, 881, 95, 24), (46, 0, 33, 941, 862, 95, 863), (57, 0, 37, 960, 938, 95, 939), (60, 0, 40, 972, 974, 95, 25), (63, 0, 22, 976, 844, 94, 845), (99, 0, 42, 1021, 1023, 95, 28), (124, 0, 39, 1025, 969, 95, 970), (128, 0, 38, 1026, 957, 95, 958), (131, 0, 43, 1027, 1028, 95, 1029), (96, 0, 44, 1031, 1032, 95, 1033), (67, 7, 0, 1035, 0, 0, 0), (73, 0, 36, 1036, 909, 95, 910), (76, 0, 25, 1037, 1038, 94, 1039), (82, 0, 45, 1041, 1043, 95, 29), (86, 0, 26, 1045, 1046, 94, 1047), (103, 0, 46, 1049, 1050, 95, 1051), (106, 0, 47, 1053, 1055, 95, 30), (112, 0, 23, 1057, 891, 94, 892), (115, 0, 27, 1058, 1059, 94, 1060), (118, 0, 24, 1062, 920, 94, 921), (109, 0, 34, 1063, 876, 95, 877), (134, 0, 49, 1079, 1080, 95, 1081), (140, 0, 15, 1116, 649, 94, 650)],
  [(1, 5, 0, 1336, 0, 0, 0), (140, 1, 164, 1474, 1475, 100, 0), (70, 0, 165, 1477, 1479, 100, 32), (197, 0, 166, 1481, 1483, 100, 33), (116, 0, 167, 1485, 1487, 100, 34), (86, 0, 168, 1489, 1491, 100, 35), (96, 1, 169, 1493, 1494, 100, 0), (100, 1, 170, 1496, 1497, 100, 0), (182, 0, 171, 1500, 1502, 100, 36), (129, 0, 172, 1504, 1506, 100, 37), (119, 0, 1, 1508, 569, 106, 570), (125, 0, 2, 1509, 579, 106, 580), (133, 0, 173, 1510, 1512, 100, 38), (112, 0, 174, 1514, 1516, 100, 39), (137, 0, 175, 1518, 1520, 100, 40), (151, 0, 176, 1523, 1525, 100, 41), (144, 0, 177, 1527, 1529, 100, 42), (190, 0, 178, 1532, 1534, 100, 43), (163, 0, 179, 1537, 1539, 100, 44), (168, 0, 180, 1542, 1544, 100, 45), (173, 0, 181, 1547, 1549, 100, 46), (154, 1, 182, 1551, 1552, 100, 0), (177, 0, 183, 1555, 1557, 100, 47), (200, 0, 184, 1559, 1561, 100, 48), (193, 1, 185, 1563, 1564, 100, 0), (209, 1, 186, 1566, 1567, 100, 0), (216, 0, 188, 1573, 1575, 100, 49), (229, 0, 189, 1577, 1579, 100, 50), (232, 0, 190, 1581, 1583, 100, 51), (226, 0, 191, 1585, 1587, 100, 52), (235, 0, 192, 1589, 1591, 100, 53), (238, 0, 194, 1597, 1599, 100, 54), (241, 0, 196, 1605, 1607, 100, 55), (220, 0, 197, 1609, 1611, 100, 56), (244, 0, 199, 1617, 1619, 100, 57), (223, 0, 201, 1625, 1627, 100, 58), (247, 0, 206, 1645, 1647, 100, 59), (251, 0, 207, 1649, 1651, 100, 60), (259, 0, 210, 1661, 1663, 100, 61), (262, 0, 211, 1665, 1667, 100, 62), (254, 6, 0, 1669, 0, 0, 0), (265, 0, 213, 1674, 1676, 100, 63), (268, 0, 218, 1694, 1696, 100, 64), (271, 0, 221, 1706, 1708, 100, 65), (274, 0, 222, 1710, 1712, 100, 66), (277, 0, 225, 1722, 1724, 100, 67), (280, 0, 227, 1730, 1732, 100, 68), (289, 0, 229, 1738, 1740, 100, 69), (326, 0, 232, 1750, 1752, 100, 70), (329, 0, 233, 1754, 1756, 100, 71), (314, 0, 234, 1758, 1760, 100, 72), (317, 0, 235, 1762, 1764, 100, 73), (305, 0, 236, 1766, 1768, 100, 74), (302, 0, 237, 1770, 1772, 100, 75), (299, 0, 238, 1774, 1776, 100, 76), (292, 0, 239, 1778, 1780, 100, 77), (296, 0, 240, 1782, 1784, 100, 78), (308, 0, 241, 1786, 1788, 100, 79), (323, 0, 242, 1790, 1792, 100, 80), (332, 0, 244, 1798, 1800, 100, 81), (320, 0, 245, 1802, 1804, 100, 82), (311, 0, 246, 1806, 1808, 100, 83), (338, 0, 250, 1822, 1824, 100, 84), (335, 0, 251, 1826, 1828, 100, 85), (341, 0, 258, 1854, 1856, 100, 86), (350, 0, 262, 1870, 1872, 100, 87), (347, 0, 263, 1874, 1876, 100, 88), (353, 0, 267, 1890, 1892, 100, 89)],
  [],
  [],
  [],
  [(173, 2, 87, 115, 116, 91, 0), (177, 0, 88, 414, 415, 91, 416), (191, 0, 90, 422, 423, 91, 424), (195, 0, 91, 426, 427, 91, 428), (199, 0, 92, 430, 431, 91, 432), (203, 0, 93, 434, 435, 91, 436), (310, 0, 94, 438, 439, 91, 440), (357, 0, 95, 442, 443, 91, 444), (182, 1, 279, 446, 447, 90, 0), (7, 0, 96, 451, 452, 91, 453), (207, 1, 280, 714, 715, 90, 0), (17, 0, 98, 718, 719, 91, 720), (210, 1, 281, 759, 760, 90, 0), (22, 0, 100, 762, 763, 91, 764), (214, 1, 282, 771, 772, 90, 0), (26, 0, 102, 774, 775, 91, 776), (218, 1, 283, 787, 788, 90, 0), (30, 0, 105, 790, 791, 91, 792), (221, 1, 284, 799, 800, 90, 0), (33, 0, 107, 802, 803, 91, 804), (224, 1, 285, 811, 812, 90, 0), (36, 0, 109, 814, 815, 91, 816), (227, 1, 286, 819, 820, 90, 0), (39, 0, 110, 822, 823, 91, 824), (230, 1, 287, 826, 827, 90, 0), (42, 0, 111, 829, 830, 91, 831), (234, 1, 288, 833, 834, 90, 0), (46, 0, 112, 836, 837, 91, 838), (237, 1, 289, 847, 848, 90, 0), (49, 0, 114, 850, 851, 91, 852), (240, 1, 290, 854, 855, 90, 0), (52, 0, 115, 857, 858, 91, 859), (243, 1, 291, 868, 869, 90, 0), (55, 0, 116, 871, 872, 91, 873), (246, 1, 292, 883, 884, 90, 0), (58, 0, 117, 886, 887, 91, 888), (249, 1, 293, 894, 895, 90, 0), (61, 0, 118, 897, 898, 91, 899), (252, 1, 294, 901, 902, 90, 0), (64, 0, 119, 904, 905, 91, 906), (255, 1, 295, 912, 913, 90, 0), (67, 0, 120, 915, 916, 91, 917), (258, 1, 296, 923, 924, 90, 0), (70, 0, 121, 926, 927, 91, 928), (261, 1, 297, 930, 931, 90, 0), (73, 0, 122, 933, 934, 91, 935), (264, 1, 298, 942, 943, 90, 0), (77, 0, 123, 945, 946, 91, 947), (267, 1, 299, 949, 950, 90, 0), (80, 0, 124, 952, 953, 91, 954), (270, 1, 300, 961, 962, 90, 0), (83, 0, 125, 964, 965, 91, 966), (273, 1, 301, 977, 978, 90, 0), (86, 0, 126, 980, 981, 91, 982), (276, 1, 302, 998, 999, 90, 0), (89, 0, 127, 1001, 1002, 91, 1003), (279, 1, 303, 1005, 1006, 90, 0), (92, 0, 128, 1008, 1009, 91, 1010), (282, 1, 304, 1064, 1065, 90, 0), (95, 0, 129, 1067, 1068, 91, 1069), (285, 1, 305, 1083, 1084, 90, 0), (98, 0, 130, 1086, 1087, 91, 1088), (288, 1, 306, 1094, 1095, 90, 0), (101, 0, 131, 1097, 1098, 91, 1099), (291, 1, 307, 1101, 1102, 90, 0), (104, 0, 132, 1104, 1105, 91, 1106), (294, 1, 308, 1119, 1120, 90, 0), (107, 0, 133, 1122, 1123, 91, 1124), (297, 1, 309, 1131, 1132, 90, 0), (110, 0, 134, 1134, 1135, 91, 1136), (300, 1, 310, 1142, 1143, 90, 0), (113, 0, 135, 1145, 1146, 91, 1147), (303, 1, 311, 1149, 1150, 90, 0), (116, 0, 136, 1152, 1153, 91, 1154), (307, 1, 312, 1156, 1157, 90, 0), (120, 0, 137, 1159, 1160, 91, 1161), (314, 1, 313, 1163, 1164, 90, 0), (124, 0, 138, 1166, 1167, 91, 1168), (317, 1, 314, 1171, 1172, 90, 0), (127, 0, 139, 1174, 1175, 91, 1176), (320, 1, 315, 1192, 1193, 90, 0), (130, 0, 141, 1195, 1196, 91, 1197), (323, 1, 316, 1206, 1207, 90, 0), (133, 0, 142, 1209, 1210, 91, 1211), (326, 1, 317, 1214, 1215, 90, 0), (136, 0, 143, 1217, 1218, 91, 1219), (329, 1, 318, 1229, 1230, 90, 0), (139, 0, 144, 1232, 1233, 91, 1234), (332, 1, 319, 1238, 1239, 90, 0), (142, 0, 145, 1241, 1242, 91, 1243), (335, 1, 320, 1246, 1247, 90, 0), (145, 0, 146, 1249, 1250, 91, 1251), (338, 1, 321, 1254, 1255, 90, 0), (148, 0, 147, 1257, 1258, 91, 1259), (341, 1, 322, 1263, 1264, 90, 0), (151, 0, 148, 1266, 1267, 91, 1268), (345, 1, 323, 1276, 1277, 90, 0), (155, 0, 149, 1279, 1280, 91, 1281), (348, 1, 324, 1284, 1285, 90, 0), (158, 0, 150, 1287, 1288, 91, 1289), (351, 1, 325, 1293, 1294, 90, 0), (161, 0, 151, 1296, 1297, 91, 1298), (354, 1, 326, 1300, 1301, 90, 0), (164, 0, 152, 1303, 1304, 91, 1305), (361, 1, 327, 1312, 1313, 90, 0), (167, 0, 153, 1315, 1316, 91, 1317), (364, 1, 328, 1323, 1324, 90, 0), (170, 0, 155, 1326, 1327, 91, 1328), (176, 2, 156, 1333, 1334, 100, 0), (188, 0, 157, 1446, 1447, 100, 1448), (181, 0, 158, 1450, 1451, 100, 1452), (206, 0, 159, 1454, 1455, 100, 1456), (194, 0, 160, 1458, 1459, 100, 1460), (198, 0, 161, 1462, 1463, 100, 1464), (202, 0, 162, 1466, 1467, 100, 1468), (187, 0, 163, 1470, 1471, 100, 1472), (209, 0, 187, 1569, 1570, 100, 1571), (213, 0, 193, 1593, 1594, 100, 1595), (217, 0, 195, 1601, 1602, 100, 1603), (220, 0, 198, 1613, 1614, 100, 1615), (223, 0, 200, 1621, 1622, 100, 1623), (226, 0, 202, 1629, 1630, 100, 1631), (229, 0, 203, 1633, 1634, 100, 1635), (233, 0, 204, 1637, 1638, 100, 1639), (236, 0, 205, 1641, 1642, 100, 1643), (239, 0, 208, 1653, 1654, 100, 1655), (242, 0, 209, 1657, 1658, 100, 1659), (245, 0, 212, 1670, 1671, 100, 1672), (248, 0, 214, 1678, 1679, 100, 1680), (251, 0, 215, 1682, 1683, 100, 1684), (254, 0, 216, 1686, 1687, 100, 1688), (257, 0, 217, 1690, 1691, 100, 1692), (260, 0, 219, 1698, 1699, 100, 1700), (263, 0, 220, 1702, 1703, 100, 1704), (266, 0, 223, 1714, 1715, 100, 1716), (269, 0, 224, 1718, 1719, 100, 1720), (272, 0, 226, 1726, 1727, 100, 1728), (275, 0, 228, 1734, 1735, 100, 1736), (278, 0, 230, 1742, 1743, 100, 1744), (281, 0, 231, 1746, 1747, 100, 1748), (284, 0, 243, 1794, 1795, 100, 1796), (287, 0, 247, 1810, 1811, 100, 1812), (290, 0, 248, 1814, 1815, 100, 1816), (293, 0, 249, 1818, 1819, 100, 1820), (296, 0, 252, 1830, 1831, 100, 1832), (299, 0, 253, 1834, 1835, 100, 1836), (302, 0, 254, 1838, 1839, 100, 1840), (306, 0, 255, 1842, 1843, 100, 1844), (309, 0, 256, 1846, 1847, 100, 1848), (313, 0, 257, 1850, 1851, 100, 1852), (360, 0, 259, 1858, 1859, 100, 1860), (316, 0, 260, 1862, 1863, 100, 1864), (319, 0, 261, 1866, 1867, 100, 1868), (322, 0, 264, 1878, 1879, 100, 1880), (325, 0, 265, 1882, 1883, 100, 1884), (328, 0, 266, 1886, 1887, 100, 1888), (331, 0, 268, 1894, 1895, 100, 1896), (334, 0, 269, 1898, 1899, 100, 1900), (337, 0, 270, 1902, 1903, 100, 1904), (340, 0, 271, 1906, 1907, 100, 1908), (344, 0, 272, 1910, 1911, 100, 1912), (347, 0, 273, 1914, 1915, 100, 1916), (350, 0, 274, 1918, 1919, 100, 1920), (353, 0, 275, 1922, 1923, 100, 1924), (356, 0, 276, 1926, 1927, 100, 1928), (363, 0, 277, 1930, 1931, 100, 1932), (366, 0, 278, 1934, 1935, 100, 1936)],
  [(335, 0, 4, 572, 573, 106, 574), (492, 0, 3, 582, 583, 106, 584), (495, 1, 6, 586, 587, 107, 0), (1059, 1, 7, 594, 595, 108, 0)],
  [(9, 1, 5, 589, 590, 106, 0)],
  [],
  [],
  []]
def am_ml (oc idx : Nat) : Option (Nat × Nat × Nat × Nat × Nat × Nat × Nat) := (am_mlT.getD oc []).find? (fun q => q.1 == idx)
def am_clT : List (List (Nat × Nat × Nat)) := [[(13, 3, 121), (29, 4, 268), (36, 5, 270), (43, 8, 272), (52, 7, 285), (59, 2, 308), (68, 1, 329), (83, 6, 349), (97, 10, 455), (121, 11, 682), (344, 12, 726)],
  [(9, 5, 335)],
  [],
  [(9, 4, 127), (18, 5, 173)],
  [(21, 25, 133)],
  [(15, 25, 179)],
  [],
  [(19, 5, 291), (25, 8, 293)],
  [],
  [],
  [],
  [],
  [],
  [(8, 0, 113), (13, 10, 449), (15, 11, 450), (20, 12, 717), (174, 9, 1331)],
  [],
  [],
  [],
  [],
  []]
def am_cs (oc idx : Nat) : Option (Nat × Nat × Nat) := (am_clT.getD oc []).find? (fun q => q.1 == idx)
def am_srT : List (List (Nat × Nat × Nat)) := [[(293, 24, 1199)],
  [],
  [],
  [(78, 10, 537), (84, 12, 620), (97, 14, 625), (99, 16, 630), (107, 18, 643), (111, 20, 652), (116, 22, 661)],
  [],
  [],
  [],
  [],
  [],
  [(180, 26, 1499), (186, 28, 1522), (188, 30, 1531), (161, 32, 1536), (166, 34, 1541), (171, 36, 1546), (176, 38, 1554)],
  [],
  [],
  [],
  [],
  [],
  [],
  [],
  [],
  []]
def am_sr (oc idx : Nat) : Option (Nat × Nat × Nat) := (am_srT.getD oc []).find? (fun q => q.1 == idx)
def am_inst : List Nat := [16, 3, 4, 9, 6, 10, 2, 4, 2, 36]
/-- string constants: their class and place, their text -/
def am_strs : List (String × Nat × String) := [("RodYard$Parser", 78, "yard"), ("RodYard$Parser", 84, "kerf"), ("RodYard$Parser", 97, "keep"), ("RodYard$Parser", 99, "kind"), ("RodYard$Parser", 107, "rods"), ("RodYard$Parser", 111, "order"), ("RodYard$Parser", 116, "pattern"), ("RodYard", 293, " gone"), ("RodYardModel", 180, "yard"), ("RodYardModel", 186, "kerf"), ("RodYardModel", 188, "keep"), ("RodYardModel", 161, "kind"), ("RodYardModel", 166, "rods"), ("RodYardModel", 171, "order"), ("RodYardModel", 176, "pattern")]
def am_txt : List (List Int) := [[121, 97, 114, 100], [107, 101, 114, 102], [107, 101, 101, 112], [107, 105, 110, 100], [114, 111, 100, 115], [111, 114, 100, 101, 114], [112, 97, 116, 116, 101, 114, 110], [32, 103, 111, 110, 101], [121, 97, 114, 100], [107, 101, 114, 102], [107, 101, 101, 112], [107, 105, 110, 100], [114, 111, 100, 115], [111, 114, 100, 101, 114], [112, 97, 116, 116, 101, 114, 110]]
/-- the messages of exceptions: their places, texts, words -/
def am_msgT : List (Nat × String × Nat) := [(99, "more bytes than the buffer has", 496), (123, "the text has an error", 691), (156, "no such count", 758), (192, "no such length of the pattern", 818), (275, "no such cut", 1170), (298, "no such byte of the text", 1213), (303, "the piece cannot be cut from the rod", 1221), (311, "the pattern does not fit the rod", 1236), (322, "no room for another rod", 1261), (327, "no room for another order", 1270), (336, "the order is not open", 1283), (338, "the rod is not in stock", 1291), (346, "no change to undo", 1307), (358, "nothing is saved in the slot", 1330), (365, "there is no yard", 735), (367, "no such kind", 770), (369, "no such rod", 782), (371, "no such order", 798), (373, "no such pattern", 810), (375, "no such slot", 1322), (377, "an argument is out of its range", 786)]
