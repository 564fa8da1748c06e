/-! THE SMALL MACHINE: tables (by program, wip/p60/gen/gen03.py) -/
def am_cn : Nat → String := fun k => ((["RodYard", "RodYard$History", "RodYard$Packing", "RodYard$Parser", "RodYard$Plan", "RodYard$State", "RodYard$Text", "RodYard$Trial", "RodYard$Works", "RodYardLaw$Draws", "java/lang/IndexOutOfBoundsException", "java/lang/IllegalArgumentException", "java/lang/IllegalStateException", "RodYardLaw", "java/lang/String", "RodYardLaw$Order", "RodYardLaw$Rod", "RodYardLaw$Yard", "java/lang/StringBuilder", "java/lang/String", "java/lang/StringLatin1", "jdk/internal/util/Preconditions", "java/lang/Math", "java/lang/Object", "java/lang/AbstractStringBuilder", "java/util/Arrays", "jdk/internal/util/ArraysSupport", "java/lang/Integer", "java/lang/System"] : List String)).getD k "?"
def am_F0 : u_T := fun k => match k with
  | 0 => ("RodYard", "input", "[B", true)
  | 1 => ("RodYard", "buffered", "I", false)
  | 2 => ("RodYard", "parser", "LRodYard$Parser;", true)
  | 3 => ("RodYard", "parseError", "I", false)
  | 4 => ("RodYard", "errorPosition", "I", false)
  | 5 => ("RodYard", "errorLine", "I", false)
  | 6 => ("RodYard", "loaded", "Z", false)
  | 7 => ("RodYard", "plan", "LRodYard$Plan;", true)
  | 8 => ("RodYard", "state", "LRodYard$State;", true)
  | 9 => ("RodYard", "works", "LRodYard$Works;", true)
  | 10 => ("RodYard", "trial", "LRodYard$Trial;", true)
  | 11 => ("RodYard", "packing", "LRodYard$Packing;", true)
  | 12 => ("RodYard", "history", "LRodYard$History;", true)
  | 13 => ("RodYard", "slots", "[LRodYard$State;", true)
  | 14 => ("RodYard", "slotUsed", "[Z", true)
  | _ => ("RodYard", "text", "LRodYard$Text;", true)
def am_F1 : u_T := fun k => match k with
  | 0 => ("RodYard$History", "states", "[LRodYard$State;", true)
  | 1 => ("RodYard$History", "next", "I", false)
  | _ => ("RodYard$History", "size", "I", false)
def am_F2 : u_T := fun k => match k with
  | 0 => ("RodYard$Packing", "state", "LRodYard$State;", true)
  | 1 => ("RodYard$Packing", "fewest", "[I", true)
  | 2 => ("RodYard$Packing", "leastLeft", "I", false)
  | _ => ("RodYard$Packing", "fewestPieces", "I", false)
def am_F3 : u_T := fun k => match k with
  | 0 => ("RodYard$Parser", "bytes", "[B", true)
  | 1 => ("RodYard$Parser", "plan", "LRodYard$Plan;", true)
  | 2 => ("RodYard$Parser", "state", "LRodYard$State;", true)
  | 3 => ("RodYard$Parser", "end", "I", false)
  | 4 => ("RodYard$Parser", "at", "I", false)
  | 5 => ("RodYard$Parser", "start", "I", false)
  | 6 => ("RodYard$Parser", "type", "I", false)
  | 7 => ("RodYard$Parser", "value", "I", false)
  | _ => ("RodYard$Parser", "error", "I", false)
def am_F4 : u_T := fun k => match k with
  | 0 => ("RodYard$Plan", "kinds", "I", false)
  | 1 => ("RodYard$Plan", "kindLength", "[I", true)
  | 2 => ("RodYard$Plan", "kindPrice", "[I", true)
  | 3 => ("RodYard$Plan", "patterns", "I", false)
  | 4 => ("RodYard$Plan", "patternSize", "[I", true)
  | _ => ("RodYard$Plan", "pattern", "[[I", true)
def am_F5 : u_T := fun k => match k with
  | 0 => ("RodYard$State", "round", "I", false)
  | 1 => ("RodYard$State", "setting", "[I", true)
  | 2 => ("RodYard$State", "rods", "I", false)
  | 3 => ("RodYard$State", "rod", "[[I", true)
  | 4 => ("RodYard$State", "orders", "I", false)
  | 5 => ("RodYard$State", "order", "[[I", true)
  | 6 => ("RodYard$State", "store", "[I", true)
  | 7 => ("RodYard$State", "cuts", "I", false)
  | 8 => ("RodYard$State", "log", "[[I", true)
  | _ => ("RodYard$State", "account", "[I", true)
def am_F6 : u_T := fun k => match k with
  | 0 => ("RodYard$Text", "bytes", "[B", true)
  | _ => ("RodYard$Text", "size", "I", false)
def am_F7 : u_T := fun k => match k with
  | 0 => ("RodYard$Trial", "plan", "LRodYard$Plan;", true)
  | 1 => ("RodYard$Trial", "real", "LRodYard$State;", true)
  | 2 => ("RodYard$Trial", "state", "LRodYard$State;", true)
  | _ => ("RodYard$Trial", "works", "LRodYard$Works;", true)
def am_F8 : u_T := fun k => match k with
  | 0 => ("RodYard$Works", "plan", "LRodYard$Plan;", true)
  | _ => ("RodYard$Works", "state", "LRodYard$State;", true)
def am_F9 : u_T := fun k => match k with
  | 0 => ("RodYardLaw$Draws", "cells", "[I", true)
  | _ => ("RodYardLaw$Draws", "at", "I", false)
def am_F15 : u_T := fun k => match k with
  | 0 => ("RodYardLaw$Order", "number", "I", true)
  | 1 => ("RodYardLaw$Order", "length", "I", true)
  | 2 => ("RodYardLaw$Order", "many", "I", true)
  | 3 => ("RodYardLaw$Order", "value", "I", true)
  | 4 => ("RodYardLaw$Order", "due", "I", true)
  | 5 => ("RodYardLaw$Order", "lacks", "I", false)
  | 6 => ("RodYardLaw$Order", "inTime", "I", false)
  | 7 => ("RodYardLaw$Order", "late", "I", false)
  | _ => ("RodYardLaw$Order", "gone", "Z", false)
def am_F16 : u_T := fun k => match k with
  | 0 => ("RodYardLaw$Rod", "number", "I", true)
  | 1 => ("RodYardLaw$Rod", "kind", "I", true)
  | 2 => ("RodYardLaw$Rod", "length", "I", false)
  | 3 => ("RodYardLaw$Rod", "state", "I", false)
  | 4 => ("RodYardLaw$Rod", "pieces", "I", false)
  | _ => ("RodYardLaw$Rod", "isCut", "Z", false)
def am_F17 : u_T := fun k => match k with
  | 0 => ("RodYardLaw$Yard", "text", "Ljava/lang/StringBuilder;", true)
  | 1 => ("RodYardLaw$Yard", "kinds", "[[I", true)
  | 2 => ("RodYardLaw$Yard", "patterns", "[[I", true)
  | 3 => ("RodYardLaw$Yard", "cuts", "[[I", true)
  | 4 => ("RodYardLaw$Yard", "rods", "[LRodYardLaw$Rod;", true)
  | 5 => ("RodYardLaw$Yard", "orders", "[LRodYardLaw$Order;", true)
  | 6 => ("RodYardLaw$Yard", "store", "[I", true)
  | 7 => ("RodYardLaw$Yard", "accounts", "[I", true)
  | 8 => ("RodYardLaw$Yard", "kindMany", "I", false)
  | 9 => ("RodYardLaw$Yard", "patternMany", "I", false)
  | 10 => ("RodYardLaw$Yard", "rodMany", "I", false)
  | 11 => ("RodYardLaw$Yard", "orderMany", "I", false)
  | 12 => ("RodYardLaw$Yard", "cutMany", "I", false)
  | 13 => ("RodYardLaw$Yard", "round", "I", false)
  | 14 => ("RodYardLaw$Yard", "kerf", "I", false)
  | _ => ("RodYardLaw$Yard", "keep", "I", false)
def am_F18 : u_T := fun k => match k with
  | 0 => ("java/lang/AbstractStringBuilder", "value", "[B", false)
  | 1 => ("java/lang/AbstractStringBuilder", "coder", "B", false)
  | 2 => ("java/lang/AbstractStringBuilder", "maybeLatin1", "Z", false)
  | _ => ("java/lang/AbstractStringBuilder", "count", "I", false)
def am_F19 : u_T := fun k => match k with
  | 0 => ("java/lang/String", "value", "[B", true)
  | 1 => ("java/lang/String", "coder", "B", true)
  | 2 => ("java/lang/String", "hash", "I", false)
  | _ => ("java/lang/String", "hashIsZero", "Z", false)
abbrev am_cl : List vw_C := [("RodYard", am_F0, 16), ("RodYard$History", am_F1, 3), ("RodYard$Packing", am_F2, 4), ("RodYard$Parser", am_F3, 9), ("RodYard$Plan", am_F4, 6), ("RodYard$State", am_F5, 10), ("RodYard$Text", am_F6, 2), ("RodYard$Trial", am_F7, 4), ("RodYard$Works", am_F8, 2), ("RodYardLaw$Draws", am_F9, 2), ("RodYard", am_F0, 16), ("RodYard", am_F0, 16), ("RodYard", am_F0, 16), ("RodYard", am_F0, 16), ("RodYard", am_F0, 16), ("RodYardLaw$Order", am_F15, 9), ("RodYardLaw$Rod", am_F16, 6), ("RodYardLaw$Yard", am_F17, 16), ("java/lang/StringBuilder", am_F18, 4), ("java/lang/String", am_F19, 4)]
/-- the fields of a class: 0 an int, 1 a reference, 2 a boolean, 3 a byte; and 4 more where it is final -/
def am_fk : List (List Nat) := [[5, 0, 5, 0, 0, 0, 2, 5, 5, 5, 5, 5, 5, 5, 5, 5], [5, 0, 0], [5, 5, 0, 0], [5, 5, 5, 0, 0, 0, 0, 0, 0], [0, 5, 5, 0, 5, 5], [0, 5, 0, 5, 0, 5, 5, 0, 5, 5], [5, 0], [5, 5, 5, 5], [5, 5], [5, 0], [5, 0, 5, 0, 0, 0, 2, 5, 5, 5, 5, 5, 5, 5, 5, 5], [5, 0, 5, 0, 0, 0, 2, 5, 5, 5, 5, 5, 5, 5, 5, 5], [5, 0, 5, 0, 0, 0, 2, 5, 5, 5, 5, 5, 5, 5, 5, 5], [5, 0, 5, 0, 0, 0, 2, 5, 5, 5, 5, 5, 5, 5, 5, 5], [5, 0, 5, 0, 0, 0, 2, 5, 5, 5, 5, 5, 5, 5, 5, 5], [4, 4, 4, 4, 4, 0, 0, 0, 2], [4, 4, 0, 0, 0, 2], [5, 5, 5, 5, 5, 5, 5, 5, 0, 0, 0, 0, 0, 0, 0, 0], [1, 3, 2, 0], [5, 7, 0, 2]]
def am_nf (ci : Nat) : Nat := (am_fk.getD ci []).length
def am_fkd (ci k : Nat) : Nat := (am_fk.getD ci []).getD k 9
/-- the kinds of the objects that are made -/
abbrev am_ob (k : Nat) : Prop := k < 10 ∨ 15 ≤ k ∧ k < 20
abbrev am_MT : Type := MethodName × ByteArray × Nat × Option FieldType × Nat × Nat × Bool × List (Nat × Nat × Nat × Nat)
def am_mt0 : List am_MT := [(⟨"RodYardLaw", "law", "([I)Z"⟩, code, 5, (some (.boolean)), 13, 1, true, []),
  (⟨"java/lang/String", "length", "()I"⟩, prog_26_method_54_code, 1, (some (.int)), 14, 0, false, []),
  (⟨"java/lang/String", "charAt", "(I)C"⟩, prog_26_method_56_code, 2, (some (.char)), 14, 1, false, []),
  (⟨"java/lang/String", "isLatin1", "()Z"⟩, prog_26_method_154_code, 1, (some (.boolean)), 14, 0, false, []),
  (⟨"java/lang/String", "coder", "()B"⟩, prog_26_method_152_code, 1, (some (.byte)), 14, 0, false, []),
  (⟨"java/lang/String", "checkIndex", "(II)V"⟩, prog_26_method_155_code, 2, none, 14, 2, true, []),
  (⟨"java/lang/StringLatin1", "charAt", "([BI)C"⟩, prog_29_method_2_code, 2, (some (.char)), 20, 2, true, []),
  (⟨"jdk/internal/util/Preconditions", "checkIndex", "(IILjava/util/function/BiFunction;)I"⟩, prog_35_method_11_code, 3, (some (.int)), 21, 3, true, []),
  (⟨"RodYard$Plan", "<init>", "()V"⟩, prog_5_method_1_code, 1, none, 4, 0, false, []),
  (⟨"RodYard$Plan", "hasKind", "(II)Z"⟩, prog_5_method_4_code, 4, (some (.boolean)), 4, 2, false, []),
  (⟨"RodYard$Plan", "enterKind", "(II)V"⟩, prog_5_method_3_code, 3, none, 4, 2, false, []),
  (⟨"RodYard$Plan", "enterPattern", "()V"⟩, prog_5_method_5_code, 1, none, 4, 0, false, []),
  (⟨"RodYard$Plan", "extendLastPattern", "(I)V"⟩, prog_5_method_6_code, 3, none, 4, 1, false, []),
  (⟨"RodYard$Plan", "copyFrom", "(LRodYard$Plan;)V"⟩, prog_5_method_2_code, 3, none, 4, 1, false, []),
  (⟨"RodYard$State", "<init>", "()V"⟩, prog_6_method_1_code, 1, none, 5, 0, false, []),
  (⟨"RodYard$State", "enterRod", "(II)I"⟩, prog_6_method_3_code, 4, (some (.int)), 5, 2, false, []),
  (⟨"RodYard$State", "enterOrder", "(IIII)I"⟩, prog_6_method_4_code, 6, (some (.int)), 5, 4, false, []),
  (⟨"RodYard$State", "copyFrom", "(LRodYard$State;)V"⟩, prog_6_method_2_code, 3, none, 5, 1, false, []),
  (⟨"RodYard$State", "rodsInStock", "()I"⟩, prog_6_method_6_code, 3, (some (.int)), 5, 0, false, []),
  (⟨"RodYard$State", "openOrders", "()I"⟩, prog_6_method_8_code, 3, (some (.int)), 5, 0, false, []),
  (⟨"RodYard$State", "lackingPieces", "()I"⟩, prog_6_method_9_code, 3, (some (.int)), 5, 0, false, []),
  (⟨"RodYard$State", "storedPieces", "()I"⟩, prog_6_method_11_code, 3, (some (.int)), 5, 0, false, []),
  (⟨"RodYard$State", "lackingOf", "(I)I"⟩, prog_6_method_10_code, 4, (some (.int)), 5, 1, false, []),
  (⟨"RodYard$State", "longestRod", "()I"⟩, prog_6_method_7_code, 4, (some (.int)), 5, 0, false, []),
  (⟨"RodYard$State", "firstDueUpTo", "(I)I"⟩, prog_6_method_12_code, 4, (some (.int)), 5, 1, false, []),
  (⟨"RodYard$State", "takerOf", "(I)I"⟩, prog_6_method_14_code, 4, (some (.int)), 5, 1, false, []),
  (⟨"RodYard$State", "logCut", "(III)V"⟩, prog_6_method_5_code, 4, none, 5, 3, false, []),
  (⟨"RodYard$State", "greatestLackingUpTo", "(I)I"⟩, prog_6_method_13_code, 5, (some (.int)), 5, 1, false, []),
  (⟨"RodYard$Text", "<init>", "()V"⟩, prog_7_method_1_code, 1, none, 6, 0, false, []),
  (⟨"RodYard$Text", "putSign", "(C)V"⟩, prog_7_method_2_code, 2, none, 6, 1, false, []),
  (⟨"RodYard$Text", "putNumber", "(I)V"⟩, prog_7_method_4_code, 3, none, 6, 1, false, []),
  (⟨"RodYard$Text", "putWord", "(Ljava/lang/String;)V"⟩, prog_7_method_3_code, 3, none, 6, 1, false, []),
  (⟨"RodYard$Works", "<init>", "(LRodYard$Plan;LRodYard$State;)V"⟩, prog_9_method_1_code, 3, none, 8, 2, false, []),
  (⟨"RodYard$Works", "leftBehind", "(II)I"⟩, prog_9_method_3_code, 3, (some (.int)), 8, 2, false, []),
  (⟨"RodYard$Works", "chooseRod", "(II)I"⟩, prog_9_method_5_code, 5, (some (.int)), 8, 2, false, []),
  (⟨"RodYard$Works", "prefers", "(III)Z"⟩, prog_9_method_6_code, 6, (some (.boolean)), 8, 3, false, []),
  (⟨"RodYard$Works", "priceOf", "(I)I"⟩, prog_9_method_2_code, 2, (some (.int)), 8, 1, false, []),
  (⟨"RodYard$Works", "leftByPattern", "(II)I"⟩, prog_9_method_4_code, 6, (some (.int)), 8, 2, false, []),
  (⟨"RodYard$Works", "choosePatternRod", "(I)I"⟩, prog_9_method_7_code, 4, (some (.int)), 8, 1, false, []),
  (⟨"RodYard$Works", "isWanted", "(I)Z"⟩, prog_9_method_8_code, 5, (some (.boolean)), 8, 1, false, [])]
def am_mt1 : List am_MT := [(⟨"RodYard$Works", "timesIn", "(II)I"⟩, prog_9_method_9_code, 6, (some (.int)), 8, 2, false, []),
  (⟨"RodYard$Works", "fillBy", "(I)I"⟩, prog_9_method_14_code, 2, (some (.int)), 8, 1, false, []),
  (⟨"RodYard$Works", "fillByPatterns", "()I"⟩, prog_9_method_17_code, 5, (some (.int)), 8, 0, false, []),
  (⟨"RodYard$Works", "cutWhole", "(II)I"⟩, prog_9_method_13_code, 6, (some (.int)), 8, 2, false, []),
  (⟨"RodYard$Works", "cutOne", "(II)I"⟩, prog_9_method_10_code, 6, (some (.int)), 8, 2, false, []),
  (⟨"RodYard$Works", "deliver", "(I)V"⟩, prog_9_method_11_code, 3, none, 8, 1, false, []),
  (⟨"RodYard$Works", "fillByPieces", "(I)I"⟩, prog_9_method_15_code, 5, (some (.int)), 8, 1, false, []),
  (⟨"RodYard$Works", "nextLength", "(I)I"⟩, prog_9_method_16_code, 5, (some (.int)), 8, 1, false, []),
  (⟨"RodYard$Works", "closeRound", "()I"⟩, prog_9_method_18_code, 3, (some (.int)), 8, 0, false, []),
  (⟨"RodYard$Works", "scrapRod", "(I)I"⟩, prog_9_method_19_code, 3, (some (.int)), 8, 1, false, []),
  (⟨"RodYard$Works", "buyRod", "(I)I"⟩, prog_9_method_20_code, 3, (some (.int)), 8, 1, false, []),
  (⟨"RodYard$Works", "supplyFromStore", "(I)V"⟩, prog_9_method_12_code, 5, none, 8, 1, false, []),
  (⟨"RodYard$Trial", "<init>", "(LRodYard$Plan;LRodYard$State;)V"⟩, prog_8_method_1_code, 3, none, 7, 2, false, []),
  (⟨"RodYard$Trial", "piecesBy", "(I)I"⟩, prog_8_method_2_code, 2, (some (.int)), 7, 1, false, []),
  (⟨"?", "?", "?"⟩, ⟨#[]⟩, 0, none, 99, 0, false, []),
  (⟨"RodYard$Trial", "lackingBy", "(II)I"⟩, prog_8_method_4_code, 3, (some (.int)), 7, 2, false, []),
  (⟨"RodYard$Trial", "rodsToBuy", "(I)I"⟩, prog_8_method_5_code, 4, (some (.int)), 7, 1, false, []),
  (⟨"?", "?", "?"⟩, ⟨#[]⟩, 0, none, 99, 0, false, []),
  (⟨"?", "?", "?"⟩, ⟨#[]⟩, 0, none, 99, 0, false, []),
  (⟨"RodYard$Packing", "<init>", "(LRodYard$State;)V"⟩, prog_3_method_1_code, 2, none, 2, 1, false, []),
  (⟨"RodYard$Packing", "pack", "(I)V"⟩, prog_3_method_2_code, 6, none, 2, 1, false, []),
  (⟨"RodYard$Packing", "offerPiece", "(II)V"⟩, prog_3_method_3_code, 4, none, 2, 2, false, []),
  (⟨"RodYard$Packing", "pickBest", "(II)V"⟩, prog_3_method_4_code, 5, none, 2, 2, false, []),
  (⟨"RodYard$History", "<init>", "()V"⟩, prog_2_method_1_code, 2, none, 1, 0, false, []),
  (⟨"RodYard$History", "keepCopy", "(LRodYard$State;)V"⟩, prog_2_method_2_code, 2, none, 1, 1, false, []),
  (⟨"RodYard$History", "giveBack", "(LRodYard$State;)V"⟩, prog_2_method_3_code, 2, none, 1, 1, false, []),
  (⟨"RodYard$Parser", "<init>", "([B)V"⟩, prog_4_method_1_code, 2, none, 3, 1, false, []),
  (⟨"RodYard$Parser", "readText", "(I)Z"⟩, prog_4_method_2_code, 3, (some (.boolean)), 3, 1, false, []),
  (⟨"RodYard$Parser", "beginText", "(I)V"⟩, prog_4_method_3_code, 2, none, 3, 1, false, []),
  (⟨"RodYard$Parser", "readHead", "()Z"⟩, prog_4_method_5_code, 1, (some (.boolean)), 3, 0, false, []),
  (⟨"RodYard$Parser", "readWord", "(Ljava/lang/String;)Z"⟩, prog_4_method_11_code, 2, (some (.boolean)), 3, 1, false, []),
  (⟨"RodYard$Parser", "nextToken", "()V"⟩, prog_4_method_15_code, 1, none, 3, 0, false, []),
  (⟨"RodYard$Parser", "skipBlanks", "()V"⟩, prog_4_method_17_code, 1, none, 3, 0, false, []),
  (⟨"RodYard$Parser", "isLetter", "(B)Z"⟩, prog_4_method_20_code, 1, (some (.boolean)), 3, 1, true, []),
  (⟨"RodYard$Parser", "takeWord", "()V"⟩, prog_4_method_18_code, 1, none, 3, 0, false, []),
  (⟨"RodYard$Parser", "isDigit", "(B)Z"⟩, prog_4_method_21_code, 1, (some (.boolean)), 3, 1, true, []),
  (⟨"RodYard$Parser", "takeNumber", "()V"⟩, prog_4_method_19_code, 1, none, 3, 0, false, []),
  (⟨"RodYard$Parser", "isWord", "(Ljava/lang/String;)Z"⟩, prog_4_method_14_code, 3, (some (.boolean)), 3, 1, false, []),
  (⟨"RodYard$Parser", "fail", "(I)Z"⟩, prog_4_method_13_code, 2, (some (.boolean)), 3, 1, false, []),
  (⟨"RodYard$Parser", "readNumber", "(II)Z"⟩, prog_4_method_12_code, 3, (some (.boolean)), 3, 2, false, [])]
def am_mt2 : List am_MT := [(⟨"RodYard$Parser", "readLine", "()Z"⟩, prog_4_method_6_code, 1, (some (.boolean)), 3, 0, false, []),
  (⟨"RodYard$Parser", "readKind", "()Z"⟩, prog_4_method_7_code, 2, (some (.boolean)), 3, 0, false, []),
  (⟨"RodYard$Parser", "readRods", "()Z"⟩, prog_4_method_8_code, 3, (some (.boolean)), 3, 0, false, []),
  (⟨"RodYard$Parser", "readOrder", "()Z"⟩, prog_4_method_9_code, 4, (some (.boolean)), 3, 0, false, []),
  (⟨"RodYard$Parser", "readPattern", "()Z"⟩, prog_4_method_10_code, 2, (some (.boolean)), 3, 0, false, []),
  (⟨"RodYard$Parser", "digitFollows", "()Z"⟩, prog_4_method_16_code, 1, (some (.boolean)), 3, 0, false, []),
  (⟨"RodYard$Parser", "semicolonsAhead", "()I"⟩, prog_4_method_4_code, 3, (some (.int)), 3, 0, false, []),
  (⟨"RodYard", "<init>", "()V"⟩, prog_1_method_1_code, 2, none, 0, 0, false, []),
  (⟨"RodYard", "append", "(IIIII)I"⟩, prog_1_method_2_code, 6, (some (.int)), 0, 5, false, []),
  (⟨"RodYard", "putBytes", "(II)V"⟩, prog_1_method_59_code, 3, none, 0, 2, false, []),
  (⟨"RodYard", "parseError", "()I"⟩, prog_1_method_4_code, 1, (some (.int)), 0, 0, false, []),
  (⟨"RodYard", "errorPosition", "()I"⟩, prog_1_method_5_code, 1, (some (.int)), 0, 0, false, []),
  (⟨"RodYard", "errorLine", "()I"⟩, prog_1_method_6_code, 1, (some (.int)), 0, 0, false, []),
  (⟨"?", "?", "?"⟩, ⟨#[]⟩, 0, none, 99, 0, false, []),
  (⟨"RodYard", "cuts", "()I"⟩, prog_1_method_41_code, 1, (some (.int)), 0, 0, false, []),
  (⟨"RodYard", "undoable", "()I"⟩, prog_1_method_56_code, 1, (some (.int)), 0, 0, false, []),
  (⟨"RodYard", "load", "(I)I"⟩, prog_1_method_3_code, 2, (some (.int)), 0, 1, false, []),
  (⟨"RodYard", "takeParsedYard", "()V"⟩, prog_1_method_60_code, 2, none, 0, 0, false, []),
  (⟨"RodYard", "count", "(I)I"⟩, prog_1_method_8_code, 2, (some (.int)), 0, 1, false, []),
  (⟨"RodYard", "needYard", "()V"⟩, prog_1_method_62_code, 1, none, 0, 0, false, []),
  (⟨"RodYard", "kind", "(IZ)I"⟩, prog_1_method_9_code, 3, (some (.int)), 0, 2, false, []),
  (⟨"RodYard", "needKind", "(I)V"⟩, prog_1_method_63_code, 2, none, 0, 1, false, []),
  (⟨"RodYard", "rod", "(II)I"⟩, prog_1_method_10_code, 3, (some (.int)), 0, 2, false, []),
  (⟨"RodYard", "needRod", "(I)V"⟩, prog_1_method_64_code, 2, none, 0, 1, false, []),
  (⟨"RodYard", "needRange", "(III)V"⟩, prog_1_method_69_code, 3, none, 0, 3, true, []),
  (⟨"RodYard", "order", "(II)I"⟩, prog_1_method_11_code, 3, (some (.int)), 0, 2, false, []),
  (⟨"RodYard", "needOrder", "(I)V"⟩, prog_1_method_65_code, 2, none, 0, 1, false, []),
  (⟨"RodYard", "patternSize", "(I)I"⟩, prog_1_method_12_code, 2, (some (.int)), 0, 1, false, []),
  (⟨"RodYard", "needPattern", "(I)V"⟩, prog_1_method_66_code, 2, none, 0, 1, false, []),
  (⟨"RodYard", "patternLength", "(II)I"⟩, prog_1_method_13_code, 3, (some (.int)), 0, 2, false, []),
  (⟨"RodYard", "setting", "(I)I"⟩, prog_1_method_14_code, 2, (some (.int)), 0, 1, false, []),
  (⟨"RodYard", "round", "()I"⟩, prog_1_method_15_code, 1, (some (.int)), 0, 0, false, []),
  (⟨"RodYard", "wanted", "(I)I"⟩, prog_1_method_16_code, 2, (some (.int)), 0, 1, false, []),
  (⟨"RodYard", "needLength", "(I)V"⟩, prog_1_method_68_code, 1, none, 0, 1, true, []),
  (⟨"RodYard", "stored", "(I)I"⟩, prog_1_method_17_code, 2, (some (.int)), 0, 1, false, []),
  (⟨"RodYard", "left", "(II)I"⟩, prog_1_method_18_code, 3, (some (.int)), 0, 2, false, []),
  (⟨"RodYard", "rodFor", "(II)I"⟩, prog_1_method_19_code, 3, (some (.int)), 0, 2, false, []),
  (⟨"RodYard", "longest", "()I"⟩, prog_1_method_20_code, 1, (some (.int)), 0, 0, false, []),
  (⟨"RodYard", "total", "()I"⟩, prog_1_method_21_code, 3, (some (.int)), 0, 0, false, []),
  (⟨"RodYard", "worth", "()I"⟩, prog_1_method_22_code, 3, (some (.int)), 0, 0, false, [])]
def am_mt3 : List am_MT := [(⟨"RodYard", "firstDue", "()I"⟩, prog_1_method_23_code, 1, (some (.int)), 0, 0, false, []),
  (⟨"RodYard", "overdue", "()I"⟩, prog_1_method_24_code, 3, (some (.int)), 0, 0, false, []),
  (⟨"RodYard", "fits", "(II)Z"⟩, prog_1_method_25_code, 3, (some (.boolean)), 0, 2, false, []),
  (⟨"RodYard", "patternLeft", "(II)I"⟩, prog_1_method_26_code, 3, (some (.int)), 0, 2, false, []),
  (⟨"RodYard", "patternRod", "(I)I"⟩, prog_1_method_27_code, 2, (some (.int)), 0, 1, false, []),
  (⟨"RodYard", "wantedPatterns", "()I"⟩, prog_1_method_28_code, 3, (some (.int)), 0, 0, false, []),
  (⟨"RodYard", "bestLeft", "(I)I"⟩, prog_1_method_29_code, 2, (some (.int)), 0, 1, false, []),
  (⟨"?", "?", "?"⟩, ⟨#[]⟩, 0, none, 99, 0, false, []),
  (⟨"RodYard", "piecesIf", "(I)I"⟩, prog_1_method_31_code, 2, (some (.int)), 0, 1, false, []),
  (⟨"?", "?", "?"⟩, ⟨#[]⟩, 0, none, 99, 0, false, []),
  (⟨"RodYard", "lackingIf", "(II)I"⟩, prog_1_method_33_code, 3, (some (.int)), 0, 2, false, []),
  (⟨"?", "?", "?"⟩, ⟨#[]⟩, 0, none, 99, 0, false, []),
  (⟨"RodYard", "rodsNeeded", "(I)I"⟩, prog_1_method_35_code, 2, (some (.int)), 0, 1, false, []),
  (⟨"?", "?", "?"⟩, ⟨#[]⟩, 0, none, 99, 0, false, []),
  (⟨"?", "?", "?"⟩, ⟨#[]⟩, 0, none, 99, 0, false, []),
  (⟨"RodYard", "account", "(I)I"⟩, prog_1_method_38_code, 2, (some (.int)), 0, 1, false, []),
  (⟨"RodYard", "meanLoss", "()D"⟩, prog_1_method_39_code, 2, (some (.double)), 0, 0, false, []),
  (⟨"RodYard", "shareUsed", "()F"⟩, prog_1_method_40_code, 3, (some (.float)), 0, 0, false, []),
  (⟨"RodYard", "cut", "(II)I"⟩, prog_1_method_42_code, 3, (some (.int)), 0, 2, false, []),
  (⟨"RodYard", "writeRods", "()I"⟩, prog_1_method_43_code, 2, (some (.int)), 0, 0, false, []),
  (⟨"RodYard", "writeRod", "(I)V"⟩, prog_1_method_61_code, 2, none, 0, 1, false, []),
  (⟨"RodYard", "writeOrder", "(I)I"⟩, prog_1_method_44_code, 2, (some (.int)), 0, 1, false, []),
  (⟨"RodYard", "textByte", "(I)I"⟩, prog_1_method_45_code, 2, (some (.int)), 0, 1, false, []),
  (⟨"RodYard", "cutPiece", "(II)I"⟩, prog_1_method_46_code, 3, (some (.int)), 0, 2, false, []),
  (⟨"RodYard", "cutPattern", "(II)I"⟩, prog_1_method_47_code, 3, (some (.int)), 0, 2, false, []),
  (⟨"RodYard", "fill", "(I)I"⟩, prog_1_method_48_code, 2, (some (.int)), 0, 1, false, []),
  (⟨"RodYard", "endRound", "()I"⟩, prog_1_method_49_code, 1, (some (.int)), 0, 0, false, []),
  (⟨"RodYard", "buy", "(I)I"⟩, prog_1_method_50_code, 2, (some (.int)), 0, 1, false, []),
  (⟨"RodYard", "addOrder", "(IIII)I"⟩, prog_1_method_51_code, 6, (some (.int)), 0, 4, false, []),
  (⟨"RodYard", "cancel", "(I)I"⟩, prog_1_method_52_code, 3, (some (.int)), 0, 1, false, []),
  (⟨"RodYard", "scrap", "(I)I"⟩, prog_1_method_53_code, 2, (some (.int)), 0, 1, false, []),
  (⟨"RodYard", "setSetting", "(II)I"⟩, prog_1_method_54_code, 4, (some (.int)), 0, 2, false, []),
  (⟨"RodYard", "undo", "()I"⟩, prog_1_method_55_code, 1, (some (.int)), 0, 0, false, []),
  (⟨"RodYard", "save", "(I)I"⟩, prog_1_method_57_code, 2, (some (.int)), 0, 1, false, []),
  (⟨"RodYard", "needSlot", "(I)V"⟩, prog_1_method_67_code, 1, none, 0, 1, true, []),
  (⟨"RodYard", "restore", "(I)I"⟩, prog_1_method_58_code, 2, (some (.int)), 0, 1, false, []),
  (⟨"java/lang/String", "getBytes", "([BIB)V"⟩, prog_26_method_147_code, 4, none, 14, 3, false, []),
  (⟨"java/lang/String", "<init>", "(Ljava/lang/StringBuilder;)V"⟩, prog_26_method_53_code, 2, none, 14, 1, false, []),
  (⟨"java/lang/String", "<init>", "(Ljava/lang/AbstractStringBuilder;Ljava/lang/Void;)V"⟩, prog_26_method_150_code, 5, none, 14, 2, false, []),
  (⟨"java/lang/StringLatin1", "canEncode", "(C)Z"⟩, prog_29_method_3_code, 1, (some (.boolean)), 20, 1, true, [])]
def am_mt4 : List am_MT := [(⟨"java/util/Arrays", "copyOf", "([BI)[B"⟩, prog_33_method_121_code, 3, (some (.array (.byte))), 25, 2, true, []),
  (⟨"java/util/Arrays", "copyOfRange", "([BII)[B"⟩, prog_33_method_132_code, 3, (some (.array (.byte))), 25, 3, true, []),
  (⟨"java/util/Arrays", "copyOfRangeByte", "([BII)[B"⟩, prog_33_method_133_code, 5, (some (.array (.byte))), 25, 3, true, []),
  (⟨"java/util/Arrays", "checkLength", "(II)V"⟩, prog_33_method_131_code, 2, none, 25, 2, true, []),
  (⟨"jdk/internal/util/ArraysSupport", "newLength", "(III)I"⟩, prog_34_method_27_code, 4, (some (.int)), 26, 3, true, []),
  (⟨"java/lang/Integer", "stringSize", "(I)I"⟩, prog_23_method_13_code, 4, (some (.int)), 27, 1, true, []),
  (⟨"java/lang/Integer", "getChars", "(II[B)I"⟩, prog_23_method_12_code, 7, (some (.int)), 27, 3, true, []),
  (⟨"java/lang/AbstractStringBuilder", "<init>", "(Ljava/lang/String;)V"⟩, prog_16_method_3_code, 5, none, 24, 1, false, []),
  (⟨"java/lang/AbstractStringBuilder", "append", "(Ljava/lang/String;)Ljava/lang/AbstractStringBuilder;"⟩, prog_16_method_22_code, 3, (some (.object "java/lang/AbstractStringBuilder")), 24, 1, false, []),
  (⟨"java/lang/AbstractStringBuilder", "ensureCapacityInternal", "(I)V"⟩, prog_16_method_9_code, 3, none, 24, 1, false, []),
  (⟨"java/lang/AbstractStringBuilder", "newCapacity", "(I)I"⟩, prog_16_method_10_code, 6, (some (.int)), 24, 1, false, []),
  (⟨"java/lang/AbstractStringBuilder", "isLatin1", "()Z"⟩, prog_16_method_68_code, 1, (some (.boolean)), 24, 0, false, []),
  (⟨"java/lang/AbstractStringBuilder", "putStringAt", "(ILjava/lang/String;)V"⟩, prog_16_method_73_code, 3, none, 24, 2, false, []),
  (⟨"java/lang/AbstractStringBuilder", "inflateIfNeededFor", "(Ljava/lang/String;)V"⟩, prog_16_method_71_code, 2, none, 24, 1, false, []),
  (⟨"java/lang/AbstractStringBuilder", "append", "(I)Ljava/lang/AbstractStringBuilder;"⟩, prog_16_method_32_code, 4, (some (.object "java/lang/AbstractStringBuilder")), 24, 1, false, []),
  (⟨"java/lang/AbstractStringBuilder", "append", "(C)Ljava/lang/AbstractStringBuilder;"⟩, prog_16_method_31_code, 2, (some (.object "java/lang/AbstractStringBuilder")), 24, 1, false, []),
  (⟨"java/lang/AbstractStringBuilder", "<init>", "(I)V"⟩, prog_16_method_2_code, 2, none, 24, 1, false, []),
  (⟨"java/lang/AbstractStringBuilder", "length", "()I"⟩, prog_16_method_6_code, 1, (some (.int)), 24, 0, false, []),
  (⟨"java/lang/AbstractStringBuilder", "charAt", "(I)C"⟩, prog_16_method_14_code, 5, (some (.char)), 24, 1, false, []),
  (⟨"java/lang/AbstractStringBuilder", "setLength", "(I)V"⟩, prog_16_method_13_code, 2, none, 24, 1, false, []),
  (⟨"java/lang/AbstractStringBuilder", "getValue", "()[B"⟩, prog_16_method_64_code, 1, (some (.array (.byte))), 24, 0, false, []),
  (⟨"java/lang/StringBuilder", "<init>", "(Ljava/lang/String;)V"⟩, prog_27_method_3_code, 2, none, 18, 1, false, []),
  (⟨"java/lang/StringBuilder", "append", "(Ljava/lang/String;)Ljava/lang/AbstractStringBuilder;"⟩, prog_27_method_80_code, 2, (some (.object "java/lang/AbstractStringBuilder")), 18, 1, false, []),
  (⟨"java/lang/StringBuilder", "append", "(Ljava/lang/String;)Ljava/lang/StringBuilder;"⟩, prog_27_method_7_code, 2, (some (.object "java/lang/StringBuilder")), 18, 1, false, []),
  (⟨"java/lang/StringBuilder", "append", "(I)Ljava/lang/StringBuilder;"⟩, prog_27_method_15_code, 2, (some (.object "java/lang/StringBuilder")), 18, 1, false, []),
  (⟨"java/lang/StringBuilder", "append", "(C)Ljava/lang/StringBuilder;"⟩, prog_27_method_14_code, 2, (some (.object "java/lang/StringBuilder")), 18, 1, false, []),
  (⟨"java/lang/StringBuilder", "<init>", "()V"⟩, prog_27_method_1_code, 1, none, 18, 0, false, []),
  (⟨"java/lang/StringBuilder", "length", "()I"⟩, prog_27_method_93_code, 1, (some (.int)), 18, 0, false, []),
  (⟨"java/lang/StringBuilder", "charAt", "(I)C"⟩, prog_27_method_88_code, 2, (some (.char)), 18, 1, false, []),
  (⟨"java/lang/StringBuilder", "setLength", "(I)V"⟩, prog_27_method_89_code, 2, none, 18, 1, false, []),
  (⟨"java/lang/StringBuilder", "toString", "()Ljava/lang/String;"⟩, prog_27_method_42_code, 1, (some (.object "java/lang/String")), 18, 0, false, []),
  (⟨"RodYardLaw$Draws", "<init>", "([I)V"⟩, prog_11_method_1_code, 2, none, 9, 1, false, []),
  (⟨"RodYardLaw$Draws", "next", "(II)I"⟩, prog_11_method_2_code, 4, (some (.int)), 9, 2, false, []),
  (⟨"RodYardLaw$Rod", "<init>", "(III)V"⟩, prog_13_method_1_code, 4, none, 16, 3, false, []),
  (⟨"RodYardLaw$Order", "<init>", "(IIIII)V"⟩, prog_12_method_1_code, 6, none, 15, 5, false, []),
  (⟨"RodYardLaw$Yard", "<init>", "(LRodYardLaw$Draws;)V"⟩, prog_14_method_1_code, 7, none, 17, 1, false, []),
  (⟨"RodYardLaw$Yard", "buy", "(I)V"⟩, prog_14_method_3_code, 2, none, 17, 1, false, []),
  (⟨"RodYardLaw$Yard", "order", "(IIII)I"⟩, prog_14_method_4_code, 6, (some (.int)), 17, 4, false, []),
  (⟨"RodYardLaw$Yard", "give", "(LRodYardLaw$Order;)V"⟩, prog_14_method_5_code, 3, none, 17, 1, false, []),
  (⟨"RodYardLaw$Yard", "rodFor", "([II)LRodYardLaw$Rod;"⟩, prog_14_method_13_code, 5, (some (.object "RodYardLaw$Rod")), 17, 2, false, [])]
def am_mt5 : List am_MT := [(⟨"RodYardLaw$Yard", "left", "(LRodYardLaw$Rod;[I)I"⟩, prog_14_method_9_code, 8, (some (.int)), 17, 2, false, []),
  (⟨"RodYardLaw$Yard", "isWanted", "([I)Z"⟩, prog_14_method_12_code, 8, (some (.boolean)), 17, 1, false, []),
  (⟨"RodYardLaw$Yard", "wanted", "(I)I"⟩, prog_14_method_10_code, 4, (some (.int)), 17, 1, false, []),
  (⟨"RodYardLaw$Yard", "cut", "(LRodYardLaw$Rod;I)I"⟩, prog_14_method_8_code, 6, (some (.int)), 17, 2, false, []),
  (⟨"RodYardLaw$Yard", "lose", "(LRodYardLaw$Rod;II)V"⟩, prog_14_method_7_code, 4, none, 17, 3, false, []),
  (⟨"RodYardLaw$Yard", "firstOf", "(I)LRodYardLaw$Order;"⟩, prog_14_method_6_code, 5, (some (.object "RodYardLaw$Order")), 17, 1, false, []),
  (⟨"RodYardLaw$Yard", "end", "()I"⟩, prog_14_method_16_code, 4, (some (.int)), 17, 0, false, []),
  (⟨"RodYardLaw$Yard", "scrap", "(LRodYardLaw$Rod;)I"⟩, prog_14_method_15_code, 3, (some (.int)), 17, 1, false, []),
  (⟨"RodYardLaw$Yard", "lacking", "()I"⟩, prog_14_method_11_code, 3, (some (.int)), 17, 0, false, []),
  (⟨"RodYardLaw", "tell", "(LRodYard;Ljava/lang/String;)I"⟩, method_3_code, 2, (some (.int)), 13, 2, true, []),
  (⟨"RodYardLaw", "feeds", "(LRodYard;Ljava/lang/String;)Z"⟩, method_2_code, 5, (some (.boolean)), 13, 2, true, []),
  (⟨"RodYardLaw", "thrown", "(LRodYard;IIIII)I"⟩, method_5_code, 7, (some (.int)), 13, 6, true, [(0, 23, 24, 135), (0, 23, 28, 137), (0, 23, 32, 139)]),
  (⟨"RodYardLaw", "calls", "(LRodYard;IIIII)J"⟩, method_4_code, 6, (some (.long)), 13, 6, true, []),
  (⟨"RodYardLaw", "isLike", "(LRodYard;LRodYardLaw$Yard;)Z"⟩, method_6_code, 6, (some (.boolean)), 13, 2, true, []),
  (⟨"RodYardLaw", "act", "(LRodYard;LRodYardLaw$Yard;LRodYardLaw$Draws;)Z"⟩, method_7_code, 8, (some (.boolean)), 13, 3, true, []),
  (⟨"RodYardLaw", "cuts", "(LRodYard;LRodYardLaw$Yard;LRodYardLaw$Rod;II)Z"⟩, method_8_code, 11, (some (.boolean)), 13, 5, true, []),
  (⟨"RodYardLaw", "counts", "(LRodYard;LRodYardLaw$Yard;)Z"⟩, method_9_code, 14, (some (.boolean)), 13, 2, true, []),
  (⟨"RodYardLaw", "lengths", "(LRodYard;LRodYardLaw$Yard;)Z"⟩, method_10_code, 7, (some (.boolean)), 13, 2, true, []),
  (⟨"RodYardLaw", "texts", "(LRodYard;LRodYardLaw$Yard;)Z"⟩, method_12_code, 5, (some (.boolean)), 13, 2, true, []),
  (⟨"RodYardLaw", "isText", "(LRodYard;Ljava/lang/StringBuilder;)Z"⟩, method_11_code, 3, (some (.boolean)), 13, 2, true, []),
  (⟨"RodYardLaw$Yard", "fill", "(I)I"⟩, prog_14_method_14_code, 10, (some (.int)), 17, 1, false, [])]
def am_mt : List am_MT := am_mt0 ++ (am_mt1 ++ (am_mt2 ++ (am_mt3 ++ (am_mt4 ++ (am_mt5)))))
def am_md : am_MT := (⟨"?", "?", "?"⟩, ⟨#[]⟩, 0, none, 99, 0, false, [])
def am_mr (mi : Nat) : am_MT := am_mt.getD mi am_md
def am_name (mi : Nat) : MethodName := (am_mr mi).1
def am_code (mi : Nat) : ByteArray := (am_mr mi).2.1
def am_nL (mi : Nat) : Nat := (am_mr mi).2.2.1
def am_rt (mi : Nat) : Option FieldType := (am_mr mi).2.2.2.1
def am_oc (mi : Nat) : Nat := (am_mr mi).2.2.2.2.1
def am_na (mi : Nat) : Nat := (am_mr mi).2.2.2.2.2.1
def am_hh (mi : Nat) : List (Nat × Nat × Nat × Nat) := (am_mr mi).2.2.2.2.2.2.2
def am_own (mi : Nat) : String := am_cn (am_oc mi)
def am_flT : List (List (Nat × Nat × Nat × Nat × Nat)) := [[(135, 4, 0, 90, 0), (166, 4, 1, 93, 0), (162, 4, 2, 97, 0), (141, 4, 3, 100, 0), (189, 4, 4, 104, 0), (194, 4, 5, 107, 0), (200, 5, 0, 132, 0), (197, 5, 1, 137, 0), (129, 5, 2, 140, 0), (176, 5, 3, 144, 0), (138, 5, 4, 148, 0), (183, 5, 5, 153, 0), (210, 5, 6, 156, 0), (272, 5, 7, 158, 0), (277, 5, 8, 160, 0), (265, 5, 9, 163, 0), (360, 3, 1, 187, 0), (364, 3, 2, 189, 0), (114, 3, 5, 192, 0), (108, 3, 8, 196, 0), (241, 2, 2, 266, 0), (343, 1, 2, 289, 0), (300, 6, 0, 304, 0), (280, 6, 1, 306, 0), (9, 0, 0, 313, 0), (90, 0, 1, 314, 0), (18, 0, 2, 315, 0), (111, 0, 3, 316, 0), (22, 0, 4, 317, 0), (26, 0, 5, 318, 0), (268, 0, 6, 319, 0), (32, 0, 7, 320, 0), (39, 0, 8, 321, 0), (48, 0, 9, 322, 0), (55, 0, 10, 323, 0), (64, 0, 11, 324, 0), (71, 0, 12, 325, 0), (75, 0, 13, 326, 0), (79, 0, 14, 327, 0), (86, 0, 15, 328, 0)],
  [(11, 1, 0, 286, 0), (18, 1, 1, 287, 0), (26, 1, 2, 288, 0)],
  [(19, 5, 1, 134, 0), (30, 5, 4, 146, 0), (34, 5, 5, 150, 0), (15, 2, 0, 263, 0), (9, 2, 1, 264, 0), (45, 2, 2, 265, 0), (48, 2, 3, 267, 0)],
  [(63, 4, 0, 89, 0), (128, 4, 1, 92, 0), (66, 4, 3, 99, 0), (90, 5, 1, 136, 0), (69, 5, 2, 139, 0), (72, 5, 4, 147, 0), (25, 3, 0, 185, 0), (12, 3, 1, 186, 0), (21, 3, 2, 188, 0), (57, 3, 3, 190, 0), (60, 3, 4, 191, 0), (75, 3, 5, 193, 0), (40, 3, 6, 194, 0), (94, 3, 7, 195, 0), (147, 3, 8, 197, 0)],
  [(26, 4, 0, 88, 0), (9, 4, 1, 91, 0), (15, 4, 2, 95, 0), (30, 4, 3, 98, 0), (18, 4, 4, 102, 0), (23, 4, 5, 105, 0)],
  [(32, 5, 0, 130, 0), (9, 5, 1, 133, 0), (36, 5, 2, 138, 0), (17, 5, 3, 142, 0), (39, 5, 4, 145, 0), (20, 5, 5, 149, 0), (23, 5, 6, 154, 0), (42, 5, 7, 157, 0), (26, 5, 8, 159, 0), (29, 5, 9, 161, 0)],
  [(11, 6, 0, 303, 0), (15, 6, 1, 305, 0)],
  [(50, 5, 5, 151, 0), (9, 7, 0, 244, 0), (15, 7, 1, 245, 0), (22, 7, 2, 246, 0), (30, 7, 3, 247, 0)],
  [(137, 4, 1, 94, 0), (19, 4, 2, 96, 0), (121, 4, 3, 101, 0), (40, 4, 4, 103, 0), (43, 4, 5, 106, 0), (93, 5, 0, 131, 0), (31, 5, 1, 135, 0), (49, 5, 2, 141, 0), (25, 5, 3, 143, 0), (90, 5, 5, 152, 0), (79, 5, 6, 155, 0), (70, 5, 9, 162, 0), (9, 8, 0, 227, 0), (15, 8, 1, 228, 0)],
  [(7, 9, 0, 485, 0), (13, 9, 1, 486, 0)],
  [],
  [],
  [],
  [(253, 16, 0, 729, 1), (172, 16, 1, 732, 1), (176, 16, 2, 735, 1), (178, 16, 3, 737, 1), (181, 16, 4, 739, 1), (184, 16, 5, 741, 1), (247, 15, 0, 768, 1), (192, 15, 1, 771, 1), (195, 15, 2, 773, 1), (198, 15, 3, 776, 1), (201, 15, 4, 779, 1), (204, 15, 5, 782, 1), (207, 15, 6, 784, 1), (210, 15, 7, 786, 1), (213, 15, 8, 787, 1), (360, 17, 0, 813, 1), (241, 17, 1, 815, 1), (266, 17, 2, 817, 1), (348, 17, 3, 819, 1), (168, 17, 4, 821, 1), (188, 17, 5, 823, 1), (219, 17, 6, 825, 1), (164, 17, 7, 827, 1), (231, 17, 8, 829, 1), (257, 17, 9, 831, 1), (152, 17, 10, 833, 1), (155, 17, 11, 835, 1), (161, 17, 12, 836, 1), (141, 17, 13, 839, 1), (146, 17, 14, 841, 1), (149, 17, 15, 843, 1)],
  [(1048, 18, 2, 652, 0), (9, 19, 0, 1637, 0), (15, 19, 1, 1638, 0)],
  [(7, 15, 0, 766, 0), (13, 15, 1, 769, 0), (16, 15, 2, 772, 0), (19, 15, 3, 774, 0), (22, 15, 4, 777, 0), (25, 15, 5, 780, 0)],
  [(7, 16, 0, 728, 0), (13, 16, 1, 731, 0), (16, 16, 2, 734, 0)],
  [(14, 17, 0, 812, 0), (22, 17, 1, 814, 0), (26, 17, 2, 816, 0), (29, 17, 3, 818, 0), (34, 17, 4, 820, 0), (40, 17, 5, 822, 0), (44, 17, 6, 824, 0), (47, 17, 7, 826, 0), (72, 17, 8, 828, 0), (94, 17, 9, 830, 0), (97, 17, 10, 832, 0), (100, 17, 11, 834, 0), (106, 17, 12, 837, 0), (103, 17, 13, 838, 0), (56, 17, 14, 840, 0), (60, 17, 15, 842, 0), (178, 16, 0, 730, 1), (151, 16, 1, 733, 1), (154, 16, 2, 736, 1), (160, 16, 3, 738, 1), (163, 16, 4, 740, 1), (166, 16, 5, 742, 1), (133, 15, 0, 767, 1), (148, 15, 1, 770, 1), (145, 15, 3, 775, 1), (136, 15, 4, 778, 1), (127, 15, 5, 781, 1), (142, 15, 6, 783, 1), (139, 15, 7, 785, 1)],
  [],
  [],
  [],
  [],
  [],
  [],
  [(15, 18, 0, 649, 0), (22, 18, 1, 650, 0), (73, 18, 2, 651, 0), (79, 18, 3, 653, 0)],
  [],
  [],
  [],
  []]
def am_flN (oc idx : Nat) : Option (Nat × Nat × Nat × Nat × Nat) := (am_flT.getD oc []).find? (fun q => q.1 == idx)
def am_fl (oc idx : Nat) : Option (Nat × Nat × Nat × Nat) := (am_flN oc idx).map (fun q => (q.1, q.2.1, q.2.2.1, q.2.2.2.1))
def am_mlT : List (List (Nat × Nat × Nat × Nat × Nat × Nat × Nat)) := [[(3, 5, 0, 71, 0, 0, 0), (15, 2, 66, 76, 77, 50, 0), (31, 3, 8, 218, 83, 51, 0), (38, 3, 14, 220, 126, 52, 0), (45, 2, 32, 223, 224, 53, 0), (54, 2, 52, 236, 237, 54, 0), (61, 2, 59, 259, 260, 55, 0), (70, 2, 63, 279, 280, 56, 0), (85, 3, 28, 299, 300, 57, 0), (132, 0, 99, 378, 380, 49, 0), (158, 0, 101, 451, 453, 49, 2), (93, 0, 89, 906, 908, 49, 4), (104, 0, 67, 915, 916, 50, 917), (117, 0, 86, 1023, 1024, 50, 1025), (126, 0, 97, 1043, 1045, 49, 21), (361, 0, 13, 1047, 1048, 51, 1049), (355, 0, 17, 1052, 1053, 52, 1054), (144, 0, 18, 1070, 1071, 52, 1072), (147, 0, 19, 1074, 1075, 52, 1076), (150, 0, 20, 1078, 1079, 52, 1080), (153, 0, 21, 1082, 1083, 52, 1084), (169, 0, 103, 1091, 1093, 49, 22), (172, 1, 104, 1096, 1097, 49, 0), (180, 0, 106, 1104, 1106, 49, 23), (186, 0, 108, 1113, 1115, 49, 24), (203, 1, 113, 1123, 1124, 49, 0), (206, 0, 22, 1126, 1127, 52, 1128), (213, 0, 33, 1134, 1135, 53, 1136), (217, 0, 34, 1143, 1144, 53, 1145), (229, 0, 37, 1155, 1156, 53, 1157), (247, 0, 53, 1164, 1165, 54, 1166), (253, 0, 55, 1241, 1242, 54, 1243), (256, 0, 56, 1249, 1250, 54, 1251), (290, 0, 30, 1273, 1274, 57, 1275), (286, 0, 29, 1282, 1279, 57, 1280), (295, 0, 31, 1284, 1285, 57, 1286), (305, 0, 64, 1300, 1301, 56, 1302), (308, 0, 44, 1306, 1196, 53, 1197), (313, 0, 43, 1312, 1192, 53, 1193), (316, 0, 41, 1317, 1170, 53, 1171), (319, 0, 48, 1322, 1323, 53, 1324), (324, 0, 50, 1335, 1254, 53, 1255), (329, 0, 16, 1341, 1003, 52, 1004), (333, 0, 51, 1342, 1343, 53, 1344), (340, 0, 49, 1356, 1327, 53, 1328), (349, 0, 65, 1366, 1367, 56, 1368), (352, 1, 154, 1374, 1375, 49, 0), (238, 0, 60, 1387, 1388, 55, 1389), (223, 0, 36, 1487, 1201, 53, 1202), (226, 0, 24, 1496, 1233, 52, 1234), (220, 0, 23, 1501, 1225, 52, 1226), (232, 0, 38, 1523, 1187, 53, 1188), (235, 0, 39, 1532, 1178, 53, 1179), (283, 0, 140, 1556, 1558, 49, 32)],
  [(3, 5, 0, 282, 0, 0, 0), (17, 3, 14, 285, 126, 52, 0), (22, 0, 17, 1304, 1053, 52, 1054), (29, 7, 0, 1305, 0, 0, 0)],
  [(3, 5, 0, 262, 0, 0, 0), (24, 7, 0, 1391, 0, 0, 0), (38, 0, 61, 1392, 1394, 55, 30), (42, 0, 62, 1396, 1398, 55, 31), (51, 6, 0, 1400, 0, 0, 0)],
  [(3, 5, 0, 79, 0, 0, 0), (11, 3, 8, 82, 83, 51, 0), (20, 3, 14, 125, 126, 52, 0), (29, 0, 68, 919, 921, 50, 5), (51, 7, 0, 923, 0, 0, 0), (33, 0, 69, 924, 926, 50, 6), (80, 0, 70, 929, 931, 50, 7), (37, 0, 71, 933, 935, 50, 8), (160, 0, 72, 937, 939, 50, 9), (163, 1, 73, 941, 942, 50, 0), (167, 0, 74, 944, 946, 50, 10), (170, 1, 75, 948, 949, 50, 0), (173, 0, 76, 951, 953, 50, 11), (101, 0, 77, 955, 957, 50, 12), (150, 0, 1, 959, 514, 38, 515), (156, 0, 2, 960, 885, 38, 886), (44, 0, 78, 961, 963, 50, 13), (86, 0, 79, 966, 968, 50, 14), (48, 0, 80, 971, 973, 50, 15), (104, 0, 81, 976, 978, 50, 16), (121, 0, 9, 980, 981, 51, 982), (124, 0, 10, 984, 985, 51, 986), (108, 0, 82, 989, 991, 50, 17), (131, 0, 15, 993, 994, 52, 995), (113, 0, 83, 998, 1000, 50, 18), (134, 0, 16, 1002, 1003, 52, 1004), (118, 0, 84, 1007, 1009, 50, 19), (138, 0, 11, 1011, 1012, 51, 1013), (141, 0, 12, 1015, 1016, 51, 1017), (144, 0, 85, 1019, 1021, 50, 20)],
  [(3, 5, 0, 85, 0, 0, 0), (33, 4, 0, 1051, 0, 0, 0)],
  [(3, 5, 0, 128, 0, 0, 0), (45, 4, 0, 1056, 0, 0, 0)],
  [(3, 5, 0, 302, 0, 0, 0), (29, 0, 29, 1278, 1279, 57, 1280), (19, 0, 1, 1288, 514, 38, 515), (25, 0, 2, 1289, 885, 38, 886)],
  [(3, 5, 0, 239, 0, 0, 0), (21, 3, 14, 241, 126, 52, 0), (27, 2, 32, 243, 224, 53, 0), (34, 0, 17, 1168, 1053, 52, 1054), (38, 0, 41, 1169, 1170, 53, 1171), (54, 0, 50, 1253, 1254, 53, 1255), (57, 0, 46, 1258, 1217, 53, 1218), (60, 0, 20, 1259, 1079, 52, 1080)],
  [(3, 5, 0, 226, 0, 0, 0), (34, 6, 0, 1138, 0, 0, 0), (53, 0, 35, 1147, 1149, 53, 25), (46, 0, 33, 1159, 1135, 53, 1136), (99, 0, 42, 1173, 1175, 53, 26), (124, 0, 39, 1177, 1178, 53, 1179), (60, 0, 40, 1181, 1183, 53, 27), (63, 0, 22, 1185, 1127, 52, 1128), (128, 0, 38, 1186, 1187, 53, 1188), (57, 0, 37, 1190, 1156, 53, 1157), (131, 0, 43, 1191, 1192, 53, 1193), (96, 0, 44, 1195, 1196, 53, 1197), (67, 7, 0, 1199, 0, 0, 0), (73, 0, 36, 1200, 1201, 53, 1202), (76, 0, 25, 1204, 1205, 52, 1206), (82, 0, 45, 1208, 1210, 53, 28), (86, 0, 26, 1212, 1213, 52, 1214), (103, 0, 46, 1216, 1217, 53, 1218), (106, 0, 47, 1220, 1222, 53, 29), (112, 0, 23, 1224, 1225, 52, 1226), (115, 0, 27, 1228, 1229, 52, 1230), (118, 0, 24, 1232, 1233, 52, 1234), (109, 0, 34, 1236, 1144, 53, 1145), (140, 0, 15, 1257, 994, 52, 995), (134, 0, 49, 1326, 1327, 53, 1328)],
  [(1, 5, 0, 484, 0, 0, 0)],
  [],
  [],
  [],
  [(356, 2, 87, 68, 69, 49, 0), (372, 0, 90, 362, 363, 49, 364), (375, 0, 91, 366, 367, 49, 368), (378, 0, 92, 370, 371, 49, 372), (36, 0, 100, 374, 375, 49, 376), (158, 0, 94, 471, 472, 49, 473), (357, 0, 95, 475, 476, 49, 477), (350, 2, 191, 481, 482, 34, 0), (222, 0, 192, 492, 493, 34, 494), (353, 2, 195, 499, 500, 35, 0), (368, 1, 209, 877, 878, 33, 0), (23, 1, 210, 880, 881, 33, 0), (7, 0, 1, 883, 514, 38, 515), (13, 0, 2, 884, 885, 38, 886), (17, 0, 88, 902, 903, 49, 904), (29, 0, 96, 910, 911, 49, 912), (234, 1, 211, 1057, 1058, 33, 0), (129, 1, 212, 1063, 1064, 33, 0), (33, 0, 98, 1066, 1067, 49, 1068), (40, 0, 102, 1087, 1088, 49, 1089), (44, 0, 105, 1100, 1101, 49, 1102), (47, 0, 109, 1109, 1110, 49, 1111), (50, 0, 112, 1119, 1120, 49, 1121), (53, 0, 115, 1130, 1131, 49, 1132), (56, 0, 116, 1139, 1140, 49, 1141), (59, 0, 123, 1151, 1152, 49, 1153), (62, 0, 128, 1160, 1161, 49, 1162), (65, 0, 130, 1237, 1238, 49, 1239), (68, 0, 132, 1245, 1246, 49, 1247), (71, 0, 135, 1260, 1261, 49, 1262), (74, 0, 138, 1264, 1265, 49, 1266), (77, 0, 141, 1269, 1270, 49, 1271), (80, 0, 142, 1290, 1291, 49, 1292), (83, 0, 143, 1295, 1296, 49, 1297), (86, 0, 144, 1307, 1308, 49, 1309), (89, 0, 145, 1313, 1314, 49, 1315), (92, 0, 146, 1318, 1319, 49, 1320), (95, 0, 147, 1330, 1331, 49, 1332), (98, 0, 148, 1336, 1337, 49, 1338), (102, 0, 149, 1346, 1347, 49, 1348), (105, 0, 150, 1351, 1352, 49, 1353), (108, 0, 151, 1357, 1358, 49, 1359), (111, 0, 152, 1361, 1362, 49, 1363), (114, 0, 153, 1370, 1371, 49, 1372), (117, 0, 155, 1378, 1379, 49, 1380), (120, 0, 126, 1383, 1384, 49, 1385), (123, 0, 110, 1401, 1402, 49, 1403), (126, 0, 111, 1405, 1406, 49, 1407), (381, 1, 213, 1410, 1411, 33, 0), (216, 0, 114, 1413, 1414, 49, 1415), (394, 1, 214, 1417, 1418, 33, 0), (227, 0, 220, 1420, 1421, 35, 1422), (228, 0, 206, 1454, 1455, 35, 1456), (238, 0, 196, 1462, 720, 35, 721), (245, 0, 197, 1463, 758, 35, 759), (250, 1, 215, 1464, 1465, 33, 0), (254, 0, 207, 1467, 1459, 35, 1460), (260, 0, 200, 1468, 1429, 35, 1430), (263, 0, 203, 1469, 1442, 35, 1443), (385, 1, 216, 1470, 1471, 33, 0), (269, 0, 205, 1473, 1451, 35, 1452), (273, 0, 199, 1474, 1425, 35, 1426), (276, 0, 208, 1475, 1476, 35, 1477), (279, 0, 118, 1479, 1480, 49, 1481), (282, 0, 119, 1483, 1484, 49, 1485), (285, 0, 121, 1488, 1489, 49, 1490), (288, 0, 120, 1492, 1493, 49, 1494), (291, 0, 117, 1497, 1498, 49, 1499), (294, 0, 136, 1502, 1503, 49, 1504), (298, 0, 137, 1506, 1507, 49, 1508), (388, 1, 217, 1510, 1511, 33, 0), (302, 0, 202, 1513, 1438, 35, 1439), (303, 0, 201, 1514, 1434, 35, 1435), (307, 0, 107, 1515, 1516, 49, 1517), (310, 0, 124, 1519, 1520, 49, 1521), (313, 0, 122, 1524, 1525, 49, 1526), (317, 0, 125, 1528, 1529, 49, 1530), (391, 1, 218, 1533, 1534, 33, 0), (324, 2, 186, 1537, 1538, 37, 0), (320, 0, 187, 1543, 1544, 37, 1545), (325, 0, 185, 1550, 697, 37, 698), (328, 0, 184, 1551, 669, 37, 670), (331, 0, 139, 1552, 1553, 49, 1554), (334, 1, 219, 1560, 1561, 33, 0), (323, 0, 188, 1563, 1564, 37, 1565), (338, 0, 189, 1573, 1574, 37, 1575), (343, 0, 183, 1696, 540, 37, 541), (364, 0, 190, 1698, 1591, 37, 1592)],
  [(335, 0, 4, 517, 518, 38, 519), (212, 4, 0, 647, 0, 0, 0), (1059, 1, 7, 715, 716, 44, 0), (492, 0, 3, 888, 889, 38, 890), (495, 1, 6, 892, 893, 45, 0), (489, 2, 158, 1599, 1600, 38, 0), (1, 5, 0, 1602, 0, 0, 0), (552, 8, 180, 1603, 1604, 180, 1606), (549, 8, 187, 1608, 1544, 177, 1711), (1047, 8, 171, 1609, 585, 171, 587), (54, 1, 161, 1610, 1611, 42, 0)],
  [(1, 5, 0, 765, 0, 0, 0)],
  [(1, 5, 0, 727, 0, 0, 0)],
  [(1, 5, 0, 502, 0, 0, 0), (11, 2, 181, 506, 507, 37, 0), (50, 0, 192, 667, 493, 34, 494), (63, 0, 184, 668, 669, 37, 670), (69, 0, 183, 694, 540, 37, 541), (77, 0, 185, 696, 697, 37, 698), (82, 0, 196, 719, 720, 35, 721), (121, 2, 193, 724, 725, 47, 0), (88, 0, 197, 757, 758, 35, 759), (124, 2, 194, 762, 763, 48, 0), (130, 0, 198, 807, 809, 35, 3), (190, 0, 199, 1424, 1425, 35, 1426), (186, 0, 200, 1428, 1429, 35, 1430), (179, 6, 0, 1432, 0, 0, 0), (194, 0, 201, 1433, 1434, 35, 1435), (182, 0, 202, 1437, 1438, 35, 1439), (198, 0, 203, 1441, 1442, 35, 1443), (155, 7, 0, 1445, 0, 0, 0), (170, 0, 204, 1446, 1447, 35, 1448), (174, 0, 205, 1450, 1451, 35, 1452), (202, 0, 207, 1458, 1459, 35, 1460)],
  [(7, 2, 167, 509, 510, 36, 0), (23, 0, 183, 539, 540, 37, 541), (29, 10, 168, 543, 534, 36, 535), (53, 10, 174, 672, 673, 36, 1706), (50, 10, 175, 700, 701, 36, 1707), (1, 2, 176, 1540, 1541, 36, 0), (343, 10, 177, 1547, 1548, 36, 1708), (329, 10, 178, 1567, 1568, 36, 1709), (333, 10, 179, 1577, 1578, 36, 1710), (137, 2, 157, 1596, 1597, 38, 0)],
  [],
  [(9, 1, 5, 895, 713, 38, 0)],
  [],
  [],
  [],
  [(3, 5, 0, 512, 0, 0, 0), (32, 0, 1, 513, 514, 38, 515), (40, 0, 4, 525, 518, 38, 519), (43, 8, 182, 533, 537, 168, 536), (100, 8, 169, 550, 552, 169, 1714), (104, 8, 170, 554, 556, 170, 1715), (114, 1, 164, 558, 559, 40, 0), (108, 1, 160, 568, 569, 42, 0), (83, 8, 171, 584, 585, 171, 587), (208, 8, 172, 616, 618, 172, 1716), (397, 8, 173, 620, 622, 173, 1717), (399, 0, 156, 643, 644, 38, 645), (245, 1, 165, 675, 676, 46, 0), (248, 1, 166, 678, 679, 46, 0), (191, 1, 159, 703, 704, 45, 0), (138, 7, 0, 1570, 0, 0, 0), (144, 1, 5, 1571, 713, 38, 0)],
  [(310, 11, 0, 571, 0, 0, 0), (304, 7, 0, 578, 0, 0, 0), (150, 4, 0, 581, 0, 0, 0), (339, 1, 162, 1613, 1614, 42, 0), (343, 1, 163, 1616, 1617, 42, 0), (47, 2, 186, 1621, 1538, 37, 0), (54, 0, 184, 1622, 669, 37, 670), (50, 0, 183, 1624, 540, 37, 541), (61, 0, 190, 1625, 1591, 37, 1592)],
  [(194, 6, 0, 561, 0, 0, 0)],
  [],
  []]
def am_ml (oc idx : Nat) : Option (Nat × Nat × Nat × Nat × Nat × Nat × Nat) := (am_mlT.getD oc []).find? (fun q => q.1 == idx)
def am_clT : List (List (Nat × Nat × Nat)) := [[(13, 3, 74), (29, 4, 217), (36, 5, 219), (43, 8, 221), (52, 7, 234), (59, 2, 257), (68, 1, 277), (83, 6, 297), (344, 12, 382), (97, 10, 455), (121, 11, 1027)],
  [(9, 5, 283)],
  [],
  [(9, 4, 80), (18, 5, 123)],
  [(21, 25, 86)],
  [(15, 25, 129)],
  [],
  [(19, 5, 240), (25, 8, 242)],
  [],
  [],
  [],
  [],
  [],
  [(18, 0, 66), (223, 9, 479), (142, 17, 497), (135, 12, 1060), (137, 10, 1061), (139, 11, 1062), (321, 18, 1536)],
  [],
  [],
  [],
  [(7, 18, 503), (20, 20, 662), (32, 16, 663), (38, 15, 665)],
  [(18, 19, 1594)],
  [],
  [],
  [],
  [],
  [],
  [],
  [(311, 21, 577), (43, 11, 1619), (45, 18, 1620)],
  [],
  [],
  []]
def am_cs (oc idx : Nat) : Option (Nat × Nat × Nat) := (am_clT.getD oc []).find? (fun q => q.1 == idx)
def am_srT : List (List (Nat × Nat × Nat)) := [[(293, 24, 1283)],
  [],
  [],
  [(78, 10, 928), (84, 12, 965), (97, 14, 970), (99, 16, 975), (107, 18, 988), (111, 20, 997), (116, 22, 1006)],
  [],
  [],
  [],
  [],
  [],
  [],
  [],
  [],
  [],
  [(341, 38, 1695), (346, 40, 1697)],
  [],
  [],
  [],
  [(9, 26, 505), (67, 28, 693), (75, 30, 695), (80, 32, 718), (86, 34, 756), (92, 36, 811)],
  [],
  [],
  [],
  [],
  [],
  [],
  [],
  [],
  [],
  [],
  []]
def am_sr (oc idx : Nat) : Option (Nat × Nat × Nat) := (am_srT.getD oc []).find? (fun q => q.1 == idx)
def am_ctT : List (List (Nat × Int × Nat)) := [[],
  [],
  [],
  [],
  [],
  [],
  [(33, 1000000000, 1277)],
  [],
  [],
  [(17, 2147483647, 496)],
  [],
  [],
  [],
  [],
  [],
  [],
  [],
  [],
  [],
  [],
  [],
  [],
  [],
  [],
  [(38, 2147483631, 523), (39, 2147483647, 524)],
  [],
  [(200, 2147483639, 564)],
  [],
  []]
def am_ct (oc idx : Nat) : Option (Nat × Int × Nat) := (am_ctT.getD oc []).find? (fun q => q.1 == idx)
def am_inst : List Nat := [16, 3, 4, 9, 6, 10, 2, 4, 2, 2, 16, 16, 16, 16, 16, 9, 6, 16, 4, 4]
/-- string constants: their class and place, their text -/
def am_strs : List (String × Nat × String) := [("RodYard$Parser", 78, "yard"), ("RodYard$Parser", 84, "kerf"), ("RodYard$Parser", 97, "keep"), ("RodYard$Parser", 99, "kind"), ("RodYard$Parser", 107, "rods"), ("RodYard$Parser", 111, "order"), ("RodYard$Parser", 116, "pattern"), ("RodYard", 293, " gone"), ("RodYardLaw$Yard", 9, "yard kerf "), ("RodYardLaw$Yard", 67, " keep "), ("RodYardLaw$Yard", 75, ";kind "), ("RodYardLaw$Yard", 80, ";rods "), ("RodYardLaw$Yard", 86, ";order "), ("RodYardLaw$Yard", 92, ";pattern"), ("RodYardLaw", 341, " d"), ("RodYardLaw", 346, " gone")]
def am_txt : List (List Int) := [[121, 97, 114, 100], [107, 101, 114, 102], [107, 101, 101, 112], [107, 105, 110, 100], [114, 111, 100, 115], [111, 114, 100, 101, 114], [112, 97, 116, 116, 101, 114, 110], [32, 103, 111, 110, 101], [121, 97, 114, 100, 32, 107, 101, 114, 102, 32], [32, 107, 101, 101, 112, 32], [59, 107, 105, 110, 100, 32], [59, 114, 111, 100, 115, 32], [59, 111, 114, 100, 101, 114, 32], [59, 112, 97, 116, 116, 101, 114, 110], [32, 100], [32, 103, 111, 110, 101]]
/-- the messages of exceptions: their places, texts, words -/
def am_msgT : List (Nat × String × Nat) := [(99, "more bytes than the buffer has", 914), (123, "the text has an error", 1036), (156, "no such count", 1086), (192, "no such length of the pattern", 1118), (275, "no such cut", 1268), (298, "no such byte of the text", 1294), (303, "the piece cannot be cut from the rod", 1299), (311, "the pattern does not fit the rod", 1311), (322, "no room for another rod", 1334), (327, "no room for another order", 1340), (336, "the order is not open", 1350), (338, "the rod is not in stock", 1355), (346, "no change to undo", 1365), (358, "nothing is saved in the slot", 1382), (365, "there is no yard", 425), (367, "no such kind", 464), (369, "no such rod", 1095), (371, "no such order", 1108), (373, "no such pattern", 1117), (375, "no such slot", 1377), (377, "an argument is out of its range", 1099)]
