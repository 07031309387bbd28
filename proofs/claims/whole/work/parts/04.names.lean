/-! NAMES AND TABLES, written by program out of the claim (wip/whole/gen/names.py) -/
def j_F0 : u_T := fun k => match k with
  | _ => ("JumpFlows$Box", "sides", "[I", true)
def j_F1 : u_T := fun k => match k with
  | 0 => ("JumpFlows$Fences", "machine", "LJumpFlows$Machine;", true)
  | 1 => ("JumpFlows$Fences", "inside", "LJumpFlows$Box;", true)
  | _ => ("JumpFlows$Fences", "next", "LJumpFlows$Box;", true)
def j_F2 : u_T := fun k => match k with
  | 0 => ("JumpFlows$Hand", "machine", "LJumpFlows$Machine;", true)
  | 1 => ("JumpFlows$Hand", "point", "LJumpFlows$Box;", true)
  | 2 => ("JumpFlows$Hand", "next", "LJumpFlows$Box;", true)
  | 3 => ("JumpFlows$Hand", "place", "I", false)
  | 4 => ("JumpFlows$Hand", "steps", "I", false)
  | _ => ("JumpFlows$Hand", "going", "Z", false)
def j_F3 : u_T := fun k => match k with
  | 0 => ("JumpFlows$Heap", "extent", "LJumpFlows$Box;", true)
  | 1 => ("JumpFlows$Heap", "place", "I", false)
  | 2 => ("JumpFlows$Heap", "origin", "I", false)
  | 3 => ("JumpFlows$Heap", "how", "I", false)
  | 4 => ("JumpFlows$Heap", "worked", "Z", false)
  | 5 => ("JumpFlows$Heap", "joined", "Z", false)
  | _ => ("JumpFlows$Heap", "sure", "Z", false)
def j_F4 : u_T := fun k => match k with
  | 0 => ("JumpFlows$Jump", "gate", "LJumpFlows$Box;", true)
  | 1 => ("JumpFlows$Jump", "told", "LJumpFlows$Box;", true)
  | 2 => ("JumpFlows$Jump", "isSet", "[Z", true)
  | 3 => ("JumpFlows$Jump", "from", "I", false)
  | _ => ("JumpFlows$Jump", "to", "I", false)
def j_F5 : u_T := fun k => match k with
  | 0 => ("JumpFlows$Machine", "modes", "[LJumpFlows$Mode;", true)
  | 1 => ("JumpFlows$Machine", "jumps", "[LJumpFlows$Jump;", true)
  | 2 => ("JumpFlows$Machine", "startBox", "LJumpFlows$Box;", true)
  | 3 => ("JumpFlows$Machine", "wrongBox", "LJumpFlows$Box;", true)
  | 4 => ("JumpFlows$Machine", "modeCount", "I", false)
  | 5 => ("JumpFlows$Machine", "jumpCount", "I", false)
  | 6 => ("JumpFlows$Machine", "startMode", "I", false)
  | _ => ("JumpFlows$Machine", "wrongMode", "I", false)
def j_F6 : u_T := fun k => match k with
  | 0 => ("JumpFlows$Mode", "space", "LJumpFlows$Box;", true)
  | 1 => ("JumpFlows$Mode", "slopes", "LJumpFlows$Box;", true)
  | 2 => ("JumpFlows$Mode", "pale", "LJumpFlows$Box;", true)
  | _ => ("JumpFlows$Mode", "fenced", "Z", false)
def j_F7 : u_T := fun k => match k with
  | 0 => ("JumpFlows$Search", "machine", "LJumpFlows$Machine;", true)
  | 1 => ("JumpFlows$Search", "heaps", "[LJumpFlows$Heap;", true)
  | 2 => ("JumpFlows$Search", "from", "LJumpFlows$Box;", true)
  | 3 => ("JumpFlows$Search", "next", "LJumpFlows$Box;", true)
  | 4 => ("JumpFlows$Search", "columns", "[J", true)
  | 5 => ("JumpFlows$Search", "limit", "I", false)
  | 6 => ("JumpFlows$Search", "heapCount", "I", false)
  | 7 => ("JumpFlows$Search", "works", "I", false)
  | 8 => ("JumpFlows$Search", "spent", "Z", false)
  | _ => ("JumpFlows$Search", "fresh", "Z", false)
def j_F8 : u_T := fun k => match k with
  | 0 => ("JumpFlows$Sheet", "cells", "[I", true)
  | 1 => ("JumpFlows$Sheet", "lane", "I", false)
  | _ => ("JumpFlows$Sheet", "size", "I", false)
def j_F9 : u_T := fun k => match k with
  | 0 => ("JumpFlows$Trail", "machine", "LJumpFlows$Machine;", true)
  | 1 => ("JumpFlows$Trail", "search", "LJumpFlows$Search;", true)
  | 2 => ("JumpFlows$Trail", "path", "[I", true)
  | 3 => ("JumpFlows$Trail", "numbers", "[I", true)
  | _ => ("JumpFlows$Trail", "length", "I", false)
def j_F10 : u_T := fun k => match k with
  | 0 => ("JumpFlows", "machine", "LJumpFlows$Machine;", true)
  | 1 => ("JumpFlows", "search", "LJumpFlows$Search;", true)
  | 2 => ("JumpFlows", "trail", "LJumpFlows$Trail;", true)
  | 3 => ("JumpFlows", "fences", "LJumpFlows$Fences;", true)
  | 4 => ("JumpFlows", "hand", "LJumpFlows$Hand;", true)
  | 5 => ("JumpFlows", "sheets", "[LJumpFlows$Sheet;", true)
  | _ => ("JumpFlows", "drawn", "LJumpFlows$Box;", true)
def j_F11 : u_T := fun k => match k with
  | 0 => ("JumpFlowsModel", "modes", "I", false)
  | 1 => ("JumpFlowsModel", "rooms", "[I", true)
  | 2 => ("JumpFlowsModel", "slopes", "[I", true)
  | 3 => ("JumpFlowsModel", "jumps", "I", false)
  | 4 => ("JumpFlowsModel", "froms", "[I", true)
  | 5 => ("JumpFlowsModel", "tos", "[I", true)
  | 6 => ("JumpFlowsModel", "guards", "[I", true)
  | 7 => ("JumpFlowsModel", "sets", "[I", true)
  | 8 => ("JumpFlowsModel", "isSet", "[Z", true)
  | 9 => ("JumpFlowsModel", "startMode", "I", false)
  | 10 => ("JumpFlowsModel", "wrongMode", "I", false)
  | 11 => ("JumpFlowsModel", "starts", "[I", true)
  | 12 => ("JumpFlowsModel", "mostHeaps", "I", false)
  | 13 => ("JumpFlowsModel", "hasFence", "[Z", true)
  | 14 => ("JumpFlowsModel", "fences", "[I", true)
  | 15 => ("JumpFlowsModel", "made", "[I", true)
  | 16 => ("JumpFlowsModel", "heaps", "I", false)
  | 17 => ("JumpFlowsModel", "heapMode", "[I", true)
  | 18 => ("JumpFlowsModel", "heapBox", "[I", true)
  | 19 => ("JumpFlowsModel", "origins", "[I", true)
  | 20 => ("JumpFlowsModel", "hows", "[I", true)
  | 21 => ("JumpFlowsModel", "isJoined", "[Z", true)
  | 22 => ("JumpFlowsModel", "isWorked", "[Z", true)
  | 23 => ("JumpFlowsModel", "works", "I", false)
  | 24 => ("JumpFlowsModel", "isSpent", "Z", false)
  | 25 => ("JumpFlowsModel", "again", "Z", false)
  | 26 => ("JumpFlowsModel", "working", "[I", true)
  | 27 => ("JumpFlowsModel", "steps", "I", false)
  | 28 => ("JumpFlowsModel", "shownState", "[I", true)
  | 29 => ("JumpFlowsModel", "shownHow", "[I", true)
  | 30 => ("JumpFlowsModel", "isRun", "Z", false)
  | 31 => ("JumpFlowsModel", "runMode", "I", false)
  | 32 => ("JumpFlowsModel", "run", "[I", true)
  | 33 => ("JumpFlowsModel", "gone", "I", false)
  | 34 => ("JumpFlowsModel", "lanes", "[I", true)
  | 35 => ("JumpFlowsModel", "lengths", "[I", true)
  | _ => ("JumpFlowsModel", "cells", "[I", true)
def j_cl : List vw_C := [("JumpFlows$Box", j_F0, 1), ("JumpFlows$Fences", j_F1, 3), ("JumpFlows$Hand", j_F2, 6), ("JumpFlows$Heap", j_F3, 7), ("JumpFlows$Jump", j_F4, 5), ("JumpFlows$Machine", j_F5, 8), ("JumpFlows$Mode", j_F6, 4), ("JumpFlows$Search", j_F7, 10), ("JumpFlows$Sheet", j_F8, 3), ("JumpFlows$Trail", j_F9, 5), ("JumpFlows", j_F10, 7), ("JumpFlowsModel", j_F11, 37)]
def j_cn : List String := ["JumpFlows$Box", "JumpFlows$Fences", "JumpFlows$Hand", "JumpFlows$Heap", "JumpFlows$Jump", "JumpFlows$Machine", "JumpFlows$Mode", "JumpFlows$Search", "JumpFlows$Sheet", "JumpFlows$Trail", "JumpFlows", "JumpFlowsModel", "JumpFlowsLaw", "java/lang/Math", "java/lang/Long"]
def j_fk : List (List Nat) := [[2], [2, 2, 2], [2, 2, 2, 0, 0, 1], [2, 0, 0, 0, 1, 1, 1], [2, 2, 2, 0, 0], [2, 2, 2, 2, 0, 0, 0, 0], [2, 2, 2, 1], [2, 2, 2, 2, 2, 0, 0, 0, 1, 1], [2, 0, 0], [2, 2, 2, 2, 0], [2, 2, 2, 2, 2, 2, 2], [0, 2, 2, 0, 2, 2, 2, 2, 2, 0, 0, 2, 0, 2, 2, 2, 0, 2, 2, 2, 2, 2, 2, 0, 1, 1, 2, 0, 2, 2, 1, 0, 2, 0, 2, 2, 2]]
def j_mt : List (MethodName × ByteArray × Nat × Option FieldType × Nat × Nat) := [
  (⟨"JumpFlows", "<init>", "()V"⟩, prog_1_method_1_code, 2, none, 10, 1),
  (⟨"JumpFlows$Machine", "<init>", "()V"⟩, prog_7_method_1_code, 2, none, 5, 1),
  (⟨"JumpFlows$Box", "<init>", "()V"⟩, prog_2_method_1_code, 1, none, 0, 1),
  (⟨"JumpFlows$Mode", "<init>", "()V"⟩, prog_8_method_1_code, 1, none, 6, 1),
  (⟨"JumpFlows$Box", "putAll", "(II)V"⟩, prog_2_method_6_code, 4, none, 0, 3),
  (⟨"JumpFlows$Box", "put", "(III)V"⟩, prog_2_method_4_code, 4, none, 0, 4),
  (⟨"JumpFlows$Jump", "<init>", "()V"⟩, prog_6_method_1_code, 1, none, 4, 1),
  (⟨"JumpFlows$Search", "<init>", "(LJumpFlows$Machine;)V"⟩, prog_9_method_1_code, 3, none, 7, 2),
  (⟨"JumpFlows$Heap", "<init>", "()V"⟩, prog_5_method_1_code, 1, none, 3, 1),
  (⟨"JumpFlows$Trail", "<init>", "(LJumpFlows$Machine;LJumpFlows$Search;)V"⟩, prog_11_method_1_code, 3, none, 9, 3),
  (⟨"JumpFlows$Fences", "<init>", "(LJumpFlows$Machine;)V"⟩, prog_3_method_1_code, 2, none, 1, 2),
  (⟨"JumpFlows$Hand", "<init>", "(LJumpFlows$Machine;)V"⟩, prog_4_method_1_code, 2, none, 2, 2),
  (⟨"JumpFlows$Sheet", "<init>", "()V"⟩, prog_10_method_1_code, 1, none, 8, 1),
  (⟨"JumpFlows", "mode", "()I"⟩, prog_1_method_2_code, 1, (some .int), 10, 1),
  (⟨"JumpFlows$Search", "forget", "()V"⟩, prog_9_method_2_code, 1, none, 7, 1),
  (⟨"JumpFlows", "room", "(IIII)I"⟩, prog_1_method_3_code, 5, (some .int), 10, 5),
  (⟨"JumpFlows$Machine", "hasMode", "(I)Z"⟩, prog_7_method_2_code, 2, (some .boolean), 5, 2),
  (⟨"JumpFlows", "areSides", "(IIII)Z"⟩, prog_1_method_34_code, 4, (some .boolean), 10, 4),
  (⟨"JumpFlows", "isVariable", "(I)Z"⟩, prog_1_method_31_code, 1, (some .boolean), 10, 1),
  (⟨"JumpFlows", "slope", "(IIII)I"⟩, prog_1_method_4_code, 5, (some .int), 10, 5),
  (⟨"JumpFlows", "jump", "(II)I"⟩, prog_1_method_5_code, 4, (some .int), 10, 3),
  (⟨"JumpFlows", "guard", "(IIII)I"⟩, prog_1_method_6_code, 5, (some .int), 10, 5),
  (⟨"JumpFlows$Machine", "hasJump", "(I)Z"⟩, prog_7_method_3_code, 2, (some .boolean), 5, 2),
  (⟨"JumpFlows", "set", "(IIZII)I"⟩, prog_1_method_7_code, 7, (some .int), 10, 6),
  (⟨"JumpFlows", "start", "(I)I"⟩, prog_1_method_8_code, 3, (some .int), 10, 2),
  (⟨"JumpFlows", "box", "(IIII)I"⟩, prog_1_method_9_code, 5, (some .int), 10, 5),
  (⟨"JumpFlows", "wrong", "(I)I"⟩, prog_1_method_10_code, 3, (some .int), 10, 2),
  (⟨"JumpFlows", "most", "(I)I"⟩, prog_1_method_11_code, 3, (some .int), 10, 2),
  (⟨"JumpFlows", "safe", "()I"⟩, prog_1_method_12_code, 1, (some .int), 10, 1),
  (⟨"JumpFlows$Search", "refresh", "()V"⟩, prog_9_method_3_code, 1, none, 7, 1),
  (⟨"JumpFlows$Machine", "begin", "(LJumpFlows$Box;)Z"⟩, prog_7_method_5_code, 2, (some .boolean), 5, 2),
  (⟨"JumpFlows$Box", "copy", "(LJumpFlows$Box;)V"⟩, prog_2_method_8_code, 3, none, 0, 2),
  (⟨"JumpFlows$Box", "meet", "(LJumpFlows$Box;)V"⟩, prog_2_method_14_code, 3, none, 0, 2),
  (⟨"JumpFlows$Box", "least", "(I)I"⟩, prog_2_method_2_code, 2, (some .int), 0, 2),
  (⟨"java/lang/Math", "max", "(II)I"⟩, prog_15_method_65_code, 2, (some .int), 13, 2),
  (⟨"JumpFlows$Box", "greatest", "(I)I"⟩, prog_2_method_3_code, 2, (some .int), 0, 2),
  (⟨"java/lang/Math", "min", "(II)I"⟩, prog_15_method_69_code, 2, (some .int), 13, 2),
  (⟨"JumpFlows$Box", "isEmpty", "()Z"⟩, prog_2_method_9_code, 2, (some .boolean), 0, 1),
  (⟨"JumpFlows$Search", "add", "(III)V"⟩, prog_9_method_16_code, 5, none, 7, 4),
  (⟨"JumpFlows$Search", "workAll", "()V"⟩, prog_9_method_12_code, 3, none, 7, 1),
  (⟨"JumpFlows$Search", "firstToWork", "()I"⟩, prog_9_method_13_code, 2, (some .int), 7, 1),
  (⟨"JumpFlows$Search", "work", "(I)V"⟩, prog_9_method_14_code, 6, none, 7, 2),
  (⟨"JumpFlows$Machine", "flow", "(ILJumpFlows$Box;LJumpFlows$Box;)Z"⟩, prog_7_method_6_code, 5, (some .boolean), 5, 4),
  (⟨"JumpFlows$Box", "shift", "(LJumpFlows$Box;)V"⟩, prog_2_method_16_code, 3, none, 0, 2),
  (⟨"JumpFlows$Search", "take", "(III)V"⟩, prog_9_method_15_code, 7, none, 7, 4),
  (⟨"JumpFlows$Box", "covers", "(LJumpFlows$Box;)Z"⟩, prog_2_method_12_code, 3, (some .boolean), 0, 2),
  (⟨"JumpFlows$Box", "join", "(LJumpFlows$Box;)V"⟩, prog_2_method_15_code, 3, none, 0, 2),
  (⟨"JumpFlows$Machine", "spring", "(LJumpFlows$Jump;LJumpFlows$Box;LJumpFlows$Box;)Z"⟩, prog_7_method_7_code, 5, (some .boolean), 5, 4),
  (⟨"JumpFlows$Jump", "sets", "(I)Z"⟩, prog_6_method_2_code, 2, (some .boolean), 4, 2),
  (⟨"JumpFlows$Search", "markSure", "()V"⟩, prog_9_method_17_code, 4, none, 7, 1),
  (⟨"JumpFlows$Search", "hasHeap", "(I)Z"⟩, prog_9_method_4_code, 2, (some .boolean), 7, 2),
  (⟨"JumpFlows$Search", "verdict", "()I"⟩, prog_9_method_6_code, 3, (some .int), 7, 1),
  (⟨"JumpFlows$Machine", "isMet", "(ILJumpFlows$Box;)Z"⟩, prog_7_method_8_code, 3, (some .boolean), 5, 3),
  (⟨"JumpFlows$Box", "touches", "(LJumpFlows$Box;)Z"⟩, prog_2_method_13_code, 3, (some .boolean), 0, 2),
  (⟨"JumpFlows", "heap", "(II)I"⟩, prog_1_method_13_code, 4, (some .int), 10, 3),
  (⟨"JumpFlows", "oneIf", "(Z)I"⟩, prog_1_method_37_code, 1, (some .int), 10, 1),
  (⟨"JumpFlows", "side", "(IIZ)I"⟩, prog_1_method_14_code, 5, (some .int), 10, 4),
  (⟨"JumpFlows", "comes", "(IIII)I"⟩, prog_1_method_15_code, 5, (some .int), 10, 5),
  (⟨"JumpFlows", "areWithin", "(IIII)Z"⟩, prog_1_method_36_code, 4, (some .boolean), 10, 4),
  (⟨"JumpFlows", "isWithin", "(II)Z"⟩, prog_1_method_35_code, 2, (some .boolean), 10, 2),
  (⟨"JumpFlows$Search", "reaches", "(IIII)Z"⟩, prog_9_method_8_code, 6, (some .boolean), 7, 5),
  (⟨"JumpFlows$Box", "hasPoint", "(III)Z"⟩, prog_2_method_11_code, 4, (some .boolean), 0, 4),
  (⟨"JumpFlows$Box", "has", "(II)Z"⟩, prog_2_method_10_code, 3, (some .boolean), 0, 3),
  (⟨"JumpFlows", "many", "(I)I"⟩, prog_1_method_16_code, 2, (some .int), 10, 2),
  (⟨"JumpFlows$Search", "statesOf", "(I)I"⟩, prog_9_method_9_code, 4, (some .int), 7, 2),
  (⟨"JumpFlows$Search", "statesOfSlice", "(II)I"⟩, prog_9_method_10_code, 5, (some .int), 7, 3),
  (⟨"JumpFlows$Search", "mark", "(LJumpFlows$Box;)V"⟩, prog_9_method_11_code, 6, none, 7, 2),
  (⟨"java/lang/Long", "bitCount", "(J)I"⟩, prog_14_method_50_code, 2, (some .int), 14, 1),
  (⟨"JumpFlows", "shown", "()I"⟩, prog_1_method_17_code, 1, (some .int), 10, 1),
  (⟨"JumpFlows$Trail", "trace", "()Z"⟩, prog_11_method_2_code, 5, (some .boolean), 9, 1),
  (⟨"JumpFlows$Search", "firstProof", "()I"⟩, prog_9_method_7_code, 2, (some .int), 7, 1),
  (⟨"JumpFlows$Trail", "layPath", "(I)V"⟩, prog_11_method_5_code, 3, none, 9, 2),
  (⟨"JumpFlows$Trail", "put", "(III)V"⟩, prog_11_method_4_code, 4, none, 9, 4),
  (⟨"JumpFlows$Trail", "leastBefore", "(III)I"⟩, prog_11_method_7_code, 7, (some .int), 9, 4),
  (⟨"JumpFlows", "shownAt", "(II)I"⟩, prog_1_method_18_code, 3, (some .int), 10, 3),
  (⟨"JumpFlows$Trail", "partOf", "(II)I"⟩, prog_11_method_3_code, 3, (some .int), 9, 3),
  (⟨"JumpFlows", "fence", "(IIII)I"⟩, prog_1_method_19_code, 5, (some .int), 10, 5),
  (⟨"JumpFlows$Fences", "tell", "(LJumpFlows$Mode;III)V"⟩, prog_3_method_2_code, 5, none, 1, 5),
  (⟨"JumpFlows", "open", "()I"⟩, prog_1_method_20_code, 1, (some .int), 10, 1),
  (⟨"JumpFlows$Fences", "clear", "()I"⟩, prog_3_method_3_code, 3, (some .int), 1, 1),
  (⟨"JumpFlows", "holds", "()I"⟩, prog_1_method_21_code, 1, (some .int), 10, 1),
  (⟨"JumpFlows$Fences", "firstBreach", "()I"⟩, prog_3_method_4_code, 4, (some .int), 1, 1),
  (⟨"JumpFlows$Fences", "keeps", "(I)Z"⟩, prog_3_method_7_code, 2, (some .boolean), 1, 2),
  (⟨"JumpFlows$Fences", "firstTickOut", "()I"⟩, prog_3_method_5_code, 2, (some .int), 1, 1),
  (⟨"JumpFlows$Fences", "enter", "(I)Z"⟩, prog_3_method_8_code, 2, (some .boolean), 1, 2),
  (⟨"JumpFlows$Fences", "firstJumpOut", "()I"⟩, prog_3_method_6_code, 3, (some .int), 1, 1),
  (⟨"JumpFlows", "run", "(III)I"⟩, prog_1_method_22_code, 4, (some .int), 10, 4),
  (⟨"JumpFlows$Hand", "begin", "(III)Z"⟩, prog_4_method_2_code, 4, (some .boolean), 2, 4),
  (⟨"JumpFlows$Box", "putPoint", "(III)V"⟩, prog_2_method_7_code, 4, none, 0, 4),
  (⟨"JumpFlows", "tick", "(III)I"⟩, prog_1_method_23_code, 4, (some .int), 10, 4),
  (⟨"JumpFlows$Hand", "flowBy", "(III)Z"⟩, prog_4_method_3_code, 4, (some .boolean), 2, 4),
  (⟨"JumpFlows$Hand", "stepInto", "(I)Z"⟩, prog_4_method_6_code, 2, (some .boolean), 2, 2),
  (⟨"JumpFlows", "leap", "(IIII)I"⟩, prog_1_method_24_code, 5, (some .int), 10, 5),
  (⟨"JumpFlows$Hand", "springBy", "(LJumpFlows$Jump;III)Z"⟩, prog_4_method_4_code, 6, (some .boolean), 2, 5),
  (⟨"JumpFlows", "now", "(I)I"⟩, prog_1_method_25_code, 2, (some .int), 10, 2),
  (⟨"JumpFlows$Hand", "partOf", "(I)I"⟩, prog_4_method_5_code, 2, (some .int), 2, 2),
  (⟨"JumpFlows$Hand", "openJumps", "()I"⟩, prog_4_method_7_code, 3, (some .int), 2, 1),
  (⟨"JumpFlows", "sheet", "(III)I"⟩, prog_1_method_26_code, 4, (some .int), 10, 4),
  (⟨"JumpFlows", "isSheet", "(I)Z"⟩, prog_1_method_32_code, 1, (some .boolean), 10, 1),
  (⟨"JumpFlows", "isLane", "(I)Z"⟩, prog_1_method_33_code, 1, (some .boolean), 10, 1),
  (⟨"JumpFlows$Sheet", "renew", "(II)V"⟩, prog_10_method_2_code, 4, none, 8, 3),
  (⟨"JumpFlows", "lay", "(III)I"⟩, prog_1_method_27_code, 4, (some .int), 10, 4),
  (⟨"JumpFlows$Sheet", "write", "(II)I"⟩, prog_10_method_3_code, 3, (some .int), 8, 3),
  (⟨"JumpFlows$Sheet", "hasCell", "(I)Z"⟩, prog_10_method_5_code, 2, (some .boolean), 8, 2),
  (⟨"JumpFlows$Sheet", "lowestBits", "(I)I"⟩, prog_10_method_6_code, 2, (some .int), 8, 2),
  (⟨"JumpFlows", "draw", "(IIIII)I"⟩, prog_1_method_28_code, 8, (some .int), 10, 6),
  (⟨"JumpFlows", "drawTarget", "(II)LJumpFlows$Box;"⟩, prog_1_method_30_code, 3, (some (.object "JumpFlows$Box")), 10, 3),
  (⟨"JumpFlows$Sheet", "read", "(IIILJumpFlows$Box;)I"⟩, prog_10_method_4_code, 9, (some .int), 8, 5),
  (⟨"JumpFlows$Box", "putSide", "(II)V"⟩, prog_2_method_5_code, 3, none, 0, 3),
  (⟨"JumpFlows", "count", "(I)I"⟩, prog_1_method_29_code, 2, (some .int), 10, 2),
  (⟨"JumpFlowsModel", "<init>", "()V"⟩, prog_13_method_1_code, 1, none, 11, 1),
  (⟨"JumpFlowsModel", "mode", "()I"⟩, prog_13_method_9_code, 2, (some .int), 11, 1),
  (⟨"JumpFlowsModel", "fill", "([II)V"⟩, prog_13_method_4_code, 3, none, 11, 2),
  (⟨"JumpFlowsModel", "room", "(IIII)I"⟩, prog_13_method_10_code, 5, (some .int), 11, 5),
  (⟨"JumpFlowsModel", "isMode", "(I)Z"⟩, prog_13_method_5_code, 2, (some .boolean), 11, 2),
  (⟨"JumpFlowsModel", "in", "(JJJ)Z"⟩, prog_13_method_3_code, 6, (some .boolean), 11, 3),
  (⟨"JumpFlowsModel", "isSpan", "(IIII)Z"⟩, prog_13_method_7_code, 4, (some .boolean), 11, 4),
  (⟨"JumpFlowsModel", "tell", "([IIIII)I"⟩, prog_13_method_8_code, 5, (some .int), 11, 5),
  (⟨"JumpFlowsModel", "slope", "(IIII)I"⟩, prog_13_method_11_code, 5, (some .int), 11, 5),
  (⟨"JumpFlowsModel", "jump", "(II)I"⟩, prog_13_method_12_code, 4, (some .int), 11, 3),
  (⟨"JumpFlowsModel", "guard", "(IIII)I"⟩, prog_13_method_13_code, 5, (some .int), 11, 5),
  (⟨"JumpFlowsModel", "isJump", "(I)Z"⟩, prog_13_method_6_code, 2, (some .boolean), 11, 2),
  (⟨"JumpFlowsModel", "set", "(IIZII)I"⟩, prog_13_method_14_code, 6, (some .int), 11, 6),
  (⟨"JumpFlowsModel", "start", "(I)I"⟩, prog_13_method_15_code, 3, (some .int), 11, 2),
  (⟨"JumpFlowsModel", "box", "(IIII)I"⟩, prog_13_method_16_code, 5, (some .int), 11, 5),
  (⟨"JumpFlowsModel", "wrong", "(I)I"⟩, prog_13_method_17_code, 3, (some .int), 11, 2),
  (⟨"JumpFlowsModel", "most", "(I)I"⟩, prog_13_method_18_code, 3, (some .int), 11, 2),
  (⟨"JumpFlowsModel", "safe", "()I"⟩, prog_13_method_36_code, 1, (some .int), 11, 1),
  (⟨"JumpFlowsModel", "layHeaps", "()V"⟩, prog_13_method_31_code, 2, none, 11, 1),
  (⟨"JumpFlowsModel", "startBox", "()Z"⟩, prog_13_method_30_code, 1, (some .boolean), 11, 1),
  (⟨"JumpFlowsModel", "take", "([II)V"⟩, prog_13_method_19_code, 4, none, 11, 3),
  (⟨"JumpFlowsModel", "cut", "([II)V"⟩, prog_13_method_20_code, 6, none, 11, 3),
  (⟨"JumpFlowsModel", "isEmpty", "()Z"⟩, prog_13_method_21_code, 1, (some .boolean), 11, 1),
  (⟨"JumpFlowsModel", "adds", "(III)V"⟩, prog_13_method_26_code, 5, none, 11, 4),
  (⟨"JumpFlowsModel", "nextHeap", "()I"⟩, prog_13_method_28_code, 2, (some .int), 11, 1),
  (⟨"JumpFlowsModel", "work", "(I)V"⟩, prog_13_method_29_code, 4, none, 11, 2),
  (⟨"JumpFlowsModel", "ticks", "(I)V"⟩, prog_13_method_23_code, 3, none, 11, 2),
  (⟨"JumpFlowsModel", "comesTo", "(III)V"⟩, prog_13_method_27_code, 8, none, 11, 4),
  (⟨"JumpFlowsModel", "isKnown", "(I)Z"⟩, prog_13_method_25_code, 4, (some .boolean), 11, 2),
  (⟨"JumpFlowsModel", "isIn", "([II)Z"⟩, prog_13_method_22_code, 5, (some .boolean), 11, 3),
  (⟨"JumpFlowsModel", "jumped", "(I)Z"⟩, prog_13_method_24_code, 3, (some .boolean), 11, 2),
  (⟨"JumpFlowsModel", "judged", "()I"⟩, prog_13_method_35_code, 3, (some .int), 11, 1),
  (⟨"JumpFlowsModel", "isMet", "(I)Z"⟩, prog_13_method_33_code, 2, (some .boolean), 11, 2),
  (⟨"JumpFlowsModel", "shownHeap", "()I"⟩, prog_13_method_34_code, 2, (some .int), 11, 1),
  (⟨"JumpFlowsModel", "isSure", "(I)Z"⟩, prog_13_method_32_code, 4, (some .boolean), 11, 2),
  (⟨"JumpFlowsModel", "heap", "(II)I"⟩, prog_13_method_37_code, 3, (some .int), 11, 3),
  (⟨"JumpFlowsModel", "side", "(IIZ)I"⟩, prog_13_method_38_code, 4, (some .int), 11, 4),
  (⟨"JumpFlowsModel", "comes", "(IIII)I"⟩, prog_13_method_41_code, 5, (some .int), 11, 5),
  (⟨"JumpFlowsModel", "areNumbers", "(III)Z"⟩, prog_13_method_39_code, 3, (some .boolean), 11, 3),
  (⟨"JumpFlowsModel", "point", "(III)V"⟩, prog_13_method_40_code, 4, none, 11, 4),
  (⟨"JumpFlowsModel", "many", "(I)I"⟩, prog_13_method_42_code, 9, (some .int), 11, 2),
  (⟨"JumpFlowsModel", "shown", "()I"⟩, prog_13_method_45_code, 1, (some .int), 11, 1),
  (⟨"JumpFlowsModel", "layShown", "()Z"⟩, prog_13_method_43_code, 4, (some .boolean), 11, 1),
  (⟨"JumpFlowsModel", "back", "(III)V"⟩, prog_13_method_44_code, 10, none, 11, 4),
  (⟨"JumpFlowsModel", "shownAt", "(II)I"⟩, prog_13_method_46_code, 4, (some .int), 11, 3),
  (⟨"JumpFlowsModel", "fence", "(IIII)I"⟩, prog_13_method_47_code, 5, (some .int), 11, 5),
  (⟨"JumpFlowsModel", "open", "()I"⟩, prog_13_method_48_code, 3, (some .int), 11, 1),
  (⟨"JumpFlowsModel", "holds", "()I"⟩, prog_13_method_51_code, 2, (some .int), 11, 1),
  (⟨"JumpFlowsModel", "isFenced", "(I)Z"⟩, prog_13_method_49_code, 2, (some .boolean), 11, 2),
  (⟨"JumpFlowsModel", "fenced", "(I)V"⟩, prog_13_method_50_code, 2, none, 11, 2),
  (⟨"JumpFlowsModel", "run", "(III)I"⟩, prog_13_method_52_code, 6, (some .int), 11, 4),
  (⟨"JumpFlowsModel", "tick", "(III)I"⟩, prog_13_method_54_code, 8, (some .int), 11, 4),
  (⟨"JumpFlowsModel", "fits", "(I[II)Z"⟩, prog_13_method_53_code, 3, (some .boolean), 11, 3),
  (⟨"JumpFlowsModel", "leap", "(IIII)I"⟩, prog_13_method_56_code, 8, (some .int), 11, 5),
  (⟨"JumpFlowsModel", "isGuarded", "(I)Z"⟩, prog_13_method_55_code, 4, (some .boolean), 11, 2),
  (⟨"JumpFlowsModel", "now", "(I)I"⟩, prog_13_method_57_code, 4, (some .int), 11, 2),
  (⟨"JumpFlowsModel", "sheet", "(III)I"⟩, prog_13_method_58_code, 5, (some .int), 11, 4),
  (⟨"JumpFlowsModel", "lay", "(III)I"⟩, prog_13_method_59_code, 4, (some .int), 11, 4),
  (⟨"JumpFlowsModel", "draw", "(IIIII)I"⟩, prog_13_method_60_code, 9, (some .int), 11, 6),
  (⟨"JumpFlowsModel", "count", "(I)I"⟩, prog_13_method_61_code, 2, (some .int), 11, 2),
  (⟨"JumpFlows$Search", "heapAt", "(I)LJumpFlows$Heap;"⟩, prog_9_method_5_code, 2, (some (.object "JumpFlows$Heap")), 7, 2),
  (⟨"JumpFlows$Machine", "modeAt", "(I)LJumpFlows$Mode;"⟩, prog_7_method_4_code, 2, (some (.object "JumpFlows$Mode")), 5, 2),
  (⟨"JumpFlows$Trail", "heapOf", "(I)LJumpFlows$Heap;"⟩, prog_11_method_6_code, 2, (some (.object "JumpFlows$Heap")), 9, 2),
  (⟨"JumpFlowsLaw", "law", "([I)Z"⟩, code, 4, (some .boolean), 12, 1)]
def j_fl : List (Nat × Nat × Nat × Nat × Bool) := [(0, 9, 0, 0, false), (6, 12, 6, 0, false), (10, 81, 6, 0, true), (5, 60, 6, 0, true), (2, 113, 6, 0, true), (1, 113, 6, 0, true), (6, 18, 6, 1, false), (2, 57, 6, 1, true), (10, 90, 6, 1, true), (5, 74, 6, 1, true), (9, 102, 6, 1, true), (6, 21, 6, 2, false), (1, 31, 6, 2, true), (1, 25, 6, 3, true), (4, 12, 4, 0, false), (2, 75, 4, 0, true), (10, 111, 4, 0, true), (5, 80, 4, 0, true), (9, 122, 4, 0, true), (4, 18, 4, 1, false), (2, 87, 4, 1, true), (5, 86, 4, 1, true), (10, 121, 4, 1, true), (4, 21, 4, 2, false), (10, 117, 4, 2, true), (2, 70, 4, 3, true), (10, 100, 4, 3, true), (1, 91, 4, 3, true), (7, 150, 4, 3, true), (2, 94, 4, 4, true), (10, 105, 4, 4, true), (1, 100, 4, 4, true), (5, 100, 4, 4, true), (7, 158, 4, 4, true), (5, 11, 5, 0, false), (1, 48, 5, 0, true), (10, 77, 5, 0, true), (5, 19, 5, 1, false), (10, 96, 5, 1, true), (1, 87, 5, 1, true), (2, 123, 5, 1, true), (9, 113, 5, 1, true), (7, 146, 5, 1, true), (5, 26, 5, 2, false), (10, 130, 5, 2, true), (5, 30, 5, 3, false), (9, 52, 5, 3, true), (10, 127, 5, 3, true), (10, 62, 5, 4, true), (5, 43, 5, 4, false), (1, 42, 5, 4, true), (5, 46, 5, 5, false), (10, 93, 5, 5, true), (1, 84, 5, 5, true), (2, 120, 5, 5, true), (7, 143, 5, 5, true), (2, 35, 5, 6, true), (7, 59, 5, 6, true), (1, 56, 5, 6, true), (5, 53, 5, 6, false), (10, 124, 5, 6, true), (5, 33, 5, 7, false), (1, 70, 5, 7, true), (10, 133, 5, 7, true), (3, 10, 3, 0, false), (9, 40, 3, 0, true), (7, 79, 3, 0, true), (10, 175, 3, 0, true), (9, 78, 3, 1, true), (7, 76, 3, 1, true), (10, 153, 3, 1, true), (9, 95, 3, 2, true), (10, 158, 3, 2, true), (7, 170, 3, 2, true), (9, 81, 3, 3, true), (10, 161, 3, 3, true), (7, 173, 3, 3, true), (7, 126, 3, 4, true), (10, 164, 3, 5, true), (7, 167, 3, 5, true), (7, 86, 3, 6, true), (10, 172, 3, 6, true), (7, 35, 7, 0, false), (7, 11, 7, 1, false), (9, 91, 7, 1, true), (10, 149, 7, 1, true), (7, 20, 7, 2, false), (7, 24, 7, 3, false), (7, 27, 7, 4, false), (7, 31, 7, 5, false), (10, 136, 7, 5, true), (7, 44, 7, 6, false), (10, 263, 7, 6, true), (7, 47, 7, 7, false), (10, 266, 7, 7, true), (7, 50, 7, 8, false), (7, 40, 7, 9, false), (9, 18, 9, 0, false), (9, 22, 9, 1, false), (9, 9, 9, 2, false), (9, 15, 9, 3, false), (9, 63, 9, 4, false), (10, 202, 9, 4, true), (1, 21, 1, 0, false), (1, 12, 1, 1, false), (1, 18, 1, 2, false), (2, 21, 2, 0, false), (2, 12, 2, 1, false), (2, 18, 2, 2, false), (2, 39, 2, 3, false), (2, 46, 2, 4, false), (10, 226, 2, 4, true), (2, 49, 2, 5, false), (10, 233, 2, 5, true), (8, 9, 8, 0, false), (8, 15, 8, 1, false), (10, 269, 8, 1, true), (8, 25, 8, 2, false), (10, 272, 8, 2, true), (10, 10, 10, 0, false), (10, 21, 10, 1, false), (10, 30, 10, 2, false), (10, 37, 10, 3, false), (10, 44, 10, 4, false), (10, 50, 10, 5, false), (10, 57, 10, 6, false), (11, 90, 11, 0, false), (11, 7, 11, 1, false), (11, 13, 11, 2, false), (11, 97, 11, 3, false), (11, 16, 11, 4, false), (11, 19, 11, 5, false), (11, 22, 11, 6, false), (11, 25, 11, 7, false), (11, 28, 11, 8, false), (11, 123, 11, 9, false), (11, 32, 11, 10, false), (11, 36, 11, 11, false), (11, 39, 11, 12, false), (11, 42, 11, 13, false), (11, 45, 11, 14, false), (11, 48, 11, 15, false), (11, 135, 11, 16, false), (11, 51, 11, 17, false), (11, 54, 11, 18, false), (11, 57, 11, 19, false), (11, 60, 11, 20, false), (11, 63, 11, 21, false), (11, 66, 11, 22, false), (11, 156, 11, 23, false), (11, 145, 11, 24, false), (11, 153, 11, 25, false), (11, 69, 11, 26, false), (11, 208, 11, 27, false), (11, 72, 11, 28, false), (11, 75, 11, 29, false), (11, 225, 11, 30, false), (11, 228, 11, 31, false), (11, 78, 11, 32, false), (11, 231, 11, 33, false), (11, 81, 11, 34, false), (11, 84, 11, 35, false), (11, 87, 11, 36, false)]
def j_flp : List Nat := [85, 105, 106, 107, 108, 109, 110, 111, 112, 113, 114, 115, 116, 117, 135, 136, 137, 138, 139, 140, 141, 142, 143, 144, 145, 146, 147, 148, 149, 150, 151, 152, 153, 154, 168, 169, 170, 171, 172, 173, 174, 175, 176, 177, 178, 179, 180, 181, 182, 183, 184, 185, 186, 187, 188, 189, 190, 191, 192, 193, 194, 195, 196, 197, 232, 233, 234, 235, 236, 237, 238, 239, 240, 241, 242, 243, 244, 245, 246, 247, 248, 249, 266, 267, 268, 269, 270, 271, 272, 273, 274, 275, 276, 277, 278, 279, 280, 308, 309, 310, 311, 312, 313, 333, 334, 335, 351, 352, 353, 354, 355, 356, 357, 358, 381, 382, 383, 384, 385, 393, 394, 395, 396, 397, 398, 399, 864, 865, 866, 867, 868, 869, 870, 871, 872, 873, 874, 875, 876, 877, 878, 879, 880, 881, 882, 883, 884, 885, 886, 887, 888, 889, 890, 891, 892, 893, 894, 895, 896, 897, 898, 899, 900]
/-- kinds: 0 virtual, 1 static, 2 init, 3 Object.<init>, 4 static of a nest mate, 5 init of a nest mate, 6 Math.max, 7 Math.min -/
def j_ca : List (Nat × Nat × Nat × Nat) := [(12, 9, 2, 0), (10, 1, 3, 0), (10, 9, 2, 1), (5, 3, 3, 0), (5, 25, 5, 2), (0, 3, 3, 0), (5, 37, 2, 3), (6, 3, 3, 0), (6, 11, 5, 2), (6, 24, 0, 4), (0, 15, 0, 5), (5, 38, 2, 6), (4, 3, 3, 0), (4, 11, 5, 2), (4, 25, 0, 4), (5, 39, 0, 4), (10, 18, 2, 7), (7, 3, 3, 0), (7, 19, 5, 2), (7, 39, 5, 8), (3, 1, 3, 0), (3, 9, 5, 2), (10, 27, 2, 9), (9, 3, 3, 0), (10, 36, 2, 10), (1, 3, 3, 0), (1, 11, 5, 2), (10, 43, 2, 11), (2, 3, 3, 0), (2, 11, 5, 2), (10, 56, 5, 2), (10, 61, 5, 12), (8, 3, 3, 0), (12, 13, 0, 13), (10, 66, 0, 14), (12, 18, 0, 15), (10, 69, 0, 16), (10, 73, 1, 17), (10, 114, 1, 18), (10, 86, 0, 5), (12, 23, 0, 19), (12, 27, 0, 20), (12, 32, 0, 21), (10, 108, 0, 22), (12, 36, 0, 23), (12, 41, 0, 24), (12, 46, 0, 25), (12, 50, 0, 26), (12, 54, 0, 27), (12, 58, 0, 28), (10, 139, 0, 29), (7, 53, 0, 30), (5, 49, 0, 16), (5, 56, 0, 31), (5, 63, 0, 32), (0, 19, 0, 33), (0, 30, 6, 34), (0, 23, 0, 35), (0, 36, 7, 36), (5, 66, 0, 37), (7, 62, 0, 38), (7, 133, 0, 31), (7, 66, 0, 39), (7, 118, 0, 40), (7, 122, 0, 41), (7, 129, 0, 170), (7, 72, 0, 50), (7, 136, 0, 42), (5, 70, 0, 171), (5, 77, 0, 43), (7, 140, 0, 44), (7, 161, 0, 45), (7, 164, 0, 46), (7, 154, 0, 47), (5, 83, 0, 48), (4, 29, 4, 18), (5, 89, 0, 33), (5, 93, 0, 35), (5, 96, 0, 5), (7, 69, 0, 49), (10, 142, 0, 51), (7, 82, 0, 52), (5, 103, 0, 53), (12, 62, 0, 54), (10, 146, 0, 50), (10, 168, 1, 55), (10, 178, 0, 52), (12, 66, 0, 56), (10, 182, 0, 35), (10, 186, 0, 33), (12, 71, 0, 57), (10, 189, 1, 58), (10, 275, 1, 59), (10, 192, 0, 60), (7, 89, 0, 61), (0, 26, 0, 62), (12, 75, 0, 63), (10, 195, 0, 64), (7, 93, 0, 65), (7, 97, 0, 62), (7, 101, 0, 66), (7, 111, 0, 35), (7, 115, 0, 33), (7, 105, 1, 67), (12, 79, 0, 68), (10, 198, 0, 69), (9, 26, 0, 70), (9, 32, 0, 71), (9, 88, 0, 50), (9, 36, 0, 170), (9, 46, 0, 33), (9, 57, 6, 34), (9, 67, 0, 72), (9, 84, 4, 18), (9, 71, 0, 73), (9, 75, 0, 172), (9, 98, 0, 171), (9, 107, 0, 35), (9, 110, 0, 22), (9, 117, 0, 48), (12, 83, 0, 74), (10, 205, 0, 75), (12, 87, 0, 76), (10, 209, 0, 77), (1, 34, 0, 4), (1, 38, 0, 5), (12, 91, 0, 78), (10, 213, 0, 79), (12, 95, 0, 80), (10, 216, 0, 81), (1, 52, 0, 30), (1, 59, 0, 82), (1, 103, 0, 16), (1, 106, 0, 45), (1, 63, 0, 83), (1, 73, 0, 84), (1, 109, 0, 31), (1, 116, 0, 32), (1, 119, 0, 37), (1, 80, 0, 42), (1, 67, 0, 85), (1, 96, 0, 47), (1, 76, 0, 52), (12, 99, 0, 86), (10, 219, 0, 87), (2, 25, 0, 30), (2, 31, 0, 61), (2, 42, 0, 88), (12, 104, 0, 89), (10, 223, 0, 90), (2, 53, 0, 171), (2, 62, 0, 33), (2, 66, 0, 91), (2, 78, 0, 45), (2, 116, 0, 31), (12, 108, 0, 92), (10, 229, 0, 93), (2, 81, 0, 48), (2, 84, 0, 5), (2, 90, 0, 62), (12, 112, 0, 94), (10, 236, 0, 95), (2, 97, 0, 52), (2, 101, 4, 55), (2, 105, 0, 42), (2, 109, 0, 96), (2, 127, 0, 47), (12, 116, 0, 97), (10, 238, 1, 98), (10, 241, 1, 99), (10, 244, 0, 100), (8, 19, 7, 36), (12, 120, 0, 101), (10, 248, 0, 102), (8, 28, 0, 103), (8, 32, 0, 104), (12, 124, 0, 105), (10, 251, 0, 106), (10, 255, 0, 107), (8, 36, 4, 59), (8, 40, 0, 108), (10, 259, 0, 31), (12, 129, 0, 109), (12, 12, 2, 110), (11, 1, 3, 0), (12, 17, 0, 111), (11, 102, 1, 112), (12, 22, 0, 113), (11, 106, 0, 114), (11, 93, 1, 115), (11, 110, 1, 116), (11, 114, 1, 117), (12, 26, 0, 118), (12, 31, 0, 119), (12, 35, 0, 120), (11, 118, 0, 121), (12, 40, 0, 122), (12, 45, 0, 123), (12, 49, 0, 124), (12, 53, 0, 125), (12, 57, 0, 126), (12, 61, 0, 127), (11, 191, 0, 128), (11, 172, 0, 129), (11, 159, 0, 130), (11, 128, 0, 131), (11, 131, 0, 132), (11, 149, 0, 133), (11, 175, 0, 134), (11, 179, 0, 135), (11, 162, 0, 136), (11, 166, 0, 137), (11, 142, 0, 138), (11, 138, 0, 139), (11, 169, 0, 140), (11, 194, 0, 141), (11, 185, 0, 142), (11, 188, 0, 143), (11, 182, 0, 144), (12, 65, 0, 145), (12, 70, 0, 146), (12, 74, 0, 147), (11, 201, 1, 148), (11, 205, 0, 149), (12, 78, 0, 150), (12, 82, 0, 151), (11, 214, 0, 152), (11, 211, 0, 153), (12, 86, 0, 154), (12, 90, 0, 155), (12, 94, 0, 156), (12, 98, 0, 157), (11, 219, 0, 158), (11, 222, 0, 159), (12, 103, 0, 160), (12, 107, 0, 161), (11, 236, 1, 162), (12, 111, 0, 163), (11, 240, 0, 164), (12, 115, 0, 165), (12, 119, 0, 166), (12, 123, 0, 167), (12, 128, 0, 168), (12, 132, 0, 169)]
def j_cap : List Nat := [63, 66, 71, 74, 81, 84, 91, 94, 96, 97, 101, 128, 131, 133, 134, 167, 217, 220, 224, 226, 229, 231, 304, 307, 327, 330, 332, 345, 348, 350, 375, 377, 380, 415, 419, 423, 427, 431, 434, 437, 438, 442, 446, 450, 454, 458, 462, 466, 470, 474, 478, 482, 486, 487, 491, 495, 499, 502, 506, 509, 513, 517, 518, 522, 526, 530, 534, 538, 542, 546, 550, 554, 558, 562, 566, 570, 571, 572, 573, 574, 578, 582, 586, 590, 594, 595, 598, 599, 603, 604, 605, 609, 612, 615, 619, 623, 627, 631, 635, 639, 640, 644, 645, 646, 652, 656, 660, 664, 668, 669, 670, 671, 672, 676, 677, 681, 685, 686, 687, 688, 689, 693, 697, 701, 705, 706, 707, 711, 715, 719, 723, 724, 728, 729, 730, 734, 738, 739, 740, 741, 742, 746, 747, 748, 752, 756, 757, 758, 762, 766, 770, 771, 772, 776, 777, 778, 782, 786, 787, 788, 789, 793, 797, 798, 799, 800, 804, 805, 809, 812, 815, 819, 820, 824, 828, 832, 836, 840, 844, 848, 849, 853, 854, 860, 863, 976, 980, 983, 987, 991, 994, 998, 1001, 1005, 1009, 1013, 1017, 1021, 1026, 1030, 1034, 1039, 1043, 1047, 1051, 1055, 1059, 1063, 1067, 1071, 1075, 1079, 1083, 1087, 1091, 1095, 1099, 1103, 1107, 1111, 1115, 1119, 1123, 1128, 1132, 1136, 1140, 1144, 1148, 1153, 1157, 1161, 1165, 1169, 1173, 1177, 1182, 1185, 1189, 1193, 1198, 1203, 1207, 1211]
def j_nw : List (Nat × Nat × Nat) := [(12, 7, 10), (10, 7, 5), (5, 9, 6), (5, 17, 4), (5, 23, 0), (6, 9, 0), (4, 9, 0), (10, 16, 7), (7, 9, 3), (7, 17, 0), (3, 7, 0), (10, 25, 9), (10, 34, 1), (1, 9, 0), (10, 41, 2), (2, 9, 0), (10, 48, 8), (10, 54, 0), (12, 10, 11)]
def j_nwp : List Nat := [61, 69, 75, 77, 79, 95, 132, 215, 221, 223, 230, 302, 325, 331, 343, 349, 372, 374, 858]
def j_kl : List (Nat × Nat × Int64) := [(14, 314, 6148914691236517205), (14, 316, 3689348814741910323), (14, 318, 1085102592571150095), (11, 100, 2), (11, 121, 5), (11, 126, 12), (11, 197, (-20)), (11, 199, 20), (11, 217, 4), (11, 234, (-5)), (11, 243, 7), (11, 245, 3)]
def j_klp : List Nat := [649, 650, 651, 997, 1025, 1038, 1126, 1127, 1152, 1181, 1197, 1202]
def j_cop : List Nat := [65, 73, 83, 93, 100, 104, 130, 219, 228, 306, 329, 347, 379, 418, 422, 426, 430, 433, 436, 441, 445, 449, 453, 457, 461, 465, 469, 473, 477, 481, 485, 490, 494, 498, 501, 505, 508, 512, 516, 521, 525, 529, 541, 549, 553, 557, 561, 565, 569, 577, 537, 581, 585, 589, 593, 597, 602, 608, 611, 614, 618, 622, 626, 630, 634, 638, 643, 648, 655, 659, 663, 667, 675, 680, 692, 696, 700, 704, 710, 714, 718, 722, 727, 733, 737, 745, 751, 755, 761, 765, 769, 775, 781, 785, 792, 796, 803, 808, 811, 814, 818, 823, 827, 831, 835, 839, 843, 847, 852, 857, 862, 979, 982, 986, 990, 993, 996, 1000, 1004, 1008, 1012, 1016, 1020, 1024, 1029, 1033, 1037, 1042, 1046, 1050, 1054, 1058, 1062, 1066, 1070, 1074, 1078, 1082, 1086, 1090, 1094, 1098, 1102, 1106, 1110, 1114, 1118, 1122, 1125, 1131, 1135, 1139, 1143, 1147, 1151, 1156, 1160, 1164, 1168, 1172, 1176, 1180, 1184, 1188, 1192, 1196, 1201, 1206, 1210, 1214, 533, 545, 684]
def j_inp : List Nat := [47, 48, 49, 50, 49, 49, 51, 52, 53, 54, 55, 56, 57, 47, 52, 47, 48, 47, 47, 47, 47, 47, 48, 47, 47, 47, 47, 47, 47, 52, 48, 49, 49, 49, 59, 49, 59, 49, 52, 52, 52, 52, 48, 49, 52, 49, 49, 48, 51, 52, 52, 52, 48, 49, 47, 47, 47, 47, 47, 47, 52, 49, 49, 47, 52, 52, 52, 60, 47, 54, 52, 54, 54, 54, 47, 54, 47, 55, 47, 55, 47, 55, 55, 55, 55, 55, 47, 56, 49, 47, 56, 56, 47, 56, 47, 56, 56, 47, 47, 47, 57, 47, 57, 57, 57, 47, 47, 57, 49, 47, 58, 58, 58, 58, 58, 58, 58, 58, 58, 58, 58, 58, 58, 58, 58, 58, 58, 58, 58, 58, 58, 58, 58, 58, 58, 58, 58, 58, 58, 58, 58, 58, 58, 58, 58, 58, 58, 58, 58, 58, 58, 58, 58, 58, 58, 58, 58, 58, 58, 58, 58, 58, 58, 58, 58, 58, 58, 58, 58, 58, 52, 48, 54]
/-- of each method: the place of instanceMethod (or static) and of selects -/
def j_imp : List Nat := [64, 72, 82, 92, 98, 102, 129, 218, 227, 305, 328, 346, 378, 416, 420, 424, 428, 432, 435, 439, 443, 447, 451, 455, 459, 463, 467, 471, 475, 479, 483, 488, 492, 496, 500, 503, 507, 510, 515, 520, 524, 528, 539, 547, 552, 555, 559, 563, 567, 576, 535, 579, 583, 587, 591, 596, 600, 606, 610, 613, 616, 620, 624, 628, 632, 637, 642, 647, 653, 657, 661, 666, 674, 679, 690, 694, 698, 702, 708, 712, 716, 720, 726, 732, 736, 744, 749, 753, 759, 763, 767, 774, 779, 783, 790, 794, 802, 806, 810, 813, 816, 821, 825, 830, 834, 837, 842, 845, 850, 855, 861, 977, 981, 984, 989, 992, 995, 999, 1002, 1006, 1010, 1015, 1018, 1022, 1027, 1031, 1035, 1040, 1045, 1049, 1053, 1057, 1061, 1065, 1069, 1073, 1077, 1081, 1085, 1089, 1093, 1097, 1101, 1105, 1109, 1112, 1116, 1120, 1124, 1130, 1133, 1137, 1142, 1146, 1149, 1154, 1158, 1162, 1167, 1171, 1174, 1178, 1183, 1186, 1191, 1194, 1199, 1204, 1208, 1212, 531, 543, 683]
def j_sep : List Nat := [0, 0, 0, 0, 99, 103, 0, 0, 0, 0, 0, 0, 0, 417, 421, 425, 429, 0, 0, 440, 444, 448, 452, 456, 460, 464, 468, 472, 476, 480, 484, 489, 493, 497, 0, 504, 0, 511, 0, 1, 2, 3, 540, 548, 4, 556, 560, 564, 568, 5, 536, 580, 584, 588, 592, 0, 601, 607, 0, 0, 617, 621, 625, 629, 633, 6, 7, 0, 654, 658, 662, 8, 9, 10, 691, 695, 699, 703, 709, 713, 717, 721, 12, 13, 14, 15, 750, 754, 760, 764, 768, 16, 780, 784, 791, 795, 17, 807, 0, 0, 817, 822, 826, 18, 19, 838, 20, 846, 851, 856, 0, 978, 0, 985, 21, 0, 0, 0, 1003, 1007, 1011, 22, 1019, 1023, 1028, 1032, 1036, 1041, 23, 24, 25, 26, 27, 28, 29, 30, 31, 32, 33, 34, 35, 36, 37, 38, 39, 1113, 1117, 1121, 0, 40, 1134, 1138, 41, 42, 1150, 1155, 1159, 1163, 43, 44, 1175, 1179, 0, 1187, 45, 1195, 1200, 1205, 1209, 1213, 532, 544, 11]
def j_isp : List Nat := [80, 326, 344, 225, 127, 70, 90, 216, 376, 303, 62, 859]
def j_lyp : List (List Nat) := [[86], [336, 338, 340], [359, 361, 363, 365, 367, 369], [250, 252, 254, 256, 258, 260, 262], [155, 157, 159, 161, 163], [198, 200, 202, 204, 206, 208, 210, 212], [118, 120, 122, 124], [281, 283, 285, 287, 289, 291, 293, 295, 297, 299], [386, 388, 390], [314, 316, 318, 320, 322], [400, 402, 404, 406, 408, 410, 412], [901, 903, 905, 907, 909, 911, 913, 915, 917, 919, 921, 923, 925, 927, 929, 931, 933, 935, 937, 939, 941, 943, 945, 947, 949, 951, 953, 955, 957, 959, 961, 963, 965, 967, 969, 971, 973]]
def j_lk {α : Type} : List (Nat × Nat × α) → Nat → Nat → Option α
  | [], _, _ => none
  | (a, b, v) :: r, x, y => if a = x ∧ b = y then some v else j_lk r x y
theorem j_lk_mem {α : Type} {l : List (Nat × Nat × α)} {x y : Nat} {v : α} (h : j_lk l x y = some v) : (x, y, v) ∈ l := by
  induction l with
  | nil => cases h
  | cons q r ih =>
    obtain ⟨a, b, u⟩ := q
    unfold j_lk at h
    split at h
    · rename_i hc
      obtain ⟨rfl, rfl⟩ := hc
      cases h
      exact List.mem_cons_self
    · exact List.mem_cons_of_mem _ (ih h)
def jT : List Cond := lw_tbl.filter goodWord
theorem jT_of {w : Cond} (h : w ∈ lw_tbl) (hg : goodWord w = true) : w ∈ jT := List.mem_filter.mpr ⟨h, hg⟩
theorem jT_good {w : Cond} (h : w ∈ jT) : goodWord w = true := (List.mem_filter.mp h).2
theorem jT_in {w : Cond} (h : w ∈ jT) : w ∈ lw_tbl := (List.mem_filter.mp h).1
def j_at (q : Cond × Nat) : Bool := decide (lw_tbl[q.2]? = some q.1)
theorem j_at_all {l : List Cond} {ps : List Nat} (hn : l.length = ps.length) (h : (l.zip ps).all j_at = true) : ∀ w ∈ l, w ∈ lw_tbl := by
  intro w hw
  obtain ⟨i, hi⟩ := List.getElem?_of_mem hw
  have h1 : i < l.length := (List.getElem?_eq_some_iff.mp hi).1
  have h2 : i < ps.length := by omega
  have h3 : (w, ps[i]) ∈ l.zip ps := by
    refine List.mem_of_getElem? (i := i) ?_
    rw [List.getElem?_zip_eq_some]
    exact ⟨hi, by simp [h2]⟩
  exact List.mem_of_getElem? (of_decide_eq_true (List.all_eq_true.mp h _ h3))
def j_nm (y : Nat) : MethodName := (j_mt.getD y ⟨⟨"", "", ""⟩, code, 0, none, 0, 0⟩).1
def j_co (y : Nat) : ByteArray := (j_mt.getD y ⟨⟨"", "", ""⟩, code, 0, none, 0, 0⟩).2.1
def j_mx (y : Nat) : Nat := (j_mt.getD y ⟨⟨"", "", ""⟩, code, 0, none, 0, 0⟩).2.2.1
def j_rt (y : Nat) : Option FieldType := (j_mt.getD y ⟨⟨"", "", ""⟩, code, 0, none, 0, 0⟩).2.2.2.1
def j_mc (y : Nat) : Nat := (j_mt.getD y ⟨⟨"", "", ""⟩, code, 0, none, 0, 0⟩).2.2.2.2.1
def j_na (y : Nat) : Nat := (j_mt.getD y ⟨⟨"", "", ""⟩, code, 0, none, 0, 0⟩).2.2.2.2.2
def j_cname (c : Nat) : String := j_cn.getD c ""
def j_cw (y : Nat) : Cond := .code (j_nm y) (j_co y) (j_mx y) (j_rt y)
def j_N : Nat := 173
