/-! names of my own: classes, fields, methods, words of the tables -/
def jT0 : u_T := fun k => match k with
  | 0 => ("MarbleBoard", "cells", "LMarbleBoard$Cells;", true)
  | 1 => ("MarbleBoard", "track", "LMarbleBoard$Track;", true)
  | 2 => ("MarbleBoard", "survey", "LMarbleBoard$Survey;", true)
  | 3 => ("MarbleBoard", "state", "LMarbleBoard$State;", true)
  | 4 => ("MarbleBoard", "counts", "[I", true)
  | 5 => ("MarbleBoard", "crowd", "LMarbleBoard$Crowd;", true)
  | 6 => ("MarbleBoard", "past", "LMarbleBoard$Past;", true)
  | 7 => ("MarbleBoard", "search", "LMarbleBoard$Search;", true)
  | 8 => ("MarbleBoard", "told", "[I", true)
  | 9 => ("MarbleBoard", "frozen", "Z", false)
  | _ => ("MarbleBoard", "inputs", "I", false)
def jTy0 : Nat → FieldType := fun k => match k with
  | 0 => .object "MarbleBoard$Cells"
  | 1 => .object "MarbleBoard$Track"
  | 2 => .object "MarbleBoard$Survey"
  | 3 => .object "MarbleBoard$State"
  | 4 => .array .int
  | 5 => .object "MarbleBoard$Crowd"
  | 6 => .object "MarbleBoard$Past"
  | 7 => .object "MarbleBoard$Search"
  | 8 => .array .int
  | 9 => .boolean
  | _ => .int
theorem jnm0 : ∀ a, a < 11 → ∀ b, b < 11 → a ≠ b → (jT0 a).2.1 ≠ (jT0 b).2.1 := by decide +kernel
theorem jty0 : ∀ k, k < 11 → parseFieldDescriptor (jT0 k).2.2.1 = some (jTy0 k) := by decide +kernel
def jT1 : u_T := fun k => match k with
  | 0 => ("MarbleBoard$Cells", "kinds", "[C", true)
  | 1 => ("MarbleBoard$Cells", "values", "[I", true)
  | 2 => ("MarbleBoard$Cells", "lengths", "[I", true)
  | 3 => ("MarbleBoard$Cells", "patterns", "[I", true)
  | 4 => ("MarbleBoard$Cells", "columns", "[I", true)
  | 5 => ("MarbleBoard$Cells", "width", "I", false)
  | _ => ("MarbleBoard$Cells", "height", "I", false)
def jTy1 : Nat → FieldType := fun k => match k with
  | 0 => .array .char
  | 1 => .array .int
  | 2 => .array .int
  | 3 => .array .int
  | 4 => .array .int
  | 5 => .int
  | _ => .int
theorem jnm1 : ∀ a, a < 7 → ∀ b, b < 7 → a ≠ b → (jT1 a).2.1 ≠ (jT1 b).2.1 := by decide +kernel
theorem jty1 : ∀ k, k < 7 → parseFieldDescriptor (jT1 k).2.2.1 = some (jTy1 k) := by decide +kernel
def jT2 : u_T := fun k => match k with
  | _ => ("MarbleBoard$Track", "cells", "LMarbleBoard$Cells;", true)
def jTy2 : Nat → FieldType := fun k => match k with
  | _ => .object "MarbleBoard$Cells"
theorem jnm2 : ∀ a, a < 1 → ∀ b, b < 1 → a ≠ b → (jT2 a).2.1 ≠ (jT2 b).2.1 := by decide +kernel
theorem jty2 : ∀ k, k < 1 → parseFieldDescriptor (jT2 k).2.2.1 = some (jTy2 k) := by decide +kernel
def jT3 : u_T := fun k => match k with
  | 0 => ("MarbleBoard$Survey", "cells", "LMarbleBoard$Cells;", true)
  | _ => ("MarbleBoard$Survey", "reached", "[I", true)
def jTy3 : Nat → FieldType := fun k => match k with
  | 0 => .object "MarbleBoard$Cells"
  | _ => .array .int
theorem jnm3 : ∀ a, a < 2 → ∀ b, b < 2 → a ≠ b → (jT3 a).2.1 ≠ (jT3 b).2.1 := by decide +kernel
theorem jty3 : ∀ k, k < 2 → parseFieldDescriptor (jT3 k).2.2.1 = some (jTy3 k) := by decide +kernel
def jT4 : u_T := fun k => match k with
  | 0 => ("MarbleBoard$State", "cells", "LMarbleBoard$Cells;", true)
  | 1 => ("MarbleBoard$State", "moving", "[I", true)
  | _ => ("MarbleBoard$State", "size", "I", false)
def jTy4 : Nat → FieldType := fun k => match k with
  | 0 => .object "MarbleBoard$Cells"
  | 1 => .array .int
  | _ => .int
theorem jnm4 : ∀ a, a < 3 → ∀ b, b < 3 → a ≠ b → (jT4 a).2.1 ≠ (jT4 b).2.1 := by decide +kernel
theorem jty4 : ∀ k, k < 3 → parseFieldDescriptor (jT4 k).2.2.1 = some (jTy4 k) := by decide +kernel
def jT5 : u_T := fun k => match k with
  | 0 => ("MarbleBoard$Crowd", "track", "LMarbleBoard$Track;", true)
  | 1 => ("MarbleBoard$Crowd", "counts", "[I", true)
  | 2 => ("MarbleBoard$Crowd", "marbles", "[I", true)
  | 3 => ("MarbleBoard$Crowd", "size", "I", false)
  | _ => ("MarbleBoard$Crowd", "held", "I", false)
def jTy5 : Nat → FieldType := fun k => match k with
  | 0 => .object "MarbleBoard$Track"
  | 1 => .array .int
  | 2 => .array .int
  | 3 => .int
  | _ => .int
theorem jnm5 : ∀ a, a < 5 → ∀ b, b < 5 → a ≠ b → (jT5 a).2.1 ≠ (jT5 b).2.1 := by decide +kernel
theorem jty5 : ∀ k, k < 5 → parseFieldDescriptor (jT5 k).2.2.1 = some (jTy5 k) := by decide +kernel
def jT6 : u_T := fun k => match k with
  | 0 => ("MarbleBoard$Past", "states", "[I", true)
  | 1 => ("MarbleBoard$Past", "outlets", "[I", true)
  | 2 => ("MarbleBoard$Past", "end", "I", false)
  | _ => ("MarbleBoard$Past", "size", "I", false)
def jTy6 : Nat → FieldType := fun k => match k with
  | 0 => .array .int
  | 1 => .array .int
  | 2 => .int
  | _ => .int
theorem jnm6 : ∀ a, a < 4 → ∀ b, b < 4 → a ≠ b → (jT6 a).2.1 ≠ (jT6 b).2.1 := by decide +kernel
theorem jty6 : ∀ k, k < 4 → parseFieldDescriptor (jT6 k).2.2.1 = some (jTy6 k) := by decide +kernel
def jT7 : u_T := fun k => match k with
  | 0 => ("MarbleBoard$Search", "cells", "LMarbleBoard$Cells;", true)
  | 1 => ("MarbleBoard$Search", "track", "LMarbleBoard$Track;", true)
  | 2 => ("MarbleBoard$Search", "state", "LMarbleBoard$State;", true)
  | 3 => ("MarbleBoard$Search", "crowd", "LMarbleBoard$Crowd;", true)
  | 4 => ("MarbleBoard$Search", "found", "LMarbleBoard$Found;", true)
  | _ => ("MarbleBoard$Search", "sent", "[I", true)
def jTy7 : Nat → FieldType := fun k => match k with
  | 0 => .object "MarbleBoard$Cells"
  | 1 => .object "MarbleBoard$Track"
  | 2 => .object "MarbleBoard$State"
  | 3 => .object "MarbleBoard$Crowd"
  | 4 => .object "MarbleBoard$Found"
  | _ => .array .int
theorem jnm7 : ∀ a, a < 6 → ∀ b, b < 6 → a ≠ b → (jT7 a).2.1 ≠ (jT7 b).2.1 := by decide +kernel
theorem jty7 : ∀ k, k < 6 → parseFieldDescriptor (jT7 k).2.2.1 = some (jTy7 k) := by decide +kernel
def jT8 : u_T := fun k => match k with
  | 0 => ("MarbleBoard$Found", "items", "[J", true)
  | 1 => ("MarbleBoard$Found", "slots", "[I", true)
  | _ => ("MarbleBoard$Found", "size", "I", false)
def jTy8 : Nat → FieldType := fun k => match k with
  | 0 => .array .long
  | 1 => .array .int
  | _ => .int
theorem jnm8 : ∀ a, a < 3 → ∀ b, b < 3 → a ≠ b → (jT8 a).2.1 ≠ (jT8 b).2.1 := by decide +kernel
theorem jty8 : ∀ k, k < 3 → parseFieldDescriptor (jT8 k).2.2.1 = some (jTy8 k) := by decide +kernel
def jT9 : u_T := fun k => match k with
  | 0 => ("MarbleBoardModel", "code", "I", false)
  | 1 => ("MarbleBoardModel", "w", "I", false)
  | 2 => ("MarbleBoardModel", "h", "I", false)
  | 3 => ("MarbleBoardModel", "kind", "[I", true)
  | 4 => ("MarbleBoardModel", "value", "[I", true)
  | 5 => ("MarbleBoardModel", "pattern", "[I", true)
  | 6 => ("MarbleBoardModel", "length", "[I", true)
  | 7 => ("MarbleBoardModel", "inlet", "[I", true)
  | 8 => ("MarbleBoardModel", "frozen", "Z", false)
  | 9 => ("MarbleBoardModel", "inputs", "I", false)
  | 10 => ("MarbleBoardModel", "counts", "[I", true)
  | 11 => ("MarbleBoardModel", "was", "[J", true)
  | 12 => ("MarbleBoardModel", "end", "[I", true)
  | 13 => ("MarbleBoardModel", "runs", "I", false)
  | 14 => ("MarbleBoardModel", "back", "I", false)
  | 15 => ("MarbleBoardModel", "place", "[I", true)
  | 16 => ("MarbleBoardModel", "came", "[I", true)
  | 17 => ("MarbleBoardModel", "many", "I", false)
  | 18 => ("MarbleBoardModel", "held", "I", false)
  | 19 => ("MarbleBoardModel", "told", "[I", true)
  | 20 => ("MarbleBoardModel", "reached", "[Z", true)
  | 21 => ("MarbleBoardModel", "states", "[J", true)
  | 22 => ("MarbleBoardModel", "rests", "[J", true)
  | 23 => ("MarbleBoardModel", "found", "I", false)
  | _ => ("MarbleBoardModel", "tooMany", "Z", false)
def jTy9 : Nat → FieldType := fun k => match k with
  | 0 => .int
  | 1 => .int
  | 2 => .int
  | 3 => .array .int
  | 4 => .array .int
  | 5 => .array .int
  | 6 => .array .int
  | 7 => .array .int
  | 8 => .boolean
  | 9 => .int
  | 10 => .array .int
  | 11 => .array .long
  | 12 => .array .int
  | 13 => .int
  | 14 => .int
  | 15 => .array .int
  | 16 => .array .int
  | 17 => .int
  | 18 => .int
  | 19 => .array .int
  | 20 => .array .boolean
  | 21 => .array .long
  | 22 => .array .long
  | 23 => .int
  | _ => .boolean
theorem jnm9 : ∀ a, a < 25 → ∀ b, b < 25 → a ≠ b → (jT9 a).2.1 ≠ (jT9 b).2.1 := by decide +kernel
theorem jty9 : ∀ k, k < 25 → parseFieldDescriptor (jT9 k).2.2.1 = some (jTy9 k) := by decide +kernel
abbrev vwCl : List vw_C := [("MarbleBoard", jT0, 11), ("MarbleBoard$Cells", jT1, 7), ("MarbleBoard$Track", jT2, 1), ("MarbleBoard$Survey", jT3, 2), ("MarbleBoard$State", jT4, 3), ("MarbleBoard$Crowd", jT5, 5), ("MarbleBoard$Past", jT6, 4), ("MarbleBoard$Search", jT7, 6), ("MarbleBoard$Found", jT8, 3), ("MarbleBoardModel", jT9, 25)]
def y_Cells_clear : MethodName := ⟨"MarbleBoard$Cells", "clear", "(II)V"⟩
def y_Arrays_fill : MethodName := ⟨"java/util/Arrays", "fill", "([II)V"⟩
def y_Cells_put : MethodName := ⟨"MarbleBoard$Cells", "put", "(IIC)V"⟩
def y_MarbleBoard_spotOf : MethodName := ⟨"MarbleBoard", "spotOf", "(II)I"⟩
def y_Cells_kindOf : MethodName := ⟨"MarbleBoard$Cells", "kindOf", "(C)C"⟩
def y_Cells_firstValue : MethodName := ⟨"MarbleBoard$Cells", "firstValue", "(C)I"⟩
def y_Cells_width : MethodName := ⟨"MarbleBoard$Cells", "width", "()I"⟩
def y_Cells_height : MethodName := ⟨"MarbleBoard$Cells", "height", "()I"⟩
def y_Cells_has : MethodName := ⟨"MarbleBoard$Cells", "has", "(II)Z"⟩
def y_Cells_placeOf : MethodName := ⟨"MarbleBoard$Cells", "placeOf", "(I)I"⟩
def y_Cells_characterAt : MethodName := ⟨"MarbleBoard$Cells", "characterAt", "(I)C"⟩
def y_Cells_kindAt : MethodName := ⟨"MarbleBoard$Cells", "kindAt", "(I)C"⟩
def y_Cells_valueAt : MethodName := ⟨"MarbleBoard$Cells", "valueAt", "(I)I"⟩
def y_Cells_setValue : MethodName := ⟨"MarbleBoard$Cells", "setValue", "(II)V"⟩
def y_Cells_isMoving : MethodName := ⟨"MarbleBoard$Cells", "isMoving", "(I)Z"⟩
def y_Cells_greatestValue : MethodName := ⟨"MarbleBoard$Cells", "greatestValue", "(I)I"⟩
def y_Cells_setPattern : MethodName := ⟨"MarbleBoard$Cells", "setPattern", "(III)V"⟩
def y_Cells_patternHas : MethodName := ⟨"MarbleBoard$Cells", "patternHas", "(II)Z"⟩
def y_Cells_bitAtPosition : MethodName := ⟨"MarbleBoard$Cells", "bitAtPosition", "(I)I"⟩
def y_Cells_setInlet : MethodName := ⟨"MarbleBoard$Cells", "setInlet", "(II)V"⟩
def y_Cells_hasInlet : MethodName := ⟨"MarbleBoard$Cells", "hasInlet", "(I)Z"⟩
def y_Cells_hasAnyInlet : MethodName := ⟨"MarbleBoard$Cells", "hasAnyInlet", "()Z"⟩
def y_Cells_below : MethodName := ⟨"MarbleBoard$Cells", "below", "(I)I"⟩
def y_MarbleBoard_marbleAt : MethodName := ⟨"MarbleBoard", "marbleAt", "(II)I"⟩
def y_Track_run : MethodName := ⟨"MarbleBoard$Track", "run", "(I)I"⟩
def y_Track_next : MethodName := ⟨"MarbleBoard$Track", "next", "(I)I"⟩
def y_Track_side : MethodName := ⟨"MarbleBoard$Track", "side", "(II)I"⟩
def y_Track_sideOf : MethodName := ⟨"MarbleBoard$Track", "sideOf", "(I)I"⟩
def y_Track_rowBelow : MethodName := ⟨"MarbleBoard$Track", "rowBelow", "(II)I"⟩
def y_Track_pass : MethodName := ⟨"MarbleBoard$Track", "pass", "(I)V"⟩
def y_Survey_firstHole : MethodName := ⟨"MarbleBoard$Survey", "firstHole", "()I"⟩
def y_Survey_leadsOn : MethodName := ⟨"MarbleBoard$Survey", "leadsOn", "(II)Z"⟩
def y_Survey_waysOut : MethodName := ⟨"MarbleBoard$Survey", "waysOut", "(I)I"⟩
def y_State_gather : MethodName := ⟨"MarbleBoard$State", "gather", "()Z"⟩
def y_State_bitsOf : MethodName := ⟨"MarbleBoard$State", "bitsOf", "(I)I"⟩
def y_State_packed : MethodName := ⟨"MarbleBoard$State", "packed", "()I"⟩
def y_State_restore : MethodName := ⟨"MarbleBoard$State", "restore", "(I)V"⟩
def y_Crowd_clear : MethodName := ⟨"MarbleBoard$Crowd", "clear", "()V"⟩
def y_Crowd_size : MethodName := ⟨"MarbleBoard$Crowd", "size", "()I"⟩
def y_Crowd_held : MethodName := ⟨"MarbleBoard$Crowd", "held", "()I"⟩
def y_Crowd_marble : MethodName := ⟨"MarbleBoard$Crowd", "marble", "(I)I"⟩
/-- the name of a method of Crowd, read out of the Statement's own table: a hand-in takes no row in which that word stands alone -/
def nm_cr : String := match tables_1_3[226]? with | some (Cond.instanceMethod m) => m.name | _ => ""
def y_Crowd_admit : MethodName := ⟨"MarbleBoard$Crowd", nm_cr, "(I)Z"⟩
def y_Crowd_isTaken : MethodName := ⟨"MarbleBoard$Crowd", "isTaken", "(II)Z"⟩
def y_Crowd_add : MethodName := ⟨"MarbleBoard$Crowd", "add", "(I)V"⟩
def y_Crowd_moveAll : MethodName := ⟨"MarbleBoard$Crowd", "moveAll", "()I"⟩
def y_Crowd_takeOffGone : MethodName := ⟨"MarbleBoard$Crowd", "takeOffGone", "()I"⟩
def y_Past_clear : MethodName := ⟨"MarbleBoard$Past", "clear", "()V"⟩
def y_Past_isEmpty : MethodName := ⟨"MarbleBoard$Past", "isEmpty", "()Z"⟩
def y_Past_keep : MethodName := ⟨"MarbleBoard$Past", "keep", "(II)V"⟩
def y_Past_stepBack : MethodName := ⟨"MarbleBoard$Past", "stepBack", "()V"⟩
def y_Past_stateThere : MethodName := ⟨"MarbleBoard$Past", "stateThere", "()I"⟩
def y_Past_outletThere : MethodName := ⟨"MarbleBoard$Past", "outletThere", "()I"⟩
def y_Found_startWith : MethodName := ⟨"MarbleBoard$Found", "startWith", "(J)V"⟩
def y_Found_add : MethodName := ⟨"MarbleBoard$Found", "add", "(J)V"⟩
def y_Found_append : MethodName := ⟨"MarbleBoard$Found", "append", "(JI)V"⟩
def y_Found_size : MethodName := ⟨"MarbleBoard$Found", "size", "()I"⟩
def y_Found_get : MethodName := ⟨"MarbleBoard$Found", "get", "(I)J"⟩
def y_Search_countStates : MethodName := ⟨"MarbleBoard$Search", "countStates", "(I)I"⟩
def y_Search_runFromAll : MethodName := ⟨"MarbleBoard$Search", "runFromAll", "(I)V"⟩
def y_Search_wasSent : MethodName := ⟨"MarbleBoard$Search", "wasSent", "(II)Z"⟩
def y_Search_findJam : MethodName := ⟨"MarbleBoard$Search", "findJam", "(I)I"⟩
def y_Search_situation : MethodName := ⟨"MarbleBoard$Search", "situation", "(I)J"⟩
def y_Search_tickJams : MethodName := ⟨"MarbleBoard$Search", "tickJams", "(J)Z"⟩
def y_Search_setUp : MethodName := ⟨"MarbleBoard$Search", "setUp", "(J)I"⟩
def y_Search_letAllCome : MethodName := ⟨"MarbleBoard$Search", "letAllCome", "(J)V"⟩
def y_String_indexOf : MethodName := ⟨"java/lang/String", "indexOf", "(I)I"⟩
def y_String_indexOf_o1 : MethodName := ⟨"java/lang/String", "indexOf", "(II)I"⟩
def y_String_isLatin1 : MethodName := ⟨"java/lang/String", "isLatin1", "()Z"⟩
def y_String_length : MethodName := ⟨"java/lang/String", "length", "()I"⟩
def y_String_coder : MethodName := ⟨"java/lang/String", "coder", "()B"⟩
def y_StringLatin1_indexOf : MethodName := ⟨"java/lang/StringLatin1", "indexOf", "([BIII)I"⟩
def y_StringLatin1_canEncode : MethodName := ⟨"java/lang/StringLatin1", "canEncode", "(I)Z"⟩
def y_StringLatin1_indexOfChar : MethodName := ⟨"java/lang/StringLatin1", "indexOfChar", "([BIII)I"⟩
def y_MarbleBoard_board : MethodName := ⟨"MarbleBoard", "board", "(II)V"⟩
def y_MarbleBoard_isWithin : MethodName := ⟨"MarbleBoard", "isWithin", "(III)Z"⟩
def y_MarbleBoard_startBuilding : MethodName := ⟨"MarbleBoard", "startBuilding", "()V"⟩
def y_MarbleBoard_row : MethodName := ⟨"MarbleBoard", "row", "(IJJ)V"⟩
def y_MarbleBoard_tellsCells : MethodName := ⟨"MarbleBoard", "tellsCells", "(JJ)Z"⟩
def y_MarbleBoard_byteOf : MethodName := ⟨"MarbleBoard", "byteOf", "(JJI)C"⟩
def y_MarbleBoard_tellsCell : MethodName := ⟨"MarbleBoard", "tellsCell", "(C)Z"⟩
def y_MarbleBoard_cell : MethodName := ⟨"MarbleBoard", "cell", "(IIC)V"⟩
def y_MarbleBoard_pattern : MethodName := ⟨"MarbleBoard", "pattern", "(IIII)V"⟩
def y_MarbleBoard_inlet : MethodName := ⟨"MarbleBoard", "inlet", "(II)V"⟩
def y_MarbleBoard_freeze : MethodName := ⟨"MarbleBoard", "freeze", "()I"⟩
def y_MarbleBoard_freezeIfSound : MethodName := ⟨"MarbleBoard", "freezeIfSound", "()V"⟩
def y_MarbleBoard_hole : MethodName := ⟨"MarbleBoard", "hole", "()I"⟩
def y_MarbleBoard_look : MethodName := ⟨"MarbleBoard", "look", "(II)C"⟩
def y_MarbleBoard_value : MethodName := ⟨"MarbleBoard", "value", "(II)I"⟩
def y_MarbleBoard_turn : MethodName := ⟨"MarbleBoard", "turn", "(III)I"⟩
def y_MarbleBoard_drop : MethodName := ⟨"MarbleBoard", "drop", "(I)I"⟩
def y_MarbleBoard_undo : MethodName := ⟨"MarbleBoard", "undo", "()Z"⟩
def y_MarbleBoard_count : MethodName := ⟨"MarbleBoard", "count", "(I)I"⟩
def y_MarbleBoard_roll : MethodName := ⟨"MarbleBoard", "roll", "(I)Z"⟩
def y_MarbleBoard_tick : MethodName := ⟨"MarbleBoard", "tick", "(I)I"⟩
def y_MarbleBoard_marbles : MethodName := ⟨"MarbleBoard", "marbles", "(I)I"⟩
def y_MarbleBoard_explore : MethodName := ⟨"MarbleBoard", "explore", "(I)I"⟩
def y_MarbleBoard_canReach : MethodName := ⟨"MarbleBoard", "canReach", "(II)I"⟩
def y_MarbleBoard_jam : MethodName := ⟨"MarbleBoard", "jam", "(I)I"⟩
def y_MarbleBoard_counter : MethodName := ⟨"MarbleBoard", "counter", "(I)V"⟩
def y_Layout_layCounter : MethodName := ⟨"MarbleBoard$Layout", "layCounter", "(LMarbleBoard$Cells;I)V"⟩
def y_MarbleBoard_tell : MethodName := ⟨"MarbleBoard", "tell", "(II)V"⟩
def y_MarbleBoard_table : MethodName := ⟨"MarbleBoard", "table", "(I)V"⟩
def y_Layout_layTable : MethodName := ⟨"MarbleBoard$Layout", "layTable", "(LMarbleBoard$Cells;I[I)V"⟩
def y_Layout_reachOf : MethodName := ⟨"MarbleBoard$Layout", "reachOf", "(II)I"⟩
def y_Layout_latchRow : MethodName := ⟨"MarbleBoard$Layout", "latchRow", "(II)I"⟩
def y_Layout_layLatch : MethodName := ⟨"MarbleBoard$Layout", "layLatch", "(LMarbleBoard$Cells;III)V"⟩
def y_MarbleBoard_input : MethodName := ⟨"MarbleBoard", "input", "(II)V"⟩
def y_Layout_leanInput : MethodName := ⟨"MarbleBoard$Layout", "leanInput", "(LMarbleBoard$Cells;III)V"⟩
def y_MarbleBoardLaw_board : MethodName := ⟨"MarbleBoardLaw", "board", "(LMarbleBoard;II)I"⟩
def y_MarbleBoardLaw_row : MethodName := ⟨"MarbleBoardLaw", "row", "(LMarbleBoard;IJJ)I"⟩
def y_MarbleBoardLaw_cell : MethodName := ⟨"MarbleBoardLaw", "cell", "(LMarbleBoard;IIC)I"⟩
def y_MarbleBoardLaw_pattern : MethodName := ⟨"MarbleBoardLaw", "pattern", "(LMarbleBoard;IIII)I"⟩
def y_MarbleBoardLaw_inlet : MethodName := ⟨"MarbleBoardLaw", "inlet", "(LMarbleBoard;II)I"⟩
def y_MarbleBoardLaw_freeze : MethodName := ⟨"MarbleBoardLaw", "freeze", "(LMarbleBoard;[J)I"⟩
def y_MarbleBoardLaw_look : MethodName := ⟨"MarbleBoardLaw", "look", "(LMarbleBoard;II[J)I"⟩
def y_MarbleBoardLaw_value : MethodName := ⟨"MarbleBoardLaw", "value", "(LMarbleBoard;II[J)I"⟩
def y_MarbleBoardLaw_turn : MethodName := ⟨"MarbleBoardLaw", "turn", "(LMarbleBoard;III[J)I"⟩
def y_MarbleBoardLaw_drop : MethodName := ⟨"MarbleBoardLaw", "drop", "(LMarbleBoard;I[J)I"⟩
def y_MarbleBoardLaw_undo : MethodName := ⟨"MarbleBoardLaw", "undo", "(LMarbleBoard;[J)I"⟩
def y_MarbleBoardLaw_count : MethodName := ⟨"MarbleBoardLaw", "count", "(LMarbleBoard;I[J)I"⟩
def y_MarbleBoardLaw_roll : MethodName := ⟨"MarbleBoardLaw", "roll", "(LMarbleBoard;I[J)I"⟩
def y_MarbleBoardLaw_tick : MethodName := ⟨"MarbleBoardLaw", "tick", "(LMarbleBoard;I[J)I"⟩
def y_MarbleBoardLaw_marbles : MethodName := ⟨"MarbleBoardLaw", "marbles", "(LMarbleBoard;I[J)I"⟩
def y_MarbleBoardLaw_explore : MethodName := ⟨"MarbleBoardLaw", "explore", "(LMarbleBoard;I[J)I"⟩
def y_MarbleBoardLaw_canReach : MethodName := ⟨"MarbleBoardLaw", "canReach", "(LMarbleBoard;II[J)I"⟩
def y_MarbleBoardLaw_jam : MethodName := ⟨"MarbleBoardLaw", "jam", "(LMarbleBoard;I[J)I"⟩
def y_MarbleBoardLaw_counter : MethodName := ⟨"MarbleBoardLaw", "counter", "(LMarbleBoard;I)I"⟩
def y_MarbleBoardLaw_tell : MethodName := ⟨"MarbleBoardLaw", "tell", "(LMarbleBoard;II)I"⟩
def y_MarbleBoardLaw_table : MethodName := ⟨"MarbleBoardLaw", "table", "(LMarbleBoard;I)I"⟩
def y_MarbleBoardLaw_input : MethodName := ⟨"MarbleBoardLaw", "input", "(LMarbleBoard;II)I"⟩
def y_MarbleBoardModel_thrown : MethodName := ⟨"MarbleBoardModel", "thrown", "()I"⟩
def y_MarbleBoardModel_isCell : MethodName := ⟨"MarbleBoardModel", "isCell", "(II)Z"⟩
def y_MarbleBoardModel_isMoving : MethodName := ⟨"MarbleBoardModel", "isMoving", "(I)Z"⟩
def y_MarbleBoardModel_put : MethodName := ⟨"MarbleBoardModel", "put", "(II)V"⟩
def y_MarbleBoardModel_build : MethodName := ⟨"MarbleBoardModel", "build", "()V"⟩
def y_MarbleBoardModel_wipe : MethodName := ⟨"MarbleBoardModel", "wipe", "(II)V"⟩
def y_MarbleBoardModel_board : MethodName := ⟨"MarbleBoardModel", "board", "(II)V"⟩
def y_MarbleBoardModel_row : MethodName := ⟨"MarbleBoardModel", "row", "(IJJ)V"⟩
def y_MarbleBoardModel_isSign : MethodName := ⟨"MarbleBoardModel", "isSign", "(I)Z"⟩
def y_MarbleBoardModel_cell : MethodName := ⟨"MarbleBoardModel", "cell", "(IIC)V"⟩
def y_MarbleBoardModel_pattern : MethodName := ⟨"MarbleBoardModel", "pattern", "(IIII)V"⟩
def y_MarbleBoardModel_inlet : MethodName := ⟨"MarbleBoardModel", "inlet", "(II)V"⟩
def y_MarbleBoardModel_canGo : MethodName := ⟨"MarbleBoardModel", "canGo", "(III)Z"⟩
def y_MarbleBoardModel_isLift : MethodName := ⟨"MarbleBoardModel", "isLift", "(I)Z"⟩
def y_MarbleBoardModel_mark : MethodName := ⟨"MarbleBoardModel", "mark", "(II)Z"⟩
def y_MarbleBoardModel_isHole : MethodName := ⟨"MarbleBoardModel", "isHole", "(II)Z"⟩
def y_MarbleBoardModel_firstHole : MethodName := ⟨"MarbleBoardModel", "firstHole", "()I"⟩
def y_MarbleBoardModel_hole : MethodName := ⟨"MarbleBoardModel", "hole", "()I"⟩
def y_MarbleBoardModel_chill : MethodName := ⟨"MarbleBoardModel", "chill", "()I"⟩
def y_MarbleBoardModel_bitsOf : MethodName := ⟨"MarbleBoardModel", "bitsOf", "(I)I"⟩
def y_MarbleBoardModel_freeze : MethodName := ⟨"MarbleBoardModel", "freeze", "()I"⟩
def y_MarbleBoardModel_look : MethodName := ⟨"MarbleBoardModel", "look", "(II)C"⟩
def y_MarbleBoardModel_value : MethodName := ⟨"MarbleBoardModel", "value", "(II)I"⟩
def y_MarbleBoardModel_turn : MethodName := ⟨"MarbleBoardModel", "turn", "(III)I"⟩
def y_MarbleBoardModel_stateNow : MethodName := ⟨"MarbleBoardModel", "stateNow", "()J"⟩
def y_MarbleBoardModel_setState : MethodName := ⟨"MarbleBoardModel", "setState", "(J)V"⟩
def y_MarbleBoardModel_wayOf : MethodName := ⟨"MarbleBoardModel", "wayOf", "(II)I"⟩
def y_MarbleBoardModel_change : MethodName := ⟨"MarbleBoardModel", "change", "(II)V"⟩
def y_MarbleBoardModel_aim : MethodName := ⟨"MarbleBoardModel", "aim", "(I)I"⟩
def y_MarbleBoardModel_go : MethodName := ⟨"MarbleBoardModel", "go", "(II)V"⟩
def y_MarbleBoardModel_runFrom : MethodName := ⟨"MarbleBoardModel", "runFrom", "(I)I"⟩
def y_MarbleBoardModel_isInlet : MethodName := ⟨"MarbleBoardModel", "isInlet", "(I)Z"⟩
def y_MarbleBoardModel_drop : MethodName := ⟨"MarbleBoardModel", "drop", "(I)I"⟩
def y_MarbleBoardModel_undo : MethodName := ⟨"MarbleBoardModel", "undo", "()Z"⟩
def y_MarbleBoardModel_count : MethodName := ⟨"MarbleBoardModel", "count", "(I)I"⟩
def y_MarbleBoardModel_isTaken : MethodName := ⟨"MarbleBoardModel", "isTaken", "(II)Z"⟩
def y_MarbleBoardModel_come : MethodName := ⟨"MarbleBoardModel", "come", "(I)V"⟩
def y_MarbleBoardModel_roll : MethodName := ⟨"MarbleBoardModel", "roll", "(I)Z"⟩
def y_MarbleBoardModel_tickOnce : MethodName := ⟨"MarbleBoardModel", "tickOnce", "(Z)I"⟩
def y_MarbleBoardModel_tick : MethodName := ⟨"MarbleBoardModel", "tick", "(I)I"⟩
def y_MarbleBoardModel_marbles : MethodName := ⟨"MarbleBoardModel", "marbles", "(I)I"⟩
def y_MarbleBoardModel_note : MethodName := ⟨"MarbleBoardModel", "note", "(JJI)V"⟩
def y_MarbleBoardModel_searched : MethodName := ⟨"MarbleBoardModel", "searched", "(III)Z"⟩
def y_MarbleBoardModel_explore : MethodName := ⟨"MarbleBoardModel", "explore", "(I)I"⟩
def y_MarbleBoardModel_canReach : MethodName := ⟨"MarbleBoardModel", "canReach", "(II)I"⟩
def y_MarbleBoardModel_restNow : MethodName := ⟨"MarbleBoardModel", "restNow", "(I)J"⟩
def y_MarbleBoardModel_setRest : MethodName := ⟨"MarbleBoardModel", "setRest", "(J)I"⟩
def y_MarbleBoardModel_jam : MethodName := ⟨"MarbleBoardModel", "jam", "(I)I"⟩
def y_MarbleBoardModel_counter : MethodName := ⟨"MarbleBoardModel", "counter", "(I)V"⟩
def y_MarbleBoardModel_tell : MethodName := ⟨"MarbleBoardModel", "tell", "(II)V"⟩
def y_MarbleBoardModel_table : MethodName := ⟨"MarbleBoardModel", "table", "(I)V"⟩
def y_MarbleBoardModel_columnOf : MethodName := ⟨"MarbleBoardModel", "columnOf", "(III)I"⟩
def y_MarbleBoardModel_rowOf : MethodName := ⟨"MarbleBoardModel", "rowOf", "(II)I"⟩
def y_MarbleBoardModel_input : MethodName := ⟨"MarbleBoardModel", "input", "(II)V"⟩
def y_Cells_init : MethodName := ⟨"MarbleBoard$Cells", "<init>", "()V"⟩
def y_Track_init : MethodName := ⟨"MarbleBoard$Track", "<init>", "(LMarbleBoard$Cells;)V"⟩
def y_Survey_init : MethodName := ⟨"MarbleBoard$Survey", "<init>", "(LMarbleBoard$Cells;)V"⟩
def y_State_init : MethodName := ⟨"MarbleBoard$State", "<init>", "(LMarbleBoard$Cells;)V"⟩
def y_Crowd_init : MethodName := ⟨"MarbleBoard$Crowd", "<init>", "(LMarbleBoard$Track;[I)V"⟩
def y_Past_init : MethodName := ⟨"MarbleBoard$Past", "<init>", "()V"⟩
def y_Found_init : MethodName := ⟨"MarbleBoard$Found", "<init>", "()V"⟩
def y_Search_init : MethodName := ⟨"MarbleBoard$Search", "<init>", "(LMarbleBoard$Cells;LMarbleBoard$Track;LMarbleBoard$State;)V"⟩
def y_MarbleBoard_init : MethodName := ⟨"MarbleBoard", "<init>", "()V"⟩
def y_MarbleBoardModel_init : MethodName := ⟨"MarbleBoardModel", "<init>", "()V"⟩
def jB0 : List Cond := [Cond.fieldLink "MarbleBoard$Cells" 32 "MarbleBoard$Cells" "width" "I", Cond.fieldLink "MarbleBoard$Cells" 36 "MarbleBoard$Cells" "height" "I", Cond.fieldLink "MarbleBoard$Cells" 25 "MarbleBoard$Cells" "columns" "[I", Cond.code y_Arrays_fill prog_23_method_103_code 4 none, Cond.initialized "java/util/Arrays", Cond.methodLink "MarbleBoard$Cells" 43 y_Arrays_fill, Cond.static y_Arrays_fill, Cond.code y_MarbleBoard_spotOf prog_1_method_31_code 2 (some .int), Cond.initialized "MarbleBoard", Cond.static y_MarbleBoard_spotOf, Cond.fieldLink "MarbleBoard$Cells" 9 "MarbleBoard$Cells" "kinds" "[C", Cond.code y_Cells_kindOf prog_2_method_8_code 1 (some .char), Cond.initialized "MarbleBoard$Cells", Cond.methodLink "MarbleBoard$Cells" 53 y_Cells_kindOf, Cond.static y_Cells_kindOf, Cond.fieldLink "MarbleBoard$Cells" 15 "MarbleBoard$Cells" "values" "[I", Cond.code y_Cells_firstValue prog_2_method_9_code 1 (some .int), Cond.methodLink "MarbleBoard$Cells" 57 y_Cells_firstValue, Cond.static y_Cells_firstValue, Cond.fieldLink "MarbleBoard$Cells" 19 "MarbleBoard$Cells" "lengths" "[I", Cond.fieldLink "MarbleBoard$Cells" 22 "MarbleBoard$Cells" "patterns" "[I", Cond.code y_Cells_put prog_2_method_7_code 5 none, Cond.methodLink "MarbleBoard$Cells" 39 y_Cells_put, Cond.instanceMethod y_Cells_put, Cond.selects "MarbleBoard$Cells" y_Cells_put y_Cells_put, Cond.code y_Cells_greatestValue prog_2_method_15_code 2 (some .int), Cond.methodLink "MarbleBoard$Cells" 61 y_Cells_greatestValue, Cond.instanceMethod y_Cells_greatestValue, Cond.selects "MarbleBoard$Cells" y_Cells_greatestValue y_Cells_greatestValue, Cond.code y_Cells_hasInlet prog_2_method_20_code 2 (some .boolean), Cond.methodLink "MarbleBoard$Cells" 65 y_Cells_hasInlet, Cond.instanceMethod y_Cells_hasInlet, Cond.selects "MarbleBoard$Cells" y_Cells_hasInlet y_Cells_hasInlet, Cond.code y_MarbleBoard_marbleAt prog_1_method_32_code 2 (some .int), Cond.static y_MarbleBoard_marbleAt, Cond.fieldLink "MarbleBoard$Track" 9 "MarbleBoard$Track" "cells" "LMarbleBoard$Cells;", Cond.code y_Cells_below prog_2_method_22_code 2 (some .int), Cond.methodLink "MarbleBoard$Track" 15 y_Cells_below, Cond.instanceMethod y_Cells_below, Cond.selects "MarbleBoard$Cells" y_Cells_below y_Cells_below]
def jB1 : List Cond := [Cond.code y_Cells_kindAt prog_2_method_11_code 2 (some .char), Cond.methodLink "MarbleBoard$Track" 28 y_Cells_kindAt, Cond.instanceMethod y_Cells_kindAt, Cond.selects "MarbleBoard$Cells" y_Cells_kindAt y_Cells_kindAt, Cond.code y_Cells_bitAtPosition prog_2_method_18_code 2 (some .int), Cond.methodLink "MarbleBoard$Track" 45 y_Cells_bitAtPosition, Cond.instanceMethod y_Cells_bitAtPosition, Cond.selects "MarbleBoard$Cells" y_Cells_bitAtPosition y_Cells_bitAtPosition, Cond.code y_Track_sideOf prog_10_method_5_code 1 (some .int), Cond.initialized "MarbleBoard$Track", Cond.methodLink "MarbleBoard$Track" 42 y_Track_sideOf, Cond.static y_Track_sideOf, Cond.code y_Cells_valueAt prog_2_method_12_code 2 (some .int), Cond.methodLink "MarbleBoard$Track" 32 y_Cells_valueAt, Cond.instanceMethod y_Cells_valueAt, Cond.selects "MarbleBoard$Cells" y_Cells_valueAt y_Cells_valueAt, Cond.code y_Track_side prog_10_method_4_code 3 (some .int), Cond.methodLink "MarbleBoard$Track" 35 y_Track_side, Cond.instanceMethod y_Track_side, Cond.selects "MarbleBoard$Track" y_Track_side y_Track_side, Cond.code y_Cells_has prog_2_method_5_code 3 (some .boolean), Cond.methodLink "MarbleBoard$Track" 48 y_Cells_has, Cond.instanceMethod y_Cells_has, Cond.selects "MarbleBoard$Cells" y_Cells_has y_Cells_has, Cond.code y_Track_rowBelow prog_10_method_6_code 5 (some .int), Cond.methodLink "MarbleBoard$Track" 39 y_Track_rowBelow, Cond.instanceMethod y_Track_rowBelow, Cond.selects "MarbleBoard$Track" y_Track_rowBelow y_Track_rowBelow, Cond.code y_Track_next prog_10_method_3_code 6 (some .int), Cond.methodLink "MarbleBoard$Track" 21 y_Track_next, Cond.instanceMethod y_Track_next, Cond.selects "MarbleBoard$Track" y_Track_next y_Track_next, Cond.methodLink "MarbleBoard$Track" 67 y_Cells_greatestValue, Cond.code y_Cells_setValue prog_2_method_13_code 3 none, Cond.methodLink "MarbleBoard$Track" 58 y_Cells_setValue, Cond.instanceMethod y_Cells_setValue, Cond.selects "MarbleBoard$Cells" y_Cells_setValue y_Cells_setValue, Cond.methodLink "MarbleBoard$Track" 62 Lib.Math.min.name, Cond.static Lib.Math.min.name, Cond.initialized "java/lang/Math"]
def jB2 : List Cond := [Cond.code Lib.Math.min.name Lib.Math.min.code 2 (some .int), Cond.code y_Track_pass prog_10_method_7_code 5 none, Cond.methodLink "MarbleBoard$Track" 24 y_Track_pass, Cond.instanceMethod y_Track_pass, Cond.selects "MarbleBoard$Track" y_Track_pass y_Track_pass, Cond.fieldLink "MarbleBoard$Survey" 9 "MarbleBoard$Survey" "reached" "[I", Cond.methodLink "MarbleBoard$Survey" 19 y_Arrays_fill, Cond.fieldLink "MarbleBoard$Survey" 15 "MarbleBoard$Survey" "cells" "LMarbleBoard$Cells;", Cond.code y_Cells_height prog_2_method_4_code 1 (some .int), Cond.methodLink "MarbleBoard$Survey" 35 y_Cells_height, Cond.instanceMethod y_Cells_height, Cond.selects "MarbleBoard$Cells" y_Cells_height y_Cells_height, Cond.code y_Cells_width prog_2_method_3_code 1 (some .int), Cond.methodLink "MarbleBoard$Survey" 39 y_Cells_width, Cond.instanceMethod y_Cells_width, Cond.selects "MarbleBoard$Cells" y_Cells_width y_Cells_width, Cond.methodLink "MarbleBoard$Survey" 53 y_Cells_kindAt, Cond.code y_Cells_patternHas prog_2_method_17_code 4 (some .boolean), Cond.methodLink "MarbleBoard$Survey" 63 y_Cells_patternHas, Cond.instanceMethod y_Cells_patternHas, Cond.selects "MarbleBoard$Cells" y_Cells_patternHas y_Cells_patternHas, Cond.code y_Survey_waysOut prog_9_method_4_code 3 (some .int), Cond.initialized "MarbleBoard$Survey", Cond.methodLink "MarbleBoard$Survey" 57 y_Survey_waysOut, Cond.instanceMethod y_Survey_waysOut, Cond.selects "MarbleBoard$Survey" y_Survey_waysOut y_Survey_waysOut, Cond.methodLink "MarbleBoard$Survey" 60 y_Cells_has, Cond.methodLink "MarbleBoard$Survey" 25 y_Cells_hasInlet, Cond.code y_Survey_leadsOn prog_9_method_3_code 7 (some .boolean), Cond.methodLink "MarbleBoard$Survey" 46 y_Survey_leadsOn, Cond.instanceMethod y_Survey_leadsOn, Cond.selects "MarbleBoard$Survey" y_Survey_leadsOn y_Survey_leadsOn, Cond.code y_Cells_placeOf prog_2_method_6_code 2 (some .int), Cond.methodLink "MarbleBoard$Survey" 50 y_Cells_placeOf, Cond.instanceMethod y_Cells_placeOf, Cond.selects "MarbleBoard$Cells" y_Cells_placeOf y_Cells_placeOf, Cond.methodLink "MarbleBoard$Survey" 31 y_Cells_below, Cond.fieldLink "MarbleBoard$State" 19 "MarbleBoard$State" "size" "I", Cond.fieldLink "MarbleBoard$State" 15 "MarbleBoard$State" "cells" "LMarbleBoard$Cells;", Cond.code y_Cells_isMoving prog_2_method_14_code 2 (some .boolean)]
def jB3 : List Cond := [Cond.methodLink "MarbleBoard$State" 23 y_Cells_isMoving, Cond.instanceMethod y_Cells_isMoving, Cond.selects "MarbleBoard$Cells" y_Cells_isMoving y_Cells_isMoving, Cond.methodLink "MarbleBoard$State" 33 y_Cells_kindAt, Cond.code y_State_bitsOf prog_8_method_3_code 2 (some .int), Cond.initialized "MarbleBoard$State", Cond.methodLink "MarbleBoard$State" 29 y_State_bitsOf, Cond.instanceMethod y_State_bitsOf, Cond.selects "MarbleBoard$State" y_State_bitsOf y_State_bitsOf, Cond.fieldLink "MarbleBoard$State" 9 "MarbleBoard$State" "moving" "[I", Cond.methodLink "MarbleBoard$State" 37 y_Cells_valueAt, Cond.methodLink "MarbleBoard$State" 40 y_Cells_setValue, Cond.fieldLink "MarbleBoard$Crowd" 22 "MarbleBoard$Crowd" "size" "I", Cond.fieldLink "MarbleBoard$Crowd" 26 "MarbleBoard$Crowd" "held" "I", Cond.fieldLink "MarbleBoard$Crowd" 9 "MarbleBoard$Crowd" "marbles" "[I", Cond.code y_Crowd_isTaken prog_3_method_9_code 4 (some .boolean), Cond.initialized "MarbleBoard$Crowd", Cond.methodLink "MarbleBoard$Crowd" 29 y_Crowd_isTaken, Cond.instanceMethod y_Crowd_isTaken, Cond.selects "MarbleBoard$Crowd" y_Crowd_isTaken y_Crowd_isTaken, Cond.code y_Crowd_add prog_3_method_7_code 2 none, Cond.methodLink "MarbleBoard$Crowd" 33 y_Crowd_add, Cond.instanceMethod y_Crowd_add, Cond.selects "MarbleBoard$Crowd" y_Crowd_add y_Crowd_add, Cond.fieldLink "MarbleBoard$Crowd" 19 "MarbleBoard$Crowd" "counts" "[I", Cond.code y_Crowd_takeOffGone prog_3_method_10_code 3 (some .int), Cond.methodLink "MarbleBoard$Crowd" 46 y_Crowd_takeOffGone, Cond.instanceMethod y_Crowd_takeOffGone, Cond.selects "MarbleBoard$Crowd" y_Crowd_takeOffGone y_Crowd_takeOffGone, Cond.fieldLink "MarbleBoard$Crowd" 15 "MarbleBoard$Crowd" "track" "LMarbleBoard$Track;", Cond.methodLink "MarbleBoard$Crowd" 37 y_Track_next, Cond.methodLink "MarbleBoard$Crowd" 43 y_Track_pass, Cond.fieldLink "MarbleBoard$Past" 16 "MarbleBoard$Past" "size" "I", Cond.fieldLink "MarbleBoard$Past" 9 "MarbleBoard$Past" "states" "[I", Cond.fieldLink "MarbleBoard$Past" 20 "MarbleBoard$Past" "end" "I", Cond.fieldLink "MarbleBoard$Past" 13 "MarbleBoard$Past" "outlets" "[I", Cond.methodLink "MarbleBoard$Past" 23 Lib.Math.min.name, Cond.fieldLink "MarbleBoard$Found" 15 "MarbleBoard$Found" "slots" "[I", Cond.methodLink "MarbleBoard$Found" 19 y_Arrays_fill, Cond.fieldLink "MarbleBoard$Found" 25 "MarbleBoard$Found" "size" "I"]
def jB4 : List Cond := [Cond.constantLong "MarbleBoard$Found" 33 (-7046029254386353131), Cond.fieldLink "MarbleBoard$Found" 9 "MarbleBoard$Found" "items" "[J", Cond.code y_Found_append prog_4_method_6_code 4 none, Cond.initialized "MarbleBoard$Found", Cond.methodLink "MarbleBoard$Found" 35 y_Found_append, Cond.instanceMethod y_Found_append, Cond.selects "MarbleBoard$Found" y_Found_append y_Found_append, Cond.code y_Found_add prog_4_method_5_code 5 none, Cond.methodLink "MarbleBoard$Found" 29 y_Found_add, Cond.instanceMethod y_Found_add, Cond.selects "MarbleBoard$Found" y_Found_add y_Found_add, Cond.fieldLink "MarbleBoard$Search" 30 "MarbleBoard$Search" "state" "LMarbleBoard$State;", Cond.code y_State_packed prog_8_method_4_code 4 (some .int), Cond.methodLink "MarbleBoard$Search" 43 y_State_packed, Cond.instanceMethod y_State_packed, Cond.selects "MarbleBoard$State" y_State_packed y_State_packed, Cond.fieldLink "MarbleBoard$Search" 18 "MarbleBoard$Search" "sent" "[I", Cond.methodLink "MarbleBoard$Search" 49 y_Arrays_fill, Cond.fieldLink "MarbleBoard$Search" 14 "MarbleBoard$Search" "found" "LMarbleBoard$Found;", Cond.code y_Found_startWith prog_4_method_2_code 3 none, Cond.methodLink "MarbleBoard$Search" 55 y_Found_startWith, Cond.instanceMethod y_Found_startWith, Cond.selects "MarbleBoard$Found" y_Found_startWith y_Found_startWith, Cond.code y_Found_size prog_4_method_3_code 1 (some .int), Cond.methodLink "MarbleBoard$Search" 59 y_Found_size, Cond.instanceMethod y_Found_size, Cond.selects "MarbleBoard$Found" y_Found_size y_Found_size, Cond.code y_State_restore prog_8_method_5_code 5 none, Cond.methodLink "MarbleBoard$Search" 70 y_State_restore, Cond.instanceMethod y_State_restore, Cond.selects "MarbleBoard$State" y_State_restore y_State_restore, Cond.code y_Found_get prog_4_method_4_code 2 (some .long), Cond.methodLink "MarbleBoard$Search" 62 y_Found_get, Cond.instanceMethod y_Found_get, Cond.selects "MarbleBoard$Found" y_Found_get y_Found_get, Cond.fieldLink "MarbleBoard$Search" 22 "MarbleBoard$Search" "cells" "LMarbleBoard$Cells;", Cond.methodLink "MarbleBoard$Search" 73 y_Cells_hasInlet, Cond.fieldLink "MarbleBoard$Search" 26 "MarbleBoard$Search" "track" "LMarbleBoard$Track;", Cond.code y_Track_run prog_10_method_2_code 5 (some .int), Cond.methodLink "MarbleBoard$Search" 79 y_Track_run]
def jB5 : List Cond := [Cond.instanceMethod y_Track_run, Cond.selects "MarbleBoard$Track" y_Track_run y_Track_run, Cond.methodLink "MarbleBoard$Search" 85 y_Found_add, Cond.code y_Search_runFromAll prog_7_method_3_code 4 none, Cond.initialized "MarbleBoard$Search", Cond.methodLink "MarbleBoard$Search" 66 y_Search_runFromAll, Cond.instanceMethod y_Search_runFromAll, Cond.selects "MarbleBoard$Search" y_Search_runFromAll y_Search_runFromAll, Cond.fieldLink "MarbleBoard$Search" 39 "MarbleBoard$Search" "crowd" "LMarbleBoard$Crowd;", Cond.code y_Crowd_clear prog_3_method_2_code 1 none, Cond.methodLink "MarbleBoard$Search" 88 y_Crowd_clear, Cond.instanceMethod y_Crowd_clear, Cond.selects "MarbleBoard$Crowd" y_Crowd_clear y_Crowd_clear, Cond.code y_Crowd_size prog_3_method_3_code 1 (some .int), Cond.methodLink "MarbleBoard$Search" 105 y_Crowd_size, Cond.instanceMethod y_Crowd_size, Cond.selects "MarbleBoard$Crowd" y_Crowd_size y_Crowd_size, Cond.code y_Crowd_marble prog_3_method_5_code 2 (some .int), Cond.methodLink "MarbleBoard$Search" 118 y_Crowd_marble, Cond.instanceMethod y_Crowd_marble, Cond.selects "MarbleBoard$Crowd" y_Crowd_marble y_Crowd_marble, Cond.code y_Search_situation prog_7_method_8_code 5 (some .long), Cond.methodLink "MarbleBoard$Search" 91 y_Search_situation, Cond.instanceMethod y_Search_situation, Cond.selects "MarbleBoard$Search" y_Search_situation y_Search_situation, Cond.constant "MarbleBoard$Search" 121 268435455, Cond.methodLink "MarbleBoard$Search" 122 y_Crowd_add, Cond.code y_Search_setUp prog_7_method_9_code 5 (some .int), Cond.methodLink "MarbleBoard$Search" 101 y_Search_setUp, Cond.instanceMethod y_Search_setUp, Cond.selects "MarbleBoard$Search" y_Search_setUp y_Search_setUp, Cond.code y_Crowd_moveAll prog_3_method_8_code 3 (some .int), Cond.methodLink "MarbleBoard$Search" 106 y_Crowd_moveAll, Cond.instanceMethod y_Crowd_moveAll, Cond.selects "MarbleBoard$Crowd" y_Crowd_moveAll y_Crowd_moveAll, Cond.code y_Crowd_held prog_3_method_4_code 1 (some .int), Cond.methodLink "MarbleBoard$Search" 109 y_Crowd_held, Cond.instanceMethod y_Crowd_held, Cond.selects "MarbleBoard$Crowd" y_Crowd_held y_Crowd_held, Cond.code y_Search_tickJams prog_7_method_6_code 5 (some .boolean)]
def jB6 : List Cond := [Cond.methodLink "MarbleBoard$Search" 94 y_Search_tickJams, Cond.instanceMethod y_Search_tickJams, Cond.selects "MarbleBoard$Search" y_Search_tickJams y_Search_tickJams, Cond.methodLink "MarbleBoard$Search" 112 y_Cells_below, Cond.code y_Crowd_admit prog_3_method_6_code 2 (some .boolean), Cond.methodLink "MarbleBoard$Search" 115 y_Crowd_admit, Cond.instanceMethod y_Crowd_admit, Cond.selects "MarbleBoard$Crowd" y_Crowd_admit y_Crowd_admit, Cond.code y_Search_letAllCome prog_7_method_7_code 5 none, Cond.methodLink "MarbleBoard$Search" 98 y_Search_letAllCome, Cond.instanceMethod y_Search_letAllCome, Cond.selects "MarbleBoard$Search" y_Search_letAllCome y_Search_letAllCome, Cond.fieldLink "java/lang/String" 38 "java/lang/String" "COMPACT_STRINGS" "Z", Cond.fieldLink "java/lang/String" 15 "java/lang/String" "coder" "B", Cond.code y_String_isLatin1 prog_19_method_154_code 1 (some .boolean), Cond.initialized "java/lang/String", Cond.methodLink "java/lang/String" 492 y_String_isLatin1, Cond.instanceMethod y_String_isLatin1, Cond.selects "java/lang/String" y_String_isLatin1 y_String_isLatin1, Cond.fieldLink "java/lang/String" 9 "java/lang/String" "value" "[B", Cond.code y_String_coder prog_19_method_152_code 1 (some .byte), Cond.methodLink "java/lang/String" 335 y_String_coder, Cond.instanceMethod y_String_coder, Cond.selects "java/lang/String" y_String_coder y_String_coder, Cond.code y_String_length prog_19_method_54_code 1 (some .int), Cond.methodLink "java/lang/String" 505 y_String_length, Cond.instanceMethod y_String_length, Cond.selects "java/lang/String" y_String_length y_String_length, Cond.code y_StringLatin1_canEncode prog_20_method_4_code 1 (some .boolean), Cond.initialized "java/lang/StringLatin1", Cond.methodLink "java/lang/StringLatin1" 88 y_StringLatin1_canEncode, Cond.static y_StringLatin1_canEncode, Cond.methodLink "java/lang/StringLatin1" 92 Lib.Math.max.name, Cond.static Lib.Math.max.name, Cond.code Lib.Math.max.name Lib.Math.max.code 2 (some .int), Cond.methodLink "java/lang/StringLatin1" 38 Lib.Math.min.name, Cond.code y_StringLatin1_indexOfChar prog_20_method_23_code 6 (some .int), Cond.methodLink "java/lang/StringLatin1" 95 y_StringLatin1_indexOfChar, Cond.static y_StringLatin1_indexOfChar, Cond.code y_StringLatin1_indexOf prog_20_method_22_code 4 (some .int)]
def jB7 : List Cond := [Cond.methodLink "java/lang/String" 637 y_StringLatin1_indexOf, Cond.static y_StringLatin1_indexOf, Cond.code y_String_indexOf_o1 prog_19_method_80_code 3 (some .int), Cond.methodLink "java/lang/String" 633 y_String_indexOf_o1, Cond.instanceMethod y_String_indexOf_o1, Cond.selects "java/lang/String" y_String_indexOf_o1 y_String_indexOf_o1, Cond.code y_MarbleBoard_isWithin prog_1_method_30_code 3 (some .boolean), Cond.methodLink "MarbleBoard" 71 y_MarbleBoard_isWithin, Cond.static y_MarbleBoard_isWithin, Cond.fieldLink "MarbleBoard" 134 "MarbleBoard" "frozen" "Z", Cond.fieldLink "MarbleBoard" 226 "MarbleBoard" "inputs" "I", Cond.fieldLink "MarbleBoard" 48 "MarbleBoard" "crowd" "LMarbleBoard$Crowd;", Cond.methodLink "MarbleBoard" 234 y_Crowd_clear, Cond.code y_MarbleBoard_startBuilding prog_1_method_25_code 1 none, Cond.methodLink "MarbleBoard" 78 y_MarbleBoard_startBuilding, Cond.instanceMethod y_MarbleBoard_startBuilding, Cond.selects "MarbleBoard" y_MarbleBoard_startBuilding y_MarbleBoard_startBuilding, Cond.fieldLink "MarbleBoard" 10 "MarbleBoard" "cells" "LMarbleBoard$Cells;", Cond.code y_Cells_clear prog_2_method_2_code 5 none, Cond.methodLink "MarbleBoard" 81 y_Cells_clear, Cond.instanceMethod y_Cells_clear, Cond.selects "MarbleBoard$Cells" y_Cells_clear y_Cells_clear, Cond.methodLink "MarbleBoard" 85 y_Cells_has, Cond.methodLink "MarbleBoard" 93 y_Cells_width, Cond.constantLong "MarbleBoard" 253 255, Cond.code y_MarbleBoard_byteOf prog_1_method_29_code 7 (some .char), Cond.methodLink "MarbleBoard" 97 y_MarbleBoard_byteOf, Cond.static y_MarbleBoard_byteOf, Cond.code y_String_indexOf prog_19_method_79_code 2 (some .int), Cond.methodLink "MarbleBoard" 248 y_String_indexOf, Cond.instanceMethod y_String_indexOf, Cond.selects "java/lang/String" y_String_indexOf y_String_indexOf, Cond.code y_MarbleBoard_tellsCell prog_1_method_28_code 1 (some .boolean), Cond.methodLink "MarbleBoard" 105 y_MarbleBoard_tellsCell, Cond.static y_MarbleBoard_tellsCell, Cond.code y_MarbleBoard_tellsCells prog_1_method_27_code 6 (some .boolean), Cond.methodLink "MarbleBoard" 89 y_MarbleBoard_tellsCells, Cond.instanceMethod y_MarbleBoard_tellsCells, Cond.selects "MarbleBoard" y_MarbleBoard_tellsCells y_MarbleBoard_tellsCells, Cond.methodLink "MarbleBoard" 101 y_Cells_put]
def jB8 : List Cond := [Cond.methodLink "MarbleBoard" 109 y_MarbleBoard_spotOf, Cond.methodLink "MarbleBoard" 113 y_Cells_kindAt, Cond.code y_Cells_setPattern prog_2_method_16_code 4 none, Cond.methodLink "MarbleBoard" 117 y_Cells_setPattern, Cond.instanceMethod y_Cells_setPattern, Cond.selects "MarbleBoard$Cells" y_Cells_setPattern y_Cells_setPattern, Cond.code y_Cells_setInlet prog_2_method_19_code 3 none, Cond.methodLink "MarbleBoard" 121 y_Cells_setInlet, Cond.instanceMethod y_Cells_setInlet, Cond.selects "MarbleBoard$Cells" y_Cells_setInlet y_Cells_setInlet, Cond.code y_Cells_hasAnyInlet prog_2_method_21_code 2 (some .boolean), Cond.methodLink "MarbleBoard" 124 y_Cells_hasAnyInlet, Cond.instanceMethod y_Cells_hasAnyInlet, Cond.selects "MarbleBoard$Cells" y_Cells_hasAnyInlet y_Cells_hasAnyInlet, Cond.fieldLink "MarbleBoard" 28 "MarbleBoard" "survey" "LMarbleBoard$Survey;", Cond.code y_Survey_firstHole prog_9_method_2_code 3 (some .int), Cond.methodLink "MarbleBoard" 138 y_Survey_firstHole, Cond.instanceMethod y_Survey_firstHole, Cond.selects "MarbleBoard$Survey" y_Survey_firstHole y_Survey_firstHole, Cond.fieldLink "MarbleBoard" 39 "MarbleBoard" "counts" "[I", Cond.methodLink "MarbleBoard" 239 y_Arrays_fill, Cond.fieldLink "MarbleBoard" 55 "MarbleBoard" "past" "LMarbleBoard$Past;", Cond.code y_Past_clear prog_6_method_2_code 1 none, Cond.initialized "MarbleBoard$Past", Cond.methodLink "MarbleBoard" 245 y_Past_clear, Cond.instanceMethod y_Past_clear, Cond.selects "MarbleBoard$Past" y_Past_clear y_Past_clear, Cond.fieldLink "MarbleBoard" 35 "MarbleBoard" "state" "LMarbleBoard$State;", Cond.code y_State_gather prog_8_method_2_code 3 (some .boolean), Cond.methodLink "MarbleBoard" 236 y_State_gather, Cond.instanceMethod y_State_gather, Cond.selects "MarbleBoard$State" y_State_gather y_State_gather, Cond.code y_MarbleBoard_freezeIfSound prog_1_method_26_code 1 none, Cond.methodLink "MarbleBoard" 131 y_MarbleBoard_freezeIfSound, Cond.instanceMethod y_MarbleBoard_freezeIfSound, Cond.selects "MarbleBoard" y_MarbleBoard_freezeIfSound y_MarbleBoard_freezeIfSound, Cond.code y_Cells_characterAt prog_2_method_10_code 2 (some .char), Cond.methodLink "MarbleBoard" 141 y_Cells_characterAt, Cond.instanceMethod y_Cells_characterAt, Cond.selects "MarbleBoard$Cells" y_Cells_characterAt y_Cells_characterAt]
def jB9 : List Cond := [Cond.methodLink "MarbleBoard" 144 y_Cells_isMoving, Cond.methodLink "MarbleBoard" 148 y_Cells_valueAt, Cond.methodLink "MarbleBoard" 152 y_Cells_greatestValue, Cond.methodLink "MarbleBoard" 155 y_Cells_setValue, Cond.methodLink "MarbleBoard" 158 y_Crowd_size, Cond.methodLink "MarbleBoard" 161 y_Cells_hasInlet, Cond.methodLink "MarbleBoard" 164 y_State_packed, Cond.fieldLink "MarbleBoard" 21 "MarbleBoard" "track" "LMarbleBoard$Track;", Cond.methodLink "MarbleBoard" 167 y_Track_run, Cond.code y_Past_keep prog_6_method_4_code 3 none, Cond.methodLink "MarbleBoard" 174 y_Past_keep, Cond.instanceMethod y_Past_keep, Cond.selects "MarbleBoard$Past" y_Past_keep y_Past_keep, Cond.methodLink "MarbleBoard" 170 y_State_restore, Cond.code y_Past_isEmpty prog_6_method_3_code 1 (some .boolean), Cond.methodLink "MarbleBoard" 177 y_Past_isEmpty, Cond.instanceMethod y_Past_isEmpty, Cond.selects "MarbleBoard$Past" y_Past_isEmpty y_Past_isEmpty, Cond.code y_Past_stepBack prog_6_method_5_code 1 none, Cond.methodLink "MarbleBoard" 180 y_Past_stepBack, Cond.instanceMethod y_Past_stepBack, Cond.selects "MarbleBoard$Past" y_Past_stepBack y_Past_stepBack, Cond.code y_Past_stateThere prog_6_method_6_code 1 (some .int), Cond.methodLink "MarbleBoard" 183 y_Past_stateThere, Cond.instanceMethod y_Past_stateThere, Cond.selects "MarbleBoard$Past" y_Past_stateThere y_Past_stateThere, Cond.code y_Past_outletThere prog_6_method_7_code 1 (some .int), Cond.methodLink "MarbleBoard" 186 y_Past_outletThere, Cond.instanceMethod y_Past_outletThere, Cond.selects "MarbleBoard$Past" y_Past_outletThere y_Past_outletThere, Cond.methodLink "MarbleBoard" 189 y_Cells_below, Cond.methodLink "MarbleBoard" 192 y_Crowd_admit, Cond.methodLink "MarbleBoard" 195 y_Crowd_moveAll, Cond.methodLink "MarbleBoard" 201 y_Crowd_marble, Cond.methodLink "MarbleBoard" 204 y_Cells_placeOf, Cond.methodLink "MarbleBoard" 198 y_Crowd_held, Cond.fieldLink "MarbleBoard" 64 "MarbleBoard" "search" "LMarbleBoard$Search;", Cond.code y_Search_countStates prog_7_method_2_code 4 (some .int), Cond.methodLink "MarbleBoard" 207 y_Search_countStates, Cond.instanceMethod y_Search_countStates]
def jB10 : List Cond := [Cond.selects "MarbleBoard$Search" y_Search_countStates y_Search_countStates, Cond.code y_Search_wasSent prog_7_method_4_code 3 (some .boolean), Cond.methodLink "MarbleBoard" 210 y_Search_wasSent, Cond.instanceMethod y_Search_wasSent, Cond.selects "MarbleBoard$Search" y_Search_wasSent y_Search_wasSent, Cond.code y_Search_findJam prog_7_method_5_code 5 (some .int), Cond.methodLink "MarbleBoard" 213 y_Search_findJam, Cond.instanceMethod y_Search_findJam, Cond.selects "MarbleBoard$Search" y_Search_findJam y_Search_findJam, Cond.methodLink "MarbleBoard$Layout" 9 y_Cells_clear, Cond.methodLink "MarbleBoard$Layout" 15 y_Cells_setInlet, Cond.methodLink "MarbleBoard$Layout" 18 y_Cells_put, Cond.code y_Layout_layCounter prog_5_method_2_code 4 none, Cond.initialized "MarbleBoard$Layout", Cond.methodLink "MarbleBoard" 216 y_Layout_layCounter, Cond.static y_Layout_layCounter, Cond.fieldLink "MarbleBoard" 68 "MarbleBoard" "told" "[I", Cond.code y_Layout_reachOf prog_5_method_5_code 2 (some .int), Cond.methodLink "MarbleBoard$Layout" 22 y_Layout_reachOf, Cond.static y_Layout_reachOf, Cond.code y_Layout_latchRow prog_5_method_6_code 4 (some .int), Cond.methodLink "MarbleBoard$Layout" 28 y_Layout_latchRow, Cond.static y_Layout_latchRow, Cond.code y_Layout_layLatch prog_5_method_4_code 5 none, Cond.methodLink "MarbleBoard$Layout" 31 y_Layout_layLatch, Cond.static y_Layout_layLatch, Cond.code y_Layout_layTable prog_5_method_3_code 8 none, Cond.methodLink "MarbleBoard" 222 y_Layout_layTable, Cond.static y_Layout_layTable, Cond.methodLink "MarbleBoard$Layout" 35 y_Cells_width, Cond.methodLink "MarbleBoard$Layout" 42 y_Cells_kindAt, Cond.methodLink "MarbleBoard$Layout" 46 y_Cells_setValue, Cond.code y_Layout_leanInput prog_5_method_7_code 6 none, Cond.methodLink "MarbleBoard" 230 y_Layout_leanInput, Cond.static y_Layout_leanInput, Cond.code y_MarbleBoard_board prog_1_method_2_code 3 none, Cond.methodLink "MarbleBoardLaw" 7 y_MarbleBoard_board, Cond.instanceMethod y_MarbleBoard_board, Cond.selects "MarbleBoard" y_MarbleBoard_board y_MarbleBoard_board, Cond.classLink "MarbleBoardLaw" 13 "java/lang/IllegalArgumentException"]
def jB11 : List Cond := [Cond.code y_MarbleBoard_row prog_1_method_3_code 7 none, Cond.methodLink "MarbleBoardLaw" 15 y_MarbleBoard_row, Cond.instanceMethod y_MarbleBoard_row, Cond.selects "MarbleBoard" y_MarbleBoard_row y_MarbleBoard_row, Cond.code y_MarbleBoard_cell prog_1_method_4_code 4 none, Cond.methodLink "MarbleBoardLaw" 19 y_MarbleBoard_cell, Cond.instanceMethod y_MarbleBoard_cell, Cond.selects "MarbleBoard" y_MarbleBoard_cell y_MarbleBoard_cell, Cond.code y_MarbleBoard_pattern prog_1_method_5_code 5 none, Cond.methodLink "MarbleBoardLaw" 23 y_MarbleBoard_pattern, Cond.instanceMethod y_MarbleBoard_pattern, Cond.selects "MarbleBoard" y_MarbleBoard_pattern y_MarbleBoard_pattern, Cond.code y_MarbleBoard_inlet prog_1_method_6_code 3 none, Cond.methodLink "MarbleBoardLaw" 27 y_MarbleBoard_inlet, Cond.instanceMethod y_MarbleBoard_inlet, Cond.selects "MarbleBoard" y_MarbleBoard_inlet y_MarbleBoard_inlet, Cond.code y_MarbleBoard_freeze prog_1_method_7_code 1 (some .int), Cond.methodLink "MarbleBoardLaw" 30 y_MarbleBoard_freeze, Cond.instanceMethod y_MarbleBoard_freeze, Cond.selects "MarbleBoard" y_MarbleBoard_freeze y_MarbleBoard_freeze, Cond.classLink "MarbleBoardLaw" 34 "java/lang/IllegalStateException", Cond.code y_MarbleBoard_look prog_1_method_9_code 3 (some .char), Cond.methodLink "MarbleBoardLaw" 36 y_MarbleBoard_look, Cond.instanceMethod y_MarbleBoard_look, Cond.selects "MarbleBoard" y_MarbleBoard_look y_MarbleBoard_look, Cond.code y_MarbleBoard_value prog_1_method_10_code 3 (some .int), Cond.methodLink "MarbleBoardLaw" 40 y_MarbleBoard_value, Cond.instanceMethod y_MarbleBoard_value, Cond.selects "MarbleBoard" y_MarbleBoard_value y_MarbleBoard_value, Cond.code y_MarbleBoard_turn prog_1_method_11_code 5 (some .int), Cond.methodLink "MarbleBoardLaw" 44 y_MarbleBoard_turn, Cond.instanceMethod y_MarbleBoard_turn, Cond.selects "MarbleBoard" y_MarbleBoard_turn y_MarbleBoard_turn, Cond.code y_MarbleBoard_drop prog_1_method_12_code 4 (some .int), Cond.methodLink "MarbleBoardLaw" 48 y_MarbleBoard_drop, Cond.instanceMethod y_MarbleBoard_drop, Cond.selects "MarbleBoard" y_MarbleBoard_drop y_MarbleBoard_drop, Cond.code y_MarbleBoard_undo prog_1_method_13_code 1 (some .boolean), Cond.methodLink "MarbleBoardLaw" 52 y_MarbleBoard_undo, Cond.instanceMethod y_MarbleBoard_undo]
def jB12 : List Cond := [Cond.selects "MarbleBoard" y_MarbleBoard_undo y_MarbleBoard_undo, Cond.code y_MarbleBoard_count prog_1_method_14_code 2 (some .int), Cond.methodLink "MarbleBoardLaw" 56 y_MarbleBoard_count, Cond.instanceMethod y_MarbleBoard_count, Cond.selects "MarbleBoard" y_MarbleBoard_count y_MarbleBoard_count, Cond.code y_MarbleBoard_roll prog_1_method_15_code 2 (some .boolean), Cond.methodLink "MarbleBoardLaw" 59 y_MarbleBoard_roll, Cond.instanceMethod y_MarbleBoard_roll, Cond.selects "MarbleBoard" y_MarbleBoard_roll y_MarbleBoard_roll, Cond.code y_MarbleBoard_tick prog_1_method_16_code 4 (some .int), Cond.methodLink "MarbleBoardLaw" 63 y_MarbleBoard_tick, Cond.instanceMethod y_MarbleBoard_tick, Cond.selects "MarbleBoard" y_MarbleBoard_tick y_MarbleBoard_tick, Cond.code y_MarbleBoard_marbles prog_1_method_17_code 2 (some .int), Cond.methodLink "MarbleBoardLaw" 66 y_MarbleBoard_marbles, Cond.instanceMethod y_MarbleBoard_marbles, Cond.selects "MarbleBoard" y_MarbleBoard_marbles y_MarbleBoard_marbles, Cond.code y_MarbleBoard_explore prog_1_method_18_code 2 (some .int), Cond.methodLink "MarbleBoardLaw" 69 y_MarbleBoard_explore, Cond.instanceMethod y_MarbleBoard_explore, Cond.selects "MarbleBoard" y_MarbleBoard_explore y_MarbleBoard_explore, Cond.code y_MarbleBoard_canReach prog_1_method_19_code 3 (some .int), Cond.methodLink "MarbleBoardLaw" 72 y_MarbleBoard_canReach, Cond.instanceMethod y_MarbleBoard_canReach, Cond.selects "MarbleBoard" y_MarbleBoard_canReach y_MarbleBoard_canReach, Cond.code y_MarbleBoard_jam prog_1_method_20_code 2 (some .int), Cond.methodLink "MarbleBoardLaw" 75 y_MarbleBoard_jam, Cond.instanceMethod y_MarbleBoard_jam, Cond.selects "MarbleBoard" y_MarbleBoard_jam y_MarbleBoard_jam, Cond.code y_MarbleBoard_counter prog_1_method_21_code 2 none, Cond.methodLink "MarbleBoardLaw" 78 y_MarbleBoard_counter, Cond.instanceMethod y_MarbleBoard_counter, Cond.selects "MarbleBoard" y_MarbleBoard_counter y_MarbleBoard_counter, Cond.code y_MarbleBoard_tell prog_1_method_22_code 3 none, Cond.methodLink "MarbleBoardLaw" 82 y_MarbleBoard_tell, Cond.instanceMethod y_MarbleBoard_tell, Cond.selects "MarbleBoard" y_MarbleBoard_tell y_MarbleBoard_tell, Cond.code y_MarbleBoard_table prog_1_method_23_code 2 none, Cond.methodLink "MarbleBoardLaw" 85 y_MarbleBoard_table, Cond.instanceMethod y_MarbleBoard_table]
def jB13 : List Cond := [Cond.selects "MarbleBoard" y_MarbleBoard_table y_MarbleBoard_table, Cond.code y_MarbleBoard_input prog_1_method_24_code 3 none, Cond.methodLink "MarbleBoardLaw" 88 y_MarbleBoard_input, Cond.instanceMethod y_MarbleBoard_input, Cond.selects "MarbleBoard" y_MarbleBoard_input y_MarbleBoard_input, Cond.fieldLink "MarbleBoardModel" 65 "MarbleBoardModel" "code" "I", Cond.fieldLink "MarbleBoardModel" 7 "MarbleBoardModel" "w" "I", Cond.fieldLink "MarbleBoardModel" 13 "MarbleBoardModel" "h" "I", Cond.fieldLink "MarbleBoardModel" 16 "MarbleBoardModel" "kind" "[I", Cond.fieldLink "MarbleBoardModel" 20 "MarbleBoardModel" "value" "[I", Cond.fieldLink "MarbleBoardModel" 23 "MarbleBoardModel" "pattern" "[I", Cond.fieldLink "MarbleBoardModel" 26 "MarbleBoardModel" "length" "[I", Cond.fieldLink "MarbleBoardModel" 68 "MarbleBoardModel" "frozen" "Z", Cond.fieldLink "MarbleBoardModel" 72 "MarbleBoardModel" "many" "I", Cond.fieldLink "MarbleBoardModel" 75 "MarbleBoardModel" "held" "I", Cond.fieldLink "MarbleBoardModel" 78 "MarbleBoardModel" "inputs" "I", Cond.code y_MarbleBoardModel_build prog_12_method_7_code 1 none, Cond.initialized "MarbleBoardModel", Cond.methodLink "MarbleBoardModel" 81 y_MarbleBoardModel_build, Cond.instanceMethod y_MarbleBoardModel_build, Cond.selects "MarbleBoardModel" y_MarbleBoardModel_build y_MarbleBoardModel_build, Cond.fieldLink "MarbleBoardModel" 29 "MarbleBoardModel" "inlet" "[I", Cond.code y_MarbleBoardModel_put prog_12_method_6_code 3 none, Cond.methodLink "MarbleBoardModel" 84 y_MarbleBoardModel_put, Cond.instanceMethod y_MarbleBoardModel_put, Cond.selects "MarbleBoardModel" y_MarbleBoardModel_put y_MarbleBoardModel_put, Cond.code y_MarbleBoardModel_wipe prog_12_method_8_code 4 none, Cond.methodLink "MarbleBoardModel" 61 y_MarbleBoardModel_wipe, Cond.instanceMethod y_MarbleBoardModel_wipe, Cond.selects "MarbleBoardModel" y_MarbleBoardModel_wipe y_MarbleBoardModel_wipe, Cond.constantLong "MarbleBoardModel" 87 255, Cond.code y_MarbleBoardModel_isSign prog_12_method_4_code 2 (some .boolean), Cond.methodLink "MarbleBoardModel" 89 y_MarbleBoardModel_isSign, Cond.static y_MarbleBoardModel_isSign, Cond.code y_MarbleBoardModel_isCell prog_12_method_3_code 3 (some .boolean), Cond.methodLink "MarbleBoardModel" 93 y_MarbleBoardModel_isCell, Cond.instanceMethod y_MarbleBoardModel_isCell, Cond.selects "MarbleBoardModel" y_MarbleBoardModel_isCell y_MarbleBoardModel_isCell, Cond.code y_MarbleBoardModel_isLift prog_12_method_15_code 2 (some .boolean), Cond.methodLink "MarbleBoardModel" 101 y_MarbleBoardModel_isLift]
def jB14 : List Cond := [Cond.instanceMethod y_MarbleBoardModel_isLift, Cond.selects "MarbleBoardModel" y_MarbleBoardModel_isLift y_MarbleBoardModel_isLift, Cond.fieldLink "MarbleBoardModel" 51 "MarbleBoardModel" "reached" "[Z", Cond.code y_MarbleBoardModel_canGo prog_12_method_14_code 4 (some .boolean), Cond.methodLink "MarbleBoardModel" 97 y_MarbleBoardModel_canGo, Cond.instanceMethod y_MarbleBoardModel_canGo, Cond.selects "MarbleBoardModel" y_MarbleBoardModel_canGo y_MarbleBoardModel_canGo, Cond.code y_MarbleBoardModel_isHole prog_12_method_17_code 5 (some .boolean), Cond.methodLink "MarbleBoardModel" 107 y_MarbleBoardModel_isHole, Cond.instanceMethod y_MarbleBoardModel_isHole, Cond.selects "MarbleBoardModel" y_MarbleBoardModel_isHole y_MarbleBoardModel_isHole, Cond.code y_MarbleBoardModel_mark prog_12_method_16_code 7 (some .boolean), Cond.methodLink "MarbleBoardModel" 104 y_MarbleBoardModel_mark, Cond.instanceMethod y_MarbleBoardModel_mark, Cond.selects "MarbleBoardModel" y_MarbleBoardModel_mark y_MarbleBoardModel_mark, Cond.code y_MarbleBoardModel_firstHole prog_12_method_18_code 4 (some .int), Cond.methodLink "MarbleBoardModel" 110 y_MarbleBoardModel_firstHole, Cond.instanceMethod y_MarbleBoardModel_firstHole, Cond.selects "MarbleBoardModel" y_MarbleBoardModel_firstHole y_MarbleBoardModel_firstHole, Cond.fieldLink "MarbleBoardModel" 118 "MarbleBoardModel" "runs" "I", Cond.fieldLink "MarbleBoardModel" 121 "MarbleBoardModel" "back" "I", Cond.fieldLink "MarbleBoardModel" 32 "MarbleBoardModel" "counts" "[I", Cond.code y_MarbleBoardModel_bitsOf prog_12_method_20_code 1 (some .int), Cond.methodLink "MarbleBoardModel" 114 y_MarbleBoardModel_bitsOf, Cond.static y_MarbleBoardModel_bitsOf, Cond.code y_MarbleBoardModel_chill prog_12_method_21_code 3 (some .int), Cond.methodLink "MarbleBoardModel" 124 y_MarbleBoardModel_chill, Cond.instanceMethod y_MarbleBoardModel_chill, Cond.selects "MarbleBoardModel" y_MarbleBoardModel_chill y_MarbleBoardModel_chill, Cond.code y_MarbleBoardModel_isMoving prog_12_method_5_code 2 (some .boolean), Cond.methodLink "MarbleBoardModel" 127 y_MarbleBoardModel_isMoving, Cond.instanceMethod y_MarbleBoardModel_isMoving, Cond.selects "MarbleBoardModel" y_MarbleBoardModel_isMoving y_MarbleBoardModel_isMoving, Cond.fieldLink "MarbleBoardModel" 42 "MarbleBoardModel" "place" "[I", Cond.fieldLink "MarbleBoardModel" 45 "MarbleBoardModel" "came" "[I", Cond.code y_MarbleBoardModel_wayOf prog_12_method_28_code 5 (some .int), Cond.methodLink "MarbleBoardModel" 130 y_MarbleBoardModel_wayOf, Cond.instanceMethod y_MarbleBoardModel_wayOf, Cond.selects "MarbleBoardModel" y_MarbleBoardModel_wayOf y_MarbleBoardModel_wayOf, Cond.code y_MarbleBoardModel_change prog_12_method_29_code 3 none]
def jB15 : List Cond := [Cond.methodLink "MarbleBoardModel" 134 y_MarbleBoardModel_change, Cond.instanceMethod y_MarbleBoardModel_change, Cond.selects "MarbleBoardModel" y_MarbleBoardModel_change y_MarbleBoardModel_change, Cond.code y_MarbleBoardModel_stateNow prog_12_method_26_code 5 (some .long), Cond.methodLink "MarbleBoardModel" 137 y_MarbleBoardModel_stateNow, Cond.instanceMethod y_MarbleBoardModel_stateNow, Cond.selects "MarbleBoardModel" y_MarbleBoardModel_stateNow y_MarbleBoardModel_stateNow, Cond.code y_MarbleBoardModel_aim prog_12_method_30_code 4 (some .int), Cond.methodLink "MarbleBoardModel" 141 y_MarbleBoardModel_aim, Cond.instanceMethod y_MarbleBoardModel_aim, Cond.selects "MarbleBoardModel" y_MarbleBoardModel_aim y_MarbleBoardModel_aim, Cond.code y_MarbleBoardModel_setState prog_12_method_27_code 6 none, Cond.methodLink "MarbleBoardModel" 147 y_MarbleBoardModel_setState, Cond.instanceMethod y_MarbleBoardModel_setState, Cond.selects "MarbleBoardModel" y_MarbleBoardModel_setState y_MarbleBoardModel_setState, Cond.code y_MarbleBoardModel_go prog_12_method_31_code 5 none, Cond.methodLink "MarbleBoardModel" 144 y_MarbleBoardModel_go, Cond.instanceMethod y_MarbleBoardModel_go, Cond.selects "MarbleBoardModel" y_MarbleBoardModel_go y_MarbleBoardModel_go, Cond.code y_MarbleBoardModel_runFrom prog_12_method_32_code 6 (some .int), Cond.methodLink "MarbleBoardModel" 154 y_MarbleBoardModel_runFrom, Cond.instanceMethod y_MarbleBoardModel_runFrom, Cond.selects "MarbleBoardModel" y_MarbleBoardModel_runFrom y_MarbleBoardModel_runFrom, Cond.fieldLink "MarbleBoardModel" 35 "MarbleBoardModel" "was" "[J", Cond.fieldLink "MarbleBoardModel" 39 "MarbleBoardModel" "end" "[I", Cond.code y_MarbleBoardModel_isInlet prog_12_method_33_code 2 (some .boolean), Cond.methodLink "MarbleBoardModel" 151 y_MarbleBoardModel_isInlet, Cond.instanceMethod y_MarbleBoardModel_isInlet, Cond.selects "MarbleBoardModel" y_MarbleBoardModel_isInlet y_MarbleBoardModel_isInlet, Cond.code y_MarbleBoardModel_isTaken prog_12_method_37_code 5 (some .boolean), Cond.methodLink "MarbleBoardModel" 157 y_MarbleBoardModel_isTaken, Cond.instanceMethod y_MarbleBoardModel_isTaken, Cond.selects "MarbleBoardModel" y_MarbleBoardModel_isTaken y_MarbleBoardModel_isTaken, Cond.code y_MarbleBoardModel_come prog_12_method_38_code 2 none, Cond.methodLink "MarbleBoardModel" 160 y_MarbleBoardModel_come, Cond.instanceMethod y_MarbleBoardModel_come, Cond.selects "MarbleBoardModel" y_MarbleBoardModel_come y_MarbleBoardModel_come, Cond.code y_MarbleBoardModel_tickOnce prog_12_method_40_code 7 (some .int), Cond.methodLink "MarbleBoardModel" 164 y_MarbleBoardModel_tickOnce, Cond.instanceMethod y_MarbleBoardModel_tickOnce]
def jB16 : List Cond := [Cond.selects "MarbleBoardModel" y_MarbleBoardModel_tickOnce y_MarbleBoardModel_tickOnce, Cond.fieldLink "MarbleBoardModel" 168 "MarbleBoardModel" "found" "I", Cond.fieldLink "MarbleBoardModel" 55 "MarbleBoardModel" "states" "[J", Cond.fieldLink "MarbleBoardModel" 58 "MarbleBoardModel" "rests" "[J", Cond.fieldLink "MarbleBoardModel" 171 "MarbleBoardModel" "tooMany" "Z", Cond.code y_MarbleBoardModel_note prog_12_method_43_code 8 none, Cond.methodLink "MarbleBoardModel" 174 y_MarbleBoardModel_note, Cond.instanceMethod y_MarbleBoardModel_note, Cond.selects "MarbleBoardModel" y_MarbleBoardModel_note y_MarbleBoardModel_note, Cond.code y_MarbleBoardModel_searched prog_12_method_44_code 10 (some .boolean), Cond.methodLink "MarbleBoardModel" 178 y_MarbleBoardModel_searched, Cond.instanceMethod y_MarbleBoardModel_searched, Cond.selects "MarbleBoardModel" y_MarbleBoardModel_searched y_MarbleBoardModel_searched, Cond.constantLong "MarbleBoardModel" 181 4, Cond.constantLong "MarbleBoardModel" 183 1024, Cond.code y_MarbleBoardModel_restNow prog_12_method_47_code 5 (some .long), Cond.methodLink "MarbleBoardModel" 185 y_MarbleBoardModel_restNow, Cond.instanceMethod y_MarbleBoardModel_restNow, Cond.selects "MarbleBoardModel" y_MarbleBoardModel_restNow y_MarbleBoardModel_restNow, Cond.code y_MarbleBoardModel_setRest prog_12_method_48_code 7 (some .int), Cond.methodLink "MarbleBoardModel" 189 y_MarbleBoardModel_setRest, Cond.instanceMethod y_MarbleBoardModel_setRest, Cond.selects "MarbleBoardModel" y_MarbleBoardModel_setRest y_MarbleBoardModel_setRest, Cond.fieldLink "MarbleBoardModel" 48 "MarbleBoardModel" "told" "[I", Cond.code y_MarbleBoardModel_columnOf prog_12_method_53_code 6 (some .int), Cond.methodLink "MarbleBoardModel" 193 y_MarbleBoardModel_columnOf, Cond.static y_MarbleBoardModel_columnOf, Cond.code y_MarbleBoardModel_rowOf prog_12_method_52_code 4 (some .int), Cond.methodLink "MarbleBoardModel" 197 y_MarbleBoardModel_rowOf, Cond.static y_MarbleBoardModel_rowOf, Cond.codeWith y_MarbleBoardLaw_input method_24_code 4 (some .int) [(0, 6, 9, 34), (0, 6, 12, 13)], Cond.initialized "MarbleBoardLaw", Cond.methodLink "MarbleBoardLaw" 178 y_MarbleBoardLaw_input, Cond.static y_MarbleBoardLaw_input, Cond.code y_MarbleBoardModel_input prog_12_method_55_code 4 none, Cond.methodLink "MarbleBoardLaw" 180 y_MarbleBoardModel_input, Cond.instanceMethod y_MarbleBoardModel_input, Cond.selects "MarbleBoardModel" y_MarbleBoardModel_input y_MarbleBoardModel_input, Cond.code y_MarbleBoardModel_thrown prog_12_method_2_code 1 (some .int), Cond.methodLink "MarbleBoardLaw" 101 y_MarbleBoardModel_thrown]
def jB17 : List Cond := [Cond.instanceMethod y_MarbleBoardModel_thrown, Cond.selects "MarbleBoardModel" y_MarbleBoardModel_thrown y_MarbleBoardModel_thrown, Cond.codeWith y_MarbleBoardLaw_table method_23_code 3 (some .int) [(0, 5, 8, 13)], Cond.methodLink "MarbleBoardLaw" 175 y_MarbleBoardLaw_table, Cond.static y_MarbleBoardLaw_table, Cond.code y_MarbleBoardModel_table prog_12_method_54_code 8 none, Cond.methodLink "MarbleBoardLaw" 177 y_MarbleBoardModel_table, Cond.instanceMethod y_MarbleBoardModel_table, Cond.selects "MarbleBoardModel" y_MarbleBoardModel_table y_MarbleBoardModel_table, Cond.codeWith y_MarbleBoardLaw_tell method_22_code 4 (some .int) [(0, 6, 9, 13)], Cond.methodLink "MarbleBoardLaw" 172 y_MarbleBoardLaw_tell, Cond.static y_MarbleBoardLaw_tell, Cond.code y_MarbleBoardModel_tell prog_12_method_51_code 3 none, Cond.methodLink "MarbleBoardLaw" 174 y_MarbleBoardModel_tell, Cond.instanceMethod y_MarbleBoardModel_tell, Cond.selects "MarbleBoardModel" y_MarbleBoardModel_tell y_MarbleBoardModel_tell, Cond.codeWith y_MarbleBoardLaw_counter method_21_code 3 (some .int) [(0, 5, 8, 13)], Cond.methodLink "MarbleBoardLaw" 168 y_MarbleBoardLaw_counter, Cond.static y_MarbleBoardLaw_counter, Cond.code y_MarbleBoardModel_counter prog_12_method_50_code 6 none, Cond.methodLink "MarbleBoardLaw" 171 y_MarbleBoardModel_counter, Cond.instanceMethod y_MarbleBoardModel_counter, Cond.selects "MarbleBoardModel" y_MarbleBoardModel_counter y_MarbleBoardModel_counter, Cond.codeWith y_MarbleBoardLaw_jam method_20_code 4 (some .int) [(0, 9, 12, 34), (0, 9, 15, 13)], Cond.methodLink "MarbleBoardLaw" 165 y_MarbleBoardLaw_jam, Cond.static y_MarbleBoardLaw_jam, Cond.code y_MarbleBoardModel_jam prog_12_method_49_code 10 (some .int), Cond.methodLink "MarbleBoardLaw" 167 y_MarbleBoardModel_jam, Cond.instanceMethod y_MarbleBoardModel_jam, Cond.selects "MarbleBoardModel" y_MarbleBoardModel_jam y_MarbleBoardModel_jam, Cond.codeWith y_MarbleBoardLaw_canReach method_19_code 5 (some .int) [(0, 10, 13, 34), (0, 10, 17, 13)], Cond.methodLink "MarbleBoardLaw" 162 y_MarbleBoardLaw_canReach, Cond.static y_MarbleBoardLaw_canReach, Cond.code y_MarbleBoardModel_canReach prog_12_method_46_code 4 (some .int), Cond.methodLink "MarbleBoardLaw" 164 y_MarbleBoardModel_canReach, Cond.instanceMethod y_MarbleBoardModel_canReach, Cond.selects "MarbleBoardModel" y_MarbleBoardModel_canReach y_MarbleBoardModel_canReach, Cond.codeWith y_MarbleBoardLaw_explore method_18_code 4 (some .int) [(0, 9, 12, 34), (0, 9, 15, 13)], Cond.methodLink "MarbleBoardLaw" 159 y_MarbleBoardLaw_explore, Cond.static y_MarbleBoardLaw_explore]
def jB18 : List Cond := [Cond.code y_MarbleBoardModel_explore prog_12_method_45_code 3 (some .int), Cond.methodLink "MarbleBoardLaw" 161 y_MarbleBoardModel_explore, Cond.instanceMethod y_MarbleBoardModel_explore, Cond.selects "MarbleBoardModel" y_MarbleBoardModel_explore y_MarbleBoardModel_explore, Cond.codeWith y_MarbleBoardLaw_marbles method_17_code 4 (some .int) [(0, 9, 12, 13)], Cond.methodLink "MarbleBoardLaw" 156 y_MarbleBoardLaw_marbles, Cond.static y_MarbleBoardLaw_marbles, Cond.code y_MarbleBoardModel_marbles prog_12_method_42_code 2 (some .int), Cond.methodLink "MarbleBoardLaw" 158 y_MarbleBoardModel_marbles, Cond.instanceMethod y_MarbleBoardModel_marbles, Cond.selects "MarbleBoardModel" y_MarbleBoardModel_marbles y_MarbleBoardModel_marbles, Cond.codeWith y_MarbleBoardLaw_tick method_16_code 4 (some .int) [(0, 9, 12, 34), (0, 9, 15, 13)], Cond.methodLink "MarbleBoardLaw" 153 y_MarbleBoardLaw_tick, Cond.static y_MarbleBoardLaw_tick, Cond.code y_MarbleBoardModel_tick prog_12_method_41_code 4 (some .int), Cond.methodLink "MarbleBoardLaw" 155 y_MarbleBoardModel_tick, Cond.instanceMethod y_MarbleBoardModel_tick, Cond.selects "MarbleBoardModel" y_MarbleBoardModel_tick y_MarbleBoardModel_tick, Cond.codeWith y_MarbleBoardLaw_roll method_15_code 4 (some .int) [(0, 16, 19, 34), (0, 16, 22, 13)], Cond.methodLink "MarbleBoardLaw" 150 y_MarbleBoardLaw_roll, Cond.static y_MarbleBoardLaw_roll, Cond.code y_MarbleBoardModel_roll prog_12_method_39_code 2 (some .boolean), Cond.methodLink "MarbleBoardLaw" 152 y_MarbleBoardModel_roll, Cond.instanceMethod y_MarbleBoardModel_roll, Cond.selects "MarbleBoardModel" y_MarbleBoardModel_roll y_MarbleBoardModel_roll, Cond.codeWith y_MarbleBoardLaw_count method_14_code 4 (some .int) [(0, 9, 12, 13)], Cond.methodLink "MarbleBoardLaw" 147 y_MarbleBoardLaw_count, Cond.static y_MarbleBoardLaw_count, Cond.code y_MarbleBoardModel_count prog_12_method_36_code 2 (some .int), Cond.methodLink "MarbleBoardLaw" 149 y_MarbleBoardModel_count, Cond.instanceMethod y_MarbleBoardModel_count, Cond.selects "MarbleBoardModel" y_MarbleBoardModel_count y_MarbleBoardModel_count, Cond.codeWith y_MarbleBoardLaw_undo method_13_code 3 (some .int) [(0, 15, 18, 34)], Cond.methodLink "MarbleBoardLaw" 144 y_MarbleBoardLaw_undo, Cond.static y_MarbleBoardLaw_undo, Cond.code y_MarbleBoardModel_undo prog_12_method_35_code 1 (some .boolean), Cond.methodLink "MarbleBoardLaw" 146 y_MarbleBoardModel_undo, Cond.instanceMethod y_MarbleBoardModel_undo, Cond.selects "MarbleBoardModel" y_MarbleBoardModel_undo y_MarbleBoardModel_undo, Cond.codeWith y_MarbleBoardLaw_drop method_12_code 4 (some .int) [(0, 9, 12, 34), (0, 9, 15, 13)]]
def jB19 : List Cond := [Cond.methodLink "MarbleBoardLaw" 140 y_MarbleBoardLaw_drop, Cond.static y_MarbleBoardLaw_drop, Cond.code y_MarbleBoardModel_drop prog_12_method_34_code 5 (some .int), Cond.methodLink "MarbleBoardLaw" 143 y_MarbleBoardModel_drop, Cond.instanceMethod y_MarbleBoardModel_drop, Cond.selects "MarbleBoardModel" y_MarbleBoardModel_drop y_MarbleBoardModel_drop, Cond.codeWith y_MarbleBoardLaw_turn method_11_code 6 (some .int) [(0, 12, 15, 13)], Cond.methodLink "MarbleBoardLaw" 136 y_MarbleBoardLaw_turn, Cond.static y_MarbleBoardLaw_turn, Cond.code y_MarbleBoardModel_turn prog_12_method_25_code 7 (some .int), Cond.methodLink "MarbleBoardLaw" 139 y_MarbleBoardModel_turn, Cond.instanceMethod y_MarbleBoardModel_turn, Cond.selects "MarbleBoardModel" y_MarbleBoardModel_turn y_MarbleBoardModel_turn, Cond.codeWith y_MarbleBoardLaw_value method_10_code 5 (some .int) [(0, 10, 13, 13)], Cond.methodLink "MarbleBoardLaw" 133 y_MarbleBoardLaw_value, Cond.static y_MarbleBoardLaw_value, Cond.code y_MarbleBoardModel_value prog_12_method_24_code 3 (some .int), Cond.methodLink "MarbleBoardLaw" 135 y_MarbleBoardModel_value, Cond.instanceMethod y_MarbleBoardModel_value, Cond.selects "MarbleBoardModel" y_MarbleBoardModel_value y_MarbleBoardModel_value, Cond.codeWith y_MarbleBoardLaw_look method_9_code 5 (some .int) [(0, 10, 13, 13)], Cond.methodLink "MarbleBoardLaw" 129 y_MarbleBoardLaw_look, Cond.static y_MarbleBoardLaw_look, Cond.code y_MarbleBoardModel_look prog_12_method_23_code 6 (some .char), Cond.methodLink "MarbleBoardLaw" 132 y_MarbleBoardModel_look, Cond.instanceMethod y_MarbleBoardModel_look, Cond.selects "MarbleBoardModel" y_MarbleBoardModel_look y_MarbleBoardModel_look, Cond.code y_MarbleBoard_hole prog_1_method_8_code 1 (some .int), Cond.methodLink "MarbleBoardLaw" 125 y_MarbleBoard_hole, Cond.instanceMethod y_MarbleBoard_hole, Cond.selects "MarbleBoard" y_MarbleBoard_hole y_MarbleBoard_hole, Cond.code y_MarbleBoardModel_hole prog_12_method_19_code 1 (some .int), Cond.methodLink "MarbleBoardLaw" 128 y_MarbleBoardModel_hole, Cond.instanceMethod y_MarbleBoardModel_hole, Cond.selects "MarbleBoardModel" y_MarbleBoardModel_hole y_MarbleBoardModel_hole, Cond.codeWith y_MarbleBoardLaw_freeze method_8_code 3 (some .int) [(0, 8, 11, 34)], Cond.methodLink "MarbleBoardLaw" 121 y_MarbleBoardLaw_freeze, Cond.static y_MarbleBoardLaw_freeze, Cond.code y_MarbleBoardModel_freeze prog_12_method_22_code 3 (some .int), Cond.methodLink "MarbleBoardLaw" 124 y_MarbleBoardModel_freeze]
def jB20 : List Cond := [Cond.instanceMethod y_MarbleBoardModel_freeze, Cond.selects "MarbleBoardModel" y_MarbleBoardModel_freeze y_MarbleBoardModel_freeze, Cond.codeWith y_MarbleBoardLaw_inlet method_7_code 4 (some .int) [(0, 6, 9, 13)], Cond.methodLink "MarbleBoardLaw" 118 y_MarbleBoardLaw_inlet, Cond.static y_MarbleBoardLaw_inlet, Cond.code y_MarbleBoardModel_inlet prog_12_method_13_code 3 none, Cond.methodLink "MarbleBoardLaw" 120 y_MarbleBoardModel_inlet, Cond.instanceMethod y_MarbleBoardModel_inlet, Cond.selects "MarbleBoardModel" y_MarbleBoardModel_inlet y_MarbleBoardModel_inlet, Cond.codeWith y_MarbleBoardLaw_pattern method_6_code 6 (some .int) [(0, 9, 12, 13)], Cond.methodLink "MarbleBoardLaw" 114 y_MarbleBoardLaw_pattern, Cond.static y_MarbleBoardLaw_pattern, Cond.code y_MarbleBoardModel_pattern prog_12_method_12_code 6 none, Cond.methodLink "MarbleBoardLaw" 117 y_MarbleBoardModel_pattern, Cond.instanceMethod y_MarbleBoardModel_pattern, Cond.selects "MarbleBoardModel" y_MarbleBoardModel_pattern y_MarbleBoardModel_pattern, Cond.codeWith y_MarbleBoardLaw_cell method_5_code 5 (some .int) [(0, 7, 10, 13)], Cond.methodLink "MarbleBoardLaw" 110 y_MarbleBoardLaw_cell, Cond.static y_MarbleBoardLaw_cell, Cond.code y_MarbleBoardModel_cell prog_12_method_11_code 4 none, Cond.methodLink "MarbleBoardLaw" 113 y_MarbleBoardModel_cell, Cond.instanceMethod y_MarbleBoardModel_cell, Cond.selects "MarbleBoardModel" y_MarbleBoardModel_cell y_MarbleBoardModel_cell, Cond.constantLong "MarbleBoardLaw" 104 4294967295, Cond.codeWith y_MarbleBoardLaw_row method_4_code 7 (some .int) [(0, 8, 11, 13)], Cond.methodLink "MarbleBoardLaw" 106 y_MarbleBoardLaw_row, Cond.static y_MarbleBoardLaw_row, Cond.code y_MarbleBoardModel_row prog_12_method_10_code 8 none, Cond.methodLink "MarbleBoardLaw" 109 y_MarbleBoardModel_row, Cond.instanceMethod y_MarbleBoardModel_row, Cond.selects "MarbleBoardModel" y_MarbleBoardModel_row y_MarbleBoardModel_row, Cond.codeWith y_MarbleBoardLaw_board method_3_code 4 (some .int) [(0, 6, 9, 13)], Cond.methodLink "MarbleBoardLaw" 95 y_MarbleBoardLaw_board, Cond.static y_MarbleBoardLaw_board, Cond.code y_MarbleBoardModel_board prog_12_method_9_code 3 none, Cond.methodLink "MarbleBoardLaw" 100 y_MarbleBoardModel_board, Cond.instanceMethod y_MarbleBoardModel_board, Cond.selects "MarbleBoardModel" y_MarbleBoardModel_board y_MarbleBoardModel_board, Cond.methodLink "MarbleBoard$Cells" 3 Lib.objectInit, Cond.instanceMethod Lib.objectInit]
def jB21 : List Cond := [Cond.code Lib.objectInit ⟨#[0xb1]⟩ 1 none, Cond.arrayClass .char, Cond.arrayClass .int, Cond.methodLink "MarbleBoard$Cells" 28 y_Cells_clear, Cond.methodLink "MarbleBoard$Track" 3 Lib.objectInit, Cond.methodLink "MarbleBoard$Survey" 3 Lib.objectInit, Cond.methodLink "MarbleBoard$State" 3 Lib.objectInit, Cond.methodLink "MarbleBoard$Crowd" 3 Lib.objectInit, Cond.methodLink "MarbleBoard$Past" 1 Lib.objectInit, Cond.methodLink "MarbleBoard$Found" 3 Lib.objectInit, Cond.arrayClass .long, Cond.methodLink "MarbleBoard$Search" 5 Lib.objectInit, Cond.classLink "MarbleBoard$Search" 11 "MarbleBoard$Found", Cond.instantiable "MarbleBoard$Found" 3, Cond.code y_Found_init prog_4_method_1_code 1 none, Cond.instanceMethod y_Found_init, Cond.classLink "MarbleBoard$Search" 34 "MarbleBoard$Crowd", Cond.instantiable "MarbleBoard$Crowd" 5, Cond.code y_Crowd_init prog_3_method_1_code 3 none, Cond.methodLink "MarbleBoard$Search" 36 y_Crowd_init, Cond.instanceMethod y_Crowd_init, Cond.methodLink "MarbleBoard" 1 Lib.objectInit, Cond.classLink "MarbleBoard" 7 "MarbleBoard$Cells", Cond.instantiable "MarbleBoard$Cells" 7, Cond.code y_Cells_init prog_2_method_1_code 1 none, Cond.methodLink "MarbleBoard" 9 y_Cells_init, Cond.instanceMethod y_Cells_init, Cond.classLink "MarbleBoard" 16 "MarbleBoard$Track", Cond.instantiable "MarbleBoard$Track" 1, Cond.code y_Track_init prog_10_method_1_code 2 none, Cond.methodLink "MarbleBoard" 18 y_Track_init, Cond.instanceMethod y_Track_init, Cond.classLink "MarbleBoard" 25 "MarbleBoard$Survey", Cond.instantiable "MarbleBoard$Survey" 2, Cond.code y_Survey_init prog_9_method_1_code 2 none, Cond.methodLink "MarbleBoard" 27 y_Survey_init, Cond.instanceMethod y_Survey_init, Cond.classLink "MarbleBoard" 32 "MarbleBoard$State", Cond.instantiable "MarbleBoard$State" 3, Cond.code y_State_init prog_8_method_1_code 2 none]
def jB22 : List Cond := [Cond.methodLink "MarbleBoard" 34 y_State_init, Cond.instanceMethod y_State_init, Cond.classLink "MarbleBoard" 43 "MarbleBoard$Crowd", Cond.methodLink "MarbleBoard" 45 y_Crowd_init, Cond.classLink "MarbleBoard" 52 "MarbleBoard$Past", Cond.instantiable "MarbleBoard$Past" 4, Cond.code y_Past_init prog_6_method_1_code 1 none, Cond.instanceMethod y_Past_init, Cond.classLink "MarbleBoard" 59 "MarbleBoard$Search", Cond.instantiable "MarbleBoard$Search" 6, Cond.code y_Search_init prog_7_method_1_code 4 none, Cond.methodLink "MarbleBoard" 61 y_Search_init, Cond.instanceMethod y_Search_init, Cond.methodLink "MarbleBoardModel" 1 Lib.objectInit, Cond.arrayClass .boolean, Cond.classLink "MarbleBoardLaw" 8 "MarbleBoard", Cond.instantiable "MarbleBoard" 11, Cond.methodLink "MarbleBoardLaw" 91 y_MarbleBoard_init, Cond.code y_MarbleBoard_init prog_1_method_1_code 1 none, Cond.instanceMethod y_MarbleBoard_init, Cond.classLink "MarbleBoardLaw" 92 "MarbleBoardModel", Cond.instantiable "MarbleBoardModel" 25, Cond.methodLink "MarbleBoardLaw" 94 y_MarbleBoardModel_init, Cond.code y_MarbleBoardModel_init prog_12_method_1_code 1 none, Cond.instanceMethod y_MarbleBoardModel_init, Cond.classLink "MarbleBoard" 75 (jEx 1), Cond.initialized (jEx 1), Cond.classLink "MarbleBoard" 128 (jEx 2), Cond.initialized (jEx 2)]
def jTA : List Cond := Bundle.ownAtoms0 "MarbleBoard" 77 (jEx 1) jNm ++ Bundle.ownAtoms0 "MarbleBoard" 130 (jEx 2) jNm
def jBT : List Cond := jTA.filter goodWord
def jNT : List Cond := jTA.filter (fun w => !goodWord w && !jHw w)
theorem jNT_on : jNT.all (fun w => w.onTables) = true := by decide +kernel
def jB : List Cond := (jB0 ++ (jB1 ++ (jB2 ++ (jB3 ++ (jB4 ++ (jB5 ++ (jB6 ++ (jB7 ++ (jB8 ++ (jB9 ++ (jB10 ++ (jB11 ++ (jB12 ++ (jB13 ++ (jB14 ++ (jB15 ++ (jB16 ++ (jB17 ++ (jB18 ++ (jB19 ++ (jB20 ++ (jB21 ++ (jB22 ++ (jBT ++ ((u_ws "MarbleBoard" jT0 11) ++ ((u_ws "MarbleBoard$Cells" jT1 7) ++ ((u_ws "MarbleBoard$Track" jT2 1) ++ ((u_ws "MarbleBoard$Survey" jT3 2) ++ ((u_ws "MarbleBoard$State" jT4 3) ++ ((u_ws "MarbleBoard$Crowd" jT5 5) ++ ((u_ws "MarbleBoard$Past" jT6 4) ++ ((u_ws "MarbleBoard$Search" jT7 6) ++ ((u_ws "MarbleBoard$Found" jT8 3) ++ (u_ws "MarbleBoardModel" jT9 25))))))))))))))))))))))))))))))))))
theorem jBc0 {w : Cond} (h : w ∈ jB0) : w ∈ jB := (List.mem_append_left _ h)
theorem jBc1 {w : Cond} (h : w ∈ jB1) : w ∈ jB := (List.mem_append_right _ (List.mem_append_left _ h))
theorem jBc2 {w : Cond} (h : w ∈ jB2) : w ∈ jB := (List.mem_append_right _ (List.mem_append_right _ (List.mem_append_left _ h)))
theorem jBc3 {w : Cond} (h : w ∈ jB3) : w ∈ jB := (List.mem_append_right _ (List.mem_append_right _ (List.mem_append_right _ (List.mem_append_left _ h))))
theorem jBc4 {w : Cond} (h : w ∈ jB4) : w ∈ jB := (List.mem_append_right _ (List.mem_append_right _ (List.mem_append_right _ (List.mem_append_right _ (List.mem_append_left _ h)))))
theorem jBc5 {w : Cond} (h : w ∈ jB5) : w ∈ jB := (List.mem_append_right _ (List.mem_append_right _ (List.mem_append_right _ (List.mem_append_right _ (List.mem_append_right _ (List.mem_append_left _ h))))))
theorem jBc6 {w : Cond} (h : w ∈ jB6) : w ∈ jB := (List.mem_append_right _ (List.mem_append_right _ (List.mem_append_right _ (List.mem_append_right _ (List.mem_append_right _ (List.mem_append_right _ (List.mem_append_left _ h)))))))
theorem jBc7 {w : Cond} (h : w ∈ jB7) : w ∈ jB := (List.mem_append_right _ (List.mem_append_right _ (List.mem_append_right _ (List.mem_append_right _ (List.mem_append_right _ (List.mem_append_right _ (List.mem_append_right _ (List.mem_append_left _ h))))))))
theorem jBc8 {w : Cond} (h : w ∈ jB8) : w ∈ jB := (List.mem_append_right _ (List.mem_append_right _ (List.mem_append_right _ (List.mem_append_right _ (List.mem_append_right _ (List.mem_append_right _ (List.mem_append_right _ (List.mem_append_right _ (List.mem_append_left _ h)))))))))
theorem jBc9 {w : Cond} (h : w ∈ jB9) : w ∈ jB := (List.mem_append_right _ (List.mem_append_right _ (List.mem_append_right _ (List.mem_append_right _ (List.mem_append_right _ (List.mem_append_right _ (List.mem_append_right _ (List.mem_append_right _ (List.mem_append_right _ (List.mem_append_left _ h))))))))))
theorem jBc10 {w : Cond} (h : w ∈ jB10) : w ∈ jB := (List.mem_append_right _ (List.mem_append_right _ (List.mem_append_right _ (List.mem_append_right _ (List.mem_append_right _ (List.mem_append_right _ (List.mem_append_right _ (List.mem_append_right _ (List.mem_append_right _ (List.mem_append_right _ (List.mem_append_left _ h)))))))))))
theorem jBc11 {w : Cond} (h : w ∈ jB11) : w ∈ jB := (List.mem_append_right _ (List.mem_append_right _ (List.mem_append_right _ (List.mem_append_right _ (List.mem_append_right _ (List.mem_append_right _ (List.mem_append_right _ (List.mem_append_right _ (List.mem_append_right _ (List.mem_append_right _ (List.mem_append_right _ (List.mem_append_left _ h))))))))))))
theorem jBc12 {w : Cond} (h : w ∈ jB12) : w ∈ jB := (List.mem_append_right _ (List.mem_append_right _ (List.mem_append_right _ (List.mem_append_right _ (List.mem_append_right _ (List.mem_append_right _ (List.mem_append_right _ (List.mem_append_right _ (List.mem_append_right _ (List.mem_append_right _ (List.mem_append_right _ (List.mem_append_right _ (List.mem_append_left _ h)))))))))))))
theorem jBc13 {w : Cond} (h : w ∈ jB13) : w ∈ jB := (List.mem_append_right _ (List.mem_append_right _ (List.mem_append_right _ (List.mem_append_right _ (List.mem_append_right _ (List.mem_append_right _ (List.mem_append_right _ (List.mem_append_right _ (List.mem_append_right _ (List.mem_append_right _ (List.mem_append_right _ (List.mem_append_right _ (List.mem_append_right _ (List.mem_append_left _ h))))))))))))))
theorem jBc14 {w : Cond} (h : w ∈ jB14) : w ∈ jB := (List.mem_append_right _ (List.mem_append_right _ (List.mem_append_right _ (List.mem_append_right _ (List.mem_append_right _ (List.mem_append_right _ (List.mem_append_right _ (List.mem_append_right _ (List.mem_append_right _ (List.mem_append_right _ (List.mem_append_right _ (List.mem_append_right _ (List.mem_append_right _ (List.mem_append_right _ (List.mem_append_left _ h)))))))))))))))
theorem jBc15 {w : Cond} (h : w ∈ jB15) : w ∈ jB := (List.mem_append_right _ (List.mem_append_right _ (List.mem_append_right _ (List.mem_append_right _ (List.mem_append_right _ (List.mem_append_right _ (List.mem_append_right _ (List.mem_append_right _ (List.mem_append_right _ (List.mem_append_right _ (List.mem_append_right _ (List.mem_append_right _ (List.mem_append_right _ (List.mem_append_right _ (List.mem_append_right _ (List.mem_append_left _ h))))))))))))))))
theorem jBc16 {w : Cond} (h : w ∈ jB16) : w ∈ jB := (List.mem_append_right _ (List.mem_append_right _ (List.mem_append_right _ (List.mem_append_right _ (List.mem_append_right _ (List.mem_append_right _ (List.mem_append_right _ (List.mem_append_right _ (List.mem_append_right _ (List.mem_append_right _ (List.mem_append_right _ (List.mem_append_right _ (List.mem_append_right _ (List.mem_append_right _ (List.mem_append_right _ (List.mem_append_right _ (List.mem_append_left _ h)))))))))))))))))
theorem jBc17 {w : Cond} (h : w ∈ jB17) : w ∈ jB := (List.mem_append_right _ (List.mem_append_right _ (List.mem_append_right _ (List.mem_append_right _ (List.mem_append_right _ (List.mem_append_right _ (List.mem_append_right _ (List.mem_append_right _ (List.mem_append_right _ (List.mem_append_right _ (List.mem_append_right _ (List.mem_append_right _ (List.mem_append_right _ (List.mem_append_right _ (List.mem_append_right _ (List.mem_append_right _ (List.mem_append_right _ (List.mem_append_left _ h))))))))))))))))))
theorem jBc18 {w : Cond} (h : w ∈ jB18) : w ∈ jB := (List.mem_append_right _ (List.mem_append_right _ (List.mem_append_right _ (List.mem_append_right _ (List.mem_append_right _ (List.mem_append_right _ (List.mem_append_right _ (List.mem_append_right _ (List.mem_append_right _ (List.mem_append_right _ (List.mem_append_right _ (List.mem_append_right _ (List.mem_append_right _ (List.mem_append_right _ (List.mem_append_right _ (List.mem_append_right _ (List.mem_append_right _ (List.mem_append_right _ (List.mem_append_left _ h)))))))))))))))))))
theorem jBc19 {w : Cond} (h : w ∈ jB19) : w ∈ jB := (List.mem_append_right _ (List.mem_append_right _ (List.mem_append_right _ (List.mem_append_right _ (List.mem_append_right _ (List.mem_append_right _ (List.mem_append_right _ (List.mem_append_right _ (List.mem_append_right _ (List.mem_append_right _ (List.mem_append_right _ (List.mem_append_right _ (List.mem_append_right _ (List.mem_append_right _ (List.mem_append_right _ (List.mem_append_right _ (List.mem_append_right _ (List.mem_append_right _ (List.mem_append_right _ (List.mem_append_left _ h))))))))))))))))))))
theorem jBc20 {w : Cond} (h : w ∈ jB20) : w ∈ jB := (List.mem_append_right _ (List.mem_append_right _ (List.mem_append_right _ (List.mem_append_right _ (List.mem_append_right _ (List.mem_append_right _ (List.mem_append_right _ (List.mem_append_right _ (List.mem_append_right _ (List.mem_append_right _ (List.mem_append_right _ (List.mem_append_right _ (List.mem_append_right _ (List.mem_append_right _ (List.mem_append_right _ (List.mem_append_right _ (List.mem_append_right _ (List.mem_append_right _ (List.mem_append_right _ (List.mem_append_right _ (List.mem_append_left _ h)))))))))))))))))))))
theorem jBc21 {w : Cond} (h : w ∈ jB21) : w ∈ jB := (List.mem_append_right _ (List.mem_append_right _ (List.mem_append_right _ (List.mem_append_right _ (List.mem_append_right _ (List.mem_append_right _ (List.mem_append_right _ (List.mem_append_right _ (List.mem_append_right _ (List.mem_append_right _ (List.mem_append_right _ (List.mem_append_right _ (List.mem_append_right _ (List.mem_append_right _ (List.mem_append_right _ (List.mem_append_right _ (List.mem_append_right _ (List.mem_append_right _ (List.mem_append_right _ (List.mem_append_right _ (List.mem_append_right _ (List.mem_append_left _ h))))))))))))))))))))))
theorem jBc22 {w : Cond} (h : w ∈ jB22) : w ∈ jB := (List.mem_append_right _ (List.mem_append_right _ (List.mem_append_right _ (List.mem_append_right _ (List.mem_append_right _ (List.mem_append_right _ (List.mem_append_right _ (List.mem_append_right _ (List.mem_append_right _ (List.mem_append_right _ (List.mem_append_right _ (List.mem_append_right _ (List.mem_append_right _ (List.mem_append_right _ (List.mem_append_right _ (List.mem_append_right _ (List.mem_append_right _ (List.mem_append_right _ (List.mem_append_right _ (List.mem_append_right _ (List.mem_append_right _ (List.mem_append_right _ (List.mem_append_left _ h)))))))))))))))))))))))
theorem jin0 : ∀ z ∈ u_ws "MarbleBoard" jT0 11, z ∈ jB := fun z h => (List.mem_append_right _ (List.mem_append_right _ (List.mem_append_right _ (List.mem_append_right _ (List.mem_append_right _ (List.mem_append_right _ (List.mem_append_right _ (List.mem_append_right _ (List.mem_append_right _ (List.mem_append_right _ (List.mem_append_right _ (List.mem_append_right _ (List.mem_append_right _ (List.mem_append_right _ (List.mem_append_right _ (List.mem_append_right _ (List.mem_append_right _ (List.mem_append_right _ (List.mem_append_right _ (List.mem_append_right _ (List.mem_append_right _ (List.mem_append_right _ (List.mem_append_right _ (List.mem_append_right _ (List.mem_append_left _ h)))))))))))))))))))))))))
theorem jin1 : ∀ z ∈ u_ws "MarbleBoard$Cells" jT1 7, z ∈ jB := fun z h => (List.mem_append_right _ (List.mem_append_right _ (List.mem_append_right _ (List.mem_append_right _ (List.mem_append_right _ (List.mem_append_right _ (List.mem_append_right _ (List.mem_append_right _ (List.mem_append_right _ (List.mem_append_right _ (List.mem_append_right _ (List.mem_append_right _ (List.mem_append_right _ (List.mem_append_right _ (List.mem_append_right _ (List.mem_append_right _ (List.mem_append_right _ (List.mem_append_right _ (List.mem_append_right _ (List.mem_append_right _ (List.mem_append_right _ (List.mem_append_right _ (List.mem_append_right _ (List.mem_append_right _ (List.mem_append_right _ (List.mem_append_left _ h))))))))))))))))))))))))))
theorem jin2 : ∀ z ∈ u_ws "MarbleBoard$Track" jT2 1, z ∈ jB := fun z h => (List.mem_append_right _ (List.mem_append_right _ (List.mem_append_right _ (List.mem_append_right _ (List.mem_append_right _ (List.mem_append_right _ (List.mem_append_right _ (List.mem_append_right _ (List.mem_append_right _ (List.mem_append_right _ (List.mem_append_right _ (List.mem_append_right _ (List.mem_append_right _ (List.mem_append_right _ (List.mem_append_right _ (List.mem_append_right _ (List.mem_append_right _ (List.mem_append_right _ (List.mem_append_right _ (List.mem_append_right _ (List.mem_append_right _ (List.mem_append_right _ (List.mem_append_right _ (List.mem_append_right _ (List.mem_append_right _ (List.mem_append_right _ (List.mem_append_left _ h)))))))))))))))))))))))))))
theorem jin3 : ∀ z ∈ u_ws "MarbleBoard$Survey" jT3 2, z ∈ jB := fun z h => (List.mem_append_right _ (List.mem_append_right _ (List.mem_append_right _ (List.mem_append_right _ (List.mem_append_right _ (List.mem_append_right _ (List.mem_append_right _ (List.mem_append_right _ (List.mem_append_right _ (List.mem_append_right _ (List.mem_append_right _ (List.mem_append_right _ (List.mem_append_right _ (List.mem_append_right _ (List.mem_append_right _ (List.mem_append_right _ (List.mem_append_right _ (List.mem_append_right _ (List.mem_append_right _ (List.mem_append_right _ (List.mem_append_right _ (List.mem_append_right _ (List.mem_append_right _ (List.mem_append_right _ (List.mem_append_right _ (List.mem_append_right _ (List.mem_append_right _ (List.mem_append_left _ h))))))))))))))))))))))))))))
theorem jin4 : ∀ z ∈ u_ws "MarbleBoard$State" jT4 3, z ∈ jB := fun z h => (List.mem_append_right _ (List.mem_append_right _ (List.mem_append_right _ (List.mem_append_right _ (List.mem_append_right _ (List.mem_append_right _ (List.mem_append_right _ (List.mem_append_right _ (List.mem_append_right _ (List.mem_append_right _ (List.mem_append_right _ (List.mem_append_right _ (List.mem_append_right _ (List.mem_append_right _ (List.mem_append_right _ (List.mem_append_right _ (List.mem_append_right _ (List.mem_append_right _ (List.mem_append_right _ (List.mem_append_right _ (List.mem_append_right _ (List.mem_append_right _ (List.mem_append_right _ (List.mem_append_right _ (List.mem_append_right _ (List.mem_append_right _ (List.mem_append_right _ (List.mem_append_right _ (List.mem_append_left _ h)))))))))))))))))))))))))))))
theorem jin5 : ∀ z ∈ u_ws "MarbleBoard$Crowd" jT5 5, z ∈ jB := fun z h => (List.mem_append_right _ (List.mem_append_right _ (List.mem_append_right _ (List.mem_append_right _ (List.mem_append_right _ (List.mem_append_right _ (List.mem_append_right _ (List.mem_append_right _ (List.mem_append_right _ (List.mem_append_right _ (List.mem_append_right _ (List.mem_append_right _ (List.mem_append_right _ (List.mem_append_right _ (List.mem_append_right _ (List.mem_append_right _ (List.mem_append_right _ (List.mem_append_right _ (List.mem_append_right _ (List.mem_append_right _ (List.mem_append_right _ (List.mem_append_right _ (List.mem_append_right _ (List.mem_append_right _ (List.mem_append_right _ (List.mem_append_right _ (List.mem_append_right _ (List.mem_append_right _ (List.mem_append_right _ (List.mem_append_left _ h))))))))))))))))))))))))))))))
theorem jin6 : ∀ z ∈ u_ws "MarbleBoard$Past" jT6 4, z ∈ jB := fun z h => (List.mem_append_right _ (List.mem_append_right _ (List.mem_append_right _ (List.mem_append_right _ (List.mem_append_right _ (List.mem_append_right _ (List.mem_append_right _ (List.mem_append_right _ (List.mem_append_right _ (List.mem_append_right _ (List.mem_append_right _ (List.mem_append_right _ (List.mem_append_right _ (List.mem_append_right _ (List.mem_append_right _ (List.mem_append_right _ (List.mem_append_right _ (List.mem_append_right _ (List.mem_append_right _ (List.mem_append_right _ (List.mem_append_right _ (List.mem_append_right _ (List.mem_append_right _ (List.mem_append_right _ (List.mem_append_right _ (List.mem_append_right _ (List.mem_append_right _ (List.mem_append_right _ (List.mem_append_right _ (List.mem_append_right _ (List.mem_append_left _ h)))))))))))))))))))))))))))))))
theorem jin7 : ∀ z ∈ u_ws "MarbleBoard$Search" jT7 6, z ∈ jB := fun z h => (List.mem_append_right _ (List.mem_append_right _ (List.mem_append_right _ (List.mem_append_right _ (List.mem_append_right _ (List.mem_append_right _ (List.mem_append_right _ (List.mem_append_right _ (List.mem_append_right _ (List.mem_append_right _ (List.mem_append_right _ (List.mem_append_right _ (List.mem_append_right _ (List.mem_append_right _ (List.mem_append_right _ (List.mem_append_right _ (List.mem_append_right _ (List.mem_append_right _ (List.mem_append_right _ (List.mem_append_right _ (List.mem_append_right _ (List.mem_append_right _ (List.mem_append_right _ (List.mem_append_right _ (List.mem_append_right _ (List.mem_append_right _ (List.mem_append_right _ (List.mem_append_right _ (List.mem_append_right _ (List.mem_append_right _ (List.mem_append_right _ (List.mem_append_left _ h))))))))))))))))))))))))))))))))
theorem jin8 : ∀ z ∈ u_ws "MarbleBoard$Found" jT8 3, z ∈ jB := fun z h => (List.mem_append_right _ (List.mem_append_right _ (List.mem_append_right _ (List.mem_append_right _ (List.mem_append_right _ (List.mem_append_right _ (List.mem_append_right _ (List.mem_append_right _ (List.mem_append_right _ (List.mem_append_right _ (List.mem_append_right _ (List.mem_append_right _ (List.mem_append_right _ (List.mem_append_right _ (List.mem_append_right _ (List.mem_append_right _ (List.mem_append_right _ (List.mem_append_right _ (List.mem_append_right _ (List.mem_append_right _ (List.mem_append_right _ (List.mem_append_right _ (List.mem_append_right _ (List.mem_append_right _ (List.mem_append_right _ (List.mem_append_right _ (List.mem_append_right _ (List.mem_append_right _ (List.mem_append_right _ (List.mem_append_right _ (List.mem_append_right _ (List.mem_append_right _ (List.mem_append_left _ h)))))))))))))))))))))))))))))))))
theorem jin9 : ∀ z ∈ u_ws "MarbleBoardModel" jT9 25, z ∈ jB := fun z h => (List.mem_append_right _ (List.mem_append_right _ (List.mem_append_right _ (List.mem_append_right _ (List.mem_append_right _ (List.mem_append_right _ (List.mem_append_right _ (List.mem_append_right _ (List.mem_append_right _ (List.mem_append_right _ (List.mem_append_right _ (List.mem_append_right _ (List.mem_append_right _ (List.mem_append_right _ (List.mem_append_right _ (List.mem_append_right _ (List.mem_append_right _ (List.mem_append_right _ (List.mem_append_right _ (List.mem_append_right _ (List.mem_append_right _ (List.mem_append_right _ (List.mem_append_right _ (List.mem_append_right _ (List.mem_append_right _ (List.mem_append_right _ (List.mem_append_right _ (List.mem_append_right _ (List.mem_append_right _ (List.mem_append_right _ (List.mem_append_right _ (List.mem_append_right _ (List.mem_append_right _ h)))))))))))))))))))))))))))))))))
theorem jB_T {w : Cond} (h : w ∈ jBT) : w ∈ jB := (List.mem_append_right _ (List.mem_append_right _ (List.mem_append_right _ (List.mem_append_right _ (List.mem_append_right _ (List.mem_append_right _ (List.mem_append_right _ (List.mem_append_right _ (List.mem_append_right _ (List.mem_append_right _ (List.mem_append_right _ (List.mem_append_right _ (List.mem_append_right _ (List.mem_append_right _ (List.mem_append_right _ (List.mem_append_right _ (List.mem_append_right _ (List.mem_append_right _ (List.mem_append_right _ (List.mem_append_right _ (List.mem_append_right _ (List.mem_append_right _ (List.mem_append_right _ (List.mem_append_left _ h))))))))))))))))))))))))
theorem jBg0 : jB0.all goodWord = true := by decide +kernel
theorem jBg1 : jB1.all goodWord = true := by decide +kernel
theorem jBg2 : jB2.all goodWord = true := by decide +kernel
theorem jBg3 : jB3.all goodWord = true := by decide +kernel
theorem jBg4 : jB4.all goodWord = true := by decide +kernel
theorem jBg5 : jB5.all goodWord = true := by decide +kernel
theorem jBg6 : jB6.all goodWord = true := by decide +kernel
theorem jBg7 : jB7.all goodWord = true := by decide +kernel
theorem jBg8 : jB8.all goodWord = true := by decide +kernel
theorem jBg9 : jB9.all goodWord = true := by decide +kernel
theorem jBg10 : jB10.all goodWord = true := by decide +kernel
theorem jBg11 : jB11.all goodWord = true := by decide +kernel
theorem jBg12 : jB12.all goodWord = true := by decide +kernel
theorem jBg13 : jB13.all goodWord = true := by decide +kernel
theorem jBg14 : jB14.all goodWord = true := by decide +kernel
theorem jBg15 : jB15.all goodWord = true := by decide +kernel
theorem jBg16 : jB16.all goodWord = true := by decide +kernel
theorem jBg17 : jB17.all goodWord = true := by decide +kernel
theorem jBg18 : jB18.all goodWord = true := by decide +kernel
theorem jBg19 : jB19.all goodWord = true := by decide +kernel
theorem jBg20 : jB20.all goodWord = true := by decide +kernel
theorem jBg21 : jB21.all goodWord = true := by decide +kernel
theorem jBg22 : jB22.all goodWord = true := by decide +kernel
theorem jBu0 : (u_ws "MarbleBoard" jT0 11).all goodWord = true := by decide +kernel
theorem jBu1 : (u_ws "MarbleBoard$Cells" jT1 7).all goodWord = true := by decide +kernel
theorem jBu2 : (u_ws "MarbleBoard$Track" jT2 1).all goodWord = true := by decide +kernel
theorem jBu3 : (u_ws "MarbleBoard$Survey" jT3 2).all goodWord = true := by decide +kernel
theorem jBu4 : (u_ws "MarbleBoard$State" jT4 3).all goodWord = true := by decide +kernel
theorem jBu5 : (u_ws "MarbleBoard$Crowd" jT5 5).all goodWord = true := by decide +kernel
theorem jBu6 : (u_ws "MarbleBoard$Past" jT6 4).all goodWord = true := by decide +kernel
theorem jBu7 : (u_ws "MarbleBoard$Search" jT7 6).all goodWord = true := by decide +kernel
theorem jBu8 : (u_ws "MarbleBoard$Found" jT8 3).all goodWord = true := by decide +kernel
theorem jBu9 : (u_ws "MarbleBoardModel" jT9 25).all goodWord = true := by decide +kernel
theorem jBtg : jBT.all goodWord = true := List.all_eq_true.mpr (fun w h => (List.mem_filter.mp h).2)
theorem jB_good : ∀ w ∈ jB, goodWord w = true := fun w h => ((List.mem_append.mp h).elim (fun h => List.all_eq_true.mp jBg0 w h) (fun h => ((List.mem_append.mp h).elim (fun h => List.all_eq_true.mp jBg1 w h) (fun h => ((List.mem_append.mp h).elim (fun h => List.all_eq_true.mp jBg2 w h) (fun h => ((List.mem_append.mp h).elim (fun h => List.all_eq_true.mp jBg3 w h) (fun h => ((List.mem_append.mp h).elim (fun h => List.all_eq_true.mp jBg4 w h) (fun h => ((List.mem_append.mp h).elim (fun h => List.all_eq_true.mp jBg5 w h) (fun h => ((List.mem_append.mp h).elim (fun h => List.all_eq_true.mp jBg6 w h) (fun h => ((List.mem_append.mp h).elim (fun h => List.all_eq_true.mp jBg7 w h) (fun h => ((List.mem_append.mp h).elim (fun h => List.all_eq_true.mp jBg8 w h) (fun h => ((List.mem_append.mp h).elim (fun h => List.all_eq_true.mp jBg9 w h) (fun h => ((List.mem_append.mp h).elim (fun h => List.all_eq_true.mp jBg10 w h) (fun h => ((List.mem_append.mp h).elim (fun h => List.all_eq_true.mp jBg11 w h) (fun h => ((List.mem_append.mp h).elim (fun h => List.all_eq_true.mp jBg12 w h) (fun h => ((List.mem_append.mp h).elim (fun h => List.all_eq_true.mp jBg13 w h) (fun h => ((List.mem_append.mp h).elim (fun h => List.all_eq_true.mp jBg14 w h) (fun h => ((List.mem_append.mp h).elim (fun h => List.all_eq_true.mp jBg15 w h) (fun h => ((List.mem_append.mp h).elim (fun h => List.all_eq_true.mp jBg16 w h) (fun h => ((List.mem_append.mp h).elim (fun h => List.all_eq_true.mp jBg17 w h) (fun h => ((List.mem_append.mp h).elim (fun h => List.all_eq_true.mp jBg18 w h) (fun h => ((List.mem_append.mp h).elim (fun h => List.all_eq_true.mp jBg19 w h) (fun h => ((List.mem_append.mp h).elim (fun h => List.all_eq_true.mp jBg20 w h) (fun h => ((List.mem_append.mp h).elim (fun h => List.all_eq_true.mp jBg21 w h) (fun h => ((List.mem_append.mp h).elim (fun h => List.all_eq_true.mp jBg22 w h) (fun h => ((List.mem_append.mp h).elim (fun h => List.all_eq_true.mp jBtg w h) (fun h => ((List.mem_append.mp h).elim (fun h => List.all_eq_true.mp jBu0 w h) (fun h => ((List.mem_append.mp h).elim (fun h => List.all_eq_true.mp jBu1 w h) (fun h => ((List.mem_append.mp h).elim (fun h => List.all_eq_true.mp jBu2 w h) (fun h => ((List.mem_append.mp h).elim (fun h => List.all_eq_true.mp jBu3 w h) (fun h => ((List.mem_append.mp h).elim (fun h => List.all_eq_true.mp jBu4 w h) (fun h => ((List.mem_append.mp h).elim (fun h => List.all_eq_true.mp jBu5 w h) (fun h => ((List.mem_append.mp h).elim (fun h => List.all_eq_true.mp jBu6 w h) (fun h => ((List.mem_append.mp h).elim (fun h => List.all_eq_true.mp jBu7 w h) (fun h => ((List.mem_append.mp h).elim (fun h => List.all_eq_true.mp jBu8 w h) (fun h => (List.all_eq_true.mp jBu9 w h)))))))))))))))))))))))))))))))))))))))))))))))))))))))))))))))))))
theorem jB_in {y : MethodName} {bytes : ByteArray} {maxL : Nat} {ret : Option FieldType} (h : Cond.code y bytes maxL ret ∈ jB) : GoodIn jB (Cond.code y bytes maxL ret :: jB) := fun w hw => by
  rcases List.mem_cons.mp hw with e | h1
  · rw [e]; exact ⟨h, good_of_word (jB_good _ h)⟩
  · exact ⟨h1, good_of_word (jB_good _ h1)⟩
theorem b_0 : Cond.fieldLink "MarbleBoard$Cells" 32 "MarbleBoard$Cells" "width" "I" ∈ jB := jBc0 (List.mem_of_getElem? (i := 0) rfl)
theorem b_1 : Cond.fieldLink "MarbleBoard$Cells" 36 "MarbleBoard$Cells" "height" "I" ∈ jB := jBc0 (List.mem_of_getElem? (i := 1) rfl)
theorem b_2 : Cond.fieldLink "MarbleBoard$Cells" 25 "MarbleBoard$Cells" "columns" "[I" ∈ jB := jBc0 (List.mem_of_getElem? (i := 2) rfl)
theorem b_3 : Cond.code y_Arrays_fill prog_23_method_103_code 4 none ∈ jB := jBc0 (List.mem_of_getElem? (i := 3) rfl)
theorem b_4 : Cond.initialized "java/util/Arrays" ∈ jB := jBc0 (List.mem_of_getElem? (i := 4) rfl)
theorem b_5 : Cond.methodLink "MarbleBoard$Cells" 43 y_Arrays_fill ∈ jB := jBc0 (List.mem_of_getElem? (i := 5) rfl)
theorem b_6 : Cond.static y_Arrays_fill ∈ jB := jBc0 (List.mem_of_getElem? (i := 6) rfl)
theorem b_7 : Cond.code y_MarbleBoard_spotOf prog_1_method_31_code 2 (some .int) ∈ jB := jBc0 (List.mem_of_getElem? (i := 7) rfl)
theorem b_8 : Cond.initialized "MarbleBoard" ∈ jB := jBc0 (List.mem_of_getElem? (i := 8) rfl)
theorem b_9 : Cond.static y_MarbleBoard_spotOf ∈ jB := jBc0 (List.mem_of_getElem? (i := 9) rfl)
theorem b_10 : Cond.fieldLink "MarbleBoard$Cells" 9 "MarbleBoard$Cells" "kinds" "[C" ∈ jB := jBc0 (List.mem_of_getElem? (i := 10) rfl)
theorem b_11 : Cond.code y_Cells_kindOf prog_2_method_8_code 1 (some .char) ∈ jB := jBc0 (List.mem_of_getElem? (i := 11) rfl)
theorem b_12 : Cond.initialized "MarbleBoard$Cells" ∈ jB := jBc0 (List.mem_of_getElem? (i := 12) rfl)
theorem b_13 : Cond.methodLink "MarbleBoard$Cells" 53 y_Cells_kindOf ∈ jB := jBc0 (List.mem_of_getElem? (i := 13) rfl)
theorem b_14 : Cond.static y_Cells_kindOf ∈ jB := jBc0 (List.mem_of_getElem? (i := 14) rfl)
theorem b_15 : Cond.fieldLink "MarbleBoard$Cells" 15 "MarbleBoard$Cells" "values" "[I" ∈ jB := jBc0 (List.mem_of_getElem? (i := 15) rfl)
theorem b_16 : Cond.code y_Cells_firstValue prog_2_method_9_code 1 (some .int) ∈ jB := jBc0 (List.mem_of_getElem? (i := 16) rfl)
theorem b_17 : Cond.methodLink "MarbleBoard$Cells" 57 y_Cells_firstValue ∈ jB := jBc0 (List.mem_of_getElem? (i := 17) rfl)
theorem b_18 : Cond.static y_Cells_firstValue ∈ jB := jBc0 (List.mem_of_getElem? (i := 18) rfl)
theorem b_19 : Cond.fieldLink "MarbleBoard$Cells" 19 "MarbleBoard$Cells" "lengths" "[I" ∈ jB := jBc0 (List.mem_of_getElem? (i := 19) rfl)
theorem b_20 : Cond.fieldLink "MarbleBoard$Cells" 22 "MarbleBoard$Cells" "patterns" "[I" ∈ jB := jBc0 (List.mem_of_getElem? (i := 20) rfl)
theorem b_21 : Cond.code y_Cells_put prog_2_method_7_code 5 none ∈ jB := jBc0 (List.mem_of_getElem? (i := 21) rfl)
theorem b_22 : Cond.methodLink "MarbleBoard$Cells" 39 y_Cells_put ∈ jB := jBc0 (List.mem_of_getElem? (i := 22) rfl)
theorem b_23 : Cond.instanceMethod y_Cells_put ∈ jB := jBc0 (List.mem_of_getElem? (i := 23) rfl)
theorem b_24 : Cond.selects "MarbleBoard$Cells" y_Cells_put y_Cells_put ∈ jB := jBc0 (List.mem_of_getElem? (i := 24) rfl)
theorem b_25 : Cond.code y_Cells_greatestValue prog_2_method_15_code 2 (some .int) ∈ jB := jBc0 (List.mem_of_getElem? (i := 25) rfl)
theorem b_26 : Cond.methodLink "MarbleBoard$Cells" 61 y_Cells_greatestValue ∈ jB := jBc0 (List.mem_of_getElem? (i := 26) rfl)
theorem b_27 : Cond.instanceMethod y_Cells_greatestValue ∈ jB := jBc0 (List.mem_of_getElem? (i := 27) rfl)
theorem b_28 : Cond.selects "MarbleBoard$Cells" y_Cells_greatestValue y_Cells_greatestValue ∈ jB := jBc0 (List.mem_of_getElem? (i := 28) rfl)
theorem b_29 : Cond.code y_Cells_hasInlet prog_2_method_20_code 2 (some .boolean) ∈ jB := jBc0 (List.mem_of_getElem? (i := 29) rfl)
theorem b_30 : Cond.methodLink "MarbleBoard$Cells" 65 y_Cells_hasInlet ∈ jB := jBc0 (List.mem_of_getElem? (i := 30) rfl)
theorem b_31 : Cond.instanceMethod y_Cells_hasInlet ∈ jB := jBc0 (List.mem_of_getElem? (i := 31) rfl)
theorem b_32 : Cond.selects "MarbleBoard$Cells" y_Cells_hasInlet y_Cells_hasInlet ∈ jB := jBc0 (List.mem_of_getElem? (i := 32) rfl)
theorem b_33 : Cond.code y_MarbleBoard_marbleAt prog_1_method_32_code 2 (some .int) ∈ jB := jBc0 (List.mem_of_getElem? (i := 33) rfl)
theorem b_34 : Cond.static y_MarbleBoard_marbleAt ∈ jB := jBc0 (List.mem_of_getElem? (i := 34) rfl)
theorem b_35 : Cond.fieldLink "MarbleBoard$Track" 9 "MarbleBoard$Track" "cells" "LMarbleBoard$Cells;" ∈ jB := jBc0 (List.mem_of_getElem? (i := 35) rfl)
theorem b_36 : Cond.code y_Cells_below prog_2_method_22_code 2 (some .int) ∈ jB := jBc0 (List.mem_of_getElem? (i := 36) rfl)
theorem b_37 : Cond.methodLink "MarbleBoard$Track" 15 y_Cells_below ∈ jB := jBc0 (List.mem_of_getElem? (i := 37) rfl)
theorem b_38 : Cond.instanceMethod y_Cells_below ∈ jB := jBc0 (List.mem_of_getElem? (i := 38) rfl)
theorem b_39 : Cond.selects "MarbleBoard$Cells" y_Cells_below y_Cells_below ∈ jB := jBc0 (List.mem_of_getElem? (i := 39) rfl)
theorem b_40 : Cond.code y_Cells_kindAt prog_2_method_11_code 2 (some .char) ∈ jB := jBc1 (List.mem_of_getElem? (i := 0) rfl)
theorem b_41 : Cond.methodLink "MarbleBoard$Track" 28 y_Cells_kindAt ∈ jB := jBc1 (List.mem_of_getElem? (i := 1) rfl)
theorem b_42 : Cond.instanceMethod y_Cells_kindAt ∈ jB := jBc1 (List.mem_of_getElem? (i := 2) rfl)
theorem b_43 : Cond.selects "MarbleBoard$Cells" y_Cells_kindAt y_Cells_kindAt ∈ jB := jBc1 (List.mem_of_getElem? (i := 3) rfl)
theorem b_44 : Cond.code y_Cells_bitAtPosition prog_2_method_18_code 2 (some .int) ∈ jB := jBc1 (List.mem_of_getElem? (i := 4) rfl)
theorem b_45 : Cond.methodLink "MarbleBoard$Track" 45 y_Cells_bitAtPosition ∈ jB := jBc1 (List.mem_of_getElem? (i := 5) rfl)
theorem b_46 : Cond.instanceMethod y_Cells_bitAtPosition ∈ jB := jBc1 (List.mem_of_getElem? (i := 6) rfl)
theorem b_47 : Cond.selects "MarbleBoard$Cells" y_Cells_bitAtPosition y_Cells_bitAtPosition ∈ jB := jBc1 (List.mem_of_getElem? (i := 7) rfl)
theorem b_48 : Cond.code y_Track_sideOf prog_10_method_5_code 1 (some .int) ∈ jB := jBc1 (List.mem_of_getElem? (i := 8) rfl)
theorem b_49 : Cond.initialized "MarbleBoard$Track" ∈ jB := jBc1 (List.mem_of_getElem? (i := 9) rfl)
theorem b_50 : Cond.methodLink "MarbleBoard$Track" 42 y_Track_sideOf ∈ jB := jBc1 (List.mem_of_getElem? (i := 10) rfl)
theorem b_51 : Cond.static y_Track_sideOf ∈ jB := jBc1 (List.mem_of_getElem? (i := 11) rfl)
theorem b_52 : Cond.code y_Cells_valueAt prog_2_method_12_code 2 (some .int) ∈ jB := jBc1 (List.mem_of_getElem? (i := 12) rfl)
theorem b_53 : Cond.methodLink "MarbleBoard$Track" 32 y_Cells_valueAt ∈ jB := jBc1 (List.mem_of_getElem? (i := 13) rfl)
theorem b_54 : Cond.instanceMethod y_Cells_valueAt ∈ jB := jBc1 (List.mem_of_getElem? (i := 14) rfl)
theorem b_55 : Cond.selects "MarbleBoard$Cells" y_Cells_valueAt y_Cells_valueAt ∈ jB := jBc1 (List.mem_of_getElem? (i := 15) rfl)
theorem b_56 : Cond.code y_Track_side prog_10_method_4_code 3 (some .int) ∈ jB := jBc1 (List.mem_of_getElem? (i := 16) rfl)
theorem b_57 : Cond.methodLink "MarbleBoard$Track" 35 y_Track_side ∈ jB := jBc1 (List.mem_of_getElem? (i := 17) rfl)
theorem b_58 : Cond.instanceMethod y_Track_side ∈ jB := jBc1 (List.mem_of_getElem? (i := 18) rfl)
theorem b_59 : Cond.selects "MarbleBoard$Track" y_Track_side y_Track_side ∈ jB := jBc1 (List.mem_of_getElem? (i := 19) rfl)
theorem b_60 : Cond.code y_Cells_has prog_2_method_5_code 3 (some .boolean) ∈ jB := jBc1 (List.mem_of_getElem? (i := 20) rfl)
theorem b_61 : Cond.methodLink "MarbleBoard$Track" 48 y_Cells_has ∈ jB := jBc1 (List.mem_of_getElem? (i := 21) rfl)
theorem b_62 : Cond.instanceMethod y_Cells_has ∈ jB := jBc1 (List.mem_of_getElem? (i := 22) rfl)
theorem b_63 : Cond.selects "MarbleBoard$Cells" y_Cells_has y_Cells_has ∈ jB := jBc1 (List.mem_of_getElem? (i := 23) rfl)
theorem b_64 : Cond.code y_Track_rowBelow prog_10_method_6_code 5 (some .int) ∈ jB := jBc1 (List.mem_of_getElem? (i := 24) rfl)
theorem b_65 : Cond.methodLink "MarbleBoard$Track" 39 y_Track_rowBelow ∈ jB := jBc1 (List.mem_of_getElem? (i := 25) rfl)
theorem b_66 : Cond.instanceMethod y_Track_rowBelow ∈ jB := jBc1 (List.mem_of_getElem? (i := 26) rfl)
theorem b_67 : Cond.selects "MarbleBoard$Track" y_Track_rowBelow y_Track_rowBelow ∈ jB := jBc1 (List.mem_of_getElem? (i := 27) rfl)
theorem b_68 : Cond.code y_Track_next prog_10_method_3_code 6 (some .int) ∈ jB := jBc1 (List.mem_of_getElem? (i := 28) rfl)
theorem b_69 : Cond.methodLink "MarbleBoard$Track" 21 y_Track_next ∈ jB := jBc1 (List.mem_of_getElem? (i := 29) rfl)
theorem b_70 : Cond.instanceMethod y_Track_next ∈ jB := jBc1 (List.mem_of_getElem? (i := 30) rfl)
theorem b_71 : Cond.selects "MarbleBoard$Track" y_Track_next y_Track_next ∈ jB := jBc1 (List.mem_of_getElem? (i := 31) rfl)
theorem b_72 : Cond.methodLink "MarbleBoard$Track" 67 y_Cells_greatestValue ∈ jB := jBc1 (List.mem_of_getElem? (i := 32) rfl)
theorem b_73 : Cond.code y_Cells_setValue prog_2_method_13_code 3 none ∈ jB := jBc1 (List.mem_of_getElem? (i := 33) rfl)
theorem b_74 : Cond.methodLink "MarbleBoard$Track" 58 y_Cells_setValue ∈ jB := jBc1 (List.mem_of_getElem? (i := 34) rfl)
theorem b_75 : Cond.instanceMethod y_Cells_setValue ∈ jB := jBc1 (List.mem_of_getElem? (i := 35) rfl)
theorem b_76 : Cond.selects "MarbleBoard$Cells" y_Cells_setValue y_Cells_setValue ∈ jB := jBc1 (List.mem_of_getElem? (i := 36) rfl)
theorem b_77 : Cond.methodLink "MarbleBoard$Track" 62 Lib.Math.min.name ∈ jB := jBc1 (List.mem_of_getElem? (i := 37) rfl)
theorem b_78 : Cond.static Lib.Math.min.name ∈ jB := jBc1 (List.mem_of_getElem? (i := 38) rfl)
theorem b_79 : Cond.initialized "java/lang/Math" ∈ jB := jBc1 (List.mem_of_getElem? (i := 39) rfl)
theorem b_80 : Cond.code Lib.Math.min.name Lib.Math.min.code 2 (some .int) ∈ jB := jBc2 (List.mem_of_getElem? (i := 0) rfl)
theorem b_81 : Cond.code y_Track_pass prog_10_method_7_code 5 none ∈ jB := jBc2 (List.mem_of_getElem? (i := 1) rfl)
theorem b_82 : Cond.methodLink "MarbleBoard$Track" 24 y_Track_pass ∈ jB := jBc2 (List.mem_of_getElem? (i := 2) rfl)
theorem b_83 : Cond.instanceMethod y_Track_pass ∈ jB := jBc2 (List.mem_of_getElem? (i := 3) rfl)
theorem b_84 : Cond.selects "MarbleBoard$Track" y_Track_pass y_Track_pass ∈ jB := jBc2 (List.mem_of_getElem? (i := 4) rfl)
theorem b_85 : Cond.fieldLink "MarbleBoard$Survey" 9 "MarbleBoard$Survey" "reached" "[I" ∈ jB := jBc2 (List.mem_of_getElem? (i := 5) rfl)
theorem b_86 : Cond.methodLink "MarbleBoard$Survey" 19 y_Arrays_fill ∈ jB := jBc2 (List.mem_of_getElem? (i := 6) rfl)
theorem b_87 : Cond.fieldLink "MarbleBoard$Survey" 15 "MarbleBoard$Survey" "cells" "LMarbleBoard$Cells;" ∈ jB := jBc2 (List.mem_of_getElem? (i := 7) rfl)
theorem b_88 : Cond.code y_Cells_height prog_2_method_4_code 1 (some .int) ∈ jB := jBc2 (List.mem_of_getElem? (i := 8) rfl)
theorem b_89 : Cond.methodLink "MarbleBoard$Survey" 35 y_Cells_height ∈ jB := jBc2 (List.mem_of_getElem? (i := 9) rfl)
theorem b_90 : Cond.instanceMethod y_Cells_height ∈ jB := jBc2 (List.mem_of_getElem? (i := 10) rfl)
theorem b_91 : Cond.selects "MarbleBoard$Cells" y_Cells_height y_Cells_height ∈ jB := jBc2 (List.mem_of_getElem? (i := 11) rfl)
theorem b_92 : Cond.code y_Cells_width prog_2_method_3_code 1 (some .int) ∈ jB := jBc2 (List.mem_of_getElem? (i := 12) rfl)
theorem b_93 : Cond.methodLink "MarbleBoard$Survey" 39 y_Cells_width ∈ jB := jBc2 (List.mem_of_getElem? (i := 13) rfl)
theorem b_94 : Cond.instanceMethod y_Cells_width ∈ jB := jBc2 (List.mem_of_getElem? (i := 14) rfl)
theorem b_95 : Cond.selects "MarbleBoard$Cells" y_Cells_width y_Cells_width ∈ jB := jBc2 (List.mem_of_getElem? (i := 15) rfl)
theorem b_96 : Cond.methodLink "MarbleBoard$Survey" 53 y_Cells_kindAt ∈ jB := jBc2 (List.mem_of_getElem? (i := 16) rfl)
theorem b_97 : Cond.code y_Cells_patternHas prog_2_method_17_code 4 (some .boolean) ∈ jB := jBc2 (List.mem_of_getElem? (i := 17) rfl)
theorem b_98 : Cond.methodLink "MarbleBoard$Survey" 63 y_Cells_patternHas ∈ jB := jBc2 (List.mem_of_getElem? (i := 18) rfl)
theorem b_99 : Cond.instanceMethod y_Cells_patternHas ∈ jB := jBc2 (List.mem_of_getElem? (i := 19) rfl)
theorem b_100 : Cond.selects "MarbleBoard$Cells" y_Cells_patternHas y_Cells_patternHas ∈ jB := jBc2 (List.mem_of_getElem? (i := 20) rfl)
theorem b_101 : Cond.code y_Survey_waysOut prog_9_method_4_code 3 (some .int) ∈ jB := jBc2 (List.mem_of_getElem? (i := 21) rfl)
theorem b_102 : Cond.initialized "MarbleBoard$Survey" ∈ jB := jBc2 (List.mem_of_getElem? (i := 22) rfl)
theorem b_103 : Cond.methodLink "MarbleBoard$Survey" 57 y_Survey_waysOut ∈ jB := jBc2 (List.mem_of_getElem? (i := 23) rfl)
theorem b_104 : Cond.instanceMethod y_Survey_waysOut ∈ jB := jBc2 (List.mem_of_getElem? (i := 24) rfl)
theorem b_105 : Cond.selects "MarbleBoard$Survey" y_Survey_waysOut y_Survey_waysOut ∈ jB := jBc2 (List.mem_of_getElem? (i := 25) rfl)
theorem b_106 : Cond.methodLink "MarbleBoard$Survey" 60 y_Cells_has ∈ jB := jBc2 (List.mem_of_getElem? (i := 26) rfl)
theorem b_107 : Cond.methodLink "MarbleBoard$Survey" 25 y_Cells_hasInlet ∈ jB := jBc2 (List.mem_of_getElem? (i := 27) rfl)
theorem b_108 : Cond.code y_Survey_leadsOn prog_9_method_3_code 7 (some .boolean) ∈ jB := jBc2 (List.mem_of_getElem? (i := 28) rfl)
theorem b_109 : Cond.methodLink "MarbleBoard$Survey" 46 y_Survey_leadsOn ∈ jB := jBc2 (List.mem_of_getElem? (i := 29) rfl)
theorem b_110 : Cond.instanceMethod y_Survey_leadsOn ∈ jB := jBc2 (List.mem_of_getElem? (i := 30) rfl)
theorem b_111 : Cond.selects "MarbleBoard$Survey" y_Survey_leadsOn y_Survey_leadsOn ∈ jB := jBc2 (List.mem_of_getElem? (i := 31) rfl)
theorem b_112 : Cond.code y_Cells_placeOf prog_2_method_6_code 2 (some .int) ∈ jB := jBc2 (List.mem_of_getElem? (i := 32) rfl)
theorem b_113 : Cond.methodLink "MarbleBoard$Survey" 50 y_Cells_placeOf ∈ jB := jBc2 (List.mem_of_getElem? (i := 33) rfl)
theorem b_114 : Cond.instanceMethod y_Cells_placeOf ∈ jB := jBc2 (List.mem_of_getElem? (i := 34) rfl)
theorem b_115 : Cond.selects "MarbleBoard$Cells" y_Cells_placeOf y_Cells_placeOf ∈ jB := jBc2 (List.mem_of_getElem? (i := 35) rfl)
theorem b_116 : Cond.methodLink "MarbleBoard$Survey" 31 y_Cells_below ∈ jB := jBc2 (List.mem_of_getElem? (i := 36) rfl)
theorem b_117 : Cond.fieldLink "MarbleBoard$State" 19 "MarbleBoard$State" "size" "I" ∈ jB := jBc2 (List.mem_of_getElem? (i := 37) rfl)
theorem b_118 : Cond.fieldLink "MarbleBoard$State" 15 "MarbleBoard$State" "cells" "LMarbleBoard$Cells;" ∈ jB := jBc2 (List.mem_of_getElem? (i := 38) rfl)
theorem b_119 : Cond.code y_Cells_isMoving prog_2_method_14_code 2 (some .boolean) ∈ jB := jBc2 (List.mem_of_getElem? (i := 39) rfl)
theorem b_120 : Cond.methodLink "MarbleBoard$State" 23 y_Cells_isMoving ∈ jB := jBc3 (List.mem_of_getElem? (i := 0) rfl)
theorem b_121 : Cond.instanceMethod y_Cells_isMoving ∈ jB := jBc3 (List.mem_of_getElem? (i := 1) rfl)
theorem b_122 : Cond.selects "MarbleBoard$Cells" y_Cells_isMoving y_Cells_isMoving ∈ jB := jBc3 (List.mem_of_getElem? (i := 2) rfl)
theorem b_123 : Cond.methodLink "MarbleBoard$State" 33 y_Cells_kindAt ∈ jB := jBc3 (List.mem_of_getElem? (i := 3) rfl)
theorem b_124 : Cond.code y_State_bitsOf prog_8_method_3_code 2 (some .int) ∈ jB := jBc3 (List.mem_of_getElem? (i := 4) rfl)
theorem b_125 : Cond.initialized "MarbleBoard$State" ∈ jB := jBc3 (List.mem_of_getElem? (i := 5) rfl)
theorem b_126 : Cond.methodLink "MarbleBoard$State" 29 y_State_bitsOf ∈ jB := jBc3 (List.mem_of_getElem? (i := 6) rfl)
theorem b_127 : Cond.instanceMethod y_State_bitsOf ∈ jB := jBc3 (List.mem_of_getElem? (i := 7) rfl)
theorem b_128 : Cond.selects "MarbleBoard$State" y_State_bitsOf y_State_bitsOf ∈ jB := jBc3 (List.mem_of_getElem? (i := 8) rfl)
theorem b_129 : Cond.fieldLink "MarbleBoard$State" 9 "MarbleBoard$State" "moving" "[I" ∈ jB := jBc3 (List.mem_of_getElem? (i := 9) rfl)
theorem b_130 : Cond.methodLink "MarbleBoard$State" 37 y_Cells_valueAt ∈ jB := jBc3 (List.mem_of_getElem? (i := 10) rfl)
theorem b_131 : Cond.methodLink "MarbleBoard$State" 40 y_Cells_setValue ∈ jB := jBc3 (List.mem_of_getElem? (i := 11) rfl)
theorem b_132 : Cond.fieldLink "MarbleBoard$Crowd" 22 "MarbleBoard$Crowd" "size" "I" ∈ jB := jBc3 (List.mem_of_getElem? (i := 12) rfl)
theorem b_133 : Cond.fieldLink "MarbleBoard$Crowd" 26 "MarbleBoard$Crowd" "held" "I" ∈ jB := jBc3 (List.mem_of_getElem? (i := 13) rfl)
theorem b_134 : Cond.fieldLink "MarbleBoard$Crowd" 9 "MarbleBoard$Crowd" "marbles" "[I" ∈ jB := jBc3 (List.mem_of_getElem? (i := 14) rfl)
theorem b_135 : Cond.code y_Crowd_isTaken prog_3_method_9_code 4 (some .boolean) ∈ jB := jBc3 (List.mem_of_getElem? (i := 15) rfl)
theorem b_136 : Cond.initialized "MarbleBoard$Crowd" ∈ jB := jBc3 (List.mem_of_getElem? (i := 16) rfl)
theorem b_137 : Cond.methodLink "MarbleBoard$Crowd" 29 y_Crowd_isTaken ∈ jB := jBc3 (List.mem_of_getElem? (i := 17) rfl)
theorem b_138 : Cond.instanceMethod y_Crowd_isTaken ∈ jB := jBc3 (List.mem_of_getElem? (i := 18) rfl)
theorem b_139 : Cond.selects "MarbleBoard$Crowd" y_Crowd_isTaken y_Crowd_isTaken ∈ jB := jBc3 (List.mem_of_getElem? (i := 19) rfl)
theorem b_140 : Cond.code y_Crowd_add prog_3_method_7_code 2 none ∈ jB := jBc3 (List.mem_of_getElem? (i := 20) rfl)
theorem b_141 : Cond.methodLink "MarbleBoard$Crowd" 33 y_Crowd_add ∈ jB := jBc3 (List.mem_of_getElem? (i := 21) rfl)
theorem b_142 : Cond.instanceMethod y_Crowd_add ∈ jB := jBc3 (List.mem_of_getElem? (i := 22) rfl)
theorem b_143 : Cond.selects "MarbleBoard$Crowd" y_Crowd_add y_Crowd_add ∈ jB := jBc3 (List.mem_of_getElem? (i := 23) rfl)
theorem b_144 : Cond.fieldLink "MarbleBoard$Crowd" 19 "MarbleBoard$Crowd" "counts" "[I" ∈ jB := jBc3 (List.mem_of_getElem? (i := 24) rfl)
theorem b_145 : Cond.code y_Crowd_takeOffGone prog_3_method_10_code 3 (some .int) ∈ jB := jBc3 (List.mem_of_getElem? (i := 25) rfl)
theorem b_146 : Cond.methodLink "MarbleBoard$Crowd" 46 y_Crowd_takeOffGone ∈ jB := jBc3 (List.mem_of_getElem? (i := 26) rfl)
theorem b_147 : Cond.instanceMethod y_Crowd_takeOffGone ∈ jB := jBc3 (List.mem_of_getElem? (i := 27) rfl)
theorem b_148 : Cond.selects "MarbleBoard$Crowd" y_Crowd_takeOffGone y_Crowd_takeOffGone ∈ jB := jBc3 (List.mem_of_getElem? (i := 28) rfl)
theorem b_149 : Cond.fieldLink "MarbleBoard$Crowd" 15 "MarbleBoard$Crowd" "track" "LMarbleBoard$Track;" ∈ jB := jBc3 (List.mem_of_getElem? (i := 29) rfl)
theorem b_150 : Cond.methodLink "MarbleBoard$Crowd" 37 y_Track_next ∈ jB := jBc3 (List.mem_of_getElem? (i := 30) rfl)
theorem b_151 : Cond.methodLink "MarbleBoard$Crowd" 43 y_Track_pass ∈ jB := jBc3 (List.mem_of_getElem? (i := 31) rfl)
theorem b_152 : Cond.fieldLink "MarbleBoard$Past" 16 "MarbleBoard$Past" "size" "I" ∈ jB := jBc3 (List.mem_of_getElem? (i := 32) rfl)
theorem b_153 : Cond.fieldLink "MarbleBoard$Past" 9 "MarbleBoard$Past" "states" "[I" ∈ jB := jBc3 (List.mem_of_getElem? (i := 33) rfl)
theorem b_154 : Cond.fieldLink "MarbleBoard$Past" 20 "MarbleBoard$Past" "end" "I" ∈ jB := jBc3 (List.mem_of_getElem? (i := 34) rfl)
theorem b_155 : Cond.fieldLink "MarbleBoard$Past" 13 "MarbleBoard$Past" "outlets" "[I" ∈ jB := jBc3 (List.mem_of_getElem? (i := 35) rfl)
theorem b_156 : Cond.methodLink "MarbleBoard$Past" 23 Lib.Math.min.name ∈ jB := jBc3 (List.mem_of_getElem? (i := 36) rfl)
theorem b_157 : Cond.fieldLink "MarbleBoard$Found" 15 "MarbleBoard$Found" "slots" "[I" ∈ jB := jBc3 (List.mem_of_getElem? (i := 37) rfl)
theorem b_158 : Cond.methodLink "MarbleBoard$Found" 19 y_Arrays_fill ∈ jB := jBc3 (List.mem_of_getElem? (i := 38) rfl)
theorem b_159 : Cond.fieldLink "MarbleBoard$Found" 25 "MarbleBoard$Found" "size" "I" ∈ jB := jBc3 (List.mem_of_getElem? (i := 39) rfl)
theorem b_160 : Cond.constantLong "MarbleBoard$Found" 33 (-7046029254386353131) ∈ jB := jBc4 (List.mem_of_getElem? (i := 0) rfl)
theorem b_161 : Cond.fieldLink "MarbleBoard$Found" 9 "MarbleBoard$Found" "items" "[J" ∈ jB := jBc4 (List.mem_of_getElem? (i := 1) rfl)
theorem b_162 : Cond.code y_Found_append prog_4_method_6_code 4 none ∈ jB := jBc4 (List.mem_of_getElem? (i := 2) rfl)
theorem b_163 : Cond.initialized "MarbleBoard$Found" ∈ jB := jBc4 (List.mem_of_getElem? (i := 3) rfl)
theorem b_164 : Cond.methodLink "MarbleBoard$Found" 35 y_Found_append ∈ jB := jBc4 (List.mem_of_getElem? (i := 4) rfl)
theorem b_165 : Cond.instanceMethod y_Found_append ∈ jB := jBc4 (List.mem_of_getElem? (i := 5) rfl)
theorem b_166 : Cond.selects "MarbleBoard$Found" y_Found_append y_Found_append ∈ jB := jBc4 (List.mem_of_getElem? (i := 6) rfl)
theorem b_167 : Cond.code y_Found_add prog_4_method_5_code 5 none ∈ jB := jBc4 (List.mem_of_getElem? (i := 7) rfl)
theorem b_168 : Cond.methodLink "MarbleBoard$Found" 29 y_Found_add ∈ jB := jBc4 (List.mem_of_getElem? (i := 8) rfl)
theorem b_169 : Cond.instanceMethod y_Found_add ∈ jB := jBc4 (List.mem_of_getElem? (i := 9) rfl)
theorem b_170 : Cond.selects "MarbleBoard$Found" y_Found_add y_Found_add ∈ jB := jBc4 (List.mem_of_getElem? (i := 10) rfl)
theorem b_171 : Cond.fieldLink "MarbleBoard$Search" 30 "MarbleBoard$Search" "state" "LMarbleBoard$State;" ∈ jB := jBc4 (List.mem_of_getElem? (i := 11) rfl)
theorem b_172 : Cond.code y_State_packed prog_8_method_4_code 4 (some .int) ∈ jB := jBc4 (List.mem_of_getElem? (i := 12) rfl)
theorem b_173 : Cond.methodLink "MarbleBoard$Search" 43 y_State_packed ∈ jB := jBc4 (List.mem_of_getElem? (i := 13) rfl)
theorem b_174 : Cond.instanceMethod y_State_packed ∈ jB := jBc4 (List.mem_of_getElem? (i := 14) rfl)
theorem b_175 : Cond.selects "MarbleBoard$State" y_State_packed y_State_packed ∈ jB := jBc4 (List.mem_of_getElem? (i := 15) rfl)
theorem b_176 : Cond.fieldLink "MarbleBoard$Search" 18 "MarbleBoard$Search" "sent" "[I" ∈ jB := jBc4 (List.mem_of_getElem? (i := 16) rfl)
theorem b_177 : Cond.methodLink "MarbleBoard$Search" 49 y_Arrays_fill ∈ jB := jBc4 (List.mem_of_getElem? (i := 17) rfl)
theorem b_178 : Cond.fieldLink "MarbleBoard$Search" 14 "MarbleBoard$Search" "found" "LMarbleBoard$Found;" ∈ jB := jBc4 (List.mem_of_getElem? (i := 18) rfl)
theorem b_179 : Cond.code y_Found_startWith prog_4_method_2_code 3 none ∈ jB := jBc4 (List.mem_of_getElem? (i := 19) rfl)
theorem b_180 : Cond.methodLink "MarbleBoard$Search" 55 y_Found_startWith ∈ jB := jBc4 (List.mem_of_getElem? (i := 20) rfl)
theorem b_181 : Cond.instanceMethod y_Found_startWith ∈ jB := jBc4 (List.mem_of_getElem? (i := 21) rfl)
theorem b_182 : Cond.selects "MarbleBoard$Found" y_Found_startWith y_Found_startWith ∈ jB := jBc4 (List.mem_of_getElem? (i := 22) rfl)
theorem b_183 : Cond.code y_Found_size prog_4_method_3_code 1 (some .int) ∈ jB := jBc4 (List.mem_of_getElem? (i := 23) rfl)
theorem b_184 : Cond.methodLink "MarbleBoard$Search" 59 y_Found_size ∈ jB := jBc4 (List.mem_of_getElem? (i := 24) rfl)
theorem b_185 : Cond.instanceMethod y_Found_size ∈ jB := jBc4 (List.mem_of_getElem? (i := 25) rfl)
theorem b_186 : Cond.selects "MarbleBoard$Found" y_Found_size y_Found_size ∈ jB := jBc4 (List.mem_of_getElem? (i := 26) rfl)
theorem b_187 : Cond.code y_State_restore prog_8_method_5_code 5 none ∈ jB := jBc4 (List.mem_of_getElem? (i := 27) rfl)
theorem b_188 : Cond.methodLink "MarbleBoard$Search" 70 y_State_restore ∈ jB := jBc4 (List.mem_of_getElem? (i := 28) rfl)
theorem b_189 : Cond.instanceMethod y_State_restore ∈ jB := jBc4 (List.mem_of_getElem? (i := 29) rfl)
theorem b_190 : Cond.selects "MarbleBoard$State" y_State_restore y_State_restore ∈ jB := jBc4 (List.mem_of_getElem? (i := 30) rfl)
theorem b_191 : Cond.code y_Found_get prog_4_method_4_code 2 (some .long) ∈ jB := jBc4 (List.mem_of_getElem? (i := 31) rfl)
theorem b_192 : Cond.methodLink "MarbleBoard$Search" 62 y_Found_get ∈ jB := jBc4 (List.mem_of_getElem? (i := 32) rfl)
theorem b_193 : Cond.instanceMethod y_Found_get ∈ jB := jBc4 (List.mem_of_getElem? (i := 33) rfl)
theorem b_194 : Cond.selects "MarbleBoard$Found" y_Found_get y_Found_get ∈ jB := jBc4 (List.mem_of_getElem? (i := 34) rfl)
theorem b_195 : Cond.fieldLink "MarbleBoard$Search" 22 "MarbleBoard$Search" "cells" "LMarbleBoard$Cells;" ∈ jB := jBc4 (List.mem_of_getElem? (i := 35) rfl)
theorem b_196 : Cond.methodLink "MarbleBoard$Search" 73 y_Cells_hasInlet ∈ jB := jBc4 (List.mem_of_getElem? (i := 36) rfl)
theorem b_197 : Cond.fieldLink "MarbleBoard$Search" 26 "MarbleBoard$Search" "track" "LMarbleBoard$Track;" ∈ jB := jBc4 (List.mem_of_getElem? (i := 37) rfl)
theorem b_198 : Cond.code y_Track_run prog_10_method_2_code 5 (some .int) ∈ jB := jBc4 (List.mem_of_getElem? (i := 38) rfl)
theorem b_199 : Cond.methodLink "MarbleBoard$Search" 79 y_Track_run ∈ jB := jBc4 (List.mem_of_getElem? (i := 39) rfl)
theorem b_200 : Cond.instanceMethod y_Track_run ∈ jB := jBc5 (List.mem_of_getElem? (i := 0) rfl)
theorem b_201 : Cond.selects "MarbleBoard$Track" y_Track_run y_Track_run ∈ jB := jBc5 (List.mem_of_getElem? (i := 1) rfl)
theorem b_202 : Cond.methodLink "MarbleBoard$Search" 85 y_Found_add ∈ jB := jBc5 (List.mem_of_getElem? (i := 2) rfl)
theorem b_203 : Cond.code y_Search_runFromAll prog_7_method_3_code 4 none ∈ jB := jBc5 (List.mem_of_getElem? (i := 3) rfl)
theorem b_204 : Cond.initialized "MarbleBoard$Search" ∈ jB := jBc5 (List.mem_of_getElem? (i := 4) rfl)
theorem b_205 : Cond.methodLink "MarbleBoard$Search" 66 y_Search_runFromAll ∈ jB := jBc5 (List.mem_of_getElem? (i := 5) rfl)
theorem b_206 : Cond.instanceMethod y_Search_runFromAll ∈ jB := jBc5 (List.mem_of_getElem? (i := 6) rfl)
theorem b_207 : Cond.selects "MarbleBoard$Search" y_Search_runFromAll y_Search_runFromAll ∈ jB := jBc5 (List.mem_of_getElem? (i := 7) rfl)
theorem b_208 : Cond.fieldLink "MarbleBoard$Search" 39 "MarbleBoard$Search" "crowd" "LMarbleBoard$Crowd;" ∈ jB := jBc5 (List.mem_of_getElem? (i := 8) rfl)
theorem b_209 : Cond.code y_Crowd_clear prog_3_method_2_code 1 none ∈ jB := jBc5 (List.mem_of_getElem? (i := 9) rfl)
theorem b_210 : Cond.methodLink "MarbleBoard$Search" 88 y_Crowd_clear ∈ jB := jBc5 (List.mem_of_getElem? (i := 10) rfl)
theorem b_211 : Cond.instanceMethod y_Crowd_clear ∈ jB := jBc5 (List.mem_of_getElem? (i := 11) rfl)
theorem b_212 : Cond.selects "MarbleBoard$Crowd" y_Crowd_clear y_Crowd_clear ∈ jB := jBc5 (List.mem_of_getElem? (i := 12) rfl)
theorem b_213 : Cond.code y_Crowd_size prog_3_method_3_code 1 (some .int) ∈ jB := jBc5 (List.mem_of_getElem? (i := 13) rfl)
theorem b_214 : Cond.methodLink "MarbleBoard$Search" 105 y_Crowd_size ∈ jB := jBc5 (List.mem_of_getElem? (i := 14) rfl)
theorem b_215 : Cond.instanceMethod y_Crowd_size ∈ jB := jBc5 (List.mem_of_getElem? (i := 15) rfl)
theorem b_216 : Cond.selects "MarbleBoard$Crowd" y_Crowd_size y_Crowd_size ∈ jB := jBc5 (List.mem_of_getElem? (i := 16) rfl)
theorem b_217 : Cond.code y_Crowd_marble prog_3_method_5_code 2 (some .int) ∈ jB := jBc5 (List.mem_of_getElem? (i := 17) rfl)
theorem b_218 : Cond.methodLink "MarbleBoard$Search" 118 y_Crowd_marble ∈ jB := jBc5 (List.mem_of_getElem? (i := 18) rfl)
theorem b_219 : Cond.instanceMethod y_Crowd_marble ∈ jB := jBc5 (List.mem_of_getElem? (i := 19) rfl)
theorem b_220 : Cond.selects "MarbleBoard$Crowd" y_Crowd_marble y_Crowd_marble ∈ jB := jBc5 (List.mem_of_getElem? (i := 20) rfl)
theorem b_221 : Cond.code y_Search_situation prog_7_method_8_code 5 (some .long) ∈ jB := jBc5 (List.mem_of_getElem? (i := 21) rfl)
theorem b_222 : Cond.methodLink "MarbleBoard$Search" 91 y_Search_situation ∈ jB := jBc5 (List.mem_of_getElem? (i := 22) rfl)
theorem b_223 : Cond.instanceMethod y_Search_situation ∈ jB := jBc5 (List.mem_of_getElem? (i := 23) rfl)
theorem b_224 : Cond.selects "MarbleBoard$Search" y_Search_situation y_Search_situation ∈ jB := jBc5 (List.mem_of_getElem? (i := 24) rfl)
theorem b_225 : Cond.constant "MarbleBoard$Search" 121 268435455 ∈ jB := jBc5 (List.mem_of_getElem? (i := 25) rfl)
theorem b_226 : Cond.methodLink "MarbleBoard$Search" 122 y_Crowd_add ∈ jB := jBc5 (List.mem_of_getElem? (i := 26) rfl)
theorem b_227 : Cond.code y_Search_setUp prog_7_method_9_code 5 (some .int) ∈ jB := jBc5 (List.mem_of_getElem? (i := 27) rfl)
theorem b_228 : Cond.methodLink "MarbleBoard$Search" 101 y_Search_setUp ∈ jB := jBc5 (List.mem_of_getElem? (i := 28) rfl)
theorem b_229 : Cond.instanceMethod y_Search_setUp ∈ jB := jBc5 (List.mem_of_getElem? (i := 29) rfl)
theorem b_230 : Cond.selects "MarbleBoard$Search" y_Search_setUp y_Search_setUp ∈ jB := jBc5 (List.mem_of_getElem? (i := 30) rfl)
theorem b_231 : Cond.code y_Crowd_moveAll prog_3_method_8_code 3 (some .int) ∈ jB := jBc5 (List.mem_of_getElem? (i := 31) rfl)
theorem b_232 : Cond.methodLink "MarbleBoard$Search" 106 y_Crowd_moveAll ∈ jB := jBc5 (List.mem_of_getElem? (i := 32) rfl)
theorem b_233 : Cond.instanceMethod y_Crowd_moveAll ∈ jB := jBc5 (List.mem_of_getElem? (i := 33) rfl)
theorem b_234 : Cond.selects "MarbleBoard$Crowd" y_Crowd_moveAll y_Crowd_moveAll ∈ jB := jBc5 (List.mem_of_getElem? (i := 34) rfl)
theorem b_235 : Cond.code y_Crowd_held prog_3_method_4_code 1 (some .int) ∈ jB := jBc5 (List.mem_of_getElem? (i := 35) rfl)
theorem b_236 : Cond.methodLink "MarbleBoard$Search" 109 y_Crowd_held ∈ jB := jBc5 (List.mem_of_getElem? (i := 36) rfl)
theorem b_237 : Cond.instanceMethod y_Crowd_held ∈ jB := jBc5 (List.mem_of_getElem? (i := 37) rfl)
theorem b_238 : Cond.selects "MarbleBoard$Crowd" y_Crowd_held y_Crowd_held ∈ jB := jBc5 (List.mem_of_getElem? (i := 38) rfl)
theorem b_239 : Cond.code y_Search_tickJams prog_7_method_6_code 5 (some .boolean) ∈ jB := jBc5 (List.mem_of_getElem? (i := 39) rfl)
theorem b_240 : Cond.methodLink "MarbleBoard$Search" 94 y_Search_tickJams ∈ jB := jBc6 (List.mem_of_getElem? (i := 0) rfl)
theorem b_241 : Cond.instanceMethod y_Search_tickJams ∈ jB := jBc6 (List.mem_of_getElem? (i := 1) rfl)
theorem b_242 : Cond.selects "MarbleBoard$Search" y_Search_tickJams y_Search_tickJams ∈ jB := jBc6 (List.mem_of_getElem? (i := 2) rfl)
theorem b_243 : Cond.methodLink "MarbleBoard$Search" 112 y_Cells_below ∈ jB := jBc6 (List.mem_of_getElem? (i := 3) rfl)
theorem b_244 : Cond.code y_Crowd_admit prog_3_method_6_code 2 (some .boolean) ∈ jB := jBc6 (List.mem_of_getElem? (i := 4) rfl)
theorem b_245 : Cond.methodLink "MarbleBoard$Search" 115 y_Crowd_admit ∈ jB := jBc6 (List.mem_of_getElem? (i := 5) rfl)
theorem b_246 : Cond.instanceMethod y_Crowd_admit ∈ jB := jBc6 (List.mem_of_getElem? (i := 6) rfl)
theorem b_247 : Cond.selects "MarbleBoard$Crowd" y_Crowd_admit y_Crowd_admit ∈ jB := jBc6 (List.mem_of_getElem? (i := 7) rfl)
theorem b_248 : Cond.code y_Search_letAllCome prog_7_method_7_code 5 none ∈ jB := jBc6 (List.mem_of_getElem? (i := 8) rfl)
theorem b_249 : Cond.methodLink "MarbleBoard$Search" 98 y_Search_letAllCome ∈ jB := jBc6 (List.mem_of_getElem? (i := 9) rfl)
theorem b_250 : Cond.instanceMethod y_Search_letAllCome ∈ jB := jBc6 (List.mem_of_getElem? (i := 10) rfl)
theorem b_251 : Cond.selects "MarbleBoard$Search" y_Search_letAllCome y_Search_letAllCome ∈ jB := jBc6 (List.mem_of_getElem? (i := 11) rfl)
theorem b_252 : Cond.fieldLink "java/lang/String" 38 "java/lang/String" "COMPACT_STRINGS" "Z" ∈ jB := jBc6 (List.mem_of_getElem? (i := 12) rfl)
theorem b_253 : Cond.fieldLink "java/lang/String" 15 "java/lang/String" "coder" "B" ∈ jB := jBc6 (List.mem_of_getElem? (i := 13) rfl)
theorem b_254 : Cond.code y_String_isLatin1 prog_19_method_154_code 1 (some .boolean) ∈ jB := jBc6 (List.mem_of_getElem? (i := 14) rfl)
theorem b_255 : Cond.initialized "java/lang/String" ∈ jB := jBc6 (List.mem_of_getElem? (i := 15) rfl)
theorem b_256 : Cond.methodLink "java/lang/String" 492 y_String_isLatin1 ∈ jB := jBc6 (List.mem_of_getElem? (i := 16) rfl)
theorem b_257 : Cond.instanceMethod y_String_isLatin1 ∈ jB := jBc6 (List.mem_of_getElem? (i := 17) rfl)
theorem b_258 : Cond.selects "java/lang/String" y_String_isLatin1 y_String_isLatin1 ∈ jB := jBc6 (List.mem_of_getElem? (i := 18) rfl)
theorem b_259 : Cond.fieldLink "java/lang/String" 9 "java/lang/String" "value" "[B" ∈ jB := jBc6 (List.mem_of_getElem? (i := 19) rfl)
theorem b_260 : Cond.code y_String_coder prog_19_method_152_code 1 (some .byte) ∈ jB := jBc6 (List.mem_of_getElem? (i := 20) rfl)
theorem b_261 : Cond.methodLink "java/lang/String" 335 y_String_coder ∈ jB := jBc6 (List.mem_of_getElem? (i := 21) rfl)
theorem b_262 : Cond.instanceMethod y_String_coder ∈ jB := jBc6 (List.mem_of_getElem? (i := 22) rfl)
theorem b_263 : Cond.selects "java/lang/String" y_String_coder y_String_coder ∈ jB := jBc6 (List.mem_of_getElem? (i := 23) rfl)
theorem b_264 : Cond.code y_String_length prog_19_method_54_code 1 (some .int) ∈ jB := jBc6 (List.mem_of_getElem? (i := 24) rfl)
theorem b_265 : Cond.methodLink "java/lang/String" 505 y_String_length ∈ jB := jBc6 (List.mem_of_getElem? (i := 25) rfl)
theorem b_266 : Cond.instanceMethod y_String_length ∈ jB := jBc6 (List.mem_of_getElem? (i := 26) rfl)
theorem b_267 : Cond.selects "java/lang/String" y_String_length y_String_length ∈ jB := jBc6 (List.mem_of_getElem? (i := 27) rfl)
theorem b_268 : Cond.code y_StringLatin1_canEncode prog_20_method_4_code 1 (some .boolean) ∈ jB := jBc6 (List.mem_of_getElem? (i := 28) rfl)
theorem b_269 : Cond.initialized "java/lang/StringLatin1" ∈ jB := jBc6 (List.mem_of_getElem? (i := 29) rfl)
theorem b_270 : Cond.methodLink "java/lang/StringLatin1" 88 y_StringLatin1_canEncode ∈ jB := jBc6 (List.mem_of_getElem? (i := 30) rfl)
theorem b_271 : Cond.static y_StringLatin1_canEncode ∈ jB := jBc6 (List.mem_of_getElem? (i := 31) rfl)
theorem b_272 : Cond.methodLink "java/lang/StringLatin1" 92 Lib.Math.max.name ∈ jB := jBc6 (List.mem_of_getElem? (i := 32) rfl)
theorem b_273 : Cond.static Lib.Math.max.name ∈ jB := jBc6 (List.mem_of_getElem? (i := 33) rfl)
theorem b_274 : Cond.code Lib.Math.max.name Lib.Math.max.code 2 (some .int) ∈ jB := jBc6 (List.mem_of_getElem? (i := 34) rfl)
theorem b_275 : Cond.methodLink "java/lang/StringLatin1" 38 Lib.Math.min.name ∈ jB := jBc6 (List.mem_of_getElem? (i := 35) rfl)
theorem b_276 : Cond.code y_StringLatin1_indexOfChar prog_20_method_23_code 6 (some .int) ∈ jB := jBc6 (List.mem_of_getElem? (i := 36) rfl)
theorem b_277 : Cond.methodLink "java/lang/StringLatin1" 95 y_StringLatin1_indexOfChar ∈ jB := jBc6 (List.mem_of_getElem? (i := 37) rfl)
theorem b_278 : Cond.static y_StringLatin1_indexOfChar ∈ jB := jBc6 (List.mem_of_getElem? (i := 38) rfl)
theorem b_279 : Cond.code y_StringLatin1_indexOf prog_20_method_22_code 4 (some .int) ∈ jB := jBc6 (List.mem_of_getElem? (i := 39) rfl)
theorem b_280 : Cond.methodLink "java/lang/String" 637 y_StringLatin1_indexOf ∈ jB := jBc7 (List.mem_of_getElem? (i := 0) rfl)
theorem b_281 : Cond.static y_StringLatin1_indexOf ∈ jB := jBc7 (List.mem_of_getElem? (i := 1) rfl)
theorem b_282 : Cond.code y_String_indexOf_o1 prog_19_method_80_code 3 (some .int) ∈ jB := jBc7 (List.mem_of_getElem? (i := 2) rfl)
theorem b_283 : Cond.methodLink "java/lang/String" 633 y_String_indexOf_o1 ∈ jB := jBc7 (List.mem_of_getElem? (i := 3) rfl)
theorem b_284 : Cond.instanceMethod y_String_indexOf_o1 ∈ jB := jBc7 (List.mem_of_getElem? (i := 4) rfl)
theorem b_285 : Cond.selects "java/lang/String" y_String_indexOf_o1 y_String_indexOf_o1 ∈ jB := jBc7 (List.mem_of_getElem? (i := 5) rfl)
theorem b_286 : Cond.code y_MarbleBoard_isWithin prog_1_method_30_code 3 (some .boolean) ∈ jB := jBc7 (List.mem_of_getElem? (i := 6) rfl)
theorem b_287 : Cond.methodLink "MarbleBoard" 71 y_MarbleBoard_isWithin ∈ jB := jBc7 (List.mem_of_getElem? (i := 7) rfl)
theorem b_288 : Cond.static y_MarbleBoard_isWithin ∈ jB := jBc7 (List.mem_of_getElem? (i := 8) rfl)
theorem b_289 : Cond.fieldLink "MarbleBoard" 134 "MarbleBoard" "frozen" "Z" ∈ jB := jBc7 (List.mem_of_getElem? (i := 9) rfl)
theorem b_290 : Cond.fieldLink "MarbleBoard" 226 "MarbleBoard" "inputs" "I" ∈ jB := jBc7 (List.mem_of_getElem? (i := 10) rfl)
theorem b_291 : Cond.fieldLink "MarbleBoard" 48 "MarbleBoard" "crowd" "LMarbleBoard$Crowd;" ∈ jB := jBc7 (List.mem_of_getElem? (i := 11) rfl)
theorem b_292 : Cond.methodLink "MarbleBoard" 234 y_Crowd_clear ∈ jB := jBc7 (List.mem_of_getElem? (i := 12) rfl)
theorem b_293 : Cond.code y_MarbleBoard_startBuilding prog_1_method_25_code 1 none ∈ jB := jBc7 (List.mem_of_getElem? (i := 13) rfl)
theorem b_294 : Cond.methodLink "MarbleBoard" 78 y_MarbleBoard_startBuilding ∈ jB := jBc7 (List.mem_of_getElem? (i := 14) rfl)
theorem b_295 : Cond.instanceMethod y_MarbleBoard_startBuilding ∈ jB := jBc7 (List.mem_of_getElem? (i := 15) rfl)
theorem b_296 : Cond.selects "MarbleBoard" y_MarbleBoard_startBuilding y_MarbleBoard_startBuilding ∈ jB := jBc7 (List.mem_of_getElem? (i := 16) rfl)
theorem b_297 : Cond.fieldLink "MarbleBoard" 10 "MarbleBoard" "cells" "LMarbleBoard$Cells;" ∈ jB := jBc7 (List.mem_of_getElem? (i := 17) rfl)
theorem b_298 : Cond.code y_Cells_clear prog_2_method_2_code 5 none ∈ jB := jBc7 (List.mem_of_getElem? (i := 18) rfl)
theorem b_299 : Cond.methodLink "MarbleBoard" 81 y_Cells_clear ∈ jB := jBc7 (List.mem_of_getElem? (i := 19) rfl)
theorem b_300 : Cond.instanceMethod y_Cells_clear ∈ jB := jBc7 (List.mem_of_getElem? (i := 20) rfl)
theorem b_301 : Cond.selects "MarbleBoard$Cells" y_Cells_clear y_Cells_clear ∈ jB := jBc7 (List.mem_of_getElem? (i := 21) rfl)
theorem b_302 : Cond.methodLink "MarbleBoard" 85 y_Cells_has ∈ jB := jBc7 (List.mem_of_getElem? (i := 22) rfl)
theorem b_303 : Cond.methodLink "MarbleBoard" 93 y_Cells_width ∈ jB := jBc7 (List.mem_of_getElem? (i := 23) rfl)
theorem b_304 : Cond.constantLong "MarbleBoard" 253 255 ∈ jB := jBc7 (List.mem_of_getElem? (i := 24) rfl)
theorem b_305 : Cond.code y_MarbleBoard_byteOf prog_1_method_29_code 7 (some .char) ∈ jB := jBc7 (List.mem_of_getElem? (i := 25) rfl)
theorem b_306 : Cond.methodLink "MarbleBoard" 97 y_MarbleBoard_byteOf ∈ jB := jBc7 (List.mem_of_getElem? (i := 26) rfl)
theorem b_307 : Cond.static y_MarbleBoard_byteOf ∈ jB := jBc7 (List.mem_of_getElem? (i := 27) rfl)
theorem b_308 : Cond.code y_String_indexOf prog_19_method_79_code 2 (some .int) ∈ jB := jBc7 (List.mem_of_getElem? (i := 28) rfl)
theorem b_309 : Cond.methodLink "MarbleBoard" 248 y_String_indexOf ∈ jB := jBc7 (List.mem_of_getElem? (i := 29) rfl)
theorem b_310 : Cond.instanceMethod y_String_indexOf ∈ jB := jBc7 (List.mem_of_getElem? (i := 30) rfl)
theorem b_311 : Cond.selects "java/lang/String" y_String_indexOf y_String_indexOf ∈ jB := jBc7 (List.mem_of_getElem? (i := 31) rfl)
theorem b_312 : Cond.code y_MarbleBoard_tellsCell prog_1_method_28_code 1 (some .boolean) ∈ jB := jBc7 (List.mem_of_getElem? (i := 32) rfl)
theorem b_313 : Cond.methodLink "MarbleBoard" 105 y_MarbleBoard_tellsCell ∈ jB := jBc7 (List.mem_of_getElem? (i := 33) rfl)
theorem b_314 : Cond.static y_MarbleBoard_tellsCell ∈ jB := jBc7 (List.mem_of_getElem? (i := 34) rfl)
theorem b_315 : Cond.code y_MarbleBoard_tellsCells prog_1_method_27_code 6 (some .boolean) ∈ jB := jBc7 (List.mem_of_getElem? (i := 35) rfl)
theorem b_316 : Cond.methodLink "MarbleBoard" 89 y_MarbleBoard_tellsCells ∈ jB := jBc7 (List.mem_of_getElem? (i := 36) rfl)
theorem b_317 : Cond.instanceMethod y_MarbleBoard_tellsCells ∈ jB := jBc7 (List.mem_of_getElem? (i := 37) rfl)
theorem b_318 : Cond.selects "MarbleBoard" y_MarbleBoard_tellsCells y_MarbleBoard_tellsCells ∈ jB := jBc7 (List.mem_of_getElem? (i := 38) rfl)
theorem b_319 : Cond.methodLink "MarbleBoard" 101 y_Cells_put ∈ jB := jBc7 (List.mem_of_getElem? (i := 39) rfl)
theorem b_320 : Cond.methodLink "MarbleBoard" 109 y_MarbleBoard_spotOf ∈ jB := jBc8 (List.mem_of_getElem? (i := 0) rfl)
theorem b_321 : Cond.methodLink "MarbleBoard" 113 y_Cells_kindAt ∈ jB := jBc8 (List.mem_of_getElem? (i := 1) rfl)
theorem b_322 : Cond.code y_Cells_setPattern prog_2_method_16_code 4 none ∈ jB := jBc8 (List.mem_of_getElem? (i := 2) rfl)
theorem b_323 : Cond.methodLink "MarbleBoard" 117 y_Cells_setPattern ∈ jB := jBc8 (List.mem_of_getElem? (i := 3) rfl)
theorem b_324 : Cond.instanceMethod y_Cells_setPattern ∈ jB := jBc8 (List.mem_of_getElem? (i := 4) rfl)
theorem b_325 : Cond.selects "MarbleBoard$Cells" y_Cells_setPattern y_Cells_setPattern ∈ jB := jBc8 (List.mem_of_getElem? (i := 5) rfl)
theorem b_326 : Cond.code y_Cells_setInlet prog_2_method_19_code 3 none ∈ jB := jBc8 (List.mem_of_getElem? (i := 6) rfl)
theorem b_327 : Cond.methodLink "MarbleBoard" 121 y_Cells_setInlet ∈ jB := jBc8 (List.mem_of_getElem? (i := 7) rfl)
theorem b_328 : Cond.instanceMethod y_Cells_setInlet ∈ jB := jBc8 (List.mem_of_getElem? (i := 8) rfl)
theorem b_329 : Cond.selects "MarbleBoard$Cells" y_Cells_setInlet y_Cells_setInlet ∈ jB := jBc8 (List.mem_of_getElem? (i := 9) rfl)
theorem b_330 : Cond.code y_Cells_hasAnyInlet prog_2_method_21_code 2 (some .boolean) ∈ jB := jBc8 (List.mem_of_getElem? (i := 10) rfl)
theorem b_331 : Cond.methodLink "MarbleBoard" 124 y_Cells_hasAnyInlet ∈ jB := jBc8 (List.mem_of_getElem? (i := 11) rfl)
theorem b_332 : Cond.instanceMethod y_Cells_hasAnyInlet ∈ jB := jBc8 (List.mem_of_getElem? (i := 12) rfl)
theorem b_333 : Cond.selects "MarbleBoard$Cells" y_Cells_hasAnyInlet y_Cells_hasAnyInlet ∈ jB := jBc8 (List.mem_of_getElem? (i := 13) rfl)
theorem b_334 : Cond.fieldLink "MarbleBoard" 28 "MarbleBoard" "survey" "LMarbleBoard$Survey;" ∈ jB := jBc8 (List.mem_of_getElem? (i := 14) rfl)
theorem b_335 : Cond.code y_Survey_firstHole prog_9_method_2_code 3 (some .int) ∈ jB := jBc8 (List.mem_of_getElem? (i := 15) rfl)
theorem b_336 : Cond.methodLink "MarbleBoard" 138 y_Survey_firstHole ∈ jB := jBc8 (List.mem_of_getElem? (i := 16) rfl)
theorem b_337 : Cond.instanceMethod y_Survey_firstHole ∈ jB := jBc8 (List.mem_of_getElem? (i := 17) rfl)
theorem b_338 : Cond.selects "MarbleBoard$Survey" y_Survey_firstHole y_Survey_firstHole ∈ jB := jBc8 (List.mem_of_getElem? (i := 18) rfl)
theorem b_339 : Cond.fieldLink "MarbleBoard" 39 "MarbleBoard" "counts" "[I" ∈ jB := jBc8 (List.mem_of_getElem? (i := 19) rfl)
theorem b_340 : Cond.methodLink "MarbleBoard" 239 y_Arrays_fill ∈ jB := jBc8 (List.mem_of_getElem? (i := 20) rfl)
theorem b_341 : Cond.fieldLink "MarbleBoard" 55 "MarbleBoard" "past" "LMarbleBoard$Past;" ∈ jB := jBc8 (List.mem_of_getElem? (i := 21) rfl)
theorem b_342 : Cond.code y_Past_clear prog_6_method_2_code 1 none ∈ jB := jBc8 (List.mem_of_getElem? (i := 22) rfl)
theorem b_343 : Cond.initialized "MarbleBoard$Past" ∈ jB := jBc8 (List.mem_of_getElem? (i := 23) rfl)
theorem b_344 : Cond.methodLink "MarbleBoard" 245 y_Past_clear ∈ jB := jBc8 (List.mem_of_getElem? (i := 24) rfl)
theorem b_345 : Cond.instanceMethod y_Past_clear ∈ jB := jBc8 (List.mem_of_getElem? (i := 25) rfl)
theorem b_346 : Cond.selects "MarbleBoard$Past" y_Past_clear y_Past_clear ∈ jB := jBc8 (List.mem_of_getElem? (i := 26) rfl)
theorem b_347 : Cond.fieldLink "MarbleBoard" 35 "MarbleBoard" "state" "LMarbleBoard$State;" ∈ jB := jBc8 (List.mem_of_getElem? (i := 27) rfl)
theorem b_348 : Cond.code y_State_gather prog_8_method_2_code 3 (some .boolean) ∈ jB := jBc8 (List.mem_of_getElem? (i := 28) rfl)
theorem b_349 : Cond.methodLink "MarbleBoard" 236 y_State_gather ∈ jB := jBc8 (List.mem_of_getElem? (i := 29) rfl)
theorem b_350 : Cond.instanceMethod y_State_gather ∈ jB := jBc8 (List.mem_of_getElem? (i := 30) rfl)
theorem b_351 : Cond.selects "MarbleBoard$State" y_State_gather y_State_gather ∈ jB := jBc8 (List.mem_of_getElem? (i := 31) rfl)
theorem b_352 : Cond.code y_MarbleBoard_freezeIfSound prog_1_method_26_code 1 none ∈ jB := jBc8 (List.mem_of_getElem? (i := 32) rfl)
theorem b_353 : Cond.methodLink "MarbleBoard" 131 y_MarbleBoard_freezeIfSound ∈ jB := jBc8 (List.mem_of_getElem? (i := 33) rfl)
theorem b_354 : Cond.instanceMethod y_MarbleBoard_freezeIfSound ∈ jB := jBc8 (List.mem_of_getElem? (i := 34) rfl)
theorem b_355 : Cond.selects "MarbleBoard" y_MarbleBoard_freezeIfSound y_MarbleBoard_freezeIfSound ∈ jB := jBc8 (List.mem_of_getElem? (i := 35) rfl)
theorem b_356 : Cond.code y_Cells_characterAt prog_2_method_10_code 2 (some .char) ∈ jB := jBc8 (List.mem_of_getElem? (i := 36) rfl)
theorem b_357 : Cond.methodLink "MarbleBoard" 141 y_Cells_characterAt ∈ jB := jBc8 (List.mem_of_getElem? (i := 37) rfl)
theorem b_358 : Cond.instanceMethod y_Cells_characterAt ∈ jB := jBc8 (List.mem_of_getElem? (i := 38) rfl)
theorem b_359 : Cond.selects "MarbleBoard$Cells" y_Cells_characterAt y_Cells_characterAt ∈ jB := jBc8 (List.mem_of_getElem? (i := 39) rfl)
theorem b_360 : Cond.methodLink "MarbleBoard" 144 y_Cells_isMoving ∈ jB := jBc9 (List.mem_of_getElem? (i := 0) rfl)
theorem b_361 : Cond.methodLink "MarbleBoard" 148 y_Cells_valueAt ∈ jB := jBc9 (List.mem_of_getElem? (i := 1) rfl)
theorem b_362 : Cond.methodLink "MarbleBoard" 152 y_Cells_greatestValue ∈ jB := jBc9 (List.mem_of_getElem? (i := 2) rfl)
theorem b_363 : Cond.methodLink "MarbleBoard" 155 y_Cells_setValue ∈ jB := jBc9 (List.mem_of_getElem? (i := 3) rfl)
theorem b_364 : Cond.methodLink "MarbleBoard" 158 y_Crowd_size ∈ jB := jBc9 (List.mem_of_getElem? (i := 4) rfl)
theorem b_365 : Cond.methodLink "MarbleBoard" 161 y_Cells_hasInlet ∈ jB := jBc9 (List.mem_of_getElem? (i := 5) rfl)
theorem b_366 : Cond.methodLink "MarbleBoard" 164 y_State_packed ∈ jB := jBc9 (List.mem_of_getElem? (i := 6) rfl)
theorem b_367 : Cond.fieldLink "MarbleBoard" 21 "MarbleBoard" "track" "LMarbleBoard$Track;" ∈ jB := jBc9 (List.mem_of_getElem? (i := 7) rfl)
theorem b_368 : Cond.methodLink "MarbleBoard" 167 y_Track_run ∈ jB := jBc9 (List.mem_of_getElem? (i := 8) rfl)
theorem b_369 : Cond.code y_Past_keep prog_6_method_4_code 3 none ∈ jB := jBc9 (List.mem_of_getElem? (i := 9) rfl)
theorem b_370 : Cond.methodLink "MarbleBoard" 174 y_Past_keep ∈ jB := jBc9 (List.mem_of_getElem? (i := 10) rfl)
theorem b_371 : Cond.instanceMethod y_Past_keep ∈ jB := jBc9 (List.mem_of_getElem? (i := 11) rfl)
theorem b_372 : Cond.selects "MarbleBoard$Past" y_Past_keep y_Past_keep ∈ jB := jBc9 (List.mem_of_getElem? (i := 12) rfl)
theorem b_373 : Cond.methodLink "MarbleBoard" 170 y_State_restore ∈ jB := jBc9 (List.mem_of_getElem? (i := 13) rfl)
theorem b_374 : Cond.code y_Past_isEmpty prog_6_method_3_code 1 (some .boolean) ∈ jB := jBc9 (List.mem_of_getElem? (i := 14) rfl)
theorem b_375 : Cond.methodLink "MarbleBoard" 177 y_Past_isEmpty ∈ jB := jBc9 (List.mem_of_getElem? (i := 15) rfl)
theorem b_376 : Cond.instanceMethod y_Past_isEmpty ∈ jB := jBc9 (List.mem_of_getElem? (i := 16) rfl)
theorem b_377 : Cond.selects "MarbleBoard$Past" y_Past_isEmpty y_Past_isEmpty ∈ jB := jBc9 (List.mem_of_getElem? (i := 17) rfl)
theorem b_378 : Cond.code y_Past_stepBack prog_6_method_5_code 1 none ∈ jB := jBc9 (List.mem_of_getElem? (i := 18) rfl)
theorem b_379 : Cond.methodLink "MarbleBoard" 180 y_Past_stepBack ∈ jB := jBc9 (List.mem_of_getElem? (i := 19) rfl)
theorem b_380 : Cond.instanceMethod y_Past_stepBack ∈ jB := jBc9 (List.mem_of_getElem? (i := 20) rfl)
theorem b_381 : Cond.selects "MarbleBoard$Past" y_Past_stepBack y_Past_stepBack ∈ jB := jBc9 (List.mem_of_getElem? (i := 21) rfl)
theorem b_382 : Cond.code y_Past_stateThere prog_6_method_6_code 1 (some .int) ∈ jB := jBc9 (List.mem_of_getElem? (i := 22) rfl)
theorem b_383 : Cond.methodLink "MarbleBoard" 183 y_Past_stateThere ∈ jB := jBc9 (List.mem_of_getElem? (i := 23) rfl)
theorem b_384 : Cond.instanceMethod y_Past_stateThere ∈ jB := jBc9 (List.mem_of_getElem? (i := 24) rfl)
theorem b_385 : Cond.selects "MarbleBoard$Past" y_Past_stateThere y_Past_stateThere ∈ jB := jBc9 (List.mem_of_getElem? (i := 25) rfl)
theorem b_386 : Cond.code y_Past_outletThere prog_6_method_7_code 1 (some .int) ∈ jB := jBc9 (List.mem_of_getElem? (i := 26) rfl)
theorem b_387 : Cond.methodLink "MarbleBoard" 186 y_Past_outletThere ∈ jB := jBc9 (List.mem_of_getElem? (i := 27) rfl)
theorem b_388 : Cond.instanceMethod y_Past_outletThere ∈ jB := jBc9 (List.mem_of_getElem? (i := 28) rfl)
theorem b_389 : Cond.selects "MarbleBoard$Past" y_Past_outletThere y_Past_outletThere ∈ jB := jBc9 (List.mem_of_getElem? (i := 29) rfl)
theorem b_390 : Cond.methodLink "MarbleBoard" 189 y_Cells_below ∈ jB := jBc9 (List.mem_of_getElem? (i := 30) rfl)
theorem b_391 : Cond.methodLink "MarbleBoard" 192 y_Crowd_admit ∈ jB := jBc9 (List.mem_of_getElem? (i := 31) rfl)
theorem b_392 : Cond.methodLink "MarbleBoard" 195 y_Crowd_moveAll ∈ jB := jBc9 (List.mem_of_getElem? (i := 32) rfl)
theorem b_393 : Cond.methodLink "MarbleBoard" 201 y_Crowd_marble ∈ jB := jBc9 (List.mem_of_getElem? (i := 33) rfl)
theorem b_394 : Cond.methodLink "MarbleBoard" 204 y_Cells_placeOf ∈ jB := jBc9 (List.mem_of_getElem? (i := 34) rfl)
theorem b_395 : Cond.methodLink "MarbleBoard" 198 y_Crowd_held ∈ jB := jBc9 (List.mem_of_getElem? (i := 35) rfl)
theorem b_396 : Cond.fieldLink "MarbleBoard" 64 "MarbleBoard" "search" "LMarbleBoard$Search;" ∈ jB := jBc9 (List.mem_of_getElem? (i := 36) rfl)
theorem b_397 : Cond.code y_Search_countStates prog_7_method_2_code 4 (some .int) ∈ jB := jBc9 (List.mem_of_getElem? (i := 37) rfl)
theorem b_398 : Cond.methodLink "MarbleBoard" 207 y_Search_countStates ∈ jB := jBc9 (List.mem_of_getElem? (i := 38) rfl)
theorem b_399 : Cond.instanceMethod y_Search_countStates ∈ jB := jBc9 (List.mem_of_getElem? (i := 39) rfl)
theorem b_400 : Cond.selects "MarbleBoard$Search" y_Search_countStates y_Search_countStates ∈ jB := jBc10 (List.mem_of_getElem? (i := 0) rfl)
theorem b_401 : Cond.code y_Search_wasSent prog_7_method_4_code 3 (some .boolean) ∈ jB := jBc10 (List.mem_of_getElem? (i := 1) rfl)
theorem b_402 : Cond.methodLink "MarbleBoard" 210 y_Search_wasSent ∈ jB := jBc10 (List.mem_of_getElem? (i := 2) rfl)
theorem b_403 : Cond.instanceMethod y_Search_wasSent ∈ jB := jBc10 (List.mem_of_getElem? (i := 3) rfl)
theorem b_404 : Cond.selects "MarbleBoard$Search" y_Search_wasSent y_Search_wasSent ∈ jB := jBc10 (List.mem_of_getElem? (i := 4) rfl)
theorem b_405 : Cond.code y_Search_findJam prog_7_method_5_code 5 (some .int) ∈ jB := jBc10 (List.mem_of_getElem? (i := 5) rfl)
theorem b_406 : Cond.methodLink "MarbleBoard" 213 y_Search_findJam ∈ jB := jBc10 (List.mem_of_getElem? (i := 6) rfl)
theorem b_407 : Cond.instanceMethod y_Search_findJam ∈ jB := jBc10 (List.mem_of_getElem? (i := 7) rfl)
theorem b_408 : Cond.selects "MarbleBoard$Search" y_Search_findJam y_Search_findJam ∈ jB := jBc10 (List.mem_of_getElem? (i := 8) rfl)
theorem b_409 : Cond.methodLink "MarbleBoard$Layout" 9 y_Cells_clear ∈ jB := jBc10 (List.mem_of_getElem? (i := 9) rfl)
theorem b_410 : Cond.methodLink "MarbleBoard$Layout" 15 y_Cells_setInlet ∈ jB := jBc10 (List.mem_of_getElem? (i := 10) rfl)
theorem b_411 : Cond.methodLink "MarbleBoard$Layout" 18 y_Cells_put ∈ jB := jBc10 (List.mem_of_getElem? (i := 11) rfl)
theorem b_412 : Cond.code y_Layout_layCounter prog_5_method_2_code 4 none ∈ jB := jBc10 (List.mem_of_getElem? (i := 12) rfl)
theorem b_413 : Cond.initialized "MarbleBoard$Layout" ∈ jB := jBc10 (List.mem_of_getElem? (i := 13) rfl)
theorem b_414 : Cond.methodLink "MarbleBoard" 216 y_Layout_layCounter ∈ jB := jBc10 (List.mem_of_getElem? (i := 14) rfl)
theorem b_415 : Cond.static y_Layout_layCounter ∈ jB := jBc10 (List.mem_of_getElem? (i := 15) rfl)
theorem b_416 : Cond.fieldLink "MarbleBoard" 68 "MarbleBoard" "told" "[I" ∈ jB := jBc10 (List.mem_of_getElem? (i := 16) rfl)
theorem b_417 : Cond.code y_Layout_reachOf prog_5_method_5_code 2 (some .int) ∈ jB := jBc10 (List.mem_of_getElem? (i := 17) rfl)
theorem b_418 : Cond.methodLink "MarbleBoard$Layout" 22 y_Layout_reachOf ∈ jB := jBc10 (List.mem_of_getElem? (i := 18) rfl)
theorem b_419 : Cond.static y_Layout_reachOf ∈ jB := jBc10 (List.mem_of_getElem? (i := 19) rfl)
theorem b_420 : Cond.code y_Layout_latchRow prog_5_method_6_code 4 (some .int) ∈ jB := jBc10 (List.mem_of_getElem? (i := 20) rfl)
theorem b_421 : Cond.methodLink "MarbleBoard$Layout" 28 y_Layout_latchRow ∈ jB := jBc10 (List.mem_of_getElem? (i := 21) rfl)
theorem b_422 : Cond.static y_Layout_latchRow ∈ jB := jBc10 (List.mem_of_getElem? (i := 22) rfl)
theorem b_423 : Cond.code y_Layout_layLatch prog_5_method_4_code 5 none ∈ jB := jBc10 (List.mem_of_getElem? (i := 23) rfl)
theorem b_424 : Cond.methodLink "MarbleBoard$Layout" 31 y_Layout_layLatch ∈ jB := jBc10 (List.mem_of_getElem? (i := 24) rfl)
theorem b_425 : Cond.static y_Layout_layLatch ∈ jB := jBc10 (List.mem_of_getElem? (i := 25) rfl)
theorem b_426 : Cond.code y_Layout_layTable prog_5_method_3_code 8 none ∈ jB := jBc10 (List.mem_of_getElem? (i := 26) rfl)
theorem b_427 : Cond.methodLink "MarbleBoard" 222 y_Layout_layTable ∈ jB := jBc10 (List.mem_of_getElem? (i := 27) rfl)
theorem b_428 : Cond.static y_Layout_layTable ∈ jB := jBc10 (List.mem_of_getElem? (i := 28) rfl)
theorem b_429 : Cond.methodLink "MarbleBoard$Layout" 35 y_Cells_width ∈ jB := jBc10 (List.mem_of_getElem? (i := 29) rfl)
theorem b_430 : Cond.methodLink "MarbleBoard$Layout" 42 y_Cells_kindAt ∈ jB := jBc10 (List.mem_of_getElem? (i := 30) rfl)
theorem b_431 : Cond.methodLink "MarbleBoard$Layout" 46 y_Cells_setValue ∈ jB := jBc10 (List.mem_of_getElem? (i := 31) rfl)
theorem b_432 : Cond.code y_Layout_leanInput prog_5_method_7_code 6 none ∈ jB := jBc10 (List.mem_of_getElem? (i := 32) rfl)
theorem b_433 : Cond.methodLink "MarbleBoard" 230 y_Layout_leanInput ∈ jB := jBc10 (List.mem_of_getElem? (i := 33) rfl)
theorem b_434 : Cond.static y_Layout_leanInput ∈ jB := jBc10 (List.mem_of_getElem? (i := 34) rfl)
theorem b_435 : Cond.code y_MarbleBoard_board prog_1_method_2_code 3 none ∈ jB := jBc10 (List.mem_of_getElem? (i := 35) rfl)
theorem b_436 : Cond.methodLink "MarbleBoardLaw" 7 y_MarbleBoard_board ∈ jB := jBc10 (List.mem_of_getElem? (i := 36) rfl)
theorem b_437 : Cond.instanceMethod y_MarbleBoard_board ∈ jB := jBc10 (List.mem_of_getElem? (i := 37) rfl)
theorem b_438 : Cond.selects "MarbleBoard" y_MarbleBoard_board y_MarbleBoard_board ∈ jB := jBc10 (List.mem_of_getElem? (i := 38) rfl)
theorem b_439 : Cond.classLink "MarbleBoardLaw" 13 "java/lang/IllegalArgumentException" ∈ jB := jBc10 (List.mem_of_getElem? (i := 39) rfl)
theorem b_440 : Cond.code y_MarbleBoard_row prog_1_method_3_code 7 none ∈ jB := jBc11 (List.mem_of_getElem? (i := 0) rfl)
theorem b_441 : Cond.methodLink "MarbleBoardLaw" 15 y_MarbleBoard_row ∈ jB := jBc11 (List.mem_of_getElem? (i := 1) rfl)
theorem b_442 : Cond.instanceMethod y_MarbleBoard_row ∈ jB := jBc11 (List.mem_of_getElem? (i := 2) rfl)
theorem b_443 : Cond.selects "MarbleBoard" y_MarbleBoard_row y_MarbleBoard_row ∈ jB := jBc11 (List.mem_of_getElem? (i := 3) rfl)
theorem b_444 : Cond.code y_MarbleBoard_cell prog_1_method_4_code 4 none ∈ jB := jBc11 (List.mem_of_getElem? (i := 4) rfl)
theorem b_445 : Cond.methodLink "MarbleBoardLaw" 19 y_MarbleBoard_cell ∈ jB := jBc11 (List.mem_of_getElem? (i := 5) rfl)
theorem b_446 : Cond.instanceMethod y_MarbleBoard_cell ∈ jB := jBc11 (List.mem_of_getElem? (i := 6) rfl)
theorem b_447 : Cond.selects "MarbleBoard" y_MarbleBoard_cell y_MarbleBoard_cell ∈ jB := jBc11 (List.mem_of_getElem? (i := 7) rfl)
theorem b_448 : Cond.code y_MarbleBoard_pattern prog_1_method_5_code 5 none ∈ jB := jBc11 (List.mem_of_getElem? (i := 8) rfl)
theorem b_449 : Cond.methodLink "MarbleBoardLaw" 23 y_MarbleBoard_pattern ∈ jB := jBc11 (List.mem_of_getElem? (i := 9) rfl)
theorem b_450 : Cond.instanceMethod y_MarbleBoard_pattern ∈ jB := jBc11 (List.mem_of_getElem? (i := 10) rfl)
theorem b_451 : Cond.selects "MarbleBoard" y_MarbleBoard_pattern y_MarbleBoard_pattern ∈ jB := jBc11 (List.mem_of_getElem? (i := 11) rfl)
theorem b_452 : Cond.code y_MarbleBoard_inlet prog_1_method_6_code 3 none ∈ jB := jBc11 (List.mem_of_getElem? (i := 12) rfl)
theorem b_453 : Cond.methodLink "MarbleBoardLaw" 27 y_MarbleBoard_inlet ∈ jB := jBc11 (List.mem_of_getElem? (i := 13) rfl)
theorem b_454 : Cond.instanceMethod y_MarbleBoard_inlet ∈ jB := jBc11 (List.mem_of_getElem? (i := 14) rfl)
theorem b_455 : Cond.selects "MarbleBoard" y_MarbleBoard_inlet y_MarbleBoard_inlet ∈ jB := jBc11 (List.mem_of_getElem? (i := 15) rfl)
theorem b_456 : Cond.code y_MarbleBoard_freeze prog_1_method_7_code 1 (some .int) ∈ jB := jBc11 (List.mem_of_getElem? (i := 16) rfl)
theorem b_457 : Cond.methodLink "MarbleBoardLaw" 30 y_MarbleBoard_freeze ∈ jB := jBc11 (List.mem_of_getElem? (i := 17) rfl)
theorem b_458 : Cond.instanceMethod y_MarbleBoard_freeze ∈ jB := jBc11 (List.mem_of_getElem? (i := 18) rfl)
theorem b_459 : Cond.selects "MarbleBoard" y_MarbleBoard_freeze y_MarbleBoard_freeze ∈ jB := jBc11 (List.mem_of_getElem? (i := 19) rfl)
theorem b_460 : Cond.classLink "MarbleBoardLaw" 34 "java/lang/IllegalStateException" ∈ jB := jBc11 (List.mem_of_getElem? (i := 20) rfl)
theorem b_461 : Cond.code y_MarbleBoard_look prog_1_method_9_code 3 (some .char) ∈ jB := jBc11 (List.mem_of_getElem? (i := 21) rfl)
theorem b_462 : Cond.methodLink "MarbleBoardLaw" 36 y_MarbleBoard_look ∈ jB := jBc11 (List.mem_of_getElem? (i := 22) rfl)
theorem b_463 : Cond.instanceMethod y_MarbleBoard_look ∈ jB := jBc11 (List.mem_of_getElem? (i := 23) rfl)
theorem b_464 : Cond.selects "MarbleBoard" y_MarbleBoard_look y_MarbleBoard_look ∈ jB := jBc11 (List.mem_of_getElem? (i := 24) rfl)
theorem b_465 : Cond.code y_MarbleBoard_value prog_1_method_10_code 3 (some .int) ∈ jB := jBc11 (List.mem_of_getElem? (i := 25) rfl)
theorem b_466 : Cond.methodLink "MarbleBoardLaw" 40 y_MarbleBoard_value ∈ jB := jBc11 (List.mem_of_getElem? (i := 26) rfl)
theorem b_467 : Cond.instanceMethod y_MarbleBoard_value ∈ jB := jBc11 (List.mem_of_getElem? (i := 27) rfl)
theorem b_468 : Cond.selects "MarbleBoard" y_MarbleBoard_value y_MarbleBoard_value ∈ jB := jBc11 (List.mem_of_getElem? (i := 28) rfl)
theorem b_469 : Cond.code y_MarbleBoard_turn prog_1_method_11_code 5 (some .int) ∈ jB := jBc11 (List.mem_of_getElem? (i := 29) rfl)
theorem b_470 : Cond.methodLink "MarbleBoardLaw" 44 y_MarbleBoard_turn ∈ jB := jBc11 (List.mem_of_getElem? (i := 30) rfl)
theorem b_471 : Cond.instanceMethod y_MarbleBoard_turn ∈ jB := jBc11 (List.mem_of_getElem? (i := 31) rfl)
theorem b_472 : Cond.selects "MarbleBoard" y_MarbleBoard_turn y_MarbleBoard_turn ∈ jB := jBc11 (List.mem_of_getElem? (i := 32) rfl)
theorem b_473 : Cond.code y_MarbleBoard_drop prog_1_method_12_code 4 (some .int) ∈ jB := jBc11 (List.mem_of_getElem? (i := 33) rfl)
theorem b_474 : Cond.methodLink "MarbleBoardLaw" 48 y_MarbleBoard_drop ∈ jB := jBc11 (List.mem_of_getElem? (i := 34) rfl)
theorem b_475 : Cond.instanceMethod y_MarbleBoard_drop ∈ jB := jBc11 (List.mem_of_getElem? (i := 35) rfl)
theorem b_476 : Cond.selects "MarbleBoard" y_MarbleBoard_drop y_MarbleBoard_drop ∈ jB := jBc11 (List.mem_of_getElem? (i := 36) rfl)
theorem b_477 : Cond.code y_MarbleBoard_undo prog_1_method_13_code 1 (some .boolean) ∈ jB := jBc11 (List.mem_of_getElem? (i := 37) rfl)
theorem b_478 : Cond.methodLink "MarbleBoardLaw" 52 y_MarbleBoard_undo ∈ jB := jBc11 (List.mem_of_getElem? (i := 38) rfl)
theorem b_479 : Cond.instanceMethod y_MarbleBoard_undo ∈ jB := jBc11 (List.mem_of_getElem? (i := 39) rfl)
theorem b_480 : Cond.selects "MarbleBoard" y_MarbleBoard_undo y_MarbleBoard_undo ∈ jB := jBc12 (List.mem_of_getElem? (i := 0) rfl)
theorem b_481 : Cond.code y_MarbleBoard_count prog_1_method_14_code 2 (some .int) ∈ jB := jBc12 (List.mem_of_getElem? (i := 1) rfl)
theorem b_482 : Cond.methodLink "MarbleBoardLaw" 56 y_MarbleBoard_count ∈ jB := jBc12 (List.mem_of_getElem? (i := 2) rfl)
theorem b_483 : Cond.instanceMethod y_MarbleBoard_count ∈ jB := jBc12 (List.mem_of_getElem? (i := 3) rfl)
theorem b_484 : Cond.selects "MarbleBoard" y_MarbleBoard_count y_MarbleBoard_count ∈ jB := jBc12 (List.mem_of_getElem? (i := 4) rfl)
theorem b_485 : Cond.code y_MarbleBoard_roll prog_1_method_15_code 2 (some .boolean) ∈ jB := jBc12 (List.mem_of_getElem? (i := 5) rfl)
theorem b_486 : Cond.methodLink "MarbleBoardLaw" 59 y_MarbleBoard_roll ∈ jB := jBc12 (List.mem_of_getElem? (i := 6) rfl)
theorem b_487 : Cond.instanceMethod y_MarbleBoard_roll ∈ jB := jBc12 (List.mem_of_getElem? (i := 7) rfl)
theorem b_488 : Cond.selects "MarbleBoard" y_MarbleBoard_roll y_MarbleBoard_roll ∈ jB := jBc12 (List.mem_of_getElem? (i := 8) rfl)
theorem b_489 : Cond.code y_MarbleBoard_tick prog_1_method_16_code 4 (some .int) ∈ jB := jBc12 (List.mem_of_getElem? (i := 9) rfl)
theorem b_490 : Cond.methodLink "MarbleBoardLaw" 63 y_MarbleBoard_tick ∈ jB := jBc12 (List.mem_of_getElem? (i := 10) rfl)
theorem b_491 : Cond.instanceMethod y_MarbleBoard_tick ∈ jB := jBc12 (List.mem_of_getElem? (i := 11) rfl)
theorem b_492 : Cond.selects "MarbleBoard" y_MarbleBoard_tick y_MarbleBoard_tick ∈ jB := jBc12 (List.mem_of_getElem? (i := 12) rfl)
theorem b_493 : Cond.code y_MarbleBoard_marbles prog_1_method_17_code 2 (some .int) ∈ jB := jBc12 (List.mem_of_getElem? (i := 13) rfl)
theorem b_494 : Cond.methodLink "MarbleBoardLaw" 66 y_MarbleBoard_marbles ∈ jB := jBc12 (List.mem_of_getElem? (i := 14) rfl)
theorem b_495 : Cond.instanceMethod y_MarbleBoard_marbles ∈ jB := jBc12 (List.mem_of_getElem? (i := 15) rfl)
theorem b_496 : Cond.selects "MarbleBoard" y_MarbleBoard_marbles y_MarbleBoard_marbles ∈ jB := jBc12 (List.mem_of_getElem? (i := 16) rfl)
theorem b_497 : Cond.code y_MarbleBoard_explore prog_1_method_18_code 2 (some .int) ∈ jB := jBc12 (List.mem_of_getElem? (i := 17) rfl)
theorem b_498 : Cond.methodLink "MarbleBoardLaw" 69 y_MarbleBoard_explore ∈ jB := jBc12 (List.mem_of_getElem? (i := 18) rfl)
theorem b_499 : Cond.instanceMethod y_MarbleBoard_explore ∈ jB := jBc12 (List.mem_of_getElem? (i := 19) rfl)
theorem b_500 : Cond.selects "MarbleBoard" y_MarbleBoard_explore y_MarbleBoard_explore ∈ jB := jBc12 (List.mem_of_getElem? (i := 20) rfl)
theorem b_501 : Cond.code y_MarbleBoard_canReach prog_1_method_19_code 3 (some .int) ∈ jB := jBc12 (List.mem_of_getElem? (i := 21) rfl)
theorem b_502 : Cond.methodLink "MarbleBoardLaw" 72 y_MarbleBoard_canReach ∈ jB := jBc12 (List.mem_of_getElem? (i := 22) rfl)
theorem b_503 : Cond.instanceMethod y_MarbleBoard_canReach ∈ jB := jBc12 (List.mem_of_getElem? (i := 23) rfl)
theorem b_504 : Cond.selects "MarbleBoard" y_MarbleBoard_canReach y_MarbleBoard_canReach ∈ jB := jBc12 (List.mem_of_getElem? (i := 24) rfl)
theorem b_505 : Cond.code y_MarbleBoard_jam prog_1_method_20_code 2 (some .int) ∈ jB := jBc12 (List.mem_of_getElem? (i := 25) rfl)
theorem b_506 : Cond.methodLink "MarbleBoardLaw" 75 y_MarbleBoard_jam ∈ jB := jBc12 (List.mem_of_getElem? (i := 26) rfl)
theorem b_507 : Cond.instanceMethod y_MarbleBoard_jam ∈ jB := jBc12 (List.mem_of_getElem? (i := 27) rfl)
theorem b_508 : Cond.selects "MarbleBoard" y_MarbleBoard_jam y_MarbleBoard_jam ∈ jB := jBc12 (List.mem_of_getElem? (i := 28) rfl)
theorem b_509 : Cond.code y_MarbleBoard_counter prog_1_method_21_code 2 none ∈ jB := jBc12 (List.mem_of_getElem? (i := 29) rfl)
theorem b_510 : Cond.methodLink "MarbleBoardLaw" 78 y_MarbleBoard_counter ∈ jB := jBc12 (List.mem_of_getElem? (i := 30) rfl)
theorem b_511 : Cond.instanceMethod y_MarbleBoard_counter ∈ jB := jBc12 (List.mem_of_getElem? (i := 31) rfl)
theorem b_512 : Cond.selects "MarbleBoard" y_MarbleBoard_counter y_MarbleBoard_counter ∈ jB := jBc12 (List.mem_of_getElem? (i := 32) rfl)
theorem b_513 : Cond.code y_MarbleBoard_tell prog_1_method_22_code 3 none ∈ jB := jBc12 (List.mem_of_getElem? (i := 33) rfl)
theorem b_514 : Cond.methodLink "MarbleBoardLaw" 82 y_MarbleBoard_tell ∈ jB := jBc12 (List.mem_of_getElem? (i := 34) rfl)
theorem b_515 : Cond.instanceMethod y_MarbleBoard_tell ∈ jB := jBc12 (List.mem_of_getElem? (i := 35) rfl)
theorem b_516 : Cond.selects "MarbleBoard" y_MarbleBoard_tell y_MarbleBoard_tell ∈ jB := jBc12 (List.mem_of_getElem? (i := 36) rfl)
theorem b_517 : Cond.code y_MarbleBoard_table prog_1_method_23_code 2 none ∈ jB := jBc12 (List.mem_of_getElem? (i := 37) rfl)
theorem b_518 : Cond.methodLink "MarbleBoardLaw" 85 y_MarbleBoard_table ∈ jB := jBc12 (List.mem_of_getElem? (i := 38) rfl)
theorem b_519 : Cond.instanceMethod y_MarbleBoard_table ∈ jB := jBc12 (List.mem_of_getElem? (i := 39) rfl)
theorem b_520 : Cond.selects "MarbleBoard" y_MarbleBoard_table y_MarbleBoard_table ∈ jB := jBc13 (List.mem_of_getElem? (i := 0) rfl)
theorem b_521 : Cond.code y_MarbleBoard_input prog_1_method_24_code 3 none ∈ jB := jBc13 (List.mem_of_getElem? (i := 1) rfl)
theorem b_522 : Cond.methodLink "MarbleBoardLaw" 88 y_MarbleBoard_input ∈ jB := jBc13 (List.mem_of_getElem? (i := 2) rfl)
theorem b_523 : Cond.instanceMethod y_MarbleBoard_input ∈ jB := jBc13 (List.mem_of_getElem? (i := 3) rfl)
theorem b_524 : Cond.selects "MarbleBoard" y_MarbleBoard_input y_MarbleBoard_input ∈ jB := jBc13 (List.mem_of_getElem? (i := 4) rfl)
theorem b_525 : Cond.fieldLink "MarbleBoardModel" 65 "MarbleBoardModel" "code" "I" ∈ jB := jBc13 (List.mem_of_getElem? (i := 5) rfl)
theorem b_526 : Cond.fieldLink "MarbleBoardModel" 7 "MarbleBoardModel" "w" "I" ∈ jB := jBc13 (List.mem_of_getElem? (i := 6) rfl)
theorem b_527 : Cond.fieldLink "MarbleBoardModel" 13 "MarbleBoardModel" "h" "I" ∈ jB := jBc13 (List.mem_of_getElem? (i := 7) rfl)
theorem b_528 : Cond.fieldLink "MarbleBoardModel" 16 "MarbleBoardModel" "kind" "[I" ∈ jB := jBc13 (List.mem_of_getElem? (i := 8) rfl)
theorem b_529 : Cond.fieldLink "MarbleBoardModel" 20 "MarbleBoardModel" "value" "[I" ∈ jB := jBc13 (List.mem_of_getElem? (i := 9) rfl)
theorem b_530 : Cond.fieldLink "MarbleBoardModel" 23 "MarbleBoardModel" "pattern" "[I" ∈ jB := jBc13 (List.mem_of_getElem? (i := 10) rfl)
theorem b_531 : Cond.fieldLink "MarbleBoardModel" 26 "MarbleBoardModel" "length" "[I" ∈ jB := jBc13 (List.mem_of_getElem? (i := 11) rfl)
theorem b_532 : Cond.fieldLink "MarbleBoardModel" 68 "MarbleBoardModel" "frozen" "Z" ∈ jB := jBc13 (List.mem_of_getElem? (i := 12) rfl)
theorem b_533 : Cond.fieldLink "MarbleBoardModel" 72 "MarbleBoardModel" "many" "I" ∈ jB := jBc13 (List.mem_of_getElem? (i := 13) rfl)
theorem b_534 : Cond.fieldLink "MarbleBoardModel" 75 "MarbleBoardModel" "held" "I" ∈ jB := jBc13 (List.mem_of_getElem? (i := 14) rfl)
theorem b_535 : Cond.fieldLink "MarbleBoardModel" 78 "MarbleBoardModel" "inputs" "I" ∈ jB := jBc13 (List.mem_of_getElem? (i := 15) rfl)
theorem b_536 : Cond.code y_MarbleBoardModel_build prog_12_method_7_code 1 none ∈ jB := jBc13 (List.mem_of_getElem? (i := 16) rfl)
theorem b_537 : Cond.initialized "MarbleBoardModel" ∈ jB := jBc13 (List.mem_of_getElem? (i := 17) rfl)
theorem b_538 : Cond.methodLink "MarbleBoardModel" 81 y_MarbleBoardModel_build ∈ jB := jBc13 (List.mem_of_getElem? (i := 18) rfl)
theorem b_539 : Cond.instanceMethod y_MarbleBoardModel_build ∈ jB := jBc13 (List.mem_of_getElem? (i := 19) rfl)
theorem b_540 : Cond.selects "MarbleBoardModel" y_MarbleBoardModel_build y_MarbleBoardModel_build ∈ jB := jBc13 (List.mem_of_getElem? (i := 20) rfl)
theorem b_541 : Cond.fieldLink "MarbleBoardModel" 29 "MarbleBoardModel" "inlet" "[I" ∈ jB := jBc13 (List.mem_of_getElem? (i := 21) rfl)
theorem b_542 : Cond.code y_MarbleBoardModel_put prog_12_method_6_code 3 none ∈ jB := jBc13 (List.mem_of_getElem? (i := 22) rfl)
theorem b_543 : Cond.methodLink "MarbleBoardModel" 84 y_MarbleBoardModel_put ∈ jB := jBc13 (List.mem_of_getElem? (i := 23) rfl)
theorem b_544 : Cond.instanceMethod y_MarbleBoardModel_put ∈ jB := jBc13 (List.mem_of_getElem? (i := 24) rfl)
theorem b_545 : Cond.selects "MarbleBoardModel" y_MarbleBoardModel_put y_MarbleBoardModel_put ∈ jB := jBc13 (List.mem_of_getElem? (i := 25) rfl)
theorem b_546 : Cond.code y_MarbleBoardModel_wipe prog_12_method_8_code 4 none ∈ jB := jBc13 (List.mem_of_getElem? (i := 26) rfl)
theorem b_547 : Cond.methodLink "MarbleBoardModel" 61 y_MarbleBoardModel_wipe ∈ jB := jBc13 (List.mem_of_getElem? (i := 27) rfl)
theorem b_548 : Cond.instanceMethod y_MarbleBoardModel_wipe ∈ jB := jBc13 (List.mem_of_getElem? (i := 28) rfl)
theorem b_549 : Cond.selects "MarbleBoardModel" y_MarbleBoardModel_wipe y_MarbleBoardModel_wipe ∈ jB := jBc13 (List.mem_of_getElem? (i := 29) rfl)
theorem b_550 : Cond.constantLong "MarbleBoardModel" 87 255 ∈ jB := jBc13 (List.mem_of_getElem? (i := 30) rfl)
theorem b_551 : Cond.code y_MarbleBoardModel_isSign prog_12_method_4_code 2 (some .boolean) ∈ jB := jBc13 (List.mem_of_getElem? (i := 31) rfl)
theorem b_552 : Cond.methodLink "MarbleBoardModel" 89 y_MarbleBoardModel_isSign ∈ jB := jBc13 (List.mem_of_getElem? (i := 32) rfl)
theorem b_553 : Cond.static y_MarbleBoardModel_isSign ∈ jB := jBc13 (List.mem_of_getElem? (i := 33) rfl)
theorem b_554 : Cond.code y_MarbleBoardModel_isCell prog_12_method_3_code 3 (some .boolean) ∈ jB := jBc13 (List.mem_of_getElem? (i := 34) rfl)
theorem b_555 : Cond.methodLink "MarbleBoardModel" 93 y_MarbleBoardModel_isCell ∈ jB := jBc13 (List.mem_of_getElem? (i := 35) rfl)
theorem b_556 : Cond.instanceMethod y_MarbleBoardModel_isCell ∈ jB := jBc13 (List.mem_of_getElem? (i := 36) rfl)
theorem b_557 : Cond.selects "MarbleBoardModel" y_MarbleBoardModel_isCell y_MarbleBoardModel_isCell ∈ jB := jBc13 (List.mem_of_getElem? (i := 37) rfl)
theorem b_558 : Cond.code y_MarbleBoardModel_isLift prog_12_method_15_code 2 (some .boolean) ∈ jB := jBc13 (List.mem_of_getElem? (i := 38) rfl)
theorem b_559 : Cond.methodLink "MarbleBoardModel" 101 y_MarbleBoardModel_isLift ∈ jB := jBc13 (List.mem_of_getElem? (i := 39) rfl)
theorem b_560 : Cond.instanceMethod y_MarbleBoardModel_isLift ∈ jB := jBc14 (List.mem_of_getElem? (i := 0) rfl)
theorem b_561 : Cond.selects "MarbleBoardModel" y_MarbleBoardModel_isLift y_MarbleBoardModel_isLift ∈ jB := jBc14 (List.mem_of_getElem? (i := 1) rfl)
theorem b_562 : Cond.fieldLink "MarbleBoardModel" 51 "MarbleBoardModel" "reached" "[Z" ∈ jB := jBc14 (List.mem_of_getElem? (i := 2) rfl)
theorem b_563 : Cond.code y_MarbleBoardModel_canGo prog_12_method_14_code 4 (some .boolean) ∈ jB := jBc14 (List.mem_of_getElem? (i := 3) rfl)
theorem b_564 : Cond.methodLink "MarbleBoardModel" 97 y_MarbleBoardModel_canGo ∈ jB := jBc14 (List.mem_of_getElem? (i := 4) rfl)
theorem b_565 : Cond.instanceMethod y_MarbleBoardModel_canGo ∈ jB := jBc14 (List.mem_of_getElem? (i := 5) rfl)
theorem b_566 : Cond.selects "MarbleBoardModel" y_MarbleBoardModel_canGo y_MarbleBoardModel_canGo ∈ jB := jBc14 (List.mem_of_getElem? (i := 6) rfl)
theorem b_567 : Cond.code y_MarbleBoardModel_isHole prog_12_method_17_code 5 (some .boolean) ∈ jB := jBc14 (List.mem_of_getElem? (i := 7) rfl)
theorem b_568 : Cond.methodLink "MarbleBoardModel" 107 y_MarbleBoardModel_isHole ∈ jB := jBc14 (List.mem_of_getElem? (i := 8) rfl)
theorem b_569 : Cond.instanceMethod y_MarbleBoardModel_isHole ∈ jB := jBc14 (List.mem_of_getElem? (i := 9) rfl)
theorem b_570 : Cond.selects "MarbleBoardModel" y_MarbleBoardModel_isHole y_MarbleBoardModel_isHole ∈ jB := jBc14 (List.mem_of_getElem? (i := 10) rfl)
theorem b_571 : Cond.code y_MarbleBoardModel_mark prog_12_method_16_code 7 (some .boolean) ∈ jB := jBc14 (List.mem_of_getElem? (i := 11) rfl)
theorem b_572 : Cond.methodLink "MarbleBoardModel" 104 y_MarbleBoardModel_mark ∈ jB := jBc14 (List.mem_of_getElem? (i := 12) rfl)
theorem b_573 : Cond.instanceMethod y_MarbleBoardModel_mark ∈ jB := jBc14 (List.mem_of_getElem? (i := 13) rfl)
theorem b_574 : Cond.selects "MarbleBoardModel" y_MarbleBoardModel_mark y_MarbleBoardModel_mark ∈ jB := jBc14 (List.mem_of_getElem? (i := 14) rfl)
theorem b_575 : Cond.code y_MarbleBoardModel_firstHole prog_12_method_18_code 4 (some .int) ∈ jB := jBc14 (List.mem_of_getElem? (i := 15) rfl)
theorem b_576 : Cond.methodLink "MarbleBoardModel" 110 y_MarbleBoardModel_firstHole ∈ jB := jBc14 (List.mem_of_getElem? (i := 16) rfl)
theorem b_577 : Cond.instanceMethod y_MarbleBoardModel_firstHole ∈ jB := jBc14 (List.mem_of_getElem? (i := 17) rfl)
theorem b_578 : Cond.selects "MarbleBoardModel" y_MarbleBoardModel_firstHole y_MarbleBoardModel_firstHole ∈ jB := jBc14 (List.mem_of_getElem? (i := 18) rfl)
theorem b_579 : Cond.fieldLink "MarbleBoardModel" 118 "MarbleBoardModel" "runs" "I" ∈ jB := jBc14 (List.mem_of_getElem? (i := 19) rfl)
theorem b_580 : Cond.fieldLink "MarbleBoardModel" 121 "MarbleBoardModel" "back" "I" ∈ jB := jBc14 (List.mem_of_getElem? (i := 20) rfl)
theorem b_581 : Cond.fieldLink "MarbleBoardModel" 32 "MarbleBoardModel" "counts" "[I" ∈ jB := jBc14 (List.mem_of_getElem? (i := 21) rfl)
theorem b_582 : Cond.code y_MarbleBoardModel_bitsOf prog_12_method_20_code 1 (some .int) ∈ jB := jBc14 (List.mem_of_getElem? (i := 22) rfl)
theorem b_583 : Cond.methodLink "MarbleBoardModel" 114 y_MarbleBoardModel_bitsOf ∈ jB := jBc14 (List.mem_of_getElem? (i := 23) rfl)
theorem b_584 : Cond.static y_MarbleBoardModel_bitsOf ∈ jB := jBc14 (List.mem_of_getElem? (i := 24) rfl)
theorem b_585 : Cond.code y_MarbleBoardModel_chill prog_12_method_21_code 3 (some .int) ∈ jB := jBc14 (List.mem_of_getElem? (i := 25) rfl)
theorem b_586 : Cond.methodLink "MarbleBoardModel" 124 y_MarbleBoardModel_chill ∈ jB := jBc14 (List.mem_of_getElem? (i := 26) rfl)
theorem b_587 : Cond.instanceMethod y_MarbleBoardModel_chill ∈ jB := jBc14 (List.mem_of_getElem? (i := 27) rfl)
theorem b_588 : Cond.selects "MarbleBoardModel" y_MarbleBoardModel_chill y_MarbleBoardModel_chill ∈ jB := jBc14 (List.mem_of_getElem? (i := 28) rfl)
theorem b_589 : Cond.code y_MarbleBoardModel_isMoving prog_12_method_5_code 2 (some .boolean) ∈ jB := jBc14 (List.mem_of_getElem? (i := 29) rfl)
theorem b_590 : Cond.methodLink "MarbleBoardModel" 127 y_MarbleBoardModel_isMoving ∈ jB := jBc14 (List.mem_of_getElem? (i := 30) rfl)
theorem b_591 : Cond.instanceMethod y_MarbleBoardModel_isMoving ∈ jB := jBc14 (List.mem_of_getElem? (i := 31) rfl)
theorem b_592 : Cond.selects "MarbleBoardModel" y_MarbleBoardModel_isMoving y_MarbleBoardModel_isMoving ∈ jB := jBc14 (List.mem_of_getElem? (i := 32) rfl)
theorem b_593 : Cond.fieldLink "MarbleBoardModel" 42 "MarbleBoardModel" "place" "[I" ∈ jB := jBc14 (List.mem_of_getElem? (i := 33) rfl)
theorem b_594 : Cond.fieldLink "MarbleBoardModel" 45 "MarbleBoardModel" "came" "[I" ∈ jB := jBc14 (List.mem_of_getElem? (i := 34) rfl)
theorem b_595 : Cond.code y_MarbleBoardModel_wayOf prog_12_method_28_code 5 (some .int) ∈ jB := jBc14 (List.mem_of_getElem? (i := 35) rfl)
theorem b_596 : Cond.methodLink "MarbleBoardModel" 130 y_MarbleBoardModel_wayOf ∈ jB := jBc14 (List.mem_of_getElem? (i := 36) rfl)
theorem b_597 : Cond.instanceMethod y_MarbleBoardModel_wayOf ∈ jB := jBc14 (List.mem_of_getElem? (i := 37) rfl)
theorem b_598 : Cond.selects "MarbleBoardModel" y_MarbleBoardModel_wayOf y_MarbleBoardModel_wayOf ∈ jB := jBc14 (List.mem_of_getElem? (i := 38) rfl)
theorem b_599 : Cond.code y_MarbleBoardModel_change prog_12_method_29_code 3 none ∈ jB := jBc14 (List.mem_of_getElem? (i := 39) rfl)
theorem b_600 : Cond.methodLink "MarbleBoardModel" 134 y_MarbleBoardModel_change ∈ jB := jBc15 (List.mem_of_getElem? (i := 0) rfl)
theorem b_601 : Cond.instanceMethod y_MarbleBoardModel_change ∈ jB := jBc15 (List.mem_of_getElem? (i := 1) rfl)
theorem b_602 : Cond.selects "MarbleBoardModel" y_MarbleBoardModel_change y_MarbleBoardModel_change ∈ jB := jBc15 (List.mem_of_getElem? (i := 2) rfl)
theorem b_603 : Cond.code y_MarbleBoardModel_stateNow prog_12_method_26_code 5 (some .long) ∈ jB := jBc15 (List.mem_of_getElem? (i := 3) rfl)
theorem b_604 : Cond.methodLink "MarbleBoardModel" 137 y_MarbleBoardModel_stateNow ∈ jB := jBc15 (List.mem_of_getElem? (i := 4) rfl)
theorem b_605 : Cond.instanceMethod y_MarbleBoardModel_stateNow ∈ jB := jBc15 (List.mem_of_getElem? (i := 5) rfl)
theorem b_606 : Cond.selects "MarbleBoardModel" y_MarbleBoardModel_stateNow y_MarbleBoardModel_stateNow ∈ jB := jBc15 (List.mem_of_getElem? (i := 6) rfl)
theorem b_607 : Cond.code y_MarbleBoardModel_aim prog_12_method_30_code 4 (some .int) ∈ jB := jBc15 (List.mem_of_getElem? (i := 7) rfl)
theorem b_608 : Cond.methodLink "MarbleBoardModel" 141 y_MarbleBoardModel_aim ∈ jB := jBc15 (List.mem_of_getElem? (i := 8) rfl)
theorem b_609 : Cond.instanceMethod y_MarbleBoardModel_aim ∈ jB := jBc15 (List.mem_of_getElem? (i := 9) rfl)
theorem b_610 : Cond.selects "MarbleBoardModel" y_MarbleBoardModel_aim y_MarbleBoardModel_aim ∈ jB := jBc15 (List.mem_of_getElem? (i := 10) rfl)
theorem b_611 : Cond.code y_MarbleBoardModel_setState prog_12_method_27_code 6 none ∈ jB := jBc15 (List.mem_of_getElem? (i := 11) rfl)
theorem b_612 : Cond.methodLink "MarbleBoardModel" 147 y_MarbleBoardModel_setState ∈ jB := jBc15 (List.mem_of_getElem? (i := 12) rfl)
theorem b_613 : Cond.instanceMethod y_MarbleBoardModel_setState ∈ jB := jBc15 (List.mem_of_getElem? (i := 13) rfl)
theorem b_614 : Cond.selects "MarbleBoardModel" y_MarbleBoardModel_setState y_MarbleBoardModel_setState ∈ jB := jBc15 (List.mem_of_getElem? (i := 14) rfl)
theorem b_615 : Cond.code y_MarbleBoardModel_go prog_12_method_31_code 5 none ∈ jB := jBc15 (List.mem_of_getElem? (i := 15) rfl)
theorem b_616 : Cond.methodLink "MarbleBoardModel" 144 y_MarbleBoardModel_go ∈ jB := jBc15 (List.mem_of_getElem? (i := 16) rfl)
theorem b_617 : Cond.instanceMethod y_MarbleBoardModel_go ∈ jB := jBc15 (List.mem_of_getElem? (i := 17) rfl)
theorem b_618 : Cond.selects "MarbleBoardModel" y_MarbleBoardModel_go y_MarbleBoardModel_go ∈ jB := jBc15 (List.mem_of_getElem? (i := 18) rfl)
theorem b_619 : Cond.code y_MarbleBoardModel_runFrom prog_12_method_32_code 6 (some .int) ∈ jB := jBc15 (List.mem_of_getElem? (i := 19) rfl)
theorem b_620 : Cond.methodLink "MarbleBoardModel" 154 y_MarbleBoardModel_runFrom ∈ jB := jBc15 (List.mem_of_getElem? (i := 20) rfl)
theorem b_621 : Cond.instanceMethod y_MarbleBoardModel_runFrom ∈ jB := jBc15 (List.mem_of_getElem? (i := 21) rfl)
theorem b_622 : Cond.selects "MarbleBoardModel" y_MarbleBoardModel_runFrom y_MarbleBoardModel_runFrom ∈ jB := jBc15 (List.mem_of_getElem? (i := 22) rfl)
theorem b_623 : Cond.fieldLink "MarbleBoardModel" 35 "MarbleBoardModel" "was" "[J" ∈ jB := jBc15 (List.mem_of_getElem? (i := 23) rfl)
theorem b_624 : Cond.fieldLink "MarbleBoardModel" 39 "MarbleBoardModel" "end" "[I" ∈ jB := jBc15 (List.mem_of_getElem? (i := 24) rfl)
theorem b_625 : Cond.code y_MarbleBoardModel_isInlet prog_12_method_33_code 2 (some .boolean) ∈ jB := jBc15 (List.mem_of_getElem? (i := 25) rfl)
theorem b_626 : Cond.methodLink "MarbleBoardModel" 151 y_MarbleBoardModel_isInlet ∈ jB := jBc15 (List.mem_of_getElem? (i := 26) rfl)
theorem b_627 : Cond.instanceMethod y_MarbleBoardModel_isInlet ∈ jB := jBc15 (List.mem_of_getElem? (i := 27) rfl)
theorem b_628 : Cond.selects "MarbleBoardModel" y_MarbleBoardModel_isInlet y_MarbleBoardModel_isInlet ∈ jB := jBc15 (List.mem_of_getElem? (i := 28) rfl)
theorem b_629 : Cond.code y_MarbleBoardModel_isTaken prog_12_method_37_code 5 (some .boolean) ∈ jB := jBc15 (List.mem_of_getElem? (i := 29) rfl)
theorem b_630 : Cond.methodLink "MarbleBoardModel" 157 y_MarbleBoardModel_isTaken ∈ jB := jBc15 (List.mem_of_getElem? (i := 30) rfl)
theorem b_631 : Cond.instanceMethod y_MarbleBoardModel_isTaken ∈ jB := jBc15 (List.mem_of_getElem? (i := 31) rfl)
theorem b_632 : Cond.selects "MarbleBoardModel" y_MarbleBoardModel_isTaken y_MarbleBoardModel_isTaken ∈ jB := jBc15 (List.mem_of_getElem? (i := 32) rfl)
theorem b_633 : Cond.code y_MarbleBoardModel_come prog_12_method_38_code 2 none ∈ jB := jBc15 (List.mem_of_getElem? (i := 33) rfl)
theorem b_634 : Cond.methodLink "MarbleBoardModel" 160 y_MarbleBoardModel_come ∈ jB := jBc15 (List.mem_of_getElem? (i := 34) rfl)
theorem b_635 : Cond.instanceMethod y_MarbleBoardModel_come ∈ jB := jBc15 (List.mem_of_getElem? (i := 35) rfl)
theorem b_636 : Cond.selects "MarbleBoardModel" y_MarbleBoardModel_come y_MarbleBoardModel_come ∈ jB := jBc15 (List.mem_of_getElem? (i := 36) rfl)
theorem b_637 : Cond.code y_MarbleBoardModel_tickOnce prog_12_method_40_code 7 (some .int) ∈ jB := jBc15 (List.mem_of_getElem? (i := 37) rfl)
theorem b_638 : Cond.methodLink "MarbleBoardModel" 164 y_MarbleBoardModel_tickOnce ∈ jB := jBc15 (List.mem_of_getElem? (i := 38) rfl)
theorem b_639 : Cond.instanceMethod y_MarbleBoardModel_tickOnce ∈ jB := jBc15 (List.mem_of_getElem? (i := 39) rfl)
theorem b_640 : Cond.selects "MarbleBoardModel" y_MarbleBoardModel_tickOnce y_MarbleBoardModel_tickOnce ∈ jB := jBc16 (List.mem_of_getElem? (i := 0) rfl)
theorem b_641 : Cond.fieldLink "MarbleBoardModel" 168 "MarbleBoardModel" "found" "I" ∈ jB := jBc16 (List.mem_of_getElem? (i := 1) rfl)
theorem b_642 : Cond.fieldLink "MarbleBoardModel" 55 "MarbleBoardModel" "states" "[J" ∈ jB := jBc16 (List.mem_of_getElem? (i := 2) rfl)
theorem b_643 : Cond.fieldLink "MarbleBoardModel" 58 "MarbleBoardModel" "rests" "[J" ∈ jB := jBc16 (List.mem_of_getElem? (i := 3) rfl)
theorem b_644 : Cond.fieldLink "MarbleBoardModel" 171 "MarbleBoardModel" "tooMany" "Z" ∈ jB := jBc16 (List.mem_of_getElem? (i := 4) rfl)
theorem b_645 : Cond.code y_MarbleBoardModel_note prog_12_method_43_code 8 none ∈ jB := jBc16 (List.mem_of_getElem? (i := 5) rfl)
theorem b_646 : Cond.methodLink "MarbleBoardModel" 174 y_MarbleBoardModel_note ∈ jB := jBc16 (List.mem_of_getElem? (i := 6) rfl)
theorem b_647 : Cond.instanceMethod y_MarbleBoardModel_note ∈ jB := jBc16 (List.mem_of_getElem? (i := 7) rfl)
theorem b_648 : Cond.selects "MarbleBoardModel" y_MarbleBoardModel_note y_MarbleBoardModel_note ∈ jB := jBc16 (List.mem_of_getElem? (i := 8) rfl)
theorem b_649 : Cond.code y_MarbleBoardModel_searched prog_12_method_44_code 10 (some .boolean) ∈ jB := jBc16 (List.mem_of_getElem? (i := 9) rfl)
theorem b_650 : Cond.methodLink "MarbleBoardModel" 178 y_MarbleBoardModel_searched ∈ jB := jBc16 (List.mem_of_getElem? (i := 10) rfl)
theorem b_651 : Cond.instanceMethod y_MarbleBoardModel_searched ∈ jB := jBc16 (List.mem_of_getElem? (i := 11) rfl)
theorem b_652 : Cond.selects "MarbleBoardModel" y_MarbleBoardModel_searched y_MarbleBoardModel_searched ∈ jB := jBc16 (List.mem_of_getElem? (i := 12) rfl)
theorem b_653 : Cond.constantLong "MarbleBoardModel" 181 4 ∈ jB := jBc16 (List.mem_of_getElem? (i := 13) rfl)
theorem b_654 : Cond.constantLong "MarbleBoardModel" 183 1024 ∈ jB := jBc16 (List.mem_of_getElem? (i := 14) rfl)
theorem b_655 : Cond.code y_MarbleBoardModel_restNow prog_12_method_47_code 5 (some .long) ∈ jB := jBc16 (List.mem_of_getElem? (i := 15) rfl)
theorem b_656 : Cond.methodLink "MarbleBoardModel" 185 y_MarbleBoardModel_restNow ∈ jB := jBc16 (List.mem_of_getElem? (i := 16) rfl)
theorem b_657 : Cond.instanceMethod y_MarbleBoardModel_restNow ∈ jB := jBc16 (List.mem_of_getElem? (i := 17) rfl)
theorem b_658 : Cond.selects "MarbleBoardModel" y_MarbleBoardModel_restNow y_MarbleBoardModel_restNow ∈ jB := jBc16 (List.mem_of_getElem? (i := 18) rfl)
theorem b_659 : Cond.code y_MarbleBoardModel_setRest prog_12_method_48_code 7 (some .int) ∈ jB := jBc16 (List.mem_of_getElem? (i := 19) rfl)
theorem b_660 : Cond.methodLink "MarbleBoardModel" 189 y_MarbleBoardModel_setRest ∈ jB := jBc16 (List.mem_of_getElem? (i := 20) rfl)
theorem b_661 : Cond.instanceMethod y_MarbleBoardModel_setRest ∈ jB := jBc16 (List.mem_of_getElem? (i := 21) rfl)
theorem b_662 : Cond.selects "MarbleBoardModel" y_MarbleBoardModel_setRest y_MarbleBoardModel_setRest ∈ jB := jBc16 (List.mem_of_getElem? (i := 22) rfl)
theorem b_663 : Cond.fieldLink "MarbleBoardModel" 48 "MarbleBoardModel" "told" "[I" ∈ jB := jBc16 (List.mem_of_getElem? (i := 23) rfl)
theorem b_664 : Cond.code y_MarbleBoardModel_columnOf prog_12_method_53_code 6 (some .int) ∈ jB := jBc16 (List.mem_of_getElem? (i := 24) rfl)
theorem b_665 : Cond.methodLink "MarbleBoardModel" 193 y_MarbleBoardModel_columnOf ∈ jB := jBc16 (List.mem_of_getElem? (i := 25) rfl)
theorem b_666 : Cond.static y_MarbleBoardModel_columnOf ∈ jB := jBc16 (List.mem_of_getElem? (i := 26) rfl)
theorem b_667 : Cond.code y_MarbleBoardModel_rowOf prog_12_method_52_code 4 (some .int) ∈ jB := jBc16 (List.mem_of_getElem? (i := 27) rfl)
theorem b_668 : Cond.methodLink "MarbleBoardModel" 197 y_MarbleBoardModel_rowOf ∈ jB := jBc16 (List.mem_of_getElem? (i := 28) rfl)
theorem b_669 : Cond.static y_MarbleBoardModel_rowOf ∈ jB := jBc16 (List.mem_of_getElem? (i := 29) rfl)
theorem b_670 : Cond.codeWith y_MarbleBoardLaw_input method_24_code 4 (some .int) [(0, 6, 9, 34), (0, 6, 12, 13)] ∈ jB := jBc16 (List.mem_of_getElem? (i := 30) rfl)
theorem b_671 : Cond.initialized "MarbleBoardLaw" ∈ jB := jBc16 (List.mem_of_getElem? (i := 31) rfl)
theorem b_672 : Cond.methodLink "MarbleBoardLaw" 178 y_MarbleBoardLaw_input ∈ jB := jBc16 (List.mem_of_getElem? (i := 32) rfl)
theorem b_673 : Cond.static y_MarbleBoardLaw_input ∈ jB := jBc16 (List.mem_of_getElem? (i := 33) rfl)
theorem b_674 : Cond.code y_MarbleBoardModel_input prog_12_method_55_code 4 none ∈ jB := jBc16 (List.mem_of_getElem? (i := 34) rfl)
theorem b_675 : Cond.methodLink "MarbleBoardLaw" 180 y_MarbleBoardModel_input ∈ jB := jBc16 (List.mem_of_getElem? (i := 35) rfl)
theorem b_676 : Cond.instanceMethod y_MarbleBoardModel_input ∈ jB := jBc16 (List.mem_of_getElem? (i := 36) rfl)
theorem b_677 : Cond.selects "MarbleBoardModel" y_MarbleBoardModel_input y_MarbleBoardModel_input ∈ jB := jBc16 (List.mem_of_getElem? (i := 37) rfl)
theorem b_678 : Cond.code y_MarbleBoardModel_thrown prog_12_method_2_code 1 (some .int) ∈ jB := jBc16 (List.mem_of_getElem? (i := 38) rfl)
theorem b_679 : Cond.methodLink "MarbleBoardLaw" 101 y_MarbleBoardModel_thrown ∈ jB := jBc16 (List.mem_of_getElem? (i := 39) rfl)
theorem b_680 : Cond.instanceMethod y_MarbleBoardModel_thrown ∈ jB := jBc17 (List.mem_of_getElem? (i := 0) rfl)
theorem b_681 : Cond.selects "MarbleBoardModel" y_MarbleBoardModel_thrown y_MarbleBoardModel_thrown ∈ jB := jBc17 (List.mem_of_getElem? (i := 1) rfl)
theorem b_682 : Cond.codeWith y_MarbleBoardLaw_table method_23_code 3 (some .int) [(0, 5, 8, 13)] ∈ jB := jBc17 (List.mem_of_getElem? (i := 2) rfl)
theorem b_683 : Cond.methodLink "MarbleBoardLaw" 175 y_MarbleBoardLaw_table ∈ jB := jBc17 (List.mem_of_getElem? (i := 3) rfl)
theorem b_684 : Cond.static y_MarbleBoardLaw_table ∈ jB := jBc17 (List.mem_of_getElem? (i := 4) rfl)
theorem b_685 : Cond.code y_MarbleBoardModel_table prog_12_method_54_code 8 none ∈ jB := jBc17 (List.mem_of_getElem? (i := 5) rfl)
theorem b_686 : Cond.methodLink "MarbleBoardLaw" 177 y_MarbleBoardModel_table ∈ jB := jBc17 (List.mem_of_getElem? (i := 6) rfl)
theorem b_687 : Cond.instanceMethod y_MarbleBoardModel_table ∈ jB := jBc17 (List.mem_of_getElem? (i := 7) rfl)
theorem b_688 : Cond.selects "MarbleBoardModel" y_MarbleBoardModel_table y_MarbleBoardModel_table ∈ jB := jBc17 (List.mem_of_getElem? (i := 8) rfl)
theorem b_689 : Cond.codeWith y_MarbleBoardLaw_tell method_22_code 4 (some .int) [(0, 6, 9, 13)] ∈ jB := jBc17 (List.mem_of_getElem? (i := 9) rfl)
theorem b_690 : Cond.methodLink "MarbleBoardLaw" 172 y_MarbleBoardLaw_tell ∈ jB := jBc17 (List.mem_of_getElem? (i := 10) rfl)
theorem b_691 : Cond.static y_MarbleBoardLaw_tell ∈ jB := jBc17 (List.mem_of_getElem? (i := 11) rfl)
theorem b_692 : Cond.code y_MarbleBoardModel_tell prog_12_method_51_code 3 none ∈ jB := jBc17 (List.mem_of_getElem? (i := 12) rfl)
theorem b_693 : Cond.methodLink "MarbleBoardLaw" 174 y_MarbleBoardModel_tell ∈ jB := jBc17 (List.mem_of_getElem? (i := 13) rfl)
theorem b_694 : Cond.instanceMethod y_MarbleBoardModel_tell ∈ jB := jBc17 (List.mem_of_getElem? (i := 14) rfl)
theorem b_695 : Cond.selects "MarbleBoardModel" y_MarbleBoardModel_tell y_MarbleBoardModel_tell ∈ jB := jBc17 (List.mem_of_getElem? (i := 15) rfl)
theorem b_696 : Cond.codeWith y_MarbleBoardLaw_counter method_21_code 3 (some .int) [(0, 5, 8, 13)] ∈ jB := jBc17 (List.mem_of_getElem? (i := 16) rfl)
theorem b_697 : Cond.methodLink "MarbleBoardLaw" 168 y_MarbleBoardLaw_counter ∈ jB := jBc17 (List.mem_of_getElem? (i := 17) rfl)
theorem b_698 : Cond.static y_MarbleBoardLaw_counter ∈ jB := jBc17 (List.mem_of_getElem? (i := 18) rfl)
theorem b_699 : Cond.code y_MarbleBoardModel_counter prog_12_method_50_code 6 none ∈ jB := jBc17 (List.mem_of_getElem? (i := 19) rfl)
theorem b_700 : Cond.methodLink "MarbleBoardLaw" 171 y_MarbleBoardModel_counter ∈ jB := jBc17 (List.mem_of_getElem? (i := 20) rfl)
theorem b_701 : Cond.instanceMethod y_MarbleBoardModel_counter ∈ jB := jBc17 (List.mem_of_getElem? (i := 21) rfl)
theorem b_702 : Cond.selects "MarbleBoardModel" y_MarbleBoardModel_counter y_MarbleBoardModel_counter ∈ jB := jBc17 (List.mem_of_getElem? (i := 22) rfl)
theorem b_703 : Cond.codeWith y_MarbleBoardLaw_jam method_20_code 4 (some .int) [(0, 9, 12, 34), (0, 9, 15, 13)] ∈ jB := jBc17 (List.mem_of_getElem? (i := 23) rfl)
theorem b_704 : Cond.methodLink "MarbleBoardLaw" 165 y_MarbleBoardLaw_jam ∈ jB := jBc17 (List.mem_of_getElem? (i := 24) rfl)
theorem b_705 : Cond.static y_MarbleBoardLaw_jam ∈ jB := jBc17 (List.mem_of_getElem? (i := 25) rfl)
theorem b_706 : Cond.code y_MarbleBoardModel_jam prog_12_method_49_code 10 (some .int) ∈ jB := jBc17 (List.mem_of_getElem? (i := 26) rfl)
theorem b_707 : Cond.methodLink "MarbleBoardLaw" 167 y_MarbleBoardModel_jam ∈ jB := jBc17 (List.mem_of_getElem? (i := 27) rfl)
theorem b_708 : Cond.instanceMethod y_MarbleBoardModel_jam ∈ jB := jBc17 (List.mem_of_getElem? (i := 28) rfl)
theorem b_709 : Cond.selects "MarbleBoardModel" y_MarbleBoardModel_jam y_MarbleBoardModel_jam ∈ jB := jBc17 (List.mem_of_getElem? (i := 29) rfl)
theorem b_710 : Cond.codeWith y_MarbleBoardLaw_canReach method_19_code 5 (some .int) [(0, 10, 13, 34), (0, 10, 17, 13)] ∈ jB := jBc17 (List.mem_of_getElem? (i := 30) rfl)
theorem b_711 : Cond.methodLink "MarbleBoardLaw" 162 y_MarbleBoardLaw_canReach ∈ jB := jBc17 (List.mem_of_getElem? (i := 31) rfl)
theorem b_712 : Cond.static y_MarbleBoardLaw_canReach ∈ jB := jBc17 (List.mem_of_getElem? (i := 32) rfl)
theorem b_713 : Cond.code y_MarbleBoardModel_canReach prog_12_method_46_code 4 (some .int) ∈ jB := jBc17 (List.mem_of_getElem? (i := 33) rfl)
theorem b_714 : Cond.methodLink "MarbleBoardLaw" 164 y_MarbleBoardModel_canReach ∈ jB := jBc17 (List.mem_of_getElem? (i := 34) rfl)
theorem b_715 : Cond.instanceMethod y_MarbleBoardModel_canReach ∈ jB := jBc17 (List.mem_of_getElem? (i := 35) rfl)
theorem b_716 : Cond.selects "MarbleBoardModel" y_MarbleBoardModel_canReach y_MarbleBoardModel_canReach ∈ jB := jBc17 (List.mem_of_getElem? (i := 36) rfl)
theorem b_717 : Cond.codeWith y_MarbleBoardLaw_explore method_18_code 4 (some .int) [(0, 9, 12, 34), (0, 9, 15, 13)] ∈ jB := jBc17 (List.mem_of_getElem? (i := 37) rfl)
theorem b_718 : Cond.methodLink "MarbleBoardLaw" 159 y_MarbleBoardLaw_explore ∈ jB := jBc17 (List.mem_of_getElem? (i := 38) rfl)
theorem b_719 : Cond.static y_MarbleBoardLaw_explore ∈ jB := jBc17 (List.mem_of_getElem? (i := 39) rfl)
theorem b_720 : Cond.code y_MarbleBoardModel_explore prog_12_method_45_code 3 (some .int) ∈ jB := jBc18 (List.mem_of_getElem? (i := 0) rfl)
theorem b_721 : Cond.methodLink "MarbleBoardLaw" 161 y_MarbleBoardModel_explore ∈ jB := jBc18 (List.mem_of_getElem? (i := 1) rfl)
theorem b_722 : Cond.instanceMethod y_MarbleBoardModel_explore ∈ jB := jBc18 (List.mem_of_getElem? (i := 2) rfl)
theorem b_723 : Cond.selects "MarbleBoardModel" y_MarbleBoardModel_explore y_MarbleBoardModel_explore ∈ jB := jBc18 (List.mem_of_getElem? (i := 3) rfl)
theorem b_724 : Cond.codeWith y_MarbleBoardLaw_marbles method_17_code 4 (some .int) [(0, 9, 12, 13)] ∈ jB := jBc18 (List.mem_of_getElem? (i := 4) rfl)
theorem b_725 : Cond.methodLink "MarbleBoardLaw" 156 y_MarbleBoardLaw_marbles ∈ jB := jBc18 (List.mem_of_getElem? (i := 5) rfl)
theorem b_726 : Cond.static y_MarbleBoardLaw_marbles ∈ jB := jBc18 (List.mem_of_getElem? (i := 6) rfl)
theorem b_727 : Cond.code y_MarbleBoardModel_marbles prog_12_method_42_code 2 (some .int) ∈ jB := jBc18 (List.mem_of_getElem? (i := 7) rfl)
theorem b_728 : Cond.methodLink "MarbleBoardLaw" 158 y_MarbleBoardModel_marbles ∈ jB := jBc18 (List.mem_of_getElem? (i := 8) rfl)
theorem b_729 : Cond.instanceMethod y_MarbleBoardModel_marbles ∈ jB := jBc18 (List.mem_of_getElem? (i := 9) rfl)
theorem b_730 : Cond.selects "MarbleBoardModel" y_MarbleBoardModel_marbles y_MarbleBoardModel_marbles ∈ jB := jBc18 (List.mem_of_getElem? (i := 10) rfl)
theorem b_731 : Cond.codeWith y_MarbleBoardLaw_tick method_16_code 4 (some .int) [(0, 9, 12, 34), (0, 9, 15, 13)] ∈ jB := jBc18 (List.mem_of_getElem? (i := 11) rfl)
theorem b_732 : Cond.methodLink "MarbleBoardLaw" 153 y_MarbleBoardLaw_tick ∈ jB := jBc18 (List.mem_of_getElem? (i := 12) rfl)
theorem b_733 : Cond.static y_MarbleBoardLaw_tick ∈ jB := jBc18 (List.mem_of_getElem? (i := 13) rfl)
theorem b_734 : Cond.code y_MarbleBoardModel_tick prog_12_method_41_code 4 (some .int) ∈ jB := jBc18 (List.mem_of_getElem? (i := 14) rfl)
theorem b_735 : Cond.methodLink "MarbleBoardLaw" 155 y_MarbleBoardModel_tick ∈ jB := jBc18 (List.mem_of_getElem? (i := 15) rfl)
theorem b_736 : Cond.instanceMethod y_MarbleBoardModel_tick ∈ jB := jBc18 (List.mem_of_getElem? (i := 16) rfl)
theorem b_737 : Cond.selects "MarbleBoardModel" y_MarbleBoardModel_tick y_MarbleBoardModel_tick ∈ jB := jBc18 (List.mem_of_getElem? (i := 17) rfl)
theorem b_738 : Cond.codeWith y_MarbleBoardLaw_roll method_15_code 4 (some .int) [(0, 16, 19, 34), (0, 16, 22, 13)] ∈ jB := jBc18 (List.mem_of_getElem? (i := 18) rfl)
theorem b_739 : Cond.methodLink "MarbleBoardLaw" 150 y_MarbleBoardLaw_roll ∈ jB := jBc18 (List.mem_of_getElem? (i := 19) rfl)
theorem b_740 : Cond.static y_MarbleBoardLaw_roll ∈ jB := jBc18 (List.mem_of_getElem? (i := 20) rfl)
theorem b_741 : Cond.code y_MarbleBoardModel_roll prog_12_method_39_code 2 (some .boolean) ∈ jB := jBc18 (List.mem_of_getElem? (i := 21) rfl)
theorem b_742 : Cond.methodLink "MarbleBoardLaw" 152 y_MarbleBoardModel_roll ∈ jB := jBc18 (List.mem_of_getElem? (i := 22) rfl)
theorem b_743 : Cond.instanceMethod y_MarbleBoardModel_roll ∈ jB := jBc18 (List.mem_of_getElem? (i := 23) rfl)
theorem b_744 : Cond.selects "MarbleBoardModel" y_MarbleBoardModel_roll y_MarbleBoardModel_roll ∈ jB := jBc18 (List.mem_of_getElem? (i := 24) rfl)
theorem b_745 : Cond.codeWith y_MarbleBoardLaw_count method_14_code 4 (some .int) [(0, 9, 12, 13)] ∈ jB := jBc18 (List.mem_of_getElem? (i := 25) rfl)
theorem b_746 : Cond.methodLink "MarbleBoardLaw" 147 y_MarbleBoardLaw_count ∈ jB := jBc18 (List.mem_of_getElem? (i := 26) rfl)
theorem b_747 : Cond.static y_MarbleBoardLaw_count ∈ jB := jBc18 (List.mem_of_getElem? (i := 27) rfl)
theorem b_748 : Cond.code y_MarbleBoardModel_count prog_12_method_36_code 2 (some .int) ∈ jB := jBc18 (List.mem_of_getElem? (i := 28) rfl)
theorem b_749 : Cond.methodLink "MarbleBoardLaw" 149 y_MarbleBoardModel_count ∈ jB := jBc18 (List.mem_of_getElem? (i := 29) rfl)
theorem b_750 : Cond.instanceMethod y_MarbleBoardModel_count ∈ jB := jBc18 (List.mem_of_getElem? (i := 30) rfl)
theorem b_751 : Cond.selects "MarbleBoardModel" y_MarbleBoardModel_count y_MarbleBoardModel_count ∈ jB := jBc18 (List.mem_of_getElem? (i := 31) rfl)
theorem b_752 : Cond.codeWith y_MarbleBoardLaw_undo method_13_code 3 (some .int) [(0, 15, 18, 34)] ∈ jB := jBc18 (List.mem_of_getElem? (i := 32) rfl)
theorem b_753 : Cond.methodLink "MarbleBoardLaw" 144 y_MarbleBoardLaw_undo ∈ jB := jBc18 (List.mem_of_getElem? (i := 33) rfl)
theorem b_754 : Cond.static y_MarbleBoardLaw_undo ∈ jB := jBc18 (List.mem_of_getElem? (i := 34) rfl)
theorem b_755 : Cond.code y_MarbleBoardModel_undo prog_12_method_35_code 1 (some .boolean) ∈ jB := jBc18 (List.mem_of_getElem? (i := 35) rfl)
theorem b_756 : Cond.methodLink "MarbleBoardLaw" 146 y_MarbleBoardModel_undo ∈ jB := jBc18 (List.mem_of_getElem? (i := 36) rfl)
theorem b_757 : Cond.instanceMethod y_MarbleBoardModel_undo ∈ jB := jBc18 (List.mem_of_getElem? (i := 37) rfl)
theorem b_758 : Cond.selects "MarbleBoardModel" y_MarbleBoardModel_undo y_MarbleBoardModel_undo ∈ jB := jBc18 (List.mem_of_getElem? (i := 38) rfl)
theorem b_759 : Cond.codeWith y_MarbleBoardLaw_drop method_12_code 4 (some .int) [(0, 9, 12, 34), (0, 9, 15, 13)] ∈ jB := jBc18 (List.mem_of_getElem? (i := 39) rfl)
theorem b_760 : Cond.methodLink "MarbleBoardLaw" 140 y_MarbleBoardLaw_drop ∈ jB := jBc19 (List.mem_of_getElem? (i := 0) rfl)
theorem b_761 : Cond.static y_MarbleBoardLaw_drop ∈ jB := jBc19 (List.mem_of_getElem? (i := 1) rfl)
theorem b_762 : Cond.code y_MarbleBoardModel_drop prog_12_method_34_code 5 (some .int) ∈ jB := jBc19 (List.mem_of_getElem? (i := 2) rfl)
theorem b_763 : Cond.methodLink "MarbleBoardLaw" 143 y_MarbleBoardModel_drop ∈ jB := jBc19 (List.mem_of_getElem? (i := 3) rfl)
theorem b_764 : Cond.instanceMethod y_MarbleBoardModel_drop ∈ jB := jBc19 (List.mem_of_getElem? (i := 4) rfl)
theorem b_765 : Cond.selects "MarbleBoardModel" y_MarbleBoardModel_drop y_MarbleBoardModel_drop ∈ jB := jBc19 (List.mem_of_getElem? (i := 5) rfl)
theorem b_766 : Cond.codeWith y_MarbleBoardLaw_turn method_11_code 6 (some .int) [(0, 12, 15, 13)] ∈ jB := jBc19 (List.mem_of_getElem? (i := 6) rfl)
theorem b_767 : Cond.methodLink "MarbleBoardLaw" 136 y_MarbleBoardLaw_turn ∈ jB := jBc19 (List.mem_of_getElem? (i := 7) rfl)
theorem b_768 : Cond.static y_MarbleBoardLaw_turn ∈ jB := jBc19 (List.mem_of_getElem? (i := 8) rfl)
theorem b_769 : Cond.code y_MarbleBoardModel_turn prog_12_method_25_code 7 (some .int) ∈ jB := jBc19 (List.mem_of_getElem? (i := 9) rfl)
theorem b_770 : Cond.methodLink "MarbleBoardLaw" 139 y_MarbleBoardModel_turn ∈ jB := jBc19 (List.mem_of_getElem? (i := 10) rfl)
theorem b_771 : Cond.instanceMethod y_MarbleBoardModel_turn ∈ jB := jBc19 (List.mem_of_getElem? (i := 11) rfl)
theorem b_772 : Cond.selects "MarbleBoardModel" y_MarbleBoardModel_turn y_MarbleBoardModel_turn ∈ jB := jBc19 (List.mem_of_getElem? (i := 12) rfl)
theorem b_773 : Cond.codeWith y_MarbleBoardLaw_value method_10_code 5 (some .int) [(0, 10, 13, 13)] ∈ jB := jBc19 (List.mem_of_getElem? (i := 13) rfl)
theorem b_774 : Cond.methodLink "MarbleBoardLaw" 133 y_MarbleBoardLaw_value ∈ jB := jBc19 (List.mem_of_getElem? (i := 14) rfl)
theorem b_775 : Cond.static y_MarbleBoardLaw_value ∈ jB := jBc19 (List.mem_of_getElem? (i := 15) rfl)
theorem b_776 : Cond.code y_MarbleBoardModel_value prog_12_method_24_code 3 (some .int) ∈ jB := jBc19 (List.mem_of_getElem? (i := 16) rfl)
theorem b_777 : Cond.methodLink "MarbleBoardLaw" 135 y_MarbleBoardModel_value ∈ jB := jBc19 (List.mem_of_getElem? (i := 17) rfl)
theorem b_778 : Cond.instanceMethod y_MarbleBoardModel_value ∈ jB := jBc19 (List.mem_of_getElem? (i := 18) rfl)
theorem b_779 : Cond.selects "MarbleBoardModel" y_MarbleBoardModel_value y_MarbleBoardModel_value ∈ jB := jBc19 (List.mem_of_getElem? (i := 19) rfl)
theorem b_780 : Cond.codeWith y_MarbleBoardLaw_look method_9_code 5 (some .int) [(0, 10, 13, 13)] ∈ jB := jBc19 (List.mem_of_getElem? (i := 20) rfl)
theorem b_781 : Cond.methodLink "MarbleBoardLaw" 129 y_MarbleBoardLaw_look ∈ jB := jBc19 (List.mem_of_getElem? (i := 21) rfl)
theorem b_782 : Cond.static y_MarbleBoardLaw_look ∈ jB := jBc19 (List.mem_of_getElem? (i := 22) rfl)
theorem b_783 : Cond.code y_MarbleBoardModel_look prog_12_method_23_code 6 (some .char) ∈ jB := jBc19 (List.mem_of_getElem? (i := 23) rfl)
theorem b_784 : Cond.methodLink "MarbleBoardLaw" 132 y_MarbleBoardModel_look ∈ jB := jBc19 (List.mem_of_getElem? (i := 24) rfl)
theorem b_785 : Cond.instanceMethod y_MarbleBoardModel_look ∈ jB := jBc19 (List.mem_of_getElem? (i := 25) rfl)
theorem b_786 : Cond.selects "MarbleBoardModel" y_MarbleBoardModel_look y_MarbleBoardModel_look ∈ jB := jBc19 (List.mem_of_getElem? (i := 26) rfl)
theorem b_787 : Cond.code y_MarbleBoard_hole prog_1_method_8_code 1 (some .int) ∈ jB := jBc19 (List.mem_of_getElem? (i := 27) rfl)
theorem b_788 : Cond.methodLink "MarbleBoardLaw" 125 y_MarbleBoard_hole ∈ jB := jBc19 (List.mem_of_getElem? (i := 28) rfl)
theorem b_789 : Cond.instanceMethod y_MarbleBoard_hole ∈ jB := jBc19 (List.mem_of_getElem? (i := 29) rfl)
theorem b_790 : Cond.selects "MarbleBoard" y_MarbleBoard_hole y_MarbleBoard_hole ∈ jB := jBc19 (List.mem_of_getElem? (i := 30) rfl)
theorem b_791 : Cond.code y_MarbleBoardModel_hole prog_12_method_19_code 1 (some .int) ∈ jB := jBc19 (List.mem_of_getElem? (i := 31) rfl)
theorem b_792 : Cond.methodLink "MarbleBoardLaw" 128 y_MarbleBoardModel_hole ∈ jB := jBc19 (List.mem_of_getElem? (i := 32) rfl)
theorem b_793 : Cond.instanceMethod y_MarbleBoardModel_hole ∈ jB := jBc19 (List.mem_of_getElem? (i := 33) rfl)
theorem b_794 : Cond.selects "MarbleBoardModel" y_MarbleBoardModel_hole y_MarbleBoardModel_hole ∈ jB := jBc19 (List.mem_of_getElem? (i := 34) rfl)
theorem b_795 : Cond.codeWith y_MarbleBoardLaw_freeze method_8_code 3 (some .int) [(0, 8, 11, 34)] ∈ jB := jBc19 (List.mem_of_getElem? (i := 35) rfl)
theorem b_796 : Cond.methodLink "MarbleBoardLaw" 121 y_MarbleBoardLaw_freeze ∈ jB := jBc19 (List.mem_of_getElem? (i := 36) rfl)
theorem b_797 : Cond.static y_MarbleBoardLaw_freeze ∈ jB := jBc19 (List.mem_of_getElem? (i := 37) rfl)
theorem b_798 : Cond.code y_MarbleBoardModel_freeze prog_12_method_22_code 3 (some .int) ∈ jB := jBc19 (List.mem_of_getElem? (i := 38) rfl)
theorem b_799 : Cond.methodLink "MarbleBoardLaw" 124 y_MarbleBoardModel_freeze ∈ jB := jBc19 (List.mem_of_getElem? (i := 39) rfl)
theorem b_800 : Cond.instanceMethod y_MarbleBoardModel_freeze ∈ jB := jBc20 (List.mem_of_getElem? (i := 0) rfl)
theorem b_801 : Cond.selects "MarbleBoardModel" y_MarbleBoardModel_freeze y_MarbleBoardModel_freeze ∈ jB := jBc20 (List.mem_of_getElem? (i := 1) rfl)
theorem b_802 : Cond.codeWith y_MarbleBoardLaw_inlet method_7_code 4 (some .int) [(0, 6, 9, 13)] ∈ jB := jBc20 (List.mem_of_getElem? (i := 2) rfl)
theorem b_803 : Cond.methodLink "MarbleBoardLaw" 118 y_MarbleBoardLaw_inlet ∈ jB := jBc20 (List.mem_of_getElem? (i := 3) rfl)
theorem b_804 : Cond.static y_MarbleBoardLaw_inlet ∈ jB := jBc20 (List.mem_of_getElem? (i := 4) rfl)
theorem b_805 : Cond.code y_MarbleBoardModel_inlet prog_12_method_13_code 3 none ∈ jB := jBc20 (List.mem_of_getElem? (i := 5) rfl)
theorem b_806 : Cond.methodLink "MarbleBoardLaw" 120 y_MarbleBoardModel_inlet ∈ jB := jBc20 (List.mem_of_getElem? (i := 6) rfl)
theorem b_807 : Cond.instanceMethod y_MarbleBoardModel_inlet ∈ jB := jBc20 (List.mem_of_getElem? (i := 7) rfl)
theorem b_808 : Cond.selects "MarbleBoardModel" y_MarbleBoardModel_inlet y_MarbleBoardModel_inlet ∈ jB := jBc20 (List.mem_of_getElem? (i := 8) rfl)
theorem b_809 : Cond.codeWith y_MarbleBoardLaw_pattern method_6_code 6 (some .int) [(0, 9, 12, 13)] ∈ jB := jBc20 (List.mem_of_getElem? (i := 9) rfl)
theorem b_810 : Cond.methodLink "MarbleBoardLaw" 114 y_MarbleBoardLaw_pattern ∈ jB := jBc20 (List.mem_of_getElem? (i := 10) rfl)
theorem b_811 : Cond.static y_MarbleBoardLaw_pattern ∈ jB := jBc20 (List.mem_of_getElem? (i := 11) rfl)
theorem b_812 : Cond.code y_MarbleBoardModel_pattern prog_12_method_12_code 6 none ∈ jB := jBc20 (List.mem_of_getElem? (i := 12) rfl)
theorem b_813 : Cond.methodLink "MarbleBoardLaw" 117 y_MarbleBoardModel_pattern ∈ jB := jBc20 (List.mem_of_getElem? (i := 13) rfl)
theorem b_814 : Cond.instanceMethod y_MarbleBoardModel_pattern ∈ jB := jBc20 (List.mem_of_getElem? (i := 14) rfl)
theorem b_815 : Cond.selects "MarbleBoardModel" y_MarbleBoardModel_pattern y_MarbleBoardModel_pattern ∈ jB := jBc20 (List.mem_of_getElem? (i := 15) rfl)
theorem b_816 : Cond.codeWith y_MarbleBoardLaw_cell method_5_code 5 (some .int) [(0, 7, 10, 13)] ∈ jB := jBc20 (List.mem_of_getElem? (i := 16) rfl)
theorem b_817 : Cond.methodLink "MarbleBoardLaw" 110 y_MarbleBoardLaw_cell ∈ jB := jBc20 (List.mem_of_getElem? (i := 17) rfl)
theorem b_818 : Cond.static y_MarbleBoardLaw_cell ∈ jB := jBc20 (List.mem_of_getElem? (i := 18) rfl)
theorem b_819 : Cond.code y_MarbleBoardModel_cell prog_12_method_11_code 4 none ∈ jB := jBc20 (List.mem_of_getElem? (i := 19) rfl)
theorem b_820 : Cond.methodLink "MarbleBoardLaw" 113 y_MarbleBoardModel_cell ∈ jB := jBc20 (List.mem_of_getElem? (i := 20) rfl)
theorem b_821 : Cond.instanceMethod y_MarbleBoardModel_cell ∈ jB := jBc20 (List.mem_of_getElem? (i := 21) rfl)
theorem b_822 : Cond.selects "MarbleBoardModel" y_MarbleBoardModel_cell y_MarbleBoardModel_cell ∈ jB := jBc20 (List.mem_of_getElem? (i := 22) rfl)
theorem b_823 : Cond.constantLong "MarbleBoardLaw" 104 4294967295 ∈ jB := jBc20 (List.mem_of_getElem? (i := 23) rfl)
theorem b_824 : Cond.codeWith y_MarbleBoardLaw_row method_4_code 7 (some .int) [(0, 8, 11, 13)] ∈ jB := jBc20 (List.mem_of_getElem? (i := 24) rfl)
theorem b_825 : Cond.methodLink "MarbleBoardLaw" 106 y_MarbleBoardLaw_row ∈ jB := jBc20 (List.mem_of_getElem? (i := 25) rfl)
theorem b_826 : Cond.static y_MarbleBoardLaw_row ∈ jB := jBc20 (List.mem_of_getElem? (i := 26) rfl)
theorem b_827 : Cond.code y_MarbleBoardModel_row prog_12_method_10_code 8 none ∈ jB := jBc20 (List.mem_of_getElem? (i := 27) rfl)
theorem b_828 : Cond.methodLink "MarbleBoardLaw" 109 y_MarbleBoardModel_row ∈ jB := jBc20 (List.mem_of_getElem? (i := 28) rfl)
theorem b_829 : Cond.instanceMethod y_MarbleBoardModel_row ∈ jB := jBc20 (List.mem_of_getElem? (i := 29) rfl)
theorem b_830 : Cond.selects "MarbleBoardModel" y_MarbleBoardModel_row y_MarbleBoardModel_row ∈ jB := jBc20 (List.mem_of_getElem? (i := 30) rfl)
theorem b_831 : Cond.codeWith y_MarbleBoardLaw_board method_3_code 4 (some .int) [(0, 6, 9, 13)] ∈ jB := jBc20 (List.mem_of_getElem? (i := 31) rfl)
theorem b_832 : Cond.methodLink "MarbleBoardLaw" 95 y_MarbleBoardLaw_board ∈ jB := jBc20 (List.mem_of_getElem? (i := 32) rfl)
theorem b_833 : Cond.static y_MarbleBoardLaw_board ∈ jB := jBc20 (List.mem_of_getElem? (i := 33) rfl)
theorem b_834 : Cond.code y_MarbleBoardModel_board prog_12_method_9_code 3 none ∈ jB := jBc20 (List.mem_of_getElem? (i := 34) rfl)
theorem b_835 : Cond.methodLink "MarbleBoardLaw" 100 y_MarbleBoardModel_board ∈ jB := jBc20 (List.mem_of_getElem? (i := 35) rfl)
theorem b_836 : Cond.instanceMethod y_MarbleBoardModel_board ∈ jB := jBc20 (List.mem_of_getElem? (i := 36) rfl)
theorem b_837 : Cond.selects "MarbleBoardModel" y_MarbleBoardModel_board y_MarbleBoardModel_board ∈ jB := jBc20 (List.mem_of_getElem? (i := 37) rfl)
theorem b_838 : Cond.methodLink "MarbleBoard$Cells" 3 Lib.objectInit ∈ jB := jBc20 (List.mem_of_getElem? (i := 38) rfl)
theorem b_839 : Cond.instanceMethod Lib.objectInit ∈ jB := jBc20 (List.mem_of_getElem? (i := 39) rfl)
theorem b_840 : Cond.code Lib.objectInit ⟨#[0xb1]⟩ 1 none ∈ jB := jBc21 (List.mem_of_getElem? (i := 0) rfl)
theorem b_841 : Cond.arrayClass .char ∈ jB := jBc21 (List.mem_of_getElem? (i := 1) rfl)
theorem b_842 : Cond.arrayClass .int ∈ jB := jBc21 (List.mem_of_getElem? (i := 2) rfl)
theorem b_843 : Cond.methodLink "MarbleBoard$Cells" 28 y_Cells_clear ∈ jB := jBc21 (List.mem_of_getElem? (i := 3) rfl)
theorem b_844 : Cond.methodLink "MarbleBoard$Track" 3 Lib.objectInit ∈ jB := jBc21 (List.mem_of_getElem? (i := 4) rfl)
theorem b_845 : Cond.methodLink "MarbleBoard$Survey" 3 Lib.objectInit ∈ jB := jBc21 (List.mem_of_getElem? (i := 5) rfl)
theorem b_846 : Cond.methodLink "MarbleBoard$State" 3 Lib.objectInit ∈ jB := jBc21 (List.mem_of_getElem? (i := 6) rfl)
theorem b_847 : Cond.methodLink "MarbleBoard$Crowd" 3 Lib.objectInit ∈ jB := jBc21 (List.mem_of_getElem? (i := 7) rfl)
theorem b_848 : Cond.methodLink "MarbleBoard$Past" 1 Lib.objectInit ∈ jB := jBc21 (List.mem_of_getElem? (i := 8) rfl)
theorem b_849 : Cond.methodLink "MarbleBoard$Found" 3 Lib.objectInit ∈ jB := jBc21 (List.mem_of_getElem? (i := 9) rfl)
theorem b_850 : Cond.arrayClass .long ∈ jB := jBc21 (List.mem_of_getElem? (i := 10) rfl)
theorem b_851 : Cond.methodLink "MarbleBoard$Search" 5 Lib.objectInit ∈ jB := jBc21 (List.mem_of_getElem? (i := 11) rfl)
theorem b_852 : Cond.classLink "MarbleBoard$Search" 11 "MarbleBoard$Found" ∈ jB := jBc21 (List.mem_of_getElem? (i := 12) rfl)
theorem b_853 : Cond.instantiable "MarbleBoard$Found" 3 ∈ jB := jBc21 (List.mem_of_getElem? (i := 13) rfl)
theorem b_854 : Cond.code y_Found_init prog_4_method_1_code 1 none ∈ jB := jBc21 (List.mem_of_getElem? (i := 14) rfl)
theorem b_855 : Cond.instanceMethod y_Found_init ∈ jB := jBc21 (List.mem_of_getElem? (i := 15) rfl)
theorem b_856 : Cond.classLink "MarbleBoard$Search" 34 "MarbleBoard$Crowd" ∈ jB := jBc21 (List.mem_of_getElem? (i := 16) rfl)
theorem b_857 : Cond.instantiable "MarbleBoard$Crowd" 5 ∈ jB := jBc21 (List.mem_of_getElem? (i := 17) rfl)
theorem b_858 : Cond.code y_Crowd_init prog_3_method_1_code 3 none ∈ jB := jBc21 (List.mem_of_getElem? (i := 18) rfl)
theorem b_859 : Cond.methodLink "MarbleBoard$Search" 36 y_Crowd_init ∈ jB := jBc21 (List.mem_of_getElem? (i := 19) rfl)
theorem b_860 : Cond.instanceMethod y_Crowd_init ∈ jB := jBc21 (List.mem_of_getElem? (i := 20) rfl)
theorem b_861 : Cond.methodLink "MarbleBoard" 1 Lib.objectInit ∈ jB := jBc21 (List.mem_of_getElem? (i := 21) rfl)
theorem b_862 : Cond.classLink "MarbleBoard" 7 "MarbleBoard$Cells" ∈ jB := jBc21 (List.mem_of_getElem? (i := 22) rfl)
theorem b_863 : Cond.instantiable "MarbleBoard$Cells" 7 ∈ jB := jBc21 (List.mem_of_getElem? (i := 23) rfl)
theorem b_864 : Cond.code y_Cells_init prog_2_method_1_code 1 none ∈ jB := jBc21 (List.mem_of_getElem? (i := 24) rfl)
theorem b_865 : Cond.methodLink "MarbleBoard" 9 y_Cells_init ∈ jB := jBc21 (List.mem_of_getElem? (i := 25) rfl)
theorem b_866 : Cond.instanceMethod y_Cells_init ∈ jB := jBc21 (List.mem_of_getElem? (i := 26) rfl)
theorem b_867 : Cond.classLink "MarbleBoard" 16 "MarbleBoard$Track" ∈ jB := jBc21 (List.mem_of_getElem? (i := 27) rfl)
theorem b_868 : Cond.instantiable "MarbleBoard$Track" 1 ∈ jB := jBc21 (List.mem_of_getElem? (i := 28) rfl)
theorem b_869 : Cond.code y_Track_init prog_10_method_1_code 2 none ∈ jB := jBc21 (List.mem_of_getElem? (i := 29) rfl)
theorem b_870 : Cond.methodLink "MarbleBoard" 18 y_Track_init ∈ jB := jBc21 (List.mem_of_getElem? (i := 30) rfl)
theorem b_871 : Cond.instanceMethod y_Track_init ∈ jB := jBc21 (List.mem_of_getElem? (i := 31) rfl)
theorem b_872 : Cond.classLink "MarbleBoard" 25 "MarbleBoard$Survey" ∈ jB := jBc21 (List.mem_of_getElem? (i := 32) rfl)
theorem b_873 : Cond.instantiable "MarbleBoard$Survey" 2 ∈ jB := jBc21 (List.mem_of_getElem? (i := 33) rfl)
theorem b_874 : Cond.code y_Survey_init prog_9_method_1_code 2 none ∈ jB := jBc21 (List.mem_of_getElem? (i := 34) rfl)
theorem b_875 : Cond.methodLink "MarbleBoard" 27 y_Survey_init ∈ jB := jBc21 (List.mem_of_getElem? (i := 35) rfl)
theorem b_876 : Cond.instanceMethod y_Survey_init ∈ jB := jBc21 (List.mem_of_getElem? (i := 36) rfl)
theorem b_877 : Cond.classLink "MarbleBoard" 32 "MarbleBoard$State" ∈ jB := jBc21 (List.mem_of_getElem? (i := 37) rfl)
theorem b_878 : Cond.instantiable "MarbleBoard$State" 3 ∈ jB := jBc21 (List.mem_of_getElem? (i := 38) rfl)
theorem b_879 : Cond.code y_State_init prog_8_method_1_code 2 none ∈ jB := jBc21 (List.mem_of_getElem? (i := 39) rfl)
theorem b_880 : Cond.methodLink "MarbleBoard" 34 y_State_init ∈ jB := jBc22 (List.mem_of_getElem? (i := 0) rfl)
theorem b_881 : Cond.instanceMethod y_State_init ∈ jB := jBc22 (List.mem_of_getElem? (i := 1) rfl)
theorem b_882 : Cond.classLink "MarbleBoard" 43 "MarbleBoard$Crowd" ∈ jB := jBc22 (List.mem_of_getElem? (i := 2) rfl)
theorem b_883 : Cond.methodLink "MarbleBoard" 45 y_Crowd_init ∈ jB := jBc22 (List.mem_of_getElem? (i := 3) rfl)
theorem b_884 : Cond.classLink "MarbleBoard" 52 "MarbleBoard$Past" ∈ jB := jBc22 (List.mem_of_getElem? (i := 4) rfl)
theorem b_885 : Cond.instantiable "MarbleBoard$Past" 4 ∈ jB := jBc22 (List.mem_of_getElem? (i := 5) rfl)
theorem b_886 : Cond.code y_Past_init prog_6_method_1_code 1 none ∈ jB := jBc22 (List.mem_of_getElem? (i := 6) rfl)
theorem b_887 : Cond.instanceMethod y_Past_init ∈ jB := jBc22 (List.mem_of_getElem? (i := 7) rfl)
theorem b_888 : Cond.classLink "MarbleBoard" 59 "MarbleBoard$Search" ∈ jB := jBc22 (List.mem_of_getElem? (i := 8) rfl)
theorem b_889 : Cond.instantiable "MarbleBoard$Search" 6 ∈ jB := jBc22 (List.mem_of_getElem? (i := 9) rfl)
theorem b_890 : Cond.code y_Search_init prog_7_method_1_code 4 none ∈ jB := jBc22 (List.mem_of_getElem? (i := 10) rfl)
theorem b_891 : Cond.methodLink "MarbleBoard" 61 y_Search_init ∈ jB := jBc22 (List.mem_of_getElem? (i := 11) rfl)
theorem b_892 : Cond.instanceMethod y_Search_init ∈ jB := jBc22 (List.mem_of_getElem? (i := 12) rfl)
theorem b_893 : Cond.methodLink "MarbleBoardModel" 1 Lib.objectInit ∈ jB := jBc22 (List.mem_of_getElem? (i := 13) rfl)
theorem b_894 : Cond.arrayClass .boolean ∈ jB := jBc22 (List.mem_of_getElem? (i := 14) rfl)
theorem b_895 : Cond.classLink "MarbleBoardLaw" 8 "MarbleBoard" ∈ jB := jBc22 (List.mem_of_getElem? (i := 15) rfl)
theorem b_896 : Cond.instantiable "MarbleBoard" 11 ∈ jB := jBc22 (List.mem_of_getElem? (i := 16) rfl)
theorem b_897 : Cond.methodLink "MarbleBoardLaw" 91 y_MarbleBoard_init ∈ jB := jBc22 (List.mem_of_getElem? (i := 17) rfl)
theorem b_898 : Cond.code y_MarbleBoard_init prog_1_method_1_code 1 none ∈ jB := jBc22 (List.mem_of_getElem? (i := 18) rfl)
theorem b_899 : Cond.instanceMethod y_MarbleBoard_init ∈ jB := jBc22 (List.mem_of_getElem? (i := 19) rfl)
theorem b_900 : Cond.classLink "MarbleBoardLaw" 92 "MarbleBoardModel" ∈ jB := jBc22 (List.mem_of_getElem? (i := 20) rfl)
theorem b_901 : Cond.instantiable "MarbleBoardModel" 25 ∈ jB := jBc22 (List.mem_of_getElem? (i := 21) rfl)
theorem b_902 : Cond.methodLink "MarbleBoardLaw" 94 y_MarbleBoardModel_init ∈ jB := jBc22 (List.mem_of_getElem? (i := 22) rfl)
theorem b_903 : Cond.code y_MarbleBoardModel_init prog_12_method_1_code 1 none ∈ jB := jBc22 (List.mem_of_getElem? (i := 23) rfl)
theorem b_904 : Cond.instanceMethod y_MarbleBoardModel_init ∈ jB := jBc22 (List.mem_of_getElem? (i := 24) rfl)
theorem b_905 : Cond.classLink "MarbleBoard" 75 (jEx 1) ∈ jB := jBc22 (List.mem_of_getElem? (i := 25) rfl)
theorem b_906 : Cond.initialized (jEx 1) ∈ jB := jBc22 (List.mem_of_getElem? (i := 26) rfl)
theorem b_907 : Cond.classLink "MarbleBoard" 128 (jEx 2) ∈ jB := jBc22 (List.mem_of_getElem? (i := 27) rfl)
theorem b_908 : Cond.initialized (jEx 2) ∈ jB := jBc22 (List.mem_of_getElem? (i := 28) rfl)
theorem jt_link1 : Cond.classLink "MarbleBoard" 75 (jEx 1) ∈ jB := b_905
theorem jt_ini1 : Cond.initialized (jEx 1) ∈ jB := b_906
theorem jt_link2 : Cond.classLink "MarbleBoard" 128 (jEx 2) ∈ jB := b_907
theorem jt_ini2 : Cond.initialized (jEx 2) ∈ jB := b_908
def jNB : List Cond := [Cond.methodLinkNest "MarbleBoard$Cells" 49 y_MarbleBoard_spotOf "MarbleBoard", Cond.methodLinkNest "MarbleBoard$Cells" 69 y_MarbleBoard_marbleAt "MarbleBoard", Cond.methodLinkNest "MarbleBoard$Track" 52 y_MarbleBoard_spotOf "MarbleBoard", Cond.methodLinkNest "MarbleBoard$Track" 55 y_MarbleBoard_marbleAt "MarbleBoard", Cond.methodLinkNest "MarbleBoard$Survey" 42 y_MarbleBoard_spotOf "MarbleBoard", Cond.methodLinkNest "MarbleBoard$Layout" 39 y_MarbleBoard_spotOf "MarbleBoard", Cond.methodLinkNest "MarbleBoard$Search" 13 y_Found_init "MarbleBoard", Cond.methodLinkNest "MarbleBoard" 54 y_Past_init "MarbleBoard"]
theorem bn_0 : Cond.methodLinkNest "MarbleBoard$Cells" 49 y_MarbleBoard_spotOf "MarbleBoard" ∈ jNB := List.mem_of_getElem? (i := 0) rfl
theorem bn_1 : Cond.methodLinkNest "MarbleBoard$Cells" 69 y_MarbleBoard_marbleAt "MarbleBoard" ∈ jNB := List.mem_of_getElem? (i := 1) rfl
theorem bn_2 : Cond.methodLinkNest "MarbleBoard$Track" 52 y_MarbleBoard_spotOf "MarbleBoard" ∈ jNB := List.mem_of_getElem? (i := 2) rfl
theorem bn_3 : Cond.methodLinkNest "MarbleBoard$Track" 55 y_MarbleBoard_marbleAt "MarbleBoard" ∈ jNB := List.mem_of_getElem? (i := 3) rfl
theorem bn_4 : Cond.methodLinkNest "MarbleBoard$Survey" 42 y_MarbleBoard_spotOf "MarbleBoard" ∈ jNB := List.mem_of_getElem? (i := 4) rfl
theorem bn_5 : Cond.methodLinkNest "MarbleBoard$Layout" 39 y_MarbleBoard_spotOf "MarbleBoard" ∈ jNB := List.mem_of_getElem? (i := 5) rfl
theorem bn_6 : Cond.methodLinkNest "MarbleBoard$Search" 13 y_Found_init "MarbleBoard" ∈ jNB := List.mem_of_getElem? (i := 6) rfl
theorem bn_7 : Cond.methodLinkNest "MarbleBoard" 54 y_Past_init "MarbleBoard" ∈ jNB := List.mem_of_getElem? (i := 7) rfl
