/-! names of my own: classes, fields, methods, words of the tables -/
def jT0 : u_T := fun k => match k with
  | 0 => ("MarbleBoard", "cells", "LMarbleBoard$Cells;", true)
  | 1 => ("MarbleBoard", "track", "LMarbleBoard$Track;", true)
  | 2 => ("MarbleBoard", "survey", "LMarbleBoard$Survey;", true)
  | 3 => ("MarbleBoard", "state", "LMarbleBoard$State;", true)
  | 4 => ("MarbleBoard", "counts", "[I", true)
  | 5 => ("MarbleBoard", "crowd", "LMarbleBoard$Crowd;", true)
  | 6 => ("MarbleBoard", "past", "LMarbleBoard$Past;", true)
  | 7 => ("MarbleBoard", "search", "LMarbleBoard$Search;", true)
  | 8 => ("MarbleBoard", "told", "[I", true)
  | 9 => ("MarbleBoard", "frozen", "Z", false)
  | _ => ("MarbleBoard", "inputs", "I", false)
def jTy0 : Nat → FieldType := fun k => match k with
  | 0 => .object "MarbleBoard$Cells"
  | 1 => .object "MarbleBoard$Track"
  | 2 => .object "MarbleBoard$Survey"
  | 3 => .object "MarbleBoard$State"
  | 4 => .array .int
  | 5 => .object "MarbleBoard$Crowd"
  | 6 => .object "MarbleBoard$Past"
  | 7 => .object "MarbleBoard$Search"
  | 8 => .array .int
  | 9 => .boolean
  | _ => .int
theorem jnm0 : ∀ a, a < 11 → ∀ b, b < 11 → a ≠ b → (jT0 a).2.1 ≠ (jT0 b).2.1 := by decide +kernel
theorem jty0 : ∀ k, k < 11 → parseFieldDescriptor (jT0 k).2.2.1 = some (jTy0 k) := by decide +kernel
def jT1 : u_T := fun k => match k with
  | 0 => ("MarbleBoard$Cells", "kinds", "[C", true)
  | 1 => ("MarbleBoard$Cells", "values", "[I", true)
  | 2 => ("MarbleBoard$Cells", "lengths", "[I", true)
  | 3 => ("MarbleBoard$Cells", "patterns", "[I", true)
  | 4 => ("MarbleBoard$Cells", "columns", "[I", true)
  | 5 => ("MarbleBoard$Cells", "width", "I", false)
  | _ => ("MarbleBoard$Cells", "height", "I", false)
def jTy1 : Nat → FieldType := fun k => match k with
  | 0 => .array .char
  | 1 => .array .int
  | 2 => .array .int
  | 3 => .array .int
  | 4 => .array .int
  | 5 => .int
  | _ => .int
theorem jnm1 : ∀ a, a < 7 → ∀ b, b < 7 → a ≠ b → (jT1 a).2.1 ≠ (jT1 b).2.1 := by decide +kernel
theorem jty1 : ∀ k, k < 7 → parseFieldDescriptor (jT1 k).2.2.1 = some (jTy1 k) := by decide +kernel
def jT2 : u_T := fun k => match k with
  | _ => ("MarbleBoard$Track", "cells", "LMarbleBoard$Cells;", true)
def jTy2 : Nat → FieldType := fun k => match k with
  | _ => .object "MarbleBoard$Cells"
theorem jnm2 : ∀ a, a < 1 → ∀ b, b < 1 → a ≠ b → (jT2 a).2.1 ≠ (jT2 b).2.1 := by decide +kernel
theorem jty2 : ∀ k, k < 1 → parseFieldDescriptor (jT2 k).2.2.1 = some (jTy2 k) := by decide +kernel
def jT3 : u_T := fun k => match k with
  | 0 => ("MarbleBoard$Survey", "cells", "LMarbleBoard$Cells;", true)
  | _ => ("MarbleBoard$Survey", "reached", "[I", true)
def jTy3 : Nat → FieldType := fun k => match k with
  | 0 => .object "MarbleBoard$Cells"
  | _ => .array .int
theorem jnm3 : ∀ a, a < 2 → ∀ b, b < 2 → a ≠ b → (jT3 a).2.1 ≠ (jT3 b).2.1 := by decide +kernel
theorem jty3 : ∀ k, k < 2 → parseFieldDescriptor (jT3 k).2.2.1 = some (jTy3 k) := by decide +kernel
def jT4 : u_T := fun k => match k with
  | 0 => ("MarbleBoard$State", "cells", "LMarbleBoard$Cells;", true)
  | 1 => ("MarbleBoard$State", "moving", "[I", true)
  | _ => ("MarbleBoard$State", "size", "I", false)
def jTy4 : Nat → FieldType := fun k => match k with
  | 0 => .object "MarbleBoard$Cells"
  | 1 => .array .int
  | _ => .int
theorem jnm4 : ∀ a, a < 3 → ∀ b, b < 3 → a ≠ b → (jT4 a).2.1 ≠ (jT4 b).2.1 := by decide +kernel
theorem jty4 : ∀ k, k < 3 → parseFieldDescriptor (jT4 k).2.2.1 = some (jTy4 k) := by decide +kernel
def jT5 : u_T := fun k => match k with
  | 0 => ("MarbleBoard$Crowd", "track", "LMarbleBoard$Track;", true)
  | 1 => ("MarbleBoard$Crowd", "counts", "[I", true)
  | 2 => ("MarbleBoard$Crowd", "marbles", "[I", true)
  | 3 => ("MarbleBoard$Crowd", "size", "I", false)
  | _ => ("MarbleBoard$Crowd", "held", "I", false)
def jTy5 : Nat → FieldType := fun k => match k with
  | 0 => .object "MarbleBoard$Track"
  | 1 => .array .int
  | 2 => .array .int
  | 3 => .int
  | _ => .int
theorem jnm5 : ∀ a, a < 5 → ∀ b, b < 5 → a ≠ b → (jT5 a).2.1 ≠ (jT5 b).2.1 := by decide +kernel
theorem jty5 : ∀ k, k < 5 → parseFieldDescriptor (jT5 k).2.2.1 = some (jTy5 k) := by decide +kernel
def jT6 : u_T := fun k => match k with
  | 0 => ("MarbleBoard$Past", "states", "[I", true)
  | 1 => ("MarbleBoard$Past", "outlets", "[I", true)
  | 2 => ("MarbleBoard$Past", "end", "I", false)
  | _ => ("MarbleBoard$Past", "size", "I", false)
def jTy6 : Nat → FieldType := fun k => match k with
  | 0 => .array .int
  | 1 => .array .int
  | 2 => .int
  | _ => .int
theorem jnm6 : ∀ a, a < 4 → ∀ b, b < 4 → a ≠ b → (jT6 a).2.1 ≠ (jT6 b).2.1 := by decide +kernel
theorem jty6 : ∀ k, k < 4 → parseFieldDescriptor (jT6 k).2.2.1 = some (jTy6 k) := by decide +kernel
def jT7 : u_T := fun k => match k with
  | 0 => ("MarbleBoard$Search", "cells", "LMarbleBoard$Cells;", true)
  | 1 => ("MarbleBoard$Search", "track", "LMarbleBoard$Track;", true)
  | 2 => ("MarbleBoard$Search", "state", "LMarbleBoard$State;", true)
  | 3 => ("MarbleBoard$Search", "crowd", "LMarbleBoard$Crowd;", true)
  | 4 => ("MarbleBoard$Search", "found", "LMarbleBoard$Found;", true)
  | _ => ("MarbleBoard$Search", "sent", "[I", true)
def jTy7 : Nat → FieldType := fun k => match k with
  | 0 => .object "MarbleBoard$Cells"
  | 1 => .object "MarbleBoard$Track"
  | 2 => .object "MarbleBoard$State"
  | 3 => .object "MarbleBoard$Crowd"
  | 4 => .object "MarbleBoard$Found"
  | _ => .array .int
theorem jnm7 : ∀ a, a < 6 → ∀ b, b < 6 → a ≠ b → (jT7 a).2.1 ≠ (jT7 b).2.1 := by decide +kernel
theorem jty7 : ∀ k, k < 6 → parseFieldDescriptor (jT7 k).2.2.1 = some (jTy7 k) := by decide +kernel
def jT8 : u_T := fun k => match k with
  | 0 => ("MarbleBoard$Found", "items", "[J", true)
  | 1 => ("MarbleBoard$Found", "slots", "[I", true)
  | _ => ("MarbleBoard$Found", "size", "I", false)
def jTy8 : Nat → FieldType := fun k => match k with
  | 0 => .array .long
  | 1 => .array .int
  | _ => .int
theorem jnm8 : ∀ a, a < 3 → ∀ b, b < 3 → a ≠ b → (jT8 a).2.1 ≠ (jT8 b).2.1 := by decide +kernel
theorem jty8 : ∀ k, k < 3 → parseFieldDescriptor (jT8 k).2.2.1 = some (jTy8 k) := by decide +kernel
def jT9 : u_T := fun k => match k with
  | 0 => ("MarbleBoardModel", "code", "I", false)
  | 1 => ("MarbleBoardModel", "w", "I", false)
  | 2 => ("MarbleBoardModel", "h", "I", false)
  | 3 => ("MarbleBoardModel", "kind", "[I", true)
  | 4 => ("MarbleBoardModel", "value", "[I", true)
  | 5 => ("MarbleBoardModel", "pattern", "[I", true)
  | 6 => ("MarbleBoardModel", "length", "[I", true)
  | 7 => ("MarbleBoardModel", "inlet", "[I", true)
  | 8 => ("MarbleBoardModel", "frozen", "Z", false)
  | 9 => ("MarbleBoardModel", "inputs", "I", false)
  | 10 => ("MarbleBoardModel", "counts", "[I", true)
  | 11 => ("MarbleBoardModel", "was", "[J", true)
  | 12 => ("MarbleBoardModel", "end", "[I", true)
  | 13 => ("MarbleBoardModel", "runs", "I", false)
  | 14 => ("MarbleBoardModel", "back", "I", false)
  | 15 => ("MarbleBoardModel", "place", "[I", true)
  | 16 => ("MarbleBoardModel", "came", "[I", true)
  | 17 => ("MarbleBoardModel", "many", "I", false)
  | 18 => ("MarbleBoardModel", "held", "I", false)
  | 19 => ("MarbleBoardModel", "told", "[I", true)
  | 20 => ("MarbleBoardModel", "reached", "[Z", true)
  | 21 => ("MarbleBoardModel", "states", "[J", true)
  | 22 => ("MarbleBoardModel", "rests", "[J", true)
  | 23 => ("MarbleBoardModel", "found", "I", false)
  | _ => ("MarbleBoardModel", "tooMany", "Z", false)
def jTy9 : Nat → FieldType := fun k => match k with
  | 0 => .int
  | 1 => .int
  | 2 => .int
  | 3 => .array .int
  | 4 => .array .int
  | 5 => .array .int
  | 6 => .array .int
  | 7 => .array .int
  | 8 => .boolean
  | 9 => .int
  | 10 => .array .int
  | 11 => .array .long
  | 12 => .array .int
  | 13 => .int
  | 14 => .int
  | 15 => .array .int
  | 16 => .array .int
  | 17 => .int
  | 18 => .int
  | 19 => .array .int
  | 20 => .array .boolean
  | 21 => .array .long
  | 22 => .array .long
  | 23 => .int
  | _ => .boolean
theorem jnm9 : ∀ a, a < 25 → ∀ b, b < 25 → a ≠ b → (jT9 a).2.1 ≠ (jT9 b).2.1 := by decide +kernel
theorem jty9 : ∀ k, k < 25 → parseFieldDescriptor (jT9 k).2.2.1 = some (jTy9 k) := by decide +kernel
abbrev vwCl : List vw_C := [("MarbleBoard", jT0, 11), ("MarbleBoard$Cells", jT1, 7), ("MarbleBoard$Track", jT2, 1), ("MarbleBoard$Survey", jT3, 2), ("MarbleBoard$State", jT4, 3), ("MarbleBoard$Crowd", jT5, 5), ("MarbleBoard$Past", jT6, 4), ("MarbleBoard$Search", jT7, 6), ("MarbleBoard$Found", jT8, 3), ("MarbleBoardModel", jT9, 25)]
def y_Cells_clear : MethodName := ⟨"MarbleBoard$Cells", "clear", "(II)V"⟩
def y_Arrays_fill : MethodName := ⟨"java/util/Arrays", "fill", "([II)V"⟩
def y_Cells_put : MethodName := ⟨"MarbleBoard$Cells", "put", "(IIC)V"⟩
def y_MarbleBoard_spotOf : MethodName := ⟨"MarbleBoard", "spotOf", "(II)I"⟩
def y_Cells_kindOf : MethodName := ⟨"MarbleBoard$Cells", "kindOf", "(C)C"⟩
def y_Cells_firstValue : MethodName := ⟨"MarbleBoard$Cells", "firstValue", "(C)I"⟩
def jB0 : List Cond := [Cond.fieldLink "MarbleBoard$Cells" 32 "MarbleBoard$Cells" "width" "I", Cond.fieldLink "MarbleBoard$Cells" 36 "MarbleBoard$Cells" "height" "I", Cond.fieldLink "MarbleBoard$Cells" 25 "MarbleBoard$Cells" "columns" "[I", Cond.code y_Arrays_fill prog_23_method_103_code 4 none, Cond.initialized "java/util/Arrays", Cond.methodLink "MarbleBoard$Cells" 43 y_Arrays_fill, Cond.static y_Arrays_fill, Cond.code y_MarbleBoard_spotOf prog_1_method_31_code 2 (some .int), Cond.initialized "MarbleBoard", Cond.static y_MarbleBoard_spotOf, Cond.fieldLink "MarbleBoard$Cells" 9 "MarbleBoard$Cells" "kinds" "[C", Cond.code y_Cells_kindOf prog_2_method_8_code 1 (some .char), Cond.initialized "MarbleBoard$Cells", Cond.methodLink "MarbleBoard$Cells" 53 y_Cells_kindOf, Cond.static y_Cells_kindOf, Cond.fieldLink "MarbleBoard$Cells" 15 "MarbleBoard$Cells" "values" "[I", Cond.code y_Cells_firstValue prog_2_method_9_code 1 (some .int), Cond.methodLink "MarbleBoard$Cells" 57 y_Cells_firstValue, Cond.static y_Cells_firstValue, Cond.fieldLink "MarbleBoard$Cells" 19 "MarbleBoard$Cells" "lengths" "[I", Cond.fieldLink "MarbleBoard$Cells" 22 "MarbleBoard$Cells" "patterns" "[I", Cond.code y_Cells_put prog_2_method_7_code 5 none, Cond.methodLink "MarbleBoard$Cells" 39 y_Cells_put, Cond.instanceMethod y_Cells_put, Cond.selects "MarbleBoard$Cells" y_Cells_put y_Cells_put]
def jB : List Cond := (jB0 ++ ((u_ws "MarbleBoard" jT0 11) ++ ((u_ws "MarbleBoard$Cells" jT1 7) ++ ((u_ws "MarbleBoard$Track" jT2 1) ++ ((u_ws "MarbleBoard$Survey" jT3 2) ++ ((u_ws "MarbleBoard$State" jT4 3) ++ ((u_ws "MarbleBoard$Crowd" jT5 5) ++ ((u_ws "MarbleBoard$Past" jT6 4) ++ ((u_ws "MarbleBoard$Search" jT7 6) ++ ((u_ws "MarbleBoard$Found" jT8 3) ++ (u_ws "MarbleBoardModel" jT9 25)))))))))))
theorem jBc0 {w : Cond} (h : w ∈ jB0) : w ∈ jB := (List.mem_append_left _ h)
theorem jin0 : ∀ z ∈ u_ws "MarbleBoard" jT0 11, z ∈ jB := fun z h => (List.mem_append_right _ (List.mem_append_left _ h))
theorem jin1 : ∀ z ∈ u_ws "MarbleBoard$Cells" jT1 7, z ∈ jB := fun z h => (List.mem_append_right _ (List.mem_append_right _ (List.mem_append_left _ h)))
theorem jin2 : ∀ z ∈ u_ws "MarbleBoard$Track" jT2 1, z ∈ jB := fun z h => (List.mem_append_right _ (List.mem_append_right _ (List.mem_append_right _ (List.mem_append_left _ h))))
theorem jin3 : ∀ z ∈ u_ws "MarbleBoard$Survey" jT3 2, z ∈ jB := fun z h => (List.mem_append_right _ (List.mem_append_right _ (List.mem_append_right _ (List.mem_append_right _ (List.mem_append_left _ h)))))
theorem jin4 : ∀ z ∈ u_ws "MarbleBoard$State" jT4 3, z ∈ jB := fun z h => (List.mem_append_right _ (List.mem_append_right _ (List.mem_append_right _ (List.mem_append_right _ (List.mem_append_right _ (List.mem_append_left _ h))))))
theorem jin5 : ∀ z ∈ u_ws "MarbleBoard$Crowd" jT5 5, z ∈ jB := fun z h => (List.mem_append_right _ (List.mem_append_right _ (List.mem_append_right _ (List.mem_append_right _ (List.mem_append_right _ (List.mem_append_right _ (List.mem_append_left _ h)))))))
theorem jin6 : ∀ z ∈ u_ws "MarbleBoard$Past" jT6 4, z ∈ jB := fun z h => (List.mem_append_right _ (List.mem_append_right _ (List.mem_append_right _ (List.mem_append_right _ (List.mem_append_right _ (List.mem_append_right _ (List.mem_append_right _ (List.mem_append_left _ h))))))))
theorem jin7 : ∀ z ∈ u_ws "MarbleBoard$Search" jT7 6, z ∈ jB := fun z h => (List.mem_append_right _ (List.mem_append_right _ (List.mem_append_right _ (List.mem_append_right _ (List.mem_append_right _ (List.mem_append_right _ (List.mem_append_right _ (List.mem_append_right _ (List.mem_append_left _ h)))))))))
theorem jin8 : ∀ z ∈ u_ws "MarbleBoard$Found" jT8 3, z ∈ jB := fun z h => (List.mem_append_right _ (List.mem_append_right _ (List.mem_append_right _ (List.mem_append_right _ (List.mem_append_right _ (List.mem_append_right _ (List.mem_append_right _ (List.mem_append_right _ (List.mem_append_right _ (List.mem_append_left _ h))))))))))
theorem jin9 : ∀ z ∈ u_ws "MarbleBoardModel" jT9 25, z ∈ jB := fun z h => (List.mem_append_right _ (List.mem_append_right _ (List.mem_append_right _ (List.mem_append_right _ (List.mem_append_right _ (List.mem_append_right _ (List.mem_append_right _ (List.mem_append_right _ (List.mem_append_right _ (List.mem_append_right _ h))))))))))
theorem jBg0 : jB0.all goodWord = true := by decide +kernel
theorem jBu0 : (u_ws "MarbleBoard" jT0 11).all goodWord = true := by decide +kernel
theorem jBu1 : (u_ws "MarbleBoard$Cells" jT1 7).all goodWord = true := by decide +kernel
theorem jBu2 : (u_ws "MarbleBoard$Track" jT2 1).all goodWord = true := by decide +kernel
theorem jBu3 : (u_ws "MarbleBoard$Survey" jT3 2).all goodWord = true := by decide +kernel
theorem jBu4 : (u_ws "MarbleBoard$State" jT4 3).all goodWord = true := by decide +kernel
theorem jBu5 : (u_ws "MarbleBoard$Crowd" jT5 5).all goodWord = true := by decide +kernel
theorem jBu6 : (u_ws "MarbleBoard$Past" jT6 4).all goodWord = true := by decide +kernel
theorem jBu7 : (u_ws "MarbleBoard$Search" jT7 6).all goodWord = true := by decide +kernel
theorem jBu8 : (u_ws "MarbleBoard$Found" jT8 3).all goodWord = true := by decide +kernel
theorem jBu9 : (u_ws "MarbleBoardModel" jT9 25).all goodWord = true := by decide +kernel
theorem jB_good : ∀ w ∈ jB, goodWord w = true := fun w h => ((List.mem_append.mp h).elim (fun h => List.all_eq_true.mp jBg0 w h) (fun h => ((List.mem_append.mp h).elim (fun h => List.all_eq_true.mp jBu0 w h) (fun h => ((List.mem_append.mp h).elim (fun h => List.all_eq_true.mp jBu1 w h) (fun h => ((List.mem_append.mp h).elim (fun h => List.all_eq_true.mp jBu2 w h) (fun h => ((List.mem_append.mp h).elim (fun h => List.all_eq_true.mp jBu3 w h) (fun h => ((List.mem_append.mp h).elim (fun h => List.all_eq_true.mp jBu4 w h) (fun h => ((List.mem_append.mp h).elim (fun h => List.all_eq_true.mp jBu5 w h) (fun h => ((List.mem_append.mp h).elim (fun h => List.all_eq_true.mp jBu6 w h) (fun h => ((List.mem_append.mp h).elim (fun h => List.all_eq_true.mp jBu7 w h) (fun h => ((List.mem_append.mp h).elim (fun h => List.all_eq_true.mp jBu8 w h) (fun h => (List.all_eq_true.mp jBu9 w h)))))))))))))))))))))
theorem jB_in {y : MethodName} {bytes : ByteArray} {maxL : Nat} {ret : Option FieldType} (h : Cond.code y bytes maxL ret ∈ jB) : GoodIn jB (Cond.code y bytes maxL ret :: jB) := fun w hw => by
  rcases List.mem_cons.mp hw with e | h1
  · rw [e]; exact ⟨h, good_of_word (jB_good _ h)⟩
  · exact ⟨h1, good_of_word (jB_good _ h1)⟩
theorem b_0 : Cond.fieldLink "MarbleBoard$Cells" 32 "MarbleBoard$Cells" "width" "I" ∈ jB := jBc0 (List.mem_of_getElem? (i := 0) rfl)
theorem b_1 : Cond.fieldLink "MarbleBoard$Cells" 36 "MarbleBoard$Cells" "height" "I" ∈ jB := jBc0 (List.mem_of_getElem? (i := 1) rfl)
theorem b_2 : Cond.fieldLink "MarbleBoard$Cells" 25 "MarbleBoard$Cells" "columns" "[I" ∈ jB := jBc0 (List.mem_of_getElem? (i := 2) rfl)
theorem b_3 : Cond.code y_Arrays_fill prog_23_method_103_code 4 none ∈ jB := jBc0 (List.mem_of_getElem? (i := 3) rfl)
theorem b_4 : Cond.initialized "java/util/Arrays" ∈ jB := jBc0 (List.mem_of_getElem? (i := 4) rfl)
theorem b_5 : Cond.methodLink "MarbleBoard$Cells" 43 y_Arrays_fill ∈ jB := jBc0 (List.mem_of_getElem? (i := 5) rfl)
theorem b_6 : Cond.static y_Arrays_fill ∈ jB := jBc0 (List.mem_of_getElem? (i := 6) rfl)
theorem b_7 : Cond.code y_MarbleBoard_spotOf prog_1_method_31_code 2 (some .int) ∈ jB := jBc0 (List.mem_of_getElem? (i := 7) rfl)
theorem b_8 : Cond.initialized "MarbleBoard" ∈ jB := jBc0 (List.mem_of_getElem? (i := 8) rfl)
theorem b_9 : Cond.static y_MarbleBoard_spotOf ∈ jB := jBc0 (List.mem_of_getElem? (i := 9) rfl)
theorem b_10 : Cond.fieldLink "MarbleBoard$Cells" 9 "MarbleBoard$Cells" "kinds" "[C" ∈ jB := jBc0 (List.mem_of_getElem? (i := 10) rfl)
theorem b_11 : Cond.code y_Cells_kindOf prog_2_method_8_code 1 (some .char) ∈ jB := jBc0 (List.mem_of_getElem? (i := 11) rfl)
theorem b_12 : Cond.initialized "MarbleBoard$Cells" ∈ jB := jBc0 (List.mem_of_getElem? (i := 12) rfl)
theorem b_13 : Cond.methodLink "MarbleBoard$Cells" 53 y_Cells_kindOf ∈ jB := jBc0 (List.mem_of_getElem? (i := 13) rfl)
theorem b_14 : Cond.static y_Cells_kindOf ∈ jB := jBc0 (List.mem_of_getElem? (i := 14) rfl)
theorem b_15 : Cond.fieldLink "MarbleBoard$Cells" 15 "MarbleBoard$Cells" "values" "[I" ∈ jB := jBc0 (List.mem_of_getElem? (i := 15) rfl)
theorem b_16 : Cond.code y_Cells_firstValue prog_2_method_9_code 1 (some .int) ∈ jB := jBc0 (List.mem_of_getElem? (i := 16) rfl)
theorem b_17 : Cond.methodLink "MarbleBoard$Cells" 57 y_Cells_firstValue ∈ jB := jBc0 (List.mem_of_getElem? (i := 17) rfl)
theorem b_18 : Cond.static y_Cells_firstValue ∈ jB := jBc0 (List.mem_of_getElem? (i := 18) rfl)
theorem b_19 : Cond.fieldLink "MarbleBoard$Cells" 19 "MarbleBoard$Cells" "lengths" "[I" ∈ jB := jBc0 (List.mem_of_getElem? (i := 19) rfl)
theorem b_20 : Cond.fieldLink "MarbleBoard$Cells" 22 "MarbleBoard$Cells" "patterns" "[I" ∈ jB := jBc0 (List.mem_of_getElem? (i := 20) rfl)
theorem b_21 : Cond.code y_Cells_put prog_2_method_7_code 5 none ∈ jB := jBc0 (List.mem_of_getElem? (i := 21) rfl)
theorem b_22 : Cond.methodLink "MarbleBoard$Cells" 39 y_Cells_put ∈ jB := jBc0 (List.mem_of_getElem? (i := 22) rfl)
theorem b_23 : Cond.instanceMethod y_Cells_put ∈ jB := jBc0 (List.mem_of_getElem? (i := 23) rfl)
theorem b_24 : Cond.selects "MarbleBoard$Cells" y_Cells_put y_Cells_put ∈ jB := jBc0 (List.mem_of_getElem? (i := 24) rfl)
def jNB : List Cond := [Cond.methodLinkNest "MarbleBoard$Cells" 49 y_MarbleBoard_spotOf "MarbleBoard"]
theorem bn_0 : Cond.methodLinkNest "MarbleBoard$Cells" 49 y_MarbleBoard_spotOf "MarbleBoard" ∈ jNB := List.mem_of_getElem? (i := 0) rfl
