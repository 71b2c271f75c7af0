section
/-! names of my own: classes, fields, methods, words of the tables -/
def jT0 : u_T := fun k => match k with
  | 0 => ("MarbleBoard", "cells", "LMarbleBoard$Cells;", true)
  | 1 => ("MarbleBoard", "track", "LMarbleBoard$Track;", true)
  | 2 => ("MarbleBoard", "survey", "LMarbleBoard$Survey;", true)
  | 3 => ("MarbleBoard", "state", "LMarbleBoard$State;", true)
  | 4 => ("MarbleBoard", "counts", "[I", true)
  | 5 => ("MarbleBoard", "crowd", "LMarbleBoard$Crowd;", true)
  | 6 => ("MarbleBoard", "past", "LMarbleBoard$Past;", true)
  | 7 => ("MarbleBoard", "search", "LMarbleBoard$Search;", true)
  | 8 => ("MarbleBoard", "told", "[I", true)
  | 9 => ("MarbleBoard", "frozen", "Z", false)
  | _ => ("MarbleBoard", "inputs", "I", false)
def jTy0 : Nat → FieldType := fun k => match k with
  | 0 => .object "MarbleBoard$Cells"
  | 1 => .object "MarbleBoard$Track"
  | 2 => .object "MarbleBoard$Survey"
  | 3 => .object "MarbleBoard$State"
  | 4 => .array .int
  | 5 => .object "MarbleBoard$Crowd"
  | 6 => .object "MarbleBoard$Past"
  | 7 => .object "MarbleBoard$Search"
  | 8 => .array .int
  | 9 => .boolean
  | _ => .int
theorem jnm0 : ∀ a, a < 11 → ∀ b, b < 11 → a ≠ b → (jT0 a).2.1 ≠ (jT0 b).2.1 := by decide +kernel
theorem jty0 : ∀ k, k < 11 → parseFieldDescriptor (jT0 k).2.2.1 = some (jTy0 k) := by decide +kernel
def jT1 : u_T := fun k => match k with
  | 0 => ("MarbleBoard$Cells", "kinds", "[C", true)
  | 1 => ("MarbleBoard$Cells", "values", "[I", true)
  | 2 => ("MarbleBoard$Cells", "lengths", "[I", true)
  | 3 => ("MarbleBoard$Cells", "patterns", "[I", true)
  | 4 => ("MarbleBoard$Cells", "columns", "[I", true)
  | 5 => ("MarbleBoard$Cells", "width", "I", false)
  | _ => ("MarbleBoard$Cells", "height", "I", false)
def jTy1 : Nat → FieldType := fun k => match k with
  | 0 => .array .char
  | 1 => .array .int
  | 2 => .array .int
  | 3 => .array .int
  | 4 => .array .int
  | 5 => .int
  | _ => .int
theorem jnm1 : ∀ a, a < 7 → ∀ b, b < 7 → a ≠ b → (jT1 a).2.1 ≠ (jT1 b).2.1 := by decide +kernel
theorem jty1 : ∀ k, k < 7 → parseFieldDescriptor (jT1 k).2.2.1 = some (jTy1 k) := by decide +kernel
def jT2 : u_T := fun k => match k with
  | _ => ("MarbleBoard$Track", "cells", "LMarbleBoard$Cells;", true)
def jTy2 : Nat → FieldType := fun k => match k with
  | _ => .object "MarbleBoard$Cells"
theorem jnm2 : ∀ a, a < 1 → ∀ b, b < 1 → a ≠ b → (jT2 a).2.1 ≠ (jT2 b).2.1 := by decide +kernel
theorem jty2 : ∀ k, k < 1 → parseFieldDescriptor (jT2 k).2.2.1 = some (jTy2 k) := by decide +kernel
def jT3 : u_T := fun k => match k with
  | 0 => ("MarbleBoard$Survey", "cells", "LMarbleBoard$Cells;", true)
  | _ => ("MarbleBoard$Survey", "reached", "[I", true)
def jTy3 : Nat → FieldType := fun k => match k with
  | 0 => .object "MarbleBoard$Cells"
  | _ => .array .int
theorem jnm3 : ∀ a, a < 2 → ∀ b, b < 2 → a ≠ b → (jT3 a).2.1 ≠ (jT3 b).2.1 := by decide +kernel
theorem jty3 : ∀ k, k < 2 → parseFieldDescriptor (jT3 k).2.2.1 = some (jTy3 k) := by decide +kernel
def jT4 : u_T := fun k => match k with
  | 0 => ("MarbleBoard$State", "cells", "LMarbleBoard$Cells;", true)
  | 1 => ("MarbleBoard$State", "moving", "[I", true)
  | _ => ("MarbleBoard$State", "size", "I", false)
def jTy4 : Nat → FieldType := fun k => match k with
  | 0 => .object "MarbleBoard$Cells"
  | 1 => .array .int
  | _ => .int
theorem jnm4 : ∀ a, a < 3 → ∀ b, b < 3 → a ≠ b → (jT4 a).2.1 ≠ (jT4 b).2.1 := by decide +kernel
theorem jty4 : ∀ k, k < 3 → parseFieldDescriptor (jT4 k).2.2.1 = some (jTy4 k) := by decide +kernel
def jT5 : u_T := fun k => match k with
  | 0 => ("MarbleBoard$Crowd", "track", "LMarbleBoard$Track;", true)
  | 1 => ("MarbleBoard$Crowd", "counts", "[I", true)
  | 2 => ("MarbleBoard$Crowd", "marbles", "[I", true)
  | 3 => ("MarbleBoard$Crowd", "size", "I", false)
  | _ => ("MarbleBoard$Crowd", "held", "I", false)
def jTy5 : Nat → FieldType := fun k => match k with
  | 0 => .object "MarbleBoard$Track"
  | 1 => .array .int
  | 2 => .array .int
  | 3 => .int
  | _ => .int
theorem jnm5 : ∀ a, a < 5 → ∀ b, b < 5 → a ≠ b → (jT5 a).2.1 ≠ (jT5 b).2.1 := by decide +kernel
theorem jty5 : ∀ k, k < 5 → parseFieldDescriptor (jT5 k).2.2.1 = some (jTy5 k) := by decide +kernel
def jT6 : u_T := fun k => match k with
  | 0 => ("MarbleBoard$Past", "states", "[I", true)
  | 1 => ("MarbleBoard$Past", "outlets", "[I", true)
  | 2 => ("MarbleBoard$Past", "end", "I", false)
  | _ => ("MarbleBoard$Past", "size", "I", false)
def jTy6 : Nat → FieldType := fun k => match k with
  | 0 => .array .int
  | 1 => .array .int
  | 2 => .int
  | _ => .int
theorem jnm6 : ∀ a, a < 4 → ∀ b, b < 4 → a ≠ b → (jT6 a).2.1 ≠ (jT6 b).2.1 := by decide +kernel
theorem jty6 : ∀ k, k < 4 → parseFieldDescriptor (jT6 k).2.2.1 = some (jTy6 k) := by decide +kernel
def jT7 : u_T := fun k => match k with
  | 0 => ("MarbleBoard$Search", "cells", "LMarbleBoard$Cells;", true)
  | 1 => ("MarbleBoard$Search", "track", "LMarbleBoard$Track;", true)
  | 2 => ("MarbleBoard$Search", "state", "LMarbleBoard$State;", true)
  | 3 => ("MarbleBoard$Search", "crowd", "LMarbleBoard$Crowd;", true)
  | 4 => ("MarbleBoard$Search", "found", "LMarbleBoard$Found;", true)
  | _ => ("MarbleBoard$Search", "sent", "[I", true)
def jTy7 : Nat → FieldType := fun k => match k with
  | 0 => .object "MarbleBoard$Cells"
  | 1 => .object "MarbleBoard$Track"
  | 2 => .object "MarbleBoard$State"
  | 3 => .object "MarbleBoard$Crowd"
  | 4 => .object "MarbleBoard$Found"
  | _ => .array .int
theorem jnm7 : ∀ a, a < 6 → ∀ b, b < 6 → a ≠ b → (jT7 a).2.1 ≠ (jT7 b).2.1 := by decide +kernel
theorem jty7 : ∀ k, k < 6 → parseFieldDescriptor (jT7 k).2.2.1 = some (jTy7 k) := by decide +kernel
def jT8 : u_T := fun k => match k with
  | 0 => ("MarbleBoard$Found", "items", "[J", true)
  | 1 => ("MarbleBoard$Found", "slots", "[I", true)
  | _ => ("MarbleBoard$Found", "size", "I", false)
def jTy8 : Nat → FieldType := fun k => match k with
  | 0 => .array .long
  | 1 => .array .int
  | _ => .int
theorem jnm8 : ∀ a, a < 3 → ∀ b, b < 3 → a ≠ b → (jT8 a).2.1 ≠ (jT8 b).2.1 := by decide +kernel
theorem jty8 : ∀ k, k < 3 → parseFieldDescriptor (jT8 k).2.2.1 = some (jTy8 k) := by decide +kernel
def jT9 : u_T := fun k => match k with
  | 0 => ("MarbleBoardModel", "code", "I", false)
  | 1 => ("MarbleBoardModel", "w", "I", false)
  | 2 => ("MarbleBoardModel", "h", "I", false)
  | 3 => ("MarbleBoardModel", "kind", "[I", true)
  | 4 => ("MarbleBoardModel", "value", "[I", true)
  | 5 => ("MarbleBoardModel", "pattern", "[I", true)
  | 6 => ("MarbleBoardModel", "length", "[I", true)
  | 7 => ("MarbleBoardModel", "inlet", "[I", true)
  | 8 => ("MarbleBoardModel", "frozen", "Z", false)
  | 9 => ("MarbleBoardModel", "inputs", "I", false)
  | 10 => ("MarbleBoardModel", "counts", "[I", true)
  | 11 => ("MarbleBoardModel", "was", "[J", true)
  | 12 => ("MarbleBoardModel", "end", "[I", true)
  | 13 => ("MarbleBoardModel", "runs", "I", false)
  | 14 => ("MarbleBoardModel", "back", "I", false)
  | 15 => ("MarbleBoardModel", "place", "[I", true)
  | 16 => ("MarbleBoardModel", "came", "[I", true)
  | 17 => ("MarbleBoardModel", "many", "I", false)
  | 18 => ("MarbleBoardModel", "held", "I", false)
  | 19 => ("MarbleBoardModel", "told", "[I", true)
  | 20 => ("MarbleBoardModel", "reached", "[Z", true)
  | 21 => ("MarbleBoardModel", "states", "[J", true)
  | 22 => ("MarbleBoardModel", "rests", "[J", true)
  | 23 => ("MarbleBoardModel", "found", "I", false)
  | _ => ("MarbleBoardModel", "tooMany", "Z", false)
def jTy9 : Nat → FieldType := fun k => match k with
  | 0 => .int
  | 1 => .int
  | 2 => .int
  | 3 => .array .int
  | 4 => .array .int
  | 5 => .array .int
  | 6 => .array .int
  | 7 => .array .int
  | 8 => .boolean
  | 9 => .int
  | 10 => .array .int
  | 11 => .array .long
  | 12 => .array .int
  | 13 => .int
  | 14 => .int
  | 15 => .array .int
  | 16 => .array .int
  | 17 => .int
  | 18 => .int
  | 19 => .array .int
  | 20 => .array .boolean
  | 21 => .array .long
  | 22 => .array .long
  | 23 => .int
  | _ => .boolean
theorem jnm9 : ∀ a, a < 25 → ∀ b, b < 25 → a ≠ b → (jT9 a).2.1 ≠ (jT9 b).2.1 := by decide +kernel
theorem jty9 : ∀ k, k < 25 → parseFieldDescriptor (jT9 k).2.2.1 = some (jTy9 k) := by decide +kernel
abbrev vwCl : List vw_C := [("MarbleBoard", jT0, 11), ("MarbleBoard$Cells", jT1, 7), ("MarbleBoard$Track", jT2, 1), ("MarbleBoard$Survey", jT3, 2), ("MarbleBoard$State", jT4, 3), ("MarbleBoard$Crowd", jT5, 5), ("MarbleBoard$Past", jT6, 4), ("MarbleBoard$Search", jT7, 6), ("MarbleBoard$Found", jT8, 3), ("MarbleBoardModel", jT9, 25)]
def y_Cells_clear : MethodName := ⟨"MarbleBoard$Cells", "clear", "(II)V"⟩
def y_Arrays_fill : MethodName := ⟨"java/util/Arrays", "fill", "([II)V"⟩
def y_Cells_put : MethodName := ⟨"MarbleBoard$Cells", "put", "(IIC)V"⟩
def y_MarbleBoard_spotOf : MethodName := ⟨"MarbleBoard", "spotOf", "(II)I"⟩
def y_Cells_kindOf : MethodName := ⟨"MarbleBoard$Cells", "kindOf", "(C)C"⟩
def y_Cells_firstValue : MethodName := ⟨"MarbleBoard$Cells", "firstValue", "(C)I"⟩
def jB0 : List Cond := [Cond.fieldLink "MarbleBoard$Cells" 32 "MarbleBoard$Cells" "width" "I", Cond.fieldLink "MarbleBoard$Cells" 36 "MarbleBoard$Cells" "height" "I", Cond.fieldLink "MarbleBoard$Cells" 25 "MarbleBoard$Cells" "columns" "[I", Cond.code y_Arrays_fill prog_23_method_103_code 4 none, Cond.initialized "java/util/Arrays", Cond.methodLink "MarbleBoard$Cells" 43 y_Arrays_fill, Cond.static y_Arrays_fill, Cond.code y_MarbleBoard_spotOf prog_1_method_31_code 2 (some .int), Cond.initialized "MarbleBoard", Cond.static y_MarbleBoard_spotOf, Cond.fieldLink "MarbleBoard$Cells" 9 "MarbleBoard$Cells" "kinds" "[C", Cond.code y_Cells_kindOf prog_2_method_8_code 1 (some .char), Cond.initialized "MarbleBoard$Cells", Cond.methodLink "MarbleBoard$Cells" 53 y_Cells_kindOf, Cond.static y_Cells_kindOf, Cond.fieldLink "MarbleBoard$Cells" 15 "MarbleBoard$Cells" "values" "[I", Cond.code y_Cells_firstValue prog_2_method_9_code 1 (some .int), Cond.methodLink "MarbleBoard$Cells" 57 y_Cells_firstValue, Cond.static y_Cells_firstValue, Cond.fieldLink "MarbleBoard$Cells" 19 "MarbleBoard$Cells" "lengths" "[I", Cond.fieldLink "MarbleBoard$Cells" 22 "MarbleBoard$Cells" "patterns" "[I", Cond.code y_Cells_put prog_2_method_7_code 5 none, Cond.methodLink "MarbleBoard$Cells" 39 y_Cells_put, Cond.instanceMethod y_Cells_put, Cond.selects "MarbleBoard$Cells" y_Cells_put y_Cells_put]
def jB : List Cond := (jB0 ++ ((u_ws "MarbleBoard" jT0 11) ++ ((u_ws "MarbleBoard$Cells" jT1 7) ++ ((u_ws "MarbleBoard$Track" jT2 1) ++ ((u_ws "MarbleBoard$Survey" jT3 2) ++ ((u_ws "MarbleBoard$State" jT4 3) ++ ((u_ws "MarbleBoard$Crowd" jT5 5) ++ ((u_ws "MarbleBoard$Past" jT6 4) ++ ((u_ws "MarbleBoard$Search" jT7 6) ++ ((u_ws "MarbleBoard$Found" jT8 3) ++ (u_ws "MarbleBoardModel" jT9 25)))))))))))
theorem jBc0 {w : Cond} (h : w ∈ jB0) : w ∈ jB := (List.mem_append_left _ h)
theorem jin0 : ∀ z ∈ u_ws "MarbleBoard" jT0 11, z ∈ jB := fun z h => (List.mem_append_right _ (List.mem_append_left _ h))
theorem jin1 : ∀ z ∈ u_ws "MarbleBoard$Cells" jT1 7, z ∈ jB := fun z h => (List.mem_append_right _ (List.mem_append_right _ (List.mem_append_left _ h)))
theorem jin2 : ∀ z ∈ u_ws "MarbleBoard$Track" jT2 1, z ∈ jB := fun z h => (List.mem_append_right _ (List.mem_append_right _ (List.mem_append_right _ (List.mem_append_left _ h))))
theorem jin3 : ∀ z ∈ u_ws "MarbleBoard$Survey" jT3 2, z ∈ jB := fun z h => (List.mem_append_right _ (List.mem_append_right _ (List.mem_append_right _ (List.mem_append_right _ (List.mem_append_left _ h)))))
theorem jin4 : ∀ z ∈ u_ws "MarbleBoard$State" jT4 3, z ∈ jB := fun z h => (List.mem_append_right _ (List.mem_append_right _ (List.mem_append_right _ (List.mem_append_right _ (List.mem_append_right _ (List.mem_append_left _ h))))))
theorem jin5 : ∀ z ∈ u_ws "MarbleBoard$Crowd" jT5 5, z ∈ jB := fun z h => (List.mem_append_right _ (List.mem_append_right _ (List.mem_append_right _ (List.mem_append_right _ (List.mem_append_right _ (List.mem_append_right _ (List.mem_append_left _ h)))))))
theorem jin6 : ∀ z ∈ u_ws "MarbleBoard$Past" jT6 4, z ∈ jB := fun z h => (List.mem_append_right _ (List.mem_append_right _ (List.mem_append_right _ (List.mem_append_right _ (List.mem_append_right _ (List.mem_append_right _ (List.mem_append_right _ (List.mem_append_left _ h))))))))
theorem jin7 : ∀ z ∈ u_ws "MarbleBoard$Search" jT7 6, z ∈ jB := fun z h => (List.mem_append_right _ (List.mem_append_right _ (List.mem_append_right _ (List.mem_append_right _ (List.mem_append_right _ (List.mem_append_right _ (List.mem_append_right _ (List.mem_append_right _ (List.mem_append_left _ h)))))))))
theorem jin8 : ∀ z ∈ u_ws "MarbleBoard$Found" jT8 3, z ∈ jB := fun z h => (List.mem_append_right _ (List.mem_append_right _ (List.mem_append_right _ (List.mem_append_right _ (List.mem_append_right _ (List.mem_append_right _ (List.mem_append_right _ (List.mem_append_right _ (List.mem_append_right _ (List.mem_append_left _ h))))))))))
theorem jin9 : ∀ z ∈ u_ws "MarbleBoardModel" jT9 25, z ∈ jB := fun z h => (List.mem_append_right _ (List.mem_append_right _ (List.mem_append_right _ (List.mem_append_right _ (List.mem_append_right _ (List.mem_append_right _ (List.mem_append_right _ (List.mem_append_right _ (List.mem_append_right _ (List.mem_append_right _ h))))))))))
theorem jBg0 : jB0.all goodWord = true := by decide +kernel
theorem jBu0 : (u_ws "MarbleBoard" jT0 11).all goodWord = true := by decide +kernel
theorem jBu1 : (u_ws "MarbleBoard$Cells" jT1 7).all goodWord = true := by decide +kernel
theorem jBu2 : (u_ws "MarbleBoard$Track" jT2 1).all goodWord = true := by decide +kernel
theorem jBu3 : (u_ws "MarbleBoard$Survey" jT3 2).all goodWord = true := by decide +kernel
theorem jBu4 : (u_ws "MarbleBoard$State" jT4 3).all goodWord = true := by decide +kernel
theorem jBu5 : (u_ws "MarbleBoard$Crowd" jT5 5).all goodWord = true := by decide +kernel
theorem jBu6 : (u_ws "MarbleBoard$Past" jT6 4).all goodWord = true := by decide +kernel
theorem jBu7 : (u_ws "MarbleBoard$Search" jT7 6).all goodWord = true := by decide +kernel
theorem jBu8 : (u_ws "MarbleBoard$Found" jT8 3).all goodWord = true := by decide +kernel
theorem jBu9 : (u_ws "MarbleBoardModel" jT9 25).all goodWord = true := by decide +kernel
theorem jB_good : ∀ w ∈ jB, goodWord w = true := fun w h => ((List.mem_append.mp h).elim (fun h => List.all_eq_true.mp jBg0 w h) (fun h => ((List.mem_append.mp h).elim (fun h => List.all_eq_true.mp jBu0 w h) (fun h => ((List.mem_append.mp h).elim (fun h => List.all_eq_true.mp jBu1 w h) (fun h => ((List.mem_append.mp h).elim (fun h => List.all_eq_true.mp jBu2 w h) (fun h => ((List.mem_append.mp h).elim (fun h => List.all_eq_true.mp jBu3 w h) (fun h => ((List.mem_append.mp h).elim (fun h => List.all_eq_true.mp jBu4 w h) (fun h => ((List.mem_append.mp h).elim (fun h => List.all_eq_true.mp jBu5 w h) (fun h => ((List.mem_append.mp h).elim (fun h => List.all_eq_true.mp jBu6 w h) (fun h => ((List.mem_append.mp h).elim (fun h => List.all_eq_true.mp jBu7 w h) (fun h => ((List.mem_append.mp h).elim (fun h => List.all_eq_true.mp jBu8 w h) (fun h => (List.all_eq_true.mp jBu9 w h)))))))))))))))))))))
theorem jB_in {y : MethodName} {bytes : ByteArray} {maxL : Nat} {ret : Option FieldType} (h : Cond.code y bytes maxL ret ∈ jB) : GoodIn jB (Cond.code y bytes maxL ret :: jB) := fun w hw => by
  rcases List.mem_cons.mp hw with e | h1
  · rw [e]; exact ⟨h, good_of_word (jB_good _ h)⟩
  · exact ⟨h1, good_of_word (jB_good _ h1)⟩
theorem b_0 : Cond.fieldLink "MarbleBoard$Cells" 32 "MarbleBoard$Cells" "width" "I" ∈ jB := jBc0 (List.mem_of_getElem? (i := 0) rfl)
theorem b_1 : Cond.fieldLink "MarbleBoard$Cells" 36 "MarbleBoard$Cells" "height" "I" ∈ jB := jBc0 (List.mem_of_getElem? (i := 1) rfl)
theorem b_2 : Cond.fieldLink "MarbleBoard$Cells" 25 "MarbleBoard$Cells" "columns" "[I" ∈ jB := jBc0 (List.mem_of_getElem? (i := 2) rfl)
theorem b_3 : Cond.code y_Arrays_fill prog_23_method_103_code 4 none ∈ jB := jBc0 (List.mem_of_getElem? (i := 3) rfl)
theorem b_4 : Cond.initialized "java/util/Arrays" ∈ jB := jBc0 (List.mem_of_getElem? (i := 4) rfl)
theorem b_5 : Cond.methodLink "MarbleBoard$Cells" 43 y_Arrays_fill ∈ jB := jBc0 (List.mem_of_getElem? (i := 5) rfl)
theorem b_6 : Cond.static y_Arrays_fill ∈ jB := jBc0 (List.mem_of_getElem? (i := 6) rfl)
theorem b_7 : Cond.code y_MarbleBoard_spotOf prog_1_method_31_code 2 (some .int) ∈ jB := jBc0 (List.mem_of_getElem? (i := 7) rfl)
theorem b_8 : Cond.initialized "MarbleBoard" ∈ jB := jBc0 (List.mem_of_getElem? (i := 8) rfl)
theorem b_9 : Cond.static y_MarbleBoard_spotOf ∈ jB := jBc0 (List.mem_of_getElem? (i := 9) rfl)
theorem b_10 : Cond.fieldLink "MarbleBoard$Cells" 9 "MarbleBoard$Cells" "kinds" "[C" ∈ jB := jBc0 (List.mem_of_getElem? (i := 10) rfl)
theorem b_11 : Cond.code y_Cells_kindOf prog_2_method_8_code 1 (some .char) ∈ jB := jBc0 (List.mem_of_getElem? (i := 11) rfl)
theorem b_12 : Cond.initialized "MarbleBoard$Cells" ∈ jB := jBc0 (List.mem_of_getElem? (i := 12) rfl)
theorem b_13 : Cond.methodLink "MarbleBoard$Cells" 53 y_Cells_kindOf ∈ jB := jBc0 (List.mem_of_getElem? (i := 13) rfl)
theorem b_14 : Cond.static y_Cells_kindOf ∈ jB := jBc0 (List.mem_of_getElem? (i := 14) rfl)
theorem b_15 : Cond.fieldLink "MarbleBoard$Cells" 15 "MarbleBoard$Cells" "values" "[I" ∈ jB := jBc0 (List.mem_of_getElem? (i := 15) rfl)
theorem b_16 : Cond.code y_Cells_firstValue prog_2_method_9_code 1 (some .int) ∈ jB := jBc0 (List.mem_of_getElem? (i := 16) rfl)
theorem b_17 : Cond.methodLink "MarbleBoard$Cells" 57 y_Cells_firstValue ∈ jB := jBc0 (List.mem_of_getElem? (i := 17) rfl)
theorem b_18 : Cond.static y_Cells_firstValue ∈ jB := jBc0 (List.mem_of_getElem? (i := 18) rfl)
theorem b_19 : Cond.fieldLink "MarbleBoard$Cells" 19 "MarbleBoard$Cells" "lengths" "[I" ∈ jB := jBc0 (List.mem_of_getElem? (i := 19) rfl)
theorem b_20 : Cond.fieldLink "MarbleBoard$Cells" 22 "MarbleBoard$Cells" "patterns" "[I" ∈ jB := jBc0 (List.mem_of_getElem? (i := 20) rfl)
theorem b_21 : Cond.code y_Cells_put prog_2_method_7_code 5 none ∈ jB := jBc0 (List.mem_of_getElem? (i := 21) rfl)
theorem b_22 : Cond.methodLink "MarbleBoard$Cells" 39 y_Cells_put ∈ jB := jBc0 (List.mem_of_getElem? (i := 22) rfl)
theorem b_23 : Cond.instanceMethod y_Cells_put ∈ jB := jBc0 (List.mem_of_getElem? (i := 23) rfl)
theorem b_24 : Cond.selects "MarbleBoard$Cells" y_Cells_put y_Cells_put ∈ jB := jBc0 (List.mem_of_getElem? (i := 24) rfl)
def jNB : List Cond := [Cond.methodLinkNest "MarbleBoard$Cells" 49 y_MarbleBoard_spotOf "MarbleBoard"]
theorem bn_0 : Cond.methodLinkNest "MarbleBoard$Cells" 49 y_MarbleBoard_spotOf "MarbleBoard" ∈ jNB := List.mem_of_getElem? (i := 0) rfl
end
section
theorem d_Cells_clear_0 : decode prog_2_method_2_code 0 = .ok (.aload_n 0, 1) := by decide +kernel
theorem d_Cells_clear_1 : decode prog_2_method_2_code 1 = .ok (.iload_n 1, 1) := by decide +kernel
theorem d_Cells_clear_2 : decode prog_2_method_2_code 2 = .ok (.putfield 32, 3) := by decide +kernel
theorem d_Cells_clear_5 : decode prog_2_method_2_code 5 = .ok (.aload_n 0, 1) := by decide +kernel
theorem d_Cells_clear_6 : decode prog_2_method_2_code 6 = .ok (.iload_n 2, 1) := by decide +kernel
theorem d_Cells_clear_7 : decode prog_2_method_2_code 7 = .ok (.putfield 36, 3) := by decide +kernel
theorem d_Cells_clear_10 : decode prog_2_method_2_code 10 = .ok (.iconst 0, 1) := by decide +kernel
theorem d_Cells_clear_11 : decode prog_2_method_2_code 11 = .ok (.istore_n 3, 1) := by decide +kernel
theorem d_Cells_clear_12 : decode prog_2_method_2_code 12 = .ok (.iload_n 3, 1) := by decide +kernel
theorem d_Cells_clear_13 : decode prog_2_method_2_code 13 = .ok (.bipush 16, 2) := by decide +kernel
theorem d_Cells_clear_15 : decode prog_2_method_2_code 15 = .ok (.if_icmp .ge 34, 3) := by decide +kernel
theorem d_Cells_clear_18 : decode prog_2_method_2_code 18 = .ok (.iconst 0, 1) := by decide +kernel
theorem d_Cells_clear_19 : decode prog_2_method_2_code 19 = .ok (.istore 4, 2) := by decide +kernel
theorem d_Cells_clear_21 : decode prog_2_method_2_code 21 = .ok (.iload 4, 2) := by decide +kernel
theorem d_Cells_clear_23 : decode prog_2_method_2_code 23 = .ok (.bipush 16, 2) := by decide +kernel
theorem d_Cells_clear_25 : decode prog_2_method_2_code 25 = .ok (.if_icmp .ge 18, 3) := by decide +kernel
theorem d_Cells_clear_28 : decode prog_2_method_2_code 28 = .ok (.aload_n 0, 1) := by decide +kernel
theorem d_Cells_clear_29 : decode prog_2_method_2_code 29 = .ok (.iload 4, 2) := by decide +kernel
theorem d_Cells_clear_31 : decode prog_2_method_2_code 31 = .ok (.iload_n 3, 1) := by decide +kernel
theorem d_Cells_clear_32 : decode prog_2_method_2_code 32 = .ok (.bipush 46, 2) := by decide +kernel
theorem d_Cells_clear_34 : decode prog_2_method_2_code 34 = .ok (.invokevirtual 39, 3) := by decide +kernel
theorem d_Cells_clear_37 : decode prog_2_method_2_code 37 = .ok (.iinc 4 1, 3) := by decide +kernel
theorem d_Cells_clear_40 : decode prog_2_method_2_code 40 = .ok (.goto (-19), 3) := by decide +kernel
theorem d_Cells_clear_43 : decode prog_2_method_2_code 43 = .ok (.iinc 3 1, 3) := by decide +kernel
theorem d_Cells_clear_46 : decode prog_2_method_2_code 46 = .ok (.goto (-34), 3) := by decide +kernel
theorem d_Cells_clear_49 : decode prog_2_method_2_code 49 = .ok (.aload_n 0, 1) := by decide +kernel
theorem d_Cells_clear_50 : decode prog_2_method_2_code 50 = .ok (.getfield 25, 3) := by decide +kernel
theorem d_Cells_clear_53 : decode prog_2_method_2_code 53 = .ok (.iconst (-1), 1) := by decide +kernel
theorem d_Cells_clear_54 : decode prog_2_method_2_code 54 = .ok (.invokestatic 43, 3) := by decide +kernel
theorem d_Cells_clear_57 : decode prog_2_method_2_code 57 = .ok (.return_, 1) := by decide +kernel

theorem d_Arrays_fill_0 : decode prog_23_method_103_code 0 = .ok (.iconst 0, 1) := by decide +kernel
theorem d_Arrays_fill_1 : decode prog_23_method_103_code 1 = .ok (.istore_n 2, 1) := by decide +kernel
theorem d_Arrays_fill_2 : decode prog_23_method_103_code 2 = .ok (.aload_n 0, 1) := by decide +kernel
theorem d_Arrays_fill_3 : decode prog_23_method_103_code 3 = .ok (.arraylength, 1) := by decide +kernel
theorem d_Arrays_fill_4 : decode prog_23_method_103_code 4 = .ok (.istore_n 3, 1) := by decide +kernel
theorem d_Arrays_fill_5 : decode prog_23_method_103_code 5 = .ok (.iload_n 2, 1) := by decide +kernel
theorem d_Arrays_fill_6 : decode prog_23_method_103_code 6 = .ok (.iload_n 3, 1) := by decide +kernel
theorem d_Arrays_fill_7 : decode prog_23_method_103_code 7 = .ok (.if_icmp .ge 13, 3) := by decide +kernel
theorem d_Arrays_fill_10 : decode prog_23_method_103_code 10 = .ok (.aload_n 0, 1) := by decide +kernel
theorem d_Arrays_fill_11 : decode prog_23_method_103_code 11 = .ok (.iload_n 2, 1) := by decide +kernel
theorem d_Arrays_fill_12 : decode prog_23_method_103_code 12 = .ok (.iload_n 1, 1) := by decide +kernel
theorem d_Arrays_fill_13 : decode prog_23_method_103_code 13 = .ok (.iastore, 1) := by decide +kernel
theorem d_Arrays_fill_14 : decode prog_23_method_103_code 14 = .ok (.iinc 2 1, 3) := by decide +kernel
theorem d_Arrays_fill_17 : decode prog_23_method_103_code 17 = .ok (.goto (-12), 3) := by decide +kernel
theorem d_Arrays_fill_20 : decode prog_23_method_103_code 20 = .ok (.return_, 1) := by decide +kernel

theorem d_Cells_put_0 : decode prog_2_method_7_code 0 = .ok (.iload_n 1, 1) := by decide +kernel
theorem d_Cells_put_1 : decode prog_2_method_7_code 1 = .ok (.iload_n 2, 1) := by decide +kernel
theorem d_Cells_put_2 : decode prog_2_method_7_code 2 = .ok (.invokestatic 49, 3) := by decide +kernel
theorem d_Cells_put_5 : decode prog_2_method_7_code 5 = .ok (.istore 4, 2) := by decide +kernel
theorem d_Cells_put_7 : decode prog_2_method_7_code 7 = .ok (.aload_n 0, 1) := by decide +kernel
theorem d_Cells_put_8 : decode prog_2_method_7_code 8 = .ok (.getfield 9, 3) := by decide +kernel
theorem d_Cells_put_11 : decode prog_2_method_7_code 11 = .ok (.iload 4, 2) := by decide +kernel
theorem d_Cells_put_13 : decode prog_2_method_7_code 13 = .ok (.iload_n 3, 1) := by decide +kernel
theorem d_Cells_put_14 : decode prog_2_method_7_code 14 = .ok (.invokestatic 53, 3) := by decide +kernel
theorem d_Cells_put_17 : decode prog_2_method_7_code 17 = .ok (.castore, 1) := by decide +kernel
theorem d_Cells_put_18 : decode prog_2_method_7_code 18 = .ok (.aload_n 0, 1) := by decide +kernel
theorem d_Cells_put_19 : decode prog_2_method_7_code 19 = .ok (.getfield 15, 3) := by decide +kernel
theorem d_Cells_put_22 : decode prog_2_method_7_code 22 = .ok (.iload 4, 2) := by decide +kernel
theorem d_Cells_put_24 : decode prog_2_method_7_code 24 = .ok (.iload_n 3, 1) := by decide +kernel
theorem d_Cells_put_25 : decode prog_2_method_7_code 25 = .ok (.invokestatic 57, 3) := by decide +kernel
theorem d_Cells_put_28 : decode prog_2_method_7_code 28 = .ok (.iastore, 1) := by decide +kernel
theorem d_Cells_put_29 : decode prog_2_method_7_code 29 = .ok (.aload_n 0, 1) := by decide +kernel
theorem d_Cells_put_30 : decode prog_2_method_7_code 30 = .ok (.getfield 19, 3) := by decide +kernel
theorem d_Cells_put_33 : decode prog_2_method_7_code 33 = .ok (.iload 4, 2) := by decide +kernel
theorem d_Cells_put_35 : decode prog_2_method_7_code 35 = .ok (.iconst 2, 1) := by decide +kernel
theorem d_Cells_put_36 : decode prog_2_method_7_code 36 = .ok (.iastore, 1) := by decide +kernel
theorem d_Cells_put_37 : decode prog_2_method_7_code 37 = .ok (.aload_n 0, 1) := by decide +kernel
theorem d_Cells_put_38 : decode prog_2_method_7_code 38 = .ok (.getfield 22, 3) := by decide +kernel
theorem d_Cells_put_41 : decode prog_2_method_7_code 41 = .ok (.iload 4, 2) := by decide +kernel
theorem d_Cells_put_43 : decode prog_2_method_7_code 43 = .ok (.iconst 2, 1) := by decide +kernel
theorem d_Cells_put_44 : decode prog_2_method_7_code 44 = .ok (.iastore, 1) := by decide +kernel
theorem d_Cells_put_45 : decode prog_2_method_7_code 45 = .ok (.return_, 1) := by decide +kernel

theorem d_MarbleBoard_spotOf_0 : decode prog_1_method_31_code 0 = .ok (.bipush 16, 2) := by decide +kernel
theorem d_MarbleBoard_spotOf_2 : decode prog_1_method_31_code 2 = .ok (.iload_n 1, 1) := by decide +kernel
theorem d_MarbleBoard_spotOf_3 : decode prog_1_method_31_code 3 = .ok (.imul, 1) := by decide +kernel
theorem d_MarbleBoard_spotOf_4 : decode prog_1_method_31_code 4 = .ok (.iload_n 0, 1) := by decide +kernel
theorem d_MarbleBoard_spotOf_5 : decode prog_1_method_31_code 5 = .ok (.iadd, 1) := by decide +kernel
theorem d_MarbleBoard_spotOf_6 : decode prog_1_method_31_code 6 = .ok (.ireturn, 1) := by decide +kernel

theorem d_Cells_kindOf_0 : decode prog_2_method_8_code 0 = .ok (.iload_n 0, 1) := by decide +kernel
theorem d_Cells_kindOf_1 : decode prog_2_method_8_code 1 = .ok (.lookupswitch 60 #[(49, 57), (50, 57), (51, 57), (62, 51), (93, 54)], 51) := by decide +kernel
theorem d_Cells_kindOf_52 : decode prog_2_method_8_code 52 = .ok (.bipush 60, 2) := by decide +kernel
theorem d_Cells_kindOf_54 : decode prog_2_method_8_code 54 = .ok (.ireturn, 1) := by decide +kernel
theorem d_Cells_kindOf_55 : decode prog_2_method_8_code 55 = .ok (.bipush 91, 2) := by decide +kernel
theorem d_Cells_kindOf_57 : decode prog_2_method_8_code 57 = .ok (.ireturn, 1) := by decide +kernel
theorem d_Cells_kindOf_58 : decode prog_2_method_8_code 58 = .ok (.bipush 48, 2) := by decide +kernel
theorem d_Cells_kindOf_60 : decode prog_2_method_8_code 60 = .ok (.ireturn, 1) := by decide +kernel
theorem d_Cells_kindOf_61 : decode prog_2_method_8_code 61 = .ok (.iload_n 0, 1) := by decide +kernel
theorem d_Cells_kindOf_62 : decode prog_2_method_8_code 62 = .ok (.ireturn, 1) := by decide +kernel

theorem d_Cells_firstValue_0 : decode prog_2_method_9_code 0 = .ok (.iload_n 0, 1) := by decide +kernel
theorem d_Cells_firstValue_1 : decode prog_2_method_9_code 1 = .ok (.bipush 48, 2) := by decide +kernel
theorem d_Cells_firstValue_3 : decode prog_2_method_9_code 3 = .ok (.if_icmp .lt 14, 3) := by decide +kernel
theorem d_Cells_firstValue_6 : decode prog_2_method_9_code 6 = .ok (.iload_n 0, 1) := by decide +kernel
theorem d_Cells_firstValue_7 : decode prog_2_method_9_code 7 = .ok (.bipush 51, 2) := by decide +kernel
theorem d_Cells_firstValue_9 : decode prog_2_method_9_code 9 = .ok (.if_icmp .gt 8, 3) := by decide +kernel
theorem d_Cells_firstValue_12 : decode prog_2_method_9_code 12 = .ok (.iload_n 0, 1) := by decide +kernel
theorem d_Cells_firstValue_13 : decode prog_2_method_9_code 13 = .ok (.bipush 48, 2) := by decide +kernel
theorem d_Cells_firstValue_15 : decode prog_2_method_9_code 15 = .ok (.isub, 1) := by decide +kernel
theorem d_Cells_firstValue_16 : decode prog_2_method_9_code 16 = .ok (.ireturn, 1) := by decide +kernel
theorem d_Cells_firstValue_17 : decode prog_2_method_9_code 17 = .ok (.iload_n 0, 1) := by decide +kernel
theorem d_Cells_firstValue_18 : decode prog_2_method_9_code 18 = .ok (.bipush 62, 2) := by decide +kernel
theorem d_Cells_firstValue_20 : decode prog_2_method_9_code 20 = .ok (.if_icmp .eq 9, 3) := by decide +kernel
theorem d_Cells_firstValue_23 : decode prog_2_method_9_code 23 = .ok (.iload_n 0, 1) := by decide +kernel
theorem d_Cells_firstValue_24 : decode prog_2_method_9_code 24 = .ok (.bipush 93, 2) := by decide +kernel
theorem d_Cells_firstValue_26 : decode prog_2_method_9_code 26 = .ok (.if_icmp .ne 7, 3) := by decide +kernel
theorem d_Cells_firstValue_29 : decode prog_2_method_9_code 29 = .ok (.iconst 1, 1) := by decide +kernel
theorem d_Cells_firstValue_30 : decode prog_2_method_9_code 30 = .ok (.goto 4, 3) := by decide +kernel
theorem d_Cells_firstValue_33 : decode prog_2_method_9_code 33 = .ok (.iconst 0, 1) := by decide +kernel
theorem d_Cells_firstValue_34 : decode prog_2_method_9_code 34 = .ok (.ireturn, 1) := by decide +kernel
end
section
/-! memory, guards, and rows one level above the kit's: at a pc, with locals, operand stack and memory, the machine comes to Q -/
abbrev jM : Type := Nat → Nat → Int32
abbrev jL : Type := Nat → Nat → Int64
abbrev jG : Type := (Nat → Nat) × (Nat → ClassId)
abbrev jZt : Type := (Nat → Prop) → State → Heap → Prop
def jP (M : jM) (k i : Nat) (x : Int32) : jM := fun d => if d = k then upd (M d) i x else M d
def jPL (L : jL) (k i : Nat) (x : Int64) : jL := fun d => if d = k then vp_updL (L d) i x else L d
def jFuel : Nat := 4096
abbrev jChar (x : Int32) : Int32 := (x.toUInt32 % 65536).toInt32
abbrev jShl (x : Int64) (y : Int32) : Int64 := x <<< (y.toInt64 &&& 63)
abbrev jShr (x : Int64) (y : Int32) : Int64 := x >>> (y.toInt64 &&& 63)
abbrev jUshr (x : Int64) (y : Int32) : Int64 := (x.toUInt64 >>> (y.toInt64.toUInt64 &&& Int64.toUInt64 63)).toInt64
abbrev jMin (x y : Int32) : Int32 := if y < x then y else x
def jgI {α : Type} (i : Int32) (n : Nat) (k : Option α) : Option α := if i < 0 ∨ n ≤ i.toNatClampNeg then none else k
def jgZ {α : Type} (x : Int32) (k : Option α) : Option α := if x = 0 then none else k
def jgB {α : Type} (x : Int32) (k : Option α) : Option α := if x = 0 ∨ x = 1 then k else none
def jgC {α : Type} (x : Int32) (k : Option α) : Option α := if vp_nar .char x = x then k else none
theorem jgI_s {α : Type} {i : Int32} {n : Nat} {k : Option α} {r : α} (h : jgI i n k = some r) : vp_in i n ∧ k = some r := by
  unfold jgI at h
  by_cases q : i < 0 ∨ n ≤ i.toNatClampNeg
  · rw [if_pos q] at h; cases h
  · rw [if_neg q] at h; exact ⟨q, h⟩
theorem jgZ_s {α : Type} {x : Int32} {k : Option α} {r : α} (h : jgZ x k = some r) : ¬ x = 0 ∧ k = some r := by
  unfold jgZ at h
  by_cases q : x = 0
  · rw [if_pos q] at h; cases h
  · rw [if_neg q] at h; exact ⟨q, h⟩
theorem j_nch {x : Int32} (h : vp_nar .char x = x) : narrow .char (.int x) = .int x := by
  have q : narrow .char (.int x) = .int (vp_nar .char x) := rfl
  rw [q, h]
theorem jgB_s {α : Type} {x : Int32} {k : Option α} {r : α} (h : jgB x k = some r) : (narrow .boolean (.int x) = .int x ∧ fits .boolean (.int x) = true) ∧ k = some r := by
  unfold jgB at h
  by_cases q : x = 0 ∨ x = 1
  · rw [if_pos q] at h
    refine ⟨?_, h⟩
    rcases q with q | q <;> subst q <;> exact ⟨by decide, by decide⟩
  · rw [if_neg q] at h; cases h
theorem jgC_s {α : Type} {x : Int32} {k : Option α} {r : α} (h : jgC x k = some r) : narrow .char (.int x) = .int x ∧ k = some r := by
  unfold jgC at h
  by_cases q : vp_nar .char x = x
  · rw [if_pos q] at h; exact ⟨j_nch q, h⟩
  · rw [if_neg q] at h; cases h
theorem jb_s {α β : Type} {o : Option α} {k : α → Option β} {r : β} (h : o.bind k = some r) : ∃ q, o = some q ∧ k q = some r := by
  cases o with
  | none => cases h
  | some q => exact ⟨q, rfl, h⟩
theorem j_no {α : Type} {r : α} {P : Prop} (h : (none : Option α) = some r) : P := by cases h
theorem jt {α : Type} {b : Prop} {hb : Decidable b} {x y z : α} (h : b) (hf : (if b then x else y) = z) : x = z := by rw [if_pos h] at hf; exact hf
theorem jf {α : Type} {b : Prop} {hb : Decidable b} {x y z : α} (h : ¬ b) (hf : (if b then x else y) = z) : y = z := by rw [if_neg h] at hf; exact hf
/-- facts of the heap that lie outside the world: they stay -/
def jZl (Z : jZt) : Prop := (∀ (A : Nat → Prop) (U : State) (H : Heap), Z A U H → ∀ w ∈ jNB, va_Nw w U) ∧ (∀ (A : Nat → Prop) (s U : State) (H : Heap), s.WarmedH U.vm → Z A s H → Z A U H) ∧ (∀ (A : Nat → Prop) (U : State) (H H1 : Heap), Z A U H → (∀ q : Nat, q < H.size → ¬ A q → H1[q]? = H[q]?) → Z A U H1) ∧ ∀ (A B : Nat → Prop) (U : State) (H : Heap), Z A U H → (∀ q, B q → A q) → Z B U H
def jCtx (p : Program) (l : Launch) (e : Env) (R : Room) (s : State) (m : MethodId) (args : Array Value) (below : List Frame) (meth : Method) (c : Code) (nc ns : Nat) (Q : State → Prop) (D : va_G) (tys : List (ClassId × FieldType)) (w : jM → jL → va_W) (Z : jZt) (A0 : Nat → Prop) (cc : ByteArray) (nL : Nat) (own : String) : Prop :=
  p.tables.exec = Jvm.exec ∧ c.code = cc ∧ c.maxLocals = nL ∧ s.vm.findClass own = some m.cls ∧ (∀ z ∈ jB, z.before args s = true) ∧ va_K D vwCl tys s ∧ (∀ q, s.heap.size ≤ q → A0 q) ∧ jZl Z ∧ Z A0 s s.heap ∧ nc ≤ R.cells ∧ ns ≤ R.slots

def jMi (l : Launch) (D : va_G) (tys : List (ClassId × FieldType)) (w : jM → jL → va_W) (Z : jZt) (y : MethodName) (ws : List Cond) (rm : Room) (av : List Value) (M : jM) (L : jL) (out : jM × jL × Int32) : Prop := ∀ sz : Nat, Met l y ws rm (va_Pc av (fun U => U.heap.size = sz ∧ va_P D vwCl (w M L) U.heap ∧ va_K D vwCl tys U ∧ va_D (fun _ => True) (w M L) ∧ Z (va_A (w M L) sz) U U.heap)) (va_Qi (fun r (u : jM × jL) => (u.1, u.2, r) = out) (fun u t => va_P D vwCl (w u.1 u.2) t.heap ∧ va_K D vwCl tys t ∧ va_D (va_A (w M L) sz) (w u.1 u.2)) (va_A (w M L) sz)) 0 0 (va_A (w M L) sz)
def jMl (l : Launch) (D : va_G) (tys : List (ClassId × FieldType)) (w : jM → jL → va_W) (Z : jZt) (y : MethodName) (ws : List Cond) (rm : Room) (av : List Value) (M : jM) (L : jL) (out : jM × jL × Int64) : Prop := ∀ sz : Nat, Met l y ws rm (va_Pc av (fun U => U.heap.size = sz ∧ va_P D vwCl (w M L) U.heap ∧ va_K D vwCl tys U ∧ va_D (fun _ => True) (w M L) ∧ Z (va_A (w M L) sz) U U.heap)) (va_Ql (fun r (u : jM × jL) => (u.1, u.2, r) = out) (fun u t => va_P D vwCl (w u.1 u.2) t.heap ∧ va_K D vwCl tys t ∧ va_D (va_A (w M L) sz) (w u.1 u.2)) (va_A (w M L) sz)) 0 0 (va_A (w M L) sz)
def jMv (l : Launch) (D : va_G) (tys : List (ClassId × FieldType)) (w : jM → jL → va_W) (Z : jZt) (y : MethodName) (ws : List Cond) (rm : Room) (av : List Value) (M : jM) (L : jL) (out : jM × jL × Int32) : Prop := ∀ sz : Nat, Met l y ws rm (va_Pc av (fun U => U.heap.size = sz ∧ va_P D vwCl (w M L) U.heap ∧ va_K D vwCl tys U ∧ va_D (fun _ => True) (w M L) ∧ Z (va_A (w M L) sz) U U.heap)) (va_Qv (fun (u : jM × jL) => (u.1, u.2, (0 : Int32)) = out) (fun u t => va_P D vwCl (w u.1 u.2) t.heap ∧ va_K D vwCl tys t ∧ va_D (va_A (w M L) sz) (w u.1 u.2)) (va_A (w M L) sz)) 0 0 (va_A (w M L) sz)
def jW {p : Program} {l : Launch} {e : Env} {R : Room} {s : State} {m : MethodId} {args : Array Value} {below : List Frame} {meth : Method} {c : Code} {nc ns : Nat} {Q : State → Prop} {D : va_G} {tys : List (ClassId × FieldType)} {w : jM → jL → va_W} {Z : jZt} {A0 : Nat → Prop} {cc : ByteArray} {nL : Nat} {own : String} (_ : jCtx p l e R s m args below meth c nc ns Q D tys w Z A0 cc nL own) (pc : Nat) (lv : List (Nat × Value)) (st : List Value) (M : jM) (L : jL) : Prop :=
  ∀ (H : Heap) (lc : List Loc) (ls : Array Slot), va_P D vwCl (w M L) H → va_D A0 (w M L) → va_S A0 s.heap H lc → lv_has ls nL lv → W p l e R s m args below meth c H lc nc ns Q (F0 m pc ls st)
def jEi {p : Program} {l : Launch} {e : Env} {R : Room} {s : State} {m : MethodId} {args : Array Value} {below : List Frame} {meth : Method} {c : Code} {nc ns : Nat} {Q : State → Prop} {D : va_G} {tys : List (ClassId × FieldType)} {w : jM → jL → va_W} {Z : jZt} {A0 : Nat → Prop} {cc : ByteArray} {nL : Nat} {own : String} (C : jCtx p l e R s m args below meth c nc ns Q D tys w Z A0 cc nL own) (ty : FieldType) (out : jM × jL × Int32) : Prop := ∀ (pc : Nat) (lv : List (Nat × Value)) (M : jM) (L : jL) (r : Int32), decode cc pc = .ok (.ireturn, 1) → narrow ty (.int r) = .int r → (M, L, r) = out → jW C pc lv [.int r] M L
def jEl {p : Program} {l : Launch} {e : Env} {R : Room} {s : State} {m : MethodId} {args : Array Value} {below : List Frame} {meth : Method} {c : Code} {nc ns : Nat} {Q : State → Prop} {D : va_G} {tys : List (ClassId × FieldType)} {w : jM → jL → va_W} {Z : jZt} {A0 : Nat → Prop} {cc : ByteArray} {nL : Nat} {own : String} (C : jCtx p l e R s m args below meth c nc ns Q D tys w Z A0 cc nL own) (out : jM × jL × Int64) : Prop := ∀ (pc : Nat) (lv : List (Nat × Value)) (M : jM) (L : jL) (r : Int64), decode cc pc = .ok (.lreturn, 1) → (M, L, r) = out → jW C pc lv [.long r] M L
def jEv {p : Program} {l : Launch} {e : Env} {R : Room} {s : State} {m : MethodId} {args : Array Value} {below : List Frame} {meth : Method} {c : Code} {nc ns : Nat} {Q : State → Prop} {D : va_G} {tys : List (ClassId × FieldType)} {w : jM → jL → va_W} {Z : jZt} {A0 : Nat → Prop} {cc : ByteArray} {nL : Nat} {own : String} (C : jCtx p l e R s m args below meth c nc ns Q D tys w Z A0 cc nL own) (out : jM × jL × Int32) : Prop := ∀ (pc : Nat) (lv : List (Nat × Value)) (M : jM) (L : jL), decode cc pc = .ok (.return_, 1) → (M, L, (0 : Int32)) = out → jW C pc lv [] M L
section JR
variable {p : Program} {l : Launch} {e : Env} {R : Room} {s : State} {m : MethodId} {args : Array Value} {below : List Frame} {meth : Method} {c : Code} {nc ns : Nat} {Q : State → Prop} {D : va_G} {tys : List (ClassId × FieldType)} {w : jM → jL → va_W} {Z : jZt} {A0 : Nat → Prop} {cc : ByteArray} {nL : Nat} {own : String} (C : jCtx p l e R s m args below meth c nc ns Q D tys w Z A0 cc nL own) {pc : Nat} {lv : List (Nat × Value)} {st : List Value} {M : jM} {L : jL}
theorem j_iconst {n : Int} {v : Int32} (d : decode cc pc = .ok (.iconst n, 1)) (hv : Int32.ofInt n = v) (k : jW C (pc + 1) lv (.int v :: st) M L) : jW C pc lv st M L := fun H lc ls hP hD hS hl => lv_iconst C.1 C.2.1 d hv (k H lc ls hP hD hS hl)
theorem j_bipush {n : Int} {v : Int32} (d : decode cc pc = .ok (.bipush n, 2)) (hv : (Int8.ofInt n).toInt32 = v) (k : jW C (pc + 2) lv (.int v :: st) M L) : jW C pc lv st M L := fun H lc ls hP hD hS hl => lv_bipush C.1 C.2.1 d hv (k H lc ls hP hD hS hl)
theorem j_sipush {n : Int} {v : Int32} (d : decode cc pc = .ok (.sipush n, 3)) (hv : (Int16.ofInt n).toInt32 = v) (k : jW C (pc + 3) lv (.int v :: st) M L) : jW C pc lv st M L := fun H lc ls hP hD hS hl => lv_sipush C.1 C.2.1 d hv (k H lc ls hP hD hS hl)
theorem j_lconst {n : Fin 2} {v : Int64} (d : decode cc pc = .ok (.lconst n, 1)) (hv : Int64.ofNat (n : Nat) = v) (k : jW C (pc + 1) lv (.long v :: st) M L) : jW C pc lv st M L := fun H lc ls hP hD hS hl => lv_lconst C.1 C.2.1 d hv (k H lc ls hP hD hS hl)
theorem j_ldc {index : Nat} {v : Int32} (hc : Cond.constant own index v ∈ jB) (d : decode cc pc = .ok (.ldc index, 2)) (k : jW C (pc + 2) lv (.int v :: st) M L) : jW C pc lv st M L := fun H lc ls hP hD hS hl => lv_ldc C.1 C.2.1 C.2.2.2.1 (C.2.2.2.2.1 _ hc) d (k H lc ls hP hD hS hl)
theorem j_ldc2 {index : Nat} {v : Int64} (hc : Cond.constantLong own index v ∈ jB) (d : decode cc pc = .ok (.ldc2_w index, 3)) (k : jW C (pc + 3) lv (.long v :: st) M L) : jW C pc lv st M L := fun H lc ls hP hD hS hl => lv_ldc2 C.1 C.2.1 C.2.2.2.1 (C.2.2.2.2.1 _ hc) d (k H lc ls hP hD hS hl)
theorem j_iload_n {k0 : Fin 4} {i : Nat} {x : Int32} (d : decode cc pc = .ok (.iload_n k0, 1)) (hi : (k0 : Nat) = i) (q : Nat) (hq : lv[q]? = some (i, .int x)) (k : jW C (pc + 1) lv (.int x :: st) M L) : jW C pc lv st M L := fun H lc ls hP hD hS hl => lv_iload_n C.1 C.2.1 d hi (lv_at hl q hq) (k H lc ls hP hD hS hl)
theorem j_iload {i : Nat} {x : Int32} (d : decode cc pc = .ok (.iload i, 2)) (q : Nat) (hq : lv[q]? = some (i, .int x)) (k : jW C (pc + 2) lv (.int x :: st) M L) : jW C pc lv st M L := fun H lc ls hP hD hS hl => lv_iload C.1 C.2.1 d (lv_at hl q hq) (k H lc ls hP hD hS hl)
theorem j_lload_n {k0 : Fin 4} {i : Nat} {x : Int64} (d : decode cc pc = .ok (.lload_n k0, 1)) (hi : (k0 : Nat) = i) (q : Nat) (hq : lv[q]? = some (i, .long x)) (k : jW C (pc + 1) lv (.long x :: st) M L) : jW C pc lv st M L := fun H lc ls hP hD hS hl => lv_lload_n C.1 C.2.1 d hi (lv_at hl q hq) (k H lc ls hP hD hS hl)
theorem j_lload {i : Nat} {x : Int64} (d : decode cc pc = .ok (.lload i, 2)) (q : Nat) (hq : lv[q]? = some (i, .long x)) (k : jW C (pc + 2) lv (.long x :: st) M L) : jW C pc lv st M L := fun H lc ls hP hD hS hl => lv_lload C.1 C.2.1 d (lv_at hl q hq) (k H lc ls hP hD hS hl)
theorem j_aload_n {k0 : Fin 4} {i : Nat} {x : Nat} (d : decode cc pc = .ok (.aload_n k0, 1)) (hi : (k0 : Nat) = i) (q : Nat) (hq : lv[q]? = some (i, .ref x)) (k : jW C (pc + 1) lv (.ref x :: st) M L) : jW C pc lv st M L := fun H lc ls hP hD hS hl => lv_aload_n C.1 C.2.1 d hi (lv_at hl q hq) (k H lc ls hP hD hS hl)
theorem j_aload {i : Nat} {x : Nat} (d : decode cc pc = .ok (.aload i, 2)) (q : Nat) (hq : lv[q]? = some (i, .ref x)) (k : jW C (pc + 2) lv (.ref x :: st) M L) : jW C pc lv st M L := fun H lc ls hP hD hS hl => lv_aload C.1 C.2.1 d (lv_at hl q hq) (k H lc ls hP hD hS hl)
theorem j_istore_n {k0 : Fin 4} {i : Nat} {x : Int32} {lv' : List (Nat × Value)} (d : decode cc pc = .ok (.istore_n k0, 1)) (hi : (k0 : Nat) = i) (hn : i < nL) (hl' : (i, Value.int x) :: lv.filter (fun q => !(q.1 == i) && !(q.1 + 1 == i && q.2.category == 2)) = lv') (k : jW C (pc + 1) lv' st M L) : jW C pc lv (.int x :: st) M L := fun H lc ls hP hD hS hl => lv_istore_n C.1 C.2.1 d hi hl hn hl' (fun ls' h' => k H lc ls' hP hD hS h')
theorem j_istore {i : Nat} {x : Int32} {lv' : List (Nat × Value)} (d : decode cc pc = .ok (.istore i, 2)) (hn : i < nL) (hl' : (i, Value.int x) :: lv.filter (fun q => !(q.1 == i) && !(q.1 + 1 == i && q.2.category == 2)) = lv') (k : jW C (pc + 2) lv' st M L) : jW C pc lv (.int x :: st) M L := fun H lc ls hP hD hS hl => lv_istore C.1 C.2.1 d hl hn hl' (fun ls' h' => k H lc ls' hP hD hS h')
theorem j_lstore_n {k0 : Fin 4} {i : Nat} {x : Int64} {lv' : List (Nat × Value)} (d : decode cc pc = .ok (.lstore_n k0, 1)) (hi : (k0 : Nat) = i) (hn : i + 1 < nL) (hl' : (i, Value.long x) :: lv.filter (fun q => !(q.1 == i) && (!(q.1 == i + 1) && !(q.1 + 1 == i && q.2.category == 2))) = lv') (k : jW C (pc + 1) lv' st M L) : jW C pc lv (.long x :: st) M L := fun H lc ls hP hD hS hl => lv_lstore_n C.1 C.2.1 d hi hl hn hl' (fun ls' h' => k H lc ls' hP hD hS h')
theorem j_lstore {i : Nat} {x : Int64} {lv' : List (Nat × Value)} (d : decode cc pc = .ok (.lstore i, 2)) (hn : i + 1 < nL) (hl' : (i, Value.long x) :: lv.filter (fun q => !(q.1 == i) && (!(q.1 == i + 1) && !(q.1 + 1 == i && q.2.category == 2))) = lv') (k : jW C (pc + 2) lv' st M L) : jW C pc lv (.long x :: st) M L := fun H lc ls hP hD hS hl => lv_lstore C.1 C.2.1 d hl hn hl' (fun ls' h' => k H lc ls' hP hD hS h')
theorem j_astore_n {k0 : Fin 4} {i : Nat} {x : Nat} {lv' : List (Nat × Value)} (d : decode cc pc = .ok (.astore_n k0, 1)) (hi : (k0 : Nat) = i) (hn : i < nL) (hl' : (i, Value.ref x) :: lv.filter (fun q => !(q.1 == i) && !(q.1 + 1 == i && q.2.category == 2)) = lv') (k : jW C (pc + 1) lv' st M L) : jW C pc lv (.ref x :: st) M L := fun H lc ls hP hD hS hl => lv_astore_n C.1 C.2.1 d hi hl hn hl' (fun ls' h' => k H lc ls' hP hD hS h')
theorem j_astore {i : Nat} {x : Nat} {lv' : List (Nat × Value)} (d : decode cc pc = .ok (.astore i, 2)) (hn : i < nL) (hl' : (i, Value.ref x) :: lv.filter (fun q => !(q.1 == i) && !(q.1 + 1 == i && q.2.category == 2)) = lv') (k : jW C (pc + 2) lv' st M L) : jW C pc lv (.ref x :: st) M L := fun H lc ls hP hD hS hl => lv_astore C.1 C.2.1 d hl hn hl' (fun ls' h' => k H lc ls' hP hD hS h')
theorem j_iinc {i q : Nat} {n : Int} {x v : Int32} {lv' : List (Nat × Value)} (d : decode cc pc = .ok (.iinc i n, 3)) (hq : lv[q]? = some (i, .int x)) (hv : x + Int32.ofInt n = v) (hn : i < nL) (hl' : (i, Value.int v) :: lv.filter (fun q => !(q.1 == i) && !(q.1 + 1 == i && q.2.category == 2)) = lv') (k : jW C (pc + 3) lv' st M L) : jW C pc lv st M L := fun H lc ls hP hD hS hl => lv_iinc C.1 C.2.1 d hl hq hv hn hl' (fun ls' h' => k H lc ls' hP hD hS h')
theorem j_iadd {x y : Int32} (d : decode cc pc = .ok (.iadd, 1)) (k : jW C (pc + 1) lv (.int (x + y) :: st) M L) : jW C pc lv (.int y :: .int x :: st) M L := fun H lc ls hP hD hS hl => lv_iadd C.1 C.2.1 d (k H lc ls hP hD hS hl)
theorem j_isub {x y : Int32} (d : decode cc pc = .ok (.isub, 1)) (k : jW C (pc + 1) lv (.int (x - y) :: st) M L) : jW C pc lv (.int y :: .int x :: st) M L := fun H lc ls hP hD hS hl => lv_isub C.1 C.2.1 d (k H lc ls hP hD hS hl)
theorem j_imul {x y : Int32} (d : decode cc pc = .ok (.imul, 1)) (k : jW C (pc + 1) lv (.int (x * y) :: st) M L) : jW C pc lv (.int y :: .int x :: st) M L := fun H lc ls hP hD hS hl => lv_imul C.1 C.2.1 d (k H lc ls hP hD hS hl)
theorem j_iand {x y : Int32} (d : decode cc pc = .ok (.iand, 1)) (k : jW C (pc + 1) lv (.int (x &&& y) :: st) M L) : jW C pc lv (.int y :: .int x :: st) M L := fun H lc ls hP hD hS hl => lv_iand C.1 C.2.1 d (k H lc ls hP hD hS hl)
theorem j_ior {x y : Int32} (d : decode cc pc = .ok (.ior, 1)) (k : jW C (pc + 1) lv (.int (x ||| y) :: st) M L) : jW C pc lv (.int y :: .int x :: st) M L := fun H lc ls hP hD hS hl => lv_ior C.1 C.2.1 d (k H lc ls hP hD hS hl)
theorem j_ixor {x y : Int32} (d : decode cc pc = .ok (.ixor, 1)) (k : jW C (pc + 1) lv (.int (x ^^^ y) :: st) M L) : jW C pc lv (.int y :: .int x :: st) M L := fun H lc ls hP hD hS hl => lv_ixor C.1 C.2.1 d (k H lc ls hP hD hS hl)
theorem j_ishl {x y : Int32} (d : decode cc pc = .ok (.ishl, 1)) (k : jW C (pc + 1) lv (.int (x <<< (y &&& 31)) :: st) M L) : jW C pc lv (.int y :: .int x :: st) M L := fun H lc ls hP hD hS hl => lv_ishl C.1 C.2.1 d (k H lc ls hP hD hS hl)
theorem j_ishr {x y : Int32} (d : decode cc pc = .ok (.ishr, 1)) (k : jW C (pc + 1) lv (.int (x >>> (y &&& 31)) :: st) M L) : jW C pc lv (.int y :: .int x :: st) M L := fun H lc ls hP hD hS hl => lv_ishr C.1 C.2.1 d (k H lc ls hP hD hS hl)
theorem j_ladd {x y : Int64} (d : decode cc pc = .ok (.ladd, 1)) (k : jW C (pc + 1) lv (.long (x + y) :: st) M L) : jW C pc lv (.long y :: .long x :: st) M L := fun H lc ls hP hD hS hl => lv_ladd C.1 C.2.1 d (k H lc ls hP hD hS hl)
theorem j_lsub {x y : Int64} (d : decode cc pc = .ok (.lsub, 1)) (k : jW C (pc + 1) lv (.long (x - y) :: st) M L) : jW C pc lv (.long y :: .long x :: st) M L := fun H lc ls hP hD hS hl => lv_lsub C.1 C.2.1 d (k H lc ls hP hD hS hl)
theorem j_lmul {x y : Int64} (d : decode cc pc = .ok (.lmul, 1)) (k : jW C (pc + 1) lv (.long (x * y) :: st) M L) : jW C pc lv (.long y :: .long x :: st) M L := fun H lc ls hP hD hS hl => lv_lmul C.1 C.2.1 d (k H lc ls hP hD hS hl)
theorem j_land {x y : Int64} (d : decode cc pc = .ok (.land, 1)) (k : jW C (pc + 1) lv (.long (x &&& y) :: st) M L) : jW C pc lv (.long y :: .long x :: st) M L := fun H lc ls hP hD hS hl => lv_land C.1 C.2.1 d (k H lc ls hP hD hS hl)
theorem j_lor {x y : Int64} (d : decode cc pc = .ok (.lor, 1)) (k : jW C (pc + 1) lv (.long (x ||| y) :: st) M L) : jW C pc lv (.long y :: .long x :: st) M L := fun H lc ls hP hD hS hl => lv_lor C.1 C.2.1 d (k H lc ls hP hD hS hl)
theorem j_idiv {x y : Int32} (d : decode cc pc = .ok (.idiv, 1)) (hne : ¬ y = 0) (k : jW C (pc + 1) lv (.int (x / y) :: st) M L) : jW C pc lv (.int y :: .int x :: st) M L := fun H lc ls hP hD hS hl => lv_idiv C.1 C.2.1 d hne (k H lc ls hP hD hS hl)
theorem j_irem {x y : Int32} (d : decode cc pc = .ok (.irem, 1)) (hne : ¬ y = 0) (k : jW C (pc + 1) lv (.int (x - x / y * y) :: st) M L) : jW C pc lv (.int y :: .int x :: st) M L := fun H lc ls hP hD hS hl => lv_irem C.1 C.2.1 d hne (k H lc ls hP hD hS hl)
theorem j_ldiv {x y : Int64} (d : decode cc pc = .ok (.ldiv, 1)) (hne : ¬ y = 0) (k : jW C (pc + 1) lv (.long (x / y) :: st) M L) : jW C pc lv (.long y :: .long x :: st) M L := fun H lc ls hP hD hS hl => lv_ldiv C.1 C.2.1 d hne (k H lc ls hP hD hS hl)
theorem j_lrem {x y : Int64} (d : decode cc pc = .ok (.lrem, 1)) (hne : ¬ y = 0) (k : jW C (pc + 1) lv (.long (x - x / y * y) :: st) M L) : jW C pc lv (.long y :: .long x :: st) M L := fun H lc ls hP hD hS hl => lv_lrem C.1 C.2.1 d hne (k H lc ls hP hD hS hl)
theorem j_lshl {x : Int64} {y : Int32} (d : decode cc pc = .ok (.lshl, 1)) (k : jW C (pc + 1) lv (.long (jShl x y) :: st) M L) : jW C pc lv (.int y :: .long x :: st) M L := fun H lc ls hP hD hS hl => lv_lshl C.1 C.2.1 d rfl (k H lc ls hP hD hS hl)
theorem j_lshr {x : Int64} {y : Int32} (d : decode cc pc = .ok (.lshr, 1)) (k : jW C (pc + 1) lv (.long (jShr x y) :: st) M L) : jW C pc lv (.int y :: .long x :: st) M L := fun H lc ls hP hD hS hl => lv_lshr C.1 C.2.1 d rfl (k H lc ls hP hD hS hl)
theorem j_lushr {x : Int64} {y : Int32} (d : decode cc pc = .ok (.lushr, 1)) (k : jW C (pc + 1) lv (.long (jUshr x y) :: st) M L) : jW C pc lv (.int y :: .long x :: st) M L := fun H lc ls hP hD hS hl => lv_lushr C.1 C.2.1 d rfl (k H lc ls hP hD hS hl)
theorem j_i2l {x : Int32} (d : decode cc pc = .ok (.i2l, 1)) (k : jW C (pc + 1) lv (.long x.toInt64 :: st) M L) : jW C pc lv (.int x :: st) M L := fun H lc ls hP hD hS hl => lv_i2l C.1 C.2.1 d rfl (k H lc ls hP hD hS hl)
theorem j_l2i {x : Int64} (d : decode cc pc = .ok (.l2i, 1)) (k : jW C (pc + 1) lv (.int x.toInt32 :: st) M L) : jW C pc lv (.long x :: st) M L := fun H lc ls hP hD hS hl => lv_l2i C.1 C.2.1 d rfl (k H lc ls hP hD hS hl)
theorem j_i2c {x : Int32} (d : decode cc pc = .ok (.i2c, 1)) (k : jW C (pc + 1) lv (.int (jChar x) :: st) M L) : jW C pc lv (.int x :: st) M L := fun H lc ls hP hD hS hl => lv_i2c C.1 C.2.1 d rfl (k H lc ls hP hD hS hl)
theorem j_lcmp {x y : Int64} (d : decode cc pc = .ok (.lcmp, 1)) (k : jW C (pc + 1) lv (.int (lg_cmp x y) :: st) M L) : jW C pc lv (.long y :: .long x :: st) M L := fun H lc ls hP hD hS hl => W.lcmp C.1 C.2.1 d (k H lc ls hP hD hS hl)
theorem j_dup {v : Value} (d : decode cc pc = .ok (.dup, 1)) (hv : v.category = 1) (k : jW C (pc + 1) lv (v :: v :: st) M L) : jW C pc lv (v :: st) M L := fun H lc ls hP hD hS hl => lv_dup C.1 C.2.1 d hv (k H lc ls hP hD hS hl)
theorem j_pop {v : Value} (d : decode cc pc = .ok (.pop, 1)) (hv : v.category = 1) (k : jW C (pc + 1) lv st M L) : jW C pc lv (v :: st) M L := fun H lc ls hP hD hS hl => lv_pop C.1 C.2.1 d hv (k H lc ls hP hD hS hl)
theorem j_dup2_11 {v u : Value} (d : decode cc pc = .ok (.dup2, 1)) (hv : v.category = 1) (hu : u.category = 1) (k : jW C (pc + 1) lv (v :: u :: v :: u :: st) M L) : jW C pc lv (v :: u :: st) M L := fun H lc ls hP hD hS hl => lv_dup2_11 C.1 C.2.1 d hv hu (k H lc ls hP hD hS hl)
theorem j_dup2_2 {v : Value} (d : decode cc pc = .ok (.dup2, 1)) (hv : v.category = 2) (k : jW C (pc + 1) lv (v :: v :: st) M L) : jW C pc lv (v :: st) M L := fun H lc ls hP hD hS hl => lv_dup2_2 C.1 C.2.1 d hv (k H lc ls hP hD hS hl)
theorem j_mmin {x y : Int32} {index : Nat} (h1 : Cond.methodLink own index Lib.Math.min.name ∈ jB) (h2 : Cond.static Lib.Math.min.name ∈ jB) (h3 : Cond.initialized "java/lang/Math" ∈ jB) (h4 : Cond.code Lib.Math.min.name Lib.Math.min.code 2 (some .int) ∈ jB) (hf : 1 ≤ R.frames) (hw : (st.map fun v => v.category).sum + 13 ≤ R.locals) (d : decode cc pc = .ok (.invokestatic index, 3)) (k : jW C (pc + 3) lv (.int (jMin x y) :: st) M L) : jW C pc lv (.int y :: .int x :: st) M L := fun H lc ls hP hD hS hl => va_mmin C.1 C.2.1 (by rw [C.2.2.1]; exact hl.1.symm) C.2.2.2.1 (C.2.2.2.2.1 _ h1) (C.2.2.2.2.1 _ h2) (C.2.2.2.2.1 _ h3) (C.2.2.2.2.1 _ h4) hf hw C.2.2.2.2.2.2.2.2.2.1 C.2.2.2.2.2.2.2.2.2.2 d (k H lc ls hP hD hS hl)
theorem j_if_eq {x : Int32} {off : Int} (tgt : Nat) (d : decode cc pc = .ok (.ifCond .eq off, 3)) (ht : (pc : Int) + off = (tgt : Int)) (kt : x = 0 → jW C tgt lv st M L) (kf : ¬ x = 0 → jW C (pc + 3) lv st M L) : jW C pc lv (.int x :: st) M L := fun H lc ls hP hD hS hl => lv_if_eq C.1 C.2.1 d ht (fun h => kt h H lc ls hP hD hS hl) (fun h => kf h H lc ls hP hD hS hl)
theorem j_if_ne {x : Int32} {off : Int} (tgt : Nat) (d : decode cc pc = .ok (.ifCond .ne off, 3)) (ht : (pc : Int) + off = (tgt : Int)) (kt : ¬ x = 0 → jW C tgt lv st M L) (kf : x = 0 → jW C (pc + 3) lv st M L) : jW C pc lv (.int x :: st) M L := fun H lc ls hP hD hS hl => lv_if_ne C.1 C.2.1 d ht (fun h => kt h H lc ls hP hD hS hl) (fun h => kf h H lc ls hP hD hS hl)
theorem j_if_lt {x : Int32} {off : Int} (tgt : Nat) (d : decode cc pc = .ok (.ifCond .lt off, 3)) (ht : (pc : Int) + off = (tgt : Int)) (kt : x < 0 → jW C tgt lv st M L) (kf : ¬ x < 0 → jW C (pc + 3) lv st M L) : jW C pc lv (.int x :: st) M L := fun H lc ls hP hD hS hl => lv_if_lt C.1 C.2.1 d ht (fun h => kt h H lc ls hP hD hS hl) (fun h => kf h H lc ls hP hD hS hl)
theorem j_if_ge {x : Int32} {off : Int} (tgt : Nat) (d : decode cc pc = .ok (.ifCond .ge off, 3)) (ht : (pc : Int) + off = (tgt : Int)) (kt : 0 ≤ x → jW C tgt lv st M L) (kf : ¬ 0 ≤ x → jW C (pc + 3) lv st M L) : jW C pc lv (.int x :: st) M L := fun H lc ls hP hD hS hl => lv_if_ge C.1 C.2.1 d ht (fun h => kt h H lc ls hP hD hS hl) (fun h => kf h H lc ls hP hD hS hl)
theorem j_if_gt {x : Int32} {off : Int} (tgt : Nat) (d : decode cc pc = .ok (.ifCond .gt off, 3)) (ht : (pc : Int) + off = (tgt : Int)) (kt : 0 < x → jW C tgt lv st M L) (kf : ¬ 0 < x → jW C (pc + 3) lv st M L) : jW C pc lv (.int x :: st) M L := fun H lc ls hP hD hS hl => lv_if_gt C.1 C.2.1 d ht (fun h => kt h H lc ls hP hD hS hl) (fun h => kf h H lc ls hP hD hS hl)
theorem j_if_le {x : Int32} {off : Int} (tgt : Nat) (d : decode cc pc = .ok (.ifCond .le off, 3)) (ht : (pc : Int) + off = (tgt : Int)) (kt : x ≤ 0 → jW C tgt lv st M L) (kf : ¬ x ≤ 0 → jW C (pc + 3) lv st M L) : jW C pc lv (.int x :: st) M L := fun H lc ls hP hD hS hl => lv_if_le C.1 C.2.1 d ht (fun h => kt h H lc ls hP hD hS hl) (fun h => kf h H lc ls hP hD hS hl)
theorem j_icmp_eq {x y : Int32} {off : Int} (tgt : Nat) (d : decode cc pc = .ok (.if_icmp .eq off, 3)) (ht : (pc : Int) + off = (tgt : Int)) (kt : x = y → jW C tgt lv st M L) (kf : ¬ x = y → jW C (pc + 3) lv st M L) : jW C pc lv (.int y :: .int x :: st) M L := fun H lc ls hP hD hS hl => lv_icmp_eq C.1 C.2.1 d ht (fun h => kt h H lc ls hP hD hS hl) (fun h => kf h H lc ls hP hD hS hl)
theorem j_icmp_ne {x y : Int32} {off : Int} (tgt : Nat) (d : decode cc pc = .ok (.if_icmp .ne off, 3)) (ht : (pc : Int) + off = (tgt : Int)) (kt : ¬ x = y → jW C tgt lv st M L) (kf : x = y → jW C (pc + 3) lv st M L) : jW C pc lv (.int y :: .int x :: st) M L := fun H lc ls hP hD hS hl => lv_icmp_ne C.1 C.2.1 d ht (fun h => kt h H lc ls hP hD hS hl) (fun h => kf h H lc ls hP hD hS hl)
theorem j_icmp_lt {x y : Int32} {off : Int} (tgt : Nat) (d : decode cc pc = .ok (.if_icmp .lt off, 3)) (ht : (pc : Int) + off = (tgt : Int)) (kt : x < y → jW C tgt lv st M L) (kf : ¬ x < y → jW C (pc + 3) lv st M L) : jW C pc lv (.int y :: .int x :: st) M L := fun H lc ls hP hD hS hl => lv_icmp_lt C.1 C.2.1 d ht (fun h => kt h H lc ls hP hD hS hl) (fun h => kf h H lc ls hP hD hS hl)
theorem j_icmp_ge {x y : Int32} {off : Int} (tgt : Nat) (d : decode cc pc = .ok (.if_icmp .ge off, 3)) (ht : (pc : Int) + off = (tgt : Int)) (kt : y ≤ x → jW C tgt lv st M L) (kf : ¬ y ≤ x → jW C (pc + 3) lv st M L) : jW C pc lv (.int y :: .int x :: st) M L := fun H lc ls hP hD hS hl => lv_icmp_ge C.1 C.2.1 d ht (fun h => kt h H lc ls hP hD hS hl) (fun h => kf h H lc ls hP hD hS hl)
theorem j_icmp_gt {x y : Int32} {off : Int} (tgt : Nat) (d : decode cc pc = .ok (.if_icmp .gt off, 3)) (ht : (pc : Int) + off = (tgt : Int)) (kt : y < x → jW C tgt lv st M L) (kf : ¬ y < x → jW C (pc + 3) lv st M L) : jW C pc lv (.int y :: .int x :: st) M L := fun H lc ls hP hD hS hl => lv_icmp_gt C.1 C.2.1 d ht (fun h => kt h H lc ls hP hD hS hl) (fun h => kf h H lc ls hP hD hS hl)
theorem j_icmp_le {x y : Int32} {off : Int} (tgt : Nat) (d : decode cc pc = .ok (.if_icmp .le off, 3)) (ht : (pc : Int) + off = (tgt : Int)) (kt : x ≤ y → jW C tgt lv st M L) (kf : ¬ x ≤ y → jW C (pc + 3) lv st M L) : jW C pc lv (.int y :: .int x :: st) M L := fun H lc ls hP hD hS hl => lv_icmp_le C.1 C.2.1 d ht (fun h => kt h H lc ls hP hD hS hl) (fun h => kf h H lc ls hP hD hS hl)
theorem j_goto {off : Int} (tgt : Nat) (d : decode cc pc = .ok (.goto off, 3)) (ht : (pc : Int) + off = (tgt : Int)) (k : jW C tgt lv st M L) : jW C pc lv st M L := fun H lc ls hP hD hS hl => lv_goto C.1 C.2.1 d ht (k H lc ls hP hD hS hl)
theorem j_lookup {dflt : Int} {ps : Array (Int × Int)} {len : Nat} {x : Int32} {off : Int} (tgt : Nat) (d : decode cc pc = .ok (.lookupswitch dflt ps, len)) (hp : (ps.toList.zip (ps.toList.drop 1)).all (fun (a, next) => a.1 < next.1) = true) (ho : Op.lookupswitch.offset ps.toList dflt x.toInt = off) (ht : (pc : Int) + off = (tgt : Int)) (k : jW C tgt lv st M L) : jW C pc lv (.int x :: st) M L := fun H lc ls hP hD hS hl => lv_lookup C.1 C.2.1 d hp ho ht (k H lc ls hP hD hS hl)
theorem j_tabOut {dflt lo hi : Int} {offs : Array Int} {len : Nat} {x : Int32} (tgt : Nat) (d : decode cc pc = .ok (.tableswitch dflt lo hi offs, len)) (h : x.toInt < lo ∨ hi < x.toInt) (ht : (pc : Int) + dflt = (tgt : Int)) (k : jW C tgt lv st M L) : jW C pc lv (.int x :: st) M L := fun H lc ls hP hD hS hl => lv_tableOut C.1 C.2.1 d h ht (k H lc ls hP hD hS hl)
theorem j_tabIn {dflt lo hi : Int} {offs : Array Int} {len : Nat} {x : Int32} {off : Int} (tgt : Nat) (d : decode cc pc = .ok (.tableswitch dflt lo hi offs, len)) (h1 : ¬ x.toInt < lo) (h2 : ¬ hi < x.toInt) (ho : offs[(x.toInt - lo).toNat]? = some off) (ht : (pc : Int) + off = (tgt : Int)) (k : jW C tgt lv st M L) : jW C pc lv (.int x :: st) M L := fun H lc ls hP hD hS hl => lv_tableIn C.1 C.2.1 d h1 h2 ho ht (k H lc ls hP hD hS hl)
theorem j_sub {lv' : List (Nat × Value)} (ks : List Nat) (h : lv_pick lv ks = lv') (k : jW C pc lv' st M L) : jW C pc lv st M L := fun H lc ls hP hD hS hl => k H lc ls hP hD hS (lv_sub hl ks h)
theorem j_topi {x : Int32} (k : ∀ z : Int32, z = x → jW C pc lv (.int z :: st) M L) : jW C pc lv (.int x :: st) M L := k x rfl
theorem j_iald (q0 t0 : Nat) {a : Nat} {cA : ClassId} {n : Nat} {f : Nat → Int32} (ha : (w M L)[q0]? = some (a, .inl (cA, n, .inl f))) (ht : tys[t0]? = some (cA, .int)) {i : Int32} (hin : vp_in i n) (d : decode cc pc = .ok (.iaload, 1)) (k : jW C (pc + 1) lv (.int (f i.toNatClampNeg) :: st) M L) : jW C pc lv (.int i :: .ref a :: st) M L := fun H lc ls hP hD hS hl => va_iald C.1 C.2.1 C.2.2.2.2.2.1 hP q0 t0 ha ht hin d (k H lc ls hP hD hS hl)
theorem j_cald (q0 t0 : Nat) {a : Nat} {cA : ClassId} {n : Nat} {f : Nat → Int32} (ha : (w M L)[q0]? = some (a, .inl (cA, n, .inl f))) (ht : tys[t0]? = some (cA, .char)) {i : Int32} (hin : vp_in i n) (d : decode cc pc = .ok (.caload, 1)) (k : jW C (pc + 1) lv (.int (f i.toNatClampNeg) :: st) M L) : jW C pc lv (.int i :: .ref a :: st) M L := fun H lc ls hP hD hS hl => va_cald C.1 C.2.1 C.2.2.2.2.2.1 hP q0 t0 ha ht hin d (k H lc ls hP hD hS hl)
theorem j_zald (q0 t0 : Nat) {a : Nat} {cA : ClassId} {n : Nat} {f : Nat → Int32} (ha : (w M L)[q0]? = some (a, .inl (cA, n, .inl f))) (ht : tys[t0]? = some (cA, .boolean)) {i : Int32} (hin : vp_in i n) (d : decode cc pc = .ok (.baload, 1)) (k : jW C (pc + 1) lv (.int (f i.toNatClampNeg) :: st) M L) : jW C pc lv (.int i :: .ref a :: st) M L := fun H lc ls hP hD hS hl => va_zald C.1 C.2.1 C.2.2.2.2.2.1 hP q0 t0 ha ht hin d (k H lc ls hP hD hS hl)
theorem j_lald (q0 t0 : Nat) {a : Nat} {cA : ClassId} {n : Nat} {f : Nat → Int64} (ha : (w M L)[q0]? = some (a, .inl (cA, n, .inr (.inl f)))) (ht : tys[t0]? = some (cA, .long)) {i : Int32} (hin : vp_in i n) (d : decode cc pc = .ok (.laload, 1)) (k : jW C (pc + 1) lv (.long (f i.toNatClampNeg) :: st) M L) : jW C pc lv (.int i :: .ref a :: st) M L := fun H lc ls hP hD hS hl => va_lald C.1 C.2.1 C.2.2.2.2.2.1 hP q0 t0 ha ht hin d (k H lc ls hP hD hS hl)
theorem j_alen (q0 t0 : Nat) {a : Nat} {cA : ClassId} {x : vp_A} (ha : (w M L)[q0]? = some (a, .inl (cA, x))) {ty : FieldType} (ht : tys[t0]? = some (cA, ty)) {v : Int32} (hv : Int32.ofNat x.1 = v) (d : decode cc pc = .ok (.arraylength, 1)) (k : jW C (pc + 1) lv (.int v :: st) M L) : jW C pc lv (.ref a :: st) M L := fun H lc ls hP hD hS hl => va_alen C.1 C.2.1 C.2.2.2.2.2.1 hP q0 t0 ha ht hv d (k H lc ls hP hD hS hl)
theorem j_iast (q0 t0 : Nat) {a : Nat} {cA : ClassId} {n : Nat} {f : Nat → Int32} (ha : (w M L)[q0]? = some (a, .inl (cA, n, .inl f))) (ht : tys[t0]? = some (cA, .int)) {i : Int32} {x : Int32} (hin : vp_in i n) (d : decode cc pc = .ok (.iastore, 1)) {M' : jM} {L' : jL} (hw : (w M L).set q0 (a, .inl (cA, n, .inl (upd f i.toNatClampNeg x))) = w M' L') (k : jW C (pc + 1) lv st M' L') : jW C pc lv (.int x :: .int i :: .ref a :: st) M L := fun H lc ls hP hD hS hl => va_iast C.1 C.2.1 C.2.2.2.2.2.1 hP hD hS q0 t0 ha ht hin d (fun H1 l1 hP1 hD1 hS1 => k H1 l1 ls (hw ▸ hP1) (hw ▸ hD1) hS1 hl)
theorem j_cast (q0 t0 : Nat) {a : Nat} {cA : ClassId} {n : Nat} {f : Nat → Int32} (ha : (w M L)[q0]? = some (a, .inl (cA, n, .inl f))) (ht : tys[t0]? = some (cA, .char)) {i : Int32} {x : Int32} (hin : vp_in i n) (d : decode cc pc = .ok (.castore, 1)) {M' : jM} {L' : jL} (hw : (w M L).set q0 (a, .inl (cA, n, .inl (upd f i.toNatClampNeg (vp_nar .char x)))) = w M' L') (k : jW C (pc + 1) lv st M' L') : jW C pc lv (.int x :: .int i :: .ref a :: st) M L := fun H lc ls hP hD hS hl => va_cast C.1 C.2.1 C.2.2.2.2.2.1 hP hD hS q0 t0 ha ht hin d (fun H1 l1 hP1 hD1 hS1 => k H1 l1 ls (hw ▸ hP1) (hw ▸ hD1) hS1 hl)
theorem j_zast (q0 t0 : Nat) {a : Nat} {cA : ClassId} {n : Nat} {f : Nat → Int32} (ha : (w M L)[q0]? = some (a, .inl (cA, n, .inl f))) (ht : tys[t0]? = some (cA, .boolean)) {i : Int32} {x : Int32} (hin : vp_in i n) (d : decode cc pc = .ok (.bastore, 1)) {M' : jM} {L' : jL} (hw : (w M L).set q0 (a, .inl (cA, n, .inl (upd f i.toNatClampNeg (vp_nar .boolean x)))) = w M' L') (k : jW C (pc + 1) lv st M' L') : jW C pc lv (.int x :: .int i :: .ref a :: st) M L := fun H lc ls hP hD hS hl => va_zast C.1 C.2.1 C.2.2.2.2.2.1 hP hD hS q0 t0 ha ht hin d (fun H1 l1 hP1 hD1 hS1 => k H1 l1 ls (hw ▸ hP1) (hw ▸ hD1) hS1 hl)
theorem j_last (q0 t0 : Nat) {a : Nat} {cA : ClassId} {n : Nat} {f : Nat → Int64} (ha : (w M L)[q0]? = some (a, .inl (cA, n, .inr (.inl f)))) (ht : tys[t0]? = some (cA, .long)) {i : Int32} {x : Int64} (hin : vp_in i n) (d : decode cc pc = .ok (.lastore, 1)) {M' : jM} {L' : jL} (hw : (w M L).set q0 (a, .inl (cA, n, .inr (.inl (vp_updL f i.toNatClampNeg x)))) = w M' L') (k : jW C (pc + 1) lv st M' L') : jW C pc lv (.long x :: .int i :: .ref a :: st) M L := fun H lc ls hP hD hS hl => va_last C.1 C.2.1 C.2.2.2.2.2.1 hP hD hS q0 t0 ha ht hin d (fun H1 l1 hP1 hD1 hS1 => k H1 l1 ls (hw ▸ hP1) (hw ▸ hD1) hS1 hl)
theorem j_get {ref K : String} {T : u_T} {N ci index : Nat} (hin : ∀ z ∈ u_ws K T N, z ∈ jB) (q0 : Nat) {a : Nat} {fs : List Value} (he : (w M L)[q0]? = some (a, .inr (ci, fs))) (hc : vwCl[ci]? = some (K, T, N)) (f0 : Nat) (hk : f0 < N) (hlink : (Cond.fieldLink own index ref (T f0).2.1 (T f0).2.2.1) ∈ jB) (hsame : ∀ x, s.fieldFound? (T f0).1 (T f0).2.1 (T f0).2.2.1 = some x → s.fieldFound? ref (T f0).2.1 (T f0).2.2.1 = some x) {v : Value} (hv : fs[f0]? = some v) (d : decode cc pc = .ok (.getfield index, 3)) (k : jW C (pc + 3) lv (v :: st) M L) : jW C pc lv (.ref a :: st) M L := fun H lc ls hP hD hS hl => va_get C.1 C.2.1 C.2.2.2.2.1 hin C.2.2.2.1 C.2.2.2.2.2.1 hP q0 he hc f0 hk (C.2.2.2.2.1 _ hlink) hsame hv d (k H lc ls hP hD hS hl)
theorem j_put {ref K : String} {T : u_T} {N ci index : Nat} (hin : ∀ z ∈ u_ws K T N, z ∈ jB) (ty0 : Nat → FieldType) (hty : ∀ k, k < N → parseFieldDescriptor (T k).2.2.1 = some (ty0 k)) (hnm : ∀ a, a < N → ∀ b, b < N → a ≠ b → (T a).2.1 ≠ (T b).2.1) (q0 : Nat) {a : Nat} {fs : List Value} (he : (w M L)[q0]? = some (a, .inr (ci, fs))) (hc : vwCl[ci]? = some (K, T, N)) (f0 : Nat) (hk : f0 < N) (hlink : (Cond.fieldLink own index ref (T f0).2.1 (T f0).2.2.1) ∈ jB) (hsame : ∀ x, s.fieldFound? (T f0).1 (T f0).2.1 (T f0).2.2.1 = some x → s.fieldFound? ref (T f0).2.1 (T f0).2.2.1 = some x) (hfin : (T f0).2.2.2 = false) {ty : FieldType} {v : Value} (hd : parseFieldDescriptor (T f0).2.2.1 = some ty) (hn : narrow ty v = v) (hfit : fits ty v = true) (hl0 : f0 < fs.length) (d : decode cc pc = .ok (.putfield index, 3)) {M' : jM} {L' : jL} (hw : (w M L).set q0 (a, .inr (ci, fs.set f0 v)) = w M' L') (k : jW C (pc + 3) lv st M' L') : jW C pc lv (v :: .ref a :: st) M L := fun H lc ls hP hD hS hl => va_put C.1 C.2.1 C.2.2.2.2.1 hin ty0 hty hnm C.2.2.2.1 C.2.2.2.2.2.1 hP hD hS q0 he hc f0 hk (C.2.2.2.2.1 _ hlink) hsame hfin hd hn hfit hl0 d (fun H1 l1 hP1 hD1 hS1 => k H1 l1 ls (hw ▸ hP1) (hw ▸ hD1) hS1 hl)
theorem j_F (C : jCtx p l e R s m args below meth c nc ns Q D tys w Z A0 cc nL own) {H : Heap} {lc : List Loc} (hD : va_D A0 (w M L)) (hS : va_S A0 s.heap H lc) : ∀ q, va_A (w M L) H.size q → A0 q := fun q hq => by
  rcases hq with ⟨k0, e0, h⟩ | h
  · exact hD.2 k0 _ h
  · exact C.2.2.2.2.2.2.1 q (Nat.le_trans hS.1 h)
theorem j_Z (C : jCtx p l e R s m args below meth c nc ns Q D tys w Z A0 cc nL own) {H : Heap} {lc : List Loc} (hD : va_D A0 (w M L)) (hS : va_S A0 s.heap H lc) (U : State) (hU : U.heap = H) (hW : s.WarmedH U.vm) : Z (va_A (w M L) H.size) U U.heap := by
  rw [hU]
  exact C.2.2.2.2.2.2.2.1.2.1 _ s U _ hW (C.2.2.2.2.2.2.2.1.2.2.2 A0 _ s H (C.2.2.2.2.2.2.2.1.2.2.1 A0 s s.heap H C.2.2.2.2.2.2.2.2.1 hS.2.1) (j_F C hD hS))
theorem j_blind (hZ : jZl Z) (av : List Value) (sz : Nat) : FrameBlind (va_Pc av (fun U => U.heap.size = sz ∧ va_P D vwCl (w M L) U.heap ∧ va_K D vwCl tys U ∧ va_D (fun _ => True) (w M L) ∧ Z (va_A (w M L) sz) U U.heap)) := fun a U g mk q => by
  obtain ⟨q0, q1, qP, qK, qD, qZ⟩ := q
  exact ⟨q0, q1, qP, va_K.moved (u := U) (U := U.calling g mk a) (Vm.Alike.refl U.vm) qK, qD, hZ.2.1 _ U (U.calling g mk a) _ (State.WarmedH.refl U) qZ⟩
theorem j_start (C : jCtx p l e R s m args below meth c nc ns Q D tys w Z A0 cc nL own) {H : Heap} {lc : List Loc} (hP : va_P D vwCl (w M L) H) (hD : va_D A0 (w M L)) (hS : va_S A0 s.heap H lc) (av : List Value) : ∀ U : State, U.heap = H → s.WarmedH U.vm → (va_Pc av (fun U => U.heap.size = H.size ∧ va_P D vwCl (w M L) U.heap ∧ va_K D vwCl tys U ∧ va_D (fun _ => True) (w M L) ∧ Z (va_A (w M L) H.size) U U.heap)) av.toArray U := fun U hU hW =>
  ⟨rfl, by rw [hU], by rw [hU]; exact hP, va_K.moved hW.alike C.2.2.2.2.2.1, hD.weaken (fun _ _ _ _ => trivial), j_Z C hD hS U hU hW⟩
theorem j_zl (C : jCtx p l e R s m args below meth c nc ns Q D tys w Z A0 cc nL own) : jZl Z := C.2.2.2.2.2.2.2.1
theorem j_callVi {y : MethodName} {bytes : ByteArray} {maxL n index : Nat} {ret : Option FieldType} {rm : Room} {st0 : List Value} (As : List Value) {out : jM × jL × Int32} {K : String} {T : u_T} {N ci : Nat} {fs : List Value} {b : Nat} (q0 : Nat) (he : (w M L)[q0]? = some (b, .inr (ci, fs))) (hc : vwCl[ci]? = some (K, T, N)) (hM : jMi l D tys w Z y (Cond.code y bytes maxL ret :: jB) rm (.ref b :: As) M L out) (hcode : Cond.code y bytes maxL ret ∈ jB) (hini : Cond.initialized y.cls ∈ jB) (hlink : Cond.methodLink own index y ∈ jB) (hinst : Cond.instanceMethod y ∈ jB) (hsel : Cond.selects K y y ∈ jB) (hd : y.cls ≠ "java/lang/invoke/MethodHandle" ∧ y.cls ≠ "java/lang/invoke/VarHandle" ∧ (parseMethodDescriptor y.desc).map (fun d => d.parameters.length) = some n) (hR : rm.frames + 1 ≤ R.frames ∧ 8 + (maxL + 11) + rm.locals ≤ R.locals) (hrc : rm.cells = 0) (hrs : rm.slots = 0) (hn : As.length = n) (hst : st0 = As.reverse ++ .ref b :: st) (hW : (st.map fun v => v.category).sum ≤ 8) (d : decode cc pc = .ok (.invokevirtual index, 3)) (k : jW C (pc + 3) lv (.int out.2.2 :: st) out.1 out.2.1) : jW C pc lv st0 M L := by
  intro H lc ls hP hD hS hl
  have hF := j_F C hD hS
  refine va_calli (va_runV (As := As) (rest := st) ⟨C.1, C.2.1, C.2.2.1, C.2.2.2.1, C.2.2.2.2.1⟩ (hM H.size) ⟨callB_of n C.2.2.2.2.1 (jB_in hcode) rfl hrc hrs (C.2.2.2.2.1 _ hini) (C.2.2.2.2.1 _ hlink) hd hR, C.2.2.2.2.1 _ hinst, C.2.2.2.2.1 _ hsel⟩ ⟨j_blind C.2.2.2.2.2.2.2.1 (.ref b :: As) H.size, va_recv C.2.2.2.2.2.1 hP hc he, j_start C hP hD hS (.ref b :: As)⟩ rfl hn hl.1 hst (lv_room hW) d ⟨C.2.2.2.2.2.2.2.2.2.1, C.2.2.2.2.2.2.2.2.2.2⟩) hS (fun q _ h => hF q h) hF (fun r u t H1 l1 ht hvm hp hB hz1 hk1 hS1 => ?_)
  obtain ⟨hP1, hK1, hD1⟩ := hB
  subst hp
  exact k H1 l1 ls (by rw [← ht]; exact hP1) (hD1.weaken (fun _ q _ h => hF q.1 h)) hS1 hl
theorem j_callVl {y : MethodName} {bytes : ByteArray} {maxL n index : Nat} {ret : Option FieldType} {rm : Room} {st0 : List Value} (As : List Value) {out : jM × jL × Int64} {K : String} {T : u_T} {N ci : Nat} {fs : List Value} {b : Nat} (q0 : Nat) (he : (w M L)[q0]? = some (b, .inr (ci, fs))) (hc : vwCl[ci]? = some (K, T, N)) (hM : jMl l D tys w Z y (Cond.code y bytes maxL ret :: jB) rm (.ref b :: As) M L out) (hcode : Cond.code y bytes maxL ret ∈ jB) (hini : Cond.initialized y.cls ∈ jB) (hlink : Cond.methodLink own index y ∈ jB) (hinst : Cond.instanceMethod y ∈ jB) (hsel : Cond.selects K y y ∈ jB) (hd : y.cls ≠ "java/lang/invoke/MethodHandle" ∧ y.cls ≠ "java/lang/invoke/VarHandle" ∧ (parseMethodDescriptor y.desc).map (fun d => d.parameters.length) = some n) (hR : rm.frames + 1 ≤ R.frames ∧ 8 + (maxL + 11) + rm.locals ≤ R.locals) (hrc : rm.cells = 0) (hrs : rm.slots = 0) (hn : As.length = n) (hst : st0 = As.reverse ++ .ref b :: st) (hW : (st.map fun v => v.category).sum ≤ 8) (d : decode cc pc = .ok (.invokevirtual index, 3)) (k : jW C (pc + 3) lv (.long out.2.2 :: st) out.1 out.2.1) : jW C pc lv st0 M L := by
  intro H lc ls hP hD hS hl
  have hF := j_F C hD hS
  refine va_calll (va_runV (As := As) (rest := st) ⟨C.1, C.2.1, C.2.2.1, C.2.2.2.1, C.2.2.2.2.1⟩ (hM H.size) ⟨callB_of n C.2.2.2.2.1 (jB_in hcode) rfl hrc hrs (C.2.2.2.2.1 _ hini) (C.2.2.2.2.1 _ hlink) hd hR, C.2.2.2.2.1 _ hinst, C.2.2.2.2.1 _ hsel⟩ ⟨j_blind C.2.2.2.2.2.2.2.1 (.ref b :: As) H.size, va_recv C.2.2.2.2.2.1 hP hc he, j_start C hP hD hS (.ref b :: As)⟩ rfl hn hl.1 hst (lv_room hW) d ⟨C.2.2.2.2.2.2.2.2.2.1, C.2.2.2.2.2.2.2.2.2.2⟩) hS (fun q _ h => hF q h) hF (fun r u t H1 l1 ht hvm hp hB hz1 hk1 hS1 => ?_)
  obtain ⟨hP1, hK1, hD1⟩ := hB
  subst hp
  exact k H1 l1 ls (by rw [← ht]; exact hP1) (hD1.weaken (fun _ q _ h => hF q.1 h)) hS1 hl
theorem j_callVv {y : MethodName} {bytes : ByteArray} {maxL n index : Nat} {ret : Option FieldType} {rm : Room} {st0 : List Value} (As : List Value) {out : jM × jL × Int32} {K : String} {T : u_T} {N ci : Nat} {fs : List Value} {b : Nat} (q0 : Nat) (he : (w M L)[q0]? = some (b, .inr (ci, fs))) (hc : vwCl[ci]? = some (K, T, N)) (hM : jMv l D tys w Z y (Cond.code y bytes maxL ret :: jB) rm (.ref b :: As) M L out) (hcode : Cond.code y bytes maxL ret ∈ jB) (hini : Cond.initialized y.cls ∈ jB) (hlink : Cond.methodLink own index y ∈ jB) (hinst : Cond.instanceMethod y ∈ jB) (hsel : Cond.selects K y y ∈ jB) (hd : y.cls ≠ "java/lang/invoke/MethodHandle" ∧ y.cls ≠ "java/lang/invoke/VarHandle" ∧ (parseMethodDescriptor y.desc).map (fun d => d.parameters.length) = some n) (hR : rm.frames + 1 ≤ R.frames ∧ 8 + (maxL + 11) + rm.locals ≤ R.locals) (hrc : rm.cells = 0) (hrs : rm.slots = 0) (hn : As.length = n) (hst : st0 = As.reverse ++ .ref b :: st) (hW : (st.map fun v => v.category).sum ≤ 8) (d : decode cc pc = .ok (.invokevirtual index, 3)) (k : jW C (pc + 3) lv st out.1 out.2.1) : jW C pc lv st0 M L := by
  intro H lc ls hP hD hS hl
  have hF := j_F C hD hS
  refine va_callv (va_runV (As := As) (rest := st) ⟨C.1, C.2.1, C.2.2.1, C.2.2.2.1, C.2.2.2.2.1⟩ (hM H.size) ⟨callB_of n C.2.2.2.2.1 (jB_in hcode) rfl hrc hrs (C.2.2.2.2.1 _ hini) (C.2.2.2.2.1 _ hlink) hd hR, C.2.2.2.2.1 _ hinst, C.2.2.2.2.1 _ hsel⟩ ⟨j_blind C.2.2.2.2.2.2.2.1 (.ref b :: As) H.size, va_recv C.2.2.2.2.2.1 hP hc he, j_start C hP hD hS (.ref b :: As)⟩ rfl hn hl.1 hst (lv_room hW) d ⟨C.2.2.2.2.2.2.2.2.2.1, C.2.2.2.2.2.2.2.2.2.2⟩) hS (fun q _ h => hF q h) hF (fun u t H1 l1 ht hvm hp hB hz1 hk1 hS1 => ?_)
  obtain ⟨hP1, hK1, hD1⟩ := hB
  subst hp
  exact k H1 l1 ls (by rw [← ht]; exact hP1) (hD1.weaken (fun _ q _ h => hF q.1 h)) hS1 hl
theorem j_callSi {y : MethodName} {bytes : ByteArray} {maxL n index : Nat} {ret : Option FieldType} {rm : Room} {st0 : List Value} (As : List Value) {out : jM × jL × Int32} (hM : jMi l D tys w Z y (Cond.code y bytes maxL ret :: jB) rm As M L out) (hcode : Cond.code y bytes maxL ret ∈ jB) (hini : Cond.initialized y.cls ∈ jB) (hlink : Cond.methodLink own index y ∈ jB) (hstat : Cond.static y ∈ jB) (hd : y.cls ≠ "java/lang/invoke/MethodHandle" ∧ y.cls ≠ "java/lang/invoke/VarHandle" ∧ (parseMethodDescriptor y.desc).map (fun d => d.parameters.length) = some n) (hR : rm.frames + 1 ≤ R.frames ∧ 8 + (maxL + 11) + rm.locals ≤ R.locals) (hrc : rm.cells = 0) (hrs : rm.slots = 0) (hn : As.length = n) (hst : st0 = As.reverse ++ st) (hW : (st.map fun v => v.category).sum ≤ 8) (d : decode cc pc = .ok (.invokestatic index, 3)) (k : jW C (pc + 3) lv (.int out.2.2 :: st) out.1 out.2.1) : jW C pc lv st0 M L := by
  intro H lc ls hP hD hS hl
  have hF := j_F C hD hS
  refine va_calli (va_runS (As := As) (rest := st) ⟨C.1, C.2.1, C.2.2.1, C.2.2.2.1, C.2.2.2.2.1⟩ (hM H.size) ⟨callB_of n C.2.2.2.2.1 (jB_in hcode) rfl hrc hrs (C.2.2.2.2.1 _ hini) (C.2.2.2.2.1 _ hlink) hd hR, C.2.2.2.2.1 _ hstat⟩ ⟨j_blind C.2.2.2.2.2.2.2.1 As H.size, j_start C hP hD hS As⟩ rfl hn hl.1 hst (lv_room hW) d ⟨C.2.2.2.2.2.2.2.2.2.1, C.2.2.2.2.2.2.2.2.2.2⟩) hS (fun q _ h => hF q h) hF (fun r u t H1 l1 ht hvm hp hB hz1 hk1 hS1 => ?_)
  obtain ⟨hP1, hK1, hD1⟩ := hB
  subst hp
  exact k H1 l1 ls (by rw [← ht]; exact hP1) (hD1.weaken (fun _ q _ h => hF q.1 h)) hS1 hl
theorem j_callSl {y : MethodName} {bytes : ByteArray} {maxL n index : Nat} {ret : Option FieldType} {rm : Room} {st0 : List Value} (As : List Value) {out : jM × jL × Int64} (hM : jMl l D tys w Z y (Cond.code y bytes maxL ret :: jB) rm As M L out) (hcode : Cond.code y bytes maxL ret ∈ jB) (hini : Cond.initialized y.cls ∈ jB) (hlink : Cond.methodLink own index y ∈ jB) (hstat : Cond.static y ∈ jB) (hd : y.cls ≠ "java/lang/invoke/MethodHandle" ∧ y.cls ≠ "java/lang/invoke/VarHandle" ∧ (parseMethodDescriptor y.desc).map (fun d => d.parameters.length) = some n) (hR : rm.frames + 1 ≤ R.frames ∧ 8 + (maxL + 11) + rm.locals ≤ R.locals) (hrc : rm.cells = 0) (hrs : rm.slots = 0) (hn : As.length = n) (hst : st0 = As.reverse ++ st) (hW : (st.map fun v => v.category).sum ≤ 8) (d : decode cc pc = .ok (.invokestatic index, 3)) (k : jW C (pc + 3) lv (.long out.2.2 :: st) out.1 out.2.1) : jW C pc lv st0 M L := by
  intro H lc ls hP hD hS hl
  have hF := j_F C hD hS
  refine va_calll (va_runS (As := As) (rest := st) ⟨C.1, C.2.1, C.2.2.1, C.2.2.2.1, C.2.2.2.2.1⟩ (hM H.size) ⟨callB_of n C.2.2.2.2.1 (jB_in hcode) rfl hrc hrs (C.2.2.2.2.1 _ hini) (C.2.2.2.2.1 _ hlink) hd hR, C.2.2.2.2.1 _ hstat⟩ ⟨j_blind C.2.2.2.2.2.2.2.1 As H.size, j_start C hP hD hS As⟩ rfl hn hl.1 hst (lv_room hW) d ⟨C.2.2.2.2.2.2.2.2.2.1, C.2.2.2.2.2.2.2.2.2.2⟩) hS (fun q _ h => hF q h) hF (fun r u t H1 l1 ht hvm hp hB hz1 hk1 hS1 => ?_)
  obtain ⟨hP1, hK1, hD1⟩ := hB
  subst hp
  exact k H1 l1 ls (by rw [← ht]; exact hP1) (hD1.weaken (fun _ q _ h => hF q.1 h)) hS1 hl
theorem j_callSv {y : MethodName} {bytes : ByteArray} {maxL n index : Nat} {ret : Option FieldType} {rm : Room} {st0 : List Value} (As : List Value) {out : jM × jL × Int32} (hM : jMv l D tys w Z y (Cond.code y bytes maxL ret :: jB) rm As M L out) (hcode : Cond.code y bytes maxL ret ∈ jB) (hini : Cond.initialized y.cls ∈ jB) (hlink : Cond.methodLink own index y ∈ jB) (hstat : Cond.static y ∈ jB) (hd : y.cls ≠ "java/lang/invoke/MethodHandle" ∧ y.cls ≠ "java/lang/invoke/VarHandle" ∧ (parseMethodDescriptor y.desc).map (fun d => d.parameters.length) = some n) (hR : rm.frames + 1 ≤ R.frames ∧ 8 + (maxL + 11) + rm.locals ≤ R.locals) (hrc : rm.cells = 0) (hrs : rm.slots = 0) (hn : As.length = n) (hst : st0 = As.reverse ++ st) (hW : (st.map fun v => v.category).sum ≤ 8) (d : decode cc pc = .ok (.invokestatic index, 3)) (k : jW C (pc + 3) lv st out.1 out.2.1) : jW C pc lv st0 M L := by
  intro H lc ls hP hD hS hl
  have hF := j_F C hD hS
  refine va_callv (va_runS (As := As) (rest := st) ⟨C.1, C.2.1, C.2.2.1, C.2.2.2.1, C.2.2.2.2.1⟩ (hM H.size) ⟨callB_of n C.2.2.2.2.1 (jB_in hcode) rfl hrc hrs (C.2.2.2.2.1 _ hini) (C.2.2.2.2.1 _ hlink) hd hR, C.2.2.2.2.1 _ hstat⟩ ⟨j_blind C.2.2.2.2.2.2.2.1 As H.size, j_start C hP hD hS As⟩ rfl hn hl.1 hst (lv_room hW) d ⟨C.2.2.2.2.2.2.2.2.2.1, C.2.2.2.2.2.2.2.2.2.2⟩) hS (fun q _ h => hF q h) hF (fun u t H1 l1 ht hvm hp hB hz1 hk1 hS1 => ?_)
  obtain ⟨hP1, hK1, hD1⟩ := hB
  subst hp
  exact k H1 l1 ls (by rw [← ht]; exact hP1) (hD1.weaken (fun _ q _ h => hF q.1 h)) hS1 hl
theorem j_callTi {y : MethodName} {bytes : ByteArray} {maxL n index : Nat} {ret : Option FieldType} {rm : Room} {st0 : List Value} (As : List Value) {out : jM × jL × Int32} (hM : jMi l D tys w Z y (Cond.code y bytes maxL ret :: jB) rm As M L out) {host : String} (hcode : Cond.code y bytes maxL ret ∈ jB) (hini : Cond.initialized y.cls ∈ jB) (hlink : Cond.methodLinkNest own index y host ∈ jNB) (hstat : Cond.static y ∈ jB) (hd : y.cls ≠ "java/lang/invoke/MethodHandle" ∧ y.cls ≠ "java/lang/invoke/VarHandle" ∧ (parseMethodDescriptor y.desc).map (fun d => d.parameters.length) = some n) (hR : rm.frames + 1 ≤ R.frames ∧ 8 + (maxL + 11) + rm.locals ≤ R.locals) (hrc : rm.cells = 0) (hrs : rm.slots = 0) (hn : As.length = n) (hst : st0 = As.reverse ++ st) (hW : (st.map fun v => v.category).sum ≤ 8) (d : decode cc pc = .ok (.invokestatic index, 3)) (k : jW C (pc + 3) lv (.int out.2.2 :: st) out.1 out.2.1) : jW C pc lv st0 M L := by
  intro H lc ls hP hD hS hl
  have hF := j_F C hD hS
  refine va_calli (va_runSN (As := As) (rest := st) ⟨C.1, C.2.1, C.2.2.1, C.2.2.2.1, C.2.2.2.2.1⟩ (hM H.size) ⟨va_cnB n C.2.2.2.2.1 (jB_in hcode) rfl hrc hrs (C.2.2.2.2.2.2.2.1.1 _ _ _ C.2.2.2.2.2.2.2.2.1 _ hlink) (C.2.2.2.2.1 _ hini) hd hR, C.2.2.2.2.1 _ hstat, trivial⟩ ⟨j_blind C.2.2.2.2.2.2.2.1 As H.size, j_start C hP hD hS As⟩ rfl hn hl.1 hst (lv_room hW) d ⟨C.2.2.2.2.2.2.2.2.2.1, C.2.2.2.2.2.2.2.2.2.2⟩) hS (fun q _ h => hF q h) hF (fun r u t H1 l1 ht hvm hp hB hz1 hk1 hS1 => ?_)
  obtain ⟨hP1, hK1, hD1⟩ := hB
  subst hp
  exact k H1 l1 ls (by rw [← ht]; exact hP1) (hD1.weaken (fun _ q _ h => hF q.1 h)) hS1 hl
theorem j_callTl {y : MethodName} {bytes : ByteArray} {maxL n index : Nat} {ret : Option FieldType} {rm : Room} {st0 : List Value} (As : List Value) {out : jM × jL × Int64} (hM : jMl l D tys w Z y (Cond.code y bytes maxL ret :: jB) rm As M L out) {host : String} (hcode : Cond.code y bytes maxL ret ∈ jB) (hini : Cond.initialized y.cls ∈ jB) (hlink : Cond.methodLinkNest own index y host ∈ jNB) (hstat : Cond.static y ∈ jB) (hd : y.cls ≠ "java/lang/invoke/MethodHandle" ∧ y.cls ≠ "java/lang/invoke/VarHandle" ∧ (parseMethodDescriptor y.desc).map (fun d => d.parameters.length) = some n) (hR : rm.frames + 1 ≤ R.frames ∧ 8 + (maxL + 11) + rm.locals ≤ R.locals) (hrc : rm.cells = 0) (hrs : rm.slots = 0) (hn : As.length = n) (hst : st0 = As.reverse ++ st) (hW : (st.map fun v => v.category).sum ≤ 8) (d : decode cc pc = .ok (.invokestatic index, 3)) (k : jW C (pc + 3) lv (.long out.2.2 :: st) out.1 out.2.1) : jW C pc lv st0 M L := by
  intro H lc ls hP hD hS hl
  have hF := j_F C hD hS
  refine va_calll (va_runSN (As := As) (rest := st) ⟨C.1, C.2.1, C.2.2.1, C.2.2.2.1, C.2.2.2.2.1⟩ (hM H.size) ⟨va_cnB n C.2.2.2.2.1 (jB_in hcode) rfl hrc hrs (C.2.2.2.2.2.2.2.1.1 _ _ _ C.2.2.2.2.2.2.2.2.1 _ hlink) (C.2.2.2.2.1 _ hini) hd hR, C.2.2.2.2.1 _ hstat, trivial⟩ ⟨j_blind C.2.2.2.2.2.2.2.1 As H.size, j_start C hP hD hS As⟩ rfl hn hl.1 hst (lv_room hW) d ⟨C.2.2.2.2.2.2.2.2.2.1, C.2.2.2.2.2.2.2.2.2.2⟩) hS (fun q _ h => hF q h) hF (fun r u t H1 l1 ht hvm hp hB hz1 hk1 hS1 => ?_)
  obtain ⟨hP1, hK1, hD1⟩ := hB
  subst hp
  exact k H1 l1 ls (by rw [← ht]; exact hP1) (hD1.weaken (fun _ q _ h => hF q.1 h)) hS1 hl
theorem j_callTv {y : MethodName} {bytes : ByteArray} {maxL n index : Nat} {ret : Option FieldType} {rm : Room} {st0 : List Value} (As : List Value) {out : jM × jL × Int32} (hM : jMv l D tys w Z y (Cond.code y bytes maxL ret :: jB) rm As M L out) {host : String} (hcode : Cond.code y bytes maxL ret ∈ jB) (hini : Cond.initialized y.cls ∈ jB) (hlink : Cond.methodLinkNest own index y host ∈ jNB) (hstat : Cond.static y ∈ jB) (hd : y.cls ≠ "java/lang/invoke/MethodHandle" ∧ y.cls ≠ "java/lang/invoke/VarHandle" ∧ (parseMethodDescriptor y.desc).map (fun d => d.parameters.length) = some n) (hR : rm.frames + 1 ≤ R.frames ∧ 8 + (maxL + 11) + rm.locals ≤ R.locals) (hrc : rm.cells = 0) (hrs : rm.slots = 0) (hn : As.length = n) (hst : st0 = As.reverse ++ st) (hW : (st.map fun v => v.category).sum ≤ 8) (d : decode cc pc = .ok (.invokestatic index, 3)) (k : jW C (pc + 3) lv st out.1 out.2.1) : jW C pc lv st0 M L := by
  intro H lc ls hP hD hS hl
  have hF := j_F C hD hS
  refine va_callv (va_runSN (As := As) (rest := st) ⟨C.1, C.2.1, C.2.2.1, C.2.2.2.1, C.2.2.2.2.1⟩ (hM H.size) ⟨va_cnB n C.2.2.2.2.1 (jB_in hcode) rfl hrc hrs (C.2.2.2.2.2.2.2.1.1 _ _ _ C.2.2.2.2.2.2.2.2.1 _ hlink) (C.2.2.2.2.1 _ hini) hd hR, C.2.2.2.2.1 _ hstat, trivial⟩ ⟨j_blind C.2.2.2.2.2.2.2.1 As H.size, j_start C hP hD hS As⟩ rfl hn hl.1 hst (lv_room hW) d ⟨C.2.2.2.2.2.2.2.2.2.1, C.2.2.2.2.2.2.2.2.2.2⟩) hS (fun q _ h => hF q h) hF (fun u t H1 l1 ht hvm hp hB hz1 hk1 hS1 => ?_)
  obtain ⟨hP1, hK1, hD1⟩ := hB
  subst hp
  exact k H1 l1 ls (by rw [← ht]; exact hP1) (hD1.weaken (fun _ q _ h => hF q.1 h)) hS1 hl
end JR
theorem jMi_of {l : Launch} {D : va_G} {tys : List (ClassId × FieldType)} {w : jM → jL → va_W} {Z : jZt} {y : MethodName} {rm : Room} {av : List Value} {M : jM} {L : jL} {out : jM × jL × Int32} {cc : ByteArray} {nL : Nat} {ty : FieldType} {lv : List (Nat × Value)} {own : String} (hZ : jZl Z) (hy : plainName y.cls = true) (ho : y.cls = own) (hlen : (lg_sl av).length ≤ nL) (hlv : lv_args 0 av = lv)
    (body : ∀ {p : Program} {e : Env} {s : State} {m : MethodId} {args : Array Value} {below : List Frame} {meth : Method} {c : Code} {Q : State → Prop} {A0 : Nat → Prop} (C : jCtx p l e rm s m args below meth c 0 0 Q D tys w Z A0 cc nL own), jEi C ty out → jW C 0 lv [] M L) : jMi l D tys w Z y (Cond.code y cc nL (some ty) :: jB) rm av M L out := by
  intro sz
  refine Met.ofW (cc := cc) (maxL := nL) (ret := some ty) hy rfl ?_
  intro p e s m args below meth c s₁ B hml hv
  obtain ⟨rfl, hsz, hP, hK, hD0, hz⟩ := hv
  subst hsz
  have hD := hD0.self (sz := s.heap.size)
  have hl := lv_entry av (n := nL) hlen
  rw [lg_entry_eq]
  generalize (lg_sl av ++ List.replicate (nL - (lg_sl av).length) Slot.unset).toArray = ls at hl ⊢
  rw [hlv] at hl
  have C : jCtx p l e rm s m av.toArray below meth c 0 0 (MQ below (va_Qi (fun r (u : jM × jL) => (u.1, u.2, r) = out) (fun u t => va_P D vwCl (w u.1 u.2) t.heap ∧ va_K D vwCl tys t ∧ va_D (va_A (w M L) s.heap.size) (w u.1 u.2)) (va_A (w M L) s.heap.size)) av.toArray s 0 0 (va_A (w M L) s.heap.size)) D tys w Z (va_A (w M L) s.heap.size) cc nL own :=
    ⟨B.exec, B.bytes, hml, (by rw [← ho]; exact findClass_of_methodNamed B.named), (fun z hz9 => atoms_spec (ws := Cond.code y cc nL (some ty) :: jB) B.pre z (List.mem_cons_of_mem _ hz9)), hK, fun q h => Or.inr h, hZ, hz, Nat.zero_le _, Nat.zero_le _⟩
  refine body C ?_ s.heap [] ls hP hD va_S.rf hl
  intro pc lv1 M1 L1 r d hn ho1 H1 lc ls1 hP1 hD1 hS1 hl1
  exact W.zret B.exec B.bytes B.returns hn (fun t ht hW => ⟨⟨r, (M1, L1), rfl, ho1, by rw [ht]; exact hP1, va_K.moved hW.alike hK, hD1⟩, hS1.F ht⟩) hS1.2.2 d B.notSynchronized
theorem jMl_of {l : Launch} {D : va_G} {tys : List (ClassId × FieldType)} {w : jM → jL → va_W} {Z : jZt} {y : MethodName} {rm : Room} {av : List Value} {M : jM} {L : jL} {out : jM × jL × Int64} {cc : ByteArray} {nL : Nat} {lv : List (Nat × Value)} {own : String} (hZ : jZl Z) (hy : plainName y.cls = true) (ho : y.cls = own) (hlen : (lg_sl av).length ≤ nL) (hlv : lv_args 0 av = lv)
    (body : ∀ {p : Program} {e : Env} {s : State} {m : MethodId} {args : Array Value} {below : List Frame} {meth : Method} {c : Code} {Q : State → Prop} {A0 : Nat → Prop} (C : jCtx p l e rm s m args below meth c 0 0 Q D tys w Z A0 cc nL own), jEl C out → jW C 0 lv [] M L) : jMl l D tys w Z y (Cond.code y cc nL (some .long) :: jB) rm av M L out := by
  intro sz
  refine Met.ofW (cc := cc) (maxL := nL) (ret := some .long) hy rfl ?_
  intro p e s m args below meth c s₁ B hml hv
  obtain ⟨rfl, hsz, hP, hK, hD0, hz⟩ := hv
  subst hsz
  have hD := hD0.self (sz := s.heap.size)
  have hl := lv_entry av (n := nL) hlen
  rw [lg_entry_eq]
  generalize (lg_sl av ++ List.replicate (nL - (lg_sl av).length) Slot.unset).toArray = ls at hl ⊢
  rw [hlv] at hl
  have C : jCtx p l e rm s m av.toArray below meth c 0 0 (MQ below (va_Ql (fun r (u : jM × jL) => (u.1, u.2, r) = out) (fun u t => va_P D vwCl (w u.1 u.2) t.heap ∧ va_K D vwCl tys t ∧ va_D (va_A (w M L) s.heap.size) (w u.1 u.2)) (va_A (w M L) s.heap.size)) av.toArray s 0 0 (va_A (w M L) s.heap.size)) D tys w Z (va_A (w M L) s.heap.size) cc nL own :=
    ⟨B.exec, B.bytes, hml, (by rw [← ho]; exact findClass_of_methodNamed B.named), (fun z hz9 => atoms_spec (ws := Cond.code y cc nL (some .long) :: jB) B.pre z (List.mem_cons_of_mem _ hz9)), hK, fun q h => Or.inr h, hZ, hz, Nat.zero_le _, Nat.zero_le _⟩
  refine body C ?_ s.heap [] ls hP hD va_S.rf hl
  intro pc lv1 M1 L1 r d ho1 H1 lc ls1 hP1 hD1 hS1 hl1
  exact W.lret B.exec B.bytes B.returns (fun t ht hW => ⟨⟨r, (M1, L1), rfl, ho1, by rw [ht]; exact hP1, va_K.moved hW.alike hK, hD1⟩, hS1.F ht⟩) hS1.2.2 d B.notSynchronized
theorem jMv_of {l : Launch} {D : va_G} {tys : List (ClassId × FieldType)} {w : jM → jL → va_W} {Z : jZt} {y : MethodName} {rm : Room} {av : List Value} {M : jM} {L : jL} {out : jM × jL × Int32} {cc : ByteArray} {nL : Nat} {lv : List (Nat × Value)} {own : String} (hZ : jZl Z) (hy : plainName y.cls = true) (ho : y.cls = own) (hlen : (lg_sl av).length ≤ nL) (hlv : lv_args 0 av = lv)
    (body : ∀ {p : Program} {e : Env} {s : State} {m : MethodId} {args : Array Value} {below : List Frame} {meth : Method} {c : Code} {Q : State → Prop} {A0 : Nat → Prop} (C : jCtx p l e rm s m args below meth c 0 0 Q D tys w Z A0 cc nL own), jEv C out → jW C 0 lv [] M L) : jMv l D tys w Z y (Cond.code y cc nL none :: jB) rm av M L out := by
  intro sz
  refine Met.ofW (cc := cc) (maxL := nL) (ret := none) hy rfl ?_
  intro p e s m args below meth c s₁ B hml hv
  obtain ⟨rfl, hsz, hP, hK, hD0, hz⟩ := hv
  subst hsz
  have hD := hD0.self (sz := s.heap.size)
  have hl := lv_entry av (n := nL) hlen
  rw [lg_entry_eq]
  generalize (lg_sl av ++ List.replicate (nL - (lg_sl av).length) Slot.unset).toArray = ls at hl ⊢
  rw [hlv] at hl
  have C : jCtx p l e rm s m av.toArray below meth c 0 0 (MQ below (va_Qv (fun (u : jM × jL) => (u.1, u.2, (0 : Int32)) = out) (fun u t => va_P D vwCl (w u.1 u.2) t.heap ∧ va_K D vwCl tys t ∧ va_D (va_A (w M L) s.heap.size) (w u.1 u.2)) (va_A (w M L) s.heap.size)) av.toArray s 0 0 (va_A (w M L) s.heap.size)) D tys w Z (va_A (w M L) s.heap.size) cc nL own :=
    ⟨B.exec, B.bytes, hml, (by rw [← ho]; exact findClass_of_methodNamed B.named), (fun z hz9 => atoms_spec (ws := Cond.code y cc nL none :: jB) B.pre z (List.mem_cons_of_mem _ hz9)), hK, fun q h => Or.inr h, hZ, hz, Nat.zero_le _, Nat.zero_le _⟩
  refine body C ?_ s.heap [] ls hP hD va_S.rf hl
  intro pc lv1 M1 L1 d ho1 H1 lc ls1 hP1 hD1 hS1 hl1
  exact W.vret B.exec B.bytes B.returns (fun t ht hW => ⟨⟨(M1, L1), rfl, ho1, by rw [ht]; exact hP1, va_K.moved hW.alike hK, hD1⟩, hS1.F ht⟩) hS1.2.2 d B.notSynchronized
end
section
def cwt (G : jG) : List (ClassId × FieldType) := [(G.2 2, .char), (G.2 3, .int), (G.2 4, .int), (G.2 5, .int), (G.2 6, .int)]
def cw (G : jG) (M : jM) (L : jL) : va_W := [(G.1 1, .inr (1, [.ref (G.1 2), .ref (G.1 3), .ref (G.1 4), .ref (G.1 5), .ref (G.1 6), .int (M 1 5), .int (M 1 6)])), (G.1 2, .inl (G.2 2, 256, .inl (M 2))), (G.1 3, .inl (G.2 3, 256, .inl (M 3))), (G.1 4, .inl (G.2 4, 256, .inl (M 4))), (G.1 5, .inl (G.2 5, 256, .inl (M 5))), (G.1 6, .inl (G.2 6, 4, .inl (M 6)))]
theorem cw_g1 (G : jG) (M : jM) (L : jL) : (cw G M L)[0]? = some (G.1 1, .inr (1, [.ref (G.1 2), .ref (G.1 3), .ref (G.1 4), .ref (G.1 5), .ref (G.1 6), .int (M 1 5), .int (M 1 6)])) := rfl
theorem cw_f1_5 (G : jG) (M : jM) (L : jL) (x : Int32) : (cw G M L).set 0 (G.1 1, .inr (1, List.set [.ref (G.1 2), .ref (G.1 3), .ref (G.1 4), .ref (G.1 5), .ref (G.1 6), .int (M 1 5), .int (M 1 6)] 5 (.int x))) = cw G (jP M 1 5 x) L := rfl
theorem cw_f1_6 (G : jG) (M : jM) (L : jL) (x : Int32) : (cw G M L).set 0 (G.1 1, .inr (1, List.set [.ref (G.1 2), .ref (G.1 3), .ref (G.1 4), .ref (G.1 5), .ref (G.1 6), .int (M 1 5), .int (M 1 6)] 6 (.int x))) = cw G (jP M 1 6 x) L := rfl
theorem cw_g2 (G : jG) (M : jM) (L : jL) : (cw G M L)[1]? = some (G.1 2, .inl (G.2 2, 256, .inl (M 2))) := rfl
theorem cw_s2 (G : jG) (M : jM) (L : jL) (i : Nat) (x : Int32) : (cw G M L).set 1 (G.1 2, .inl (G.2 2, 256, .inl (upd (M 2) i x))) = cw G (jP M 2 i x) L := rfl
theorem cw_g3 (G : jG) (M : jM) (L : jL) : (cw G M L)[2]? = some (G.1 3, .inl (G.2 3, 256, .inl (M 3))) := rfl
theorem cw_s3 (G : jG) (M : jM) (L : jL) (i : Nat) (x : Int32) : (cw G M L).set 2 (G.1 3, .inl (G.2 3, 256, .inl (upd (M 3) i x))) = cw G (jP M 3 i x) L := rfl
theorem cw_g4 (G : jG) (M : jM) (L : jL) : (cw G M L)[3]? = some (G.1 4, .inl (G.2 4, 256, .inl (M 4))) := rfl
theorem cw_s4 (G : jG) (M : jM) (L : jL) (i : Nat) (x : Int32) : (cw G M L).set 3 (G.1 4, .inl (G.2 4, 256, .inl (upd (M 4) i x))) = cw G (jP M 4 i x) L := rfl
theorem cw_g5 (G : jG) (M : jM) (L : jL) : (cw G M L)[4]? = some (G.1 5, .inl (G.2 5, 256, .inl (M 5))) := rfl
theorem cw_s5 (G : jG) (M : jM) (L : jL) (i : Nat) (x : Int32) : (cw G M L).set 4 (G.1 5, .inl (G.2 5, 256, .inl (upd (M 5) i x))) = cw G (jP M 5 i x) L := rfl
theorem cw_g6 (G : jG) (M : jM) (L : jL) : (cw G M L)[5]? = some (G.1 6, .inl (G.2 6, 4, .inl (M 6))) := rfl
theorem cw_s6 (G : jG) (M : jM) (L : jL) (i : Nat) (x : Int32) : (cw G M L).set 5 (G.1 6, .inl (G.2 6, 4, .inl (upd (M 6) i x))) = cw G (jP M 6 i x) L := rfl
end
section
abbrev rmcArrays_fill : Room := { frames := 0, cells := 0, slots := 0, locals := 0 }
def cArrays_fill_b5  : Nat → jM → jL → Int32 → Int32 → Int32 → Option (jM × jL × Int32)
  | 0, _, _, _, _, _ => none
  | n + 1, M, L, v1, v2, v3 =>
    if v3 ≤ v2 then (some (M, L, 0)) else (jgI v2 4 (cArrays_fill_b5 n (jP M 6 v2.toNatClampNeg v1) L v1 (v2 + 1) v3))
def cArrays_fill (M : jM) (L : jL) (a1 : Int32) : Option (jM × jL × Int32) :=
  cArrays_fill_b5 jFuel M L a1 0 4
section
variable {p : Program} {l : Launch} {e : Env} {s : State} {m : MethodId} {args : Array Value} {below : List Frame} {meth : Method} {c : Code} {Q : State → Prop} {D : va_G} {Z : jZt} {A0 : Nat → Prop} {G : jG}
set_option maxHeartbeats 4000000 in
set_option maxRecDepth 100000 in
theorem cArrays_fill_b5w {out : jM × jL × Int32} (C : jCtx p l e rmcArrays_fill s m args below meth c 0 0 Q D (cwt G) (cw G) Z A0 prog_23_method_103_code 4 "java/util/Arrays") (hE : jEv C out)  : ∀ (n : Nat) (M : jM) (L : jL) (v1 : Int32) (v2 : Int32) (v3 : Int32), cArrays_fill_b5  n M L v1 v2 v3 = some out → jW C 5 [(0, .ref (G.1 6)), (1, .int v1), (2, .int v2), (3, .int v3)] [] M L := by
  intro n
  induction n with
  | zero => intro M L v1 v2 v3 hf; exact j_no hf
  | succ n ih =>
    intro M L v1 v2 v3 hf
    rw [cArrays_fill_b5] at hf
    refine j_iload_n (pc := 5) (i := 2) (x := v2) C d_Arrays_fill_5 rfl 2 rfl ?_
    refine j_iload_n (pc := 6) (i := 3) (x := v3) C d_Arrays_fill_6 rfl 3 rfl ?_
    refine j_icmp_ge (pc := 7) C 20 d_Arrays_fill_7 rfl (fun h => ?_) (fun h => ?_)
    · have hf := jt h hf
      exact hE _ _ _ _ d_Arrays_fill_20 (Option.some.inj hf)
    · have hf := jf h hf
      refine j_aload_n (pc := 10) (i := 0) (x := G.1 6) C d_Arrays_fill_10 rfl 0 rfl ?_
      refine j_iload_n (pc := 11) (i := 2) (x := v2) C d_Arrays_fill_11 rfl 2 rfl ?_
      refine j_iload_n (pc := 12) (i := 1) (x := v1) C d_Arrays_fill_12 rfl 1 rfl ?_
      obtain ⟨h1, hf⟩ := jgI_s hf
      refine j_iast (pc := 13) C 5 4 (cw_g6 _ _ _) rfl h1 d_Arrays_fill_13 (cw_s6 _ _ _ _ _) ?_
      refine j_iinc (pc := 14) (i := 2) (q := 2) (v := (v2 + 1)) (lv' := [(2, .int (v2 + 1)), (0, .ref (G.1 6)), (1, .int v1), (3, .int v3)]) C d_Arrays_fill_14 rfl rfl (by decide) rfl ?_
      refine j_goto (pc := 17) C 5 d_Arrays_fill_17 rfl ?_
      refine j_sub (lv' := [(0, .ref (G.1 6)), (1, .int v1), (2, .int (v2 + 1)), (3, .int v3)]) C [1, 2, 0, 3] rfl ?_
      exact ih _ _ _ _ _ hf
set_option maxHeartbeats 4000000 in
set_option maxRecDepth 100000 in
theorem cArrays_fill_w {out : jM × jL × Int32} (C : jCtx p l e rmcArrays_fill s m args below meth c 0 0 Q D (cwt G) (cw G) Z A0 prog_23_method_103_code 4 "java/util/Arrays") (hE : jEv C out) {M : jM} {L : jL} {a1 : Int32} (hf : cArrays_fill M L a1 = some out) : jW C 0 [(0, .ref (G.1 6)), (1, .int a1)] [] M L := by
  unfold cArrays_fill at hf
  refine j_iconst (pc := 0) (v := 0) C d_Arrays_fill_0 rfl ?_
  refine j_istore_n (pc := 1) (i := 2) (lv' := [(2, .int 0), (0, .ref (G.1 6)), (1, .int a1)]) C d_Arrays_fill_1 rfl (by decide) rfl ?_
  refine j_aload_n (pc := 2) (i := 0) (x := G.1 6) C d_Arrays_fill_2 rfl 1 rfl ?_
  refine j_alen (pc := 3) (v := 4) C 5 4 (cw_g6 _ _ _) rfl rfl d_Arrays_fill_3 ?_
  refine j_istore_n (pc := 4) (i := 3) (lv' := [(3, .int 4), (2, .int 0), (0, .ref (G.1 6)), (1, .int a1)]) C d_Arrays_fill_4 rfl (by decide) rfl ?_
  refine j_sub (lv' := [(0, .ref (G.1 6)), (1, .int a1), (2, .int 0), (3, .int 4)]) C [2, 3, 1, 0] rfl ?_
  exact cArrays_fill_b5w C hE  _ _ _ _ _ _ hf
end
theorem cArrays_fill_c {l : Launch} {D : va_G} {Z : jZt} {G : jG} (hZ : jZl Z) {M : jM} {L : jL} {a1 : Int32} {out : jM × jL × Int32} (hf : cArrays_fill M L a1 = some out) : jMv l D (cwt G) (cw G) Z y_Arrays_fill (Cond.code y_Arrays_fill prog_23_method_103_code 4 none :: jB) rmcArrays_fill [.ref (G.1 6), .int a1] M L out :=
  jMv_of hZ (by decide) rfl (Nat.le_of_ble_eq_true rfl) rfl (fun C hE => cArrays_fill_w C hE hf)
abbrev rmcMarbleBoard_spotOf : Room := { frames := 0, cells := 0, slots := 0, locals := 0 }
def cMarbleBoard_spotOf (M : jM) (L : jL) (a0 : Int32) (a1 : Int32) : Option (jM × jL × Int32) :=
  some (M, L, ((16 * a1) + a0))
section
variable {p : Program} {l : Launch} {e : Env} {s : State} {m : MethodId} {args : Array Value} {below : List Frame} {meth : Method} {c : Code} {Q : State → Prop} {D : va_G} {Z : jZt} {A0 : Nat → Prop} {G : jG}
set_option maxHeartbeats 4000000 in
set_option maxRecDepth 100000 in
theorem cMarbleBoard_spotOf_w {out : jM × jL × Int32} (C : jCtx p l e rmcMarbleBoard_spotOf s m args below meth c 0 0 Q D (cwt G) (cw G) Z A0 prog_1_method_31_code 2 "MarbleBoard") (hE : jEi C .int out) {M : jM} {L : jL} {a0 : Int32} {a1 : Int32} (hf : cMarbleBoard_spotOf M L a0 a1 = some out) : jW C 0 [(0, .int a0), (1, .int a1)] [] M L := by
  unfold cMarbleBoard_spotOf at hf
  refine j_bipush (pc := 0) (v := 16) C d_MarbleBoard_spotOf_0 rfl ?_
  refine j_iload_n (pc := 2) (i := 1) (x := a1) C d_MarbleBoard_spotOf_2 rfl 1 rfl ?_
  refine j_imul (pc := 3) C d_MarbleBoard_spotOf_3 ?_
  refine j_iload_n (pc := 4) (i := 0) (x := a0) C d_MarbleBoard_spotOf_4 rfl 0 rfl ?_
  refine j_iadd (pc := 5) C d_MarbleBoard_spotOf_5 ?_
  exact hE _ _ _ _ _ d_MarbleBoard_spotOf_6 rfl (Option.some.inj hf)
end
theorem cMarbleBoard_spotOf_c {l : Launch} {D : va_G} {Z : jZt} {G : jG} (hZ : jZl Z) {M : jM} {L : jL} {a0 : Int32} {a1 : Int32} {out : jM × jL × Int32} (hf : cMarbleBoard_spotOf M L a0 a1 = some out) : jMi l D (cwt G) (cw G) Z y_MarbleBoard_spotOf (Cond.code y_MarbleBoard_spotOf prog_1_method_31_code 2 (some .int) :: jB) rmcMarbleBoard_spotOf [.int a0, .int a1] M L out :=
  jMi_of hZ (by decide) rfl (Nat.le_of_ble_eq_true rfl) rfl (fun C hE => cMarbleBoard_spotOf_w C hE hf)
abbrev rmcCells_kindOf : Room := { frames := 0, cells := 0, slots := 0, locals := 0 }
def cCells_kindOf (M : jM) (L : jL) (a0 : Int32) : Option (jM × jL × Int32) :=
  if a0 = 49 then (some (M, L, 48)) else (if a0 = 50 then (some (M, L, 48)) else (if a0 = 51 then (some (M, L, 48)) else (if a0 = 62 then (some (M, L, 60)) else (if a0 = 93 then (some (M, L, 91)) else (jgC a0 (some (M, L, a0)))))))
section
variable {p : Program} {l : Launch} {e : Env} {s : State} {m : MethodId} {args : Array Value} {below : List Frame} {meth : Method} {c : Code} {Q : State → Prop} {D : va_G} {Z : jZt} {A0 : Nat → Prop} {G : jG}
set_option maxHeartbeats 4000000 in
set_option maxRecDepth 100000 in
theorem cCells_kindOf_w {out : jM × jL × Int32} (C : jCtx p l e rmcCells_kindOf s m args below meth c 0 0 Q D (cwt G) (cw G) Z A0 prog_2_method_8_code 1 "MarbleBoard$Cells") (hE : jEi C .char out) {M : jM} {L : jL} {a0 : Int32} (hf : cCells_kindOf M L a0 = some out) : jW C 0 [(0, .int a0)] [] M L := by
  unfold cCells_kindOf at hf
  refine j_iload_n (pc := 0) (i := 0) (x := a0) C d_Cells_kindOf_0 rfl 0 rfl ?_
  by_cases h49 : a0 = 49
  · have hf := jt h49 hf
    refine j_lookup (pc := 1) C 58 d_Cells_kindOf_1 rfl (by rw [h49]; try rfl) rfl ?_
    refine j_bipush (pc := 58) (v := 48) C d_Cells_kindOf_58 rfl ?_
    exact hE _ _ _ _ _ d_Cells_kindOf_60 rfl (Option.some.inj hf)
  · have hf := jf h49 hf
    by_cases h50 : a0 = 50
    · have hf := jt h50 hf
      refine j_lookup (pc := 1) C 58 d_Cells_kindOf_1 rfl ((lv_osw h49 rfl).trans (by rw [h50]; try rfl)) rfl ?_
      refine j_bipush (pc := 58) (v := 48) C d_Cells_kindOf_58 rfl ?_
      exact hE _ _ _ _ _ d_Cells_kindOf_60 rfl (Option.some.inj hf)
    · have hf := jf h50 hf
      by_cases h51 : a0 = 51
      · have hf := jt h51 hf
        refine j_lookup (pc := 1) C 58 d_Cells_kindOf_1 rfl ((lv_osw h49 rfl).trans ((lv_osw h50 rfl).trans (by rw [h51]; try rfl))) rfl ?_
        refine j_bipush (pc := 58) (v := 48) C d_Cells_kindOf_58 rfl ?_
        exact hE _ _ _ _ _ d_Cells_kindOf_60 rfl (Option.some.inj hf)
      · have hf := jf h51 hf
        by_cases h62 : a0 = 62
        · have hf := jt h62 hf
          refine j_lookup (pc := 1) C 52 d_Cells_kindOf_1 rfl ((lv_osw h49 rfl).trans ((lv_osw h50 rfl).trans ((lv_osw h51 rfl).trans (by rw [h62]; try rfl)))) rfl ?_
          refine j_bipush (pc := 52) (v := 60) C d_Cells_kindOf_52 rfl ?_
          exact hE _ _ _ _ _ d_Cells_kindOf_54 rfl (Option.some.inj hf)
        · have hf := jf h62 hf
          by_cases h93 : a0 = 93
          · have hf := jt h93 hf
            refine j_lookup (pc := 1) C 55 d_Cells_kindOf_1 rfl ((lv_osw h49 rfl).trans ((lv_osw h50 rfl).trans ((lv_osw h51 rfl).trans ((lv_osw h62 rfl).trans (by rw [h93]; try rfl))))) rfl ?_
            refine j_bipush (pc := 55) (v := 91) C d_Cells_kindOf_55 rfl ?_
            exact hE _ _ _ _ _ d_Cells_kindOf_57 rfl (Option.some.inj hf)
          · have hf := jf h93 hf
            refine j_lookup (pc := 1) C 61 d_Cells_kindOf_1 rfl ((lv_osw h49 rfl).trans ((lv_osw h50 rfl).trans ((lv_osw h51 rfl).trans ((lv_osw h62 rfl).trans ((lv_osw h93 rfl).trans rfl))))) rfl ?_
            refine j_iload_n (pc := 61) (i := 0) (x := a0) C d_Cells_kindOf_61 rfl 0 rfl ?_
            obtain ⟨hn, hf⟩ := jgC_s hf
            exact hE _ _ _ _ _ d_Cells_kindOf_62 hn (Option.some.inj hf)
end
theorem cCells_kindOf_c {l : Launch} {D : va_G} {Z : jZt} {G : jG} (hZ : jZl Z) {M : jM} {L : jL} {a0 : Int32} {out : jM × jL × Int32} (hf : cCells_kindOf M L a0 = some out) : jMi l D (cwt G) (cw G) Z y_Cells_kindOf (Cond.code y_Cells_kindOf prog_2_method_8_code 1 (some .char) :: jB) rmcCells_kindOf [.int a0] M L out :=
  jMi_of hZ (by decide) rfl (Nat.le_of_ble_eq_true rfl) rfl (fun C hE => cCells_kindOf_w C hE hf)
abbrev rmcCells_firstValue : Room := { frames := 0, cells := 0, slots := 0, locals := 0 }
def cCells_firstValue_b17  (M : jM) (L : jL) (v0 : Int32) : Option (jM × jL × Int32) :=
  if v0 = 62 then (some (M, L, 1)) else (if v0 = 93 then (some (M, L, 1)) else (some (M, L, 0)))
def cCells_firstValue (M : jM) (L : jL) (a0 : Int32) : Option (jM × jL × Int32) :=
  if a0 < 48 then (cCells_firstValue_b17 M L a0) else (if 51 < a0 then (cCells_firstValue_b17 M L a0) else (some (M, L, (a0 - 48))))
section
variable {p : Program} {l : Launch} {e : Env} {s : State} {m : MethodId} {args : Array Value} {below : List Frame} {meth : Method} {c : Code} {Q : State → Prop} {D : va_G} {Z : jZt} {A0 : Nat → Prop} {G : jG}
set_option maxHeartbeats 4000000 in
set_option maxRecDepth 100000 in
theorem cCells_firstValue_b17w {out : jM × jL × Int32} (C : jCtx p l e rmcCells_firstValue s m args below meth c 0 0 Q D (cwt G) (cw G) Z A0 prog_2_method_9_code 1 "MarbleBoard$Cells") (hE : jEi C .int out)  (M : jM) (L : jL) (v0 : Int32) (hf : cCells_firstValue_b17  M L v0 = some out) : jW C 17 [(0, .int v0)] [] M L := by
  unfold cCells_firstValue_b17 at hf
  refine j_iload_n (pc := 17) (i := 0) (x := v0) C d_Cells_firstValue_17 rfl 0 rfl ?_
  refine j_bipush (pc := 18) (v := 62) C d_Cells_firstValue_18 rfl ?_
  refine j_icmp_eq (pc := 20) C 29 d_Cells_firstValue_20 rfl (fun h => ?_) (fun h => ?_)
  · have hf := jt h hf
    refine j_iconst (pc := 29) (v := 1) C d_Cells_firstValue_29 rfl ?_
    refine j_goto (pc := 30) C 34 d_Cells_firstValue_30 rfl ?_
    exact hE _ _ _ _ _ d_Cells_firstValue_34 rfl (Option.some.inj hf)
  · have hf := jf h hf
    refine j_iload_n (pc := 23) (i := 0) (x := v0) C d_Cells_firstValue_23 rfl 0 rfl ?_
    refine j_bipush (pc := 24) (v := 93) C d_Cells_firstValue_24 rfl ?_
    refine j_icmp_ne (pc := 26) C 33 d_Cells_firstValue_26 rfl (fun h => ?_) (fun h => ?_)
    · have hf := jf h hf
      refine j_iconst (pc := 33) (v := 0) C d_Cells_firstValue_33 rfl ?_
      exact hE _ _ _ _ _ d_Cells_firstValue_34 rfl (Option.some.inj hf)
    · have hf := jt h hf
      refine j_iconst (pc := 29) (v := 1) C d_Cells_firstValue_29 rfl ?_
      refine j_goto (pc := 30) C 34 d_Cells_firstValue_30 rfl ?_
      exact hE _ _ _ _ _ d_Cells_firstValue_34 rfl (Option.some.inj hf)
set_option maxHeartbeats 4000000 in
set_option maxRecDepth 100000 in
theorem cCells_firstValue_w {out : jM × jL × Int32} (C : jCtx p l e rmcCells_firstValue s m args below meth c 0 0 Q D (cwt G) (cw G) Z A0 prog_2_method_9_code 1 "MarbleBoard$Cells") (hE : jEi C .int out) {M : jM} {L : jL} {a0 : Int32} (hf : cCells_firstValue M L a0 = some out) : jW C 0 [(0, .int a0)] [] M L := by
  unfold cCells_firstValue at hf
  refine j_iload_n (pc := 0) (i := 0) (x := a0) C d_Cells_firstValue_0 rfl 0 rfl ?_
  refine j_bipush (pc := 1) (v := 48) C d_Cells_firstValue_1 rfl ?_
  refine j_icmp_lt (pc := 3) C 17 d_Cells_firstValue_3 rfl (fun h => ?_) (fun h => ?_)
  · have hf := jt h hf
    exact cCells_firstValue_b17w C hE  _ _ _ hf
  · have hf := jf h hf
    refine j_iload_n (pc := 6) (i := 0) (x := a0) C d_Cells_firstValue_6 rfl 0 rfl ?_
    refine j_bipush (pc := 7) (v := 51) C d_Cells_firstValue_7 rfl ?_
    refine j_icmp_gt (pc := 9) C 17 d_Cells_firstValue_9 rfl (fun h => ?_) (fun h => ?_)
    · have hf := jt h hf
      exact cCells_firstValue_b17w C hE  _ _ _ hf
    · have hf := jf h hf
      refine j_iload_n (pc := 12) (i := 0) (x := a0) C d_Cells_firstValue_12 rfl 0 rfl ?_
      refine j_bipush (pc := 13) (v := 48) C d_Cells_firstValue_13 rfl ?_
      refine j_isub (pc := 15) C d_Cells_firstValue_15 ?_
      exact hE _ _ _ _ _ d_Cells_firstValue_16 rfl (Option.some.inj hf)
end
theorem cCells_firstValue_c {l : Launch} {D : va_G} {Z : jZt} {G : jG} (hZ : jZl Z) {M : jM} {L : jL} {a0 : Int32} {out : jM × jL × Int32} (hf : cCells_firstValue M L a0 = some out) : jMi l D (cwt G) (cw G) Z y_Cells_firstValue (Cond.code y_Cells_firstValue prog_2_method_9_code 1 (some .int) :: jB) rmcCells_firstValue [.int a0] M L out :=
  jMi_of hZ (by decide) rfl (Nat.le_of_ble_eq_true rfl) rfl (fun C hE => cCells_firstValue_w C hE hf)
abbrev rmcCells_put : Room := { frames := 1, cells := 0, slots := 0, locals := 21 }
def cCells_put (M : jM) (L : jL) (a1 : Int32) (a2 : Int32) (a3 : Int32) : Option (jM × jL × Int32) :=
  (cMarbleBoard_spotOf M L a1 a2).bind (fun q3 => (cCells_kindOf q3.1 q3.2.1 a3).bind (fun q4 => jgI q3.2.2 256 ((cCells_firstValue (jP q4.1 2 q3.2.2.toNatClampNeg (vp_nar .char q4.2.2)) q4.2.1 a3).bind (fun q6 => jgI q3.2.2 256 (jgI q3.2.2 256 (jgI q3.2.2 256 (some ((jP (jP (jP q6.1 3 q3.2.2.toNatClampNeg q6.2.2) 4 q3.2.2.toNatClampNeg 2) 5 q3.2.2.toNatClampNeg 2), q6.2.1, 0))))))))
section
variable {p : Program} {l : Launch} {e : Env} {s : State} {m : MethodId} {args : Array Value} {below : List Frame} {meth : Method} {c : Code} {Q : State → Prop} {D : va_G} {Z : jZt} {A0 : Nat → Prop} {G : jG}
set_option maxHeartbeats 4000000 in
set_option maxRecDepth 100000 in
theorem cCells_put_w {out : jM × jL × Int32} (C : jCtx p l e rmcCells_put s m args below meth c 0 0 Q D (cwt G) (cw G) Z A0 prog_2_method_7_code 5 "MarbleBoard$Cells") (hE : jEv C out) {M : jM} {L : jL} {a1 : Int32} {a2 : Int32} {a3 : Int32} (hf : cCells_put M L a1 a2 a3 = some out) : jW C 0 [(0, .ref (G.1 1)), (1, .int a1), (2, .int a2), (3, .int a3)] [] M L := by
  unfold cCells_put at hf
  refine j_iload_n (pc := 0) (i := 1) (x := a1) C d_Cells_put_0 rfl 1 rfl ?_
  refine j_iload_n (pc := 1) (i := 2) (x := a2) C d_Cells_put_1 rfl 2 rfl ?_
  obtain ⟨q3, q3h, hf⟩ := jb_s hf
  refine j_callTi (pc := 2) (n := 2) (st := []) C [.int a1, .int a2] (cMarbleBoard_spotOf_c (j_zl C) q3h) b_7 b_8 bn_0 b_9 (by decide +kernel) ⟨Nat.le_of_ble_eq_true rfl, Nat.le_of_ble_eq_true rfl⟩ rfl rfl rfl rfl (Nat.le_of_ble_eq_true rfl) d_Cells_put_2 ?_
  refine j_istore (pc := 5) (i := 4) (lv' := [(4, .int q3.2.2), (0, .ref (G.1 1)), (1, .int a1), (2, .int a2), (3, .int a3)]) C d_Cells_put_5 (by decide) rfl ?_
  refine j_aload_n (pc := 7) (i := 0) (x := G.1 1) C d_Cells_put_7 rfl 1 rfl ?_
  refine j_get (pc := 8) (index := 9) C jin1 0 (cw_g1 _ _ _) rfl 0 (by decide) b_10 (fun _ h => h) rfl d_Cells_put_8 ?_
  refine j_iload (pc := 11) (i := 4) (x := q3.2.2) C d_Cells_put_11 0 rfl ?_
  refine j_iload_n (pc := 13) (i := 3) (x := a3) C d_Cells_put_13 rfl 4 rfl ?_
  obtain ⟨q4, q4h, hf⟩ := jb_s hf
  refine j_callSi (pc := 14) (n := 1) (st := [.int q3.2.2, .ref (G.1 2)]) C [.int a3] (cCells_kindOf_c (j_zl C) q4h) b_11 b_12 b_13 b_14 (by decide +kernel) ⟨Nat.le_of_ble_eq_true rfl, Nat.le_of_ble_eq_true rfl⟩ rfl rfl rfl rfl (Nat.le_of_ble_eq_true rfl) d_Cells_put_14 ?_
  obtain ⟨h5, hf⟩ := jgI_s hf
  refine j_cast (pc := 17) C 1 0 (cw_g2 _ _ _) rfl h5 d_Cells_put_17 (cw_s2 _ _ _ _ _) ?_
  refine j_aload_n (pc := 18) (i := 0) (x := G.1 1) C d_Cells_put_18 rfl 1 rfl ?_
  refine j_get (pc := 19) (index := 15) C jin1 0 (cw_g1 _ _ _) rfl 1 (by decide) b_15 (fun _ h => h) rfl d_Cells_put_19 ?_
  refine j_iload (pc := 22) (i := 4) (x := q3.2.2) C d_Cells_put_22 0 rfl ?_
  refine j_iload_n (pc := 24) (i := 3) (x := a3) C d_Cells_put_24 rfl 4 rfl ?_
  obtain ⟨q6, q6h, hf⟩ := jb_s hf
  refine j_callSi (pc := 25) (n := 1) (st := [.int q3.2.2, .ref (G.1 3)]) C [.int a3] (cCells_firstValue_c (j_zl C) q6h) b_16 b_12 b_17 b_18 (by decide +kernel) ⟨Nat.le_of_ble_eq_true rfl, Nat.le_of_ble_eq_true rfl⟩ rfl rfl rfl rfl (Nat.le_of_ble_eq_true rfl) d_Cells_put_25 ?_
  obtain ⟨h7, hf⟩ := jgI_s hf
  refine j_iast (pc := 28) C 2 1 (cw_g3 _ _ _) rfl h7 d_Cells_put_28 (cw_s3 _ _ _ _ _) ?_
  refine j_aload_n (pc := 29) (i := 0) (x := G.1 1) C d_Cells_put_29 rfl 1 rfl ?_
  refine j_get (pc := 30) (index := 19) C jin1 0 (cw_g1 _ _ _) rfl 2 (by decide) b_19 (fun _ h => h) rfl d_Cells_put_30 ?_
  refine j_iload (pc := 33) (i := 4) (x := q3.2.2) C d_Cells_put_33 0 rfl ?_
  refine j_iconst (pc := 35) (v := 2) C d_Cells_put_35 rfl ?_
  obtain ⟨h8, hf⟩ := jgI_s hf
  refine j_iast (pc := 36) C 3 2 (cw_g4 _ _ _) rfl h8 d_Cells_put_36 (cw_s4 _ _ _ _ _) ?_
  refine j_aload_n (pc := 37) (i := 0) (x := G.1 1) C d_Cells_put_37 rfl 1 rfl ?_
  refine j_get (pc := 38) (index := 22) C jin1 0 (cw_g1 _ _ _) rfl 3 (by decide) b_20 (fun _ h => h) rfl d_Cells_put_38 ?_
  refine j_iload (pc := 41) (i := 4) (x := q3.2.2) C d_Cells_put_41 0 rfl ?_
  refine j_iconst (pc := 43) (v := 2) C d_Cells_put_43 rfl ?_
  obtain ⟨h9, hf⟩ := jgI_s hf
  refine j_iast (pc := 44) C 4 3 (cw_g5 _ _ _) rfl h9 d_Cells_put_44 (cw_s5 _ _ _ _ _) ?_
  exact hE _ _ _ _ d_Cells_put_45 (Option.some.inj hf)
end
theorem cCells_put_c {l : Launch} {D : va_G} {Z : jZt} {G : jG} (hZ : jZl Z) {M : jM} {L : jL} {a1 : Int32} {a2 : Int32} {a3 : Int32} {out : jM × jL × Int32} (hf : cCells_put M L a1 a2 a3 = some out) : jMv l D (cwt G) (cw G) Z y_Cells_put (Cond.code y_Cells_put prog_2_method_7_code 5 none :: jB) rmcCells_put [.ref (G.1 1), .int a1, .int a2, .int a3] M L out :=
  jMv_of hZ (by decide) rfl (Nat.le_of_ble_eq_true rfl) rfl (fun C hE => cCells_put_w C hE hf)
abbrev rmcCells_clear : Room := { frames := 2, cells := 0, slots := 0, locals := 45 }
def cCells_clear_b49  (M : jM) (L : jL)  : Option (jM × jL × Int32) :=
  (cArrays_fill M L (-1)).bind (fun q2 => some (q2.1, q2.2.1, 0))
def cCells_clear_b43 (k12 : jM → jL → Int32 → Option (jM × jL × Int32)) (M : jM) (L : jL) (v3 : Int32) : Option (jM × jL × Int32) :=
  k12 M L (v3 + 1)
def cCells_clear_b21 (k12 : jM → jL → Int32 → Option (jM × jL × Int32)) : Nat → jM → jL → Int32 → Int32 → Option (jM × jL × Int32)
  | 0, _, _, _, _ => none
  | n + 1, M, L, v3, v4 =>
    if 16 ≤ v4 then (cCells_clear_b43 k12 M L v3) else ((cCells_put M L v4 v3 46).bind (fun q10 => cCells_clear_b21 k12 n q10.1 q10.2.1 v3 (v4 + 1)))
def cCells_clear_b12  : Nat → jM → jL → Int32 → Option (jM × jL × Int32)
  | 0, _, _, _ => none
  | n + 1, M, L, v3 =>
    if 16 ≤ v3 then (cCells_clear_b49 M L ) else (cCells_clear_b21 (cCells_clear_b12 n) jFuel M L v3 0)
def cCells_clear (M : jM) (L : jL) (a1 : Int32) (a2 : Int32) : Option (jM × jL × Int32) :=
  cCells_clear_b12 jFuel (jP (jP M 1 5 a1) 1 6 a2) L 0
section
variable {p : Program} {l : Launch} {e : Env} {s : State} {m : MethodId} {args : Array Value} {below : List Frame} {meth : Method} {c : Code} {Q : State → Prop} {D : va_G} {Z : jZt} {A0 : Nat → Prop} {G : jG}
set_option maxHeartbeats 4000000 in
set_option maxRecDepth 100000 in
theorem cCells_clear_b49w {out : jM × jL × Int32} (C : jCtx p l e rmcCells_clear s m args below meth c 0 0 Q D (cwt G) (cw G) Z A0 prog_2_method_2_code 5 "MarbleBoard$Cells") (hE : jEv C out)  (M : jM) (L : jL)  (hf : cCells_clear_b49  M L  = some out) : jW C 49 [(0, .ref (G.1 1))] [] M L := by
  unfold cCells_clear_b49 at hf
  refine j_aload_n (pc := 49) (i := 0) (x := G.1 1) C d_Cells_clear_49 rfl 0 rfl ?_
  refine j_get (pc := 50) (index := 25) C jin1 0 (cw_g1 _ _ _) rfl 4 (by decide) b_2 (fun _ h => h) rfl d_Cells_clear_50 ?_
  refine j_iconst (pc := 53) (v := (-1)) C d_Cells_clear_53 rfl ?_
  obtain ⟨q2, q2h, hf⟩ := jb_s hf
  refine j_callSv (pc := 54) (n := 2) (st := []) C [.ref (G.1 6), .int (-1)] (cArrays_fill_c (j_zl C) q2h) b_3 b_4 b_5 b_6 (by decide +kernel) ⟨Nat.le_of_ble_eq_true rfl, Nat.le_of_ble_eq_true rfl⟩ rfl rfl rfl rfl (Nat.le_of_ble_eq_true rfl) d_Cells_clear_54 ?_
  exact hE _ _ _ _ d_Cells_clear_57 (Option.some.inj hf)
set_option maxHeartbeats 4000000 in
set_option maxRecDepth 100000 in
theorem cCells_clear_b43w {out : jM × jL × Int32} (C : jCtx p l e rmcCells_clear s m args below meth c 0 0 Q D (cwt G) (cw G) Z A0 prog_2_method_2_code 5 "MarbleBoard$Cells") (hE : jEv C out) {k12 : jM → jL → Int32 → Option (jM × jL × Int32)} (hk12 : ∀ (M : jM) (L : jL) (v3 : Int32), k12 M L v3 = some out → jW C 12 [(0, .ref (G.1 1)), (3, .int v3)] [] M L) (M : jM) (L : jL) (v3 : Int32) (hf : cCells_clear_b43 k12 M L v3 = some out) : jW C 43 [(0, .ref (G.1 1)), (3, .int v3)] [] M L := by
  unfold cCells_clear_b43 at hf
  refine j_iinc (pc := 43) (i := 3) (q := 1) (v := (v3 + 1)) (lv' := [(3, .int (v3 + 1)), (0, .ref (G.1 1))]) C d_Cells_clear_43 rfl rfl (by decide) rfl ?_
  refine j_goto (pc := 46) C 12 d_Cells_clear_46 rfl ?_
  refine j_sub (lv' := [(0, .ref (G.1 1)), (3, .int (v3 + 1))]) C [1, 0] rfl ?_
  exact hk12 _ _ _ hf
set_option maxHeartbeats 4000000 in
set_option maxRecDepth 100000 in
theorem cCells_clear_b21w {out : jM × jL × Int32} (C : jCtx p l e rmcCells_clear s m args below meth c 0 0 Q D (cwt G) (cw G) Z A0 prog_2_method_2_code 5 "MarbleBoard$Cells") (hE : jEv C out) {k12 : jM → jL → Int32 → Option (jM × jL × Int32)} (hk12 : ∀ (M : jM) (L : jL) (v3 : Int32), k12 M L v3 = some out → jW C 12 [(0, .ref (G.1 1)), (3, .int v3)] [] M L) : ∀ (n : Nat) (M : jM) (L : jL) (v3 : Int32) (v4 : Int32), cCells_clear_b21 k12 n M L v3 v4 = some out → jW C 21 [(0, .ref (G.1 1)), (3, .int v3), (4, .int v4)] [] M L := by
  intro n
  induction n with
  | zero => intro M L v3 v4 hf; exact j_no hf
  | succ n ih =>
    intro M L v3 v4 hf
    rw [cCells_clear_b21] at hf
    refine j_iload (pc := 21) (i := 4) (x := v4) C d_Cells_clear_21 2 rfl ?_
    refine j_bipush (pc := 23) (v := 16) C d_Cells_clear_23 rfl ?_
    refine j_icmp_ge (pc := 25) C 43 d_Cells_clear_25 rfl (fun h => ?_) (fun h => ?_)
    · have hf := jt h hf
      refine j_sub (lv' := [(0, .ref (G.1 1)), (3, .int v3)]) C [0, 1] rfl ?_
      exact cCells_clear_b43w C hE hk12 _ _ _ hf
    · have hf := jf h hf
      refine j_aload_n (pc := 28) (i := 0) (x := G.1 1) C d_Cells_clear_28 rfl 0 rfl ?_
      refine j_iload (pc := 29) (i := 4) (x := v4) C d_Cells_clear_29 2 rfl ?_
      refine j_iload_n (pc := 31) (i := 3) (x := v3) C d_Cells_clear_31 rfl 1 rfl ?_
      refine j_bipush (pc := 32) (v := 46) C d_Cells_clear_32 rfl ?_
      obtain ⟨q10, q10h, hf⟩ := jb_s hf
      refine j_callVv (pc := 34) (n := 3) (st := []) C [.int v4, .int v3, .int 46] 0 (cw_g1 _ _ _) rfl (cCells_put_c (j_zl C) q10h) b_21 b_12 b_22 b_23 b_24 (by decide +kernel) ⟨Nat.le_of_ble_eq_true rfl, Nat.le_of_ble_eq_true rfl⟩ rfl rfl rfl rfl (Nat.le_of_ble_eq_true rfl) d_Cells_clear_34 ?_
      refine j_iinc (pc := 37) (i := 4) (q := 2) (v := (v4 + 1)) (lv' := [(4, .int (v4 + 1)), (0, .ref (G.1 1)), (3, .int v3)]) C d_Cells_clear_37 rfl rfl (by decide) rfl ?_
      refine j_goto (pc := 40) C 21 d_Cells_clear_40 rfl ?_
      refine j_sub (lv' := [(0, .ref (G.1 1)), (3, .int v3), (4, .int (v4 + 1))]) C [1, 2, 0] rfl ?_
      exact ih _ _ _ _ hf
set_option maxHeartbeats 4000000 in
set_option maxRecDepth 100000 in
theorem cCells_clear_b12w {out : jM × jL × Int32} (C : jCtx p l e rmcCells_clear s m args below meth c 0 0 Q D (cwt G) (cw G) Z A0 prog_2_method_2_code 5 "MarbleBoard$Cells") (hE : jEv C out)  : ∀ (n : Nat) (M : jM) (L : jL) (v3 : Int32), cCells_clear_b12  n M L v3 = some out → jW C 12 [(0, .ref (G.1 1)), (3, .int v3)] [] M L := by
  intro n
  induction n with
  | zero => intro M L v3 hf; exact j_no hf
  | succ n ih =>
    intro M L v3 hf
    rw [cCells_clear_b12] at hf
    refine j_iload_n (pc := 12) (i := 3) (x := v3) C d_Cells_clear_12 rfl 1 rfl ?_
    refine j_bipush (pc := 13) (v := 16) C d_Cells_clear_13 rfl ?_
    refine j_icmp_ge (pc := 15) C 49 d_Cells_clear_15 rfl (fun h => ?_) (fun h => ?_)
    · have hf := jt h hf
      refine j_sub (lv' := [(0, .ref (G.1 1))]) C [0] rfl ?_
      exact cCells_clear_b49w C hE  _ _  hf
    · have hf := jf h hf
      refine j_iconst (pc := 18) (v := 0) C d_Cells_clear_18 rfl ?_
      refine j_istore (pc := 19) (i := 4) (lv' := [(4, .int 0), (0, .ref (G.1 1)), (3, .int v3)]) C d_Cells_clear_19 (by decide) rfl ?_
      refine j_sub (lv' := [(0, .ref (G.1 1)), (3, .int v3), (4, .int 0)]) C [1, 2, 0] rfl ?_
      exact cCells_clear_b21w C hE ih _ _ _ _ _ hf
set_option maxHeartbeats 4000000 in
set_option maxRecDepth 100000 in
theorem cCells_clear_w {out : jM × jL × Int32} (C : jCtx p l e rmcCells_clear s m args below meth c 0 0 Q D (cwt G) (cw G) Z A0 prog_2_method_2_code 5 "MarbleBoard$Cells") (hE : jEv C out) {M : jM} {L : jL} {a1 : Int32} {a2 : Int32} (hf : cCells_clear M L a1 a2 = some out) : jW C 0 [(0, .ref (G.1 1)), (1, .int a1), (2, .int a2)] [] M L := by
  unfold cCells_clear at hf
  refine j_aload_n (pc := 0) (i := 0) (x := G.1 1) C d_Cells_clear_0 rfl 0 rfl ?_
  refine j_iload_n (pc := 1) (i := 1) (x := a1) C d_Cells_clear_1 rfl 1 rfl ?_
  refine j_put (pc := 2) (index := 32) (ty := .int) C jin1 jTy1 jty1 jnm1 0 (cw_g1 _ _ _) rfl 5 (by decide) b_0 (fun _ h => h) rfl (by decide +kernel) rfl rfl (Nat.le_of_ble_eq_true rfl) d_Cells_clear_2 (cw_f1_5 _ _ _ _) ?_
  refine j_aload_n (pc := 5) (i := 0) (x := G.1 1) C d_Cells_clear_5 rfl 0 rfl ?_
  refine j_iload_n (pc := 6) (i := 2) (x := a2) C d_Cells_clear_6 rfl 2 rfl ?_
  refine j_put (pc := 7) (index := 36) (ty := .int) C jin1 jTy1 jty1 jnm1 0 (cw_g1 _ _ _) rfl 6 (by decide) b_1 (fun _ h => h) rfl (by decide +kernel) rfl rfl (Nat.le_of_ble_eq_true rfl) d_Cells_clear_7 (cw_f1_6 _ _ _ _) ?_
  refine j_iconst (pc := 10) (v := 0) C d_Cells_clear_10 rfl ?_
  refine j_istore_n (pc := 11) (i := 3) (lv' := [(3, .int 0), (0, .ref (G.1 1)), (1, .int a1), (2, .int a2)]) C d_Cells_clear_11 rfl (by decide) rfl ?_
  refine j_sub (lv' := [(0, .ref (G.1 1)), (3, .int 0)]) C [1, 0] rfl ?_
  exact cCells_clear_b12w C hE  _ _ _ _ hf
end
theorem cCells_clear_c {l : Launch} {D : va_G} {Z : jZt} {G : jG} (hZ : jZl Z) {M : jM} {L : jL} {a1 : Int32} {a2 : Int32} {out : jM × jL × Int32} (hf : cCells_clear M L a1 a2 = some out) : jMv l D (cwt G) (cw G) Z y_Cells_clear (Cond.code y_Cells_clear prog_2_method_2_code 5 none :: jB) rmcCells_clear [.ref (G.1 1), .int a1, .int a2] M L out :=
  jMv_of hZ (by decide) rfl (Nat.le_of_ble_eq_true rfl) rfl (fun C hE => cCells_clear_w C hE hf)
end
