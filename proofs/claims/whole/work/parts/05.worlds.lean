def cwt (G : jG) : List (ClassId × FieldType) := [(G.2 2, .char), (G.2 3, .int), (G.2 4, .int), (G.2 5, .int), (G.2 6, .int)]
def cw (G : jG) (M : jM) (L : jL) : va_W := [(G.1 1, .inr (1, [.ref (G.1 2), .ref (G.1 3), .ref (G.1 4), .ref (G.1 5), .ref (G.1 6), .int (M 1 5), .int (M 1 6)])), (G.1 2, .inl (G.2 2, 256, .inl (M 2))), (G.1 3, .inl (G.2 3, 256, .inl (M 3))), (G.1 4, .inl (G.2 4, 256, .inl (M 4))), (G.1 5, .inl (G.2 5, 256, .inl (M 5))), (G.1 6, .inl (G.2 6, 4, .inl (M 6)))]
theorem cw_g1 (G : jG) (M : jM) (L : jL) : (cw G M L)[0]? = some (G.1 1, .inr (1, [.ref (G.1 2), .ref (G.1 3), .ref (G.1 4), .ref (G.1 5), .ref (G.1 6), .int (M 1 5), .int (M 1 6)])) := rfl
theorem cw_f1_5 (G : jG) (M : jM) (L : jL) (x : Int32) : (cw G M L).set 0 (G.1 1, .inr (1, List.set [.ref (G.1 2), .ref (G.1 3), .ref (G.1 4), .ref (G.1 5), .ref (G.1 6), .int (M 1 5), .int (M 1 6)] 5 (.int x))) = cw G (jP M 1 5 x) L := rfl
theorem cw_f1_6 (G : jG) (M : jM) (L : jL) (x : Int32) : (cw G M L).set 0 (G.1 1, .inr (1, List.set [.ref (G.1 2), .ref (G.1 3), .ref (G.1 4), .ref (G.1 5), .ref (G.1 6), .int (M 1 5), .int (M 1 6)] 6 (.int x))) = cw G (jP M 1 6 x) L := rfl
theorem cw_g2 (G : jG) (M : jM) (L : jL) : (cw G M L)[1]? = some (G.1 2, .inl (G.2 2, 256, .inl (M 2))) := rfl
theorem cw_s2 (G : jG) (M : jM) (L : jL) (i : Nat) (x : Int32) : (cw G M L).set 1 (G.1 2, .inl (G.2 2, 256, .inl (upd (M 2) i x))) = cw G (jP M 2 i x) L := rfl
theorem cw_g3 (G : jG) (M : jM) (L : jL) : (cw G M L)[2]? = some (G.1 3, .inl (G.2 3, 256, .inl (M 3))) := rfl
theorem cw_s3 (G : jG) (M : jM) (L : jL) (i : Nat) (x : Int32) : (cw G M L).set 2 (G.1 3, .inl (G.2 3, 256, .inl (upd (M 3) i x))) = cw G (jP M 3 i x) L := rfl
theorem cw_g4 (G : jG) (M : jM) (L : jL) : (cw G M L)[3]? = some (G.1 4, .inl (G.2 4, 256, .inl (M 4))) := rfl
theorem cw_s4 (G : jG) (M : jM) (L : jL) (i : Nat) (x : Int32) : (cw G M L).set 3 (G.1 4, .inl (G.2 4, 256, .inl (upd (M 4) i x))) = cw G (jP M 4 i x) L := rfl
theorem cw_g5 (G : jG) (M : jM) (L : jL) : (cw G M L)[4]? = some (G.1 5, .inl (G.2 5, 256, .inl (M 5))) := rfl
theorem cw_s5 (G : jG) (M : jM) (L : jL) (i : Nat) (x : Int32) : (cw G M L).set 4 (G.1 5, .inl (G.2 5, 256, .inl (upd (M 5) i x))) = cw G (jP M 5 i x) L := rfl
theorem cw_g6 (G : jG) (M : jM) (L : jL) : (cw G M L)[5]? = some (G.1 6, .inl (G.2 6, 4, .inl (M 6))) := rfl
theorem cw_s6 (G : jG) (M : jM) (L : jL) (i : Nat) (x : Int32) : (cw G M L).set 5 (G.1 6, .inl (G.2 6, 4, .inl (upd (M 6) i x))) = cw G (jP M 6 i x) L := rfl
