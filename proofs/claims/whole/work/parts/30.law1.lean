def law_b627 (xs : Nat → Int32) (ln : Nat) (k23 : jM → jL → Int32 → Option (jM × jL × Int32)) (M : jM) (L : jL) (v4 : Int32) : Option (jM × jL × Int32) :=
  jgI (v4 + 1) ln (jgI (v4 + 2) ln ((xMarbleBoardLaw_value M L (xs (v4 + 1).toNatClampNeg) (xs (v4 + 2).toNatClampNeg)).bind (fun q92 => jgI (v4 + 1) ln (jgI (v4 + 2) ln ((yMarbleBoardModel_value (jlo (jcx M q92.1)) (jlo (jcx L q92.2.1)) (xs (v4 + 1).toNatClampNeg) (xs (v4 + 2).toNatClampNeg)).bind (fun q95 => (yMarbleBoardModel_thrown (jlo (jcy (jcx M q92.1) q95.1)) (jlo (jcy (jcx L q92.2.1) q95.2.1))).bind (fun q96 => if q96.2.2 = q92.2.2 then (if q92.2.2 = 0 then (jgI 0 1 (if (lg_cmp ((jcy (jcy (jcx L q92.2.1) q95.2.1) q96.2.1) 27 (0 : Int32).toNatClampNeg) ((q95.2.2 : Int32).toInt64)) = 0 then (k23 (jcy (jcy (jcx M q92.1) q95.1) q96.1) (jcy (jcy (jcx L q92.2.1) q95.2.1) q96.2.1) (v4 + 6)) else (some ((jcy (jcy (jcx M q92.1) q95.1) q96.1), (jcy (jcy (jcx L q92.2.1) q95.2.1) q96.2.1), 0)))) else (k23 (jcy (jcy (jcx M q92.1) q95.1) q96.1) (jcy (jcy (jcx L q92.2.1) q95.2.1) q96.2.1) (v4 + 6))) else (some ((jcy (jcy (jcx M q92.1) q95.1) q96.1), (jcy (jcy (jcx L q92.2.1) q95.2.1) q96.2.1), 0)))))))))
section
variable {p : Program} {l : Launch} {e : Env} {s : State} {m : MethodId} {args : Array Value} {below : List Frame} {meth : Method} {c : Code} {nc ns : Nat} {Q : State → Prop} {D : va_G} {G Gy : jG} {Z : jZt} {A0 : Nat → Prop} {b ln : Nat} {xs : Nat → Int32} {out : jM × jL × Int32}
set_option maxHeartbeats 4000000 in
set_option maxRecDepth 100000 in
theorem law_b627w (C : jCtx p l e room_1 s m args below meth c nc ns Q D (zwt G Gy) (zw G Gy) Z A0 code 7 "MarbleBoardLaw") (C2 : jCtx p l e room_1 s m args below meth c (nc + 1) (ns + 6) Q D (zwt G Gy) (zw G Gy) Z A0 code 7 "MarbleBoardLaw") (hX : va_X b ln xs s s.heap) (hbl : b < s.heap.size) (hbA : ¬ A0 b) (hl9 : l.stackTraces = false) (hout : out.2.2 = 1) (hE : ∀ {nc ns : Nat} (C : jCtx p l e room_1 s m args below meth c nc ns Q D (zwt G Gy) (zw G Gy) Z A0 code 7 "MarbleBoardLaw") (pc : Nat) (lv : List (Nat × Value)) (M : jM) (L : jL), decode code pc = .ok (.ireturn, 1) → jW C pc lv [.int 1] M L) {k23 : jM → jL → Int32 → Option (jM × jL × Int32)} (hk23 : ∀ (M : jM) (L : jL) (v4 : Int32), k23 M L v4 = some out → jW C2 23 [(0, .ref b), (1, .ref (G.1 0)), (2, .ref (Gy.1 0)), (3, .ref (G.1 27)), (4, .int v4)] [] M L) (M : jM) (L : jL) (v4 : Int32) (hf : law_b627 xs ln k23 M L v4 = some out) : jW C 627 [(0, .ref b), (1, .ref (G.1 0)), (2, .ref (Gy.1 0)), (3, .ref (G.1 27)), (4, .int v4)] [] M L := by
  unfold law_b627 at hf
  refine j_aload_n (pc := 627) (i := 1) (x := G.1 0) C d_law_627 rfl 1 rfl ?_
  refine j_aload_n (pc := 628) (i := 0) (x := b) C d_law_628 rfl 0 rfl ?_
  refine j_iload (pc := 629) (i := 4) (x := v4) C d_law_629 4 rfl ?_
  refine j_iconst (pc := 631) (v := 1) C d_law_631 rfl ?_
  refine j_iadd (pc := 632) C d_law_632 ?_
  obtain ⟨h90, hf⟩ := jgI_s hf
  refine jl_sld (pc := 633) C hX hbl hbA h90 d_law_633 ?_
  refine j_aload_n (pc := 634) (i := 0) (x := b) C d_law_634 rfl 0 rfl ?_
  refine j_iload (pc := 635) (i := 4) (x := v4) C d_law_635 4 rfl ?_
  refine j_iconst (pc := 637) (v := 2) C d_law_637 rfl ?_
  refine j_iadd (pc := 638) C d_law_638 ?_
  obtain ⟨h91, hf⟩ := jgI_s hf
  refine jl_sld (pc := 639) C hX hbl hbA h91 d_law_639 ?_
  refine j_aload_n (pc := 640) (i := 3) (x := G.1 27) C d_law_640 rfl 3 rfl ?_
  obtain ⟨q92, q92h, hf⟩ := jb_s hf
  refine jl_callW (pc := 641) (n := 4) (st := []) C [.ref (G.1 0), .int (xs (v4 + 1).toNatClampNeg), .int (xs (v4 + 2).toNatClampNeg), .ref (G.1 27)] (xMarbleBoardLaw_value_c hl9 (j_zl C) q92h) b_773 b_671 b_774 b_775 (by decide +kernel) ⟨Nat.le_of_ble_eq_true rfl, Nat.le_of_ble_eq_true rfl⟩ rfl rfl rfl rfl (Nat.le_of_ble_eq_true rfl) d_law_641 C2 ?_
  refine j_istore (pc := 644) (i := 5) (lv' := [(5, .int q92.2.2), (0, .ref b), (1, .ref (G.1 0)), (2, .ref (Gy.1 0)), (3, .ref (G.1 27)), (4, .int v4)]) C2 d_law_644 (by decide) rfl ?_
  refine j_aload_n (pc := 646) (i := 2) (x := Gy.1 0) C2 d_law_646 rfl 3 rfl ?_
  refine j_aload_n (pc := 647) (i := 0) (x := b) C2 d_law_647 rfl 1 rfl ?_
  refine j_iload (pc := 648) (i := 4) (x := v4) C2 d_law_648 5 rfl ?_
  refine j_iconst (pc := 650) (v := 1) C2 d_law_650 rfl ?_
  refine j_iadd (pc := 651) C2 d_law_651 ?_
  obtain ⟨h93, hf⟩ := jgI_s hf
  refine jl_sld (pc := 652) C2 hX hbl hbA h93 d_law_652 ?_
  refine j_aload_n (pc := 653) (i := 0) (x := b) C2 d_law_653 rfl 1 rfl ?_
  refine j_iload (pc := 654) (i := 4) (x := v4) C2 d_law_654 5 rfl ?_
  refine j_iconst (pc := 656) (v := 2) C2 d_law_656 rfl ?_
  refine j_iadd (pc := 657) C2 d_law_657 ?_
  obtain ⟨h94, hf⟩ := jgI_s hf
  refine jl_sld (pc := 658) C2 hX hbl hbA h94 d_law_658 ?_
  obtain ⟨q95, q95h, hf⟩ := jb_s hf
  refine jl_callYi (pc := 659) (n := 2) (st := []) C2 [.int (xs (v4 + 1).toNatClampNeg), .int (xs (v4 + 2).toNatClampNeg)] 0 (yw_g0 _ _ _) rfl (yMarbleBoardModel_value_c (j_zl C2) q95h) b_776 b_537 b_777 b_778 b_779 (by decide +kernel) ⟨Nat.le_of_ble_eq_true rfl, Nat.le_of_ble_eq_true rfl⟩ rfl rfl rfl rfl (Nat.le_of_ble_eq_true rfl) d_law_659 ?_
  refine j_istore (pc := 662) (i := 6) (lv' := [(6, .int q95.2.2), (5, .int q92.2.2), (0, .ref b), (1, .ref (G.1 0)), (2, .ref (Gy.1 0)), (3, .ref (G.1 27)), (4, .int v4)]) C2 d_law_662 (by decide) rfl ?_
  refine j_aload_n (pc := 664) (i := 2) (x := Gy.1 0) C2 d_law_664 rfl 4 rfl ?_
  obtain ⟨q96, q96h, hf⟩ := jb_s hf
  refine jl_callYi (pc := 665) (n := 0) (st := []) C2 [] 0 (yw_g0 _ _ _) rfl (yMarbleBoardModel_thrown_c (j_zl C2) q96h) b_678 b_537 b_679 b_680 b_681 (by decide +kernel) ⟨Nat.le_of_ble_eq_true rfl, Nat.le_of_ble_eq_true rfl⟩ rfl rfl rfl rfl (Nat.le_of_ble_eq_true rfl) d_law_665 ?_
  refine j_iload (pc := 668) (i := 5) (x := q92.2.2) C2 d_law_668 1 rfl ?_
  refine j_icmp_eq (pc := 670) C2 675 d_law_670 rfl (fun h => ?_) (fun h => ?_)
  · have hf := jt h hf
    refine j_iload (pc := 675) (i := 5) (x := q92.2.2) C2 d_law_675 1 rfl ?_
    refine j_if_ne (pc := 677) C2 692 d_law_677 rfl (fun h => ?_) (fun h => ?_)
    · have hf := jf h hf
      refine j_goto (pc := 692) C2 1461 d_law_692 rfl ?_
      refine j_iinc (pc := 1461) (i := 4) (q := 6) (v := (v4 + 6)) (lv' := [(4, .int (v4 + 6)), (6, .int q95.2.2), (5, .int q92.2.2), (0, .ref b), (1, .ref (G.1 0)), (2, .ref (Gy.1 0)), (3, .ref (G.1 27))]) C2 d_law_1461 rfl rfl (by decide) rfl ?_
      refine j_goto (pc := 1464) C2 23 d_law_1464 rfl ?_
      refine j_sub (lv' := [(0, .ref b), (1, .ref (G.1 0)), (2, .ref (Gy.1 0)), (3, .ref (G.1 27)), (4, .int (v4 + 6))]) C2 [3, 4, 5, 6, 0] rfl ?_
      exact hk23 _ _ _ hf
    · have hf := jt h hf
      refine j_aload_n (pc := 680) (i := 3) (x := G.1 27) C2 d_law_680 rfl 5 rfl ?_
      refine j_iconst (pc := 681) (v := 0) C2 d_law_681 rfl ?_
      obtain ⟨h97, hf⟩ := jgI_s hf
      refine j_lald (pc := 682) C2 27 17 (zw_g27 _ _ _ _) rfl h97 d_law_682 ?_
      refine j_iload (pc := 683) (i := 6) (x := q95.2.2) C2 d_law_683 0 rfl ?_
      refine j_i2l (pc := 685) C2 d_law_685 ?_
      refine j_lcmp (pc := 686) C2 d_law_686 ?_
      refine j_if_eq (pc := 687) C2 692 d_law_687 rfl (fun h => ?_) (fun h => ?_)
      · have hf := jt h hf
        refine j_goto (pc := 692) C2 1461 d_law_692 rfl ?_
        refine j_iinc (pc := 1461) (i := 4) (q := 6) (v := (v4 + 6)) (lv' := [(4, .int (v4 + 6)), (6, .int q95.2.2), (5, .int q92.2.2), (0, .ref b), (1, .ref (G.1 0)), (2, .ref (Gy.1 0)), (3, .ref (G.1 27))]) C2 d_law_1461 rfl rfl (by decide) rfl ?_
        refine j_goto (pc := 1464) C2 23 d_law_1464 rfl ?_
        refine j_sub (lv' := [(0, .ref b), (1, .ref (G.1 0)), (2, .ref (Gy.1 0)), (3, .ref (G.1 27)), (4, .int (v4 + 6))]) C2 [3, 4, 5, 6, 0] rfl ?_
        exact hk23 _ _ _ hf
      · have hf := jf h hf
        refine j_iconst (pc := 690) (v := 0) C2 d_law_690 rfl ?_
        exact jl_no hout hf
  · have hf := jf h hf
    refine j_iconst (pc := 673) (v := 0) C2 d_law_673 rfl ?_
    exact jl_no hout hf
end
def law_b695 (xs : Nat → Int32) (ln : Nat) (k23 : jM → jL → Int32 → Option (jM × jL × Int32)) (M : jM) (L : jL) (v4 : Int32) : Option (jM × jL × Int32) :=
  jgI (v4 + 1) ln (jgI (v4 + 2) ln (jgI (v4 + 3) ln ((xMarbleBoardLaw_turn M L (xs (v4 + 1).toNatClampNeg) (xs (v4 + 2).toNatClampNeg) (xs (v4 + 3).toNatClampNeg)).bind (fun q83 => jgI (v4 + 1) ln (jgI (v4 + 2) ln (jgI (v4 + 3) ln ((yMarbleBoardModel_turn (jlo (jcx M q83.1)) (jlo (jcx L q83.2.1)) (xs (v4 + 1).toNatClampNeg) (xs (v4 + 2).toNatClampNeg) (xs (v4 + 3).toNatClampNeg)).bind (fun q87 => (yMarbleBoardModel_thrown (jlo (jcy (jcx M q83.1) q87.1)) (jlo (jcy (jcx L q83.2.1) q87.2.1))).bind (fun q88 => if q88.2.2 = q83.2.2 then (if q83.2.2 = 0 then (jgI 0 1 (if (lg_cmp ((jcy (jcy (jcx L q83.2.1) q87.2.1) q88.2.1) 27 (0 : Int32).toNatClampNeg) ((q87.2.2 : Int32).toInt64)) = 0 then (k23 (jcy (jcy (jcx M q83.1) q87.1) q88.1) (jcy (jcy (jcx L q83.2.1) q87.2.1) q88.2.1) (v4 + 6)) else (some ((jcy (jcy (jcx M q83.1) q87.1) q88.1), (jcy (jcy (jcx L q83.2.1) q87.2.1) q88.2.1), 0)))) else (k23 (jcy (jcy (jcx M q83.1) q87.1) q88.1) (jcy (jcy (jcx L q83.2.1) q87.2.1) q88.2.1) (v4 + 6))) else (some ((jcy (jcy (jcx M q83.1) q87.1) q88.1), (jcy (jcy (jcx L q83.2.1) q87.2.1) q88.2.1), 0)))))))))))
section
variable {p : Program} {l : Launch} {e : Env} {s : State} {m : MethodId} {args : Array Value} {below : List Frame} {meth : Method} {c : Code} {nc ns : Nat} {Q : State → Prop} {D : va_G} {G Gy : jG} {Z : jZt} {A0 : Nat → Prop} {b ln : Nat} {xs : Nat → Int32} {out : jM × jL × Int32}
set_option maxHeartbeats 4000000 in
set_option maxRecDepth 100000 in
theorem law_b695w (C : jCtx p l e room_1 s m args below meth c nc ns Q D (zwt G Gy) (zw G Gy) Z A0 code 7 "MarbleBoardLaw") (C2 : jCtx p l e room_1 s m args below meth c (nc + 1) (ns + 6) Q D (zwt G Gy) (zw G Gy) Z A0 code 7 "MarbleBoardLaw") (hX : va_X b ln xs s s.heap) (hbl : b < s.heap.size) (hbA : ¬ A0 b) (hl9 : l.stackTraces = false) (hout : out.2.2 = 1) (hE : ∀ {nc ns : Nat} (C : jCtx p l e room_1 s m args below meth c nc ns Q D (zwt G Gy) (zw G Gy) Z A0 code 7 "MarbleBoardLaw") (pc : Nat) (lv : List (Nat × Value)) (M : jM) (L : jL), decode code pc = .ok (.ireturn, 1) → jW C pc lv [.int 1] M L) {k23 : jM → jL → Int32 → Option (jM × jL × Int32)} (hk23 : ∀ (M : jM) (L : jL) (v4 : Int32), k23 M L v4 = some out → jW C2 23 [(0, .ref b), (1, .ref (G.1 0)), (2, .ref (Gy.1 0)), (3, .ref (G.1 27)), (4, .int v4)] [] M L) (M : jM) (L : jL) (v4 : Int32) (hf : law_b695 xs ln k23 M L v4 = some out) : jW C 695 [(0, .ref b), (1, .ref (G.1 0)), (2, .ref (Gy.1 0)), (3, .ref (G.1 27)), (4, .int v4)] [] M L := by
  unfold law_b695 at hf
  refine j_aload_n (pc := 695) (i := 1) (x := G.1 0) C d_law_695 rfl 1 rfl ?_
  refine j_aload_n (pc := 696) (i := 0) (x := b) C d_law_696 rfl 0 rfl ?_
  refine j_iload (pc := 697) (i := 4) (x := v4) C d_law_697 4 rfl ?_
  refine j_iconst (pc := 699) (v := 1) C d_law_699 rfl ?_
  refine j_iadd (pc := 700) C d_law_700 ?_
  obtain ⟨h80, hf⟩ := jgI_s hf
  refine jl_sld (pc := 701) C hX hbl hbA h80 d_law_701 ?_
  refine j_aload_n (pc := 702) (i := 0) (x := b) C d_law_702 rfl 0 rfl ?_
  refine j_iload (pc := 703) (i := 4) (x := v4) C d_law_703 4 rfl ?_
  refine j_iconst (pc := 705) (v := 2) C d_law_705 rfl ?_
  refine j_iadd (pc := 706) C d_law_706 ?_
  obtain ⟨h81, hf⟩ := jgI_s hf
  refine jl_sld (pc := 707) C hX hbl hbA h81 d_law_707 ?_
  refine j_aload_n (pc := 708) (i := 0) (x := b) C d_law_708 rfl 0 rfl ?_
  refine j_iload (pc := 709) (i := 4) (x := v4) C d_law_709 4 rfl ?_
  refine j_iconst (pc := 711) (v := 3) C d_law_711 rfl ?_
  refine j_iadd (pc := 712) C d_law_712 ?_
  obtain ⟨h82, hf⟩ := jgI_s hf
  refine jl_sld (pc := 713) C hX hbl hbA h82 d_law_713 ?_
  refine j_aload_n (pc := 714) (i := 3) (x := G.1 27) C d_law_714 rfl 3 rfl ?_
  obtain ⟨q83, q83h, hf⟩ := jb_s hf
  refine jl_callW (pc := 715) (n := 5) (st := []) C [.ref (G.1 0), .int (xs (v4 + 1).toNatClampNeg), .int (xs (v4 + 2).toNatClampNeg), .int (xs (v4 + 3).toNatClampNeg), .ref (G.1 27)] (xMarbleBoardLaw_turn_c hl9 (j_zl C) q83h) b_766 b_671 b_767 b_768 (by decide +kernel) ⟨Nat.le_of_ble_eq_true rfl, Nat.le_of_ble_eq_true rfl⟩ rfl rfl rfl rfl (Nat.le_of_ble_eq_true rfl) d_law_715 C2 ?_
  refine j_istore (pc := 718) (i := 5) (lv' := [(5, .int q83.2.2), (0, .ref b), (1, .ref (G.1 0)), (2, .ref (Gy.1 0)), (3, .ref (G.1 27)), (4, .int v4)]) C2 d_law_718 (by decide) rfl ?_
  refine j_aload_n (pc := 720) (i := 2) (x := Gy.1 0) C2 d_law_720 rfl 3 rfl ?_
  refine j_aload_n (pc := 721) (i := 0) (x := b) C2 d_law_721 rfl 1 rfl ?_
  refine j_iload (pc := 722) (i := 4) (x := v4) C2 d_law_722 5 rfl ?_
  refine j_iconst (pc := 724) (v := 1) C2 d_law_724 rfl ?_
  refine j_iadd (pc := 725) C2 d_law_725 ?_
  obtain ⟨h84, hf⟩ := jgI_s hf
  refine jl_sld (pc := 726) C2 hX hbl hbA h84 d_law_726 ?_
  refine j_aload_n (pc := 727) (i := 0) (x := b) C2 d_law_727 rfl 1 rfl ?_
  refine j_iload (pc := 728) (i := 4) (x := v4) C2 d_law_728 5 rfl ?_
  refine j_iconst (pc := 730) (v := 2) C2 d_law_730 rfl ?_
  refine j_iadd (pc := 731) C2 d_law_731 ?_
  obtain ⟨h85, hf⟩ := jgI_s hf
  refine jl_sld (pc := 732) C2 hX hbl hbA h85 d_law_732 ?_
  refine j_aload_n (pc := 733) (i := 0) (x := b) C2 d_law_733 rfl 1 rfl ?_
  refine j_iload (pc := 734) (i := 4) (x := v4) C2 d_law_734 5 rfl ?_
  refine j_iconst (pc := 736) (v := 3) C2 d_law_736 rfl ?_
  refine j_iadd (pc := 737) C2 d_law_737 ?_
  obtain ⟨h86, hf⟩ := jgI_s hf
  refine jl_sld (pc := 738) C2 hX hbl hbA h86 d_law_738 ?_
  obtain ⟨q87, q87h, hf⟩ := jb_s hf
  refine jl_callYi (pc := 739) (n := 3) (st := []) C2 [.int (xs (v4 + 1).toNatClampNeg), .int (xs (v4 + 2).toNatClampNeg), .int (xs (v4 + 3).toNatClampNeg)] 0 (yw_g0 _ _ _) rfl (yMarbleBoardModel_turn_c (j_zl C2) q87h) b_769 b_537 b_770 b_771 b_772 (by decide +kernel) ⟨Nat.le_of_ble_eq_true rfl, Nat.le_of_ble_eq_true rfl⟩ rfl rfl rfl rfl (Nat.le_of_ble_eq_true rfl) d_law_739 ?_
  refine j_istore (pc := 742) (i := 6) (lv' := [(6, .int q87.2.2), (5, .int q83.2.2), (0, .ref b), (1, .ref (G.1 0)), (2, .ref (Gy.1 0)), (3, .ref (G.1 27)), (4, .int v4)]) C2 d_law_742 (by decide) rfl ?_
  refine j_aload_n (pc := 744) (i := 2) (x := Gy.1 0) C2 d_law_744 rfl 4 rfl ?_
  obtain ⟨q88, q88h, hf⟩ := jb_s hf
  refine jl_callYi (pc := 745) (n := 0) (st := []) C2 [] 0 (yw_g0 _ _ _) rfl (yMarbleBoardModel_thrown_c (j_zl C2) q88h) b_678 b_537 b_679 b_680 b_681 (by decide +kernel) ⟨Nat.le_of_ble_eq_true rfl, Nat.le_of_ble_eq_true rfl⟩ rfl rfl rfl rfl (Nat.le_of_ble_eq_true rfl) d_law_745 ?_
  refine j_iload (pc := 748) (i := 5) (x := q83.2.2) C2 d_law_748 1 rfl ?_
  refine j_icmp_eq (pc := 750) C2 755 d_law_750 rfl (fun h => ?_) (fun h => ?_)
  · have hf := jt h hf
    refine j_iload (pc := 755) (i := 5) (x := q83.2.2) C2 d_law_755 1 rfl ?_
    refine j_if_ne (pc := 757) C2 772 d_law_757 rfl (fun h => ?_) (fun h => ?_)
    · have hf := jf h hf
      refine j_goto (pc := 772) C2 1461 d_law_772 rfl ?_
      refine j_iinc (pc := 1461) (i := 4) (q := 6) (v := (v4 + 6)) (lv' := [(4, .int (v4 + 6)), (6, .int q87.2.2), (5, .int q83.2.2), (0, .ref b), (1, .ref (G.1 0)), (2, .ref (Gy.1 0)), (3, .ref (G.1 27))]) C2 d_law_1461 rfl rfl (by decide) rfl ?_
      refine j_goto (pc := 1464) C2 23 d_law_1464 rfl ?_
      refine j_sub (lv' := [(0, .ref b), (1, .ref (G.1 0)), (2, .ref (Gy.1 0)), (3, .ref (G.1 27)), (4, .int (v4 + 6))]) C2 [3, 4, 5, 6, 0] rfl ?_
      exact hk23 _ _ _ hf
    · have hf := jt h hf
      refine j_aload_n (pc := 760) (i := 3) (x := G.1 27) C2 d_law_760 rfl 5 rfl ?_
      refine j_iconst (pc := 761) (v := 0) C2 d_law_761 rfl ?_
      obtain ⟨h89, hf⟩ := jgI_s hf
      refine j_lald (pc := 762) C2 27 17 (zw_g27 _ _ _ _) rfl h89 d_law_762 ?_
      refine j_iload (pc := 763) (i := 6) (x := q87.2.2) C2 d_law_763 0 rfl ?_
      refine j_i2l (pc := 765) C2 d_law_765 ?_
      refine j_lcmp (pc := 766) C2 d_law_766 ?_
      refine j_if_eq (pc := 767) C2 772 d_law_767 rfl (fun h => ?_) (fun h => ?_)
      · have hf := jt h hf
        refine j_goto (pc := 772) C2 1461 d_law_772 rfl ?_
        refine j_iinc (pc := 1461) (i := 4) (q := 6) (v := (v4 + 6)) (lv' := [(4, .int (v4 + 6)), (6, .int q87.2.2), (5, .int q83.2.2), (0, .ref b), (1, .ref (G.1 0)), (2, .ref (Gy.1 0)), (3, .ref (G.1 27))]) C2 d_law_1461 rfl rfl (by decide) rfl ?_
        refine j_goto (pc := 1464) C2 23 d_law_1464 rfl ?_
        refine j_sub (lv' := [(0, .ref b), (1, .ref (G.1 0)), (2, .ref (Gy.1 0)), (3, .ref (G.1 27)), (4, .int (v4 + 6))]) C2 [3, 4, 5, 6, 0] rfl ?_
        exact hk23 _ _ _ hf
      · have hf := jf h hf
        refine j_iconst (pc := 770) (v := 0) C2 d_law_770 rfl ?_
        exact jl_no hout hf
  · have hf := jf h hf
    refine j_iconst (pc := 753) (v := 0) C2 d_law_753 rfl ?_
    exact jl_no hout hf
end
def law_b775 (xs : Nat → Int32) (ln : Nat) (k23 : jM → jL → Int32 → Option (jM × jL × Int32)) (M : jM) (L : jL) (v4 : Int32) : Option (jM × jL × Int32) :=
  jgI (v4 + 1) ln ((xMarbleBoardLaw_drop M L (xs (v4 + 1).toNatClampNeg)).bind (fun q75 => jgI (v4 + 1) ln ((yMarbleBoardModel_drop (jlo (jcx M q75.1)) (jlo (jcx L q75.2.1)) (xs (v4 + 1).toNatClampNeg)).bind (fun q77 => (yMarbleBoardModel_thrown (jlo (jcy (jcx M q75.1) q77.1)) (jlo (jcy (jcx L q75.2.1) q77.2.1))).bind (fun q78 => if q78.2.2 = q75.2.2 then (if q75.2.2 = 0 then (jgI 0 1 (if (lg_cmp ((jcy (jcy (jcx L q75.2.1) q77.2.1) q78.2.1) 27 (0 : Int32).toNatClampNeg) ((q77.2.2 : Int32).toInt64)) = 0 then (k23 (jcy (jcy (jcx M q75.1) q77.1) q78.1) (jcy (jcy (jcx L q75.2.1) q77.2.1) q78.2.1) (v4 + 6)) else (some ((jcy (jcy (jcx M q75.1) q77.1) q78.1), (jcy (jcy (jcx L q75.2.1) q77.2.1) q78.2.1), 0)))) else (k23 (jcy (jcy (jcx M q75.1) q77.1) q78.1) (jcy (jcy (jcx L q75.2.1) q77.2.1) q78.2.1) (v4 + 6))) else (some ((jcy (jcy (jcx M q75.1) q77.1) q78.1), (jcy (jcy (jcx L q75.2.1) q77.2.1) q78.2.1), 0)))))))
section
variable {p : Program} {l : Launch} {e : Env} {s : State} {m : MethodId} {args : Array Value} {below : List Frame} {meth : Method} {c : Code} {nc ns : Nat} {Q : State → Prop} {D : va_G} {G Gy : jG} {Z : jZt} {A0 : Nat → Prop} {b ln : Nat} {xs : Nat → Int32} {out : jM × jL × Int32}
set_option maxHeartbeats 4000000 in
set_option maxRecDepth 100000 in
theorem law_b775w (C : jCtx p l e room_1 s m args below meth c nc ns Q D (zwt G Gy) (zw G Gy) Z A0 code 7 "MarbleBoardLaw") (C2 : jCtx p l e room_1 s m args below meth c (nc + 1) (ns + 6) Q D (zwt G Gy) (zw G Gy) Z A0 code 7 "MarbleBoardLaw") (hX : va_X b ln xs s s.heap) (hbl : b < s.heap.size) (hbA : ¬ A0 b) (hl9 : l.stackTraces = false) (hout : out.2.2 = 1) (hE : ∀ {nc ns : Nat} (C : jCtx p l e room_1 s m args below meth c nc ns Q D (zwt G Gy) (zw G Gy) Z A0 code 7 "MarbleBoardLaw") (pc : Nat) (lv : List (Nat × Value)) (M : jM) (L : jL), decode code pc = .ok (.ireturn, 1) → jW C pc lv [.int 1] M L) {k23 : jM → jL → Int32 → Option (jM × jL × Int32)} (hk23 : ∀ (M : jM) (L : jL) (v4 : Int32), k23 M L v4 = some out → jW C2 23 [(0, .ref b), (1, .ref (G.1 0)), (2, .ref (Gy.1 0)), (3, .ref (G.1 27)), (4, .int v4)] [] M L) (M : jM) (L : jL) (v4 : Int32) (hf : law_b775 xs ln k23 M L v4 = some out) : jW C 775 [(0, .ref b), (1, .ref (G.1 0)), (2, .ref (Gy.1 0)), (3, .ref (G.1 27)), (4, .int v4)] [] M L := by
  unfold law_b775 at hf
  refine j_aload_n (pc := 775) (i := 1) (x := G.1 0) C d_law_775 rfl 1 rfl ?_
  refine j_aload_n (pc := 776) (i := 0) (x := b) C d_law_776 rfl 0 rfl ?_
  refine j_iload (pc := 777) (i := 4) (x := v4) C d_law_777 4 rfl ?_
  refine j_iconst (pc := 779) (v := 1) C d_law_779 rfl ?_
  refine j_iadd (pc := 780) C d_law_780 ?_
  obtain ⟨h74, hf⟩ := jgI_s hf
  refine jl_sld (pc := 781) C hX hbl hbA h74 d_law_781 ?_
  refine j_aload_n (pc := 782) (i := 3) (x := G.1 27) C d_law_782 rfl 3 rfl ?_
  obtain ⟨q75, q75h, hf⟩ := jb_s hf
  refine jl_callW (pc := 783) (n := 3) (st := []) C [.ref (G.1 0), .int (xs (v4 + 1).toNatClampNeg), .ref (G.1 27)] (xMarbleBoardLaw_drop_c hl9 (j_zl C) q75h) b_759 b_671 b_760 b_761 (by decide +kernel) ⟨Nat.le_of_ble_eq_true rfl, Nat.le_of_ble_eq_true rfl⟩ rfl rfl rfl rfl (Nat.le_of_ble_eq_true rfl) d_law_783 C2 ?_
  refine j_istore (pc := 786) (i := 5) (lv' := [(5, .int q75.2.2), (0, .ref b), (1, .ref (G.1 0)), (2, .ref (Gy.1 0)), (3, .ref (G.1 27)), (4, .int v4)]) C2 d_law_786 (by decide) rfl ?_
  refine j_aload_n (pc := 788) (i := 2) (x := Gy.1 0) C2 d_law_788 rfl 3 rfl ?_
  refine j_aload_n (pc := 789) (i := 0) (x := b) C2 d_law_789 rfl 1 rfl ?_
  refine j_iload (pc := 790) (i := 4) (x := v4) C2 d_law_790 5 rfl ?_
  refine j_iconst (pc := 792) (v := 1) C2 d_law_792 rfl ?_
  refine j_iadd (pc := 793) C2 d_law_793 ?_
  obtain ⟨h76, hf⟩ := jgI_s hf
  refine jl_sld (pc := 794) C2 hX hbl hbA h76 d_law_794 ?_
  obtain ⟨q77, q77h, hf⟩ := jb_s hf
  refine jl_callYi (pc := 795) (n := 1) (st := []) C2 [.int (xs (v4 + 1).toNatClampNeg)] 0 (yw_g0 _ _ _) rfl (yMarbleBoardModel_drop_c (j_zl C2) q77h) b_762 b_537 b_763 b_764 b_765 (by decide +kernel) ⟨Nat.le_of_ble_eq_true rfl, Nat.le_of_ble_eq_true rfl⟩ rfl rfl rfl rfl (Nat.le_of_ble_eq_true rfl) d_law_795 ?_
  refine j_istore (pc := 798) (i := 6) (lv' := [(6, .int q77.2.2), (5, .int q75.2.2), (0, .ref b), (1, .ref (G.1 0)), (2, .ref (Gy.1 0)), (3, .ref (G.1 27)), (4, .int v4)]) C2 d_law_798 (by decide) rfl ?_
  refine j_aload_n (pc := 800) (i := 2) (x := Gy.1 0) C2 d_law_800 rfl 4 rfl ?_
  obtain ⟨q78, q78h, hf⟩ := jb_s hf
  refine jl_callYi (pc := 801) (n := 0) (st := []) C2 [] 0 (yw_g0 _ _ _) rfl (yMarbleBoardModel_thrown_c (j_zl C2) q78h) b_678 b_537 b_679 b_680 b_681 (by decide +kernel) ⟨Nat.le_of_ble_eq_true rfl, Nat.le_of_ble_eq_true rfl⟩ rfl rfl rfl rfl (Nat.le_of_ble_eq_true rfl) d_law_801 ?_
  refine j_iload (pc := 804) (i := 5) (x := q75.2.2) C2 d_law_804 1 rfl ?_
  refine j_icmp_eq (pc := 806) C2 811 d_law_806 rfl (fun h => ?_) (fun h => ?_)
  · have hf := jt h hf
    refine j_iload (pc := 811) (i := 5) (x := q75.2.2) C2 d_law_811 1 rfl ?_
    refine j_if_ne (pc := 813) C2 828 d_law_813 rfl (fun h => ?_) (fun h => ?_)
    · have hf := jf h hf
      refine j_goto (pc := 828) C2 1461 d_law_828 rfl ?_
      refine j_iinc (pc := 1461) (i := 4) (q := 6) (v := (v4 + 6)) (lv' := [(4, .int (v4 + 6)), (6, .int q77.2.2), (5, .int q75.2.2), (0, .ref b), (1, .ref (G.1 0)), (2, .ref (Gy.1 0)), (3, .ref (G.1 27))]) C2 d_law_1461 rfl rfl (by decide) rfl ?_
      refine j_goto (pc := 1464) C2 23 d_law_1464 rfl ?_
      refine j_sub (lv' := [(0, .ref b), (1, .ref (G.1 0)), (2, .ref (Gy.1 0)), (3, .ref (G.1 27)), (4, .int (v4 + 6))]) C2 [3, 4, 5, 6, 0] rfl ?_
      exact hk23 _ _ _ hf
    · have hf := jt h hf
      refine j_aload_n (pc := 816) (i := 3) (x := G.1 27) C2 d_law_816 rfl 5 rfl ?_
      refine j_iconst (pc := 817) (v := 0) C2 d_law_817 rfl ?_
      obtain ⟨h79, hf⟩ := jgI_s hf
      refine j_lald (pc := 818) C2 27 17 (zw_g27 _ _ _ _) rfl h79 d_law_818 ?_
      refine j_iload (pc := 819) (i := 6) (x := q77.2.2) C2 d_law_819 0 rfl ?_
      refine j_i2l (pc := 821) C2 d_law_821 ?_
      refine j_lcmp (pc := 822) C2 d_law_822 ?_
      refine j_if_eq (pc := 823) C2 828 d_law_823 rfl (fun h => ?_) (fun h => ?_)
      · have hf := jt h hf
        refine j_goto (pc := 828) C2 1461 d_law_828 rfl ?_
        refine j_iinc (pc := 1461) (i := 4) (q := 6) (v := (v4 + 6)) (lv' := [(4, .int (v4 + 6)), (6, .int q77.2.2), (5, .int q75.2.2), (0, .ref b), (1, .ref (G.1 0)), (2, .ref (Gy.1 0)), (3, .ref (G.1 27))]) C2 d_law_1461 rfl rfl (by decide) rfl ?_
        refine j_goto (pc := 1464) C2 23 d_law_1464 rfl ?_
        refine j_sub (lv' := [(0, .ref b), (1, .ref (G.1 0)), (2, .ref (Gy.1 0)), (3, .ref (G.1 27)), (4, .int (v4 + 6))]) C2 [3, 4, 5, 6, 0] rfl ?_
        exact hk23 _ _ _ hf
      · have hf := jf h hf
        refine j_iconst (pc := 826) (v := 0) C2 d_law_826 rfl ?_
        exact jl_no hout hf
  · have hf := jf h hf
    refine j_iconst (pc := 809) (v := 0) C2 d_law_809 rfl ?_
    exact jl_no hout hf
end
def law_b831 (xs : Nat → Int32) (ln : Nat) (k23 : jM → jL → Int32 → Option (jM × jL × Int32)) (M : jM) (L : jL) (v4 : Int32) : Option (jM × jL × Int32) :=
  (xMarbleBoardLaw_undo M L).bind (fun q70 => (yMarbleBoardModel_undo (jlo (jcx M q70.1)) (jlo (jcx L q70.2.1))).bind (fun q71 => (yMarbleBoardModel_thrown (jlo (jcy (jcx M q70.1) q71.1)) (jlo (jcy (jcx L q70.2.1) q71.2.1))).bind (fun q72 => if q72.2.2 = q70.2.2 then (if q70.2.2 = 0 then (jgI 0 1 (if q71.2.2 = 0 then (if (lg_cmp ((jcy (jcy (jcx L q70.2.1) q71.2.1) q72.2.1) 27 (0 : Int32).toNatClampNeg) 0) = 0 then (k23 (jcy (jcy (jcx M q70.1) q71.1) q72.1) (jcy (jcy (jcx L q70.2.1) q71.2.1) q72.2.1) (v4 + 6)) else (some ((jcy (jcy (jcx M q70.1) q71.1) q72.1), (jcy (jcy (jcx L q70.2.1) q71.2.1) q72.2.1), 0))) else (if (lg_cmp ((jcy (jcy (jcx L q70.2.1) q71.2.1) q72.2.1) 27 (0 : Int32).toNatClampNeg) 1) = 0 then (k23 (jcy (jcy (jcx M q70.1) q71.1) q72.1) (jcy (jcy (jcx L q70.2.1) q71.2.1) q72.2.1) (v4 + 6)) else (some ((jcy (jcy (jcx M q70.1) q71.1) q72.1), (jcy (jcy (jcx L q70.2.1) q71.2.1) q72.2.1), 0))))) else (k23 (jcy (jcy (jcx M q70.1) q71.1) q72.1) (jcy (jcy (jcx L q70.2.1) q71.2.1) q72.2.1) (v4 + 6))) else (some ((jcy (jcy (jcx M q70.1) q71.1) q72.1), (jcy (jcy (jcx L q70.2.1) q71.2.1) q72.2.1), 0)))))
section
variable {p : Program} {l : Launch} {e : Env} {s : State} {m : MethodId} {args : Array Value} {below : List Frame} {meth : Method} {c : Code} {nc ns : Nat} {Q : State → Prop} {D : va_G} {G Gy : jG} {Z : jZt} {A0 : Nat → Prop} {b ln : Nat} {xs : Nat → Int32} {out : jM × jL × Int32}
set_option maxHeartbeats 4000000 in
set_option maxRecDepth 100000 in
theorem law_b831w (C : jCtx p l e room_1 s m args below meth c nc ns Q D (zwt G Gy) (zw G Gy) Z A0 code 7 "MarbleBoardLaw") (C2 : jCtx p l e room_1 s m args below meth c (nc + 1) (ns + 6) Q D (zwt G Gy) (zw G Gy) Z A0 code 7 "MarbleBoardLaw") (hX : va_X b ln xs s s.heap) (hbl : b < s.heap.size) (hbA : ¬ A0 b) (hl9 : l.stackTraces = false) (hout : out.2.2 = 1) (hE : ∀ {nc ns : Nat} (C : jCtx p l e room_1 s m args below meth c nc ns Q D (zwt G Gy) (zw G Gy) Z A0 code 7 "MarbleBoardLaw") (pc : Nat) (lv : List (Nat × Value)) (M : jM) (L : jL), decode code pc = .ok (.ireturn, 1) → jW C pc lv [.int 1] M L) {k23 : jM → jL → Int32 → Option (jM × jL × Int32)} (hk23 : ∀ (M : jM) (L : jL) (v4 : Int32), k23 M L v4 = some out → jW C2 23 [(0, .ref b), (1, .ref (G.1 0)), (2, .ref (Gy.1 0)), (3, .ref (G.1 27)), (4, .int v4)] [] M L) (M : jM) (L : jL) (v4 : Int32) (hf : law_b831 xs ln k23 M L v4 = some out) : jW C 831 [(0, .ref b), (1, .ref (G.1 0)), (2, .ref (Gy.1 0)), (3, .ref (G.1 27)), (4, .int v4)] [] M L := by
  unfold law_b831 at hf
  refine j_aload_n (pc := 831) (i := 1) (x := G.1 0) C d_law_831 rfl 1 rfl ?_
  refine j_aload_n (pc := 832) (i := 3) (x := G.1 27) C d_law_832 rfl 3 rfl ?_
  obtain ⟨q70, q70h, hf⟩ := jb_s hf
  refine jl_callW (pc := 833) (n := 2) (st := []) C [.ref (G.1 0), .ref (G.1 27)] (xMarbleBoardLaw_undo_c hl9 (j_zl C) q70h) b_752 b_671 b_753 b_754 (by decide +kernel) ⟨Nat.le_of_ble_eq_true rfl, Nat.le_of_ble_eq_true rfl⟩ rfl rfl rfl rfl (Nat.le_of_ble_eq_true rfl) d_law_833 C2 ?_
  refine j_istore (pc := 836) (i := 5) (lv' := [(5, .int q70.2.2), (0, .ref b), (1, .ref (G.1 0)), (2, .ref (Gy.1 0)), (3, .ref (G.1 27)), (4, .int v4)]) C2 d_law_836 (by decide) rfl ?_
  refine j_aload_n (pc := 838) (i := 2) (x := Gy.1 0) C2 d_law_838 rfl 3 rfl ?_
  obtain ⟨q71, q71h, hf⟩ := jb_s hf
  refine jl_callYi (pc := 839) (n := 0) (st := []) C2 [] 0 (yw_g0 _ _ _) rfl (yMarbleBoardModel_undo_c (j_zl C2) q71h) b_755 b_537 b_756 b_757 b_758 (by decide +kernel) ⟨Nat.le_of_ble_eq_true rfl, Nat.le_of_ble_eq_true rfl⟩ rfl rfl rfl rfl (Nat.le_of_ble_eq_true rfl) d_law_839 ?_
  refine j_istore (pc := 842) (i := 6) (lv' := [(6, .int q71.2.2), (5, .int q70.2.2), (0, .ref b), (1, .ref (G.1 0)), (2, .ref (Gy.1 0)), (3, .ref (G.1 27)), (4, .int v4)]) C2 d_law_842 (by decide) rfl ?_
  refine j_aload_n (pc := 844) (i := 2) (x := Gy.1 0) C2 d_law_844 rfl 4 rfl ?_
  obtain ⟨q72, q72h, hf⟩ := jb_s hf
  refine jl_callYi (pc := 845) (n := 0) (st := []) C2 [] 0 (yw_g0 _ _ _) rfl (yMarbleBoardModel_thrown_c (j_zl C2) q72h) b_678 b_537 b_679 b_680 b_681 (by decide +kernel) ⟨Nat.le_of_ble_eq_true rfl, Nat.le_of_ble_eq_true rfl⟩ rfl rfl rfl rfl (Nat.le_of_ble_eq_true rfl) d_law_845 ?_
  refine j_iload (pc := 848) (i := 5) (x := q70.2.2) C2 d_law_848 1 rfl ?_
  refine j_icmp_eq (pc := 850) C2 855 d_law_850 rfl (fun h => ?_) (fun h => ?_)
  · have hf := jt h hf
    refine j_iload (pc := 855) (i := 5) (x := q70.2.2) C2 d_law_855 1 rfl ?_
    refine j_if_ne (pc := 857) C2 879 d_law_857 rfl (fun h => ?_) (fun h => ?_)
    · have hf := jf h hf
      refine j_goto (pc := 879) C2 1461 d_law_879 rfl ?_
      refine j_iinc (pc := 1461) (i := 4) (q := 6) (v := (v4 + 6)) (lv' := [(4, .int (v4 + 6)), (6, .int q71.2.2), (5, .int q70.2.2), (0, .ref b), (1, .ref (G.1 0)), (2, .ref (Gy.1 0)), (3, .ref (G.1 27))]) C2 d_law_1461 rfl rfl (by decide) rfl ?_
      refine j_goto (pc := 1464) C2 23 d_law_1464 rfl ?_
      refine j_sub (lv' := [(0, .ref b), (1, .ref (G.1 0)), (2, .ref (Gy.1 0)), (3, .ref (G.1 27)), (4, .int (v4 + 6))]) C2 [3, 4, 5, 6, 0] rfl ?_
      exact hk23 _ _ _ hf
    · have hf := jt h hf
      refine j_aload_n (pc := 860) (i := 3) (x := G.1 27) C2 d_law_860 rfl 5 rfl ?_
      refine j_iconst (pc := 861) (v := 0) C2 d_law_861 rfl ?_
      obtain ⟨h73, hf⟩ := jgI_s hf
      refine j_lald (pc := 862) C2 27 17 (zw_g27 _ _ _ _) rfl h73 d_law_862 ?_
      refine j_iload (pc := 863) (i := 6) (x := q71.2.2) C2 d_law_863 0 rfl ?_
      refine j_if_eq (pc := 865) C2 872 d_law_865 rfl (fun h => ?_) (fun h => ?_)
      · have hf := jt h hf
        refine j_lconst (pc := 872) (v := 0) C2 d_law_872 rfl ?_
        refine j_lcmp (pc := 873) C2 d_law_873 ?_
        refine j_if_eq (pc := 874) C2 879 d_law_874 rfl (fun h => ?_) (fun h => ?_)
        · have hf := jt h hf
          refine j_goto (pc := 879) C2 1461 d_law_879 rfl ?_
          refine j_iinc (pc := 1461) (i := 4) (q := 6) (v := (v4 + 6)) (lv' := [(4, .int (v4 + 6)), (6, .int q71.2.2), (5, .int q70.2.2), (0, .ref b), (1, .ref (G.1 0)), (2, .ref (Gy.1 0)), (3, .ref (G.1 27))]) C2 d_law_1461 rfl rfl (by decide) rfl ?_
          refine j_goto (pc := 1464) C2 23 d_law_1464 rfl ?_
          refine j_sub (lv' := [(0, .ref b), (1, .ref (G.1 0)), (2, .ref (Gy.1 0)), (3, .ref (G.1 27)), (4, .int (v4 + 6))]) C2 [3, 4, 5, 6, 0] rfl ?_
          exact hk23 _ _ _ hf
        · have hf := jf h hf
          refine j_iconst (pc := 877) (v := 0) C2 d_law_877 rfl ?_
          exact jl_no hout hf
      · have hf := jf h hf
        refine j_lconst (pc := 868) (v := 1) C2 d_law_868 rfl ?_
        refine j_goto (pc := 869) C2 873 d_law_869 rfl ?_
        refine j_lcmp (pc := 873) C2 d_law_873 ?_
        refine j_if_eq (pc := 874) C2 879 d_law_874 rfl (fun h => ?_) (fun h => ?_)
        · have hf := jt h hf
          refine j_goto (pc := 879) C2 1461 d_law_879 rfl ?_
          refine j_iinc (pc := 1461) (i := 4) (q := 6) (v := (v4 + 6)) (lv' := [(4, .int (v4 + 6)), (6, .int q71.2.2), (5, .int q70.2.2), (0, .ref b), (1, .ref (G.1 0)), (2, .ref (Gy.1 0)), (3, .ref (G.1 27))]) C2 d_law_1461 rfl rfl (by decide) rfl ?_
          refine j_goto (pc := 1464) C2 23 d_law_1464 rfl ?_
          refine j_sub (lv' := [(0, .ref b), (1, .ref (G.1 0)), (2, .ref (Gy.1 0)), (3, .ref (G.1 27)), (4, .int (v4 + 6))]) C2 [3, 4, 5, 6, 0] rfl ?_
          exact hk23 _ _ _ hf
        · have hf := jf h hf
          refine j_iconst (pc := 877) (v := 0) C2 d_law_877 rfl ?_
          exact jl_no hout hf
  · have hf := jf h hf
    refine j_iconst (pc := 853) (v := 0) C2 d_law_853 rfl ?_
    exact jl_no hout hf
end
def law_b882 (xs : Nat → Int32) (ln : Nat) (k23 : jM → jL → Int32 → Option (jM × jL × Int32)) (M : jM) (L : jL) (v4 : Int32) : Option (jM × jL × Int32) :=
  jgI (v4 + 1) ln ((xMarbleBoardLaw_count M L (xs (v4 + 1).toNatClampNeg)).bind (fun q65 => jgI (v4 + 1) ln ((yMarbleBoardModel_count (jlo (jcx M q65.1)) (jlo (jcx L q65.2.1)) (xs (v4 + 1).toNatClampNeg)).bind (fun q67 => (yMarbleBoardModel_thrown (jlo (jcy (jcx M q65.1) q67.1)) (jlo (jcy (jcx L q65.2.1) q67.2.1))).bind (fun q68 => if q68.2.2 = q65.2.2 then (if q65.2.2 = 0 then (jgI 0 1 (if (lg_cmp ((jcy (jcy (jcx L q65.2.1) q67.2.1) q68.2.1) 27 (0 : Int32).toNatClampNeg) ((q67.2.2 : Int32).toInt64)) = 0 then (k23 (jcy (jcy (jcx M q65.1) q67.1) q68.1) (jcy (jcy (jcx L q65.2.1) q67.2.1) q68.2.1) (v4 + 6)) else (some ((jcy (jcy (jcx M q65.1) q67.1) q68.1), (jcy (jcy (jcx L q65.2.1) q67.2.1) q68.2.1), 0)))) else (k23 (jcy (jcy (jcx M q65.1) q67.1) q68.1) (jcy (jcy (jcx L q65.2.1) q67.2.1) q68.2.1) (v4 + 6))) else (some ((jcy (jcy (jcx M q65.1) q67.1) q68.1), (jcy (jcy (jcx L q65.2.1) q67.2.1) q68.2.1), 0)))))))
section
variable {p : Program} {l : Launch} {e : Env} {s : State} {m : MethodId} {args : Array Value} {below : List Frame} {meth : Method} {c : Code} {nc ns : Nat} {Q : State → Prop} {D : va_G} {G Gy : jG} {Z : jZt} {A0 : Nat → Prop} {b ln : Nat} {xs : Nat → Int32} {out : jM × jL × Int32}
set_option maxHeartbeats 4000000 in
set_option maxRecDepth 100000 in
theorem law_b882w (C : jCtx p l e room_1 s m args below meth c nc ns Q D (zwt G Gy) (zw G Gy) Z A0 code 7 "MarbleBoardLaw") (C2 : jCtx p l e room_1 s m args below meth c (nc + 1) (ns + 6) Q D (zwt G Gy) (zw G Gy) Z A0 code 7 "MarbleBoardLaw") (hX : va_X b ln xs s s.heap) (hbl : b < s.heap.size) (hbA : ¬ A0 b) (hl9 : l.stackTraces = false) (hout : out.2.2 = 1) (hE : ∀ {nc ns : Nat} (C : jCtx p l e room_1 s m args below meth c nc ns Q D (zwt G Gy) (zw G Gy) Z A0 code 7 "MarbleBoardLaw") (pc : Nat) (lv : List (Nat × Value)) (M : jM) (L : jL), decode code pc = .ok (.ireturn, 1) → jW C pc lv [.int 1] M L) {k23 : jM → jL → Int32 → Option (jM × jL × Int32)} (hk23 : ∀ (M : jM) (L : jL) (v4 : Int32), k23 M L v4 = some out → jW C2 23 [(0, .ref b), (1, .ref (G.1 0)), (2, .ref (Gy.1 0)), (3, .ref (G.1 27)), (4, .int v4)] [] M L) (M : jM) (L : jL) (v4 : Int32) (hf : law_b882 xs ln k23 M L v4 = some out) : jW C 882 [(0, .ref b), (1, .ref (G.1 0)), (2, .ref (Gy.1 0)), (3, .ref (G.1 27)), (4, .int v4)] [] M L := by
  unfold law_b882 at hf
  refine j_aload_n (pc := 882) (i := 1) (x := G.1 0) C d_law_882 rfl 1 rfl ?_
  refine j_aload_n (pc := 883) (i := 0) (x := b) C d_law_883 rfl 0 rfl ?_
  refine j_iload (pc := 884) (i := 4) (x := v4) C d_law_884 4 rfl ?_
  refine j_iconst (pc := 886) (v := 1) C d_law_886 rfl ?_
  refine j_iadd (pc := 887) C d_law_887 ?_
  obtain ⟨h64, hf⟩ := jgI_s hf
  refine jl_sld (pc := 888) C hX hbl hbA h64 d_law_888 ?_
  refine j_aload_n (pc := 889) (i := 3) (x := G.1 27) C d_law_889 rfl 3 rfl ?_
  obtain ⟨q65, q65h, hf⟩ := jb_s hf
  refine jl_callW (pc := 890) (n := 3) (st := []) C [.ref (G.1 0), .int (xs (v4 + 1).toNatClampNeg), .ref (G.1 27)] (xMarbleBoardLaw_count_c hl9 (j_zl C) q65h) b_745 b_671 b_746 b_747 (by decide +kernel) ⟨Nat.le_of_ble_eq_true rfl, Nat.le_of_ble_eq_true rfl⟩ rfl rfl rfl rfl (Nat.le_of_ble_eq_true rfl) d_law_890 C2 ?_
  refine j_istore (pc := 893) (i := 5) (lv' := [(5, .int q65.2.2), (0, .ref b), (1, .ref (G.1 0)), (2, .ref (Gy.1 0)), (3, .ref (G.1 27)), (4, .int v4)]) C2 d_law_893 (by decide) rfl ?_
  refine j_aload_n (pc := 895) (i := 2) (x := Gy.1 0) C2 d_law_895 rfl 3 rfl ?_
  refine j_aload_n (pc := 896) (i := 0) (x := b) C2 d_law_896 rfl 1 rfl ?_
  refine j_iload (pc := 897) (i := 4) (x := v4) C2 d_law_897 5 rfl ?_
  refine j_iconst (pc := 899) (v := 1) C2 d_law_899 rfl ?_
  refine j_iadd (pc := 900) C2 d_law_900 ?_
  obtain ⟨h66, hf⟩ := jgI_s hf
  refine jl_sld (pc := 901) C2 hX hbl hbA h66 d_law_901 ?_
  obtain ⟨q67, q67h, hf⟩ := jb_s hf
  refine jl_callYi (pc := 902) (n := 1) (st := []) C2 [.int (xs (v4 + 1).toNatClampNeg)] 0 (yw_g0 _ _ _) rfl (yMarbleBoardModel_count_c (j_zl C2) q67h) b_748 b_537 b_749 b_750 b_751 (by decide +kernel) ⟨Nat.le_of_ble_eq_true rfl, Nat.le_of_ble_eq_true rfl⟩ rfl rfl rfl rfl (Nat.le_of_ble_eq_true rfl) d_law_902 ?_
  refine j_istore (pc := 905) (i := 6) (lv' := [(6, .int q67.2.2), (5, .int q65.2.2), (0, .ref b), (1, .ref (G.1 0)), (2, .ref (Gy.1 0)), (3, .ref (G.1 27)), (4, .int v4)]) C2 d_law_905 (by decide) rfl ?_
  refine j_aload_n (pc := 907) (i := 2) (x := Gy.1 0) C2 d_law_907 rfl 4 rfl ?_
  obtain ⟨q68, q68h, hf⟩ := jb_s hf
  refine jl_callYi (pc := 908) (n := 0) (st := []) C2 [] 0 (yw_g0 _ _ _) rfl (yMarbleBoardModel_thrown_c (j_zl C2) q68h) b_678 b_537 b_679 b_680 b_681 (by decide +kernel) ⟨Nat.le_of_ble_eq_true rfl, Nat.le_of_ble_eq_true rfl⟩ rfl rfl rfl rfl (Nat.le_of_ble_eq_true rfl) d_law_908 ?_
  refine j_iload (pc := 911) (i := 5) (x := q65.2.2) C2 d_law_911 1 rfl ?_
  refine j_icmp_eq (pc := 913) C2 918 d_law_913 rfl (fun h => ?_) (fun h => ?_)
  · have hf := jt h hf
    refine j_iload (pc := 918) (i := 5) (x := q65.2.2) C2 d_law_918 1 rfl ?_
    refine j_if_ne (pc := 920) C2 935 d_law_920 rfl (fun h => ?_) (fun h => ?_)
    · have hf := jf h hf
      refine j_goto (pc := 935) C2 1461 d_law_935 rfl ?_
      refine j_iinc (pc := 1461) (i := 4) (q := 6) (v := (v4 + 6)) (lv' := [(4, .int (v4 + 6)), (6, .int q67.2.2), (5, .int q65.2.2), (0, .ref b), (1, .ref (G.1 0)), (2, .ref (Gy.1 0)), (3, .ref (G.1 27))]) C2 d_law_1461 rfl rfl (by decide) rfl ?_
      refine j_goto (pc := 1464) C2 23 d_law_1464 rfl ?_
      refine j_sub (lv' := [(0, .ref b), (1, .ref (G.1 0)), (2, .ref (Gy.1 0)), (3, .ref (G.1 27)), (4, .int (v4 + 6))]) C2 [3, 4, 5, 6, 0] rfl ?_
      exact hk23 _ _ _ hf
    · have hf := jt h hf
      refine j_aload_n (pc := 923) (i := 3) (x := G.1 27) C2 d_law_923 rfl 5 rfl ?_
      refine j_iconst (pc := 924) (v := 0) C2 d_law_924 rfl ?_
      obtain ⟨h69, hf⟩ := jgI_s hf
      refine j_lald (pc := 925) C2 27 17 (zw_g27 _ _ _ _) rfl h69 d_law_925 ?_
      refine j_iload (pc := 926) (i := 6) (x := q67.2.2) C2 d_law_926 0 rfl ?_
      refine j_i2l (pc := 928) C2 d_law_928 ?_
      refine j_lcmp (pc := 929) C2 d_law_929 ?_
      refine j_if_eq (pc := 930) C2 935 d_law_930 rfl (fun h => ?_) (fun h => ?_)
      · have hf := jt h hf
        refine j_goto (pc := 935) C2 1461 d_law_935 rfl ?_
        refine j_iinc (pc := 1461) (i := 4) (q := 6) (v := (v4 + 6)) (lv' := [(4, .int (v4 + 6)), (6, .int q67.2.2), (5, .int q65.2.2), (0, .ref b), (1, .ref (G.1 0)), (2, .ref (Gy.1 0)), (3, .ref (G.1 27))]) C2 d_law_1461 rfl rfl (by decide) rfl ?_
        refine j_goto (pc := 1464) C2 23 d_law_1464 rfl ?_
        refine j_sub (lv' := [(0, .ref b), (1, .ref (G.1 0)), (2, .ref (Gy.1 0)), (3, .ref (G.1 27)), (4, .int (v4 + 6))]) C2 [3, 4, 5, 6, 0] rfl ?_
        exact hk23 _ _ _ hf
      · have hf := jf h hf
        refine j_iconst (pc := 933) (v := 0) C2 d_law_933 rfl ?_
        exact jl_no hout hf
  · have hf := jf h hf
    refine j_iconst (pc := 916) (v := 0) C2 d_law_916 rfl ?_
    exact jl_no hout hf
end
def law_b938 (xs : Nat → Int32) (ln : Nat) (k23 : jM → jL → Int32 → Option (jM × jL × Int32)) (M : jM) (L : jL) (v4 : Int32) : Option (jM × jL × Int32) :=
  jgI (v4 + 1) ln ((xMarbleBoardLaw_roll M L (xs (v4 + 1).toNatClampNeg)).bind (fun q59 => jgI (v4 + 1) ln ((yMarbleBoardModel_roll (jlo (jcx M q59.1)) (jlo (jcx L q59.2.1)) (xs (v4 + 1).toNatClampNeg)).bind (fun q61 => (yMarbleBoardModel_thrown (jlo (jcy (jcx M q59.1) q61.1)) (jlo (jcy (jcx L q59.2.1) q61.2.1))).bind (fun q62 => if q62.2.2 = q59.2.2 then (if q59.2.2 = 0 then (jgI 0 1 (if q61.2.2 = 0 then (if (lg_cmp ((jcy (jcy (jcx L q59.2.1) q61.2.1) q62.2.1) 27 (0 : Int32).toNatClampNeg) 0) = 0 then (k23 (jcy (jcy (jcx M q59.1) q61.1) q62.1) (jcy (jcy (jcx L q59.2.1) q61.2.1) q62.2.1) (v4 + 6)) else (some ((jcy (jcy (jcx M q59.1) q61.1) q62.1), (jcy (jcy (jcx L q59.2.1) q61.2.1) q62.2.1), 0))) else (if (lg_cmp ((jcy (jcy (jcx L q59.2.1) q61.2.1) q62.2.1) 27 (0 : Int32).toNatClampNeg) 1) = 0 then (k23 (jcy (jcy (jcx M q59.1) q61.1) q62.1) (jcy (jcy (jcx L q59.2.1) q61.2.1) q62.2.1) (v4 + 6)) else (some ((jcy (jcy (jcx M q59.1) q61.1) q62.1), (jcy (jcy (jcx L q59.2.1) q61.2.1) q62.2.1), 0))))) else (k23 (jcy (jcy (jcx M q59.1) q61.1) q62.1) (jcy (jcy (jcx L q59.2.1) q61.2.1) q62.2.1) (v4 + 6))) else (some ((jcy (jcy (jcx M q59.1) q61.1) q62.1), (jcy (jcy (jcx L q59.2.1) q61.2.1) q62.2.1), 0)))))))
section
variable {p : Program} {l : Launch} {e : Env} {s : State} {m : MethodId} {args : Array Value} {below : List Frame} {meth : Method} {c : Code} {nc ns : Nat} {Q : State → Prop} {D : va_G} {G Gy : jG} {Z : jZt} {A0 : Nat → Prop} {b ln : Nat} {xs : Nat → Int32} {out : jM × jL × Int32}
set_option maxHeartbeats 4000000 in
set_option maxRecDepth 100000 in
theorem law_b938w (C : jCtx p l e room_1 s m args below meth c nc ns Q D (zwt G Gy) (zw G Gy) Z A0 code 7 "MarbleBoardLaw") (C2 : jCtx p l e room_1 s m args below meth c (nc + 1) (ns + 6) Q D (zwt G Gy) (zw G Gy) Z A0 code 7 "MarbleBoardLaw") (hX : va_X b ln xs s s.heap) (hbl : b < s.heap.size) (hbA : ¬ A0 b) (hl9 : l.stackTraces = false) (hout : out.2.2 = 1) (hE : ∀ {nc ns : Nat} (C : jCtx p l e room_1 s m args below meth c nc ns Q D (zwt G Gy) (zw G Gy) Z A0 code 7 "MarbleBoardLaw") (pc : Nat) (lv : List (Nat × Value)) (M : jM) (L : jL), decode code pc = .ok (.ireturn, 1) → jW C pc lv [.int 1] M L) {k23 : jM → jL → Int32 → Option (jM × jL × Int32)} (hk23 : ∀ (M : jM) (L : jL) (v4 : Int32), k23 M L v4 = some out → jW C2 23 [(0, .ref b), (1, .ref (G.1 0)), (2, .ref (Gy.1 0)), (3, .ref (G.1 27)), (4, .int v4)] [] M L) (M : jM) (L : jL) (v4 : Int32) (hf : law_b938 xs ln k23 M L v4 = some out) : jW C 938 [(0, .ref b), (1, .ref (G.1 0)), (2, .ref (Gy.1 0)), (3, .ref (G.1 27)), (4, .int v4)] [] M L := by
  unfold law_b938 at hf
  refine j_aload_n (pc := 938) (i := 1) (x := G.1 0) C d_law_938 rfl 1 rfl ?_
  refine j_aload_n (pc := 939) (i := 0) (x := b) C d_law_939 rfl 0 rfl ?_
  refine j_iload (pc := 940) (i := 4) (x := v4) C d_law_940 4 rfl ?_
  refine j_iconst (pc := 942) (v := 1) C d_law_942 rfl ?_
  refine j_iadd (pc := 943) C d_law_943 ?_
  obtain ⟨h58, hf⟩ := jgI_s hf
  refine jl_sld (pc := 944) C hX hbl hbA h58 d_law_944 ?_
  refine j_aload_n (pc := 945) (i := 3) (x := G.1 27) C d_law_945 rfl 3 rfl ?_
  obtain ⟨q59, q59h, hf⟩ := jb_s hf
  refine jl_callW (pc := 946) (n := 3) (st := []) C [.ref (G.1 0), .int (xs (v4 + 1).toNatClampNeg), .ref (G.1 27)] (xMarbleBoardLaw_roll_c hl9 (j_zl C) q59h) b_738 b_671 b_739 b_740 (by decide +kernel) ⟨Nat.le_of_ble_eq_true rfl, Nat.le_of_ble_eq_true rfl⟩ rfl rfl rfl rfl (Nat.le_of_ble_eq_true rfl) d_law_946 C2 ?_
  refine j_istore (pc := 949) (i := 5) (lv' := [(5, .int q59.2.2), (0, .ref b), (1, .ref (G.1 0)), (2, .ref (Gy.1 0)), (3, .ref (G.1 27)), (4, .int v4)]) C2 d_law_949 (by decide) rfl ?_
  refine j_aload_n (pc := 951) (i := 2) (x := Gy.1 0) C2 d_law_951 rfl 3 rfl ?_
  refine j_aload_n (pc := 952) (i := 0) (x := b) C2 d_law_952 rfl 1 rfl ?_
  refine j_iload (pc := 953) (i := 4) (x := v4) C2 d_law_953 5 rfl ?_
  refine j_iconst (pc := 955) (v := 1) C2 d_law_955 rfl ?_
  refine j_iadd (pc := 956) C2 d_law_956 ?_
  obtain ⟨h60, hf⟩ := jgI_s hf
  refine jl_sld (pc := 957) C2 hX hbl hbA h60 d_law_957 ?_
  obtain ⟨q61, q61h, hf⟩ := jb_s hf
  refine jl_callYi (pc := 958) (n := 1) (st := []) C2 [.int (xs (v4 + 1).toNatClampNeg)] 0 (yw_g0 _ _ _) rfl (yMarbleBoardModel_roll_c (j_zl C2) q61h) b_741 b_537 b_742 b_743 b_744 (by decide +kernel) ⟨Nat.le_of_ble_eq_true rfl, Nat.le_of_ble_eq_true rfl⟩ rfl rfl rfl rfl (Nat.le_of_ble_eq_true rfl) d_law_958 ?_
  refine j_istore (pc := 961) (i := 6) (lv' := [(6, .int q61.2.2), (5, .int q59.2.2), (0, .ref b), (1, .ref (G.1 0)), (2, .ref (Gy.1 0)), (3, .ref (G.1 27)), (4, .int v4)]) C2 d_law_961 (by decide) rfl ?_
  refine j_aload_n (pc := 963) (i := 2) (x := Gy.1 0) C2 d_law_963 rfl 4 rfl ?_
  obtain ⟨q62, q62h, hf⟩ := jb_s hf
  refine jl_callYi (pc := 964) (n := 0) (st := []) C2 [] 0 (yw_g0 _ _ _) rfl (yMarbleBoardModel_thrown_c (j_zl C2) q62h) b_678 b_537 b_679 b_680 b_681 (by decide +kernel) ⟨Nat.le_of_ble_eq_true rfl, Nat.le_of_ble_eq_true rfl⟩ rfl rfl rfl rfl (Nat.le_of_ble_eq_true rfl) d_law_964 ?_
  refine j_iload (pc := 967) (i := 5) (x := q59.2.2) C2 d_law_967 1 rfl ?_
  refine j_icmp_eq (pc := 969) C2 974 d_law_969 rfl (fun h => ?_) (fun h => ?_)
  · have hf := jt h hf
    refine j_iload (pc := 974) (i := 5) (x := q59.2.2) C2 d_law_974 1 rfl ?_
    refine j_if_ne (pc := 976) C2 998 d_law_976 rfl (fun h => ?_) (fun h => ?_)
    · have hf := jf h hf
      refine j_goto (pc := 998) C2 1461 d_law_998 rfl ?_
      refine j_iinc (pc := 1461) (i := 4) (q := 6) (v := (v4 + 6)) (lv' := [(4, .int (v4 + 6)), (6, .int q61.2.2), (5, .int q59.2.2), (0, .ref b), (1, .ref (G.1 0)), (2, .ref (Gy.1 0)), (3, .ref (G.1 27))]) C2 d_law_1461 rfl rfl (by decide) rfl ?_
      refine j_goto (pc := 1464) C2 23 d_law_1464 rfl ?_
      refine j_sub (lv' := [(0, .ref b), (1, .ref (G.1 0)), (2, .ref (Gy.1 0)), (3, .ref (G.1 27)), (4, .int (v4 + 6))]) C2 [3, 4, 5, 6, 0] rfl ?_
      exact hk23 _ _ _ hf
    · have hf := jt h hf
      refine j_aload_n (pc := 979) (i := 3) (x := G.1 27) C2 d_law_979 rfl 5 rfl ?_
      refine j_iconst (pc := 980) (v := 0) C2 d_law_980 rfl ?_
      obtain ⟨h63, hf⟩ := jgI_s hf
      refine j_lald (pc := 981) C2 27 17 (zw_g27 _ _ _ _) rfl h63 d_law_981 ?_
      refine j_iload (pc := 982) (i := 6) (x := q61.2.2) C2 d_law_982 0 rfl ?_
      refine j_if_eq (pc := 984) C2 991 d_law_984 rfl (fun h => ?_) (fun h => ?_)
      · have hf := jt h hf
        refine j_lconst (pc := 991) (v := 0) C2 d_law_991 rfl ?_
        refine j_lcmp (pc := 992) C2 d_law_992 ?_
        refine j_if_eq (pc := 993) C2 998 d_law_993 rfl (fun h => ?_) (fun h => ?_)
        · have hf := jt h hf
          refine j_goto (pc := 998) C2 1461 d_law_998 rfl ?_
          refine j_iinc (pc := 1461) (i := 4) (q := 6) (v := (v4 + 6)) (lv' := [(4, .int (v4 + 6)), (6, .int q61.2.2), (5, .int q59.2.2), (0, .ref b), (1, .ref (G.1 0)), (2, .ref (Gy.1 0)), (3, .ref (G.1 27))]) C2 d_law_1461 rfl rfl (by decide) rfl ?_
          refine j_goto (pc := 1464) C2 23 d_law_1464 rfl ?_
          refine j_sub (lv' := [(0, .ref b), (1, .ref (G.1 0)), (2, .ref (Gy.1 0)), (3, .ref (G.1 27)), (4, .int (v4 + 6))]) C2 [3, 4, 5, 6, 0] rfl ?_
          exact hk23 _ _ _ hf
        · have hf := jf h hf
          refine j_iconst (pc := 996) (v := 0) C2 d_law_996 rfl ?_
          exact jl_no hout hf
      · have hf := jf h hf
        refine j_lconst (pc := 987) (v := 1) C2 d_law_987 rfl ?_
        refine j_goto (pc := 988) C2 992 d_law_988 rfl ?_
        refine j_lcmp (pc := 992) C2 d_law_992 ?_
        refine j_if_eq (pc := 993) C2 998 d_law_993 rfl (fun h => ?_) (fun h => ?_)
        · have hf := jt h hf
          refine j_goto (pc := 998) C2 1461 d_law_998 rfl ?_
          refine j_iinc (pc := 1461) (i := 4) (q := 6) (v := (v4 + 6)) (lv' := [(4, .int (v4 + 6)), (6, .int q61.2.2), (5, .int q59.2.2), (0, .ref b), (1, .ref (G.1 0)), (2, .ref (Gy.1 0)), (3, .ref (G.1 27))]) C2 d_law_1461 rfl rfl (by decide) rfl ?_
          refine j_goto (pc := 1464) C2 23 d_law_1464 rfl ?_
          refine j_sub (lv' := [(0, .ref b), (1, .ref (G.1 0)), (2, .ref (Gy.1 0)), (3, .ref (G.1 27)), (4, .int (v4 + 6))]) C2 [3, 4, 5, 6, 0] rfl ?_
          exact hk23 _ _ _ hf
        · have hf := jf h hf
          refine j_iconst (pc := 996) (v := 0) C2 d_law_996 rfl ?_
          exact jl_no hout hf
  · have hf := jf h hf
    refine j_iconst (pc := 972) (v := 0) C2 d_law_972 rfl ?_
    exact jl_no hout hf
end
def law_b1001 (xs : Nat → Int32) (ln : Nat) (k23 : jM → jL → Int32 → Option (jM × jL × Int32)) (M : jM) (L : jL) (v4 : Int32) : Option (jM × jL × Int32) :=
  jgI (v4 + 1) ln ((xMarbleBoardLaw_tick M L (xs (v4 + 1).toNatClampNeg)).bind (fun q53 => jgI (v4 + 1) ln ((yMarbleBoardModel_tick (jlo (jcx M q53.1)) (jlo (jcx L q53.2.1)) (xs (v4 + 1).toNatClampNeg)).bind (fun q55 => (yMarbleBoardModel_thrown (jlo (jcy (jcx M q53.1) q55.1)) (jlo (jcy (jcx L q53.2.1) q55.2.1))).bind (fun q56 => if q56.2.2 = q53.2.2 then (if q53.2.2 = 0 then (jgI 0 1 (if (lg_cmp ((jcy (jcy (jcx L q53.2.1) q55.2.1) q56.2.1) 27 (0 : Int32).toNatClampNeg) ((q55.2.2 : Int32).toInt64)) = 0 then (k23 (jcy (jcy (jcx M q53.1) q55.1) q56.1) (jcy (jcy (jcx L q53.2.1) q55.2.1) q56.2.1) (v4 + 6)) else (some ((jcy (jcy (jcx M q53.1) q55.1) q56.1), (jcy (jcy (jcx L q53.2.1) q55.2.1) q56.2.1), 0)))) else (k23 (jcy (jcy (jcx M q53.1) q55.1) q56.1) (jcy (jcy (jcx L q53.2.1) q55.2.1) q56.2.1) (v4 + 6))) else (some ((jcy (jcy (jcx M q53.1) q55.1) q56.1), (jcy (jcy (jcx L q53.2.1) q55.2.1) q56.2.1), 0)))))))
section
variable {p : Program} {l : Launch} {e : Env} {s : State} {m : MethodId} {args : Array Value} {below : List Frame} {meth : Method} {c : Code} {nc ns : Nat} {Q : State → Prop} {D : va_G} {G Gy : jG} {Z : jZt} {A0 : Nat → Prop} {b ln : Nat} {xs : Nat → Int32} {out : jM × jL × Int32}
set_option maxHeartbeats 4000000 in
set_option maxRecDepth 100000 in
theorem law_b1001w (C : jCtx p l e room_1 s m args below meth c nc ns Q D (zwt G Gy) (zw G Gy) Z A0 code 7 "MarbleBoardLaw") (C2 : jCtx p l e room_1 s m args below meth c (nc + 1) (ns + 6) Q D (zwt G Gy) (zw G Gy) Z A0 code 7 "MarbleBoardLaw") (hX : va_X b ln xs s s.heap) (hbl : b < s.heap.size) (hbA : ¬ A0 b) (hl9 : l.stackTraces = false) (hout : out.2.2 = 1) (hE : ∀ {nc ns : Nat} (C : jCtx p l e room_1 s m args below meth c nc ns Q D (zwt G Gy) (zw G Gy) Z A0 code 7 "MarbleBoardLaw") (pc : Nat) (lv : List (Nat × Value)) (M : jM) (L : jL), decode code pc = .ok (.ireturn, 1) → jW C pc lv [.int 1] M L) {k23 : jM → jL → Int32 → Option (jM × jL × Int32)} (hk23 : ∀ (M : jM) (L : jL) (v4 : Int32), k23 M L v4 = some out → jW C2 23 [(0, .ref b), (1, .ref (G.1 0)), (2, .ref (Gy.1 0)), (3, .ref (G.1 27)), (4, .int v4)] [] M L) (M : jM) (L : jL) (v4 : Int32) (hf : law_b1001 xs ln k23 M L v4 = some out) : jW C 1001 [(0, .ref b), (1, .ref (G.1 0)), (2, .ref (Gy.1 0)), (3, .ref (G.1 27)), (4, .int v4)] [] M L := by
  unfold law_b1001 at hf
  refine j_aload_n (pc := 1001) (i := 1) (x := G.1 0) C d_law_1001 rfl 1 rfl ?_
  refine j_aload_n (pc := 1002) (i := 0) (x := b) C d_law_1002 rfl 0 rfl ?_
  refine j_iload (pc := 1003) (i := 4) (x := v4) C d_law_1003 4 rfl ?_
  refine j_iconst (pc := 1005) (v := 1) C d_law_1005 rfl ?_
  refine j_iadd (pc := 1006) C d_law_1006 ?_
  obtain ⟨h52, hf⟩ := jgI_s hf
  refine jl_sld (pc := 1007) C hX hbl hbA h52 d_law_1007 ?_
  refine j_aload_n (pc := 1008) (i := 3) (x := G.1 27) C d_law_1008 rfl 3 rfl ?_
  obtain ⟨q53, q53h, hf⟩ := jb_s hf
  refine jl_callW (pc := 1009) (n := 3) (st := []) C [.ref (G.1 0), .int (xs (v4 + 1).toNatClampNeg), .ref (G.1 27)] (xMarbleBoardLaw_tick_c hl9 (j_zl C) q53h) b_731 b_671 b_732 b_733 (by decide +kernel) ⟨Nat.le_of_ble_eq_true rfl, Nat.le_of_ble_eq_true rfl⟩ rfl rfl rfl rfl (Nat.le_of_ble_eq_true rfl) d_law_1009 C2 ?_
  refine j_istore (pc := 1012) (i := 5) (lv' := [(5, .int q53.2.2), (0, .ref b), (1, .ref (G.1 0)), (2, .ref (Gy.1 0)), (3, .ref (G.1 27)), (4, .int v4)]) C2 d_law_1012 (by decide) rfl ?_
  refine j_aload_n (pc := 1014) (i := 2) (x := Gy.1 0) C2 d_law_1014 rfl 3 rfl ?_
  refine j_aload_n (pc := 1015) (i := 0) (x := b) C2 d_law_1015 rfl 1 rfl ?_
  refine j_iload (pc := 1016) (i := 4) (x := v4) C2 d_law_1016 5 rfl ?_
  refine j_iconst (pc := 1018) (v := 1) C2 d_law_1018 rfl ?_
  refine j_iadd (pc := 1019) C2 d_law_1019 ?_
  obtain ⟨h54, hf⟩ := jgI_s hf
  refine jl_sld (pc := 1020) C2 hX hbl hbA h54 d_law_1020 ?_
  obtain ⟨q55, q55h, hf⟩ := jb_s hf
  refine jl_callYi (pc := 1021) (n := 1) (st := []) C2 [.int (xs (v4 + 1).toNatClampNeg)] 0 (yw_g0 _ _ _) rfl (yMarbleBoardModel_tick_c (j_zl C2) q55h) b_734 b_537 b_735 b_736 b_737 (by decide +kernel) ⟨Nat.le_of_ble_eq_true rfl, Nat.le_of_ble_eq_true rfl⟩ rfl rfl rfl rfl (Nat.le_of_ble_eq_true rfl) d_law_1021 ?_
  refine j_istore (pc := 1024) (i := 6) (lv' := [(6, .int q55.2.2), (5, .int q53.2.2), (0, .ref b), (1, .ref (G.1 0)), (2, .ref (Gy.1 0)), (3, .ref (G.1 27)), (4, .int v4)]) C2 d_law_1024 (by decide) rfl ?_
  refine j_aload_n (pc := 1026) (i := 2) (x := Gy.1 0) C2 d_law_1026 rfl 4 rfl ?_
  obtain ⟨q56, q56h, hf⟩ := jb_s hf
  refine jl_callYi (pc := 1027) (n := 0) (st := []) C2 [] 0 (yw_g0 _ _ _) rfl (yMarbleBoardModel_thrown_c (j_zl C2) q56h) b_678 b_537 b_679 b_680 b_681 (by decide +kernel) ⟨Nat.le_of_ble_eq_true rfl, Nat.le_of_ble_eq_true rfl⟩ rfl rfl rfl rfl (Nat.le_of_ble_eq_true rfl) d_law_1027 ?_
  refine j_iload (pc := 1030) (i := 5) (x := q53.2.2) C2 d_law_1030 1 rfl ?_
  refine j_icmp_eq (pc := 1032) C2 1037 d_law_1032 rfl (fun h => ?_) (fun h => ?_)
  · have hf := jt h hf
    refine j_iload (pc := 1037) (i := 5) (x := q53.2.2) C2 d_law_1037 1 rfl ?_
    refine j_if_ne (pc := 1039) C2 1054 d_law_1039 rfl (fun h => ?_) (fun h => ?_)
    · have hf := jf h hf
      refine j_goto (pc := 1054) C2 1461 d_law_1054 rfl ?_
      refine j_iinc (pc := 1461) (i := 4) (q := 6) (v := (v4 + 6)) (lv' := [(4, .int (v4 + 6)), (6, .int q55.2.2), (5, .int q53.2.2), (0, .ref b), (1, .ref (G.1 0)), (2, .ref (Gy.1 0)), (3, .ref (G.1 27))]) C2 d_law_1461 rfl rfl (by decide) rfl ?_
      refine j_goto (pc := 1464) C2 23 d_law_1464 rfl ?_
      refine j_sub (lv' := [(0, .ref b), (1, .ref (G.1 0)), (2, .ref (Gy.1 0)), (3, .ref (G.1 27)), (4, .int (v4 + 6))]) C2 [3, 4, 5, 6, 0] rfl ?_
      exact hk23 _ _ _ hf
    · have hf := jt h hf
      refine j_aload_n (pc := 1042) (i := 3) (x := G.1 27) C2 d_law_1042 rfl 5 rfl ?_
      refine j_iconst (pc := 1043) (v := 0) C2 d_law_1043 rfl ?_
      obtain ⟨h57, hf⟩ := jgI_s hf
      refine j_lald (pc := 1044) C2 27 17 (zw_g27 _ _ _ _) rfl h57 d_law_1044 ?_
      refine j_iload (pc := 1045) (i := 6) (x := q55.2.2) C2 d_law_1045 0 rfl ?_
      refine j_i2l (pc := 1047) C2 d_law_1047 ?_
      refine j_lcmp (pc := 1048) C2 d_law_1048 ?_
      refine j_if_eq (pc := 1049) C2 1054 d_law_1049 rfl (fun h => ?_) (fun h => ?_)
      · have hf := jt h hf
        refine j_goto (pc := 1054) C2 1461 d_law_1054 rfl ?_
        refine j_iinc (pc := 1461) (i := 4) (q := 6) (v := (v4 + 6)) (lv' := [(4, .int (v4 + 6)), (6, .int q55.2.2), (5, .int q53.2.2), (0, .ref b), (1, .ref (G.1 0)), (2, .ref (Gy.1 0)), (3, .ref (G.1 27))]) C2 d_law_1461 rfl rfl (by decide) rfl ?_
        refine j_goto (pc := 1464) C2 23 d_law_1464 rfl ?_
        refine j_sub (lv' := [(0, .ref b), (1, .ref (G.1 0)), (2, .ref (Gy.1 0)), (3, .ref (G.1 27)), (4, .int (v4 + 6))]) C2 [3, 4, 5, 6, 0] rfl ?_
        exact hk23 _ _ _ hf
      · have hf := jf h hf
        refine j_iconst (pc := 1052) (v := 0) C2 d_law_1052 rfl ?_
        exact jl_no hout hf
  · have hf := jf h hf
    refine j_iconst (pc := 1035) (v := 0) C2 d_law_1035 rfl ?_
    exact jl_no hout hf
end
def law_b1057 (xs : Nat → Int32) (ln : Nat) (k23 : jM → jL → Int32 → Option (jM × jL × Int32)) (M : jM) (L : jL) (v4 : Int32) : Option (jM × jL × Int32) :=
  jgI (v4 + 1) ln ((xMarbleBoardLaw_marbles M L (xs (v4 + 1).toNatClampNeg)).bind (fun q47 => jgI (v4 + 1) ln ((yMarbleBoardModel_marbles (jlo (jcx M q47.1)) (jlo (jcx L q47.2.1)) (xs (v4 + 1).toNatClampNeg)).bind (fun q49 => (yMarbleBoardModel_thrown (jlo (jcy (jcx M q47.1) q49.1)) (jlo (jcy (jcx L q47.2.1) q49.2.1))).bind (fun q50 => if q50.2.2 = q47.2.2 then (if q47.2.2 = 0 then (jgI 0 1 (if (lg_cmp ((jcy (jcy (jcx L q47.2.1) q49.2.1) q50.2.1) 27 (0 : Int32).toNatClampNeg) ((q49.2.2 : Int32).toInt64)) = 0 then (k23 (jcy (jcy (jcx M q47.1) q49.1) q50.1) (jcy (jcy (jcx L q47.2.1) q49.2.1) q50.2.1) (v4 + 6)) else (some ((jcy (jcy (jcx M q47.1) q49.1) q50.1), (jcy (jcy (jcx L q47.2.1) q49.2.1) q50.2.1), 0)))) else (k23 (jcy (jcy (jcx M q47.1) q49.1) q50.1) (jcy (jcy (jcx L q47.2.1) q49.2.1) q50.2.1) (v4 + 6))) else (some ((jcy (jcy (jcx M q47.1) q49.1) q50.1), (jcy (jcy (jcx L q47.2.1) q49.2.1) q50.2.1), 0)))))))
section
variable {p : Program} {l : Launch} {e : Env} {s : State} {m : MethodId} {args : Array Value} {below : List Frame} {meth : Method} {c : Code} {nc ns : Nat} {Q : State → Prop} {D : va_G} {G Gy : jG} {Z : jZt} {A0 : Nat → Prop} {b ln : Nat} {xs : Nat → Int32} {out : jM × jL × Int32}
set_option maxHeartbeats 4000000 in
set_option maxRecDepth 100000 in
theorem law_b1057w (C : jCtx p l e room_1 s m args below meth c nc ns Q D (zwt G Gy) (zw G Gy) Z A0 code 7 "MarbleBoardLaw") (C2 : jCtx p l e room_1 s m args below meth c (nc + 1) (ns + 6) Q D (zwt G Gy) (zw G Gy) Z A0 code 7 "MarbleBoardLaw") (hX : va_X b ln xs s s.heap) (hbl : b < s.heap.size) (hbA : ¬ A0 b) (hl9 : l.stackTraces = false) (hout : out.2.2 = 1) (hE : ∀ {nc ns : Nat} (C : jCtx p l e room_1 s m args below meth c nc ns Q D (zwt G Gy) (zw G Gy) Z A0 code 7 "MarbleBoardLaw") (pc : Nat) (lv : List (Nat × Value)) (M : jM) (L : jL), decode code pc = .ok (.ireturn, 1) → jW C pc lv [.int 1] M L) {k23 : jM → jL → Int32 → Option (jM × jL × Int32)} (hk23 : ∀ (M : jM) (L : jL) (v4 : Int32), k23 M L v4 = some out → jW C2 23 [(0, .ref b), (1, .ref (G.1 0)), (2, .ref (Gy.1 0)), (3, .ref (G.1 27)), (4, .int v4)] [] M L) (M : jM) (L : jL) (v4 : Int32) (hf : law_b1057 xs ln k23 M L v4 = some out) : jW C 1057 [(0, .ref b), (1, .ref (G.1 0)), (2, .ref (Gy.1 0)), (3, .ref (G.1 27)), (4, .int v4)] [] M L := by
  unfold law_b1057 at hf
  refine j_aload_n (pc := 1057) (i := 1) (x := G.1 0) C d_law_1057 rfl 1 rfl ?_
  refine j_aload_n (pc := 1058) (i := 0) (x := b) C d_law_1058 rfl 0 rfl ?_
  refine j_iload (pc := 1059) (i := 4) (x := v4) C d_law_1059 4 rfl ?_
  refine j_iconst (pc := 1061) (v := 1) C d_law_1061 rfl ?_
  refine j_iadd (pc := 1062) C d_law_1062 ?_
  obtain ⟨h46, hf⟩ := jgI_s hf
  refine jl_sld (pc := 1063) C hX hbl hbA h46 d_law_1063 ?_
  refine j_aload_n (pc := 1064) (i := 3) (x := G.1 27) C d_law_1064 rfl 3 rfl ?_
  obtain ⟨q47, q47h, hf⟩ := jb_s hf
  refine jl_callW (pc := 1065) (n := 3) (st := []) C [.ref (G.1 0), .int (xs (v4 + 1).toNatClampNeg), .ref (G.1 27)] (xMarbleBoardLaw_marbles_c hl9 (j_zl C) q47h) b_724 b_671 b_725 b_726 (by decide +kernel) ⟨Nat.le_of_ble_eq_true rfl, Nat.le_of_ble_eq_true rfl⟩ rfl rfl rfl rfl (Nat.le_of_ble_eq_true rfl) d_law_1065 C2 ?_
  refine j_istore (pc := 1068) (i := 5) (lv' := [(5, .int q47.2.2), (0, .ref b), (1, .ref (G.1 0)), (2, .ref (Gy.1 0)), (3, .ref (G.1 27)), (4, .int v4)]) C2 d_law_1068 (by decide) rfl ?_
  refine j_aload_n (pc := 1070) (i := 2) (x := Gy.1 0) C2 d_law_1070 rfl 3 rfl ?_
  refine j_aload_n (pc := 1071) (i := 0) (x := b) C2 d_law_1071 rfl 1 rfl ?_
  refine j_iload (pc := 1072) (i := 4) (x := v4) C2 d_law_1072 5 rfl ?_
  refine j_iconst (pc := 1074) (v := 1) C2 d_law_1074 rfl ?_
  refine j_iadd (pc := 1075) C2 d_law_1075 ?_
  obtain ⟨h48, hf⟩ := jgI_s hf
  refine jl_sld (pc := 1076) C2 hX hbl hbA h48 d_law_1076 ?_
  obtain ⟨q49, q49h, hf⟩ := jb_s hf
  refine jl_callYi (pc := 1077) (n := 1) (st := []) C2 [.int (xs (v4 + 1).toNatClampNeg)] 0 (yw_g0 _ _ _) rfl (yMarbleBoardModel_marbles_c (j_zl C2) q49h) b_727 b_537 b_728 b_729 b_730 (by decide +kernel) ⟨Nat.le_of_ble_eq_true rfl, Nat.le_of_ble_eq_true rfl⟩ rfl rfl rfl rfl (Nat.le_of_ble_eq_true rfl) d_law_1077 ?_
  refine j_istore (pc := 1080) (i := 6) (lv' := [(6, .int q49.2.2), (5, .int q47.2.2), (0, .ref b), (1, .ref (G.1 0)), (2, .ref (Gy.1 0)), (3, .ref (G.1 27)), (4, .int v4)]) C2 d_law_1080 (by decide) rfl ?_
  refine j_aload_n (pc := 1082) (i := 2) (x := Gy.1 0) C2 d_law_1082 rfl 4 rfl ?_
  obtain ⟨q50, q50h, hf⟩ := jb_s hf
  refine jl_callYi (pc := 1083) (n := 0) (st := []) C2 [] 0 (yw_g0 _ _ _) rfl (yMarbleBoardModel_thrown_c (j_zl C2) q50h) b_678 b_537 b_679 b_680 b_681 (by decide +kernel) ⟨Nat.le_of_ble_eq_true rfl, Nat.le_of_ble_eq_true rfl⟩ rfl rfl rfl rfl (Nat.le_of_ble_eq_true rfl) d_law_1083 ?_
  refine j_iload (pc := 1086) (i := 5) (x := q47.2.2) C2 d_law_1086 1 rfl ?_
  refine j_icmp_eq (pc := 1088) C2 1093 d_law_1088 rfl (fun h => ?_) (fun h => ?_)
  · have hf := jt h hf
    refine j_iload (pc := 1093) (i := 5) (x := q47.2.2) C2 d_law_1093 1 rfl ?_
    refine j_if_ne (pc := 1095) C2 1110 d_law_1095 rfl (fun h => ?_) (fun h => ?_)
    · have hf := jf h hf
      refine j_goto (pc := 1110) C2 1461 d_law_1110 rfl ?_
      refine j_iinc (pc := 1461) (i := 4) (q := 6) (v := (v4 + 6)) (lv' := [(4, .int (v4 + 6)), (6, .int q49.2.2), (5, .int q47.2.2), (0, .ref b), (1, .ref (G.1 0)), (2, .ref (Gy.1 0)), (3, .ref (G.1 27))]) C2 d_law_1461 rfl rfl (by decide) rfl ?_
      refine j_goto (pc := 1464) C2 23 d_law_1464 rfl ?_
      refine j_sub (lv' := [(0, .ref b), (1, .ref (G.1 0)), (2, .ref (Gy.1 0)), (3, .ref (G.1 27)), (4, .int (v4 + 6))]) C2 [3, 4, 5, 6, 0] rfl ?_
      exact hk23 _ _ _ hf
    · have hf := jt h hf
      refine j_aload_n (pc := 1098) (i := 3) (x := G.1 27) C2 d_law_1098 rfl 5 rfl ?_
      refine j_iconst (pc := 1099) (v := 0) C2 d_law_1099 rfl ?_
      obtain ⟨h51, hf⟩ := jgI_s hf
      refine j_lald (pc := 1100) C2 27 17 (zw_g27 _ _ _ _) rfl h51 d_law_1100 ?_
      refine j_iload (pc := 1101) (i := 6) (x := q49.2.2) C2 d_law_1101 0 rfl ?_
      refine j_i2l (pc := 1103) C2 d_law_1103 ?_
      refine j_lcmp (pc := 1104) C2 d_law_1104 ?_
      refine j_if_eq (pc := 1105) C2 1110 d_law_1105 rfl (fun h => ?_) (fun h => ?_)
      · have hf := jt h hf
        refine j_goto (pc := 1110) C2 1461 d_law_1110 rfl ?_
        refine j_iinc (pc := 1461) (i := 4) (q := 6) (v := (v4 + 6)) (lv' := [(4, .int (v4 + 6)), (6, .int q49.2.2), (5, .int q47.2.2), (0, .ref b), (1, .ref (G.1 0)), (2, .ref (Gy.1 0)), (3, .ref (G.1 27))]) C2 d_law_1461 rfl rfl (by decide) rfl ?_
        refine j_goto (pc := 1464) C2 23 d_law_1464 rfl ?_
        refine j_sub (lv' := [(0, .ref b), (1, .ref (G.1 0)), (2, .ref (Gy.1 0)), (3, .ref (G.1 27)), (4, .int (v4 + 6))]) C2 [3, 4, 5, 6, 0] rfl ?_
        exact hk23 _ _ _ hf
      · have hf := jf h hf
        refine j_iconst (pc := 1108) (v := 0) C2 d_law_1108 rfl ?_
        exact jl_no hout hf
  · have hf := jf h hf
    refine j_iconst (pc := 1091) (v := 0) C2 d_law_1091 rfl ?_
    exact jl_no hout hf
end
