theorem wp_X7_all {G : GV} {k : Nat} {M : Mem} {q : Int32 → Mem → Prop}  (h : q ((1 <<< ((M.1 6 8) &&& 31)) - 1) M) : Ci shC G mX7_all k [.ref (G.2.1 9)] M q := by
  unfold Ci
  show V _ _ _ _ _ [(0, .ref (G.2.1 9))] _ _ _
  refine V_iconst (v := 1) (pc := 0) dX7_all_0 rfl ?_
  refine V_aload_n (pc := 1) dX7_all_1 rfl ?_
  refine V_getR (pc := 2) fX7_29 sC9 rfl dX7_all_2 ?_
  refine V_getI (pc := 5) fX7_40 sC6 rfl dX7_all_5 ?_
  refine V_ishl (pc := 8) dX7_all_8 ?_
  refine V_iconst (v := 1) (pc := 9) dX7_all_9 rfl ?_
  refine V_isub (pc := 10) dX7_all_10 ?_
  exact V_iret dX7_all_11 rfl h
theorem wp_X7_friendsOf {G : GV} {k : Nat} {M : Mem} {q : Int32 → Mem → Prop} {v1 : Int32} (h : Ci shC G mJ6_bitCount_0f7a4 k [.int (v1 - 1)] M (fun x1 M1 => ((12 ≤ x1 → q 0 M1) ∧ (¬ 12 ≤ x1 → vp_in x1 12 ∧ q (M1.1 40 (ix x1)) M1)))) : Ci shC G mX7_friendsOf (k + 1) [.ref (G.2.1 9), .int v1] M q := by
  unfold Ci
  show V _ _ _ _ _ [(0, .ref (G.2.1 9)), (1, .int v1)] _ _ _
  refine V_iload_n (pc := 0) dX7_friendsOf_0 rfl ?_
  refine V_iconst (v := 1) (pc := 1) dX7_friendsOf_1 rfl ?_
  refine V_isub (pc := 2) dX7_friendsOf_2 ?_
  refine V_callSi [.int (v1 - 1)] (pc := 3) kJ6_bitCount_0f7a4 lX7_46 rfl (Nat.le_of_ble_eq_true rfl) rfl (Nat.le_of_ble_eq_true rfl) dX7_friendsOf_3 ?_
  refine Ci.mono h ?_
  intro x1 M1 h
  refine V_istore_n (pc := 6) dX7_friendsOf_6 (by decide) ?_
  refine V_lv (lv2 := [(0, .ref (G.2.1 9)), (1, .int v1), (2, .int x1)]) rfl ?_
  refine V_iload_n (pc := 7) dX7_friendsOf_7 rfl ?_
  refine V_bipush (v := 12) (pc := 8) dX7_friendsOf_8 rfl ?_
  refine V_icmp_ge (tgt := 22) (pc := 10) dX7_friendsOf_10 rfl (fun c => ?_) (fun c => ?_)
  · have h := h.1 c
    refine V_iconst (v := 0) (pc := 22) dX7_friendsOf_22 rfl ?_
    exact V_iret dX7_friendsOf_23 rfl h
  · have h := h.2 c
    refine V_aload_n (pc := 13) dX7_friendsOf_13 rfl ?_
    refine V_getR (pc := 14) fX7_9 sC9 rfl dX7_friendsOf_14 ?_
    refine V_iload_n (pc := 17) dX7_friendsOf_17 rfl ?_
    refine V_iald (pc := 18) sC40 dX7_friendsOf_18 h.1 ?_
    have h := h.2
    refine V_goto (tgt := 23) (pc := 19) dX7_friendsOf_19 rfl ?_
    exact V_iret dX7_friendsOf_23 rfl h
theorem wp_X7_isOne {G : GV} {k : Nat} {M : Mem} {q : Int32 → Mem → Prop} {v1 : Int32} (h : Ci shC G mX7_friendsOf (k + 1) [.ref (G.2.1 9), .int (v1 &&& (-v1))] M (fun x1 M1 => ((((v1 &&& ((v1 &&& (-v1)) ^^^ (-1))) &&& (x1 ^^^ (-1))) ≠ 0 → q 0 M1) ∧ (((v1 &&& ((v1 &&& (-v1)) ^^^ (-1))) &&& (x1 ^^^ (-1))) = 0 → vp_in (v1 &&& ((v1 &&& (-v1)) ^^^ (-1))) 4096 ∧ ((1 < (M1.1 42 (ix (v1 &&& ((v1 &&& (-v1)) ^^^ (-1))))) → q 0 M1) ∧ (¬ 1 < (M1.1 42 (ix (v1 &&& ((v1 &&& (-v1)) ^^^ (-1))))) → q 1 M1)))))) : Ci shC G mX7_isOne (k + 2) [.ref (G.2.1 9), .int v1] M q := by
  unfold Ci
  show V _ _ _ _ _ [(0, .ref (G.2.1 9)), (1, .int v1)] _ _ _
  refine V_iload_n (pc := 0) dX7_isOne_0 rfl ?_
  refine V_iload_n (pc := 1) dX7_isOne_1 rfl ?_
  refine V_ineg (pc := 2) dX7_isOne_2 ?_
  refine V_iand (pc := 3) dX7_isOne_3 ?_
  refine V_istore_n (pc := 4) dX7_isOne_4 (by decide) ?_
  refine V_lv (lv2 := [(0, .ref (G.2.1 9)), (1, .int v1), (2, .int (v1 &&& (-v1)))]) rfl ?_
  refine V_iload_n (pc := 5) dX7_isOne_5 rfl ?_
  refine V_iload_n (pc := 6) dX7_isOne_6 rfl ?_
  refine V_iconst (v := (-1)) (pc := 7) dX7_isOne_7 rfl ?_
  refine V_ixor (pc := 8) dX7_isOne_8 ?_
  refine V_iand (pc := 9) dX7_isOne_9 ?_
  refine V_istore_n (pc := 10) dX7_isOne_10 (by decide) ?_
  refine V_lv (lv2 := [(0, .ref (G.2.1 9)), (1, .int v1), (2, .int (v1 &&& (-v1))), (3, .int (v1 &&& ((v1 &&& (-v1)) ^^^ (-1))))]) rfl ?_
  refine V_iload_n (pc := 11) dX7_isOne_11 rfl ?_
  refine V_aload_n (pc := 12) dX7_isOne_12 rfl ?_
  refine V_iload_n (pc := 13) dX7_isOne_13 rfl ?_
  refine V_callVi [.int (v1 &&& (-v1))] (pc := 14) kX7_friendsOf lX7_79 sC9 rfl rfl (Nat.le_of_ble_eq_true rfl) rfl (Nat.le_of_ble_eq_true rfl) dX7_isOne_14 ?_
  refine Ci.mono h ?_
  intro x1 M1 h
  refine V_iconst (v := (-1)) (pc := 17) dX7_isOne_17 rfl ?_
  refine V_ixor (pc := 18) dX7_isOne_18 ?_
  refine V_iand (pc := 19) dX7_isOne_19 ?_
  refine V_if_ne (tgt := 37) (pc := 20) dX7_isOne_20 rfl (fun c => ?_) (fun c => ?_)
  · have h := h.1 c
    refine V_iconst (v := 0) (pc := 37) dX7_isOne_37 rfl ?_
    exact V_zret dX7_isOne_38 rfl (Or.inl rfl) h
  · have h := h.2 c
    refine V_aload_n (pc := 23) dX7_isOne_23 rfl ?_
    refine V_getR (pc := 24) fX7_18 sC9 rfl dX7_isOne_24 ?_
    refine V_iload_n (pc := 27) dX7_isOne_27 rfl ?_
    refine V_bald (pc := 28) sC42 dX7_isOne_28 h.1 ?_
    have h := h.2
    refine V_iconst (v := 1) (pc := 29) dX7_isOne_29 rfl ?_
    refine V_icmp_gt (tgt := 37) (pc := 30) dX7_isOne_30 rfl (fun c => ?_) (fun c => ?_)
    · have h := h.1 c
      refine V_iconst (v := 0) (pc := 37) dX7_isOne_37 rfl ?_
      exact V_zret dX7_isOne_38 rfl (Or.inl rfl) h
    · have h := h.2 c
      refine V_iconst (v := 1) (pc := 33) dX7_isOne_33 rfl ?_
      refine V_goto (tgt := 38) (pc := 34) dX7_isOne_34 rfl ?_
      exact V_zret dX7_isOne_38 rfl (Or.inr rfl) h
theorem wp_X7_partSet {G : GV} {k : Nat} {M : Mem} {q : Mem → Prop} {v1 : Int32} (h : Ci shC G mX7_friendsOf (k + 1) [.ref (G.2.1 9), .int (v1 &&& (-v1))] M (fun x1 M1 => ((((v1 &&& ((v1 &&& (-v1)) ^^^ (-1))) &&& x1) ≠ (v1 &&& ((v1 &&& (-v1)) ^^^ (-1))) → vp_in (v1 &&& ((v1 &&& (-v1)) ^^^ (-1))) 4096 ∧ vp_in (v1 &&& ((v1 &&& (-v1)) ^^^ (-1))) 4096 ∧ V shC G mX7_partSet (k + 2) 92 [(0, .ref (G.2.1 9)), (1, .int v1), (2, .int (v1 &&& (-v1))), (3, .int (v1 &&& ((v1 &&& (-v1)) ^^^ (-1)))), (4, .int ((v1 &&& ((v1 &&& (-v1)) ^^^ (-1))) &&& x1)), (5, .int 0), (6, .int ((M1.1 42 (ix (v1 &&& ((v1 &&& (-v1)) ^^^ (-1))))) + 1)), (7, .int (M1.1 43 (ix (v1 &&& ((v1 &&& (-v1)) ^^^ (-1)))))), (8, .int ((v1 &&& ((v1 &&& (-v1)) ^^^ (-1))) &&& x1))] [] M1 (Qv q)) ∧ (((v1 &&& ((v1 &&& (-v1)) ^^^ (-1))) &&& x1) = (v1 &&& ((v1 &&& (-v1)) ^^^ (-1))) → vp_in (v1 &&& ((v1 &&& (-v1)) ^^^ (-1))) 4096 ∧ ((1 < (M1.1 42 (ix (v1 &&& ((v1 &&& (-v1)) ^^^ (-1))))) → vp_in (v1 &&& ((v1 &&& (-v1)) ^^^ (-1))) 4096 ∧ vp_in (v1 &&& ((v1 &&& (-v1)) ^^^ (-1))) 4096 ∧ V shC G mX7_partSet (k + 2) 92 [(0, .ref (G.2.1 9)), (1, .int v1), (2, .int (v1 &&& (-v1))), (3, .int (v1 &&& ((v1 &&& (-v1)) ^^^ (-1)))), (4, .int ((v1 &&& ((v1 &&& (-v1)) ^^^ (-1))) &&& x1)), (5, .int 0), (6, .int ((M1.1 42 (ix (v1 &&& ((v1 &&& (-v1)) ^^^ (-1))))) + 1)), (7, .int (M1.1 43 (ix (v1 &&& ((v1 &&& (-v1)) ^^^ (-1)))))), (8, .int ((v1 &&& ((v1 &&& (-v1)) ^^^ (-1))) &&& x1))] [] M1 (Qv q)) ∧ (¬ 1 < (M1.1 42 (ix (v1 &&& ((v1 &&& (-v1)) ^^^ (-1))))) → V shC G mX7_partSet (k + 2) 92 [(0, .ref (G.2.1 9)), (1, .int v1), (2, .int (v1 &&& (-v1))), (3, .int (v1 &&& ((v1 &&& (-v1)) ^^^ (-1)))), (4, .int ((v1 &&& ((v1 &&& (-v1)) ^^^ (-1))) &&& x1)), (5, .int 1), (6, .int 1), (7, .int 1), (8, .int 0)] [] M1 (Qv q))))))) : Cv shC G mX7_partSet (k + 2) [.ref (G.2.1 9), .int v1] M q := by
  unfold Cv
  show V _ _ _ _ _ [(0, .ref (G.2.1 9)), (1, .int v1)] _ _ _
  refine V_iload_n (pc := 0) dX7_partSet_0 rfl ?_
  refine V_iload_n (pc := 1) dX7_partSet_1 rfl ?_
  refine V_ineg (pc := 2) dX7_partSet_2 ?_
  refine V_iand (pc := 3) dX7_partSet_3 ?_
  refine V_istore_n (pc := 4) dX7_partSet_4 (by decide) ?_
  refine V_lv (lv2 := [(0, .ref (G.2.1 9)), (1, .int v1), (2, .int (v1 &&& (-v1)))]) rfl ?_
  refine V_iload_n (pc := 5) dX7_partSet_5 rfl ?_
  refine V_iload_n (pc := 6) dX7_partSet_6 rfl ?_
  refine V_iconst (v := (-1)) (pc := 7) dX7_partSet_7 rfl ?_
  refine V_ixor (pc := 8) dX7_partSet_8 ?_
  refine V_iand (pc := 9) dX7_partSet_9 ?_
  refine V_istore_n (pc := 10) dX7_partSet_10 (by decide) ?_
  refine V_lv (lv2 := [(0, .ref (G.2.1 9)), (1, .int v1), (2, .int (v1 &&& (-v1))), (3, .int (v1 &&& ((v1 &&& (-v1)) ^^^ (-1))))]) rfl ?_
  refine V_iload_n (pc := 11) dX7_partSet_11 rfl ?_
  refine V_aload_n (pc := 12) dX7_partSet_12 rfl ?_
  refine V_iload_n (pc := 13) dX7_partSet_13 rfl ?_
  refine V_callVi [.int (v1 &&& (-v1))] (pc := 14) kX7_friendsOf lX7_79 sC9 rfl rfl (Nat.le_of_ble_eq_true rfl) rfl (Nat.le_of_ble_eq_true rfl) dX7_partSet_14 ?_
  refine Ci.mono h ?_
  intro x1 M1 h
  refine V_iand (pc := 17) dX7_partSet_17 ?_
  refine V_istore (pc := 18) dX7_partSet_18 (by decide) ?_
  refine V_lv (lv2 := [(0, .ref (G.2.1 9)), (1, .int v1), (2, .int (v1 &&& (-v1))), (3, .int (v1 &&& ((v1 &&& (-v1)) ^^^ (-1)))), (4, .int ((v1 &&& ((v1 &&& (-v1)) ^^^ (-1))) &&& x1))]) rfl ?_
  refine V_iload (pc := 20) dX7_partSet_20 rfl ?_
  refine V_iload_n (pc := 22) dX7_partSet_22 rfl ?_
  refine V_icmp_ne (tgt := 40) (pc := 23) dX7_partSet_23 rfl (fun c => ?_) (fun c => ?_)
  · have h := h.1 c
    refine V_iconst (v := 0) (pc := 40) dX7_partSet_40 rfl ?_
    refine V_istore (pc := 41) dX7_partSet_41 (by decide) ?_
    refine V_lv (lv2 := [(0, .ref (G.2.1 9)), (1, .int v1), (2, .int (v1 &&& (-v1))), (3, .int (v1 &&& ((v1 &&& (-v1)) ^^^ (-1)))), (4, .int ((v1 &&& ((v1 &&& (-v1)) ^^^ (-1))) &&& x1)), (5, .int 0)]) rfl ?_
    refine V_iload (pc := 43) dX7_partSet_43 rfl ?_
    refine V_if_eq (tgt := 52) (pc := 45) dX7_partSet_45 rfl (fun c => ?_) (fun c => ?_)
    · skip
      refine V_aload_n (pc := 52) dX7_partSet_52 rfl ?_
      refine V_getR (pc := 53) fX7_18 sC9 rfl dX7_partSet_53 ?_
      refine V_iload_n (pc := 56) dX7_partSet_56 rfl ?_
      refine V_bald (pc := 57) sC42 dX7_partSet_57 h.1 ?_
      have h := h.2
      refine V_iconst (v := 1) (pc := 58) dX7_partSet_58 rfl ?_
      refine V_iadd (pc := 59) dX7_partSet_59 ?_
      refine V_istore (pc := 60) dX7_partSet_60 (by decide) ?_
      refine V_lv (lv2 := [(0, .ref (G.2.1 9)), (1, .int v1), (2, .int (v1 &&& (-v1))), (3, .int (v1 &&& ((v1 &&& (-v1)) ^^^ (-1)))), (4, .int ((v1 &&& ((v1 &&& (-v1)) ^^^ (-1))) &&& x1)), (5, .int 0), (6, .int ((M1.1 42 (ix (v1 &&& ((v1 &&& (-v1)) ^^^ (-1))))) + 1))]) rfl ?_
      refine V_iload (pc := 62) dX7_partSet_62 rfl ?_
      refine V_if_eq (tgt := 71) (pc := 64) dX7_partSet_64 rfl (fun c => ?_) (fun c => ?_)
      · skip
        refine V_aload_n (pc := 71) dX7_partSet_71 rfl ?_
        refine V_getR (pc := 72) fX7_22 sC9 rfl dX7_partSet_72 ?_
        refine V_iload_n (pc := 75) dX7_partSet_75 rfl ?_
        refine V_iald (pc := 76) sC43 dX7_partSet_76 h.1 ?_
        have h := h.2
        refine V_istore (pc := 77) dX7_partSet_77 (by decide) ?_
        refine V_lv (lv2 := [(0, .ref (G.2.1 9)), (1, .int v1), (2, .int (v1 &&& (-v1))), (3, .int (v1 &&& ((v1 &&& (-v1)) ^^^ (-1)))), (4, .int ((v1 &&& ((v1 &&& (-v1)) ^^^ (-1))) &&& x1)), (5, .int 0), (6, .int ((M1.1 42 (ix (v1 &&& ((v1 &&& (-v1)) ^^^ (-1))))) + 1)), (7, .int (M1.1 43 (ix (v1 &&& ((v1 &&& (-v1)) ^^^ (-1))))))]) rfl ?_
        refine V_iload (pc := 79) dX7_partSet_79 rfl ?_
        refine V_if_eq (tgt := 88) (pc := 81) dX7_partSet_81 rfl (fun c => ?_) (fun c => ?_)
        · skip
          refine V_iload (pc := 88) dX7_partSet_88 rfl ?_
          refine V_istore (pc := 90) dX7_partSet_90 (by decide) ?_
          refine V_lv (lv2 := [(0, .ref (G.2.1 9)), (1, .int v1), (2, .int (v1 &&& (-v1))), (3, .int (v1 &&& ((v1 &&& (-v1)) ^^^ (-1)))), (4, .int ((v1 &&& ((v1 &&& (-v1)) ^^^ (-1))) &&& x1)), (5, .int 0), (6, .int ((M1.1 42 (ix (v1 &&& ((v1 &&& (-v1)) ^^^ (-1))))) + 1)), (7, .int (M1.1 43 (ix (v1 &&& ((v1 &&& (-v1)) ^^^ (-1)))))), (8, .int ((v1 &&& ((v1 &&& (-v1)) ^^^ (-1))) &&& x1))]) rfl ?_
          exact V_sub h ⟨rfl, rfl, rfl, rfl, rfl, rfl, rfl, rfl, rfl, trivial⟩
        · exact absurd c (by decide)
      · exact absurd c (by decide)
    · exact absurd c (by decide)
  · have h := h.2 c
    refine V_aload_n (pc := 26) dX7_partSet_26 rfl ?_
    refine V_getR (pc := 27) fX7_18 sC9 rfl dX7_partSet_27 ?_
    refine V_iload_n (pc := 30) dX7_partSet_30 rfl ?_
    refine V_bald (pc := 31) sC42 dX7_partSet_31 h.1 ?_
    have h := h.2
    refine V_iconst (v := 1) (pc := 32) dX7_partSet_32 rfl ?_
    refine V_icmp_gt (tgt := 40) (pc := 33) dX7_partSet_33 rfl (fun c => ?_) (fun c => ?_)
    · have h := h.1 c
      refine V_iconst (v := 0) (pc := 40) dX7_partSet_40 rfl ?_
      refine V_istore (pc := 41) dX7_partSet_41 (by decide) ?_
      refine V_lv (lv2 := [(0, .ref (G.2.1 9)), (1, .int v1), (2, .int (v1 &&& (-v1))), (3, .int (v1 &&& ((v1 &&& (-v1)) ^^^ (-1)))), (4, .int ((v1 &&& ((v1 &&& (-v1)) ^^^ (-1))) &&& x1)), (5, .int 0)]) rfl ?_
      refine V_iload (pc := 43) dX7_partSet_43 rfl ?_
      refine V_if_eq (tgt := 52) (pc := 45) dX7_partSet_45 rfl (fun c => ?_) (fun c => ?_)
      · skip
        refine V_aload_n (pc := 52) dX7_partSet_52 rfl ?_
        refine V_getR (pc := 53) fX7_18 sC9 rfl dX7_partSet_53 ?_
        refine V_iload_n (pc := 56) dX7_partSet_56 rfl ?_
        refine V_bald (pc := 57) sC42 dX7_partSet_57 h.1 ?_
        have h := h.2
        refine V_iconst (v := 1) (pc := 58) dX7_partSet_58 rfl ?_
        refine V_iadd (pc := 59) dX7_partSet_59 ?_
        refine V_istore (pc := 60) dX7_partSet_60 (by decide) ?_
        refine V_lv (lv2 := [(0, .ref (G.2.1 9)), (1, .int v1), (2, .int (v1 &&& (-v1))), (3, .int (v1 &&& ((v1 &&& (-v1)) ^^^ (-1)))), (4, .int ((v1 &&& ((v1 &&& (-v1)) ^^^ (-1))) &&& x1)), (5, .int 0), (6, .int ((M1.1 42 (ix (v1 &&& ((v1 &&& (-v1)) ^^^ (-1))))) + 1))]) rfl ?_
        refine V_iload (pc := 62) dX7_partSet_62 rfl ?_
        refine V_if_eq (tgt := 71) (pc := 64) dX7_partSet_64 rfl (fun c => ?_) (fun c => ?_)
        · skip
          refine V_aload_n (pc := 71) dX7_partSet_71 rfl ?_
          refine V_getR (pc := 72) fX7_22 sC9 rfl dX7_partSet_72 ?_
          refine V_iload_n (pc := 75) dX7_partSet_75 rfl ?_
          refine V_iald (pc := 76) sC43 dX7_partSet_76 h.1 ?_
          have h := h.2
          refine V_istore (pc := 77) dX7_partSet_77 (by decide) ?_
          refine V_lv (lv2 := [(0, .ref (G.2.1 9)), (1, .int v1), (2, .int (v1 &&& (-v1))), (3, .int (v1 &&& ((v1 &&& (-v1)) ^^^ (-1)))), (4, .int ((v1 &&& ((v1 &&& (-v1)) ^^^ (-1))) &&& x1)), (5, .int 0), (6, .int ((M1.1 42 (ix (v1 &&& ((v1 &&& (-v1)) ^^^ (-1))))) + 1)), (7, .int (M1.1 43 (ix (v1 &&& ((v1 &&& (-v1)) ^^^ (-1))))))]) rfl ?_
          refine V_iload (pc := 79) dX7_partSet_79 rfl ?_
          refine V_if_eq (tgt := 88) (pc := 81) dX7_partSet_81 rfl (fun c => ?_) (fun c => ?_)
          · skip
            refine V_iload (pc := 88) dX7_partSet_88 rfl ?_
            refine V_istore (pc := 90) dX7_partSet_90 (by decide) ?_
            refine V_lv (lv2 := [(0, .ref (G.2.1 9)), (1, .int v1), (2, .int (v1 &&& (-v1))), (3, .int (v1 &&& ((v1 &&& (-v1)) ^^^ (-1)))), (4, .int ((v1 &&& ((v1 &&& (-v1)) ^^^ (-1))) &&& x1)), (5, .int 0), (6, .int ((M1.1 42 (ix (v1 &&& ((v1 &&& (-v1)) ^^^ (-1))))) + 1)), (7, .int (M1.1 43 (ix (v1 &&& ((v1 &&& (-v1)) ^^^ (-1)))))), (8, .int ((v1 &&& ((v1 &&& (-v1)) ^^^ (-1))) &&& x1))]) rfl ?_
            exact V_sub h ⟨rfl, rfl, rfl, rfl, rfl, rfl, rfl, rfl, rfl, trivial⟩
          · exact absurd c (by decide)
        · exact absurd c (by decide)
      · exact absurd c (by decide)
    · have h := h.2 c
      refine V_iconst (v := 1) (pc := 36) dX7_partSet_36 rfl ?_
      refine V_goto (tgt := 41) (pc := 37) dX7_partSet_37 rfl ?_
      refine V_istore (pc := 41) dX7_partSet_41 (by decide) ?_
      refine V_lv (lv2 := [(0, .ref (G.2.1 9)), (1, .int v1), (2, .int (v1 &&& (-v1))), (3, .int (v1 &&& ((v1 &&& (-v1)) ^^^ (-1)))), (4, .int ((v1 &&& ((v1 &&& (-v1)) ^^^ (-1))) &&& x1)), (5, .int 1)]) rfl ?_
      refine V_iload (pc := 43) dX7_partSet_43 rfl ?_
      refine V_if_eq (tgt := 52) (pc := 45) dX7_partSet_45 rfl (fun c => ?_) (fun c => ?_)
      · exact absurd c (by decide)
      · skip
        refine V_iconst (v := 1) (pc := 48) dX7_partSet_48 rfl ?_
        refine V_goto (tgt := 60) (pc := 49) dX7_partSet_49 rfl ?_
        refine V_istore (pc := 60) dX7_partSet_60 (by decide) ?_
        refine V_lv (lv2 := [(0, .ref (G.2.1 9)), (1, .int v1), (2, .int (v1 &&& (-v1))), (3, .int (v1 &&& ((v1 &&& (-v1)) ^^^ (-1)))), (4, .int ((v1 &&& ((v1 &&& (-v1)) ^^^ (-1))) &&& x1)), (5, .int 1), (6, .int 1)]) rfl ?_
        refine V_iload (pc := 62) dX7_partSet_62 rfl ?_
        refine V_if_eq (tgt := 71) (pc := 64) dX7_partSet_64 rfl (fun c => ?_) (fun c => ?_)
        · exact absurd c (by decide)
        · skip
          refine V_iconst (v := 1) (pc := 67) dX7_partSet_67 rfl ?_
          refine V_goto (tgt := 77) (pc := 68) dX7_partSet_68 rfl ?_
          refine V_istore (pc := 77) dX7_partSet_77 (by decide) ?_
          refine V_lv (lv2 := [(0, .ref (G.2.1 9)), (1, .int v1), (2, .int (v1 &&& (-v1))), (3, .int (v1 &&& ((v1 &&& (-v1)) ^^^ (-1)))), (4, .int ((v1 &&& ((v1 &&& (-v1)) ^^^ (-1))) &&& x1)), (5, .int 1), (6, .int 1), (7, .int 1)]) rfl ?_
          refine V_iload (pc := 79) dX7_partSet_79 rfl ?_
          refine V_if_eq (tgt := 88) (pc := 81) dX7_partSet_81 rfl (fun c => ?_) (fun c => ?_)
          · exact absurd c (by decide)
          · skip
            refine V_iconst (v := 0) (pc := 84) dX7_partSet_84 rfl ?_
            refine V_goto (tgt := 90) (pc := 85) dX7_partSet_85 rfl ?_
            refine V_istore (pc := 90) dX7_partSet_90 (by decide) ?_
            refine V_lv (lv2 := [(0, .ref (G.2.1 9)), (1, .int v1), (2, .int (v1 &&& (-v1))), (3, .int (v1 &&& ((v1 &&& (-v1)) ^^^ (-1)))), (4, .int ((v1 &&& ((v1 &&& (-v1)) ^^^ (-1))) &&& x1)), (5, .int 1), (6, .int 1), (7, .int 1), (8, .int 0)]) rfl ?_
            exact V_sub h ⟨rfl, rfl, rfl, rfl, rfl, rfl, rfl, rfl, rfl, trivial⟩
theorem wp_X7_partSet_92 {G : GV} {k : Nat} {M : Mem} {q : Mem → Prop} {v1 : Int32} {v2 : Int32} {v3 : Int32} {v4 : Int32} {v5 : Int32} {v6 : Int32} {v7 : Int32} {v8 : Int32} (h : ((v8 ≤ 0 → vp_in v1 4096 ∧ vp_in v1 4096 ∧ q (mset (mset M 42 (ix v1) (vp_nar .byte ((Int32.toInt8 v6).toInt32))) 43 (ix v1) v7)) ∧ (¬ v8 ≤ 0 → vp_in v8 4096 ∧ (((M.1 42 (ix v8)) ≤ 1 → vp_in (v3 &&& (v8 ^^^ (-1))) 4096 ∧ ((v6 ≤ ((M.1 42 (ix (v3 &&& (v8 ^^^ (-1))))) + 1) → vp_in (v3 &&& (v8 ^^^ (-1))) 4096 ∧ ((((M.1 42 (ix (v3 &&& (v8 ^^^ (-1))))) + 1) ≠ v6 → V shC G mX7_partSet (k + 2) 92 [(0, .ref (G.2.1 9)), (1, .int v1), (2, .int v2), (3, .int v3), (4, .int v4), (5, .int v5), (6, .int v6), (7, .int v7), (8, .int ((v8 - 1) &&& v4))] [] M (Qv q)) ∧ (((M.1 42 (ix (v3 &&& (v8 ^^^ (-1))))) + 1) = v6 → vp_in (v3 &&& (v8 ^^^ (-1))) 4096 ∧ V shC G mX7_partSet (k + 2) 92 [(0, .ref (G.2.1 9)), (1, .int v1), (2, .int v2), (3, .int v3), (4, .int v4), (5, .int v5), (6, .int v6), (7, .int (v7 + (M.1 43 (ix (v3 &&& (v8 ^^^ (-1))))))), (8, .int ((v8 - 1) &&& v4))] [] M (Qv q)))) ∧ (¬ v6 ≤ ((M.1 42 (ix (v3 &&& (v8 ^^^ (-1))))) + 1) → vp_in (v3 &&& (v8 ^^^ (-1))) 4096 ∧ vp_in (v3 &&& (v8 ^^^ (-1))) 4096 ∧ ((((M.1 42 (ix (v3 &&& (v8 ^^^ (-1))))) + 1) ≠ ((M.1 42 (ix (v3 &&& (v8 ^^^ (-1))))) + 1) → V shC G mX7_partSet (k + 2) 92 [(0, .ref (G.2.1 9)), (1, .int v1), (2, .int v2), (3, .int v3), (4, .int v4), (5, .int v5), (6, .int ((M.1 42 (ix (v3 &&& (v8 ^^^ (-1))))) + 1)), (7, .int 0), (8, .int ((v8 - 1) &&& v4))] [] M (Qv q)) ∧ (((M.1 42 (ix (v3 &&& (v8 ^^^ (-1))))) + 1) = ((M.1 42 (ix (v3 &&& (v8 ^^^ (-1))))) + 1) → vp_in (v3 &&& (v8 ^^^ (-1))) 4096 ∧ V shC G mX7_partSet (k + 2) 92 [(0, .ref (G.2.1 9)), (1, .int v1), (2, .int v2), (3, .int v3), (4, .int v4), (5, .int v5), (6, .int ((M.1 42 (ix (v3 &&& (v8 ^^^ (-1))))) + 1)), (7, .int (0 + (M.1 43 (ix (v3 &&& (v8 ^^^ (-1))))))), (8, .int ((v8 - 1) &&& v4))] [] M (Qv q)))))) ∧ (¬ (M.1 42 (ix v8)) ≤ 1 → V shC G mX7_partSet (k + 2) 92 [(0, .ref (G.2.1 9)), (1, .int v1), (2, .int v2), (3, .int v3), (4, .int v4), (5, .int v5), (6, .int v6), (7, .int v7), (8, .int ((v8 - 1) &&& v4))] [] M (Qv q)))))) : V shC G mX7_partSet (k + 2) 92 [(0, .ref (G.2.1 9)), (1, .int v1), (2, .int v2), (3, .int v3), (4, .int v4), (5, .int v5), (6, .int v6), (7, .int v7), (8, .int v8)] [] M (Qv q) := by
  refine V_iload (pc := 92) dX7_partSet_92 rfl ?_
  refine V_if_le (tgt := 185) (pc := 94) dX7_partSet_94 rfl (fun c => ?_) (fun c => ?_)
  · have h := h.1 c
    refine V_aload_n (pc := 185) dX7_partSet_185 rfl ?_
    refine V_getR (pc := 186) fX7_18 sC9 rfl dX7_partSet_186 ?_
    refine V_iload_n (pc := 189) dX7_partSet_189 rfl ?_
    refine V_iload (pc := 190) dX7_partSet_190 rfl ?_
    refine V_i2b (pc := 192) dX7_partSet_192 ?_
    refine V_bast (pc := 193) sC42 dX7_partSet_193 h.1 ?_
    have h := h.2
    refine V_aload_n (pc := 194) dX7_partSet_194 rfl ?_
    refine V_getR (pc := 195) fX7_22 sC9 rfl dX7_partSet_195 ?_
    refine V_iload_n (pc := 198) dX7_partSet_198 rfl ?_
    refine V_iload (pc := 199) dX7_partSet_199 rfl ?_
    refine V_iast (pc := 201) sC43 dX7_partSet_201 h.1 ?_
    have h := h.2
    exact V_vret dX7_partSet_202 rfl h
  · have h := h.2 c
    refine V_aload_n (pc := 97) dX7_partSet_97 rfl ?_
    refine V_getR (pc := 98) fX7_18 sC9 rfl dX7_partSet_98 ?_
    refine V_iload (pc := 101) dX7_partSet_101 rfl ?_
    refine V_bald (pc := 103) sC42 dX7_partSet_103 h.1 ?_
    have h := h.2
    refine V_iconst (v := 1) (pc := 104) dX7_partSet_104 rfl ?_
    refine V_icmp_le (tgt := 111) (pc := 105) dX7_partSet_105 rfl (fun c => ?_) (fun c => ?_)
    · have h := h.1 c
      refine V_iload_n (pc := 111) dX7_partSet_111 rfl ?_
      refine V_iload (pc := 112) dX7_partSet_112 rfl ?_
      refine V_iconst (v := (-1)) (pc := 114) dX7_partSet_114 rfl ?_
      refine V_ixor (pc := 115) dX7_partSet_115 ?_
      refine V_iand (pc := 116) dX7_partSet_116 ?_
      refine V_istore (pc := 117) dX7_partSet_117 (by decide) ?_
      refine V_lv (lv2 := [(0, .ref (G.2.1 9)), (1, .int v1), (2, .int v2), (3, .int v3), (4, .int v4), (5, .int v5), (6, .int v6), (7, .int v7), (8, .int v8), (9, .int (v3 &&& (v8 ^^^ (-1))))]) rfl ?_
      refine V_aload_n (pc := 119) dX7_partSet_119 rfl ?_
      refine V_getR (pc := 120) fX7_18 sC9 rfl dX7_partSet_120 ?_
      refine V_iload (pc := 123) dX7_partSet_123 rfl ?_
      refine V_bald (pc := 125) sC42 dX7_partSet_125 h.1 ?_
      have h := h.2
      refine V_iconst (v := 1) (pc := 126) dX7_partSet_126 rfl ?_
      refine V_iadd (pc := 127) dX7_partSet_127 ?_
      refine V_iload (pc := 128) dX7_partSet_128 rfl ?_
      refine V_icmp_ge (tgt := 147) (pc := 130) dX7_partSet_130 rfl (fun c => ?_) (fun c => ?_)
      · have h := h.1 c
        refine V_aload_n (pc := 147) dX7_partSet_147 rfl ?_
        refine V_getR (pc := 148) fX7_18 sC9 rfl dX7_partSet_148 ?_
        refine V_iload (pc := 151) dX7_partSet_151 rfl ?_
        refine V_bald (pc := 153) sC42 dX7_partSet_153 h.1 ?_
        have h := h.2
        refine V_iconst (v := 1) (pc := 154) dX7_partSet_154 rfl ?_
        refine V_iadd (pc := 155) dX7_partSet_155 ?_
        refine V_iload (pc := 156) dX7_partSet_156 rfl ?_
        refine V_icmp_ne (tgt := 173) (pc := 158) dX7_partSet_158 rfl (fun c => ?_) (fun c => ?_)
        · have h := h.1 c
          refine V_iload (pc := 173) dX7_partSet_173 rfl ?_
          refine V_iconst (v := 1) (pc := 175) dX7_partSet_175 rfl ?_
          refine V_isub (pc := 176) dX7_partSet_176 ?_
          refine V_iload (pc := 177) dX7_partSet_177 rfl ?_
          refine V_iand (pc := 179) dX7_partSet_179 ?_
          refine V_istore (pc := 180) dX7_partSet_180 (by decide) ?_
          refine V_lv (lv2 := [(0, .ref (G.2.1 9)), (1, .int v1), (2, .int v2), (3, .int v3), (4, .int v4), (5, .int v5), (6, .int v6), (7, .int v7), (8, .int ((v8 - 1) &&& v4)), (9, .int (v3 &&& (v8 ^^^ (-1))))]) rfl ?_
          refine V_goto (tgt := 92) (pc := 182) dX7_partSet_182 rfl ?_
          exact V_sub h ⟨rfl, rfl, rfl, rfl, rfl, rfl, rfl, rfl, rfl, trivial⟩
        · have h := h.2 c
          refine V_iload (pc := 161) dX7_partSet_161 rfl ?_
          refine V_aload_n (pc := 163) dX7_partSet_163 rfl ?_
          refine V_getR (pc := 164) fX7_22 sC9 rfl dX7_partSet_164 ?_
          refine V_iload (pc := 167) dX7_partSet_167 rfl ?_
          refine V_iald (pc := 169) sC43 dX7_partSet_169 h.1 ?_
          have h := h.2
          refine V_iadd (pc := 170) dX7_partSet_170 ?_
          refine V_istore (pc := 171) dX7_partSet_171 (by decide) ?_
          refine V_lv (lv2 := [(0, .ref (G.2.1 9)), (1, .int v1), (2, .int v2), (3, .int v3), (4, .int v4), (5, .int v5), (6, .int v6), (7, .int (v7 + (M.1 43 (ix (v3 &&& (v8 ^^^ (-1))))))), (8, .int v8), (9, .int (v3 &&& (v8 ^^^ (-1))))]) rfl ?_
          refine V_iload (pc := 173) dX7_partSet_173 rfl ?_
          refine V_iconst (v := 1) (pc := 175) dX7_partSet_175 rfl ?_
          refine V_isub (pc := 176) dX7_partSet_176 ?_
          refine V_iload (pc := 177) dX7_partSet_177 rfl ?_
          refine V_iand (pc := 179) dX7_partSet_179 ?_
          refine V_istore (pc := 180) dX7_partSet_180 (by decide) ?_
          refine V_lv (lv2 := [(0, .ref (G.2.1 9)), (1, .int v1), (2, .int v2), (3, .int v3), (4, .int v4), (5, .int v5), (6, .int v6), (7, .int (v7 + (M.1 43 (ix (v3 &&& (v8 ^^^ (-1))))))), (8, .int ((v8 - 1) &&& v4)), (9, .int (v3 &&& (v8 ^^^ (-1))))]) rfl ?_
          refine V_goto (tgt := 92) (pc := 182) dX7_partSet_182 rfl ?_
          exact V_sub h ⟨rfl, rfl, rfl, rfl, rfl, rfl, rfl, rfl, rfl, trivial⟩
      · have h := h.2 c
        refine V_aload_n (pc := 133) dX7_partSet_133 rfl ?_
        refine V_getR (pc := 134) fX7_18 sC9 rfl dX7_partSet_134 ?_
        refine V_iload (pc := 137) dX7_partSet_137 rfl ?_
        refine V_bald (pc := 139) sC42 dX7_partSet_139 h.1 ?_
        have h := h.2
        refine V_iconst (v := 1) (pc := 140) dX7_partSet_140 rfl ?_
        refine V_iadd (pc := 141) dX7_partSet_141 ?_
        refine V_istore (pc := 142) dX7_partSet_142 (by decide) ?_
        refine V_lv (lv2 := [(0, .ref (G.2.1 9)), (1, .int v1), (2, .int v2), (3, .int v3), (4, .int v4), (5, .int v5), (6, .int ((M.1 42 (ix (v3 &&& (v8 ^^^ (-1))))) + 1)), (7, .int v7), (8, .int v8), (9, .int (v3 &&& (v8 ^^^ (-1))))]) rfl ?_
        refine V_iconst (v := 0) (pc := 144) dX7_partSet_144 rfl ?_
        refine V_istore (pc := 145) dX7_partSet_145 (by decide) ?_
        refine V_lv (lv2 := [(0, .ref (G.2.1 9)), (1, .int v1), (2, .int v2), (3, .int v3), (4, .int v4), (5, .int v5), (6, .int ((M.1 42 (ix (v3 &&& (v8 ^^^ (-1))))) + 1)), (7, .int 0), (8, .int v8), (9, .int (v3 &&& (v8 ^^^ (-1))))]) rfl ?_
        refine V_aload_n (pc := 147) dX7_partSet_147 rfl ?_
        refine V_getR (pc := 148) fX7_18 sC9 rfl dX7_partSet_148 ?_
        refine V_iload (pc := 151) dX7_partSet_151 rfl ?_
        refine V_bald (pc := 153) sC42 dX7_partSet_153 h.1 ?_
        have h := h.2
        refine V_iconst (v := 1) (pc := 154) dX7_partSet_154 rfl ?_
        refine V_iadd (pc := 155) dX7_partSet_155 ?_
        refine V_iload (pc := 156) dX7_partSet_156 rfl ?_
        refine V_icmp_ne (tgt := 173) (pc := 158) dX7_partSet_158 rfl (fun c => ?_) (fun c => ?_)
        · have h := h.1 c
          refine V_iload (pc := 173) dX7_partSet_173 rfl ?_
          refine V_iconst (v := 1) (pc := 175) dX7_partSet_175 rfl ?_
          refine V_isub (pc := 176) dX7_partSet_176 ?_
          refine V_iload (pc := 177) dX7_partSet_177 rfl ?_
          refine V_iand (pc := 179) dX7_partSet_179 ?_
          refine V_istore (pc := 180) dX7_partSet_180 (by decide) ?_
          refine V_lv (lv2 := [(0, .ref (G.2.1 9)), (1, .int v1), (2, .int v2), (3, .int v3), (4, .int v4), (5, .int v5), (6, .int ((M.1 42 (ix (v3 &&& (v8 ^^^ (-1))))) + 1)), (7, .int 0), (8, .int ((v8 - 1) &&& v4)), (9, .int (v3 &&& (v8 ^^^ (-1))))]) rfl ?_
          refine V_goto (tgt := 92) (pc := 182) dX7_partSet_182 rfl ?_
          exact V_sub h ⟨rfl, rfl, rfl, rfl, rfl, rfl, rfl, rfl, rfl, trivial⟩
        · have h := h.2 c
          refine V_iload (pc := 161) dX7_partSet_161 rfl ?_
          refine V_aload_n (pc := 163) dX7_partSet_163 rfl ?_
          refine V_getR (pc := 164) fX7_22 sC9 rfl dX7_partSet_164 ?_
          refine V_iload (pc := 167) dX7_partSet_167 rfl ?_
          refine V_iald (pc := 169) sC43 dX7_partSet_169 h.1 ?_
          have h := h.2
          refine V_iadd (pc := 170) dX7_partSet_170 ?_
          refine V_istore (pc := 171) dX7_partSet_171 (by decide) ?_
          refine V_lv (lv2 := [(0, .ref (G.2.1 9)), (1, .int v1), (2, .int v2), (3, .int v3), (4, .int v4), (5, .int v5), (6, .int ((M.1 42 (ix (v3 &&& (v8 ^^^ (-1))))) + 1)), (7, .int (0 + (M.1 43 (ix (v3 &&& (v8 ^^^ (-1))))))), (8, .int v8), (9, .int (v3 &&& (v8 ^^^ (-1))))]) rfl ?_
          refine V_iload (pc := 173) dX7_partSet_173 rfl ?_
          refine V_iconst (v := 1) (pc := 175) dX7_partSet_175 rfl ?_
          refine V_isub (pc := 176) dX7_partSet_176 ?_
          refine V_iload (pc := 177) dX7_partSet_177 rfl ?_
          refine V_iand (pc := 179) dX7_partSet_179 ?_
          refine V_istore (pc := 180) dX7_partSet_180 (by decide) ?_
          refine V_lv (lv2 := [(0, .ref (G.2.1 9)), (1, .int v1), (2, .int v2), (3, .int v3), (4, .int v4), (5, .int v5), (6, .int ((M.1 42 (ix (v3 &&& (v8 ^^^ (-1))))) + 1)), (7, .int (0 + (M.1 43 (ix (v3 &&& (v8 ^^^ (-1))))))), (8, .int ((v8 - 1) &&& v4)), (9, .int (v3 &&& (v8 ^^^ (-1))))]) rfl ?_
          refine V_goto (tgt := 92) (pc := 182) dX7_partSet_182 rfl ?_
          exact V_sub h ⟨rfl, rfl, rfl, rfl, rfl, rfl, rfl, rfl, rfl, trivial⟩
    · have h := h.2 c
      refine V_goto (tgt := 173) (pc := 108) dX7_partSet_108 rfl ?_
      refine V_iload (pc := 173) dX7_partSet_173 rfl ?_
      refine V_iconst (v := 1) (pc := 175) dX7_partSet_175 rfl ?_
      refine V_isub (pc := 176) dX7_partSet_176 ?_
      refine V_iload (pc := 177) dX7_partSet_177 rfl ?_
      refine V_iand (pc := 179) dX7_partSet_179 ?_
      refine V_istore (pc := 180) dX7_partSet_180 (by decide) ?_
      refine V_lv (lv2 := [(0, .ref (G.2.1 9)), (1, .int v1), (2, .int v2), (3, .int v3), (4, .int v4), (5, .int v5), (6, .int v6), (7, .int v7), (8, .int ((v8 - 1) &&& v4))]) rfl ?_
      refine V_goto (tgt := 92) (pc := 182) dX7_partSet_182 rfl ?_
      exact V_sub h ⟨rfl, rfl, rfl, rfl, rfl, rfl, rfl, rfl, rfl, trivial⟩
theorem wp_X7_findWhoMayBeOne {G : GV} {k : Nat} {M : Mem} {q : Mem → Prop}  (h : V shC G mX7_findWhoMayBeOne (k + 3) 2 [(0, .ref (G.2.1 9)), (1, .int 0)] [] M (Qv q)) : Cv shC G mX7_findWhoMayBeOne (k + 3) [.ref (G.2.1 9)] M q := by
  unfold Cv
  show V _ _ _ _ _ [(0, .ref (G.2.1 9))] _ _ _
  refine V_iconst (v := 0) (pc := 0) dX7_findWhoMayBeOne_0 rfl ?_
  refine V_istore_n (pc := 1) dX7_findWhoMayBeOne_1 (by decide) ?_
  refine V_lv (lv2 := [(0, .ref (G.2.1 9)), (1, .int 0)]) rfl ?_
  exact V_sub h ⟨rfl, rfl, trivial⟩
theorem wp_X7_findWhoMayBeOne_2 {G : GV} {k : Nat} {M : Mem} {q : Mem → Prop} {v1 : Int32} (h : (((M.1 6 8) ≤ v1 → q M) ∧ (¬ (M.1 6 8) ≤ v1 → vp_in v1 12 ∧ V shC G mX7_findWhoMayBeOne (k + 3) 22 [(0, .ref (G.2.1 9)), (1, .int v1), (2, .int 0)] [] (mset M 40 (ix v1) 0) (Qv q)))) : V shC G mX7_findWhoMayBeOne (k + 3) 2 [(0, .ref (G.2.1 9)), (1, .int v1)] [] M (Qv q) := by
  refine V_iload_n (pc := 2) dX7_findWhoMayBeOne_2 rfl ?_
  refine V_aload_n (pc := 3) dX7_findWhoMayBeOne_3 rfl ?_
  refine V_getR (pc := 4) fX7_29 sC9 rfl dX7_findWhoMayBeOne_4 ?_
  refine V_getI (pc := 7) fX7_40 sC6 rfl dX7_findWhoMayBeOne_7 ?_
  refine V_icmp_ge (tgt := 69) (pc := 10) dX7_findWhoMayBeOne_10 rfl (fun c => ?_) (fun c => ?_)
  · have h := h.1 c
    exact V_vret dX7_findWhoMayBeOne_69 rfl h
  · have h := h.2 c
    refine V_aload_n (pc := 13) dX7_findWhoMayBeOne_13 rfl ?_
    refine V_getR (pc := 14) fX7_9 sC9 rfl dX7_findWhoMayBeOne_14 ?_
    refine V_iload_n (pc := 17) dX7_findWhoMayBeOne_17 rfl ?_
    refine V_iconst (v := 0) (pc := 18) dX7_findWhoMayBeOne_18 rfl ?_
    refine V_iast (pc := 19) sC40 dX7_findWhoMayBeOne_19 h.1 ?_
    have h := h.2
    refine V_iconst (v := 0) (pc := 20) dX7_findWhoMayBeOne_20 rfl ?_
    refine V_istore_n (pc := 21) dX7_findWhoMayBeOne_21 (by decide) ?_
    refine V_lv (lv2 := [(0, .ref (G.2.1 9)), (1, .int v1), (2, .int 0)]) rfl ?_
    exact V_sub h ⟨rfl, rfl, rfl, trivial⟩
theorem wp_X7_findWhoMayBeOne_22 {G : GV} {k : Nat} {M : Mem} {q : Mem → Prop} {v1 : Int32} {v2 : Int32} (h : (((M.1 6 8) ≤ v2 → V shC G mX7_findWhoMayBeOne (k + 3) 2 [(0, .ref (G.2.1 9)), (1, .int (v1 + 1))] [] M (Qv q)) ∧ (¬ (M.1 6 8) ≤ v2 → Ci shC G mX3_mayBeOne (k + 2) [.ref (G.2.1 6), .int v1, .int v2] M (fun x1 M1 => ((x1 = 0 → V shC G mX7_findWhoMayBeOne (k + 3) 22 [(0, .ref (G.2.1 9)), (1, .int v1), (2, .int (v2 + 1))] [] M1 (Qv q)) ∧ (¬ x1 = 0 → vp_in v1 12 ∧ vp_in v1 12 ∧ V shC G mX7_findWhoMayBeOne (k + 3) 22 [(0, .ref (G.2.1 9)), (1, .int v1), (2, .int (v2 + 1))] [] (mset M1 40 (ix v1) ((M1.1 40 (ix v1)) ||| (1 <<< (v2 &&& 31)))) (Qv q))))))) : V shC G mX7_findWhoMayBeOne (k + 3) 22 [(0, .ref (G.2.1 9)), (1, .int v1), (2, .int v2)] [] M (Qv q) := by
  refine V_iload_n (pc := 22) dX7_findWhoMayBeOne_22 rfl ?_
  refine V_aload_n (pc := 23) dX7_findWhoMayBeOne_23 rfl ?_
  refine V_getR (pc := 24) fX7_29 sC9 rfl dX7_findWhoMayBeOne_24 ?_
  refine V_getI (pc := 27) fX7_40 sC6 rfl dX7_findWhoMayBeOne_27 ?_
  refine V_icmp_ge (tgt := 63) (pc := 30) dX7_findWhoMayBeOne_30 rfl (fun c => ?_) (fun c => ?_)
  · have h := h.1 c
    refine V_iinc (pc := 63) dX7_findWhoMayBeOne_63 rfl (by decide) ?_
    refine V_lv (lv2 := [(0, .ref (G.2.1 9)), (1, .int (v1 + 1)), (2, .int v2)]) rfl ?_
    refine V_goto (tgt := 2) (pc := 66) dX7_findWhoMayBeOne_66 rfl ?_
    exact V_sub h ⟨rfl, rfl, trivial⟩
  · have h := h.2 c
    refine V_aload_n (pc := 33) dX7_findWhoMayBeOne_33 rfl ?_
    refine V_getR (pc := 34) fX7_29 sC9 rfl dX7_findWhoMayBeOne_34 ?_
    refine V_iload_n (pc := 37) dX7_findWhoMayBeOne_37 rfl ?_
    refine V_iload_n (pc := 38) dX7_findWhoMayBeOne_38 rfl ?_
    refine V_callVi [.int v1, .int v2] (pc := 39) kX3_mayBeOne lX7_75 sC6 rfl rfl (Nat.le_of_ble_eq_true rfl) rfl (Nat.le_of_ble_eq_true rfl) dX7_findWhoMayBeOne_39 ?_
    refine Ci.mono h ?_
    intro x1 M1 h
    refine V_if_eq (tgt := 57) (pc := 42) dX7_findWhoMayBeOne_42 rfl (fun c => ?_) (fun c => ?_)
    · have h := h.1 c
      refine V_iinc (pc := 57) dX7_findWhoMayBeOne_57 rfl (by decide) ?_
      refine V_lv (lv2 := [(0, .ref (G.2.1 9)), (1, .int v1), (2, .int (v2 + 1))]) rfl ?_
      refine V_goto (tgt := 22) (pc := 60) dX7_findWhoMayBeOne_60 rfl ?_
      exact V_sub h ⟨rfl, rfl, rfl, trivial⟩
    · have h := h.2 c
      refine V_aload_n (pc := 45) dX7_findWhoMayBeOne_45 rfl ?_
      refine V_getR (pc := 46) fX7_9 sC9 rfl dX7_findWhoMayBeOne_46 ?_
      refine V_iload_n (pc := 49) dX7_findWhoMayBeOne_49 rfl ?_
      refine V_dup2 (pc := 50) dX7_findWhoMayBeOne_50 rfl rfl ?_
      refine V_iald (pc := 51) sC40 dX7_findWhoMayBeOne_51 h.1 ?_
      have h := h.2
      refine V_iconst (v := 1) (pc := 52) dX7_findWhoMayBeOne_52 rfl ?_
      refine V_iload_n (pc := 53) dX7_findWhoMayBeOne_53 rfl ?_
      refine V_ishl (pc := 54) dX7_findWhoMayBeOne_54 ?_
      refine V_ior (pc := 55) dX7_findWhoMayBeOne_55 ?_
      refine V_iast (pc := 56) sC40 dX7_findWhoMayBeOne_56 h.1 ?_
      have h := h.2
      refine V_iinc (pc := 57) dX7_findWhoMayBeOne_57 rfl (by decide) ?_
      refine V_lv (lv2 := [(0, .ref (G.2.1 9)), (1, .int v1), (2, .int (v2 + 1))]) rfl ?_
      refine V_goto (tgt := 22) (pc := 60) dX7_findWhoMayBeOne_60 rfl ?_
      exact V_sub h ⟨rfl, rfl, rfl, trivial⟩
theorem wp_X7_leastPerson {G : GV} {k : Nat} {M : Mem} {q : Int32 → Mem → Prop} {v1 : Int32} (h : V shC G mX7_leastPerson (k + 3) 7 [(0, .ref (G.2.1 9)), (1, .int v1), (2, .int (v1 &&& (-v1))), (3, .int (v1 &&& (-v1)))] [] M (Qi q)) : Ci shC G mX7_leastPerson (k + 3) [.ref (G.2.1 9), .int v1] M q := by
  unfold Ci
  show V _ _ _ _ _ [(0, .ref (G.2.1 9)), (1, .int v1)] _ _ _
  refine V_iload_n (pc := 0) dX7_leastPerson_0 rfl ?_
  refine V_iload_n (pc := 1) dX7_leastPerson_1 rfl ?_
  refine V_ineg (pc := 2) dX7_leastPerson_2 ?_
  refine V_iand (pc := 3) dX7_leastPerson_3 ?_
  refine V_istore_n (pc := 4) dX7_leastPerson_4 (by decide) ?_
  refine V_lv (lv2 := [(0, .ref (G.2.1 9)), (1, .int v1), (2, .int (v1 &&& (-v1)))]) rfl ?_
  refine V_iload_n (pc := 5) dX7_leastPerson_5 rfl ?_
  refine V_istore_n (pc := 6) dX7_leastPerson_6 (by decide) ?_
  refine V_lv (lv2 := [(0, .ref (G.2.1 9)), (1, .int v1), (2, .int (v1 &&& (-v1))), (3, .int (v1 &&& (-v1)))]) rfl ?_
  exact V_sub h ⟨rfl, rfl, rfl, rfl, trivial⟩
theorem wp_X7_leastPerson_7 {G : GV} {k : Nat} {M : Mem} {q : Int32 → Mem → Prop} {v1 : Int32} {v2 : Int32} {v3 : Int32} (h : ((v1 ≤ v3 → q v1 M) ∧ (¬ v1 ≤ v3 → (((v3 &&& v2) = 0 → V shC G mX7_leastPerson (k + 3) 7 [(0, .ref (G.2.1 9)), (1, .int v1), (2, .int v2), (3, .int (v3 + 1))] [] M (Qi q)) ∧ (¬ (v3 &&& v2) = 0 → (((v3 &&& (v1 ^^^ (-1))) = 0 → vp_in (v1 &&& (v3 ^^^ (-1))) 4096 ∧ vp_in v1 4096 ∧ ((((M.1 42 (ix (v1 &&& (v3 ^^^ (-1))))) + 1) ≠ (M.1 42 (ix v1)) → V shC G mX7_leastPerson (k + 3) 7 [(0, .ref (G.2.1 9)), (1, .int v1), (2, .int v2), (3, .int (v3 + 1))] [] M (Qi q)) ∧ (((M.1 42 (ix (v1 &&& (v3 ^^^ (-1))))) + 1) = (M.1 42 (ix v1)) → Ci shC G mX7_isOne (k + 2) [.ref (G.2.1 9), .int v3] M (fun x1 M1 => ((x1 = 0 → V shC G mX7_leastPerson (k + 3) 7 [(0, .ref (G.2.1 9)), (1, .int v1), (2, .int v2), (3, .int (v3 + 1))] [] M1 (Qi q)) ∧ (¬ x1 = 0 → q v3 M1)))))) ∧ (¬ (v3 &&& (v1 ^^^ (-1))) = 0 → V shC G mX7_leastPerson (k + 3) 7 [(0, .ref (G.2.1 9)), (1, .int v1), (2, .int v2), (3, .int (v3 + 1))] [] M (Qi q)))))))) : V shC G mX7_leastPerson (k + 3) 7 [(0, .ref (G.2.1 9)), (1, .int v1), (2, .int v2), (3, .int v3)] [] M (Qi q) := by
  refine V_iload_n (pc := 7) dX7_leastPerson_7 rfl ?_
  refine V_iload_n (pc := 8) dX7_leastPerson_8 rfl ?_
  refine V_icmp_ge (tgt := 66) (pc := 9) dX7_leastPerson_9 rfl (fun c => ?_) (fun c => ?_)
  · have h := h.1 c
    refine V_iload_n (pc := 66) dX7_leastPerson_66 rfl ?_
    exact V_iret dX7_leastPerson_67 rfl h
  · have h := h.2 c
    refine V_iload_n (pc := 12) dX7_leastPerson_12 rfl ?_
    refine V_iload_n (pc := 13) dX7_leastPerson_13 rfl ?_
    refine V_iand (pc := 14) dX7_leastPerson_14 ?_
    refine V_if_eq (tgt := 60) (pc := 15) dX7_leastPerson_15 rfl (fun c => ?_) (fun c => ?_)
    · have h := h.1 c
      refine V_iinc (pc := 60) dX7_leastPerson_60 rfl (by decide) ?_
      refine V_lv (lv2 := [(0, .ref (G.2.1 9)), (1, .int v1), (2, .int v2), (3, .int (v3 + 1))]) rfl ?_
      refine V_goto (tgt := 7) (pc := 63) dX7_leastPerson_63 rfl ?_
      exact V_sub h ⟨rfl, rfl, rfl, rfl, trivial⟩
    · have h := h.2 c
      refine V_iload_n (pc := 18) dX7_leastPerson_18 rfl ?_
      refine V_iload_n (pc := 19) dX7_leastPerson_19 rfl ?_
      refine V_iconst (v := (-1)) (pc := 20) dX7_leastPerson_20 rfl ?_
      refine V_ixor (pc := 21) dX7_leastPerson_21 ?_
      refine V_iand (pc := 22) dX7_leastPerson_22 ?_
      refine V_if_eq (tgt := 29) (pc := 23) dX7_leastPerson_23 rfl (fun c => ?_) (fun c => ?_)
      · have h := h.1 c
        refine V_aload_n (pc := 29) dX7_leastPerson_29 rfl ?_
        refine V_getR (pc := 30) fX7_18 sC9 rfl dX7_leastPerson_30 ?_
        refine V_iload_n (pc := 33) dX7_leastPerson_33 rfl ?_
        refine V_iload_n (pc := 34) dX7_leastPerson_34 rfl ?_
        refine V_iconst (v := (-1)) (pc := 35) dX7_leastPerson_35 rfl ?_
        refine V_ixor (pc := 36) dX7_leastPerson_36 ?_
        refine V_iand (pc := 37) dX7_leastPerson_37 ?_
        refine V_bald (pc := 38) sC42 dX7_leastPerson_38 h.1 ?_
        have h := h.2
        refine V_iconst (v := 1) (pc := 39) dX7_leastPerson_39 rfl ?_
        refine V_iadd (pc := 40) dX7_leastPerson_40 ?_
        refine V_aload_n (pc := 41) dX7_leastPerson_41 rfl ?_
        refine V_getR (pc := 42) fX7_18 sC9 rfl dX7_leastPerson_42 ?_
        refine V_iload_n (pc := 45) dX7_leastPerson_45 rfl ?_
        refine V_bald (pc := 46) sC42 dX7_leastPerson_46 h.1 ?_
        have h := h.2
        refine V_icmp_ne (tgt := 60) (pc := 47) dX7_leastPerson_47 rfl (fun c => ?_) (fun c => ?_)
        · have h := h.1 c
          refine V_iinc (pc := 60) dX7_leastPerson_60 rfl (by decide) ?_
          refine V_lv (lv2 := [(0, .ref (G.2.1 9)), (1, .int v1), (2, .int v2), (3, .int (v3 + 1))]) rfl ?_
          refine V_goto (tgt := 7) (pc := 63) dX7_leastPerson_63 rfl ?_
          exact V_sub h ⟨rfl, rfl, rfl, rfl, trivial⟩
        · have h := h.2 c
          refine V_aload_n (pc := 50) dX7_leastPerson_50 rfl ?_
          refine V_iload_n (pc := 51) dX7_leastPerson_51 rfl ?_
          refine V_callVi [.int v3] (pc := 52) kX7_isOne lX7_61 sC9 rfl rfl (Nat.le_of_ble_eq_true rfl) rfl (Nat.le_of_ble_eq_true rfl) dX7_leastPerson_52 ?_
          refine Ci.mono h ?_
          intro x1 M1 h
          refine V_if_eq (tgt := 60) (pc := 55) dX7_leastPerson_55 rfl (fun c => ?_) (fun c => ?_)
          · have h := h.1 c
            refine V_iinc (pc := 60) dX7_leastPerson_60 rfl (by decide) ?_
            refine V_lv (lv2 := [(0, .ref (G.2.1 9)), (1, .int v1), (2, .int v2), (3, .int (v3 + 1))]) rfl ?_
            refine V_goto (tgt := 7) (pc := 63) dX7_leastPerson_63 rfl ?_
            exact V_sub h ⟨rfl, rfl, rfl, rfl, trivial⟩
          · have h := h.2 c
            refine V_iload_n (pc := 58) dX7_leastPerson_58 rfl ?_
            exact V_iret dX7_leastPerson_59 rfl h
      · have h := h.2 c
        refine V_goto (tgt := 60) (pc := 26) dX7_leastPerson_26 rfl ?_
        refine V_iinc (pc := 60) dX7_leastPerson_60 rfl (by decide) ?_
        refine V_lv (lv2 := [(0, .ref (G.2.1 9)), (1, .int v1), (2, .int v2), (3, .int (v3 + 1))]) rfl ?_
        refine V_goto (tgt := 7) (pc := 63) dX7_leastPerson_63 rfl ?_
        exact V_sub h ⟨rfl, rfl, rfl, rfl, trivial⟩
theorem wp_X7_rivalsWith {G : GV} {k : Nat} {M : Mem} {q : Int32 → Mem → Prop} {v1 : Int32} (h : Ci shC G mX7_isOne (k + 2) [.ref (G.2.1 9), .int v1] M (fun x1 M1 => ((x1 ≠ 0 → Ci shC G mX7_all (k + 2) [.ref (G.2.1 9)] M1 (fun x2 M2 => (((x2 &&& (v1 ^^^ (-1))) = 0 → vp_in (x2 &&& (v1 ^^^ (-1))) 4096 ∧ Ci shC G mX7_all (k + 2) [.ref (G.2.1 9)] M2 (fun x3 M3 => vp_in x3 4096 ∧ ((((M2.1 42 (ix (x2 &&& (v1 ^^^ (-1))))) + 1) ≠ (M3.1 42 (ix x3)) → q 0 M3) ∧ (((M2.1 42 (ix (x2 &&& (v1 ^^^ (-1))))) + 1) = (M3.1 42 (ix x3)) → vp_in (x2 &&& (v1 ^^^ (-1))) 4096 ∧ q (M3.1 43 (ix (x2 &&& (v1 ^^^ (-1))))) M3)))) ∧ (¬ (x2 &&& (v1 ^^^ (-1))) = 0 → vp_in (x2 &&& (v1 ^^^ (-1))) 4096 ∧ (((M2.1 42 (ix (x2 &&& (v1 ^^^ (-1))))) ≠ 0 → vp_in (x2 &&& (v1 ^^^ (-1))) 4096 ∧ Ci shC G mX7_all (k + 2) [.ref (G.2.1 9)] M2 (fun x4 M4 => vp_in x4 4096 ∧ ((((M2.1 42 (ix (x2 &&& (v1 ^^^ (-1))))) + 1) ≠ (M4.1 42 (ix x4)) → q 0 M4) ∧ (((M2.1 42 (ix (x2 &&& (v1 ^^^ (-1))))) + 1) = (M4.1 42 (ix x4)) → vp_in (x2 &&& (v1 ^^^ (-1))) 4096 ∧ q (M4.1 43 (ix (x2 &&& (v1 ^^^ (-1))))) M4)))) ∧ ((M2.1 42 (ix (x2 &&& (v1 ^^^ (-1))))) = 0 → Cv shC G mX7_partSet (k + 2) [.ref (G.2.1 9), .int (x2 &&& (v1 ^^^ (-1)))] M2 (fun M5 => vp_in (x2 &&& (v1 ^^^ (-1))) 4096 ∧ Ci shC G mX7_all (k + 2) [.ref (G.2.1 9)] M5 (fun x6 M6 => vp_in x6 4096 ∧ ((((M5.1 42 (ix (x2 &&& (v1 ^^^ (-1))))) + 1) ≠ (M6.1 42 (ix x6)) → q 0 M6) ∧ (((M5.1 42 (ix (x2 &&& (v1 ^^^ (-1))))) + 1) = (M6.1 42 (ix x6)) → vp_in (x2 &&& (v1 ^^^ (-1))) 4096 ∧ q (M6.1 43 (ix (x2 &&& (v1 ^^^ (-1))))) M6)))))))))) ∧ (x1 = 0 → q 0 M1)))) : Ci shC G mX7_rivalsWith (k + 3) [.ref (G.2.1 9), .int v1] M q := by
  unfold Ci
  show V _ _ _ _ _ [(0, .ref (G.2.1 9)), (1, .int v1)] _ _ _
  refine V_aload_n (pc := 0) dX7_rivalsWith_0 rfl ?_
  refine V_iload_n (pc := 1) dX7_rivalsWith_1 rfl ?_
  refine V_callVi [.int v1] (pc := 2) kX7_isOne lX7_61 sC9 rfl rfl (Nat.le_of_ble_eq_true rfl) rfl (Nat.le_of_ble_eq_true rfl) dX7_rivalsWith_2 ?_
  refine Ci.mono h ?_
  intro x1 M1 h
  refine V_if_ne (tgt := 10) (pc := 5) dX7_rivalsWith_5 rfl (fun c => ?_) (fun c => ?_)
  · have h := h.1 c
    refine V_aload_n (pc := 10) dX7_rivalsWith_10 rfl ?_
    refine V_callVi [] (pc := 11) kX7_all lX7_36 sC9 rfl rfl (Nat.le_of_ble_eq_true rfl) rfl (Nat.le_of_ble_eq_true rfl) dX7_rivalsWith_11 ?_
    refine Ci.mono h ?_
    intro x2 M2 h
    refine V_iload_n (pc := 14) dX7_rivalsWith_14 rfl ?_
    refine V_iconst (v := (-1)) (pc := 15) dX7_rivalsWith_15 rfl ?_
    refine V_ixor (pc := 16) dX7_rivalsWith_16 ?_
    refine V_iand (pc := 17) dX7_rivalsWith_17 ?_
    refine V_istore_n (pc := 18) dX7_rivalsWith_18 (by decide) ?_
    refine V_lv (lv2 := [(0, .ref (G.2.1 9)), (1, .int v1), (2, .int (x2 &&& (v1 ^^^ (-1))))]) rfl ?_
    refine V_iload_n (pc := 19) dX7_rivalsWith_19 rfl ?_
    refine V_if_eq (tgt := 37) (pc := 20) dX7_rivalsWith_20 rfl (fun c => ?_) (fun c => ?_)
    · have h := h.1 c
      refine V_aload_n (pc := 37) dX7_rivalsWith_37 rfl ?_
      refine V_getR (pc := 38) fX7_18 sC9 rfl dX7_rivalsWith_38 ?_
      refine V_iload_n (pc := 41) dX7_rivalsWith_41 rfl ?_
      refine V_bald (pc := 42) sC42 dX7_rivalsWith_42 h.1 ?_
      have h := h.2
      refine V_iconst (v := 1) (pc := 43) dX7_rivalsWith_43 rfl ?_
      refine V_iadd (pc := 44) dX7_rivalsWith_44 ?_
      refine V_aload_n (pc := 45) dX7_rivalsWith_45 rfl ?_
      refine V_getR (pc := 46) fX7_18 sC9 rfl dX7_rivalsWith_46 ?_
      refine V_aload_n (pc := 49) dX7_rivalsWith_49 rfl ?_
      refine V_callVi [] (pc := 50) kX7_all lX7_36 sC9 rfl rfl (Nat.le_of_ble_eq_true rfl) rfl (Nat.le_of_ble_eq_true rfl) dX7_rivalsWith_50 ?_
      refine Ci.mono h ?_
      intro x3 M3 h
      refine V_bald (pc := 53) sC42 dX7_rivalsWith_53 h.1 ?_
      have h := h.2
      refine V_icmp_ne (tgt := 66) (pc := 54) dX7_rivalsWith_54 rfl (fun c => ?_) (fun c => ?_)
      · have h := h.1 c
        refine V_iconst (v := 0) (pc := 66) dX7_rivalsWith_66 rfl ?_
        exact V_iret dX7_rivalsWith_67 rfl h
      · have h := h.2 c
        refine V_aload_n (pc := 57) dX7_rivalsWith_57 rfl ?_
        refine V_getR (pc := 58) fX7_22 sC9 rfl dX7_rivalsWith_58 ?_
        refine V_iload_n (pc := 61) dX7_rivalsWith_61 rfl ?_
        refine V_iald (pc := 62) sC43 dX7_rivalsWith_62 h.1 ?_
        have h := h.2
        refine V_goto (tgt := 67) (pc := 63) dX7_rivalsWith_63 rfl ?_
        exact V_iret dX7_rivalsWith_67 rfl h
    · have h := h.2 c
      refine V_aload_n (pc := 23) dX7_rivalsWith_23 rfl ?_
      refine V_getR (pc := 24) fX7_18 sC9 rfl dX7_rivalsWith_24 ?_
      refine V_iload_n (pc := 27) dX7_rivalsWith_27 rfl ?_
      refine V_bald (pc := 28) sC42 dX7_rivalsWith_28 h.1 ?_
      have h := h.2
      refine V_if_ne (tgt := 37) (pc := 29) dX7_rivalsWith_29 rfl (fun c => ?_) (fun c => ?_)
      · have h := h.1 c
        refine V_aload_n (pc := 37) dX7_rivalsWith_37 rfl ?_
        refine V_getR (pc := 38) fX7_18 sC9 rfl dX7_rivalsWith_38 ?_
        refine V_iload_n (pc := 41) dX7_rivalsWith_41 rfl ?_
        refine V_bald (pc := 42) sC42 dX7_rivalsWith_42 h.1 ?_
        have h := h.2
        refine V_iconst (v := 1) (pc := 43) dX7_rivalsWith_43 rfl ?_
        refine V_iadd (pc := 44) dX7_rivalsWith_44 ?_
        refine V_aload_n (pc := 45) dX7_rivalsWith_45 rfl ?_
        refine V_getR (pc := 46) fX7_18 sC9 rfl dX7_rivalsWith_46 ?_
        refine V_aload_n (pc := 49) dX7_rivalsWith_49 rfl ?_
        refine V_callVi [] (pc := 50) kX7_all lX7_36 sC9 rfl rfl (Nat.le_of_ble_eq_true rfl) rfl (Nat.le_of_ble_eq_true rfl) dX7_rivalsWith_50 ?_
        refine Ci.mono h ?_
        intro x4 M4 h
        refine V_bald (pc := 53) sC42 dX7_rivalsWith_53 h.1 ?_
        have h := h.2
        refine V_icmp_ne (tgt := 66) (pc := 54) dX7_rivalsWith_54 rfl (fun c => ?_) (fun c => ?_)
        · have h := h.1 c
          refine V_iconst (v := 0) (pc := 66) dX7_rivalsWith_66 rfl ?_
          exact V_iret dX7_rivalsWith_67 rfl h
        · have h := h.2 c
          refine V_aload_n (pc := 57) dX7_rivalsWith_57 rfl ?_
          refine V_getR (pc := 58) fX7_22 sC9 rfl dX7_rivalsWith_58 ?_
          refine V_iload_n (pc := 61) dX7_rivalsWith_61 rfl ?_
          refine V_iald (pc := 62) sC43 dX7_rivalsWith_62 h.1 ?_
          have h := h.2
          refine V_goto (tgt := 67) (pc := 63) dX7_rivalsWith_63 rfl ?_
          exact V_iret dX7_rivalsWith_67 rfl h
      · have h := h.2 c
        refine V_aload_n (pc := 32) dX7_rivalsWith_32 rfl ?_
        refine V_iload_n (pc := 33) dX7_rivalsWith_33 rfl ?_
        refine V_callVv [.int (x2 &&& (v1 ^^^ (-1)))] (pc := 34) kX7_partSet lX7_65 sC9 rfl rfl (Nat.le_of_ble_eq_true rfl) rfl (Nat.le_of_ble_eq_true rfl) dX7_rivalsWith_34 ?_
        refine Cv.mono h ?_
        intro M5 h
        refine V_aload_n (pc := 37) dX7_rivalsWith_37 rfl ?_
        refine V_getR (pc := 38) fX7_18 sC9 rfl dX7_rivalsWith_38 ?_
        refine V_iload_n (pc := 41) dX7_rivalsWith_41 rfl ?_
        refine V_bald (pc := 42) sC42 dX7_rivalsWith_42 h.1 ?_
        have h := h.2
        refine V_iconst (v := 1) (pc := 43) dX7_rivalsWith_43 rfl ?_
        refine V_iadd (pc := 44) dX7_rivalsWith_44 ?_
        refine V_aload_n (pc := 45) dX7_rivalsWith_45 rfl ?_
        refine V_getR (pc := 46) fX7_18 sC9 rfl dX7_rivalsWith_46 ?_
        refine V_aload_n (pc := 49) dX7_rivalsWith_49 rfl ?_
        refine V_callVi [] (pc := 50) kX7_all lX7_36 sC9 rfl rfl (Nat.le_of_ble_eq_true rfl) rfl (Nat.le_of_ble_eq_true rfl) dX7_rivalsWith_50 ?_
        refine Ci.mono h ?_
        intro x6 M6 h
        refine V_bald (pc := 53) sC42 dX7_rivalsWith_53 h.1 ?_
        have h := h.2
        refine V_icmp_ne (tgt := 66) (pc := 54) dX7_rivalsWith_54 rfl (fun c => ?_) (fun c => ?_)
        · have h := h.1 c
          refine V_iconst (v := 0) (pc := 66) dX7_rivalsWith_66 rfl ?_
          exact V_iret dX7_rivalsWith_67 rfl h
        · have h := h.2 c
          refine V_aload_n (pc := 57) dX7_rivalsWith_57 rfl ?_
          refine V_getR (pc := 58) fX7_22 sC9 rfl dX7_rivalsWith_58 ?_
          refine V_iload_n (pc := 61) dX7_rivalsWith_61 rfl ?_
          refine V_iald (pc := 62) sC43 dX7_rivalsWith_62 h.1 ?_
          have h := h.2
          refine V_goto (tgt := 67) (pc := 63) dX7_rivalsWith_63 rfl ?_
          exact V_iret dX7_rivalsWith_67 rfl h
  · have h := h.2 c
    refine V_iconst (v := 0) (pc := 8) dX7_rivalsWith_8 rfl ?_
    exact V_iret dX7_rivalsWith_9 rfl h
theorem wp_X7_pickFirst {G : GV} {k : Nat} {M : Mem} {q : Mem → Prop}  (h : Ci shC G mX7_all (k + 3) [.ref (G.2.1 9)] M (fun x1 M1 => V shC G mX7_pickFirst (k + 4) 7 [(0, .ref (G.2.1 9)), (1, .int x1), (2, .int 0)] [] M1 (Qv q))) : Cv shC G mX7_pickFirst (k + 4) [.ref (G.2.1 9)] M q := by
  unfold Cv
  show V _ _ _ _ _ [(0, .ref (G.2.1 9))] _ _ _
  refine V_aload_n (pc := 0) dX7_pickFirst_0 rfl ?_
  refine V_callVi [] (pc := 1) kX7_all lX7_36 sC9 rfl rfl (Nat.le_of_ble_eq_true rfl) rfl (Nat.le_of_ble_eq_true rfl) dX7_pickFirst_1 ?_
  refine Ci.mono h ?_
  intro x1 M1 h
  refine V_istore_n (pc := 4) dX7_pickFirst_4 (by decide) ?_
  refine V_lv (lv2 := [(0, .ref (G.2.1 9)), (1, .int x1)]) rfl ?_
  refine V_iconst (v := 0) (pc := 5) dX7_pickFirst_5 rfl ?_
  refine V_istore_n (pc := 6) dX7_pickFirst_6 (by decide) ?_
  refine V_lv (lv2 := [(0, .ref (G.2.1 9)), (1, .int x1), (2, .int 0)]) rfl ?_
  exact V_sub h ⟨rfl, rfl, rfl, trivial⟩
theorem wp_X7_pickFirst_7 {G : GV} {k : Nat} {M : Mem} {q : Mem → Prop} {v1 : Int32} {v2 : Int32} (h : ((12 ≤ v2 → q M) ∧ (¬ 12 ≤ v2 → ((v1 = 0 → q M) ∧ (¬ v1 = 0 → Ci shC G mX7_leastPerson (k + 3) [.ref (G.2.1 9), .int v1] M (fun x1 M1 => V shC G mX7_pickFirst (k + 4) 26 [(0, .ref (G.2.1 9)), (1, .int v1), (2, .int v2), (3, .int x1), (4, .int 0)] [] M1 (Qv q))))))) : V shC G mX7_pickFirst (k + 4) 7 [(0, .ref (G.2.1 9)), (1, .int v1), (2, .int v2)] [] M (Qv q) := by
  refine V_iload_n (pc := 7) dX7_pickFirst_7 rfl ?_
  refine V_bipush (v := 12) (pc := 8) dX7_pickFirst_8 rfl ?_
  refine V_icmp_ge (tgt := 74) (pc := 10) dX7_pickFirst_10 rfl (fun c => ?_) (fun c => ?_)
  · have h := h.1 c
    exact V_vret dX7_pickFirst_74 rfl h
  · have h := h.2 c
    refine V_iload_n (pc := 13) dX7_pickFirst_13 rfl ?_
    refine V_if_eq (tgt := 74) (pc := 14) dX7_pickFirst_14 rfl (fun c => ?_) (fun c => ?_)
    · have h := h.1 c
      exact V_vret dX7_pickFirst_74 rfl h
    · have h := h.2 c
      refine V_aload_n (pc := 17) dX7_pickFirst_17 rfl ?_
      refine V_iload_n (pc := 18) dX7_pickFirst_18 rfl ?_
      refine V_callVi [.int v1] (pc := 19) kX7_leastPerson lX7_82 sC9 rfl rfl (Nat.le_of_ble_eq_true rfl) rfl (Nat.le_of_ble_eq_true rfl) dX7_pickFirst_19 ?_
      refine Ci.mono h ?_
      intro x1 M1 h
      refine V_istore_n (pc := 22) dX7_pickFirst_22 (by decide) ?_
      refine V_lv (lv2 := [(0, .ref (G.2.1 9)), (1, .int v1), (2, .int v2), (3, .int x1)]) rfl ?_
      refine V_iconst (v := 0) (pc := 23) dX7_pickFirst_23 rfl ?_
      refine V_istore (pc := 24) dX7_pickFirst_24 (by decide) ?_
      refine V_lv (lv2 := [(0, .ref (G.2.1 9)), (1, .int v1), (2, .int v2), (3, .int x1), (4, .int 0)]) rfl ?_
      exact V_sub h ⟨rfl, rfl, rfl, rfl, rfl, trivial⟩
theorem wp_X7_pickFirst_26 {G : GV} {k : Nat} {M : Mem} {q : Mem → Prop} {v1 : Int32} {v2 : Int32} {v3 : Int32} {v4 : Int32} (h : (((M.1 6 8) ≤ v4 → V shC G mX7_pickFirst (k + 4) 7 [(0, .ref (G.2.1 9)), (1, .int (v1 &&& (v3 ^^^ (-1)))), (2, .int (v2 + 1))] [] M (Qv q)) ∧ (¬ (M.1 6 8) ≤ v4 → ((((v3 >>> (v4 &&& 31)) &&& 1) ≠ 1 → V shC G mX7_pickFirst (k + 4) 26 [(0, .ref (G.2.1 9)), (1, .int v1), (2, .int v2), (3, .int v3), (4, .int (v4 + 1))] [] M (Qv q)) ∧ (((v3 >>> (v4 &&& 31)) &&& 1) = 1 → vp_in v4 12 ∧ V shC G mX7_pickFirst (k + 4) 26 [(0, .ref (G.2.1 9)), (1, .int v1), (2, .int v2), (3, .int v3), (4, .int (v4 + 1))] [] (mset M 41 (ix v4) v3) (Qv q)))))) : V shC G mX7_pickFirst (k + 4) 26 [(0, .ref (G.2.1 9)), (1, .int v1), (2, .int v2), (3, .int v3), (4, .int v4)] [] M (Qv q) := by
  refine V_iload (pc := 26) dX7_pickFirst_26 rfl ?_
  refine V_aload_n (pc := 28) dX7_pickFirst_28 rfl ?_
  refine V_getR (pc := 29) fX7_29 sC9 rfl dX7_pickFirst_29 ?_
  refine V_getI (pc := 32) fX7_40 sC6 rfl dX7_pickFirst_32 ?_
  refine V_icmp_ge (tgt := 62) (pc := 35) dX7_pickFirst_35 rfl (fun c => ?_) (fun c => ?_)
  · have h := h.1 c
    refine V_iload_n (pc := 62) dX7_pickFirst_62 rfl ?_
    refine V_iload_n (pc := 63) dX7_pickFirst_63 rfl ?_
    refine V_iconst (v := (-1)) (pc := 64) dX7_pickFirst_64 rfl ?_
    refine V_ixor (pc := 65) dX7_pickFirst_65 ?_
    refine V_iand (pc := 66) dX7_pickFirst_66 ?_
    refine V_istore_n (pc := 67) dX7_pickFirst_67 (by decide) ?_
    refine V_lv (lv2 := [(0, .ref (G.2.1 9)), (1, .int (v1 &&& (v3 ^^^ (-1)))), (2, .int v2), (3, .int v3), (4, .int v4)]) rfl ?_
    refine V_iinc (pc := 68) dX7_pickFirst_68 rfl (by decide) ?_
    refine V_lv (lv2 := [(0, .ref (G.2.1 9)), (1, .int (v1 &&& (v3 ^^^ (-1)))), (2, .int (v2 + 1)), (3, .int v3), (4, .int v4)]) rfl ?_
    refine V_goto (tgt := 7) (pc := 71) dX7_pickFirst_71 rfl ?_
    exact V_sub h ⟨rfl, rfl, rfl, trivial⟩
  · have h := h.2 c
    refine V_iload_n (pc := 38) dX7_pickFirst_38 rfl ?_
    refine V_iload (pc := 39) dX7_pickFirst_39 rfl ?_
    refine V_ishr (pc := 41) dX7_pickFirst_41 ?_
    refine V_iconst (v := 1) (pc := 42) dX7_pickFirst_42 rfl ?_
    refine V_iand (pc := 43) dX7_pickFirst_43 ?_
    refine V_iconst (v := 1) (pc := 44) dX7_pickFirst_44 rfl ?_
    refine V_icmp_ne (tgt := 56) (pc := 45) dX7_pickFirst_45 rfl (fun c => ?_) (fun c => ?_)
    · have h := h.1 c
      refine V_iinc (pc := 56) dX7_pickFirst_56 rfl (by decide) ?_
      refine V_lv (lv2 := [(0, .ref (G.2.1 9)), (1, .int v1), (2, .int v2), (3, .int v3), (4, .int (v4 + 1))]) rfl ?_
      refine V_goto (tgt := 26) (pc := 59) dX7_pickFirst_59 rfl ?_
      exact V_sub h ⟨rfl, rfl, rfl, rfl, rfl, trivial⟩
    · have h := h.2 c
      refine V_aload_n (pc := 48) dX7_pickFirst_48 rfl ?_
      refine V_getR (pc := 49) fX7_15 sC9 rfl dX7_pickFirst_49 ?_
      refine V_iload (pc := 52) dX7_pickFirst_52 rfl ?_
      refine V_iload_n (pc := 54) dX7_pickFirst_54 rfl ?_
      refine V_iast (pc := 55) sC41 dX7_pickFirst_55 h.1 ?_
      have h := h.2
      refine V_iinc (pc := 56) dX7_pickFirst_56 rfl (by decide) ?_
      refine V_lv (lv2 := [(0, .ref (G.2.1 9)), (1, .int v1), (2, .int v2), (3, .int v3), (4, .int (v4 + 1))]) rfl ?_
      refine V_goto (tgt := 26) (pc := 59) dX7_pickFirst_59 rfl ?_
      exact V_sub h ⟨rfl, rfl, rfl, rfl, rfl, trivial⟩
