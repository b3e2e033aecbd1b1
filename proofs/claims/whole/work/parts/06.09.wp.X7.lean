theorem wp_X7_addPartings {G : GV} {k : Nat} {M : Mem} {q : Mem → Prop} {v1 : Int32} {v2 : Int32} (h : vp_in v2 4096 ∧ (((M.1 42 (ix v2)) = 1 → vp_in (v1 &&& (v2 ^^^ (-1))) 4096 ∧ vp_in v1 4096 ∧ (((M.1 42 (ix v1)) ≤ ((M.1 42 (ix (v1 &&& (v2 ^^^ (-1))))) + 1) → vp_in v1 4096 ∧ ((((M.1 42 (ix (v1 &&& (v2 ^^^ (-1))))) + 1) ≠ (M.1 42 (ix v1)) → q M) ∧ (((M.1 42 (ix (v1 &&& (v2 ^^^ (-1))))) + 1) = (M.1 42 (ix v1)) → vp_in v1 4096 ∧ vp_in (v1 &&& (v2 ^^^ (-1))) 4096 ∧ vp_in v1 4096 ∧ q (mset M 43 (ix v1) ((M.1 43 (ix v1)) + (M.1 43 (ix (v1 &&& (v2 ^^^ (-1)))))))))) ∧ (¬ (M.1 42 (ix v1)) ≤ ((M.1 42 (ix (v1 &&& (v2 ^^^ (-1))))) + 1) → vp_in v1 4096 ∧ vp_in v1 4096 ∧ vp_in v1 4096 ∧ ((((M.1 42 (ix (v1 &&& (v2 ^^^ (-1))))) + 1) ≠ ((mset M 42 (ix v1) (vp_nar .byte ((Int32.toInt8 ((M.1 42 (ix (v1 &&& (v2 ^^^ (-1))))) + 1)).toInt32))).1 42 (ix v1)) → q (mset (mset M 42 (ix v1) (vp_nar .byte ((Int32.toInt8 ((M.1 42 (ix (v1 &&& (v2 ^^^ (-1))))) + 1)).toInt32))) 43 (ix v1) 0)) ∧ (((M.1 42 (ix (v1 &&& (v2 ^^^ (-1))))) + 1) = ((mset M 42 (ix v1) (vp_nar .byte ((Int32.toInt8 ((M.1 42 (ix (v1 &&& (v2 ^^^ (-1))))) + 1)).toInt32))).1 42 (ix v1)) → vp_in v1 4096 ∧ vp_in (v1 &&& (v2 ^^^ (-1))) 4096 ∧ vp_in v1 4096 ∧ q (mset (mset (mset M 42 (ix v1) (vp_nar .byte ((Int32.toInt8 ((M.1 42 (ix (v1 &&& (v2 ^^^ (-1))))) + 1)).toInt32))) 43 (ix v1) 0) 43 (ix v1) (((mset M 43 (ix v1) 0).1 43 (ix v1)) + ((mset M 43 (ix v1) 0).1 43 (ix (v1 &&& (v2 ^^^ (-1)))))))))))) ∧ (¬ (M.1 42 (ix v2)) = 1 → q M))) : Cv shC G mX7_addPartings k [.ref (G.2.1 9), .int v1, .int v2] M q := by
  unfold Cv
  show V _ _ _ _ _ [(0, .ref (G.2.1 9)), (1, .int v1), (2, .int v2)] _ _ _
  refine V_aload_n (pc := 0) dX7_addPartings_0 rfl ?_
  refine V_getR (pc := 1) fX7_18 sC9 rfl dX7_addPartings_1 ?_
  refine V_iload_n (pc := 4) dX7_addPartings_4 rfl ?_
  refine V_bald (pc := 5) sC42 dX7_addPartings_5 h.1 ?_
  have h := h.2
  refine V_iconst (v := 1) (pc := 6) dX7_addPartings_6 rfl ?_
  refine V_icmp_eq (tgt := 11) (pc := 7) dX7_addPartings_7 rfl (fun c => ?_) (fun c => ?_)
  · have h := h.1 c
    refine V_iload_n (pc := 11) dX7_addPartings_11 rfl ?_
    refine V_iload_n (pc := 12) dX7_addPartings_12 rfl ?_
    refine V_iconst (v := (-1)) (pc := 13) dX7_addPartings_13 rfl ?_
    refine V_ixor (pc := 14) dX7_addPartings_14 ?_
    refine V_iand (pc := 15) dX7_addPartings_15 ?_
    refine V_istore_n (pc := 16) dX7_addPartings_16 (by decide) ?_
    refine V_lv (lv2 := [(0, .ref (G.2.1 9)), (1, .int v1), (2, .int v2), (3, .int (v1 &&& (v2 ^^^ (-1))))]) rfl ?_
    refine V_aload_n (pc := 17) dX7_addPartings_17 rfl ?_
    refine V_getR (pc := 18) fX7_18 sC9 rfl dX7_addPartings_18 ?_
    refine V_iload_n (pc := 21) dX7_addPartings_21 rfl ?_
    refine V_bald (pc := 22) sC42 dX7_addPartings_22 h.1 ?_
    have h := h.2
    refine V_iconst (v := 1) (pc := 23) dX7_addPartings_23 rfl ?_
    refine V_iadd (pc := 24) dX7_addPartings_24 ?_
    refine V_istore (pc := 25) dX7_addPartings_25 (by decide) ?_
    refine V_lv (lv2 := [(0, .ref (G.2.1 9)), (1, .int v1), (2, .int v2), (3, .int (v1 &&& (v2 ^^^ (-1)))), (4, .int ((M.1 42 (ix (v1 &&& (v2 ^^^ (-1))))) + 1))]) rfl ?_
    refine V_iload (pc := 27) dX7_addPartings_27 rfl ?_
    refine V_aload_n (pc := 29) dX7_addPartings_29 rfl ?_
    refine V_getR (pc := 30) fX7_18 sC9 rfl dX7_addPartings_30 ?_
    refine V_iload_n (pc := 33) dX7_addPartings_33 rfl ?_
    refine V_bald (pc := 34) sC42 dX7_addPartings_34 h.1 ?_
    have h := h.2
    refine V_icmp_ge (tgt := 54) (pc := 35) dX7_addPartings_35 rfl (fun c => ?_) (fun c => ?_)
    · have h := h.1 c
      refine V_iload (pc := 54) dX7_addPartings_54 rfl ?_
      refine V_aload_n (pc := 56) dX7_addPartings_56 rfl ?_
      refine V_getR (pc := 57) fX7_18 sC9 rfl dX7_addPartings_57 ?_
      refine V_iload_n (pc := 60) dX7_addPartings_60 rfl ?_
      refine V_bald (pc := 61) sC42 dX7_addPartings_61 h.1 ?_
      have h := h.2
      refine V_icmp_ne (tgt := 80) (pc := 62) dX7_addPartings_62 rfl (fun c => ?_) (fun c => ?_)
      · have h := h.1 c
        exact V_vret dX7_addPartings_80 rfl h
      · have h := h.2 c
        refine V_aload_n (pc := 65) dX7_addPartings_65 rfl ?_
        refine V_getR (pc := 66) fX7_22 sC9 rfl dX7_addPartings_66 ?_
        refine V_iload_n (pc := 69) dX7_addPartings_69 rfl ?_
        refine V_dup2 (pc := 70) dX7_addPartings_70 rfl rfl ?_
        refine V_iald (pc := 71) sC43 dX7_addPartings_71 h.1 ?_
        have h := h.2
        refine V_aload_n (pc := 72) dX7_addPartings_72 rfl ?_
        refine V_getR (pc := 73) fX7_22 sC9 rfl dX7_addPartings_73 ?_
        refine V_iload_n (pc := 76) dX7_addPartings_76 rfl ?_
        refine V_iald (pc := 77) sC43 dX7_addPartings_77 h.1 ?_
        have h := h.2
        refine V_iadd (pc := 78) dX7_addPartings_78 ?_
        refine V_iast (pc := 79) sC43 dX7_addPartings_79 h.1 ?_
        have h := h.2
        exact V_vret dX7_addPartings_80 rfl h
    · have h := h.2 c
      refine V_aload_n (pc := 38) dX7_addPartings_38 rfl ?_
      refine V_getR (pc := 39) fX7_18 sC9 rfl dX7_addPartings_39 ?_
      refine V_iload_n (pc := 42) dX7_addPartings_42 rfl ?_
      refine V_iload (pc := 43) dX7_addPartings_43 rfl ?_
      refine V_i2b (pc := 45) dX7_addPartings_45 ?_
      refine V_bast (pc := 46) sC42 dX7_addPartings_46 h.1 ?_
      have h := h.2
      refine V_aload_n (pc := 47) dX7_addPartings_47 rfl ?_
      refine V_getR (pc := 48) fX7_22 sC9 rfl dX7_addPartings_48 ?_
      refine V_iload_n (pc := 51) dX7_addPartings_51 rfl ?_
      refine V_iconst (v := 0) (pc := 52) dX7_addPartings_52 rfl ?_
      refine V_iast (pc := 53) sC43 dX7_addPartings_53 h.1 ?_
      have h := h.2
      refine V_iload (pc := 54) dX7_addPartings_54 rfl ?_
      refine V_aload_n (pc := 56) dX7_addPartings_56 rfl ?_
      refine V_getR (pc := 57) fX7_18 sC9 rfl dX7_addPartings_57 ?_
      refine V_iload_n (pc := 60) dX7_addPartings_60 rfl ?_
      refine V_bald (pc := 61) sC42 dX7_addPartings_61 h.1 ?_
      have h := h.2
      refine V_top (v := ((mset M 42 (ix v1) (vp_nar .byte ((Int32.toInt8 ((M.1 42 (ix (v1 &&& (v2 ^^^ (-1))))) + 1)).toInt32))).1 42 (ix v1))) (by simp [mset, lset]) ?_
      refine V_icmp_ne (tgt := 80) (pc := 62) dX7_addPartings_62 rfl (fun c => ?_) (fun c => ?_)
      · have h := h.1 c
        exact V_vret dX7_addPartings_80 rfl h
      · have h := h.2 c
        refine V_aload_n (pc := 65) dX7_addPartings_65 rfl ?_
        refine V_getR (pc := 66) fX7_22 sC9 rfl dX7_addPartings_66 ?_
        refine V_iload_n (pc := 69) dX7_addPartings_69 rfl ?_
        refine V_dup2 (pc := 70) dX7_addPartings_70 rfl rfl ?_
        refine V_iald (pc := 71) sC43 dX7_addPartings_71 h.1 ?_
        have h := h.2
        refine V_top (v := ((mset M 43 (ix v1) 0).1 43 (ix v1))) (by simp [mset, lset]) ?_
        refine V_aload_n (pc := 72) dX7_addPartings_72 rfl ?_
        refine V_getR (pc := 73) fX7_22 sC9 rfl dX7_addPartings_73 ?_
        refine V_iload_n (pc := 76) dX7_addPartings_76 rfl ?_
        refine V_iald (pc := 77) sC43 dX7_addPartings_77 h.1 ?_
        have h := h.2
        refine V_top (v := ((mset M 43 (ix v1) 0).1 43 (ix (v1 &&& (v2 ^^^ (-1)))))) (by simp [mset, lset]) ?_
        refine V_iadd (pc := 78) dX7_addPartings_78 ?_
        refine V_iast (pc := 79) sC43 dX7_addPartings_79 h.1 ?_
        have h := h.2
        exact V_vret dX7_addPartings_80 rfl h
  · have h := h.2 c
    exact V_vret dX7_addPartings_10 rfl h
theorem wp_X7_all {G : GV} {k : Nat} {M : Mem} {q : Int32 → Mem → Prop}  (h : q ((1 <<< ((M.1 6 8) &&& 31)) - 1) M) : Ci shC G mX7_all k [.ref (G.2.1 9)] M q := by
  unfold Ci
  show V _ _ _ _ _ [(0, .ref (G.2.1 9))] _ _ _
  refine V_iconst (v := 1) (pc := 0) dX7_all_0 rfl ?_
  refine V_aload_n (pc := 1) dX7_all_1 rfl ?_
  refine V_getR (pc := 2) fX7_29 sC9 rfl dX7_all_2 ?_
  refine V_getI (pc := 5) fX7_40 sC6 rfl dX7_all_5 ?_
  refine V_ishl (pc := 8) dX7_all_8 ?_
  refine V_iconst (v := 1) (pc := 9) dX7_all_9 rfl ?_
  refine V_isub (pc := 10) dX7_all_10 ?_
  exact V_iret dX7_all_11 rfl h
theorem wp_X7_leastPerson {G : GV} {k : Nat} {M : Mem} {q : Int32 → Mem → Prop} {v1 : Int32} (h : V shC G mX7_leastPerson k 7 [(0, .ref (G.2.1 9)), (1, .int v1), (2, .int (v1 &&& (-v1))), (3, .int (v1 &&& (-v1)))] [] M (Qi q)) : Ci shC G mX7_leastPerson k [.ref (G.2.1 9), .int v1] M q := by
  unfold Ci
  show V _ _ _ _ _ [(0, .ref (G.2.1 9)), (1, .int v1)] _ _ _
  refine V_iload_n (pc := 0) dX7_leastPerson_0 rfl ?_
  refine V_iload_n (pc := 1) dX7_leastPerson_1 rfl ?_
  refine V_ineg (pc := 2) dX7_leastPerson_2 ?_
  refine V_iand (pc := 3) dX7_leastPerson_3 ?_
  refine V_istore_n (pc := 4) dX7_leastPerson_4 (by decide) ?_
  refine V_lv (lv2 := [(0, .ref (G.2.1 9)), (1, .int v1), (2, .int (v1 &&& (-v1)))]) rfl ?_
  refine V_iload_n (pc := 5) dX7_leastPerson_5 rfl ?_
  refine V_istore_n (pc := 6) dX7_leastPerson_6 (by decide) ?_
  refine V_lv (lv2 := [(0, .ref (G.2.1 9)), (1, .int v1), (2, .int (v1 &&& (-v1))), (3, .int (v1 &&& (-v1)))]) rfl ?_
  exact V_sub h ⟨rfl, rfl, rfl, rfl, trivial⟩
theorem wp_X7_leastPerson_7 {G : GV} {k : Nat} {M : Mem} {q : Int32 → Mem → Prop} {v1 : Int32} {v2 : Int32} {v3 : Int32} (h : ((v1 ≤ v3 → q v1 M) ∧ (¬ v1 ≤ v3 → (((v3 &&& v2) = 0 → V shC G mX7_leastPerson k 7 [(0, .ref (G.2.1 9)), (1, .int v1), (2, .int v2), (3, .int (v3 + 1))] [] M (Qi q)) ∧ (¬ (v3 &&& v2) = 0 → (((v3 &&& (v1 ^^^ (-1))) ≠ 0 → V shC G mX7_leastPerson k 7 [(0, .ref (G.2.1 9)), (1, .int v1), (2, .int v2), (3, .int (v3 + 1))] [] M (Qi q)) ∧ ((v3 &&& (v1 ^^^ (-1))) = 0 → vp_in v3 4096 ∧ (((M.1 42 (ix v3)) ≠ 1 → V shC G mX7_leastPerson k 7 [(0, .ref (G.2.1 9)), (1, .int v1), (2, .int v2), (3, .int (v3 + 1))] [] M (Qi q)) ∧ ((M.1 42 (ix v3)) = 1 → vp_in (v1 &&& (v3 ^^^ (-1))) 4096 ∧ vp_in v1 4096 ∧ ((((M.1 42 (ix (v1 &&& (v3 ^^^ (-1))))) + 1) ≠ (M.1 42 (ix v1)) → V shC G mX7_leastPerson k 7 [(0, .ref (G.2.1 9)), (1, .int v1), (2, .int v2), (3, .int (v3 + 1))] [] M (Qi q)) ∧ (((M.1 42 (ix (v1 &&& (v3 ^^^ (-1))))) + 1) = (M.1 42 (ix v1)) → q v3 M))))))))))) : V shC G mX7_leastPerson k 7 [(0, .ref (G.2.1 9)), (1, .int v1), (2, .int v2), (3, .int v3)] [] M (Qi q) := by
  refine V_iload_n (pc := 7) dX7_leastPerson_7 rfl ?_
  refine V_iload_n (pc := 8) dX7_leastPerson_8 rfl ?_
  refine V_icmp_ge (tgt := 77) (pc := 9) dX7_leastPerson_9 rfl (fun c => ?_) (fun c => ?_)
  · have h := h.1 c
    refine V_iload_n (pc := 77) dX7_leastPerson_77 rfl ?_
    exact V_iret dX7_leastPerson_78 rfl h
  · have h := h.2 c
    refine V_iload_n (pc := 12) dX7_leastPerson_12 rfl ?_
    refine V_iload_n (pc := 13) dX7_leastPerson_13 rfl ?_
    refine V_iand (pc := 14) dX7_leastPerson_14 ?_
    refine V_if_eq (tgt := 30) (pc := 15) dX7_leastPerson_15 rfl (fun c => ?_) (fun c => ?_)
    · have h := h.1 c
      refine V_iconst (v := 0) (pc := 30) dX7_leastPerson_30 rfl ?_
      refine V_istore (pc := 31) dX7_leastPerson_31 (by decide) ?_
      refine V_lv (lv2 := [(0, .ref (G.2.1 9)), (1, .int v1), (2, .int v2), (3, .int v3), (4, .int 0)]) rfl ?_
      refine V_iload (pc := 33) dX7_leastPerson_33 rfl ?_
      refine V_if_eq (tgt := 71) (pc := 35) dX7_leastPerson_35 rfl (fun c => ?_) (fun c => ?_)
      · skip
        refine V_iinc (pc := 71) dX7_leastPerson_71 rfl (by decide) ?_
        refine V_lv (lv2 := [(0, .ref (G.2.1 9)), (1, .int v1), (2, .int v2), (3, .int (v3 + 1)), (4, .int 0)]) rfl ?_
        refine V_goto (tgt := 7) (pc := 74) dX7_leastPerson_74 rfl ?_
        exact V_sub h ⟨rfl, rfl, rfl, rfl, trivial⟩
      · exact absurd c (by decide)
    · have h := h.2 c
      refine V_iload_n (pc := 18) dX7_leastPerson_18 rfl ?_
      refine V_iload_n (pc := 19) dX7_leastPerson_19 rfl ?_
      refine V_iconst (v := (-1)) (pc := 20) dX7_leastPerson_20 rfl ?_
      refine V_ixor (pc := 21) dX7_leastPerson_21 ?_
      refine V_iand (pc := 22) dX7_leastPerson_22 ?_
      refine V_if_ne (tgt := 30) (pc := 23) dX7_leastPerson_23 rfl (fun c => ?_) (fun c => ?_)
      · have h := h.1 c
        refine V_iconst (v := 0) (pc := 30) dX7_leastPerson_30 rfl ?_
        refine V_istore (pc := 31) dX7_leastPerson_31 (by decide) ?_
        refine V_lv (lv2 := [(0, .ref (G.2.1 9)), (1, .int v1), (2, .int v2), (3, .int v3), (4, .int 0)]) rfl ?_
        refine V_iload (pc := 33) dX7_leastPerson_33 rfl ?_
        refine V_if_eq (tgt := 71) (pc := 35) dX7_leastPerson_35 rfl (fun c => ?_) (fun c => ?_)
        · skip
          refine V_iinc (pc := 71) dX7_leastPerson_71 rfl (by decide) ?_
          refine V_lv (lv2 := [(0, .ref (G.2.1 9)), (1, .int v1), (2, .int v2), (3, .int (v3 + 1)), (4, .int 0)]) rfl ?_
          refine V_goto (tgt := 7) (pc := 74) dX7_leastPerson_74 rfl ?_
          exact V_sub h ⟨rfl, rfl, rfl, rfl, trivial⟩
        · exact absurd c (by decide)
      · have h := h.2 c
        refine V_iconst (v := 1) (pc := 26) dX7_leastPerson_26 rfl ?_
        refine V_goto (tgt := 31) (pc := 27) dX7_leastPerson_27 rfl ?_
        refine V_istore (pc := 31) dX7_leastPerson_31 (by decide) ?_
        refine V_lv (lv2 := [(0, .ref (G.2.1 9)), (1, .int v1), (2, .int v2), (3, .int v3), (4, .int 1)]) rfl ?_
        refine V_iload (pc := 33) dX7_leastPerson_33 rfl ?_
        refine V_if_eq (tgt := 71) (pc := 35) dX7_leastPerson_35 rfl (fun c => ?_) (fun c => ?_)
        · exact absurd c (by decide)
        · skip
          refine V_aload_n (pc := 38) dX7_leastPerson_38 rfl ?_
          refine V_getR (pc := 39) fX7_18 sC9 rfl dX7_leastPerson_39 ?_
          refine V_iload_n (pc := 42) dX7_leastPerson_42 rfl ?_
          refine V_bald (pc := 43) sC42 dX7_leastPerson_43 h.1 ?_
          have h := h.2
          refine V_iconst (v := 1) (pc := 44) dX7_leastPerson_44 rfl ?_
          refine V_icmp_ne (tgt := 71) (pc := 45) dX7_leastPerson_45 rfl (fun c => ?_) (fun c => ?_)
          · have h := h.1 c
            refine V_iinc (pc := 71) dX7_leastPerson_71 rfl (by decide) ?_
            refine V_lv (lv2 := [(0, .ref (G.2.1 9)), (1, .int v1), (2, .int v2), (3, .int (v3 + 1)), (4, .int 1)]) rfl ?_
            refine V_goto (tgt := 7) (pc := 74) dX7_leastPerson_74 rfl ?_
            exact V_sub h ⟨rfl, rfl, rfl, rfl, trivial⟩
          · have h := h.2 c
            refine V_aload_n (pc := 48) dX7_leastPerson_48 rfl ?_
            refine V_getR (pc := 49) fX7_18 sC9 rfl dX7_leastPerson_49 ?_
            refine V_iload_n (pc := 52) dX7_leastPerson_52 rfl ?_
            refine V_iload_n (pc := 53) dX7_leastPerson_53 rfl ?_
            refine V_iconst (v := (-1)) (pc := 54) dX7_leastPerson_54 rfl ?_
            refine V_ixor (pc := 55) dX7_leastPerson_55 ?_
            refine V_iand (pc := 56) dX7_leastPerson_56 ?_
            refine V_bald (pc := 57) sC42 dX7_leastPerson_57 h.1 ?_
            have h := h.2
            refine V_iconst (v := 1) (pc := 58) dX7_leastPerson_58 rfl ?_
            refine V_iadd (pc := 59) dX7_leastPerson_59 ?_
            refine V_aload_n (pc := 60) dX7_leastPerson_60 rfl ?_
            refine V_getR (pc := 61) fX7_18 sC9 rfl dX7_leastPerson_61 ?_
            refine V_iload_n (pc := 64) dX7_leastPerson_64 rfl ?_
            refine V_bald (pc := 65) sC42 dX7_leastPerson_65 h.1 ?_
            have h := h.2
            refine V_icmp_ne (tgt := 71) (pc := 66) dX7_leastPerson_66 rfl (fun c => ?_) (fun c => ?_)
            · have h := h.1 c
              refine V_iinc (pc := 71) dX7_leastPerson_71 rfl (by decide) ?_
              refine V_lv (lv2 := [(0, .ref (G.2.1 9)), (1, .int v1), (2, .int v2), (3, .int (v3 + 1)), (4, .int 1)]) rfl ?_
              refine V_goto (tgt := 7) (pc := 74) dX7_leastPerson_74 rfl ?_
              exact V_sub h ⟨rfl, rfl, rfl, rfl, trivial⟩
            · have h := h.2 c
              refine V_iload_n (pc := 69) dX7_leastPerson_69 rfl ?_
              exact V_iret dX7_leastPerson_70 rfl h
theorem wp_X7_partSet {G : GV} {k : Nat} {M : Mem} {q : Mem → Prop} {v1 : Int32} (h : Ci shC G mJ6_bitCount_0f7a4 k [.int ((v1 &&& (-v1)) - 1)] M (fun x1 M1 => vp_in x1 12 ∧ ((((v1 &&& ((v1 &&& (-v1)) ^^^ (-1))) &&& (M1.1 40 (ix x1))) ≠ (v1 &&& ((v1 &&& (-v1)) ^^^ (-1))) → vp_in v1 4096 ∧ Cv shC G mX7_addPartings k [.ref (G.2.1 9), .int v1, .int (v1 &&& (-v1))] (mset M1 42 (ix v1) (vp_nar .byte 13)) (fun M2 => V shC G mX7_partSet (k + 1) 75 [(0, .ref (G.2.1 9)), (1, .int v1), (2, .int (v1 &&& (-v1))), (3, .int (v1 &&& ((v1 &&& (-v1)) ^^^ (-1)))), (4, .int ((v1 &&& ((v1 &&& (-v1)) ^^^ (-1))) &&& (M1.1 40 (ix x1)))), (5, .int ((v1 &&& ((v1 &&& (-v1)) ^^^ (-1))) &&& (M1.1 40 (ix x1))))] [] M2 (Qv q))) ∧ (((v1 &&& ((v1 &&& (-v1)) ^^^ (-1))) &&& (M1.1 40 (ix x1))) = (v1 &&& ((v1 &&& (-v1)) ^^^ (-1))) → vp_in (v1 &&& ((v1 &&& (-v1)) ^^^ (-1))) 4096 ∧ ((1 < (M1.1 42 (ix (v1 &&& ((v1 &&& (-v1)) ^^^ (-1))))) → vp_in v1 4096 ∧ Cv shC G mX7_addPartings k [.ref (G.2.1 9), .int v1, .int (v1 &&& (-v1))] (mset M1 42 (ix v1) (vp_nar .byte 13)) (fun M3 => V shC G mX7_partSet (k + 1) 75 [(0, .ref (G.2.1 9)), (1, .int v1), (2, .int (v1 &&& (-v1))), (3, .int (v1 &&& ((v1 &&& (-v1)) ^^^ (-1)))), (4, .int ((v1 &&& ((v1 &&& (-v1)) ^^^ (-1))) &&& (M1.1 40 (ix x1)))), (5, .int ((v1 &&& ((v1 &&& (-v1)) ^^^ (-1))) &&& (M1.1 40 (ix x1))))] [] M3 (Qv q))) ∧ (¬ 1 < (M1.1 42 (ix (v1 &&& ((v1 &&& (-v1)) ^^^ (-1))))) → vp_in v1 4096 ∧ vp_in v1 4096 ∧ q (mset (mset M1 42 (ix v1) (vp_nar .byte 1)) 43 (ix v1) 1))))))) : Cv shC G mX7_partSet (k + 1) [.ref (G.2.1 9), .int v1] M q := by
  unfold Cv
  show V _ _ _ _ _ [(0, .ref (G.2.1 9)), (1, .int v1)] _ _ _
  refine V_iload_n (pc := 0) dX7_partSet_0 rfl ?_
  refine V_iload_n (pc := 1) dX7_partSet_1 rfl ?_
  refine V_ineg (pc := 2) dX7_partSet_2 ?_
  refine V_iand (pc := 3) dX7_partSet_3 ?_
  refine V_istore_n (pc := 4) dX7_partSet_4 (by decide) ?_
  refine V_lv (lv2 := [(0, .ref (G.2.1 9)), (1, .int v1), (2, .int (v1 &&& (-v1)))]) rfl ?_
  refine V_iload_n (pc := 5) dX7_partSet_5 rfl ?_
  refine V_iload_n (pc := 6) dX7_partSet_6 rfl ?_
  refine V_iconst (v := (-1)) (pc := 7) dX7_partSet_7 rfl ?_
  refine V_ixor (pc := 8) dX7_partSet_8 ?_
  refine V_iand (pc := 9) dX7_partSet_9 ?_
  refine V_istore_n (pc := 10) dX7_partSet_10 (by decide) ?_
  refine V_lv (lv2 := [(0, .ref (G.2.1 9)), (1, .int v1), (2, .int (v1 &&& (-v1))), (3, .int (v1 &&& ((v1 &&& (-v1)) ^^^ (-1))))]) rfl ?_
  refine V_iload_n (pc := 11) dX7_partSet_11 rfl ?_
  refine V_aload_n (pc := 12) dX7_partSet_12 rfl ?_
  refine V_getR (pc := 13) fX7_9 sC9 rfl dX7_partSet_13 ?_
  refine V_iload_n (pc := 16) dX7_partSet_16 rfl ?_
  refine V_iconst (v := 1) (pc := 17) dX7_partSet_17 rfl ?_
  refine V_isub (pc := 18) dX7_partSet_18 ?_
  refine V_callSi [.int ((v1 &&& (-v1)) - 1)] (pc := 19) kJ6_bitCount_0f7a4 lX7_46 rfl (Nat.le_of_ble_eq_true rfl) rfl (Nat.le_of_ble_eq_true rfl) dX7_partSet_19 ?_
  refine Ci.mono h ?_
  intro x1 M1 h
  refine V_iald (pc := 22) sC40 dX7_partSet_22 h.1 ?_
  have h := h.2
  refine V_iand (pc := 23) dX7_partSet_23 ?_
  refine V_istore (pc := 24) dX7_partSet_24 (by decide) ?_
  refine V_lv (lv2 := [(0, .ref (G.2.1 9)), (1, .int v1), (2, .int (v1 &&& (-v1))), (3, .int (v1 &&& ((v1 &&& (-v1)) ^^^ (-1)))), (4, .int ((v1 &&& ((v1 &&& (-v1)) ^^^ (-1))) &&& (M1.1 40 (ix x1))))]) rfl ?_
  refine V_iload (pc := 26) dX7_partSet_26 rfl ?_
  refine V_iload_n (pc := 28) dX7_partSet_28 rfl ?_
  refine V_icmp_ne (tgt := 57) (pc := 29) dX7_partSet_29 rfl (fun c => ?_) (fun c => ?_)
  · have h := h.1 c
    refine V_aload_n (pc := 57) dX7_partSet_57 rfl ?_
    refine V_getR (pc := 58) fX7_18 sC9 rfl dX7_partSet_58 ?_
    refine V_iload_n (pc := 61) dX7_partSet_61 rfl ?_
    refine V_bipush (v := 13) (pc := 62) dX7_partSet_62 rfl ?_
    refine V_bast (pc := 64) sC42 dX7_partSet_64 h.1 ?_
    have h := h.2
    refine V_aload_n (pc := 65) dX7_partSet_65 rfl ?_
    refine V_iload_n (pc := 66) dX7_partSet_66 rfl ?_
    refine V_iload_n (pc := 67) dX7_partSet_67 rfl ?_
    refine V_callVv [.int v1, .int (v1 &&& (-v1))] (pc := 68) kX7_addPartings lX7_75 sC9 rfl rfl (Nat.le_of_ble_eq_true rfl) rfl (Nat.le_of_ble_eq_true rfl) dX7_partSet_68 ?_
    refine Cv.mono h ?_
    intro M2 h
    refine V_iload (pc := 71) dX7_partSet_71 rfl ?_
    refine V_istore (pc := 73) dX7_partSet_73 (by decide) ?_
    refine V_lv (lv2 := [(0, .ref (G.2.1 9)), (1, .int v1), (2, .int (v1 &&& (-v1))), (3, .int (v1 &&& ((v1 &&& (-v1)) ^^^ (-1)))), (4, .int ((v1 &&& ((v1 &&& (-v1)) ^^^ (-1))) &&& (M1.1 40 (ix x1)))), (5, .int ((v1 &&& ((v1 &&& (-v1)) ^^^ (-1))) &&& (M1.1 40 (ix x1))))]) rfl ?_
    exact V_sub h ⟨rfl, rfl, rfl, rfl, rfl, rfl, trivial⟩
  · have h := h.2 c
    refine V_aload_n (pc := 32) dX7_partSet_32 rfl ?_
    refine V_getR (pc := 33) fX7_18 sC9 rfl dX7_partSet_33 ?_
    refine V_iload_n (pc := 36) dX7_partSet_36 rfl ?_
    refine V_bald (pc := 37) sC42 dX7_partSet_37 h.1 ?_
    have h := h.2
    refine V_iconst (v := 1) (pc := 38) dX7_partSet_38 rfl ?_
    refine V_icmp_gt (tgt := 57) (pc := 39) dX7_partSet_39 rfl (fun c => ?_) (fun c => ?_)
    · have h := h.1 c
      refine V_aload_n (pc := 57) dX7_partSet_57 rfl ?_
      refine V_getR (pc := 58) fX7_18 sC9 rfl dX7_partSet_58 ?_
      refine V_iload_n (pc := 61) dX7_partSet_61 rfl ?_
      refine V_bipush (v := 13) (pc := 62) dX7_partSet_62 rfl ?_
      refine V_bast (pc := 64) sC42 dX7_partSet_64 h.1 ?_
      have h := h.2
      refine V_aload_n (pc := 65) dX7_partSet_65 rfl ?_
      refine V_iload_n (pc := 66) dX7_partSet_66 rfl ?_
      refine V_iload_n (pc := 67) dX7_partSet_67 rfl ?_
      refine V_callVv [.int v1, .int (v1 &&& (-v1))] (pc := 68) kX7_addPartings lX7_75 sC9 rfl rfl (Nat.le_of_ble_eq_true rfl) rfl (Nat.le_of_ble_eq_true rfl) dX7_partSet_68 ?_
      refine Cv.mono h ?_
      intro M3 h
      refine V_iload (pc := 71) dX7_partSet_71 rfl ?_
      refine V_istore (pc := 73) dX7_partSet_73 (by decide) ?_
      refine V_lv (lv2 := [(0, .ref (G.2.1 9)), (1, .int v1), (2, .int (v1 &&& (-v1))), (3, .int (v1 &&& ((v1 &&& (-v1)) ^^^ (-1)))), (4, .int ((v1 &&& ((v1 &&& (-v1)) ^^^ (-1))) &&& (M1.1 40 (ix x1)))), (5, .int ((v1 &&& ((v1 &&& (-v1)) ^^^ (-1))) &&& (M1.1 40 (ix x1))))]) rfl ?_
      exact V_sub h ⟨rfl, rfl, rfl, rfl, rfl, rfl, trivial⟩
    · have h := h.2 c
      refine V_aload_n (pc := 42) dX7_partSet_42 rfl ?_
      refine V_getR (pc := 43) fX7_18 sC9 rfl dX7_partSet_43 ?_
      refine V_iload_n (pc := 46) dX7_partSet_46 rfl ?_
      refine V_iconst (v := 1) (pc := 47) dX7_partSet_47 rfl ?_
      refine V_bast (pc := 48) sC42 dX7_partSet_48 h.1 ?_
      have h := h.2
      refine V_aload_n (pc := 49) dX7_partSet_49 rfl ?_
      refine V_getR (pc := 50) fX7_22 sC9 rfl dX7_partSet_50 ?_
      refine V_iload_n (pc := 53) dX7_partSet_53 rfl ?_
      refine V_iconst (v := 1) (pc := 54) dX7_partSet_54 rfl ?_
      refine V_iast (pc := 55) sC43 dX7_partSet_55 h.1 ?_
      have h := h.2
      exact V_vret dX7_partSet_56 rfl h
theorem wp_X7_partSet_75 {G : GV} {k : Nat} {M : Mem} {q : Mem → Prop} {v1 : Int32} {v2 : Int32} {v3 : Int32} {v4 : Int32} {v5 : Int32} (h : ((v5 ≤ 0 → q M) ∧ (¬ v5 ≤ 0 → Cv shC G mX7_addPartings k [.ref (G.2.1 9), .int v1, .int (v2 ||| v5)] M (fun M1 => V shC G mX7_partSet (k + 1) 75 [(0, .ref (G.2.1 9)), (1, .int v1), (2, .int v2), (3, .int v3), (4, .int v4), (5, .int ((v5 - 1) &&& v4))] [] M1 (Qv q))))) : V shC G mX7_partSet (k + 1) 75 [(0, .ref (G.2.1 9)), (1, .int v1), (2, .int v2), (3, .int v3), (4, .int v4), (5, .int v5)] [] M (Qv q) := by
  refine V_iload (pc := 75) dX7_partSet_75 rfl ?_
  refine V_if_le (tgt := 101) (pc := 77) dX7_partSet_77 rfl (fun c => ?_) (fun c => ?_)
  · have h := h.1 c
    exact V_vret dX7_partSet_101 rfl h
  · have h := h.2 c
    refine V_aload_n (pc := 80) dX7_partSet_80 rfl ?_
    refine V_iload_n (pc := 81) dX7_partSet_81 rfl ?_
    refine V_iload_n (pc := 82) dX7_partSet_82 rfl ?_
    refine V_iload (pc := 83) dX7_partSet_83 rfl ?_
    refine V_ior (pc := 85) dX7_partSet_85 ?_
    refine V_callVv [.int v1, .int (v2 ||| v5)] (pc := 86) kX7_addPartings lX7_75 sC9 rfl rfl (Nat.le_of_ble_eq_true rfl) rfl (Nat.le_of_ble_eq_true rfl) dX7_partSet_86 ?_
    refine Cv.mono h ?_
    intro M1 h
    refine V_iload (pc := 89) dX7_partSet_89 rfl ?_
    refine V_iconst (v := 1) (pc := 91) dX7_partSet_91 rfl ?_
    refine V_isub (pc := 92) dX7_partSet_92 ?_
    refine V_iload (pc := 93) dX7_partSet_93 rfl ?_
    refine V_iand (pc := 95) dX7_partSet_95 ?_
    refine V_istore (pc := 96) dX7_partSet_96 (by decide) ?_
    refine V_lv (lv2 := [(0, .ref (G.2.1 9)), (1, .int v1), (2, .int v2), (3, .int v3), (4, .int v4), (5, .int ((v5 - 1) &&& v4))]) rfl ?_
    refine V_goto (tgt := 75) (pc := 98) dX7_partSet_98 rfl ?_
    exact V_sub h ⟨rfl, rfl, rfl, rfl, rfl, rfl, trivial⟩
theorem wp_X7_pickFirst {G : GV} {k : Nat} {M : Mem} {q : Mem → Prop}  (h : Ci shC G mX7_all k [.ref (G.2.1 9)] M (fun x1 M1 => V shC G mX7_pickFirst (k + 1) 7 [(0, .ref (G.2.1 9)), (1, .int x1), (2, .int 0)] [] M1 (Qv q))) : Cv shC G mX7_pickFirst (k + 1) [.ref (G.2.1 9)] M q := by
  unfold Cv
  show V _ _ _ _ _ [(0, .ref (G.2.1 9))] _ _ _
  refine V_aload_n (pc := 0) dX7_pickFirst_0 rfl ?_
  refine V_callVi [] (pc := 1) kX7_all lX7_36 sC9 rfl rfl (Nat.le_of_ble_eq_true rfl) rfl (Nat.le_of_ble_eq_true rfl) dX7_pickFirst_1 ?_
  refine Ci.mono h ?_
  intro x1 M1 h
  refine V_istore_n (pc := 4) dX7_pickFirst_4 (by decide) ?_
  refine V_lv (lv2 := [(0, .ref (G.2.1 9)), (1, .int x1)]) rfl ?_
  refine V_iconst (v := 0) (pc := 5) dX7_pickFirst_5 rfl ?_
  refine V_istore_n (pc := 6) dX7_pickFirst_6 (by decide) ?_
  refine V_lv (lv2 := [(0, .ref (G.2.1 9)), (1, .int x1), (2, .int 0)]) rfl ?_
  exact V_sub h ⟨rfl, rfl, rfl, trivial⟩
theorem wp_X7_pickFirst_7 {G : GV} {k : Nat} {M : Mem} {q : Mem → Prop} {v1 : Int32} {v2 : Int32} (h : ((12 ≤ v2 → q M) ∧ (¬ 12 ≤ v2 → ((v1 = 0 → q M) ∧ (¬ v1 = 0 → Ci shC G mX7_leastPerson k [.ref (G.2.1 9), .int v1] M (fun x1 M1 => V shC G mX7_pickFirst (k + 1) 26 [(0, .ref (G.2.1 9)), (1, .int v1), (2, .int v2), (3, .int x1), (4, .int 0)] [] M1 (Qv q))))))) : V shC G mX7_pickFirst (k + 1) 7 [(0, .ref (G.2.1 9)), (1, .int v1), (2, .int v2)] [] M (Qv q) := by
  refine V_iload_n (pc := 7) dX7_pickFirst_7 rfl ?_
  refine V_bipush (v := 12) (pc := 8) dX7_pickFirst_8 rfl ?_
  refine V_icmp_ge (tgt := 74) (pc := 10) dX7_pickFirst_10 rfl (fun c => ?_) (fun c => ?_)
  · have h := h.1 c
    exact V_vret dX7_pickFirst_74 rfl h
  · have h := h.2 c
    refine V_iload_n (pc := 13) dX7_pickFirst_13 rfl ?_
    refine V_if_eq (tgt := 74) (pc := 14) dX7_pickFirst_14 rfl (fun c => ?_) (fun c => ?_)
    · have h := h.1 c
      exact V_vret dX7_pickFirst_74 rfl h
    · have h := h.2 c
      refine V_aload_n (pc := 17) dX7_pickFirst_17 rfl ?_
      refine V_iload_n (pc := 18) dX7_pickFirst_18 rfl ?_
      refine V_callVi [.int v1] (pc := 19) kX7_leastPerson lX7_79 sC9 rfl rfl (Nat.le_of_ble_eq_true rfl) rfl (Nat.le_of_ble_eq_true rfl) dX7_pickFirst_19 ?_
      refine Ci.mono h ?_
      intro x1 M1 h
      refine V_istore_n (pc := 22) dX7_pickFirst_22 (by decide) ?_
      refine V_lv (lv2 := [(0, .ref (G.2.1 9)), (1, .int v1), (2, .int v2), (3, .int x1)]) rfl ?_
      refine V_iconst (v := 0) (pc := 23) dX7_pickFirst_23 rfl ?_
      refine V_istore (pc := 24) dX7_pickFirst_24 (by decide) ?_
      refine V_lv (lv2 := [(0, .ref (G.2.1 9)), (1, .int v1), (2, .int v2), (3, .int x1), (4, .int 0)]) rfl ?_
      exact V_sub h ⟨rfl, rfl, rfl, rfl, rfl, trivial⟩
theorem wp_X7_pickFirst_26 {G : GV} {k : Nat} {M : Mem} {q : Mem → Prop} {v1 : Int32} {v2 : Int32} {v3 : Int32} {v4 : Int32} (h : (((M.1 6 8) ≤ v4 → V shC G mX7_pickFirst (k + 1) 7 [(0, .ref (G.2.1 9)), (1, .int (v1 &&& (v3 ^^^ (-1)))), (2, .int (v2 + 1))] [] M (Qv q)) ∧ (¬ (M.1 6 8) ≤ v4 → ((((v3 >>> (v4 &&& 31)) &&& 1) ≠ 1 → V shC G mX7_pickFirst (k + 1) 26 [(0, .ref (G.2.1 9)), (1, .int v1), (2, .int v2), (3, .int v3), (4, .int (v4 + 1))] [] M (Qv q)) ∧ (((v3 >>> (v4 &&& 31)) &&& 1) = 1 → vp_in v4 12 ∧ V shC G mX7_pickFirst (k + 1) 26 [(0, .ref (G.2.1 9)), (1, .int v1), (2, .int v2), (3, .int v3), (4, .int (v4 + 1))] [] (mset M 41 (ix v4) v3) (Qv q)))))) : V shC G mX7_pickFirst (k + 1) 26 [(0, .ref (G.2.1 9)), (1, .int v1), (2, .int v2), (3, .int v3), (4, .int v4)] [] M (Qv q) := by
  refine V_iload (pc := 26) dX7_pickFirst_26 rfl ?_
  refine V_aload_n (pc := 28) dX7_pickFirst_28 rfl ?_
  refine V_getR (pc := 29) fX7_29 sC9 rfl dX7_pickFirst_29 ?_
  refine V_getI (pc := 32) fX7_40 sC6 rfl dX7_pickFirst_32 ?_
  refine V_icmp_ge (tgt := 62) (pc := 35) dX7_pickFirst_35 rfl (fun c => ?_) (fun c => ?_)
  · have h := h.1 c
    refine V_iload_n (pc := 62) dX7_pickFirst_62 rfl ?_
    refine V_iload_n (pc := 63) dX7_pickFirst_63 rfl ?_
    refine V_iconst (v := (-1)) (pc := 64) dX7_pickFirst_64 rfl ?_
    refine V_ixor (pc := 65) dX7_pickFirst_65 ?_
    refine V_iand (pc := 66) dX7_pickFirst_66 ?_
    refine V_istore_n (pc := 67) dX7_pickFirst_67 (by decide) ?_
    refine V_lv (lv2 := [(0, .ref (G.2.1 9)), (1, .int (v1 &&& (v3 ^^^ (-1)))), (2, .int v2), (3, .int v3), (4, .int v4)]) rfl ?_
    refine V_iinc (pc := 68) dX7_pickFirst_68 rfl (by decide) ?_
    refine V_lv (lv2 := [(0, .ref (G.2.1 9)), (1, .int (v1 &&& (v3 ^^^ (-1)))), (2, .int (v2 + 1)), (3, .int v3), (4, .int v4)]) rfl ?_
    refine V_goto (tgt := 7) (pc := 71) dX7_pickFirst_71 rfl ?_
    exact V_sub h ⟨rfl, rfl, rfl, trivial⟩
  · have h := h.2 c
    refine V_iload_n (pc := 38) dX7_pickFirst_38 rfl ?_
    refine V_iload (pc := 39) dX7_pickFirst_39 rfl ?_
    refine V_ishr (pc := 41) dX7_pickFirst_41 ?_
    refine V_iconst (v := 1) (pc := 42) dX7_pickFirst_42 rfl ?_
    refine V_iand (pc := 43) dX7_pickFirst_43 ?_
    refine V_iconst (v := 1) (pc := 44) dX7_pickFirst_44 rfl ?_
    refine V_icmp_ne (tgt := 56) (pc := 45) dX7_pickFirst_45 rfl (fun c => ?_) (fun c => ?_)
    · have h := h.1 c
      refine V_iinc (pc := 56) dX7_pickFirst_56 rfl (by decide) ?_
      refine V_lv (lv2 := [(0, .ref (G.2.1 9)), (1, .int v1), (2, .int v2), (3, .int v3), (4, .int (v4 + 1))]) rfl ?_
      refine V_goto (tgt := 26) (pc := 59) dX7_pickFirst_59 rfl ?_
      exact V_sub h ⟨rfl, rfl, rfl, rfl, rfl, trivial⟩
    · have h := h.2 c
      refine V_aload_n (pc := 48) dX7_pickFirst_48 rfl ?_
      refine V_getR (pc := 49) fX7_15 sC9 rfl dX7_pickFirst_49 ?_
      refine V_iload (pc := 52) dX7_pickFirst_52 rfl ?_
      refine V_iload_n (pc := 54) dX7_pickFirst_54 rfl ?_
      refine V_iast (pc := 55) sC41 dX7_pickFirst_55 h.1 ?_
      have h := h.2
      refine V_iinc (pc := 56) dX7_pickFirst_56 rfl (by decide) ?_
      refine V_lv (lv2 := [(0, .ref (G.2.1 9)), (1, .int v1), (2, .int v2), (3, .int v3), (4, .int (v4 + 1))]) rfl ?_
      refine V_goto (tgt := 26) (pc := 59) dX7_pickFirst_59 rfl ?_
      exact V_sub h ⟨rfl, rfl, rfl, rfl, rfl, trivial⟩
theorem wp_X7_rivalsWith {G : GV} {k : Nat} {M : Mem} {q : Int32 → Mem → Prop} {v1 : Int32} (h : Ci shC G mX7_all k [.ref (G.2.1 9)] M (fun x1 M1 => vp_in v1 4096 ∧ (((M1.1 42 (ix v1)) ≠ 1 → q 0 M1) ∧ ((M1.1 42 (ix v1)) = 1 → vp_in (x1 &&& (v1 ^^^ (-1))) 4096 ∧ Ci shC G mX7_all k [.ref (G.2.1 9)] M1 (fun x2 M2 => vp_in x2 4096 ∧ ((((M1.1 42 (ix (x1 &&& (v1 ^^^ (-1))))) + 1) ≠ (M2.1 42 (ix x2)) → q 0 M2) ∧ (((M1.1 42 (ix (x1 &&& (v1 ^^^ (-1))))) + 1) = (M2.1 42 (ix x2)) → vp_in (x1 &&& (v1 ^^^ (-1))) 4096 ∧ q (M2.1 43 (ix (x1 &&& (v1 ^^^ (-1))))) M2))))))) : Ci shC G mX7_rivalsWith (k + 1) [.ref (G.2.1 9), .int v1] M q := by
  unfold Ci
  show V _ _ _ _ _ [(0, .ref (G.2.1 9)), (1, .int v1)] _ _ _
  refine V_aload_n (pc := 0) dX7_rivalsWith_0 rfl ?_
  refine V_callVi [] (pc := 1) kX7_all lX7_36 sC9 rfl rfl (Nat.le_of_ble_eq_true rfl) rfl (Nat.le_of_ble_eq_true rfl) dX7_rivalsWith_1 ?_
  refine Ci.mono h ?_
  intro x1 M1 h
  refine V_iload_n (pc := 4) dX7_rivalsWith_4 rfl ?_
  refine V_iconst (v := (-1)) (pc := 5) dX7_rivalsWith_5 rfl ?_
  refine V_ixor (pc := 6) dX7_rivalsWith_6 ?_
  refine V_iand (pc := 7) dX7_rivalsWith_7 ?_
  refine V_istore_n (pc := 8) dX7_rivalsWith_8 (by decide) ?_
  refine V_lv (lv2 := [(0, .ref (G.2.1 9)), (1, .int v1), (2, .int (x1 &&& (v1 ^^^ (-1))))]) rfl ?_
  refine V_aload_n (pc := 9) dX7_rivalsWith_9 rfl ?_
  refine V_getR (pc := 10) fX7_18 sC9 rfl dX7_rivalsWith_10 ?_
  refine V_iload_n (pc := 13) dX7_rivalsWith_13 rfl ?_
  refine V_bald (pc := 14) sC42 dX7_rivalsWith_14 h.1 ?_
  have h := h.2
  refine V_iconst (v := 1) (pc := 15) dX7_rivalsWith_15 rfl ?_
  refine V_icmp_ne (tgt := 48) (pc := 16) dX7_rivalsWith_16 rfl (fun c => ?_) (fun c => ?_)
  · have h := h.1 c
    refine V_iconst (v := 0) (pc := 48) dX7_rivalsWith_48 rfl ?_
    exact V_iret dX7_rivalsWith_49 rfl h
  · have h := h.2 c
    refine V_aload_n (pc := 19) dX7_rivalsWith_19 rfl ?_
    refine V_getR (pc := 20) fX7_18 sC9 rfl dX7_rivalsWith_20 ?_
    refine V_iload_n (pc := 23) dX7_rivalsWith_23 rfl ?_
    refine V_bald (pc := 24) sC42 dX7_rivalsWith_24 h.1 ?_
    have h := h.2
    refine V_iconst (v := 1) (pc := 25) dX7_rivalsWith_25 rfl ?_
    refine V_iadd (pc := 26) dX7_rivalsWith_26 ?_
    refine V_aload_n (pc := 27) dX7_rivalsWith_27 rfl ?_
    refine V_getR (pc := 28) fX7_18 sC9 rfl dX7_rivalsWith_28 ?_
    refine V_aload_n (pc := 31) dX7_rivalsWith_31 rfl ?_
    refine V_callVi [] (pc := 32) kX7_all lX7_36 sC9 rfl rfl (Nat.le_of_ble_eq_true rfl) rfl (Nat.le_of_ble_eq_true rfl) dX7_rivalsWith_32 ?_
    refine Ci.mono h ?_
    intro x2 M2 h
    refine V_bald (pc := 35) sC42 dX7_rivalsWith_35 h.1 ?_
    have h := h.2
    refine V_icmp_ne (tgt := 48) (pc := 36) dX7_rivalsWith_36 rfl (fun c => ?_) (fun c => ?_)
    · have h := h.1 c
      refine V_iconst (v := 0) (pc := 48) dX7_rivalsWith_48 rfl ?_
      exact V_iret dX7_rivalsWith_49 rfl h
    · have h := h.2 c
      refine V_aload_n (pc := 39) dX7_rivalsWith_39 rfl ?_
      refine V_getR (pc := 40) fX7_22 sC9 rfl dX7_rivalsWith_40 ?_
      refine V_iload_n (pc := 43) dX7_rivalsWith_43 rfl ?_
      refine V_iald (pc := 44) sC43 dX7_rivalsWith_44 h.1 ?_
      have h := h.2
      refine V_goto (tgt := 49) (pc := 45) dX7_rivalsWith_45 rfl ?_
      exact V_iret dX7_rivalsWith_49 rfl h
theorem wp_X7_findWhoMayBeOne {G : GV} {k : Nat} {M : Mem} {q : Mem → Prop}  (h : V shC G mX7_findWhoMayBeOne (k + 3) 2 [(0, .ref (G.2.1 9)), (1, .int 0)] [] M (Qv q)) : Cv shC G mX7_findWhoMayBeOne (k + 3) [.ref (G.2.1 9)] M q := by
  unfold Cv
  show V _ _ _ _ _ [(0, .ref (G.2.1 9))] _ _ _
  refine V_iconst (v := 0) (pc := 0) dX7_findWhoMayBeOne_0 rfl ?_
  refine V_istore_n (pc := 1) dX7_findWhoMayBeOne_1 (by decide) ?_
  refine V_lv (lv2 := [(0, .ref (G.2.1 9)), (1, .int 0)]) rfl ?_
  exact V_sub h ⟨rfl, rfl, trivial⟩
theorem wp_X7_findWhoMayBeOne_2 {G : GV} {k : Nat} {M : Mem} {q : Mem → Prop} {v1 : Int32} (h : (((M.1 6 8) ≤ v1 → q M) ∧ (¬ (M.1 6 8) ≤ v1 → vp_in v1 12 ∧ V shC G mX7_findWhoMayBeOne (k + 3) 22 [(0, .ref (G.2.1 9)), (1, .int v1), (2, .int 0)] [] (mset M 40 (ix v1) 0) (Qv q)))) : V shC G mX7_findWhoMayBeOne (k + 3) 2 [(0, .ref (G.2.1 9)), (1, .int v1)] [] M (Qv q) := by
  refine V_iload_n (pc := 2) dX7_findWhoMayBeOne_2 rfl ?_
  refine V_aload_n (pc := 3) dX7_findWhoMayBeOne_3 rfl ?_
  refine V_getR (pc := 4) fX7_29 sC9 rfl dX7_findWhoMayBeOne_4 ?_
  refine V_getI (pc := 7) fX7_40 sC6 rfl dX7_findWhoMayBeOne_7 ?_
  refine V_icmp_ge (tgt := 69) (pc := 10) dX7_findWhoMayBeOne_10 rfl (fun c => ?_) (fun c => ?_)
  · have h := h.1 c
    exact V_vret dX7_findWhoMayBeOne_69 rfl h
  · have h := h.2 c
    refine V_aload_n (pc := 13) dX7_findWhoMayBeOne_13 rfl ?_
    refine V_getR (pc := 14) fX7_9 sC9 rfl dX7_findWhoMayBeOne_14 ?_
    refine V_iload_n (pc := 17) dX7_findWhoMayBeOne_17 rfl ?_
    refine V_iconst (v := 0) (pc := 18) dX7_findWhoMayBeOne_18 rfl ?_
    refine V_iast (pc := 19) sC40 dX7_findWhoMayBeOne_19 h.1 ?_
    have h := h.2
    refine V_iconst (v := 0) (pc := 20) dX7_findWhoMayBeOne_20 rfl ?_
    refine V_istore_n (pc := 21) dX7_findWhoMayBeOne_21 (by decide) ?_
    refine V_lv (lv2 := [(0, .ref (G.2.1 9)), (1, .int v1), (2, .int 0)]) rfl ?_
    exact V_sub h ⟨rfl, rfl, rfl, trivial⟩
theorem wp_X7_findWhoMayBeOne_22 {G : GV} {k : Nat} {M : Mem} {q : Mem → Prop} {v1 : Int32} {v2 : Int32} (h : (((M.1 6 8) ≤ v2 → V shC G mX7_findWhoMayBeOne (k + 3) 2 [(0, .ref (G.2.1 9)), (1, .int (v1 + 1))] [] M (Qv q)) ∧ (¬ (M.1 6 8) ≤ v2 → Ci shC G mX3_mayBeOne (k + 2) [.ref (G.2.1 6), .int v1, .int v2] M (fun x1 M1 => ((x1 = 0 → V shC G mX7_findWhoMayBeOne (k + 3) 22 [(0, .ref (G.2.1 9)), (1, .int v1), (2, .int (v2 + 1))] [] M1 (Qv q)) ∧ (¬ x1 = 0 → vp_in v1 12 ∧ vp_in v1 12 ∧ V shC G mX7_findWhoMayBeOne (k + 3) 22 [(0, .ref (G.2.1 9)), (1, .int v1), (2, .int (v2 + 1))] [] (mset M1 40 (ix v1) ((M1.1 40 (ix v1)) ||| (1 <<< (v2 &&& 31)))) (Qv q))))))) : V shC G mX7_findWhoMayBeOne (k + 3) 22 [(0, .ref (G.2.1 9)), (1, .int v1), (2, .int v2)] [] M (Qv q) := by
  refine V_iload_n (pc := 22) dX7_findWhoMayBeOne_22 rfl ?_
  refine V_aload_n (pc := 23) dX7_findWhoMayBeOne_23 rfl ?_
  refine V_getR (pc := 24) fX7_29 sC9 rfl dX7_findWhoMayBeOne_24 ?_
  refine V_getI (pc := 27) fX7_40 sC6 rfl dX7_findWhoMayBeOne_27 ?_
  refine V_icmp_ge (tgt := 63) (pc := 30) dX7_findWhoMayBeOne_30 rfl (fun c => ?_) (fun c => ?_)
  · have h := h.1 c
    refine V_iinc (pc := 63) dX7_findWhoMayBeOne_63 rfl (by decide) ?_
    refine V_lv (lv2 := [(0, .ref (G.2.1 9)), (1, .int (v1 + 1)), (2, .int v2)]) rfl ?_
    refine V_goto (tgt := 2) (pc := 66) dX7_findWhoMayBeOne_66 rfl ?_
    exact V_sub h ⟨rfl, rfl, trivial⟩
  · have h := h.2 c
    refine V_aload_n (pc := 33) dX7_findWhoMayBeOne_33 rfl ?_
    refine V_getR (pc := 34) fX7_29 sC9 rfl dX7_findWhoMayBeOne_34 ?_
    refine V_iload_n (pc := 37) dX7_findWhoMayBeOne_37 rfl ?_
    refine V_iload_n (pc := 38) dX7_findWhoMayBeOne_38 rfl ?_
    refine V_callVi [.int v1, .int v2] (pc := 39) kX3_mayBeOne lX7_71 sC6 rfl rfl (Nat.le_of_ble_eq_true rfl) rfl (Nat.le_of_ble_eq_true rfl) dX7_findWhoMayBeOne_39 ?_
    refine Ci.mono h ?_
    intro x1 M1 h
    refine V_if_eq (tgt := 57) (pc := 42) dX7_findWhoMayBeOne_42 rfl (fun c => ?_) (fun c => ?_)
    · have h := h.1 c
      refine V_iinc (pc := 57) dX7_findWhoMayBeOne_57 rfl (by decide) ?_
      refine V_lv (lv2 := [(0, .ref (G.2.1 9)), (1, .int v1), (2, .int (v2 + 1))]) rfl ?_
      refine V_goto (tgt := 22) (pc := 60) dX7_findWhoMayBeOne_60 rfl ?_
      exact V_sub h ⟨rfl, rfl, rfl, trivial⟩
    · have h := h.2 c
      refine V_aload_n (pc := 45) dX7_findWhoMayBeOne_45 rfl ?_
      refine V_getR (pc := 46) fX7_9 sC9 rfl dX7_findWhoMayBeOne_46 ?_
      refine V_iload_n (pc := 49) dX7_findWhoMayBeOne_49 rfl ?_
      refine V_dup2 (pc := 50) dX7_findWhoMayBeOne_50 rfl rfl ?_
      refine V_iald (pc := 51) sC40 dX7_findWhoMayBeOne_51 h.1 ?_
      have h := h.2
      refine V_iconst (v := 1) (pc := 52) dX7_findWhoMayBeOne_52 rfl ?_
      refine V_iload_n (pc := 53) dX7_findWhoMayBeOne_53 rfl ?_
      refine V_ishl (pc := 54) dX7_findWhoMayBeOne_54 ?_
      refine V_ior (pc := 55) dX7_findWhoMayBeOne_55 ?_
      refine V_iast (pc := 56) sC40 dX7_findWhoMayBeOne_56 h.1 ?_
      have h := h.2
      refine V_iinc (pc := 57) dX7_findWhoMayBeOne_57 rfl (by decide) ?_
      refine V_lv (lv2 := [(0, .ref (G.2.1 9)), (1, .int v1), (2, .int (v2 + 1))]) rfl ?_
      refine V_goto (tgt := 22) (pc := 60) dX7_findWhoMayBeOne_60 rfl ?_
      exact V_sub h ⟨rfl, rfl, rfl, trivial⟩
theorem wp_X7_renew {G : GV} {k : Nat} {M : Mem} {q : Mem → Prop}  (h : (((M.1 9 5) ≠ 0 → Cv shC G mX7_findWhoMayBeOne (k + 3) [.ref (G.2.1 9)] (mset M 9 5 0) (fun M1 => vp_in 0 4096 ∧ vp_in 0 4096 ∧ V shC G mX7_renew (k + 4) 33 [(0, .ref (G.2.1 9)), (1, .int 1)] [] (mset (mset M1 42 (ix 0) (vp_nar .byte 0)) 43 (ix 0) 1) (Qv q))) ∧ ((M.1 9 5) = 0 → q M))) : Cv shC G mX7_renew (k + 4) [.ref (G.2.1 9)] M q := by
  unfold Cv
  show V _ _ _ _ _ [(0, .ref (G.2.1 9))] _ _ _
  refine V_aload_n (pc := 0) dX7_renew_0 rfl ?_
  refine V_getI (pc := 1) fX7_25 sC9 rfl dX7_renew_1 ?_
  refine V_if_ne (tgt := 8) (pc := 4) dX7_renew_4 rfl (fun c => ?_) (fun c => ?_)
  · have h := h.1 c
    refine V_aload_n (pc := 8) dX7_renew_8 rfl ?_
    refine V_iconst (v := 0) (pc := 9) dX7_renew_9 rfl ?_
    refine V_putZ (pc := 10) fX7_25 p7_5 sC9 rfl (Or.inl rfl) dX7_renew_10 ?_
    refine V_aload_n (pc := 13) dX7_renew_13 rfl ?_
    refine V_callVv [] (pc := 14) kX7_findWhoMayBeOne lX7_61 sC9 rfl rfl (Nat.le_of_ble_eq_true rfl) rfl (Nat.le_of_ble_eq_true rfl) dX7_renew_14 ?_
    refine Cv.mono h ?_
    intro M1 h
    refine V_aload_n (pc := 17) dX7_renew_17 rfl ?_
    refine V_getR (pc := 18) fX7_18 sC9 rfl dX7_renew_18 ?_
    refine V_iconst (v := 0) (pc := 21) dX7_renew_21 rfl ?_
    refine V_iconst (v := 0) (pc := 22) dX7_renew_22 rfl ?_
    refine V_bast (pc := 23) sC42 dX7_renew_23 h.1 ?_
    have h := h.2
    refine V_aload_n (pc := 24) dX7_renew_24 rfl ?_
    refine V_getR (pc := 25) fX7_22 sC9 rfl dX7_renew_25 ?_
    refine V_iconst (v := 0) (pc := 28) dX7_renew_28 rfl ?_
    refine V_iconst (v := 1) (pc := 29) dX7_renew_29 rfl ?_
    refine V_iast (pc := 30) sC43 dX7_renew_30 h.1 ?_
    have h := h.2
    refine V_iconst (v := 1) (pc := 31) dX7_renew_31 rfl ?_
    refine V_istore_n (pc := 32) dX7_renew_32 (by decide) ?_
    refine V_lv (lv2 := [(0, .ref (G.2.1 9)), (1, .int 1)]) rfl ?_
    exact V_sub h ⟨rfl, rfl, trivial⟩
  · have h := h.2 c
    exact V_vret dX7_renew_7 rfl h
theorem wp_X7_renew_33 {G : GV} {k : Nat} {M : Mem} {q : Mem → Prop} {v1 : Int32} (h : Ci shC G mX7_all (k + 3) [.ref (G.2.1 9)] M (fun x1 M1 => ((x1 < v1 → Cv shC G mX7_pickFirst (k + 3) [.ref (G.2.1 9)] M1 (fun M2 => q M2)) ∧ (¬ x1 < v1 → Cv shC G mX7_partSet (k + 3) [.ref (G.2.1 9), .int v1] M1 (fun M3 => V shC G mX7_renew (k + 4) 33 [(0, .ref (G.2.1 9)), (1, .int (v1 + 1))] [] M3 (Qv q)))))) : V shC G mX7_renew (k + 4) 33 [(0, .ref (G.2.1 9)), (1, .int v1)] [] M (Qv q) := by
  refine V_iload_n (pc := 33) dX7_renew_33 rfl ?_
  refine V_aload_n (pc := 34) dX7_renew_34 rfl ?_
  refine V_callVi [] (pc := 35) kX7_all lX7_36 sC9 rfl rfl (Nat.le_of_ble_eq_true rfl) rfl (Nat.le_of_ble_eq_true rfl) dX7_renew_35 ?_
  refine Ci.mono h ?_
  intro x1 M1 h
  refine V_icmp_gt (tgt := 52) (pc := 38) dX7_renew_38 rfl (fun c => ?_) (fun c => ?_)
  · have h := h.1 c
    refine V_aload_n (pc := 52) dX7_renew_52 rfl ?_
    refine V_callVv [] (pc := 53) kX7_pickFirst lX7_68 sC9 rfl rfl (Nat.le_of_ble_eq_true rfl) rfl (Nat.le_of_ble_eq_true rfl) dX7_renew_53 ?_
    refine Cv.mono h ?_
    intro M2 h
    exact V_vret dX7_renew_56 rfl h
  · have h := h.2 c
    refine V_aload_n (pc := 41) dX7_renew_41 rfl ?_
    refine V_iload_n (pc := 42) dX7_renew_42 rfl ?_
    refine V_callVv [.int v1] (pc := 43) kX7_partSet lX7_64 sC9 rfl rfl (Nat.le_of_ble_eq_true rfl) rfl (Nat.le_of_ble_eq_true rfl) dX7_renew_43 ?_
    refine Cv.mono h ?_
    intro M3 h
    refine V_iinc (pc := 46) dX7_renew_46 rfl (by decide) ?_
    refine V_lv (lv2 := [(0, .ref (G.2.1 9)), (1, .int (v1 + 1))]) rfl ?_
    refine V_goto (tgt := 33) (pc := 49) dX7_renew_49 rfl ?_
    exact V_sub h ⟨rfl, rfl, trivial⟩
theorem wp_X7_countFewest {G : GV} {k : Nat} {M : Mem} {q : Int32 → Mem → Prop}  (h : Cv shC G mX7_renew (k + 4) [.ref (G.2.1 9)] M (fun M1 => Ci shC G mX7_all (k + 4) [.ref (G.2.1 9)] M1 (fun x2 M2 => vp_in x2 4096 ∧ q (M2.1 42 (ix x2)) M2))) : Ci shC G mX7_countFewest (k + 5) [.ref (G.2.1 9)] M q := by
  unfold Ci
  show V _ _ _ _ _ [(0, .ref (G.2.1 9))] _ _ _
  refine V_aload_n (pc := 0) dX7_countFewest_0 rfl ?_
  refine V_callVv [] (pc := 1) kX7_renew lX7_33 sC9 rfl rfl (Nat.le_of_ble_eq_true rfl) rfl (Nat.le_of_ble_eq_true rfl) dX7_countFewest_1 ?_
  refine Cv.mono h ?_
  intro M1 h
  refine V_aload_n (pc := 4) dX7_countFewest_4 rfl ?_
  refine V_getR (pc := 5) fX7_18 sC9 rfl dX7_countFewest_5 ?_
  refine V_aload_n (pc := 8) dX7_countFewest_8 rfl ?_
  refine V_callVi [] (pc := 9) kX7_all lX7_36 sC9 rfl rfl (Nat.le_of_ble_eq_true rfl) rfl (Nat.le_of_ble_eq_true rfl) dX7_countFewest_9 ?_
  refine Ci.mono h ?_
  intro x2 M2 h
  refine V_bald (pc := 12) sC42 dX7_countFewest_12 h.1 ?_
  have h := h.2
  exact V_iret dX7_countFewest_13 rfl h
theorem wp_X7_countRivals {G : GV} {k : Nat} {M : Mem} {q : Int32 → Mem → Prop}  (h : Cv shC G mX7_renew (k + 4) [.ref (G.2.1 9)] M (fun M1 => Ci shC G mX7_all (k + 4) [.ref (G.2.1 9)] M1 (fun x2 M2 => vp_in x2 4096 ∧ q (M2.1 43 (ix x2)) M2))) : Ci shC G mX7_countRivals (k + 5) [.ref (G.2.1 9)] M q := by
  unfold Ci
  show V _ _ _ _ _ [(0, .ref (G.2.1 9))] _ _ _
  refine V_aload_n (pc := 0) dX7_countRivals_0 rfl ?_
  refine V_callVv [] (pc := 1) kX7_renew lX7_33 sC9 rfl rfl (Nat.le_of_ble_eq_true rfl) rfl (Nat.le_of_ble_eq_true rfl) dX7_countRivals_1 ?_
  refine Cv.mono h ?_
  intro M1 h
  refine V_aload_n (pc := 4) dX7_countRivals_4 rfl ?_
  refine V_getR (pc := 5) fX7_22 sC9 rfl dX7_countRivals_5 ?_
  refine V_aload_n (pc := 8) dX7_countRivals_8 rfl ?_
  refine V_callVi [] (pc := 9) kX7_all lX7_36 sC9 rfl rfl (Nat.le_of_ble_eq_true rfl) rfl (Nat.le_of_ble_eq_true rfl) dX7_countRivals_9 ?_
  refine Ci.mono h ?_
  intro x2 M2 h
  refine V_iald (pc := 12) sC43 dX7_countRivals_12 h.1 ?_
  have h := h.2
  exact V_iret dX7_countRivals_13 rfl h
theorem wp_X7_linesOfGreatest {G : GV} {k : Nat} {M : Mem} {q : Int32 → Mem → Prop}  (h : Cv shC G mX7_renew (k + 4) [.ref (G.2.1 9)] M (fun M1 => V shC G mX7_linesOfGreatest (k + 5) 8 [(0, .ref (G.2.1 9)), (1, .int 0), (2, .int 0)] [] M1 (Qi q))) : Ci shC G mX7_linesOfGreatest (k + 5) [.ref (G.2.1 9)] M q := by
  unfold Ci
  show V _ _ _ _ _ [(0, .ref (G.2.1 9))] _ _ _
  refine V_aload_n (pc := 0) dX7_linesOfGreatest_0 rfl ?_
  refine V_callVv [] (pc := 1) kX7_renew lX7_33 sC9 rfl rfl (Nat.le_of_ble_eq_true rfl) rfl (Nat.le_of_ble_eq_true rfl) dX7_linesOfGreatest_1 ?_
  refine Cv.mono h ?_
  intro M1 h
  refine V_iconst (v := 0) (pc := 4) dX7_linesOfGreatest_4 rfl ?_
  refine V_istore_n (pc := 5) dX7_linesOfGreatest_5 (by decide) ?_
  refine V_lv (lv2 := [(0, .ref (G.2.1 9)), (1, .int 0)]) rfl ?_
  refine V_iconst (v := 0) (pc := 6) dX7_linesOfGreatest_6 rfl ?_
  refine V_istore_n (pc := 7) dX7_linesOfGreatest_7 (by decide) ?_
  refine V_lv (lv2 := [(0, .ref (G.2.1 9)), (1, .int 0), (2, .int 0)]) rfl ?_
  exact V_sub h ⟨rfl, rfl, rfl, trivial⟩
theorem wp_X7_linesOfGreatest_8 {G : GV} {k : Nat} {M : Mem} {q : Int32 → Mem → Prop} {v1 : Int32} {v2 : Int32} (h : (((M.1 6 8) ≤ v2 → q v1 M) ∧ (¬ (M.1 6 8) ≤ v2 → vp_in v2 12 ∧ Ci shC G mJ6_bitCount_0f7a4 (k + 4) [.int (M.1 41 (ix v2))] M (fun x1 M1 => V shC G mX7_linesOfGreatest (k + 5) 8 [(0, .ref (G.2.1 9)), (1, .int (if v1 < x1 then x1 else v1)), (2, .int (v2 + 1))] [] M1 (Qi q))))) : V shC G mX7_linesOfGreatest (k + 5) 8 [(0, .ref (G.2.1 9)), (1, .int v1), (2, .int v2)] [] M (Qi q) := by
  refine V_iload_n (pc := 8) dX7_linesOfGreatest_8 rfl ?_
  refine V_aload_n (pc := 9) dX7_linesOfGreatest_9 rfl ?_
  refine V_getR (pc := 10) fX7_29 sC9 rfl dX7_linesOfGreatest_10 ?_
  refine V_getI (pc := 13) fX7_40 sC6 rfl dX7_linesOfGreatest_13 ?_
  refine V_icmp_ge (tgt := 39) (pc := 16) dX7_linesOfGreatest_16 rfl (fun c => ?_) (fun c => ?_)
  · have h := h.1 c
    refine V_iload_n (pc := 39) dX7_linesOfGreatest_39 rfl ?_
    exact V_iret dX7_linesOfGreatest_40 rfl h
  · have h := h.2 c
    refine V_iload_n (pc := 19) dX7_linesOfGreatest_19 rfl ?_
    refine V_aload_n (pc := 20) dX7_linesOfGreatest_20 rfl ?_
    refine V_getR (pc := 21) fX7_15 sC9 rfl dX7_linesOfGreatest_21 ?_
    refine V_iload_n (pc := 24) dX7_linesOfGreatest_24 rfl ?_
    refine V_iald (pc := 25) sC41 dX7_linesOfGreatest_25 h.1 ?_
    have h := h.2
    refine V_callSi [.int (M.1 41 (ix v2))] (pc := 26) kJ6_bitCount_0f7a4 lX7_46 rfl (Nat.le_of_ble_eq_true rfl) rfl (Nat.le_of_ble_eq_true rfl) dX7_linesOfGreatest_26 ?_
    refine Ci.mono h ?_
    intro x1 M1 h
    refine V_mmax (pc := 29) dX7_linesOfGreatest_29 lX7_52 (Nat.le_of_ble_eq_true rfl) ?_
    refine V_istore_n (pc := 32) dX7_linesOfGreatest_32 (by decide) ?_
    refine V_lv (lv2 := [(0, .ref (G.2.1 9)), (1, .int (if v1 < x1 then x1 else v1)), (2, .int v2)]) rfl ?_
    refine V_iinc (pc := 33) dX7_linesOfGreatest_33 rfl (by decide) ?_
    refine V_lv (lv2 := [(0, .ref (G.2.1 9)), (1, .int (if v1 < x1 then x1 else v1)), (2, .int (v2 + 1))]) rfl ?_
    refine V_goto (tgt := 8) (pc := 36) dX7_linesOfGreatest_36 rfl ?_
    exact V_sub h ⟨rfl, rfl, rfl, trivial⟩
theorem wp_X7_personOf {G : GV} {k : Nat} {M : Mem} {q : Int32 → Mem → Prop} {v1 : Int32} (h : Cv shC G mX7_renew (k + 4) [.ref (G.2.1 9)] M (fun M1 => vp_in v1 12 ∧ q (M1.1 41 (ix v1)) M1)) : Ci shC G mX7_personOf (k + 5) [.ref (G.2.1 9), .int v1] M q := by
  unfold Ci
  show V _ _ _ _ _ [(0, .ref (G.2.1 9)), (1, .int v1)] _ _ _
  refine V_aload_n (pc := 0) dX7_personOf_0 rfl ?_
  refine V_callVv [] (pc := 1) kX7_renew lX7_33 sC9 rfl rfl (Nat.le_of_ble_eq_true rfl) rfl (Nat.le_of_ble_eq_true rfl) dX7_personOf_1 ?_
  refine Cv.mono h ?_
  intro M1 h
  refine V_aload_n (pc := 4) dX7_personOf_4 rfl ?_
  refine V_getR (pc := 5) fX7_15 sC9 rfl dX7_personOf_5 ?_
  refine V_iload_n (pc := 8) dX7_personOf_8 rfl ?_
  refine V_iald (pc := 9) sC41 dX7_personOf_9 h.1 ?_
  have h := h.2
  exact V_iret dX7_personOf_10 rfl h
theorem wp_X7_rivalsWithBoth {G : GV} {k : Nat} {M : Mem} {q : Int32 → Mem → Prop} {v1 : Int32} {v2 : Int32} (h : Cv shC G mX7_renew (k + 4) [.ref (G.2.1 9)] M (fun M1 => ((v1 ≠ v2 → vp_in v1 12 ∧ vp_in v2 12 ∧ Ci shC G mX7_rivalsWith (k + 4) [.ref (G.2.1 9), .int ((1 <<< (v1 &&& 31)) ||| (1 <<< (v2 &&& 31)))] M1 (fun x2 M2 => V shC G mX7_rivalsWithBoth (k + 5) 57 [(0, .ref (G.2.1 9)), (1, .int v1), (2, .int v2), (3, .int ((1 <<< (v1 &&& 31)) ||| (1 <<< (v2 &&& 31)))), (4, .int (((M1.1 40 (ix v1)) &&& (M1.1 40 (ix v2))) &&& (((1 <<< (v1 &&& 31)) ||| (1 <<< (v2 &&& 31))) ^^^ (-1)))), (5, .int x2), (6, .int (((M1.1 40 (ix v1)) &&& (M1.1 40 (ix v2))) &&& (((1 <<< (v1 &&& 31)) ||| (1 <<< (v2 &&& 31))) ^^^ (-1))))] [] M2 (Qi q))) ∧ (v1 = v2 → Ci shC G mX7_all (k + 4) [.ref (G.2.1 9)] M1 (fun x3 M3 => vp_in x3 4096 ∧ q (M3.1 43 (ix x3)) M3))))) : Ci shC G mX7_rivalsWithBoth (k + 5) [.ref (G.2.1 9), .int v1, .int v2] M q := by
  unfold Ci
  show V _ _ _ _ _ [(0, .ref (G.2.1 9)), (1, .int v1), (2, .int v2)] _ _ _
  refine V_aload_n (pc := 0) dX7_rivalsWithBoth_0 rfl ?_
  refine V_callVv [] (pc := 1) kX7_renew lX7_33 sC9 rfl rfl (Nat.le_of_ble_eq_true rfl) rfl (Nat.le_of_ble_eq_true rfl) dX7_rivalsWithBoth_1 ?_
  refine Cv.mono h ?_
  intro M1 h
  refine V_iload_n (pc := 4) dX7_rivalsWithBoth_4 rfl ?_
  refine V_iload_n (pc := 5) dX7_rivalsWithBoth_5 rfl ?_
  refine V_icmp_ne (tgt := 19) (pc := 6) dX7_rivalsWithBoth_6 rfl (fun c => ?_) (fun c => ?_)
  · have h := h.1 c
    refine V_iconst (v := 1) (pc := 19) dX7_rivalsWithBoth_19 rfl ?_
    refine V_iload_n (pc := 20) dX7_rivalsWithBoth_20 rfl ?_
    refine V_ishl (pc := 21) dX7_rivalsWithBoth_21 ?_
    refine V_iconst (v := 1) (pc := 22) dX7_rivalsWithBoth_22 rfl ?_
    refine V_iload_n (pc := 23) dX7_rivalsWithBoth_23 rfl ?_
    refine V_ishl (pc := 24) dX7_rivalsWithBoth_24 ?_
    refine V_ior (pc := 25) dX7_rivalsWithBoth_25 ?_
    refine V_istore_n (pc := 26) dX7_rivalsWithBoth_26 (by decide) ?_
    refine V_lv (lv2 := [(0, .ref (G.2.1 9)), (1, .int v1), (2, .int v2), (3, .int ((1 <<< (v1 &&& 31)) ||| (1 <<< (v2 &&& 31))))]) rfl ?_
    refine V_aload_n (pc := 27) dX7_rivalsWithBoth_27 rfl ?_
    refine V_getR (pc := 28) fX7_9 sC9 rfl dX7_rivalsWithBoth_28 ?_
    refine V_iload_n (pc := 31) dX7_rivalsWithBoth_31 rfl ?_
    refine V_iald (pc := 32) sC40 dX7_rivalsWithBoth_32 h.1 ?_
    have h := h.2
    refine V_aload_n (pc := 33) dX7_rivalsWithBoth_33 rfl ?_
    refine V_getR (pc := 34) fX7_9 sC9 rfl dX7_rivalsWithBoth_34 ?_
    refine V_iload_n (pc := 37) dX7_rivalsWithBoth_37 rfl ?_
    refine V_iald (pc := 38) sC40 dX7_rivalsWithBoth_38 h.1 ?_
    have h := h.2
    refine V_iand (pc := 39) dX7_rivalsWithBoth_39 ?_
    refine V_iload_n (pc := 40) dX7_rivalsWithBoth_40 rfl ?_
    refine V_iconst (v := (-1)) (pc := 41) dX7_rivalsWithBoth_41 rfl ?_
    refine V_ixor (pc := 42) dX7_rivalsWithBoth_42 ?_
    refine V_iand (pc := 43) dX7_rivalsWithBoth_43 ?_
    refine V_istore (pc := 44) dX7_rivalsWithBoth_44 (by decide) ?_
    refine V_lv (lv2 := [(0, .ref (G.2.1 9)), (1, .int v1), (2, .int v2), (3, .int ((1 <<< (v1 &&& 31)) ||| (1 <<< (v2 &&& 31)))), (4, .int (((M1.1 40 (ix v1)) &&& (M1.1 40 (ix v2))) &&& (((1 <<< (v1 &&& 31)) ||| (1 <<< (v2 &&& 31))) ^^^ (-1))))]) rfl ?_
    refine V_aload_n (pc := 46) dX7_rivalsWithBoth_46 rfl ?_
    refine V_iload_n (pc := 47) dX7_rivalsWithBoth_47 rfl ?_
    refine V_callVi [.int ((1 <<< (v1 &&& 31)) ||| (1 <<< (v2 &&& 31)))] (pc := 48) kX7_rivalsWith lX7_58 sC9 rfl rfl (Nat.le_of_ble_eq_true rfl) rfl (Nat.le_of_ble_eq_true rfl) dX7_rivalsWithBoth_48 ?_
    refine Ci.mono h ?_
    intro x2 M2 h
    refine V_istore (pc := 51) dX7_rivalsWithBoth_51 (by decide) ?_
    refine V_lv (lv2 := [(0, .ref (G.2.1 9)), (1, .int v1), (2, .int v2), (3, .int ((1 <<< (v1 &&& 31)) ||| (1 <<< (v2 &&& 31)))), (4, .int (((M1.1 40 (ix v1)) &&& (M1.1 40 (ix v2))) &&& (((1 <<< (v1 &&& 31)) ||| (1 <<< (v2 &&& 31))) ^^^ (-1)))), (5, .int x2)]) rfl ?_
    refine V_iload (pc := 53) dX7_rivalsWithBoth_53 rfl ?_
    refine V_istore (pc := 55) dX7_rivalsWithBoth_55 (by decide) ?_
    refine V_lv (lv2 := [(0, .ref (G.2.1 9)), (1, .int v1), (2, .int v2), (3, .int ((1 <<< (v1 &&& 31)) ||| (1 <<< (v2 &&& 31)))), (4, .int (((M1.1 40 (ix v1)) &&& (M1.1 40 (ix v2))) &&& (((1 <<< (v1 &&& 31)) ||| (1 <<< (v2 &&& 31))) ^^^ (-1)))), (5, .int x2), (6, .int (((M1.1 40 (ix v1)) &&& (M1.1 40 (ix v2))) &&& (((1 <<< (v1 &&& 31)) ||| (1 <<< (v2 &&& 31))) ^^^ (-1))))]) rfl ?_
    exact V_sub h ⟨rfl, rfl, rfl, rfl, rfl, rfl, rfl, trivial⟩
  · have h := h.2 c
    refine V_aload_n (pc := 9) dX7_rivalsWithBoth_9 rfl ?_
    refine V_getR (pc := 10) fX7_22 sC9 rfl dX7_rivalsWithBoth_10 ?_
    refine V_aload_n (pc := 13) dX7_rivalsWithBoth_13 rfl ?_
    refine V_callVi [] (pc := 14) kX7_all lX7_36 sC9 rfl rfl (Nat.le_of_ble_eq_true rfl) rfl (Nat.le_of_ble_eq_true rfl) dX7_rivalsWithBoth_14 ?_
    refine Ci.mono h ?_
    intro x3 M3 h
    refine V_iald (pc := 17) sC43 dX7_rivalsWithBoth_17 h.1 ?_
    have h := h.2
    exact V_iret dX7_rivalsWithBoth_18 rfl h
theorem wp_X7_rivalsWithBoth_57 {G : GV} {k : Nat} {M : Mem} {q : Int32 → Mem → Prop} {v1 : Int32} {v2 : Int32} {v3 : Int32} {v4 : Int32} {v5 : Int32} {v6 : Int32} (h : ((v6 ≤ 0 → q v5 M) ∧ (¬ v6 ≤ 0 → Ci shC G mX7_rivalsWith (k + 4) [.ref (G.2.1 9), .int (v3 ||| v6)] M (fun x1 M1 => V shC G mX7_rivalsWithBoth (k + 5) 57 [(0, .ref (G.2.1 9)), (1, .int v1), (2, .int v2), (3, .int v3), (4, .int v4), (5, .int (v5 + x1)), (6, .int ((v6 - 1) &&& v4))] [] M1 (Qi q))))) : V shC G mX7_rivalsWithBoth (k + 5) 57 [(0, .ref (G.2.1 9)), (1, .int v1), (2, .int v2), (3, .int v3), (4, .int v4), (5, .int v5), (6, .int v6)] [] M (Qi q) := by
  refine V_iload (pc := 57) dX7_rivalsWithBoth_57 rfl ?_
  refine V_if_le (tgt := 87) (pc := 59) dX7_rivalsWithBoth_59 rfl (fun c => ?_) (fun c => ?_)
  · have h := h.1 c
    refine V_iload (pc := 87) dX7_rivalsWithBoth_87 rfl ?_
    exact V_iret dX7_rivalsWithBoth_89 rfl h
  · have h := h.2 c
    refine V_iload (pc := 62) dX7_rivalsWithBoth_62 rfl ?_
    refine V_aload_n (pc := 64) dX7_rivalsWithBoth_64 rfl ?_
    refine V_iload_n (pc := 65) dX7_rivalsWithBoth_65 rfl ?_
    refine V_iload (pc := 66) dX7_rivalsWithBoth_66 rfl ?_
    refine V_ior (pc := 68) dX7_rivalsWithBoth_68 ?_
    refine V_callVi [.int (v3 ||| v6)] (pc := 69) kX7_rivalsWith lX7_58 sC9 rfl rfl (Nat.le_of_ble_eq_true rfl) rfl (Nat.le_of_ble_eq_true rfl) dX7_rivalsWithBoth_69 ?_
    refine Ci.mono h ?_
    intro x1 M1 h
    refine V_iadd (pc := 72) dX7_rivalsWithBoth_72 ?_
    refine V_istore (pc := 73) dX7_rivalsWithBoth_73 (by decide) ?_
    refine V_lv (lv2 := [(0, .ref (G.2.1 9)), (1, .int v1), (2, .int v2), (3, .int v3), (4, .int v4), (5, .int (v5 + x1)), (6, .int v6)]) rfl ?_
    refine V_iload (pc := 75) dX7_rivalsWithBoth_75 rfl ?_
    refine V_iconst (v := 1) (pc := 77) dX7_rivalsWithBoth_77 rfl ?_
    refine V_isub (pc := 78) dX7_rivalsWithBoth_78 ?_
    refine V_iload (pc := 79) dX7_rivalsWithBoth_79 rfl ?_
    refine V_iand (pc := 81) dX7_rivalsWithBoth_81 ?_
    refine V_istore (pc := 82) dX7_rivalsWithBoth_82 (by decide) ?_
    refine V_lv (lv2 := [(0, .ref (G.2.1 9)), (1, .int v1), (2, .int v2), (3, .int v3), (4, .int v4), (5, .int (v5 + x1)), (6, .int ((v6 - 1) &&& v4))]) rfl ?_
    refine V_goto (tgt := 57) (pc := 84) dX7_rivalsWithBoth_84 rfl ?_
    exact V_sub h ⟨rfl, rfl, rfl, rfl, rfl, rfl, rfl, trivial⟩
