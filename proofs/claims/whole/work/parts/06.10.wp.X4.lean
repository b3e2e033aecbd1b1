theorem wp_X4_kept {G : GV} {k : Nat} {M : Mem} {q : Int32 → Mem → Prop}  (h : vp_in 0 13 ∧ vp_in 0 13 ∧ q (M.1 (48 + ix 0) (ix 0)) M) : Ci shC G mX4_kept k [.ref (G.2.1 10)] M q := by
  unfold Ci
  show V _ _ _ _ _ [(0, .ref (G.2.1 10))] _ _ _
  refine V_aload_n (pc := 0) dX4_kept_0 rfl ?_
  refine V_getR (pc := 1) fX4_20 sC10 rfl dX4_kept_1 ?_
  refine V_iconst (v := 0) (pc := 4) dX4_kept_4 rfl ?_
  refine V_aald (r := 48 + ix 0) (pc := 5) sC46 rfl (row_get h.1) dX4_kept_5 h.1 ?_
  have sr_5 := row_sh h.1
  have h := h.2
  refine V_iconst (v := 0) (pc := 6) dX4_kept_6 rfl ?_
  refine V_iald (pc := 7) sr_5 dX4_kept_7 h.1 ?_
  have h := h.2
  exact V_iret dX4_kept_8 rfl h
theorem wp_X4_pick_b {G : GV} {k : Nat} {M : Mem} {q : Int32 → Mem → Prop} {v2 : Int32} {v3 : Int32} (h : V shC G mX4_pick k 6 [(0, .ref (G.2.1 10)), (1, .ref (G.2.1 44)), (2, .int v2), (3, .int v3), (4, .int 0), (5, .int 0)] [] M (Qi q)) : Ci shC G mX4_pick k [.ref (G.2.1 10), .ref (G.2.1 44), .int v2, .int v3] M q := by
  unfold Ci
  show V _ _ _ _ _ [(0, .ref (G.2.1 10)), (1, .ref (G.2.1 44)), (2, .int v2), (3, .int v3)] _ _ _
  refine V_iconst (v := 0) (pc := 0) dX4_pick_0 rfl ?_
  refine V_istore (pc := 1) dX4_pick_1 (by decide) ?_
  refine V_lv (lv2 := [(0, .ref (G.2.1 10)), (1, .ref (G.2.1 44)), (2, .int v2), (3, .int v3), (4, .int 0)]) rfl ?_
  refine V_iconst (v := 0) (pc := 3) dX4_pick_3 rfl ?_
  refine V_istore (pc := 4) dX4_pick_4 (by decide) ?_
  refine V_lv (lv2 := [(0, .ref (G.2.1 10)), (1, .ref (G.2.1 44)), (2, .int v2), (3, .int v3), (4, .int 0), (5, .int 0)]) rfl ?_
  exact V_sub h ⟨rfl, rfl, rfl, rfl, rfl, rfl, trivial⟩
theorem wp_X4_pick_b_6 {G : GV} {k : Nat} {M : Mem} {q : Int32 → Mem → Prop} {v2 : Int32} {v3 : Int32} {v4 : Int32} {v5 : Int32} (h : (((M.1 6 8) ≤ v5 → q v4 M) ∧ (¬ (M.1 6 8) ≤ v5 → vp_in v5 12 ∧ (((M.1 30 (ix v5)) ≠ v2 → V shC G mX4_pick k 6 [(0, .ref (G.2.1 10)), (1, .ref (G.2.1 44)), (2, .int v2), (3, .int v3), (4, .int v4), (5, .int (v5 + 1))] [] M (Qi q)) ∧ ((M.1 30 (ix v5)) = v2 → vp_in v5 12 ∧ (((M.1 33 (ix v5)) = v3 → V shC G mX4_pick k 53 [(0, .ref (G.2.1 10)), (1, .ref (G.2.1 44)), (2, .int v2), (3, .int v3), (4, .int v4), (5, .int v5), (6, .int v4)] [] M (Qi q)) ∧ (¬ (M.1 33 (ix v5)) = v3 → V shC G mX4_pick k 6 [(0, .ref (G.2.1 10)), (1, .ref (G.2.1 44)), (2, .int v2), (3, .int v3), (4, .int v4), (5, .int (v5 + 1))] [] M (Qi q)))))))) : V shC G mX4_pick k 6 [(0, .ref (G.2.1 10)), (1, .ref (G.2.1 44)), (2, .int v2), (3, .int v3), (4, .int v4), (5, .int v5)] [] M (Qi q) := by
  refine V_iload (pc := 6) dX4_pick_6 rfl ?_
  refine V_aload_n (pc := 8) dX4_pick_8 rfl ?_
  refine V_getR (pc := 9) fX4_23 sC10 rfl dX4_pick_9 ?_
  refine V_getI (pc := 12) fX4_42 sC6 rfl dX4_pick_12 ?_
  refine V_icmp_ge (tgt := 116) (pc := 15) dX4_pick_15 rfl (fun c => ?_) (fun c => ?_)
  · have h := h.1 c
    refine V_iload (pc := 116) dX4_pick_116 rfl ?_
    exact V_iret dX4_pick_118 rfl h
  · have h := h.2 c
    refine V_aload_n (pc := 18) dX4_pick_18 rfl ?_
    refine V_getR (pc := 19) fX4_23 sC10 rfl dX4_pick_19 ?_
    refine V_getR (pc := 22) fX4_47 sC6 rfl dX4_pick_22 ?_
    refine V_iload (pc := 25) dX4_pick_25 rfl ?_
    refine V_iald (pc := 27) sC30 dX4_pick_27 h.1 ?_
    have h := h.2
    refine V_iload_n (pc := 28) dX4_pick_28 rfl ?_
    refine V_icmp_ne (tgt := 110) (pc := 29) dX4_pick_29 rfl (fun c => ?_) (fun c => ?_)
    · have h := h.1 c
      refine V_iinc (pc := 110) dX4_pick_110 rfl (by decide) ?_
      refine V_lv (lv2 := [(0, .ref (G.2.1 10)), (1, .ref (G.2.1 44)), (2, .int v2), (3, .int v3), (4, .int v4), (5, .int (v5 + 1))]) rfl ?_
      refine V_goto (tgt := 6) (pc := 113) dX4_pick_113 rfl ?_
      exact V_sub h ⟨rfl, rfl, rfl, rfl, rfl, rfl, trivial⟩
    · have h := h.2 c
      refine V_aload_n (pc := 32) dX4_pick_32 rfl ?_
      refine V_getR (pc := 33) fX4_23 sC10 rfl dX4_pick_33 ?_
      refine V_getR (pc := 36) fX4_50 sC6 rfl dX4_pick_36 ?_
      refine V_iload (pc := 39) dX4_pick_39 rfl ?_
      refine V_iald (pc := 41) sC33 dX4_pick_41 h.1 ?_
      have h := h.2
      refine V_iload_n (pc := 42) dX4_pick_42 rfl ?_
      refine V_icmp_eq (tgt := 49) (pc := 43) dX4_pick_43 rfl (fun c => ?_) (fun c => ?_)
      · have h := h.1 c
        refine V_iload (pc := 49) dX4_pick_49 rfl ?_
        refine V_istore (pc := 51) dX4_pick_51 (by decide) ?_
        refine V_lv (lv2 := [(0, .ref (G.2.1 10)), (1, .ref (G.2.1 44)), (2, .int v2), (3, .int v3), (4, .int v4), (5, .int v5), (6, .int v4)]) rfl ?_
        exact V_sub h ⟨rfl, rfl, rfl, rfl, rfl, rfl, rfl, trivial⟩
      · have h := h.2 c
        refine V_goto (tgt := 110) (pc := 46) dX4_pick_46 rfl ?_
        refine V_iinc (pc := 110) dX4_pick_110 rfl (by decide) ?_
        refine V_lv (lv2 := [(0, .ref (G.2.1 10)), (1, .ref (G.2.1 44)), (2, .int v2), (3, .int v3), (4, .int v4), (5, .int (v5 + 1))]) rfl ?_
        refine V_goto (tgt := 6) (pc := 113) dX4_pick_113 rfl ?_
        exact V_sub h ⟨rfl, rfl, rfl, rfl, rfl, rfl, trivial⟩
theorem wp_X4_pick_b_53 {G : GV} {k : Nat} {M : Mem} {q : Int32 → Mem → Prop} {v2 : Int32} {v3 : Int32} {v4 : Int32} {v5 : Int32} {v6 : Int32} (h : ((v6 ≤ 0 → vp_in v6 12 ∧ V shC G mX4_pick k 6 [(0, .ref (G.2.1 10)), (1, .ref (G.2.1 44)), (2, .int v2), (3, .int v3), (4, .int (v4 + 1)), (5, .int (v5 + 1))] [] (mset M 44 (ix v6) v5) (Qi q)) ∧ (¬ v6 ≤ 0 → vp_in (v6 - 1) 12 ∧ vp_in (M.1 44 (ix (v6 - 1))) 12 ∧ vp_in v5 12 ∧ (((M.1 31 (ix (M.1 44 (ix (v6 - 1))))) ≤ (M.1 31 (ix v5)) → vp_in v6 12 ∧ V shC G mX4_pick k 6 [(0, .ref (G.2.1 10)), (1, .ref (G.2.1 44)), (2, .int v2), (3, .int v3), (4, .int (v4 + 1)), (5, .int (v5 + 1))] [] (mset M 44 (ix v6) v5) (Qi q)) ∧ (¬ (M.1 31 (ix (M.1 44 (ix (v6 - 1))))) ≤ (M.1 31 (ix v5)) → vp_in (v6 - 1) 12 ∧ vp_in v6 12 ∧ V shC G mX4_pick k 53 [(0, .ref (G.2.1 10)), (1, .ref (G.2.1 44)), (2, .int v2), (3, .int v3), (4, .int v4), (5, .int v5), (6, .int (v6 + (-1)))] [] (mset M 44 (ix v6) (M.1 44 (ix (v6 - 1)))) (Qi q)))))) : V shC G mX4_pick k 53 [(0, .ref (G.2.1 10)), (1, .ref (G.2.1 44)), (2, .int v2), (3, .int v3), (4, .int v4), (5, .int v5), (6, .int v6)] [] M (Qi q) := by
  refine V_iload (pc := 53) dX4_pick_53 rfl ?_
  refine V_if_le (tgt := 101) (pc := 55) dX4_pick_55 rfl (fun c => ?_) (fun c => ?_)
  · have h := h.1 c
    refine V_aload_n (pc := 101) dX4_pick_101 rfl ?_
    refine V_iload (pc := 102) dX4_pick_102 rfl ?_
    refine V_iload (pc := 104) dX4_pick_104 rfl ?_
    refine V_iast (pc := 106) sC44 dX4_pick_106 h.1 ?_
    have h := h.2
    refine V_iinc (pc := 107) dX4_pick_107 rfl (by decide) ?_
    refine V_lv (lv2 := [(0, .ref (G.2.1 10)), (1, .ref (G.2.1 44)), (2, .int v2), (3, .int v3), (4, .int (v4 + 1)), (5, .int v5), (6, .int v6)]) rfl ?_
    refine V_iinc (pc := 110) dX4_pick_110 rfl (by decide) ?_
    refine V_lv (lv2 := [(0, .ref (G.2.1 10)), (1, .ref (G.2.1 44)), (2, .int v2), (3, .int v3), (4, .int (v4 + 1)), (5, .int (v5 + 1)), (6, .int v6)]) rfl ?_
    refine V_goto (tgt := 6) (pc := 113) dX4_pick_113 rfl ?_
    exact V_sub h ⟨rfl, rfl, rfl, rfl, rfl, rfl, trivial⟩
  · have h := h.2 c
    refine V_aload_n (pc := 58) dX4_pick_58 rfl ?_
    refine V_getR (pc := 59) fX4_23 sC10 rfl dX4_pick_59 ?_
    refine V_getR (pc := 62) fX4_53 sC6 rfl dX4_pick_62 ?_
    refine V_aload_n (pc := 65) dX4_pick_65 rfl ?_
    refine V_iload (pc := 66) dX4_pick_66 rfl ?_
    refine V_iconst (v := 1) (pc := 68) dX4_pick_68 rfl ?_
    refine V_isub (pc := 69) dX4_pick_69 ?_
    refine V_iald (pc := 70) sC44 dX4_pick_70 h.1 ?_
    have h := h.2
    refine V_iald (pc := 71) sC31 dX4_pick_71 h.1 ?_
    have h := h.2
    refine V_aload_n (pc := 72) dX4_pick_72 rfl ?_
    refine V_getR (pc := 73) fX4_23 sC10 rfl dX4_pick_73 ?_
    refine V_getR (pc := 76) fX4_53 sC6 rfl dX4_pick_76 ?_
    refine V_iload (pc := 79) dX4_pick_79 rfl ?_
    refine V_iald (pc := 81) sC31 dX4_pick_81 h.1 ?_
    have h := h.2
    refine V_icmp_le (tgt := 101) (pc := 82) dX4_pick_82 rfl (fun c => ?_) (fun c => ?_)
    · have h := h.1 c
      refine V_aload_n (pc := 101) dX4_pick_101 rfl ?_
      refine V_iload (pc := 102) dX4_pick_102 rfl ?_
      refine V_iload (pc := 104) dX4_pick_104 rfl ?_
      refine V_iast (pc := 106) sC44 dX4_pick_106 h.1 ?_
      have h := h.2
      refine V_iinc (pc := 107) dX4_pick_107 rfl (by decide) ?_
      refine V_lv (lv2 := [(0, .ref (G.2.1 10)), (1, .ref (G.2.1 44)), (2, .int v2), (3, .int v3), (4, .int (v4 + 1)), (5, .int v5), (6, .int v6)]) rfl ?_
      refine V_iinc (pc := 110) dX4_pick_110 rfl (by decide) ?_
      refine V_lv (lv2 := [(0, .ref (G.2.1 10)), (1, .ref (G.2.1 44)), (2, .int v2), (3, .int v3), (4, .int (v4 + 1)), (5, .int (v5 + 1)), (6, .int v6)]) rfl ?_
      refine V_goto (tgt := 6) (pc := 113) dX4_pick_113 rfl ?_
      exact V_sub h ⟨rfl, rfl, rfl, rfl, rfl, rfl, trivial⟩
    · have h := h.2 c
      refine V_aload_n (pc := 85) dX4_pick_85 rfl ?_
      refine V_iload (pc := 86) dX4_pick_86 rfl ?_
      refine V_aload_n (pc := 88) dX4_pick_88 rfl ?_
      refine V_iload (pc := 89) dX4_pick_89 rfl ?_
      refine V_iconst (v := 1) (pc := 91) dX4_pick_91 rfl ?_
      refine V_isub (pc := 92) dX4_pick_92 ?_
      refine V_iald (pc := 93) sC44 dX4_pick_93 h.1 ?_
      have h := h.2
      refine V_iast (pc := 94) sC44 dX4_pick_94 h.1 ?_
      have h := h.2
      refine V_iinc (pc := 95) dX4_pick_95 rfl (by decide) ?_
      refine V_lv (lv2 := [(0, .ref (G.2.1 10)), (1, .ref (G.2.1 44)), (2, .int v2), (3, .int v3), (4, .int v4), (5, .int v5), (6, .int (v6 + (-1)))]) rfl ?_
      refine V_goto (tgt := 53) (pc := 98) dX4_pick_98 rfl ?_
      exact V_sub h ⟨rfl, rfl, rfl, rfl, rfl, rfl, rfl, trivial⟩
theorem wp_X4_pick_a {G : GV} {k : Nat} {M : Mem} {q : Int32 → Mem → Prop} {v2 : Int32} {v3 : Int32} (h : V shC G mX4_pick k 6 [(0, .ref (G.2.1 10)), (1, .ref (G.2.1 45)), (2, .int v2), (3, .int v3), (4, .int 0), (5, .int 0)] [] M (Qi q)) : Ci shC G mX4_pick k [.ref (G.2.1 10), .ref (G.2.1 45), .int v2, .int v3] M q := by
  unfold Ci
  show V _ _ _ _ _ [(0, .ref (G.2.1 10)), (1, .ref (G.2.1 45)), (2, .int v2), (3, .int v3)] _ _ _
  refine V_iconst (v := 0) (pc := 0) dX4_pick_0 rfl ?_
  refine V_istore (pc := 1) dX4_pick_1 (by decide) ?_
  refine V_lv (lv2 := [(0, .ref (G.2.1 10)), (1, .ref (G.2.1 45)), (2, .int v2), (3, .int v3), (4, .int 0)]) rfl ?_
  refine V_iconst (v := 0) (pc := 3) dX4_pick_3 rfl ?_
  refine V_istore (pc := 4) dX4_pick_4 (by decide) ?_
  refine V_lv (lv2 := [(0, .ref (G.2.1 10)), (1, .ref (G.2.1 45)), (2, .int v2), (3, .int v3), (4, .int 0), (5, .int 0)]) rfl ?_
  exact V_sub h ⟨rfl, rfl, rfl, rfl, rfl, rfl, trivial⟩
theorem wp_X4_pick_a_6 {G : GV} {k : Nat} {M : Mem} {q : Int32 → Mem → Prop} {v2 : Int32} {v3 : Int32} {v4 : Int32} {v5 : Int32} (h : (((M.1 6 8) ≤ v5 → q v4 M) ∧ (¬ (M.1 6 8) ≤ v5 → vp_in v5 12 ∧ (((M.1 30 (ix v5)) ≠ v2 → V shC G mX4_pick k 6 [(0, .ref (G.2.1 10)), (1, .ref (G.2.1 45)), (2, .int v2), (3, .int v3), (4, .int v4), (5, .int (v5 + 1))] [] M (Qi q)) ∧ ((M.1 30 (ix v5)) = v2 → vp_in v5 12 ∧ (((M.1 33 (ix v5)) = v3 → V shC G mX4_pick k 53 [(0, .ref (G.2.1 10)), (1, .ref (G.2.1 45)), (2, .int v2), (3, .int v3), (4, .int v4), (5, .int v5), (6, .int v4)] [] M (Qi q)) ∧ (¬ (M.1 33 (ix v5)) = v3 → V shC G mX4_pick k 6 [(0, .ref (G.2.1 10)), (1, .ref (G.2.1 45)), (2, .int v2), (3, .int v3), (4, .int v4), (5, .int (v5 + 1))] [] M (Qi q)))))))) : V shC G mX4_pick k 6 [(0, .ref (G.2.1 10)), (1, .ref (G.2.1 45)), (2, .int v2), (3, .int v3), (4, .int v4), (5, .int v5)] [] M (Qi q) := by
  refine V_iload (pc := 6) dX4_pick_6 rfl ?_
  refine V_aload_n (pc := 8) dX4_pick_8 rfl ?_
  refine V_getR (pc := 9) fX4_23 sC10 rfl dX4_pick_9 ?_
  refine V_getI (pc := 12) fX4_42 sC6 rfl dX4_pick_12 ?_
  refine V_icmp_ge (tgt := 116) (pc := 15) dX4_pick_15 rfl (fun c => ?_) (fun c => ?_)
  · have h := h.1 c
    refine V_iload (pc := 116) dX4_pick_116 rfl ?_
    exact V_iret dX4_pick_118 rfl h
  · have h := h.2 c
    refine V_aload_n (pc := 18) dX4_pick_18 rfl ?_
    refine V_getR (pc := 19) fX4_23 sC10 rfl dX4_pick_19 ?_
    refine V_getR (pc := 22) fX4_47 sC6 rfl dX4_pick_22 ?_
    refine V_iload (pc := 25) dX4_pick_25 rfl ?_
    refine V_iald (pc := 27) sC30 dX4_pick_27 h.1 ?_
    have h := h.2
    refine V_iload_n (pc := 28) dX4_pick_28 rfl ?_
    refine V_icmp_ne (tgt := 110) (pc := 29) dX4_pick_29 rfl (fun c => ?_) (fun c => ?_)
    · have h := h.1 c
      refine V_iinc (pc := 110) dX4_pick_110 rfl (by decide) ?_
      refine V_lv (lv2 := [(0, .ref (G.2.1 10)), (1, .ref (G.2.1 45)), (2, .int v2), (3, .int v3), (4, .int v4), (5, .int (v5 + 1))]) rfl ?_
      refine V_goto (tgt := 6) (pc := 113) dX4_pick_113 rfl ?_
      exact V_sub h ⟨rfl, rfl, rfl, rfl, rfl, rfl, trivial⟩
    · have h := h.2 c
      refine V_aload_n (pc := 32) dX4_pick_32 rfl ?_
      refine V_getR (pc := 33) fX4_23 sC10 rfl dX4_pick_33 ?_
      refine V_getR (pc := 36) fX4_50 sC6 rfl dX4_pick_36 ?_
      refine V_iload (pc := 39) dX4_pick_39 rfl ?_
      refine V_iald (pc := 41) sC33 dX4_pick_41 h.1 ?_
      have h := h.2
      refine V_iload_n (pc := 42) dX4_pick_42 rfl ?_
      refine V_icmp_eq (tgt := 49) (pc := 43) dX4_pick_43 rfl (fun c => ?_) (fun c => ?_)
      · have h := h.1 c
        refine V_iload (pc := 49) dX4_pick_49 rfl ?_
        refine V_istore (pc := 51) dX4_pick_51 (by decide) ?_
        refine V_lv (lv2 := [(0, .ref (G.2.1 10)), (1, .ref (G.2.1 45)), (2, .int v2), (3, .int v3), (4, .int v4), (5, .int v5), (6, .int v4)]) rfl ?_
        exact V_sub h ⟨rfl, rfl, rfl, rfl, rfl, rfl, rfl, trivial⟩
      · have h := h.2 c
        refine V_goto (tgt := 110) (pc := 46) dX4_pick_46 rfl ?_
        refine V_iinc (pc := 110) dX4_pick_110 rfl (by decide) ?_
        refine V_lv (lv2 := [(0, .ref (G.2.1 10)), (1, .ref (G.2.1 45)), (2, .int v2), (3, .int v3), (4, .int v4), (5, .int (v5 + 1))]) rfl ?_
        refine V_goto (tgt := 6) (pc := 113) dX4_pick_113 rfl ?_
        exact V_sub h ⟨rfl, rfl, rfl, rfl, rfl, rfl, trivial⟩
theorem wp_X4_pick_a_53 {G : GV} {k : Nat} {M : Mem} {q : Int32 → Mem → Prop} {v2 : Int32} {v3 : Int32} {v4 : Int32} {v5 : Int32} {v6 : Int32} (h : ((v6 ≤ 0 → vp_in v6 12 ∧ V shC G mX4_pick k 6 [(0, .ref (G.2.1 10)), (1, .ref (G.2.1 45)), (2, .int v2), (3, .int v3), (4, .int (v4 + 1)), (5, .int (v5 + 1))] [] (mset M 45 (ix v6) v5) (Qi q)) ∧ (¬ v6 ≤ 0 → vp_in (v6 - 1) 12 ∧ vp_in (M.1 45 (ix (v6 - 1))) 12 ∧ vp_in v5 12 ∧ (((M.1 31 (ix (M.1 45 (ix (v6 - 1))))) ≤ (M.1 31 (ix v5)) → vp_in v6 12 ∧ V shC G mX4_pick k 6 [(0, .ref (G.2.1 10)), (1, .ref (G.2.1 45)), (2, .int v2), (3, .int v3), (4, .int (v4 + 1)), (5, .int (v5 + 1))] [] (mset M 45 (ix v6) v5) (Qi q)) ∧ (¬ (M.1 31 (ix (M.1 45 (ix (v6 - 1))))) ≤ (M.1 31 (ix v5)) → vp_in (v6 - 1) 12 ∧ vp_in v6 12 ∧ V shC G mX4_pick k 53 [(0, .ref (G.2.1 10)), (1, .ref (G.2.1 45)), (2, .int v2), (3, .int v3), (4, .int v4), (5, .int v5), (6, .int (v6 + (-1)))] [] (mset M 45 (ix v6) (M.1 45 (ix (v6 - 1)))) (Qi q)))))) : V shC G mX4_pick k 53 [(0, .ref (G.2.1 10)), (1, .ref (G.2.1 45)), (2, .int v2), (3, .int v3), (4, .int v4), (5, .int v5), (6, .int v6)] [] M (Qi q) := by
  refine V_iload (pc := 53) dX4_pick_53 rfl ?_
  refine V_if_le (tgt := 101) (pc := 55) dX4_pick_55 rfl (fun c => ?_) (fun c => ?_)
  · have h := h.1 c
    refine V_aload_n (pc := 101) dX4_pick_101 rfl ?_
    refine V_iload (pc := 102) dX4_pick_102 rfl ?_
    refine V_iload (pc := 104) dX4_pick_104 rfl ?_
    refine V_iast (pc := 106) sC45 dX4_pick_106 h.1 ?_
    have h := h.2
    refine V_iinc (pc := 107) dX4_pick_107 rfl (by decide) ?_
    refine V_lv (lv2 := [(0, .ref (G.2.1 10)), (1, .ref (G.2.1 45)), (2, .int v2), (3, .int v3), (4, .int (v4 + 1)), (5, .int v5), (6, .int v6)]) rfl ?_
    refine V_iinc (pc := 110) dX4_pick_110 rfl (by decide) ?_
    refine V_lv (lv2 := [(0, .ref (G.2.1 10)), (1, .ref (G.2.1 45)), (2, .int v2), (3, .int v3), (4, .int (v4 + 1)), (5, .int (v5 + 1)), (6, .int v6)]) rfl ?_
    refine V_goto (tgt := 6) (pc := 113) dX4_pick_113 rfl ?_
    exact V_sub h ⟨rfl, rfl, rfl, rfl, rfl, rfl, trivial⟩
  · have h := h.2 c
    refine V_aload_n (pc := 58) dX4_pick_58 rfl ?_
    refine V_getR (pc := 59) fX4_23 sC10 rfl dX4_pick_59 ?_
    refine V_getR (pc := 62) fX4_53 sC6 rfl dX4_pick_62 ?_
    refine V_aload_n (pc := 65) dX4_pick_65 rfl ?_
    refine V_iload (pc := 66) dX4_pick_66 rfl ?_
    refine V_iconst (v := 1) (pc := 68) dX4_pick_68 rfl ?_
    refine V_isub (pc := 69) dX4_pick_69 ?_
    refine V_iald (pc := 70) sC45 dX4_pick_70 h.1 ?_
    have h := h.2
    refine V_iald (pc := 71) sC31 dX4_pick_71 h.1 ?_
    have h := h.2
    refine V_aload_n (pc := 72) dX4_pick_72 rfl ?_
    refine V_getR (pc := 73) fX4_23 sC10 rfl dX4_pick_73 ?_
    refine V_getR (pc := 76) fX4_53 sC6 rfl dX4_pick_76 ?_
    refine V_iload (pc := 79) dX4_pick_79 rfl ?_
    refine V_iald (pc := 81) sC31 dX4_pick_81 h.1 ?_
    have h := h.2
    refine V_icmp_le (tgt := 101) (pc := 82) dX4_pick_82 rfl (fun c => ?_) (fun c => ?_)
    · have h := h.1 c
      refine V_aload_n (pc := 101) dX4_pick_101 rfl ?_
      refine V_iload (pc := 102) dX4_pick_102 rfl ?_
      refine V_iload (pc := 104) dX4_pick_104 rfl ?_
      refine V_iast (pc := 106) sC45 dX4_pick_106 h.1 ?_
      have h := h.2
      refine V_iinc (pc := 107) dX4_pick_107 rfl (by decide) ?_
      refine V_lv (lv2 := [(0, .ref (G.2.1 10)), (1, .ref (G.2.1 45)), (2, .int v2), (3, .int v3), (4, .int (v4 + 1)), (5, .int v5), (6, .int v6)]) rfl ?_
      refine V_iinc (pc := 110) dX4_pick_110 rfl (by decide) ?_
      refine V_lv (lv2 := [(0, .ref (G.2.1 10)), (1, .ref (G.2.1 45)), (2, .int v2), (3, .int v3), (4, .int (v4 + 1)), (5, .int (v5 + 1)), (6, .int v6)]) rfl ?_
      refine V_goto (tgt := 6) (pc := 113) dX4_pick_113 rfl ?_
      exact V_sub h ⟨rfl, rfl, rfl, rfl, rfl, rfl, trivial⟩
    · have h := h.2 c
      refine V_aload_n (pc := 85) dX4_pick_85 rfl ?_
      refine V_iload (pc := 86) dX4_pick_86 rfl ?_
      refine V_aload_n (pc := 88) dX4_pick_88 rfl ?_
      refine V_iload (pc := 89) dX4_pick_89 rfl ?_
      refine V_iconst (v := 1) (pc := 91) dX4_pick_91 rfl ?_
      refine V_isub (pc := 92) dX4_pick_92 ?_
      refine V_iald (pc := 93) sC45 dX4_pick_93 h.1 ?_
      have h := h.2
      refine V_iast (pc := 94) sC45 dX4_pick_94 h.1 ?_
      have h := h.2
      refine V_iinc (pc := 95) dX4_pick_95 rfl (by decide) ?_
      refine V_lv (lv2 := [(0, .ref (G.2.1 10)), (1, .ref (G.2.1 45)), (2, .int v2), (3, .int v3), (4, .int v4), (5, .int v5), (6, .int (v6 + (-1)))]) rfl ?_
      refine V_goto (tgt := 53) (pc := 98) dX4_pick_98 rfl ?_
      exact V_sub h ⟨rfl, rfl, rfl, rfl, rfl, rfl, rfl, trivial⟩
theorem wp_X4_canPair {G : GV} {k : Nat} {M : Mem} {q : Int32 → Mem → Prop} {v1 : Int32} {v2 : Int32} (h : vp_in v1 12 ∧ vp_in v2 12 ∧ Ci shC G mX5_areLike k [.ref (G.2.1 7), .int (M.1 44 (ix v1)), .int (M.1 45 (ix v2))] M (fun x1 M1 => (x1 = 0 ∨ x1 = 1) ∧ q x1 M1)) : Ci shC G mX4_canPair (k + 1) [.ref (G.2.1 10), .int v1, .int v2] M q := by
  unfold Ci
  show V _ _ _ _ _ [(0, .ref (G.2.1 10)), (1, .int v1), (2, .int v2)] _ _ _
  refine V_aload_n (pc := 0) dX4_canPair_0 rfl ?_
  refine V_getR (pc := 1) fX4_23 sC10 rfl dX4_canPair_1 ?_
  refine V_getR (pc := 4) fX4_65 sC6 rfl dX4_canPair_4 ?_
  refine V_aload_n (pc := 7) dX4_canPair_7 rfl ?_
  refine V_getR (pc := 8) fX4_9 sC10 rfl dX4_canPair_8 ?_
  refine V_iload_n (pc := 11) dX4_canPair_11 rfl ?_
  refine V_iald (pc := 12) sC44 dX4_canPair_12 h.1 ?_
  have h := h.2
  refine V_aload_n (pc := 13) dX4_canPair_13 rfl ?_
  refine V_getR (pc := 14) fX4_15 sC10 rfl dX4_canPair_14 ?_
  refine V_iload_n (pc := 17) dX4_canPair_17 rfl ?_
  refine V_iald (pc := 18) sC45 dX4_canPair_18 h.1 ?_
  have h := h.2
  refine V_callVi [.int (M.1 44 (ix v1)), .int (M.1 45 (ix v2))] (pc := 19) kX5_areLike lX4_69 sC7 rfl rfl (Nat.le_of_ble_eq_true rfl) rfl (Nat.le_of_ble_eq_true rfl) dX4_canPair_19 ?_
  refine Ci.mono h ?_
  intro x1 M1 h
  exact V_zret dX4_canPair_22 rfl h.1 h.2
theorem wp_X4_mostFrom {G : GV} {k : Nat} {M : Mem} {q : Int32 → Mem → Prop} {v1 : Int32} {v2 : Int32} (h : ((v1 = (M.1 10 4) → q 0 M) ∧ (¬ v1 = (M.1 10 4) → ((v2 ≠ (M.1 10 5) → vp_in (v1 + 1) 13 ∧ vp_in v2 13 ∧ vp_in v1 13 ∧ vp_in (v2 + 1) 13 ∧ Ci shC G mX4_canPair (k + 1) [.ref (G.2.1 10), .int v1, .int v2] M (fun x1 M1 => ((x1 = 0 → q (if (M.1 (48 + ix (v1 + 1)) (ix v2)) < (M.1 (48 + ix v1) (ix (v2 + 1))) then (M.1 (48 + ix v1) (ix (v2 + 1))) else (M.1 (48 + ix (v1 + 1)) (ix v2))) M1) ∧ (¬ x1 = 0 → vp_in (v1 + 1) 13 ∧ vp_in (v2 + 1) 13 ∧ q (if (if (M.1 (48 + ix (v1 + 1)) (ix v2)) < (M.1 (48 + ix v1) (ix (v2 + 1))) then (M.1 (48 + ix v1) (ix (v2 + 1))) else (M.1 (48 + ix (v1 + 1)) (ix v2))) < ((M1.1 (48 + ix (v1 + 1)) (ix (v2 + 1))) + 1) then ((M1.1 (48 + ix (v1 + 1)) (ix (v2 + 1))) + 1) else (if (M.1 (48 + ix (v1 + 1)) (ix v2)) < (M.1 (48 + ix v1) (ix (v2 + 1))) then (M.1 (48 + ix v1) (ix (v2 + 1))) else (M.1 (48 + ix (v1 + 1)) (ix v2)))) M1)))) ∧ (v2 = (M.1 10 5) → q 0 M))))) : Ci shC G mX4_mostFrom (k + 2) [.ref (G.2.1 10), .int v1, .int v2] M q := by
  unfold Ci
  show V _ _ _ _ _ [(0, .ref (G.2.1 10)), (1, .int v1), (2, .int v2)] _ _ _
  refine V_iload_n (pc := 0) dX4_mostFrom_0 rfl ?_
  refine V_aload_n (pc := 1) dX4_mostFrom_1 rfl ?_
  refine V_getI (pc := 2) fX4_31 sC10 rfl dX4_mostFrom_2 ?_
  refine V_icmp_eq (tgt := 16) (pc := 5) dX4_mostFrom_5 rfl (fun c => ?_) (fun c => ?_)
  · have h := h.1 c
    refine V_iconst (v := 0) (pc := 16) dX4_mostFrom_16 rfl ?_
    exact V_iret dX4_mostFrom_17 rfl h
  · have h := h.2 c
    refine V_iload_n (pc := 8) dX4_mostFrom_8 rfl ?_
    refine V_aload_n (pc := 9) dX4_mostFrom_9 rfl ?_
    refine V_getI (pc := 10) fX4_35 sC10 rfl dX4_mostFrom_10 ?_
    refine V_icmp_ne (tgt := 18) (pc := 13) dX4_mostFrom_13 rfl (fun c => ?_) (fun c => ?_)
    · have h := h.1 c
      refine V_aload_n (pc := 18) dX4_mostFrom_18 rfl ?_
      refine V_getR (pc := 19) fX4_20 sC10 rfl dX4_mostFrom_19 ?_
      refine V_iload_n (pc := 22) dX4_mostFrom_22 rfl ?_
      refine V_iconst (v := 1) (pc := 23) dX4_mostFrom_23 rfl ?_
      refine V_iadd (pc := 24) dX4_mostFrom_24 ?_
      refine V_aald (r := 48 + ix (v1 + 1)) (pc := 25) sC46 rfl (row_get h.1) dX4_mostFrom_25 h.1 ?_
      have sr_25 := row_sh h.1
      have h := h.2
      refine V_iload_n (pc := 26) dX4_mostFrom_26 rfl ?_
      refine V_iald (pc := 27) sr_25 dX4_mostFrom_27 h.1 ?_
      have h := h.2
      refine V_aload_n (pc := 28) dX4_mostFrom_28 rfl ?_
      refine V_getR (pc := 29) fX4_20 sC10 rfl dX4_mostFrom_29 ?_
      refine V_iload_n (pc := 32) dX4_mostFrom_32 rfl ?_
      refine V_aald (r := 48 + ix v1) (pc := 33) sC46 rfl (row_get h.1) dX4_mostFrom_33 h.1 ?_
      have sr_33 := row_sh h.1
      have h := h.2
      refine V_iload_n (pc := 34) dX4_mostFrom_34 rfl ?_
      refine V_iconst (v := 1) (pc := 35) dX4_mostFrom_35 rfl ?_
      refine V_iadd (pc := 36) dX4_mostFrom_36 ?_
      refine V_iald (pc := 37) sr_33 dX4_mostFrom_37 h.1 ?_
      have h := h.2
      refine V_mmax (pc := 38) dX4_mostFrom_38 lX4_56 (Nat.le_of_ble_eq_true rfl) ?_
      refine V_istore_n (pc := 41) dX4_mostFrom_41 (by decide) ?_
      refine V_lv (lv2 := [(0, .ref (G.2.1 10)), (1, .int v1), (2, .int v2), (3, .int (if (M.1 (48 + ix (v1 + 1)) (ix v2)) < (M.1 (48 + ix v1) (ix (v2 + 1))) then (M.1 (48 + ix v1) (ix (v2 + 1))) else (M.1 (48 + ix (v1 + 1)) (ix v2))))]) rfl ?_
      refine V_aload_n (pc := 42) dX4_mostFrom_42 rfl ?_
      refine V_iload_n (pc := 43) dX4_mostFrom_43 rfl ?_
      refine V_iload_n (pc := 44) dX4_mostFrom_44 rfl ?_
      refine V_callVi [.int v1, .int v2] (pc := 45) kX4_canPair lX4_61 sC10 rfl rfl (Nat.le_of_ble_eq_true rfl) rfl (Nat.le_of_ble_eq_true rfl) dX4_mostFrom_45 ?_
      refine Ci.mono h ?_
      intro x1 M1 h
      refine V_if_eq (tgt := 72) (pc := 48) dX4_mostFrom_48 rfl (fun c => ?_) (fun c => ?_)
      · have h := h.1 c
        refine V_iload_n (pc := 72) dX4_mostFrom_72 rfl ?_
        exact V_iret dX4_mostFrom_73 rfl h
      · have h := h.2 c
        refine V_iload_n (pc := 51) dX4_mostFrom_51 rfl ?_
        refine V_aload_n (pc := 52) dX4_mostFrom_52 rfl ?_
        refine V_getR (pc := 53) fX4_20 sC10 rfl dX4_mostFrom_53 ?_
        refine V_iload_n (pc := 56) dX4_mostFrom_56 rfl ?_
        refine V_iconst (v := 1) (pc := 57) dX4_mostFrom_57 rfl ?_
        refine V_iadd (pc := 58) dX4_mostFrom_58 ?_
        refine V_aald (r := 48 + ix (v1 + 1)) (pc := 59) sC46 rfl (row_get h.1) dX4_mostFrom_59 h.1 ?_
        have sr_59 := row_sh h.1
        have h := h.2
        refine V_iload_n (pc := 60) dX4_mostFrom_60 rfl ?_
        refine V_iconst (v := 1) (pc := 61) dX4_mostFrom_61 rfl ?_
        refine V_iadd (pc := 62) dX4_mostFrom_62 ?_
        refine V_iald (pc := 63) sr_59 dX4_mostFrom_63 h.1 ?_
        have h := h.2
        refine V_iconst (v := 1) (pc := 64) dX4_mostFrom_64 rfl ?_
        refine V_iadd (pc := 65) dX4_mostFrom_65 ?_
        refine V_mmax (pc := 66) dX4_mostFrom_66 lX4_56 (Nat.le_of_ble_eq_true rfl) ?_
        refine V_goto (tgt := 73) (pc := 69) dX4_mostFrom_69 rfl ?_
        exact V_iret dX4_mostFrom_73 rfl h
    · have h := h.2 c
      refine V_iconst (v := 0) (pc := 16) dX4_mostFrom_16 rfl ?_
      exact V_iret dX4_mostFrom_17 rfl h
theorem wp_X4_stepToPair {G : GV} {k : Nat} {M : Mem} {q : Mem → Prop} {v1 : Int32} {v2 : Int32} (h : V shC G mX4_stepToPair (k + 2) 2 [(0, .ref (G.2.1 10)), (1, .int v1), (2, .int v2), (3, .int v1)] [] M (Qv q)) : Cv shC G mX4_stepToPair (k + 2) [.ref (G.2.1 10), .int v1, .int v2] M q := by
  unfold Cv
  show V _ _ _ _ _ [(0, .ref (G.2.1 10)), (1, .int v1), (2, .int v2)] _ _ _
  refine V_iload_n (pc := 0) dX4_stepToPair_0 rfl ?_
  refine V_istore_n (pc := 1) dX4_stepToPair_1 (by decide) ?_
  refine V_lv (lv2 := [(0, .ref (G.2.1 10)), (1, .int v1), (2, .int v2), (3, .int v1)]) rfl ?_
  exact V_sub h ⟨rfl, rfl, rfl, rfl, trivial⟩
theorem wp_X4_stepToPair_2 {G : GV} {k : Nat} {M : Mem} {q : Mem → Prop} {v1 : Int32} {v2 : Int32} {v3 : Int32} (h : (((M.1 10 4) ≤ v3 → q M) ∧ (¬ (M.1 10 4) ≤ v3 → V shC G mX4_stepToPair (k + 2) 13 [(0, .ref (G.2.1 10)), (1, .int v1), (2, .int v2), (3, .int v3), (4, .int v2)] [] M (Qv q)))) : V shC G mX4_stepToPair (k + 2) 2 [(0, .ref (G.2.1 10)), (1, .int v1), (2, .int v2), (3, .int v3)] [] M (Qv q) := by
  refine V_iload_n (pc := 2) dX4_stepToPair_2 rfl ?_
  refine V_aload_n (pc := 3) dX4_stepToPair_3 rfl ?_
  refine V_getI (pc := 4) fX4_31 sC10 rfl dX4_stepToPair_4 ?_
  refine V_icmp_ge (tgt := 82) (pc := 7) dX4_stepToPair_7 rfl (fun c => ?_) (fun c => ?_)
  · have h := h.1 c
    exact V_vret dX4_stepToPair_82 rfl h
  · have h := h.2 c
    refine V_iload_n (pc := 10) dX4_stepToPair_10 rfl ?_
    refine V_istore (pc := 11) dX4_stepToPair_11 (by decide) ?_
    refine V_lv (lv2 := [(0, .ref (G.2.1 10)), (1, .int v1), (2, .int v2), (3, .int v3), (4, .int v2)]) rfl ?_
    exact V_sub h ⟨rfl, rfl, rfl, rfl, rfl, trivial⟩
theorem wp_X4_stepToPair_13 {G : GV} {k : Nat} {M : Mem} {q : Mem → Prop} {v1 : Int32} {v2 : Int32} {v3 : Int32} {v4 : Int32} (h : (((M.1 10 5) ≤ v4 → V shC G mX4_stepToPair (k + 2) 2 [(0, .ref (G.2.1 10)), (1, .int v1), (2, .int v2), (3, .int (v3 + 1))] [] M (Qv q)) ∧ (¬ (M.1 10 5) ≤ v4 → Ci shC G mX4_canPair (k + 1) [.ref (G.2.1 10), .int v3, .int v4] M (fun x1 M1 => ((x1 = 0 → V shC G mX4_stepToPair (k + 2) 13 [(0, .ref (G.2.1 10)), (1, .int v1), (2, .int v2), (3, .int v3), (4, .int (v4 + 1))] [] M1 (Qv q)) ∧ (¬ x1 = 0 → vp_in (v3 + 1) 13 ∧ vp_in (v4 + 1) 13 ∧ vp_in v1 13 ∧ vp_in v2 13 ∧ ((((M1.1 (48 + ix (v3 + 1)) (ix (v4 + 1))) + 1) ≠ (M1.1 (48 + ix v1) (ix v2)) → V shC G mX4_stepToPair (k + 2) 13 [(0, .ref (G.2.1 10)), (1, .int v1), (2, .int v2), (3, .int v3), (4, .int (v4 + 1))] [] M1 (Qv q)) ∧ (((M1.1 (48 + ix (v3 + 1)) (ix (v4 + 1))) + 1) = (M1.1 (48 + ix v1) (ix v2)) → q (mset (mset M1 10 6 v3) 10 7 v4))))))))) : V shC G mX4_stepToPair (k + 2) 13 [(0, .ref (G.2.1 10)), (1, .int v1), (2, .int v2), (3, .int v3), (4, .int v4)] [] M (Qv q) := by
  refine V_iload (pc := 13) dX4_stepToPair_13 rfl ?_
  refine V_aload_n (pc := 15) dX4_stepToPair_15 rfl ?_
  refine V_getI (pc := 16) fX4_35 sC10 rfl dX4_stepToPair_16 ?_
  refine V_icmp_ge (tgt := 76) (pc := 19) dX4_stepToPair_19 rfl (fun c => ?_) (fun c => ?_)
  · have h := h.1 c
    refine V_iinc (pc := 76) dX4_stepToPair_76 rfl (by decide) ?_
    refine V_lv (lv2 := [(0, .ref (G.2.1 10)), (1, .int v1), (2, .int v2), (3, .int (v3 + 1)), (4, .int v4)]) rfl ?_
    refine V_goto (tgt := 2) (pc := 79) dX4_stepToPair_79 rfl ?_
    exact V_sub h ⟨rfl, rfl, rfl, rfl, trivial⟩
  · have h := h.2 c
    refine V_aload_n (pc := 22) dX4_stepToPair_22 rfl ?_
    refine V_iload_n (pc := 23) dX4_stepToPair_23 rfl ?_
    refine V_iload (pc := 24) dX4_stepToPair_24 rfl ?_
    refine V_callVi [.int v3, .int v4] (pc := 26) kX4_canPair lX4_61 sC10 rfl rfl (Nat.le_of_ble_eq_true rfl) rfl (Nat.le_of_ble_eq_true rfl) dX4_stepToPair_26 ?_
    refine Ci.mono h ?_
    intro x1 M1 h
    refine V_if_eq (tgt := 70) (pc := 29) dX4_stepToPair_29 rfl (fun c => ?_) (fun c => ?_)
    · have h := h.1 c
      refine V_iinc (pc := 70) dX4_stepToPair_70 rfl (by decide) ?_
      refine V_lv (lv2 := [(0, .ref (G.2.1 10)), (1, .int v1), (2, .int v2), (3, .int v3), (4, .int (v4 + 1))]) rfl ?_
      refine V_goto (tgt := 13) (pc := 73) dX4_stepToPair_73 rfl ?_
      exact V_sub h ⟨rfl, rfl, rfl, rfl, rfl, trivial⟩
    · have h := h.2 c
      refine V_aload_n (pc := 32) dX4_stepToPair_32 rfl ?_
      refine V_getR (pc := 33) fX4_20 sC10 rfl dX4_stepToPair_33 ?_
      refine V_iload_n (pc := 36) dX4_stepToPair_36 rfl ?_
      refine V_iconst (v := 1) (pc := 37) dX4_stepToPair_37 rfl ?_
      refine V_iadd (pc := 38) dX4_stepToPair_38 ?_
      refine V_aald (r := 48 + ix (v3 + 1)) (pc := 39) sC46 rfl (row_get h.1) dX4_stepToPair_39 h.1 ?_
      have sr_39 := row_sh h.1
      have h := h.2
      refine V_iload (pc := 40) dX4_stepToPair_40 rfl ?_
      refine V_iconst (v := 1) (pc := 42) dX4_stepToPair_42 rfl ?_
      refine V_iadd (pc := 43) dX4_stepToPair_43 ?_
      refine V_iald (pc := 44) sr_39 dX4_stepToPair_44 h.1 ?_
      have h := h.2
      refine V_iconst (v := 1) (pc := 45) dX4_stepToPair_45 rfl ?_
      refine V_iadd (pc := 46) dX4_stepToPair_46 ?_
      refine V_aload_n (pc := 47) dX4_stepToPair_47 rfl ?_
      refine V_getR (pc := 48) fX4_20 sC10 rfl dX4_stepToPair_48 ?_
      refine V_iload_n (pc := 51) dX4_stepToPair_51 rfl ?_
      refine V_aald (r := 48 + ix v1) (pc := 52) sC46 rfl (row_get h.1) dX4_stepToPair_52 h.1 ?_
      have sr_52 := row_sh h.1
      have h := h.2
      refine V_iload_n (pc := 53) dX4_stepToPair_53 rfl ?_
      refine V_iald (pc := 54) sr_52 dX4_stepToPair_54 h.1 ?_
      have h := h.2
      refine V_icmp_ne (tgt := 70) (pc := 55) dX4_stepToPair_55 rfl (fun c => ?_) (fun c => ?_)
      · have h := h.1 c
        refine V_iinc (pc := 70) dX4_stepToPair_70 rfl (by decide) ?_
        refine V_lv (lv2 := [(0, .ref (G.2.1 10)), (1, .int v1), (2, .int v2), (3, .int v3), (4, .int (v4 + 1))]) rfl ?_
        refine V_goto (tgt := 13) (pc := 73) dX4_stepToPair_73 rfl ?_
        exact V_sub h ⟨rfl, rfl, rfl, rfl, rfl, trivial⟩
      · have h := h.2 c
        refine V_aload_n (pc := 58) dX4_stepToPair_58 rfl ?_
        refine V_iload_n (pc := 59) dX4_stepToPair_59 rfl ?_
        refine V_putI (pc := 60) fX4_74 p4_6 sC10 rfl dX4_stepToPair_60 ?_
        refine V_aload_n (pc := 63) dX4_stepToPair_63 rfl ?_
        refine V_iload (pc := 64) dX4_stepToPair_64 rfl ?_
        refine V_putI (pc := 66) fX4_77 p4_7 sC10 rfl dX4_stepToPair_66 ?_
        exact V_vret dX4_stepToPair_69 rfl h
theorem wp_X4_lineOfPair {G : GV} {k : Nat} {M : Mem} {q : Int32 → Mem → Prop} {v1 : Int32} {v2 : Int32} (h : V shC G mX4_lineOfPair (k + 3) 12 [(0, .ref (G.2.1 10)), (1, .int v1), (2, .int v2), (3, .int 0)] [] (mset (mset M 10 6 (-1)) 10 7 (-1)) (Qi q)) : Ci shC G mX4_lineOfPair (k + 3) [.ref (G.2.1 10), .int v1, .int v2] M q := by
  unfold Ci
  show V _ _ _ _ _ [(0, .ref (G.2.1 10)), (1, .int v1), (2, .int v2)] _ _ _
  refine V_aload_n (pc := 0) dX4_lineOfPair_0 rfl ?_
  refine V_iconst (v := (-1)) (pc := 1) dX4_lineOfPair_1 rfl ?_
  refine V_putI (pc := 2) fX4_74 p4_6 sC10 rfl dX4_lineOfPair_2 ?_
  refine V_aload_n (pc := 5) dX4_lineOfPair_5 rfl ?_
  refine V_iconst (v := (-1)) (pc := 6) dX4_lineOfPair_6 rfl ?_
  refine V_putI (pc := 7) fX4_77 p4_7 sC10 rfl dX4_lineOfPair_7 ?_
  refine V_iconst (v := 0) (pc := 10) dX4_lineOfPair_10 rfl ?_
  refine V_istore_n (pc := 11) dX4_lineOfPair_11 (by decide) ?_
  refine V_lv (lv2 := [(0, .ref (G.2.1 10)), (1, .int v1), (2, .int v2), (3, .int 0)]) rfl ?_
  exact V_sub h ⟨rfl, rfl, rfl, rfl, trivial⟩
theorem wp_X4_lineOfPair_12 {G : GV} {k : Nat} {M : Mem} {q : Int32 → Mem → Prop} {v1 : Int32} {v2 : Int32} {v3 : Int32} (h : ((v1 < v3 → (((M.1 10 6) < 0 → q (-1000000) M) ∧ (¬ (M.1 10 6) < 0 → (((M.1 10 4) ≤ (M.1 10 6) → q (-1000000) M) ∧ (¬ (M.1 10 4) ≤ (M.1 10 6) → (((M.1 10 7) < 0 → q (-1000000) M) ∧ (¬ (M.1 10 7) < 0 → (((M.1 10 7) < (M.1 10 5) → ((v2 = 0 → vp_in (M.1 10 7) 12 ∧ q (M.1 45 (ix (M.1 10 7))) M) ∧ (¬ v2 = 0 → vp_in (M.1 10 6) 12 ∧ q (M.1 44 (ix (M.1 10 6))) M))) ∧ (¬ (M.1 10 7) < (M.1 10 5) → q (-1000000) M))))))))) ∧ (¬ v1 < v3 → Cv shC G mX4_stepToPair (k + 2) [.ref (G.2.1 10), .int ((M.1 10 6) + 1), .int ((M.1 10 7) + 1)] M (fun M1 => V shC G mX4_lineOfPair (k + 3) 12 [(0, .ref (G.2.1 10)), (1, .int v1), (2, .int v2), (3, .int (v3 + 1))] [] M1 (Qi q))))) : V shC G mX4_lineOfPair (k + 3) 12 [(0, .ref (G.2.1 10)), (1, .int v1), (2, .int v2), (3, .int v3)] [] M (Qi q) := by
  refine V_iload_n (pc := 12) dX4_lineOfPair_12 rfl ?_
  refine V_iload_n (pc := 13) dX4_lineOfPair_13 rfl ?_
  refine V_icmp_gt (tgt := 39) (pc := 14) dX4_lineOfPair_14 rfl (fun c => ?_) (fun c => ?_)
  · have h := h.1 c
    refine V_aload_n (pc := 39) dX4_lineOfPair_39 rfl ?_
    refine V_getI (pc := 40) fX4_74 sC10 rfl dX4_lineOfPair_40 ?_
    refine V_if_lt (tgt := 75) (pc := 43) dX4_lineOfPair_43 rfl (fun c => ?_) (fun c => ?_)
    · have h := h.1 c
      refine V_ldc (pc := 75) dX4_lineOfPair_75 nX4_84 ?_
      exact V_iret dX4_lineOfPair_77 rfl h
    · have h := h.2 c
      refine V_aload_n (pc := 46) dX4_lineOfPair_46 rfl ?_
      refine V_getI (pc := 47) fX4_74 sC10 rfl dX4_lineOfPair_47 ?_
      refine V_aload_n (pc := 50) dX4_lineOfPair_50 rfl ?_
      refine V_getI (pc := 51) fX4_31 sC10 rfl dX4_lineOfPair_51 ?_
      refine V_icmp_ge (tgt := 75) (pc := 54) dX4_lineOfPair_54 rfl (fun c => ?_) (fun c => ?_)
      · have h := h.1 c
        refine V_ldc (pc := 75) dX4_lineOfPair_75 nX4_84 ?_
        exact V_iret dX4_lineOfPair_77 rfl h
      · have h := h.2 c
        refine V_aload_n (pc := 57) dX4_lineOfPair_57 rfl ?_
        refine V_getI (pc := 58) fX4_77 sC10 rfl dX4_lineOfPair_58 ?_
        refine V_if_lt (tgt := 75) (pc := 61) dX4_lineOfPair_61 rfl (fun c => ?_) (fun c => ?_)
        · have h := h.1 c
          refine V_ldc (pc := 75) dX4_lineOfPair_75 nX4_84 ?_
          exact V_iret dX4_lineOfPair_77 rfl h
        · have h := h.2 c
          refine V_aload_n (pc := 64) dX4_lineOfPair_64 rfl ?_
          refine V_getI (pc := 65) fX4_77 sC10 rfl dX4_lineOfPair_65 ?_
          refine V_aload_n (pc := 68) dX4_lineOfPair_68 rfl ?_
          refine V_getI (pc := 69) fX4_35 sC10 rfl dX4_lineOfPair_69 ?_
          refine V_icmp_lt (tgt := 78) (pc := 72) dX4_lineOfPair_72 rfl (fun c => ?_) (fun c => ?_)
          · have h := h.1 c
            refine V_iload_n (pc := 78) dX4_lineOfPair_78 rfl ?_
            refine V_if_eq (tgt := 94) (pc := 79) dX4_lineOfPair_79 rfl (fun c => ?_) (fun c => ?_)
            · have h := h.1 c
              refine V_aload_n (pc := 94) dX4_lineOfPair_94 rfl ?_
              refine V_getR (pc := 95) fX4_15 sC10 rfl dX4_lineOfPair_95 ?_
              refine V_aload_n (pc := 98) dX4_lineOfPair_98 rfl ?_
              refine V_getI (pc := 99) fX4_77 sC10 rfl dX4_lineOfPair_99 ?_
              refine V_iald (pc := 102) sC45 dX4_lineOfPair_102 h.1 ?_
              have h := h.2
              exact V_iret dX4_lineOfPair_103 rfl h
            · have h := h.2 c
              refine V_aload_n (pc := 82) dX4_lineOfPair_82 rfl ?_
              refine V_getR (pc := 83) fX4_9 sC10 rfl dX4_lineOfPair_83 ?_
              refine V_aload_n (pc := 86) dX4_lineOfPair_86 rfl ?_
              refine V_getI (pc := 87) fX4_74 sC10 rfl dX4_lineOfPair_87 ?_
              refine V_iald (pc := 90) sC44 dX4_lineOfPair_90 h.1 ?_
              have h := h.2
              refine V_goto (tgt := 103) (pc := 91) dX4_lineOfPair_91 rfl ?_
              exact V_iret dX4_lineOfPair_103 rfl h
          · have h := h.2 c
            refine V_ldc (pc := 75) dX4_lineOfPair_75 nX4_84 ?_
            exact V_iret dX4_lineOfPair_77 rfl h
  · have h := h.2 c
    refine V_aload_n (pc := 17) dX4_lineOfPair_17 rfl ?_
    refine V_aload_n (pc := 18) dX4_lineOfPair_18 rfl ?_
    refine V_getI (pc := 19) fX4_74 sC10 rfl dX4_lineOfPair_19 ?_
    refine V_iconst (v := 1) (pc := 22) dX4_lineOfPair_22 rfl ?_
    refine V_iadd (pc := 23) dX4_lineOfPair_23 ?_
    refine V_aload_n (pc := 24) dX4_lineOfPair_24 rfl ?_
    refine V_getI (pc := 25) fX4_77 sC10 rfl dX4_lineOfPair_25 ?_
    refine V_iconst (v := 1) (pc := 28) dX4_lineOfPair_28 rfl ?_
    refine V_iadd (pc := 29) dX4_lineOfPair_29 ?_
    refine V_callVv [.int ((M.1 10 6) + 1), .int ((M.1 10 7) + 1)] (pc := 30) kX4_stepToPair lX4_80 sC10 rfl rfl (Nat.le_of_ble_eq_true rfl) rfl (Nat.le_of_ble_eq_true rfl) dX4_lineOfPair_30 ?_
    refine Cv.mono h ?_
    intro M1 h
    refine V_iinc (pc := 33) dX4_lineOfPair_33 rfl (by decide) ?_
    refine V_lv (lv2 := [(0, .ref (G.2.1 10)), (1, .int v1), (2, .int v2), (3, .int (v3 + 1))]) rfl ?_
    refine V_goto (tgt := 12) (pc := 36) dX4_lineOfPair_36 rfl ?_
    exact V_sub h ⟨rfl, rfl, rfl, rfl, trivial⟩
theorem wp_X4_lookAt {G : GV} {k : Nat} {M : Mem} {q : Mem → Prop} {v1 : Int32} {v2 : Int32} {v3 : Int32} (h : Ci shC G mX4_pick (k + 2) [.ref (G.2.1 10), .ref (G.2.1 44), .int v1, .int v2] M (fun x1 M1 => Ci shC G mX4_pick (k + 2) [.ref (G.2.1 10), .ref (G.2.1 45), .int v1, .int v3] (mset M1 10 4 x1) (fun x2 M2 => V shC G mX4_lookAt (k + 3) 34 [(0, .ref (G.2.1 10)), (1, .int v1), (2, .int v2), (3, .int v3), (4, .int (M2.1 10 4))] [] (mset M2 10 5 x2) (Qv q)))) : Cv shC G mX4_lookAt (k + 3) [.ref (G.2.1 10), .int v1, .int v2, .int v3] M q := by
  unfold Cv
  show V _ _ _ _ _ [(0, .ref (G.2.1 10)), (1, .int v1), (2, .int v2), (3, .int v3)] _ _ _
  refine V_aload_n (pc := 0) dX4_lookAt_0 rfl ?_
  refine V_aload_n (pc := 1) dX4_lookAt_1 rfl ?_
  refine V_aload_n (pc := 2) dX4_lookAt_2 rfl ?_
  refine V_getR (pc := 3) fX4_9 sC10 rfl dX4_lookAt_3 ?_
  refine V_iload_n (pc := 6) dX4_lookAt_6 rfl ?_
  refine V_iload_n (pc := 7) dX4_lookAt_7 rfl ?_
  refine V_callVi [.ref (G.2.1 44), .int v1, .int v2] (pc := 8) kX4_pick lX4_27 sC10 rfl rfl (Nat.le_of_ble_eq_true rfl) rfl (Nat.le_of_ble_eq_true rfl) dX4_lookAt_8 ?_
  refine Ci.mono h ?_
  intro x1 M1 h
  refine V_putI (pc := 11) fX4_31 p4_4 sC10 rfl dX4_lookAt_11 ?_
  refine V_aload_n (pc := 14) dX4_lookAt_14 rfl ?_
  refine V_aload_n (pc := 15) dX4_lookAt_15 rfl ?_
  refine V_aload_n (pc := 16) dX4_lookAt_16 rfl ?_
  refine V_getR (pc := 17) fX4_15 sC10 rfl dX4_lookAt_17 ?_
  refine V_iload_n (pc := 20) dX4_lookAt_20 rfl ?_
  refine V_iload_n (pc := 21) dX4_lookAt_21 rfl ?_
  refine V_callVi [.ref (G.2.1 45), .int v1, .int v3] (pc := 22) kX4_pick lX4_27 sC10 rfl rfl (Nat.le_of_ble_eq_true rfl) rfl (Nat.le_of_ble_eq_true rfl) dX4_lookAt_22 ?_
  refine Ci.mono h ?_
  intro x2 M2 h
  refine V_putI (pc := 25) fX4_35 p4_5 sC10 rfl dX4_lookAt_25 ?_
  refine V_aload_n (pc := 28) dX4_lookAt_28 rfl ?_
  refine V_getI (pc := 29) fX4_31 sC10 rfl dX4_lookAt_29 ?_
  refine V_top (v := (M2.1 10 4)) (by simp [mset, lset, upd]) ?_
  refine V_istore (pc := 32) dX4_lookAt_32 (by decide) ?_
  refine V_lv (lv2 := [(0, .ref (G.2.1 10)), (1, .int v1), (2, .int v2), (3, .int v3), (4, .int (M2.1 10 4))]) rfl ?_
  exact V_sub h ⟨rfl, rfl, rfl, rfl, rfl, trivial⟩
theorem wp_X4_lookAt_34 {G : GV} {k : Nat} {M : Mem} {q : Mem → Prop} {v1 : Int32} {v2 : Int32} {v3 : Int32} {v4 : Int32} (h : ((v4 < 0 → q M) ∧ (¬ v4 < 0 → V shC G mX4_lookAt (k + 3) 45 [(0, .ref (G.2.1 10)), (1, .int v1), (2, .int v2), (3, .int v3), (4, .int v4), (5, .int (M.1 10 5))] [] M (Qv q)))) : V shC G mX4_lookAt (k + 3) 34 [(0, .ref (G.2.1 10)), (1, .int v1), (2, .int v2), (3, .int v3), (4, .int v4)] [] M (Qv q) := by
  refine V_iload (pc := 34) dX4_lookAt_34 rfl ?_
  refine V_if_lt (tgt := 80) (pc := 36) dX4_lookAt_36 rfl (fun c => ?_) (fun c => ?_)
  · have h := h.1 c
    exact V_vret dX4_lookAt_80 rfl h
  · have h := h.2 c
    refine V_aload_n (pc := 39) dX4_lookAt_39 rfl ?_
    refine V_getI (pc := 40) fX4_35 sC10 rfl dX4_lookAt_40 ?_
    refine V_istore (pc := 43) dX4_lookAt_43 (by decide) ?_
    refine V_lv (lv2 := [(0, .ref (G.2.1 10)), (1, .int v1), (2, .int v2), (3, .int v3), (4, .int v4), (5, .int (M.1 10 5))]) rfl ?_
    exact V_sub h ⟨rfl, rfl, rfl, rfl, rfl, rfl, trivial⟩
theorem wp_X4_lookAt_45 {G : GV} {k : Nat} {M : Mem} {q : Mem → Prop} {v1 : Int32} {v2 : Int32} {v3 : Int32} {v4 : Int32} {v5 : Int32} (h : ((v5 < 0 → V shC G mX4_lookAt (k + 3) 34 [(0, .ref (G.2.1 10)), (1, .int v1), (2, .int v2), (3, .int v3), (4, .int (v4 + (-1)))] [] M (Qv q)) ∧ (¬ v5 < 0 → vp_in v4 13 ∧ Ci shC G mX4_mostFrom (k + 2) [.ref (G.2.1 10), .int v4, .int v5] M (fun x1 M1 => vp_in v5 13 ∧ V shC G mX4_lookAt (k + 3) 45 [(0, .ref (G.2.1 10)), (1, .int v1), (2, .int v2), (3, .int v3), (4, .int v4), (5, .int (v5 + (-1)))] [] (mset M1 (48 + ix v4) (ix v5) x1) (Qv q))))) : V shC G mX4_lookAt (k + 3) 45 [(0, .ref (G.2.1 10)), (1, .int v1), (2, .int v2), (3, .int v3), (4, .int v4), (5, .int v5)] [] M (Qv q) := by
  refine V_iload (pc := 45) dX4_lookAt_45 rfl ?_
  refine V_if_lt (tgt := 74) (pc := 47) dX4_lookAt_47 rfl (fun c => ?_) (fun c => ?_)
  · have h := h.1 c
    refine V_iinc (pc := 74) dX4_lookAt_74 rfl (by decide) ?_
    refine V_lv (lv2 := [(0, .ref (G.2.1 10)), (1, .int v1), (2, .int v2), (3, .int v3), (4, .int (v4 + (-1))), (5, .int v5)]) rfl ?_
    refine V_goto (tgt := 34) (pc := 77) dX4_lookAt_77 rfl ?_
    exact V_sub h ⟨rfl, rfl, rfl, rfl, rfl, trivial⟩
  · have h := h.2 c
    refine V_aload_n (pc := 50) dX4_lookAt_50 rfl ?_
    refine V_getR (pc := 51) fX4_20 sC10 rfl dX4_lookAt_51 ?_
    refine V_iload (pc := 54) dX4_lookAt_54 rfl ?_
    refine V_aald (r := 48 + ix v4) (pc := 56) sC46 rfl (row_get h.1) dX4_lookAt_56 h.1 ?_
    have sr_56 := row_sh h.1
    have h := h.2
    refine V_iload (pc := 57) dX4_lookAt_57 rfl ?_
    refine V_aload_n (pc := 59) dX4_lookAt_59 rfl ?_
    refine V_iload (pc := 60) dX4_lookAt_60 rfl ?_
    refine V_iload (pc := 62) dX4_lookAt_62 rfl ?_
    refine V_callVi [.int v4, .int v5] (pc := 64) kX4_mostFrom lX4_38 sC10 rfl rfl (Nat.le_of_ble_eq_true rfl) rfl (Nat.le_of_ble_eq_true rfl) dX4_lookAt_64 ?_
    refine Ci.mono h ?_
    intro x1 M1 h
    refine V_iast (pc := 67) sr_56 dX4_lookAt_67 h.1 ?_
    have h := h.2
    refine V_iinc (pc := 68) dX4_lookAt_68 rfl (by decide) ?_
    refine V_lv (lv2 := [(0, .ref (G.2.1 10)), (1, .int v1), (2, .int v2), (3, .int v3), (4, .int v4), (5, .int (v5 + (-1)))]) rfl ?_
    refine V_goto (tgt := 45) (pc := 71) dX4_lookAt_71 rfl ?_
    exact V_sub h ⟨rfl, rfl, rfl, rfl, rfl, rfl, trivial⟩
