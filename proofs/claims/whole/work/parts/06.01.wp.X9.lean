theorem wp_X9_haveOneLane {G : GV} {k : Nat} {M : Mem} {q : Int32 → Mem → Prop} {v1 : Int32} {v2 : Int32} (h : vp_in v1 8 ∧ vp_in v2 8 ∧ (((M.1 13 (ix v1)) ≠ (M.1 13 (ix v2)) → q 0 M) ∧ ((M.1 13 (ix v1)) = (M.1 13 (ix v2)) → q 1 M))) : Ci shC G mX9_haveOneLane k [.ref (G.2.1 1), .int v1, .int v2] M q := by
  unfold Ci
  show V _ _ _ _ _ [(0, .ref (G.2.1 1)), (1, .int v1), (2, .int v2)] _ _ _
  refine V_aload_n (pc := 0) dX9_haveOneLane_0 rfl ?_
  refine V_getR (pc := 1) fX9_9 sC1 rfl dX9_haveOneLane_1 ?_
  refine V_iload_n (pc := 4) dX9_haveOneLane_4 rfl ?_
  refine V_iald (pc := 5) sC13 dX9_haveOneLane_5 h.1 ?_
  have h := h.2
  refine V_aload_n (pc := 6) dX9_haveOneLane_6 rfl ?_
  refine V_getR (pc := 7) fX9_9 sC1 rfl dX9_haveOneLane_7 ?_
  refine V_iload_n (pc := 10) dX9_haveOneLane_10 rfl ?_
  refine V_iald (pc := 11) sC13 dX9_haveOneLane_11 h.1 ?_
  have h := h.2
  refine V_icmp_ne (tgt := 19) (pc := 12) dX9_haveOneLane_12 rfl (fun c => ?_) (fun c => ?_)
  · have h := h.1 c
    refine V_iconst (v := 0) (pc := 19) dX9_haveOneLane_19 rfl ?_
    exact V_zret dX9_haveOneLane_20 rfl (Or.inl rfl) h
  · have h := h.2 c
    refine V_iconst (v := 1) (pc := 15) dX9_haveOneLane_15 rfl ?_
    refine V_goto (tgt := 20) (pc := 16) dX9_haveOneLane_16 rfl ?_
    exact V_zret dX9_haveOneLane_20 rfl (Or.inr rfl) h
theorem wp_X9_holds {G : GV} {k : Nat} {M : Mem} {q : Int32 → Mem → Prop} {v1 : Int32} {v2 : Int32} {v3 : Int32} (h : ((v2 < 0 → q 0 M) ∧ (¬ v2 < 0 → ((v3 < 0 → q 0 M) ∧ (¬ v3 < 0 → vp_in v1 8 ∧ ((((M.1 14 (ix v1)) - v3) < v2 → q 0 M) ∧ (¬ ((M.1 14 (ix v1)) - v3) < v2 → q 1 M))))))) : Ci shC G mX9_holds k [.ref (G.2.1 1), .int v1, .int v2, .int v3] M q := by
  unfold Ci
  show V _ _ _ _ _ [(0, .ref (G.2.1 1)), (1, .int v1), (2, .int v2), (3, .int v3)] _ _ _
  refine V_iload_n (pc := 0) dX9_holds_0 rfl ?_
  refine V_if_lt (tgt := 24) (pc := 1) dX9_holds_1 rfl (fun c => ?_) (fun c => ?_)
  · have h := h.1 c
    refine V_iconst (v := 0) (pc := 24) dX9_holds_24 rfl ?_
    exact V_zret dX9_holds_25 rfl (Or.inl rfl) h
  · have h := h.2 c
    refine V_iload_n (pc := 4) dX9_holds_4 rfl ?_
    refine V_if_lt (tgt := 24) (pc := 5) dX9_holds_5 rfl (fun c => ?_) (fun c => ?_)
    · have h := h.1 c
      refine V_iconst (v := 0) (pc := 24) dX9_holds_24 rfl ?_
      exact V_zret dX9_holds_25 rfl (Or.inl rfl) h
    · have h := h.2 c
      refine V_iload_n (pc := 8) dX9_holds_8 rfl ?_
      refine V_aload_n (pc := 9) dX9_holds_9 rfl ?_
      refine V_getR (pc := 10) fX9_15 sC1 rfl dX9_holds_10 ?_
      refine V_iload_n (pc := 13) dX9_holds_13 rfl ?_
      refine V_iald (pc := 14) sC14 dX9_holds_14 h.1 ?_
      have h := h.2
      refine V_iload_n (pc := 15) dX9_holds_15 rfl ?_
      refine V_isub (pc := 16) dX9_holds_16 ?_
      refine V_icmp_gt (tgt := 24) (pc := 17) dX9_holds_17 rfl (fun c => ?_) (fun c => ?_)
      · have h := h.1 c
        refine V_iconst (v := 0) (pc := 24) dX9_holds_24 rfl ?_
        exact V_zret dX9_holds_25 rfl (Or.inl rfl) h
      · have h := h.2 c
        refine V_iconst (v := 1) (pc := 20) dX9_holds_20 rfl ?_
        refine V_goto (tgt := 25) (pc := 21) dX9_holds_21 rfl ?_
        exact V_zret dX9_holds_25 rfl (Or.inr rfl) h
theorem wp_X9_isMissing {G : GV} {k : Nat} {M : Mem} {q : Int32 → Mem → Prop} {v1 : Int32} (h : vp_in v1 8 ∧ (((M.1 14 (ix v1)) ≠ (-1) → q 0 M) ∧ ((M.1 14 (ix v1)) = (-1) → q 1 M))) : Ci shC G mX9_isMissing k [.ref (G.2.1 1), .int v1] M q := by
  unfold Ci
  show V _ _ _ _ _ [(0, .ref (G.2.1 1)), (1, .int v1)] _ _ _
  refine V_aload_n (pc := 0) dX9_isMissing_0 rfl ?_
  refine V_getR (pc := 1) fX9_15 sC1 rfl dX9_isMissing_1 ?_
  refine V_iload_n (pc := 4) dX9_isMissing_4 rfl ?_
  refine V_iald (pc := 5) sC14 dX9_isMissing_5 h.1 ?_
  have h := h.2
  refine V_iconst (v := (-1)) (pc := 6) dX9_isMissing_6 rfl ?_
  refine V_icmp_ne (tgt := 14) (pc := 7) dX9_isMissing_7 rfl (fun c => ?_) (fun c => ?_)
  · have h := h.1 c
    refine V_iconst (v := 0) (pc := 14) dX9_isMissing_14 rfl ?_
    exact V_zret dX9_isMissing_15 rfl (Or.inl rfl) h
  · have h := h.2 c
    refine V_iconst (v := 1) (pc := 10) dX9_isMissing_10 rfl ?_
    refine V_goto (tgt := 15) (pc := 11) dX9_isMissing_11 rfl ?_
    exact V_zret dX9_isMissing_15 rfl (Or.inr rfl) h
theorem wp_X9_item {G : GV} {k : Nat} {M : Mem} {q : Int32 → Mem → Prop} {v1 : Int32} {v2 : Int32} (h : vp_in ((v1 * 60) + v2) 480 ∧ q (M.1 15 (ix ((v1 * 60) + v2))) M) : Ci shC G mX9_item k [.ref (G.2.1 1), .int v1, .int v2] M q := by
  unfold Ci
  show V _ _ _ _ _ [(0, .ref (G.2.1 1)), (1, .int v1), (2, .int v2)] _ _ _
  refine V_aload_n (pc := 0) dX9_item_0 rfl ?_
  refine V_getR (pc := 1) fX9_18 sC1 rfl dX9_item_1 ?_
  refine V_iload_n (pc := 4) dX9_item_4 rfl ?_
  refine V_bipush (v := 60) (pc := 5) dX9_item_5 rfl ?_
  refine V_imul (pc := 7) dX9_item_7 ?_
  refine V_iload_n (pc := 8) dX9_item_8 rfl ?_
  refine V_iadd (pc := 9) dX9_item_9 ?_
  refine V_iald (pc := 10) sC15 dX9_item_10 h.1 ?_
  have h := h.2
  exact V_iret dX9_item_11 rfl h
theorem wp_X9_lay {G : GV} {k : Nat} {M : Mem} {q : Mem → Prop} {v1 : Int32} {v2 : Int32} {v3 : Int32} (h : vp_in v1 8 ∧ vp_in v1 8 ∧ V shC G mX9_lay k 17 [(0, .ref (G.2.1 1)), (1, .int v1), (2, .int v2), (3, .int v3), (4, .int 0)] [] (mset (mset M 13 (ix v1) v2) 14 (ix v1) v3) (Qv q)) : Cv shC G mX9_lay k [.ref (G.2.1 1), .int v1, .int v2, .int v3] M q := by
  unfold Cv
  show V _ _ _ _ _ [(0, .ref (G.2.1 1)), (1, .int v1), (2, .int v2), (3, .int v3)] _ _ _
  refine V_aload_n (pc := 0) dX9_lay_0 rfl ?_
  refine V_getR (pc := 1) fX9_9 sC1 rfl dX9_lay_1 ?_
  refine V_iload_n (pc := 4) dX9_lay_4 rfl ?_
  refine V_iload_n (pc := 5) dX9_lay_5 rfl ?_
  refine V_iast (pc := 6) sC13 dX9_lay_6 h.1 ?_
  have h := h.2
  refine V_aload_n (pc := 7) dX9_lay_7 rfl ?_
  refine V_getR (pc := 8) fX9_15 sC1 rfl dX9_lay_8 ?_
  refine V_iload_n (pc := 11) dX9_lay_11 rfl ?_
  refine V_iload_n (pc := 12) dX9_lay_12 rfl ?_
  refine V_iast (pc := 13) sC14 dX9_lay_13 h.1 ?_
  have h := h.2
  refine V_iconst (v := 0) (pc := 14) dX9_lay_14 rfl ?_
  refine V_istore (pc := 15) dX9_lay_15 (by decide) ?_
  refine V_lv (lv2 := [(0, .ref (G.2.1 1)), (1, .int v1), (2, .int v2), (3, .int v3), (4, .int 0)]) rfl ?_
  exact V_sub h ⟨rfl, rfl, rfl, rfl, rfl, trivial⟩
theorem wp_X9_lay_17 {G : GV} {k : Nat} {M : Mem} {q : Mem → Prop} {v1 : Int32} {v2 : Int32} {v3 : Int32} {v4 : Int32} (h : ((v3 ≤ v4 → q M) ∧ (¬ v3 ≤ v4 → vp_in ((v1 * 60) + v4) 480 ∧ V shC G mX9_lay k 17 [(0, .ref (G.2.1 1)), (1, .int v1), (2, .int v2), (3, .int v3), (4, .int (v4 + 1))] [] (mset M 15 (ix ((v1 * 60) + v4)) 0) (Qv q)))) : V shC G mX9_lay k 17 [(0, .ref (G.2.1 1)), (1, .int v1), (2, .int v2), (3, .int v3), (4, .int v4)] [] M (Qv q) := by
  refine V_iload (pc := 17) dX9_lay_17 rfl ?_
  refine V_iload_n (pc := 19) dX9_lay_19 rfl ?_
  refine V_icmp_ge (tgt := 42) (pc := 20) dX9_lay_20 rfl (fun c => ?_) (fun c => ?_)
  · have h := h.1 c
    exact V_vret dX9_lay_42 rfl h
  · have h := h.2 c
    refine V_aload_n (pc := 23) dX9_lay_23 rfl ?_
    refine V_getR (pc := 24) fX9_18 sC1 rfl dX9_lay_24 ?_
    refine V_iload_n (pc := 27) dX9_lay_27 rfl ?_
    refine V_bipush (v := 60) (pc := 28) dX9_lay_28 rfl ?_
    refine V_imul (pc := 30) dX9_lay_30 ?_
    refine V_iload (pc := 31) dX9_lay_31 rfl ?_
    refine V_iadd (pc := 33) dX9_lay_33 ?_
    refine V_iconst (v := 0) (pc := 34) dX9_lay_34 rfl ?_
    refine V_iast (pc := 35) sC15 dX9_lay_35 h.1 ?_
    have h := h.2
    refine V_iinc (pc := 36) dX9_lay_36 rfl (by decide) ?_
    refine V_lv (lv2 := [(0, .ref (G.2.1 1)), (1, .int v1), (2, .int v2), (3, .int v3), (4, .int (v4 + 1))]) rfl ?_
    refine V_goto (tgt := 17) (pc := 39) dX9_lay_39 rfl ?_
    exact V_sub h ⟨rfl, rfl, rfl, rfl, rfl, trivial⟩
theorem wp_X9_lose {G : GV} {k : Nat} {M : Mem} {q : Int32 → Mem → Prop} {v1 : Int32} (h : vp_in v1 8 ∧ vp_in v1 8 ∧ q (M.1 14 (ix v1)) (mset M 14 (ix v1) (-1))) : Ci shC G mX9_lose k [.ref (G.2.1 1), .int v1] M q := by
  unfold Ci
  show V _ _ _ _ _ [(0, .ref (G.2.1 1)), (1, .int v1)] _ _ _
  refine V_aload_n (pc := 0) dX9_lose_0 rfl ?_
  refine V_getR (pc := 1) fX9_15 sC1 rfl dX9_lose_1 ?_
  refine V_iload_n (pc := 4) dX9_lose_4 rfl ?_
  refine V_iald (pc := 5) sC14 dX9_lose_5 h.1 ?_
  have h := h.2
  refine V_istore_n (pc := 6) dX9_lose_6 (by decide) ?_
  refine V_lv (lv2 := [(0, .ref (G.2.1 1)), (1, .int v1), (2, .int (M.1 14 (ix v1)))]) rfl ?_
  refine V_aload_n (pc := 7) dX9_lose_7 rfl ?_
  refine V_getR (pc := 8) fX9_15 sC1 rfl dX9_lose_8 ?_
  refine V_iload_n (pc := 11) dX9_lose_11 rfl ?_
  refine V_iconst (v := (-1)) (pc := 12) dX9_lose_12 rfl ?_
  refine V_iast (pc := 13) sC14 dX9_lose_13 h.1 ?_
  have h := h.2
  refine V_iload_n (pc := 14) dX9_lose_14 rfl ?_
  exact V_iret dX9_lose_15 rfl h
theorem wp_X9_put {G : GV} {k : Nat} {M : Mem} {q : Int32 → Mem → Prop} {v1 : Int32} {v2 : Int32} {v3 : Int32} (h : vp_in v1 8 ∧ (((M.1 13 (ix v1)) ≠ 0 → vp_in v1 8 ∧ (((M.1 13 (ix v1)) ≠ 1 → vp_in ((v1 * 60) + v2) 480 ∧ q v3 (mset M 15 (ix ((v1 * 60) + v2)) v3)) ∧ ((M.1 13 (ix v1)) = 1 → vp_in ((v1 * 60) + v2) 480 ∧ q ((Int32.toInt16 v3).toInt32) (mset M 15 (ix ((v1 * 60) + v2)) ((Int32.toInt16 v3).toInt32))))) ∧ ((M.1 13 (ix v1)) = 0 → vp_in ((v1 * 60) + v2) 480 ∧ q ((Int32.toInt8 v3).toInt32) (mset M 15 (ix ((v1 * 60) + v2)) ((Int32.toInt8 v3).toInt32))))) : Ci shC G mX9_put k [.ref (G.2.1 1), .int v1, .int v2, .int v3] M q := by
  unfold Ci
  show V _ _ _ _ _ [(0, .ref (G.2.1 1)), (1, .int v1), (2, .int v2), (3, .int v3)] _ _ _
  refine V_aload_n (pc := 0) dX9_put_0 rfl ?_
  refine V_getR (pc := 1) fX9_9 sC1 rfl dX9_put_1 ?_
  refine V_iload_n (pc := 4) dX9_put_4 rfl ?_
  refine V_iald (pc := 5) sC13 dX9_put_5 h.1 ?_
  have h := h.2
  refine V_if_ne (tgt := 14) (pc := 6) dX9_put_6 rfl (fun c => ?_) (fun c => ?_)
  · have h := h.1 c
    refine V_aload_n (pc := 14) dX9_put_14 rfl ?_
    refine V_getR (pc := 15) fX9_9 sC1 rfl dX9_put_15 ?_
    refine V_iload_n (pc := 18) dX9_put_18 rfl ?_
    refine V_iald (pc := 19) sC13 dX9_put_19 h.1 ?_
    have h := h.2
    refine V_iconst (v := 1) (pc := 20) dX9_put_20 rfl ?_
    refine V_icmp_ne (tgt := 29) (pc := 21) dX9_put_21 rfl (fun c => ?_) (fun c => ?_)
    · have h := h.1 c
      refine V_iload_n (pc := 29) dX9_put_29 rfl ?_
      refine V_istore (pc := 30) dX9_put_30 (by decide) ?_
      refine V_lv (lv2 := [(0, .ref (G.2.1 1)), (1, .int v1), (2, .int v2), (3, .int v3), (4, .int v3)]) rfl ?_
      refine V_aload_n (pc := 32) dX9_put_32 rfl ?_
      refine V_getR (pc := 33) fX9_18 sC1 rfl dX9_put_33 ?_
      refine V_iload_n (pc := 36) dX9_put_36 rfl ?_
      refine V_bipush (v := 60) (pc := 37) dX9_put_37 rfl ?_
      refine V_imul (pc := 39) dX9_put_39 ?_
      refine V_iload_n (pc := 40) dX9_put_40 rfl ?_
      refine V_iadd (pc := 41) dX9_put_41 ?_
      refine V_iload (pc := 42) dX9_put_42 rfl ?_
      refine V_iast (pc := 44) sC15 dX9_put_44 h.1 ?_
      have h := h.2
      refine V_iload (pc := 45) dX9_put_45 rfl ?_
      exact V_iret dX9_put_47 rfl h
    · have h := h.2 c
      refine V_iload_n (pc := 24) dX9_put_24 rfl ?_
      refine V_i2s (pc := 25) dX9_put_25 ?_
      refine V_goto (tgt := 30) (pc := 26) dX9_put_26 rfl ?_
      refine V_istore (pc := 30) dX9_put_30 (by decide) ?_
      refine V_lv (lv2 := [(0, .ref (G.2.1 1)), (1, .int v1), (2, .int v2), (3, .int v3), (4, .int ((Int32.toInt16 v3).toInt32))]) rfl ?_
      refine V_aload_n (pc := 32) dX9_put_32 rfl ?_
      refine V_getR (pc := 33) fX9_18 sC1 rfl dX9_put_33 ?_
      refine V_iload_n (pc := 36) dX9_put_36 rfl ?_
      refine V_bipush (v := 60) (pc := 37) dX9_put_37 rfl ?_
      refine V_imul (pc := 39) dX9_put_39 ?_
      refine V_iload_n (pc := 40) dX9_put_40 rfl ?_
      refine V_iadd (pc := 41) dX9_put_41 ?_
      refine V_iload (pc := 42) dX9_put_42 rfl ?_
      refine V_iast (pc := 44) sC15 dX9_put_44 h.1 ?_
      have h := h.2
      refine V_iload (pc := 45) dX9_put_45 rfl ?_
      exact V_iret dX9_put_47 rfl h
  · have h := h.2 c
    refine V_iload_n (pc := 9) dX9_put_9 rfl ?_
    refine V_i2b (pc := 10) dX9_put_10 ?_
    refine V_goto (tgt := 30) (pc := 11) dX9_put_11 rfl ?_
    refine V_istore (pc := 30) dX9_put_30 (by decide) ?_
    refine V_lv (lv2 := [(0, .ref (G.2.1 1)), (1, .int v1), (2, .int v2), (3, .int v3), (4, .int ((Int32.toInt8 v3).toInt32))]) rfl ?_
    refine V_aload_n (pc := 32) dX9_put_32 rfl ?_
    refine V_getR (pc := 33) fX9_18 sC1 rfl dX9_put_33 ?_
    refine V_iload_n (pc := 36) dX9_put_36 rfl ?_
    refine V_bipush (v := 60) (pc := 37) dX9_put_37 rfl ?_
    refine V_imul (pc := 39) dX9_put_39 ?_
    refine V_iload_n (pc := 40) dX9_put_40 rfl ?_
    refine V_iadd (pc := 41) dX9_put_41 ?_
    refine V_iload (pc := 42) dX9_put_42 rfl ?_
    refine V_iast (pc := 44) sC15 dX9_put_44 h.1 ?_
    have h := h.2
    refine V_iload (pc := 45) dX9_put_45 rfl ?_
    exact V_iret dX9_put_47 rfl h
theorem wp_X9_countLaid {G : GV} {k : Nat} {M : Mem} {q : Int32 → Mem → Prop}  (h : V shC G mX9_countLaid (k + 1) 4 [(0, .ref (G.2.1 1)), (1, .int 0), (2, .int 0)] [] M (Qi q)) : Ci shC G mX9_countLaid (k + 1) [.ref (G.2.1 1)] M q := by
  unfold Ci
  show V _ _ _ _ _ [(0, .ref (G.2.1 1))] _ _ _
  refine V_iconst (v := 0) (pc := 0) dX9_countLaid_0 rfl ?_
  refine V_istore_n (pc := 1) dX9_countLaid_1 (by decide) ?_
  refine V_lv (lv2 := [(0, .ref (G.2.1 1)), (1, .int 0)]) rfl ?_
  refine V_iconst (v := 0) (pc := 2) dX9_countLaid_2 rfl ?_
  refine V_istore_n (pc := 3) dX9_countLaid_3 (by decide) ?_
  refine V_lv (lv2 := [(0, .ref (G.2.1 1)), (1, .int 0), (2, .int 0)]) rfl ?_
  exact V_sub h ⟨rfl, rfl, rfl, trivial⟩
theorem wp_X9_countLaid_4 {G : GV} {k : Nat} {M : Mem} {q : Int32 → Mem → Prop} {v1 : Int32} {v2 : Int32} (h : ((8 ≤ v2 → q v1 M) ∧ (¬ 8 ≤ v2 → Ci shC G mX9_isMissing k [.ref (G.2.1 1), .int v2] M (fun x1 M1 => ((x1 ≠ 0 → V shC G mX9_countLaid (k + 1) 4 [(0, .ref (G.2.1 1)), (1, .int v1), (2, .int (v2 + 1))] [] M1 (Qi q)) ∧ (x1 = 0 → V shC G mX9_countLaid (k + 1) 4 [(0, .ref (G.2.1 1)), (1, .int (v1 + 1)), (2, .int (v2 + 1))] [] M1 (Qi q))))))) : V shC G mX9_countLaid (k + 1) 4 [(0, .ref (G.2.1 1)), (1, .int v1), (2, .int v2)] [] M (Qi q) := by
  refine V_iload_n (pc := 4) dX9_countLaid_4 rfl ?_
  refine V_bipush (v := 8) (pc := 5) dX9_countLaid_5 rfl ?_
  refine V_icmp_ge (tgt := 27) (pc := 7) dX9_countLaid_7 rfl (fun c => ?_) (fun c => ?_)
  · have h := h.1 c
    refine V_iload_n (pc := 27) dX9_countLaid_27 rfl ?_
    exact V_iret dX9_countLaid_28 rfl h
  · have h := h.2 c
    refine V_aload_n (pc := 10) dX9_countLaid_10 rfl ?_
    refine V_iload_n (pc := 11) dX9_countLaid_11 rfl ?_
    refine V_callVi [.int v2] (pc := 12) kX9_isMissing lX9_27 sC1 rfl rfl (Nat.le_of_ble_eq_true rfl) rfl (Nat.le_of_ble_eq_true rfl) dX9_countLaid_12 ?_
    refine Ci.mono h ?_
    intro x1 M1 h
    refine V_if_ne (tgt := 21) (pc := 15) dX9_countLaid_15 rfl (fun c => ?_) (fun c => ?_)
    · have h := h.1 c
      refine V_iinc (pc := 21) dX9_countLaid_21 rfl (by decide) ?_
      refine V_lv (lv2 := [(0, .ref (G.2.1 1)), (1, .int v1), (2, .int (v2 + 1))]) rfl ?_
      refine V_goto (tgt := 4) (pc := 24) dX9_countLaid_24 rfl ?_
      exact V_sub h ⟨rfl, rfl, rfl, trivial⟩
    · have h := h.2 c
      refine V_iinc (pc := 18) dX9_countLaid_18 rfl (by decide) ?_
      refine V_lv (lv2 := [(0, .ref (G.2.1 1)), (1, .int (v1 + 1)), (2, .int v2)]) rfl ?_
      refine V_iinc (pc := 21) dX9_countLaid_21 rfl (by decide) ?_
      refine V_lv (lv2 := [(0, .ref (G.2.1 1)), (1, .int (v1 + 1)), (2, .int (v2 + 1))]) rfl ?_
      refine V_goto (tgt := 4) (pc := 24) dX9_countLaid_24 rfl ?_
      exact V_sub h ⟨rfl, rfl, rfl, trivial⟩
