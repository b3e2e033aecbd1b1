theorem wp_X6_numberToday {G : GV} {k : Nat} {M : Mem} {q : Int32 → Mem → Prop} {v1 : Int32} {v2 : Int32} {v3 : Int32} (h : V shC G mX6_numberToday k 6 [(0, .ref (G.2.1 4)), (1, .int v1), (2, .int v2), (3, .int v3), (4, .int v2), (5, .int 0)] [] M (Qi q)) : Ci shC G mX6_numberToday k [.ref (G.2.1 4), .int v1, .int v2, .int v3] M q := by
  unfold Ci
  show V _ _ _ _ _ [(0, .ref (G.2.1 4)), (1, .int v1), (2, .int v2), (3, .int v3)] _ _ _
  refine V_iload_n (pc := 0) dX6_numberToday_0 rfl ?_
  refine V_istore (pc := 1) dX6_numberToday_1 (by decide) ?_
  refine V_lv (lv2 := [(0, .ref (G.2.1 4)), (1, .int v1), (2, .int v2), (3, .int v3), (4, .int v2)]) rfl ?_
  refine V_iconst (v := 0) (pc := 3) dX6_numberToday_3 rfl ?_
  refine V_istore (pc := 4) dX6_numberToday_4 (by decide) ?_
  refine V_lv (lv2 := [(0, .ref (G.2.1 4)), (1, .int v1), (2, .int v2), (3, .int v3), (4, .int v2), (5, .int 0)]) rfl ?_
  exact V_sub h ⟨rfl, rfl, rfl, rfl, rfl, rfl, trivial⟩
theorem wp_X6_numberToday_6 {G : GV} {k : Nat} {M : Mem} {q : Int32 → Mem → Prop} {v1 : Int32} {v2 : Int32} {v3 : Int32} {v4 : Int32} {v5 : Int32} (h : (((M.1 4 4) ≤ v5 → q v4 M) ∧ (¬ (M.1 4 4) ≤ v5 → vp_in v5 20 ∧ (((M.1 20 (ix v5)) ≤ v3 → V shC G mX6_numberToday k 6 [(0, .ref (G.2.1 4)), (1, .int v1), (2, .int v2), (3, .int v3), (4, .int v4), (5, .int (v5 + 1))] [] M (Qi q)) ∧ (¬ (M.1 20 (ix v5)) ≤ v3 → vp_in v5 20 ∧ (((M.1 21 (ix v5)) ≠ v1 → V shC G mX6_numberToday k 6 [(0, .ref (G.2.1 4)), (1, .int v1), (2, .int v2), (3, .int v3), (4, .int v4), (5, .int (v5 + 1))] [] M (Qi q)) ∧ ((M.1 21 (ix v5)) = v1 → vp_in v5 20 ∧ (((M.1 22 (ix v5)) ≠ v4 → V shC G mX6_numberToday k 6 [(0, .ref (G.2.1 4)), (1, .int v1), (2, .int v2), (3, .int v3), (4, .int v4), (5, .int (v5 + 1))] [] M (Qi q)) ∧ ((M.1 22 (ix v5)) = v4 → vp_in v5 20 ∧ V shC G mX6_numberToday k 6 [(0, .ref (G.2.1 4)), (1, .int v1), (2, .int v2), (3, .int v3), (4, .int (M.1 23 (ix v5))), (5, .int (v5 + 1))] [] M (Qi q)))))))))) : V shC G mX6_numberToday k 6 [(0, .ref (G.2.1 4)), (1, .int v1), (2, .int v2), (3, .int v3), (4, .int v4), (5, .int v5)] [] M (Qi q) := by
  refine V_iload (pc := 6) dX6_numberToday_6 rfl ?_
  refine V_aload_n (pc := 8) dX6_numberToday_8 rfl ?_
  refine V_getI (pc := 9) fX6_32 sC4 rfl dX6_numberToday_9 ?_
  refine V_icmp_ge (tgt := 64) (pc := 12) dX6_numberToday_12 rfl (fun c => ?_) (fun c => ?_)
  · have h := h.1 c
    refine V_iload (pc := 64) dX6_numberToday_64 rfl ?_
    exact V_iret dX6_numberToday_66 rfl h
  · have h := h.2 c
    refine V_aload_n (pc := 15) dX6_numberToday_15 rfl ?_
    refine V_getR (pc := 16) fX6_9 sC4 rfl dX6_numberToday_16 ?_
    refine V_iload (pc := 19) dX6_numberToday_19 rfl ?_
    refine V_iald (pc := 21) sC20 dX6_numberToday_21 h.1 ?_
    have h := h.2
    refine V_iload_n (pc := 22) dX6_numberToday_22 rfl ?_
    refine V_icmp_le (tgt := 58) (pc := 23) dX6_numberToday_23 rfl (fun c => ?_) (fun c => ?_)
    · have h := h.1 c
      refine V_iinc (pc := 58) dX6_numberToday_58 rfl (by decide) ?_
      refine V_lv (lv2 := [(0, .ref (G.2.1 4)), (1, .int v1), (2, .int v2), (3, .int v3), (4, .int v4), (5, .int (v5 + 1))]) rfl ?_
      refine V_goto (tgt := 6) (pc := 61) dX6_numberToday_61 rfl ?_
      exact V_sub h ⟨rfl, rfl, rfl, rfl, rfl, rfl, trivial⟩
    · have h := h.2 c
      refine V_aload_n (pc := 26) dX6_numberToday_26 rfl ?_
      refine V_getR (pc := 27) fX6_15 sC4 rfl dX6_numberToday_27 ?_
      refine V_iload (pc := 30) dX6_numberToday_30 rfl ?_
      refine V_iald (pc := 32) sC21 dX6_numberToday_32 h.1 ?_
      have h := h.2
      refine V_iload_n (pc := 33) dX6_numberToday_33 rfl ?_
      refine V_icmp_ne (tgt := 58) (pc := 34) dX6_numberToday_34 rfl (fun c => ?_) (fun c => ?_)
      · have h := h.1 c
        refine V_iinc (pc := 58) dX6_numberToday_58 rfl (by decide) ?_
        refine V_lv (lv2 := [(0, .ref (G.2.1 4)), (1, .int v1), (2, .int v2), (3, .int v3), (4, .int v4), (5, .int (v5 + 1))]) rfl ?_
        refine V_goto (tgt := 6) (pc := 61) dX6_numberToday_61 rfl ?_
        exact V_sub h ⟨rfl, rfl, rfl, rfl, rfl, rfl, trivial⟩
      · have h := h.2 c
        refine V_aload_n (pc := 37) dX6_numberToday_37 rfl ?_
        refine V_getR (pc := 38) fX6_18 sC4 rfl dX6_numberToday_38 ?_
        refine V_iload (pc := 41) dX6_numberToday_41 rfl ?_
        refine V_iald (pc := 43) sC22 dX6_numberToday_43 h.1 ?_
        have h := h.2
        refine V_iload (pc := 44) dX6_numberToday_44 rfl ?_
        refine V_icmp_ne (tgt := 58) (pc := 46) dX6_numberToday_46 rfl (fun c => ?_) (fun c => ?_)
        · have h := h.1 c
          refine V_iinc (pc := 58) dX6_numberToday_58 rfl (by decide) ?_
          refine V_lv (lv2 := [(0, .ref (G.2.1 4)), (1, .int v1), (2, .int v2), (3, .int v3), (4, .int v4), (5, .int (v5 + 1))]) rfl ?_
          refine V_goto (tgt := 6) (pc := 61) dX6_numberToday_61 rfl ?_
          exact V_sub h ⟨rfl, rfl, rfl, rfl, rfl, rfl, trivial⟩
        · have h := h.2 c
          refine V_aload_n (pc := 49) dX6_numberToday_49 rfl ?_
          refine V_getR (pc := 50) fX6_21 sC4 rfl dX6_numberToday_50 ?_
          refine V_iload (pc := 53) dX6_numberToday_53 rfl ?_
          refine V_iald (pc := 55) sC23 dX6_numberToday_55 h.1 ?_
          have h := h.2
          refine V_istore (pc := 56) dX6_numberToday_56 (by decide) ?_
          refine V_lv (lv2 := [(0, .ref (G.2.1 4)), (1, .int v1), (2, .int v2), (3, .int v3), (4, .int (M.1 23 (ix v5))), (5, .int v5)]) rfl ?_
          refine V_iinc (pc := 58) dX6_numberToday_58 rfl (by decide) ?_
          refine V_lv (lv2 := [(0, .ref (G.2.1 4)), (1, .int v1), (2, .int v2), (3, .int v3), (4, .int (M.1 23 (ix v5))), (5, .int (v5 + 1))]) rfl ?_
          refine V_goto (tgt := 6) (pc := 61) dX6_numberToday_61 rfl ?_
          exact V_sub h ⟨rfl, rfl, rfl, rfl, rfl, rfl, trivial⟩
theorem wp_X6_put {G : GV} {k : Nat} {M : Mem} {q : Mem → Prop} {v1 : Int32} {v2 : Int32} {v3 : Int32} {v4 : Int32} {v5 : Int32} (h : vp_in v1 20 ∧ vp_in v1 20 ∧ vp_in v1 20 ∧ vp_in v1 20 ∧ q (mset (mset (mset (mset M 20 (ix v1) v2) 21 (ix v1) v3) 22 (ix v1) v4) 23 (ix v1) v5)) : Cv shC G mX6_put k [.ref (G.2.1 4), .int v1, .int v2, .int v3, .int v4, .int v5] M q := by
  unfold Cv
  show V _ _ _ _ _ [(0, .ref (G.2.1 4)), (1, .int v1), (2, .int v2), (3, .int v3), (4, .int v4), (5, .int v5)] _ _ _
  refine V_aload_n (pc := 0) dX6_put_0 rfl ?_
  refine V_getR (pc := 1) fX6_9 sC4 rfl dX6_put_1 ?_
  refine V_iload_n (pc := 4) dX6_put_4 rfl ?_
  refine V_iload_n (pc := 5) dX6_put_5 rfl ?_
  refine V_iast (pc := 6) sC20 dX6_put_6 h.1 ?_
  have h := h.2
  refine V_aload_n (pc := 7) dX6_put_7 rfl ?_
  refine V_getR (pc := 8) fX6_15 sC4 rfl dX6_put_8 ?_
  refine V_iload_n (pc := 11) dX6_put_11 rfl ?_
  refine V_iload_n (pc := 12) dX6_put_12 rfl ?_
  refine V_iast (pc := 13) sC21 dX6_put_13 h.1 ?_
  have h := h.2
  refine V_aload_n (pc := 14) dX6_put_14 rfl ?_
  refine V_getR (pc := 15) fX6_18 sC4 rfl dX6_put_15 ?_
  refine V_iload_n (pc := 18) dX6_put_18 rfl ?_
  refine V_iload (pc := 19) dX6_put_19 rfl ?_
  refine V_iast (pc := 21) sC22 dX6_put_21 h.1 ?_
  have h := h.2
  refine V_aload_n (pc := 22) dX6_put_22 rfl ?_
  refine V_getR (pc := 23) fX6_21 sC4 rfl dX6_put_23 ?_
  refine V_iload_n (pc := 26) dX6_put_26 rfl ?_
  refine V_iload (pc := 27) dX6_put_27 rfl ?_
  refine V_iast (pc := 29) sC23 dX6_put_29 h.1 ?_
  have h := h.2
  exact V_vret dX6_put_30 rfl h
theorem wp_X6_quarrelsWithEarlier {G : GV} {k : Nat} {M : Mem} {q : Int32 → Mem → Prop} {v1 : Int32} (h : V shC G mX6_quarrelsWithEarlier k 2 [(0, .ref (G.2.1 4)), (1, .int v1), (2, .int 0)] [] M (Qi q)) : Ci shC G mX6_quarrelsWithEarlier k [.ref (G.2.1 4), .int v1] M q := by
  unfold Ci
  show V _ _ _ _ _ [(0, .ref (G.2.1 4)), (1, .int v1)] _ _ _
  refine V_iconst (v := 0) (pc := 0) dX6_quarrelsWithEarlier_0 rfl ?_
  refine V_istore_n (pc := 1) dX6_quarrelsWithEarlier_1 (by decide) ?_
  refine V_lv (lv2 := [(0, .ref (G.2.1 4)), (1, .int v1), (2, .int 0)]) rfl ?_
  exact V_sub h ⟨rfl, rfl, rfl, trivial⟩
theorem wp_X6_quarrelsWithEarlier_2 {G : GV} {k : Nat} {M : Mem} {q : Int32 → Mem → Prop} {v1 : Int32} {v2 : Int32} (h : ((v1 ≤ v2 → q 0 M) ∧ (¬ v1 ≤ v2 → vp_in v2 20 ∧ vp_in v1 20 ∧ (((M.1 20 (ix v2)) ≠ (M.1 20 (ix v1)) → V shC G mX6_quarrelsWithEarlier k 2 [(0, .ref (G.2.1 4)), (1, .int v1), (2, .int (v2 + 1))] [] M (Qi q)) ∧ ((M.1 20 (ix v2)) = (M.1 20 (ix v1)) → vp_in v2 20 ∧ vp_in v1 20 ∧ (((M.1 21 (ix v2)) ≠ (M.1 21 (ix v1)) → V shC G mX6_quarrelsWithEarlier k 2 [(0, .ref (G.2.1 4)), (1, .int v1), (2, .int (v2 + 1))] [] M (Qi q)) ∧ ((M.1 21 (ix v2)) = (M.1 21 (ix v1)) → vp_in v2 20 ∧ vp_in v1 20 ∧ (((M.1 22 (ix v2)) ≠ (M.1 22 (ix v1)) → V shC G mX6_quarrelsWithEarlier k 2 [(0, .ref (G.2.1 4)), (1, .int v1), (2, .int (v2 + 1))] [] M (Qi q)) ∧ ((M.1 22 (ix v2)) = (M.1 22 (ix v1)) → q 1 M))))))))) : V shC G mX6_quarrelsWithEarlier k 2 [(0, .ref (G.2.1 4)), (1, .int v1), (2, .int v2)] [] M (Qi q) := by
  refine V_iload_n (pc := 2) dX6_quarrelsWithEarlier_2 rfl ?_
  refine V_iload_n (pc := 3) dX6_quarrelsWithEarlier_3 rfl ?_
  refine V_icmp_ge (tgt := 60) (pc := 4) dX6_quarrelsWithEarlier_4 rfl (fun c => ?_) (fun c => ?_)
  · have h := h.1 c
    refine V_iconst (v := 0) (pc := 60) dX6_quarrelsWithEarlier_60 rfl ?_
    exact V_zret dX6_quarrelsWithEarlier_61 rfl (Or.inl rfl) h
  · have h := h.2 c
    refine V_aload_n (pc := 7) dX6_quarrelsWithEarlier_7 rfl ?_
    refine V_getR (pc := 8) fX6_9 sC4 rfl dX6_quarrelsWithEarlier_8 ?_
    refine V_iload_n (pc := 11) dX6_quarrelsWithEarlier_11 rfl ?_
    refine V_iald (pc := 12) sC20 dX6_quarrelsWithEarlier_12 h.1 ?_
    have h := h.2
    refine V_aload_n (pc := 13) dX6_quarrelsWithEarlier_13 rfl ?_
    refine V_getR (pc := 14) fX6_9 sC4 rfl dX6_quarrelsWithEarlier_14 ?_
    refine V_iload_n (pc := 17) dX6_quarrelsWithEarlier_17 rfl ?_
    refine V_iald (pc := 18) sC20 dX6_quarrelsWithEarlier_18 h.1 ?_
    have h := h.2
    refine V_icmp_ne (tgt := 54) (pc := 19) dX6_quarrelsWithEarlier_19 rfl (fun c => ?_) (fun c => ?_)
    · have h := h.1 c
      refine V_iinc (pc := 54) dX6_quarrelsWithEarlier_54 rfl (by decide) ?_
      refine V_lv (lv2 := [(0, .ref (G.2.1 4)), (1, .int v1), (2, .int (v2 + 1))]) rfl ?_
      refine V_goto (tgt := 2) (pc := 57) dX6_quarrelsWithEarlier_57 rfl ?_
      exact V_sub h ⟨rfl, rfl, rfl, trivial⟩
    · have h := h.2 c
      refine V_aload_n (pc := 22) dX6_quarrelsWithEarlier_22 rfl ?_
      refine V_getR (pc := 23) fX6_15 sC4 rfl dX6_quarrelsWithEarlier_23 ?_
      refine V_iload_n (pc := 26) dX6_quarrelsWithEarlier_26 rfl ?_
      refine V_iald (pc := 27) sC21 dX6_quarrelsWithEarlier_27 h.1 ?_
      have h := h.2
      refine V_aload_n (pc := 28) dX6_quarrelsWithEarlier_28 rfl ?_
      refine V_getR (pc := 29) fX6_15 sC4 rfl dX6_quarrelsWithEarlier_29 ?_
      refine V_iload_n (pc := 32) dX6_quarrelsWithEarlier_32 rfl ?_
      refine V_iald (pc := 33) sC21 dX6_quarrelsWithEarlier_33 h.1 ?_
      have h := h.2
      refine V_icmp_ne (tgt := 54) (pc := 34) dX6_quarrelsWithEarlier_34 rfl (fun c => ?_) (fun c => ?_)
      · have h := h.1 c
        refine V_iinc (pc := 54) dX6_quarrelsWithEarlier_54 rfl (by decide) ?_
        refine V_lv (lv2 := [(0, .ref (G.2.1 4)), (1, .int v1), (2, .int (v2 + 1))]) rfl ?_
        refine V_goto (tgt := 2) (pc := 57) dX6_quarrelsWithEarlier_57 rfl ?_
        exact V_sub h ⟨rfl, rfl, rfl, trivial⟩
      · have h := h.2 c
        refine V_aload_n (pc := 37) dX6_quarrelsWithEarlier_37 rfl ?_
        refine V_getR (pc := 38) fX6_18 sC4 rfl dX6_quarrelsWithEarlier_38 ?_
        refine V_iload_n (pc := 41) dX6_quarrelsWithEarlier_41 rfl ?_
        refine V_iald (pc := 42) sC22 dX6_quarrelsWithEarlier_42 h.1 ?_
        have h := h.2
        refine V_aload_n (pc := 43) dX6_quarrelsWithEarlier_43 rfl ?_
        refine V_getR (pc := 44) fX6_18 sC4 rfl dX6_quarrelsWithEarlier_44 ?_
        refine V_iload_n (pc := 47) dX6_quarrelsWithEarlier_47 rfl ?_
        refine V_iald (pc := 48) sC22 dX6_quarrelsWithEarlier_48 h.1 ?_
        have h := h.2
        refine V_icmp_ne (tgt := 54) (pc := 49) dX6_quarrelsWithEarlier_49 rfl (fun c => ?_) (fun c => ?_)
        · have h := h.1 c
          refine V_iinc (pc := 54) dX6_quarrelsWithEarlier_54 rfl (by decide) ?_
          refine V_lv (lv2 := [(0, .ref (G.2.1 4)), (1, .int v1), (2, .int (v2 + 1))]) rfl ?_
          refine V_goto (tgt := 2) (pc := 57) dX6_quarrelsWithEarlier_57 rfl ?_
          exact V_sub h ⟨rfl, rfl, rfl, trivial⟩
        · have h := h.2 c
          refine V_iconst (v := 1) (pc := 52) dX6_quarrelsWithEarlier_52 rfl ?_
          exact V_zret dX6_quarrelsWithEarlier_53 rfl (Or.inr rfl) h
theorem wp_X6_countQuarrels {G : GV} {k : Nat} {M : Mem} {q : Int32 → Mem → Prop}  (h : V shC G mX6_countQuarrels (k + 1) 4 [(0, .ref (G.2.1 4)), (1, .int 0), (2, .int 1)] [] M (Qi q)) : Ci shC G mX6_countQuarrels (k + 1) [.ref (G.2.1 4)] M q := by
  unfold Ci
  show V _ _ _ _ _ [(0, .ref (G.2.1 4))] _ _ _
  refine V_iconst (v := 0) (pc := 0) dX6_countQuarrels_0 rfl ?_
  refine V_istore_n (pc := 1) dX6_countQuarrels_1 (by decide) ?_
  refine V_lv (lv2 := [(0, .ref (G.2.1 4)), (1, .int 0)]) rfl ?_
  refine V_iconst (v := 1) (pc := 2) dX6_countQuarrels_2 rfl ?_
  refine V_istore_n (pc := 3) dX6_countQuarrels_3 (by decide) ?_
  refine V_lv (lv2 := [(0, .ref (G.2.1 4)), (1, .int 0), (2, .int 1)]) rfl ?_
  exact V_sub h ⟨rfl, rfl, rfl, trivial⟩
theorem wp_X6_countQuarrels_4 {G : GV} {k : Nat} {M : Mem} {q : Int32 → Mem → Prop} {v1 : Int32} {v2 : Int32} (h : (((M.1 4 4) ≤ v2 → q v1 M) ∧ (¬ (M.1 4 4) ≤ v2 → Ci shC G mX6_quarrelsWithEarlier k [.ref (G.2.1 4), .int v2] M (fun x1 M1 => ((x1 = 0 → V shC G mX6_countQuarrels (k + 1) 4 [(0, .ref (G.2.1 4)), (1, .int v1), (2, .int (v2 + 1))] [] M1 (Qi q)) ∧ (¬ x1 = 0 → V shC G mX6_countQuarrels (k + 1) 4 [(0, .ref (G.2.1 4)), (1, .int (v1 + 1)), (2, .int (v2 + 1))] [] M1 (Qi q))))))) : V shC G mX6_countQuarrels (k + 1) 4 [(0, .ref (G.2.1 4)), (1, .int v1), (2, .int v2)] [] M (Qi q) := by
  refine V_iload_n (pc := 4) dX6_countQuarrels_4 rfl ?_
  refine V_aload_n (pc := 5) dX6_countQuarrels_5 rfl ?_
  refine V_getI (pc := 6) fX6_32 sC4 rfl dX6_countQuarrels_6 ?_
  refine V_icmp_ge (tgt := 29) (pc := 9) dX6_countQuarrels_9 rfl (fun c => ?_) (fun c => ?_)
  · have h := h.1 c
    refine V_iload_n (pc := 29) dX6_countQuarrels_29 rfl ?_
    exact V_iret dX6_countQuarrels_30 rfl h
  · have h := h.2 c
    refine V_aload_n (pc := 12) dX6_countQuarrels_12 rfl ?_
    refine V_iload_n (pc := 13) dX6_countQuarrels_13 rfl ?_
    refine V_callVi [.int v2] (pc := 14) kX6_quarrelsWithEarlier lX6_39 sC4 rfl rfl (Nat.le_of_ble_eq_true rfl) rfl (Nat.le_of_ble_eq_true rfl) dX6_countQuarrels_14 ?_
    refine Ci.mono h ?_
    intro x1 M1 h
    refine V_if_eq (tgt := 23) (pc := 17) dX6_countQuarrels_17 rfl (fun c => ?_) (fun c => ?_)
    · have h := h.1 c
      refine V_iinc (pc := 23) dX6_countQuarrels_23 rfl (by decide) ?_
      refine V_lv (lv2 := [(0, .ref (G.2.1 4)), (1, .int v1), (2, .int (v2 + 1))]) rfl ?_
      refine V_goto (tgt := 4) (pc := 26) dX6_countQuarrels_26 rfl ?_
      exact V_sub h ⟨rfl, rfl, rfl, trivial⟩
    · have h := h.2 c
      refine V_iinc (pc := 20) dX6_countQuarrels_20 rfl (by decide) ?_
      refine V_lv (lv2 := [(0, .ref (G.2.1 4)), (1, .int (v1 + 1)), (2, .int v2)]) rfl ?_
      refine V_iinc (pc := 23) dX6_countQuarrels_23 rfl (by decide) ?_
      refine V_lv (lv2 := [(0, .ref (G.2.1 4)), (1, .int (v1 + 1)), (2, .int (v2 + 1))]) rfl ?_
      refine V_goto (tgt := 4) (pc := 26) dX6_countQuarrels_26 rfl ?_
      exact V_sub h ⟨rfl, rfl, rfl, trivial⟩
theorem wp_X6_sortIn {G : GV} {k : Nat} {M : Mem} {q : Mem → Prop} {v1 : Int32} (h : vp_in v1 20 ∧ vp_in v1 20 ∧ vp_in v1 20 ∧ vp_in v1 20 ∧ V shC G mX6_sortIn (k + 1) 33 [(0, .ref (G.2.1 4)), (1, .int v1), (2, .int (M.1 20 (ix v1))), (3, .int (M.1 21 (ix v1))), (4, .int (M.1 22 (ix v1))), (5, .int (M.1 23 (ix v1))), (6, .int v1)] [] M (Qv q)) : Cv shC G mX6_sortIn (k + 1) [.ref (G.2.1 4), .int v1] M q := by
  unfold Cv
  show V _ _ _ _ _ [(0, .ref (G.2.1 4)), (1, .int v1)] _ _ _
  refine V_aload_n (pc := 0) dX6_sortIn_0 rfl ?_
  refine V_getR (pc := 1) fX6_9 sC4 rfl dX6_sortIn_1 ?_
  refine V_iload_n (pc := 4) dX6_sortIn_4 rfl ?_
  refine V_iald (pc := 5) sC20 dX6_sortIn_5 h.1 ?_
  have h := h.2
  refine V_istore_n (pc := 6) dX6_sortIn_6 (by decide) ?_
  refine V_lv (lv2 := [(0, .ref (G.2.1 4)), (1, .int v1), (2, .int (M.1 20 (ix v1)))]) rfl ?_
  refine V_aload_n (pc := 7) dX6_sortIn_7 rfl ?_
  refine V_getR (pc := 8) fX6_15 sC4 rfl dX6_sortIn_8 ?_
  refine V_iload_n (pc := 11) dX6_sortIn_11 rfl ?_
  refine V_iald (pc := 12) sC21 dX6_sortIn_12 h.1 ?_
  have h := h.2
  refine V_istore_n (pc := 13) dX6_sortIn_13 (by decide) ?_
  refine V_lv (lv2 := [(0, .ref (G.2.1 4)), (1, .int v1), (2, .int (M.1 20 (ix v1))), (3, .int (M.1 21 (ix v1)))]) rfl ?_
  refine V_aload_n (pc := 14) dX6_sortIn_14 rfl ?_
  refine V_getR (pc := 15) fX6_18 sC4 rfl dX6_sortIn_15 ?_
  refine V_iload_n (pc := 18) dX6_sortIn_18 rfl ?_
  refine V_iald (pc := 19) sC22 dX6_sortIn_19 h.1 ?_
  have h := h.2
  refine V_istore (pc := 20) dX6_sortIn_20 (by decide) ?_
  refine V_lv (lv2 := [(0, .ref (G.2.1 4)), (1, .int v1), (2, .int (M.1 20 (ix v1))), (3, .int (M.1 21 (ix v1))), (4, .int (M.1 22 (ix v1)))]) rfl ?_
  refine V_aload_n (pc := 22) dX6_sortIn_22 rfl ?_
  refine V_getR (pc := 23) fX6_21 sC4 rfl dX6_sortIn_23 ?_
  refine V_iload_n (pc := 26) dX6_sortIn_26 rfl ?_
  refine V_iald (pc := 27) sC23 dX6_sortIn_27 h.1 ?_
  have h := h.2
  refine V_istore (pc := 28) dX6_sortIn_28 (by decide) ?_
  refine V_lv (lv2 := [(0, .ref (G.2.1 4)), (1, .int v1), (2, .int (M.1 20 (ix v1))), (3, .int (M.1 21 (ix v1))), (4, .int (M.1 22 (ix v1))), (5, .int (M.1 23 (ix v1)))]) rfl ?_
  refine V_iload_n (pc := 30) dX6_sortIn_30 rfl ?_
  refine V_istore (pc := 31) dX6_sortIn_31 (by decide) ?_
  refine V_lv (lv2 := [(0, .ref (G.2.1 4)), (1, .int v1), (2, .int (M.1 20 (ix v1))), (3, .int (M.1 21 (ix v1))), (4, .int (M.1 22 (ix v1))), (5, .int (M.1 23 (ix v1))), (6, .int v1)]) rfl ?_
  exact V_sub h ⟨rfl, rfl, rfl, rfl, rfl, rfl, rfl, trivial⟩
theorem wp_X6_sortIn_33 {G : GV} {k : Nat} {M : Mem} {q : Mem → Prop} {v1 : Int32} {v2 : Int32} {v3 : Int32} {v4 : Int32} {v5 : Int32} {v6 : Int32} (h : ((v6 ≤ 0 → Cv shC G mX6_put k [.ref (G.2.1 4), .int v6, .int v2, .int v3, .int v4, .int v5] M (fun M1 => q M1)) ∧ (¬ v6 ≤ 0 → vp_in (v6 - 1) 20 ∧ (((M.1 20 (ix (v6 - 1))) ≤ v2 → Cv shC G mX6_put k [.ref (G.2.1 4), .int v6, .int v2, .int v3, .int v4, .int v5] M (fun M2 => q M2)) ∧ (¬ (M.1 20 (ix (v6 - 1))) ≤ v2 → vp_in (v6 - 1) 20 ∧ vp_in (v6 - 1) 20 ∧ vp_in (v6 - 1) 20 ∧ vp_in (v6 - 1) 20 ∧ Cv shC G mX6_put k [.ref (G.2.1 4), .int v6, .int (M.1 20 (ix (v6 - 1))), .int (M.1 21 (ix (v6 - 1))), .int (M.1 22 (ix (v6 - 1))), .int (M.1 23 (ix (v6 - 1)))] M (fun M3 => V shC G mX6_sortIn (k + 1) 33 [(0, .ref (G.2.1 4)), (1, .int v1), (2, .int v2), (3, .int v3), (4, .int v4), (5, .int v5), (6, .int (v6 + (-1)))] [] M3 (Qv q))))))) : V shC G mX6_sortIn (k + 1) 33 [(0, .ref (G.2.1 4)), (1, .int v1), (2, .int v2), (3, .int v3), (4, .int v4), (5, .int v5), (6, .int v6)] [] M (Qv q) := by
  refine V_iload (pc := 33) dX6_sortIn_33 rfl ?_
  refine V_if_le (tgt := 99) (pc := 35) dX6_sortIn_35 rfl (fun c => ?_) (fun c => ?_)
  · have h := h.1 c
    refine V_aload_n (pc := 99) dX6_sortIn_99 rfl ?_
    refine V_iload (pc := 100) dX6_sortIn_100 rfl ?_
    refine V_iload_n (pc := 102) dX6_sortIn_102 rfl ?_
    refine V_iload_n (pc := 103) dX6_sortIn_103 rfl ?_
    refine V_iload (pc := 104) dX6_sortIn_104 rfl ?_
    refine V_iload (pc := 106) dX6_sortIn_106 rfl ?_
    refine V_callVv [.int v6, .int v2, .int v3, .int v4, .int v5] (pc := 108) kX6_put lX6_28 sC4 rfl rfl (Nat.le_of_ble_eq_true rfl) rfl (Nat.le_of_ble_eq_true rfl) dX6_sortIn_108 ?_
    refine Cv.mono h ?_
    intro M1 h
    exact V_vret dX6_sortIn_111 rfl h
  · have h := h.2 c
    refine V_aload_n (pc := 38) dX6_sortIn_38 rfl ?_
    refine V_getR (pc := 39) fX6_9 sC4 rfl dX6_sortIn_39 ?_
    refine V_iload (pc := 42) dX6_sortIn_42 rfl ?_
    refine V_iconst (v := 1) (pc := 44) dX6_sortIn_44 rfl ?_
    refine V_isub (pc := 45) dX6_sortIn_45 ?_
    refine V_iald (pc := 46) sC20 dX6_sortIn_46 h.1 ?_
    have h := h.2
    refine V_iload_n (pc := 47) dX6_sortIn_47 rfl ?_
    refine V_icmp_le (tgt := 99) (pc := 48) dX6_sortIn_48 rfl (fun c => ?_) (fun c => ?_)
    · have h := h.1 c
      refine V_aload_n (pc := 99) dX6_sortIn_99 rfl ?_
      refine V_iload (pc := 100) dX6_sortIn_100 rfl ?_
      refine V_iload_n (pc := 102) dX6_sortIn_102 rfl ?_
      refine V_iload_n (pc := 103) dX6_sortIn_103 rfl ?_
      refine V_iload (pc := 104) dX6_sortIn_104 rfl ?_
      refine V_iload (pc := 106) dX6_sortIn_106 rfl ?_
      refine V_callVv [.int v6, .int v2, .int v3, .int v4, .int v5] (pc := 108) kX6_put lX6_28 sC4 rfl rfl (Nat.le_of_ble_eq_true rfl) rfl (Nat.le_of_ble_eq_true rfl) dX6_sortIn_108 ?_
      refine Cv.mono h ?_
      intro M2 h
      exact V_vret dX6_sortIn_111 rfl h
    · have h := h.2 c
      refine V_aload_n (pc := 51) dX6_sortIn_51 rfl ?_
      refine V_iload (pc := 52) dX6_sortIn_52 rfl ?_
      refine V_aload_n (pc := 54) dX6_sortIn_54 rfl ?_
      refine V_getR (pc := 55) fX6_9 sC4 rfl dX6_sortIn_55 ?_
      refine V_iload (pc := 58) dX6_sortIn_58 rfl ?_
      refine V_iconst (v := 1) (pc := 60) dX6_sortIn_60 rfl ?_
      refine V_isub (pc := 61) dX6_sortIn_61 ?_
      refine V_iald (pc := 62) sC20 dX6_sortIn_62 h.1 ?_
      have h := h.2
      refine V_aload_n (pc := 63) dX6_sortIn_63 rfl ?_
      refine V_getR (pc := 64) fX6_15 sC4 rfl dX6_sortIn_64 ?_
      refine V_iload (pc := 67) dX6_sortIn_67 rfl ?_
      refine V_iconst (v := 1) (pc := 69) dX6_sortIn_69 rfl ?_
      refine V_isub (pc := 70) dX6_sortIn_70 ?_
      refine V_iald (pc := 71) sC21 dX6_sortIn_71 h.1 ?_
      have h := h.2
      refine V_aload_n (pc := 72) dX6_sortIn_72 rfl ?_
      refine V_getR (pc := 73) fX6_18 sC4 rfl dX6_sortIn_73 ?_
      refine V_iload (pc := 76) dX6_sortIn_76 rfl ?_
      refine V_iconst (v := 1) (pc := 78) dX6_sortIn_78 rfl ?_
      refine V_isub (pc := 79) dX6_sortIn_79 ?_
      refine V_iald (pc := 80) sC22 dX6_sortIn_80 h.1 ?_
      have h := h.2
      refine V_aload_n (pc := 81) dX6_sortIn_81 rfl ?_
      refine V_getR (pc := 82) fX6_21 sC4 rfl dX6_sortIn_82 ?_
      refine V_iload (pc := 85) dX6_sortIn_85 rfl ?_
      refine V_iconst (v := 1) (pc := 87) dX6_sortIn_87 rfl ?_
      refine V_isub (pc := 88) dX6_sortIn_88 ?_
      refine V_iald (pc := 89) sC23 dX6_sortIn_89 h.1 ?_
      have h := h.2
      refine V_callVv [.int v6, .int (M.1 20 (ix (v6 - 1))), .int (M.1 21 (ix (v6 - 1))), .int (M.1 22 (ix (v6 - 1))), .int (M.1 23 (ix (v6 - 1)))] (pc := 90) kX6_put lX6_28 sC4 rfl rfl (Nat.le_of_ble_eq_true rfl) rfl (Nat.le_of_ble_eq_true rfl) dX6_sortIn_90 ?_
      refine Cv.mono h ?_
      intro M3 h
      refine V_iinc (pc := 93) dX6_sortIn_93 rfl (by decide) ?_
      refine V_lv (lv2 := [(0, .ref (G.2.1 4)), (1, .int v1), (2, .int v2), (3, .int v3), (4, .int v4), (5, .int v5), (6, .int (v6 + (-1)))]) rfl ?_
      refine V_goto (tgt := 33) (pc := 96) dX6_sortIn_96 rfl ?_
      exact V_sub h ⟨rfl, rfl, rfl, rfl, rfl, rfl, rfl, trivial⟩
theorem wp_X6_tell {G : GV} {k : Nat} {M : Mem} {q : Mem → Prop} {v1 : Int32} {v2 : Int32} {v3 : Int32} {v4 : Int32} (h : (((M.1 4 5) < 20 → Cv shC G mX6_put k [.ref (G.2.1 4), .int (M.1 4 5), .int v1, .int v2, .int v3, .int v4] M (fun M1 => q (mset M1 4 5 ((M1.1 4 5) + 1)))) ∧ (¬ (M.1 4 5) < 20 → q M))) : Cv shC G mX6_tell (k + 1) [.ref (G.2.1 4), .int v1, .int v2, .int v3, .int v4] M q := by
  unfold Cv
  show V _ _ _ _ _ [(0, .ref (G.2.1 4)), (1, .int v1), (2, .int v2), (3, .int v3), (4, .int v4)] _ _ _
  refine V_aload_n (pc := 0) dX6_tell_0 rfl ?_
  refine V_getI (pc := 1) fX6_24 sC4 rfl dX6_tell_1 ?_
  refine V_bipush (v := 20) (pc := 4) dX6_tell_4 rfl ?_
  refine V_icmp_lt (tgt := 10) (pc := 6) dX6_tell_6 rfl (fun c => ?_) (fun c => ?_)
  · have h := h.1 c
    refine V_aload_n (pc := 10) dX6_tell_10 rfl ?_
    refine V_aload_n (pc := 11) dX6_tell_11 rfl ?_
    refine V_getI (pc := 12) fX6_24 sC4 rfl dX6_tell_12 ?_
    refine V_iload_n (pc := 15) dX6_tell_15 rfl ?_
    refine V_iload_n (pc := 16) dX6_tell_16 rfl ?_
    refine V_iload_n (pc := 17) dX6_tell_17 rfl ?_
    refine V_iload (pc := 18) dX6_tell_18 rfl ?_
    refine V_callVv [.int (M.1 4 5), .int v1, .int v2, .int v3, .int v4] (pc := 20) kX6_put lX6_28 sC4 rfl rfl (Nat.le_of_ble_eq_true rfl) rfl (Nat.le_of_ble_eq_true rfl) dX6_tell_20 ?_
    refine Cv.mono h ?_
    intro M1 h
    refine V_aload_n (pc := 23) dX6_tell_23 rfl ?_
    refine V_dup (pc := 24) dX6_tell_24 rfl ?_
    refine V_getI (pc := 25) fX6_24 sC4 rfl dX6_tell_25 ?_
    refine V_iconst (v := 1) (pc := 28) dX6_tell_28 rfl ?_
    refine V_iadd (pc := 29) dX6_tell_29 ?_
    refine V_putI (pc := 30) fX6_24 p6_5 sC4 rfl dX6_tell_30 ?_
    exact V_vret dX6_tell_33 rfl h
  · have h := h.2 c
    exact V_vret dX6_tell_9 rfl h
theorem wp_X6_keep {G : GV} {k : Nat} {M : Mem} {q : Mem → Prop}  (h : V shC G mX6_keep (k + 2) 0 [(0, .ref (G.2.1 4))] [] M (Qv q)) : Cv shC G mX6_keep (k + 2) [.ref (G.2.1 4)] M q := by
  unfold Cv
  show V _ _ _ _ _ [(0, .ref (G.2.1 4))] _ _ _
  exact V_sub h ⟨rfl, trivial⟩
theorem wp_X6_keep_0 {G : GV} {k : Nat} {M : Mem} {q : Mem → Prop}  (h : (((M.1 4 5) ≤ (M.1 4 4) → q M) ∧ (¬ (M.1 4 5) ≤ (M.1 4 4) → Cv shC G mX6_sortIn (k + 1) [.ref (G.2.1 4), .int (M.1 4 4)] M (fun M1 => V shC G mX6_keep (k + 2) 0 [(0, .ref (G.2.1 4))] [] (mset M1 4 4 ((M1.1 4 4) + 1)) (Qv q))))) : V shC G mX6_keep (k + 2) 0 [(0, .ref (G.2.1 4))] [] M (Qv q) := by
  refine V_aload_n (pc := 0) dX6_keep_0 rfl ?_
  refine V_getI (pc := 1) fX6_32 sC4 rfl dX6_keep_1 ?_
  refine V_aload_n (pc := 4) dX6_keep_4 rfl ?_
  refine V_getI (pc := 5) fX6_24 sC4 rfl dX6_keep_5 ?_
  refine V_icmp_ge (tgt := 32) (pc := 8) dX6_keep_8 rfl (fun c => ?_) (fun c => ?_)
  · have h := h.1 c
    exact V_vret dX6_keep_32 rfl h
  · have h := h.2 c
    refine V_aload_n (pc := 11) dX6_keep_11 rfl ?_
    refine V_aload_n (pc := 12) dX6_keep_12 rfl ?_
    refine V_getI (pc := 13) fX6_32 sC4 rfl dX6_keep_13 ?_
    refine V_callVv [.int (M.1 4 4)] (pc := 16) kX6_sortIn lX6_35 sC4 rfl rfl (Nat.le_of_ble_eq_true rfl) rfl (Nat.le_of_ble_eq_true rfl) dX6_keep_16 ?_
    refine Cv.mono h ?_
    intro M1 h
    refine V_aload_n (pc := 19) dX6_keep_19 rfl ?_
    refine V_dup (pc := 20) dX6_keep_20 rfl ?_
    refine V_getI (pc := 21) fX6_32 sC4 rfl dX6_keep_21 ?_
    refine V_iconst (v := 1) (pc := 24) dX6_keep_24 rfl ?_
    refine V_iadd (pc := 25) dX6_keep_25 ?_
    refine V_putI (pc := 26) fX6_32 p6_4 sC4 rfl dX6_keep_26 ?_
    refine V_goto (tgt := 0) (pc := 29) dX6_keep_29 rfl ?_
    exact V_sub h ⟨rfl, trivial⟩
