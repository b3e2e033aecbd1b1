theorem wp_X1_tell {G : GV} {k : Nat} {M : Mem} {q : Mem → Prop} {v1 : Int32} {v2 : Int32} (h : (((M.1 3 4) < 10 → vp_in (M.1 3 4) 10 ∧ vp_in (M.1 3 4) 10 ∧ q (mset (mset (mset M 17 (ix (M.1 3 4)) v1) 18 (ix (M.1 3 4)) v2) 3 4 ((M.1 3 4) + 1))) ∧ (¬ (M.1 3 4) < 10 → q M))) : Cv shC G mX1_tell k [.ref (G.2.1 3), .int v1, .int v2] M q := by
  unfold Cv
  show V _ _ _ _ _ [(0, .ref (G.2.1 3)), (1, .int v1), (2, .int v2)] _ _ _
  refine V_aload_n (pc := 0) dX1_tell_0 rfl ?_
  refine V_getI (pc := 1) fX1_22 sC3 rfl dX1_tell_1 ?_
  refine V_bipush (v := 10) (pc := 4) dX1_tell_4 rfl ?_
  refine V_icmp_lt (tgt := 10) (pc := 6) dX1_tell_6 rfl (fun c => ?_) (fun c => ?_)
  · have h := h.1 c
    refine V_aload_n (pc := 10) dX1_tell_10 rfl ?_
    refine V_getR (pc := 11) fX1_9 sC3 rfl dX1_tell_11 ?_
    refine V_aload_n (pc := 14) dX1_tell_14 rfl ?_
    refine V_getI (pc := 15) fX1_22 sC3 rfl dX1_tell_15 ?_
    refine V_iload_n (pc := 18) dX1_tell_18 rfl ?_
    refine V_iast (pc := 19) sC17 dX1_tell_19 h.1 ?_
    have h := h.2
    refine V_aload_n (pc := 20) dX1_tell_20 rfl ?_
    refine V_getR (pc := 21) fX1_15 sC3 rfl dX1_tell_21 ?_
    refine V_aload_n (pc := 24) dX1_tell_24 rfl ?_
    refine V_getI (pc := 25) fX1_22 sC3 rfl dX1_tell_25 ?_
    refine V_top (v := (M.1 3 4)) (by simp [mset, lset, upd]) ?_
    refine V_iload_n (pc := 28) dX1_tell_28 rfl ?_
    refine V_iast (pc := 29) sC18 dX1_tell_29 h.1 ?_
    have h := h.2
    refine V_aload_n (pc := 30) dX1_tell_30 rfl ?_
    refine V_dup (pc := 31) dX1_tell_31 rfl ?_
    refine V_getI (pc := 32) fX1_22 sC3 rfl dX1_tell_32 ?_
    refine V_top (v := (M.1 3 4)) (by simp [mset, lset, upd]) ?_
    refine V_iconst (v := 1) (pc := 35) dX1_tell_35 rfl ?_
    refine V_iadd (pc := 36) dX1_tell_36 ?_
    refine V_putI (pc := 37) fX1_22 p1_4 sC3 rfl dX1_tell_37 ?_
    exact V_vret dX1_tell_40 rfl h
  · have h := h.2 c
    exact V_vret dX1_tell_9 rfl h
theorem wp_X1_worth {G : GV} {k : Nat} {M : Mem} {q : Int32 → Mem → Prop} {v1 : Int32} {v2 : Int32} (h : vp_in v1 10 ∧ ((1 ≤ (M.1 18 (ix v1)) → vp_in v1 10 ∧ ¬ (M.1 18 (ix v1)) = 0 ∧ q ((v2 * 1000) / (M.1 18 (ix v1))) M) ∧ (¬ 1 ≤ (M.1 18 (ix v1)) → q 0 M))) : Ci shC G mX1_worth k [.ref (G.2.1 3), .int v1, .int v2] M q := by
  unfold Ci
  show V _ _ _ _ _ [(0, .ref (G.2.1 3)), (1, .int v1), (2, .int v2)] _ _ _
  refine V_aload_n (pc := 0) dX1_worth_0 rfl ?_
  refine V_getR (pc := 1) fX1_15 sC3 rfl dX1_worth_1 ?_
  refine V_iload_n (pc := 4) dX1_worth_4 rfl ?_
  refine V_iald (pc := 5) sC18 dX1_worth_5 h.1 ?_
  have h := h.2
  refine V_iconst (v := 1) (pc := 6) dX1_worth_6 rfl ?_
  refine V_icmp_ge (tgt := 14) (pc := 7) dX1_worth_7 rfl (fun c => ?_) (fun c => ?_)
  · have h := h.1 c
    refine V_iload_n (pc := 14) dX1_worth_14 rfl ?_
    refine V_sipush (v := 1000) (pc := 15) dX1_worth_15 rfl ?_
    refine V_imul (pc := 18) dX1_worth_18 ?_
    refine V_aload_n (pc := 19) dX1_worth_19 rfl ?_
    refine V_getR (pc := 20) fX1_15 sC3 rfl dX1_worth_20 ?_
    refine V_iload_n (pc := 23) dX1_worth_23 rfl ?_
    refine V_iald (pc := 24) sC18 dX1_worth_24 h.1 ?_
    have h := h.2
    refine V_idiv (pc := 25) dX1_worth_25 h.1 ?_
    have h := h.2
    exact V_iret dX1_worth_26 rfl h
  · have h := h.2 c
    refine V_iconst (v := 0) (pc := 10) dX1_worth_10 rfl ?_
    refine V_goto (tgt := 26) (pc := 11) dX1_worth_11 rfl ?_
    exact V_iret dX1_worth_26 rfl h
theorem wp_X1_gatheredAbove {G : GV} {k : Nat} {M : Mem} {q : Int32 → Mem → Prop} {v1 : Int32} (h : V shC G mX1_gatheredAbove (k + 1) 6 [(0, .ref (G.2.1 3)), (1, .int v1), (2, .int 9999), (3, .int 0)] [] M (Qi q)) : Ci shC G mX1_gatheredAbove (k + 1) [.ref (G.2.1 3), .int v1] M q := by
  unfold Ci
  show V _ _ _ _ _ [(0, .ref (G.2.1 3)), (1, .int v1)] _ _ _
  refine V_sipush (v := 9999) (pc := 0) dX1_gatheredAbove_0 rfl ?_
  refine V_istore_n (pc := 3) dX1_gatheredAbove_3 (by decide) ?_
  refine V_lv (lv2 := [(0, .ref (G.2.1 3)), (1, .int v1), (2, .int 9999)]) rfl ?_
  refine V_iconst (v := 0) (pc := 4) dX1_gatheredAbove_4 rfl ?_
  refine V_istore_n (pc := 5) dX1_gatheredAbove_5 (by decide) ?_
  refine V_lv (lv2 := [(0, .ref (G.2.1 3)), (1, .int v1), (2, .int 9999), (3, .int 0)]) rfl ?_
  exact V_sub h ⟨rfl, rfl, rfl, rfl, trivial⟩
theorem wp_X1_gatheredAbove_6 {G : GV} {k : Nat} {M : Mem} {q : Int32 → Mem → Prop} {v1 : Int32} {v2 : Int32} {v3 : Int32} (h : (((M.1 3 3) ≤ v3 → q v2 M) ∧ (¬ (M.1 3 3) ≤ v3 → vp_in v3 10 ∧ (((M.1 17 (ix v3)) ≤ v1 → V shC G mX1_gatheredAbove (k + 1) 6 [(0, .ref (G.2.1 3)), (1, .int v1), (2, .int v2), (3, .int (v3 + 1))] [] M (Qi q)) ∧ (¬ (M.1 17 (ix v3)) ≤ v1 → vp_in v3 10 ∧ V shC G mX1_gatheredAbove (k + 1) 6 [(0, .ref (G.2.1 3)), (1, .int v1), (2, .int (if (M.1 17 (ix v3)) < v2 then (M.1 17 (ix v3)) else v2)), (3, .int (v3 + 1))] [] M (Qi q)))))) : V shC G mX1_gatheredAbove (k + 1) 6 [(0, .ref (G.2.1 3)), (1, .int v1), (2, .int v2), (3, .int v3)] [] M (Qi q) := by
  refine V_iload_n (pc := 6) dX1_gatheredAbove_6 rfl ?_
  refine V_aload_n (pc := 7) dX1_gatheredAbove_7 rfl ?_
  refine V_getI (pc := 8) fX1_26 sC3 rfl dX1_gatheredAbove_8 ?_
  refine V_icmp_ge (tgt := 41) (pc := 11) dX1_gatheredAbove_11 rfl (fun c => ?_) (fun c => ?_)
  · have h := h.1 c
    refine V_iload_n (pc := 41) dX1_gatheredAbove_41 rfl ?_
    exact V_iret dX1_gatheredAbove_42 rfl h
  · have h := h.2 c
    refine V_aload_n (pc := 14) dX1_gatheredAbove_14 rfl ?_
    refine V_getR (pc := 15) fX1_9 sC3 rfl dX1_gatheredAbove_15 ?_
    refine V_iload_n (pc := 18) dX1_gatheredAbove_18 rfl ?_
    refine V_iald (pc := 19) sC17 dX1_gatheredAbove_19 h.1 ?_
    have h := h.2
    refine V_iload_n (pc := 20) dX1_gatheredAbove_20 rfl ?_
    refine V_icmp_le (tgt := 35) (pc := 21) dX1_gatheredAbove_21 rfl (fun c => ?_) (fun c => ?_)
    · have h := h.1 c
      refine V_iinc (pc := 35) dX1_gatheredAbove_35 rfl (by decide) ?_
      refine V_lv (lv2 := [(0, .ref (G.2.1 3)), (1, .int v1), (2, .int v2), (3, .int (v3 + 1))]) rfl ?_
      refine V_goto (tgt := 6) (pc := 38) dX1_gatheredAbove_38 rfl ?_
      exact V_sub h ⟨rfl, rfl, rfl, rfl, trivial⟩
    · have h := h.2 c
      refine V_iload_n (pc := 24) dX1_gatheredAbove_24 rfl ?_
      refine V_aload_n (pc := 25) dX1_gatheredAbove_25 rfl ?_
      refine V_getR (pc := 26) fX1_9 sC3 rfl dX1_gatheredAbove_26 ?_
      refine V_iload_n (pc := 29) dX1_gatheredAbove_29 rfl ?_
      refine V_iald (pc := 30) sC17 dX1_gatheredAbove_30 h.1 ?_
      have h := h.2
      refine V_mmin (pc := 31) dX1_gatheredAbove_31 lX1_35 (Nat.le_of_ble_eq_true rfl) ?_
      refine V_istore_n (pc := 34) dX1_gatheredAbove_34 (by decide) ?_
      refine V_lv (lv2 := [(0, .ref (G.2.1 3)), (1, .int v1), (2, .int (if (M.1 17 (ix v3)) < v2 then (M.1 17 (ix v3)) else v2)), (3, .int v3)]) rfl ?_
      refine V_iinc (pc := 35) dX1_gatheredAbove_35 rfl (by decide) ?_
      refine V_lv (lv2 := [(0, .ref (G.2.1 3)), (1, .int v1), (2, .int (if (M.1 17 (ix v3)) < v2 then (M.1 17 (ix v3)) else v2)), (3, .int (v3 + 1))]) rfl ?_
      refine V_goto (tgt := 6) (pc := 38) dX1_gatheredAbove_38 rfl ?_
      exact V_sub h ⟨rfl, rfl, rfl, rfl, trivial⟩
theorem wp_X1_gatheredBelow {G : GV} {k : Nat} {M : Mem} {q : Int32 → Mem → Prop} {v1 : Int32} (h : V shC G mX1_gatheredBelow (k + 1) 4 [(0, .ref (G.2.1 3)), (1, .int v1), (2, .int 0), (3, .int 0)] [] M (Qi q)) : Ci shC G mX1_gatheredBelow (k + 1) [.ref (G.2.1 3), .int v1] M q := by
  unfold Ci
  show V _ _ _ _ _ [(0, .ref (G.2.1 3)), (1, .int v1)] _ _ _
  refine V_iconst (v := 0) (pc := 0) dX1_gatheredBelow_0 rfl ?_
  refine V_istore_n (pc := 1) dX1_gatheredBelow_1 (by decide) ?_
  refine V_lv (lv2 := [(0, .ref (G.2.1 3)), (1, .int v1), (2, .int 0)]) rfl ?_
  refine V_iconst (v := 0) (pc := 2) dX1_gatheredBelow_2 rfl ?_
  refine V_istore_n (pc := 3) dX1_gatheredBelow_3 (by decide) ?_
  refine V_lv (lv2 := [(0, .ref (G.2.1 3)), (1, .int v1), (2, .int 0), (3, .int 0)]) rfl ?_
  exact V_sub h ⟨rfl, rfl, rfl, rfl, trivial⟩
theorem wp_X1_gatheredBelow_4 {G : GV} {k : Nat} {M : Mem} {q : Int32 → Mem → Prop} {v1 : Int32} {v2 : Int32} {v3 : Int32} (h : (((M.1 3 3) ≤ v3 → q v2 M) ∧ (¬ (M.1 3 3) ≤ v3 → vp_in v3 10 ∧ ((v1 ≤ (M.1 17 (ix v3)) → V shC G mX1_gatheredBelow (k + 1) 4 [(0, .ref (G.2.1 3)), (1, .int v1), (2, .int v2), (3, .int (v3 + 1))] [] M (Qi q)) ∧ (¬ v1 ≤ (M.1 17 (ix v3)) → vp_in v3 10 ∧ V shC G mX1_gatheredBelow (k + 1) 4 [(0, .ref (G.2.1 3)), (1, .int v1), (2, .int (if v2 < (M.1 17 (ix v3)) then (M.1 17 (ix v3)) else v2)), (3, .int (v3 + 1))] [] M (Qi q)))))) : V shC G mX1_gatheredBelow (k + 1) 4 [(0, .ref (G.2.1 3)), (1, .int v1), (2, .int v2), (3, .int v3)] [] M (Qi q) := by
  refine V_iload_n (pc := 4) dX1_gatheredBelow_4 rfl ?_
  refine V_aload_n (pc := 5) dX1_gatheredBelow_5 rfl ?_
  refine V_getI (pc := 6) fX1_26 sC3 rfl dX1_gatheredBelow_6 ?_
  refine V_icmp_ge (tgt := 39) (pc := 9) dX1_gatheredBelow_9 rfl (fun c => ?_) (fun c => ?_)
  · have h := h.1 c
    refine V_iload_n (pc := 39) dX1_gatheredBelow_39 rfl ?_
    exact V_iret dX1_gatheredBelow_40 rfl h
  · have h := h.2 c
    refine V_aload_n (pc := 12) dX1_gatheredBelow_12 rfl ?_
    refine V_getR (pc := 13) fX1_9 sC3 rfl dX1_gatheredBelow_13 ?_
    refine V_iload_n (pc := 16) dX1_gatheredBelow_16 rfl ?_
    refine V_iald (pc := 17) sC17 dX1_gatheredBelow_17 h.1 ?_
    have h := h.2
    refine V_iload_n (pc := 18) dX1_gatheredBelow_18 rfl ?_
    refine V_icmp_ge (tgt := 33) (pc := 19) dX1_gatheredBelow_19 rfl (fun c => ?_) (fun c => ?_)
    · have h := h.1 c
      refine V_iinc (pc := 33) dX1_gatheredBelow_33 rfl (by decide) ?_
      refine V_lv (lv2 := [(0, .ref (G.2.1 3)), (1, .int v1), (2, .int v2), (3, .int (v3 + 1))]) rfl ?_
      refine V_goto (tgt := 4) (pc := 36) dX1_gatheredBelow_36 rfl ?_
      exact V_sub h ⟨rfl, rfl, rfl, rfl, trivial⟩
    · have h := h.2 c
      refine V_iload_n (pc := 22) dX1_gatheredBelow_22 rfl ?_
      refine V_aload_n (pc := 23) dX1_gatheredBelow_23 rfl ?_
      refine V_getR (pc := 24) fX1_9 sC3 rfl dX1_gatheredBelow_24 ?_
      refine V_iload_n (pc := 27) dX1_gatheredBelow_27 rfl ?_
      refine V_iald (pc := 28) sC17 dX1_gatheredBelow_28 h.1 ?_
      have h := h.2
      refine V_mmax (pc := 29) dX1_gatheredBelow_29 lX1_29 (Nat.le_of_ble_eq_true rfl) ?_
      refine V_istore_n (pc := 32) dX1_gatheredBelow_32 (by decide) ?_
      refine V_lv (lv2 := [(0, .ref (G.2.1 3)), (1, .int v1), (2, .int (if v2 < (M.1 17 (ix v3)) then (M.1 17 (ix v3)) else v2)), (3, .int v3)]) rfl ?_
      refine V_iinc (pc := 33) dX1_gatheredBelow_33 rfl (by decide) ?_
      refine V_lv (lv2 := [(0, .ref (G.2.1 3)), (1, .int v1), (2, .int (if v2 < (M.1 17 (ix v3)) then (M.1 17 (ix v3)) else v2)), (3, .int (v3 + 1))]) rfl ?_
      refine V_goto (tgt := 4) (pc := 36) dX1_gatheredBelow_36 rfl ?_
      exact V_sub h ⟨rfl, rfl, rfl, rfl, trivial⟩
