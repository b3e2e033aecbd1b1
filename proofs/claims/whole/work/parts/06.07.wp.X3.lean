theorem wp_X3_atOneDoor {G : GV} {k : Nat} {M : Mem} {q : Int32 → Mem → Prop} {v1 : Int32} {v2 : Int32} (h : vp_in v1 12 ∧ vp_in v2 12 ∧ (((M.1 30 (ix v1)) ≠ (M.1 30 (ix v2)) → q 0 M) ∧ ((M.1 30 (ix v1)) = (M.1 30 (ix v2)) → vp_in v1 12 ∧ vp_in v2 12 ∧ (((M.1 34 (ix v1)) ≠ (M.1 34 (ix v2)) → q 0 M) ∧ ((M.1 34 (ix v1)) = (M.1 34 (ix v2)) → q 1 M))))) : Ci shC G mX3_atOneDoor k [.ref (G.2.1 6), .int v1, .int v2] M q := by
  unfold Ci
  show V _ _ _ _ _ [(0, .ref (G.2.1 6)), (1, .int v1), (2, .int v2)] _ _ _
  refine V_aload_n (pc := 0) dX3_atOneDoor_0 rfl ?_
  refine V_getR (pc := 1) fX3_18 sC6 rfl dX3_atOneDoor_1 ?_
  refine V_iload_n (pc := 4) dX3_atOneDoor_4 rfl ?_
  refine V_iald (pc := 5) sC30 dX3_atOneDoor_5 h.1 ?_
  have h := h.2
  refine V_aload_n (pc := 6) dX3_atOneDoor_6 rfl ?_
  refine V_getR (pc := 7) fX3_18 sC6 rfl dX3_atOneDoor_7 ?_
  refine V_iload_n (pc := 10) dX3_atOneDoor_10 rfl ?_
  refine V_iald (pc := 11) sC30 dX3_atOneDoor_11 h.1 ?_
  have h := h.2
  refine V_icmp_ne (tgt := 34) (pc := 12) dX3_atOneDoor_12 rfl (fun c => ?_) (fun c => ?_)
  · have h := h.1 c
    refine V_iconst (v := 0) (pc := 34) dX3_atOneDoor_34 rfl ?_
    exact V_zret dX3_atOneDoor_35 rfl (Or.inl rfl) h
  · have h := h.2 c
    refine V_aload_n (pc := 15) dX3_atOneDoor_15 rfl ?_
    refine V_getR (pc := 16) fX3_30 sC6 rfl dX3_atOneDoor_16 ?_
    refine V_iload_n (pc := 19) dX3_atOneDoor_19 rfl ?_
    refine V_iald (pc := 20) sC34 dX3_atOneDoor_20 h.1 ?_
    have h := h.2
    refine V_aload_n (pc := 21) dX3_atOneDoor_21 rfl ?_
    refine V_getR (pc := 22) fX3_30 sC6 rfl dX3_atOneDoor_22 ?_
    refine V_iload_n (pc := 25) dX3_atOneDoor_25 rfl ?_
    refine V_iald (pc := 26) sC34 dX3_atOneDoor_26 h.1 ?_
    have h := h.2
    refine V_icmp_ne (tgt := 34) (pc := 27) dX3_atOneDoor_27 rfl (fun c => ?_) (fun c => ?_)
    · have h := h.1 c
      refine V_iconst (v := 0) (pc := 34) dX3_atOneDoor_34 rfl ?_
      exact V_zret dX3_atOneDoor_35 rfl (Or.inl rfl) h
    · have h := h.2 c
      refine V_iconst (v := 1) (pc := 30) dX3_atOneDoor_30 rfl ?_
      refine V_goto (tgt := 35) (pc := 31) dX3_atOneDoor_31 rfl ?_
      exact V_zret dX3_atOneDoor_35 rfl (Or.inr rfl) h
theorem wp_X3_countOfBook {G : GV} {k : Nat} {M : Mem} {q : Int32 → Mem → Prop} {v1 : Int32} (h : V shC G mX3_countOfBook k 4 [(0, .ref (G.2.1 6)), (1, .int v1), (2, .int 0), (3, .int 0)] [] M (Qi q)) : Ci shC G mX3_countOfBook k [.ref (G.2.1 6), .int v1] M q := by
  unfold Ci
  show V _ _ _ _ _ [(0, .ref (G.2.1 6)), (1, .int v1)] _ _ _
  refine V_iconst (v := 0) (pc := 0) dX3_countOfBook_0 rfl ?_
  refine V_istore_n (pc := 1) dX3_countOfBook_1 (by decide) ?_
  refine V_lv (lv2 := [(0, .ref (G.2.1 6)), (1, .int v1), (2, .int 0)]) rfl ?_
  refine V_iconst (v := 0) (pc := 2) dX3_countOfBook_2 rfl ?_
  refine V_istore_n (pc := 3) dX3_countOfBook_3 (by decide) ?_
  refine V_lv (lv2 := [(0, .ref (G.2.1 6)), (1, .int v1), (2, .int 0), (3, .int 0)]) rfl ?_
  exact V_sub h ⟨rfl, rfl, rfl, rfl, trivial⟩
theorem wp_X3_countOfBook_4 {G : GV} {k : Nat} {M : Mem} {q : Int32 → Mem → Prop} {v1 : Int32} {v2 : Int32} {v3 : Int32} (h : (((M.1 6 8) ≤ v3 → q v2 M) ∧ (¬ (M.1 6 8) ≤ v3 → vp_in v3 12 ∧ (((M.1 28 (ix v3)) ≠ v1 → V shC G mX3_countOfBook k 4 [(0, .ref (G.2.1 6)), (1, .int v1), (2, .int v2), (3, .int (v3 + 1))] [] M (Qi q)) ∧ ((M.1 28 (ix v3)) = v1 → V shC G mX3_countOfBook k 4 [(0, .ref (G.2.1 6)), (1, .int v1), (2, .int (v2 + 1)), (3, .int (v3 + 1))] [] M (Qi q)))))) : V shC G mX3_countOfBook k 4 [(0, .ref (G.2.1 6)), (1, .int v1), (2, .int v2), (3, .int v3)] [] M (Qi q) := by
  refine V_iload_n (pc := 4) dX3_countOfBook_4 rfl ?_
  refine V_aload_n (pc := 5) dX3_countOfBook_5 rfl ?_
  refine V_getI (pc := 6) fX3_40 sC6 rfl dX3_countOfBook_6 ?_
  refine V_icmp_ge (tgt := 31) (pc := 9) dX3_countOfBook_9 rfl (fun c => ?_) (fun c => ?_)
  · have h := h.1 c
    refine V_iload_n (pc := 31) dX3_countOfBook_31 rfl ?_
    exact V_iret dX3_countOfBook_32 rfl h
  · have h := h.2 c
    refine V_aload_n (pc := 12) dX3_countOfBook_12 rfl ?_
    refine V_getR (pc := 13) fX3_9 sC6 rfl dX3_countOfBook_13 ?_
    refine V_iload_n (pc := 16) dX3_countOfBook_16 rfl ?_
    refine V_iald (pc := 17) sC28 dX3_countOfBook_17 h.1 ?_
    have h := h.2
    refine V_iload_n (pc := 18) dX3_countOfBook_18 rfl ?_
    refine V_icmp_ne (tgt := 25) (pc := 19) dX3_countOfBook_19 rfl (fun c => ?_) (fun c => ?_)
    · have h := h.1 c
      refine V_iinc (pc := 25) dX3_countOfBook_25 rfl (by decide) ?_
      refine V_lv (lv2 := [(0, .ref (G.2.1 6)), (1, .int v1), (2, .int v2), (3, .int (v3 + 1))]) rfl ?_
      refine V_goto (tgt := 4) (pc := 28) dX3_countOfBook_28 rfl ?_
      exact V_sub h ⟨rfl, rfl, rfl, rfl, trivial⟩
    · have h := h.2 c
      refine V_iinc (pc := 22) dX3_countOfBook_22 rfl (by decide) ?_
      refine V_lv (lv2 := [(0, .ref (G.2.1 6)), (1, .int v1), (2, .int (v2 + 1)), (3, .int v3)]) rfl ?_
      refine V_iinc (pc := 25) dX3_countOfBook_25 rfl (by decide) ?_
      refine V_lv (lv2 := [(0, .ref (G.2.1 6)), (1, .int v1), (2, .int (v2 + 1)), (3, .int (v3 + 1))]) rfl ?_
      refine V_goto (tgt := 4) (pc := 28) dX3_countOfBook_28 rfl ?_
      exact V_sub h ⟨rfl, rfl, rfl, rfl, trivial⟩
theorem wp_X3_isHome {G : GV} {k : Nat} {M : Mem} {q : Int32 → Mem → Prop} {v1 : Int32} (h : vp_in v1 12 ∧ (((M.1 29 (ix v1)) = 0 → q 1 M) ∧ (¬ (M.1 29 (ix v1)) = 0 → vp_in v1 12 ∧ (((M.1 29 (ix v1)) = 1 → q 1 M) ∧ (¬ (M.1 29 (ix v1)) = 1 → vp_in v1 12 ∧ (((M.1 29 (ix v1)) ≠ 2 → q 0 M) ∧ ((M.1 29 (ix v1)) = 2 → q 1 M))))))) : Ci shC G mX3_isHome k [.ref (G.2.1 6), .int v1] M q := by
  unfold Ci
  show V _ _ _ _ _ [(0, .ref (G.2.1 6)), (1, .int v1)] _ _ _
  refine V_aload_n (pc := 0) dX3_isHome_0 rfl ?_
  refine V_getR (pc := 1) fX3_15 sC6 rfl dX3_isHome_1 ?_
  refine V_iload_n (pc := 4) dX3_isHome_4 rfl ?_
  refine V_iald (pc := 5) sC29 dX3_isHome_5 h.1 ?_
  have h := h.2
  refine V_if_eq (tgt := 29) (pc := 6) dX3_isHome_6 rfl (fun c => ?_) (fun c => ?_)
  · have h := h.1 c
    refine V_iconst (v := 1) (pc := 29) dX3_isHome_29 rfl ?_
    refine V_goto (tgt := 34) (pc := 30) dX3_isHome_30 rfl ?_
    exact V_zret dX3_isHome_34 rfl (Or.inr rfl) h
  · have h := h.2 c
    refine V_aload_n (pc := 9) dX3_isHome_9 rfl ?_
    refine V_getR (pc := 10) fX3_15 sC6 rfl dX3_isHome_10 ?_
    refine V_iload_n (pc := 13) dX3_isHome_13 rfl ?_
    refine V_iald (pc := 14) sC29 dX3_isHome_14 h.1 ?_
    have h := h.2
    refine V_iconst (v := 1) (pc := 15) dX3_isHome_15 rfl ?_
    refine V_icmp_eq (tgt := 29) (pc := 16) dX3_isHome_16 rfl (fun c => ?_) (fun c => ?_)
    · have h := h.1 c
      refine V_iconst (v := 1) (pc := 29) dX3_isHome_29 rfl ?_
      refine V_goto (tgt := 34) (pc := 30) dX3_isHome_30 rfl ?_
      exact V_zret dX3_isHome_34 rfl (Or.inr rfl) h
    · have h := h.2 c
      refine V_aload_n (pc := 19) dX3_isHome_19 rfl ?_
      refine V_getR (pc := 20) fX3_15 sC6 rfl dX3_isHome_20 ?_
      refine V_iload_n (pc := 23) dX3_isHome_23 rfl ?_
      refine V_iald (pc := 24) sC29 dX3_isHome_24 h.1 ?_
      have h := h.2
      refine V_iconst (v := 2) (pc := 25) dX3_isHome_25 rfl ?_
      refine V_icmp_ne (tgt := 33) (pc := 26) dX3_isHome_26 rfl (fun c => ?_) (fun c => ?_)
      · have h := h.1 c
        refine V_iconst (v := 0) (pc := 33) dX3_isHome_33 rfl ?_
        exact V_zret dX3_isHome_34 rfl (Or.inl rfl) h
      · have h := h.2 c
        refine V_iconst (v := 1) (pc := 29) dX3_isHome_29 rfl ?_
        refine V_goto (tgt := 34) (pc := 30) dX3_isHome_30 rfl ?_
        exact V_zret dX3_isHome_34 rfl (Or.inr rfl) h
theorem wp_X3_agesAgree {G : GV} {k : Nat} {M : Mem} {q : Int32 → Mem → Prop} {v1 : Int32} {v2 : Int32} (h : vp_in v1 12 ∧ (((M.1 32 (ix v1)) = (-1000000) → q 1 M) ∧ (¬ (M.1 32 (ix v1)) = (-1000000) → vp_in v2 12 ∧ (((M.1 32 (ix v2)) ≠ (-1000000) → vp_in v1 12 ∧ vp_in v2 12 ∧ vp_in v1 12 ∧ vp_in v2 12 ∧ ((2 < (if 0 ≤ (((M.1 32 (ix v1)) - (M.1 32 (ix v2))) - ((M.1 33 (ix v1)) - (M.1 33 (ix v2)))) then (((M.1 32 (ix v1)) - (M.1 32 (ix v2))) - ((M.1 33 (ix v1)) - (M.1 33 (ix v2)))) else 0 - (((M.1 32 (ix v1)) - (M.1 32 (ix v2))) - ((M.1 33 (ix v1)) - (M.1 33 (ix v2))))) → q 0 M) ∧ (¬ 2 < (if 0 ≤ (((M.1 32 (ix v1)) - (M.1 32 (ix v2))) - ((M.1 33 (ix v1)) - (M.1 33 (ix v2)))) then (((M.1 32 (ix v1)) - (M.1 32 (ix v2))) - ((M.1 33 (ix v1)) - (M.1 33 (ix v2)))) else 0 - (((M.1 32 (ix v1)) - (M.1 32 (ix v2))) - ((M.1 33 (ix v1)) - (M.1 33 (ix v2))))) → q 1 M))) ∧ ((M.1 32 (ix v2)) = (-1000000) → q 1 M))))) : Ci shC G mX3_agesAgree (k + 1) [.ref (G.2.1 6), .int v1, .int v2] M q := by
  unfold Ci
  show V _ _ _ _ _ [(0, .ref (G.2.1 6)), (1, .int v1), (2, .int v2)] _ _ _
  refine V_aload_n (pc := 0) dX3_agesAgree_0 rfl ?_
  refine V_getR (pc := 1) fX3_24 sC6 rfl dX3_agesAgree_1 ?_
  refine V_iload_n (pc := 4) dX3_agesAgree_4 rfl ?_
  refine V_iald (pc := 5) sC32 dX3_agesAgree_5 h.1 ?_
  have h := h.2
  refine V_ldc (pc := 6) dX3_agesAgree_6 nX3_74 ?_
  refine V_icmp_eq (tgt := 22) (pc := 8) dX3_agesAgree_8 rfl (fun c => ?_) (fun c => ?_)
  · have h := h.1 c
    refine V_iconst (v := 1) (pc := 22) dX3_agesAgree_22 rfl ?_
    exact V_zret dX3_agesAgree_23 rfl (Or.inr rfl) h
  · have h := h.2 c
    refine V_aload_n (pc := 11) dX3_agesAgree_11 rfl ?_
    refine V_getR (pc := 12) fX3_24 sC6 rfl dX3_agesAgree_12 ?_
    refine V_iload_n (pc := 15) dX3_agesAgree_15 rfl ?_
    refine V_iald (pc := 16) sC32 dX3_agesAgree_16 h.1 ?_
    have h := h.2
    refine V_ldc (pc := 17) dX3_agesAgree_17 nX3_74 ?_
    refine V_icmp_ne (tgt := 24) (pc := 19) dX3_agesAgree_19 rfl (fun c => ?_) (fun c => ?_)
    · have h := h.1 c
      refine V_aload_n (pc := 24) dX3_agesAgree_24 rfl ?_
      refine V_getR (pc := 25) fX3_24 sC6 rfl dX3_agesAgree_25 ?_
      refine V_iload_n (pc := 28) dX3_agesAgree_28 rfl ?_
      refine V_iald (pc := 29) sC32 dX3_agesAgree_29 h.1 ?_
      have h := h.2
      refine V_aload_n (pc := 30) dX3_agesAgree_30 rfl ?_
      refine V_getR (pc := 31) fX3_24 sC6 rfl dX3_agesAgree_31 ?_
      refine V_iload_n (pc := 34) dX3_agesAgree_34 rfl ?_
      refine V_iald (pc := 35) sC32 dX3_agesAgree_35 h.1 ?_
      have h := h.2
      refine V_isub (pc := 36) dX3_agesAgree_36 ?_
      refine V_aload_n (pc := 37) dX3_agesAgree_37 rfl ?_
      refine V_getR (pc := 38) fX3_27 sC6 rfl dX3_agesAgree_38 ?_
      refine V_iload_n (pc := 41) dX3_agesAgree_41 rfl ?_
      refine V_iald (pc := 42) sC33 dX3_agesAgree_42 h.1 ?_
      have h := h.2
      refine V_aload_n (pc := 43) dX3_agesAgree_43 rfl ?_
      refine V_getR (pc := 44) fX3_27 sC6 rfl dX3_agesAgree_44 ?_
      refine V_iload_n (pc := 47) dX3_agesAgree_47 rfl ?_
      refine V_iald (pc := 48) sC33 dX3_agesAgree_48 h.1 ?_
      have h := h.2
      refine V_isub (pc := 49) dX3_agesAgree_49 ?_
      refine V_isub (pc := 50) dX3_agesAgree_50 ?_
      refine V_mabs (pc := 51) dX3_agesAgree_51 lX3_75 (Nat.le_of_ble_eq_true rfl) ?_
      refine V_iconst (v := 2) (pc := 54) dX3_agesAgree_54 rfl ?_
      refine V_icmp_gt (tgt := 62) (pc := 55) dX3_agesAgree_55 rfl (fun c => ?_) (fun c => ?_)
      · have h := h.1 c
        refine V_iconst (v := 0) (pc := 62) dX3_agesAgree_62 rfl ?_
        exact V_zret dX3_agesAgree_63 rfl (Or.inl rfl) h
      · have h := h.2 c
        refine V_iconst (v := 1) (pc := 58) dX3_agesAgree_58 rfl ?_
        refine V_goto (tgt := 63) (pc := 59) dX3_agesAgree_59 rfl ?_
        exact V_zret dX3_agesAgree_63 rfl (Or.inr rfl) h
    · have h := h.2 c
      refine V_iconst (v := 1) (pc := 22) dX3_agesAgree_22 rfl ?_
      exact V_zret dX3_agesAgree_23 rfl (Or.inr rfl) h
theorem wp_X3_areTwoHomesAtOnce {G : GV} {k : Nat} {M : Mem} {q : Int32 → Mem → Prop} {v1 : Int32} {v2 : Int32} (h : Ci shC G mX3_isHome k [.ref (G.2.1 6), .int v1] M (fun x1 M1 => ((x1 = 0 → q 0 M1) ∧ (¬ x1 = 0 → Ci shC G mX3_isHome k [.ref (G.2.1 6), .int v2] M1 (fun x2 M2 => ((x2 = 0 → q 0 M2) ∧ (¬ x2 = 0 → vp_in v1 12 ∧ vp_in v2 12 ∧ (((M2.1 33 (ix v1)) ≠ (M2.1 33 (ix v2)) → q 0 M2) ∧ ((M2.1 33 (ix v1)) = (M2.1 33 (ix v2)) → Ci shC G mX3_atOneDoor k [.ref (G.2.1 6), .int v1, .int v2] M2 (fun x3 M3 => ((x3 ≠ 0 → q 0 M3) ∧ (x3 = 0 → q 1 M3)))))))))))) : Ci shC G mX3_areTwoHomesAtOnce (k + 1) [.ref (G.2.1 6), .int v1, .int v2] M q := by
  unfold Ci
  show V _ _ _ _ _ [(0, .ref (G.2.1 6)), (1, .int v1), (2, .int v2)] _ _ _
  refine V_aload_n (pc := 0) dX3_areTwoHomesAtOnce_0 rfl ?_
  refine V_iload_n (pc := 1) dX3_areTwoHomesAtOnce_1 rfl ?_
  refine V_callVi [.int v1] (pc := 2) kX3_isHome lX3_60 sC6 rfl rfl (Nat.le_of_ble_eq_true rfl) rfl (Nat.le_of_ble_eq_true rfl) dX3_areTwoHomesAtOnce_2 ?_
  refine Ci.mono h ?_
  intro x1 M1 h
  refine V_if_eq (tgt := 44) (pc := 5) dX3_areTwoHomesAtOnce_5 rfl (fun c => ?_) (fun c => ?_)
  · have h := h.1 c
    refine V_iconst (v := 0) (pc := 44) dX3_areTwoHomesAtOnce_44 rfl ?_
    exact V_zret dX3_areTwoHomesAtOnce_45 rfl (Or.inl rfl) h
  · have h := h.2 c
    refine V_aload_n (pc := 8) dX3_areTwoHomesAtOnce_8 rfl ?_
    refine V_iload_n (pc := 9) dX3_areTwoHomesAtOnce_9 rfl ?_
    refine V_callVi [.int v2] (pc := 10) kX3_isHome lX3_60 sC6 rfl rfl (Nat.le_of_ble_eq_true rfl) rfl (Nat.le_of_ble_eq_true rfl) dX3_areTwoHomesAtOnce_10 ?_
    refine Ci.mono h ?_
    intro x2 M2 h
    refine V_if_eq (tgt := 44) (pc := 13) dX3_areTwoHomesAtOnce_13 rfl (fun c => ?_) (fun c => ?_)
    · have h := h.1 c
      refine V_iconst (v := 0) (pc := 44) dX3_areTwoHomesAtOnce_44 rfl ?_
      exact V_zret dX3_areTwoHomesAtOnce_45 rfl (Or.inl rfl) h
    · have h := h.2 c
      refine V_aload_n (pc := 16) dX3_areTwoHomesAtOnce_16 rfl ?_
      refine V_getR (pc := 17) fX3_27 sC6 rfl dX3_areTwoHomesAtOnce_17 ?_
      refine V_iload_n (pc := 20) dX3_areTwoHomesAtOnce_20 rfl ?_
      refine V_iald (pc := 21) sC33 dX3_areTwoHomesAtOnce_21 h.1 ?_
      have h := h.2
      refine V_aload_n (pc := 22) dX3_areTwoHomesAtOnce_22 rfl ?_
      refine V_getR (pc := 23) fX3_27 sC6 rfl dX3_areTwoHomesAtOnce_23 ?_
      refine V_iload_n (pc := 26) dX3_areTwoHomesAtOnce_26 rfl ?_
      refine V_iald (pc := 27) sC33 dX3_areTwoHomesAtOnce_27 h.1 ?_
      have h := h.2
      refine V_icmp_ne (tgt := 44) (pc := 28) dX3_areTwoHomesAtOnce_28 rfl (fun c => ?_) (fun c => ?_)
      · have h := h.1 c
        refine V_iconst (v := 0) (pc := 44) dX3_areTwoHomesAtOnce_44 rfl ?_
        exact V_zret dX3_areTwoHomesAtOnce_45 rfl (Or.inl rfl) h
      · have h := h.2 c
        refine V_aload_n (pc := 31) dX3_areTwoHomesAtOnce_31 rfl ?_
        refine V_iload_n (pc := 32) dX3_areTwoHomesAtOnce_32 rfl ?_
        refine V_iload_n (pc := 33) dX3_areTwoHomesAtOnce_33 rfl ?_
        refine V_callVi [.int v1, .int v2] (pc := 34) kX3_atOneDoor lX3_81 sC6 rfl rfl (Nat.le_of_ble_eq_true rfl) rfl (Nat.le_of_ble_eq_true rfl) dX3_areTwoHomesAtOnce_34 ?_
        refine Ci.mono h ?_
        intro x3 M3 h
        refine V_if_ne (tgt := 44) (pc := 37) dX3_areTwoHomesAtOnce_37 rfl (fun c => ?_) (fun c => ?_)
        · have h := h.1 c
          refine V_iconst (v := 0) (pc := 44) dX3_areTwoHomesAtOnce_44 rfl ?_
          exact V_zret dX3_areTwoHomesAtOnce_45 rfl (Or.inl rfl) h
        · have h := h.2 c
          refine V_iconst (v := 1) (pc := 40) dX3_areTwoHomesAtOnce_40 rfl ?_
          refine V_goto (tgt := 45) (pc := 41) dX3_areTwoHomesAtOnce_41 rfl ?_
          exact V_zret dX3_areTwoHomesAtOnce_45 rfl (Or.inr rfl) h
theorem wp_X3_countHomes {G : GV} {k : Nat} {M : Mem} {q : Int32 → Mem → Prop}  (h : V shC G mX3_countHomes (k + 1) 4 [(0, .ref (G.2.1 6)), (1, .int 0), (2, .int 0)] [] M (Qi q)) : Ci shC G mX3_countHomes (k + 1) [.ref (G.2.1 6)] M q := by
  unfold Ci
  show V _ _ _ _ _ [(0, .ref (G.2.1 6))] _ _ _
  refine V_iconst (v := 0) (pc := 0) dX3_countHomes_0 rfl ?_
  refine V_istore_n (pc := 1) dX3_countHomes_1 (by decide) ?_
  refine V_lv (lv2 := [(0, .ref (G.2.1 6)), (1, .int 0)]) rfl ?_
  refine V_iconst (v := 0) (pc := 2) dX3_countHomes_2 rfl ?_
  refine V_istore_n (pc := 3) dX3_countHomes_3 (by decide) ?_
  refine V_lv (lv2 := [(0, .ref (G.2.1 6)), (1, .int 0), (2, .int 0)]) rfl ?_
  exact V_sub h ⟨rfl, rfl, rfl, trivial⟩
theorem wp_X3_countHomes_4 {G : GV} {k : Nat} {M : Mem} {q : Int32 → Mem → Prop} {v1 : Int32} {v2 : Int32} (h : (((M.1 6 8) ≤ v2 → q v1 M) ∧ (¬ (M.1 6 8) ≤ v2 → Ci shC G mX3_isHome k [.ref (G.2.1 6), .int v2] M (fun x1 M1 => ((x1 = 0 → V shC G mX3_countHomes (k + 1) 4 [(0, .ref (G.2.1 6)), (1, .int v1), (2, .int (v2 + 1))] [] M1 (Qi q)) ∧ (¬ x1 = 0 → V shC G mX3_countHomes (k + 1) 4 [(0, .ref (G.2.1 6)), (1, .int (v1 + 1)), (2, .int (v2 + 1))] [] M1 (Qi q))))))) : V shC G mX3_countHomes (k + 1) 4 [(0, .ref (G.2.1 6)), (1, .int v1), (2, .int v2)] [] M (Qi q) := by
  refine V_iload_n (pc := 4) dX3_countHomes_4 rfl ?_
  refine V_aload_n (pc := 5) dX3_countHomes_5 rfl ?_
  refine V_getI (pc := 6) fX3_40 sC6 rfl dX3_countHomes_6 ?_
  refine V_icmp_ge (tgt := 29) (pc := 9) dX3_countHomes_9 rfl (fun c => ?_) (fun c => ?_)
  · have h := h.1 c
    refine V_iload_n (pc := 29) dX3_countHomes_29 rfl ?_
    exact V_iret dX3_countHomes_30 rfl h
  · have h := h.2 c
    refine V_aload_n (pc := 12) dX3_countHomes_12 rfl ?_
    refine V_iload_n (pc := 13) dX3_countHomes_13 rfl ?_
    refine V_callVi [.int v2] (pc := 14) kX3_isHome lX3_60 sC6 rfl rfl (Nat.le_of_ble_eq_true rfl) rfl (Nat.le_of_ble_eq_true rfl) dX3_countHomes_14 ?_
    refine Ci.mono h ?_
    intro x1 M1 h
    refine V_if_eq (tgt := 23) (pc := 17) dX3_countHomes_17 rfl (fun c => ?_) (fun c => ?_)
    · have h := h.1 c
      refine V_iinc (pc := 23) dX3_countHomes_23 rfl (by decide) ?_
      refine V_lv (lv2 := [(0, .ref (G.2.1 6)), (1, .int v1), (2, .int (v2 + 1))]) rfl ?_
      refine V_goto (tgt := 4) (pc := 26) dX3_countHomes_26 rfl ?_
      exact V_sub h ⟨rfl, rfl, rfl, trivial⟩
    · have h := h.2 c
      refine V_iinc (pc := 20) dX3_countHomes_20 rfl (by decide) ?_
      refine V_lv (lv2 := [(0, .ref (G.2.1 6)), (1, .int (v1 + 1)), (2, .int v2)]) rfl ?_
      refine V_iinc (pc := 23) dX3_countHomes_23 rfl (by decide) ?_
      refine V_lv (lv2 := [(0, .ref (G.2.1 6)), (1, .int (v1 + 1)), (2, .int (v2 + 1))]) rfl ?_
      refine V_goto (tgt := 4) (pc := 26) dX3_countHomes_26 rfl ?_
      exact V_sub h ⟨rfl, rfl, rfl, trivial⟩
theorem wp_X3_isDoorRead {G : GV} {k : Nat} {M : Mem} {q : Int32 → Mem → Prop} {v1 : Int32} (h : V shC G mX3_isDoorRead (k + 1) 2 [(0, .ref (G.2.1 6)), (1, .int v1), (2, .ref (G.2.1 3)), (3, .int 0)] [] M (Qi q)) : Ci shC G mX3_isDoorRead (k + 1) [.ref (G.2.1 6), .int v1, .ref (G.2.1 3)] M q := by
  unfold Ci
  show V _ _ _ _ _ [(0, .ref (G.2.1 6)), (1, .int v1), (2, .ref (G.2.1 3))] _ _ _
  refine V_iconst (v := 0) (pc := 0) dX3_isDoorRead_0 rfl ?_
  refine V_istore_n (pc := 1) dX3_isDoorRead_1 (by decide) ?_
  refine V_lv (lv2 := [(0, .ref (G.2.1 6)), (1, .int v1), (2, .ref (G.2.1 3)), (3, .int 0)]) rfl ?_
  exact V_sub h ⟨rfl, rfl, rfl, rfl, trivial⟩
theorem wp_X3_isDoorRead_2 {G : GV} {k : Nat} {M : Mem} {q : Int32 → Mem → Prop} {v1 : Int32} {v3 : Int32} (h : (((M.1 6 8) ≤ v3 → q 0 M) ∧ (¬ (M.1 6 8) ≤ v3 → vp_in v3 12 ∧ vp_in (M.1 28 (ix v3)) 10 ∧ (((M.1 19 (ix (M.1 28 (ix v3)))) = 0 → V shC G mX3_isDoorRead (k + 1) 2 [(0, .ref (G.2.1 6)), (1, .int v1), (2, .ref (G.2.1 3)), (3, .int (v3 + 1))] [] M (Qi q)) ∧ (¬ (M.1 19 (ix (M.1 28 (ix v3)))) = 0 → Ci shC G mX3_atOneDoor k [.ref (G.2.1 6), .int v1, .int v3] M (fun x1 M1 => ((x1 = 0 → V shC G mX3_isDoorRead (k + 1) 2 [(0, .ref (G.2.1 6)), (1, .int v1), (2, .ref (G.2.1 3)), (3, .int (v3 + 1))] [] M1 (Qi q)) ∧ (¬ x1 = 0 → q 1 M1)))))))) : V shC G mX3_isDoorRead (k + 1) 2 [(0, .ref (G.2.1 6)), (1, .int v1), (2, .ref (G.2.1 3)), (3, .int v3)] [] M (Qi q) := by
  refine V_iload_n (pc := 2) dX3_isDoorRead_2 rfl ?_
  refine V_aload_n (pc := 3) dX3_isDoorRead_3 rfl ?_
  refine V_getI (pc := 4) fX3_40 sC6 rfl dX3_isDoorRead_4 ?_
  refine V_icmp_ge (tgt := 41) (pc := 7) dX3_isDoorRead_7 rfl (fun c => ?_) (fun c => ?_)
  · have h := h.1 c
    refine V_iconst (v := 0) (pc := 41) dX3_isDoorRead_41 rfl ?_
    exact V_zret dX3_isDoorRead_42 rfl (Or.inl rfl) h
  · have h := h.2 c
    refine V_aload_n (pc := 10) dX3_isDoorRead_10 rfl ?_
    refine V_getR (pc := 11) fX3_99 sC3 rfl dX3_isDoorRead_11 ?_
    refine V_aload_n (pc := 14) dX3_isDoorRead_14 rfl ?_
    refine V_getR (pc := 15) fX3_9 sC6 rfl dX3_isDoorRead_15 ?_
    refine V_iload_n (pc := 18) dX3_isDoorRead_18 rfl ?_
    refine V_iald (pc := 19) sC28 dX3_isDoorRead_19 h.1 ?_
    have h := h.2
    refine V_zald (pc := 20) sC19 dX3_isDoorRead_20 h.1 ?_
    have h := h.2
    refine V_if_eq (tgt := 35) (pc := 21) dX3_isDoorRead_21 rfl (fun c => ?_) (fun c => ?_)
    · have h := h.1 c
      refine V_iinc (pc := 35) dX3_isDoorRead_35 rfl (by decide) ?_
      refine V_lv (lv2 := [(0, .ref (G.2.1 6)), (1, .int v1), (2, .ref (G.2.1 3)), (3, .int (v3 + 1))]) rfl ?_
      refine V_goto (tgt := 2) (pc := 38) dX3_isDoorRead_38 rfl ?_
      exact V_sub h ⟨rfl, rfl, rfl, rfl, trivial⟩
    · have h := h.2 c
      refine V_aload_n (pc := 24) dX3_isDoorRead_24 rfl ?_
      refine V_iload_n (pc := 25) dX3_isDoorRead_25 rfl ?_
      refine V_iload_n (pc := 26) dX3_isDoorRead_26 rfl ?_
      refine V_callVi [.int v1, .int v3] (pc := 27) kX3_atOneDoor lX3_81 sC6 rfl rfl (Nat.le_of_ble_eq_true rfl) rfl (Nat.le_of_ble_eq_true rfl) dX3_isDoorRead_27 ?_
      refine Ci.mono h ?_
      intro x1 M1 h
      refine V_if_eq (tgt := 35) (pc := 30) dX3_isDoorRead_30 rfl (fun c => ?_) (fun c => ?_)
      · have h := h.1 c
        refine V_iinc (pc := 35) dX3_isDoorRead_35 rfl (by decide) ?_
        refine V_lv (lv2 := [(0, .ref (G.2.1 6)), (1, .int v1), (2, .ref (G.2.1 3)), (3, .int (v3 + 1))]) rfl ?_
        refine V_goto (tgt := 2) (pc := 38) dX3_isDoorRead_38 rfl ?_
        exact V_sub h ⟨rfl, rfl, rfl, rfl, trivial⟩
      · have h := h.2 c
        refine V_iconst (v := 1) (pc := 33) dX3_isDoorRead_33 rfl ?_
        exact V_zret dX3_isDoorRead_34 rfl (Or.inr rfl) h
theorem wp_X3_isFoundIn {G : GV} {k : Nat} {M : Mem} {q : Int32 → Mem → Prop} {v1 : Int32} {v2 : Int32} (h : V shC G mX3_isFoundIn (k + 1) 2 [(0, .ref (G.2.1 6)), (1, .int v1), (2, .int v2), (3, .int 0)] [] M (Qi q)) : Ci shC G mX3_isFoundIn (k + 1) [.ref (G.2.1 6), .int v1, .int v2] M q := by
  unfold Ci
  show V _ _ _ _ _ [(0, .ref (G.2.1 6)), (1, .int v1), (2, .int v2)] _ _ _
  refine V_iconst (v := 0) (pc := 0) dX3_isFoundIn_0 rfl ?_
  refine V_istore_n (pc := 1) dX3_isFoundIn_1 (by decide) ?_
  refine V_lv (lv2 := [(0, .ref (G.2.1 6)), (1, .int v1), (2, .int v2), (3, .int 0)]) rfl ?_
  exact V_sub h ⟨rfl, rfl, rfl, rfl, trivial⟩
theorem wp_X3_isFoundIn_2 {G : GV} {k : Nat} {M : Mem} {q : Int32 → Mem → Prop} {v1 : Int32} {v2 : Int32} {v3 : Int32} (h : (((M.1 6 8) ≤ v3 → q 0 M) ∧ (¬ (M.1 6 8) ≤ v3 → vp_in v3 12 ∧ (((M.1 28 (ix v3)) ≠ v2 → V shC G mX3_isFoundIn (k + 1) 2 [(0, .ref (G.2.1 6)), (1, .int v1), (2, .int v2), (3, .int (v3 + 1))] [] M (Qi q)) ∧ ((M.1 28 (ix v3)) = v2 → Ci shC G mX5_areLike k [.ref (G.2.1 7), .int v1, .int v3] M (fun x1 M1 => ((x1 = 0 → V shC G mX3_isFoundIn (k + 1) 2 [(0, .ref (G.2.1 6)), (1, .int v1), (2, .int v2), (3, .int (v3 + 1))] [] M1 (Qi q)) ∧ (¬ x1 = 0 → Ci shC G mX3_atOneDoor k [.ref (G.2.1 6), .int v1, .int v3] M1 (fun x2 M2 => ((x2 = 0 → V shC G mX3_isFoundIn (k + 1) 2 [(0, .ref (G.2.1 6)), (1, .int v1), (2, .int v2), (3, .int (v3 + 1))] [] M2 (Qi q)) ∧ (¬ x2 = 0 → q 1 M2))))))))))) : V shC G mX3_isFoundIn (k + 1) 2 [(0, .ref (G.2.1 6)), (1, .int v1), (2, .int v2), (3, .int v3)] [] M (Qi q) := by
  refine V_iload_n (pc := 2) dX3_isFoundIn_2 rfl ?_
  refine V_aload_n (pc := 3) dX3_isFoundIn_3 rfl ?_
  refine V_getI (pc := 4) fX3_40 sC6 rfl dX3_isFoundIn_4 ?_
  refine V_icmp_ge (tgt := 49) (pc := 7) dX3_isFoundIn_7 rfl (fun c => ?_) (fun c => ?_)
  · have h := h.1 c
    refine V_iconst (v := 0) (pc := 49) dX3_isFoundIn_49 rfl ?_
    exact V_zret dX3_isFoundIn_50 rfl (Or.inl rfl) h
  · have h := h.2 c
    refine V_aload_n (pc := 10) dX3_isFoundIn_10 rfl ?_
    refine V_getR (pc := 11) fX3_9 sC6 rfl dX3_isFoundIn_11 ?_
    refine V_iload_n (pc := 14) dX3_isFoundIn_14 rfl ?_
    refine V_iald (pc := 15) sC28 dX3_isFoundIn_15 h.1 ?_
    have h := h.2
    refine V_iload_n (pc := 16) dX3_isFoundIn_16 rfl ?_
    refine V_icmp_ne (tgt := 43) (pc := 17) dX3_isFoundIn_17 rfl (fun c => ?_) (fun c => ?_)
    · have h := h.1 c
      refine V_iinc (pc := 43) dX3_isFoundIn_43 rfl (by decide) ?_
      refine V_lv (lv2 := [(0, .ref (G.2.1 6)), (1, .int v1), (2, .int v2), (3, .int (v3 + 1))]) rfl ?_
      refine V_goto (tgt := 2) (pc := 46) dX3_isFoundIn_46 rfl ?_
      exact V_sub h ⟨rfl, rfl, rfl, rfl, trivial⟩
    · have h := h.2 c
      refine V_aload_n (pc := 20) dX3_isFoundIn_20 rfl ?_
      refine V_getR (pc := 21) fX3_36 sC6 rfl dX3_isFoundIn_21 ?_
      refine V_iload_n (pc := 24) dX3_isFoundIn_24 rfl ?_
      refine V_iload_n (pc := 25) dX3_isFoundIn_25 rfl ?_
      refine V_callVi [.int v1, .int v3] (pc := 26) kX5_areLike lX3_64 sC7 rfl rfl (Nat.le_of_ble_eq_true rfl) rfl (Nat.le_of_ble_eq_true rfl) dX3_isFoundIn_26 ?_
      refine Ci.mono h ?_
      intro x1 M1 h
      refine V_if_eq (tgt := 43) (pc := 29) dX3_isFoundIn_29 rfl (fun c => ?_) (fun c => ?_)
      · have h := h.1 c
        refine V_iinc (pc := 43) dX3_isFoundIn_43 rfl (by decide) ?_
        refine V_lv (lv2 := [(0, .ref (G.2.1 6)), (1, .int v1), (2, .int v2), (3, .int (v3 + 1))]) rfl ?_
        refine V_goto (tgt := 2) (pc := 46) dX3_isFoundIn_46 rfl ?_
        exact V_sub h ⟨rfl, rfl, rfl, rfl, trivial⟩
      · have h := h.2 c
        refine V_aload_n (pc := 32) dX3_isFoundIn_32 rfl ?_
        refine V_iload_n (pc := 33) dX3_isFoundIn_33 rfl ?_
        refine V_iload_n (pc := 34) dX3_isFoundIn_34 rfl ?_
        refine V_callVi [.int v1, .int v3] (pc := 35) kX3_atOneDoor lX3_81 sC6 rfl rfl (Nat.le_of_ble_eq_true rfl) rfl (Nat.le_of_ble_eq_true rfl) dX3_isFoundIn_35 ?_
        refine Ci.mono h ?_
        intro x2 M2 h
        refine V_if_eq (tgt := 43) (pc := 38) dX3_isFoundIn_38 rfl (fun c => ?_) (fun c => ?_)
        · have h := h.1 c
          refine V_iinc (pc := 43) dX3_isFoundIn_43 rfl (by decide) ?_
          refine V_lv (lv2 := [(0, .ref (G.2.1 6)), (1, .int v1), (2, .int v2), (3, .int (v3 + 1))]) rfl ?_
          refine V_goto (tgt := 2) (pc := 46) dX3_isFoundIn_46 rfl ?_
          exact V_sub h ⟨rfl, rfl, rfl, rfl, trivial⟩
        · have h := h.2 c
          refine V_iconst (v := 1) (pc := 41) dX3_isFoundIn_41 rfl ?_
          exact V_zret dX3_isFoundIn_42 rfl (Or.inr rfl) h
theorem wp_X3_isOfKind {G : GV} {k : Nat} {M : Mem} {q : Int32 → Mem → Prop} {v1 : Int32} {v2 : Int32} (h : ((v2 = 0 → q 1 M) ∧ (¬ v2 = 0 → vp_in v1 12 ∧ ((v2 = ((M.1 29 (ix v1)) + 1) → q 1 M) ∧ (¬ v2 = ((M.1 29 (ix v1)) + 1) → ((v2 ≠ 1 → q 0 M) ∧ (v2 = 1 → Ci shC G mX3_isHome k [.ref (G.2.1 6), .int v1] M (fun x1 M1 => ((x1 = 0 → q 0 M1) ∧ (¬ x1 = 0 → q 1 M1)))))))))) : Ci shC G mX3_isOfKind (k + 1) [.ref (G.2.1 6), .int v1, .int v2] M q := by
  unfold Ci
  show V _ _ _ _ _ [(0, .ref (G.2.1 6)), (1, .int v1), (2, .int v2)] _ _ _
  refine V_iload_n (pc := 0) dX3_isOfKind_0 rfl ?_
  refine V_if_eq (tgt := 29) (pc := 1) dX3_isOfKind_1 rfl (fun c => ?_) (fun c => ?_)
  · have h := h.1 c
    refine V_iconst (v := 1) (pc := 29) dX3_isOfKind_29 rfl ?_
    refine V_goto (tgt := 34) (pc := 30) dX3_isOfKind_30 rfl ?_
    exact V_zret dX3_isOfKind_34 rfl (Or.inr rfl) h
  · have h := h.2 c
    refine V_iload_n (pc := 4) dX3_isOfKind_4 rfl ?_
    refine V_aload_n (pc := 5) dX3_isOfKind_5 rfl ?_
    refine V_getR (pc := 6) fX3_15 sC6 rfl dX3_isOfKind_6 ?_
    refine V_iload_n (pc := 9) dX3_isOfKind_9 rfl ?_
    refine V_iald (pc := 10) sC29 dX3_isOfKind_10 h.1 ?_
    have h := h.2
    refine V_iconst (v := 1) (pc := 11) dX3_isOfKind_11 rfl ?_
    refine V_iadd (pc := 12) dX3_isOfKind_12 ?_
    refine V_icmp_eq (tgt := 29) (pc := 13) dX3_isOfKind_13 rfl (fun c => ?_) (fun c => ?_)
    · have h := h.1 c
      refine V_iconst (v := 1) (pc := 29) dX3_isOfKind_29 rfl ?_
      refine V_goto (tgt := 34) (pc := 30) dX3_isOfKind_30 rfl ?_
      exact V_zret dX3_isOfKind_34 rfl (Or.inr rfl) h
    · have h := h.2 c
      refine V_iload_n (pc := 16) dX3_isOfKind_16 rfl ?_
      refine V_iconst (v := 1) (pc := 17) dX3_isOfKind_17 rfl ?_
      refine V_icmp_ne (tgt := 33) (pc := 18) dX3_isOfKind_18 rfl (fun c => ?_) (fun c => ?_)
      · have h := h.1 c
        refine V_iconst (v := 0) (pc := 33) dX3_isOfKind_33 rfl ?_
        exact V_zret dX3_isOfKind_34 rfl (Or.inl rfl) h
      · have h := h.2 c
        refine V_aload_n (pc := 21) dX3_isOfKind_21 rfl ?_
        refine V_iload_n (pc := 22) dX3_isOfKind_22 rfl ?_
        refine V_callVi [.int v1] (pc := 23) kX3_isHome lX3_60 sC6 rfl rfl (Nat.le_of_ble_eq_true rfl) rfl (Nat.le_of_ble_eq_true rfl) dX3_isOfKind_23 ?_
        refine Ci.mono h ?_
        intro x1 M1 h
        refine V_if_eq (tgt := 33) (pc := 26) dX3_isOfKind_26 rfl (fun c => ?_) (fun c => ?_)
        · have h := h.1 c
          refine V_iconst (v := 0) (pc := 33) dX3_isOfKind_33 rfl ?_
          exact V_zret dX3_isOfKind_34 rfl (Or.inl rfl) h
        · have h := h.2 c
          refine V_iconst (v := 1) (pc := 29) dX3_isOfKind_29 rfl ?_
          refine V_goto (tgt := 34) (pc := 30) dX3_isOfKind_30 rfl ?_
          exact V_zret dX3_isOfKind_34 rfl (Or.inr rfl) h
theorem wp_X3_standsWith {G : GV} {k : Nat} {M : Mem} {q : Int32 → Mem → Prop} {v1 : Int32} {v2 : Int32} {v3 : Int32} (h : ((((v2 >>> (v1 &&& 31)) &&& 1) ≠ 1 → q 0 M) ∧ (((v2 >>> (v1 &&& 31)) &&& 1) = 1 → vp_in v1 12 ∧ (((M.1 29 (ix v1)) = 4 → q 0 M) ∧ (¬ (M.1 29 (ix v1)) = 4 → Ci shC G mX3_atOneDoor k [.ref (G.2.1 6), .int v1, .int v3] M (fun x1 M1 => ((x1 = 0 → q 0 M1) ∧ (¬ x1 = 0 → q 1 M1)))))))) : Ci shC G mX3_standsWith (k + 1) [.ref (G.2.1 6), .int v1, .int v2, .int v3] M q := by
  unfold Ci
  show V _ _ _ _ _ [(0, .ref (G.2.1 6)), (1, .int v1), (2, .int v2), (3, .int v3)] _ _ _
  refine V_iload_n (pc := 0) dX3_standsWith_0 rfl ?_
  refine V_iload_n (pc := 1) dX3_standsWith_1 rfl ?_
  refine V_ishr (pc := 2) dX3_standsWith_2 ?_
  refine V_iconst (v := 1) (pc := 3) dX3_standsWith_3 rfl ?_
  refine V_iand (pc := 4) dX3_standsWith_4 ?_
  refine V_iconst (v := 1) (pc := 5) dX3_standsWith_5 rfl ?_
  refine V_icmp_ne (tgt := 32) (pc := 6) dX3_standsWith_6 rfl (fun c => ?_) (fun c => ?_)
  · have h := h.1 c
    refine V_iconst (v := 0) (pc := 32) dX3_standsWith_32 rfl ?_
    exact V_zret dX3_standsWith_33 rfl (Or.inl rfl) h
  · have h := h.2 c
    refine V_aload_n (pc := 9) dX3_standsWith_9 rfl ?_
    refine V_getR (pc := 10) fX3_15 sC6 rfl dX3_standsWith_10 ?_
    refine V_iload_n (pc := 13) dX3_standsWith_13 rfl ?_
    refine V_iald (pc := 14) sC29 dX3_standsWith_14 h.1 ?_
    have h := h.2
    refine V_iconst (v := 4) (pc := 15) dX3_standsWith_15 rfl ?_
    refine V_icmp_eq (tgt := 32) (pc := 16) dX3_standsWith_16 rfl (fun c => ?_) (fun c => ?_)
    · have h := h.1 c
      refine V_iconst (v := 0) (pc := 32) dX3_standsWith_32 rfl ?_
      exact V_zret dX3_standsWith_33 rfl (Or.inl rfl) h
    · have h := h.2 c
      refine V_aload_n (pc := 19) dX3_standsWith_19 rfl ?_
      refine V_iload_n (pc := 20) dX3_standsWith_20 rfl ?_
      refine V_iload_n (pc := 21) dX3_standsWith_21 rfl ?_
      refine V_callVi [.int v1, .int v3] (pc := 22) kX3_atOneDoor lX3_81 sC6 rfl rfl (Nat.le_of_ble_eq_true rfl) rfl (Nat.le_of_ble_eq_true rfl) dX3_standsWith_22 ?_
      refine Ci.mono h ?_
      intro x1 M1 h
      refine V_if_eq (tgt := 32) (pc := 25) dX3_standsWith_25 rfl (fun c => ?_) (fun c => ?_)
      · have h := h.1 c
        refine V_iconst (v := 0) (pc := 32) dX3_standsWith_32 rfl ?_
        exact V_zret dX3_standsWith_33 rfl (Or.inl rfl) h
      · have h := h.2 c
        refine V_iconst (v := 1) (pc := 28) dX3_standsWith_28 rfl ?_
        refine V_goto (tgt := 33) (pc := 29) dX3_standsWith_29 rfl ?_
        exact V_zret dX3_standsWith_33 rfl (Or.inr rfl) h
theorem wp_X3_countInBoth {G : GV} {k : Nat} {M : Mem} {q : Int32 → Mem → Prop} {v1 : Int32} {v2 : Int32} (h : V shC G mX3_countInBoth (k + 2) 5 [(0, .ref (G.2.1 6)), (1, .int v1), (2, .int v2), (3, .int 0), (4, .int 0)] [] M (Qi q)) : Ci shC G mX3_countInBoth (k + 2) [.ref (G.2.1 6), .int v1, .int v2] M q := by
  unfold Ci
  show V _ _ _ _ _ [(0, .ref (G.2.1 6)), (1, .int v1), (2, .int v2)] _ _ _
  refine V_iconst (v := 0) (pc := 0) dX3_countInBoth_0 rfl ?_
  refine V_istore_n (pc := 1) dX3_countInBoth_1 (by decide) ?_
  refine V_lv (lv2 := [(0, .ref (G.2.1 6)), (1, .int v1), (2, .int v2), (3, .int 0)]) rfl ?_
  refine V_iconst (v := 0) (pc := 2) dX3_countInBoth_2 rfl ?_
  refine V_istore (pc := 3) dX3_countInBoth_3 (by decide) ?_
  refine V_lv (lv2 := [(0, .ref (G.2.1 6)), (1, .int v1), (2, .int v2), (3, .int 0), (4, .int 0)]) rfl ?_
  exact V_sub h ⟨rfl, rfl, rfl, rfl, rfl, trivial⟩
theorem wp_X3_countInBoth_5 {G : GV} {k : Nat} {M : Mem} {q : Int32 → Mem → Prop} {v1 : Int32} {v2 : Int32} {v3 : Int32} {v4 : Int32} (h : (((M.1 6 8) ≤ v4 → q v3 M) ∧ (¬ (M.1 6 8) ≤ v4 → vp_in v4 12 ∧ (((M.1 28 (ix v4)) ≠ v1 → V shC G mX3_countInBoth (k + 2) 5 [(0, .ref (G.2.1 6)), (1, .int v1), (2, .int v2), (3, .int v3), (4, .int (v4 + 1))] [] M (Qi q)) ∧ ((M.1 28 (ix v4)) = v1 → Ci shC G mX3_isFoundIn (k + 1) [.ref (G.2.1 6), .int v4, .int v2] M (fun x1 M1 => ((x1 = 0 → V shC G mX3_countInBoth (k + 2) 5 [(0, .ref (G.2.1 6)), (1, .int v1), (2, .int v2), (3, .int v3), (4, .int (v4 + 1))] [] M1 (Qi q)) ∧ (¬ x1 = 0 → V shC G mX3_countInBoth (k + 2) 5 [(0, .ref (G.2.1 6)), (1, .int v1), (2, .int v2), (3, .int (v3 + 1)), (4, .int (v4 + 1))] [] M1 (Qi q))))))))) : V shC G mX3_countInBoth (k + 2) 5 [(0, .ref (G.2.1 6)), (1, .int v1), (2, .int v2), (3, .int v3), (4, .int v4)] [] M (Qi q) := by
  refine V_iload (pc := 5) dX3_countInBoth_5 rfl ?_
  refine V_aload_n (pc := 7) dX3_countInBoth_7 rfl ?_
  refine V_getI (pc := 8) fX3_40 sC6 rfl dX3_countInBoth_8 ?_
  refine V_icmp_ge (tgt := 44) (pc := 11) dX3_countInBoth_11 rfl (fun c => ?_) (fun c => ?_)
  · have h := h.1 c
    refine V_iload_n (pc := 44) dX3_countInBoth_44 rfl ?_
    exact V_iret dX3_countInBoth_45 rfl h
  · have h := h.2 c
    refine V_aload_n (pc := 14) dX3_countInBoth_14 rfl ?_
    refine V_getR (pc := 15) fX3_9 sC6 rfl dX3_countInBoth_15 ?_
    refine V_iload (pc := 18) dX3_countInBoth_18 rfl ?_
    refine V_iald (pc := 20) sC28 dX3_countInBoth_20 h.1 ?_
    have h := h.2
    refine V_iload_n (pc := 21) dX3_countInBoth_21 rfl ?_
    refine V_icmp_ne (tgt := 38) (pc := 22) dX3_countInBoth_22 rfl (fun c => ?_) (fun c => ?_)
    · have h := h.1 c
      refine V_iinc (pc := 38) dX3_countInBoth_38 rfl (by decide) ?_
      refine V_lv (lv2 := [(0, .ref (G.2.1 6)), (1, .int v1), (2, .int v2), (3, .int v3), (4, .int (v4 + 1))]) rfl ?_
      refine V_goto (tgt := 5) (pc := 41) dX3_countInBoth_41 rfl ?_
      exact V_sub h ⟨rfl, rfl, rfl, rfl, rfl, trivial⟩
    · have h := h.2 c
      refine V_aload_n (pc := 25) dX3_countInBoth_25 rfl ?_
      refine V_iload (pc := 26) dX3_countInBoth_26 rfl ?_
      refine V_iload_n (pc := 28) dX3_countInBoth_28 rfl ?_
      refine V_callVi [.int v4, .int v2] (pc := 29) kX3_isFoundIn lX3_92 sC6 rfl rfl (Nat.le_of_ble_eq_true rfl) rfl (Nat.le_of_ble_eq_true rfl) dX3_countInBoth_29 ?_
      refine Ci.mono h ?_
      intro x1 M1 h
      refine V_if_eq (tgt := 38) (pc := 32) dX3_countInBoth_32 rfl (fun c => ?_) (fun c => ?_)
      · have h := h.1 c
        refine V_iinc (pc := 38) dX3_countInBoth_38 rfl (by decide) ?_
        refine V_lv (lv2 := [(0, .ref (G.2.1 6)), (1, .int v1), (2, .int v2), (3, .int v3), (4, .int (v4 + 1))]) rfl ?_
        refine V_goto (tgt := 5) (pc := 41) dX3_countInBoth_41 rfl ?_
        exact V_sub h ⟨rfl, rfl, rfl, rfl, rfl, trivial⟩
      · have h := h.2 c
        refine V_iinc (pc := 35) dX3_countInBoth_35 rfl (by decide) ?_
        refine V_lv (lv2 := [(0, .ref (G.2.1 6)), (1, .int v1), (2, .int v2), (3, .int (v3 + 1)), (4, .int v4)]) rfl ?_
        refine V_iinc (pc := 38) dX3_countInBoth_38 rfl (by decide) ?_
        refine V_lv (lv2 := [(0, .ref (G.2.1 6)), (1, .int v1), (2, .int v2), (3, .int (v3 + 1)), (4, .int (v4 + 1))]) rfl ?_
        refine V_goto (tgt := 5) (pc := 41) dX3_countInBoth_41 rfl ?_
        exact V_sub h ⟨rfl, rfl, rfl, rfl, rfl, trivial⟩
theorem wp_X3_countUnseen {G : GV} {k : Nat} {M : Mem} {q : Int32 → Mem → Prop} {v1 : Int32} (h : V shC G mX3_countUnseen (k + 2) 5 [(0, .ref (G.2.1 6)), (1, .int v1), (2, .ref (G.2.1 3)), (3, .int 0), (4, .int 0)] [] M (Qi q)) : Ci shC G mX3_countUnseen (k + 2) [.ref (G.2.1 6), .int v1, .ref (G.2.1 3)] M q := by
  unfold Ci
  show V _ _ _ _ _ [(0, .ref (G.2.1 6)), (1, .int v1), (2, .ref (G.2.1 3))] _ _ _
  refine V_iconst (v := 0) (pc := 0) dX3_countUnseen_0 rfl ?_
  refine V_istore_n (pc := 1) dX3_countUnseen_1 (by decide) ?_
  refine V_lv (lv2 := [(0, .ref (G.2.1 6)), (1, .int v1), (2, .ref (G.2.1 3)), (3, .int 0)]) rfl ?_
  refine V_iconst (v := 0) (pc := 2) dX3_countUnseen_2 rfl ?_
  refine V_istore (pc := 3) dX3_countUnseen_3 (by decide) ?_
  refine V_lv (lv2 := [(0, .ref (G.2.1 6)), (1, .int v1), (2, .ref (G.2.1 3)), (3, .int 0), (4, .int 0)]) rfl ?_
  exact V_sub h ⟨rfl, rfl, rfl, rfl, rfl, trivial⟩
theorem wp_X3_countUnseen_5 {G : GV} {k : Nat} {M : Mem} {q : Int32 → Mem → Prop} {v1 : Int32} {v3 : Int32} {v4 : Int32} (h : (((M.1 6 8) ≤ v4 → q v3 M) ∧ (¬ (M.1 6 8) ≤ v4 → vp_in v4 12 ∧ (((M.1 28 (ix v4)) ≠ v1 → V shC G mX3_countUnseen (k + 2) 5 [(0, .ref (G.2.1 6)), (1, .int v1), (2, .ref (G.2.1 3)), (3, .int v3), (4, .int (v4 + 1))] [] M (Qi q)) ∧ ((M.1 28 (ix v4)) = v1 → Ci shC G mX3_isDoorRead (k + 1) [.ref (G.2.1 6), .int v4, .ref (G.2.1 3)] M (fun x1 M1 => ((x1 ≠ 0 → V shC G mX3_countUnseen (k + 2) 5 [(0, .ref (G.2.1 6)), (1, .int v1), (2, .ref (G.2.1 3)), (3, .int v3), (4, .int (v4 + 1))] [] M1 (Qi q)) ∧ (x1 = 0 → V shC G mX3_countUnseen (k + 2) 5 [(0, .ref (G.2.1 6)), (1, .int v1), (2, .ref (G.2.1 3)), (3, .int (v3 + 1)), (4, .int (v4 + 1))] [] M1 (Qi q))))))))) : V shC G mX3_countUnseen (k + 2) 5 [(0, .ref (G.2.1 6)), (1, .int v1), (2, .ref (G.2.1 3)), (3, .int v3), (4, .int v4)] [] M (Qi q) := by
  refine V_iload (pc := 5) dX3_countUnseen_5 rfl ?_
  refine V_aload_n (pc := 7) dX3_countUnseen_7 rfl ?_
  refine V_getI (pc := 8) fX3_40 sC6 rfl dX3_countUnseen_8 ?_
  refine V_icmp_ge (tgt := 44) (pc := 11) dX3_countUnseen_11 rfl (fun c => ?_) (fun c => ?_)
  · have h := h.1 c
    refine V_iload_n (pc := 44) dX3_countUnseen_44 rfl ?_
    exact V_iret dX3_countUnseen_45 rfl h
  · have h := h.2 c
    refine V_aload_n (pc := 14) dX3_countUnseen_14 rfl ?_
    refine V_getR (pc := 15) fX3_9 sC6 rfl dX3_countUnseen_15 ?_
    refine V_iload (pc := 18) dX3_countUnseen_18 rfl ?_
    refine V_iald (pc := 20) sC28 dX3_countUnseen_20 h.1 ?_
    have h := h.2
    refine V_iload_n (pc := 21) dX3_countUnseen_21 rfl ?_
    refine V_icmp_ne (tgt := 38) (pc := 22) dX3_countUnseen_22 rfl (fun c => ?_) (fun c => ?_)
    · have h := h.1 c
      refine V_iinc (pc := 38) dX3_countUnseen_38 rfl (by decide) ?_
      refine V_lv (lv2 := [(0, .ref (G.2.1 6)), (1, .int v1), (2, .ref (G.2.1 3)), (3, .int v3), (4, .int (v4 + 1))]) rfl ?_
      refine V_goto (tgt := 5) (pc := 41) dX3_countUnseen_41 rfl ?_
      exact V_sub h ⟨rfl, rfl, rfl, rfl, rfl, trivial⟩
    · have h := h.2 c
      refine V_aload_n (pc := 25) dX3_countUnseen_25 rfl ?_
      refine V_iload (pc := 26) dX3_countUnseen_26 rfl ?_
      refine V_aload_n (pc := 28) dX3_countUnseen_28 rfl ?_
      refine V_callVi [.int v4, .ref (G.2.1 3)] (pc := 29) kX3_isDoorRead lX3_95 sC6 rfl rfl (Nat.le_of_ble_eq_true rfl) rfl (Nat.le_of_ble_eq_true rfl) dX3_countUnseen_29 ?_
      refine Ci.mono h ?_
      intro x1 M1 h
      refine V_if_ne (tgt := 38) (pc := 32) dX3_countUnseen_32 rfl (fun c => ?_) (fun c => ?_)
      · have h := h.1 c
        refine V_iinc (pc := 38) dX3_countUnseen_38 rfl (by decide) ?_
        refine V_lv (lv2 := [(0, .ref (G.2.1 6)), (1, .int v1), (2, .ref (G.2.1 3)), (3, .int v3), (4, .int (v4 + 1))]) rfl ?_
        refine V_goto (tgt := 5) (pc := 41) dX3_countUnseen_41 rfl ?_
        exact V_sub h ⟨rfl, rfl, rfl, rfl, rfl, trivial⟩
      · have h := h.2 c
        refine V_iinc (pc := 35) dX3_countUnseen_35 rfl (by decide) ?_
        refine V_lv (lv2 := [(0, .ref (G.2.1 6)), (1, .int v1), (2, .ref (G.2.1 3)), (3, .int (v3 + 1)), (4, .int v4)]) rfl ?_
        refine V_iinc (pc := 38) dX3_countUnseen_38 rfl (by decide) ?_
        refine V_lv (lv2 := [(0, .ref (G.2.1 6)), (1, .int v1), (2, .ref (G.2.1 3)), (3, .int (v3 + 1)), (4, .int (v4 + 1))]) rfl ?_
        refine V_goto (tgt := 5) (pc := 41) dX3_countUnseen_41 rfl ?_
        exact V_sub h ⟨rfl, rfl, rfl, rfl, rfl, trivial⟩
theorem wp_X3_firstStanding {G : GV} {k : Nat} {M : Mem} {q : Int32 → Mem → Prop} {v1 : Int32} {v2 : Int32} (h : V shC G mX3_firstStanding (k + 2) 6 [(0, .ref (G.2.1 6)), (1, .int v1), (2, .int v2), (3, .int (-1000000)), (4, .int 0)] [] M (Qi q)) : Ci shC G mX3_firstStanding (k + 2) [.ref (G.2.1 6), .int v1, .int v2] M q := by
  unfold Ci
  show V _ _ _ _ _ [(0, .ref (G.2.1 6)), (1, .int v1), (2, .int v2)] _ _ _
  refine V_ldc (pc := 0) dX3_firstStanding_0 nX3_74 ?_
  refine V_istore_n (pc := 2) dX3_firstStanding_2 (by decide) ?_
  refine V_lv (lv2 := [(0, .ref (G.2.1 6)), (1, .int v1), (2, .int v2), (3, .int (-1000000))]) rfl ?_
  refine V_iconst (v := 0) (pc := 3) dX3_firstStanding_3 rfl ?_
  refine V_istore (pc := 4) dX3_firstStanding_4 (by decide) ?_
  refine V_lv (lv2 := [(0, .ref (G.2.1 6)), (1, .int v1), (2, .int v2), (3, .int (-1000000)), (4, .int 0)]) rfl ?_
  exact V_sub h ⟨rfl, rfl, rfl, rfl, rfl, trivial⟩
theorem wp_X3_firstStanding_6 {G : GV} {k : Nat} {M : Mem} {q : Int32 → Mem → Prop} {v1 : Int32} {v2 : Int32} {v3 : Int32} {v4 : Int32} (h : (((M.1 6 8) ≤ v4 → q v3 M) ∧ (¬ (M.1 6 8) ≤ v4 → Ci shC G mX3_standsWith (k + 1) [.ref (G.2.1 6), .int v4, .int v1, .int v2] M (fun x1 M1 => ((x1 ≠ 0 → ((v3 = (-1000000) → vp_in v4 12 ∧ V shC G mX3_firstStanding (k + 2) 6 [(0, .ref (G.2.1 6)), (1, .int v1), (2, .int v2), (3, .int (M1.1 33 (ix v4))), (4, .int (v4 + 1))] [] M1 (Qi q)) ∧ (¬ v3 = (-1000000) → vp_in v4 12 ∧ ((v3 ≤ (M1.1 33 (ix v4)) → V shC G mX3_firstStanding (k + 2) 6 [(0, .ref (G.2.1 6)), (1, .int v1), (2, .int v2), (3, .int v3), (4, .int (v4 + 1))] [] M1 (Qi q)) ∧ (¬ v3 ≤ (M1.1 33 (ix v4)) → vp_in v4 12 ∧ V shC G mX3_firstStanding (k + 2) 6 [(0, .ref (G.2.1 6)), (1, .int v1), (2, .int v2), (3, .int (M1.1 33 (ix v4))), (4, .int (v4 + 1))] [] M1 (Qi q)))))) ∧ (x1 = 0 → V shC G mX3_firstStanding (k + 2) 6 [(0, .ref (G.2.1 6)), (1, .int v1), (2, .int v2), (3, .int v3), (4, .int (v4 + 1))] [] M1 (Qi q))))))) : V shC G mX3_firstStanding (k + 2) 6 [(0, .ref (G.2.1 6)), (1, .int v1), (2, .int v2), (3, .int v3), (4, .int v4)] [] M (Qi q) := by
  refine V_iload (pc := 6) dX3_firstStanding_6 rfl ?_
  refine V_aload_n (pc := 8) dX3_firstStanding_8 rfl ?_
  refine V_getI (pc := 9) fX3_40 sC6 rfl dX3_firstStanding_9 ?_
  refine V_icmp_ge (tgt := 60) (pc := 12) dX3_firstStanding_12 rfl (fun c => ?_) (fun c => ?_)
  · have h := h.1 c
    refine V_iload_n (pc := 60) dX3_firstStanding_60 rfl ?_
    exact V_iret dX3_firstStanding_61 rfl h
  · have h := h.2 c
    refine V_aload_n (pc := 15) dX3_firstStanding_15 rfl ?_
    refine V_iload (pc := 16) dX3_firstStanding_16 rfl ?_
    refine V_iload_n (pc := 18) dX3_firstStanding_18 rfl ?_
    refine V_iload_n (pc := 19) dX3_firstStanding_19 rfl ?_
    refine V_callVi [.int v4, .int v1, .int v2] (pc := 20) kX3_standsWith lX3_84 sC6 rfl rfl (Nat.le_of_ble_eq_true rfl) rfl (Nat.le_of_ble_eq_true rfl) dX3_firstStanding_20 ?_
    refine Ci.mono h ?_
    intro x1 M1 h
    refine V_if_ne (tgt := 29) (pc := 23) dX3_firstStanding_23 rfl (fun c => ?_) (fun c => ?_)
    · have h := h.1 c
      refine V_iload_n (pc := 29) dX3_firstStanding_29 rfl ?_
      refine V_ldc (pc := 30) dX3_firstStanding_30 nX3_74 ?_
      refine V_icmp_eq (tgt := 46) (pc := 32) dX3_firstStanding_32 rfl (fun c => ?_) (fun c => ?_)
      · have h := h.1 c
        refine V_aload_n (pc := 46) dX3_firstStanding_46 rfl ?_
        refine V_getR (pc := 47) fX3_27 sC6 rfl dX3_firstStanding_47 ?_
        refine V_iload (pc := 50) dX3_firstStanding_50 rfl ?_
        refine V_iald (pc := 52) sC33 dX3_firstStanding_52 h.1 ?_
        have h := h.2
        refine V_istore_n (pc := 53) dX3_firstStanding_53 (by decide) ?_
        refine V_lv (lv2 := [(0, .ref (G.2.1 6)), (1, .int v1), (2, .int v2), (3, .int (M1.1 33 (ix v4))), (4, .int v4)]) rfl ?_
        refine V_iinc (pc := 54) dX3_firstStanding_54 rfl (by decide) ?_
        refine V_lv (lv2 := [(0, .ref (G.2.1 6)), (1, .int v1), (2, .int v2), (3, .int (M1.1 33 (ix v4))), (4, .int (v4 + 1))]) rfl ?_
        refine V_goto (tgt := 6) (pc := 57) dX3_firstStanding_57 rfl ?_
        exact V_sub h ⟨rfl, rfl, rfl, rfl, rfl, trivial⟩
      · have h := h.2 c
        refine V_aload_n (pc := 35) dX3_firstStanding_35 rfl ?_
        refine V_getR (pc := 36) fX3_27 sC6 rfl dX3_firstStanding_36 ?_
        refine V_iload (pc := 39) dX3_firstStanding_39 rfl ?_
        refine V_iald (pc := 41) sC33 dX3_firstStanding_41 h.1 ?_
        have h := h.2
        refine V_iload_n (pc := 42) dX3_firstStanding_42 rfl ?_
        refine V_icmp_ge (tgt := 54) (pc := 43) dX3_firstStanding_43 rfl (fun c => ?_) (fun c => ?_)
        · have h := h.1 c
          refine V_iinc (pc := 54) dX3_firstStanding_54 rfl (by decide) ?_
          refine V_lv (lv2 := [(0, .ref (G.2.1 6)), (1, .int v1), (2, .int v2), (3, .int v3), (4, .int (v4 + 1))]) rfl ?_
          refine V_goto (tgt := 6) (pc := 57) dX3_firstStanding_57 rfl ?_
          exact V_sub h ⟨rfl, rfl, rfl, rfl, rfl, trivial⟩
        · have h := h.2 c
          refine V_aload_n (pc := 46) dX3_firstStanding_46 rfl ?_
          refine V_getR (pc := 47) fX3_27 sC6 rfl dX3_firstStanding_47 ?_
          refine V_iload (pc := 50) dX3_firstStanding_50 rfl ?_
          refine V_iald (pc := 52) sC33 dX3_firstStanding_52 h.1 ?_
          have h := h.2
          refine V_istore_n (pc := 53) dX3_firstStanding_53 (by decide) ?_
          refine V_lv (lv2 := [(0, .ref (G.2.1 6)), (1, .int v1), (2, .int v2), (3, .int (M1.1 33 (ix v4))), (4, .int v4)]) rfl ?_
          refine V_iinc (pc := 54) dX3_firstStanding_54 rfl (by decide) ?_
          refine V_lv (lv2 := [(0, .ref (G.2.1 6)), (1, .int v1), (2, .int v2), (3, .int (M1.1 33 (ix v4))), (4, .int (v4 + 1))]) rfl ?_
          refine V_goto (tgt := 6) (pc := 57) dX3_firstStanding_57 rfl ?_
          exact V_sub h ⟨rfl, rfl, rfl, rfl, rfl, trivial⟩
    · have h := h.2 c
      refine V_goto (tgt := 54) (pc := 26) dX3_firstStanding_26 rfl ?_
      refine V_iinc (pc := 54) dX3_firstStanding_54 rfl (by decide) ?_
      refine V_lv (lv2 := [(0, .ref (G.2.1 6)), (1, .int v1), (2, .int v2), (3, .int v3), (4, .int (v4 + 1))]) rfl ?_
      refine V_goto (tgt := 6) (pc := 57) dX3_firstStanding_57 rfl ?_
      exact V_sub h ⟨rfl, rfl, rfl, rfl, rfl, trivial⟩
theorem wp_X3_lastStanding {G : GV} {k : Nat} {M : Mem} {q : Int32 → Mem → Prop} {v1 : Int32} {v2 : Int32} (h : V shC G mX3_lastStanding (k + 2) 6 [(0, .ref (G.2.1 6)), (1, .int v1), (2, .int v2), (3, .int (-1000000)), (4, .int 0)] [] M (Qi q)) : Ci shC G mX3_lastStanding (k + 2) [.ref (G.2.1 6), .int v1, .int v2] M q := by
  unfold Ci
  show V _ _ _ _ _ [(0, .ref (G.2.1 6)), (1, .int v1), (2, .int v2)] _ _ _
  refine V_ldc (pc := 0) dX3_lastStanding_0 nX3_74 ?_
  refine V_istore_n (pc := 2) dX3_lastStanding_2 (by decide) ?_
  refine V_lv (lv2 := [(0, .ref (G.2.1 6)), (1, .int v1), (2, .int v2), (3, .int (-1000000))]) rfl ?_
  refine V_iconst (v := 0) (pc := 3) dX3_lastStanding_3 rfl ?_
  refine V_istore (pc := 4) dX3_lastStanding_4 (by decide) ?_
  refine V_lv (lv2 := [(0, .ref (G.2.1 6)), (1, .int v1), (2, .int v2), (3, .int (-1000000)), (4, .int 0)]) rfl ?_
  exact V_sub h ⟨rfl, rfl, rfl, rfl, rfl, trivial⟩
theorem wp_X3_lastStanding_6 {G : GV} {k : Nat} {M : Mem} {q : Int32 → Mem → Prop} {v1 : Int32} {v2 : Int32} {v3 : Int32} {v4 : Int32} (h : (((M.1 6 8) ≤ v4 → q v3 M) ∧ (¬ (M.1 6 8) ≤ v4 → Ci shC G mX3_standsWith (k + 1) [.ref (G.2.1 6), .int v4, .int v1, .int v2] M (fun x1 M1 => ((x1 = 0 → V shC G mX3_lastStanding (k + 2) 6 [(0, .ref (G.2.1 6)), (1, .int v1), (2, .int v2), (3, .int v3), (4, .int (v4 + 1))] [] M1 (Qi q)) ∧ (¬ x1 = 0 → vp_in v4 12 ∧ V shC G mX3_lastStanding (k + 2) 6 [(0, .ref (G.2.1 6)), (1, .int v1), (2, .int v2), (3, .int (if v3 < (M1.1 33 (ix v4)) then (M1.1 33 (ix v4)) else v3)), (4, .int (v4 + 1))] [] M1 (Qi q))))))) : V shC G mX3_lastStanding (k + 2) 6 [(0, .ref (G.2.1 6)), (1, .int v1), (2, .int v2), (3, .int v3), (4, .int v4)] [] M (Qi q) := by
  refine V_iload (pc := 6) dX3_lastStanding_6 rfl ?_
  refine V_aload_n (pc := 8) dX3_lastStanding_8 rfl ?_
  refine V_getI (pc := 9) fX3_40 sC6 rfl dX3_lastStanding_9 ?_
  refine V_icmp_ge (tgt := 44) (pc := 12) dX3_lastStanding_12 rfl (fun c => ?_) (fun c => ?_)
  · have h := h.1 c
    refine V_iload_n (pc := 44) dX3_lastStanding_44 rfl ?_
    exact V_iret dX3_lastStanding_45 rfl h
  · have h := h.2 c
    refine V_aload_n (pc := 15) dX3_lastStanding_15 rfl ?_
    refine V_iload (pc := 16) dX3_lastStanding_16 rfl ?_
    refine V_iload_n (pc := 18) dX3_lastStanding_18 rfl ?_
    refine V_iload_n (pc := 19) dX3_lastStanding_19 rfl ?_
    refine V_callVi [.int v4, .int v1, .int v2] (pc := 20) kX3_standsWith lX3_84 sC6 rfl rfl (Nat.le_of_ble_eq_true rfl) rfl (Nat.le_of_ble_eq_true rfl) dX3_lastStanding_20 ?_
    refine Ci.mono h ?_
    intro x1 M1 h
    refine V_if_eq (tgt := 38) (pc := 23) dX3_lastStanding_23 rfl (fun c => ?_) (fun c => ?_)
    · have h := h.1 c
      refine V_iinc (pc := 38) dX3_lastStanding_38 rfl (by decide) ?_
      refine V_lv (lv2 := [(0, .ref (G.2.1 6)), (1, .int v1), (2, .int v2), (3, .int v3), (4, .int (v4 + 1))]) rfl ?_
      refine V_goto (tgt := 6) (pc := 41) dX3_lastStanding_41 rfl ?_
      exact V_sub h ⟨rfl, rfl, rfl, rfl, rfl, trivial⟩
    · have h := h.2 c
      refine V_iload_n (pc := 26) dX3_lastStanding_26 rfl ?_
      refine V_aload_n (pc := 27) dX3_lastStanding_27 rfl ?_
      refine V_getR (pc := 28) fX3_27 sC6 rfl dX3_lastStanding_28 ?_
      refine V_iload (pc := 31) dX3_lastStanding_31 rfl ?_
      refine V_iald (pc := 33) sC33 dX3_lastStanding_33 h.1 ?_
      have h := h.2
      refine V_mmax (pc := 34) dX3_lastStanding_34 lX3_88 (Nat.le_of_ble_eq_true rfl) ?_
      refine V_istore_n (pc := 37) dX3_lastStanding_37 (by decide) ?_
      refine V_lv (lv2 := [(0, .ref (G.2.1 6)), (1, .int v1), (2, .int v2), (3, .int (if v3 < (M1.1 33 (ix v4)) then (M1.1 33 (ix v4)) else v3)), (4, .int v4)]) rfl ?_
      refine V_iinc (pc := 38) dX3_lastStanding_38 rfl (by decide) ?_
      refine V_lv (lv2 := [(0, .ref (G.2.1 6)), (1, .int v1), (2, .int v2), (3, .int (if v3 < (M1.1 33 (ix v4)) then (M1.1 33 (ix v4)) else v3)), (4, .int (v4 + 1))]) rfl ?_
      refine V_goto (tgt := 6) (pc := 41) dX3_lastStanding_41 rfl ?_
      exact V_sub h ⟨rfl, rfl, rfl, rfl, rfl, trivial⟩
theorem wp_X3_mayBeOne {G : GV} {k : Nat} {M : Mem} {q : Int32 → Mem → Prop} {v1 : Int32} {v2 : Int32} (h : Ci shC G mX5_areLike (k + 1) [.ref (G.2.1 7), .int v1, .int v2] M (fun x1 M1 => ((x1 = 0 → q 0 M1) ∧ (¬ x1 = 0 → Ci shC G mX3_agesAgree (k + 1) [.ref (G.2.1 6), .int v1, .int v2] M1 (fun x2 M2 => ((x2 = 0 → q 0 M2) ∧ (¬ x2 = 0 → Ci shC G mX3_areTwoHomesAtOnce (k + 1) [.ref (G.2.1 6), .int v1, .int v2] M2 (fun x3 M3 => ((x3 ≠ 0 → q 0 M3) ∧ (x3 = 0 → q 1 M3)))))))))) : Ci shC G mX3_mayBeOne (k + 2) [.ref (G.2.1 6), .int v1, .int v2] M q := by
  unfold Ci
  show V _ _ _ _ _ [(0, .ref (G.2.1 6)), (1, .int v1), (2, .int v2)] _ _ _
  refine V_aload_n (pc := 0) dX3_mayBeOne_0 rfl ?_
  refine V_getR (pc := 1) fX3_36 sC6 rfl dX3_mayBeOne_1 ?_
  refine V_iload_n (pc := 4) dX3_mayBeOne_4 rfl ?_
  refine V_iload_n (pc := 5) dX3_mayBeOne_5 rfl ?_
  refine V_callVi [.int v1, .int v2] (pc := 6) kX5_areLike lX3_64 sC7 rfl rfl (Nat.le_of_ble_eq_true rfl) rfl (Nat.le_of_ble_eq_true rfl) dX3_mayBeOne_6 ?_
  refine Ci.mono h ?_
  intro x1 M1 h
  refine V_if_eq (tgt := 34) (pc := 9) dX3_mayBeOne_9 rfl (fun c => ?_) (fun c => ?_)
  · have h := h.1 c
    refine V_iconst (v := 0) (pc := 34) dX3_mayBeOne_34 rfl ?_
    exact V_zret dX3_mayBeOne_35 rfl (Or.inl rfl) h
  · have h := h.2 c
    refine V_aload_n (pc := 12) dX3_mayBeOne_12 rfl ?_
    refine V_iload_n (pc := 13) dX3_mayBeOne_13 rfl ?_
    refine V_iload_n (pc := 14) dX3_mayBeOne_14 rfl ?_
    refine V_callVi [.int v1, .int v2] (pc := 15) kX3_agesAgree lX3_68 sC6 rfl rfl (Nat.le_of_ble_eq_true rfl) rfl (Nat.le_of_ble_eq_true rfl) dX3_mayBeOne_15 ?_
    refine Ci.mono h ?_
    intro x2 M2 h
    refine V_if_eq (tgt := 34) (pc := 18) dX3_mayBeOne_18 rfl (fun c => ?_) (fun c => ?_)
    · have h := h.1 c
      refine V_iconst (v := 0) (pc := 34) dX3_mayBeOne_34 rfl ?_
      exact V_zret dX3_mayBeOne_35 rfl (Or.inl rfl) h
    · have h := h.2 c
      refine V_aload_n (pc := 21) dX3_mayBeOne_21 rfl ?_
      refine V_iload_n (pc := 22) dX3_mayBeOne_22 rfl ?_
      refine V_iload_n (pc := 23) dX3_mayBeOne_23 rfl ?_
      refine V_callVi [.int v1, .int v2] (pc := 24) kX3_areTwoHomesAtOnce lX3_71 sC6 rfl rfl (Nat.le_of_ble_eq_true rfl) rfl (Nat.le_of_ble_eq_true rfl) dX3_mayBeOne_24 ?_
      refine Ci.mono h ?_
      intro x3 M3 h
      refine V_if_ne (tgt := 34) (pc := 27) dX3_mayBeOne_27 rfl (fun c => ?_) (fun c => ?_)
      · have h := h.1 c
        refine V_iconst (v := 0) (pc := 34) dX3_mayBeOne_34 rfl ?_
        exact V_zret dX3_mayBeOne_35 rfl (Or.inl rfl) h
      · have h := h.2 c
        refine V_iconst (v := 1) (pc := 30) dX3_mayBeOne_30 rfl ?_
        refine V_goto (tgt := 35) (pc := 31) dX3_mayBeOne_31 rfl ?_
        exact V_zret dX3_mayBeOne_35 rfl (Or.inr rfl) h
theorem wp_X3_keep {G : GV} {k : Nat} {M : Mem} {q : Mem → Prop}  (h : V shC G mX3_keep (k + 4) 0 [(0, .ref (G.2.1 6)), (1, .ref (G.2.1 3)), (2, .ref (G.2.1 4))] [] M (Qv q)) : Cv shC G mX3_keep (k + 4) [.ref (G.2.1 6), .ref (G.2.1 3), .ref (G.2.1 4)] M q := by
  unfold Cv
  show V _ _ _ _ _ [(0, .ref (G.2.1 6)), (1, .ref (G.2.1 3)), (2, .ref (G.2.1 4))] _ _ _
  exact V_sub h ⟨rfl, rfl, rfl, trivial⟩
theorem wp_X3_keep_0 {G : GV} {k : Nat} {M : Mem} {q : Mem → Prop}  (h : (((M.1 6 9) ≤ (M.1 6 8) → V shC G mX3_keep (k + 4) 60 [(0, .ref (G.2.1 6)), (1, .ref (G.2.1 3)), (2, .ref (G.2.1 4)), (3, .int 0)] [] M (Qv q)) ∧ (¬ (M.1 6 9) ≤ (M.1 6 8) → vp_in (M.1 6 8) 12 ∧ vp_in (M.1 28 (ix (M.1 6 8))) 10 ∧ vp_in (M.1 6 8) 12 ∧ Cv shC G mX5_compare (k + 3) [.ref (G.2.1 7), .int (M.1 6 8)] (mset M 33 (ix (M.1 6 8)) (M.1 17 (ix (M.1 28 (ix (M.1 6 8)))))) (fun M1 => V shC G mX3_keep (k + 4) 0 [(0, .ref (G.2.1 6)), (1, .ref (G.2.1 3)), (2, .ref (G.2.1 4))] [] (mset M1 6 8 ((M1.1 6 8) + 1)) (Qv q))))) : V shC G mX3_keep (k + 4) 0 [(0, .ref (G.2.1 6)), (1, .ref (G.2.1 3)), (2, .ref (G.2.1 4))] [] M (Qv q) := by
  refine V_aload_n (pc := 0) dX3_keep_0 rfl ?_
  refine V_getI (pc := 1) fX3_40 sC6 rfl dX3_keep_1 ?_
  refine V_aload_n (pc := 4) dX3_keep_4 rfl ?_
  refine V_getI (pc := 5) fX3_44 sC6 rfl dX3_keep_5 ?_
  refine V_icmp_ge (tgt := 58) (pc := 8) dX3_keep_8 rfl (fun c => ?_) (fun c => ?_)
  · have h := h.1 c
    refine V_iconst (v := 0) (pc := 58) dX3_keep_58 rfl ?_
    refine V_istore_n (pc := 59) dX3_keep_59 (by decide) ?_
    refine V_lv (lv2 := [(0, .ref (G.2.1 6)), (1, .ref (G.2.1 3)), (2, .ref (G.2.1 4)), (3, .int 0)]) rfl ?_
    exact V_sub h ⟨rfl, rfl, rfl, rfl, trivial⟩
  · have h := h.2 c
    refine V_aload_n (pc := 11) dX3_keep_11 rfl ?_
    refine V_getR (pc := 12) fX3_27 sC6 rfl dX3_keep_12 ?_
    refine V_aload_n (pc := 15) dX3_keep_15 rfl ?_
    refine V_getI (pc := 16) fX3_40 sC6 rfl dX3_keep_16 ?_
    refine V_aload_n (pc := 19) dX3_keep_19 rfl ?_
    refine V_getR (pc := 20) fX3_47 sC3 rfl dX3_keep_20 ?_
    refine V_aload_n (pc := 23) dX3_keep_23 rfl ?_
    refine V_getR (pc := 24) fX3_9 sC6 rfl dX3_keep_24 ?_
    refine V_aload_n (pc := 27) dX3_keep_27 rfl ?_
    refine V_getI (pc := 28) fX3_40 sC6 rfl dX3_keep_28 ?_
    refine V_iald (pc := 31) sC28 dX3_keep_31 h.1 ?_
    have h := h.2
    refine V_iald (pc := 32) sC17 dX3_keep_32 h.1 ?_
    have h := h.2
    refine V_iast (pc := 33) sC33 dX3_keep_33 h.1 ?_
    have h := h.2
    refine V_aload_n (pc := 34) dX3_keep_34 rfl ?_
    refine V_getR (pc := 35) fX3_36 sC6 rfl dX3_keep_35 ?_
    refine V_aload_n (pc := 38) dX3_keep_38 rfl ?_
    refine V_getI (pc := 39) fX3_40 sC6 rfl dX3_keep_39 ?_
    refine V_top (v := (M.1 6 8)) (by simp [mset, lset, upd]) ?_
    refine V_callVv [.int (M.1 6 8)] (pc := 42) kX5_compare lX3_50 sC7 rfl rfl (Nat.le_of_ble_eq_true rfl) rfl (Nat.le_of_ble_eq_true rfl) dX3_keep_42 ?_
    refine Cv.mono h ?_
    intro M1 h
    refine V_aload_n (pc := 45) dX3_keep_45 rfl ?_
    refine V_dup (pc := 46) dX3_keep_46 rfl ?_
    refine V_getI (pc := 47) fX3_40 sC6 rfl dX3_keep_47 ?_
    refine V_iconst (v := 1) (pc := 50) dX3_keep_50 rfl ?_
    refine V_iadd (pc := 51) dX3_keep_51 ?_
    refine V_putI (pc := 52) fX3_40 p3_8 sC6 rfl dX3_keep_52 ?_
    refine V_goto (tgt := 0) (pc := 55) dX3_keep_55 rfl ?_
    exact V_sub h ⟨rfl, rfl, rfl, trivial⟩
theorem wp_X3_keep_60 {G : GV} {k : Nat} {M : Mem} {q : Mem → Prop} {v3 : Int32} (h : (((M.1 6 8) ≤ v3 → q M) ∧ (¬ (M.1 6 8) ≤ v3 → vp_in v3 12 ∧ vp_in v3 12 ∧ vp_in v3 12 ∧ Ci shC G mX6_numberToday (k + 3) [.ref (G.2.1 4), .int (M.1 30 (ix v3)), .int (M.1 31 (ix v3)), .int (M.1 33 (ix v3))] M (fun x1 M1 => vp_in v3 12 ∧ V shC G mX3_keep (k + 4) 60 [(0, .ref (G.2.1 6)), (1, .ref (G.2.1 3)), (2, .ref (G.2.1 4)), (3, .int (v3 + 1))] [] (mset M1 34 (ix v3) x1) (Qv q))))) : V shC G mX3_keep (k + 4) 60 [(0, .ref (G.2.1 6)), (1, .ref (G.2.1 3)), (2, .ref (G.2.1 4)), (3, .int v3)] [] M (Qv q) := by
  refine V_iload_n (pc := 60) dX3_keep_60 rfl ?_
  refine V_aload_n (pc := 61) dX3_keep_61 rfl ?_
  refine V_getI (pc := 62) fX3_40 sC6 rfl dX3_keep_62 ?_
  refine V_icmp_ge (tgt := 102) (pc := 65) dX3_keep_65 rfl (fun c => ?_) (fun c => ?_)
  · have h := h.1 c
    exact V_vret dX3_keep_102 rfl h
  · have h := h.2 c
    refine V_aload_n (pc := 68) dX3_keep_68 rfl ?_
    refine V_getR (pc := 69) fX3_30 sC6 rfl dX3_keep_69 ?_
    refine V_iload_n (pc := 72) dX3_keep_72 rfl ?_
    refine V_aload_n (pc := 73) dX3_keep_73 rfl ?_
    refine V_aload_n (pc := 74) dX3_keep_74 rfl ?_
    refine V_getR (pc := 75) fX3_18 sC6 rfl dX3_keep_75 ?_
    refine V_iload_n (pc := 78) dX3_keep_78 rfl ?_
    refine V_iald (pc := 79) sC30 dX3_keep_79 h.1 ?_
    have h := h.2
    refine V_aload_n (pc := 80) dX3_keep_80 rfl ?_
    refine V_getR (pc := 81) fX3_21 sC6 rfl dX3_keep_81 ?_
    refine V_iload_n (pc := 84) dX3_keep_84 rfl ?_
    refine V_iald (pc := 85) sC31 dX3_keep_85 h.1 ?_
    have h := h.2
    refine V_aload_n (pc := 86) dX3_keep_86 rfl ?_
    refine V_getR (pc := 87) fX3_27 sC6 rfl dX3_keep_87 ?_
    refine V_iload_n (pc := 90) dX3_keep_90 rfl ?_
    refine V_iald (pc := 91) sC33 dX3_keep_91 h.1 ?_
    have h := h.2
    refine V_callVi [.int (M.1 30 (ix v3)), .int (M.1 31 (ix v3)), .int (M.1 33 (ix v3))] (pc := 92) kX6_numberToday lX3_54 sC4 rfl rfl (Nat.le_of_ble_eq_true rfl) rfl (Nat.le_of_ble_eq_true rfl) dX3_keep_92 ?_
    refine Ci.mono h ?_
    intro x1 M1 h
    refine V_iast (pc := 95) sC34 dX3_keep_95 h.1 ?_
    have h := h.2
    refine V_iinc (pc := 96) dX3_keep_96 rfl (by decide) ?_
    refine V_lv (lv2 := [(0, .ref (G.2.1 6)), (1, .ref (G.2.1 3)), (2, .ref (G.2.1 4)), (3, .int (v3 + 1))]) rfl ?_
    refine V_goto (tgt := 60) (pc := 99) dX3_keep_99 rfl ?_
    exact V_sub h ⟨rfl, rfl, rfl, rfl, trivial⟩
