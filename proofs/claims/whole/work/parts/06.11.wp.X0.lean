theorem wp_X0_begin {G : GV} {k : Nat} {M : Mem} {q : Mem → Prop} {v1 : Int32} (h : ((16 ≤ (M.1 11 2) → q M) ∧ (¬ 16 ≤ (M.1 11 2) → vp_in (M.1 11 2) 16 ∧ q (mset (mset M 11 2 ((M.1 11 2) + 1)) 47 (ix (M.1 11 2)) v1)))) : Cv shC G mX0_begin k [.ref (G.2.1 11), .int v1] M q := by
  unfold Cv
  show V _ _ _ _ _ [(0, .ref (G.2.1 11)), (1, .int v1)] _ _ _
  refine V_aload_n (pc := 0) dX0_begin_0 rfl ?_
  refine V_getI (pc := 1) fX0_78 sC11 rfl dX0_begin_1 ?_
  refine V_bipush (v := 16) (pc := 4) dX0_begin_4 rfl ?_
  refine V_icmp_ge (tgt := 26) (pc := 6) dX0_begin_6 rfl (fun c => ?_) (fun c => ?_)
  · have h := h.1 c
    exact V_vret dX0_begin_26 rfl h
  · have h := h.2 c
    refine V_aload_n (pc := 9) dX0_begin_9 rfl ?_
    refine V_getR (pc := 10) fX0_11 sC11 rfl dX0_begin_10 ?_
    refine V_aload_n (pc := 13) dX0_begin_13 rfl ?_
    refine V_dup (pc := 14) dX0_begin_14 rfl ?_
    refine V_getI (pc := 15) fX0_78 sC11 rfl dX0_begin_15 ?_
    refine V_dup_x1 (pc := 18) dX0_begin_18 rfl rfl ?_
    refine V_iconst (v := 1) (pc := 19) dX0_begin_19 rfl ?_
    refine V_iadd (pc := 20) dX0_begin_20 ?_
    refine V_putI (pc := 21) fX0_78 p0_2 sC11 rfl dX0_begin_21 ?_
    refine V_iload_n (pc := 24) dX0_begin_24 rfl ?_
    refine V_iast (pc := 25) sC47 dX0_begin_25 h.1 ?_
    have h := h.2
    exact V_vret dX0_begin_26 rfl h
theorem wp_X0_lentMark {G : GV} {k : Nat} {M : Mem} {q : Int32 → Mem → Prop} {v1 : Int32} (h : Cv shC G mX0_begin k [.ref (G.2.1 11), .int 20] M (fun M1 => vp_in v1 12 ∧ q (M1.1 33 (ix v1)) M1)) : Ci shC G mX0_lentMark (k + 1) [.ref (G.2.1 11), .int v1] M q := by
  unfold Ci
  show V _ _ _ _ _ [(0, .ref (G.2.1 11)), (1, .int v1)] _ _ _
  refine V_aload_n (pc := 0) dX0_lentMark_0 rfl ?_
  refine V_bipush (v := 20) (pc := 1) dX0_lentMark_1 rfl ?_
  refine V_callVv [.int 20] (pc := 3) kX0_begin lX0_52 sC11 rfl rfl (Nat.le_of_ble_eq_true rfl) rfl (Nat.le_of_ble_eq_true rfl) dX0_lentMark_3 ?_
  refine Cv.mono h ?_
  intro M1 h
  refine V_aload_n (pc := 6) dX0_lentMark_6 rfl ?_
  refine V_getR (pc := 7) fX0_15 sC11 rfl dX0_lentMark_7 ?_
  refine V_getR (pc := 10) fX0_68 sC6 rfl dX0_lentMark_10 ?_
  refine V_iload_n (pc := 13) dX0_lentMark_13 rfl ?_
  refine V_iald (pc := 14) sC33 dX0_lentMark_14 h.1 ?_
  have h := h.2
  exact V_iret dX0_lentMark_15 rfl h
theorem wp_X0_lentSize {G : GV} {k : Nat} {M : Mem} {q : Int32 → Mem → Prop} {v1 : Int32} (h : Cv shC G mX0_begin k [.ref (G.2.1 11), .int 10] M (fun M1 => vp_in v1 12 ∧ q (M1.1 38 (ix v1)) M1)) : Ci shC G mX0_lentSize (k + 1) [.ref (G.2.1 11), .int v1] M q := by
  unfold Ci
  show V _ _ _ _ _ [(0, .ref (G.2.1 11)), (1, .int v1)] _ _ _
  refine V_aload_n (pc := 0) dX0_lentSize_0 rfl ?_
  refine V_bipush (v := 10) (pc := 1) dX0_lentSize_1 rfl ?_
  refine V_callVv [.int 10] (pc := 3) kX0_begin lX0_52 sC11 rfl rfl (Nat.le_of_ble_eq_true rfl) rfl (Nat.le_of_ble_eq_true rfl) dX0_lentSize_3 ?_
  refine Cv.mono h ?_
  intro M1 h
  refine V_aload_n (pc := 6) dX0_lentSize_6 rfl ?_
  refine V_getR (pc := 7) fX0_15 sC11 rfl dX0_lentSize_7 ?_
  refine V_getR (pc := 10) fX0_56 sC6 rfl dX0_lentSize_10 ?_
  refine V_getR (pc := 13) fX0_60 sC7 rfl dX0_lentSize_13 ?_
  refine V_iload_n (pc := 16) dX0_lentSize_16 rfl ?_
  refine V_iald (pc := 17) sC38 dX0_lentSize_17 h.1 ?_
  have h := h.2
  exact V_iret dX0_lentSize_18 rfl h
theorem wp_X0_homeMark {G : GV} {k : Nat} {M : Mem} {q : Int32 → Mem → Prop} {v1 : Int32} (h : Cv shC G mX0_begin (k + 1) [.ref (G.2.1 11), .int 21] M (fun M1 => Ci shC G mX0_lentMark (k + 1) [.ref (G.2.1 11), .int v1] M1 (fun x2 M2 => vp_in v1 12 ∧ q (x2 + (M2.1 30 (ix v1))) M2))) : Ci shC G mX0_homeMark (k + 2) [.ref (G.2.1 11), .int v1] M q := by
  unfold Ci
  show V _ _ _ _ _ [(0, .ref (G.2.1 11)), (1, .int v1)] _ _ _
  refine V_aload_n (pc := 0) dX0_homeMark_0 rfl ?_
  refine V_bipush (v := 21) (pc := 1) dX0_homeMark_1 rfl ?_
  refine V_callVv [.int 21] (pc := 3) kX0_begin lX0_52 sC11 rfl rfl (Nat.le_of_ble_eq_true rfl) rfl (Nat.le_of_ble_eq_true rfl) dX0_homeMark_3 ?_
  refine Cv.mono h ?_
  intro M1 h
  refine V_aload_n (pc := 6) dX0_homeMark_6 rfl ?_
  refine V_iload_n (pc := 7) dX0_homeMark_7 rfl ?_
  refine V_callVi [.int v1] (pc := 8) kX0_lentMark lX0_49 sC11 rfl rfl (Nat.le_of_ble_eq_true rfl) rfl (Nat.le_of_ble_eq_true rfl) dX0_homeMark_8 ?_
  refine Ci.mono h ?_
  intro x2 M2 h
  refine V_aload_n (pc := 11) dX0_homeMark_11 rfl ?_
  refine V_getR (pc := 12) fX0_15 sC11 rfl dX0_homeMark_12 ?_
  refine V_getR (pc := 15) fX0_71 sC6 rfl dX0_homeMark_15 ?_
  refine V_iload_n (pc := 18) dX0_homeMark_18 rfl ?_
  refine V_iald (pc := 19) sC30 dX0_homeMark_19 h.1 ?_
  have h := h.2
  refine V_iadd (pc := 20) dX0_homeMark_20 ?_
  exact V_iret dX0_homeMark_21 rfl h
theorem wp_X0_homeSize {G : GV} {k : Nat} {M : Mem} {q : Int32 → Mem → Prop} {v1 : Int32} (h : Cv shC G mX0_begin (k + 1) [.ref (G.2.1 11), .int 11] M (fun M1 => Ci shC G mX0_lentSize (k + 1) [.ref (G.2.1 11), .int v1] M1 (fun x2 M2 => vp_in v1 12 ∧ q (x2 + (M2.1 31 (ix v1))) M2))) : Ci shC G mX0_homeSize (k + 2) [.ref (G.2.1 11), .int v1] M q := by
  unfold Ci
  show V _ _ _ _ _ [(0, .ref (G.2.1 11)), (1, .int v1)] _ _ _
  refine V_aload_n (pc := 0) dX0_homeSize_0 rfl ?_
  refine V_bipush (v := 11) (pc := 1) dX0_homeSize_1 rfl ?_
  refine V_callVv [.int 11] (pc := 3) kX0_begin lX0_52 sC11 rfl rfl (Nat.le_of_ble_eq_true rfl) rfl (Nat.le_of_ble_eq_true rfl) dX0_homeSize_3 ?_
  refine Cv.mono h ?_
  intro M1 h
  refine V_aload_n (pc := 6) dX0_homeSize_6 rfl ?_
  refine V_iload_n (pc := 7) dX0_homeSize_7 rfl ?_
  refine V_callVi [.int v1] (pc := 8) kX0_lentSize lX0_37 sC11 rfl rfl (Nat.le_of_ble_eq_true rfl) rfl (Nat.le_of_ble_eq_true rfl) dX0_homeSize_8 ?_
  refine Ci.mono h ?_
  intro x2 M2 h
  refine V_aload_n (pc := 11) dX0_homeSize_11 rfl ?_
  refine V_getR (pc := 12) fX0_15 sC11 rfl dX0_homeSize_12 ?_
  refine V_getR (pc := 15) fX0_65 sC6 rfl dX0_homeSize_15 ?_
  refine V_iload_n (pc := 18) dX0_homeSize_18 rfl ?_
  refine V_iald (pc := 19) sC31 dX0_homeSize_19 h.1 ?_
  have h := h.2
  refine V_iadd (pc := 20) dX0_homeSize_20 ?_
  exact V_iret dX0_homeSize_21 rfl h
theorem wp_X0_staleSize {G : GV} {k : Nat} {M : Mem} {q : Int32 → Mem → Prop} {v1 : Int32} (h : Cv shC G mX0_begin (k + 1) [.ref (G.2.1 11), .int 14] M (fun M1 => Ci shC G mX0_lentSize (k + 1) [.ref (G.2.1 11), .int v1] M1 (fun x2 M2 => q (-x2) M2))) : Ci shC G mX0_staleSize (k + 2) [.ref (G.2.1 11), .int v1] M q := by
  unfold Ci
  show V _ _ _ _ _ [(0, .ref (G.2.1 11)), (1, .int v1)] _ _ _
  refine V_aload_n (pc := 0) dX0_staleSize_0 rfl ?_
  refine V_bipush (v := 14) (pc := 1) dX0_staleSize_1 rfl ?_
  refine V_callVv [.int 14] (pc := 3) kX0_begin lX0_52 sC11 rfl rfl (Nat.le_of_ble_eq_true rfl) rfl (Nat.le_of_ble_eq_true rfl) dX0_staleSize_3 ?_
  refine Cv.mono h ?_
  intro M1 h
  refine V_aload_n (pc := 6) dX0_staleSize_6 rfl ?_
  refine V_iload_n (pc := 7) dX0_staleSize_7 rfl ?_
  refine V_callVi [.int v1] (pc := 8) kX0_lentSize lX0_37 sC11 rfl rfl (Nat.le_of_ble_eq_true rfl) rfl (Nat.le_of_ble_eq_true rfl) dX0_staleSize_8 ?_
  refine Ci.mono h ?_
  intro x2 M2 h
  refine V_ineg (pc := 11) dX0_staleSize_11 ?_
  exact V_iret dX0_staleSize_12 rfl h
theorem wp_X0_tradeMark {G : GV} {k : Nat} {M : Mem} {q : Int32 → Mem → Prop} {v1 : Int32} (h : Cv shC G mX0_begin (k + 1) [.ref (G.2.1 11), .int 23] M (fun M1 => Ci shC G mX0_lentMark (k + 1) [.ref (G.2.1 11), .int v1] M1 (fun x2 M2 => Ci shC G mX0_lentSize (k + 1) [.ref (G.2.1 11), .int v1] M2 (fun x3 M3 => q (x2 + x3) M3)))) : Ci shC G mX0_tradeMark (k + 2) [.ref (G.2.1 11), .int v1] M q := by
  unfold Ci
  show V _ _ _ _ _ [(0, .ref (G.2.1 11)), (1, .int v1)] _ _ _
  refine V_aload_n (pc := 0) dX0_tradeMark_0 rfl ?_
  refine V_bipush (v := 23) (pc := 1) dX0_tradeMark_1 rfl ?_
  refine V_callVv [.int 23] (pc := 3) kX0_begin lX0_52 sC11 rfl rfl (Nat.le_of_ble_eq_true rfl) rfl (Nat.le_of_ble_eq_true rfl) dX0_tradeMark_3 ?_
  refine Cv.mono h ?_
  intro M1 h
  refine V_aload_n (pc := 6) dX0_tradeMark_6 rfl ?_
  refine V_iload_n (pc := 7) dX0_tradeMark_7 rfl ?_
  refine V_callVi [.int v1] (pc := 8) kX0_lentMark lX0_49 sC11 rfl rfl (Nat.le_of_ble_eq_true rfl) rfl (Nat.le_of_ble_eq_true rfl) dX0_tradeMark_8 ?_
  refine Ci.mono h ?_
  intro x2 M2 h
  refine V_istore_n (pc := 11) dX0_tradeMark_11 (by decide) ?_
  refine V_lv (lv2 := [(0, .ref (G.2.1 11)), (1, .int v1), (2, .int x2)]) rfl ?_
  refine V_iload_n (pc := 12) dX0_tradeMark_12 rfl ?_
  refine V_aload_n (pc := 13) dX0_tradeMark_13 rfl ?_
  refine V_iload_n (pc := 14) dX0_tradeMark_14 rfl ?_
  refine V_callVi [.int v1] (pc := 15) kX0_lentSize lX0_37 sC11 rfl rfl (Nat.le_of_ble_eq_true rfl) rfl (Nat.le_of_ble_eq_true rfl) dX0_tradeMark_15 ?_
  refine Ci.mono h ?_
  intro x3 M3 h
  refine V_iadd (pc := 18) dX0_tradeMark_18 ?_
  exact V_iret dX0_tradeMark_19 rfl h
theorem wp_X0_countedMark {G : GV} {k : Nat} {M : Mem} {q : Int32 → Mem → Prop} {v1 : Int32} (h : Cv shC G mX0_begin (k + 2) [.ref (G.2.1 11), .int 22] M (fun M1 => Ci shC G mX0_homeMark (k + 2) [.ref (G.2.1 11), .int v1] M1 (fun x2 M2 => vp_in v1 12 ∧ (((M2.1 32 (ix v1)) ≠ (-1000000) → vp_in v1 12 ∧ q (x2 + (M2.1 32 (ix v1))) M2) ∧ ((M2.1 32 (ix v1)) = (-1000000) → q (x2 + 0) M2))))) : Ci shC G mX0_countedMark (k + 3) [.ref (G.2.1 11), .int v1] M q := by
  unfold Ci
  show V _ _ _ _ _ [(0, .ref (G.2.1 11)), (1, .int v1)] _ _ _
  refine V_aload_n (pc := 0) dX0_countedMark_0 rfl ?_
  refine V_bipush (v := 22) (pc := 1) dX0_countedMark_1 rfl ?_
  refine V_callVv [.int 22] (pc := 3) kX0_begin lX0_52 sC11 rfl rfl (Nat.le_of_ble_eq_true rfl) rfl (Nat.le_of_ble_eq_true rfl) dX0_countedMark_3 ?_
  refine Cv.mono h ?_
  intro M1 h
  refine V_aload_n (pc := 6) dX0_countedMark_6 rfl ?_
  refine V_iload_n (pc := 7) dX0_countedMark_7 rfl ?_
  refine V_callVi [.int v1] (pc := 8) kX0_homeMark lX0_40 sC11 rfl rfl (Nat.le_of_ble_eq_true rfl) rfl (Nat.le_of_ble_eq_true rfl) dX0_countedMark_8 ?_
  refine Ci.mono h ?_
  intro x2 M2 h
  refine V_aload_n (pc := 11) dX0_countedMark_11 rfl ?_
  refine V_getR (pc := 12) fX0_15 sC11 rfl dX0_countedMark_12 ?_
  refine V_getR (pc := 15) fX0_74 sC6 rfl dX0_countedMark_15 ?_
  refine V_iload_n (pc := 18) dX0_countedMark_18 rfl ?_
  refine V_iald (pc := 19) sC32 dX0_countedMark_19 h.1 ?_
  have h := h.2
  refine V_ldc (pc := 20) dX0_countedMark_20 nX0_77 ?_
  refine V_icmp_ne (tgt := 29) (pc := 22) dX0_countedMark_22 rfl (fun c => ?_) (fun c => ?_)
  · have h := h.1 c
    refine V_aload_n (pc := 29) dX0_countedMark_29 rfl ?_
    refine V_getR (pc := 30) fX0_15 sC11 rfl dX0_countedMark_30 ?_
    refine V_getR (pc := 33) fX0_74 sC6 rfl dX0_countedMark_33 ?_
    refine V_iload_n (pc := 36) dX0_countedMark_36 rfl ?_
    refine V_iald (pc := 37) sC32 dX0_countedMark_37 h.1 ?_
    have h := h.2
    refine V_iadd (pc := 38) dX0_countedMark_38 ?_
    exact V_iret dX0_countedMark_39 rfl h
  · have h := h.2 c
    refine V_iconst (v := 0) (pc := 25) dX0_countedMark_25 rfl ?_
    refine V_goto (tgt := 38) (pc := 26) dX0_countedMark_26 rfl ?_
    refine V_iadd (pc := 38) dX0_countedMark_38 ?_
    exact V_iret dX0_countedMark_39 rfl h
theorem wp_X0_ratedSize {G : GV} {k : Nat} {M : Mem} {q : Int32 → Mem → Prop} {v1 : Int32} (h : Cv shC G mX0_begin (k + 2) [.ref (G.2.1 11), .int 12] M (fun M1 => Ci shC G mX0_homeSize (k + 2) [.ref (G.2.1 11), .int v1] M1 (fun x2 M2 => q (2 * x2) M2))) : Ci shC G mX0_ratedSize (k + 3) [.ref (G.2.1 11), .int v1] M q := by
  unfold Ci
  show V _ _ _ _ _ [(0, .ref (G.2.1 11)), (1, .int v1)] _ _ _
  refine V_aload_n (pc := 0) dX0_ratedSize_0 rfl ?_
  refine V_bipush (v := 12) (pc := 1) dX0_ratedSize_1 rfl ?_
  refine V_callVv [.int 12] (pc := 3) kX0_begin lX0_52 sC11 rfl rfl (Nat.le_of_ble_eq_true rfl) rfl (Nat.le_of_ble_eq_true rfl) dX0_ratedSize_3 ?_
  refine Cv.mono h ?_
  intro M1 h
  refine V_iconst (v := 2) (pc := 6) dX0_ratedSize_6 rfl ?_
  refine V_aload_n (pc := 7) dX0_ratedSize_7 rfl ?_
  refine V_iload_n (pc := 8) dX0_ratedSize_8 rfl ?_
  refine V_callVi [.int v1] (pc := 9) kX0_homeSize lX0_24 sC11 rfl rfl (Nat.le_of_ble_eq_true rfl) rfl (Nat.le_of_ble_eq_true rfl) dX0_ratedSize_9 ?_
  refine Ci.mono h ?_
  intro x2 M2 h
  refine V_imul (pc := 12) dX0_ratedSize_12 ?_
  exact V_iret dX0_ratedSize_13 rfl h
theorem wp_X0_countedSize {G : GV} {k : Nat} {M : Mem} {q : Int32 → Mem → Prop} {v1 : Int32} (h : Cv shC G mX0_begin (k + 3) [.ref (G.2.1 11), .int 13] M (fun M1 => Ci shC G mX0_homeSize (k + 3) [.ref (G.2.1 11), .int v1] M1 (fun x2 M2 => Ci shC G mX0_countedMark (k + 3) [.ref (G.2.1 11), .int v1] M2 (fun x3 M3 => q (x2 + x3) M3)))) : Ci shC G mX0_countedSize (k + 4) [.ref (G.2.1 11), .int v1] M q := by
  unfold Ci
  show V _ _ _ _ _ [(0, .ref (G.2.1 11)), (1, .int v1)] _ _ _
  refine V_aload_n (pc := 0) dX0_countedSize_0 rfl ?_
  refine V_bipush (v := 13) (pc := 1) dX0_countedSize_1 rfl ?_
  refine V_callVv [.int 13] (pc := 3) kX0_begin lX0_52 sC11 rfl rfl (Nat.le_of_ble_eq_true rfl) rfl (Nat.le_of_ble_eq_true rfl) dX0_countedSize_3 ?_
  refine Cv.mono h ?_
  intro M1 h
  refine V_aload_n (pc := 6) dX0_countedSize_6 rfl ?_
  refine V_iload_n (pc := 7) dX0_countedSize_7 rfl ?_
  refine V_callVi [.int v1] (pc := 8) kX0_homeSize lX0_24 sC11 rfl rfl (Nat.le_of_ble_eq_true rfl) rfl (Nat.le_of_ble_eq_true rfl) dX0_countedSize_8 ?_
  refine Ci.mono h ?_
  intro x2 M2 h
  refine V_istore_n (pc := 11) dX0_countedSize_11 (by decide) ?_
  refine V_lv (lv2 := [(0, .ref (G.2.1 11)), (1, .int v1), (2, .int x2)]) rfl ?_
  refine V_iload_n (pc := 12) dX0_countedSize_12 rfl ?_
  refine V_aload_n (pc := 13) dX0_countedSize_13 rfl ?_
  refine V_iload_n (pc := 14) dX0_countedSize_14 rfl ?_
  refine V_callVi [.int v1] (pc := 15) kX0_countedMark lX0_43 sC11 rfl rfl (Nat.le_of_ble_eq_true rfl) rfl (Nat.le_of_ble_eq_true rfl) dX0_countedSize_15 ?_
  refine Ci.mono h ?_
  intro x3 M3 h
  refine V_iadd (pc := 18) dX0_countedSize_18 ?_
  exact V_iret dX0_countedSize_19 rfl h
theorem wp_X0_markOf {G : GV} {k : Nat} {M : Mem} {q : Int32 → Mem → Prop} {v1 : Int32} (h : vp_in v1 12 ∧ ((((M.1 29 (ix v1))).toInt = 0 → Ci shC G mX0_homeMark (k + 3) [.ref (G.2.1 11), .int v1] M (fun x1 M1 => q x1 M1)) ∧ (((M.1 29 (ix v1))).toInt = 1 → Ci shC G mX0_homeMark (k + 3) [.ref (G.2.1 11), .int v1] M (fun x2 M2 => q x2 M2)) ∧ (((M.1 29 (ix v1))).toInt = 2 → Ci shC G mX0_countedMark (k + 3) [.ref (G.2.1 11), .int v1] M (fun x3 M3 => q x3 M3)) ∧ (((M.1 29 (ix v1))).toInt = 3 → Ci shC G mX0_tradeMark (k + 3) [.ref (G.2.1 11), .int v1] M (fun x4 M4 => q x4 M4)) ∧ ((((M.1 29 (ix v1))).toInt < 0 ∨ 3 < ((M.1 29 (ix v1))).toInt) → Ci shC G mX0_lentMark (k + 3) [.ref (G.2.1 11), .int v1] M (fun x5 M5 => q x5 M5)))) : Ci shC G mX0_markOf (k + 4) [.ref (G.2.1 11), .int v1] M q := by
  unfold Ci
  show V _ _ _ _ _ [(0, .ref (G.2.1 11)), (1, .int v1)] _ _ _
  refine V_aload_n (pc := 0) dX0_markOf_0 rfl ?_
  refine V_getR (pc := 1) fX0_15 sC11 rfl dX0_markOf_1 ?_
  refine V_getR (pc := 4) fX0_19 sC6 rfl dX0_markOf_4 ?_
  refine V_iload_n (pc := 7) dX0_markOf_7 rfl ?_
  refine V_iald (pc := 8) sC29 dX0_markOf_8 h.1 ?_
  have h := h.2
  refine V_table (tgt := 64) (pc := 9) dX0_markOf_9 rfl rfl rfl ⟨fun c => ?_, fun c => ?_, fun c => ?_, fun c => ?_, trivial⟩ (fun c => ?_)
  · have h := h.1 c
    show V _ _ _ _ 40 _ _ _ _
    refine V_aload_n (pc := 40) dX0_markOf_40 rfl ?_
    refine V_iload_n (pc := 41) dX0_markOf_41 rfl ?_
    refine V_callVi [.int v1] (pc := 42) kX0_homeMark lX0_40 sC11 rfl rfl (Nat.le_of_ble_eq_true rfl) rfl (Nat.le_of_ble_eq_true rfl) dX0_markOf_42 ?_
    refine Ci.mono h ?_
    intro x1 M1 h
    exact V_iret dX0_markOf_45 rfl h
  · have h := h.2.1 c
    show V _ _ _ _ 46 _ _ _ _
    refine V_aload_n (pc := 46) dX0_markOf_46 rfl ?_
    refine V_iload_n (pc := 47) dX0_markOf_47 rfl ?_
    refine V_callVi [.int v1] (pc := 48) kX0_homeMark lX0_40 sC11 rfl rfl (Nat.le_of_ble_eq_true rfl) rfl (Nat.le_of_ble_eq_true rfl) dX0_markOf_48 ?_
    refine Ci.mono h ?_
    intro x2 M2 h
    exact V_iret dX0_markOf_51 rfl h
  · have h := h.2.2.1 c
    show V _ _ _ _ 52 _ _ _ _
    refine V_aload_n (pc := 52) dX0_markOf_52 rfl ?_
    refine V_iload_n (pc := 53) dX0_markOf_53 rfl ?_
    refine V_callVi [.int v1] (pc := 54) kX0_countedMark lX0_43 sC11 rfl rfl (Nat.le_of_ble_eq_true rfl) rfl (Nat.le_of_ble_eq_true rfl) dX0_markOf_54 ?_
    refine Ci.mono h ?_
    intro x3 M3 h
    exact V_iret dX0_markOf_57 rfl h
  · have h := h.2.2.2.1 c
    show V _ _ _ _ 58 _ _ _ _
    refine V_aload_n (pc := 58) dX0_markOf_58 rfl ?_
    refine V_iload_n (pc := 59) dX0_markOf_59 rfl ?_
    refine V_callVi [.int v1] (pc := 60) kX0_tradeMark lX0_46 sC11 rfl rfl (Nat.le_of_ble_eq_true rfl) rfl (Nat.le_of_ble_eq_true rfl) dX0_markOf_60 ?_
    refine Ci.mono h ?_
    intro x4 M4 h
    exact V_iret dX0_markOf_63 rfl h
  · have h := h.2.2.2.2 c
    refine V_aload_n (pc := 64) dX0_markOf_64 rfl ?_
    refine V_iload_n (pc := 65) dX0_markOf_65 rfl ?_
    refine V_callVi [.int v1] (pc := 66) kX0_lentMark lX0_49 sC11 rfl rfl (Nat.le_of_ble_eq_true rfl) rfl (Nat.le_of_ble_eq_true rfl) dX0_markOf_66 ?_
    refine Ci.mono h ?_
    intro x5 M5 h
    exact V_iret dX0_markOf_69 rfl h
theorem wp_X0_sizeOf {G : GV} {k : Nat} {M : Mem} {q : Int32 → Mem → Prop} {v1 : Int32} (h : vp_in v1 12 ∧ ((((M.1 29 (ix v1))).toInt = 0 → Ci shC G mX0_homeSize (k + 4) [.ref (G.2.1 11), .int v1] M (fun x1 M1 => q x1 M1)) ∧ (((M.1 29 (ix v1))).toInt = 1 → Ci shC G mX0_ratedSize (k + 4) [.ref (G.2.1 11), .int v1] M (fun x2 M2 => q x2 M2)) ∧ (((M.1 29 (ix v1))).toInt = 2 → Ci shC G mX0_countedSize (k + 4) [.ref (G.2.1 11), .int v1] M (fun x3 M3 => q x3 M3)) ∧ (((M.1 29 (ix v1))).toInt = 3 → Ci shC G mX0_lentSize (k + 4) [.ref (G.2.1 11), .int v1] M (fun x4 M4 => q x4 M4)) ∧ (((M.1 29 (ix v1))).toInt = 4 → Ci shC G mX0_staleSize (k + 4) [.ref (G.2.1 11), .int v1] M (fun x5 M5 => q x5 M5)) ∧ ((((M.1 29 (ix v1))).toInt < 0 ∨ 4 < ((M.1 29 (ix v1))).toInt) → Ci shC G mX0_lentSize (k + 4) [.ref (G.2.1 11), .int v1] M (fun x6 M6 => q x6 M6)))) : Ci shC G mX0_sizeOf (k + 5) [.ref (G.2.1 11), .int v1] M q := by
  unfold Ci
  show V _ _ _ _ _ [(0, .ref (G.2.1 11)), (1, .int v1)] _ _ _
  refine V_aload_n (pc := 0) dX0_sizeOf_0 rfl ?_
  refine V_getR (pc := 1) fX0_15 sC11 rfl dX0_sizeOf_1 ?_
  refine V_getR (pc := 4) fX0_19 sC6 rfl dX0_sizeOf_4 ?_
  refine V_iload_n (pc := 7) dX0_sizeOf_7 rfl ?_
  refine V_iald (pc := 8) sC29 dX0_sizeOf_8 h.1 ?_
  have h := h.2
  refine V_table (tgt := 68) (pc := 9) dX0_sizeOf_9 rfl rfl rfl ⟨fun c => ?_, fun c => ?_, fun c => ?_, fun c => ?_, fun c => ?_, trivial⟩ (fun c => ?_)
  · have h := h.1 c
    show V _ _ _ _ 44 _ _ _ _
    refine V_aload_n (pc := 44) dX0_sizeOf_44 rfl ?_
    refine V_iload_n (pc := 45) dX0_sizeOf_45 rfl ?_
    refine V_callVi [.int v1] (pc := 46) kX0_homeSize lX0_24 sC11 rfl rfl (Nat.le_of_ble_eq_true rfl) rfl (Nat.le_of_ble_eq_true rfl) dX0_sizeOf_46 ?_
    refine Ci.mono h ?_
    intro x1 M1 h
    exact V_iret dX0_sizeOf_49 rfl h
  · have h := h.2.1 c
    show V _ _ _ _ 50 _ _ _ _
    refine V_aload_n (pc := 50) dX0_sizeOf_50 rfl ?_
    refine V_iload_n (pc := 51) dX0_sizeOf_51 rfl ?_
    refine V_callVi [.int v1] (pc := 52) kX0_ratedSize lX0_28 sC11 rfl rfl (Nat.le_of_ble_eq_true rfl) rfl (Nat.le_of_ble_eq_true rfl) dX0_sizeOf_52 ?_
    refine Ci.mono h ?_
    intro x2 M2 h
    exact V_iret dX0_sizeOf_55 rfl h
  · have h := h.2.2.1 c
    show V _ _ _ _ 56 _ _ _ _
    refine V_aload_n (pc := 56) dX0_sizeOf_56 rfl ?_
    refine V_iload_n (pc := 57) dX0_sizeOf_57 rfl ?_
    refine V_callVi [.int v1] (pc := 58) kX0_countedSize lX0_31 sC11 rfl rfl (Nat.le_of_ble_eq_true rfl) rfl (Nat.le_of_ble_eq_true rfl) dX0_sizeOf_58 ?_
    refine Ci.mono h ?_
    intro x3 M3 h
    exact V_iret dX0_sizeOf_61 rfl h
  · have h := h.2.2.2.1 c
    show V _ _ _ _ 68 _ _ _ _
    refine V_aload_n (pc := 68) dX0_sizeOf_68 rfl ?_
    refine V_iload_n (pc := 69) dX0_sizeOf_69 rfl ?_
    refine V_callVi [.int v1] (pc := 70) kX0_lentSize lX0_37 sC11 rfl rfl (Nat.le_of_ble_eq_true rfl) rfl (Nat.le_of_ble_eq_true rfl) dX0_sizeOf_70 ?_
    refine Ci.mono h ?_
    intro x4 M4 h
    exact V_iret dX0_sizeOf_73 rfl h
  · have h := h.2.2.2.2.1 c
    show V _ _ _ _ 62 _ _ _ _
    refine V_aload_n (pc := 62) dX0_sizeOf_62 rfl ?_
    refine V_iload_n (pc := 63) dX0_sizeOf_63 rfl ?_
    refine V_callVi [.int v1] (pc := 64) kX0_staleSize lX0_34 sC11 rfl rfl (Nat.le_of_ble_eq_true rfl) rfl (Nat.le_of_ble_eq_true rfl) dX0_sizeOf_64 ?_
    refine Ci.mono h ?_
    intro x5 M5 h
    exact V_iret dX0_sizeOf_67 rfl h
  · have h := h.2.2.2.2.2 c
    refine V_aload_n (pc := 68) dX0_sizeOf_68 rfl ?_
    refine V_iload_n (pc := 69) dX0_sizeOf_69 rfl ?_
    refine V_callVi [.int v1] (pc := 70) kX0_lentSize lX0_37 sC11 rfl rfl (Nat.le_of_ble_eq_true rfl) rfl (Nat.le_of_ble_eq_true rfl) dX0_sizeOf_70 ?_
    refine Ci.mono h ?_
    intro x6 M6 h
    exact V_iret dX0_sizeOf_73 rfl h
