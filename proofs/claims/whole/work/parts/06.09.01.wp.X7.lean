theorem wp_X7_renew {G : GV} {k : Nat} {M : Mem} {q : Mem → Prop}  (h : (((M.1 9 5) ≠ 0 → Cv shC G mX7_findWhoMayBeOne (k + 4) [.ref (G.2.1 9)] (mset M 9 5 0) (fun M1 => vp_in 0 4096 ∧ vp_in 0 4096 ∧ Ci shC G mX7_all (k + 4) [.ref (G.2.1 9)] (mset (mset M1 42 (ix 0) (vp_nar .byte 0)) 43 (ix 0) 1) (fun x2 M2 => V shC G mX7_renew (k + 5) 38 [(0, .ref (G.2.1 9)), (1, .int x2), (2, .int 1)] [] M2 (Qv q)))) ∧ ((M.1 9 5) = 0 → q M))) : Cv shC G mX7_renew (k + 5) [.ref (G.2.1 9)] M q := by
  unfold Cv
  show V _ _ _ _ _ [(0, .ref (G.2.1 9))] _ _ _
  refine V_aload_n (pc := 0) dX7_renew_0 rfl ?_
  refine V_getI (pc := 1) fX7_25 sC9 rfl dX7_renew_1 ?_
  refine V_if_ne (tgt := 8) (pc := 4) dX7_renew_4 rfl (fun c => ?_) (fun c => ?_)
  · have h := h.1 c
    refine V_aload_n (pc := 8) dX7_renew_8 rfl ?_
    refine V_iconst (v := 0) (pc := 9) dX7_renew_9 rfl ?_
    refine V_putZ (pc := 10) fX7_25 p7_5 sC9 rfl (Or.inl rfl) dX7_renew_10 ?_
    refine V_aload_n (pc := 13) dX7_renew_13 rfl ?_
    refine V_callVv [] (pc := 14) kX7_findWhoMayBeOne lX7_69 sC9 rfl rfl (Nat.le_of_ble_eq_true rfl) rfl (Nat.le_of_ble_eq_true rfl) dX7_renew_14 ?_
    refine Cv.mono h ?_
    intro M1 h
    refine V_aload_n (pc := 17) dX7_renew_17 rfl ?_
    refine V_getR (pc := 18) fX7_18 sC9 rfl dX7_renew_18 ?_
    refine V_iconst (v := 0) (pc := 21) dX7_renew_21 rfl ?_
    refine V_iconst (v := 0) (pc := 22) dX7_renew_22 rfl ?_
    refine V_bast (pc := 23) sC42 dX7_renew_23 h.1 ?_
    have h := h.2
    refine V_aload_n (pc := 24) dX7_renew_24 rfl ?_
    refine V_getR (pc := 25) fX7_22 sC9 rfl dX7_renew_25 ?_
    refine V_iconst (v := 0) (pc := 28) dX7_renew_28 rfl ?_
    refine V_iconst (v := 1) (pc := 29) dX7_renew_29 rfl ?_
    refine V_iast (pc := 30) sC43 dX7_renew_30 h.1 ?_
    have h := h.2
    refine V_aload_n (pc := 31) dX7_renew_31 rfl ?_
    refine V_callVi [] (pc := 32) kX7_all lX7_36 sC9 rfl rfl (Nat.le_of_ble_eq_true rfl) rfl (Nat.le_of_ble_eq_true rfl) dX7_renew_32 ?_
    refine Ci.mono h ?_
    intro x2 M2 h
    refine V_istore_n (pc := 35) dX7_renew_35 (by decide) ?_
    refine V_lv (lv2 := [(0, .ref (G.2.1 9)), (1, .int x2)]) rfl ?_
    refine V_iconst (v := 1) (pc := 36) dX7_renew_36 rfl ?_
    refine V_istore_n (pc := 37) dX7_renew_37 (by decide) ?_
    refine V_lv (lv2 := [(0, .ref (G.2.1 9)), (1, .int x2), (2, .int 1)]) rfl ?_
    exact V_sub h ⟨rfl, rfl, rfl, trivial⟩
  · have h := h.2 c
    exact V_vret dX7_renew_7 rfl h
theorem wp_X7_renew_38 {G : GV} {k : Nat} {M : Mem} {q : Mem → Prop} {v1 : Int32} {v2 : Int32} (h : ((v1 ≤ v2 → ((v1 ≤ 0 → Cv shC G mX7_pickFirst (k + 4) [.ref (G.2.1 9)] M (fun M1 => q M1)) ∧ (¬ v1 ≤ 0 → Cv shC G mX7_partSet (k + 4) [.ref (G.2.1 9), .int v1] M (fun M2 => Cv shC G mX7_pickFirst (k + 4) [.ref (G.2.1 9)] M2 (fun M3 => q M3))))) ∧ (¬ v1 ≤ v2 → vp_in v2 4096 ∧ (((v2 &&& 1) ≠ 0 → V shC G mX7_renew (k + 5) 38 [(0, .ref (G.2.1 9)), (1, .int v1), (2, .int (v2 + 1))] [] (mset M 42 (ix v2) (vp_nar .byte 0)) (Qv q)) ∧ ((v2 &&& 1) = 0 → Cv shC G mX7_partSet (k + 4) [.ref (G.2.1 9), .int v2] (mset M 42 (ix v2) (vp_nar .byte 0)) (fun M4 => V shC G mX7_renew (k + 5) 38 [(0, .ref (G.2.1 9)), (1, .int v1), (2, .int (v2 + 1))] [] M4 (Qv q))))))) : V shC G mX7_renew (k + 5) 38 [(0, .ref (G.2.1 9)), (1, .int v1), (2, .int v2)] [] M (Qv q) := by
  refine V_iload_n (pc := 38) dX7_renew_38 rfl ?_
  refine V_iload_n (pc := 39) dX7_renew_39 rfl ?_
  refine V_icmp_ge (tgt := 67) (pc := 40) dX7_renew_40 rfl (fun c => ?_) (fun c => ?_)
  · have h := h.1 c
    refine V_iload_n (pc := 67) dX7_renew_67 rfl ?_
    refine V_if_le (tgt := 76) (pc := 68) dX7_renew_68 rfl (fun c => ?_) (fun c => ?_)
    · have h := h.1 c
      refine V_aload_n (pc := 76) dX7_renew_76 rfl ?_
      refine V_callVv [] (pc := 77) kX7_pickFirst lX7_72 sC9 rfl rfl (Nat.le_of_ble_eq_true rfl) rfl (Nat.le_of_ble_eq_true rfl) dX7_renew_77 ?_
      refine Cv.mono h ?_
      intro M1 h
      exact V_vret dX7_renew_80 rfl h
    · have h := h.2 c
      refine V_aload_n (pc := 71) dX7_renew_71 rfl ?_
      refine V_iload_n (pc := 72) dX7_renew_72 rfl ?_
      refine V_callVv [.int v1] (pc := 73) kX7_partSet lX7_65 sC9 rfl rfl (Nat.le_of_ble_eq_true rfl) rfl (Nat.le_of_ble_eq_true rfl) dX7_renew_73 ?_
      refine Cv.mono h ?_
      intro M2 h
      refine V_aload_n (pc := 76) dX7_renew_76 rfl ?_
      refine V_callVv [] (pc := 77) kX7_pickFirst lX7_72 sC9 rfl rfl (Nat.le_of_ble_eq_true rfl) rfl (Nat.le_of_ble_eq_true rfl) dX7_renew_77 ?_
      refine Cv.mono h ?_
      intro M3 h
      exact V_vret dX7_renew_80 rfl h
  · have h := h.2 c
    refine V_aload_n (pc := 43) dX7_renew_43 rfl ?_
    refine V_getR (pc := 44) fX7_18 sC9 rfl dX7_renew_44 ?_
    refine V_iload_n (pc := 47) dX7_renew_47 rfl ?_
    refine V_iconst (v := 0) (pc := 48) dX7_renew_48 rfl ?_
    refine V_bast (pc := 49) sC42 dX7_renew_49 h.1 ?_
    have h := h.2
    refine V_iload_n (pc := 50) dX7_renew_50 rfl ?_
    refine V_iconst (v := 1) (pc := 51) dX7_renew_51 rfl ?_
    refine V_iand (pc := 52) dX7_renew_52 ?_
    refine V_if_ne (tgt := 61) (pc := 53) dX7_renew_53 rfl (fun c => ?_) (fun c => ?_)
    · have h := h.1 c
      refine V_iinc (pc := 61) dX7_renew_61 rfl (by decide) ?_
      refine V_lv (lv2 := [(0, .ref (G.2.1 9)), (1, .int v1), (2, .int (v2 + 1))]) rfl ?_
      refine V_goto (tgt := 38) (pc := 64) dX7_renew_64 rfl ?_
      exact V_sub h ⟨rfl, rfl, rfl, trivial⟩
    · have h := h.2 c
      refine V_aload_n (pc := 56) dX7_renew_56 rfl ?_
      refine V_iload_n (pc := 57) dX7_renew_57 rfl ?_
      refine V_callVv [.int v2] (pc := 58) kX7_partSet lX7_65 sC9 rfl rfl (Nat.le_of_ble_eq_true rfl) rfl (Nat.le_of_ble_eq_true rfl) dX7_renew_58 ?_
      refine Cv.mono h ?_
      intro M4 h
      refine V_iinc (pc := 61) dX7_renew_61 rfl (by decide) ?_
      refine V_lv (lv2 := [(0, .ref (G.2.1 9)), (1, .int v1), (2, .int (v2 + 1))]) rfl ?_
      refine V_goto (tgt := 38) (pc := 64) dX7_renew_64 rfl ?_
      exact V_sub h ⟨rfl, rfl, rfl, trivial⟩
theorem wp_X7_countFewest {G : GV} {k : Nat} {M : Mem} {q : Int32 → Mem → Prop}  (h : Cv shC G mX7_renew (k + 5) [.ref (G.2.1 9)] M (fun M1 => Ci shC G mX7_all (k + 5) [.ref (G.2.1 9)] M1 (fun x2 M2 => vp_in x2 4096 ∧ q (M2.1 42 (ix x2)) M2))) : Ci shC G mX7_countFewest (k + 6) [.ref (G.2.1 9)] M q := by
  unfold Ci
  show V _ _ _ _ _ [(0, .ref (G.2.1 9))] _ _ _
  refine V_aload_n (pc := 0) dX7_countFewest_0 rfl ?_
  refine V_callVv [] (pc := 1) kX7_renew lX7_33 sC9 rfl rfl (Nat.le_of_ble_eq_true rfl) rfl (Nat.le_of_ble_eq_true rfl) dX7_countFewest_1 ?_
  refine Cv.mono h ?_
  intro M1 h
  refine V_aload_n (pc := 4) dX7_countFewest_4 rfl ?_
  refine V_getR (pc := 5) fX7_18 sC9 rfl dX7_countFewest_5 ?_
  refine V_aload_n (pc := 8) dX7_countFewest_8 rfl ?_
  refine V_callVi [] (pc := 9) kX7_all lX7_36 sC9 rfl rfl (Nat.le_of_ble_eq_true rfl) rfl (Nat.le_of_ble_eq_true rfl) dX7_countFewest_9 ?_
  refine Ci.mono h ?_
  intro x2 M2 h
  refine V_bald (pc := 12) sC42 dX7_countFewest_12 h.1 ?_
  have h := h.2
  exact V_iret dX7_countFewest_13 rfl h
theorem wp_X7_countRivals {G : GV} {k : Nat} {M : Mem} {q : Int32 → Mem → Prop}  (h : Cv shC G mX7_renew (k + 5) [.ref (G.2.1 9)] M (fun M1 => Ci shC G mX7_all (k + 5) [.ref (G.2.1 9)] M1 (fun x2 M2 => vp_in x2 4096 ∧ q (M2.1 43 (ix x2)) M2))) : Ci shC G mX7_countRivals (k + 6) [.ref (G.2.1 9)] M q := by
  unfold Ci
  show V _ _ _ _ _ [(0, .ref (G.2.1 9))] _ _ _
  refine V_aload_n (pc := 0) dX7_countRivals_0 rfl ?_
  refine V_callVv [] (pc := 1) kX7_renew lX7_33 sC9 rfl rfl (Nat.le_of_ble_eq_true rfl) rfl (Nat.le_of_ble_eq_true rfl) dX7_countRivals_1 ?_
  refine Cv.mono h ?_
  intro M1 h
  refine V_aload_n (pc := 4) dX7_countRivals_4 rfl ?_
  refine V_getR (pc := 5) fX7_22 sC9 rfl dX7_countRivals_5 ?_
  refine V_aload_n (pc := 8) dX7_countRivals_8 rfl ?_
  refine V_callVi [] (pc := 9) kX7_all lX7_36 sC9 rfl rfl (Nat.le_of_ble_eq_true rfl) rfl (Nat.le_of_ble_eq_true rfl) dX7_countRivals_9 ?_
  refine Ci.mono h ?_
  intro x2 M2 h
  refine V_iald (pc := 12) sC43 dX7_countRivals_12 h.1 ?_
  have h := h.2
  exact V_iret dX7_countRivals_13 rfl h
theorem wp_X7_linesOfGreatest {G : GV} {k : Nat} {M : Mem} {q : Int32 → Mem → Prop}  (h : Cv shC G mX7_renew (k + 5) [.ref (G.2.1 9)] M (fun M1 => V shC G mX7_linesOfGreatest (k + 6) 8 [(0, .ref (G.2.1 9)), (1, .int 0), (2, .int 0)] [] M1 (Qi q))) : Ci shC G mX7_linesOfGreatest (k + 6) [.ref (G.2.1 9)] M q := by
  unfold Ci
  show V _ _ _ _ _ [(0, .ref (G.2.1 9))] _ _ _
  refine V_aload_n (pc := 0) dX7_linesOfGreatest_0 rfl ?_
  refine V_callVv [] (pc := 1) kX7_renew lX7_33 sC9 rfl rfl (Nat.le_of_ble_eq_true rfl) rfl (Nat.le_of_ble_eq_true rfl) dX7_linesOfGreatest_1 ?_
  refine Cv.mono h ?_
  intro M1 h
  refine V_iconst (v := 0) (pc := 4) dX7_linesOfGreatest_4 rfl ?_
  refine V_istore_n (pc := 5) dX7_linesOfGreatest_5 (by decide) ?_
  refine V_lv (lv2 := [(0, .ref (G.2.1 9)), (1, .int 0)]) rfl ?_
  refine V_iconst (v := 0) (pc := 6) dX7_linesOfGreatest_6 rfl ?_
  refine V_istore_n (pc := 7) dX7_linesOfGreatest_7 (by decide) ?_
  refine V_lv (lv2 := [(0, .ref (G.2.1 9)), (1, .int 0), (2, .int 0)]) rfl ?_
  exact V_sub h ⟨rfl, rfl, rfl, trivial⟩
theorem wp_X7_linesOfGreatest_8 {G : GV} {k : Nat} {M : Mem} {q : Int32 → Mem → Prop} {v1 : Int32} {v2 : Int32} (h : (((M.1 6 8) ≤ v2 → q v1 M) ∧ (¬ (M.1 6 8) ≤ v2 → vp_in v2 12 ∧ Ci shC G mJ6_bitCount_0f7a4 (k + 5) [.int (M.1 41 (ix v2))] M (fun x1 M1 => V shC G mX7_linesOfGreatest (k + 6) 8 [(0, .ref (G.2.1 9)), (1, .int (if v1 < x1 then x1 else v1)), (2, .int (v2 + 1))] [] M1 (Qi q))))) : V shC G mX7_linesOfGreatest (k + 6) 8 [(0, .ref (G.2.1 9)), (1, .int v1), (2, .int v2)] [] M (Qi q) := by
  refine V_iload_n (pc := 8) dX7_linesOfGreatest_8 rfl ?_
  refine V_aload_n (pc := 9) dX7_linesOfGreatest_9 rfl ?_
  refine V_getR (pc := 10) fX7_29 sC9 rfl dX7_linesOfGreatest_10 ?_
  refine V_getI (pc := 13) fX7_40 sC6 rfl dX7_linesOfGreatest_13 ?_
  refine V_icmp_ge (tgt := 39) (pc := 16) dX7_linesOfGreatest_16 rfl (fun c => ?_) (fun c => ?_)
  · have h := h.1 c
    refine V_iload_n (pc := 39) dX7_linesOfGreatest_39 rfl ?_
    exact V_iret dX7_linesOfGreatest_40 rfl h
  · have h := h.2 c
    refine V_iload_n (pc := 19) dX7_linesOfGreatest_19 rfl ?_
    refine V_aload_n (pc := 20) dX7_linesOfGreatest_20 rfl ?_
    refine V_getR (pc := 21) fX7_15 sC9 rfl dX7_linesOfGreatest_21 ?_
    refine V_iload_n (pc := 24) dX7_linesOfGreatest_24 rfl ?_
    refine V_iald (pc := 25) sC41 dX7_linesOfGreatest_25 h.1 ?_
    have h := h.2
    refine V_callSi [.int (M.1 41 (ix v2))] (pc := 26) kJ6_bitCount_0f7a4 lX7_46 rfl (Nat.le_of_ble_eq_true rfl) rfl (Nat.le_of_ble_eq_true rfl) dX7_linesOfGreatest_26 ?_
    refine Ci.mono h ?_
    intro x1 M1 h
    refine V_mmax (pc := 29) dX7_linesOfGreatest_29 lX7_52 (Nat.le_of_ble_eq_true rfl) ?_
    refine V_istore_n (pc := 32) dX7_linesOfGreatest_32 (by decide) ?_
    refine V_lv (lv2 := [(0, .ref (G.2.1 9)), (1, .int (if v1 < x1 then x1 else v1)), (2, .int v2)]) rfl ?_
    refine V_iinc (pc := 33) dX7_linesOfGreatest_33 rfl (by decide) ?_
    refine V_lv (lv2 := [(0, .ref (G.2.1 9)), (1, .int (if v1 < x1 then x1 else v1)), (2, .int (v2 + 1))]) rfl ?_
    refine V_goto (tgt := 8) (pc := 36) dX7_linesOfGreatest_36 rfl ?_
    exact V_sub h ⟨rfl, rfl, rfl, trivial⟩
theorem wp_X7_personOf {G : GV} {k : Nat} {M : Mem} {q : Int32 → Mem → Prop} {v1 : Int32} (h : Cv shC G mX7_renew (k + 5) [.ref (G.2.1 9)] M (fun M1 => vp_in v1 12 ∧ q (M1.1 41 (ix v1)) M1)) : Ci shC G mX7_personOf (k + 6) [.ref (G.2.1 9), .int v1] M q := by
  unfold Ci
  show V _ _ _ _ _ [(0, .ref (G.2.1 9)), (1, .int v1)] _ _ _
  refine V_aload_n (pc := 0) dX7_personOf_0 rfl ?_
  refine V_callVv [] (pc := 1) kX7_renew lX7_33 sC9 rfl rfl (Nat.le_of_ble_eq_true rfl) rfl (Nat.le_of_ble_eq_true rfl) dX7_personOf_1 ?_
  refine Cv.mono h ?_
  intro M1 h
  refine V_aload_n (pc := 4) dX7_personOf_4 rfl ?_
  refine V_getR (pc := 5) fX7_15 sC9 rfl dX7_personOf_5 ?_
  refine V_iload_n (pc := 8) dX7_personOf_8 rfl ?_
  refine V_iald (pc := 9) sC41 dX7_personOf_9 h.1 ?_
  have h := h.2
  exact V_iret dX7_personOf_10 rfl h
theorem wp_X7_rivalsWithBoth {G : GV} {k : Nat} {M : Mem} {q : Int32 → Mem → Prop} {v1 : Int32} {v2 : Int32} (h : Cv shC G mX7_renew (k + 5) [.ref (G.2.1 9)] M (fun M1 => ((v1 ≠ v2 → vp_in v1 12 ∧ vp_in v2 12 ∧ Ci shC G mX7_rivalsWith (k + 5) [.ref (G.2.1 9), .int ((1 <<< (v1 &&& 31)) ||| (1 <<< (v2 &&& 31)))] M1 (fun x2 M2 => V shC G mX7_rivalsWithBoth (k + 6) 57 [(0, .ref (G.2.1 9)), (1, .int v1), (2, .int v2), (3, .int ((1 <<< (v1 &&& 31)) ||| (1 <<< (v2 &&& 31)))), (4, .int (((M1.1 40 (ix v1)) &&& (M1.1 40 (ix v2))) &&& (((1 <<< (v1 &&& 31)) ||| (1 <<< (v2 &&& 31))) ^^^ (-1)))), (5, .int x2), (6, .int (((M1.1 40 (ix v1)) &&& (M1.1 40 (ix v2))) &&& (((1 <<< (v1 &&& 31)) ||| (1 <<< (v2 &&& 31))) ^^^ (-1))))] [] M2 (Qi q))) ∧ (v1 = v2 → Ci shC G mX7_all (k + 5) [.ref (G.2.1 9)] M1 (fun x3 M3 => vp_in x3 4096 ∧ q (M3.1 43 (ix x3)) M3))))) : Ci shC G mX7_rivalsWithBoth (k + 6) [.ref (G.2.1 9), .int v1, .int v2] M q := by
  unfold Ci
  show V _ _ _ _ _ [(0, .ref (G.2.1 9)), (1, .int v1), (2, .int v2)] _ _ _
  refine V_aload_n (pc := 0) dX7_rivalsWithBoth_0 rfl ?_
  refine V_callVv [] (pc := 1) kX7_renew lX7_33 sC9 rfl rfl (Nat.le_of_ble_eq_true rfl) rfl (Nat.le_of_ble_eq_true rfl) dX7_rivalsWithBoth_1 ?_
  refine Cv.mono h ?_
  intro M1 h
  refine V_iload_n (pc := 4) dX7_rivalsWithBoth_4 rfl ?_
  refine V_iload_n (pc := 5) dX7_rivalsWithBoth_5 rfl ?_
  refine V_icmp_ne (tgt := 19) (pc := 6) dX7_rivalsWithBoth_6 rfl (fun c => ?_) (fun c => ?_)
  · have h := h.1 c
    refine V_iconst (v := 1) (pc := 19) dX7_rivalsWithBoth_19 rfl ?_
    refine V_iload_n (pc := 20) dX7_rivalsWithBoth_20 rfl ?_
    refine V_ishl (pc := 21) dX7_rivalsWithBoth_21 ?_
    refine V_iconst (v := 1) (pc := 22) dX7_rivalsWithBoth_22 rfl ?_
    refine V_iload_n (pc := 23) dX7_rivalsWithBoth_23 rfl ?_
    refine V_ishl (pc := 24) dX7_rivalsWithBoth_24 ?_
    refine V_ior (pc := 25) dX7_rivalsWithBoth_25 ?_
    refine V_istore_n (pc := 26) dX7_rivalsWithBoth_26 (by decide) ?_
    refine V_lv (lv2 := [(0, .ref (G.2.1 9)), (1, .int v1), (2, .int v2), (3, .int ((1 <<< (v1 &&& 31)) ||| (1 <<< (v2 &&& 31))))]) rfl ?_
    refine V_aload_n (pc := 27) dX7_rivalsWithBoth_27 rfl ?_
    refine V_getR (pc := 28) fX7_9 sC9 rfl dX7_rivalsWithBoth_28 ?_
    refine V_iload_n (pc := 31) dX7_rivalsWithBoth_31 rfl ?_
    refine V_iald (pc := 32) sC40 dX7_rivalsWithBoth_32 h.1 ?_
    have h := h.2
    refine V_aload_n (pc := 33) dX7_rivalsWithBoth_33 rfl ?_
    refine V_getR (pc := 34) fX7_9 sC9 rfl dX7_rivalsWithBoth_34 ?_
    refine V_iload_n (pc := 37) dX7_rivalsWithBoth_37 rfl ?_
    refine V_iald (pc := 38) sC40 dX7_rivalsWithBoth_38 h.1 ?_
    have h := h.2
    refine V_iand (pc := 39) dX7_rivalsWithBoth_39 ?_
    refine V_iload_n (pc := 40) dX7_rivalsWithBoth_40 rfl ?_
    refine V_iconst (v := (-1)) (pc := 41) dX7_rivalsWithBoth_41 rfl ?_
    refine V_ixor (pc := 42) dX7_rivalsWithBoth_42 ?_
    refine V_iand (pc := 43) dX7_rivalsWithBoth_43 ?_
    refine V_istore (pc := 44) dX7_rivalsWithBoth_44 (by decide) ?_
    refine V_lv (lv2 := [(0, .ref (G.2.1 9)), (1, .int v1), (2, .int v2), (3, .int ((1 <<< (v1 &&& 31)) ||| (1 <<< (v2 &&& 31)))), (4, .int (((M1.1 40 (ix v1)) &&& (M1.1 40 (ix v2))) &&& (((1 <<< (v1 &&& 31)) ||| (1 <<< (v2 &&& 31))) ^^^ (-1))))]) rfl ?_
    refine V_aload_n (pc := 46) dX7_rivalsWithBoth_46 rfl ?_
    refine V_iload_n (pc := 47) dX7_rivalsWithBoth_47 rfl ?_
    refine V_callVi [.int ((1 <<< (v1 &&& 31)) ||| (1 <<< (v2 &&& 31)))] (pc := 48) kX7_rivalsWith lX7_58 sC9 rfl rfl (Nat.le_of_ble_eq_true rfl) rfl (Nat.le_of_ble_eq_true rfl) dX7_rivalsWithBoth_48 ?_
    refine Ci.mono h ?_
    intro x2 M2 h
    refine V_istore (pc := 51) dX7_rivalsWithBoth_51 (by decide) ?_
    refine V_lv (lv2 := [(0, .ref (G.2.1 9)), (1, .int v1), (2, .int v2), (3, .int ((1 <<< (v1 &&& 31)) ||| (1 <<< (v2 &&& 31)))), (4, .int (((M1.1 40 (ix v1)) &&& (M1.1 40 (ix v2))) &&& (((1 <<< (v1 &&& 31)) ||| (1 <<< (v2 &&& 31))) ^^^ (-1)))), (5, .int x2)]) rfl ?_
    refine V_iload (pc := 53) dX7_rivalsWithBoth_53 rfl ?_
    refine V_istore (pc := 55) dX7_rivalsWithBoth_55 (by decide) ?_
    refine V_lv (lv2 := [(0, .ref (G.2.1 9)), (1, .int v1), (2, .int v2), (3, .int ((1 <<< (v1 &&& 31)) ||| (1 <<< (v2 &&& 31)))), (4, .int (((M1.1 40 (ix v1)) &&& (M1.1 40 (ix v2))) &&& (((1 <<< (v1 &&& 31)) ||| (1 <<< (v2 &&& 31))) ^^^ (-1)))), (5, .int x2), (6, .int (((M1.1 40 (ix v1)) &&& (M1.1 40 (ix v2))) &&& (((1 <<< (v1 &&& 31)) ||| (1 <<< (v2 &&& 31))) ^^^ (-1))))]) rfl ?_
    exact V_sub h ⟨rfl, rfl, rfl, rfl, rfl, rfl, rfl, trivial⟩
  · have h := h.2 c
    refine V_aload_n (pc := 9) dX7_rivalsWithBoth_9 rfl ?_
    refine V_getR (pc := 10) fX7_22 sC9 rfl dX7_rivalsWithBoth_10 ?_
    refine V_aload_n (pc := 13) dX7_rivalsWithBoth_13 rfl ?_
    refine V_callVi [] (pc := 14) kX7_all lX7_36 sC9 rfl rfl (Nat.le_of_ble_eq_true rfl) rfl (Nat.le_of_ble_eq_true rfl) dX7_rivalsWithBoth_14 ?_
    refine Ci.mono h ?_
    intro x3 M3 h
    refine V_iald (pc := 17) sC43 dX7_rivalsWithBoth_17 h.1 ?_
    have h := h.2
    exact V_iret dX7_rivalsWithBoth_18 rfl h
theorem wp_X7_rivalsWithBoth_57 {G : GV} {k : Nat} {M : Mem} {q : Int32 → Mem → Prop} {v1 : Int32} {v2 : Int32} {v3 : Int32} {v4 : Int32} {v5 : Int32} {v6 : Int32} (h : ((v6 ≤ 0 → q v5 M) ∧ (¬ v6 ≤ 0 → Ci shC G mX7_rivalsWith (k + 5) [.ref (G.2.1 9), .int (v3 ||| v6)] M (fun x1 M1 => V shC G mX7_rivalsWithBoth (k + 6) 57 [(0, .ref (G.2.1 9)), (1, .int v1), (2, .int v2), (3, .int v3), (4, .int v4), (5, .int (v5 + x1)), (6, .int ((v6 - 1) &&& v4))] [] M1 (Qi q))))) : V shC G mX7_rivalsWithBoth (k + 6) 57 [(0, .ref (G.2.1 9)), (1, .int v1), (2, .int v2), (3, .int v3), (4, .int v4), (5, .int v5), (6, .int v6)] [] M (Qi q) := by
  refine V_iload (pc := 57) dX7_rivalsWithBoth_57 rfl ?_
  refine V_if_le (tgt := 87) (pc := 59) dX7_rivalsWithBoth_59 rfl (fun c => ?_) (fun c => ?_)
  · have h := h.1 c
    refine V_iload (pc := 87) dX7_rivalsWithBoth_87 rfl ?_
    exact V_iret dX7_rivalsWithBoth_89 rfl h
  · have h := h.2 c
    refine V_iload (pc := 62) dX7_rivalsWithBoth_62 rfl ?_
    refine V_aload_n (pc := 64) dX7_rivalsWithBoth_64 rfl ?_
    refine V_iload_n (pc := 65) dX7_rivalsWithBoth_65 rfl ?_
    refine V_iload (pc := 66) dX7_rivalsWithBoth_66 rfl ?_
    refine V_ior (pc := 68) dX7_rivalsWithBoth_68 ?_
    refine V_callVi [.int (v3 ||| v6)] (pc := 69) kX7_rivalsWith lX7_58 sC9 rfl rfl (Nat.le_of_ble_eq_true rfl) rfl (Nat.le_of_ble_eq_true rfl) dX7_rivalsWithBoth_69 ?_
    refine Ci.mono h ?_
    intro x1 M1 h
    refine V_iadd (pc := 72) dX7_rivalsWithBoth_72 ?_
    refine V_istore (pc := 73) dX7_rivalsWithBoth_73 (by decide) ?_
    refine V_lv (lv2 := [(0, .ref (G.2.1 9)), (1, .int v1), (2, .int v2), (3, .int v3), (4, .int v4), (5, .int (v5 + x1)), (6, .int v6)]) rfl ?_
    refine V_iload (pc := 75) dX7_rivalsWithBoth_75 rfl ?_
    refine V_iconst (v := 1) (pc := 77) dX7_rivalsWithBoth_77 rfl ?_
    refine V_isub (pc := 78) dX7_rivalsWithBoth_78 ?_
    refine V_iload (pc := 79) dX7_rivalsWithBoth_79 rfl ?_
    refine V_iand (pc := 81) dX7_rivalsWithBoth_81 ?_
    refine V_istore (pc := 82) dX7_rivalsWithBoth_82 (by decide) ?_
    refine V_lv (lv2 := [(0, .ref (G.2.1 9)), (1, .int v1), (2, .int v2), (3, .int v3), (4, .int v4), (5, .int (v5 + x1)), (6, .int ((v6 - 1) &&& v4))]) rfl ?_
    refine V_goto (tgt := 57) (pc := 84) dX7_rivalsWithBoth_84 rfl ?_
    exact V_sub h ⟨rfl, rfl, rfl, rfl, rfl, rfl, rfl, trivial⟩
