theorem wp_X8_fail {G : GV} {k : Nat} {M : Mem} {q : Int32 → Mem → Prop} {v1 : Int32} (h : q 0 (mset (mset M 8 6 v1) 8 7 (M.1 2 3))) : Ci shC G mX8_fail k [.ref (G.2.1 8), .int v1] M q := by
  unfold Ci
  show V _ _ _ _ _ [(0, .ref (G.2.1 8)), (1, .int v1)] _ _ _
  refine V_aload_n (pc := 0) dX8_fail_0 rfl ?_
  refine V_iload_n (pc := 1) dX8_fail_1 rfl ?_
  refine V_putI (pc := 2) fX8_174 p8_6 sC8 rfl dX8_fail_2 ?_
  refine V_aload_n (pc := 5) dX8_fail_5 rfl ?_
  refine V_aload_n (pc := 6) dX8_fail_6 rfl ?_
  refine V_getR (pc := 7) fX8_9 sC8 rfl dX8_fail_7 ?_
  refine V_getI (pc := 10) fX8_177 sC2 rfl dX8_fail_10 ?_
  refine V_top (v := (M.1 2 3)) (by simp [mset, lset, upd]) ?_
  refine V_putI (pc := 13) fX8_180 p8_7 sC8 rfl dX8_fail_13 ?_
  refine V_iconst (v := 0) (pc := 16) dX8_fail_16 rfl ?_
  exact V_zret dX8_fail_17 rfl (Or.inl rfl) h
theorem wp_X8_beginPart {G : GV} {k : Nat} {M : Mem} {q : Int32 → Mem → Prop} {v1 : Int32} (h : ((v1 ≠ 0 → Cv shC G mX10_step (k + 1) [.ref (G.2.1 2)] M (fun M1 => q 1 M1)) ∧ (v1 = 0 → Ci shC G mX8_fail (k + 1) [.ref (G.2.1 8), .int 3] M (fun x2 M2 => (x2 = 0 ∨ x2 = 1) ∧ q x2 M2)))) : Ci shC G mX8_beginPart (k + 2) [.ref (G.2.1 8), .int v1] M q := by
  unfold Ci
  show V _ _ _ _ _ [(0, .ref (G.2.1 8)), (1, .int v1)] _ _ _
  refine V_iload_n (pc := 0) dX8_beginPart_0 rfl ?_
  refine V_if_ne (tgt := 10) (pc := 1) dX8_beginPart_1 rfl (fun c => ?_) (fun c => ?_)
  · have h := h.1 c
    refine V_aload_n (pc := 10) dX8_beginPart_10 rfl ?_
    refine V_getR (pc := 11) fX8_9 sC8 rfl dX8_beginPart_11 ?_
    refine V_callVv [] (pc := 14) kX10_step lX8_96 sC2 rfl rfl (Nat.le_of_ble_eq_true rfl) rfl (Nat.le_of_ble_eq_true rfl) dX8_beginPart_14 ?_
    refine Cv.mono h ?_
    intro M1 h
    refine V_iconst (v := 1) (pc := 17) dX8_beginPart_17 rfl ?_
    exact V_zret dX8_beginPart_18 rfl (Or.inr rfl) h
  · have h := h.2 c
    refine V_aload_n (pc := 4) dX8_beginPart_4 rfl ?_
    refine V_iconst (v := 3) (pc := 5) dX8_beginPart_5 rfl ?_
    refine V_callVi [.int 3] (pc := 6) kX8_fail lX8_92 sC8 rfl rfl (Nat.le_of_ble_eq_true rfl) rfl (Nat.le_of_ble_eq_true rfl) dX8_beginPart_6 ?_
    refine Ci.mono h ?_
    intro x2 M2 h
    exact V_zret dX8_beginPart_9 rfl h.1 h.2
theorem wp_X8_takeName {G : GV} {k : Nat} {M : Mem} {q : Int32 → Mem → Prop} {v1 : Int32} (h : (((M.1 2 2) = 1 → Ci shC G mX10_letters (k + 1) [.ref (G.2.1 2)] M (fun x1 M1 => ((x1 ≤ 8 → Cv shC G mX5_tell (k + 1) [.ref (G.2.1 7), .int v1, .ref (G.2.1 2)] M1 (fun M2 => Cv shC G mX10_step (k + 1) [.ref (G.2.1 2)] M2 (fun M3 => q 1 M3))) ∧ (¬ x1 ≤ 8 → Ci shC G mX8_fail (k + 1) [.ref (G.2.1 8), .int 2] M1 (fun x4 M4 => (x4 = 0 ∨ x4 = 1) ∧ q x4 M4))))) ∧ (¬ (M.1 2 2) = 1 → Ci shC G mX8_fail (k + 1) [.ref (G.2.1 8), .int 1] M (fun x5 M5 => (x5 = 0 ∨ x5 = 1) ∧ q x5 M5)))) : Ci shC G mX8_takeName (k + 2) [.ref (G.2.1 8), .int v1] M q := by
  unfold Ci
  show V _ _ _ _ _ [(0, .ref (G.2.1 8)), (1, .int v1)] _ _ _
  refine V_aload_n (pc := 0) dX8_takeName_0 rfl ?_
  refine V_getR (pc := 1) fX8_9 sC8 rfl dX8_takeName_1 ?_
  refine V_getI (pc := 4) fX8_57 sC2 rfl dX8_takeName_4 ?_
  refine V_iconst (v := 1) (pc := 7) dX8_takeName_7 rfl ?_
  refine V_icmp_eq (tgt := 17) (pc := 8) dX8_takeName_8 rfl (fun c => ?_) (fun c => ?_)
  · have h := h.1 c
    refine V_aload_n (pc := 17) dX8_takeName_17 rfl ?_
    refine V_getR (pc := 18) fX8_9 sC8 rfl dX8_takeName_18 ?_
    refine V_callVi [] (pc := 21) kX10_letters lX8_160 sC2 rfl rfl (Nat.le_of_ble_eq_true rfl) rfl (Nat.le_of_ble_eq_true rfl) dX8_takeName_21 ?_
    refine Ci.mono h ?_
    intro x1 M1 h
    refine V_bipush (v := 8) (pc := 24) dX8_takeName_24 rfl ?_
    refine V_icmp_le (tgt := 35) (pc := 26) dX8_takeName_26 rfl (fun c => ?_) (fun c => ?_)
    · have h := h.1 c
      refine V_aload_n (pc := 35) dX8_takeName_35 rfl ?_
      refine V_getR (pc := 36) fX8_19 sC8 rfl dX8_takeName_36 ?_
      refine V_getR (pc := 39) fX8_163 sC6 rfl dX8_takeName_39 ?_
      refine V_iload_n (pc := 42) dX8_takeName_42 rfl ?_
      refine V_aload_n (pc := 43) dX8_takeName_43 rfl ?_
      refine V_getR (pc := 44) fX8_9 sC8 rfl dX8_takeName_44 ?_
      refine V_callVv [.int v1, .ref (G.2.1 2)] (pc := 47) kX5_tell lX8_167 sC7 rfl rfl (Nat.le_of_ble_eq_true rfl) rfl (Nat.le_of_ble_eq_true rfl) dX8_takeName_47 ?_
      refine Cv.mono h ?_
      intro M2 h
      refine V_aload_n (pc := 50) dX8_takeName_50 rfl ?_
      refine V_getR (pc := 51) fX8_9 sC8 rfl dX8_takeName_51 ?_
      refine V_callVv [] (pc := 54) kX10_step lX8_96 sC2 rfl rfl (Nat.le_of_ble_eq_true rfl) rfl (Nat.le_of_ble_eq_true rfl) dX8_takeName_54 ?_
      refine Cv.mono h ?_
      intro M3 h
      refine V_iconst (v := 1) (pc := 57) dX8_takeName_57 rfl ?_
      exact V_zret dX8_takeName_58 rfl (Or.inr rfl) h
    · have h := h.2 c
      refine V_aload_n (pc := 29) dX8_takeName_29 rfl ?_
      refine V_iconst (v := 2) (pc := 30) dX8_takeName_30 rfl ?_
      refine V_callVi [.int 2] (pc := 31) kX8_fail lX8_92 sC8 rfl rfl (Nat.le_of_ble_eq_true rfl) rfl (Nat.le_of_ble_eq_true rfl) dX8_takeName_31 ?_
      refine Ci.mono h ?_
      intro x4 M4 h
      exact V_zret dX8_takeName_34 rfl h.1 h.2
  · have h := h.2 c
    refine V_aload_n (pc := 11) dX8_takeName_11 rfl ?_
    refine V_iconst (v := 1) (pc := 12) dX8_takeName_12 rfl ?_
    refine V_callVi [.int 1] (pc := 13) kX8_fail lX8_92 sC8 rfl rfl (Nat.le_of_ble_eq_true rfl) rfl (Nat.le_of_ble_eq_true rfl) dX8_takeName_13 ?_
    refine Ci.mono h ?_
    intro x5 M5 h
    exact V_zret dX8_takeName_16 rfl h.1 h.2
theorem wp_X8_takeNumber {G : GV} {k : Nat} {M : Mem} {q : Int32 → Mem → Prop} {v1 : Int32} {v2 : Int32} (h : (((M.1 2 2) = 2 → Ci shC G mX10_number (k + 1) [.ref (G.2.1 2)] M (fun x1 M1 => ((x1 < v1 → Ci shC G mX8_fail (k + 1) [.ref (G.2.1 8), .int 2] (mset M1 8 5 x1) (fun x2 M2 => (x2 = 0 ∨ x2 = 1) ∧ q x2 M2)) ∧ (¬ x1 < v1 → ((x1 ≤ v2 → Cv shC G mX10_step (k + 1) [.ref (G.2.1 2)] (mset M1 8 5 x1) (fun M3 => q 1 M3)) ∧ (¬ x1 ≤ v2 → Ci shC G mX8_fail (k + 1) [.ref (G.2.1 8), .int 2] (mset M1 8 5 x1) (fun x4 M4 => (x4 = 0 ∨ x4 = 1) ∧ q x4 M4))))))) ∧ (¬ (M.1 2 2) = 2 → Ci shC G mX8_fail (k + 1) [.ref (G.2.1 8), .int 1] M (fun x5 M5 => (x5 = 0 ∨ x5 = 1) ∧ q x5 M5)))) : Ci shC G mX8_takeNumber (k + 2) [.ref (G.2.1 8), .int v1, .int v2] M q := by
  unfold Ci
  show V _ _ _ _ _ [(0, .ref (G.2.1 8)), (1, .int v1), (2, .int v2)] _ _ _
  refine V_aload_n (pc := 0) dX8_takeNumber_0 rfl ?_
  refine V_getR (pc := 1) fX8_9 sC8 rfl dX8_takeNumber_1 ?_
  refine V_getI (pc := 4) fX8_57 sC2 rfl dX8_takeNumber_4 ?_
  refine V_iconst (v := 2) (pc := 7) dX8_takeNumber_7 rfl ?_
  refine V_icmp_eq (tgt := 17) (pc := 8) dX8_takeNumber_8 rfl (fun c => ?_) (fun c => ?_)
  · have h := h.1 c
    refine V_aload_n (pc := 17) dX8_takeNumber_17 rfl ?_
    refine V_aload_n (pc := 18) dX8_takeNumber_18 rfl ?_
    refine V_getR (pc := 19) fX8_9 sC8 rfl dX8_takeNumber_19 ?_
    refine V_callVi [] (pc := 22) kX10_number lX8_143 sC2 rfl rfl (Nat.le_of_ble_eq_true rfl) rfl (Nat.le_of_ble_eq_true rfl) dX8_takeNumber_22 ?_
    refine Ci.mono h ?_
    intro x1 M1 h
    refine V_putI (pc := 25) fX8_103 p8_5 sC8 rfl dX8_takeNumber_25 ?_
    refine V_aload_n (pc := 28) dX8_takeNumber_28 rfl ?_
    refine V_getI (pc := 29) fX8_103 sC8 rfl dX8_takeNumber_29 ?_
    refine V_top (v := x1) (by simp [mset, lset, upd]) ?_
    refine V_iload_n (pc := 32) dX8_takeNumber_32 rfl ?_
    refine V_icmp_lt (tgt := 44) (pc := 33) dX8_takeNumber_33 rfl (fun c => ?_) (fun c => ?_)
    · have h := h.1 c
      refine V_aload_n (pc := 44) dX8_takeNumber_44 rfl ?_
      refine V_iconst (v := 2) (pc := 45) dX8_takeNumber_45 rfl ?_
      refine V_callVi [.int 2] (pc := 46) kX8_fail lX8_92 sC8 rfl rfl (Nat.le_of_ble_eq_true rfl) rfl (Nat.le_of_ble_eq_true rfl) dX8_takeNumber_46 ?_
      refine Ci.mono h ?_
      intro x2 M2 h
      exact V_zret dX8_takeNumber_49 rfl h.1 h.2
    · have h := h.2 c
      refine V_aload_n (pc := 36) dX8_takeNumber_36 rfl ?_
      refine V_getI (pc := 37) fX8_103 sC8 rfl dX8_takeNumber_37 ?_
      refine V_top (v := x1) (by simp [mset, lset, upd]) ?_
      refine V_iload_n (pc := 40) dX8_takeNumber_40 rfl ?_
      refine V_icmp_le (tgt := 50) (pc := 41) dX8_takeNumber_41 rfl (fun c => ?_) (fun c => ?_)
      · have h := h.1 c
        refine V_aload_n (pc := 50) dX8_takeNumber_50 rfl ?_
        refine V_getR (pc := 51) fX8_9 sC8 rfl dX8_takeNumber_51 ?_
        refine V_callVv [] (pc := 54) kX10_step lX8_96 sC2 rfl rfl (Nat.le_of_ble_eq_true rfl) rfl (Nat.le_of_ble_eq_true rfl) dX8_takeNumber_54 ?_
        refine Cv.mono h ?_
        intro M3 h
        refine V_iconst (v := 1) (pc := 57) dX8_takeNumber_57 rfl ?_
        exact V_zret dX8_takeNumber_58 rfl (Or.inr rfl) h
      · have h := h.2 c
        refine V_aload_n (pc := 44) dX8_takeNumber_44 rfl ?_
        refine V_iconst (v := 2) (pc := 45) dX8_takeNumber_45 rfl ?_
        refine V_callVi [.int 2] (pc := 46) kX8_fail lX8_92 sC8 rfl rfl (Nat.le_of_ble_eq_true rfl) rfl (Nat.le_of_ble_eq_true rfl) dX8_takeNumber_46 ?_
        refine Ci.mono h ?_
        intro x4 M4 h
        exact V_zret dX8_takeNumber_49 rfl h.1 h.2
  · have h := h.2 c
    refine V_aload_n (pc := 11) dX8_takeNumber_11 rfl ?_
    refine V_iconst (v := 1) (pc := 12) dX8_takeNumber_12 rfl ?_
    refine V_callVi [.int 1] (pc := 13) kX8_fail lX8_92 sC8 rfl rfl (Nat.le_of_ble_eq_true rfl) rfl (Nat.le_of_ble_eq_true rfl) dX8_takeNumber_13 ?_
    refine Ci.mono h ?_
    intro x5 M5 h
    exact V_zret dX8_takeNumber_16 rfl h.1 h.2
theorem wp_X8_takeSign {G : GV} {k : Nat} {M : Mem} {q : Int32 → Mem → Prop}  (h : (((M.1 2 2) = 3 → Cv shC G mX10_step (k + 1) [.ref (G.2.1 2)] M (fun M1 => q 1 M1)) ∧ (¬ (M.1 2 2) = 3 → Ci shC G mX8_fail (k + 1) [.ref (G.2.1 8), .int 1] M (fun x2 M2 => (x2 = 0 ∨ x2 = 1) ∧ q x2 M2)))) : Ci shC G mX8_takeSign (k + 2) [.ref (G.2.1 8)] M q := by
  unfold Ci
  show V _ _ _ _ _ [(0, .ref (G.2.1 8))] _ _ _
  refine V_aload_n (pc := 0) dX8_takeSign_0 rfl ?_
  refine V_getR (pc := 1) fX8_9 sC8 rfl dX8_takeSign_1 ?_
  refine V_getI (pc := 4) fX8_57 sC2 rfl dX8_takeSign_4 ?_
  refine V_iconst (v := 3) (pc := 7) dX8_takeSign_7 rfl ?_
  refine V_icmp_eq (tgt := 17) (pc := 8) dX8_takeSign_8 rfl (fun c => ?_) (fun c => ?_)
  · have h := h.1 c
    refine V_aload_n (pc := 17) dX8_takeSign_17 rfl ?_
    refine V_getR (pc := 18) fX8_9 sC8 rfl dX8_takeSign_18 ?_
    refine V_callVv [] (pc := 21) kX10_step lX8_96 sC2 rfl rfl (Nat.le_of_ble_eq_true rfl) rfl (Nat.le_of_ble_eq_true rfl) dX8_takeSign_21 ?_
    refine Cv.mono h ?_
    intro M1 h
    refine V_iconst (v := 1) (pc := 24) dX8_takeSign_24 rfl ?_
    exact V_zret dX8_takeSign_25 rfl (Or.inr rfl) h
  · have h := h.2 c
    refine V_aload_n (pc := 11) dX8_takeSign_11 rfl ?_
    refine V_iconst (v := 1) (pc := 12) dX8_takeSign_12 rfl ?_
    refine V_callVi [.int 1] (pc := 13) kX8_fail lX8_92 sC8 rfl rfl (Nat.le_of_ble_eq_true rfl) rfl (Nat.le_of_ble_eq_true rfl) dX8_takeSign_13 ?_
    refine Ci.mono h ?_
    intro x2 M2 h
    exact V_zret dX8_takeSign_16 rfl h.1 h.2
theorem wp_X8_readBook {G : GV} {k : Nat} {M : Mem} {q : Int32 → Mem → Prop}  (h : Ci shC G mX8_takeNumber (k + 2) [.ref (G.2.1 8), .int 1, .int 9998] M (fun x1 M1 => ((x1 ≠ 0 → Ci shC G mX8_takeNumber (k + 2) [.ref (G.2.1 8), .int 0, .int (if ((M1.1 8 5) - 1) < 9 then ((M1.1 8 5) - 1) else 9)] M1 (fun x2 M2 => ((x2 ≠ 0 → Ci shC G mX8_takeNumber (k + 2) [.ref (G.2.1 8), .int 1, .int 99] M2 (fun x3 M3 => ((x3 ≠ 0 → Ci shC G mX8_takeSign (k + 2) [.ref (G.2.1 8)] M3 (fun x4 M4 => ((x4 ≠ 0 → Cv shC G mX1_tell (k + 2) [.ref (G.2.1 3), .int ((M1.1 8 5) - (M2.1 8 5)), .int (M3.1 8 5)] M4 (fun M5 => q 1 M5)) ∧ (x4 = 0 → q 0 M4)))) ∧ (x3 = 0 → q 0 M3)))) ∧ (x2 = 0 → q 0 M2)))) ∧ (x1 = 0 → q 0 M1)))) : Ci shC G mX8_readBook (k + 3) [.ref (G.2.1 8)] M q := by
  unfold Ci
  show V _ _ _ _ _ [(0, .ref (G.2.1 8))] _ _ _
  refine V_aload_n (pc := 0) dX8_readBook_0 rfl ?_
  refine V_iconst (v := 1) (pc := 1) dX8_readBook_1 rfl ?_
  refine V_sipush (v := 9998) (pc := 2) dX8_readBook_2 rfl ?_
  refine V_callVi [.int 1, .int 9998] (pc := 5) kX8_takeNumber lX8_99 sC8 rfl rfl (Nat.le_of_ble_eq_true rfl) rfl (Nat.le_of_ble_eq_true rfl) dX8_readBook_5 ?_
  refine Ci.mono h ?_
  intro x1 M1 h
  refine V_if_ne (tgt := 13) (pc := 8) dX8_readBook_8 rfl (fun c => ?_) (fun c => ?_)
  · have h := h.1 c
    refine V_aload_n (pc := 13) dX8_readBook_13 rfl ?_
    refine V_getI (pc := 14) fX8_103 sC8 rfl dX8_readBook_14 ?_
    refine V_istore_n (pc := 17) dX8_readBook_17 (by decide) ?_
    refine V_lv (lv2 := [(0, .ref (G.2.1 8)), (1, .int (M1.1 8 5))]) rfl ?_
    refine V_aload_n (pc := 18) dX8_readBook_18 rfl ?_
    refine V_iconst (v := 0) (pc := 19) dX8_readBook_19 rfl ?_
    refine V_bipush (v := 9) (pc := 20) dX8_readBook_20 rfl ?_
    refine V_iload_n (pc := 22) dX8_readBook_22 rfl ?_
    refine V_iconst (v := 1) (pc := 23) dX8_readBook_23 rfl ?_
    refine V_isub (pc := 24) dX8_readBook_24 ?_
    refine V_mmin (pc := 25) dX8_readBook_25 lX8_106 (Nat.le_of_ble_eq_true rfl) ?_
    refine V_callVi [.int 0, .int (if ((M1.1 8 5) - 1) < 9 then ((M1.1 8 5) - 1) else 9)] (pc := 28) kX8_takeNumber lX8_99 sC8 rfl rfl (Nat.le_of_ble_eq_true rfl) rfl (Nat.le_of_ble_eq_true rfl) dX8_readBook_28 ?_
    refine Ci.mono h ?_
    intro x2 M2 h
    refine V_if_ne (tgt := 36) (pc := 31) dX8_readBook_31 rfl (fun c => ?_) (fun c => ?_)
    · have h := h.1 c
      refine V_aload_n (pc := 36) dX8_readBook_36 rfl ?_
      refine V_getI (pc := 37) fX8_103 sC8 rfl dX8_readBook_37 ?_
      refine V_istore_n (pc := 40) dX8_readBook_40 (by decide) ?_
      refine V_lv (lv2 := [(0, .ref (G.2.1 8)), (1, .int (M1.1 8 5)), (2, .int (M2.1 8 5))]) rfl ?_
      refine V_aload_n (pc := 41) dX8_readBook_41 rfl ?_
      refine V_iconst (v := 1) (pc := 42) dX8_readBook_42 rfl ?_
      refine V_bipush (v := 99) (pc := 43) dX8_readBook_43 rfl ?_
      refine V_callVi [.int 1, .int 99] (pc := 45) kX8_takeNumber lX8_99 sC8 rfl rfl (Nat.le_of_ble_eq_true rfl) rfl (Nat.le_of_ble_eq_true rfl) dX8_readBook_45 ?_
      refine Ci.mono h ?_
      intro x3 M3 h
      refine V_if_ne (tgt := 53) (pc := 48) dX8_readBook_48 rfl (fun c => ?_) (fun c => ?_)
      · have h := h.1 c
        refine V_aload_n (pc := 53) dX8_readBook_53 rfl ?_
        refine V_getI (pc := 54) fX8_103 sC8 rfl dX8_readBook_54 ?_
        refine V_istore_n (pc := 57) dX8_readBook_57 (by decide) ?_
        refine V_lv (lv2 := [(0, .ref (G.2.1 8)), (1, .int (M1.1 8 5)), (2, .int (M2.1 8 5)), (3, .int (M3.1 8 5))]) rfl ?_
        refine V_aload_n (pc := 58) dX8_readBook_58 rfl ?_
        refine V_callVi [] (pc := 59) kX8_takeSign lX8_112 sC8 rfl rfl (Nat.le_of_ble_eq_true rfl) rfl (Nat.le_of_ble_eq_true rfl) dX8_readBook_59 ?_
        refine Ci.mono h ?_
        intro x4 M4 h
        refine V_if_ne (tgt := 67) (pc := 62) dX8_readBook_62 rfl (fun c => ?_) (fun c => ?_)
        · have h := h.1 c
          refine V_aload_n (pc := 67) dX8_readBook_67 rfl ?_
          refine V_getR (pc := 68) fX8_15 sC8 rfl dX8_readBook_68 ?_
          refine V_iload_n (pc := 71) dX8_readBook_71 rfl ?_
          refine V_iload_n (pc := 72) dX8_readBook_72 rfl ?_
          refine V_isub (pc := 73) dX8_readBook_73 ?_
          refine V_iload_n (pc := 74) dX8_readBook_74 rfl ?_
          refine V_callVv [.int ((M1.1 8 5) - (M2.1 8 5)), .int (M3.1 8 5)] (pc := 75) kX1_tell lX8_115 sC3 rfl rfl (Nat.le_of_ble_eq_true rfl) rfl (Nat.le_of_ble_eq_true rfl) dX8_readBook_75 ?_
          refine Cv.mono h ?_
          intro M5 h
          refine V_iconst (v := 1) (pc := 78) dX8_readBook_78 rfl ?_
          exact V_zret dX8_readBook_79 rfl (Or.inr rfl) h
        · have h := h.2 c
          refine V_iconst (v := 0) (pc := 65) dX8_readBook_65 rfl ?_
          exact V_zret dX8_readBook_66 rfl (Or.inl rfl) h
      · have h := h.2 c
        refine V_iconst (v := 0) (pc := 51) dX8_readBook_51 rfl ?_
        exact V_zret dX8_readBook_52 rfl (Or.inl rfl) h
    · have h := h.2 c
      refine V_iconst (v := 0) (pc := 34) dX8_readBook_34 rfl ?_
      exact V_zret dX8_readBook_35 rfl (Or.inl rfl) h
  · have h := h.2 c
    refine V_iconst (v := 0) (pc := 11) dX8_readBook_11 rfl ?_
    exact V_zret dX8_readBook_12 rfl (Or.inl rfl) h
theorem wp_X8_readHouse {G : GV} {k : Nat} {M : Mem} {q : Int32 → Mem → Prop}  (h : Ci shC G mX8_takeNumber (k + 2) [.ref (G.2.1 8), .int 0, .int 3] M (fun x1 M1 => ((x1 ≠ 0 → Ci shC G mX8_takeNumber (k + 2) [.ref (G.2.1 8), .int 1, .int 99] M1 (fun x2 M2 => ((x2 ≠ 0 → Ci shC G mX8_takeNumber (k + 2) [.ref (G.2.1 8), .int 1, .int 9998] M2 (fun x3 M3 => ((x3 ≠ 0 → Ci shC G mX8_takeNumber (k + 2) [.ref (G.2.1 8), .int ((M3.1 8 5) + 1), .int 9999] M3 (fun x4 M4 => ((x4 ≠ 0 → Ci shC G mX8_takeSign (k + 2) [.ref (G.2.1 8)] M4 (fun x5 M5 => ((x5 ≠ 0 → Cv shC G mX2_tell (k + 2) [.ref (G.2.1 5), .int (M1.1 8 5), .int (M2.1 8 5), .int (M3.1 8 5), .int (M4.1 8 5)] M5 (fun M6 => q 1 M6)) ∧ (x5 = 0 → q 0 M5)))) ∧ (x4 = 0 → q 0 M4)))) ∧ (x3 = 0 → q 0 M3)))) ∧ (x2 = 0 → q 0 M2)))) ∧ (x1 = 0 → q 0 M1)))) : Ci shC G mX8_readHouse (k + 3) [.ref (G.2.1 8)] M q := by
  unfold Ci
  show V _ _ _ _ _ [(0, .ref (G.2.1 8))] _ _ _
  refine V_aload_n (pc := 0) dX8_readHouse_0 rfl ?_
  refine V_iconst (v := 0) (pc := 1) dX8_readHouse_1 rfl ?_
  refine V_iconst (v := 3) (pc := 2) dX8_readHouse_2 rfl ?_
  refine V_callVi [.int 0, .int 3] (pc := 3) kX8_takeNumber lX8_99 sC8 rfl rfl (Nat.le_of_ble_eq_true rfl) rfl (Nat.le_of_ble_eq_true rfl) dX8_readHouse_3 ?_
  refine Ci.mono h ?_
  intro x1 M1 h
  refine V_if_ne (tgt := 11) (pc := 6) dX8_readHouse_6 rfl (fun c => ?_) (fun c => ?_)
  · have h := h.1 c
    refine V_aload_n (pc := 11) dX8_readHouse_11 rfl ?_
    refine V_getI (pc := 12) fX8_103 sC8 rfl dX8_readHouse_12 ?_
    refine V_istore_n (pc := 15) dX8_readHouse_15 (by decide) ?_
    refine V_lv (lv2 := [(0, .ref (G.2.1 8)), (1, .int (M1.1 8 5))]) rfl ?_
    refine V_aload_n (pc := 16) dX8_readHouse_16 rfl ?_
    refine V_iconst (v := 1) (pc := 17) dX8_readHouse_17 rfl ?_
    refine V_bipush (v := 99) (pc := 18) dX8_readHouse_18 rfl ?_
    refine V_callVi [.int 1, .int 99] (pc := 20) kX8_takeNumber lX8_99 sC8 rfl rfl (Nat.le_of_ble_eq_true rfl) rfl (Nat.le_of_ble_eq_true rfl) dX8_readHouse_20 ?_
    refine Ci.mono h ?_
    intro x2 M2 h
    refine V_if_ne (tgt := 28) (pc := 23) dX8_readHouse_23 rfl (fun c => ?_) (fun c => ?_)
    · have h := h.1 c
      refine V_aload_n (pc := 28) dX8_readHouse_28 rfl ?_
      refine V_getI (pc := 29) fX8_103 sC8 rfl dX8_readHouse_29 ?_
      refine V_istore_n (pc := 32) dX8_readHouse_32 (by decide) ?_
      refine V_lv (lv2 := [(0, .ref (G.2.1 8)), (1, .int (M1.1 8 5)), (2, .int (M2.1 8 5))]) rfl ?_
      refine V_aload_n (pc := 33) dX8_readHouse_33 rfl ?_
      refine V_iconst (v := 1) (pc := 34) dX8_readHouse_34 rfl ?_
      refine V_sipush (v := 9998) (pc := 35) dX8_readHouse_35 rfl ?_
      refine V_callVi [.int 1, .int 9998] (pc := 38) kX8_takeNumber lX8_99 sC8 rfl rfl (Nat.le_of_ble_eq_true rfl) rfl (Nat.le_of_ble_eq_true rfl) dX8_readHouse_38 ?_
      refine Ci.mono h ?_
      intro x3 M3 h
      refine V_if_ne (tgt := 46) (pc := 41) dX8_readHouse_41 rfl (fun c => ?_) (fun c => ?_)
      · have h := h.1 c
        refine V_aload_n (pc := 46) dX8_readHouse_46 rfl ?_
        refine V_getI (pc := 47) fX8_103 sC8 rfl dX8_readHouse_47 ?_
        refine V_istore_n (pc := 50) dX8_readHouse_50 (by decide) ?_
        refine V_lv (lv2 := [(0, .ref (G.2.1 8)), (1, .int (M1.1 8 5)), (2, .int (M2.1 8 5)), (3, .int (M3.1 8 5))]) rfl ?_
        refine V_aload_n (pc := 51) dX8_readHouse_51 rfl ?_
        refine V_iload_n (pc := 52) dX8_readHouse_52 rfl ?_
        refine V_iconst (v := 1) (pc := 53) dX8_readHouse_53 rfl ?_
        refine V_iadd (pc := 54) dX8_readHouse_54 ?_
        refine V_sipush (v := 9999) (pc := 55) dX8_readHouse_55 rfl ?_
        refine V_callVi [.int ((M3.1 8 5) + 1), .int 9999] (pc := 58) kX8_takeNumber lX8_99 sC8 rfl rfl (Nat.le_of_ble_eq_true rfl) rfl (Nat.le_of_ble_eq_true rfl) dX8_readHouse_58 ?_
        refine Ci.mono h ?_
        intro x4 M4 h
        refine V_if_ne (tgt := 66) (pc := 61) dX8_readHouse_61 rfl (fun c => ?_) (fun c => ?_)
        · have h := h.1 c
          refine V_aload_n (pc := 66) dX8_readHouse_66 rfl ?_
          refine V_getI (pc := 67) fX8_103 sC8 rfl dX8_readHouse_67 ?_
          refine V_istore (pc := 70) dX8_readHouse_70 (by decide) ?_
          refine V_lv (lv2 := [(0, .ref (G.2.1 8)), (1, .int (M1.1 8 5)), (2, .int (M2.1 8 5)), (3, .int (M3.1 8 5)), (4, .int (M4.1 8 5))]) rfl ?_
          refine V_aload_n (pc := 72) dX8_readHouse_72 rfl ?_
          refine V_callVi [] (pc := 73) kX8_takeSign lX8_112 sC8 rfl rfl (Nat.le_of_ble_eq_true rfl) rfl (Nat.le_of_ble_eq_true rfl) dX8_readHouse_73 ?_
          refine Ci.mono h ?_
          intro x5 M5 h
          refine V_if_ne (tgt := 81) (pc := 76) dX8_readHouse_76 rfl (fun c => ?_) (fun c => ?_)
          · have h := h.1 c
            refine V_aload_n (pc := 81) dX8_readHouse_81 rfl ?_
            refine V_getR (pc := 82) fX8_27 sC8 rfl dX8_readHouse_82 ?_
            refine V_iload_n (pc := 85) dX8_readHouse_85 rfl ?_
            refine V_iload_n (pc := 86) dX8_readHouse_86 rfl ?_
            refine V_iload_n (pc := 87) dX8_readHouse_87 rfl ?_
            refine V_iload (pc := 88) dX8_readHouse_88 rfl ?_
            refine V_callVv [.int (M1.1 8 5), .int (M2.1 8 5), .int (M3.1 8 5), .int (M4.1 8 5)] (pc := 90) kX2_tell lX8_149 sC5 rfl rfl (Nat.le_of_ble_eq_true rfl) rfl (Nat.le_of_ble_eq_true rfl) dX8_readHouse_90 ?_
            refine Cv.mono h ?_
            intro M6 h
            refine V_iconst (v := 1) (pc := 93) dX8_readHouse_93 rfl ?_
            exact V_zret dX8_readHouse_94 rfl (Or.inr rfl) h
          · have h := h.2 c
            refine V_iconst (v := 0) (pc := 79) dX8_readHouse_79 rfl ?_
            exact V_zret dX8_readHouse_80 rfl (Or.inl rfl) h
        · have h := h.2 c
          refine V_iconst (v := 0) (pc := 64) dX8_readHouse_64 rfl ?_
          exact V_zret dX8_readHouse_65 rfl (Or.inl rfl) h
      · have h := h.2 c
        refine V_iconst (v := 0) (pc := 44) dX8_readHouse_44 rfl ?_
        exact V_zret dX8_readHouse_45 rfl (Or.inl rfl) h
    · have h := h.2 c
      refine V_iconst (v := 0) (pc := 26) dX8_readHouse_26 rfl ?_
      exact V_zret dX8_readHouse_27 rfl (Or.inl rfl) h
  · have h := h.2 c
    refine V_iconst (v := 0) (pc := 9) dX8_readHouse_9 rfl ?_
    exact V_zret dX8_readHouse_10 rfl (Or.inl rfl) h
theorem wp_X8_readOrder {G : GV} {k : Nat} {M : Mem} {q : Int32 → Mem → Prop}  (h : Ci shC G mX8_takeNumber (k + 2) [.ref (G.2.1 8), .int 1, .int 9998] M (fun x1 M1 => ((x1 ≠ 0 → Ci shC G mX8_takeNumber (k + 2) [.ref (G.2.1 8), .int 0, .int 3] M1 (fun x2 M2 => ((x2 ≠ 0 → Ci shC G mX8_takeNumber (k + 2) [.ref (G.2.1 8), .int 1, .int 99] M2 (fun x3 M3 => ((x3 ≠ 0 → (((M3.1 2 2) ≠ 2 → Ci shC G mX8_takeNumber (k + 2) [.ref (G.2.1 8), .int 1, .int 99] M3 (fun x4 M4 => ((x4 ≠ 0 → Ci shC G mX8_takeSign (k + 2) [.ref (G.2.1 8)] M4 (fun x5 M5 => ((x5 ≠ 0 → Cv shC G mX6_tell (k + 2) [.ref (G.2.1 4), .int (M1.1 8 5), .int (M2.1 8 5), .int (M3.1 8 5), .int (M4.1 8 5)] M5 (fun M6 => q 1 M6)) ∧ (x5 = 0 → q 0 M5)))) ∧ (x4 = 0 → q 0 M4)))) ∧ ((M3.1 2 2) = 2 → Ci shC G mX10_number (k + 2) [.ref (G.2.1 2)] M3 (fun x7 M7 => ((x7 ≠ (M3.1 8 5) → Ci shC G mX8_takeNumber (k + 2) [.ref (G.2.1 8), .int 1, .int 99] M7 (fun x8 M8 => ((x8 ≠ 0 → Ci shC G mX8_takeSign (k + 2) [.ref (G.2.1 8)] M8 (fun x9 M9 => ((x9 ≠ 0 → Cv shC G mX6_tell (k + 2) [.ref (G.2.1 4), .int (M1.1 8 5), .int (M2.1 8 5), .int (M3.1 8 5), .int (M8.1 8 5)] M9 (fun M10 => q 1 M10)) ∧ (x9 = 0 → q 0 M9)))) ∧ (x8 = 0 → q 0 M8)))) ∧ (x7 = (M3.1 8 5) → Ci shC G mX8_fail (k + 2) [.ref (G.2.1 8), .int 2] M7 (fun x11 M11 => (x11 = 0 ∨ x11 = 1) ∧ q x11 M11))))))) ∧ (x3 = 0 → q 0 M3)))) ∧ (x2 = 0 → q 0 M2)))) ∧ (x1 = 0 → q 0 M1)))) : Ci shC G mX8_readOrder (k + 3) [.ref (G.2.1 8)] M q := by
  unfold Ci
  show V _ _ _ _ _ [(0, .ref (G.2.1 8))] _ _ _
  refine V_aload_n (pc := 0) dX8_readOrder_0 rfl ?_
  refine V_iconst (v := 1) (pc := 1) dX8_readOrder_1 rfl ?_
  refine V_sipush (v := 9998) (pc := 2) dX8_readOrder_2 rfl ?_
  refine V_callVi [.int 1, .int 9998] (pc := 5) kX8_takeNumber lX8_99 sC8 rfl rfl (Nat.le_of_ble_eq_true rfl) rfl (Nat.le_of_ble_eq_true rfl) dX8_readOrder_5 ?_
  refine Ci.mono h ?_
  intro x1 M1 h
  refine V_if_ne (tgt := 13) (pc := 8) dX8_readOrder_8 rfl (fun c => ?_) (fun c => ?_)
  · have h := h.1 c
    refine V_aload_n (pc := 13) dX8_readOrder_13 rfl ?_
    refine V_getI (pc := 14) fX8_103 sC8 rfl dX8_readOrder_14 ?_
    refine V_istore_n (pc := 17) dX8_readOrder_17 (by decide) ?_
    refine V_lv (lv2 := [(0, .ref (G.2.1 8)), (1, .int (M1.1 8 5))]) rfl ?_
    refine V_aload_n (pc := 18) dX8_readOrder_18 rfl ?_
    refine V_iconst (v := 0) (pc := 19) dX8_readOrder_19 rfl ?_
    refine V_iconst (v := 3) (pc := 20) dX8_readOrder_20 rfl ?_
    refine V_callVi [.int 0, .int 3] (pc := 21) kX8_takeNumber lX8_99 sC8 rfl rfl (Nat.le_of_ble_eq_true rfl) rfl (Nat.le_of_ble_eq_true rfl) dX8_readOrder_21 ?_
    refine Ci.mono h ?_
    intro x2 M2 h
    refine V_if_ne (tgt := 29) (pc := 24) dX8_readOrder_24 rfl (fun c => ?_) (fun c => ?_)
    · have h := h.1 c
      refine V_aload_n (pc := 29) dX8_readOrder_29 rfl ?_
      refine V_getI (pc := 30) fX8_103 sC8 rfl dX8_readOrder_30 ?_
      refine V_istore_n (pc := 33) dX8_readOrder_33 (by decide) ?_
      refine V_lv (lv2 := [(0, .ref (G.2.1 8)), (1, .int (M1.1 8 5)), (2, .int (M2.1 8 5))]) rfl ?_
      refine V_aload_n (pc := 34) dX8_readOrder_34 rfl ?_
      refine V_iconst (v := 1) (pc := 35) dX8_readOrder_35 rfl ?_
      refine V_bipush (v := 99) (pc := 36) dX8_readOrder_36 rfl ?_
      refine V_callVi [.int 1, .int 99] (pc := 38) kX8_takeNumber lX8_99 sC8 rfl rfl (Nat.le_of_ble_eq_true rfl) rfl (Nat.le_of_ble_eq_true rfl) dX8_readOrder_38 ?_
      refine Ci.mono h ?_
      intro x3 M3 h
      refine V_if_ne (tgt := 46) (pc := 41) dX8_readOrder_41 rfl (fun c => ?_) (fun c => ?_)
      · have h := h.1 c
        refine V_aload_n (pc := 46) dX8_readOrder_46 rfl ?_
        refine V_getI (pc := 47) fX8_103 sC8 rfl dX8_readOrder_47 ?_
        refine V_istore_n (pc := 50) dX8_readOrder_50 (by decide) ?_
        refine V_lv (lv2 := [(0, .ref (G.2.1 8)), (1, .int (M1.1 8 5)), (2, .int (M2.1 8 5)), (3, .int (M3.1 8 5))]) rfl ?_
        refine V_aload_n (pc := 51) dX8_readOrder_51 rfl ?_
        refine V_getR (pc := 52) fX8_9 sC8 rfl dX8_readOrder_52 ?_
        refine V_getI (pc := 55) fX8_57 sC2 rfl dX8_readOrder_55 ?_
        refine V_iconst (v := 2) (pc := 58) dX8_readOrder_58 rfl ?_
        refine V_icmp_ne (tgt := 79) (pc := 59) dX8_readOrder_59 rfl (fun c => ?_) (fun c => ?_)
        · have h := h.1 c
          refine V_aload_n (pc := 79) dX8_readOrder_79 rfl ?_
          refine V_iconst (v := 1) (pc := 80) dX8_readOrder_80 rfl ?_
          refine V_bipush (v := 99) (pc := 81) dX8_readOrder_81 rfl ?_
          refine V_callVi [.int 1, .int 99] (pc := 83) kX8_takeNumber lX8_99 sC8 rfl rfl (Nat.le_of_ble_eq_true rfl) rfl (Nat.le_of_ble_eq_true rfl) dX8_readOrder_83 ?_
          refine Ci.mono h ?_
          intro x4 M4 h
          refine V_if_ne (tgt := 91) (pc := 86) dX8_readOrder_86 rfl (fun c => ?_) (fun c => ?_)
          · have h := h.1 c
            refine V_aload_n (pc := 91) dX8_readOrder_91 rfl ?_
            refine V_getI (pc := 92) fX8_103 sC8 rfl dX8_readOrder_92 ?_
            refine V_istore (pc := 95) dX8_readOrder_95 (by decide) ?_
            refine V_lv (lv2 := [(0, .ref (G.2.1 8)), (1, .int (M1.1 8 5)), (2, .int (M2.1 8 5)), (3, .int (M3.1 8 5)), (4, .int (M4.1 8 5))]) rfl ?_
            refine V_aload_n (pc := 97) dX8_readOrder_97 rfl ?_
            refine V_callVi [] (pc := 98) kX8_takeSign lX8_112 sC8 rfl rfl (Nat.le_of_ble_eq_true rfl) rfl (Nat.le_of_ble_eq_true rfl) dX8_readOrder_98 ?_
            refine Ci.mono h ?_
            intro x5 M5 h
            refine V_if_ne (tgt := 106) (pc := 101) dX8_readOrder_101 rfl (fun c => ?_) (fun c => ?_)
            · have h := h.1 c
              refine V_aload_n (pc := 106) dX8_readOrder_106 rfl ?_
              refine V_getR (pc := 107) fX8_23 sC8 rfl dX8_readOrder_107 ?_
              refine V_iload_n (pc := 110) dX8_readOrder_110 rfl ?_
              refine V_iload_n (pc := 111) dX8_readOrder_111 rfl ?_
              refine V_iload_n (pc := 112) dX8_readOrder_112 rfl ?_
              refine V_iload (pc := 113) dX8_readOrder_113 rfl ?_
              refine V_callVv [.int (M1.1 8 5), .int (M2.1 8 5), .int (M3.1 8 5), .int (M4.1 8 5)] (pc := 115) kX6_tell lX8_146 sC4 rfl rfl (Nat.le_of_ble_eq_true rfl) rfl (Nat.le_of_ble_eq_true rfl) dX8_readOrder_115 ?_
              refine Cv.mono h ?_
              intro M6 h
              refine V_iconst (v := 1) (pc := 118) dX8_readOrder_118 rfl ?_
              exact V_zret dX8_readOrder_119 rfl (Or.inr rfl) h
            · have h := h.2 c
              refine V_iconst (v := 0) (pc := 104) dX8_readOrder_104 rfl ?_
              exact V_zret dX8_readOrder_105 rfl (Or.inl rfl) h
          · have h := h.2 c
            refine V_iconst (v := 0) (pc := 89) dX8_readOrder_89 rfl ?_
            exact V_zret dX8_readOrder_90 rfl (Or.inl rfl) h
        · have h := h.2 c
          refine V_aload_n (pc := 62) dX8_readOrder_62 rfl ?_
          refine V_getR (pc := 63) fX8_9 sC8 rfl dX8_readOrder_63 ?_
          refine V_callVi [] (pc := 66) kX10_number lX8_143 sC2 rfl rfl (Nat.le_of_ble_eq_true rfl) rfl (Nat.le_of_ble_eq_true rfl) dX8_readOrder_66 ?_
          refine Ci.mono h ?_
          intro x7 M7 h
          refine V_iload_n (pc := 69) dX8_readOrder_69 rfl ?_
          refine V_icmp_ne (tgt := 79) (pc := 70) dX8_readOrder_70 rfl (fun c => ?_) (fun c => ?_)
          · have h := h.1 c
            refine V_aload_n (pc := 79) dX8_readOrder_79 rfl ?_
            refine V_iconst (v := 1) (pc := 80) dX8_readOrder_80 rfl ?_
            refine V_bipush (v := 99) (pc := 81) dX8_readOrder_81 rfl ?_
            refine V_callVi [.int 1, .int 99] (pc := 83) kX8_takeNumber lX8_99 sC8 rfl rfl (Nat.le_of_ble_eq_true rfl) rfl (Nat.le_of_ble_eq_true rfl) dX8_readOrder_83 ?_
            refine Ci.mono h ?_
            intro x8 M8 h
            refine V_if_ne (tgt := 91) (pc := 86) dX8_readOrder_86 rfl (fun c => ?_) (fun c => ?_)
            · have h := h.1 c
              refine V_aload_n (pc := 91) dX8_readOrder_91 rfl ?_
              refine V_getI (pc := 92) fX8_103 sC8 rfl dX8_readOrder_92 ?_
              refine V_istore (pc := 95) dX8_readOrder_95 (by decide) ?_
              refine V_lv (lv2 := [(0, .ref (G.2.1 8)), (1, .int (M1.1 8 5)), (2, .int (M2.1 8 5)), (3, .int (M3.1 8 5)), (4, .int (M8.1 8 5))]) rfl ?_
              refine V_aload_n (pc := 97) dX8_readOrder_97 rfl ?_
              refine V_callVi [] (pc := 98) kX8_takeSign lX8_112 sC8 rfl rfl (Nat.le_of_ble_eq_true rfl) rfl (Nat.le_of_ble_eq_true rfl) dX8_readOrder_98 ?_
              refine Ci.mono h ?_
              intro x9 M9 h
              refine V_if_ne (tgt := 106) (pc := 101) dX8_readOrder_101 rfl (fun c => ?_) (fun c => ?_)
              · have h := h.1 c
                refine V_aload_n (pc := 106) dX8_readOrder_106 rfl ?_
                refine V_getR (pc := 107) fX8_23 sC8 rfl dX8_readOrder_107 ?_
                refine V_iload_n (pc := 110) dX8_readOrder_110 rfl ?_
                refine V_iload_n (pc := 111) dX8_readOrder_111 rfl ?_
                refine V_iload_n (pc := 112) dX8_readOrder_112 rfl ?_
                refine V_iload (pc := 113) dX8_readOrder_113 rfl ?_
                refine V_callVv [.int (M1.1 8 5), .int (M2.1 8 5), .int (M3.1 8 5), .int (M8.1 8 5)] (pc := 115) kX6_tell lX8_146 sC4 rfl rfl (Nat.le_of_ble_eq_true rfl) rfl (Nat.le_of_ble_eq_true rfl) dX8_readOrder_115 ?_
                refine Cv.mono h ?_
                intro M10 h
                refine V_iconst (v := 1) (pc := 118) dX8_readOrder_118 rfl ?_
                exact V_zret dX8_readOrder_119 rfl (Or.inr rfl) h
              · have h := h.2 c
                refine V_iconst (v := 0) (pc := 104) dX8_readOrder_104 rfl ?_
                exact V_zret dX8_readOrder_105 rfl (Or.inl rfl) h
            · have h := h.2 c
              refine V_iconst (v := 0) (pc := 89) dX8_readOrder_89 rfl ?_
              exact V_zret dX8_readOrder_90 rfl (Or.inl rfl) h
          · have h := h.2 c
            refine V_aload_n (pc := 73) dX8_readOrder_73 rfl ?_
            refine V_iconst (v := 2) (pc := 74) dX8_readOrder_74 rfl ?_
            refine V_callVi [.int 2] (pc := 75) kX8_fail lX8_92 sC8 rfl rfl (Nat.le_of_ble_eq_true rfl) rfl (Nat.le_of_ble_eq_true rfl) dX8_readOrder_75 ?_
            refine Ci.mono h ?_
            intro x11 M11 h
            exact V_zret dX8_readOrder_78 rfl h.1 h.2
      · have h := h.2 c
        refine V_iconst (v := 0) (pc := 44) dX8_readOrder_44 rfl ?_
        exact V_zret dX8_readOrder_45 rfl (Or.inl rfl) h
    · have h := h.2 c
      refine V_iconst (v := 0) (pc := 27) dX8_readOrder_27 rfl ?_
      exact V_zret dX8_readOrder_28 rfl (Or.inl rfl) h
  · have h := h.2 c
    refine V_iconst (v := 0) (pc := 11) dX8_readOrder_11 rfl ?_
    exact V_zret dX8_readOrder_12 rfl (Or.inl rfl) h
theorem wp_X8_takeAge {G : GV} {k : Nat} {M : Mem} {q : Int32 → Mem → Prop}  (h : Ci shC G mX10_isWord (k + 4) [.ref (G.2.1 2), .ref (sK G 9)] (mset M 8 5 (-1000000)) (fun x1 M1 => ((x1 ≠ 0 → Cv shC G mX10_step (k + 4) [.ref (G.2.1 2)] M1 (fun M2 => Ci shC G mX8_takeNumber (k + 4) [.ref (G.2.1 8), .int 0, .int 120] M2 (fun x3 M3 => (x3 = 0 ∨ x3 = 1) ∧ q x3 M3))) ∧ (x1 = 0 → q 1 M1)))) : Ci shC G mX8_takeAge (k + 5) [.ref (G.2.1 8)] M q := by
  unfold Ci
  show V _ _ _ _ _ [(0, .ref (G.2.1 8))] _ _ _
  refine V_aload_n (pc := 0) dX8_takeAge_0 rfl ?_
  refine V_ldc (pc := 1) dX8_takeAge_1 nX8_172 ?_
  refine V_putI (pc := 3) fX8_103 p8_5 sC8 rfl dX8_takeAge_3 ?_
  refine V_aload_n (pc := 6) dX8_takeAge_6 rfl ?_
  refine V_getR (pc := 7) fX8_9 sC8 rfl dX8_takeAge_7 ?_
  refine V_ldcS (i := 9) (pc := 10) (by decide) rfl dX8_takeAge_10 ?_
  refine V_callVi [.ref (sK G 9)] (pc := 12) kX10_isWord lX8_66 sC2 rfl rfl (Nat.le_of_ble_eq_true rfl) rfl (Nat.le_of_ble_eq_true rfl) dX8_takeAge_12 ?_
  refine Ci.mono h ?_
  intro x1 M1 h
  refine V_if_ne (tgt := 20) (pc := 15) dX8_takeAge_15 rfl (fun c => ?_) (fun c => ?_)
  · have h := h.1 c
    refine V_aload_n (pc := 20) dX8_takeAge_20 rfl ?_
    refine V_getR (pc := 21) fX8_9 sC8 rfl dX8_takeAge_21 ?_
    refine V_callVv [] (pc := 24) kX10_step lX8_96 sC2 rfl rfl (Nat.le_of_ble_eq_true rfl) rfl (Nat.le_of_ble_eq_true rfl) dX8_takeAge_24 ?_
    refine Cv.mono h ?_
    intro M2 h
    refine V_aload_n (pc := 27) dX8_takeAge_27 rfl ?_
    refine V_iconst (v := 0) (pc := 28) dX8_takeAge_28 rfl ?_
    refine V_bipush (v := 120) (pc := 29) dX8_takeAge_29 rfl ?_
    refine V_callVi [.int 0, .int 120] (pc := 31) kX8_takeNumber lX8_99 sC8 rfl rfl (Nat.le_of_ble_eq_true rfl) rfl (Nat.le_of_ble_eq_true rfl) dX8_takeAge_31 ?_
    refine Ci.mono h ?_
    intro x3 M3 h
    exact V_zret dX8_takeAge_34 rfl h.1 h.2
  · have h := h.2 c
    refine V_iconst (v := 1) (pc := 18) dX8_takeAge_18 rfl ?_
    exact V_zret dX8_takeAge_19 rfl (Or.inr rfl) h
theorem wp_X8_takeSort {G : GV} {k : Nat} {M : Mem} {q : Int32 → Mem → Prop}  (h : Ci shC G mX10_isWord (k + 4) [.ref (G.2.1 2), .ref (sK G 4)] M (fun x1 M1 => ((x1 = 0 → Ci shC G mX10_isWord (k + 4) [.ref (G.2.1 2), .ref (sK G 5)] M1 (fun x2 M2 => ((x2 = 0 → Ci shC G mX10_isWord (k + 4) [.ref (G.2.1 2), .ref (sK G 6)] M2 (fun x3 M3 => ((x3 = 0 → Ci shC G mX10_isWord (k + 4) [.ref (G.2.1 2), .ref (sK G 7)] M3 (fun x4 M4 => ((x4 = 0 → Ci shC G mX10_isWord (k + 4) [.ref (G.2.1 2), .ref (sK G 8)] M4 (fun x5 M5 => ((x5 = 0 → Ci shC G mX8_fail (k + 4) [.ref (G.2.1 8), .int 1] M5 (fun x6 M6 => (x6 = 0 ∨ x6 = 1) ∧ q x6 M6)) ∧ (¬ x5 = 0 → Cv shC G mX10_step (k + 4) [.ref (G.2.1 2)] (mset M5 8 5 4) (fun M7 => q 1 M7))))) ∧ (¬ x4 = 0 → Cv shC G mX10_step (k + 4) [.ref (G.2.1 2)] (mset M4 8 5 3) (fun M8 => q 1 M8))))) ∧ (¬ x3 = 0 → Cv shC G mX10_step (k + 4) [.ref (G.2.1 2)] (mset M3 8 5 2) (fun M9 => q 1 M9))))) ∧ (¬ x2 = 0 → Cv shC G mX10_step (k + 4) [.ref (G.2.1 2)] (mset M2 8 5 1) (fun M10 => q 1 M10))))) ∧ (¬ x1 = 0 → Cv shC G mX10_step (k + 4) [.ref (G.2.1 2)] (mset M1 8 5 0) (fun M11 => q 1 M11))))) : Ci shC G mX8_takeSort (k + 5) [.ref (G.2.1 8)] M q := by
  unfold Ci
  show V _ _ _ _ _ [(0, .ref (G.2.1 8))] _ _ _
  refine V_aload_n (pc := 0) dX8_takeSort_0 rfl ?_
  refine V_getR (pc := 1) fX8_9 sC8 rfl dX8_takeSort_1 ?_
  refine V_ldcS (i := 4) (pc := 4) (by decide) rfl dX8_takeSort_4 ?_
  refine V_callVi [.ref (sK G 4)] (pc := 6) kX10_isWord lX8_66 sC2 rfl rfl (Nat.le_of_ble_eq_true rfl) rfl (Nat.le_of_ble_eq_true rfl) dX8_takeSort_6 ?_
  refine Ci.mono h ?_
  intro x1 M1 h
  refine V_if_eq (tgt := 20) (pc := 9) dX8_takeSort_9 rfl (fun c => ?_) (fun c => ?_)
  · have h := h.1 c
    refine V_aload_n (pc := 20) dX8_takeSort_20 rfl ?_
    refine V_getR (pc := 21) fX8_9 sC8 rfl dX8_takeSort_21 ?_
    refine V_ldcS (i := 5) (pc := 24) (by decide) rfl dX8_takeSort_24 ?_
    refine V_callVi [.ref (sK G 5)] (pc := 26) kX10_isWord lX8_66 sC2 rfl rfl (Nat.le_of_ble_eq_true rfl) rfl (Nat.le_of_ble_eq_true rfl) dX8_takeSort_26 ?_
    refine Ci.mono h ?_
    intro x2 M2 h
    refine V_if_eq (tgt := 40) (pc := 29) dX8_takeSort_29 rfl (fun c => ?_) (fun c => ?_)
    · have h := h.1 c
      refine V_aload_n (pc := 40) dX8_takeSort_40 rfl ?_
      refine V_getR (pc := 41) fX8_9 sC8 rfl dX8_takeSort_41 ?_
      refine V_ldcS (i := 6) (pc := 44) (by decide) rfl dX8_takeSort_44 ?_
      refine V_callVi [.ref (sK G 6)] (pc := 46) kX10_isWord lX8_66 sC2 rfl rfl (Nat.le_of_ble_eq_true rfl) rfl (Nat.le_of_ble_eq_true rfl) dX8_takeSort_46 ?_
      refine Ci.mono h ?_
      intro x3 M3 h
      refine V_if_eq (tgt := 60) (pc := 49) dX8_takeSort_49 rfl (fun c => ?_) (fun c => ?_)
      · have h := h.1 c
        refine V_aload_n (pc := 60) dX8_takeSort_60 rfl ?_
        refine V_getR (pc := 61) fX8_9 sC8 rfl dX8_takeSort_61 ?_
        refine V_ldcS (i := 7) (pc := 64) (by decide) rfl dX8_takeSort_64 ?_
        refine V_callVi [.ref (sK G 7)] (pc := 66) kX10_isWord lX8_66 sC2 rfl rfl (Nat.le_of_ble_eq_true rfl) rfl (Nat.le_of_ble_eq_true rfl) dX8_takeSort_66 ?_
        refine Ci.mono h ?_
        intro x4 M4 h
        refine V_if_eq (tgt := 80) (pc := 69) dX8_takeSort_69 rfl (fun c => ?_) (fun c => ?_)
        · have h := h.1 c
          refine V_aload_n (pc := 80) dX8_takeSort_80 rfl ?_
          refine V_getR (pc := 81) fX8_9 sC8 rfl dX8_takeSort_81 ?_
          refine V_ldcS (i := 8) (pc := 84) (by decide) rfl dX8_takeSort_84 ?_
          refine V_callVi [.ref (sK G 8)] (pc := 86) kX10_isWord lX8_66 sC2 rfl rfl (Nat.le_of_ble_eq_true rfl) rfl (Nat.le_of_ble_eq_true rfl) dX8_takeSort_86 ?_
          refine Ci.mono h ?_
          intro x5 M5 h
          refine V_if_eq (tgt := 100) (pc := 89) dX8_takeSort_89 rfl (fun c => ?_) (fun c => ?_)
          · have h := h.1 c
            refine V_aload_n (pc := 100) dX8_takeSort_100 rfl ?_
            refine V_iconst (v := 1) (pc := 101) dX8_takeSort_101 rfl ?_
            refine V_callVi [.int 1] (pc := 102) kX8_fail lX8_92 sC8 rfl rfl (Nat.le_of_ble_eq_true rfl) rfl (Nat.le_of_ble_eq_true rfl) dX8_takeSort_102 ?_
            refine Ci.mono h ?_
            intro x6 M6 h
            exact V_zret dX8_takeSort_105 rfl h.1 h.2
          · have h := h.2 c
            refine V_aload_n (pc := 92) dX8_takeSort_92 rfl ?_
            refine V_iconst (v := 4) (pc := 93) dX8_takeSort_93 rfl ?_
            refine V_putI (pc := 94) fX8_103 p8_5 sC8 rfl dX8_takeSort_94 ?_
            refine V_goto (tgt := 106) (pc := 97) dX8_takeSort_97 rfl ?_
            refine V_aload_n (pc := 106) dX8_takeSort_106 rfl ?_
            refine V_getR (pc := 107) fX8_9 sC8 rfl dX8_takeSort_107 ?_
            refine V_callVv [] (pc := 110) kX10_step lX8_96 sC2 rfl rfl (Nat.le_of_ble_eq_true rfl) rfl (Nat.le_of_ble_eq_true rfl) dX8_takeSort_110 ?_
            refine Cv.mono h ?_
            intro M7 h
            refine V_iconst (v := 1) (pc := 113) dX8_takeSort_113 rfl ?_
            exact V_zret dX8_takeSort_114 rfl (Or.inr rfl) h
        · have h := h.2 c
          refine V_aload_n (pc := 72) dX8_takeSort_72 rfl ?_
          refine V_iconst (v := 3) (pc := 73) dX8_takeSort_73 rfl ?_
          refine V_putI (pc := 74) fX8_103 p8_5 sC8 rfl dX8_takeSort_74 ?_
          refine V_goto (tgt := 106) (pc := 77) dX8_takeSort_77 rfl ?_
          refine V_aload_n (pc := 106) dX8_takeSort_106 rfl ?_
          refine V_getR (pc := 107) fX8_9 sC8 rfl dX8_takeSort_107 ?_
          refine V_callVv [] (pc := 110) kX10_step lX8_96 sC2 rfl rfl (Nat.le_of_ble_eq_true rfl) rfl (Nat.le_of_ble_eq_true rfl) dX8_takeSort_110 ?_
          refine Cv.mono h ?_
          intro M8 h
          refine V_iconst (v := 1) (pc := 113) dX8_takeSort_113 rfl ?_
          exact V_zret dX8_takeSort_114 rfl (Or.inr rfl) h
      · have h := h.2 c
        refine V_aload_n (pc := 52) dX8_takeSort_52 rfl ?_
        refine V_iconst (v := 2) (pc := 53) dX8_takeSort_53 rfl ?_
        refine V_putI (pc := 54) fX8_103 p8_5 sC8 rfl dX8_takeSort_54 ?_
        refine V_goto (tgt := 106) (pc := 57) dX8_takeSort_57 rfl ?_
        refine V_aload_n (pc := 106) dX8_takeSort_106 rfl ?_
        refine V_getR (pc := 107) fX8_9 sC8 rfl dX8_takeSort_107 ?_
        refine V_callVv [] (pc := 110) kX10_step lX8_96 sC2 rfl rfl (Nat.le_of_ble_eq_true rfl) rfl (Nat.le_of_ble_eq_true rfl) dX8_takeSort_110 ?_
        refine Cv.mono h ?_
        intro M9 h
        refine V_iconst (v := 1) (pc := 113) dX8_takeSort_113 rfl ?_
        exact V_zret dX8_takeSort_114 rfl (Or.inr rfl) h
    · have h := h.2 c
      refine V_aload_n (pc := 32) dX8_takeSort_32 rfl ?_
      refine V_iconst (v := 1) (pc := 33) dX8_takeSort_33 rfl ?_
      refine V_putI (pc := 34) fX8_103 p8_5 sC8 rfl dX8_takeSort_34 ?_
      refine V_goto (tgt := 106) (pc := 37) dX8_takeSort_37 rfl ?_
      refine V_aload_n (pc := 106) dX8_takeSort_106 rfl ?_
      refine V_getR (pc := 107) fX8_9 sC8 rfl dX8_takeSort_107 ?_
      refine V_callVv [] (pc := 110) kX10_step lX8_96 sC2 rfl rfl (Nat.le_of_ble_eq_true rfl) rfl (Nat.le_of_ble_eq_true rfl) dX8_takeSort_110 ?_
      refine Cv.mono h ?_
      intro M10 h
      refine V_iconst (v := 1) (pc := 113) dX8_takeSort_113 rfl ?_
      exact V_zret dX8_takeSort_114 rfl (Or.inr rfl) h
  · have h := h.2 c
    refine V_aload_n (pc := 12) dX8_takeSort_12 rfl ?_
    refine V_iconst (v := 0) (pc := 13) dX8_takeSort_13 rfl ?_
    refine V_putI (pc := 14) fX8_103 p8_5 sC8 rfl dX8_takeSort_14 ?_
    refine V_goto (tgt := 106) (pc := 17) dX8_takeSort_17 rfl ?_
    refine V_aload_n (pc := 106) dX8_takeSort_106 rfl ?_
    refine V_getR (pc := 107) fX8_9 sC8 rfl dX8_takeSort_107 ?_
    refine V_callVv [] (pc := 110) kX10_step lX8_96 sC2 rfl rfl (Nat.le_of_ble_eq_true rfl) rfl (Nat.le_of_ble_eq_true rfl) dX8_takeSort_110 ?_
    refine Cv.mono h ?_
    intro M11 h
    refine V_iconst (v := 1) (pc := 113) dX8_takeSort_113 rfl ?_
    exact V_zret dX8_takeSort_114 rfl (Or.inr rfl) h
theorem wp_X8_readLine {G : GV} {k : Nat} {M : Mem} {q : Int32 → Mem → Prop}  (h : (((M.1 6 9) < 0 → Ci shC G mX8_fail (k + 5) [.ref (G.2.1 8), .int 3] M (fun x1 M1 => (x1 = 0 ∨ x1 = 1) ∧ q x1 M1)) ∧ (¬ (M.1 6 9) < 0 → (((M.1 6 9) < 12 → Ci shC G mX8_takeNumber (k + 5) [.ref (G.2.1 8), .int 0, .int ((M.1 3 4) - 1)] M (fun x2 M2 => ((x2 ≠ 0 → vp_in (M.1 6 9) 12 ∧ Ci shC G mX8_takeSort (k + 5) [.ref (G.2.1 8)] (mset M2 28 (ix (M.1 6 9)) (M2.1 8 5)) (fun x3 M3 => ((x3 ≠ 0 → vp_in (M.1 6 9) 12 ∧ Ci shC G mX8_takeNumber (k + 5) [.ref (G.2.1 8), .int 0, .int 3] (mset M3 29 (ix (M.1 6 9)) (M3.1 8 5)) (fun x4 M4 => ((x4 ≠ 0 → vp_in (M.1 6 9) 12 ∧ Ci shC G mX8_takeNumber (k + 5) [.ref (G.2.1 8), .int 1, .int 99] (mset M4 30 (ix (M.1 6 9)) (M4.1 8 5)) (fun x5 M5 => ((x5 ≠ 0 → vp_in (M.1 6 9) 12 ∧ Ci shC G mX8_takeName (k + 5) [.ref (G.2.1 8), .int (M.1 6 9)] (mset M5 31 (ix (M.1 6 9)) (M5.1 8 5)) (fun x6 M6 => ((x6 = 0 → q 0 M6) ∧ (¬ x6 = 0 → Ci shC G mX8_takeAge (k + 5) [.ref (G.2.1 8)] M6 (fun x7 M7 => ((x7 ≠ 0 → vp_in (M.1 6 9) 12 ∧ Ci shC G mX8_takeSign (k + 5) [.ref (G.2.1 8)] (mset M7 32 (ix (M.1 6 9)) (M7.1 8 5)) (fun x8 M8 => ((x8 ≠ 0 → q 1 (mset M8 6 9 ((M8.1 6 9) + 1))) ∧ (x8 = 0 → q 0 M8)))) ∧ (x7 = 0 → q 0 M7))))))) ∧ (x5 = 0 → q 0 M5)))) ∧ (x4 = 0 → q 0 M4)))) ∧ (x3 = 0 → q 0 M3)))) ∧ (x2 = 0 → q 0 M2)))) ∧ (¬ (M.1 6 9) < 12 → Ci shC G mX8_fail (k + 5) [.ref (G.2.1 8), .int 3] M (fun x9 M9 => (x9 = 0 ∨ x9 = 1) ∧ q x9 M9)))))) : Ci shC G mX8_readLine (k + 6) [.ref (G.2.1 8)] M q := by
  unfold Ci
  show V _ _ _ _ _ [(0, .ref (G.2.1 8))] _ _ _
  refine V_aload_n (pc := 0) dX8_readLine_0 rfl ?_
  refine V_getR (pc := 1) fX8_19 sC8 rfl dX8_readLine_1 ?_
  refine V_getI (pc := 4) fX8_43 sC6 rfl dX8_readLine_4 ?_
  refine V_istore_n (pc := 7) dX8_readLine_7 (by decide) ?_
  refine V_lv (lv2 := [(0, .ref (G.2.1 8)), (1, .int (M.1 6 9))]) rfl ?_
  refine V_iload_n (pc := 8) dX8_readLine_8 rfl ?_
  refine V_if_lt (tgt := 18) (pc := 9) dX8_readLine_9 rfl (fun c => ?_) (fun c => ?_)
  · have h := h.1 c
    refine V_aload_n (pc := 18) dX8_readLine_18 rfl ?_
    refine V_iconst (v := 3) (pc := 19) dX8_readLine_19 rfl ?_
    refine V_callVi [.int 3] (pc := 20) kX8_fail lX8_92 sC8 rfl rfl (Nat.le_of_ble_eq_true rfl) rfl (Nat.le_of_ble_eq_true rfl) dX8_readLine_20 ?_
    refine Ci.mono h ?_
    intro x1 M1 h
    exact V_zret dX8_readLine_23 rfl h.1 h.2
  · have h := h.2 c
    refine V_iload_n (pc := 12) dX8_readLine_12 rfl ?_
    refine V_bipush (v := 12) (pc := 13) dX8_readLine_13 rfl ?_
    refine V_icmp_lt (tgt := 24) (pc := 15) dX8_readLine_15 rfl (fun c => ?_) (fun c => ?_)
    · have h := h.1 c
      refine V_aload_n (pc := 24) dX8_readLine_24 rfl ?_
      refine V_iconst (v := 0) (pc := 25) dX8_readLine_25 rfl ?_
      refine V_aload_n (pc := 26) dX8_readLine_26 rfl ?_
      refine V_getR (pc := 27) fX8_15 sC8 rfl dX8_readLine_27 ?_
      refine V_getI (pc := 30) fX8_37 sC3 rfl dX8_readLine_30 ?_
      refine V_iconst (v := 1) (pc := 33) dX8_readLine_33 rfl ?_
      refine V_isub (pc := 34) dX8_readLine_34 ?_
      refine V_callVi [.int 0, .int ((M.1 3 4) - 1)] (pc := 35) kX8_takeNumber lX8_99 sC8 rfl rfl (Nat.le_of_ble_eq_true rfl) rfl (Nat.le_of_ble_eq_true rfl) dX8_readLine_35 ?_
      refine Ci.mono h ?_
      intro x2 M2 h
      refine V_if_ne (tgt := 43) (pc := 38) dX8_readLine_38 rfl (fun c => ?_) (fun c => ?_)
      · have h := h.1 c
        refine V_aload_n (pc := 43) dX8_readLine_43 rfl ?_
        refine V_getR (pc := 44) fX8_19 sC8 rfl dX8_readLine_44 ?_
        refine V_getR (pc := 47) fX8_119 sC6 rfl dX8_readLine_47 ?_
        refine V_iload_n (pc := 50) dX8_readLine_50 rfl ?_
        refine V_aload_n (pc := 51) dX8_readLine_51 rfl ?_
        refine V_getI (pc := 52) fX8_103 sC8 rfl dX8_readLine_52 ?_
        refine V_iast (pc := 55) sC28 dX8_readLine_55 h.1 ?_
        have h := h.2
        refine V_aload_n (pc := 56) dX8_readLine_56 rfl ?_
        refine V_callVi [] (pc := 57) kX8_takeSort lX8_122 sC8 rfl rfl (Nat.le_of_ble_eq_true rfl) rfl (Nat.le_of_ble_eq_true rfl) dX8_readLine_57 ?_
        refine Ci.mono h ?_
        intro x3 M3 h
        refine V_if_ne (tgt := 65) (pc := 60) dX8_readLine_60 rfl (fun c => ?_) (fun c => ?_)
        · have h := h.1 c
          refine V_aload_n (pc := 65) dX8_readLine_65 rfl ?_
          refine V_getR (pc := 66) fX8_19 sC8 rfl dX8_readLine_66 ?_
          refine V_getR (pc := 69) fX8_125 sC6 rfl dX8_readLine_69 ?_
          refine V_iload_n (pc := 72) dX8_readLine_72 rfl ?_
          refine V_aload_n (pc := 73) dX8_readLine_73 rfl ?_
          refine V_getI (pc := 74) fX8_103 sC8 rfl dX8_readLine_74 ?_
          refine V_iast (pc := 77) sC29 dX8_readLine_77 h.1 ?_
          have h := h.2
          refine V_aload_n (pc := 78) dX8_readLine_78 rfl ?_
          refine V_iconst (v := 0) (pc := 79) dX8_readLine_79 rfl ?_
          refine V_iconst (v := 3) (pc := 80) dX8_readLine_80 rfl ?_
          refine V_callVi [.int 0, .int 3] (pc := 81) kX8_takeNumber lX8_99 sC8 rfl rfl (Nat.le_of_ble_eq_true rfl) rfl (Nat.le_of_ble_eq_true rfl) dX8_readLine_81 ?_
          refine Ci.mono h ?_
          intro x4 M4 h
          refine V_if_ne (tgt := 89) (pc := 84) dX8_readLine_84 rfl (fun c => ?_) (fun c => ?_)
          · have h := h.1 c
            refine V_aload_n (pc := 89) dX8_readLine_89 rfl ?_
            refine V_getR (pc := 90) fX8_19 sC8 rfl dX8_readLine_90 ?_
            refine V_getR (pc := 93) fX8_128 sC6 rfl dX8_readLine_93 ?_
            refine V_iload_n (pc := 96) dX8_readLine_96 rfl ?_
            refine V_aload_n (pc := 97) dX8_readLine_97 rfl ?_
            refine V_getI (pc := 98) fX8_103 sC8 rfl dX8_readLine_98 ?_
            refine V_iast (pc := 101) sC30 dX8_readLine_101 h.1 ?_
            have h := h.2
            refine V_aload_n (pc := 102) dX8_readLine_102 rfl ?_
            refine V_iconst (v := 1) (pc := 103) dX8_readLine_103 rfl ?_
            refine V_bipush (v := 99) (pc := 104) dX8_readLine_104 rfl ?_
            refine V_callVi [.int 1, .int 99] (pc := 106) kX8_takeNumber lX8_99 sC8 rfl rfl (Nat.le_of_ble_eq_true rfl) rfl (Nat.le_of_ble_eq_true rfl) dX8_readLine_106 ?_
            refine Ci.mono h ?_
            intro x5 M5 h
            refine V_if_ne (tgt := 114) (pc := 109) dX8_readLine_109 rfl (fun c => ?_) (fun c => ?_)
            · have h := h.1 c
              refine V_aload_n (pc := 114) dX8_readLine_114 rfl ?_
              refine V_getR (pc := 115) fX8_19 sC8 rfl dX8_readLine_115 ?_
              refine V_getR (pc := 118) fX8_131 sC6 rfl dX8_readLine_118 ?_
              refine V_iload_n (pc := 121) dX8_readLine_121 rfl ?_
              refine V_aload_n (pc := 122) dX8_readLine_122 rfl ?_
              refine V_getI (pc := 123) fX8_103 sC8 rfl dX8_readLine_123 ?_
              refine V_iast (pc := 126) sC31 dX8_readLine_126 h.1 ?_
              have h := h.2
              refine V_aload_n (pc := 127) dX8_readLine_127 rfl ?_
              refine V_iload_n (pc := 128) dX8_readLine_128 rfl ?_
              refine V_callVi [.int (M.1 6 9)] (pc := 129) kX8_takeName lX8_134 sC8 rfl rfl (Nat.le_of_ble_eq_true rfl) rfl (Nat.le_of_ble_eq_true rfl) dX8_readLine_129 ?_
              refine Ci.mono h ?_
              intro x6 M6 h
              refine V_if_eq (tgt := 142) (pc := 132) dX8_readLine_132 rfl (fun c => ?_) (fun c => ?_)
              · have h := h.1 c
                refine V_iconst (v := 0) (pc := 142) dX8_readLine_142 rfl ?_
                exact V_zret dX8_readLine_143 rfl (Or.inl rfl) h
              · have h := h.2 c
                refine V_aload_n (pc := 135) dX8_readLine_135 rfl ?_
                refine V_callVi [] (pc := 136) kX8_takeAge lX8_137 sC8 rfl rfl (Nat.le_of_ble_eq_true rfl) rfl (Nat.le_of_ble_eq_true rfl) dX8_readLine_136 ?_
                refine Ci.mono h ?_
                intro x7 M7 h
                refine V_if_ne (tgt := 144) (pc := 139) dX8_readLine_139 rfl (fun c => ?_) (fun c => ?_)
                · have h := h.1 c
                  refine V_aload_n (pc := 144) dX8_readLine_144 rfl ?_
                  refine V_getR (pc := 145) fX8_19 sC8 rfl dX8_readLine_145 ?_
                  refine V_getR (pc := 148) fX8_140 sC6 rfl dX8_readLine_148 ?_
                  refine V_iload_n (pc := 151) dX8_readLine_151 rfl ?_
                  refine V_aload_n (pc := 152) dX8_readLine_152 rfl ?_
                  refine V_getI (pc := 153) fX8_103 sC8 rfl dX8_readLine_153 ?_
                  refine V_iast (pc := 156) sC32 dX8_readLine_156 h.1 ?_
                  have h := h.2
                  refine V_aload_n (pc := 157) dX8_readLine_157 rfl ?_
                  refine V_callVi [] (pc := 158) kX8_takeSign lX8_112 sC8 rfl rfl (Nat.le_of_ble_eq_true rfl) rfl (Nat.le_of_ble_eq_true rfl) dX8_readLine_158 ?_
                  refine Ci.mono h ?_
                  intro x8 M8 h
                  refine V_if_ne (tgt := 166) (pc := 161) dX8_readLine_161 rfl (fun c => ?_) (fun c => ?_)
                  · have h := h.1 c
                    refine V_aload_n (pc := 166) dX8_readLine_166 rfl ?_
                    refine V_getR (pc := 167) fX8_19 sC8 rfl dX8_readLine_167 ?_
                    refine V_dup (pc := 170) dX8_readLine_170 rfl ?_
                    refine V_getI (pc := 171) fX8_43 sC6 rfl dX8_readLine_171 ?_
                    refine V_iconst (v := 1) (pc := 174) dX8_readLine_174 rfl ?_
                    refine V_iadd (pc := 175) dX8_readLine_175 ?_
                    refine V_putI (pc := 176) fX8_43 p3_9 sC6 rfl dX8_readLine_176 ?_
                    refine V_iconst (v := 1) (pc := 179) dX8_readLine_179 rfl ?_
                    exact V_zret dX8_readLine_180 rfl (Or.inr rfl) h
                  · have h := h.2 c
                    refine V_iconst (v := 0) (pc := 164) dX8_readLine_164 rfl ?_
                    exact V_zret dX8_readLine_165 rfl (Or.inl rfl) h
                · have h := h.2 c
                  refine V_iconst (v := 0) (pc := 142) dX8_readLine_142 rfl ?_
                  exact V_zret dX8_readLine_143 rfl (Or.inl rfl) h
            · have h := h.2 c
              refine V_iconst (v := 0) (pc := 112) dX8_readLine_112 rfl ?_
              exact V_zret dX8_readLine_113 rfl (Or.inl rfl) h
          · have h := h.2 c
            refine V_iconst (v := 0) (pc := 87) dX8_readLine_87 rfl ?_
            exact V_zret dX8_readLine_88 rfl (Or.inl rfl) h
        · have h := h.2 c
          refine V_iconst (v := 0) (pc := 63) dX8_readLine_63 rfl ?_
          exact V_zret dX8_readLine_64 rfl (Or.inl rfl) h
      · have h := h.2 c
        refine V_iconst (v := 0) (pc := 41) dX8_readLine_41 rfl ?_
        exact V_zret dX8_readLine_42 rfl (Or.inl rfl) h
    · have h := h.2 c
      refine V_aload_n (pc := 18) dX8_readLine_18 rfl ?_
      refine V_iconst (v := 3) (pc := 19) dX8_readLine_19 rfl ?_
      refine V_callVi [.int 3] (pc := 20) kX8_fail lX8_92 sC8 rfl rfl (Nat.le_of_ble_eq_true rfl) rfl (Nat.le_of_ble_eq_true rfl) dX8_readLine_20 ?_
      refine Ci.mono h ?_
      intro x9 M9 h
      exact V_zret dX8_readLine_23 rfl h.1 h.2
