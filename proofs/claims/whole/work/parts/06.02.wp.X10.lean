theorem wp_X10_add {G : GV} {k : Nat} {M : Mem} {q : Mem → Prop} {v1 : Int32} (h : ((600 ≤ (M.1 2 1) → q M) ∧ (¬ 600 ≤ (M.1 2 1) → vp_in (M.1 2 1) 600 ∧ q (mset (mset M 2 1 ((M.1 2 1) + 1)) 16 (ix (M.1 2 1)) (vp_nar .byte v1))))) : Cv shC G mX10_add k [.ref (G.2.1 2), .int v1] M q := by
  unfold Cv
  show V _ _ _ _ _ [(0, .ref (G.2.1 2)), (1, .int v1)] _ _ _
  refine V_aload_n (pc := 0) dX10_add_0 rfl ?_
  refine V_getI (pc := 1) fX10_15 sC2 rfl dX10_add_1 ?_
  refine V_sipush (v := 600) (pc := 4) dX10_add_4 rfl ?_
  refine V_icmp_ge (tgt := 27) (pc := 7) dX10_add_7 rfl (fun c => ?_) (fun c => ?_)
  · have h := h.1 c
    exact V_vret dX10_add_27 rfl h
  · have h := h.2 c
    refine V_aload_n (pc := 10) dX10_add_10 rfl ?_
    refine V_getR (pc := 11) fX10_9 sC2 rfl dX10_add_11 ?_
    refine V_aload_n (pc := 14) dX10_add_14 rfl ?_
    refine V_dup (pc := 15) dX10_add_15 rfl ?_
    refine V_getI (pc := 16) fX10_15 sC2 rfl dX10_add_16 ?_
    refine V_dup_x1 (pc := 19) dX10_add_19 rfl rfl ?_
    refine V_iconst (v := 1) (pc := 20) dX10_add_20 rfl ?_
    refine V_iadd (pc := 21) dX10_add_21 ?_
    refine V_putI (pc := 22) fX10_15 p10_1 sC2 rfl dX10_add_22 ?_
    refine V_iload_n (pc := 25) dX10_add_25 rfl ?_
    refine V_bast (pc := 26) sC16 dX10_add_26 h.1 ?_
    have h := h.2
    exact V_vret dX10_add_27 rfl h
theorem wp_X10_isFigure {G : GV} {k : Nat} {M : Mem} {q : Int32 → Mem → Prop} {v0 : Int32} (h : ((v0 < 48 → q 0 M) ∧ (¬ v0 < 48 → ((57 < v0 → q 0 M) ∧ (¬ 57 < v0 → q 1 M))))) : Ci shC G mX10_isFigure k [.int v0] M q := by
  unfold Ci
  show V _ _ _ _ _ [(0, .int v0)] _ _ _
  refine V_iload_n (pc := 0) dX10_isFigure_0 rfl ?_
  refine V_bipush (v := 48) (pc := 1) dX10_isFigure_1 rfl ?_
  refine V_icmp_lt (tgt := 16) (pc := 3) dX10_isFigure_3 rfl (fun c => ?_) (fun c => ?_)
  · have h := h.1 c
    refine V_iconst (v := 0) (pc := 16) dX10_isFigure_16 rfl ?_
    exact V_zret dX10_isFigure_17 rfl (Or.inl rfl) h
  · have h := h.2 c
    refine V_iload_n (pc := 6) dX10_isFigure_6 rfl ?_
    refine V_bipush (v := 57) (pc := 7) dX10_isFigure_7 rfl ?_
    refine V_icmp_gt (tgt := 16) (pc := 9) dX10_isFigure_9 rfl (fun c => ?_) (fun c => ?_)
    · have h := h.1 c
      refine V_iconst (v := 0) (pc := 16) dX10_isFigure_16 rfl ?_
      exact V_zret dX10_isFigure_17 rfl (Or.inl rfl) h
    · have h := h.2 c
      refine V_iconst (v := 1) (pc := 12) dX10_isFigure_12 rfl ?_
      refine V_goto (tgt := 17) (pc := 13) dX10_isFigure_13 rfl ?_
      exact V_zret dX10_isFigure_17 rfl (Or.inr rfl) h
theorem wp_X10_isLetter {G : GV} {k : Nat} {M : Mem} {q : Int32 → Mem → Prop} {v0 : Int32} (h : ((v0 < 97 → q 0 M) ∧ (¬ v0 < 97 → ((122 < v0 → q 0 M) ∧ (¬ 122 < v0 → q 1 M))))) : Ci shC G mX10_isLetter k [.int v0] M q := by
  unfold Ci
  show V _ _ _ _ _ [(0, .int v0)] _ _ _
  refine V_iload_n (pc := 0) dX10_isLetter_0 rfl ?_
  refine V_bipush (v := 97) (pc := 1) dX10_isLetter_1 rfl ?_
  refine V_icmp_lt (tgt := 16) (pc := 3) dX10_isLetter_3 rfl (fun c => ?_) (fun c => ?_)
  · have h := h.1 c
    refine V_iconst (v := 0) (pc := 16) dX10_isLetter_16 rfl ?_
    exact V_zret dX10_isLetter_17 rfl (Or.inl rfl) h
  · have h := h.2 c
    refine V_iload_n (pc := 6) dX10_isLetter_6 rfl ?_
    refine V_bipush (v := 122) (pc := 7) dX10_isLetter_7 rfl ?_
    refine V_icmp_gt (tgt := 16) (pc := 9) dX10_isLetter_9 rfl (fun c => ?_) (fun c => ?_)
    · have h := h.1 c
      refine V_iconst (v := 0) (pc := 16) dX10_isLetter_16 rfl ?_
      exact V_zret dX10_isLetter_17 rfl (Or.inl rfl) h
    · have h := h.2 c
      refine V_iconst (v := 1) (pc := 12) dX10_isLetter_12 rfl ?_
      refine V_goto (tgt := 17) (pc := 13) dX10_isLetter_13 rfl ?_
      exact V_zret dX10_isLetter_17 rfl (Or.inr rfl) h
theorem wp_X10_letter {G : GV} {k : Nat} {M : Mem} {q : Int32 → Mem → Prop} {v1 : Int32} (h : ((((M.1 2 3) + v1) < 0 → q 0 M) ∧ (¬ ((M.1 2 3) + v1) < 0 → ((((M.1 2 3) + v1) < (M.1 2 1) → vp_in ((M.1 2 3) + v1) 600 ∧ q ((M.1 16 (ix ((M.1 2 3) + v1))) - 97) M) ∧ (¬ ((M.1 2 3) + v1) < (M.1 2 1) → q 0 M))))) : Ci shC G mX10_letter k [.ref (G.2.1 2), .int v1] M q := by
  unfold Ci
  show V _ _ _ _ _ [(0, .ref (G.2.1 2)), (1, .int v1)] _ _ _
  refine V_aload_n (pc := 0) dX10_letter_0 rfl ?_
  refine V_getI (pc := 1) fX10_25 sC2 rfl dX10_letter_1 ?_
  refine V_iload_n (pc := 4) dX10_letter_4 rfl ?_
  refine V_iadd (pc := 5) dX10_letter_5 ?_
  refine V_istore_n (pc := 6) dX10_letter_6 (by decide) ?_
  refine V_lv (lv2 := [(0, .ref (G.2.1 2)), (1, .int v1), (2, .int ((M.1 2 3) + v1))]) rfl ?_
  refine V_iload_n (pc := 7) dX10_letter_7 rfl ?_
  refine V_if_lt (tgt := 19) (pc := 8) dX10_letter_8 rfl (fun c => ?_) (fun c => ?_)
  · have h := h.1 c
    refine V_iconst (v := 0) (pc := 19) dX10_letter_19 rfl ?_
    refine V_goto (tgt := 32) (pc := 20) dX10_letter_20 rfl ?_
    exact V_iret dX10_letter_32 rfl h
  · have h := h.2 c
    refine V_iload_n (pc := 11) dX10_letter_11 rfl ?_
    refine V_aload_n (pc := 12) dX10_letter_12 rfl ?_
    refine V_getI (pc := 13) fX10_15 sC2 rfl dX10_letter_13 ?_
    refine V_icmp_lt (tgt := 23) (pc := 16) dX10_letter_16 rfl (fun c => ?_) (fun c => ?_)
    · have h := h.1 c
      refine V_aload_n (pc := 23) dX10_letter_23 rfl ?_
      refine V_getR (pc := 24) fX10_9 sC2 rfl dX10_letter_24 ?_
      refine V_iload_n (pc := 27) dX10_letter_27 rfl ?_
      refine V_bald (pc := 28) sC16 dX10_letter_28 h.1 ?_
      have h := h.2
      refine V_bipush (v := 97) (pc := 29) dX10_letter_29 rfl ?_
      refine V_isub (pc := 31) dX10_letter_31 ?_
      exact V_iret dX10_letter_32 rfl h
    · have h := h.2 c
      refine V_iconst (v := 0) (pc := 19) dX10_letter_19 rfl ?_
      refine V_goto (tgt := 32) (pc := 20) dX10_letter_20 rfl ?_
      exact V_iret dX10_letter_32 rfl h
theorem wp_X10_letters {G : GV} {k : Nat} {M : Mem} {q : Int32 → Mem → Prop}  (h : q ((M.1 2 4) - (M.1 2 3)) M) : Ci shC G mX10_letters k [.ref (G.2.1 2)] M q := by
  unfold Ci
  show V _ _ _ _ _ [(0, .ref (G.2.1 2))] _ _ _
  refine V_aload_n (pc := 0) dX10_letters_0 rfl ?_
  refine V_getI (pc := 1) fX10_19 sC2 rfl dX10_letters_1 ?_
  refine V_aload_n (pc := 4) dX10_letters_4 rfl ?_
  refine V_getI (pc := 5) fX10_25 sC2 rfl dX10_letters_5 ?_
  refine V_isub (pc := 8) dX10_letters_8 ?_
  exact V_iret dX10_letters_9 rfl h
theorem wp_X10_number {G : GV} {k : Nat} {M : Mem} {q : Int32 → Mem → Prop}  (h : V shC G mX10_number k 7 [(0, .ref (G.2.1 2)), (1, .int 0), (2, .int (M.1 2 3))] [] M (Qi q)) : Ci shC G mX10_number k [.ref (G.2.1 2)] M q := by
  unfold Ci
  show V _ _ _ _ _ [(0, .ref (G.2.1 2))] _ _ _
  refine V_iconst (v := 0) (pc := 0) dX10_number_0 rfl ?_
  refine V_istore_n (pc := 1) dX10_number_1 (by decide) ?_
  refine V_lv (lv2 := [(0, .ref (G.2.1 2)), (1, .int 0)]) rfl ?_
  refine V_aload_n (pc := 2) dX10_number_2 rfl ?_
  refine V_getI (pc := 3) fX10_25 sC2 rfl dX10_number_3 ?_
  refine V_istore_n (pc := 6) dX10_number_6 (by decide) ?_
  refine V_lv (lv2 := [(0, .ref (G.2.1 2)), (1, .int 0), (2, .int (M.1 2 3))]) rfl ?_
  exact V_sub h ⟨rfl, rfl, rfl, trivial⟩
theorem wp_X10_number_7 {G : GV} {k : Nat} {M : Mem} {q : Int32 → Mem → Prop} {v1 : Int32} {v2 : Int32} (h : (((M.1 2 4) ≤ v2 → q v1 M) ∧ (¬ (M.1 2 4) ≤ v2 → (((M.1 2 1) ≤ v2 → q v1 M) ∧ (¬ (M.1 2 1) ≤ v2 → vp_in v2 600 ∧ V shC G mX10_number k 7 [(0, .ref (G.2.1 2)), (1, .int (((10 * v1) + (M.1 16 (ix v2))) - 48)), (2, .int (v2 + 1))] [] M (Qi q)))))) : V shC G mX10_number k 7 [(0, .ref (G.2.1 2)), (1, .int v1), (2, .int v2)] [] M (Qi q) := by
  refine V_iload_n (pc := 7) dX10_number_7 rfl ?_
  refine V_aload_n (pc := 8) dX10_number_8 rfl ?_
  refine V_getI (pc := 9) fX10_19 sC2 rfl dX10_number_9 ?_
  refine V_icmp_ge (tgt := 44) (pc := 12) dX10_number_12 rfl (fun c => ?_) (fun c => ?_)
  · have h := h.1 c
    refine V_iload_n (pc := 44) dX10_number_44 rfl ?_
    exact V_iret dX10_number_45 rfl h
  · have h := h.2 c
    refine V_iload_n (pc := 15) dX10_number_15 rfl ?_
    refine V_aload_n (pc := 16) dX10_number_16 rfl ?_
    refine V_getI (pc := 17) fX10_15 sC2 rfl dX10_number_17 ?_
    refine V_icmp_ge (tgt := 44) (pc := 20) dX10_number_20 rfl (fun c => ?_) (fun c => ?_)
    · have h := h.1 c
      refine V_iload_n (pc := 44) dX10_number_44 rfl ?_
      exact V_iret dX10_number_45 rfl h
    · have h := h.2 c
      refine V_bipush (v := 10) (pc := 23) dX10_number_23 rfl ?_
      refine V_iload_n (pc := 25) dX10_number_25 rfl ?_
      refine V_imul (pc := 26) dX10_number_26 ?_
      refine V_aload_n (pc := 27) dX10_number_27 rfl ?_
      refine V_getR (pc := 28) fX10_9 sC2 rfl dX10_number_28 ?_
      refine V_iload_n (pc := 31) dX10_number_31 rfl ?_
      refine V_bald (pc := 32) sC16 dX10_number_32 h.1 ?_
      have h := h.2
      refine V_iadd (pc := 33) dX10_number_33 ?_
      refine V_bipush (v := 48) (pc := 34) dX10_number_34 rfl ?_
      refine V_isub (pc := 36) dX10_number_36 ?_
      refine V_istore_n (pc := 37) dX10_number_37 (by decide) ?_
      refine V_lv (lv2 := [(0, .ref (G.2.1 2)), (1, .int (((10 * v1) + (M.1 16 (ix v2))) - 48)), (2, .int v2)]) rfl ?_
      refine V_iinc (pc := 38) dX10_number_38 rfl (by decide) ?_
      refine V_lv (lv2 := [(0, .ref (G.2.1 2)), (1, .int (((10 * v1) + (M.1 16 (ix v2))) - 48)), (2, .int (v2 + 1))]) rfl ?_
      refine V_goto (tgt := 7) (pc := 41) dX10_number_41 rfl ?_
      exact V_sub h ⟨rfl, rfl, rfl, trivial⟩
theorem wp_X10_step {G : GV} {k : Nat} {M : Mem} {q : Mem → Prop}  (h : V shC G mX10_step (k + 1) 8 [(0, .ref (G.2.1 2))] [] (mset M 2 3 (M.1 2 4)) (Qv q)) : Cv shC G mX10_step (k + 1) [.ref (G.2.1 2)] M q := by
  unfold Cv
  show V _ _ _ _ _ [(0, .ref (G.2.1 2))] _ _ _
  refine V_aload_n (pc := 0) dX10_step_0 rfl ?_
  refine V_aload_n (pc := 1) dX10_step_1 rfl ?_
  refine V_getI (pc := 2) fX10_19 sC2 rfl dX10_step_2 ?_
  refine V_putI (pc := 5) fX10_25 p10_3 sC2 rfl dX10_step_5 ?_
  exact V_sub h ⟨rfl, trivial⟩
theorem wp_X10_step_8 {G : GV} {k : Nat} {M : Mem} {q : Mem → Prop}  (h : (((M.1 2 1) ≤ (M.1 2 3) → (((M.1 2 3) < (M.1 2 1) → vp_in (M.1 2 3) 600 ∧ Ci shC G mX10_isLetter k [.int (M.1 16 (ix (M.1 2 3)))] (mset M 2 4 (M.1 2 3)) (fun x1 M1 => ((x1 = 0 → vp_in (M1.1 2 3) 600 ∧ Ci shC G mX10_isFigure k [.int (M1.1 16 (ix (M1.1 2 3)))] M1 (fun x2 M2 => ((x2 = 0 → vp_in (M2.1 2 3) 600 ∧ (((M2.1 16 (ix (M2.1 2 3))) ≠ 59 → q (mset (mset M2 2 2 4) 2 4 ((M2.1 2 3) + 1))) ∧ ((M2.1 16 (ix (M2.1 2 3))) = 59 → q (mset (mset M2 2 2 3) 2 4 ((M2.1 2 3) + 1))))) ∧ (¬ x2 = 0 → V shC G mX10_step (k + 1) 161 [(0, .ref (G.2.1 2))] [] M2 (Qv q))))) ∧ (¬ x1 = 0 → V shC G mX10_step (k + 1) 107 [(0, .ref (G.2.1 2))] [] (mset M1 2 2 1) (Qv q))))) ∧ (¬ (M.1 2 3) < (M.1 2 1) → q (mset (mset M 2 4 (M.1 2 3)) 2 2 0)))) ∧ (¬ (M.1 2 1) ≤ (M.1 2 3) → vp_in (M.1 2 3) 600 ∧ (((M.1 16 (ix (M.1 2 3))) = 32 → V shC G mX10_step (k + 1) 8 [(0, .ref (G.2.1 2))] [] (mset M 2 3 ((M.1 2 3) + 1)) (Qv q)) ∧ (¬ (M.1 16 (ix (M.1 2 3))) = 32 → vp_in (M.1 2 3) 600 ∧ (((M.1 16 (ix (M.1 2 3))) ≠ 10 → (((M.1 2 3) < (M.1 2 1) → vp_in (M.1 2 3) 600 ∧ Ci shC G mX10_isLetter k [.int (M.1 16 (ix (M.1 2 3)))] (mset M 2 4 (M.1 2 3)) (fun x3 M3 => ((x3 = 0 → vp_in (M3.1 2 3) 600 ∧ Ci shC G mX10_isFigure k [.int (M3.1 16 (ix (M3.1 2 3)))] M3 (fun x4 M4 => ((x4 = 0 → vp_in (M4.1 2 3) 600 ∧ (((M4.1 16 (ix (M4.1 2 3))) ≠ 59 → q (mset (mset M4 2 2 4) 2 4 ((M4.1 2 3) + 1))) ∧ ((M4.1 16 (ix (M4.1 2 3))) = 59 → q (mset (mset M4 2 2 3) 2 4 ((M4.1 2 3) + 1))))) ∧ (¬ x4 = 0 → V shC G mX10_step (k + 1) 161 [(0, .ref (G.2.1 2))] [] M4 (Qv q))))) ∧ (¬ x3 = 0 → V shC G mX10_step (k + 1) 107 [(0, .ref (G.2.1 2))] [] (mset M3 2 2 1) (Qv q))))) ∧ (¬ (M.1 2 3) < (M.1 2 1) → q (mset (mset M 2 4 (M.1 2 3)) 2 2 0)))) ∧ ((M.1 16 (ix (M.1 2 3))) = 10 → V shC G mX10_step (k + 1) 8 [(0, .ref (G.2.1 2))] [] (mset M 2 3 ((M.1 2 3) + 1)) (Qv q)))))))) : V shC G mX10_step (k + 1) 8 [(0, .ref (G.2.1 2))] [] M (Qv q) := by
  refine V_aload_n (pc := 8) dX10_step_8 rfl ?_
  refine V_getI (pc := 9) fX10_25 sC2 rfl dX10_step_9 ?_
  refine V_aload_n (pc := 12) dX10_step_12 rfl ?_
  refine V_getI (pc := 13) fX10_15 sC2 rfl dX10_step_13 ?_
  refine V_icmp_ge (tgt := 60) (pc := 16) dX10_step_16 rfl (fun c => ?_) (fun c => ?_)
  · have h := h.1 c
    refine V_aload_n (pc := 60) dX10_step_60 rfl ?_
    refine V_aload_n (pc := 61) dX10_step_61 rfl ?_
    refine V_getI (pc := 62) fX10_25 sC2 rfl dX10_step_62 ?_
    refine V_putI (pc := 65) fX10_19 p10_4 sC2 rfl dX10_step_65 ?_
    refine V_aload_n (pc := 68) dX10_step_68 rfl ?_
    refine V_getI (pc := 69) fX10_25 sC2 rfl dX10_step_69 ?_
    refine V_top (v := (M.1 2 3)) (by simp [mset, lset, upd]) ?_
    refine V_aload_n (pc := 72) dX10_step_72 rfl ?_
    refine V_getI (pc := 73) fX10_15 sC2 rfl dX10_step_73 ?_
    refine V_top (v := (M.1 2 1)) (by simp [mset, lset, upd]) ?_
    refine V_icmp_lt (tgt := 87) (pc := 76) dX10_step_76 rfl (fun c => ?_) (fun c => ?_)
    · have h := h.1 c
      refine V_aload_n (pc := 87) dX10_step_87 rfl ?_
      refine V_getR (pc := 88) fX10_9 sC2 rfl dX10_step_88 ?_
      refine V_aload_n (pc := 91) dX10_step_91 rfl ?_
      refine V_getI (pc := 92) fX10_25 sC2 rfl dX10_step_92 ?_
      refine V_top (v := (M.1 2 3)) (by simp [mset, lset, upd]) ?_
      refine V_bald (pc := 95) sC16 dX10_step_95 h.1 ?_
      have h := h.2
      refine V_top (v := (M.1 16 (ix (M.1 2 3)))) (by simp [mset, lset]) ?_
      refine V_callSi [.int (M.1 16 (ix (M.1 2 3)))] (pc := 96) kX10_isLetter lX10_31 rfl (Nat.le_of_ble_eq_true rfl) rfl (Nat.le_of_ble_eq_true rfl) dX10_step_96 ?_
      refine Ci.mono h ?_
      intro x1 M1 h
      refine V_if_eq (tgt := 146) (pc := 99) dX10_step_99 rfl (fun c => ?_) (fun c => ?_)
      · have h := h.1 c
        refine V_aload_n (pc := 146) dX10_step_146 rfl ?_
        refine V_getR (pc := 147) fX10_9 sC2 rfl dX10_step_147 ?_
        refine V_aload_n (pc := 150) dX10_step_150 rfl ?_
        refine V_getI (pc := 151) fX10_25 sC2 rfl dX10_step_151 ?_
        refine V_bald (pc := 154) sC16 dX10_step_154 h.1 ?_
        have h := h.2
        refine V_callSi [.int (M1.1 16 (ix (M1.1 2 3)))] (pc := 155) kX10_isFigure lX10_35 rfl (Nat.le_of_ble_eq_true rfl) rfl (Nat.le_of_ble_eq_true rfl) dX10_step_155 ?_
        refine Ci.mono h ?_
        intro x2 M2 h
        refine V_if_eq (tgt := 225) (pc := 158) dX10_step_158 rfl (fun c => ?_) (fun c => ?_)
        · have h := h.1 c
          refine V_aload_n (pc := 225) dX10_step_225 rfl ?_
          refine V_aload_n (pc := 226) dX10_step_226 rfl ?_
          refine V_getR (pc := 227) fX10_9 sC2 rfl dX10_step_227 ?_
          refine V_aload_n (pc := 230) dX10_step_230 rfl ?_
          refine V_getI (pc := 231) fX10_25 sC2 rfl dX10_step_231 ?_
          refine V_bald (pc := 234) sC16 dX10_step_234 h.1 ?_
          have h := h.2
          refine V_bipush (v := 59) (pc := 235) dX10_step_235 rfl ?_
          refine V_icmp_ne (tgt := 244) (pc := 237) dX10_step_237 rfl (fun c => ?_) (fun c => ?_)
          · have h := h.1 c
            refine V_iconst (v := 4) (pc := 244) dX10_step_244 rfl ?_
            refine V_putI (pc := 245) fX10_28 p10_2 sC2 rfl dX10_step_245 ?_
            refine V_aload_n (pc := 248) dX10_step_248 rfl ?_
            refine V_aload_n (pc := 249) dX10_step_249 rfl ?_
            refine V_getI (pc := 250) fX10_25 sC2 rfl dX10_step_250 ?_
            refine V_top (v := (M2.1 2 3)) (by simp [mset, lset, upd]) ?_
            refine V_iconst (v := 1) (pc := 253) dX10_step_253 rfl ?_
            refine V_iadd (pc := 254) dX10_step_254 ?_
            refine V_putI (pc := 255) fX10_19 p10_4 sC2 rfl dX10_step_255 ?_
            exact V_vret dX10_step_258 rfl h
          · have h := h.2 c
            refine V_iconst (v := 3) (pc := 240) dX10_step_240 rfl ?_
            refine V_goto (tgt := 245) (pc := 241) dX10_step_241 rfl ?_
            refine V_putI (pc := 245) fX10_28 p10_2 sC2 rfl dX10_step_245 ?_
            refine V_aload_n (pc := 248) dX10_step_248 rfl ?_
            refine V_aload_n (pc := 249) dX10_step_249 rfl ?_
            refine V_getI (pc := 250) fX10_25 sC2 rfl dX10_step_250 ?_
            refine V_top (v := (M2.1 2 3)) (by simp [mset, lset, upd]) ?_
            refine V_iconst (v := 1) (pc := 253) dX10_step_253 rfl ?_
            refine V_iadd (pc := 254) dX10_step_254 ?_
            refine V_putI (pc := 255) fX10_19 p10_4 sC2 rfl dX10_step_255 ?_
            exact V_vret dX10_step_258 rfl h
        · have h := h.2 c
          exact V_sub h ⟨rfl, trivial⟩
      · have h := h.2 c
        refine V_aload_n (pc := 102) dX10_step_102 rfl ?_
        refine V_iconst (v := 1) (pc := 103) dX10_step_103 rfl ?_
        refine V_putI (pc := 104) fX10_28 p10_2 sC2 rfl dX10_step_104 ?_
        exact V_sub h ⟨rfl, trivial⟩
    · have h := h.2 c
      refine V_aload_n (pc := 79) dX10_step_79 rfl ?_
      refine V_iconst (v := 0) (pc := 80) dX10_step_80 rfl ?_
      refine V_putI (pc := 81) fX10_28 p10_2 sC2 rfl dX10_step_81 ?_
      refine V_goto (tgt := 258) (pc := 84) dX10_step_84 rfl ?_
      exact V_vret dX10_step_258 rfl h
  · have h := h.2 c
    refine V_aload_n (pc := 19) dX10_step_19 rfl ?_
    refine V_getR (pc := 20) fX10_9 sC2 rfl dX10_step_20 ?_
    refine V_aload_n (pc := 23) dX10_step_23 rfl ?_
    refine V_getI (pc := 24) fX10_25 sC2 rfl dX10_step_24 ?_
    refine V_bald (pc := 27) sC16 dX10_step_27 h.1 ?_
    have h := h.2
    refine V_bipush (v := 32) (pc := 28) dX10_step_28 rfl ?_
    refine V_icmp_eq (tgt := 47) (pc := 30) dX10_step_30 rfl (fun c => ?_) (fun c => ?_)
    · have h := h.1 c
      refine V_aload_n (pc := 47) dX10_step_47 rfl ?_
      refine V_dup (pc := 48) dX10_step_48 rfl ?_
      refine V_getI (pc := 49) fX10_25 sC2 rfl dX10_step_49 ?_
      refine V_iconst (v := 1) (pc := 52) dX10_step_52 rfl ?_
      refine V_iadd (pc := 53) dX10_step_53 ?_
      refine V_putI (pc := 54) fX10_25 p10_3 sC2 rfl dX10_step_54 ?_
      refine V_goto (tgt := 8) (pc := 57) dX10_step_57 rfl ?_
      exact V_sub h ⟨rfl, trivial⟩
    · have h := h.2 c
      refine V_aload_n (pc := 33) dX10_step_33 rfl ?_
      refine V_getR (pc := 34) fX10_9 sC2 rfl dX10_step_34 ?_
      refine V_aload_n (pc := 37) dX10_step_37 rfl ?_
      refine V_getI (pc := 38) fX10_25 sC2 rfl dX10_step_38 ?_
      refine V_bald (pc := 41) sC16 dX10_step_41 h.1 ?_
      have h := h.2
      refine V_bipush (v := 10) (pc := 42) dX10_step_42 rfl ?_
      refine V_icmp_ne (tgt := 60) (pc := 44) dX10_step_44 rfl (fun c => ?_) (fun c => ?_)
      · have h := h.1 c
        refine V_aload_n (pc := 60) dX10_step_60 rfl ?_
        refine V_aload_n (pc := 61) dX10_step_61 rfl ?_
        refine V_getI (pc := 62) fX10_25 sC2 rfl dX10_step_62 ?_
        refine V_putI (pc := 65) fX10_19 p10_4 sC2 rfl dX10_step_65 ?_
        refine V_aload_n (pc := 68) dX10_step_68 rfl ?_
        refine V_getI (pc := 69) fX10_25 sC2 rfl dX10_step_69 ?_
        refine V_top (v := (M.1 2 3)) (by simp [mset, lset, upd]) ?_
        refine V_aload_n (pc := 72) dX10_step_72 rfl ?_
        refine V_getI (pc := 73) fX10_15 sC2 rfl dX10_step_73 ?_
        refine V_top (v := (M.1 2 1)) (by simp [mset, lset, upd]) ?_
        refine V_icmp_lt (tgt := 87) (pc := 76) dX10_step_76 rfl (fun c => ?_) (fun c => ?_)
        · have h := h.1 c
          refine V_aload_n (pc := 87) dX10_step_87 rfl ?_
          refine V_getR (pc := 88) fX10_9 sC2 rfl dX10_step_88 ?_
          refine V_aload_n (pc := 91) dX10_step_91 rfl ?_
          refine V_getI (pc := 92) fX10_25 sC2 rfl dX10_step_92 ?_
          refine V_top (v := (M.1 2 3)) (by simp [mset, lset, upd]) ?_
          refine V_bald (pc := 95) sC16 dX10_step_95 h.1 ?_
          have h := h.2
          refine V_top (v := (M.1 16 (ix (M.1 2 3)))) (by simp [mset, lset]) ?_
          refine V_callSi [.int (M.1 16 (ix (M.1 2 3)))] (pc := 96) kX10_isLetter lX10_31 rfl (Nat.le_of_ble_eq_true rfl) rfl (Nat.le_of_ble_eq_true rfl) dX10_step_96 ?_
          refine Ci.mono h ?_
          intro x3 M3 h
          refine V_if_eq (tgt := 146) (pc := 99) dX10_step_99 rfl (fun c => ?_) (fun c => ?_)
          · have h := h.1 c
            refine V_aload_n (pc := 146) dX10_step_146 rfl ?_
            refine V_getR (pc := 147) fX10_9 sC2 rfl dX10_step_147 ?_
            refine V_aload_n (pc := 150) dX10_step_150 rfl ?_
            refine V_getI (pc := 151) fX10_25 sC2 rfl dX10_step_151 ?_
            refine V_bald (pc := 154) sC16 dX10_step_154 h.1 ?_
            have h := h.2
            refine V_callSi [.int (M3.1 16 (ix (M3.1 2 3)))] (pc := 155) kX10_isFigure lX10_35 rfl (Nat.le_of_ble_eq_true rfl) rfl (Nat.le_of_ble_eq_true rfl) dX10_step_155 ?_
            refine Ci.mono h ?_
            intro x4 M4 h
            refine V_if_eq (tgt := 225) (pc := 158) dX10_step_158 rfl (fun c => ?_) (fun c => ?_)
            · have h := h.1 c
              refine V_aload_n (pc := 225) dX10_step_225 rfl ?_
              refine V_aload_n (pc := 226) dX10_step_226 rfl ?_
              refine V_getR (pc := 227) fX10_9 sC2 rfl dX10_step_227 ?_
              refine V_aload_n (pc := 230) dX10_step_230 rfl ?_
              refine V_getI (pc := 231) fX10_25 sC2 rfl dX10_step_231 ?_
              refine V_bald (pc := 234) sC16 dX10_step_234 h.1 ?_
              have h := h.2
              refine V_bipush (v := 59) (pc := 235) dX10_step_235 rfl ?_
              refine V_icmp_ne (tgt := 244) (pc := 237) dX10_step_237 rfl (fun c => ?_) (fun c => ?_)
              · have h := h.1 c
                refine V_iconst (v := 4) (pc := 244) dX10_step_244 rfl ?_
                refine V_putI (pc := 245) fX10_28 p10_2 sC2 rfl dX10_step_245 ?_
                refine V_aload_n (pc := 248) dX10_step_248 rfl ?_
                refine V_aload_n (pc := 249) dX10_step_249 rfl ?_
                refine V_getI (pc := 250) fX10_25 sC2 rfl dX10_step_250 ?_
                refine V_top (v := (M4.1 2 3)) (by simp [mset, lset, upd]) ?_
                refine V_iconst (v := 1) (pc := 253) dX10_step_253 rfl ?_
                refine V_iadd (pc := 254) dX10_step_254 ?_
                refine V_putI (pc := 255) fX10_19 p10_4 sC2 rfl dX10_step_255 ?_
                exact V_vret dX10_step_258 rfl h
              · have h := h.2 c
                refine V_iconst (v := 3) (pc := 240) dX10_step_240 rfl ?_
                refine V_goto (tgt := 245) (pc := 241) dX10_step_241 rfl ?_
                refine V_putI (pc := 245) fX10_28 p10_2 sC2 rfl dX10_step_245 ?_
                refine V_aload_n (pc := 248) dX10_step_248 rfl ?_
                refine V_aload_n (pc := 249) dX10_step_249 rfl ?_
                refine V_getI (pc := 250) fX10_25 sC2 rfl dX10_step_250 ?_
                refine V_top (v := (M4.1 2 3)) (by simp [mset, lset, upd]) ?_
                refine V_iconst (v := 1) (pc := 253) dX10_step_253 rfl ?_
                refine V_iadd (pc := 254) dX10_step_254 ?_
                refine V_putI (pc := 255) fX10_19 p10_4 sC2 rfl dX10_step_255 ?_
                exact V_vret dX10_step_258 rfl h
            · have h := h.2 c
              exact V_sub h ⟨rfl, trivial⟩
          · have h := h.2 c
            refine V_aload_n (pc := 102) dX10_step_102 rfl ?_
            refine V_iconst (v := 1) (pc := 103) dX10_step_103 rfl ?_
            refine V_putI (pc := 104) fX10_28 p10_2 sC2 rfl dX10_step_104 ?_
            exact V_sub h ⟨rfl, trivial⟩
        · have h := h.2 c
          refine V_aload_n (pc := 79) dX10_step_79 rfl ?_
          refine V_iconst (v := 0) (pc := 80) dX10_step_80 rfl ?_
          refine V_putI (pc := 81) fX10_28 p10_2 sC2 rfl dX10_step_81 ?_
          refine V_goto (tgt := 258) (pc := 84) dX10_step_84 rfl ?_
          exact V_vret dX10_step_258 rfl h
      · have h := h.2 c
        refine V_aload_n (pc := 47) dX10_step_47 rfl ?_
        refine V_dup (pc := 48) dX10_step_48 rfl ?_
        refine V_getI (pc := 49) fX10_25 sC2 rfl dX10_step_49 ?_
        refine V_iconst (v := 1) (pc := 52) dX10_step_52 rfl ?_
        refine V_iadd (pc := 53) dX10_step_53 ?_
        refine V_putI (pc := 54) fX10_25 p10_3 sC2 rfl dX10_step_54 ?_
        refine V_goto (tgt := 8) (pc := 57) dX10_step_57 rfl ?_
        exact V_sub h ⟨rfl, trivial⟩
theorem wp_X10_step_107 {G : GV} {k : Nat} {M : Mem} {q : Mem → Prop}  (h : (((M.1 2 1) ≤ (M.1 2 4) → q M) ∧ (¬ (M.1 2 1) ≤ (M.1 2 4) → vp_in (M.1 2 4) 600 ∧ Ci shC G mX10_isLetter k [.int (M.1 16 (ix (M.1 2 4)))] M (fun x1 M1 => ((x1 = 0 → q M1) ∧ (¬ x1 = 0 → V shC G mX10_step (k + 1) 107 [(0, .ref (G.2.1 2))] [] (mset M1 2 4 ((M1.1 2 4) + 1)) (Qv q))))))) : V shC G mX10_step (k + 1) 107 [(0, .ref (G.2.1 2))] [] M (Qv q) := by
  refine V_aload_n (pc := 107) dX10_step_107 rfl ?_
  refine V_getI (pc := 108) fX10_19 sC2 rfl dX10_step_108 ?_
  refine V_aload_n (pc := 111) dX10_step_111 rfl ?_
  refine V_getI (pc := 112) fX10_15 sC2 rfl dX10_step_112 ?_
  refine V_icmp_ge (tgt := 258) (pc := 115) dX10_step_115 rfl (fun c => ?_) (fun c => ?_)
  · have h := h.1 c
    exact V_vret dX10_step_258 rfl h
  · have h := h.2 c
    refine V_aload_n (pc := 118) dX10_step_118 rfl ?_
    refine V_getR (pc := 119) fX10_9 sC2 rfl dX10_step_119 ?_
    refine V_aload_n (pc := 122) dX10_step_122 rfl ?_
    refine V_getI (pc := 123) fX10_19 sC2 rfl dX10_step_123 ?_
    refine V_bald (pc := 126) sC16 dX10_step_126 h.1 ?_
    have h := h.2
    refine V_callSi [.int (M.1 16 (ix (M.1 2 4)))] (pc := 127) kX10_isLetter lX10_31 rfl (Nat.le_of_ble_eq_true rfl) rfl (Nat.le_of_ble_eq_true rfl) dX10_step_127 ?_
    refine Ci.mono h ?_
    intro x1 M1 h
    refine V_if_eq (tgt := 258) (pc := 130) dX10_step_130 rfl (fun c => ?_) (fun c => ?_)
    · have h := h.1 c
      exact V_vret dX10_step_258 rfl h
    · have h := h.2 c
      refine V_aload_n (pc := 133) dX10_step_133 rfl ?_
      refine V_dup (pc := 134) dX10_step_134 rfl ?_
      refine V_getI (pc := 135) fX10_19 sC2 rfl dX10_step_135 ?_
      refine V_iconst (v := 1) (pc := 138) dX10_step_138 rfl ?_
      refine V_iadd (pc := 139) dX10_step_139 ?_
      refine V_putI (pc := 140) fX10_19 p10_4 sC2 rfl dX10_step_140 ?_
      refine V_goto (tgt := 107) (pc := 143) dX10_step_143 rfl ?_
      exact V_sub h ⟨rfl, trivial⟩
theorem wp_X10_step_161 {G : GV} {k : Nat} {M : Mem} {q : Mem → Prop}  (h : (((M.1 2 1) ≤ (M.1 2 4) → ((4 < ((M.1 2 4) - (M.1 2 3)) → q (mset M 2 2 4)) ∧ (¬ 4 < ((M.1 2 4) - (M.1 2 3)) → q (mset M 2 2 2)))) ∧ (¬ (M.1 2 1) ≤ (M.1 2 4) → vp_in (M.1 2 4) 600 ∧ Ci shC G mX10_isFigure k [.int (M.1 16 (ix (M.1 2 4)))] M (fun x1 M1 => ((x1 = 0 → ((4 < ((M1.1 2 4) - (M1.1 2 3)) → q (mset M1 2 2 4)) ∧ (¬ 4 < ((M1.1 2 4) - (M1.1 2 3)) → q (mset M1 2 2 2)))) ∧ (¬ x1 = 0 → V shC G mX10_step (k + 1) 161 [(0, .ref (G.2.1 2))] [] (mset M1 2 4 ((M1.1 2 4) + 1)) (Qv q))))))) : V shC G mX10_step (k + 1) 161 [(0, .ref (G.2.1 2))] [] M (Qv q) := by
  refine V_aload_n (pc := 161) dX10_step_161 rfl ?_
  refine V_getI (pc := 162) fX10_19 sC2 rfl dX10_step_162 ?_
  refine V_aload_n (pc := 165) dX10_step_165 rfl ?_
  refine V_getI (pc := 166) fX10_15 sC2 rfl dX10_step_166 ?_
  refine V_icmp_ge (tgt := 200) (pc := 169) dX10_step_169 rfl (fun c => ?_) (fun c => ?_)
  · have h := h.1 c
    refine V_aload_n (pc := 200) dX10_step_200 rfl ?_
    refine V_aload_n (pc := 201) dX10_step_201 rfl ?_
    refine V_getI (pc := 202) fX10_19 sC2 rfl dX10_step_202 ?_
    refine V_aload_n (pc := 205) dX10_step_205 rfl ?_
    refine V_getI (pc := 206) fX10_25 sC2 rfl dX10_step_206 ?_
    refine V_isub (pc := 209) dX10_step_209 ?_
    refine V_iconst (v := 4) (pc := 210) dX10_step_210 rfl ?_
    refine V_icmp_gt (tgt := 218) (pc := 211) dX10_step_211 rfl (fun c => ?_) (fun c => ?_)
    · have h := h.1 c
      refine V_iconst (v := 4) (pc := 218) dX10_step_218 rfl ?_
      refine V_putI (pc := 219) fX10_28 p10_2 sC2 rfl dX10_step_219 ?_
      refine V_goto (tgt := 258) (pc := 222) dX10_step_222 rfl ?_
      exact V_vret dX10_step_258 rfl h
    · have h := h.2 c
      refine V_iconst (v := 2) (pc := 214) dX10_step_214 rfl ?_
      refine V_goto (tgt := 219) (pc := 215) dX10_step_215 rfl ?_
      refine V_putI (pc := 219) fX10_28 p10_2 sC2 rfl dX10_step_219 ?_
      refine V_goto (tgt := 258) (pc := 222) dX10_step_222 rfl ?_
      exact V_vret dX10_step_258 rfl h
  · have h := h.2 c
    refine V_aload_n (pc := 172) dX10_step_172 rfl ?_
    refine V_getR (pc := 173) fX10_9 sC2 rfl dX10_step_173 ?_
    refine V_aload_n (pc := 176) dX10_step_176 rfl ?_
    refine V_getI (pc := 177) fX10_19 sC2 rfl dX10_step_177 ?_
    refine V_bald (pc := 180) sC16 dX10_step_180 h.1 ?_
    have h := h.2
    refine V_callSi [.int (M.1 16 (ix (M.1 2 4)))] (pc := 181) kX10_isFigure lX10_35 rfl (Nat.le_of_ble_eq_true rfl) rfl (Nat.le_of_ble_eq_true rfl) dX10_step_181 ?_
    refine Ci.mono h ?_
    intro x1 M1 h
    refine V_if_eq (tgt := 200) (pc := 184) dX10_step_184 rfl (fun c => ?_) (fun c => ?_)
    · have h := h.1 c
      refine V_aload_n (pc := 200) dX10_step_200 rfl ?_
      refine V_aload_n (pc := 201) dX10_step_201 rfl ?_
      refine V_getI (pc := 202) fX10_19 sC2 rfl dX10_step_202 ?_
      refine V_aload_n (pc := 205) dX10_step_205 rfl ?_
      refine V_getI (pc := 206) fX10_25 sC2 rfl dX10_step_206 ?_
      refine V_isub (pc := 209) dX10_step_209 ?_
      refine V_iconst (v := 4) (pc := 210) dX10_step_210 rfl ?_
      refine V_icmp_gt (tgt := 218) (pc := 211) dX10_step_211 rfl (fun c => ?_) (fun c => ?_)
      · have h := h.1 c
        refine V_iconst (v := 4) (pc := 218) dX10_step_218 rfl ?_
        refine V_putI (pc := 219) fX10_28 p10_2 sC2 rfl dX10_step_219 ?_
        refine V_goto (tgt := 258) (pc := 222) dX10_step_222 rfl ?_
        exact V_vret dX10_step_258 rfl h
      · have h := h.2 c
        refine V_iconst (v := 2) (pc := 214) dX10_step_214 rfl ?_
        refine V_goto (tgt := 219) (pc := 215) dX10_step_215 rfl ?_
        refine V_putI (pc := 219) fX10_28 p10_2 sC2 rfl dX10_step_219 ?_
        refine V_goto (tgt := 258) (pc := 222) dX10_step_222 rfl ?_
        exact V_vret dX10_step_258 rfl h
    · have h := h.2 c
      refine V_aload_n (pc := 187) dX10_step_187 rfl ?_
      refine V_dup (pc := 188) dX10_step_188 rfl ?_
      refine V_getI (pc := 189) fX10_19 sC2 rfl dX10_step_189 ?_
      refine V_iconst (v := 1) (pc := 192) dX10_step_192 rfl ?_
      refine V_iadd (pc := 193) dX10_step_193 ?_
      refine V_putI (pc := 194) fX10_19 p10_4 sC2 rfl dX10_step_194 ?_
      refine V_goto (tgt := 161) (pc := 197) dX10_step_197 rfl ?_
      exact V_sub h ⟨rfl, trivial⟩
theorem wp_X10_rewind {G : GV} {k : Nat} {M : Mem} {q : Mem → Prop}  (h : Cv shC G mX10_step (k + 1) [.ref (G.2.1 2)] (mset M 2 4 0) (fun M1 => q M1)) : Cv shC G mX10_rewind (k + 2) [.ref (G.2.1 2)] M q := by
  unfold Cv
  show V _ _ _ _ _ [(0, .ref (G.2.1 2))] _ _ _
  refine V_aload_n (pc := 0) dX10_rewind_0 rfl ?_
  refine V_iconst (v := 0) (pc := 1) dX10_rewind_1 rfl ?_
  refine V_putI (pc := 2) fX10_19 p10_4 sC2 rfl dX10_rewind_2 ?_
  refine V_aload_n (pc := 5) dX10_rewind_5 rfl ?_
  refine V_callVv [] (pc := 6) kX10_step lX10_22 sC2 rfl rfl (Nat.le_of_ble_eq_true rfl) rfl (Nat.le_of_ble_eq_true rfl) dX10_rewind_6 ?_
  refine Cv.mono h ?_
  intro M1 h
  exact V_vret dX10_rewind_9 rfl h
