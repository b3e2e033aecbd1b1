theorem wp_X11_fault {G : GV} {k : Nat} {M : Mem} {q : Int32 → Mem → Prop}  (h : q (M.1 0 11) M) : Ci shC G mX11_fault k [.ref (G.2.1 0)] M q := by
  unfold Ci
  show V _ _ _ _ _ [(0, .ref (G.2.1 0))] _ _ _
  refine V_aload_n (pc := 0) dX11_fault_0 rfl ?_
  refine V_getI (pc := 1) fX11_141 sC0 rfl dX11_fault_1 ?_
  exact V_iret dX11_fault_4 rfl h
theorem wp_X11_finding {G : GV} {k : Nat} {M : Mem} {q : Int32 → Mem → Prop} {v1 : Int32} (h : q ((-1000010) - v1) (mset M 0 12 v1)) : Ci shC G mX11_finding k [.ref (G.2.1 0), .int v1] M q := by
  unfold Ci
  show V _ _ _ _ _ [(0, .ref (G.2.1 0)), (1, .int v1)] _ _ _
  refine V_aload_n (pc := 0) dX11_finding_0 rfl ?_
  refine V_iload_n (pc := 1) dX11_finding_1 rfl ?_
  refine V_putI (pc := 2) fX11_317 p11_12 sC0 rfl dX11_finding_2 ?_
  refine V_ldcw (pc := 5) dX11_finding_5 nX11_336 ?_
  refine V_iload_n (pc := 8) dX11_finding_8 rfl ?_
  refine V_isub (pc := 9) dX11_finding_9 ?_
  exact V_iret dX11_finding_10 rfl h
theorem wp_X11_meetsAnother {G : GV} {k : Nat} {M : Mem} {q : Int32 → Mem → Prop} {v1 : Int32} {v2 : Int32} (h : V shC G mX11_meetsAnother k 2 [(0, .ref (G.2.1 0)), (1, .int v1), (2, .int v2), (3, .int 0)] [] M (Qi q)) : Ci shC G mX11_meetsAnother k [.ref (G.2.1 0), .int v1, .int v2] M q := by
  unfold Ci
  show V _ _ _ _ _ [(0, .ref (G.2.1 0)), (1, .int v1), (2, .int v2)] _ _ _
  refine V_iconst (v := 0) (pc := 0) dX11_meetsAnother_0 rfl ?_
  refine V_istore_n (pc := 1) dX11_meetsAnother_1 (by decide) ?_
  refine V_lv (lv2 := [(0, .ref (G.2.1 0)), (1, .int v1), (2, .int v2), (3, .int 0)]) rfl ?_
  exact V_sub h ⟨rfl, rfl, rfl, rfl, trivial⟩
theorem wp_X11_meetsAnother_2 {G : GV} {k : Nat} {M : Mem} {q : Int32 → Mem → Prop} {v1 : Int32} {v2 : Int32} {v3 : Int32} (h : ((v2 ≤ v3 → q 0 M) ∧ (¬ v2 ≤ v3 → ((v3 = v1 → V shC G mX11_meetsAnother k 2 [(0, .ref (G.2.1 0)), (1, .int v1), (2, .int v2), (3, .int (v3 + 1))] [] M (Qi q)) ∧ (¬ v3 = v1 → vp_in v3 20 ∧ vp_in v1 20 ∧ (((M.1 12 (ix v3)) ≠ (M.1 12 (ix v1)) → V shC G mX11_meetsAnother k 2 [(0, .ref (G.2.1 0)), (1, .int v1), (2, .int v2), (3, .int (v3 + 1))] [] M (Qi q)) ∧ ((M.1 12 (ix v3)) = (M.1 12 (ix v1)) → q 1 M))))))) : V shC G mX11_meetsAnother k 2 [(0, .ref (G.2.1 0)), (1, .int v1), (2, .int v2), (3, .int v3)] [] M (Qi q) := by
  refine V_iload_n (pc := 2) dX11_meetsAnother_2 rfl ?_
  refine V_iload_n (pc := 3) dX11_meetsAnother_3 rfl ?_
  refine V_icmp_ge (tgt := 35) (pc := 4) dX11_meetsAnother_4 rfl (fun c => ?_) (fun c => ?_)
  · have h := h.1 c
    refine V_iconst (v := 0) (pc := 35) dX11_meetsAnother_35 rfl ?_
    exact V_zret dX11_meetsAnother_36 rfl (Or.inl rfl) h
  · have h := h.2 c
    refine V_iload_n (pc := 7) dX11_meetsAnother_7 rfl ?_
    refine V_iload_n (pc := 8) dX11_meetsAnother_8 rfl ?_
    refine V_icmp_eq (tgt := 29) (pc := 9) dX11_meetsAnother_9 rfl (fun c => ?_) (fun c => ?_)
    · have h := h.1 c
      refine V_iinc (pc := 29) dX11_meetsAnother_29 rfl (by decide) ?_
      refine V_lv (lv2 := [(0, .ref (G.2.1 0)), (1, .int v1), (2, .int v2), (3, .int (v3 + 1))]) rfl ?_
      refine V_goto (tgt := 2) (pc := 32) dX11_meetsAnother_32 rfl ?_
      exact V_sub h ⟨rfl, rfl, rfl, rfl, trivial⟩
    · have h := h.2 c
      refine V_aload_n (pc := 12) dX11_meetsAnother_12 rfl ?_
      refine V_getR (pc := 13) fX11_51 sC0 rfl dX11_meetsAnother_13 ?_
      refine V_iload_n (pc := 16) dX11_meetsAnother_16 rfl ?_
      refine V_iald (pc := 17) sC12 dX11_meetsAnother_17 h.1 ?_
      have h := h.2
      refine V_aload_n (pc := 18) dX11_meetsAnother_18 rfl ?_
      refine V_getR (pc := 19) fX11_51 sC0 rfl dX11_meetsAnother_19 ?_
      refine V_iload_n (pc := 22) dX11_meetsAnother_22 rfl ?_
      refine V_iald (pc := 23) sC12 dX11_meetsAnother_23 h.1 ?_
      have h := h.2
      refine V_icmp_ne (tgt := 29) (pc := 24) dX11_meetsAnother_24 rfl (fun c => ?_) (fun c => ?_)
      · have h := h.1 c
        refine V_iinc (pc := 29) dX11_meetsAnother_29 rfl (by decide) ?_
        refine V_lv (lv2 := [(0, .ref (G.2.1 0)), (1, .int v1), (2, .int v2), (3, .int (v3 + 1))]) rfl ?_
        refine V_goto (tgt := 2) (pc := 32) dX11_meetsAnother_32 rfl ?_
        exact V_sub h ⟨rfl, rfl, rfl, rfl, trivial⟩
      · have h := h.2 c
        refine V_iconst (v := 1) (pc := 27) dX11_meetsAnother_27 rfl ?_
        exact V_zret dX11_meetsAnother_28 rfl (Or.inr rfl) h
theorem wp_X11_noBook {G : GV} {k : Nat} {M : Mem} {q : Int32 → Mem → Prop} {v1 : Int32} (h : ((v1 < 0 → q 1 M) ∧ (¬ v1 < 0 → ((v1 < (M.1 3 3) → q 0 M) ∧ (¬ v1 < (M.1 3 3) → q 1 M))))) : Ci shC G mX11_noBook k [.ref (G.2.1 0), .int v1] M q := by
  unfold Ci
  show V _ _ _ _ _ [(0, .ref (G.2.1 0)), (1, .int v1)] _ _ _
  refine V_iload_n (pc := 0) dX11_noBook_0 rfl ?_
  refine V_if_lt (tgt := 15) (pc := 1) dX11_noBook_1 rfl (fun c => ?_) (fun c => ?_)
  · have h := h.1 c
    refine V_iconst (v := 1) (pc := 15) dX11_noBook_15 rfl ?_
    refine V_goto (tgt := 20) (pc := 16) dX11_noBook_16 rfl ?_
    exact V_zret dX11_noBook_20 rfl (Or.inr rfl) h
  · have h := h.2 c
    refine V_iload_n (pc := 4) dX11_noBook_4 rfl ?_
    refine V_aload_n (pc := 5) dX11_noBook_5 rfl ?_
    refine V_getR (pc := 6) fX11_26 sC0 rfl dX11_noBook_6 ?_
    refine V_getI (pc := 9) fX11_283 sC3 rfl dX11_noBook_9 ?_
    refine V_icmp_lt (tgt := 19) (pc := 12) dX11_noBook_12 rfl (fun c => ?_) (fun c => ?_)
    · have h := h.1 c
      refine V_iconst (v := 0) (pc := 19) dX11_noBook_19 rfl ?_
      exact V_zret dX11_noBook_20 rfl (Or.inl rfl) h
    · have h := h.2 c
      refine V_iconst (v := 1) (pc := 15) dX11_noBook_15 rfl ?_
      refine V_goto (tgt := 20) (pc := 16) dX11_noBook_16 rfl ?_
      exact V_zret dX11_noBook_20 rfl (Or.inr rfl) h
theorem wp_X11_noLine {G : GV} {k : Nat} {M : Mem} {q : Int32 → Mem → Prop} {v1 : Int32} (h : ((v1 < 0 → q 1 M) ∧ (¬ v1 < 0 → ((v1 < (M.1 6 8) → q 0 M) ∧ (¬ v1 < (M.1 6 8) → q 1 M))))) : Ci shC G mX11_noLine k [.ref (G.2.1 0), .int v1] M q := by
  unfold Ci
  show V _ _ _ _ _ [(0, .ref (G.2.1 0)), (1, .int v1)] _ _ _
  refine V_iload_n (pc := 0) dX11_noLine_0 rfl ?_
  refine V_if_lt (tgt := 15) (pc := 1) dX11_noLine_1 rfl (fun c => ?_) (fun c => ?_)
  · have h := h.1 c
    refine V_iconst (v := 1) (pc := 15) dX11_noLine_15 rfl ?_
    refine V_goto (tgt := 20) (pc := 16) dX11_noLine_16 rfl ?_
    exact V_zret dX11_noLine_20 rfl (Or.inr rfl) h
  · have h := h.2 c
    refine V_iload_n (pc := 4) dX11_noLine_4 rfl ?_
    refine V_aload_n (pc := 5) dX11_noLine_5 rfl ?_
    refine V_getR (pc := 6) fX11_47 sC0 rfl dX11_noLine_6 ?_
    refine V_getI (pc := 9) fX11_151 sC6 rfl dX11_noLine_9 ?_
    refine V_icmp_lt (tgt := 19) (pc := 12) dX11_noLine_12 rfl (fun c => ?_) (fun c => ?_)
    · have h := h.1 c
      refine V_iconst (v := 0) (pc := 19) dX11_noLine_19 rfl ?_
      exact V_zret dX11_noLine_20 rfl (Or.inl rfl) h
    · have h := h.2 c
      refine V_iconst (v := 1) (pc := 15) dX11_noLine_15 rfl ?_
      refine V_goto (tgt := 20) (pc := 16) dX11_noLine_16 rfl ?_
      exact V_zret dX11_noLine_20 rfl (Or.inr rfl) h
theorem wp_X11_noSheet {G : GV} {k : Nat} {M : Mem} {q : Int32 → Mem → Prop} {v1 : Int32} (h : ((v1 < 0 → q 1 M) ∧ (¬ v1 < 0 → ((v1 < 8 → q 0 M) ∧ (¬ v1 < 8 → q 1 M))))) : Ci shC G mX11_noSheet k [.ref (G.2.1 0), .int v1] M q := by
  unfold Ci
  show V _ _ _ _ _ [(0, .ref (G.2.1 0)), (1, .int v1)] _ _ _
  refine V_iload_n (pc := 0) dX11_noSheet_0 rfl ?_
  refine V_if_lt (tgt := 10) (pc := 1) dX11_noSheet_1 rfl (fun c => ?_) (fun c => ?_)
  · have h := h.1 c
    refine V_iconst (v := 1) (pc := 10) dX11_noSheet_10 rfl ?_
    refine V_goto (tgt := 15) (pc := 11) dX11_noSheet_11 rfl ?_
    exact V_zret dX11_noSheet_15 rfl (Or.inr rfl) h
  · have h := h.2 c
    refine V_iload_n (pc := 4) dX11_noSheet_4 rfl ?_
    refine V_bipush (v := 8) (pc := 5) dX11_noSheet_5 rfl ?_
    refine V_icmp_lt (tgt := 14) (pc := 7) dX11_noSheet_7 rfl (fun c => ?_) (fun c => ?_)
    · have h := h.1 c
      refine V_iconst (v := 0) (pc := 14) dX11_noSheet_14 rfl ?_
      exact V_zret dX11_noSheet_15 rfl (Or.inl rfl) h
    · have h := h.2 c
      refine V_iconst (v := 1) (pc := 10) dX11_noSheet_10 rfl ?_
      refine V_goto (tgt := 15) (pc := 11) dX11_noSheet_11 rfl ?_
      exact V_zret dX11_noSheet_15 rfl (Or.inr rfl) h
theorem wp_X11_noStreet {G : GV} {k : Nat} {M : Mem} {q : Int32 → Mem → Prop} {v1 : Int32} (h : ((v1 < 0 → q 1 M) ∧ (¬ v1 < 0 → ((v1 < 4 → q 0 M) ∧ (¬ v1 < 4 → q 1 M))))) : Ci shC G mX11_noStreet k [.ref (G.2.1 0), .int v1] M q := by
  unfold Ci
  show V _ _ _ _ _ [(0, .ref (G.2.1 0)), (1, .int v1)] _ _ _
  refine V_iload_n (pc := 0) dX11_noStreet_0 rfl ?_
  refine V_if_lt (tgt := 9) (pc := 1) dX11_noStreet_1 rfl (fun c => ?_) (fun c => ?_)
  · have h := h.1 c
    refine V_iconst (v := 1) (pc := 9) dX11_noStreet_9 rfl ?_
    refine V_goto (tgt := 14) (pc := 10) dX11_noStreet_10 rfl ?_
    exact V_zret dX11_noStreet_14 rfl (Or.inr rfl) h
  · have h := h.2 c
    refine V_iload_n (pc := 4) dX11_noStreet_4 rfl ?_
    refine V_iconst (v := 4) (pc := 5) dX11_noStreet_5 rfl ?_
    refine V_icmp_lt (tgt := 13) (pc := 6) dX11_noStreet_6 rfl (fun c => ?_) (fun c => ?_)
    · have h := h.1 c
      refine V_iconst (v := 0) (pc := 13) dX11_noStreet_13 rfl ?_
      exact V_zret dX11_noStreet_14 rfl (Or.inl rfl) h
    · have h := h.2 c
      refine V_iconst (v := 1) (pc := 9) dX11_noStreet_9 rfl ?_
      refine V_goto (tgt := 14) (pc := 10) dX11_noStreet_10 rfl ?_
      exact V_zret dX11_noStreet_14 rfl (Or.inr rfl) h
theorem wp_X11_noYear {G : GV} {k : Nat} {M : Mem} {q : Int32 → Mem → Prop} {v1 : Int32} (h : ((v1 < 0 → q 1 M) ∧ (¬ v1 < 0 → ((v1 ≤ 9999 → q 0 M) ∧ (¬ v1 ≤ 9999 → q 1 M))))) : Ci shC G mX11_noYear k [.ref (G.2.1 0), .int v1] M q := by
  unfold Ci
  show V _ _ _ _ _ [(0, .ref (G.2.1 0)), (1, .int v1)] _ _ _
  refine V_iload_n (pc := 0) dX11_noYear_0 rfl ?_
  refine V_if_lt (tgt := 11) (pc := 1) dX11_noYear_1 rfl (fun c => ?_) (fun c => ?_)
  · have h := h.1 c
    refine V_iconst (v := 1) (pc := 11) dX11_noYear_11 rfl ?_
    refine V_goto (tgt := 16) (pc := 12) dX11_noYear_12 rfl ?_
    exact V_zret dX11_noYear_16 rfl (Or.inr rfl) h
  · have h := h.2 c
    refine V_iload_n (pc := 4) dX11_noYear_4 rfl ?_
    refine V_sipush (v := 9999) (pc := 5) dX11_noYear_5 rfl ?_
    refine V_icmp_le (tgt := 15) (pc := 8) dX11_noYear_8 rfl (fun c => ?_) (fun c => ?_)
    · have h := h.1 c
      refine V_iconst (v := 0) (pc := 15) dX11_noYear_15 rfl ?_
      exact V_zret dX11_noYear_16 rfl (Or.inl rfl) h
    · have h := h.2 c
      refine V_iconst (v := 1) (pc := 11) dX11_noYear_11 rfl ?_
      refine V_goto (tgt := 16) (pc := 12) dX11_noYear_12 rfl ?_
      exact V_zret dX11_noYear_16 rfl (Or.inr rfl) h
theorem wp_X11_status {G : GV} {k : Nat} {M : Mem} {q : Int32 → Mem → Prop}  (h : q (M.1 0 12) M) : Ci shC G mX11_status k [.ref (G.2.1 0)] M q := by
  unfold Ci
  show V _ _ _ _ _ [(0, .ref (G.2.1 0))] _ _ _
  refine V_aload_n (pc := 0) dX11_status_0 rfl ?_
  refine V_getI (pc := 1) fX11_317 sC0 rfl dX11_status_1 ?_
  exact V_iret dX11_status_4 rfl h
theorem wp_X11_trace {G : GV} {k : Nat} {M : Mem} {q : Int32 → Mem → Prop} {v1 : Int32} (h : ((v1 < 0 → q (-1000000) M) ∧ (¬ v1 < 0 → ((v1 < (M.1 11 2) → vp_in v1 16 ∧ q (M.1 47 (ix v1)) M) ∧ (¬ v1 < (M.1 11 2) → q (-1000000) M))))) : Ci shC G mX11_trace k [.ref (G.2.1 0), .int v1] M q := by
  unfold Ci
  show V _ _ _ _ _ [(0, .ref (G.2.1 0)), (1, .int v1)] _ _ _
  refine V_iload_n (pc := 0) dX11_trace_0 rfl ?_
  refine V_if_lt (tgt := 15) (pc := 1) dX11_trace_1 rfl (fun c => ?_) (fun c => ?_)
  · have h := h.1 c
    refine V_ldc (pc := 15) dX11_trace_15 nX11_238 ?_
    refine V_goto (tgt := 29) (pc := 17) dX11_trace_17 rfl ?_
    exact V_iret dX11_trace_29 rfl h
  · have h := h.2 c
    refine V_iload_n (pc := 4) dX11_trace_4 rfl ?_
    refine V_aload_n (pc := 5) dX11_trace_5 rfl ?_
    refine V_getR (pc := 6) fX11_83 sC0 rfl dX11_trace_6 ?_
    refine V_getI (pc := 9) fX11_294 sC11 rfl dX11_trace_9 ?_
    refine V_icmp_lt (tgt := 20) (pc := 12) dX11_trace_12 rfl (fun c => ?_) (fun c => ?_)
    · have h := h.1 c
      refine V_aload_n (pc := 20) dX11_trace_20 rfl ?_
      refine V_getR (pc := 21) fX11_83 sC0 rfl dX11_trace_21 ?_
      refine V_getR (pc := 24) fX11_303 sC11 rfl dX11_trace_24 ?_
      refine V_iload_n (pc := 27) dX11_trace_27 rfl ?_
      refine V_iald (pc := 28) sC47 dX11_trace_28 h.1 ?_
      have h := h.2
      exact V_iret dX11_trace_29 rfl h
    · have h := h.2 c
      refine V_ldc (pc := 15) dX11_trace_15 nX11_238 ?_
      refine V_goto (tgt := 29) (pc := 17) dX11_trace_17 rfl ?_
      exact V_iret dX11_trace_29 rfl h
theorem wp_X11_withoutFinding {G : GV} {k : Nat} {M : Mem} {q : Int32 → Mem → Prop} {v1 : Int32} (h : q v1 (mset M 0 12 0)) : Ci shC G mX11_withoutFinding k [.ref (G.2.1 0), .int v1] M q := by
  unfold Ci
  show V _ _ _ _ _ [(0, .ref (G.2.1 0)), (1, .int v1)] _ _ _
  refine V_aload_n (pc := 0) dX11_withoutFinding_0 rfl ?_
  refine V_iconst (v := 0) (pc := 1) dX11_withoutFinding_1 rfl ?_
  refine V_putI (pc := 2) fX11_317 p11_12 sC0 rfl dX11_withoutFinding_2 ?_
  refine V_iload_n (pc := 5) dX11_withoutFinding_5 rfl ?_
  exact V_iret dX11_withoutFinding_6 rfl h
theorem wp_X11_countMeetings {G : GV} {k : Nat} {M : Mem} {q : Int32 → Mem → Prop} {v1 : Int32} (h : V shC G mX11_countMeetings (k + 1) 4 [(0, .ref (G.2.1 0)), (1, .int v1), (2, .int 0), (3, .int 0)] [] M (Qi q)) : Ci shC G mX11_countMeetings (k + 1) [.ref (G.2.1 0), .int v1] M q := by
  unfold Ci
  show V _ _ _ _ _ [(0, .ref (G.2.1 0)), (1, .int v1)] _ _ _
  refine V_iconst (v := 0) (pc := 0) dX11_countMeetings_0 rfl ?_
  refine V_istore_n (pc := 1) dX11_countMeetings_1 (by decide) ?_
  refine V_lv (lv2 := [(0, .ref (G.2.1 0)), (1, .int v1), (2, .int 0)]) rfl ?_
  refine V_iconst (v := 0) (pc := 2) dX11_countMeetings_2 rfl ?_
  refine V_istore_n (pc := 3) dX11_countMeetings_3 (by decide) ?_
  refine V_lv (lv2 := [(0, .ref (G.2.1 0)), (1, .int v1), (2, .int 0), (3, .int 0)]) rfl ?_
  exact V_sub h ⟨rfl, rfl, rfl, rfl, trivial⟩
theorem wp_X11_countMeetings_4 {G : GV} {k : Nat} {M : Mem} {q : Int32 → Mem → Prop} {v1 : Int32} {v2 : Int32} {v3 : Int32} (h : ((v1 ≤ v3 → q v2 M) ∧ (¬ v1 ≤ v3 → Ci shC G mX11_meetsAnother k [.ref (G.2.1 0), .int v3, .int v1] M (fun x1 M1 => ((x1 = 0 → V shC G mX11_countMeetings (k + 1) 4 [(0, .ref (G.2.1 0)), (1, .int v1), (2, .int v2), (3, .int (v3 + 1))] [] M1 (Qi q)) ∧ (¬ x1 = 0 → V shC G mX11_countMeetings (k + 1) 4 [(0, .ref (G.2.1 0)), (1, .int v1), (2, .int (v2 + 1)), (3, .int (v3 + 1))] [] M1 (Qi q))))))) : V shC G mX11_countMeetings (k + 1) 4 [(0, .ref (G.2.1 0)), (1, .int v1), (2, .int v2), (3, .int v3)] [] M (Qi q) := by
  refine V_iload_n (pc := 4) dX11_countMeetings_4 rfl ?_
  refine V_iload_n (pc := 5) dX11_countMeetings_5 rfl ?_
  refine V_icmp_ge (tgt := 27) (pc := 6) dX11_countMeetings_6 rfl (fun c => ?_) (fun c => ?_)
  · have h := h.1 c
    refine V_iload_n (pc := 27) dX11_countMeetings_27 rfl ?_
    exact V_iret dX11_countMeetings_28 rfl h
  · have h := h.2 c
    refine V_aload_n (pc := 9) dX11_countMeetings_9 rfl ?_
    refine V_iload_n (pc := 10) dX11_countMeetings_10 rfl ?_
    refine V_iload_n (pc := 11) dX11_countMeetings_11 rfl ?_
    refine V_callVi [.int v3, .int v1] (pc := 12) kX11_meetsAnother lX11_340 sC0 rfl rfl (Nat.le_of_ble_eq_true rfl) rfl (Nat.le_of_ble_eq_true rfl) dX11_countMeetings_12 ?_
    refine Ci.mono h ?_
    intro x1 M1 h
    refine V_if_eq (tgt := 21) (pc := 15) dX11_countMeetings_15 rfl (fun c => ?_) (fun c => ?_)
    · have h := h.1 c
      refine V_iinc (pc := 21) dX11_countMeetings_21 rfl (by decide) ?_
      refine V_lv (lv2 := [(0, .ref (G.2.1 0)), (1, .int v1), (2, .int v2), (3, .int (v3 + 1))]) rfl ?_
      refine V_goto (tgt := 4) (pc := 24) dX11_countMeetings_24 rfl ?_
      exact V_sub h ⟨rfl, rfl, rfl, rfl, trivial⟩
    · have h := h.2 c
      refine V_iinc (pc := 18) dX11_countMeetings_18 rfl (by decide) ?_
      refine V_lv (lv2 := [(0, .ref (G.2.1 0)), (1, .int v1), (2, .int (v2 + 1)), (3, .int v3)]) rfl ?_
      refine V_iinc (pc := 21) dX11_countMeetings_21 rfl (by decide) ?_
      refine V_lv (lv2 := [(0, .ref (G.2.1 0)), (1, .int v1), (2, .int (v2 + 1)), (3, .int (v3 + 1))]) rfl ?_
      refine V_goto (tgt := 4) (pc := 24) dX11_countMeetings_24 rfl ?_
      exact V_sub h ⟨rfl, rfl, rfl, rfl, trivial⟩
theorem wp_X11_drop {G : GV} {k : Nat} {M : Mem} {q : Int32 → Mem → Prop} {v1 : Int32} (h : Ci shC G mX11_noSheet k [.ref (G.2.1 0), .int v1] M (fun x1 M1 => ((x1 = 0 → Ci shC G mX9_isMissing k [.ref (G.2.1 1), .int v1] M1 (fun x2 M2 => ((x2 = 0 → Ci shC G mX9_lose k [.ref (G.2.1 1), .int v1] M2 (fun x3 M3 => Ci shC G mX11_withoutFinding k [.ref (G.2.1 0), .int x3] M3 (fun x4 M4 => q x4 M4))) ∧ (¬ x2 = 0 → Ci shC G mX11_finding k [.ref (G.2.1 0), .int 1] M2 (fun x5 M5 => q x5 M5))))) ∧ (¬ x1 = 0 → q (-1000001) M1)))) : Ci shC G mX11_drop (k + 1) [.ref (G.2.1 0), .int v1] M q := by
  unfold Ci
  show V _ _ _ _ _ [(0, .ref (G.2.1 0)), (1, .int v1)] _ _ _
  refine V_aload_n (pc := 0) dX11_drop_0 rfl ?_
  refine V_iload_n (pc := 1) dX11_drop_1 rfl ?_
  refine V_callVi [.int v1] (pc := 2) kX11_noSheet lX11_87 sC0 rfl rfl (Nat.le_of_ble_eq_true rfl) rfl (Nat.le_of_ble_eq_true rfl) dX11_drop_2 ?_
  refine Ci.mono h ?_
  intro x1 M1 h
  refine V_if_eq (tgt := 11) (pc := 5) dX11_drop_5 rfl (fun c => ?_) (fun c => ?_)
  · have h := h.1 c
    refine V_aload_n (pc := 11) dX11_drop_11 rfl ?_
    refine V_getR (pc := 12) fX11_10 sC0 rfl dX11_drop_12 ?_
    refine V_iload_n (pc := 15) dX11_drop_15 rfl ?_
    refine V_callVi [.int v1] (pc := 16) kX9_isMissing lX11_103 sC1 rfl rfl (Nat.le_of_ble_eq_true rfl) rfl (Nat.le_of_ble_eq_true rfl) dX11_drop_16 ?_
    refine Ci.mono h ?_
    intro x2 M2 h
    refine V_if_eq (tgt := 28) (pc := 19) dX11_drop_19 rfl (fun c => ?_) (fun c => ?_)
    · have h := h.1 c
      refine V_aload_n (pc := 28) dX11_drop_28 rfl ?_
      refine V_aload_n (pc := 29) dX11_drop_29 rfl ?_
      refine V_getR (pc := 30) fX11_10 sC0 rfl dX11_drop_30 ?_
      refine V_iload_n (pc := 33) dX11_drop_33 rfl ?_
      refine V_callVi [.int v1] (pc := 34) kX9_lose lX11_122 sC1 rfl rfl (Nat.le_of_ble_eq_true rfl) rfl (Nat.le_of_ble_eq_true rfl) dX11_drop_34 ?_
      refine Ci.mono h ?_
      intro x3 M3 h
      refine V_callVi [.int x3] (pc := 37) kX11_withoutFinding lX11_100 sC0 rfl rfl (Nat.le_of_ble_eq_true rfl) rfl (Nat.le_of_ble_eq_true rfl) dX11_drop_37 ?_
      refine Ci.mono h ?_
      intro x4 M4 h
      exact V_iret dX11_drop_40 rfl h
    · have h := h.2 c
      refine V_aload_n (pc := 22) dX11_drop_22 rfl ?_
      refine V_iconst (v := 1) (pc := 23) dX11_drop_23 rfl ?_
      refine V_callVi [.int 1] (pc := 24) kX11_finding lX11_92 sC0 rfl rfl (Nat.le_of_ble_eq_true rfl) rfl (Nat.le_of_ble_eq_true rfl) dX11_drop_24 ?_
      refine Ci.mono h ?_
      intro x5 M5 h
      exact V_iret dX11_drop_27 rfl h
  · have h := h.2 c
    refine V_ldc (pc := 8) dX11_drop_8 nX11_91 ?_
    exact V_iret dX11_drop_10 rfl h
theorem wp_X11_ear {G : GV} {k : Nat} {M : Mem} {q : Int32 → Mem → Prop} {v1 : Int32} (h : Ci shC G mX11_noLine k [.ref (G.2.1 0), .int v1] M (fun x1 M1 => ((x1 = 0 → vp_in v1 12 ∧ q (M1.1 39 (ix v1)) M1) ∧ (¬ x1 = 0 → q (-1000001) M1)))) : Ci shC G mX11_ear (k + 1) [.ref (G.2.1 0), .int v1] M q := by
  unfold Ci
  show V _ _ _ _ _ [(0, .ref (G.2.1 0)), (1, .int v1)] _ _ _
  refine V_aload_n (pc := 0) dX11_ear_0 rfl ?_
  refine V_iload_n (pc := 1) dX11_ear_1 rfl ?_
  refine V_callVi [.int v1] (pc := 2) kX11_noLine lX11_154 sC0 rfl rfl (Nat.le_of_ble_eq_true rfl) rfl (Nat.le_of_ble_eq_true rfl) dX11_ear_2 ?_
  refine Ci.mono h ?_
  intro x1 M1 h
  refine V_if_eq (tgt := 13) (pc := 5) dX11_ear_5 rfl (fun c => ?_) (fun c => ?_)
  · have h := h.1 c
    refine V_aload_n (pc := 13) dX11_ear_13 rfl ?_
    refine V_getR (pc := 14) fX11_47 sC0 rfl dX11_ear_14 ?_
    refine V_getR (pc := 17) fX11_181 sC6 rfl dX11_ear_17 ?_
    refine V_getR (pc := 20) fX11_189 sC7 rfl dX11_ear_20 ?_
    refine V_iload_n (pc := 23) dX11_ear_23 rfl ?_
    refine V_iald (pc := 24) sC39 dX11_ear_24 h.1 ?_
    have h := h.2
    exact V_iret dX11_ear_25 rfl h
  · have h := h.2 c
    refine V_ldc (pc := 8) dX11_ear_8 nX11_91 ?_
    refine V_goto (tgt := 25) (pc := 10) dX11_ear_10 rfl ?_
    exact V_iret dX11_ear_25 rfl h
theorem wp_X11_feed {G : GV} {k : Nat} {M : Mem} {q : Int32 → Mem → Prop} {v1 : Int64} {v3 : Int32} (h : ((v3 < 1 → q (-1000001) M) ∧ (¬ v3 < 1 → ((v3 ≤ 8 → ((((M.1 2 1) + v3) ≤ 600 → V shC G mX11_feed (k + 1) 37 [(0, .ref (G.2.1 0)), (1, .long v1), (3, .int v3), (4, .int (v3 - 1))] [] M (Qi q)) ∧ (¬ ((M.1 2 1) + v3) ≤ 600 → q (-1000003) M))) ∧ (¬ v3 ≤ 8 → q (-1000001) M))))) : Ci shC G mX11_feed (k + 1) [.ref (G.2.1 0), .long v1, .int v3] M q := by
  unfold Ci
  show V _ _ _ _ _ [(0, .ref (G.2.1 0)), (1, .long v1), (3, .int v3)] _ _ _
  refine V_iload_n (pc := 0) dX11_feed_0 rfl ?_
  refine V_iconst (v := 1) (pc := 1) dX11_feed_1 rfl ?_
  refine V_icmp_lt (tgt := 11) (pc := 2) dX11_feed_2 rfl (fun c => ?_) (fun c => ?_)
  · have h := h.1 c
    refine V_ldc (pc := 11) dX11_feed_11 nX11_91 ?_
    exact V_iret dX11_feed_13 rfl h
  · have h := h.2 c
    refine V_iload_n (pc := 5) dX11_feed_5 rfl ?_
    refine V_bipush (v := 8) (pc := 6) dX11_feed_6 rfl ?_
    refine V_icmp_le (tgt := 14) (pc := 8) dX11_feed_8 rfl (fun c => ?_) (fun c => ?_)
    · have h := h.1 c
      refine V_aload_n (pc := 14) dX11_feed_14 rfl ?_
      refine V_getR (pc := 15) fX11_19 sC0 rfl dX11_feed_15 ?_
      refine V_getI (pc := 18) fX11_125 sC2 rfl dX11_feed_18 ?_
      refine V_iload_n (pc := 21) dX11_feed_21 rfl ?_
      refine V_iadd (pc := 22) dX11_feed_22 ?_
      refine V_sipush (v := 600) (pc := 23) dX11_feed_23 rfl ?_
      refine V_icmp_le (tgt := 32) (pc := 26) dX11_feed_26 rfl (fun c => ?_) (fun c => ?_)
      · have h := h.1 c
        refine V_iload_n (pc := 32) dX11_feed_32 rfl ?_
        refine V_iconst (v := 1) (pc := 33) dX11_feed_33 rfl ?_
        refine V_isub (pc := 34) dX11_feed_34 ?_
        refine V_istore (pc := 35) dX11_feed_35 (by decide) ?_
        refine V_lv (lv2 := [(0, .ref (G.2.1 0)), (1, .long v1), (3, .int v3), (4, .int (v3 - 1))]) rfl ?_
        exact V_sub h ⟨rfl, rfl, rfl, rfl, trivial⟩
      · have h := h.2 c
        refine V_ldc (pc := 29) dX11_feed_29 nX11_129 ?_
        exact V_iret dX11_feed_31 rfl h
    · have h := h.2 c
      refine V_ldc (pc := 11) dX11_feed_11 nX11_91 ?_
      exact V_iret dX11_feed_13 rfl h
theorem wp_X11_feed_37 {G : GV} {k : Nat} {M : Mem} {q : Int32 → Mem → Prop} {v1 : Int64} {v3 : Int32} {v4 : Int32} (h : ((v4 < 0 → q (M.1 2 1) M) ∧ (¬ v4 < 0 → Cv shC G mX10_add k [.ref (G.2.1 2), .int ((Int32.toInt8 (Int64.toInt32 ((Int64.toUInt64 v1 >>> ((Int32.toInt64 (8 * v4)).toUInt64 &&& Int64.toUInt64 63)).toInt64))).toInt32)] M (fun M1 => V shC G mX11_feed (k + 1) 37 [(0, .ref (G.2.1 0)), (1, .long v1), (3, .int v3), (4, .int (v4 + (-1)))] [] M1 (Qi q))))) : V shC G mX11_feed (k + 1) 37 [(0, .ref (G.2.1 0)), (1, .long v1), (3, .int v3), (4, .int v4)] [] M (Qi q) := by
  refine V_iload (pc := 37) dX11_feed_37 rfl ?_
  refine V_if_lt (tgt := 64) (pc := 39) dX11_feed_39 rfl (fun c => ?_) (fun c => ?_)
  · have h := h.1 c
    refine V_aload_n (pc := 64) dX11_feed_64 rfl ?_
    refine V_getR (pc := 65) fX11_19 sC0 rfl dX11_feed_65 ?_
    refine V_getI (pc := 68) fX11_125 sC2 rfl dX11_feed_68 ?_
    exact V_iret dX11_feed_71 rfl h
  · have h := h.2 c
    refine V_aload_n (pc := 42) dX11_feed_42 rfl ?_
    refine V_getR (pc := 43) fX11_19 sC0 rfl dX11_feed_43 ?_
    refine V_lload_n (pc := 46) dX11_feed_46 rfl ?_
    refine V_bipush (v := 8) (pc := 47) dX11_feed_47 rfl ?_
    refine V_iload (pc := 49) dX11_feed_49 rfl ?_
    refine V_imul (pc := 51) dX11_feed_51 ?_
    refine V_lushr (pc := 52) dX11_feed_52 ?_
    refine V_l2i (pc := 53) dX11_feed_53 ?_
    refine V_i2b (pc := 54) dX11_feed_54 ?_
    refine V_callVv [.int ((Int32.toInt8 (Int64.toInt32 ((Int64.toUInt64 v1 >>> ((Int32.toInt64 (8 * v4)).toUInt64 &&& Int64.toUInt64 63)).toInt64))).toInt32)] (pc := 55) kX10_add lX11_130 sC2 rfl rfl (Nat.le_of_ble_eq_true rfl) rfl (Nat.le_of_ble_eq_true rfl) dX11_feed_55 ?_
    refine Cv.mono h ?_
    intro M1 h
    refine V_iinc (pc := 58) dX11_feed_58 rfl (by decide) ?_
    refine V_lv (lv2 := [(0, .ref (G.2.1 0)), (1, .long v1), (3, .int v3), (4, .int (v4 + (-1)))]) rfl ?_
    refine V_goto (tgt := 37) (pc := 61) dX11_feed_61 rfl ?_
    exact V_sub h ⟨rfl, rfl, rfl, rfl, trivial⟩
theorem wp_X11_isHomeless {G : GV} {k : Nat} {M : Mem} {q : Int32 → Mem → Prop} {v1 : Int32} (h : vp_in v1 12 ∧ vp_in v1 12 ∧ vp_in v1 12 ∧ Ci shC G mX2_noneStands k [.ref (G.2.1 5), .int (M.1 30 (ix v1)), .int (M.1 34 (ix v1)), .int (M.1 33 (ix v1))] M (fun x1 M1 => (x1 = 0 ∨ x1 = 1) ∧ q x1 M1)) : Ci shC G mX11_isHomeless (k + 1) [.ref (G.2.1 0), .int v1] M q := by
  unfold Ci
  show V _ _ _ _ _ [(0, .ref (G.2.1 0)), (1, .int v1)] _ _ _
  refine V_aload_n (pc := 0) dX11_isHomeless_0 rfl ?_
  refine V_getR (pc := 1) fX11_40 sC0 rfl dX11_isHomeless_1 ?_
  refine V_aload_n (pc := 4) dX11_isHomeless_4 rfl ?_
  refine V_getR (pc := 5) fX11_47 sC0 rfl dX11_isHomeless_5 ?_
  refine V_getR (pc := 8) fX11_163 sC6 rfl dX11_isHomeless_8 ?_
  refine V_iload_n (pc := 11) dX11_isHomeless_11 rfl ?_
  refine V_iald (pc := 12) sC30 dX11_isHomeless_12 h.1 ?_
  have h := h.2
  refine V_aload_n (pc := 13) dX11_isHomeless_13 rfl ?_
  refine V_getR (pc := 14) fX11_47 sC0 rfl dX11_isHomeless_14 ?_
  refine V_getR (pc := 17) fX11_175 sC6 rfl dX11_isHomeless_17 ?_
  refine V_iload_n (pc := 20) dX11_isHomeless_20 rfl ?_
  refine V_iald (pc := 21) sC34 dX11_isHomeless_21 h.1 ?_
  have h := h.2
  refine V_aload_n (pc := 22) dX11_isHomeless_22 rfl ?_
  refine V_getR (pc := 23) fX11_47 sC0 rfl dX11_isHomeless_23 ?_
  refine V_getR (pc := 26) fX11_172 sC6 rfl dX11_isHomeless_26 ?_
  refine V_iload_n (pc := 29) dX11_isHomeless_29 rfl ?_
  refine V_iald (pc := 30) sC33 dX11_isHomeless_30 h.1 ?_
  have h := h.2
  refine V_callVi [.int (M.1 30 (ix v1)), .int (M.1 34 (ix v1)), .int (M.1 33 (ix v1))] (pc := 31) kX2_noneStands lX11_343 sC5 rfl rfl (Nat.le_of_ble_eq_true rfl) rfl (Nat.le_of_ble_eq_true rfl) dX11_isHomeless_31 ?_
  refine Ci.mono h ?_
  intro x1 M1 h
  exact V_zret dX11_isHomeless_34 rfl h.1 h.2
theorem wp_X11_isPlace {G : GV} {k : Nat} {M : Mem} {q : Int32 → Mem → Prop} {v1 : Int32} {v2 : Int32} {v3 : Int32} (h : Ci shC G mX11_noStreet k [.ref (G.2.1 0), .int v1] M (fun x1 M1 => ((x1 ≠ 0 → q 0 M1) ∧ (x1 = 0 → ((v2 < 1 → q 0 M1) ∧ (¬ v2 < 1 → ((99 < v2 → q 0 M1) ∧ (¬ 99 < v2 → Ci shC G mX11_noYear k [.ref (G.2.1 0), .int v3] M1 (fun x2 M2 => ((x2 ≠ 0 → q 0 M2) ∧ (x2 = 0 → q 1 M2))))))))))) : Ci shC G mX11_isPlace (k + 1) [.ref (G.2.1 0), .int v1, .int v2, .int v3] M q := by
  unfold Ci
  show V _ _ _ _ _ [(0, .ref (G.2.1 0)), (1, .int v1), (2, .int v2), (3, .int v3)] _ _ _
  refine V_aload_n (pc := 0) dX11_isPlace_0 rfl ?_
  refine V_iload_n (pc := 1) dX11_isPlace_1 rfl ?_
  refine V_callVi [.int v1] (pc := 2) kX11_noStreet lX11_248 sC0 rfl rfl (Nat.le_of_ble_eq_true rfl) rfl (Nat.le_of_ble_eq_true rfl) dX11_isPlace_2 ?_
  refine Ci.mono h ?_
  intro x1 M1 h
  refine V_if_ne (tgt := 31) (pc := 5) dX11_isPlace_5 rfl (fun c => ?_) (fun c => ?_)
  · have h := h.1 c
    refine V_iconst (v := 0) (pc := 31) dX11_isPlace_31 rfl ?_
    exact V_zret dX11_isPlace_32 rfl (Or.inl rfl) h
  · have h := h.2 c
    refine V_iload_n (pc := 8) dX11_isPlace_8 rfl ?_
    refine V_iconst (v := 1) (pc := 9) dX11_isPlace_9 rfl ?_
    refine V_icmp_lt (tgt := 31) (pc := 10) dX11_isPlace_10 rfl (fun c => ?_) (fun c => ?_)
    · have h := h.1 c
      refine V_iconst (v := 0) (pc := 31) dX11_isPlace_31 rfl ?_
      exact V_zret dX11_isPlace_32 rfl (Or.inl rfl) h
    · have h := h.2 c
      refine V_iload_n (pc := 13) dX11_isPlace_13 rfl ?_
      refine V_bipush (v := 99) (pc := 14) dX11_isPlace_14 rfl ?_
      refine V_icmp_gt (tgt := 31) (pc := 16) dX11_isPlace_16 rfl (fun c => ?_) (fun c => ?_)
      · have h := h.1 c
        refine V_iconst (v := 0) (pc := 31) dX11_isPlace_31 rfl ?_
        exact V_zret dX11_isPlace_32 rfl (Or.inl rfl) h
      · have h := h.2 c
        refine V_aload_n (pc := 19) dX11_isPlace_19 rfl ?_
        refine V_iload_n (pc := 20) dX11_isPlace_20 rfl ?_
        refine V_callVi [.int v3] (pc := 21) kX11_noYear lX11_251 sC0 rfl rfl (Nat.le_of_ble_eq_true rfl) rfl (Nat.le_of_ble_eq_true rfl) dX11_isPlace_21 ?_
        refine Ci.mono h ?_
        intro x2 M2 h
        refine V_if_ne (tgt := 31) (pc := 24) dX11_isPlace_24 rfl (fun c => ?_) (fun c => ?_)
        · have h := h.1 c
          refine V_iconst (v := 0) (pc := 31) dX11_isPlace_31 rfl ?_
          exact V_zret dX11_isPlace_32 rfl (Or.inl rfl) h
        · have h := h.2 c
          refine V_iconst (v := 1) (pc := 27) dX11_isPlace_27 rfl ?_
          refine V_goto (tgt := 32) (pc := 28) dX11_isPlace_28 rfl ?_
          exact V_zret dX11_isPlace_32 rfl (Or.inr rfl) h
theorem wp_X11_kind {G : GV} {k : Nat} {M : Mem} {q : Int32 → Mem → Prop} {v1 : Int32} (h : Ci shC G mX11_noLine k [.ref (G.2.1 0), .int v1] M (fun x1 M1 => ((x1 = 0 → vp_in v1 12 ∧ q ((M1.1 29 (ix v1)) + 1) M1) ∧ (¬ x1 = 0 → q (-1000001) M1)))) : Ci shC G mX11_kind (k + 1) [.ref (G.2.1 0), .int v1] M q := by
  unfold Ci
  show V _ _ _ _ _ [(0, .ref (G.2.1 0)), (1, .int v1)] _ _ _
  refine V_aload_n (pc := 0) dX11_kind_0 rfl ?_
  refine V_iload_n (pc := 1) dX11_kind_1 rfl ?_
  refine V_callVi [.int v1] (pc := 2) kX11_noLine lX11_154 sC0 rfl rfl (Nat.le_of_ble_eq_true rfl) rfl (Nat.le_of_ble_eq_true rfl) dX11_kind_2 ?_
  refine Ci.mono h ?_
  intro x1 M1 h
  refine V_if_eq (tgt := 13) (pc := 5) dX11_kind_5 rfl (fun c => ?_) (fun c => ?_)
  · have h := h.1 c
    refine V_aload_n (pc := 13) dX11_kind_13 rfl ?_
    refine V_getR (pc := 14) fX11_47 sC0 rfl dX11_kind_14 ?_
    refine V_getR (pc := 17) fX11_160 sC6 rfl dX11_kind_17 ?_
    refine V_iload_n (pc := 20) dX11_kind_20 rfl ?_
    refine V_iald (pc := 21) sC29 dX11_kind_21 h.1 ?_
    have h := h.2
    refine V_iconst (v := 1) (pc := 22) dX11_kind_22 rfl ?_
    refine V_iadd (pc := 23) dX11_kind_23 ?_
    exact V_iret dX11_kind_24 rfl h
  · have h := h.2 c
    refine V_ldc (pc := 8) dX11_kind_8 nX11_91 ?_
    refine V_goto (tgt := 24) (pc := 10) dX11_kind_10 rfl ?_
    exact V_iret dX11_kind_24 rfl h
theorem wp_X11_leaf {G : GV} {k : Nat} {M : Mem} {q : Int32 → Mem → Prop} {v1 : Int32} {v2 : Int32} (h : Ci shC G mX11_noBook k [.ref (G.2.1 0), .int v1] M (fun x1 M1 => ((x1 ≠ 0 → q (-1000001) M1) ∧ (x1 = 0 → ((v2 < 0 → q (-1000001) M1) ∧ (¬ v2 < 0 → ((v2 ≤ 1 → vp_in v1 10 ∧ (((M1.1 19 (ix v1)) = 0 → ((v2 ≠ 1 → vp_in v1 10 ∧ q 0 (mset M1 19 (ix v1) (vp_nar .boolean 0))) ∧ (v2 = 1 → vp_in v1 10 ∧ q 0 (mset M1 19 (ix v1) (vp_nar .boolean 1))))) ∧ (¬ (M1.1 19 (ix v1)) = 0 → ((v2 ≠ 1 → vp_in v1 10 ∧ q 1 (mset M1 19 (ix v1) (vp_nar .boolean 0))) ∧ (v2 = 1 → vp_in v1 10 ∧ q 1 (mset M1 19 (ix v1) (vp_nar .boolean 1))))))) ∧ (¬ v2 ≤ 1 → q (-1000001) M1)))))))) : Ci shC G mX11_leaf (k + 1) [.ref (G.2.1 0), .int v1, .int v2] M q := by
  unfold Ci
  show V _ _ _ _ _ [(0, .ref (G.2.1 0)), (1, .int v1), (2, .int v2)] _ _ _
  refine V_aload_n (pc := 0) dX11_leaf_0 rfl ?_
  refine V_iload_n (pc := 1) dX11_leaf_1 rfl ?_
  refine V_callVi [.int v1] (pc := 2) kX11_noBook lX11_270 sC0 rfl rfl (Nat.le_of_ble_eq_true rfl) rfl (Nat.le_of_ble_eq_true rfl) dX11_leaf_2 ?_
  refine Ci.mono h ?_
  intro x1 M1 h
  refine V_if_ne (tgt := 17) (pc := 5) dX11_leaf_5 rfl (fun c => ?_) (fun c => ?_)
  · have h := h.1 c
    refine V_ldc (pc := 17) dX11_leaf_17 nX11_91 ?_
    exact V_iret dX11_leaf_19 rfl h
  · have h := h.2 c
    refine V_iload_n (pc := 8) dX11_leaf_8 rfl ?_
    refine V_if_lt (tgt := 17) (pc := 9) dX11_leaf_9 rfl (fun c => ?_) (fun c => ?_)
    · have h := h.1 c
      refine V_ldc (pc := 17) dX11_leaf_17 nX11_91 ?_
      exact V_iret dX11_leaf_19 rfl h
    · have h := h.2 c
      refine V_iload_n (pc := 12) dX11_leaf_12 rfl ?_
      refine V_iconst (v := 1) (pc := 13) dX11_leaf_13 rfl ?_
      refine V_icmp_le (tgt := 20) (pc := 14) dX11_leaf_14 rfl (fun c => ?_) (fun c => ?_)
      · have h := h.1 c
        refine V_aload_n (pc := 20) dX11_leaf_20 rfl ?_
        refine V_getR (pc := 21) fX11_26 sC0 rfl dX11_leaf_21 ?_
        refine V_getR (pc := 24) fX11_279 sC3 rfl dX11_leaf_24 ?_
        refine V_iload_n (pc := 27) dX11_leaf_27 rfl ?_
        refine V_zald (pc := 28) sC19 dX11_leaf_28 h.1 ?_
        have h := h.2
        refine V_if_eq (tgt := 36) (pc := 29) dX11_leaf_29 rfl (fun c => ?_) (fun c => ?_)
        · have h := h.1 c
          refine V_iconst (v := 0) (pc := 36) dX11_leaf_36 rfl ?_
          refine V_istore_n (pc := 37) dX11_leaf_37 (by decide) ?_
          refine V_lv (lv2 := [(0, .ref (G.2.1 0)), (1, .int v1), (2, .int v2), (3, .int 0)]) rfl ?_
          refine V_aload_n (pc := 38) dX11_leaf_38 rfl ?_
          refine V_getR (pc := 39) fX11_26 sC0 rfl dX11_leaf_39 ?_
          refine V_getR (pc := 42) fX11_279 sC3 rfl dX11_leaf_42 ?_
          refine V_iload_n (pc := 45) dX11_leaf_45 rfl ?_
          refine V_iload_n (pc := 46) dX11_leaf_46 rfl ?_
          refine V_iconst (v := 1) (pc := 47) dX11_leaf_47 rfl ?_
          refine V_icmp_ne (tgt := 55) (pc := 48) dX11_leaf_48 rfl (fun c => ?_) (fun c => ?_)
          · have h := h.1 c
            refine V_iconst (v := 0) (pc := 55) dX11_leaf_55 rfl ?_
            refine V_zast (pc := 56) sC19 dX11_leaf_56 h.1 ?_
            have h := h.2
            refine V_iload_n (pc := 57) dX11_leaf_57 rfl ?_
            exact V_iret dX11_leaf_58 rfl h
          · have h := h.2 c
            refine V_iconst (v := 1) (pc := 51) dX11_leaf_51 rfl ?_
            refine V_goto (tgt := 56) (pc := 52) dX11_leaf_52 rfl ?_
            refine V_zast (pc := 56) sC19 dX11_leaf_56 h.1 ?_
            have h := h.2
            refine V_iload_n (pc := 57) dX11_leaf_57 rfl ?_
            exact V_iret dX11_leaf_58 rfl h
        · have h := h.2 c
          refine V_iconst (v := 1) (pc := 32) dX11_leaf_32 rfl ?_
          refine V_goto (tgt := 37) (pc := 33) dX11_leaf_33 rfl ?_
          refine V_istore_n (pc := 37) dX11_leaf_37 (by decide) ?_
          refine V_lv (lv2 := [(0, .ref (G.2.1 0)), (1, .int v1), (2, .int v2), (3, .int 1)]) rfl ?_
          refine V_aload_n (pc := 38) dX11_leaf_38 rfl ?_
          refine V_getR (pc := 39) fX11_26 sC0 rfl dX11_leaf_39 ?_
          refine V_getR (pc := 42) fX11_279 sC3 rfl dX11_leaf_42 ?_
          refine V_iload_n (pc := 45) dX11_leaf_45 rfl ?_
          refine V_iload_n (pc := 46) dX11_leaf_46 rfl ?_
          refine V_iconst (v := 1) (pc := 47) dX11_leaf_47 rfl ?_
          refine V_icmp_ne (tgt := 55) (pc := 48) dX11_leaf_48 rfl (fun c => ?_) (fun c => ?_)
          · have h := h.1 c
            refine V_iconst (v := 0) (pc := 55) dX11_leaf_55 rfl ?_
            refine V_zast (pc := 56) sC19 dX11_leaf_56 h.1 ?_
            have h := h.2
            refine V_iload_n (pc := 57) dX11_leaf_57 rfl ?_
            exact V_iret dX11_leaf_58 rfl h
          · have h := h.2 c
            refine V_iconst (v := 1) (pc := 51) dX11_leaf_51 rfl ?_
            refine V_goto (tgt := 56) (pc := 52) dX11_leaf_52 rfl ?_
            refine V_zast (pc := 56) sC19 dX11_leaf_56 h.1 ?_
            have h := h.2
            refine V_iload_n (pc := 57) dX11_leaf_57 rfl ?_
            exact V_iret dX11_leaf_58 rfl h
      · have h := h.2 c
        refine V_ldc (pc := 17) dX11_leaf_17 nX11_91 ?_
        exact V_iret dX11_leaf_19 rfl h
theorem wp_X11_set {G : GV} {k : Nat} {M : Mem} {q : Int32 → Mem → Prop} {v1 : Int32} {v2 : Int32} {v3 : Int32} (h : Ci shC G mX11_noSheet k [.ref (G.2.1 0), .int v1] M (fun x1 M1 => ((x1 = 0 → Ci shC G mX9_isMissing k [.ref (G.2.1 1), .int v1] M1 (fun x2 M2 => ((x2 = 0 → Ci shC G mX9_holds k [.ref (G.2.1 1), .int v1, .int v2, .int 1] M2 (fun x3 M3 => ((x3 ≠ 0 → Ci shC G mX9_put k [.ref (G.2.1 1), .int v1, .int v2, .int v3] M3 (fun x4 M4 => Ci shC G mX11_withoutFinding k [.ref (G.2.1 0), .int x4] M4 (fun x5 M5 => q x5 M5))) ∧ (x3 = 0 → Ci shC G mX11_finding k [.ref (G.2.1 0), .int 2] M3 (fun x6 M6 => q x6 M6))))) ∧ (¬ x2 = 0 → Ci shC G mX11_finding k [.ref (G.2.1 0), .int 1] M2 (fun x7 M7 => q x7 M7))))) ∧ (¬ x1 = 0 → q (-1000001) M1)))) : Ci shC G mX11_set (k + 1) [.ref (G.2.1 0), .int v1, .int v2, .int v3] M q := by
  unfold Ci
  show V _ _ _ _ _ [(0, .ref (G.2.1 0)), (1, .int v1), (2, .int v2), (3, .int v3)] _ _ _
  refine V_aload_n (pc := 0) dX11_set_0 rfl ?_
  refine V_iload_n (pc := 1) dX11_set_1 rfl ?_
  refine V_callVi [.int v1] (pc := 2) kX11_noSheet lX11_87 sC0 rfl rfl (Nat.le_of_ble_eq_true rfl) rfl (Nat.le_of_ble_eq_true rfl) dX11_set_2 ?_
  refine Ci.mono h ?_
  intro x1 M1 h
  refine V_if_eq (tgt := 11) (pc := 5) dX11_set_5 rfl (fun c => ?_) (fun c => ?_)
  · have h := h.1 c
    refine V_aload_n (pc := 11) dX11_set_11 rfl ?_
    refine V_getR (pc := 12) fX11_10 sC0 rfl dX11_set_12 ?_
    refine V_iload_n (pc := 15) dX11_set_15 rfl ?_
    refine V_callVi [.int v1] (pc := 16) kX9_isMissing lX11_103 sC1 rfl rfl (Nat.le_of_ble_eq_true rfl) rfl (Nat.le_of_ble_eq_true rfl) dX11_set_16 ?_
    refine Ci.mono h ?_
    intro x2 M2 h
    refine V_if_eq (tgt := 28) (pc := 19) dX11_set_19 rfl (fun c => ?_) (fun c => ?_)
    · have h := h.1 c
      refine V_aload_n (pc := 28) dX11_set_28 rfl ?_
      refine V_getR (pc := 29) fX11_10 sC0 rfl dX11_set_29 ?_
      refine V_iload_n (pc := 32) dX11_set_32 rfl ?_
      refine V_iload_n (pc := 33) dX11_set_33 rfl ?_
      refine V_iconst (v := 1) (pc := 34) dX11_set_34 rfl ?_
      refine V_callVi [.int v1, .int v2, .int 1] (pc := 35) kX9_holds lX11_106 sC1 rfl rfl (Nat.le_of_ble_eq_true rfl) rfl (Nat.le_of_ble_eq_true rfl) dX11_set_35 ?_
      refine Ci.mono h ?_
      intro x3 M3 h
      refine V_if_ne (tgt := 47) (pc := 38) dX11_set_38 rfl (fun c => ?_) (fun c => ?_)
      · have h := h.1 c
        refine V_aload_n (pc := 47) dX11_set_47 rfl ?_
        refine V_aload_n (pc := 48) dX11_set_48 rfl ?_
        refine V_getR (pc := 49) fX11_10 sC0 rfl dX11_set_49 ?_
        refine V_iload_n (pc := 52) dX11_set_52 rfl ?_
        refine V_iload_n (pc := 53) dX11_set_53 rfl ?_
        refine V_iload_n (pc := 54) dX11_set_54 rfl ?_
        refine V_callVi [.int v1, .int v2, .int v3] (pc := 55) kX9_put lX11_110 sC1 rfl rfl (Nat.le_of_ble_eq_true rfl) rfl (Nat.le_of_ble_eq_true rfl) dX11_set_55 ?_
        refine Ci.mono h ?_
        intro x4 M4 h
        refine V_callVi [.int x4] (pc := 58) kX11_withoutFinding lX11_100 sC0 rfl rfl (Nat.le_of_ble_eq_true rfl) rfl (Nat.le_of_ble_eq_true rfl) dX11_set_58 ?_
        refine Ci.mono h ?_
        intro x5 M5 h
        exact V_iret dX11_set_61 rfl h
      · have h := h.2 c
        refine V_aload_n (pc := 41) dX11_set_41 rfl ?_
        refine V_iconst (v := 2) (pc := 42) dX11_set_42 rfl ?_
        refine V_callVi [.int 2] (pc := 43) kX11_finding lX11_92 sC0 rfl rfl (Nat.le_of_ble_eq_true rfl) rfl (Nat.le_of_ble_eq_true rfl) dX11_set_43 ?_
        refine Ci.mono h ?_
        intro x6 M6 h
        exact V_iret dX11_set_46 rfl h
    · have h := h.2 c
      refine V_aload_n (pc := 22) dX11_set_22 rfl ?_
      refine V_iconst (v := 1) (pc := 23) dX11_set_23 rfl ?_
      refine V_callVi [.int 1] (pc := 24) kX11_finding lX11_92 sC0 rfl rfl (Nat.le_of_ble_eq_true rfl) rfl (Nat.le_of_ble_eq_true rfl) dX11_set_24 ?_
      refine Ci.mono h ?_
      intro x7 M7 h
      exact V_iret dX11_set_27 rfl h
  · have h := h.2 c
    refine V_ldc (pc := 8) dX11_set_8 nX11_91 ?_
    exact V_iret dX11_set_10 rfl h
theorem wp_X11_sheet {G : GV} {k : Nat} {M : Mem} {q : Int32 → Mem → Prop} {v1 : Int32} {v2 : Int32} {v3 : Int32} (h : Ci shC G mX11_noSheet k [.ref (G.2.1 0), .int v1] M (fun x1 M1 => ((x1 ≠ 0 → q (-1000001) M1) ∧ (x1 = 0 → ((v2 < 0 → q (-1000001) M1) ∧ (¬ v2 < 0 → ((3 ≤ v2 → q (-1000001) M1) ∧ (¬ 3 ≤ v2 → ((v3 ≤ 60 → ((0 ≤ v3 → Cv shC G mX9_lay k [.ref (G.2.1 1), .int v1, .int v2, .int v3] M1 (fun M2 => Ci shC G mX11_withoutFinding k [.ref (G.2.1 0), .int v3] M2 (fun x3 M3 => q x3 M3))) ∧ (¬ 0 ≤ v3 → Ci shC G mX11_finding k [.ref (G.2.1 0), .int 4] M1 (fun x4 M4 => q x4 M4)))) ∧ (¬ v3 ≤ 60 → q (-1000001) M1)))))))))) : Ci shC G mX11_sheet (k + 1) [.ref (G.2.1 0), .int v1, .int v2, .int v3] M q := by
  unfold Ci
  show V _ _ _ _ _ [(0, .ref (G.2.1 0)), (1, .int v1), (2, .int v2), (3, .int v3)] _ _ _
  refine V_aload_n (pc := 0) dX11_sheet_0 rfl ?_
  refine V_iload_n (pc := 1) dX11_sheet_1 rfl ?_
  refine V_callVi [.int v1] (pc := 2) kX11_noSheet lX11_87 sC0 rfl rfl (Nat.le_of_ble_eq_true rfl) rfl (Nat.le_of_ble_eq_true rfl) dX11_sheet_2 ?_
  refine Ci.mono h ?_
  intro x1 M1 h
  refine V_if_ne (tgt := 23) (pc := 5) dX11_sheet_5 rfl (fun c => ?_) (fun c => ?_)
  · have h := h.1 c
    refine V_ldc (pc := 23) dX11_sheet_23 nX11_91 ?_
    exact V_iret dX11_sheet_25 rfl h
  · have h := h.2 c
    refine V_iload_n (pc := 8) dX11_sheet_8 rfl ?_
    refine V_if_lt (tgt := 23) (pc := 9) dX11_sheet_9 rfl (fun c => ?_) (fun c => ?_)
    · have h := h.1 c
      refine V_ldc (pc := 23) dX11_sheet_23 nX11_91 ?_
      exact V_iret dX11_sheet_25 rfl h
    · have h := h.2 c
      refine V_iload_n (pc := 12) dX11_sheet_12 rfl ?_
      refine V_iconst (v := 3) (pc := 13) dX11_sheet_13 rfl ?_
      refine V_icmp_ge (tgt := 23) (pc := 14) dX11_sheet_14 rfl (fun c => ?_) (fun c => ?_)
      · have h := h.1 c
        refine V_ldc (pc := 23) dX11_sheet_23 nX11_91 ?_
        exact V_iret dX11_sheet_25 rfl h
      · have h := h.2 c
        refine V_iload_n (pc := 17) dX11_sheet_17 rfl ?_
        refine V_bipush (v := 60) (pc := 18) dX11_sheet_18 rfl ?_
        refine V_icmp_le (tgt := 26) (pc := 20) dX11_sheet_20 rfl (fun c => ?_) (fun c => ?_)
        · have h := h.1 c
          refine V_iload_n (pc := 26) dX11_sheet_26 rfl ?_
          refine V_if_ge (tgt := 36) (pc := 27) dX11_sheet_27 rfl (fun c => ?_) (fun c => ?_)
          · have h := h.1 c
            refine V_aload_n (pc := 36) dX11_sheet_36 rfl ?_
            refine V_getR (pc := 37) fX11_10 sC0 rfl dX11_sheet_37 ?_
            refine V_iload_n (pc := 40) dX11_sheet_40 rfl ?_
            refine V_iload_n (pc := 41) dX11_sheet_41 rfl ?_
            refine V_iload_n (pc := 42) dX11_sheet_42 rfl ?_
            refine V_callVv [.int v1, .int v2, .int v3] (pc := 43) kX9_lay lX11_96 sC1 rfl rfl (Nat.le_of_ble_eq_true rfl) rfl (Nat.le_of_ble_eq_true rfl) dX11_sheet_43 ?_
            refine Cv.mono h ?_
            intro M2 h
            refine V_aload_n (pc := 46) dX11_sheet_46 rfl ?_
            refine V_iload_n (pc := 47) dX11_sheet_47 rfl ?_
            refine V_callVi [.int v3] (pc := 48) kX11_withoutFinding lX11_100 sC0 rfl rfl (Nat.le_of_ble_eq_true rfl) rfl (Nat.le_of_ble_eq_true rfl) dX11_sheet_48 ?_
            refine Ci.mono h ?_
            intro x3 M3 h
            exact V_iret dX11_sheet_51 rfl h
          · have h := h.2 c
            refine V_aload_n (pc := 30) dX11_sheet_30 rfl ?_
            refine V_iconst (v := 4) (pc := 31) dX11_sheet_31 rfl ?_
            refine V_callVi [.int 4] (pc := 32) kX11_finding lX11_92 sC0 rfl rfl (Nat.le_of_ble_eq_true rfl) rfl (Nat.le_of_ble_eq_true rfl) dX11_sheet_32 ?_
            refine Ci.mono h ?_
            intro x4 M4 h
            exact V_iret dX11_sheet_35 rfl h
        · have h := h.2 c
          refine V_ldc (pc := 23) dX11_sheet_23 nX11_91 ?_
          exact V_iret dX11_sheet_25 rfl h
theorem wp_X11_shown {G : GV} {k : Nat} {M : Mem} {q : Int32 → Mem → Prop} {v1 : Int32} {v2 : Int32} (h : Ci shC G mX11_noLine k [.ref (G.2.1 0), .int v1] M (fun x1 M1 => ((x1 ≠ 0 → q (-1000001) M1) ∧ (x1 = 0 → Ci shC G mX11_noYear k [.ref (G.2.1 0), .int v2] M1 (fun x2 M2 => ((x2 = 0 → vp_in v1 12 ∧ (((M2.1 29 (ix v1)) ≠ 2 → vp_in v1 12 ∧ (((v2 - (M2.1 33 (ix v1))) < 72 → q 0 M2) ∧ (¬ (v2 - (M2.1 33 (ix v1))) < 72 → q 1 M2))) ∧ ((M2.1 29 (ix v1)) = 2 → vp_in v1 12 ∧ (((v2 - (M2.1 33 (ix v1))) < 100 → q 0 M2) ∧ (¬ (v2 - (M2.1 33 (ix v1))) < 100 → q 1 M2))))) ∧ (¬ x2 = 0 → q (-1000001) M2))))))) : Ci shC G mX11_shown (k + 1) [.ref (G.2.1 0), .int v1, .int v2] M q := by
  unfold Ci
  show V _ _ _ _ _ [(0, .ref (G.2.1 0)), (1, .int v1), (2, .int v2)] _ _ _
  refine V_aload_n (pc := 0) dX11_shown_0 rfl ?_
  refine V_iload_n (pc := 1) dX11_shown_1 rfl ?_
  refine V_callVi [.int v1] (pc := 2) kX11_noLine lX11_154 sC0 rfl rfl (Nat.le_of_ble_eq_true rfl) rfl (Nat.le_of_ble_eq_true rfl) dX11_shown_2 ?_
  refine Ci.mono h ?_
  intro x1 M1 h
  refine V_if_ne (tgt := 16) (pc := 5) dX11_shown_5 rfl (fun c => ?_) (fun c => ?_)
  · have h := h.1 c
    refine V_ldc (pc := 16) dX11_shown_16 nX11_91 ?_
    exact V_iret dX11_shown_18 rfl h
  · have h := h.2 c
    refine V_aload_n (pc := 8) dX11_shown_8 rfl ?_
    refine V_iload_n (pc := 9) dX11_shown_9 rfl ?_
    refine V_callVi [.int v2] (pc := 10) kX11_noYear lX11_251 sC0 rfl rfl (Nat.le_of_ble_eq_true rfl) rfl (Nat.le_of_ble_eq_true rfl) dX11_shown_10 ?_
    refine Ci.mono h ?_
    intro x2 M2 h
    refine V_if_eq (tgt := 19) (pc := 13) dX11_shown_13 rfl (fun c => ?_) (fun c => ?_)
    · have h := h.1 c
      refine V_aload_n (pc := 19) dX11_shown_19 rfl ?_
      refine V_getR (pc := 20) fX11_47 sC0 rfl dX11_shown_20 ?_
      refine V_getR (pc := 23) fX11_160 sC6 rfl dX11_shown_23 ?_
      refine V_iload_n (pc := 26) dX11_shown_26 rfl ?_
      refine V_iald (pc := 27) sC29 dX11_shown_27 h.1 ?_
      have h := h.2
      refine V_iconst (v := 2) (pc := 28) dX11_shown_28 rfl ?_
      refine V_icmp_ne (tgt := 37) (pc := 29) dX11_shown_29 rfl (fun c => ?_) (fun c => ?_)
      · have h := h.1 c
        refine V_bipush (v := 72) (pc := 37) dX11_shown_37 rfl ?_
        refine V_istore_n (pc := 39) dX11_shown_39 (by decide) ?_
        refine V_lv (lv2 := [(0, .ref (G.2.1 0)), (1, .int v1), (2, .int v2), (3, .int 72)]) rfl ?_
        refine V_iload_n (pc := 40) dX11_shown_40 rfl ?_
        refine V_aload_n (pc := 41) dX11_shown_41 rfl ?_
        refine V_getR (pc := 42) fX11_47 sC0 rfl dX11_shown_42 ?_
        refine V_getR (pc := 45) fX11_172 sC6 rfl dX11_shown_45 ?_
        refine V_iload_n (pc := 48) dX11_shown_48 rfl ?_
        refine V_iald (pc := 49) sC33 dX11_shown_49 h.1 ?_
        have h := h.2
        refine V_isub (pc := 50) dX11_shown_50 ?_
        refine V_iload_n (pc := 51) dX11_shown_51 rfl ?_
        refine V_icmp_lt (tgt := 59) (pc := 52) dX11_shown_52 rfl (fun c => ?_) (fun c => ?_)
        · have h := h.1 c
          refine V_iconst (v := 0) (pc := 59) dX11_shown_59 rfl ?_
          exact V_iret dX11_shown_60 rfl h
        · have h := h.2 c
          refine V_iconst (v := 1) (pc := 55) dX11_shown_55 rfl ?_
          refine V_goto (tgt := 60) (pc := 56) dX11_shown_56 rfl ?_
          exact V_iret dX11_shown_60 rfl h
      · have h := h.2 c
        refine V_bipush (v := 100) (pc := 32) dX11_shown_32 rfl ?_
        refine V_goto (tgt := 39) (pc := 34) dX11_shown_34 rfl ?_
        refine V_istore_n (pc := 39) dX11_shown_39 (by decide) ?_
        refine V_lv (lv2 := [(0, .ref (G.2.1 0)), (1, .int v1), (2, .int v2), (3, .int 100)]) rfl ?_
        refine V_iload_n (pc := 40) dX11_shown_40 rfl ?_
        refine V_aload_n (pc := 41) dX11_shown_41 rfl ?_
        refine V_getR (pc := 42) fX11_47 sC0 rfl dX11_shown_42 ?_
        refine V_getR (pc := 45) fX11_172 sC6 rfl dX11_shown_45 ?_
        refine V_iload_n (pc := 48) dX11_shown_48 rfl ?_
        refine V_iald (pc := 49) sC33 dX11_shown_49 h.1 ?_
        have h := h.2
        refine V_isub (pc := 50) dX11_shown_50 ?_
        refine V_iload_n (pc := 51) dX11_shown_51 rfl ?_
        refine V_icmp_lt (tgt := 59) (pc := 52) dX11_shown_52 rfl (fun c => ?_) (fun c => ?_)
        · have h := h.1 c
          refine V_iconst (v := 0) (pc := 59) dX11_shown_59 rfl ?_
          exact V_iret dX11_shown_60 rfl h
        · have h := h.2 c
          refine V_iconst (v := 1) (pc := 55) dX11_shown_55 rfl ?_
          refine V_goto (tgt := 60) (pc := 56) dX11_shown_56 rfl ?_
          exact V_iret dX11_shown_60 rfl h
    · have h := h.2 c
      refine V_ldc (pc := 16) dX11_shown_16 nX11_91 ?_
      exact V_iret dX11_shown_18 rfl h
theorem wp_X11_as {G : GV} {k : Nat} {M : Mem} {q : Int32 → Mem → Prop} {v1 : Int32} {v2 : Int32} (h : Ci shC G mX11_noLine (k + 1) [.ref (G.2.1 0), .int v1] M (fun x1 M1 => ((x1 ≠ 0 → q (-1000001) M1) ∧ (x1 = 0 → ((v2 < 0 → q (-1000001) M1) ∧ (¬ v2 < 0 → ((v2 < 6 → Ci shC G mX3_isOfKind (k + 1) [.ref (G.2.1 6), .int v1, .int v2] M1 (fun x2 M2 => ((x2 ≠ 0 → vp_in v1 12 ∧ Ci shC G mX11_withoutFinding (k + 1) [.ref (G.2.1 0), .int (M2.1 31 (ix v1))] M2 (fun x3 M3 => q x3 M3)) ∧ (x2 = 0 → Ci shC G mX11_finding (k + 1) [.ref (G.2.1 0), .int 3] M2 (fun x4 M4 => q x4 M4))))) ∧ (¬ v2 < 6 → q (-1000001) M1)))))))) : Ci shC G mX11_as (k + 2) [.ref (G.2.1 0), .int v1, .int v2] M q := by
  unfold Ci
  show V _ _ _ _ _ [(0, .ref (G.2.1 0)), (1, .int v1), (2, .int v2)] _ _ _
  refine V_aload_n (pc := 0) dX11_as_0 rfl ?_
  refine V_iload_n (pc := 1) dX11_as_1 rfl ?_
  refine V_callVi [.int v1] (pc := 2) kX11_noLine lX11_154 sC0 rfl rfl (Nat.le_of_ble_eq_true rfl) rfl (Nat.le_of_ble_eq_true rfl) dX11_as_2 ?_
  refine Ci.mono h ?_
  intro x1 M1 h
  refine V_if_ne (tgt := 18) (pc := 5) dX11_as_5 rfl (fun c => ?_) (fun c => ?_)
  · have h := h.1 c
    refine V_ldc (pc := 18) dX11_as_18 nX11_91 ?_
    exact V_iret dX11_as_20 rfl h
  · have h := h.2 c
    refine V_iload_n (pc := 8) dX11_as_8 rfl ?_
    refine V_if_lt (tgt := 18) (pc := 9) dX11_as_9 rfl (fun c => ?_) (fun c => ?_)
    · have h := h.1 c
      refine V_ldc (pc := 18) dX11_as_18 nX11_91 ?_
      exact V_iret dX11_as_20 rfl h
    · have h := h.2 c
      refine V_iload_n (pc := 12) dX11_as_12 rfl ?_
      refine V_bipush (v := 6) (pc := 13) dX11_as_13 rfl ?_
      refine V_icmp_lt (tgt := 21) (pc := 15) dX11_as_15 rfl (fun c => ?_) (fun c => ?_)
      · have h := h.1 c
        refine V_aload_n (pc := 21) dX11_as_21 rfl ?_
        refine V_getR (pc := 22) fX11_47 sC0 rfl dX11_as_22 ?_
        refine V_iload_n (pc := 25) dX11_as_25 rfl ?_
        refine V_iload_n (pc := 26) dX11_as_26 rfl ?_
        refine V_callVi [.int v1, .int v2] (pc := 27) kX3_isOfKind lX11_291 sC6 rfl rfl (Nat.le_of_ble_eq_true rfl) rfl (Nat.le_of_ble_eq_true rfl) dX11_as_27 ?_
        refine Ci.mono h ?_
        intro x2 M2 h
        refine V_if_ne (tgt := 39) (pc := 30) dX11_as_30 rfl (fun c => ?_) (fun c => ?_)
        · have h := h.1 c
          refine V_aload_n (pc := 39) dX11_as_39 rfl ?_
          refine V_aload_n (pc := 40) dX11_as_40 rfl ?_
          refine V_getR (pc := 41) fX11_47 sC0 rfl dX11_as_41 ?_
          refine V_getR (pc := 44) fX11_166 sC6 rfl dX11_as_44 ?_
          refine V_iload_n (pc := 47) dX11_as_47 rfl ?_
          refine V_iald (pc := 48) sC31 dX11_as_48 h.1 ?_
          have h := h.2
          refine V_callVi [.int (M2.1 31 (ix v1))] (pc := 49) kX11_withoutFinding lX11_100 sC0 rfl rfl (Nat.le_of_ble_eq_true rfl) rfl (Nat.le_of_ble_eq_true rfl) dX11_as_49 ?_
          refine Ci.mono h ?_
          intro x3 M3 h
          exact V_iret dX11_as_52 rfl h
        · have h := h.2 c
          refine V_aload_n (pc := 33) dX11_as_33 rfl ?_
          refine V_iconst (v := 3) (pc := 34) dX11_as_34 rfl ?_
          refine V_callVi [.int 3] (pc := 35) kX11_finding lX11_92 sC0 rfl rfl (Nat.le_of_ble_eq_true rfl) rfl (Nat.le_of_ble_eq_true rfl) dX11_as_35 ?_
          refine Ci.mono h ?_
          intro x4 M4 h
          exact V_iret dX11_as_38 rfl h
      · have h := h.2 c
        refine V_ldc (pc := 18) dX11_as_18 nX11_91 ?_
        exact V_iret dX11_as_20 rfl h
