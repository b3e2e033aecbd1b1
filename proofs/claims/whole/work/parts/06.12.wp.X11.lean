theorem wp_X11_fault {G : GV} {k : Nat} {M : Mem} {q : Int32 → Mem → Prop}  (h : q (M.1 0 11) M) : Ci shC G mX11_fault k [.ref (G.2.1 0)] M q := by
  unfold Ci
  show V _ _ _ _ _ [(0, .ref (G.2.1 0))] _ _ _
  refine V_aload_n (pc := 0) dX11_fault_0 rfl ?_
  refine V_getI (pc := 1) fX11_141 sC0 rfl dX11_fault_1 ?_
  exact V_iret dX11_fault_4 rfl h
theorem wp_X11_finding {G : GV} {k : Nat} {M : Mem} {q : Int32 → Mem → Prop} {v1 : Int32} (h : q ((-1000010) - v1) (mset M 0 12 v1)) : Ci shC G mX11_finding k [.ref (G.2.1 0), .int v1] M q := by
  unfold Ci
  show V _ _ _ _ _ [(0, .ref (G.2.1 0)), (1, .int v1)] _ _ _
  refine V_aload_n (pc := 0) dX11_finding_0 rfl ?_
  refine V_iload_n (pc := 1) dX11_finding_1 rfl ?_
  refine V_putI (pc := 2) fX11_317 p11_12 sC0 rfl dX11_finding_2 ?_
  refine V_ldcw (pc := 5) dX11_finding_5 nX11_336 ?_
  refine V_iload_n (pc := 8) dX11_finding_8 rfl ?_
  refine V_isub (pc := 9) dX11_finding_9 ?_
  exact V_iret dX11_finding_10 rfl h
theorem wp_X11_meetsAnother {G : GV} {k : Nat} {M : Mem} {q : Int32 → Mem → Prop} {v1 : Int32} {v2 : Int32} (h : V shC G mX11_meetsAnother k 2 [(0, .ref (G.2.1 0)), (1, .int v1), (2, .int v2), (3, .int 0)] [] M (Qi q)) : Ci shC G mX11_meetsAnother k [.ref (G.2.1 0), .int v1, .int v2] M q := by
  unfold Ci
  show V _ _ _ _ _ [(0, .ref (G.2.1 0)), (1, .int v1), (2, .int v2)] _ _ _
  refine V_iconst (v := 0) (pc := 0) dX11_meetsAnother_0 rfl ?_
  refine V_istore_n (pc := 1) dX11_meetsAnother_1 (by decide) ?_
  exact V_sub h ⟨rfl, rfl, rfl, rfl, trivial⟩
theorem wp_X11_meetsAnother_2 {G : GV} {k : Nat} {M : Mem} {q : Int32 → Mem → Prop} {v1 : Int32} {v2 : Int32} {v3 : Int32} (h : ((v2 ≤ v3 → q 0 M) ∧ (¬ v2 ≤ v3 → ((v3 = v1 → V shC G mX11_meetsAnother k 2 [(0, .ref (G.2.1 0)), (1, .int v1), (2, .int v2), (3, .int (v3 + 1))] [] M (Qi q)) ∧ (¬ v3 = v1 → vp_in v3 20 ∧ vp_in v1 20 ∧ (((M.1 12 (ix v3)) ≠ (M.1 12 (ix v1)) → V shC G mX11_meetsAnother k 2 [(0, .ref (G.2.1 0)), (1, .int v1), (2, .int v2), (3, .int (v3 + 1))] [] M (Qi q)) ∧ ((M.1 12 (ix v3)) = (M.1 12 (ix v1)) → q 1 M))))))) : V shC G mX11_meetsAnother k 2 [(0, .ref (G.2.1 0)), (1, .int v1), (2, .int v2), (3, .int v3)] [] M (Qi q) := by
  refine V_iload_n (pc := 2) dX11_meetsAnother_2 rfl ?_
  refine V_iload_n (pc := 3) dX11_meetsAnother_3 rfl ?_
  refine V_icmp_ge (tgt := 35) (pc := 4) dX11_meetsAnother_4 rfl (fun c => ?_) (fun c => ?_)
  · have h := h.1 c
    refine V_iconst (v := 0) (pc := 35) dX11_meetsAnother_35 rfl ?_
    exact V_zret dX11_meetsAnother_36 rfl (Or.inl rfl) h
  · have h := h.2 c
    refine V_iload_n (pc := 7) dX11_meetsAnother_7 rfl ?_
    refine V_iload_n (pc := 8) dX11_meetsAnother_8 rfl ?_
    refine V_icmp_eq (tgt := 29) (pc := 9) dX11_meetsAnother_9 rfl (fun c => ?_) (fun c => ?_)
    · have h := h.1 c
      refine V_iinc (pc := 29) dX11_meetsAnother_29 rfl (by decide) ?_
      refine V_goto (tgt := 2) (pc := 32) dX11_meetsAnother_32 rfl ?_
      exact V_sub h ⟨rfl, rfl, rfl, rfl, trivial⟩
    · have h := h.2 c
      refine V_aload_n (pc := 12) dX11_meetsAnother_12 rfl ?_
      refine V_getR (pc := 13) fX11_51 sC0 rfl dX11_meetsAnother_13 ?_
      refine V_iload_n (pc := 16) dX11_meetsAnother_16 rfl ?_
      refine V_iald (pc := 17) sC12 dX11_meetsAnother_17 h.1 ?_
      have h := h.2
      refine V_aload_n (pc := 18) dX11_meetsAnother_18 rfl ?_
      refine V_getR (pc := 19) fX11_51 sC0 rfl dX11_meetsAnother_19 ?_
      refine V_iload_n (pc := 22) dX11_meetsAnother_22 rfl ?_
      refine V_iald (pc := 23) sC12 dX11_meetsAnother_23 h.1 ?_
      have h := h.2
      refine V_icmp_ne (tgt := 29) (pc := 24) dX11_meetsAnother_24 rfl (fun c => ?_) (fun c => ?_)
      · have h := h.1 c
        refine V_iinc (pc := 29) dX11_meetsAnother_29 rfl (by decide) ?_
        refine V_goto (tgt := 2) (pc := 32) dX11_meetsAnother_32 rfl ?_
        exact V_sub h ⟨rfl, rfl, rfl, rfl, trivial⟩
      · have h := h.2 c
        refine V_iconst (v := 1) (pc := 27) dX11_meetsAnother_27 rfl ?_
        exact V_zret dX11_meetsAnother_28 rfl (Or.inr rfl) h
theorem wp_X11_noBook {G : GV} {k : Nat} {M : Mem} {q : Int32 → Mem → Prop} {v1 : Int32} (h : ((v1 < 0 → q 1 M) ∧ (¬ v1 < 0 → ((v1 < (M.1 3 3) → q 0 M) ∧ (¬ v1 < (M.1 3 3) → q 1 M))))) : Ci shC G mX11_noBook k [.ref (G.2.1 0), .int v1] M q := by
  unfold Ci
  show V _ _ _ _ _ [(0, .ref (G.2.1 0)), (1, .int v1)] _ _ _
  refine V_iload_n (pc := 0) dX11_noBook_0 rfl ?_
  refine V_if_lt (tgt := 15) (pc := 1) dX11_noBook_1 rfl (fun c => ?_) (fun c => ?_)
  · have h := h.1 c
    refine V_iconst (v := 1) (pc := 15) dX11_noBook_15 rfl ?_
    refine V_goto (tgt := 20) (pc := 16) dX11_noBook_16 rfl ?_
    exact V_zret dX11_noBook_20 rfl (Or.inr rfl) h
  · have h := h.2 c
    refine V_iload_n (pc := 4) dX11_noBook_4 rfl ?_
    refine V_aload_n (pc := 5) dX11_noBook_5 rfl ?_
    refine V_getR (pc := 6) fX11_26 sC0 rfl dX11_noBook_6 ?_
    refine V_getI (pc := 9) fX11_283 sC3 rfl dX11_noBook_9 ?_
    refine V_icmp_lt (tgt := 19) (pc := 12) dX11_noBook_12 rfl (fun c => ?_) (fun c => ?_)
    · have h := h.1 c
      refine V_iconst (v := 0) (pc := 19) dX11_noBook_19 rfl ?_
      exact V_zret dX11_noBook_20 rfl (Or.inl rfl) h
    · have h := h.2 c
      refine V_iconst (v := 1) (pc := 15) dX11_noBook_15 rfl ?_
      refine V_goto (tgt := 20) (pc := 16) dX11_noBook_16 rfl ?_
      exact V_zret dX11_noBook_20 rfl (Or.inr rfl) h
theorem wp_X11_noLine {G : GV} {k : Nat} {M : Mem} {q : Int32 → Mem → Prop} {v1 : Int32} (h : ((v1 < 0 → q 1 M) ∧ (¬ v1 < 0 → ((v1 < (M.1 6 8) → q 0 M) ∧ (¬ v1 < (M.1 6 8) → q 1 M))))) : Ci shC G mX11_noLine k [.ref (G.2.1 0), .int v1] M q := by
  unfold Ci
  show V _ _ _ _ _ [(0, .ref (G.2.1 0)), (1, .int v1)] _ _ _
  refine V_iload_n (pc := 0) dX11_noLine_0 rfl ?_
  refine V_if_lt (tgt := 15) (pc := 1) dX11_noLine_1 rfl (fun c => ?_) (fun c => ?_)
  · have h := h.1 c
    refine V_iconst (v := 1) (pc := 15) dX11_noLine_15 rfl ?_
    refine V_goto (tgt := 20) (pc := 16) dX11_noLine_16 rfl ?_
    exact V_zret dX11_noLine_20 rfl (Or.inr rfl) h
  · have h := h.2 c
    refine V_iload_n (pc := 4) dX11_noLine_4 rfl ?_
    refine V_aload_n (pc := 5) dX11_noLine_5 rfl ?_
    refine V_getR (pc := 6) fX11_47 sC0 rfl dX11_noLine_6 ?_
    refine V_getI (pc := 9) fX11_151 sC6 rfl dX11_noLine_9 ?_
    refine V_icmp_lt (tgt := 19) (pc := 12) dX11_noLine_12 rfl (fun c => ?_) (fun c => ?_)
    · have h := h.1 c
      refine V_iconst (v := 0) (pc := 19) dX11_noLine_19 rfl ?_
      exact V_zret dX11_noLine_20 rfl (Or.inl rfl) h
    · have h := h.2 c
      refine V_iconst (v := 1) (pc := 15) dX11_noLine_15 rfl ?_
      refine V_goto (tgt := 20) (pc := 16) dX11_noLine_16 rfl ?_
      exact V_zret dX11_noLine_20 rfl (Or.inr rfl) h
theorem wp_X11_noSheet {G : GV} {k : Nat} {M : Mem} {q : Int32 → Mem → Prop} {v1 : Int32} (h : ((v1 < 0 → q 1 M) ∧ (¬ v1 < 0 → ((v1 < 8 → q 0 M) ∧ (¬ v1 < 8 → q 1 M))))) : Ci shC G mX11_noSheet k [.ref (G.2.1 0), .int v1] M q := by
  unfold Ci
  show V _ _ _ _ _ [(0, .ref (G.2.1 0)), (1, .int v1)] _ _ _
  refine V_iload_n (pc := 0) dX11_noSheet_0 rfl ?_
  refine V_if_lt (tgt := 10) (pc := 1) dX11_noSheet_1 rfl (fun c => ?_) (fun c => ?_)
  · have h := h.1 c
    refine V_iconst (v := 1) (pc := 10) dX11_noSheet_10 rfl ?_
    refine V_goto (tgt := 15) (pc := 11) dX11_noSheet_11 rfl ?_
    exact V_zret dX11_noSheet_15 rfl (Or.inr rfl) h
  · have h := h.2 c
    refine V_iload_n (pc := 4) dX11_noSheet_4 rfl ?_
    refine V_bipush (v := 8) (pc := 5) dX11_noSheet_5 rfl ?_
    refine V_icmp_lt (tgt := 14) (pc := 7) dX11_noSheet_7 rfl (fun c => ?_) (fun c => ?_)
    · have h := h.1 c
      refine V_iconst (v := 0) (pc := 14) dX11_noSheet_14 rfl ?_
      exact V_zret dX11_noSheet_15 rfl (Or.inl rfl) h
    · have h := h.2 c
      refine V_iconst (v := 1) (pc := 10) dX11_noSheet_10 rfl ?_
      refine V_goto (tgt := 15) (pc := 11) dX11_noSheet_11 rfl ?_
      exact V_zret dX11_noSheet_15 rfl (Or.inr rfl) h
theorem wp_X11_noStreet {G : GV} {k : Nat} {M : Mem} {q : Int32 → Mem → Prop} {v1 : Int32} (h : ((v1 < 0 → q 1 M) ∧ (¬ v1 < 0 → ((v1 < 4 → q 0 M) ∧ (¬ v1 < 4 → q 1 M))))) : Ci shC G mX11_noStreet k [.ref (G.2.1 0), .int v1] M q := by
  unfold Ci
  show V _ _ _ _ _ [(0, .ref (G.2.1 0)), (1, .int v1)] _ _ _
  refine V_iload_n (pc := 0) dX11_noStreet_0 rfl ?_
  refine V_if_lt (tgt := 9) (pc := 1) dX11_noStreet_1 rfl (fun c => ?_) (fun c => ?_)
  · have h := h.1 c
    refine V_iconst (v := 1) (pc := 9) dX11_noStreet_9 rfl ?_
    refine V_goto (tgt := 14) (pc := 10) dX11_noStreet_10 rfl ?_
    exact V_zret dX11_noStreet_14 rfl (Or.inr rfl) h
  · have h := h.2 c
    refine V_iload_n (pc := 4) dX11_noStreet_4 rfl ?_
    refine V_iconst (v := 4) (pc := 5) dX11_noStreet_5 rfl ?_
    refine V_icmp_lt (tgt := 13) (pc := 6) dX11_noStreet_6 rfl (fun c => ?_) (fun c => ?_)
    · have h := h.1 c
      refine V_iconst (v := 0) (pc := 13) dX11_noStreet_13 rfl ?_
      exact V_zret dX11_noStreet_14 rfl (Or.inl rfl) h
    · have h := h.2 c
      refine V_iconst (v := 1) (pc := 9) dX11_noStreet_9 rfl ?_
      refine V_goto (tgt := 14) (pc := 10) dX11_noStreet_10 rfl ?_
      exact V_zret dX11_noStreet_14 rfl (Or.inr rfl) h
theorem wp_X11_noYear {G : GV} {k : Nat} {M : Mem} {q : Int32 → Mem → Prop} {v1 : Int32} (h : ((v1 < 0 → q 1 M) ∧ (¬ v1 < 0 → ((v1 ≤ 9999 → q 0 M) ∧ (¬ v1 ≤ 9999 → q 1 M))))) : Ci shC G mX11_noYear k [.ref (G.2.1 0), .int v1] M q := by
  unfold Ci
  show V _ _ _ _ _ [(0, .ref (G.2.1 0)), (1, .int v1)] _ _ _
  refine V_iload_n (pc := 0) dX11_noYear_0 rfl ?_
  refine V_if_lt (tgt := 11) (pc := 1) dX11_noYear_1 rfl (fun c => ?_) (fun c => ?_)
  · have h := h.1 c
    refine V_iconst (v := 1) (pc := 11) dX11_noYear_11 rfl ?_
    refine V_goto (tgt := 16) (pc := 12) dX11_noYear_12 rfl ?_
    exact V_zret dX11_noYear_16 rfl (Or.inr rfl) h
  · have h := h.2 c
    refine V_iload_n (pc := 4) dX11_noYear_4 rfl ?_
    refine V_sipush (v := 9999) (pc := 5) dX11_noYear_5 rfl ?_
    refine V_icmp_le (tgt := 15) (pc := 8) dX11_noYear_8 rfl (fun c => ?_) (fun c => ?_)
    · have h := h.1 c
      refine V_iconst (v := 0) (pc := 15) dX11_noYear_15 rfl ?_
      exact V_zret dX11_noYear_16 rfl (Or.inl rfl) h
    · have h := h.2 c
      refine V_iconst (v := 1) (pc := 11) dX11_noYear_11 rfl ?_
      refine V_goto (tgt := 16) (pc := 12) dX11_noYear_12 rfl ?_
      exact V_zret dX11_noYear_16 rfl (Or.inr rfl) h
theorem wp_X11_status {G : GV} {k : Nat} {M : Mem} {q : Int32 → Mem → Prop}  (h : q (M.1 0 12) M) : Ci shC G mX11_status k [.ref (G.2.1 0)] M q := by
  unfold Ci
  show V _ _ _ _ _ [(0, .ref (G.2.1 0))] _ _ _
  refine V_aload_n (pc := 0) dX11_status_0 rfl ?_
  refine V_getI (pc := 1) fX11_317 sC0 rfl dX11_status_1 ?_
  exact V_iret dX11_status_4 rfl h
theorem wp_X11_trace {G : GV} {k : Nat} {M : Mem} {q : Int32 → Mem → Prop} {v1 : Int32} (h : ((v1 < 0 → q (-1000000) M) ∧ (¬ v1 < 0 → ((v1 < (M.1 11 2) → vp_in v1 16 ∧ q (M.1 47 (ix v1)) M) ∧ (¬ v1 < (M.1 11 2) → q (-1000000) M))))) : Ci shC G mX11_trace k [.ref (G.2.1 0), .int v1] M q := by
  unfold Ci
  show V _ _ _ _ _ [(0, .ref (G.2.1 0)), (1, .int v1)] _ _ _
  refine V_iload_n (pc := 0) dX11_trace_0 rfl ?_
  refine V_if_lt (tgt := 15) (pc := 1) dX11_trace_1 rfl (fun c => ?_) (fun c => ?_)
  · have h := h.1 c
    refine V_ldc (pc := 15) dX11_trace_15 nX11_238 ?_
    refine V_goto (tgt := 29) (pc := 17) dX11_trace_17 rfl ?_
    exact V_iret dX11_trace_29 rfl h
  · have h := h.2 c
    refine V_iload_n (pc := 4) dX11_trace_4 rfl ?_
    refine V_aload_n (pc := 5) dX11_trace_5 rfl ?_
    refine V_getR (pc := 6) fX11_83 sC0 rfl dX11_trace_6 ?_
    refine V_getI (pc := 9) fX11_294 sC11 rfl dX11_trace_9 ?_
    refine V_icmp_lt (tgt := 20) (pc := 12) dX11_trace_12 rfl (fun c => ?_) (fun c => ?_)
    · have h := h.1 c
      refine V_aload_n (pc := 20) dX11_trace_20 rfl ?_
      refine V_getR (pc := 21) fX11_83 sC0 rfl dX11_trace_21 ?_
      refine V_getR (pc := 24) fX11_303 sC11 rfl dX11_trace_24 ?_
      refine V_iload_n (pc := 27) dX11_trace_27 rfl ?_
      refine V_iald (pc := 28) sC47 dX11_trace_28 h.1 ?_
      have h := h.2
      exact V_iret dX11_trace_29 rfl h
    · have h := h.2 c
      refine V_ldc (pc := 15) dX11_trace_15 nX11_238 ?_
      refine V_goto (tgt := 29) (pc := 17) dX11_trace_17 rfl ?_
      exact V_iret dX11_trace_29 rfl h
theorem wp_X11_withoutFinding {G : GV} {k : Nat} {M : Mem} {q : Int32 → Mem → Prop} {v1 : Int32} (h : q v1 (mset M 0 12 0)) : Ci shC G mX11_withoutFinding k [.ref (G.2.1 0), .int v1] M q := by
  unfold Ci
  show V _ _ _ _ _ [(0, .ref (G.2.1 0)), (1, .int v1)] _ _ _
  refine V_aload_n (pc := 0) dX11_withoutFinding_0 rfl ?_
  refine V_iconst (v := 0) (pc := 1) dX11_withoutFinding_1 rfl ?_
  refine V_putI (pc := 2) fX11_317 p11_12 sC0 rfl dX11_withoutFinding_2 ?_
  refine V_iload_n (pc := 5) dX11_withoutFinding_5 rfl ?_
  exact V_iret dX11_withoutFinding_6 rfl h
theorem wp_X11_countMeetings {G : GV} {k : Nat} {M : Mem} {q : Int32 → Mem → Prop} {v1 : Int32} (h : V shC G mX11_countMeetings (k + 1) 4 [(0, .ref (G.2.1 0)), (1, .int v1), (2, .int 0), (3, .int 0)] [] M (Qi q)) : Ci shC G mX11_countMeetings (k + 1) [.ref (G.2.1 0), .int v1] M q := by
  unfold Ci
  show V _ _ _ _ _ [(0, .ref (G.2.1 0)), (1, .int v1)] _ _ _
  refine V_iconst (v := 0) (pc := 0) dX11_countMeetings_0 rfl ?_
  refine V_istore_n (pc := 1) dX11_countMeetings_1 (by decide) ?_
  refine V_iconst (v := 0) (pc := 2) dX11_countMeetings_2 rfl ?_
  refine V_istore_n (pc := 3) dX11_countMeetings_3 (by decide) ?_
  exact V_sub h ⟨rfl, rfl, rfl, rfl, trivial⟩
theorem wp_X11_countMeetings_4 {G : GV} {k : Nat} {M : Mem} {q : Int32 → Mem → Prop} {v1 : Int32} {v2 : Int32} {v3 : Int32} (h : ((v1 ≤ v3 → q v2 M) ∧ (¬ v1 ≤ v3 → Ci shC G mX11_meetsAnother k [.ref (G.2.1 0), .int v3, .int v1] M (fun x1 M1 => ((x1 = 0 → V shC G mX11_countMeetings (k + 1) 4 [(0, .ref (G.2.1 0)), (1, .int v1), (2, .int v2), (3, .int (v3 + 1))] [] M1 (Qi q)) ∧ (¬ x1 = 0 → V shC G mX11_countMeetings (k + 1) 4 [(0, .ref (G.2.1 0)), (1, .int v1), (2, .int (v2 + 1)), (3, .int (v3 + 1))] [] M1 (Qi q))))))) : V shC G mX11_countMeetings (k + 1) 4 [(0, .ref (G.2.1 0)), (1, .int v1), (2, .int v2), (3, .int v3)] [] M (Qi q) := by
  refine V_iload_n (pc := 4) dX11_countMeetings_4 rfl ?_
  refine V_iload_n (pc := 5) dX11_countMeetings_5 rfl ?_
  refine V_icmp_ge (tgt := 27) (pc := 6) dX11_countMeetings_6 rfl (fun c => ?_) (fun c => ?_)
  · have h := h.1 c
    refine V_iload_n (pc := 27) dX11_countMeetings_27 rfl ?_
    exact V_iret dX11_countMeetings_28 rfl h
  · have h := h.2 c
    refine V_aload_n (pc := 9) dX11_countMeetings_9 rfl ?_
    refine V_iload_n (pc := 10) dX11_countMeetings_10 rfl ?_
    refine V_iload_n (pc := 11) dX11_countMeetings_11 rfl ?_
    refine V_callVi [.int v3, .int v1] (pc := 12) kX11_meetsAnother lX11_340 sC0 rfl rfl (Nat.le_of_ble_eq_true rfl) rfl (Nat.le_of_ble_eq_true rfl) dX11_countMeetings_12 ?_
    refine Ci.mono h ?_
    intro x1 M1 h
    refine V_if_eq (tgt := 21) (pc := 15) dX11_countMeetings_15 rfl (fun c => ?_) (fun c => ?_)
    · have h := h.1 c
      refine V_iinc (pc := 21) dX11_countMeetings_21 rfl (by decide) ?_
      refine V_goto (tgt := 4) (pc := 24) dX11_countMeetings_24 rfl ?_
      exact V_sub h ⟨rfl, rfl, rfl, rfl, trivial⟩
    · have h := h.2 c
      refine V_iinc (pc := 18) dX11_countMeetings_18 rfl (by decide) ?_
      refine V_iinc (pc := 21) dX11_countMeetings_21 rfl (by decide) ?_
      refine V_goto (tgt := 4) (pc := 24) dX11_countMeetings_24 rfl ?_
      exact V_sub h ⟨rfl, rfl, rfl, rfl, trivial⟩
theorem wp_X11_drop {G : GV} {k : Nat} {M : Mem} {q : Int32 → Mem → Prop} {v1 : Int32} (h : Ci shC G mX11_noSheet k [.ref (G.2.1 0), .int v1] M (fun x1 M1 => ((x1 = 0 → Ci shC G mX9_isMissing k [.ref (G.2.1 1), .int v1] M1 (fun x2 M2 => ((x2 = 0 → Ci shC G mX9_lose k [.ref (G.2.1 1), .int v1] M2 (fun x3 M3 => Ci shC G mX11_withoutFinding k [.ref (G.2.1 0), .int x3] M3 (fun x4 M4 => q x4 M4))) ∧ (¬ x2 = 0 → Ci shC G mX11_finding k [.ref (G.2.1 0), .int 1] M2 (fun x5 M5 => q x5 M5))))) ∧ (¬ x1 = 0 → q (-1000001) M1)))) : Ci shC G mX11_drop (k + 1) [.ref (G.2.1 0), .int v1] M q := by
  unfold Ci
  show V _ _ _ _ _ [(0, .ref (G.2.1 0)), (1, .int v1)] _ _ _
  refine V_aload_n (pc := 0) dX11_drop_0 rfl ?_
  refine V_iload_n (pc := 1) dX11_drop_1 rfl ?_
  refine V_callVi [.int v1] (pc := 2) kX11_noSheet lX11_87 sC0 rfl rfl (Nat.le_of_ble_eq_true rfl) rfl (Nat.le_of_ble_eq_true rfl) dX11_drop_2 ?_
  refine Ci.mono h ?_
  intro x1 M1 h
  refine V_if_eq (tgt := 11) (pc := 5) dX11_drop_5 rfl (fun c => ?_) (fun c => ?_)
  · have h := h.1 c
    refine V_aload_n (pc := 11) dX11_drop_11 rfl ?_
    refine V_getR (pc := 12) fX11_10 sC0 rfl dX11_drop_12 ?_
    refine V_iload_n (pc := 15) dX11_drop_15 rfl ?_
    refine V_callVi [.int v1] (pc := 16) kX9_isMissing lX11_103 sC1 rfl rfl (Nat.le_of_ble_eq_true rfl) rfl (Nat.le_of_ble_eq_true rfl) dX11_drop_16 ?_
    refine Ci.mono h ?_
    intro x2 M2 h
    refine V_if_eq (tgt := 28) (pc := 19) dX11_drop_19 rfl (fun c => ?_) (fun c => ?_)
    · have h := h.1 c
      refine V_aload_n (pc := 28) dX11_drop_28 rfl ?_
      refine V_aload_n (pc := 29) dX11_drop_29 rfl ?_
      refine V_getR (pc := 30) fX11_10 sC0 rfl dX11_drop_30 ?_
      refine V_iload_n (pc := 33) dX11_drop_33 rfl ?_
      refine V_callVi [.int v1] (pc := 34) kX9_lose lX11_122 sC1 rfl rfl (Nat.le_of_ble_eq_true rfl) rfl (Nat.le_of_ble_eq_true rfl) dX11_drop_34 ?_
      refine Ci.mono h ?_
      intro x3 M3 h
      refine V_callVi [.int x3] (pc := 37) kX11_withoutFinding lX11_100 sC0 rfl rfl (Nat.le_of_ble_eq_true rfl) rfl (Nat.le_of_ble_eq_true rfl) dX11_drop_37 ?_
      refine Ci.mono h ?_
      intro x4 M4 h
      exact V_iret dX11_drop_40 rfl h
    · have h := h.2 c
      refine V_aload_n (pc := 22) dX11_drop_22 rfl ?_
      refine V_iconst (v := 1) (pc := 23) dX11_drop_23 rfl ?_
      refine V_callVi [.int 1] (pc := 24) kX11_finding lX11_92 sC0 rfl rfl (Nat.le_of_ble_eq_true rfl) rfl (Nat.le_of_ble_eq_true rfl) dX11_drop_24 ?_
      refine Ci.mono h ?_
      intro x5 M5 h
      exact V_iret dX11_drop_27 rfl h
  · have h := h.2 c
    refine V_ldc (pc := 8) dX11_drop_8 nX11_91 ?_
    exact V_iret dX11_drop_10 rfl h
theorem wp_X11_ear {G : GV} {k : Nat} {M : Mem} {q : Int32 → Mem → Prop} {v1 : Int32} (h : Ci shC G mX11_noLine k [.ref (G.2.1 0), .int v1] M (fun x1 M1 => ((x1 = 0 → vp_in v1 12 ∧ q (M1.1 39 (ix v1)) M1) ∧ (¬ x1 = 0 → q (-1000001) M1)))) : Ci shC G mX11_ear (k + 1) [.ref (G.2.1 0), .int v1] M q := by
  unfold Ci
  show V _ _ _ _ _ [(0, .ref (G.2.1 0)), (1, .int v1)] _ _ _
  refine V_aload_n (pc := 0) dX11_ear_0 rfl ?_
  refine V_iload_n (pc := 1) dX11_ear_1 rfl ?_
  refine V_callVi [.int v1] (pc := 2) kX11_noLine lX11_154 sC0 rfl rfl (Nat.le_of_ble_eq_true rfl) rfl (Nat.le_of_ble_eq_true rfl) dX11_ear_2 ?_
  refine Ci.mono h ?_
  intro x1 M1 h
  refine V_if_eq (tgt := 13) (pc := 5) dX11_ear_5 rfl (fun c => ?_) (fun c => ?_)
  · have h := h.1 c
    refine V_aload_n (pc := 13) dX11_ear_13 rfl ?_
    refine V_getR (pc := 14) fX11_47 sC0 rfl dX11_ear_14 ?_
    refine V_getR (pc := 17) fX11_181 sC6 rfl dX11_ear_17 ?_
    refine V_getR (pc := 20) fX11_189 sC7 rfl dX11_ear_20 ?_
    refine V_iload_n (pc := 23) dX11_ear_23 rfl ?_
    refine V_iald (pc := 24) sC39 dX11_ear_24 h.1 ?_
    have h := h.2
    exact V_iret dX11_ear_25 rfl h
  · have h := h.2 c
    refine V_ldc (pc := 8) dX11_ear_8 nX11_91 ?_
    refine V_goto (tgt := 25) (pc := 10) dX11_ear_10 rfl ?_
    exact V_iret dX11_ear_25 rfl h
theorem wp_X11_feed {G : GV} {k : Nat} {M : Mem} {q : Int32 → Mem → Prop} {v1 : Int64} {v3 : Int32} (h : ((v3 < 1 → q (-1000001) M) ∧ (¬ v3 < 1 → ((v3 ≤ 8 → ((((M.1 2 1) + v3) ≤ 600 → V shC G mX11_feed (k + 1) 37 [(0, .ref (G.2.1 0)), (1, .long v1), (3, .int v3), (4, .int (v3 - 1))] [] M (Qi q)) ∧ (¬ ((M.1 2 1) + v3) ≤ 600 → q (-1000003) M))) ∧ (¬ v3 ≤ 8 → q (-1000001) M))))) : Ci shC G mX11_feed (k + 1) [.ref (G.2.1 0), .long v1, .int v3] M q := by
  unfold Ci
  show V _ _ _ _ _ [(0, .ref (G.2.1 0)), (1, .long v1), (3, .int v3)] _ _ _
  refine V_iload_n (pc := 0) dX11_feed_0 rfl ?_
  refine V_iconst (v := 1) (pc := 1) dX11_feed_1 rfl ?_
  refine V_icmp_lt (tgt := 11) (pc := 2) dX11_feed_2 rfl (fun c => ?_) (fun c => ?_)
  · have h := h.1 c
    refine V_ldc (pc := 11) dX11_feed_11 nX11_91 ?_
    exact V_iret dX11_feed_13 rfl h
  · have h := h.2 c
    refine V_iload_n (pc := 5) dX11_feed_5 rfl ?_
    refine V_bipush (v := 8) (pc := 6) dX11_feed_6 rfl ?_
    refine V_icmp_le (tgt := 14) (pc := 8) dX11_feed_8 rfl (fun c => ?_) (fun c => ?_)
    · have h := h.1 c
      refine V_aload_n (pc := 14) dX11_feed_14 rfl ?_
      refine V_getR (pc := 15) fX11_19 sC0 rfl dX11_feed_15 ?_
      refine V_getI (pc := 18) fX11_125 sC2 rfl dX11_feed_18 ?_
      refine V_iload_n (pc := 21) dX11_feed_21 rfl ?_
      refine V_iadd (pc := 22) dX11_feed_22 ?_
      refine V_sipush (v := 600) (pc := 23) dX11_feed_23 rfl ?_
      refine V_icmp_le (tgt := 32) (pc := 26) dX11_feed_26 rfl (fun c => ?_) (fun c => ?_)
      · have h := h.1 c
        refine V_iload_n (pc := 32) dX11_feed_32 rfl ?_
        refine V_iconst (v := 1) (pc := 33) dX11_feed_33 rfl ?_
        refine V_isub (pc := 34) dX11_feed_34 ?_
        refine V_istore (pc := 35) dX11_feed_35 (by decide) ?_
        exact V_sub h ⟨rfl, rfl, rfl, rfl, trivial⟩
      · have h := h.2 c
        refine V_ldc (pc := 29) dX11_feed_29 nX11_129 ?_
        exact V_iret dX11_feed_31 rfl h
    · have h := h.2 c
      refine V_ldc (pc := 11) dX11_feed_11 nX11_91 ?_
      exact V_iret dX11_feed_13 rfl h
theorem wp_X11_feed_37 {G : GV} {k : Nat} {M : Mem} {q : Int32 → Mem → Prop} {v1 : Int64} {v3 : Int32} {v4 : Int32} (h : ((v4 < 0 → q (M.1 2 1) M) ∧ (¬ v4 < 0 → Cv shC G mX10_add k [.ref (G.2.1 2), .int ((Int32.toInt8 (Int64.toInt32 ((Int64.toUInt64 v1 >>> ((Int32.toInt64 (8 * v4)).toUInt64 &&& Int64.toUInt64 63)).toInt64))).toInt32)] M (fun M1 => V shC G mX11_feed (k + 1) 37 [(0, .ref (G.2.1 0)), (1, .long v1), (3, .int v3), (4, .int (v4 + (-1)))] [] M1 (Qi q))))) : V shC G mX11_feed (k + 1) 37 [(0, .ref (G.2.1 0)), (1, .long v1), (3, .int v3), (4, .int v4)] [] M (Qi q) := by
  refine V_iload (pc := 37) dX11_feed_37 rfl ?_
  refine V_if_lt (tgt := 64) (pc := 39) dX11_feed_39 rfl (fun c => ?_) (fun c => ?_)
  · have h := h.1 c
    refine V_aload_n (pc := 64) dX11_feed_64 rfl ?_
    refine V_getR (pc := 65) fX11_19 sC0 rfl dX11_feed_65 ?_
    refine V_getI (pc := 68) fX11_125 sC2 rfl dX11_feed_68 ?_
    exact V_iret dX11_feed_71 rfl h
  · have h := h.2 c
    refine V_aload_n (pc := 42) dX11_feed_42 rfl ?_
    refine V_getR (pc := 43) fX11_19 sC0 rfl dX11_feed_43 ?_
    refine V_lload_n (pc := 46) dX11_feed_46 rfl ?_
    refine V_bipush (v := 8) (pc := 47) dX11_feed_47 rfl ?_
    refine V_iload (pc := 49) dX11_feed_49 rfl ?_
    refine V_imul (pc := 51) dX11_feed_51 ?_
    refine V_lushr (pc := 52) dX11_feed_52 ?_
    refine V_l2i (pc := 53) dX11_feed_53 ?_
    refine V_i2b (pc := 54) dX11_feed_54 ?_
    refine V_callVv [.int ((Int32.toInt8 (Int64.toInt32 ((Int64.toUInt64 v1 >>> ((Int32.toInt64 (8 * v4)).toUInt64 &&& Int64.toUInt64 63)).toInt64))).toInt32)] (pc := 55) kX10_add lX11_130 sC2 rfl rfl (Nat.le_of_ble_eq_true rfl) rfl (Nat.le_of_ble_eq_true rfl) dX11_feed_55 ?_
    refine Cv.mono h ?_
    intro M1 h
    refine V_iinc (pc := 58) dX11_feed_58 rfl (by decide) ?_
    refine V_goto (tgt := 37) (pc := 61) dX11_feed_61 rfl ?_
    exact V_sub h ⟨rfl, rfl, rfl, rfl, trivial⟩
theorem wp_X11_isHomeless {G : GV} {k : Nat} {M : Mem} {q : Int32 → Mem → Prop} {v1 : Int32} (h : vp_in v1 12 ∧ vp_in v1 12 ∧ vp_in v1 12 ∧ Ci shC G mX2_noneStands k [.ref (G.2.1 5), .int (M.1 30 (ix v1)), .int (M.1 34 (ix v1)), .int (M.1 33 (ix v1))] M (fun x1 M1 => (x1 = 0 ∨ x1 = 1) ∧ q x1 M1)) : Ci shC G mX11_isHomeless (k + 1) [.ref (G.2.1 0), .int v1] M q := by
  unfold Ci
  show V _ _ _ _ _ [(0, .ref (G.2.1 0)), (1, .int v1)] _ _ _
  refine V_aload_n (pc := 0) dX11_isHomeless_0 rfl ?_
  refine V_getR (pc := 1) fX11_40 sC0 rfl dX11_isHomeless_1 ?_
  refine V_aload_n (pc := 4) dX11_isHomeless_4 rfl ?_
  refine V_getR (pc := 5) fX11_47 sC0 rfl dX11_isHomeless_5 ?_
  refine V_getR (pc := 8) fX11_163 sC6 rfl dX11_isHomeless_8 ?_
  refine V_iload_n (pc := 11) dX11_isHomeless_11 rfl ?_
  refine V_iald (pc := 12) sC30 dX11_isHomeless_12 h.1 ?_
  have h := h.2
  refine V_aload_n (pc := 13) dX11_isHomeless_13 rfl ?_
  refine V_getR (pc := 14) fX11_47 sC0 rfl dX11_isHomeless_14 ?_
  refine V_getR (pc := 17) fX11_175 sC6 rfl dX11_isHomeless_17 ?_
  refine V_iload_n (pc := 20) dX11_isHomeless_20 rfl ?_
  refine V_iald (pc := 21) sC34 dX11_isHomeless_21 h.1 ?_
  have h := h.2
  refine V_aload_n (pc := 22) dX11_isHomeless_22 rfl ?_
  refine V_getR (pc := 23) fX11_47 sC0 rfl dX11_isHomeless_23 ?_
  refine V_getR (pc := 26) fX11_172 sC6 rfl dX11_isHomeless_26 ?_
  refine V_iload_n (pc := 29) dX11_isHomeless_29 rfl ?_
  refine V_iald (pc := 30) sC33 dX11_isHomeless_30 h.1 ?_
  have h := h.2
  refine V_callVi [.int (M.1 30 (ix v1)), .int (M.1 34 (ix v1)), .int (M.1 33 (ix v1))] (pc := 31) kX2_noneStands lX11_343 sC5 rfl rfl (Nat.le_of_ble_eq_true rfl) rfl (Nat.le_of_ble_eq_true rfl) dX11_isHomeless_31 ?_
  refine Ci.mono h ?_
  intro x1 M1 h
  exact V_zret dX11_isHomeless_34 rfl h.1 h.2
theorem wp_X11_isPlace {G : GV} {k : Nat} {M : Mem} {q : Int32 → Mem → Prop} {v1 : Int32} {v2 : Int32} {v3 : Int32} (h : Ci shC G mX11_noStreet k [.ref (G.2.1 0), .int v1] M (fun x1 M1 => ((x1 ≠ 0 → q 0 M1) ∧ (x1 = 0 → ((v2 < 1 → q 0 M1) ∧ (¬ v2 < 1 → ((99 < v2 → q 0 M1) ∧ (¬ 99 < v2 → Ci shC G mX11_noYear k [.ref (G.2.1 0), .int v3] M1 (fun x2 M2 => ((x2 ≠ 0 → q 0 M2) ∧ (x2 = 0 → q 1 M2))))))))))) : Ci shC G mX11_isPlace (k + 1) [.ref (G.2.1 0), .int v1, .int v2, .int v3] M q := by
  unfold Ci
  show V _ _ _ _ _ [(0, .ref (G.2.1 0)), (1, .int v1), (2, .int v2), (3, .int v3)] _ _ _
  refine V_aload_n (pc := 0) dX11_isPlace_0 rfl ?_
  refine V_iload_n (pc := 1) dX11_isPlace_1 rfl ?_
  refine V_callVi [.int v1] (pc := 2) kX11_noStreet lX11_248 sC0 rfl rfl (Nat.le_of_ble_eq_true rfl) rfl (Nat.le_of_ble_eq_true rfl) dX11_isPlace_2 ?_
  refine Ci.mono h ?_
  intro x1 M1 h
  refine V_if_ne (tgt := 31) (pc := 5) dX11_isPlace_5 rfl (fun c => ?_) (fun c => ?_)
  · have h := h.1 c
    refine V_iconst (v := 0) (pc := 31) dX11_isPlace_31 rfl ?_
    exact V_zret dX11_isPlace_32 rfl (Or.inl rfl) h
  · have h := h.2 c
    refine V_iload_n (pc := 8) dX11_isPlace_8 rfl ?_
    refine V_iconst (v := 1) (pc := 9) dX11_isPlace_9 rfl ?_
    refine V_icmp_lt (tgt := 31) (pc := 10) dX11_isPlace_10 rfl (fun c => ?_) (fun c => ?_)
    · have h := h.1 c
      refine V_iconst (v := 0) (pc := 31) dX11_isPlace_31 rfl ?_
      exact V_zret dX11_isPlace_32 rfl (Or.inl rfl) h
    · have h := h.2 c
      refine V_iload_n (pc := 13) dX11_isPlace_13 rfl ?_
      refine V_bipush (v := 99) (pc := 14) dX11_isPlace_14 rfl ?_
      refine V_icmp_gt (tgt := 31) (pc := 16) dX11_isPlace_16 rfl (fun c => ?_) (fun c => ?_)
      · have h := h.1 c
        refine V_iconst (v := 0) (pc := 31) dX11_isPlace_31 rfl ?_
        exact V_zret dX11_isPlace_32 rfl (Or.inl rfl) h
      · have h := h.2 c
        refine V_aload_n (pc := 19) dX11_isPlace_19 rfl ?_
        refine V_iload_n (pc := 20) dX11_isPlace_20 rfl ?_
        refine V_callVi [.int v3] (pc := 21) kX11_noYear lX11_251 sC0 rfl rfl (Nat.le_of_ble_eq_true rfl) rfl (Nat.le_of_ble_eq_true rfl) dX11_isPlace_21 ?_
        refine Ci.mono h ?_
        intro x2 M2 h
        refine V_if_ne (tgt := 31) (pc := 24) dX11_isPlace_24 rfl (fun c => ?_) (fun c => ?_)
        · have h := h.1 c
          refine V_iconst (v := 0) (pc := 31) dX11_isPlace_31 rfl ?_
          exact V_zret dX11_isPlace_32 rfl (Or.inl rfl) h
        · have h := h.2 c
          refine V_iconst (v := 1) (pc := 27) dX11_isPlace_27 rfl ?_
          refine V_goto (tgt := 32) (pc := 28) dX11_isPlace_28 rfl ?_
          exact V_zret dX11_isPlace_32 rfl (Or.inr rfl) h
theorem wp_X11_kind {G : GV} {k : Nat} {M : Mem} {q : Int32 → Mem → Prop} {v1 : Int32} (h : Ci shC G mX11_noLine k [.ref (G.2.1 0), .int v1] M (fun x1 M1 => ((x1 = 0 → vp_in v1 12 ∧ q ((M1.1 29 (ix v1)) + 1) M1) ∧ (¬ x1 = 0 → q (-1000001) M1)))) : Ci shC G mX11_kind (k + 1) [.ref (G.2.1 0), .int v1] M q := by
  unfold Ci
  show V _ _ _ _ _ [(0, .ref (G.2.1 0)), (1, .int v1)] _ _ _
  refine V_aload_n (pc := 0) dX11_kind_0 rfl ?_
  refine V_iload_n (pc := 1) dX11_kind_1 rfl ?_
  refine V_callVi [.int v1] (pc := 2) kX11_noLine lX11_154 sC0 rfl rfl (Nat.le_of_ble_eq_true rfl) rfl (Nat.le_of_ble_eq_true rfl) dX11_kind_2 ?_
  refine Ci.mono h ?_
  intro x1 M1 h
  refine V_if_eq (tgt := 13) (pc := 5) dX11_kind_5 rfl (fun c => ?_) (fun c => ?_)
  · have h := h.1 c
    refine V_aload_n (pc := 13) dX11_kind_13 rfl ?_
    refine V_getR (pc := 14) fX11_47 sC0 rfl dX11_kind_14 ?_
    refine V_getR (pc := 17) fX11_160 sC6 rfl dX11_kind_17 ?_
    refine V_iload_n (pc := 20) dX11_kind_20 rfl ?_
    refine V_iald (pc := 21) sC29 dX11_kind_21 h.1 ?_
    have h := h.2
    refine V_iconst (v := 1) (pc := 22) dX11_kind_22 rfl ?_
    refine V_iadd (pc := 23) dX11_kind_23 ?_
    exact V_iret dX11_kind_24 rfl h
  · have h := h.2 c
    refine V_ldc (pc := 8) dX11_kind_8 nX11_91 ?_
    refine V_goto (tgt := 24) (pc := 10) dX11_kind_10 rfl ?_
    exact V_iret dX11_kind_24 rfl h
theorem wp_X11_leaf {G : GV} {k : Nat} {M : Mem} {q : Int32 → Mem → Prop} {v1 : Int32} {v2 : Int32} (h : Ci shC G mX11_noBook k [.ref (G.2.1 0), .int v1] M (fun x1 M1 => ((x1 ≠ 0 → q (-1000001) M1) ∧ (x1 = 0 → ((v2 < 0 → q (-1000001) M1) ∧ (¬ v2 < 0 → ((v2 ≤ 1 → vp_in v1 10 ∧ (((M1.1 19 (ix v1)) = 0 → ((v2 ≠ 1 → vp_in v1 10 ∧ q 0 (mset M1 19 (ix v1) (vp_nar .boolean 0))) ∧ (v2 = 1 → vp_in v1 10 ∧ q 0 (mset M1 19 (ix v1) (vp_nar .boolean 1))))) ∧ (¬ (M1.1 19 (ix v1)) = 0 → ((v2 ≠ 1 → vp_in v1 10 ∧ q 1 (mset M1 19 (ix v1) (vp_nar .boolean 0))) ∧ (v2 = 1 → vp_in v1 10 ∧ q 1 (mset M1 19 (ix v1) (vp_nar .boolean 1))))))) ∧ (¬ v2 ≤ 1 → q (-1000001) M1)))))))) : Ci shC G mX11_leaf (k + 1) [.ref (G.2.1 0), .int v1, .int v2] M q := by
  unfold Ci
  show V _ _ _ _ _ [(0, .ref (G.2.1 0)), (1, .int v1), (2, .int v2)] _ _ _
  refine V_aload_n (pc := 0) dX11_leaf_0 rfl ?_
  refine V_iload_n (pc := 1) dX11_leaf_1 rfl ?_
  refine V_callVi [.int v1] (pc := 2) kX11_noBook lX11_270 sC0 rfl rfl (Nat.le_of_ble_eq_true rfl) rfl (Nat.le_of_ble_eq_true rfl) dX11_leaf_2 ?_
  refine Ci.mono h ?_
  intro x1 M1 h
  refine V_if_ne (tgt := 17) (pc := 5) dX11_leaf_5 rfl (fun c => ?_) (fun c => ?_)
  · have h := h.1 c
    refine V_ldc (pc := 17) dX11_leaf_17 nX11_91 ?_
    exact V_iret dX11_leaf_19 rfl h
  · have h := h.2 c
    refine V_iload_n (pc := 8) dX11_leaf_8 rfl ?_
    refine V_if_lt (tgt := 17) (pc := 9) dX11_leaf_9 rfl (fun c => ?_) (fun c => ?_)
    · have h := h.1 c
      refine V_ldc (pc := 17) dX11_leaf_17 nX11_91 ?_
      exact V_iret dX11_leaf_19 rfl h
    · have h := h.2 c
      refine V_iload_n (pc := 12) dX11_leaf_12 rfl ?_
      refine V_iconst (v := 1) (pc := 13) dX11_leaf_13 rfl ?_
      refine V_icmp_le (tgt := 20) (pc := 14) dX11_leaf_14 rfl (fun c => ?_) (fun c => ?_)
      · have h := h.1 c
        refine V_aload_n (pc := 20) dX11_leaf_20 rfl ?_
        refine V_getR (pc := 21) fX11_26 sC0 rfl dX11_leaf_21 ?_
        refine V_getR (pc := 24) fX11_279 sC3 rfl dX11_leaf_24 ?_
        refine V_iload_n (pc := 27) dX11_leaf_27 rfl ?_
        refine V_zald (pc := 28) sC19 dX11_leaf_28 h.1 ?_
        have h := h.2
        refine V_if_eq (tgt := 36) (pc := 29) dX11_leaf_29 rfl (fun c => ?_) (fun c => ?_)
        · have h := h.1 c
          refine V_iconst (v := 0) (pc := 36) dX11_leaf_36 rfl ?_
          refine V_istore_n (pc := 37) dX11_leaf_37 (by decide) ?_
          refine V_aload_n (pc := 38) dX11_leaf_38 rfl ?_
          refine V_getR (pc := 39) fX11_26 sC0 rfl dX11_leaf_39 ?_
          refine V_getR (pc := 42) fX11_279 sC3 rfl dX11_leaf_42 ?_
          refine V_iload_n (pc := 45) dX11_leaf_45 rfl ?_
          refine V_iload_n (pc := 46) dX11_leaf_46 rfl ?_
          refine V_iconst (v := 1) (pc := 47) dX11_leaf_47 rfl ?_
          refine V_icmp_ne (tgt := 55) (pc := 48) dX11_leaf_48 rfl (fun c => ?_) (fun c => ?_)
          · have h := h.1 c
            refine V_iconst (v := 0) (pc := 55) dX11_leaf_55 rfl ?_
            refine V_zast (pc := 56) sC19 dX11_leaf_56 h.1 ?_
            have h := h.2
            refine V_iload_n (pc := 57) dX11_leaf_57 rfl ?_
            exact V_iret dX11_leaf_58 rfl h
          · have h := h.2 c
            refine V_iconst (v := 1) (pc := 51) dX11_leaf_51 rfl ?_
            refine V_goto (tgt := 56) (pc := 52) dX11_leaf_52 rfl ?_
            refine V_zast (pc := 56) sC19 dX11_leaf_56 h.1 ?_
            have h := h.2
            refine V_iload_n (pc := 57) dX11_leaf_57 rfl ?_
            exact V_iret dX11_leaf_58 rfl h
        · have h := h.2 c
          refine V_iconst (v := 1) (pc := 32) dX11_leaf_32 rfl ?_
          refine V_goto (tgt := 37) (pc := 33) dX11_leaf_33 rfl ?_
          refine V_istore_n (pc := 37) dX11_leaf_37 (by decide) ?_
          refine V_aload_n (pc := 38) dX11_leaf_38 rfl ?_
          refine V_getR (pc := 39) fX11_26 sC0 rfl dX11_leaf_39 ?_
          refine V_getR (pc := 42) fX11_279 sC3 rfl dX11_leaf_42 ?_
          refine V_iload_n (pc := 45) dX11_leaf_45 rfl ?_
          refine V_iload_n (pc := 46) dX11_leaf_46 rfl ?_
          refine V_iconst (v := 1) (pc := 47) dX11_leaf_47 rfl ?_
          refine V_icmp_ne (tgt := 55) (pc := 48) dX11_leaf_48 rfl (fun c => ?_) (fun c => ?_)
          · have h := h.1 c
            refine V_iconst (v := 0) (pc := 55) dX11_leaf_55 rfl ?_
            refine V_zast (pc := 56) sC19 dX11_leaf_56 h.1 ?_
            have h := h.2
            refine V_iload_n (pc := 57) dX11_leaf_57 rfl ?_
            exact V_iret dX11_leaf_58 rfl h
          · have h := h.2 c
            refine V_iconst (v := 1) (pc := 51) dX11_leaf_51 rfl ?_
            refine V_goto (tgt := 56) (pc := 52) dX11_leaf_52 rfl ?_
            refine V_zast (pc := 56) sC19 dX11_leaf_56 h.1 ?_
            have h := h.2
            refine V_iload_n (pc := 57) dX11_leaf_57 rfl ?_
            exact V_iret dX11_leaf_58 rfl h
      · have h := h.2 c
        refine V_ldc (pc := 17) dX11_leaf_17 nX11_91 ?_
        exact V_iret dX11_leaf_19 rfl h
theorem wp_X11_set {G : GV} {k : Nat} {M : Mem} {q : Int32 → Mem → Prop} {v1 : Int32} {v2 : Int32} {v3 : Int32} (h : Ci shC G mX11_noSheet k [.ref (G.2.1 0), .int v1] M (fun x1 M1 => ((x1 = 0 → Ci shC G mX9_isMissing k [.ref (G.2.1 1), .int v1] M1 (fun x2 M2 => ((x2 = 0 → Ci shC G mX9_holds k [.ref (G.2.1 1), .int v1, .int v2, .int 1] M2 (fun x3 M3 => ((x3 ≠ 0 → Ci shC G mX9_put k [.ref (G.2.1 1), .int v1, .int v2, .int v3] M3 (fun x4 M4 => Ci shC G mX11_withoutFinding k [.ref (G.2.1 0), .int x4] M4 (fun x5 M5 => q x5 M5))) ∧ (x3 = 0 → Ci shC G mX11_finding k [.ref (G.2.1 0), .int 2] M3 (fun x6 M6 => q x6 M6))))) ∧ (¬ x2 = 0 → Ci shC G mX11_finding k [.ref (G.2.1 0), .int 1] M2 (fun x7 M7 => q x7 M7))))) ∧ (¬ x1 = 0 → q (-1000001) M1)))) : Ci shC G mX11_set (k + 1) [.ref (G.2.1 0), .int v1, .int v2, .int v3] M q := by
  unfold Ci
  show V _ _ _ _ _ [(0, .ref (G.2.1 0)), (1, .int v1), (2, .int v2), (3, .int v3)] _ _ _
  refine V_aload_n (pc := 0) dX11_set_0 rfl ?_
  refine V_iload_n (pc := 1) dX11_set_1 rfl ?_
  refine V_callVi [.int v1] (pc := 2) kX11_noSheet lX11_87 sC0 rfl rfl (Nat.le_of_ble_eq_true rfl) rfl (Nat.le_of_ble_eq_true rfl) dX11_set_2 ?_
  refine Ci.mono h ?_
  intro x1 M1 h
  refine V_if_eq (tgt := 11) (pc := 5) dX11_set_5 rfl (fun c => ?_) (fun c => ?_)
  · have h := h.1 c
    refine V_aload_n (pc := 11) dX11_set_11 rfl ?_
    refine V_getR (pc := 12) fX11_10 sC0 rfl dX11_set_12 ?_
    refine V_iload_n (pc := 15) dX11_set_15 rfl ?_
    refine V_callVi [.int v1] (pc := 16) kX9_isMissing lX11_103 sC1 rfl rfl (Nat.le_of_ble_eq_true rfl) rfl (Nat.le_of_ble_eq_true rfl) dX11_set_16 ?_
    refine Ci.mono h ?_
    intro x2 M2 h
    refine V_if_eq (tgt := 28) (pc := 19) dX11_set_19 rfl (fun c => ?_) (fun c => ?_)
    · have h := h.1 c
      refine V_aload_n (pc := 28) dX11_set_28 rfl ?_
      refine V_getR (pc := 29) fX11_10 sC0 rfl dX11_set_29 ?_
      refine V_iload_n (pc := 32) dX11_set_32 rfl ?_
      refine V_iload_n (pc := 33) dX11_set_33 rfl ?_
      refine V_iconst (v := 1) (pc := 34) dX11_set_34 rfl ?_
      refine V_callVi [.int v1, .int v2, .int 1] (pc := 35) kX9_holds lX11_106 sC1 rfl rfl (Nat.le_of_ble_eq_true rfl) rfl (Nat.le_of_ble_eq_true rfl) dX11_set_35 ?_
      refine Ci.mono h ?_
      intro x3 M3 h
      refine V_if_ne (tgt := 47) (pc := 38) dX11_set_38 rfl (fun c => ?_) (fun c => ?_)
      · have h := h.1 c
        refine V_aload_n (pc := 47) dX11_set_47 rfl ?_
        refine V_aload_n (pc := 48) dX11_set_48 rfl ?_
        refine V_getR (pc := 49) fX11_10 sC0 rfl dX11_set_49 ?_
        refine V_iload_n (pc := 52) dX11_set_52 rfl ?_
        refine V_iload_n (pc := 53) dX11_set_53 rfl ?_
        refine V_iload_n (pc := 54) dX11_set_54 rfl ?_
        refine V_callVi [.int v1, .int v2, .int v3] (pc := 55) kX9_put lX11_110 sC1 rfl rfl (Nat.le_of_ble_eq_true rfl) rfl (Nat.le_of_ble_eq_true rfl) dX11_set_55 ?_
        refine Ci.mono h ?_
        intro x4 M4 h
        refine V_callVi [.int x4] (pc := 58) kX11_withoutFinding lX11_100 sC0 rfl rfl (Nat.le_of_ble_eq_true rfl) rfl (Nat.le_of_ble_eq_true rfl) dX11_set_58 ?_
        refine Ci.mono h ?_
        intro x5 M5 h
        exact V_iret dX11_set_61 rfl h
      · have h := h.2 c
        refine V_aload_n (pc := 41) dX11_set_41 rfl ?_
        refine V_iconst (v := 2) (pc := 42) dX11_set_42 rfl ?_
        refine V_callVi [.int 2] (pc := 43) kX11_finding lX11_92 sC0 rfl rfl (Nat.le_of_ble_eq_true rfl) rfl (Nat.le_of_ble_eq_true rfl) dX11_set_43 ?_
        refine Ci.mono h ?_
        intro x6 M6 h
        exact V_iret dX11_set_46 rfl h
    · have h := h.2 c
      refine V_aload_n (pc := 22) dX11_set_22 rfl ?_
      refine V_iconst (v := 1) (pc := 23) dX11_set_23 rfl ?_
      refine V_callVi [.int 1] (pc := 24) kX11_finding lX11_92 sC0 rfl rfl (Nat.le_of_ble_eq_true rfl) rfl (Nat.le_of_ble_eq_true rfl) dX11_set_24 ?_
      refine Ci.mono h ?_
      intro x7 M7 h
      exact V_iret dX11_set_27 rfl h
  · have h := h.2 c
    refine V_ldc (pc := 8) dX11_set_8 nX11_91 ?_
    exact V_iret dX11_set_10 rfl h
theorem wp_X11_sheet {G : GV} {k : Nat} {M : Mem} {q : Int32 → Mem → Prop} {v1 : Int32} {v2 : Int32} {v3 : Int32} (h : Ci shC G mX11_noSheet k [.ref (G.2.1 0), .int v1] M (fun x1 M1 => ((x1 ≠ 0 → q (-1000001) M1) ∧ (x1 = 0 → ((v2 < 0 → q (-1000001) M1) ∧ (¬ v2 < 0 → ((3 ≤ v2 → q (-1000001) M1) ∧ (¬ 3 ≤ v2 → ((v3 ≤ 60 → ((0 ≤ v3 → Cv shC G mX9_lay k [.ref (G.2.1 1), .int v1, .int v2, .int v3] M1 (fun M2 => Ci shC G mX11_withoutFinding k [.ref (G.2.1 0), .int v3] M2 (fun x3 M3 => q x3 M3))) ∧ (¬ 0 ≤ v3 → Ci shC G mX11_finding k [.ref (G.2.1 0), .int 4] M1 (fun x4 M4 => q x4 M4)))) ∧ (¬ v3 ≤ 60 → q (-1000001) M1)))))))))) : Ci shC G mX11_sheet (k + 1) [.ref (G.2.1 0), .int v1, .int v2, .int v3] M q := by
  unfold Ci
  show V _ _ _ _ _ [(0, .ref (G.2.1 0)), (1, .int v1), (2, .int v2), (3, .int v3)] _ _ _
  refine V_aload_n (pc := 0) dX11_sheet_0 rfl ?_
  refine V_iload_n (pc := 1) dX11_sheet_1 rfl ?_
  refine V_callVi [.int v1] (pc := 2) kX11_noSheet lX11_87 sC0 rfl rfl (Nat.le_of_ble_eq_true rfl) rfl (Nat.le_of_ble_eq_true rfl) dX11_sheet_2 ?_
  refine Ci.mono h ?_
  intro x1 M1 h
  refine V_if_ne (tgt := 23) (pc := 5) dX11_sheet_5 rfl (fun c => ?_) (fun c => ?_)
  · have h := h.1 c
    refine V_ldc (pc := 23) dX11_sheet_23 nX11_91 ?_
    exact V_iret dX11_sheet_25 rfl h
  · have h := h.2 c
    refine V_iload_n (pc := 8) dX11_sheet_8 rfl ?_
    refine V_if_lt (tgt := 23) (pc := 9) dX11_sheet_9 rfl (fun c => ?_) (fun c => ?_)
    · have h := h.1 c
      refine V_ldc (pc := 23) dX11_sheet_23 nX11_91 ?_
      exact V_iret dX11_sheet_25 rfl h
    · have h := h.2 c
      refine V_iload_n (pc := 12) dX11_sheet_12 rfl ?_
      refine V_iconst (v := 3) (pc := 13) dX11_sheet_13 rfl ?_
      refine V_icmp_ge (tgt := 23) (pc := 14) dX11_sheet_14 rfl (fun c => ?_) (fun c => ?_)
      · have h := h.1 c
        refine V_ldc (pc := 23) dX11_sheet_23 nX11_91 ?_
        exact V_iret dX11_sheet_25 rfl h
      · have h := h.2 c
        refine V_iload_n (pc := 17) dX11_sheet_17 rfl ?_
        refine V_bipush (v := 60) (pc := 18) dX11_sheet_18 rfl ?_
        refine V_icmp_le (tgt := 26) (pc := 20) dX11_sheet_20 rfl (fun c => ?_) (fun c => ?_)
        · have h := h.1 c
          refine V_iload_n (pc := 26) dX11_sheet_26 rfl ?_
          refine V_if_ge (tgt := 36) (pc := 27) dX11_sheet_27 rfl (fun c => ?_) (fun c => ?_)
          · have h := h.1 c
            refine V_aload_n (pc := 36) dX11_sheet_36 rfl ?_
            refine V_getR (pc := 37) fX11_10 sC0 rfl dX11_sheet_37 ?_
            refine V_iload_n (pc := 40) dX11_sheet_40 rfl ?_
            refine V_iload_n (pc := 41) dX11_sheet_41 rfl ?_
            refine V_iload_n (pc := 42) dX11_sheet_42 rfl ?_
            refine V_callVv [.int v1, .int v2, .int v3] (pc := 43) kX9_lay lX11_96 sC1 rfl rfl (Nat.le_of_ble_eq_true rfl) rfl (Nat.le_of_ble_eq_true rfl) dX11_sheet_43 ?_
            refine Cv.mono h ?_
            intro M2 h
            refine V_aload_n (pc := 46) dX11_sheet_46 rfl ?_
            refine V_iload_n (pc := 47) dX11_sheet_47 rfl ?_
            refine V_callVi [.int v3] (pc := 48) kX11_withoutFinding lX11_100 sC0 rfl rfl (Nat.le_of_ble_eq_true rfl) rfl (Nat.le_of_ble_eq_true rfl) dX11_sheet_48 ?_
            refine Ci.mono h ?_
            intro x3 M3 h
            exact V_iret dX11_sheet_51 rfl h
          · have h := h.2 c
            refine V_aload_n (pc := 30) dX11_sheet_30 rfl ?_
            refine V_iconst (v := 4) (pc := 31) dX11_sheet_31 rfl ?_
            refine V_callVi [.int 4] (pc := 32) kX11_finding lX11_92 sC0 rfl rfl (Nat.le_of_ble_eq_true rfl) rfl (Nat.le_of_ble_eq_true rfl) dX11_sheet_32 ?_
            refine Ci.mono h ?_
            intro x4 M4 h
            exact V_iret dX11_sheet_35 rfl h
        · have h := h.2 c
          refine V_ldc (pc := 23) dX11_sheet_23 nX11_91 ?_
          exact V_iret dX11_sheet_25 rfl h
theorem wp_X11_shown {G : GV} {k : Nat} {M : Mem} {q : Int32 → Mem → Prop} {v1 : Int32} {v2 : Int32} (h : Ci shC G mX11_noLine k [.ref (G.2.1 0), .int v1] M (fun x1 M1 => ((x1 ≠ 0 → q (-1000001) M1) ∧ (x1 = 0 → Ci shC G mX11_noYear k [.ref (G.2.1 0), .int v2] M1 (fun x2 M2 => ((x2 = 0 → vp_in v1 12 ∧ (((M2.1 29 (ix v1)) ≠ 2 → vp_in v1 12 ∧ (((v2 - (M2.1 33 (ix v1))) < 72 → q 0 M2) ∧ (¬ (v2 - (M2.1 33 (ix v1))) < 72 → q 1 M2))) ∧ ((M2.1 29 (ix v1)) = 2 → vp_in v1 12 ∧ (((v2 - (M2.1 33 (ix v1))) < 100 → q 0 M2) ∧ (¬ (v2 - (M2.1 33 (ix v1))) < 100 → q 1 M2))))) ∧ (¬ x2 = 0 → q (-1000001) M2))))))) : Ci shC G mX11_shown (k + 1) [.ref (G.2.1 0), .int v1, .int v2] M q := by
  unfold Ci
  show V _ _ _ _ _ [(0, .ref (G.2.1 0)), (1, .int v1), (2, .int v2)] _ _ _
  refine V_aload_n (pc := 0) dX11_shown_0 rfl ?_
  refine V_iload_n (pc := 1) dX11_shown_1 rfl ?_
  refine V_callVi [.int v1] (pc := 2) kX11_noLine lX11_154 sC0 rfl rfl (Nat.le_of_ble_eq_true rfl) rfl (Nat.le_of_ble_eq_true rfl) dX11_shown_2 ?_
  refine Ci.mono h ?_
  intro x1 M1 h
  refine V_if_ne (tgt := 16) (pc := 5) dX11_shown_5 rfl (fun c => ?_) (fun c => ?_)
  · have h := h.1 c
    refine V_ldc (pc := 16) dX11_shown_16 nX11_91 ?_
    exact V_iret dX11_shown_18 rfl h
  · have h := h.2 c
    refine V_aload_n (pc := 8) dX11_shown_8 rfl ?_
    refine V_iload_n (pc := 9) dX11_shown_9 rfl ?_
    refine V_callVi [.int v2] (pc := 10) kX11_noYear lX11_251 sC0 rfl rfl (Nat.le_of_ble_eq_true rfl) rfl (Nat.le_of_ble_eq_true rfl) dX11_shown_10 ?_
    refine Ci.mono h ?_
    intro x2 M2 h
    refine V_if_eq (tgt := 19) (pc := 13) dX11_shown_13 rfl (fun c => ?_) (fun c => ?_)
    · have h := h.1 c
      refine V_aload_n (pc := 19) dX11_shown_19 rfl ?_
      refine V_getR (pc := 20) fX11_47 sC0 rfl dX11_shown_20 ?_
      refine V_getR (pc := 23) fX11_160 sC6 rfl dX11_shown_23 ?_
      refine V_iload_n (pc := 26) dX11_shown_26 rfl ?_
      refine V_iald (pc := 27) sC29 dX11_shown_27 h.1 ?_
      have h := h.2
      refine V_iconst (v := 2) (pc := 28) dX11_shown_28 rfl ?_
      refine V_icmp_ne (tgt := 37) (pc := 29) dX11_shown_29 rfl (fun c => ?_) (fun c => ?_)
      · have h := h.1 c
        refine V_bipush (v := 72) (pc := 37) dX11_shown_37 rfl ?_
        refine V_istore_n (pc := 39) dX11_shown_39 (by decide) ?_
        refine V_iload_n (pc := 40) dX11_shown_40 rfl ?_
        refine V_aload_n (pc := 41) dX11_shown_41 rfl ?_
        refine V_getR (pc := 42) fX11_47 sC0 rfl dX11_shown_42 ?_
        refine V_getR (pc := 45) fX11_172 sC6 rfl dX11_shown_45 ?_
        refine V_iload_n (pc := 48) dX11_shown_48 rfl ?_
        refine V_iald (pc := 49) sC33 dX11_shown_49 h.1 ?_
        have h := h.2
        refine V_isub (pc := 50) dX11_shown_50 ?_
        refine V_iload_n (pc := 51) dX11_shown_51 rfl ?_
        refine V_icmp_lt (tgt := 59) (pc := 52) dX11_shown_52 rfl (fun c => ?_) (fun c => ?_)
        · have h := h.1 c
          refine V_iconst (v := 0) (pc := 59) dX11_shown_59 rfl ?_
          exact V_iret dX11_shown_60 rfl h
        · have h := h.2 c
          refine V_iconst (v := 1) (pc := 55) dX11_shown_55 rfl ?_
          refine V_goto (tgt := 60) (pc := 56) dX11_shown_56 rfl ?_
          exact V_iret dX11_shown_60 rfl h
      · have h := h.2 c
        refine V_bipush (v := 100) (pc := 32) dX11_shown_32 rfl ?_
        refine V_goto (tgt := 39) (pc := 34) dX11_shown_34 rfl ?_
        refine V_istore_n (pc := 39) dX11_shown_39 (by decide) ?_
        refine V_iload_n (pc := 40) dX11_shown_40 rfl ?_
        refine V_aload_n (pc := 41) dX11_shown_41 rfl ?_
        refine V_getR (pc := 42) fX11_47 sC0 rfl dX11_shown_42 ?_
        refine V_getR (pc := 45) fX11_172 sC6 rfl dX11_shown_45 ?_
        refine V_iload_n (pc := 48) dX11_shown_48 rfl ?_
        refine V_iald (pc := 49) sC33 dX11_shown_49 h.1 ?_
        have h := h.2
        refine V_isub (pc := 50) dX11_shown_50 ?_
        refine V_iload_n (pc := 51) dX11_shown_51 rfl ?_
        refine V_icmp_lt (tgt := 59) (pc := 52) dX11_shown_52 rfl (fun c => ?_) (fun c => ?_)
        · have h := h.1 c
          refine V_iconst (v := 0) (pc := 59) dX11_shown_59 rfl ?_
          exact V_iret dX11_shown_60 rfl h
        · have h := h.2 c
          refine V_iconst (v := 1) (pc := 55) dX11_shown_55 rfl ?_
          refine V_goto (tgt := 60) (pc := 56) dX11_shown_56 rfl ?_
          exact V_iret dX11_shown_60 rfl h
    · have h := h.2 c
      refine V_ldc (pc := 16) dX11_shown_16 nX11_91 ?_
      exact V_iret dX11_shown_18 rfl h
theorem wp_X11_as {G : GV} {k : Nat} {M : Mem} {q : Int32 → Mem → Prop} {v1 : Int32} {v2 : Int32} (h : Ci shC G mX11_noLine (k + 1) [.ref (G.2.1 0), .int v1] M (fun x1 M1 => ((x1 ≠ 0 → q (-1000001) M1) ∧ (x1 = 0 → ((v2 < 0 → q (-1000001) M1) ∧ (¬ v2 < 0 → ((v2 < 6 → Ci shC G mX3_isOfKind (k + 1) [.ref (G.2.1 6), .int v1, .int v2] M1 (fun x2 M2 => ((x2 ≠ 0 → vp_in v1 12 ∧ Ci shC G mX11_withoutFinding (k + 1) [.ref (G.2.1 0), .int (M2.1 31 (ix v1))] M2 (fun x3 M3 => q x3 M3)) ∧ (x2 = 0 → Ci shC G mX11_finding (k + 1) [.ref (G.2.1 0), .int 3] M2 (fun x4 M4 => q x4 M4))))) ∧ (¬ v2 < 6 → q (-1000001) M1)))))))) : Ci shC G mX11_as (k + 2) [.ref (G.2.1 0), .int v1, .int v2] M q := by
  unfold Ci
  show V _ _ _ _ _ [(0, .ref (G.2.1 0)), (1, .int v1), (2, .int v2)] _ _ _
  refine V_aload_n (pc := 0) dX11_as_0 rfl ?_
  refine V_iload_n (pc := 1) dX11_as_1 rfl ?_
  refine V_callVi [.int v1] (pc := 2) kX11_noLine lX11_154 sC0 rfl rfl (Nat.le_of_ble_eq_true rfl) rfl (Nat.le_of_ble_eq_true rfl) dX11_as_2 ?_
  refine Ci.mono h ?_
  intro x1 M1 h
  refine V_if_ne (tgt := 18) (pc := 5) dX11_as_5 rfl (fun c => ?_) (fun c => ?_)
  · have h := h.1 c
    refine V_ldc (pc := 18) dX11_as_18 nX11_91 ?_
    exact V_iret dX11_as_20 rfl h
  · have h := h.2 c
    refine V_iload_n (pc := 8) dX11_as_8 rfl ?_
    refine V_if_lt (tgt := 18) (pc := 9) dX11_as_9 rfl (fun c => ?_) (fun c => ?_)
    · have h := h.1 c
      refine V_ldc (pc := 18) dX11_as_18 nX11_91 ?_
      exact V_iret dX11_as_20 rfl h
    · have h := h.2 c
      refine V_iload_n (pc := 12) dX11_as_12 rfl ?_
      refine V_bipush (v := 6) (pc := 13) dX11_as_13 rfl ?_
      refine V_icmp_lt (tgt := 21) (pc := 15) dX11_as_15 rfl (fun c => ?_) (fun c => ?_)
      · have h := h.1 c
        refine V_aload_n (pc := 21) dX11_as_21 rfl ?_
        refine V_getR (pc := 22) fX11_47 sC0 rfl dX11_as_22 ?_
        refine V_iload_n (pc := 25) dX11_as_25 rfl ?_
        refine V_iload_n (pc := 26) dX11_as_26 rfl ?_
        refine V_callVi [.int v1, .int v2] (pc := 27) kX3_isOfKind lX11_291 sC6 rfl rfl (Nat.le_of_ble_eq_true rfl) rfl (Nat.le_of_ble_eq_true rfl) dX11_as_27 ?_
        refine Ci.mono h ?_
        intro x2 M2 h
        refine V_if_ne (tgt := 39) (pc := 30) dX11_as_30 rfl (fun c => ?_) (fun c => ?_)
        · have h := h.1 c
          refine V_aload_n (pc := 39) dX11_as_39 rfl ?_
          refine V_aload_n (pc := 40) dX11_as_40 rfl ?_
          refine V_getR (pc := 41) fX11_47 sC0 rfl dX11_as_41 ?_
          refine V_getR (pc := 44) fX11_166 sC6 rfl dX11_as_44 ?_
          refine V_iload_n (pc := 47) dX11_as_47 rfl ?_
          refine V_iald (pc := 48) sC31 dX11_as_48 h.1 ?_
          have h := h.2
          refine V_callVi [.int (M2.1 31 (ix v1))] (pc := 49) kX11_withoutFinding lX11_100 sC0 rfl rfl (Nat.le_of_ble_eq_true rfl) rfl (Nat.le_of_ble_eq_true rfl) dX11_as_49 ?_
          refine Ci.mono h ?_
          intro x3 M3 h
          exact V_iret dX11_as_52 rfl h
        · have h := h.2 c
          refine V_aload_n (pc := 33) dX11_as_33 rfl ?_
          refine V_iconst (v := 3) (pc := 34) dX11_as_34 rfl ?_
          refine V_callVi [.int 3] (pc := 35) kX11_finding lX11_92 sC0 rfl rfl (Nat.le_of_ble_eq_true rfl) rfl (Nat.le_of_ble_eq_true rfl) dX11_as_35 ?_
          refine Ci.mono h ?_
          intro x4 M4 h
          exact V_iret dX11_as_38 rfl h
      · have h := h.2 c
        refine V_ldc (pc := 18) dX11_as_18 nX11_91 ?_
        exact V_iret dX11_as_20 rfl h
theorem wp_X11_copy {G : GV} {k : Nat} {M : Mem} {q : Int32 → Mem → Prop} {v1 : Int32} {v2 : Int32} {v3 : Int32} {v4 : Int32} {v5 : Int32} (h : Ci shC G mX11_noSheet (k + 1) [.ref (G.2.1 0), .int v1] M (fun x1 M1 => ((x1 ≠ 0 → q (-1000001) M1) ∧ (x1 = 0 → Ci shC G mX11_noSheet (k + 1) [.ref (G.2.1 0), .int v3] M1 (fun x2 M2 => ((x2 = 0 → Ci shC G mX9_isMissing (k + 1) [.ref (G.2.1 1), .int v1] M2 (fun x3 M3 => ((x3 ≠ 0 → Ci shC G mX11_finding (k + 1) [.ref (G.2.1 0), .int 1] M3 (fun x4 M4 => q x4 M4)) ∧ (x3 = 0 → Ci shC G mX9_isMissing (k + 1) [.ref (G.2.1 1), .int v3] M3 (fun x5 M5 => ((x5 = 0 → Ci shC G mX9_haveOneLane (k + 1) [.ref (G.2.1 1), .int v1, .int v3] M5 (fun x6 M6 => ((x6 ≠ 0 → Ci shC G mX9_holds (k + 1) [.ref (G.2.1 1), .int v1, .int v2, .int v5] M6 (fun x7 M7 => ((x7 = 0 → Ci shC G mX11_finding (k + 1) [.ref (G.2.1 0), .int 2] M7 (fun x8 M8 => q x8 M8)) ∧ (¬ x7 = 0 → Ci shC G mX9_holds (k + 1) [.ref (G.2.1 1), .int v3, .int v4, .int v5] M7 (fun x9 M9 => ((x9 ≠ 0 → Cv shC G mX9_move (k + 1) [.ref (G.2.1 1), .int v1, .int v2, .int v3, .int v4, .int v5] M9 (fun M10 => Ci shC G mX11_withoutFinding (k + 1) [.ref (G.2.1 0), .int v5] M10 (fun x11 M11 => q x11 M11))) ∧ (x9 = 0 → Ci shC G mX11_finding (k + 1) [.ref (G.2.1 0), .int 2] M9 (fun x12 M12 => q x12 M12)))))))) ∧ (x6 = 0 → Ci shC G mX11_finding (k + 1) [.ref (G.2.1 0), .int 5] M6 (fun x13 M13 => q x13 M13))))) ∧ (¬ x5 = 0 → Ci shC G mX11_finding (k + 1) [.ref (G.2.1 0), .int 1] M5 (fun x14 M14 => q x14 M14)))))))) ∧ (¬ x2 = 0 → q (-1000001) M2))))))) : Ci shC G mX11_copy (k + 2) [.ref (G.2.1 0), .int v1, .int v2, .int v3, .int v4, .int v5] M q := by
  unfold Ci
  show V _ _ _ _ _ [(0, .ref (G.2.1 0)), (1, .int v1), (2, .int v2), (3, .int v3), (4, .int v4), (5, .int v5)] _ _ _
  refine V_aload_n (pc := 0) dX11_copy_0 rfl ?_
  refine V_iload_n (pc := 1) dX11_copy_1 rfl ?_
  refine V_callVi [.int v1] (pc := 2) kX11_noSheet lX11_87 sC0 rfl rfl (Nat.le_of_ble_eq_true rfl) rfl (Nat.le_of_ble_eq_true rfl) dX11_copy_2 ?_
  refine Ci.mono h ?_
  intro x1 M1 h
  refine V_if_ne (tgt := 16) (pc := 5) dX11_copy_5 rfl (fun c => ?_) (fun c => ?_)
  · have h := h.1 c
    refine V_ldc (pc := 16) dX11_copy_16 nX11_91 ?_
    exact V_iret dX11_copy_18 rfl h
  · have h := h.2 c
    refine V_aload_n (pc := 8) dX11_copy_8 rfl ?_
    refine V_iload_n (pc := 9) dX11_copy_9 rfl ?_
    refine V_callVi [.int v3] (pc := 10) kX11_noSheet lX11_87 sC0 rfl rfl (Nat.le_of_ble_eq_true rfl) rfl (Nat.le_of_ble_eq_true rfl) dX11_copy_10 ?_
    refine Ci.mono h ?_
    intro x2 M2 h
    refine V_if_eq (tgt := 19) (pc := 13) dX11_copy_13 rfl (fun c => ?_) (fun c => ?_)
    · have h := h.1 c
      refine V_aload_n (pc := 19) dX11_copy_19 rfl ?_
      refine V_getR (pc := 20) fX11_10 sC0 rfl dX11_copy_20 ?_
      refine V_iload_n (pc := 23) dX11_copy_23 rfl ?_
      refine V_callVi [.int v1] (pc := 24) kX9_isMissing lX11_103 sC1 rfl rfl (Nat.le_of_ble_eq_true rfl) rfl (Nat.le_of_ble_eq_true rfl) dX11_copy_24 ?_
      refine Ci.mono h ?_
      intro x3 M3 h
      refine V_if_ne (tgt := 41) (pc := 27) dX11_copy_27 rfl (fun c => ?_) (fun c => ?_)
      · have h := h.1 c
        refine V_aload_n (pc := 41) dX11_copy_41 rfl ?_
        refine V_iconst (v := 1) (pc := 42) dX11_copy_42 rfl ?_
        refine V_callVi [.int 1] (pc := 43) kX11_finding lX11_92 sC0 rfl rfl (Nat.le_of_ble_eq_true rfl) rfl (Nat.le_of_ble_eq_true rfl) dX11_copy_43 ?_
        refine Ci.mono h ?_
        intro x4 M4 h
        exact V_iret dX11_copy_46 rfl h
      · have h := h.2 c
        refine V_aload_n (pc := 30) dX11_copy_30 rfl ?_
        refine V_getR (pc := 31) fX11_10 sC0 rfl dX11_copy_31 ?_
        refine V_iload_n (pc := 34) dX11_copy_34 rfl ?_
        refine V_callVi [.int v3] (pc := 35) kX9_isMissing lX11_103 sC1 rfl rfl (Nat.le_of_ble_eq_true rfl) rfl (Nat.le_of_ble_eq_true rfl) dX11_copy_35 ?_
        refine Ci.mono h ?_
        intro x5 M5 h
        refine V_if_eq (tgt := 47) (pc := 38) dX11_copy_38 rfl (fun c => ?_) (fun c => ?_)
        · have h := h.1 c
          refine V_aload_n (pc := 47) dX11_copy_47 rfl ?_
          refine V_getR (pc := 48) fX11_10 sC0 rfl dX11_copy_48 ?_
          refine V_iload_n (pc := 51) dX11_copy_51 rfl ?_
          refine V_iload_n (pc := 52) dX11_copy_52 rfl ?_
          refine V_callVi [.int v1, .int v3] (pc := 53) kX9_haveOneLane lX11_114 sC1 rfl rfl (Nat.le_of_ble_eq_true rfl) rfl (Nat.le_of_ble_eq_true rfl) dX11_copy_53 ?_
          refine Ci.mono h ?_
          intro x6 M6 h
          refine V_if_ne (tgt := 65) (pc := 56) dX11_copy_56 rfl (fun c => ?_) (fun c => ?_)
          · have h := h.1 c
            refine V_aload_n (pc := 65) dX11_copy_65 rfl ?_
            refine V_getR (pc := 66) fX11_10 sC0 rfl dX11_copy_66 ?_
            refine V_iload_n (pc := 69) dX11_copy_69 rfl ?_
            refine V_iload_n (pc := 70) dX11_copy_70 rfl ?_
            refine V_iload (pc := 71) dX11_copy_71 rfl ?_
            refine V_callVi [.int v1, .int v2, .int v5] (pc := 73) kX9_holds lX11_106 sC1 rfl rfl (Nat.le_of_ble_eq_true rfl) rfl (Nat.le_of_ble_eq_true rfl) dX11_copy_73 ?_
            refine Ci.mono h ?_
            intro x7 M7 h
            refine V_if_eq (tgt := 94) (pc := 76) dX11_copy_76 rfl (fun c => ?_) (fun c => ?_)
            · have h := h.1 c
              refine V_aload_n (pc := 94) dX11_copy_94 rfl ?_
              refine V_iconst (v := 2) (pc := 95) dX11_copy_95 rfl ?_
              refine V_callVi [.int 2] (pc := 96) kX11_finding lX11_92 sC0 rfl rfl (Nat.le_of_ble_eq_true rfl) rfl (Nat.le_of_ble_eq_true rfl) dX11_copy_96 ?_
              refine Ci.mono h ?_
              intro x8 M8 h
              exact V_iret dX11_copy_99 rfl h
            · have h := h.2 c
              refine V_aload_n (pc := 79) dX11_copy_79 rfl ?_
              refine V_getR (pc := 80) fX11_10 sC0 rfl dX11_copy_80 ?_
              refine V_iload_n (pc := 83) dX11_copy_83 rfl ?_
              refine V_iload (pc := 84) dX11_copy_84 rfl ?_
              refine V_iload (pc := 86) dX11_copy_86 rfl ?_
              refine V_callVi [.int v3, .int v4, .int v5] (pc := 88) kX9_holds lX11_106 sC1 rfl rfl (Nat.le_of_ble_eq_true rfl) rfl (Nat.le_of_ble_eq_true rfl) dX11_copy_88 ?_
              refine Ci.mono h ?_
              intro x9 M9 h
              refine V_if_ne (tgt := 100) (pc := 91) dX11_copy_91 rfl (fun c => ?_) (fun c => ?_)
              · have h := h.1 c
                refine V_aload_n (pc := 100) dX11_copy_100 rfl ?_
                refine V_getR (pc := 101) fX11_10 sC0 rfl dX11_copy_101 ?_
                refine V_iload_n (pc := 104) dX11_copy_104 rfl ?_
                refine V_iload_n (pc := 105) dX11_copy_105 rfl ?_
                refine V_iload_n (pc := 106) dX11_copy_106 rfl ?_
                refine V_iload (pc := 107) dX11_copy_107 rfl ?_
                refine V_iload (pc := 109) dX11_copy_109 rfl ?_
                refine V_callVv [.int v1, .int v2, .int v3, .int v4, .int v5] (pc := 111) kX9_move lX11_118 sC1 rfl rfl (Nat.le_of_ble_eq_true rfl) rfl (Nat.le_of_ble_eq_true rfl) dX11_copy_111 ?_
                refine Cv.mono h ?_
                intro M10 h
                refine V_aload_n (pc := 114) dX11_copy_114 rfl ?_
                refine V_iload (pc := 115) dX11_copy_115 rfl ?_
                refine V_callVi [.int v5] (pc := 117) kX11_withoutFinding lX11_100 sC0 rfl rfl (Nat.le_of_ble_eq_true rfl) rfl (Nat.le_of_ble_eq_true rfl) dX11_copy_117 ?_
                refine Ci.mono h ?_
                intro x11 M11 h
                exact V_iret dX11_copy_120 rfl h
              · have h := h.2 c
                refine V_aload_n (pc := 94) dX11_copy_94 rfl ?_
                refine V_iconst (v := 2) (pc := 95) dX11_copy_95 rfl ?_
                refine V_callVi [.int 2] (pc := 96) kX11_finding lX11_92 sC0 rfl rfl (Nat.le_of_ble_eq_true rfl) rfl (Nat.le_of_ble_eq_true rfl) dX11_copy_96 ?_
                refine Ci.mono h ?_
                intro x12 M12 h
                exact V_iret dX11_copy_99 rfl h
          · have h := h.2 c
            refine V_aload_n (pc := 59) dX11_copy_59 rfl ?_
            refine V_iconst (v := 5) (pc := 60) dX11_copy_60 rfl ?_
            refine V_callVi [.int 5] (pc := 61) kX11_finding lX11_92 sC0 rfl rfl (Nat.le_of_ble_eq_true rfl) rfl (Nat.le_of_ble_eq_true rfl) dX11_copy_61 ?_
            refine Ci.mono h ?_
            intro x13 M13 h
            exact V_iret dX11_copy_64 rfl h
        · have h := h.2 c
          refine V_aload_n (pc := 41) dX11_copy_41 rfl ?_
          refine V_iconst (v := 1) (pc := 42) dX11_copy_42 rfl ?_
          refine V_callVi [.int 1] (pc := 43) kX11_finding lX11_92 sC0 rfl rfl (Nat.le_of_ble_eq_true rfl) rfl (Nat.le_of_ble_eq_true rfl) dX11_copy_43 ?_
          refine Ci.mono h ?_
          intro x14 M14 h
          exact V_iret dX11_copy_46 rfl h
    · have h := h.2 c
      refine V_ldc (pc := 16) dX11_copy_16 nX11_91 ?_
      exact V_iret dX11_copy_18 rfl h
theorem wp_X11_countHomeless {G : GV} {k : Nat} {M : Mem} {q : Int32 → Mem → Prop}  (h : V shC G mX11_countHomeless (k + 2) 4 [(0, .ref (G.2.1 0)), (1, .int 0), (2, .int 0)] [] M (Qi q)) : Ci shC G mX11_countHomeless (k + 2) [.ref (G.2.1 0)] M q := by
  unfold Ci
  show V _ _ _ _ _ [(0, .ref (G.2.1 0))] _ _ _
  refine V_iconst (v := 0) (pc := 0) dX11_countHomeless_0 rfl ?_
  refine V_istore_n (pc := 1) dX11_countHomeless_1 (by decide) ?_
  refine V_iconst (v := 0) (pc := 2) dX11_countHomeless_2 rfl ?_
  refine V_istore_n (pc := 3) dX11_countHomeless_3 (by decide) ?_
  exact V_sub h ⟨rfl, rfl, rfl, trivial⟩
theorem wp_X11_countHomeless_4 {G : GV} {k : Nat} {M : Mem} {q : Int32 → Mem → Prop} {v1 : Int32} {v2 : Int32} (h : (((M.1 6 8) ≤ v2 → q v1 M) ∧ (¬ (M.1 6 8) ≤ v2 → Ci shC G mX11_isHomeless (k + 1) [.ref (G.2.1 0), .int v2] M (fun x1 M1 => ((x1 = 0 → V shC G mX11_countHomeless (k + 2) 4 [(0, .ref (G.2.1 0)), (1, .int v1), (2, .int (v2 + 1))] [] M1 (Qi q)) ∧ (¬ x1 = 0 → V shC G mX11_countHomeless (k + 2) 4 [(0, .ref (G.2.1 0)), (1, .int (v1 + 1)), (2, .int (v2 + 1))] [] M1 (Qi q))))))) : V shC G mX11_countHomeless (k + 2) 4 [(0, .ref (G.2.1 0)), (1, .int v1), (2, .int v2)] [] M (Qi q) := by
  refine V_iload_n (pc := 4) dX11_countHomeless_4 rfl ?_
  refine V_aload_n (pc := 5) dX11_countHomeless_5 rfl ?_
  refine V_getR (pc := 6) fX11_47 sC0 rfl dX11_countHomeless_6 ?_
  refine V_getI (pc := 9) fX11_151 sC6 rfl dX11_countHomeless_9 ?_
  refine V_icmp_ge (tgt := 32) (pc := 12) dX11_countHomeless_12 rfl (fun c => ?_) (fun c => ?_)
  · have h := h.1 c
    refine V_iload_n (pc := 32) dX11_countHomeless_32 rfl ?_
    exact V_iret dX11_countHomeless_33 rfl h
  · have h := h.2 c
    refine V_aload_n (pc := 15) dX11_countHomeless_15 rfl ?_
    refine V_iload_n (pc := 16) dX11_countHomeless_16 rfl ?_
    refine V_callVi [.int v2] (pc := 17) kX11_isHomeless lX11_178 sC0 rfl rfl (Nat.le_of_ble_eq_true rfl) rfl (Nat.le_of_ble_eq_true rfl) dX11_countHomeless_17 ?_
    refine Ci.mono h ?_
    intro x1 M1 h
    refine V_if_eq (tgt := 26) (pc := 20) dX11_countHomeless_20 rfl (fun c => ?_) (fun c => ?_)
    · have h := h.1 c
      refine V_iinc (pc := 26) dX11_countHomeless_26 rfl (by decide) ?_
      refine V_goto (tgt := 4) (pc := 29) dX11_countHomeless_29 rfl ?_
      exact V_sub h ⟨rfl, rfl, rfl, trivial⟩
    · have h := h.2 c
      refine V_iinc (pc := 23) dX11_countHomeless_23 rfl (by decide) ?_
      refine V_iinc (pc := 26) dX11_countHomeless_26 rfl (by decide) ?_
      refine V_goto (tgt := 4) (pc := 29) dX11_countHomeless_29 rfl ?_
      exact V_sub h ⟨rfl, rfl, rfl, trivial⟩
theorem wp_X11_line {G : GV} {k : Nat} {M : Mem} {q : Int32 → Mem → Prop} {v1 : Int32} {v2 : Int32} (h : Ci shC G mX11_noLine (k + 1) [.ref (G.2.1 0), .int v1] M (fun x1 M1 => ((x1 = 0 → (((v2).toInt = 0 → vp_in v1 12 ∧ q (M1.1 28 (ix v1)) M1) ∧ ((v2).toInt = 1 → vp_in v1 12 ∧ q (M1.1 29 (ix v1)) M1) ∧ ((v2).toInt = 2 → vp_in v1 12 ∧ q (M1.1 30 (ix v1)) M1) ∧ ((v2).toInt = 3 → vp_in v1 12 ∧ q (M1.1 31 (ix v1)) M1) ∧ ((v2).toInt = 4 → vp_in v1 12 ∧ q (M1.1 32 (ix v1)) M1) ∧ ((v2).toInt = 5 → vp_in v1 12 ∧ q (M1.1 33 (ix v1)) M1) ∧ ((v2).toInt = 6 → vp_in v1 12 ∧ q (M1.1 34 (ix v1)) M1) ∧ ((v2).toInt = 7 → Ci shC G mX11_isHomeless (k + 1) [.ref (G.2.1 0), .int v1] M1 (fun x2 M2 => ((x2 = 0 → q 0 M2) ∧ (¬ x2 = 0 → q 1 M2)))) ∧ ((v2).toInt = 8 → vp_in v1 12 ∧ q (M1.1 38 (ix v1)) M1) ∧ (((v2).toInt < 0 ∨ 8 < (v2).toInt) → q (-1000001) M1))) ∧ (¬ x1 = 0 → q (-1000001) M1)))) : Ci shC G mX11_line (k + 2) [.ref (G.2.1 0), .int v1, .int v2] M q := by
  unfold Ci
  show V _ _ _ _ _ [(0, .ref (G.2.1 0)), (1, .int v1), (2, .int v2)] _ _ _
  refine V_aload_n (pc := 0) dX11_line_0 rfl ?_
  refine V_iload_n (pc := 1) dX11_line_1 rfl ?_
  refine V_callVi [.int v1] (pc := 2) kX11_noLine lX11_154 sC0 rfl rfl (Nat.le_of_ble_eq_true rfl) rfl (Nat.le_of_ble_eq_true rfl) dX11_line_2 ?_
  refine Ci.mono h ?_
  intro x1 M1 h
  refine V_if_eq (tgt := 11) (pc := 5) dX11_line_5 rfl (fun c => ?_) (fun c => ?_)
  · have h := h.1 c
    refine V_iload_n (pc := 11) dX11_line_11 rfl ?_
    refine V_table (tgt := 161) (pc := 12) dX11_line_12 rfl rfl rfl ⟨fun c => ?_, fun c => ?_, fun c => ?_, fun c => ?_, fun c => ?_, fun c => ?_, fun c => ?_, fun c => ?_, fun c => ?_, trivial⟩ (fun c => ?_)
    · have h := h.1 c
      show V _ _ _ _ 64 _ _ _ _
      refine V_aload_n (pc := 64) dX11_line_64 rfl ?_
      refine V_getR (pc := 65) fX11_47 sC0 rfl dX11_line_65 ?_
      refine V_getR (pc := 68) fX11_157 sC6 rfl dX11_line_68 ?_
      refine V_iload_n (pc := 71) dX11_line_71 rfl ?_
      refine V_iald (pc := 72) sC28 dX11_line_72 h.1 ?_
      have h := h.2
      exact V_iret dX11_line_73 rfl h
    · have h := h.2.1 c
      show V _ _ _ _ 74 _ _ _ _
      refine V_aload_n (pc := 74) dX11_line_74 rfl ?_
      refine V_getR (pc := 75) fX11_47 sC0 rfl dX11_line_75 ?_
      refine V_getR (pc := 78) fX11_160 sC6 rfl dX11_line_78 ?_
      refine V_iload_n (pc := 81) dX11_line_81 rfl ?_
      refine V_iald (pc := 82) sC29 dX11_line_82 h.1 ?_
      have h := h.2
      exact V_iret dX11_line_83 rfl h
    · have h := h.2.2.1 c
      show V _ _ _ _ 84 _ _ _ _
      refine V_aload_n (pc := 84) dX11_line_84 rfl ?_
      refine V_getR (pc := 85) fX11_47 sC0 rfl dX11_line_85 ?_
      refine V_getR (pc := 88) fX11_163 sC6 rfl dX11_line_88 ?_
      refine V_iload_n (pc := 91) dX11_line_91 rfl ?_
      refine V_iald (pc := 92) sC30 dX11_line_92 h.1 ?_
      have h := h.2
      exact V_iret dX11_line_93 rfl h
    · have h := h.2.2.2.1 c
      show V _ _ _ _ 94 _ _ _ _
      refine V_aload_n (pc := 94) dX11_line_94 rfl ?_
      refine V_getR (pc := 95) fX11_47 sC0 rfl dX11_line_95 ?_
      refine V_getR (pc := 98) fX11_166 sC6 rfl dX11_line_98 ?_
      refine V_iload_n (pc := 101) dX11_line_101 rfl ?_
      refine V_iald (pc := 102) sC31 dX11_line_102 h.1 ?_
      have h := h.2
      exact V_iret dX11_line_103 rfl h
    · have h := h.2.2.2.2.1 c
      show V _ _ _ _ 104 _ _ _ _
      refine V_aload_n (pc := 104) dX11_line_104 rfl ?_
      refine V_getR (pc := 105) fX11_47 sC0 rfl dX11_line_105 ?_
      refine V_getR (pc := 108) fX11_169 sC6 rfl dX11_line_108 ?_
      refine V_iload_n (pc := 111) dX11_line_111 rfl ?_
      refine V_iald (pc := 112) sC32 dX11_line_112 h.1 ?_
      have h := h.2
      exact V_iret dX11_line_113 rfl h
    · have h := h.2.2.2.2.2.1 c
      show V _ _ _ _ 114 _ _ _ _
      refine V_aload_n (pc := 114) dX11_line_114 rfl ?_
      refine V_getR (pc := 115) fX11_47 sC0 rfl dX11_line_115 ?_
      refine V_getR (pc := 118) fX11_172 sC6 rfl dX11_line_118 ?_
      refine V_iload_n (pc := 121) dX11_line_121 rfl ?_
      refine V_iald (pc := 122) sC33 dX11_line_122 h.1 ?_
      have h := h.2
      exact V_iret dX11_line_123 rfl h
    · have h := h.2.2.2.2.2.2.1 c
      show V _ _ _ _ 124 _ _ _ _
      refine V_aload_n (pc := 124) dX11_line_124 rfl ?_
      refine V_getR (pc := 125) fX11_47 sC0 rfl dX11_line_125 ?_
      refine V_getR (pc := 128) fX11_175 sC6 rfl dX11_line_128 ?_
      refine V_iload_n (pc := 131) dX11_line_131 rfl ?_
      refine V_iald (pc := 132) sC34 dX11_line_132 h.1 ?_
      have h := h.2
      exact V_iret dX11_line_133 rfl h
    · have h := h.2.2.2.2.2.2.2.1 c
      show V _ _ _ _ 134 _ _ _ _
      refine V_aload_n (pc := 134) dX11_line_134 rfl ?_
      refine V_iload_n (pc := 135) dX11_line_135 rfl ?_
      refine V_callVi [.int v1] (pc := 136) kX11_isHomeless lX11_178 sC0 rfl rfl (Nat.le_of_ble_eq_true rfl) rfl (Nat.le_of_ble_eq_true rfl) dX11_line_136 ?_
      refine Ci.mono h ?_
      intro x2 M2 h
      refine V_if_eq (tgt := 146) (pc := 139) dX11_line_139 rfl (fun c => ?_) (fun c => ?_)
      · have h := h.1 c
        refine V_iconst (v := 0) (pc := 146) dX11_line_146 rfl ?_
        exact V_iret dX11_line_147 rfl h
      · have h := h.2 c
        refine V_iconst (v := 1) (pc := 142) dX11_line_142 rfl ?_
        refine V_goto (tgt := 147) (pc := 143) dX11_line_143 rfl ?_
        exact V_iret dX11_line_147 rfl h
    · have h := h.2.2.2.2.2.2.2.2.1 c
      show V _ _ _ _ 148 _ _ _ _
      refine V_aload_n (pc := 148) dX11_line_148 rfl ?_
      refine V_getR (pc := 149) fX11_47 sC0 rfl dX11_line_149 ?_
      refine V_getR (pc := 152) fX11_181 sC6 rfl dX11_line_152 ?_
      refine V_getR (pc := 155) fX11_185 sC7 rfl dX11_line_155 ?_
      refine V_iload_n (pc := 158) dX11_line_158 rfl ?_
      refine V_iald (pc := 159) sC38 dX11_line_159 h.1 ?_
      have h := h.2
      exact V_iret dX11_line_160 rfl h
    · have h := h.2.2.2.2.2.2.2.2.2 c
      refine V_ldc (pc := 161) dX11_line_161 nX11_91 ?_
      exact V_iret dX11_line_163 rfl h
  · have h := h.2 c
    refine V_ldc (pc := 8) dX11_line_8 nX11_91 ?_
    exact V_iret dX11_line_10 rfl h
theorem wp_X11_quarrels {G : GV} {k : Nat} {M : Mem} {q : Int32 → Mem → Prop}  (h : Ci shC G mX6_countQuarrels (k + 1) [.ref (G.2.1 4)] M (fun x1 M1 => q x1 M1)) : Ci shC G mX11_quarrels (k + 2) [.ref (G.2.1 0)] M q := by
  unfold Ci
  show V _ _ _ _ _ [(0, .ref (G.2.1 0))] _ _ _
  refine V_aload_n (pc := 0) dX11_quarrels_0 rfl ?_
  refine V_getR (pc := 1) fX11_33 sC0 rfl dX11_quarrels_1 ?_
  refine V_callVi [] (pc := 4) kX6_countQuarrels lX11_208 sC4 rfl rfl (Nat.le_of_ble_eq_true rfl) rfl (Nat.le_of_ble_eq_true rfl) dX11_quarrels_4 ?_
  refine Ci.mono h ?_
  intro x1 M1 h
  exact V_iret dX11_quarrels_7 rfl h
theorem wp_X11_today {G : GV} {k : Nat} {M : Mem} {q : Int32 → Mem → Prop} {v1 : Int32} {v2 : Int32} {v3 : Int32} (h : Ci shC G mX11_isPlace (k + 1) [.ref (G.2.1 0), .int v1, .int v2, .int v3] M (fun x1 M1 => ((x1 = 0 → q (-1000001) M1) ∧ (¬ x1 = 0 → Ci shC G mX6_numberToday (k + 1) [.ref (G.2.1 4), .int v1, .int v2, .int v3] M1 (fun x2 M2 => q x2 M2))))) : Ci shC G mX11_today (k + 2) [.ref (G.2.1 0), .int v1, .int v2, .int v3] M q := by
  unfold Ci
  show V _ _ _ _ _ [(0, .ref (G.2.1 0)), (1, .int v1), (2, .int v2), (3, .int v3)] _ _ _
  refine V_aload_n (pc := 0) dX11_today_0 rfl ?_
  refine V_iload_n (pc := 1) dX11_today_1 rfl ?_
  refine V_iload_n (pc := 2) dX11_today_2 rfl ?_
  refine V_iload_n (pc := 3) dX11_today_3 rfl ?_
  refine V_callVi [.int v1, .int v2, .int v3] (pc := 4) kX11_isPlace lX11_202 sC0 rfl rfl (Nat.le_of_ble_eq_true rfl) rfl (Nat.le_of_ble_eq_true rfl) dX11_today_4 ?_
  refine Ci.mono h ?_
  intro x1 M1 h
  refine V_if_eq (tgt := 23) (pc := 7) dX11_today_7 rfl (fun c => ?_) (fun c => ?_)
  · have h := h.1 c
    refine V_ldc (pc := 23) dX11_today_23 nX11_91 ?_
    exact V_iret dX11_today_25 rfl h
  · have h := h.2 c
    refine V_aload_n (pc := 10) dX11_today_10 rfl ?_
    refine V_getR (pc := 11) fX11_33 sC0 rfl dX11_today_11 ?_
    refine V_iload_n (pc := 14) dX11_today_14 rfl ?_
    refine V_iload_n (pc := 15) dX11_today_15 rfl ?_
    refine V_iload_n (pc := 16) dX11_today_16 rfl ?_
    refine V_callVi [.int v1, .int v2, .int v3] (pc := 17) kX6_numberToday lX11_205 sC4 rfl rfl (Nat.le_of_ble_eq_true rfl) rfl (Nat.le_of_ble_eq_true rfl) dX11_today_17 ?_
    refine Ci.mono h ?_
    intro x2 M2 h
    refine V_goto (tgt := 25) (pc := 20) dX11_today_20 rfl ?_
    exact V_iret dX11_today_25 rfl h
theorem wp_X11_walkEnd {G : GV} {k : Nat} {M : Mem} {q : Int32 → Mem → Prop} {v1 : Int32} {v2 : Int32} (h : Ci shC G mX9_item (k + 1) [.ref (G.2.1 1), .int v1, .int v2] M (fun x1 M1 => Ci shC G mX9_item (k + 1) [.ref (G.2.1 1), .int v1, .int (v2 + 1)] M1 (fun x2 M2 => Ci shC G mX9_item (k + 1) [.ref (G.2.1 1), .int v1, .int (v2 + 2)] M2 (fun x3 M3 => Ci shC G mX11_isPlace (k + 1) [.ref (G.2.1 0), .int x1, .int x2, .int x3] M3 (fun x4 M4 => ((x4 ≠ 0 → Ci shC G mX6_numberToday (k + 1) [.ref (G.2.1 4), .int x1, .int x2, .int x3] M4 (fun x5 M5 => q ((x1 * 100) + x5) M5)) ∧ (x4 = 0 → q (-1000001) M4))))))) : Ci shC G mX11_walkEnd (k + 2) [.ref (G.2.1 0), .int v1, .int v2] M q := by
  unfold Ci
  show V _ _ _ _ _ [(0, .ref (G.2.1 0)), (1, .int v1), (2, .int v2)] _ _ _
  refine V_aload_n (pc := 0) dX11_walkEnd_0 rfl ?_
  refine V_getR (pc := 1) fX11_10 sC0 rfl dX11_walkEnd_1 ?_
  refine V_iload_n (pc := 4) dX11_walkEnd_4 rfl ?_
  refine V_iload_n (pc := 5) dX11_walkEnd_5 rfl ?_
  refine V_callVi [.int v1, .int v2] (pc := 6) kX9_item lX11_337 sC1 rfl rfl (Nat.le_of_ble_eq_true rfl) rfl (Nat.le_of_ble_eq_true rfl) dX11_walkEnd_6 ?_
  refine Ci.mono h ?_
  intro x1 M1 h
  refine V_istore_n (pc := 9) dX11_walkEnd_9 (by decide) ?_
  refine V_aload_n (pc := 10) dX11_walkEnd_10 rfl ?_
  refine V_getR (pc := 11) fX11_10 sC0 rfl dX11_walkEnd_11 ?_
  refine V_iload_n (pc := 14) dX11_walkEnd_14 rfl ?_
  refine V_iload_n (pc := 15) dX11_walkEnd_15 rfl ?_
  refine V_iconst (v := 1) (pc := 16) dX11_walkEnd_16 rfl ?_
  refine V_iadd (pc := 17) dX11_walkEnd_17 ?_
  refine V_callVi [.int v1, .int (v2 + 1)] (pc := 18) kX9_item lX11_337 sC1 rfl rfl (Nat.le_of_ble_eq_true rfl) rfl (Nat.le_of_ble_eq_true rfl) dX11_walkEnd_18 ?_
  refine Ci.mono h ?_
  intro x2 M2 h
  refine V_istore (pc := 21) dX11_walkEnd_21 (by decide) ?_
  refine V_aload_n (pc := 23) dX11_walkEnd_23 rfl ?_
  refine V_getR (pc := 24) fX11_10 sC0 rfl dX11_walkEnd_24 ?_
  refine V_iload_n (pc := 27) dX11_walkEnd_27 rfl ?_
  refine V_iload_n (pc := 28) dX11_walkEnd_28 rfl ?_
  refine V_iconst (v := 2) (pc := 29) dX11_walkEnd_29 rfl ?_
  refine V_iadd (pc := 30) dX11_walkEnd_30 ?_
  refine V_callVi [.int v1, .int (v2 + 2)] (pc := 31) kX9_item lX11_337 sC1 rfl rfl (Nat.le_of_ble_eq_true rfl) rfl (Nat.le_of_ble_eq_true rfl) dX11_walkEnd_31 ?_
  refine Ci.mono h ?_
  intro x3 M3 h
  refine V_istore (pc := 34) dX11_walkEnd_34 (by decide) ?_
  refine V_aload_n (pc := 36) dX11_walkEnd_36 rfl ?_
  refine V_iload_n (pc := 37) dX11_walkEnd_37 rfl ?_
  refine V_iload (pc := 38) dX11_walkEnd_38 rfl ?_
  refine V_iload (pc := 40) dX11_walkEnd_40 rfl ?_
  refine V_callVi [.int x1, .int x2, .int x3] (pc := 42) kX11_isPlace lX11_202 sC0 rfl rfl (Nat.le_of_ble_eq_true rfl) rfl (Nat.le_of_ble_eq_true rfl) dX11_walkEnd_42 ?_
  refine Ci.mono h ?_
  intro x4 M4 h
  refine V_if_ne (tgt := 51) (pc := 45) dX11_walkEnd_45 rfl (fun c => ?_) (fun c => ?_)
  · have h := h.1 c
    refine V_iload_n (pc := 51) dX11_walkEnd_51 rfl ?_
    refine V_bipush (v := 100) (pc := 52) dX11_walkEnd_52 rfl ?_
    refine V_imul (pc := 54) dX11_walkEnd_54 ?_
    refine V_aload_n (pc := 55) dX11_walkEnd_55 rfl ?_
    refine V_getR (pc := 56) fX11_33 sC0 rfl dX11_walkEnd_56 ?_
    refine V_iload_n (pc := 59) dX11_walkEnd_59 rfl ?_
    refine V_iload (pc := 60) dX11_walkEnd_60 rfl ?_
    refine V_iload (pc := 62) dX11_walkEnd_62 rfl ?_
    refine V_callVi [.int x1, .int x2, .int x3] (pc := 64) kX6_numberToday lX11_205 sC4 rfl rfl (Nat.le_of_ble_eq_true rfl) rfl (Nat.le_of_ble_eq_true rfl) dX11_walkEnd_64 ?_
    refine Ci.mono h ?_
    intro x5 M5 h
    refine V_iadd (pc := 67) dX11_walkEnd_67 ?_
    exact V_iret dX11_walkEnd_68 rfl h
  · have h := h.2 c
    refine V_ldc (pc := 48) dX11_walkEnd_48 nX11_91 ?_
    exact V_iret dX11_walkEnd_50 rfl h
theorem wp_X11_alike {G : GV} {k : Nat} {M : Mem} {q : Int32 → Mem → Prop} {v1 : Int32} {v2 : Int32} {v3 : Int32} (h : Ci shC G mX11_noLine (k + 2) [.ref (G.2.1 0), .int v1] M (fun x1 M1 => ((x1 ≠ 0 → q (-1000001) M1) ∧ (x1 = 0 → Ci shC G mX11_noLine (k + 2) [.ref (G.2.1 0), .int v2] M1 (fun x2 M2 => ((x2 = 0 → (((v3).toInt = 0 → Ci shC G mX5_hand (k + 2) [.ref (G.2.1 7), .int v1, .int v2] M2 (fun x3 M3 => q x3 M3)) ∧ ((v3).toInt = 1 → Ci shC G mX5_areLike (k + 2) [.ref (G.2.1 7), .int v1, .int v2] M2 (fun x4 M4 => ((x4 = 0 → q 0 M4) ∧ (¬ x4 = 0 → q 1 M4)))) ∧ ((v3).toInt = 2 → Ci shC G mX3_mayBeOne (k + 2) [.ref (G.2.1 6), .int v1, .int v2] M2 (fun x5 M5 => ((x5 = 0 → q 0 M5) ∧ (¬ x5 = 0 → q 1 M5)))) ∧ (((v3).toInt < 0 ∨ 2 < (v3).toInt) → q (-1000001) M2))) ∧ (¬ x2 = 0 → q (-1000001) M2))))))) : Ci shC G mX11_alike (k + 3) [.ref (G.2.1 0), .int v1, .int v2, .int v3] M q := by
  unfold Ci
  show V _ _ _ _ _ [(0, .ref (G.2.1 0)), (1, .int v1), (2, .int v2), (3, .int v3)] _ _ _
  refine V_aload_n (pc := 0) dX11_alike_0 rfl ?_
  refine V_iload_n (pc := 1) dX11_alike_1 rfl ?_
  refine V_callVi [.int v1] (pc := 2) kX11_noLine lX11_154 sC0 rfl rfl (Nat.le_of_ble_eq_true rfl) rfl (Nat.le_of_ble_eq_true rfl) dX11_alike_2 ?_
  refine Ci.mono h ?_
  intro x1 M1 h
  refine V_if_ne (tgt := 16) (pc := 5) dX11_alike_5 rfl (fun c => ?_) (fun c => ?_)
  · have h := h.1 c
    refine V_ldc (pc := 16) dX11_alike_16 nX11_91 ?_
    exact V_iret dX11_alike_18 rfl h
  · have h := h.2 c
    refine V_aload_n (pc := 8) dX11_alike_8 rfl ?_
    refine V_iload_n (pc := 9) dX11_alike_9 rfl ?_
    refine V_callVi [.int v2] (pc := 10) kX11_noLine lX11_154 sC0 rfl rfl (Nat.le_of_ble_eq_true rfl) rfl (Nat.le_of_ble_eq_true rfl) dX11_alike_10 ?_
    refine Ci.mono h ?_
    intro x2 M2 h
    refine V_if_eq (tgt := 19) (pc := 13) dX11_alike_13 rfl (fun c => ?_) (fun c => ?_)
    · have h := h.1 c
      refine V_iload_n (pc := 19) dX11_alike_19 rfl ?_
      refine V_table (tgt := 100) (pc := 20) dX11_alike_20 rfl rfl rfl ⟨fun c => ?_, fun c => ?_, fun c => ?_, trivial⟩ (fun c => ?_)
      · have h := h.1 c
        show V _ _ _ _ 48 _ _ _ _
        refine V_aload_n (pc := 48) dX11_alike_48 rfl ?_
        refine V_getR (pc := 49) fX11_47 sC0 rfl dX11_alike_49 ?_
        refine V_getR (pc := 52) fX11_181 sC6 rfl dX11_alike_52 ?_
        refine V_iload_n (pc := 55) dX11_alike_55 rfl ?_
        refine V_iload_n (pc := 56) dX11_alike_56 rfl ?_
        refine V_callVi [.int v1, .int v2] (pc := 57) kX5_hand lX11_192 sC7 rfl rfl (Nat.le_of_ble_eq_true rfl) rfl (Nat.le_of_ble_eq_true rfl) dX11_alike_57 ?_
        refine Ci.mono h ?_
        intro x3 M3 h
        exact V_iret dX11_alike_60 rfl h
      · have h := h.2.1 c
        show V _ _ _ _ 61 _ _ _ _
        refine V_aload_n (pc := 61) dX11_alike_61 rfl ?_
        refine V_getR (pc := 62) fX11_47 sC0 rfl dX11_alike_62 ?_
        refine V_getR (pc := 65) fX11_181 sC6 rfl dX11_alike_65 ?_
        refine V_iload_n (pc := 68) dX11_alike_68 rfl ?_
        refine V_iload_n (pc := 69) dX11_alike_69 rfl ?_
        refine V_callVi [.int v1, .int v2] (pc := 70) kX5_areLike lX11_196 sC7 rfl rfl (Nat.le_of_ble_eq_true rfl) rfl (Nat.le_of_ble_eq_true rfl) dX11_alike_70 ?_
        refine Ci.mono h ?_
        intro x4 M4 h
        refine V_if_eq (tgt := 80) (pc := 73) dX11_alike_73 rfl (fun c => ?_) (fun c => ?_)
        · have h := h.1 c
          refine V_iconst (v := 0) (pc := 80) dX11_alike_80 rfl ?_
          exact V_iret dX11_alike_81 rfl h
        · have h := h.2 c
          refine V_iconst (v := 1) (pc := 76) dX11_alike_76 rfl ?_
          refine V_goto (tgt := 81) (pc := 77) dX11_alike_77 rfl ?_
          exact V_iret dX11_alike_81 rfl h
      · have h := h.2.2.1 c
        show V _ _ _ _ 82 _ _ _ _
        refine V_aload_n (pc := 82) dX11_alike_82 rfl ?_
        refine V_getR (pc := 83) fX11_47 sC0 rfl dX11_alike_83 ?_
        refine V_iload_n (pc := 86) dX11_alike_86 rfl ?_
        refine V_iload_n (pc := 87) dX11_alike_87 rfl ?_
        refine V_callVi [.int v1, .int v2] (pc := 88) kX3_mayBeOne lX11_199 sC6 rfl rfl (Nat.le_of_ble_eq_true rfl) rfl (Nat.le_of_ble_eq_true rfl) dX11_alike_88 ?_
        refine Ci.mono h ?_
        intro x5 M5 h
        refine V_if_eq (tgt := 98) (pc := 91) dX11_alike_91 rfl (fun c => ?_) (fun c => ?_)
        · have h := h.1 c
          refine V_iconst (v := 0) (pc := 98) dX11_alike_98 rfl ?_
          exact V_iret dX11_alike_99 rfl h
        · have h := h.2 c
          refine V_iconst (v := 1) (pc := 94) dX11_alike_94 rfl ?_
          refine V_goto (tgt := 99) (pc := 95) dX11_alike_95 rfl ?_
          exact V_iret dX11_alike_99 rfl h
      · have h := h.2.2.2 c
        refine V_ldc (pc := 100) dX11_alike_100 nX11_91 ?_
        exact V_iret dX11_alike_102 rfl h
    · have h := h.2 c
      refine V_ldc (pc := 16) dX11_alike_16 nX11_91 ?_
      exact V_iret dX11_alike_18 rfl h
theorem wp_X11_count {G : GV} {k : Nat} {M : Mem} {q : Int32 → Mem → Prop} {v1 : Int32} (h : (((v1).toInt = 0 → Ci shC G mX9_countLaid (k + 2) [.ref (G.2.1 1)] M (fun x1 M1 => q x1 M1)) ∧ ((v1).toInt = 1 → q (M.1 3 3) M) ∧ ((v1).toInt = 2 → q (M.1 6 8) M) ∧ ((v1).toInt = 3 → q (M.1 4 4) M) ∧ ((v1).toInt = 4 → q (M.1 5 4) M) ∧ ((v1).toInt = 5 → Ci shC G mX3_countHomes (k + 2) [.ref (G.2.1 6)] M (fun x2 M2 => q x2 M2)) ∧ ((v1).toInt = 6 → Ci shC G mX11_countHomeless (k + 2) [.ref (G.2.1 0)] M (fun x3 M3 => q x3 M3)) ∧ ((v1).toInt = 7 → q (M.1 2 1) M) ∧ (((v1).toInt < 0 ∨ 7 < (v1).toInt) → q (-1000001) M))) : Ci shC G mX11_count (k + 3) [.ref (G.2.1 0), .int v1] M q := by
  unfold Ci
  show V _ _ _ _ _ [(0, .ref (G.2.1 0)), (1, .int v1)] _ _ _
  refine V_iload_n (pc := 0) dX11_count_0 rfl ?_
  refine V_table (tgt := 109) (pc := 1) dX11_count_1 rfl rfl rfl ⟨fun c => ?_, fun c => ?_, fun c => ?_, fun c => ?_, fun c => ?_, fun c => ?_, fun c => ?_, fun c => ?_, trivial⟩ (fun c => ?_)
  · have h := h.1 c
    show V _ _ _ _ 48 _ _ _ _
    refine V_aload_n (pc := 48) dX11_count_48 rfl ?_
    refine V_getR (pc := 49) fX11_10 sC0 rfl dX11_count_49 ?_
    refine V_callVi [] (pc := 52) kX9_countLaid lX11_306 sC1 rfl rfl (Nat.le_of_ble_eq_true rfl) rfl (Nat.le_of_ble_eq_true rfl) dX11_count_52 ?_
    refine Ci.mono h ?_
    intro x1 M1 h
    exact V_iret dX11_count_55 rfl h
  · have h := h.2.1 c
    show V _ _ _ _ 56 _ _ _ _
    refine V_aload_n (pc := 56) dX11_count_56 rfl ?_
    refine V_getR (pc := 57) fX11_26 sC0 rfl dX11_count_57 ?_
    refine V_getI (pc := 60) fX11_283 sC3 rfl dX11_count_60 ?_
    exact V_iret dX11_count_63 rfl h
  · have h := h.2.2.1 c
    show V _ _ _ _ 64 _ _ _ _
    refine V_aload_n (pc := 64) dX11_count_64 rfl ?_
    refine V_getR (pc := 65) fX11_47 sC0 rfl dX11_count_65 ?_
    refine V_getI (pc := 68) fX11_151 sC6 rfl dX11_count_68 ?_
    exact V_iret dX11_count_71 rfl h
  · have h := h.2.2.2.1 c
    show V _ _ _ _ 72 _ _ _ _
    refine V_aload_n (pc := 72) dX11_count_72 rfl ?_
    refine V_getR (pc := 73) fX11_33 sC0 rfl dX11_count_73 ?_
    refine V_getI (pc := 76) fX11_309 sC4 rfl dX11_count_76 ?_
    exact V_iret dX11_count_79 rfl h
  · have h := h.2.2.2.2.1 c
    show V _ _ _ _ 80 _ _ _ _
    refine V_aload_n (pc := 80) dX11_count_80 rfl ?_
    refine V_getR (pc := 81) fX11_40 sC0 rfl dX11_count_81 ?_
    refine V_getI (pc := 84) fX11_310 sC5 rfl dX11_count_84 ?_
    exact V_iret dX11_count_87 rfl h
  · have h := h.2.2.2.2.2.1 c
    show V _ _ _ _ 88 _ _ _ _
    refine V_aload_n (pc := 88) dX11_count_88 rfl ?_
    refine V_getR (pc := 89) fX11_47 sC0 rfl dX11_count_89 ?_
    refine V_callVi [] (pc := 92) kX3_countHomes lX11_311 sC6 rfl rfl (Nat.le_of_ble_eq_true rfl) rfl (Nat.le_of_ble_eq_true rfl) dX11_count_92 ?_
    refine Ci.mono h ?_
    intro x2 M2 h
    exact V_iret dX11_count_95 rfl h
  · have h := h.2.2.2.2.2.2.1 c
    show V _ _ _ _ 96 _ _ _ _
    refine V_aload_n (pc := 96) dX11_count_96 rfl ?_
    refine V_callVi [] (pc := 97) kX11_countHomeless lX11_314 sC0 rfl rfl (Nat.le_of_ble_eq_true rfl) rfl (Nat.le_of_ble_eq_true rfl) dX11_count_97 ?_
    refine Ci.mono h ?_
    intro x3 M3 h
    exact V_iret dX11_count_100 rfl h
  · have h := h.2.2.2.2.2.2.2.1 c
    show V _ _ _ _ 101 _ _ _ _
    refine V_aload_n (pc := 101) dX11_count_101 rfl ?_
    refine V_getR (pc := 102) fX11_19 sC0 rfl dX11_count_102 ?_
    refine V_getI (pc := 105) fX11_125 sC2 rfl dX11_count_105 ?_
    exact V_iret dX11_count_108 rfl h
  · have h := h.2.2.2.2.2.2.2.2 c
    refine V_ldc (pc := 109) dX11_count_109 nX11_91 ?_
    exact V_iret dX11_count_111 rfl h
theorem wp_X11_missing {G : GV} {k : Nat} {M : Mem} {q : Int32 → Mem → Prop} {v1 : Int32} {v2 : Int32} {v3 : Int32} (h : Ci shC G mX11_noBook (k + 2) [.ref (G.2.1 0), .int v1] M (fun x1 M1 => ((x1 ≠ 0 → q (-1000001) M1) ∧ (x1 = 0 → Ci shC G mX11_noBook (k + 2) [.ref (G.2.1 0), .int v2] M1 (fun x2 M2 => ((x2 ≠ 0 → q (-1000001) M2) ∧ (x2 = 0 → ((v1 = v2 → q (-1000001) M2) ∧ (¬ v1 = v2 → ((v3 < 0 → q (-1000001) M2) ∧ (¬ v3 < 0 → ((v3 ≤ 2 → Ci shC G mX3_countOfBook (k + 2) [.ref (G.2.1 6), .int v1] M2 (fun x3 M3 => Ci shC G mX3_countOfBook (k + 2) [.ref (G.2.1 6), .int v2] M3 (fun x4 M4 => Ci shC G mX3_countInBoth (k + 2) [.ref (G.2.1 6), .int v1, .int v2] M4 (fun x5 M5 => (((v3).toInt = 0 → ((x5 ≠ 0 → ¬ x5 = 0 ∧ q ((x3 * x4) / x5) M5) ∧ (x5 = 0 → q (-1000000) M5))) ∧ ((v3).toInt = 1 → q ((x3 + x4) - x5) M5) ∧ (([((0, 27) : Int × Int), ((1, 46) : Int × Int)].all (fun q => decide ((v3).toInt ≠ q.1)) = true) → q x5 M5)))))) ∧ (¬ v3 ≤ 2 → q (-1000001) M2))))))))))))) : Ci shC G mX11_missing (k + 3) [.ref (G.2.1 0), .int v1, .int v2, .int v3] M q := by
  unfold Ci
  show V _ _ _ _ _ [(0, .ref (G.2.1 0)), (1, .int v1), (2, .int v2), (3, .int v3)] _ _ _
  refine V_aload_n (pc := 0) dX11_missing_0 rfl ?_
  refine V_iload_n (pc := 1) dX11_missing_1 rfl ?_
  refine V_callVi [.int v1] (pc := 2) kX11_noBook lX11_270 sC0 rfl rfl (Nat.le_of_ble_eq_true rfl) rfl (Nat.le_of_ble_eq_true rfl) dX11_missing_2 ?_
  refine Ci.mono h ?_
  intro x1 M1 h
  refine V_if_ne (tgt := 30) (pc := 5) dX11_missing_5 rfl (fun c => ?_) (fun c => ?_)
  · have h := h.1 c
    refine V_ldc (pc := 30) dX11_missing_30 nX11_91 ?_
    exact V_iret dX11_missing_32 rfl h
  · have h := h.2 c
    refine V_aload_n (pc := 8) dX11_missing_8 rfl ?_
    refine V_iload_n (pc := 9) dX11_missing_9 rfl ?_
    refine V_callVi [.int v2] (pc := 10) kX11_noBook lX11_270 sC0 rfl rfl (Nat.le_of_ble_eq_true rfl) rfl (Nat.le_of_ble_eq_true rfl) dX11_missing_10 ?_
    refine Ci.mono h ?_
    intro x2 M2 h
    refine V_if_ne (tgt := 30) (pc := 13) dX11_missing_13 rfl (fun c => ?_) (fun c => ?_)
    · have h := h.1 c
      refine V_ldc (pc := 30) dX11_missing_30 nX11_91 ?_
      exact V_iret dX11_missing_32 rfl h
    · have h := h.2 c
      refine V_iload_n (pc := 16) dX11_missing_16 rfl ?_
      refine V_iload_n (pc := 17) dX11_missing_17 rfl ?_
      refine V_icmp_eq (tgt := 30) (pc := 18) dX11_missing_18 rfl (fun c => ?_) (fun c => ?_)
      · have h := h.1 c
        refine V_ldc (pc := 30) dX11_missing_30 nX11_91 ?_
        exact V_iret dX11_missing_32 rfl h
      · have h := h.2 c
        refine V_iload_n (pc := 21) dX11_missing_21 rfl ?_
        refine V_if_lt (tgt := 30) (pc := 22) dX11_missing_22 rfl (fun c => ?_) (fun c => ?_)
        · have h := h.1 c
          refine V_ldc (pc := 30) dX11_missing_30 nX11_91 ?_
          exact V_iret dX11_missing_32 rfl h
        · have h := h.2 c
          refine V_iload_n (pc := 25) dX11_missing_25 rfl ?_
          refine V_iconst (v := 2) (pc := 26) dX11_missing_26 rfl ?_
          refine V_icmp_le (tgt := 33) (pc := 27) dX11_missing_27 rfl (fun c => ?_) (fun c => ?_)
          · have h := h.1 c
            refine V_aload_n (pc := 33) dX11_missing_33 rfl ?_
            refine V_getR (pc := 34) fX11_47 sC0 rfl dX11_missing_34 ?_
            refine V_iload_n (pc := 37) dX11_missing_37 rfl ?_
            refine V_callVi [.int v1] (pc := 38) kX3_countOfBook lX11_273 sC6 rfl rfl (Nat.le_of_ble_eq_true rfl) rfl (Nat.le_of_ble_eq_true rfl) dX11_missing_38 ?_
            refine Ci.mono h ?_
            intro x3 M3 h
            refine V_istore (pc := 41) dX11_missing_41 (by decide) ?_
            refine V_aload_n (pc := 43) dX11_missing_43 rfl ?_
            refine V_getR (pc := 44) fX11_47 sC0 rfl dX11_missing_44 ?_
            refine V_iload_n (pc := 47) dX11_missing_47 rfl ?_
            refine V_callVi [.int v2] (pc := 48) kX3_countOfBook lX11_273 sC6 rfl rfl (Nat.le_of_ble_eq_true rfl) rfl (Nat.le_of_ble_eq_true rfl) dX11_missing_48 ?_
            refine Ci.mono h ?_
            intro x4 M4 h
            refine V_istore (pc := 51) dX11_missing_51 (by decide) ?_
            refine V_aload_n (pc := 53) dX11_missing_53 rfl ?_
            refine V_getR (pc := 54) fX11_47 sC0 rfl dX11_missing_54 ?_
            refine V_iload_n (pc := 57) dX11_missing_57 rfl ?_
            refine V_iload_n (pc := 58) dX11_missing_58 rfl ?_
            refine V_callVi [.int v1, .int v2] (pc := 59) kX3_countInBoth lX11_276 sC6 rfl rfl (Nat.le_of_ble_eq_true rfl) rfl (Nat.le_of_ble_eq_true rfl) dX11_missing_59 ?_
            refine Ci.mono h ?_
            intro x5 M5 h
            refine V_istore (pc := 62) dX11_missing_62 (by decide) ?_
            refine V_iload_n (pc := 64) dX11_missing_64 rfl ?_
            refine V_lookup (tgt := 120) (pc := 65) dX11_missing_65 rfl rfl rfl ⟨fun c => ?_, fun c => ?_, trivial⟩ (fun c => ?_)
            · have h := h.1 c
              show V _ _ _ _ 92 _ _ _ _
              refine V_iload (pc := 92) dX11_missing_92 rfl ?_
              refine V_if_ne (tgt := 102) (pc := 94) dX11_missing_94 rfl (fun c => ?_) (fun c => ?_)
              · have h := h.1 c
                refine V_iload (pc := 102) dX11_missing_102 rfl ?_
                refine V_iload (pc := 104) dX11_missing_104 rfl ?_
                refine V_imul (pc := 106) dX11_missing_106 ?_
                refine V_iload (pc := 107) dX11_missing_107 rfl ?_
                refine V_idiv (pc := 109) dX11_missing_109 h.1 ?_
                have h := h.2
                exact V_iret dX11_missing_110 rfl h
              · have h := h.2 c
                refine V_ldc (pc := 97) dX11_missing_97 nX11_238 ?_
                refine V_goto (tgt := 110) (pc := 99) dX11_missing_99 rfl ?_
                exact V_iret dX11_missing_110 rfl h
            · have h := h.2.1 c
              show V _ _ _ _ 111 _ _ _ _
              refine V_iload (pc := 111) dX11_missing_111 rfl ?_
              refine V_iload (pc := 113) dX11_missing_113 rfl ?_
              refine V_iadd (pc := 115) dX11_missing_115 ?_
              refine V_iload (pc := 116) dX11_missing_116 rfl ?_
              refine V_isub (pc := 118) dX11_missing_118 ?_
              exact V_iret dX11_missing_119 rfl h
            · have h := h.2.2 c
              refine V_iload (pc := 120) dX11_missing_120 rfl ?_
              exact V_iret dX11_missing_122 rfl h
          · have h := h.2 c
            refine V_ldc (pc := 30) dX11_missing_30 nX11_91 ?_
            exact V_iret dX11_missing_32 rfl h
theorem wp_X11_next {G : GV} {k : Nat} {M : Mem} {q : Int32 → Mem → Prop}  (h : V shC G mX11_next (k + 3) 7 [(0, .ref (G.2.1 0)), (1, .int (-1000000)), (2, .int (-1)), (3, .int 0)] [] M (Qi q)) : Ci shC G mX11_next (k + 3) [.ref (G.2.1 0)] M q := by
  unfold Ci
  show V _ _ _ _ _ [(0, .ref (G.2.1 0))] _ _ _
  refine V_ldc (pc := 0) dX11_next_0 nX11_238 ?_
  refine V_istore_n (pc := 2) dX11_next_2 (by decide) ?_
  refine V_iconst (v := (-1)) (pc := 3) dX11_next_3 rfl ?_
  refine V_istore_n (pc := 4) dX11_next_4 (by decide) ?_
  refine V_iconst (v := 0) (pc := 5) dX11_next_5 rfl ?_
  refine V_istore_n (pc := 6) dX11_next_6 (by decide) ?_
  exact V_sub h ⟨rfl, rfl, rfl, rfl, trivial⟩
theorem wp_X11_next_7 {G : GV} {k : Nat} {M : Mem} {q : Int32 → Mem → Prop} {v1 : Int32} {v2 : Int32} {v3 : Int32} (h : (((M.1 3 3) ≤ v3 → q v1 M) ∧ (¬ (M.1 3 3) ≤ v3 → vp_in v3 10 ∧ (((M.1 19 (ix v3)) = 0 → Ci shC G mX3_countUnseen (k + 2) [.ref (G.2.1 6), .int v3, .ref (G.2.1 3)] M (fun x1 M1 => Ci shC G mX1_worth (k + 2) [.ref (G.2.1 3), .int v3, .int x1] M1 (fun x2 M2 => ((x2 ≤ v2 → V shC G mX11_next (k + 3) 7 [(0, .ref (G.2.1 0)), (1, .int v1), (2, .int v2), (3, .int (v3 + 1))] [] M2 (Qi q)) ∧ (¬ x2 ≤ v2 → V shC G mX11_next (k + 3) 7 [(0, .ref (G.2.1 0)), (1, .int v3), (2, .int x2), (3, .int (v3 + 1))] [] M2 (Qi q)))))) ∧ (¬ (M.1 19 (ix v3)) = 0 → V shC G mX11_next (k + 3) 7 [(0, .ref (G.2.1 0)), (1, .int v1), (2, .int v2), (3, .int (v3 + 1))] [] M (Qi q)))))) : V shC G mX11_next (k + 3) 7 [(0, .ref (G.2.1 0)), (1, .int v1), (2, .int v2), (3, .int v3)] [] M (Qi q) := by
  refine V_iload_n (pc := 7) dX11_next_7 rfl ?_
  refine V_aload_n (pc := 8) dX11_next_8 rfl ?_
  refine V_getR (pc := 9) fX11_26 sC0 rfl dX11_next_9 ?_
  refine V_getI (pc := 12) fX11_283 sC3 rfl dX11_next_12 ?_
  refine V_icmp_ge (tgt := 72) (pc := 15) dX11_next_15 rfl (fun c => ?_) (fun c => ?_)
  · have h := h.1 c
    refine V_iload_n (pc := 72) dX11_next_72 rfl ?_
    exact V_iret dX11_next_73 rfl h
  · have h := h.2 c
    refine V_aload_n (pc := 18) dX11_next_18 rfl ?_
    refine V_getR (pc := 19) fX11_26 sC0 rfl dX11_next_19 ?_
    refine V_getR (pc := 22) fX11_279 sC3 rfl dX11_next_22 ?_
    refine V_iload_n (pc := 25) dX11_next_25 rfl ?_
    refine V_zald (pc := 26) sC19 dX11_next_26 h.1 ?_
    have h := h.2
    refine V_if_eq (tgt := 33) (pc := 27) dX11_next_27 rfl (fun c => ?_) (fun c => ?_)
    · have h := h.1 c
      refine V_aload_n (pc := 33) dX11_next_33 rfl ?_
      refine V_getR (pc := 34) fX11_26 sC0 rfl dX11_next_34 ?_
      refine V_iload_n (pc := 37) dX11_next_37 rfl ?_
      refine V_aload_n (pc := 38) dX11_next_38 rfl ?_
      refine V_getR (pc := 39) fX11_47 sC0 rfl dX11_next_39 ?_
      refine V_iload_n (pc := 42) dX11_next_42 rfl ?_
      refine V_aload_n (pc := 43) dX11_next_43 rfl ?_
      refine V_getR (pc := 44) fX11_26 sC0 rfl dX11_next_44 ?_
      refine V_callVi [.int v3, .ref (G.2.1 3)] (pc := 47) kX3_countUnseen lX11_284 sC6 rfl rfl (Nat.le_of_ble_eq_true rfl) rfl (Nat.le_of_ble_eq_true rfl) dX11_next_47 ?_
      refine Ci.mono h ?_
      intro x1 M1 h
      refine V_callVi [.int v3, .int x1] (pc := 50) kX1_worth lX11_288 sC3 rfl rfl (Nat.le_of_ble_eq_true rfl) rfl (Nat.le_of_ble_eq_true rfl) dX11_next_50 ?_
      refine Ci.mono h ?_
      intro x2 M2 h
      refine V_istore (pc := 53) dX11_next_53 (by decide) ?_
      refine V_iload (pc := 55) dX11_next_55 rfl ?_
      refine V_iload_n (pc := 57) dX11_next_57 rfl ?_
      refine V_icmp_le (tgt := 66) (pc := 58) dX11_next_58 rfl (fun c => ?_) (fun c => ?_)
      · have h := h.1 c
        refine V_iinc (pc := 66) dX11_next_66 rfl (by decide) ?_
        refine V_goto (tgt := 7) (pc := 69) dX11_next_69 rfl ?_
        exact V_sub h ⟨rfl, rfl, rfl, rfl, trivial⟩
      · have h := h.2 c
        refine V_iload (pc := 61) dX11_next_61 rfl ?_
        refine V_istore_n (pc := 63) dX11_next_63 (by decide) ?_
        refine V_iload_n (pc := 64) dX11_next_64 rfl ?_
        refine V_istore_n (pc := 65) dX11_next_65 (by decide) ?_
        refine V_iinc (pc := 66) dX11_next_66 rfl (by decide) ?_
        refine V_goto (tgt := 7) (pc := 69) dX11_next_69 rfl ?_
        exact V_sub h ⟨rfl, rfl, rfl, rfl, trivial⟩
    · have h := h.2 c
      refine V_goto (tgt := 66) (pc := 30) dX11_next_30 rfl ?_
      refine V_iinc (pc := 66) dX11_next_66 rfl (by decide) ?_
      refine V_goto (tgt := 7) (pc := 69) dX11_next_69 rfl ?_
      exact V_sub h ⟨rfl, rfl, rfl, rfl, trivial⟩
theorem wp_X11_walks {G : GV} {k : Nat} {M : Mem} {q : Int32 → Mem → Prop} {v1 : Int32} {v2 : Int32} {v3 : Int32} (h : Ci shC G mX11_noSheet (k + 2) [.ref (G.2.1 0), .int v1] M (fun x1 M1 => ((x1 ≠ 0 → q (-1000001) M1) ∧ (x1 = 0 → ((v3 < 1 → q (-1000001) M1) ∧ (¬ v3 < 1 → ((v3 ≤ 20 → Ci shC G mX9_isMissing (k + 2) [.ref (G.2.1 1), .int v1] M1 (fun x2 M2 => ((x2 = 0 → Ci shC G mX9_holds (k + 2) [.ref (G.2.1 1), .int v1, .int v2, .int (3 * v3)] M2 (fun x3 M3 => ((x3 ≠ 0 → V shC G mX11_walks (k + 3) 63 [(0, .ref (G.2.1 0)), (1, .int v1), (2, .int v2), (3, .int v3), (4, .int 0)] [] M3 (Qi q)) ∧ (x3 = 0 → Ci shC G mX11_finding (k + 2) [.ref (G.2.1 0), .int 2] M3 (fun x4 M4 => q x4 M4))))) ∧ (¬ x2 = 0 → Ci shC G mX11_finding (k + 2) [.ref (G.2.1 0), .int 1] M2 (fun x5 M5 => q x5 M5))))) ∧ (¬ v3 ≤ 20 → q (-1000001) M1)))))))) : Ci shC G mX11_walks (k + 3) [.ref (G.2.1 0), .int v1, .int v2, .int v3] M q := by
  unfold Ci
  show V _ _ _ _ _ [(0, .ref (G.2.1 0)), (1, .int v1), (2, .int v2), (3, .int v3)] _ _ _
  refine V_aload_n (pc := 0) dX11_walks_0 rfl ?_
  refine V_iload_n (pc := 1) dX11_walks_1 rfl ?_
  refine V_callVi [.int v1] (pc := 2) kX11_noSheet lX11_87 sC0 rfl rfl (Nat.le_of_ble_eq_true rfl) rfl (Nat.le_of_ble_eq_true rfl) dX11_walks_2 ?_
  refine Ci.mono h ?_
  intro x1 M1 h
  refine V_if_ne (tgt := 19) (pc := 5) dX11_walks_5 rfl (fun c => ?_) (fun c => ?_)
  · have h := h.1 c
    refine V_ldc (pc := 19) dX11_walks_19 nX11_91 ?_
    exact V_iret dX11_walks_21 rfl h
  · have h := h.2 c
    refine V_iload_n (pc := 8) dX11_walks_8 rfl ?_
    refine V_iconst (v := 1) (pc := 9) dX11_walks_9 rfl ?_
    refine V_icmp_lt (tgt := 19) (pc := 10) dX11_walks_10 rfl (fun c => ?_) (fun c => ?_)
    · have h := h.1 c
      refine V_ldc (pc := 19) dX11_walks_19 nX11_91 ?_
      exact V_iret dX11_walks_21 rfl h
    · have h := h.2 c
      refine V_iload_n (pc := 13) dX11_walks_13 rfl ?_
      refine V_bipush (v := 20) (pc := 14) dX11_walks_14 rfl ?_
      refine V_icmp_le (tgt := 22) (pc := 16) dX11_walks_16 rfl (fun c => ?_) (fun c => ?_)
      · have h := h.1 c
        refine V_aload_n (pc := 22) dX11_walks_22 rfl ?_
        refine V_getR (pc := 23) fX11_10 sC0 rfl dX11_walks_23 ?_
        refine V_iload_n (pc := 26) dX11_walks_26 rfl ?_
        refine V_callVi [.int v1] (pc := 27) kX9_isMissing lX11_103 sC1 rfl rfl (Nat.le_of_ble_eq_true rfl) rfl (Nat.le_of_ble_eq_true rfl) dX11_walks_27 ?_
        refine Ci.mono h ?_
        intro x2 M2 h
        refine V_if_eq (tgt := 39) (pc := 30) dX11_walks_30 rfl (fun c => ?_) (fun c => ?_)
        · have h := h.1 c
          refine V_aload_n (pc := 39) dX11_walks_39 rfl ?_
          refine V_getR (pc := 40) fX11_10 sC0 rfl dX11_walks_40 ?_
          refine V_iload_n (pc := 43) dX11_walks_43 rfl ?_
          refine V_iload_n (pc := 44) dX11_walks_44 rfl ?_
          refine V_iconst (v := 3) (pc := 45) dX11_walks_45 rfl ?_
          refine V_iload_n (pc := 46) dX11_walks_46 rfl ?_
          refine V_imul (pc := 47) dX11_walks_47 ?_
          refine V_callVi [.int v1, .int v2, .int (3 * v3)] (pc := 48) kX9_holds lX11_106 sC1 rfl rfl (Nat.le_of_ble_eq_true rfl) rfl (Nat.le_of_ble_eq_true rfl) dX11_walks_48 ?_
          refine Ci.mono h ?_
          intro x3 M3 h
          refine V_if_ne (tgt := 60) (pc := 51) dX11_walks_51 rfl (fun c => ?_) (fun c => ?_)
          · have h := h.1 c
            refine V_iconst (v := 0) (pc := 60) dX11_walks_60 rfl ?_
            refine V_istore (pc := 61) dX11_walks_61 (by decide) ?_
            exact V_sub h ⟨rfl, rfl, rfl, rfl, rfl, trivial⟩
          · have h := h.2 c
            refine V_aload_n (pc := 54) dX11_walks_54 rfl ?_
            refine V_iconst (v := 2) (pc := 55) dX11_walks_55 rfl ?_
            refine V_callVi [.int 2] (pc := 56) kX11_finding lX11_92 sC0 rfl rfl (Nat.le_of_ble_eq_true rfl) rfl (Nat.le_of_ble_eq_true rfl) dX11_walks_56 ?_
            refine Ci.mono h ?_
            intro x4 M4 h
            exact V_iret dX11_walks_59 rfl h
        · have h := h.2 c
          refine V_aload_n (pc := 33) dX11_walks_33 rfl ?_
          refine V_iconst (v := 1) (pc := 34) dX11_walks_34 rfl ?_
          refine V_callVi [.int 1] (pc := 35) kX11_finding lX11_92 sC0 rfl rfl (Nat.le_of_ble_eq_true rfl) rfl (Nat.le_of_ble_eq_true rfl) dX11_walks_35 ?_
          refine Ci.mono h ?_
          intro x5 M5 h
          exact V_iret dX11_walks_38 rfl h
      · have h := h.2 c
        refine V_ldc (pc := 19) dX11_walks_19 nX11_91 ?_
        exact V_iret dX11_walks_21 rfl h
theorem wp_X11_walks_63 {G : GV} {k : Nat} {M : Mem} {q : Int32 → Mem → Prop} {v1 : Int32} {v2 : Int32} {v3 : Int32} {v4 : Int32} (h : ((v3 ≤ v4 → Ci shC G mX11_countMeetings (k + 2) [.ref (G.2.1 0), .int v3] M (fun x1 M1 => Ci shC G mX11_withoutFinding (k + 2) [.ref (G.2.1 0), .int x1] M1 (fun x2 M2 => q x2 M2))) ∧ (¬ v3 ≤ v4 → Ci shC G mX11_walkEnd (k + 2) [.ref (G.2.1 0), .int v1, .int (v2 + (3 * v4))] M (fun x3 M3 => ((x3 ≠ (-1000001) → vp_in v4 20 ∧ V shC G mX11_walks (k + 3) 63 [(0, .ref (G.2.1 0)), (1, .int v1), (2, .int v2), (3, .int v3), (4, .int (v4 + 1))] [] (mset M3 12 (ix v4) x3) (Qi q)) ∧ (x3 = (-1000001) → q (-1000001) M3)))))) : V shC G mX11_walks (k + 3) 63 [(0, .ref (G.2.1 0)), (1, .int v1), (2, .int v2), (3, .int v3), (4, .int v4)] [] M (Qi q) := by
  refine V_iload (pc := 63) dX11_walks_63 rfl ?_
  refine V_iload_n (pc := 65) dX11_walks_65 rfl ?_
  refine V_icmp_ge (tgt := 107) (pc := 66) dX11_walks_66 rfl (fun c => ?_) (fun c => ?_)
  · have h := h.1 c
    refine V_aload_n (pc := 107) dX11_walks_107 rfl ?_
    refine V_aload_n (pc := 108) dX11_walks_108 rfl ?_
    refine V_iload_n (pc := 109) dX11_walks_109 rfl ?_
    refine V_callVi [.int v3] (pc := 110) kX11_countMeetings lX11_215 sC0 rfl rfl (Nat.le_of_ble_eq_true rfl) rfl (Nat.le_of_ble_eq_true rfl) dX11_walks_110 ?_
    refine Ci.mono h ?_
    intro x1 M1 h
    refine V_callVi [.int x1] (pc := 113) kX11_withoutFinding lX11_100 sC0 rfl rfl (Nat.le_of_ble_eq_true rfl) rfl (Nat.le_of_ble_eq_true rfl) dX11_walks_113 ?_
    refine Ci.mono h ?_
    intro x2 M2 h
    exact V_iret dX11_walks_116 rfl h
  · have h := h.2 c
    refine V_aload_n (pc := 69) dX11_walks_69 rfl ?_
    refine V_iload_n (pc := 70) dX11_walks_70 rfl ?_
    refine V_iload_n (pc := 71) dX11_walks_71 rfl ?_
    refine V_iconst (v := 3) (pc := 72) dX11_walks_72 rfl ?_
    refine V_iload (pc := 73) dX11_walks_73 rfl ?_
    refine V_imul (pc := 75) dX11_walks_75 ?_
    refine V_iadd (pc := 76) dX11_walks_76 ?_
    refine V_callVi [.int v1, .int (v2 + (3 * v4))] (pc := 77) kX11_walkEnd lX11_212 sC0 rfl rfl (Nat.le_of_ble_eq_true rfl) rfl (Nat.le_of_ble_eq_true rfl) dX11_walks_77 ?_
    refine Ci.mono h ?_
    intro x3 M3 h
    refine V_istore (pc := 80) dX11_walks_80 (by decide) ?_
    refine V_iload (pc := 82) dX11_walks_82 rfl ?_
    refine V_ldc (pc := 84) dX11_walks_84 nX11_91 ?_
    refine V_icmp_ne (tgt := 92) (pc := 86) dX11_walks_86 rfl (fun c => ?_) (fun c => ?_)
    · have h := h.1 c
      refine V_aload_n (pc := 92) dX11_walks_92 rfl ?_
      refine V_getR (pc := 93) fX11_51 sC0 rfl dX11_walks_93 ?_
      refine V_iload (pc := 96) dX11_walks_96 rfl ?_
      refine V_iload (pc := 98) dX11_walks_98 rfl ?_
      refine V_iast (pc := 100) sC12 dX11_walks_100 h.1 ?_
      have h := h.2
      refine V_iinc (pc := 101) dX11_walks_101 rfl (by decide) ?_
      refine V_goto (tgt := 63) (pc := 104) dX11_walks_104 rfl ?_
      exact V_sub h ⟨rfl, rfl, rfl, rfl, rfl, trivial⟩
    · have h := h.2 c
      refine V_ldc (pc := 89) dX11_walks_89 nX11_91 ?_
      exact V_iret dX11_walks_91 rfl h
theorem wp_X11_found {G : GV} {k : Nat} {M : Mem} {q : Int32 → Mem → Prop} {v1 : Int32} {v2 : Int32} {v3 : Int32} {v4 : Int32} {v5 : Int32} (h : Ci shC G mX11_noStreet (k + 3) [.ref (G.2.1 0), .int v1] M (fun x1 M1 => ((x1 ≠ 0 → q (-1000001) M1) ∧ (x1 = 0 → Ci shC G mX11_noYear (k + 3) [.ref (G.2.1 0), .int v2] M1 (fun x2 M2 => ((x2 ≠ 0 → q (-1000001) M2) ∧ (x2 = 0 → Ci shC G mX11_noYear (k + 3) [.ref (G.2.1 0), .int v3] M2 (fun x3 M3 => ((x3 ≠ 0 → q (-1000001) M3) ∧ (x3 = 0 → ((v5 < 0 → q (-1000001) M3) ∧ (¬ v5 < 0 → ((v5 ≤ 1 → Cv shC G mX4_lookAt (k + 3) [.ref (G.2.1 10), .int v1, .int v2, .int v3] M3 (fun M4 => ((v4 < 0 → q (-1000000) M4) ∧ (¬ v4 < 0 → Ci shC G mX4_kept (k + 3) [.ref (G.2.1 10)] M4 (fun x5 M5 => ((v4 < x5 → ((v5 ≠ 0 → Ci shC G mX4_lineOfPair (k + 3) [.ref (G.2.1 10), .int v4, .int 0] M5 (fun x6 M6 => q x6 M6)) ∧ (v5 = 0 → Ci shC G mX4_lineOfPair (k + 3) [.ref (G.2.1 10), .int v4, .int 1] M5 (fun x7 M7 => q x7 M7)))) ∧ (¬ v4 < x5 → q (-1000000) M5))))))) ∧ (¬ v5 ≤ 1 → q (-1000001) M3)))))))))))))) : Ci shC G mX11_found (k + 4) [.ref (G.2.1 0), .int v1, .int v2, .int v3, .int v4, .int v5] M q := by
  unfold Ci
  show V _ _ _ _ _ [(0, .ref (G.2.1 0)), (1, .int v1), (2, .int v2), (3, .int v3), (4, .int v4), (5, .int v5)] _ _ _
  refine V_aload_n (pc := 0) dX11_found_0 rfl ?_
  refine V_iload_n (pc := 1) dX11_found_1 rfl ?_
  refine V_callVi [.int v1] (pc := 2) kX11_noStreet lX11_248 sC0 rfl rfl (Nat.le_of_ble_eq_true rfl) rfl (Nat.le_of_ble_eq_true rfl) dX11_found_2 ?_
  refine Ci.mono h ?_
  intro x1 M1 h
  refine V_if_ne (tgt := 35) (pc := 5) dX11_found_5 rfl (fun c => ?_) (fun c => ?_)
  · have h := h.1 c
    refine V_ldc (pc := 35) dX11_found_35 nX11_91 ?_
    exact V_iret dX11_found_37 rfl h
  · have h := h.2 c
    refine V_aload_n (pc := 8) dX11_found_8 rfl ?_
    refine V_iload_n (pc := 9) dX11_found_9 rfl ?_
    refine V_callVi [.int v2] (pc := 10) kX11_noYear lX11_251 sC0 rfl rfl (Nat.le_of_ble_eq_true rfl) rfl (Nat.le_of_ble_eq_true rfl) dX11_found_10 ?_
    refine Ci.mono h ?_
    intro x2 M2 h
    refine V_if_ne (tgt := 35) (pc := 13) dX11_found_13 rfl (fun c => ?_) (fun c => ?_)
    · have h := h.1 c
      refine V_ldc (pc := 35) dX11_found_35 nX11_91 ?_
      exact V_iret dX11_found_37 rfl h
    · have h := h.2 c
      refine V_aload_n (pc := 16) dX11_found_16 rfl ?_
      refine V_iload_n (pc := 17) dX11_found_17 rfl ?_
      refine V_callVi [.int v3] (pc := 18) kX11_noYear lX11_251 sC0 rfl rfl (Nat.le_of_ble_eq_true rfl) rfl (Nat.le_of_ble_eq_true rfl) dX11_found_18 ?_
      refine Ci.mono h ?_
      intro x3 M3 h
      refine V_if_ne (tgt := 35) (pc := 21) dX11_found_21 rfl (fun c => ?_) (fun c => ?_)
      · have h := h.1 c
        refine V_ldc (pc := 35) dX11_found_35 nX11_91 ?_
        exact V_iret dX11_found_37 rfl h
      · have h := h.2 c
        refine V_iload (pc := 24) dX11_found_24 rfl ?_
        refine V_if_lt (tgt := 35) (pc := 26) dX11_found_26 rfl (fun c => ?_) (fun c => ?_)
        · have h := h.1 c
          refine V_ldc (pc := 35) dX11_found_35 nX11_91 ?_
          exact V_iret dX11_found_37 rfl h
        · have h := h.2 c
          refine V_iload (pc := 29) dX11_found_29 rfl ?_
          refine V_iconst (v := 1) (pc := 31) dX11_found_31 rfl ?_
          refine V_icmp_le (tgt := 38) (pc := 32) dX11_found_32 rfl (fun c => ?_) (fun c => ?_)
          · have h := h.1 c
            refine V_aload_n (pc := 38) dX11_found_38 rfl ?_
            refine V_getR (pc := 39) fX11_76 sC0 rfl dX11_found_39 ?_
            refine V_iload_n (pc := 42) dX11_found_42 rfl ?_
            refine V_iload_n (pc := 43) dX11_found_43 rfl ?_
            refine V_iload_n (pc := 44) dX11_found_44 rfl ?_
            refine V_callVv [.int v1, .int v2, .int v3] (pc := 45) kX4_lookAt lX11_254 sC10 rfl rfl (Nat.le_of_ble_eq_true rfl) rfl (Nat.le_of_ble_eq_true rfl) dX11_found_45 ?_
            refine Cv.mono h ?_
            intro M4 h
            refine V_iload (pc := 48) dX11_found_48 rfl ?_
            refine V_if_lt (tgt := 65) (pc := 50) dX11_found_50 rfl (fun c => ?_) (fun c => ?_)
            · have h := h.1 c
              refine V_ldc (pc := 65) dX11_found_65 nX11_238 ?_
              exact V_iret dX11_found_67 rfl h
            · have h := h.2 c
              refine V_iload (pc := 53) dX11_found_53 rfl ?_
              refine V_aload_n (pc := 55) dX11_found_55 rfl ?_
              refine V_getR (pc := 56) fX11_76 sC0 rfl dX11_found_56 ?_
              refine V_callVi [] (pc := 59) kX4_kept lX11_257 sC10 rfl rfl (Nat.le_of_ble_eq_true rfl) rfl (Nat.le_of_ble_eq_true rfl) dX11_found_59 ?_
              refine Ci.mono h ?_
              intro x5 M5 h
              refine V_icmp_lt (tgt := 68) (pc := 62) dX11_found_62 rfl (fun c => ?_) (fun c => ?_)
              · have h := h.1 c
                refine V_aload_n (pc := 68) dX11_found_68 rfl ?_
                refine V_getR (pc := 69) fX11_76 sC0 rfl dX11_found_69 ?_
                refine V_iload (pc := 72) dX11_found_72 rfl ?_
                refine V_iload (pc := 74) dX11_found_74 rfl ?_
                refine V_if_ne (tgt := 83) (pc := 76) dX11_found_76 rfl (fun c => ?_) (fun c => ?_)
                · have h := h.1 c
                  refine V_iconst (v := 0) (pc := 83) dX11_found_83 rfl ?_
                  refine V_callVi [.int v4, .int 0] (pc := 84) kX4_lineOfPair lX11_266 sC10 rfl rfl (Nat.le_of_ble_eq_true rfl) rfl (Nat.le_of_ble_eq_true rfl) dX11_found_84 ?_
                  refine Ci.mono h ?_
                  intro x6 M6 h
                  exact V_iret dX11_found_87 rfl h
                · have h := h.2 c
                  refine V_iconst (v := 1) (pc := 79) dX11_found_79 rfl ?_
                  refine V_goto (tgt := 84) (pc := 80) dX11_found_80 rfl ?_
                  refine V_callVi [.int v4, .int 1] (pc := 84) kX4_lineOfPair lX11_266 sC10 rfl rfl (Nat.le_of_ble_eq_true rfl) rfl (Nat.le_of_ble_eq_true rfl) dX11_found_84 ?_
                  refine Ci.mono h ?_
                  intro x7 M7 h
                  exact V_iret dX11_found_87 rfl h
              · have h := h.2 c
                refine V_ldc (pc := 65) dX11_found_65 nX11_238 ?_
                exact V_iret dX11_found_67 rfl h
          · have h := h.2 c
            refine V_ldc (pc := 35) dX11_found_35 nX11_91 ?_
            exact V_iret dX11_found_37 rfl h
theorem wp_X11_lost {G : GV} {k : Nat} {M : Mem} {q : Int32 → Mem → Prop} {v1 : Int32} {v2 : Int32} {v3 : Int32} {v4 : Int32} (h : Ci shC G mX11_noStreet (k + 3) [.ref (G.2.1 0), .int v1] M (fun x1 M1 => ((x1 ≠ 0 → q (-1000001) M1) ∧ (x1 = 0 → Ci shC G mX11_noYear (k + 3) [.ref (G.2.1 0), .int v2] M1 (fun x2 M2 => ((x2 ≠ 0 → q (-1000001) M2) ∧ (x2 = 0 → Ci shC G mX11_noYear (k + 3) [.ref (G.2.1 0), .int v3] M2 (fun x3 M3 => ((x3 ≠ 0 → q (-1000001) M3) ∧ (x3 = 0 → ((v4 < 0 → q (-1000001) M3) ∧ (¬ v4 < 0 → ((v4 ≤ 2 → Cv shC G mX4_lookAt (k + 3) [.ref (G.2.1 10), .int v1, .int v2, .int v3] M3 (fun M4 => (((v4).toInt = 0 → Ci shC G mX4_kept (k + 3) [.ref (G.2.1 10)] M4 (fun x5 M5 => q x5 M5)) ∧ ((v4).toInt = 1 → q (M4.1 10 4) M4) ∧ (([((0, 26) : Int × Int), ((1, 34) : Int × Int)].all (fun q => decide ((v4).toInt ≠ q.1)) = true) → q (M4.1 10 5) M4)))) ∧ (¬ v4 ≤ 2 → q (-1000001) M3)))))))))))))) : Ci shC G mX11_lost (k + 4) [.ref (G.2.1 0), .int v1, .int v2, .int v3, .int v4] M q := by
  unfold Ci
  show V _ _ _ _ _ [(0, .ref (G.2.1 0)), (1, .int v1), (2, .int v2), (3, .int v3), (4, .int v4)] _ _ _
  refine V_aload_n (pc := 0) dX11_lost_0 rfl ?_
  refine V_iload_n (pc := 1) dX11_lost_1 rfl ?_
  refine V_callVi [.int v1] (pc := 2) kX11_noStreet lX11_248 sC0 rfl rfl (Nat.le_of_ble_eq_true rfl) rfl (Nat.le_of_ble_eq_true rfl) dX11_lost_2 ?_
  refine Ci.mono h ?_
  intro x1 M1 h
  refine V_if_ne (tgt := 35) (pc := 5) dX11_lost_5 rfl (fun c => ?_) (fun c => ?_)
  · have h := h.1 c
    refine V_ldc (pc := 35) dX11_lost_35 nX11_91 ?_
    exact V_iret dX11_lost_37 rfl h
  · have h := h.2 c
    refine V_aload_n (pc := 8) dX11_lost_8 rfl ?_
    refine V_iload_n (pc := 9) dX11_lost_9 rfl ?_
    refine V_callVi [.int v2] (pc := 10) kX11_noYear lX11_251 sC0 rfl rfl (Nat.le_of_ble_eq_true rfl) rfl (Nat.le_of_ble_eq_true rfl) dX11_lost_10 ?_
    refine Ci.mono h ?_
    intro x2 M2 h
    refine V_if_ne (tgt := 35) (pc := 13) dX11_lost_13 rfl (fun c => ?_) (fun c => ?_)
    · have h := h.1 c
      refine V_ldc (pc := 35) dX11_lost_35 nX11_91 ?_
      exact V_iret dX11_lost_37 rfl h
    · have h := h.2 c
      refine V_aload_n (pc := 16) dX11_lost_16 rfl ?_
      refine V_iload_n (pc := 17) dX11_lost_17 rfl ?_
      refine V_callVi [.int v3] (pc := 18) kX11_noYear lX11_251 sC0 rfl rfl (Nat.le_of_ble_eq_true rfl) rfl (Nat.le_of_ble_eq_true rfl) dX11_lost_18 ?_
      refine Ci.mono h ?_
      intro x3 M3 h
      refine V_if_ne (tgt := 35) (pc := 21) dX11_lost_21 rfl (fun c => ?_) (fun c => ?_)
      · have h := h.1 c
        refine V_ldc (pc := 35) dX11_lost_35 nX11_91 ?_
        exact V_iret dX11_lost_37 rfl h
      · have h := h.2 c
        refine V_iload (pc := 24) dX11_lost_24 rfl ?_
        refine V_if_lt (tgt := 35) (pc := 26) dX11_lost_26 rfl (fun c => ?_) (fun c => ?_)
        · have h := h.1 c
          refine V_ldc (pc := 35) dX11_lost_35 nX11_91 ?_
          exact V_iret dX11_lost_37 rfl h
        · have h := h.2 c
          refine V_iload (pc := 29) dX11_lost_29 rfl ?_
          refine V_iconst (v := 2) (pc := 31) dX11_lost_31 rfl ?_
          refine V_icmp_le (tgt := 38) (pc := 32) dX11_lost_32 rfl (fun c => ?_) (fun c => ?_)
          · have h := h.1 c
            refine V_aload_n (pc := 38) dX11_lost_38 rfl ?_
            refine V_getR (pc := 39) fX11_76 sC0 rfl dX11_lost_39 ?_
            refine V_iload_n (pc := 42) dX11_lost_42 rfl ?_
            refine V_iload_n (pc := 43) dX11_lost_43 rfl ?_
            refine V_iload_n (pc := 44) dX11_lost_44 rfl ?_
            refine V_callVv [.int v1, .int v2, .int v3] (pc := 45) kX4_lookAt lX11_254 sC10 rfl rfl (Nat.le_of_ble_eq_true rfl) rfl (Nat.le_of_ble_eq_true rfl) dX11_lost_45 ?_
            refine Cv.mono h ?_
            intro M4 h
            refine V_iload (pc := 48) dX11_lost_48 rfl ?_
            refine V_lookup (tgt := 92) (pc := 50) dX11_lost_50 rfl rfl rfl ⟨fun c => ?_, fun c => ?_, trivial⟩ (fun c => ?_)
            · have h := h.1 c
              show V _ _ _ _ 76 _ _ _ _
              refine V_aload_n (pc := 76) dX11_lost_76 rfl ?_
              refine V_getR (pc := 77) fX11_76 sC0 rfl dX11_lost_77 ?_
              refine V_callVi [] (pc := 80) kX4_kept lX11_257 sC10 rfl rfl (Nat.le_of_ble_eq_true rfl) rfl (Nat.le_of_ble_eq_true rfl) dX11_lost_80 ?_
              refine Ci.mono h ?_
              intro x5 M5 h
              exact V_iret dX11_lost_83 rfl h
            · have h := h.2.1 c
              show V _ _ _ _ 84 _ _ _ _
              refine V_aload_n (pc := 84) dX11_lost_84 rfl ?_
              refine V_getR (pc := 85) fX11_76 sC0 rfl dX11_lost_85 ?_
              refine V_getI (pc := 88) fX11_260 sC10 rfl dX11_lost_88 ?_
              exact V_iret dX11_lost_91 rfl h
            · have h := h.2.2 c
              refine V_aload_n (pc := 92) dX11_lost_92 rfl ?_
              refine V_getR (pc := 93) fX11_76 sC0 rfl dX11_lost_93 ?_
              refine V_getI (pc := 96) fX11_263 sC10 rfl dX11_lost_96 ?_
              exact V_iret dX11_lost_99 rfl h
          · have h := h.2 c
            refine V_ldc (pc := 35) dX11_lost_35 nX11_91 ?_
            exact V_iret dX11_lost_37 rfl h
theorem wp_X11_keepTold {G : GV} {k : Nat} {M : Mem} {q : Mem → Prop}  (h : (((M.1 6 8) < (M.1 6 9) → Cv shC G mX6_keep (k + 4) [.ref (G.2.1 4)] (mset (mset (mset M 9 5 1) 3 3 (M.1 3 4)) 5 4 (M.1 5 5)) (fun M1 => Cv shC G mX3_keep (k + 4) [.ref (G.2.1 6), .ref (G.2.1 3), .ref (G.2.1 4)] M1 (fun M2 => q M2))) ∧ (¬ (M.1 6 8) < (M.1 6 9) → (((M.1 4 5) ≤ (M.1 4 4) → Cv shC G mX6_keep (k + 4) [.ref (G.2.1 4)] (mset (mset M 3 3 (M.1 3 4)) 5 4 (M.1 5 5)) (fun M3 => Cv shC G mX3_keep (k + 4) [.ref (G.2.1 6), .ref (G.2.1 3), .ref (G.2.1 4)] M3 (fun M4 => q M4))) ∧ (¬ (M.1 4 5) ≤ (M.1 4 4) → Cv shC G mX6_keep (k + 4) [.ref (G.2.1 4)] (mset (mset (mset M 9 5 1) 3 3 (M.1 3 4)) 5 4 (M.1 5 5)) (fun M5 => Cv shC G mX3_keep (k + 4) [.ref (G.2.1 6), .ref (G.2.1 3), .ref (G.2.1 4)] M5 (fun M6 => q M6))))))) : Cv shC G mX11_keepTold (k + 5) [.ref (G.2.1 0)] M q := by
  unfold Cv
  show V _ _ _ _ _ [(0, .ref (G.2.1 0))] _ _ _
  refine V_aload_n (pc := 0) dX11_keepTold_0 rfl ?_
  refine V_getR (pc := 1) fX11_47 sC0 rfl dX11_keepTold_1 ?_
  refine V_getI (pc := 4) fX11_151 sC6 rfl dX11_keepTold_4 ?_
  refine V_aload_n (pc := 7) dX11_keepTold_7 rfl ?_
  refine V_getR (pc := 8) fX11_47 sC0 rfl dX11_keepTold_8 ?_
  refine V_getI (pc := 11) fX11_320 sC6 rfl dX11_keepTold_11 ?_
  refine V_icmp_lt (tgt := 34) (pc := 14) dX11_keepTold_14 rfl (fun c => ?_) (fun c => ?_)
  · have h := h.1 c
    refine V_aload_n (pc := 34) dX11_keepTold_34 rfl ?_
    refine V_getR (pc := 35) fX11_69 sC0 rfl dX11_keepTold_35 ?_
    refine V_iconst (v := 1) (pc := 38) dX11_keepTold_38 rfl ?_
    refine V_putZ (pc := 39) fX11_324 p7_5 sC9 rfl (Or.inr rfl) dX11_keepTold_39 ?_
    refine V_aload_n (pc := 42) dX11_keepTold_42 rfl ?_
    refine V_getR (pc := 43) fX11_26 sC0 rfl dX11_keepTold_43 ?_
    refine V_aload_n (pc := 46) dX11_keepTold_46 rfl ?_
    refine V_getR (pc := 47) fX11_26 sC0 rfl dX11_keepTold_47 ?_
    refine V_getI (pc := 50) fX11_328 sC3 rfl dX11_keepTold_50 ?_
    refine V_top (v := (M.1 3 4)) (by simp [mset, lset, upd]) ?_
    refine V_putI (pc := 53) fX11_283 p1_3 sC3 rfl dX11_keepTold_53 ?_
    refine V_aload_n (pc := 56) dX11_keepTold_56 rfl ?_
    refine V_getR (pc := 57) fX11_40 sC0 rfl dX11_keepTold_57 ?_
    refine V_aload_n (pc := 60) dX11_keepTold_60 rfl ?_
    refine V_getR (pc := 61) fX11_40 sC0 rfl dX11_keepTold_61 ?_
    refine V_getI (pc := 64) fX11_329 sC5 rfl dX11_keepTold_64 ?_
    refine V_top (v := (M.1 5 5)) (by simp [mset, lset, upd]) ?_
    refine V_putI (pc := 67) fX11_310 p2_4 sC5 rfl dX11_keepTold_67 ?_
    refine V_aload_n (pc := 70) dX11_keepTold_70 rfl ?_
    refine V_getR (pc := 71) fX11_33 sC0 rfl dX11_keepTold_71 ?_
    refine V_callVv [] (pc := 74) kX6_keep lX11_330 sC4 rfl rfl (Nat.le_of_ble_eq_true rfl) rfl (Nat.le_of_ble_eq_true rfl) dX11_keepTold_74 ?_
    refine Cv.mono h ?_
    intro M1 h
    refine V_aload_n (pc := 77) dX11_keepTold_77 rfl ?_
    refine V_getR (pc := 78) fX11_47 sC0 rfl dX11_keepTold_78 ?_
    refine V_aload_n (pc := 81) dX11_keepTold_81 rfl ?_
    refine V_getR (pc := 82) fX11_26 sC0 rfl dX11_keepTold_82 ?_
    refine V_aload_n (pc := 85) dX11_keepTold_85 rfl ?_
    refine V_getR (pc := 86) fX11_33 sC0 rfl dX11_keepTold_86 ?_
    refine V_callVv [.ref (G.2.1 3), .ref (G.2.1 4)] (pc := 89) kX3_keep lX11_333 sC6 rfl rfl (Nat.le_of_ble_eq_true rfl) rfl (Nat.le_of_ble_eq_true rfl) dX11_keepTold_89 ?_
    refine Cv.mono h ?_
    intro M2 h
    exact V_vret dX11_keepTold_92 rfl h
  · have h := h.2 c
    refine V_aload_n (pc := 17) dX11_keepTold_17 rfl ?_
    refine V_getR (pc := 18) fX11_33 sC0 rfl dX11_keepTold_18 ?_
    refine V_getI (pc := 21) fX11_309 sC4 rfl dX11_keepTold_21 ?_
    refine V_aload_n (pc := 24) dX11_keepTold_24 rfl ?_
    refine V_getR (pc := 25) fX11_33 sC0 rfl dX11_keepTold_25 ?_
    refine V_getI (pc := 28) fX11_323 sC4 rfl dX11_keepTold_28 ?_
    refine V_icmp_ge (tgt := 42) (pc := 31) dX11_keepTold_31 rfl (fun c => ?_) (fun c => ?_)
    · have h := h.1 c
      refine V_aload_n (pc := 42) dX11_keepTold_42 rfl ?_
      refine V_getR (pc := 43) fX11_26 sC0 rfl dX11_keepTold_43 ?_
      refine V_aload_n (pc := 46) dX11_keepTold_46 rfl ?_
      refine V_getR (pc := 47) fX11_26 sC0 rfl dX11_keepTold_47 ?_
      refine V_getI (pc := 50) fX11_328 sC3 rfl dX11_keepTold_50 ?_
      refine V_putI (pc := 53) fX11_283 p1_3 sC3 rfl dX11_keepTold_53 ?_
      refine V_aload_n (pc := 56) dX11_keepTold_56 rfl ?_
      refine V_getR (pc := 57) fX11_40 sC0 rfl dX11_keepTold_57 ?_
      refine V_aload_n (pc := 60) dX11_keepTold_60 rfl ?_
      refine V_getR (pc := 61) fX11_40 sC0 rfl dX11_keepTold_61 ?_
      refine V_getI (pc := 64) fX11_329 sC5 rfl dX11_keepTold_64 ?_
      refine V_top (v := (M.1 5 5)) (by simp [mset, lset, upd]) ?_
      refine V_putI (pc := 67) fX11_310 p2_4 sC5 rfl dX11_keepTold_67 ?_
      refine V_aload_n (pc := 70) dX11_keepTold_70 rfl ?_
      refine V_getR (pc := 71) fX11_33 sC0 rfl dX11_keepTold_71 ?_
      refine V_callVv [] (pc := 74) kX6_keep lX11_330 sC4 rfl rfl (Nat.le_of_ble_eq_true rfl) rfl (Nat.le_of_ble_eq_true rfl) dX11_keepTold_74 ?_
      refine Cv.mono h ?_
      intro M3 h
      refine V_aload_n (pc := 77) dX11_keepTold_77 rfl ?_
      refine V_getR (pc := 78) fX11_47 sC0 rfl dX11_keepTold_78 ?_
      refine V_aload_n (pc := 81) dX11_keepTold_81 rfl ?_
      refine V_getR (pc := 82) fX11_26 sC0 rfl dX11_keepTold_82 ?_
      refine V_aload_n (pc := 85) dX11_keepTold_85 rfl ?_
      refine V_getR (pc := 86) fX11_33 sC0 rfl dX11_keepTold_86 ?_
      refine V_callVv [.ref (G.2.1 3), .ref (G.2.1 4)] (pc := 89) kX3_keep lX11_333 sC6 rfl rfl (Nat.le_of_ble_eq_true rfl) rfl (Nat.le_of_ble_eq_true rfl) dX11_keepTold_89 ?_
      refine Cv.mono h ?_
      intro M4 h
      exact V_vret dX11_keepTold_92 rfl h
    · have h := h.2 c
      refine V_aload_n (pc := 34) dX11_keepTold_34 rfl ?_
      refine V_getR (pc := 35) fX11_69 sC0 rfl dX11_keepTold_35 ?_
      refine V_iconst (v := 1) (pc := 38) dX11_keepTold_38 rfl ?_
      refine V_putZ (pc := 39) fX11_324 p7_5 sC9 rfl (Or.inr rfl) dX11_keepTold_39 ?_
      refine V_aload_n (pc := 42) dX11_keepTold_42 rfl ?_
      refine V_getR (pc := 43) fX11_26 sC0 rfl dX11_keepTold_43 ?_
      refine V_aload_n (pc := 46) dX11_keepTold_46 rfl ?_
      refine V_getR (pc := 47) fX11_26 sC0 rfl dX11_keepTold_47 ?_
      refine V_getI (pc := 50) fX11_328 sC3 rfl dX11_keepTold_50 ?_
      refine V_top (v := (M.1 3 4)) (by simp [mset, lset, upd]) ?_
      refine V_putI (pc := 53) fX11_283 p1_3 sC3 rfl dX11_keepTold_53 ?_
      refine V_aload_n (pc := 56) dX11_keepTold_56 rfl ?_
      refine V_getR (pc := 57) fX11_40 sC0 rfl dX11_keepTold_57 ?_
      refine V_aload_n (pc := 60) dX11_keepTold_60 rfl ?_
      refine V_getR (pc := 61) fX11_40 sC0 rfl dX11_keepTold_61 ?_
      refine V_getI (pc := 64) fX11_329 sC5 rfl dX11_keepTold_64 ?_
      refine V_top (v := (M.1 5 5)) (by simp [mset, lset, upd]) ?_
      refine V_putI (pc := 67) fX11_310 p2_4 sC5 rfl dX11_keepTold_67 ?_
      refine V_aload_n (pc := 70) dX11_keepTold_70 rfl ?_
      refine V_getR (pc := 71) fX11_33 sC0 rfl dX11_keepTold_71 ?_
      refine V_callVv [] (pc := 74) kX6_keep lX11_330 sC4 rfl rfl (Nat.le_of_ble_eq_true rfl) rfl (Nat.le_of_ble_eq_true rfl) dX11_keepTold_74 ?_
      refine Cv.mono h ?_
      intro M5 h
      refine V_aload_n (pc := 77) dX11_keepTold_77 rfl ?_
      refine V_getR (pc := 78) fX11_47 sC0 rfl dX11_keepTold_78 ?_
      refine V_aload_n (pc := 81) dX11_keepTold_81 rfl ?_
      refine V_getR (pc := 82) fX11_26 sC0 rfl dX11_keepTold_82 ?_
      refine V_aload_n (pc := 85) dX11_keepTold_85 rfl ?_
      refine V_getR (pc := 86) fX11_33 sC0 rfl dX11_keepTold_86 ?_
      refine V_callVv [.ref (G.2.1 3), .ref (G.2.1 4)] (pc := 89) kX3_keep lX11_333 sC6 rfl rfl (Nat.le_of_ble_eq_true rfl) rfl (Nat.le_of_ble_eq_true rfl) dX11_keepTold_89 ?_
      refine Cv.mono h ?_
      intro M6 h
      exact V_vret dX11_keepTold_92 rfl h
theorem wp_X11_ask {G : GV} {k : Nat} {M : Mem} {q : Int32 → Mem → Prop} {v1 : Int32} {v2 : Int32} (h : Ci shC G mX11_noLine (k + 5) [.ref (G.2.1 0), .int v1] M (fun x1 M1 => ((x1 ≠ 0 → q (-1000001) M1) ∧ (x1 = 0 → ((v2 < 0 → q (-1000001) M1) ∧ (¬ v2 < 0 → ((v2 ≤ 1 → ((v2 ≠ 0 → Ci shC G mX0_markOf (k + 5) [.ref (G.2.1 11), .int v1] (mset M1 11 2 0) (fun x2 M2 => q x2 M2)) ∧ (v2 = 0 → Ci shC G mX0_sizeOf (k + 5) [.ref (G.2.1 11), .int v1] (mset M1 11 2 0) (fun x3 M3 => q x3 M3)))) ∧ (¬ v2 ≤ 1 → q (-1000001) M1)))))))) : Ci shC G mX11_ask (k + 6) [.ref (G.2.1 0), .int v1, .int v2] M q := by
  unfold Ci
  show V _ _ _ _ _ [(0, .ref (G.2.1 0)), (1, .int v1), (2, .int v2)] _ _ _
  refine V_aload_n (pc := 0) dX11_ask_0 rfl ?_
  refine V_iload_n (pc := 1) dX11_ask_1 rfl ?_
  refine V_callVi [.int v1] (pc := 2) kX11_noLine lX11_154 sC0 rfl rfl (Nat.le_of_ble_eq_true rfl) rfl (Nat.le_of_ble_eq_true rfl) dX11_ask_2 ?_
  refine Ci.mono h ?_
  intro x1 M1 h
  refine V_if_ne (tgt := 17) (pc := 5) dX11_ask_5 rfl (fun c => ?_) (fun c => ?_)
  · have h := h.1 c
    refine V_ldc (pc := 17) dX11_ask_17 nX11_91 ?_
    exact V_iret dX11_ask_19 rfl h
  · have h := h.2 c
    refine V_iload_n (pc := 8) dX11_ask_8 rfl ?_
    refine V_if_lt (tgt := 17) (pc := 9) dX11_ask_9 rfl (fun c => ?_) (fun c => ?_)
    · have h := h.1 c
      refine V_ldc (pc := 17) dX11_ask_17 nX11_91 ?_
      exact V_iret dX11_ask_19 rfl h
    · have h := h.2 c
      refine V_iload_n (pc := 12) dX11_ask_12 rfl ?_
      refine V_iconst (v := 1) (pc := 13) dX11_ask_13 rfl ?_
      refine V_icmp_le (tgt := 20) (pc := 14) dX11_ask_14 rfl (fun c => ?_) (fun c => ?_)
      · have h := h.1 c
        refine V_aload_n (pc := 20) dX11_ask_20 rfl ?_
        refine V_getR (pc := 21) fX11_83 sC0 rfl dX11_ask_21 ?_
        refine V_iconst (v := 0) (pc := 24) dX11_ask_24 rfl ?_
        refine V_putI (pc := 25) fX11_294 p0_2 sC11 rfl dX11_ask_25 ?_
        refine V_iload_n (pc := 28) dX11_ask_28 rfl ?_
        refine V_if_ne (tgt := 43) (pc := 29) dX11_ask_29 rfl (fun c => ?_) (fun c => ?_)
        · have h := h.1 c
          refine V_aload_n (pc := 43) dX11_ask_43 rfl ?_
          refine V_getR (pc := 44) fX11_83 sC0 rfl dX11_ask_44 ?_
          refine V_iload_n (pc := 47) dX11_ask_47 rfl ?_
          refine V_callVi [.int v1] (pc := 48) kX0_markOf lX11_300 sC11 rfl rfl (Nat.le_of_ble_eq_true rfl) rfl (Nat.le_of_ble_eq_true rfl) dX11_ask_48 ?_
          refine Ci.mono h ?_
          intro x2 M2 h
          exact V_iret dX11_ask_51 rfl h
        · have h := h.2 c
          refine V_aload_n (pc := 32) dX11_ask_32 rfl ?_
          refine V_getR (pc := 33) fX11_83 sC0 rfl dX11_ask_33 ?_
          refine V_iload_n (pc := 36) dX11_ask_36 rfl ?_
          refine V_callVi [.int v1] (pc := 37) kX0_sizeOf lX11_297 sC11 rfl rfl (Nat.le_of_ble_eq_true rfl) rfl (Nat.le_of_ble_eq_true rfl) dX11_ask_37 ?_
          refine Ci.mono h ?_
          intro x3 M3 h
          refine V_goto (tgt := 51) (pc := 40) dX11_ask_40 rfl ?_
          exact V_iret dX11_ask_51 rfl h
      · have h := h.2 c
        refine V_ldc (pc := 17) dX11_ask_17 nX11_91 ?_
        exact V_iret dX11_ask_19 rfl h
theorem wp_X11_joined {G : GV} {k : Nat} {M : Mem} {q : Int64 → Mem → Prop} {v1 : Int32} (h : (((v1).toInt = 0 → Ci shC G mX7_countFewest (k + 5) [.ref (G.2.1 9)] M (fun x1 M1 => q (Int32.toInt64 x1) M1)) ∧ ((v1).toInt = 1 → Ci shC G mX7_countRivals (k + 5) [.ref (G.2.1 9)] M (fun x2 M2 => q (Int32.toInt64 x2) M2)) ∧ ((v1).toInt = 2 → Ci shC G mX7_linesOfGreatest (k + 5) [.ref (G.2.1 9)] M (fun x3 M3 => q (Int32.toInt64 x3) M3)) ∧ (((v1).toInt < 0 ∨ 2 < (v1).toInt) → q (-1000001) M))) : Cl shC G mX11_joined (k + 6) [.ref (G.2.1 0), .int v1] M q := by
  unfold Cl
  show V _ _ _ _ _ [(0, .ref (G.2.1 0)), (1, .int v1)] _ _ _
  refine V_iload_n (pc := 0) dX11_joined_0 rfl ?_
  refine V_table (tgt := 55) (pc := 1) dX11_joined_1 rfl rfl rfl ⟨fun c => ?_, fun c => ?_, fun c => ?_, trivial⟩ (fun c => ?_)
  · have h := h.1 c
    show V _ _ _ _ 28 _ _ _ _
    refine V_aload_n (pc := 28) dX11_joined_28 rfl ?_
    refine V_getR (pc := 29) fX11_69 sC0 rfl dX11_joined_29 ?_
    refine V_callVi [] (pc := 32) kX7_countFewest lX11_218 sC9 rfl rfl (Nat.le_of_ble_eq_true rfl) rfl (Nat.le_of_ble_eq_true rfl) dX11_joined_32 ?_
    refine Ci.mono h ?_
    intro x1 M1 h
    refine V_i2l (pc := 35) dX11_joined_35 ?_
    exact V_lret dX11_joined_36 rfl h
  · have h := h.2.1 c
    show V _ _ _ _ 37 _ _ _ _
    refine V_aload_n (pc := 37) dX11_joined_37 rfl ?_
    refine V_getR (pc := 38) fX11_69 sC0 rfl dX11_joined_38 ?_
    refine V_callVi [] (pc := 41) kX7_countRivals lX11_221 sC9 rfl rfl (Nat.le_of_ble_eq_true rfl) rfl (Nat.le_of_ble_eq_true rfl) dX11_joined_41 ?_
    refine Ci.mono h ?_
    intro x2 M2 h
    refine V_i2l (pc := 44) dX11_joined_44 ?_
    exact V_lret dX11_joined_45 rfl h
  · have h := h.2.2.1 c
    show V _ _ _ _ 46 _ _ _ _
    refine V_aload_n (pc := 46) dX11_joined_46 rfl ?_
    refine V_getR (pc := 47) fX11_69 sC0 rfl dX11_joined_47 ?_
    refine V_callVi [] (pc := 50) kX7_linesOfGreatest lX11_224 sC9 rfl rfl (Nat.le_of_ble_eq_true rfl) rfl (Nat.le_of_ble_eq_true rfl) dX11_joined_50 ?_
    refine Ci.mono h ?_
    intro x3 M3 h
    refine V_i2l (pc := 53) dX11_joined_53 ?_
    exact V_lret dX11_joined_54 rfl h
  · have h := h.2.2.2 c
    refine V_ldc2 (pc := 55) dX11_joined_55 nX11_227 ?_
    exact V_lret dX11_joined_58 rfl h
theorem wp_X11_person {G : GV} {k : Nat} {M : Mem} {q : Int32 → Mem → Prop} {v1 : Int32} (h : Ci shC G mX11_noLine (k + 5) [.ref (G.2.1 0), .int v1] M (fun x1 M1 => ((x1 = 0 → Ci shC G mX7_personOf (k + 5) [.ref (G.2.1 9), .int v1] M1 (fun x2 M2 => q x2 M2)) ∧ (¬ x1 = 0 → q (-1000001) M1)))) : Ci shC G mX11_person (k + 6) [.ref (G.2.1 0), .int v1] M q := by
  unfold Ci
  show V _ _ _ _ _ [(0, .ref (G.2.1 0)), (1, .int v1)] _ _ _
  refine V_aload_n (pc := 0) dX11_person_0 rfl ?_
  refine V_iload_n (pc := 1) dX11_person_1 rfl ?_
  refine V_callVi [.int v1] (pc := 2) kX11_noLine lX11_154 sC0 rfl rfl (Nat.le_of_ble_eq_true rfl) rfl (Nat.le_of_ble_eq_true rfl) dX11_person_2 ?_
  refine Ci.mono h ?_
  intro x1 M1 h
  refine V_if_eq (tgt := 13) (pc := 5) dX11_person_5 rfl (fun c => ?_) (fun c => ?_)
  · have h := h.1 c
    refine V_aload_n (pc := 13) dX11_person_13 rfl ?_
    refine V_getR (pc := 14) fX11_69 sC0 rfl dX11_person_14 ?_
    refine V_iload_n (pc := 17) dX11_person_17 rfl ?_
    refine V_callVi [.int v1] (pc := 18) kX7_personOf lX11_229 sC9 rfl rfl (Nat.le_of_ble_eq_true rfl) rfl (Nat.le_of_ble_eq_true rfl) dX11_person_18 ?_
    refine Ci.mono h ?_
    intro x2 M2 h
    exact V_iret dX11_person_21 rfl h
  · have h := h.2 c
    refine V_ldc (pc := 8) dX11_person_8 nX11_91 ?_
    refine V_goto (tgt := 21) (pc := 10) dX11_person_10 rfl ?_
    exact V_iret dX11_person_21 rfl h
theorem wp_X11_stay {G : GV} {k : Nat} {M : Mem} {q : Int32 → Mem → Prop} {v1 : Int32} {v2 : Int32} (h : Ci shC G mX11_noLine (k + 5) [.ref (G.2.1 0), .int v1] M (fun x1 M1 => ((x1 ≠ 0 → q (-1000001) M1) ∧ (x1 = 0 → ((v2 < 0 → q (-1000001) M1) ∧ (¬ v2 < 0 → ((v2 ≤ 3 → Ci shC G mX7_personOf (k + 5) [.ref (G.2.1 9), .int v1] M1 (fun x2 M2 => Ci shC G mX3_firstStanding (k + 5) [.ref (G.2.1 6), .int x2, .int v1] M2 (fun x3 M3 => ((x3 ≠ (-1000000) → (((v2).toInt = 0 → q x3 M3) ∧ ((v2).toInt = 1 → Ci shC G mX3_lastStanding (k + 5) [.ref (G.2.1 6), .int x2, .int v1] M3 (fun x4 M4 => q x4 M4)) ∧ ((v2).toInt = 2 → Ci shC G mX1_gatheredBelow (k + 5) [.ref (G.2.1 3), .int x3] M3 (fun x5 M5 => q x5 M5)) ∧ (((v2).toInt < 0 ∨ 2 < (v2).toInt) → Ci shC G mX3_lastStanding (k + 5) [.ref (G.2.1 6), .int x2, .int v1] M3 (fun x6 M6 => Ci shC G mX1_gatheredAbove (k + 5) [.ref (G.2.1 3), .int x6] M6 (fun x7 M7 => q x7 M7))))) ∧ (x3 = (-1000000) → q (-1000000) M3))))) ∧ (¬ v2 ≤ 3 → q (-1000001) M1)))))))) : Ci shC G mX11_stay (k + 6) [.ref (G.2.1 0), .int v1, .int v2] M q := by
  unfold Ci
  show V _ _ _ _ _ [(0, .ref (G.2.1 0)), (1, .int v1), (2, .int v2)] _ _ _
  refine V_aload_n (pc := 0) dX11_stay_0 rfl ?_
  refine V_iload_n (pc := 1) dX11_stay_1 rfl ?_
  refine V_callVi [.int v1] (pc := 2) kX11_noLine lX11_154 sC0 rfl rfl (Nat.le_of_ble_eq_true rfl) rfl (Nat.le_of_ble_eq_true rfl) dX11_stay_2 ?_
  refine Ci.mono h ?_
  intro x1 M1 h
  refine V_if_ne (tgt := 17) (pc := 5) dX11_stay_5 rfl (fun c => ?_) (fun c => ?_)
  · have h := h.1 c
    refine V_ldc (pc := 17) dX11_stay_17 nX11_91 ?_
    exact V_iret dX11_stay_19 rfl h
  · have h := h.2 c
    refine V_iload_n (pc := 8) dX11_stay_8 rfl ?_
    refine V_if_lt (tgt := 17) (pc := 9) dX11_stay_9 rfl (fun c => ?_) (fun c => ?_)
    · have h := h.1 c
      refine V_ldc (pc := 17) dX11_stay_17 nX11_91 ?_
      exact V_iret dX11_stay_19 rfl h
    · have h := h.2 c
      refine V_iload_n (pc := 12) dX11_stay_12 rfl ?_
      refine V_iconst (v := 3) (pc := 13) dX11_stay_13 rfl ?_
      refine V_icmp_le (tgt := 20) (pc := 14) dX11_stay_14 rfl (fun c => ?_) (fun c => ?_)
      · have h := h.1 c
        refine V_aload_n (pc := 20) dX11_stay_20 rfl ?_
        refine V_getR (pc := 21) fX11_69 sC0 rfl dX11_stay_21 ?_
        refine V_iload_n (pc := 24) dX11_stay_24 rfl ?_
        refine V_callVi [.int v1] (pc := 25) kX7_personOf lX11_229 sC9 rfl rfl (Nat.le_of_ble_eq_true rfl) rfl (Nat.le_of_ble_eq_true rfl) dX11_stay_25 ?_
        refine Ci.mono h ?_
        intro x2 M2 h
        refine V_istore_n (pc := 28) dX11_stay_28 (by decide) ?_
        refine V_aload_n (pc := 29) dX11_stay_29 rfl ?_
        refine V_getR (pc := 30) fX11_47 sC0 rfl dX11_stay_30 ?_
        refine V_iload_n (pc := 33) dX11_stay_33 rfl ?_
        refine V_iload_n (pc := 34) dX11_stay_34 rfl ?_
        refine V_callVi [.int x2, .int v1] (pc := 35) kX3_firstStanding lX11_235 sC6 rfl rfl (Nat.le_of_ble_eq_true rfl) rfl (Nat.le_of_ble_eq_true rfl) dX11_stay_35 ?_
        refine Ci.mono h ?_
        intro x3 M3 h
        refine V_istore (pc := 38) dX11_stay_38 (by decide) ?_
        refine V_iload (pc := 40) dX11_stay_40 rfl ?_
        refine V_ldc (pc := 42) dX11_stay_42 nX11_238 ?_
        refine V_icmp_ne (tgt := 50) (pc := 44) dX11_stay_44 rfl (fun c => ?_) (fun c => ?_)
        · have h := h.1 c
          refine V_iload_n (pc := 50) dX11_stay_50 rfl ?_
          refine V_table (tgt := 99) (pc := 51) dX11_stay_51 rfl rfl rfl ⟨fun c => ?_, fun c => ?_, fun c => ?_, trivial⟩ (fun c => ?_)
          · have h := h.1 c
            show V _ _ _ _ 76 _ _ _ _
            refine V_iload (pc := 76) dX11_stay_76 rfl ?_
            exact V_iret dX11_stay_78 rfl h
          · have h := h.2.1 c
            show V _ _ _ _ 79 _ _ _ _
            refine V_aload_n (pc := 79) dX11_stay_79 rfl ?_
            refine V_getR (pc := 80) fX11_47 sC0 rfl dX11_stay_80 ?_
            refine V_iload_n (pc := 83) dX11_stay_83 rfl ?_
            refine V_iload_n (pc := 84) dX11_stay_84 rfl ?_
            refine V_callVi [.int x2, .int v1] (pc := 85) kX3_lastStanding lX11_239 sC6 rfl rfl (Nat.le_of_ble_eq_true rfl) rfl (Nat.le_of_ble_eq_true rfl) dX11_stay_85 ?_
            refine Ci.mono h ?_
            intro x4 M4 h
            exact V_iret dX11_stay_88 rfl h
          · have h := h.2.2.1 c
            show V _ _ _ _ 89 _ _ _ _
            refine V_aload_n (pc := 89) dX11_stay_89 rfl ?_
            refine V_getR (pc := 90) fX11_26 sC0 rfl dX11_stay_90 ?_
            refine V_iload (pc := 93) dX11_stay_93 rfl ?_
            refine V_callVi [.int x3] (pc := 95) kX1_gatheredBelow lX11_242 sC3 rfl rfl (Nat.le_of_ble_eq_true rfl) rfl (Nat.le_of_ble_eq_true rfl) dX11_stay_95 ?_
            refine Ci.mono h ?_
            intro x5 M5 h
            exact V_iret dX11_stay_98 rfl h
          · have h := h.2.2.2 c
            refine V_aload_n (pc := 99) dX11_stay_99 rfl ?_
            refine V_getR (pc := 100) fX11_26 sC0 rfl dX11_stay_100 ?_
            refine V_aload_n (pc := 103) dX11_stay_103 rfl ?_
            refine V_getR (pc := 104) fX11_47 sC0 rfl dX11_stay_104 ?_
            refine V_iload_n (pc := 107) dX11_stay_107 rfl ?_
            refine V_iload_n (pc := 108) dX11_stay_108 rfl ?_
            refine V_callVi [.int x2, .int v1] (pc := 109) kX3_lastStanding lX11_239 sC6 rfl rfl (Nat.le_of_ble_eq_true rfl) rfl (Nat.le_of_ble_eq_true rfl) dX11_stay_109 ?_
            refine Ci.mono h ?_
            intro x6 M6 h
            refine V_callVi [.int x6] (pc := 112) kX1_gatheredAbove lX11_245 sC3 rfl rfl (Nat.le_of_ble_eq_true rfl) rfl (Nat.le_of_ble_eq_true rfl) dX11_stay_112 ?_
            refine Ci.mono h ?_
            intro x7 M7 h
            exact V_iret dX11_stay_115 rfl h
        · have h := h.2 c
          refine V_ldc (pc := 47) dX11_stay_47 nX11_238 ?_
          exact V_iret dX11_stay_49 rfl h
      · have h := h.2 c
        refine V_ldc (pc := 17) dX11_stay_17 nX11_91 ?_
        exact V_iret dX11_stay_19 rfl h
theorem wp_X11_sure {G : GV} {k : Nat} {M : Mem} {q : Int64 → Mem → Prop} {v1 : Int32} {v2 : Int32} (h : Ci shC G mX11_noLine (k + 5) [.ref (G.2.1 0), .int v1] M (fun x1 M1 => ((x1 ≠ 0 → q (-1000001) M1) ∧ (x1 = 0 → Ci shC G mX11_noLine (k + 5) [.ref (G.2.1 0), .int v2] M1 (fun x2 M2 => ((x2 = 0 → Ci shC G mX7_rivalsWithBoth (k + 5) [.ref (G.2.1 9), .int v1, .int v2] M2 (fun x3 M3 => q (Int32.toInt64 x3) M3)) ∧ (¬ x2 = 0 → q (-1000001) M2))))))) : Cl shC G mX11_sure (k + 6) [.ref (G.2.1 0), .int v1, .int v2] M q := by
  unfold Cl
  show V _ _ _ _ _ [(0, .ref (G.2.1 0)), (1, .int v1), (2, .int v2)] _ _ _
  refine V_aload_n (pc := 0) dX11_sure_0 rfl ?_
  refine V_iload_n (pc := 1) dX11_sure_1 rfl ?_
  refine V_callVi [.int v1] (pc := 2) kX11_noLine lX11_154 sC0 rfl rfl (Nat.le_of_ble_eq_true rfl) rfl (Nat.le_of_ble_eq_true rfl) dX11_sure_2 ?_
  refine Ci.mono h ?_
  intro x1 M1 h
  refine V_if_ne (tgt := 16) (pc := 5) dX11_sure_5 rfl (fun c => ?_) (fun c => ?_)
  · have h := h.1 c
    refine V_ldc2 (pc := 16) dX11_sure_16 nX11_227 ?_
    refine V_goto (tgt := 32) (pc := 19) dX11_sure_19 rfl ?_
    exact V_lret dX11_sure_32 rfl h
  · have h := h.2 c
    refine V_aload_n (pc := 8) dX11_sure_8 rfl ?_
    refine V_iload_n (pc := 9) dX11_sure_9 rfl ?_
    refine V_callVi [.int v2] (pc := 10) kX11_noLine lX11_154 sC0 rfl rfl (Nat.le_of_ble_eq_true rfl) rfl (Nat.le_of_ble_eq_true rfl) dX11_sure_10 ?_
    refine Ci.mono h ?_
    intro x2 M2 h
    refine V_if_eq (tgt := 22) (pc := 13) dX11_sure_13 rfl (fun c => ?_) (fun c => ?_)
    · have h := h.1 c
      refine V_aload_n (pc := 22) dX11_sure_22 rfl ?_
      refine V_getR (pc := 23) fX11_69 sC0 rfl dX11_sure_23 ?_
      refine V_iload_n (pc := 26) dX11_sure_26 rfl ?_
      refine V_iload_n (pc := 27) dX11_sure_27 rfl ?_
      refine V_callVi [.int v1, .int v2] (pc := 28) kX7_rivalsWithBoth lX11_232 sC9 rfl rfl (Nat.le_of_ble_eq_true rfl) rfl (Nat.le_of_ble_eq_true rfl) dX11_sure_28 ?_
      refine Ci.mono h ?_
      intro x3 M3 h
      refine V_i2l (pc := 31) dX11_sure_31 ?_
      exact V_lret dX11_sure_32 rfl h
    · have h := h.2 c
      refine V_ldc2 (pc := 16) dX11_sure_16 nX11_227 ?_
      refine V_goto (tgt := 32) (pc := 19) dX11_sure_19 rfl ?_
      exact V_lret dX11_sure_32 rfl h
theorem wp_X11_read {G : GV} {k : Nat} {M : Mem} {q : Int32 → Mem → Prop}  (h : Ci shC G mX8_readAll (k + 10) [.ref (G.2.1 8)] M (fun x1 M1 => ((x1 ≠ 0 → Cv shC G mX11_keepTold (k + 10) [.ref (G.2.1 0)] (mset M1 2 1 0) (fun M2 => q (M2.1 6 8) M2)) ∧ (x1 = 0 → q ((-1000100) - (M1.1 8 7)) (mset (mset M1 2 1 0) 0 11 (M1.1 8 6)))))) : Ci shC G mX11_read (k + 11) [.ref (G.2.1 0)] M q := by
  unfold Ci
  show V _ _ _ _ _ [(0, .ref (G.2.1 0))] _ _ _
  refine V_aload_n (pc := 0) dX11_read_0 rfl ?_
  refine V_getR (pc := 1) fX11_60 sC0 rfl dX11_read_1 ?_
  refine V_callVi [] (pc := 4) kX8_readAll lX11_134 sC8 rfl rfl (Nat.le_of_ble_eq_true rfl) rfl (Nat.le_of_ble_eq_true rfl) dX11_read_4 ?_
  refine Ci.mono h ?_
  intro x1 M1 h
  refine V_istore_n (pc := 7) dX11_read_7 (by decide) ?_
  refine V_aload_n (pc := 8) dX11_read_8 rfl ?_
  refine V_getR (pc := 9) fX11_19 sC0 rfl dX11_read_9 ?_
  refine V_iconst (v := 0) (pc := 12) dX11_read_12 rfl ?_
  refine V_putI (pc := 13) fX11_125 p10_1 sC2 rfl dX11_read_13 ?_
  refine V_iload_n (pc := 16) dX11_read_16 rfl ?_
  refine V_if_ne (tgt := 42) (pc := 17) dX11_read_17 rfl (fun c => ?_) (fun c => ?_)
  · have h := h.1 c
    refine V_aload_n (pc := 42) dX11_read_42 rfl ?_
    refine V_callVv [] (pc := 43) kX11_keepTold lX11_148 sC0 rfl rfl (Nat.le_of_ble_eq_true rfl) rfl (Nat.le_of_ble_eq_true rfl) dX11_read_43 ?_
    refine Cv.mono h ?_
    intro M2 h
    refine V_aload_n (pc := 46) dX11_read_46 rfl ?_
    refine V_getR (pc := 47) fX11_47 sC0 rfl dX11_read_47 ?_
    refine V_getI (pc := 50) fX11_151 sC6 rfl dX11_read_50 ?_
    exact V_iret dX11_read_53 rfl h
  · have h := h.2 c
    refine V_aload_n (pc := 20) dX11_read_20 rfl ?_
    refine V_aload_n (pc := 21) dX11_read_21 rfl ?_
    refine V_getR (pc := 22) fX11_60 sC0 rfl dX11_read_22 ?_
    refine V_getI (pc := 25) fX11_138 sC8 rfl dX11_read_25 ?_
    refine V_top (v := (M1.1 8 6)) (by simp [mset, lset, upd]) ?_
    refine V_putI (pc := 28) fX11_141 p11_11 sC0 rfl dX11_read_28 ?_
    refine V_ldc (pc := 31) dX11_read_31 nX11_144 ?_
    refine V_aload_n (pc := 33) dX11_read_33 rfl ?_
    refine V_getR (pc := 34) fX11_60 sC0 rfl dX11_read_34 ?_
    refine V_getI (pc := 37) fX11_145 sC8 rfl dX11_read_37 ?_
    refine V_top (v := (M1.1 8 7)) (by simp [mset, lset, upd]) ?_
    refine V_isub (pc := 40) dX11_read_40 ?_
    exact V_iret dX11_read_41 rfl h
