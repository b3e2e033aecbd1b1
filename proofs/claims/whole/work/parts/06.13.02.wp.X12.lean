theorem wp_X12_sorted_one {G : GV} {k : Nat} {M : Mem} {q : Int32 → Mem → Prop} {v1 : Int32} {v2 : Int32} (h : V shM G mX12_sorted (k + 1) 6 [(0, .ref (G.2.1 0)), (1, .int v1), (2, .int v2), (3, .ref (G.2.1 29)), (4, .int 0), (5, .int 1)] [] M (Qi q)) : Ci shM G mX12_sorted (k + 1) [.ref (G.2.1 0), .int v1, .int v2, .ref (G.2.1 29)] M q := by
  unfold Ci
  show V _ _ _ _ _ [(0, .ref (G.2.1 0)), (1, .int v1), (2, .int v2), (3, .ref (G.2.1 29))] _ _ _
  refine V_iconst (v := 0) (pc := 0) dX12_sorted_0 rfl ?_
  refine V_istore (pc := 1) dX12_sorted_1 (by decide) ?_
  refine V_lv (lv2 := [(0, .ref (G.2.1 0)), (1, .int v1), (2, .int v2), (3, .ref (G.2.1 29)), (4, .int 0)]) rfl ?_
  refine V_iconst (v := 1) (pc := 3) dX12_sorted_3 rfl ?_
  refine V_istore (pc := 4) dX12_sorted_4 (by decide) ?_
  refine V_lv (lv2 := [(0, .ref (G.2.1 0)), (1, .int v1), (2, .int v2), (3, .ref (G.2.1 29)), (4, .int 0), (5, .int 1)]) rfl ?_
  exact V_sub h ⟨rfl, rfl, rfl, rfl, rfl, rfl, trivial⟩
theorem wp_X12_sorted_one_6 {G : GV} {k : Nat} {M : Mem} {q : Int32 → Mem → Prop} {v1 : Int32} {v2 : Int32} {v4 : Int32} {v5 : Int32} (h : ((100 ≤ v5 → q v4 M) ∧ (¬ 100 ≤ v5 → V shM G mX12_sorted (k + 1) 16 [(0, .ref (G.2.1 0)), (1, .int v1), (2, .int v2), (3, .ref (G.2.1 29)), (4, .int v4), (5, .int v5), (6, .int 0)] [] M (Qi q)))) : V shM G mX12_sorted (k + 1) 6 [(0, .ref (G.2.1 0)), (1, .int v1), (2, .int v2), (3, .ref (G.2.1 29)), (4, .int v4), (5, .int v5)] [] M (Qi q) := by
  refine V_iload (pc := 6) dX12_sorted_6 rfl ?_
  refine V_bipush (v := 100) (pc := 8) dX12_sorted_8 rfl ?_
  refine V_icmp_ge (tgt := 79) (pc := 10) dX12_sorted_10 rfl (fun c => ?_) (fun c => ?_)
  · have h := h.1 c
    refine V_iload (pc := 79) dX12_sorted_79 rfl ?_
    exact V_iret dX12_sorted_81 rfl h
  · have h := h.2 c
    refine V_iconst (v := 0) (pc := 13) dX12_sorted_13 rfl ?_
    refine V_istore (pc := 14) dX12_sorted_14 (by decide) ?_
    refine V_lv (lv2 := [(0, .ref (G.2.1 0)), (1, .int v1), (2, .int v2), (3, .ref (G.2.1 29)), (4, .int v4), (5, .int v5), (6, .int 0)]) rfl ?_
    exact V_sub h ⟨rfl, rfl, rfl, rfl, rfl, rfl, rfl, trivial⟩
theorem wp_X12_sorted_one_16 {G : GV} {k : Nat} {M : Mem} {q : Int32 → Mem → Prop} {v1 : Int32} {v2 : Int32} {v4 : Int32} {v5 : Int32} {v6 : Int32} (h : (((M.1 0 10) ≤ v6 → V shM G mX12_sorted (k + 1) 6 [(0, .ref (G.2.1 0)), (1, .int v1), (2, .int v2), (3, .ref (G.2.1 29)), (4, .int v4), (5, .int (v5 + 1))] [] M (Qi q)) ∧ (¬ (M.1 0 10) ≤ v6 → vp_in v6 12 ∧ (((M.1 10 (ix v6)) ≠ v1 → V shM G mX12_sorted (k + 1) 16 [(0, .ref (G.2.1 0)), (1, .int v1), (2, .int v2), (3, .ref (G.2.1 29)), (4, .int v4), (5, .int v5), (6, .int (v6 + 1))] [] M (Qi q)) ∧ ((M.1 10 (ix v6)) = v1 → vp_in v6 12 ∧ (((M.1 11 (ix v6)) ≠ v5 → V shM G mX12_sorted (k + 1) 16 [(0, .ref (G.2.1 0)), (1, .int v1), (2, .int v2), (3, .ref (G.2.1 29)), (4, .int v4), (5, .int v5), (6, .int (v6 + 1))] [] M (Qi q)) ∧ ((M.1 11 (ix v6)) = v5 → Ci shM G mX12_gathered k [.ref (G.2.1 0), .int v6] M (fun x1 M1 => ((x1 ≠ v2 → V shM G mX12_sorted (k + 1) 16 [(0, .ref (G.2.1 0)), (1, .int v1), (2, .int v2), (3, .ref (G.2.1 29)), (4, .int v4), (5, .int v5), (6, .int (v6 + 1))] [] M1 (Qi q)) ∧ (x1 = v2 → vp_in v4 12 ∧ V shM G mX12_sorted (k + 1) 16 [(0, .ref (G.2.1 0)), (1, .int v1), (2, .int v2), (3, .ref (G.2.1 29)), (4, .int (v4 + 1)), (5, .int v5), (6, .int (v6 + 1))] [] (mset M1 29 (ix v4) v6) (Qi q))))))))))) : V shM G mX12_sorted (k + 1) 16 [(0, .ref (G.2.1 0)), (1, .int v1), (2, .int v2), (3, .ref (G.2.1 29)), (4, .int v4), (5, .int v5), (6, .int v6)] [] M (Qi q) := by
  refine V_iload (pc := 16) dX12_sorted_16 rfl ?_
  refine V_aload_n (pc := 18) dX12_sorted_18 rfl ?_
  refine V_getI (pc := 19) fX12_227 sM0 rfl dX12_sorted_19 ?_
  refine V_icmp_ge (tgt := 73) (pc := 22) dX12_sorted_22 rfl (fun c => ?_) (fun c => ?_)
  · have h := h.1 c
    refine V_iinc (pc := 73) dX12_sorted_73 rfl (by decide) ?_
    refine V_lv (lv2 := [(0, .ref (G.2.1 0)), (1, .int v1), (2, .int v2), (3, .ref (G.2.1 29)), (4, .int v4), (5, .int (v5 + 1)), (6, .int v6)]) rfl ?_
    refine V_goto (tgt := 6) (pc := 76) dX12_sorted_76 rfl ?_
    exact V_sub h ⟨rfl, rfl, rfl, rfl, rfl, rfl, trivial⟩
  · have h := h.2 c
    refine V_aload_n (pc := 25) dX12_sorted_25 rfl ?_
    refine V_getR (pc := 26) fX12_38 sM0 rfl dX12_sorted_26 ?_
    refine V_iload (pc := 29) dX12_sorted_29 rfl ?_
    refine V_iald (pc := 31) sM10 dX12_sorted_31 h.1 ?_
    have h := h.2
    refine V_iload_n (pc := 32) dX12_sorted_32 rfl ?_
    refine V_icmp_ne (tgt := 67) (pc := 33) dX12_sorted_33 rfl (fun c => ?_) (fun c => ?_)
    · have h := h.1 c
      refine V_iinc (pc := 67) dX12_sorted_67 rfl (by decide) ?_
      refine V_lv (lv2 := [(0, .ref (G.2.1 0)), (1, .int v1), (2, .int v2), (3, .ref (G.2.1 29)), (4, .int v4), (5, .int v5), (6, .int (v6 + 1))]) rfl ?_
      refine V_goto (tgt := 16) (pc := 70) dX12_sorted_70 rfl ?_
      exact V_sub h ⟨rfl, rfl, rfl, rfl, rfl, rfl, rfl, trivial⟩
    · have h := h.2 c
      refine V_aload_n (pc := 36) dX12_sorted_36 rfl ?_
      refine V_getR (pc := 37) fX12_41 sM0 rfl dX12_sorted_37 ?_
      refine V_iload (pc := 40) dX12_sorted_40 rfl ?_
      refine V_iald (pc := 42) sM11 dX12_sorted_42 h.1 ?_
      have h := h.2
      refine V_iload (pc := 43) dX12_sorted_43 rfl ?_
      refine V_icmp_ne (tgt := 67) (pc := 45) dX12_sorted_45 rfl (fun c => ?_) (fun c => ?_)
      · have h := h.1 c
        refine V_iinc (pc := 67) dX12_sorted_67 rfl (by decide) ?_
        refine V_lv (lv2 := [(0, .ref (G.2.1 0)), (1, .int v1), (2, .int v2), (3, .ref (G.2.1 29)), (4, .int v4), (5, .int v5), (6, .int (v6 + 1))]) rfl ?_
        refine V_goto (tgt := 16) (pc := 70) dX12_sorted_70 rfl ?_
        exact V_sub h ⟨rfl, rfl, rfl, rfl, rfl, rfl, rfl, trivial⟩
      · have h := h.2 c
        refine V_aload_n (pc := 48) dX12_sorted_48 rfl ?_
        refine V_iload (pc := 49) dX12_sorted_49 rfl ?_
        refine V_callVi [.int v6] (pc := 51) kX12_gathered lX12_246 sM0 rfl rfl (Nat.le_of_ble_eq_true rfl) rfl (Nat.le_of_ble_eq_true rfl) dX12_sorted_51 ?_
        refine Ci.mono h ?_
        intro x1 M1 h
        refine V_iload_n (pc := 54) dX12_sorted_54 rfl ?_
        refine V_icmp_ne (tgt := 67) (pc := 55) dX12_sorted_55 rfl (fun c => ?_) (fun c => ?_)
        · have h := h.1 c
          refine V_iinc (pc := 67) dX12_sorted_67 rfl (by decide) ?_
          refine V_lv (lv2 := [(0, .ref (G.2.1 0)), (1, .int v1), (2, .int v2), (3, .ref (G.2.1 29)), (4, .int v4), (5, .int v5), (6, .int (v6 + 1))]) rfl ?_
          refine V_goto (tgt := 16) (pc := 70) dX12_sorted_70 rfl ?_
          exact V_sub h ⟨rfl, rfl, rfl, rfl, rfl, rfl, rfl, trivial⟩
        · have h := h.2 c
          refine V_aload_n (pc := 58) dX12_sorted_58 rfl ?_
          refine V_iload (pc := 59) dX12_sorted_59 rfl ?_
          refine V_iload (pc := 61) dX12_sorted_61 rfl ?_
          refine V_iast (pc := 63) sM29 dX12_sorted_63 h.1 ?_
          have h := h.2
          refine V_iinc (pc := 64) dX12_sorted_64 rfl (by decide) ?_
          refine V_lv (lv2 := [(0, .ref (G.2.1 0)), (1, .int v1), (2, .int v2), (3, .ref (G.2.1 29)), (4, .int (v4 + 1)), (5, .int v5), (6, .int v6)]) rfl ?_
          refine V_iinc (pc := 67) dX12_sorted_67 rfl (by decide) ?_
          refine V_lv (lv2 := [(0, .ref (G.2.1 0)), (1, .int v1), (2, .int v2), (3, .ref (G.2.1 29)), (4, .int (v4 + 1)), (5, .int v5), (6, .int (v6 + 1))]) rfl ?_
          refine V_goto (tgt := 16) (pc := 70) dX12_sorted_70 rfl ?_
          exact V_sub h ⟨rfl, rfl, rfl, rfl, rfl, rfl, rfl, trivial⟩
theorem wp_X12_sorted_other {G : GV} {k : Nat} {M : Mem} {q : Int32 → Mem → Prop} {v1 : Int32} {v2 : Int32} (h : V shM G mX12_sorted (k + 1) 6 [(0, .ref (G.2.1 0)), (1, .int v1), (2, .int v2), (3, .ref (G.2.1 30)), (4, .int 0), (5, .int 1)] [] M (Qi q)) : Ci shM G mX12_sorted (k + 1) [.ref (G.2.1 0), .int v1, .int v2, .ref (G.2.1 30)] M q := by
  unfold Ci
  show V _ _ _ _ _ [(0, .ref (G.2.1 0)), (1, .int v1), (2, .int v2), (3, .ref (G.2.1 30))] _ _ _
  refine V_iconst (v := 0) (pc := 0) dX12_sorted_0 rfl ?_
  refine V_istore (pc := 1) dX12_sorted_1 (by decide) ?_
  refine V_lv (lv2 := [(0, .ref (G.2.1 0)), (1, .int v1), (2, .int v2), (3, .ref (G.2.1 30)), (4, .int 0)]) rfl ?_
  refine V_iconst (v := 1) (pc := 3) dX12_sorted_3 rfl ?_
  refine V_istore (pc := 4) dX12_sorted_4 (by decide) ?_
  refine V_lv (lv2 := [(0, .ref (G.2.1 0)), (1, .int v1), (2, .int v2), (3, .ref (G.2.1 30)), (4, .int 0), (5, .int 1)]) rfl ?_
  exact V_sub h ⟨rfl, rfl, rfl, rfl, rfl, rfl, trivial⟩
theorem wp_X12_sorted_other_6 {G : GV} {k : Nat} {M : Mem} {q : Int32 → Mem → Prop} {v1 : Int32} {v2 : Int32} {v4 : Int32} {v5 : Int32} (h : ((100 ≤ v5 → q v4 M) ∧ (¬ 100 ≤ v5 → V shM G mX12_sorted (k + 1) 16 [(0, .ref (G.2.1 0)), (1, .int v1), (2, .int v2), (3, .ref (G.2.1 30)), (4, .int v4), (5, .int v5), (6, .int 0)] [] M (Qi q)))) : V shM G mX12_sorted (k + 1) 6 [(0, .ref (G.2.1 0)), (1, .int v1), (2, .int v2), (3, .ref (G.2.1 30)), (4, .int v4), (5, .int v5)] [] M (Qi q) := by
  refine V_iload (pc := 6) dX12_sorted_6 rfl ?_
  refine V_bipush (v := 100) (pc := 8) dX12_sorted_8 rfl ?_
  refine V_icmp_ge (tgt := 79) (pc := 10) dX12_sorted_10 rfl (fun c => ?_) (fun c => ?_)
  · have h := h.1 c
    refine V_iload (pc := 79) dX12_sorted_79 rfl ?_
    exact V_iret dX12_sorted_81 rfl h
  · have h := h.2 c
    refine V_iconst (v := 0) (pc := 13) dX12_sorted_13 rfl ?_
    refine V_istore (pc := 14) dX12_sorted_14 (by decide) ?_
    refine V_lv (lv2 := [(0, .ref (G.2.1 0)), (1, .int v1), (2, .int v2), (3, .ref (G.2.1 30)), (4, .int v4), (5, .int v5), (6, .int 0)]) rfl ?_
    exact V_sub h ⟨rfl, rfl, rfl, rfl, rfl, rfl, rfl, trivial⟩
theorem wp_X12_sorted_other_16 {G : GV} {k : Nat} {M : Mem} {q : Int32 → Mem → Prop} {v1 : Int32} {v2 : Int32} {v4 : Int32} {v5 : Int32} {v6 : Int32} (h : (((M.1 0 10) ≤ v6 → V shM G mX12_sorted (k + 1) 6 [(0, .ref (G.2.1 0)), (1, .int v1), (2, .int v2), (3, .ref (G.2.1 30)), (4, .int v4), (5, .int (v5 + 1))] [] M (Qi q)) ∧ (¬ (M.1 0 10) ≤ v6 → vp_in v6 12 ∧ (((M.1 10 (ix v6)) ≠ v1 → V shM G mX12_sorted (k + 1) 16 [(0, .ref (G.2.1 0)), (1, .int v1), (2, .int v2), (3, .ref (G.2.1 30)), (4, .int v4), (5, .int v5), (6, .int (v6 + 1))] [] M (Qi q)) ∧ ((M.1 10 (ix v6)) = v1 → vp_in v6 12 ∧ (((M.1 11 (ix v6)) ≠ v5 → V shM G mX12_sorted (k + 1) 16 [(0, .ref (G.2.1 0)), (1, .int v1), (2, .int v2), (3, .ref (G.2.1 30)), (4, .int v4), (5, .int v5), (6, .int (v6 + 1))] [] M (Qi q)) ∧ ((M.1 11 (ix v6)) = v5 → Ci shM G mX12_gathered k [.ref (G.2.1 0), .int v6] M (fun x1 M1 => ((x1 ≠ v2 → V shM G mX12_sorted (k + 1) 16 [(0, .ref (G.2.1 0)), (1, .int v1), (2, .int v2), (3, .ref (G.2.1 30)), (4, .int v4), (5, .int v5), (6, .int (v6 + 1))] [] M1 (Qi q)) ∧ (x1 = v2 → vp_in v4 12 ∧ V shM G mX12_sorted (k + 1) 16 [(0, .ref (G.2.1 0)), (1, .int v1), (2, .int v2), (3, .ref (G.2.1 30)), (4, .int (v4 + 1)), (5, .int v5), (6, .int (v6 + 1))] [] (mset M1 30 (ix v4) v6) (Qi q))))))))))) : V shM G mX12_sorted (k + 1) 16 [(0, .ref (G.2.1 0)), (1, .int v1), (2, .int v2), (3, .ref (G.2.1 30)), (4, .int v4), (5, .int v5), (6, .int v6)] [] M (Qi q) := by
  refine V_iload (pc := 16) dX12_sorted_16 rfl ?_
  refine V_aload_n (pc := 18) dX12_sorted_18 rfl ?_
  refine V_getI (pc := 19) fX12_227 sM0 rfl dX12_sorted_19 ?_
  refine V_icmp_ge (tgt := 73) (pc := 22) dX12_sorted_22 rfl (fun c => ?_) (fun c => ?_)
  · have h := h.1 c
    refine V_iinc (pc := 73) dX12_sorted_73 rfl (by decide) ?_
    refine V_lv (lv2 := [(0, .ref (G.2.1 0)), (1, .int v1), (2, .int v2), (3, .ref (G.2.1 30)), (4, .int v4), (5, .int (v5 + 1)), (6, .int v6)]) rfl ?_
    refine V_goto (tgt := 6) (pc := 76) dX12_sorted_76 rfl ?_
    exact V_sub h ⟨rfl, rfl, rfl, rfl, rfl, rfl, trivial⟩
  · have h := h.2 c
    refine V_aload_n (pc := 25) dX12_sorted_25 rfl ?_
    refine V_getR (pc := 26) fX12_38 sM0 rfl dX12_sorted_26 ?_
    refine V_iload (pc := 29) dX12_sorted_29 rfl ?_
    refine V_iald (pc := 31) sM10 dX12_sorted_31 h.1 ?_
    have h := h.2
    refine V_iload_n (pc := 32) dX12_sorted_32 rfl ?_
    refine V_icmp_ne (tgt := 67) (pc := 33) dX12_sorted_33 rfl (fun c => ?_) (fun c => ?_)
    · have h := h.1 c
      refine V_iinc (pc := 67) dX12_sorted_67 rfl (by decide) ?_
      refine V_lv (lv2 := [(0, .ref (G.2.1 0)), (1, .int v1), (2, .int v2), (3, .ref (G.2.1 30)), (4, .int v4), (5, .int v5), (6, .int (v6 + 1))]) rfl ?_
      refine V_goto (tgt := 16) (pc := 70) dX12_sorted_70 rfl ?_
      exact V_sub h ⟨rfl, rfl, rfl, rfl, rfl, rfl, rfl, trivial⟩
    · have h := h.2 c
      refine V_aload_n (pc := 36) dX12_sorted_36 rfl ?_
      refine V_getR (pc := 37) fX12_41 sM0 rfl dX12_sorted_37 ?_
      refine V_iload (pc := 40) dX12_sorted_40 rfl ?_
      refine V_iald (pc := 42) sM11 dX12_sorted_42 h.1 ?_
      have h := h.2
      refine V_iload (pc := 43) dX12_sorted_43 rfl ?_
      refine V_icmp_ne (tgt := 67) (pc := 45) dX12_sorted_45 rfl (fun c => ?_) (fun c => ?_)
      · have h := h.1 c
        refine V_iinc (pc := 67) dX12_sorted_67 rfl (by decide) ?_
        refine V_lv (lv2 := [(0, .ref (G.2.1 0)), (1, .int v1), (2, .int v2), (3, .ref (G.2.1 30)), (4, .int v4), (5, .int v5), (6, .int (v6 + 1))]) rfl ?_
        refine V_goto (tgt := 16) (pc := 70) dX12_sorted_70 rfl ?_
        exact V_sub h ⟨rfl, rfl, rfl, rfl, rfl, rfl, rfl, trivial⟩
      · have h := h.2 c
        refine V_aload_n (pc := 48) dX12_sorted_48 rfl ?_
        refine V_iload (pc := 49) dX12_sorted_49 rfl ?_
        refine V_callVi [.int v6] (pc := 51) kX12_gathered lX12_246 sM0 rfl rfl (Nat.le_of_ble_eq_true rfl) rfl (Nat.le_of_ble_eq_true rfl) dX12_sorted_51 ?_
        refine Ci.mono h ?_
        intro x1 M1 h
        refine V_iload_n (pc := 54) dX12_sorted_54 rfl ?_
        refine V_icmp_ne (tgt := 67) (pc := 55) dX12_sorted_55 rfl (fun c => ?_) (fun c => ?_)
        · have h := h.1 c
          refine V_iinc (pc := 67) dX12_sorted_67 rfl (by decide) ?_
          refine V_lv (lv2 := [(0, .ref (G.2.1 0)), (1, .int v1), (2, .int v2), (3, .ref (G.2.1 30)), (4, .int v4), (5, .int v5), (6, .int (v6 + 1))]) rfl ?_
          refine V_goto (tgt := 16) (pc := 70) dX12_sorted_70 rfl ?_
          exact V_sub h ⟨rfl, rfl, rfl, rfl, rfl, rfl, rfl, trivial⟩
        · have h := h.2 c
          refine V_aload_n (pc := 58) dX12_sorted_58 rfl ?_
          refine V_iload (pc := 59) dX12_sorted_59 rfl ?_
          refine V_iload (pc := 61) dX12_sorted_61 rfl ?_
          refine V_iast (pc := 63) sM30 dX12_sorted_63 h.1 ?_
          have h := h.2
          refine V_iinc (pc := 64) dX12_sorted_64 rfl (by decide) ?_
          refine V_lv (lv2 := [(0, .ref (G.2.1 0)), (1, .int v1), (2, .int v2), (3, .ref (G.2.1 30)), (4, .int (v4 + 1)), (5, .int v5), (6, .int v6)]) rfl ?_
          refine V_iinc (pc := 67) dX12_sorted_67 rfl (by decide) ?_
          refine V_lv (lv2 := [(0, .ref (G.2.1 0)), (1, .int v1), (2, .int v2), (3, .ref (G.2.1 30)), (4, .int (v4 + 1)), (5, .int v5), (6, .int (v6 + 1))]) rfl ?_
          refine V_goto (tgt := 16) (pc := 70) dX12_sorted_70 rfl ?_
          exact V_sub h ⟨rfl, rfl, rfl, rfl, rfl, rfl, rfl, trivial⟩
theorem wp_X12_step {G : GV} {k : Nat} {M : Mem} {q : Mem → Prop}  (h : V shM G mX12_step (k + 1) 0 [(0, .ref (G.2.1 0))] [] M (Qv q)) : Cv shM G mX12_step (k + 1) [.ref (G.2.1 0)] M q := by
  unfold Cv
  show V _ _ _ _ _ [(0, .ref (G.2.1 0))] _ _ _
  exact V_sub h ⟨rfl, trivial⟩
theorem wp_X12_step_0 {G : GV} {k : Nat} {M : Mem} {q : Mem → Prop}  (h : Ci shM G mX12_byteAt k [.ref (G.2.1 0), .int (M.1 0 32)] M (fun x1 M1 => ((x1 = 32 → V shM G mX12_step (k + 1) 0 [(0, .ref (G.2.1 0))] [] (mset M1 0 32 ((M1.1 0 32) + 1)) (Qv q)) ∧ (¬ x1 = 32 → Ci shM G mX12_byteAt k [.ref (G.2.1 0), .int (M1.1 0 32)] M1 (fun x2 M2 => ((x2 ≠ 10 → Ci shM G mX12_byteAt k [.ref (G.2.1 0), .int (M2.1 0 32)] (mset M2 0 34 (M2.1 0 32)) (fun x3 M3 => ((x3 ≠ (-1000000) → Ci shM G mX12_isLetter k [.int x3] M3 (fun x4 M4 => ((x4 = 0 → Ci shM G mX12_isFigure k [.int x3] M4 (fun x5 M5 => ((x5 = 0 → ((x3 ≠ 59 → q (mset (mset (mset M5 0 32 ((M5.1 0 32) + 1)) 0 33 0) 0 35 ((M5.1 0 32) + 1))) ∧ (x3 = 59 → q (mset (mset (mset M5 0 32 ((M5.1 0 32) + 1)) 0 33 4) 0 35 ((M5.1 0 32) + 1))))) ∧ (¬ x5 = 0 → V shM G mX12_step (k + 1) 119 [(0, .ref (G.2.1 0)), (1, .int x3)] [] M5 (Qv q))))) ∧ (¬ x4 = 0 → V shM G mX12_step (k + 1) 77 [(0, .ref (G.2.1 0)), (1, .int x3)] [] M4 (Qv q))))) ∧ (x3 = (-1000000) → q (mset (mset M3 0 33 1) 0 35 (M3.1 0 32)))))) ∧ (x2 = 10 → V shM G mX12_step (k + 1) 0 [(0, .ref (G.2.1 0))] [] (mset M2 0 32 ((M2.1 0 32) + 1)) (Qv q)))))))) : V shM G mX12_step (k + 1) 0 [(0, .ref (G.2.1 0))] [] M (Qv q) := by
  refine V_aload_n (pc := 0) dX12_step_0 rfl ?_
  refine V_aload_n (pc := 1) dX12_step_1 rfl ?_
  refine V_getI (pc := 2) fX12_145 sM0 rfl dX12_step_2 ?_
  refine V_callVi [.int (M.1 0 32)] (pc := 5) kX12_byteAt lX12_148 sM0 rfl rfl (Nat.le_of_ble_eq_true rfl) rfl (Nat.le_of_ble_eq_true rfl) dX12_step_5 ?_
  refine Ci.mono h ?_
  intro x1 M1 h
  refine V_bipush (v := 32) (pc := 8) dX12_step_8 rfl ?_
  refine V_icmp_eq (tgt := 26) (pc := 10) dX12_step_10 rfl (fun c => ?_) (fun c => ?_)
  · have h := h.1 c
    refine V_aload_n (pc := 26) dX12_step_26 rfl ?_
    refine V_dup (pc := 27) dX12_step_27 rfl ?_
    refine V_getI (pc := 28) fX12_145 sM0 rfl dX12_step_28 ?_
    refine V_iconst (v := 1) (pc := 31) dX12_step_31 rfl ?_
    refine V_iadd (pc := 32) dX12_step_32 ?_
    refine V_putI (pc := 33) fX12_145 p12_32 sM0 rfl dX12_step_33 ?_
    refine V_goto (tgt := 0) (pc := 36) dX12_step_36 rfl ?_
    exact V_sub h ⟨rfl, trivial⟩
  · have h := h.2 c
    refine V_aload_n (pc := 13) dX12_step_13 rfl ?_
    refine V_aload_n (pc := 14) dX12_step_14 rfl ?_
    refine V_getI (pc := 15) fX12_145 sM0 rfl dX12_step_15 ?_
    refine V_callVi [.int (M1.1 0 32)] (pc := 18) kX12_byteAt lX12_148 sM0 rfl rfl (Nat.le_of_ble_eq_true rfl) rfl (Nat.le_of_ble_eq_true rfl) dX12_step_18 ?_
    refine Ci.mono h ?_
    intro x2 M2 h
    refine V_bipush (v := 10) (pc := 21) dX12_step_21 rfl ?_
    refine V_icmp_ne (tgt := 39) (pc := 23) dX12_step_23 rfl (fun c => ?_) (fun c => ?_)
    · have h := h.1 c
      refine V_aload_n (pc := 39) dX12_step_39 rfl ?_
      refine V_aload_n (pc := 40) dX12_step_40 rfl ?_
      refine V_getI (pc := 41) fX12_145 sM0 rfl dX12_step_41 ?_
      refine V_putI (pc := 44) fX12_151 p12_34 sM0 rfl dX12_step_44 ?_
      refine V_aload_n (pc := 47) dX12_step_47 rfl ?_
      refine V_aload_n (pc := 48) dX12_step_48 rfl ?_
      refine V_getI (pc := 49) fX12_145 sM0 rfl dX12_step_49 ?_
      refine V_top (v := (M2.1 0 32)) (by simp [mset, lset, upd]) ?_
      refine V_callVi [.int (M2.1 0 32)] (pc := 52) kX12_byteAt lX12_148 sM0 rfl rfl (Nat.le_of_ble_eq_true rfl) rfl (Nat.le_of_ble_eq_true rfl) dX12_step_52 ?_
      refine Ci.mono h ?_
      intro x3 M3 h
      refine V_istore_n (pc := 55) dX12_step_55 (by decide) ?_
      refine V_lv (lv2 := [(0, .ref (G.2.1 0)), (1, .int x3)]) rfl ?_
      refine V_iload_n (pc := 56) dX12_step_56 rfl ?_
      refine V_ldc (pc := 57) dX12_step_57 nX12_144 ?_
      refine V_icmp_ne (tgt := 70) (pc := 59) dX12_step_59 rfl (fun c => ?_) (fun c => ?_)
      · have h := h.1 c
        refine V_iload_n (pc := 70) dX12_step_70 rfl ?_
        refine V_callSi [.int x3] (pc := 71) kX12_isLetter lX12_157 rfl (Nat.le_of_ble_eq_true rfl) rfl (Nat.le_of_ble_eq_true rfl) dX12_step_71 ?_
        refine Ci.mono h ?_
        intro x4 M4 h
        refine V_if_eq (tgt := 112) (pc := 74) dX12_step_74 rfl (fun c => ?_) (fun c => ?_)
        · have h := h.1 c
          refine V_iload_n (pc := 112) dX12_step_112 rfl ?_
          refine V_callSi [.int x3] (pc := 113) kX12_isFigure lX12_160 rfl (Nat.le_of_ble_eq_true rfl) rfl (Nat.le_of_ble_eq_true rfl) dX12_step_113 ?_
          refine Ci.mono h ?_
          intro x5 M5 h
          refine V_if_eq (tgt := 171) (pc := 116) dX12_step_116 rfl (fun c => ?_) (fun c => ?_)
          · have h := h.1 c
            refine V_aload_n (pc := 171) dX12_step_171 rfl ?_
            refine V_dup (pc := 172) dX12_step_172 rfl ?_
            refine V_getI (pc := 173) fX12_145 sM0 rfl dX12_step_173 ?_
            refine V_iconst (v := 1) (pc := 176) dX12_step_176 rfl ?_
            refine V_iadd (pc := 177) dX12_step_177 ?_
            refine V_putI (pc := 178) fX12_145 p12_32 sM0 rfl dX12_step_178 ?_
            refine V_aload_n (pc := 181) dX12_step_181 rfl ?_
            refine V_iload_n (pc := 182) dX12_step_182 rfl ?_
            refine V_bipush (v := 59) (pc := 183) dX12_step_183 rfl ?_
            refine V_icmp_ne (tgt := 192) (pc := 185) dX12_step_185 rfl (fun c => ?_) (fun c => ?_)
            · have h := h.1 c
              refine V_iconst (v := 0) (pc := 192) dX12_step_192 rfl ?_
              refine V_putI (pc := 193) fX12_154 p12_33 sM0 rfl dX12_step_193 ?_
              refine V_aload_n (pc := 196) dX12_step_196 rfl ?_
              refine V_aload_n (pc := 197) dX12_step_197 rfl ?_
              refine V_getI (pc := 198) fX12_145 sM0 rfl dX12_step_198 ?_
              refine V_top (v := ((M5.1 0 32) + 1)) (by simp [mset, lset, upd]) ?_
              refine V_putI (pc := 201) fX12_163 p12_35 sM0 rfl dX12_step_201 ?_
              exact V_vret dX12_step_204 rfl h
            · have h := h.2 c
              refine V_iconst (v := 4) (pc := 188) dX12_step_188 rfl ?_
              refine V_goto (tgt := 193) (pc := 189) dX12_step_189 rfl ?_
              refine V_putI (pc := 193) fX12_154 p12_33 sM0 rfl dX12_step_193 ?_
              refine V_aload_n (pc := 196) dX12_step_196 rfl ?_
              refine V_aload_n (pc := 197) dX12_step_197 rfl ?_
              refine V_getI (pc := 198) fX12_145 sM0 rfl dX12_step_198 ?_
              refine V_top (v := ((M5.1 0 32) + 1)) (by simp [mset, lset, upd]) ?_
              refine V_putI (pc := 201) fX12_163 p12_35 sM0 rfl dX12_step_201 ?_
              exact V_vret dX12_step_204 rfl h
          · have h := h.2 c
            exact V_sub h ⟨rfl, rfl, trivial⟩
        · have h := h.2 c
          exact V_sub h ⟨rfl, rfl, trivial⟩
      · have h := h.2 c
        refine V_aload_n (pc := 62) dX12_step_62 rfl ?_
        refine V_iconst (v := 1) (pc := 63) dX12_step_63 rfl ?_
        refine V_putI (pc := 64) fX12_154 p12_33 sM0 rfl dX12_step_64 ?_
        refine V_goto (tgt := 196) (pc := 67) dX12_step_67 rfl ?_
        refine V_aload_n (pc := 196) dX12_step_196 rfl ?_
        refine V_aload_n (pc := 197) dX12_step_197 rfl ?_
        refine V_getI (pc := 198) fX12_145 sM0 rfl dX12_step_198 ?_
        refine V_top (v := (M3.1 0 32)) (by simp [mset, lset, upd]) ?_
        refine V_putI (pc := 201) fX12_163 p12_35 sM0 rfl dX12_step_201 ?_
        exact V_vret dX12_step_204 rfl h
    · have h := h.2 c
      refine V_aload_n (pc := 26) dX12_step_26 rfl ?_
      refine V_dup (pc := 27) dX12_step_27 rfl ?_
      refine V_getI (pc := 28) fX12_145 sM0 rfl dX12_step_28 ?_
      refine V_iconst (v := 1) (pc := 31) dX12_step_31 rfl ?_
      refine V_iadd (pc := 32) dX12_step_32 ?_
      refine V_putI (pc := 33) fX12_145 p12_32 sM0 rfl dX12_step_33 ?_
      refine V_goto (tgt := 0) (pc := 36) dX12_step_36 rfl ?_
      exact V_sub h ⟨rfl, trivial⟩
theorem wp_X12_step_77 {G : GV} {k : Nat} {M : Mem} {q : Mem → Prop} {v1 : Int32} (h : Ci shM G mX12_byteAt k [.ref (G.2.1 0), .int (M.1 0 32)] M (fun x1 M1 => Ci shM G mX12_isLetter k [.int x1] M1 (fun x2 M2 => ((x2 = 0 → q (mset (mset M2 0 33 2) 0 35 (M2.1 0 32))) ∧ (¬ x2 = 0 → V shM G mX12_step (k + 1) 77 [(0, .ref (G.2.1 0)), (1, .int v1)] [] (mset M2 0 32 ((M2.1 0 32) + 1)) (Qv q)))))) : V shM G mX12_step (k + 1) 77 [(0, .ref (G.2.1 0)), (1, .int v1)] [] M (Qv q) := by
  refine V_aload_n (pc := 77) dX12_step_77 rfl ?_
  refine V_aload_n (pc := 78) dX12_step_78 rfl ?_
  refine V_getI (pc := 79) fX12_145 sM0 rfl dX12_step_79 ?_
  refine V_callVi [.int (M.1 0 32)] (pc := 82) kX12_byteAt lX12_148 sM0 rfl rfl (Nat.le_of_ble_eq_true rfl) rfl (Nat.le_of_ble_eq_true rfl) dX12_step_82 ?_
  refine Ci.mono h ?_
  intro x1 M1 h
  refine V_callSi [.int x1] (pc := 85) kX12_isLetter lX12_157 rfl (Nat.le_of_ble_eq_true rfl) rfl (Nat.le_of_ble_eq_true rfl) dX12_step_85 ?_
  refine Ci.mono h ?_
  intro x2 M2 h
  refine V_if_eq (tgt := 104) (pc := 88) dX12_step_88 rfl (fun c => ?_) (fun c => ?_)
  · have h := h.1 c
    refine V_aload_n (pc := 104) dX12_step_104 rfl ?_
    refine V_iconst (v := 2) (pc := 105) dX12_step_105 rfl ?_
    refine V_putI (pc := 106) fX12_154 p12_33 sM0 rfl dX12_step_106 ?_
    refine V_goto (tgt := 196) (pc := 109) dX12_step_109 rfl ?_
    refine V_aload_n (pc := 196) dX12_step_196 rfl ?_
    refine V_aload_n (pc := 197) dX12_step_197 rfl ?_
    refine V_getI (pc := 198) fX12_145 sM0 rfl dX12_step_198 ?_
    refine V_top (v := (M2.1 0 32)) (by simp [mset, lset, upd]) ?_
    refine V_putI (pc := 201) fX12_163 p12_35 sM0 rfl dX12_step_201 ?_
    exact V_vret dX12_step_204 rfl h
  · have h := h.2 c
    refine V_aload_n (pc := 91) dX12_step_91 rfl ?_
    refine V_dup (pc := 92) dX12_step_92 rfl ?_
    refine V_getI (pc := 93) fX12_145 sM0 rfl dX12_step_93 ?_
    refine V_iconst (v := 1) (pc := 96) dX12_step_96 rfl ?_
    refine V_iadd (pc := 97) dX12_step_97 ?_
    refine V_putI (pc := 98) fX12_145 p12_32 sM0 rfl dX12_step_98 ?_
    refine V_goto (tgt := 77) (pc := 101) dX12_step_101 rfl ?_
    exact V_sub h ⟨rfl, rfl, trivial⟩
theorem wp_X12_step_119 {G : GV} {k : Nat} {M : Mem} {q : Mem → Prop} {v1 : Int32} (h : Ci shM G mX12_byteAt k [.ref (G.2.1 0), .int (M.1 0 32)] M (fun x1 M1 => Ci shM G mX12_isFigure k [.int x1] M1 (fun x2 M2 => ((x2 = 0 → ((((M2.1 0 32) - (M2.1 0 34)) ≤ 4 → q (mset (mset M2 0 33 3) 0 35 (M2.1 0 32))) ∧ (¬ ((M2.1 0 32) - (M2.1 0 34)) ≤ 4 → q (mset (mset M2 0 33 0) 0 35 (M2.1 0 32))))) ∧ (¬ x2 = 0 → V shM G mX12_step (k + 1) 119 [(0, .ref (G.2.1 0)), (1, .int v1)] [] (mset M2 0 32 ((M2.1 0 32) + 1)) (Qv q)))))) : V shM G mX12_step (k + 1) 119 [(0, .ref (G.2.1 0)), (1, .int v1)] [] M (Qv q) := by
  refine V_aload_n (pc := 119) dX12_step_119 rfl ?_
  refine V_aload_n (pc := 120) dX12_step_120 rfl ?_
  refine V_getI (pc := 121) fX12_145 sM0 rfl dX12_step_121 ?_
  refine V_callVi [.int (M.1 0 32)] (pc := 124) kX12_byteAt lX12_148 sM0 rfl rfl (Nat.le_of_ble_eq_true rfl) rfl (Nat.le_of_ble_eq_true rfl) dX12_step_124 ?_
  refine Ci.mono h ?_
  intro x1 M1 h
  refine V_callSi [.int x1] (pc := 127) kX12_isFigure lX12_160 rfl (Nat.le_of_ble_eq_true rfl) rfl (Nat.le_of_ble_eq_true rfl) dX12_step_127 ?_
  refine Ci.mono h ?_
  intro x2 M2 h
  refine V_if_eq (tgt := 146) (pc := 130) dX12_step_130 rfl (fun c => ?_) (fun c => ?_)
  · have h := h.1 c
    refine V_aload_n (pc := 146) dX12_step_146 rfl ?_
    refine V_aload_n (pc := 147) dX12_step_147 rfl ?_
    refine V_getI (pc := 148) fX12_145 sM0 rfl dX12_step_148 ?_
    refine V_aload_n (pc := 151) dX12_step_151 rfl ?_
    refine V_getI (pc := 152) fX12_151 sM0 rfl dX12_step_152 ?_
    refine V_isub (pc := 155) dX12_step_155 ?_
    refine V_iconst (v := 4) (pc := 156) dX12_step_156 rfl ?_
    refine V_icmp_le (tgt := 164) (pc := 157) dX12_step_157 rfl (fun c => ?_) (fun c => ?_)
    · have h := h.1 c
      refine V_iconst (v := 3) (pc := 164) dX12_step_164 rfl ?_
      refine V_putI (pc := 165) fX12_154 p12_33 sM0 rfl dX12_step_165 ?_
      refine V_goto (tgt := 196) (pc := 168) dX12_step_168 rfl ?_
      refine V_aload_n (pc := 196) dX12_step_196 rfl ?_
      refine V_aload_n (pc := 197) dX12_step_197 rfl ?_
      refine V_getI (pc := 198) fX12_145 sM0 rfl dX12_step_198 ?_
      refine V_top (v := (M2.1 0 32)) (by simp [mset, lset, upd]) ?_
      refine V_putI (pc := 201) fX12_163 p12_35 sM0 rfl dX12_step_201 ?_
      exact V_vret dX12_step_204 rfl h
    · have h := h.2 c
      refine V_iconst (v := 0) (pc := 160) dX12_step_160 rfl ?_
      refine V_goto (tgt := 165) (pc := 161) dX12_step_161 rfl ?_
      refine V_putI (pc := 165) fX12_154 p12_33 sM0 rfl dX12_step_165 ?_
      refine V_goto (tgt := 196) (pc := 168) dX12_step_168 rfl ?_
      refine V_aload_n (pc := 196) dX12_step_196 rfl ?_
      refine V_aload_n (pc := 197) dX12_step_197 rfl ?_
      refine V_getI (pc := 198) fX12_145 sM0 rfl dX12_step_198 ?_
      refine V_top (v := (M2.1 0 32)) (by simp [mset, lset, upd]) ?_
      refine V_putI (pc := 201) fX12_163 p12_35 sM0 rfl dX12_step_201 ?_
      exact V_vret dX12_step_204 rfl h
  · have h := h.2 c
    refine V_aload_n (pc := 133) dX12_step_133 rfl ?_
    refine V_dup (pc := 134) dX12_step_134 rfl ?_
    refine V_getI (pc := 135) fX12_145 sM0 rfl dX12_step_135 ?_
    refine V_iconst (v := 1) (pc := 138) dX12_step_138 rfl ?_
    refine V_iadd (pc := 139) dX12_step_139 ?_
    refine V_putI (pc := 140) fX12_145 p12_32 sM0 rfl dX12_step_140 ?_
    refine V_goto (tgt := 119) (pc := 143) dX12_step_143 rfl ?_
    exact V_sub h ⟨rfl, rfl, trivial⟩
theorem wp_X12_trace {G : GV} {k : Nat} {M : Mem} {q : Int32 → Mem → Prop} {v1 : Int32} (h : Ci shM G mX12_in k [.long (Int32.toInt64 v1), .long 0, .long (Int32.toInt64 ((M.1 0 53) - 1))] (mset M 0 0 0) (fun x1 M1 => ((x1 = 0 → q (-1000000) M1) ∧ (¬ x1 = 0 → vp_in v1 16 ∧ q (M1.1 32 (ix v1)) M1)))) : Ci shM G mX12_trace (k + 1) [.ref (G.2.1 0), .int v1] M q := by
  unfold Ci
  show V _ _ _ _ _ [(0, .ref (G.2.1 0)), (1, .int v1)] _ _ _
  refine V_aload_n (pc := 0) dX12_trace_0 rfl ?_
  refine V_iconst (v := 0) (pc := 1) dX12_trace_1 rfl ?_
  refine V_putI (pc := 2) fX12_108 p12_0 sM0 rfl dX12_trace_2 ?_
  refine V_iload_n (pc := 5) dX12_trace_5 rfl ?_
  refine V_i2l (pc := 6) dX12_trace_6 ?_
  refine V_lconst (v := 0) (pc := 7) dX12_trace_7 rfl ?_
  refine V_aload_n (pc := 8) dX12_trace_8 rfl ?_
  refine V_getI (pc := 9) fX12_345 sM0 rfl dX12_trace_9 ?_
  refine V_top (v := (M.1 0 53)) (by simp [mset, lset, upd]) ?_
  refine V_iconst (v := 1) (pc := 12) dX12_trace_12 rfl ?_
  refine V_isub (pc := 13) dX12_trace_13 ?_
  refine V_i2l (pc := 14) dX12_trace_14 ?_
  refine V_callSi [.long (Int32.toInt64 v1), .long 0, .long (Int32.toInt64 ((M.1 0 53) - 1))] (pc := 15) kX12_in lX12_118 rfl (Nat.le_of_ble_eq_true rfl) rfl (Nat.le_of_ble_eq_true rfl) dX12_trace_15 ?_
  refine Ci.mono h ?_
  intro x1 M1 h
  refine V_if_eq (tgt := 30) (pc := 18) dX12_trace_18 rfl (fun c => ?_) (fun c => ?_)
  · have h := h.1 c
    refine V_ldc (pc := 30) dX12_trace_30 nX12_144 ?_
    exact V_iret dX12_trace_32 rfl h
  · have h := h.2 c
    refine V_aload_n (pc := 21) dX12_trace_21 rfl ?_
    refine V_getR (pc := 22) fX12_105 sM0 rfl dX12_trace_22 ?_
    refine V_iload_n (pc := 25) dX12_trace_25 rfl ?_
    refine V_iald (pc := 26) sM32 dX12_trace_26 h.1 ?_
    have h := h.2
    refine V_goto (tgt := 32) (pc := 27) dX12_trace_27 rfl ?_
    exact V_iret dX12_trace_32 rfl h
theorem wp_X12_as {G : GV} {k : Nat} {M : Mem} {q : Int32 → Mem → Prop} {v1 : Int32} {v2 : Int32} (h : Ci shM G mX12_isLine (k + 1) [.ref (G.2.1 0), .int v1] (mset M 0 0 0) (fun x1 M1 => ((x1 = 0 → q (-1000001) M1) ∧ (¬ x1 = 0 → Ci shM G mX12_in (k + 1) [.long (Int32.toInt64 v2), .long 0, .long 5] M1 (fun x2 M2 => ((x2 ≠ 0 → vp_in v1 12 ∧ Ci shM G mX12_isOf (k + 1) [.int ((M2.1 9 (ix v1)) + 1), .int v2] (mset M2 0 1 0) (fun x3 M3 => ((x3 = 0 → Ci shM G mX12_finding (k + 1) [.ref (G.2.1 0), .int 3] M3 (fun x4 M4 => q x4 M4)) ∧ (¬ x3 = 0 → vp_in v1 12 ∧ q (M3.1 11 (ix v1)) M3)))) ∧ (x2 = 0 → q (-1000001) M2))))))) : Ci shM G mX12_as (k + 2) [.ref (G.2.1 0), .int v1, .int v2] M q := by
  unfold Ci
  show V _ _ _ _ _ [(0, .ref (G.2.1 0)), (1, .int v1), (2, .int v2)] _ _ _
  refine V_aload_n (pc := 0) dX12_as_0 rfl ?_
  refine V_iconst (v := 0) (pc := 1) dX12_as_1 rfl ?_
  refine V_putI (pc := 2) fX12_108 p12_0 sM0 rfl dX12_as_2 ?_
  refine V_aload_n (pc := 5) dX12_as_5 rfl ?_
  refine V_iload_n (pc := 6) dX12_as_6 rfl ?_
  refine V_callVi [.int v1] (pc := 7) kX12_isLine lX12_255 sM0 rfl rfl (Nat.le_of_ble_eq_true rfl) rfl (Nat.le_of_ble_eq_true rfl) dX12_as_7 ?_
  refine Ci.mono h ?_
  intro x1 M1 h
  refine V_if_eq (tgt := 25) (pc := 10) dX12_as_10 rfl (fun c => ?_) (fun c => ?_)
  · have h := h.1 c
    refine V_ldc (pc := 25) dX12_as_25 nX12_128 ?_
    exact V_iret dX12_as_27 rfl h
  · have h := h.2 c
    refine V_iload_n (pc := 13) dX12_as_13 rfl ?_
    refine V_i2l (pc := 14) dX12_as_14 ?_
    refine V_lconst (v := 0) (pc := 15) dX12_as_15 rfl ?_
    refine V_ldc2 (pc := 16) dX12_as_16 nX12_340 ?_
    refine V_callSi [.long (Int32.toInt64 v2), .long 0, .long 5] (pc := 19) kX12_in lX12_118 rfl (Nat.le_of_ble_eq_true rfl) rfl (Nat.le_of_ble_eq_true rfl) dX12_as_19 ?_
    refine Ci.mono h ?_
    intro x2 M2 h
    refine V_if_ne (tgt := 28) (pc := 22) dX12_as_22 rfl (fun c => ?_) (fun c => ?_)
    · have h := h.1 c
      refine V_aload_n (pc := 28) dX12_as_28 rfl ?_
      refine V_iconst (v := 0) (pc := 29) dX12_as_29 rfl ?_
      refine V_putI (pc := 30) fX12_112 p12_1 sM0 rfl dX12_as_30 ?_
      refine V_aload_n (pc := 33) dX12_as_33 rfl ?_
      refine V_getR (pc := 34) fX12_35 sM0 rfl dX12_as_34 ?_
      refine V_iload_n (pc := 37) dX12_as_37 rfl ?_
      refine V_iald (pc := 38) sM9 dX12_as_38 h.1 ?_
      have h := h.2
      refine V_top (v := (M2.1 9 (ix v1))) (by simp [mset, lset]) ?_
      refine V_iconst (v := 1) (pc := 39) dX12_as_39 rfl ?_
      refine V_iadd (pc := 40) dX12_as_40 ?_
      refine V_iload_n (pc := 41) dX12_as_41 rfl ?_
      refine V_callSi [.int ((M2.1 9 (ix v1)) + 1), .int v2] (pc := 42) kX12_isOf lX12_342 rfl (Nat.le_of_ble_eq_true rfl) rfl (Nat.le_of_ble_eq_true rfl) dX12_as_42 ?_
      refine Ci.mono h ?_
      intro x3 M3 h
      refine V_if_eq (tgt := 57) (pc := 45) dX12_as_45 rfl (fun c => ?_) (fun c => ?_)
      · have h := h.1 c
        refine V_aload_n (pc := 57) dX12_as_57 rfl ?_
        refine V_iconst (v := 3) (pc := 58) dX12_as_58 rfl ?_
        refine V_callVi [.int 3] (pc := 59) kX12_finding lX12_129 sM0 rfl rfl (Nat.le_of_ble_eq_true rfl) rfl (Nat.le_of_ble_eq_true rfl) dX12_as_59 ?_
        refine Ci.mono h ?_
        intro x4 M4 h
        exact V_iret dX12_as_62 rfl h
      · have h := h.2 c
        refine V_aload_n (pc := 48) dX12_as_48 rfl ?_
        refine V_getR (pc := 49) fX12_41 sM0 rfl dX12_as_49 ?_
        refine V_iload_n (pc := 52) dX12_as_52 rfl ?_
        refine V_iald (pc := 53) sM11 dX12_as_53 h.1 ?_
        have h := h.2
        refine V_goto (tgt := 62) (pc := 54) dX12_as_54 rfl ?_
        exact V_iret dX12_as_62 rfl h
    · have h := h.2 c
      refine V_ldc (pc := 25) dX12_as_25 nX12_128 ?_
      exact V_iret dX12_as_27 rfl h
theorem wp_X12_copy {G : GV} {k : Nat} {M : Mem} {q : Int32 → Mem → Prop} {v1 : Int32} {v2 : Int32} {v3 : Int32} {v4 : Int32} {v5 : Int32} (h : Ci shM G mX12_isSheet (k + 1) [.int v1] (mset M 0 0 0) (fun x1 M1 => ((x1 = 0 → q (-1000001) M1) ∧ (¬ x1 = 0 → Ci shM G mX12_isSheet (k + 1) [.int v3] M1 (fun x2 M2 => ((x2 ≠ 0 → vp_in v1 8 ∧ (((M2.1 1 (ix v1)) < 0 → Ci shM G mX12_finding (k + 1) [.ref (G.2.1 0), .int 1] (mset M2 0 1 0) (fun x3 M3 => q x3 M3)) ∧ (¬ (M2.1 1 (ix v1)) < 0 → vp_in v3 8 ∧ ((0 ≤ (M2.1 1 (ix v3)) → vp_in v1 8 ∧ vp_in v3 8 ∧ (((M2.1 1 (ix v1)) = (M2.1 1 (ix v3)) → ((v2 < 0 → Ci shM G mX12_finding (k + 1) [.ref (G.2.1 0), .int 2] (mset M2 0 1 0) (fun x4 M4 => q x4 M4)) ∧ (¬ v2 < 0 → ((v4 < 0 → Ci shM G mX12_finding (k + 1) [.ref (G.2.1 0), .int 2] (mset M2 0 1 0) (fun x5 M5 => q x5 M5)) ∧ (¬ v4 < 0 → ((v5 < 0 → Ci shM G mX12_finding (k + 1) [.ref (G.2.1 0), .int 2] (mset M2 0 1 0) (fun x6 M6 => q x6 M6)) ∧ (¬ v5 < 0 → vp_in v1 8 ∧ (((Int32.toInt64 (M2.1 2 (ix v1))) < ((Int32.toInt64 v2) + (Int32.toInt64 v5)) → Ci shM G mX12_finding (k + 1) [.ref (G.2.1 0), .int 2] (mset M2 0 1 0) (fun x7 M7 => q x7 M7)) ∧ (¬ (Int32.toInt64 (M2.1 2 (ix v1))) < ((Int32.toInt64 v2) + (Int32.toInt64 v5)) → vp_in v3 8 ∧ ((((Int32.toInt64 v4) + (Int32.toInt64 v5)) ≤ (Int32.toInt64 (M2.1 2 (ix v3))) → ((v2 < v4 → V shM G mX12_copy (k + 2) 143 [(0, .ref (G.2.1 0)), (1, .int v1), (2, .int v2), (3, .int v3), (4, .int v4), (5, .int v5), (6, .int 0), (7, .int 0)] [] (mset M2 0 1 0) (Qi q)) ∧ (¬ v2 < v4 → V shM G mX12_copy (k + 2) 143 [(0, .ref (G.2.1 0)), (1, .int v1), (2, .int v2), (3, .int v3), (4, .int v4), (5, .int v5), (6, .int 1), (7, .int 0)] [] (mset M2 0 1 0) (Qi q)))) ∧ (¬ ((Int32.toInt64 v4) + (Int32.toInt64 v5)) ≤ (Int32.toInt64 (M2.1 2 (ix v3))) → Ci shM G mX12_finding (k + 1) [.ref (G.2.1 0), .int 2] (mset M2 0 1 0) (fun x8 M8 => q x8 M8)))))))))))) ∧ (¬ (M2.1 1 (ix v1)) = (M2.1 1 (ix v3)) → Ci shM G mX12_finding (k + 1) [.ref (G.2.1 0), .int 5] (mset M2 0 1 0) (fun x9 M9 => q x9 M9)))) ∧ (¬ 0 ≤ (M2.1 1 (ix v3)) → Ci shM G mX12_finding (k + 1) [.ref (G.2.1 0), .int 1] (mset M2 0 1 0) (fun x10 M10 => q x10 M10)))))) ∧ (x2 = 0 → q (-1000001) M2))))))) : Ci shM G mX12_copy (k + 2) [.ref (G.2.1 0), .int v1, .int v2, .int v3, .int v4, .int v5] M q := by
  unfold Ci
  show V _ _ _ _ _ [(0, .ref (G.2.1 0)), (1, .int v1), (2, .int v2), (3, .int v3), (4, .int v4), (5, .int v5)] _ _ _
  refine V_aload_n (pc := 0) dX12_copy_0 rfl ?_
  refine V_iconst (v := 0) (pc := 1) dX12_copy_1 rfl ?_
  refine V_putI (pc := 2) fX12_108 p12_0 sM0 rfl dX12_copy_2 ?_
  refine V_iload_n (pc := 5) dX12_copy_5 rfl ?_
  refine V_callSi [.int v1] (pc := 6) kX12_isSheet lX12_122 rfl (Nat.le_of_ble_eq_true rfl) rfl (Nat.le_of_ble_eq_true rfl) dX12_copy_6 ?_
  refine Ci.mono h ?_
  intro x1 M1 h
  refine V_if_eq (tgt := 19) (pc := 9) dX12_copy_9 rfl (fun c => ?_) (fun c => ?_)
  · have h := h.1 c
    refine V_ldc (pc := 19) dX12_copy_19 nX12_128 ?_
    exact V_iret dX12_copy_21 rfl h
  · have h := h.2 c
    refine V_iload_n (pc := 12) dX12_copy_12 rfl ?_
    refine V_callSi [.int v3] (pc := 13) kX12_isSheet lX12_122 rfl (Nat.le_of_ble_eq_true rfl) rfl (Nat.le_of_ble_eq_true rfl) dX12_copy_13 ?_
    refine Ci.mono h ?_
    intro x2 M2 h
    refine V_if_ne (tgt := 22) (pc := 16) dX12_copy_16 rfl (fun c => ?_) (fun c => ?_)
    · have h := h.1 c
      refine V_aload_n (pc := 22) dX12_copy_22 rfl ?_
      refine V_iconst (v := 0) (pc := 23) dX12_copy_23 rfl ?_
      refine V_putI (pc := 24) fX12_112 p12_1 sM0 rfl dX12_copy_24 ?_
      refine V_aload_n (pc := 27) dX12_copy_27 rfl ?_
      refine V_getR (pc := 28) fX12_7 sM0 rfl dX12_copy_28 ?_
      refine V_iload_n (pc := 31) dX12_copy_31 rfl ?_
      refine V_iald (pc := 32) sM1 dX12_copy_32 h.1 ?_
      have h := h.2
      refine V_top (v := (M2.1 1 (ix v1))) (by simp [mset, lset]) ?_
      refine V_if_lt (tgt := 45) (pc := 33) dX12_copy_33 rfl (fun c => ?_) (fun c => ?_)
      · have h := h.1 c
        refine V_aload_n (pc := 45) dX12_copy_45 rfl ?_
        refine V_iconst (v := 1) (pc := 46) dX12_copy_46 rfl ?_
        refine V_callVi [.int 1] (pc := 47) kX12_finding lX12_129 sM0 rfl rfl (Nat.le_of_ble_eq_true rfl) rfl (Nat.le_of_ble_eq_true rfl) dX12_copy_47 ?_
        refine Ci.mono h ?_
        intro x3 M3 h
        exact V_iret dX12_copy_50 rfl h
      · have h := h.2 c
        refine V_aload_n (pc := 36) dX12_copy_36 rfl ?_
        refine V_getR (pc := 37) fX12_7 sM0 rfl dX12_copy_37 ?_
        refine V_iload_n (pc := 40) dX12_copy_40 rfl ?_
        refine V_iald (pc := 41) sM1 dX12_copy_41 h.1 ?_
        have h := h.2
        refine V_top (v := (M2.1 1 (ix v3))) (by simp [mset, lset]) ?_
        refine V_if_ge (tgt := 51) (pc := 42) dX12_copy_42 rfl (fun c => ?_) (fun c => ?_)
        · have h := h.1 c
          refine V_aload_n (pc := 51) dX12_copy_51 rfl ?_
          refine V_getR (pc := 52) fX12_7 sM0 rfl dX12_copy_52 ?_
          refine V_iload_n (pc := 55) dX12_copy_55 rfl ?_
          refine V_iald (pc := 56) sM1 dX12_copy_56 h.1 ?_
          have h := h.2
          refine V_top (v := (M2.1 1 (ix v1))) (by simp [mset, lset]) ?_
          refine V_aload_n (pc := 57) dX12_copy_57 rfl ?_
          refine V_getR (pc := 58) fX12_7 sM0 rfl dX12_copy_58 ?_
          refine V_iload_n (pc := 61) dX12_copy_61 rfl ?_
          refine V_iald (pc := 62) sM1 dX12_copy_62 h.1 ?_
          have h := h.2
          refine V_top (v := (M2.1 1 (ix v3))) (by simp [mset, lset]) ?_
          refine V_icmp_eq (tgt := 72) (pc := 63) dX12_copy_63 rfl (fun c => ?_) (fun c => ?_)
          · have h := h.1 c
            refine V_iload_n (pc := 72) dX12_copy_72 rfl ?_
            refine V_if_lt (tgt := 121) (pc := 73) dX12_copy_73 rfl (fun c => ?_) (fun c => ?_)
            · have h := h.1 c
              refine V_aload_n (pc := 121) dX12_copy_121 rfl ?_
              refine V_iconst (v := 2) (pc := 122) dX12_copy_122 rfl ?_
              refine V_callVi [.int 2] (pc := 123) kX12_finding lX12_129 sM0 rfl rfl (Nat.le_of_ble_eq_true rfl) rfl (Nat.le_of_ble_eq_true rfl) dX12_copy_123 ?_
              refine Ci.mono h ?_
              intro x4 M4 h
              exact V_iret dX12_copy_126 rfl h
            · have h := h.2 c
              refine V_iload (pc := 76) dX12_copy_76 rfl ?_
              refine V_if_lt (tgt := 121) (pc := 78) dX12_copy_78 rfl (fun c => ?_) (fun c => ?_)
              · have h := h.1 c
                refine V_aload_n (pc := 121) dX12_copy_121 rfl ?_
                refine V_iconst (v := 2) (pc := 122) dX12_copy_122 rfl ?_
                refine V_callVi [.int 2] (pc := 123) kX12_finding lX12_129 sM0 rfl rfl (Nat.le_of_ble_eq_true rfl) rfl (Nat.le_of_ble_eq_true rfl) dX12_copy_123 ?_
                refine Ci.mono h ?_
                intro x5 M5 h
                exact V_iret dX12_copy_126 rfl h
              · have h := h.2 c
                refine V_iload (pc := 81) dX12_copy_81 rfl ?_
                refine V_if_lt (tgt := 121) (pc := 83) dX12_copy_83 rfl (fun c => ?_) (fun c => ?_)
                · have h := h.1 c
                  refine V_aload_n (pc := 121) dX12_copy_121 rfl ?_
                  refine V_iconst (v := 2) (pc := 122) dX12_copy_122 rfl ?_
                  refine V_callVi [.int 2] (pc := 123) kX12_finding lX12_129 sM0 rfl rfl (Nat.le_of_ble_eq_true rfl) rfl (Nat.le_of_ble_eq_true rfl) dX12_copy_123 ?_
                  refine Ci.mono h ?_
                  intro x6 M6 h
                  exact V_iret dX12_copy_126 rfl h
                · have h := h.2 c
                  refine V_iload_n (pc := 86) dX12_copy_86 rfl ?_
                  refine V_i2l (pc := 87) dX12_copy_87 ?_
                  refine V_iload (pc := 88) dX12_copy_88 rfl ?_
                  refine V_i2l (pc := 90) dX12_copy_90 ?_
                  refine V_ladd (pc := 91) dX12_copy_91 ?_
                  refine V_aload_n (pc := 92) dX12_copy_92 rfl ?_
                  refine V_getR (pc := 93) fX12_13 sM0 rfl dX12_copy_93 ?_
                  refine V_iload_n (pc := 96) dX12_copy_96 rfl ?_
                  refine V_iald (pc := 97) sM2 dX12_copy_97 h.1 ?_
                  have h := h.2
                  refine V_top (v := (M2.1 2 (ix v1))) (by simp [mset, lset]) ?_
                  refine V_i2l (pc := 98) dX12_copy_98 ?_
                  refine V_lif_gt (tgt := 121) (pc := 99) dX12_copy_99 dX12_copy_100 rfl (fun c => ?_) (fun c => ?_)
                  · have h := h.1 c
                    refine V_aload_n (pc := 121) dX12_copy_121 rfl ?_
                    refine V_iconst (v := 2) (pc := 122) dX12_copy_122 rfl ?_
                    refine V_callVi [.int 2] (pc := 123) kX12_finding lX12_129 sM0 rfl rfl (Nat.le_of_ble_eq_true rfl) rfl (Nat.le_of_ble_eq_true rfl) dX12_copy_123 ?_
                    refine Ci.mono h ?_
                    intro x7 M7 h
                    exact V_iret dX12_copy_126 rfl h
                  · have h := h.2 c
                    refine V_iload (pc := 103) dX12_copy_103 rfl ?_
                    refine V_i2l (pc := 105) dX12_copy_105 ?_
                    refine V_iload (pc := 106) dX12_copy_106 rfl ?_
                    refine V_i2l (pc := 108) dX12_copy_108 ?_
                    refine V_ladd (pc := 109) dX12_copy_109 ?_
                    refine V_aload_n (pc := 110) dX12_copy_110 rfl ?_
                    refine V_getR (pc := 111) fX12_13 sM0 rfl dX12_copy_111 ?_
                    refine V_iload_n (pc := 114) dX12_copy_114 rfl ?_
                    refine V_iald (pc := 115) sM2 dX12_copy_115 h.1 ?_
                    have h := h.2
                    refine V_top (v := (M2.1 2 (ix v3))) (by simp [mset, lset]) ?_
                    refine V_i2l (pc := 116) dX12_copy_116 ?_
                    refine V_lif_le (tgt := 127) (pc := 117) dX12_copy_117 dX12_copy_118 rfl (fun c => ?_) (fun c => ?_)
                    · have h := h.1 c
                      refine V_iload_n (pc := 127) dX12_copy_127 rfl ?_
                      refine V_iload (pc := 128) dX12_copy_128 rfl ?_
                      refine V_icmp_lt (tgt := 137) (pc := 130) dX12_copy_130 rfl (fun c => ?_) (fun c => ?_)
                      · have h := h.1 c
                        refine V_iconst (v := 0) (pc := 137) dX12_copy_137 rfl ?_
                        refine V_istore (pc := 138) dX12_copy_138 (by decide) ?_
                        refine V_lv (lv2 := [(0, .ref (G.2.1 0)), (1, .int v1), (2, .int v2), (3, .int v3), (4, .int v4), (5, .int v5), (6, .int 0)]) rfl ?_
                        refine V_iconst (v := 0) (pc := 140) dX12_copy_140 rfl ?_
                        refine V_istore (pc := 141) dX12_copy_141 (by decide) ?_
                        refine V_lv (lv2 := [(0, .ref (G.2.1 0)), (1, .int v1), (2, .int v2), (3, .int v3), (4, .int v4), (5, .int v5), (6, .int 0), (7, .int 0)]) rfl ?_
                        exact V_sub h ⟨rfl, rfl, rfl, rfl, rfl, rfl, rfl, rfl, trivial⟩
                      · have h := h.2 c
                        refine V_iconst (v := 1) (pc := 133) dX12_copy_133 rfl ?_
                        refine V_goto (tgt := 138) (pc := 134) dX12_copy_134 rfl ?_
                        refine V_istore (pc := 138) dX12_copy_138 (by decide) ?_
                        refine V_lv (lv2 := [(0, .ref (G.2.1 0)), (1, .int v1), (2, .int v2), (3, .int v3), (4, .int v4), (5, .int v5), (6, .int 1)]) rfl ?_
                        refine V_iconst (v := 0) (pc := 140) dX12_copy_140 rfl ?_
                        refine V_istore (pc := 141) dX12_copy_141 (by decide) ?_
                        refine V_lv (lv2 := [(0, .ref (G.2.1 0)), (1, .int v1), (2, .int v2), (3, .int v3), (4, .int v4), (5, .int v5), (6, .int 1), (7, .int 0)]) rfl ?_
                        exact V_sub h ⟨rfl, rfl, rfl, rfl, rfl, rfl, rfl, rfl, trivial⟩
                    · have h := h.2 c
                      refine V_aload_n (pc := 121) dX12_copy_121 rfl ?_
                      refine V_iconst (v := 2) (pc := 122) dX12_copy_122 rfl ?_
                      refine V_callVi [.int 2] (pc := 123) kX12_finding lX12_129 sM0 rfl rfl (Nat.le_of_ble_eq_true rfl) rfl (Nat.le_of_ble_eq_true rfl) dX12_copy_123 ?_
                      refine Ci.mono h ?_
                      intro x8 M8 h
                      exact V_iret dX12_copy_126 rfl h
          · have h := h.2 c
            refine V_aload_n (pc := 66) dX12_copy_66 rfl ?_
            refine V_iconst (v := 5) (pc := 67) dX12_copy_67 rfl ?_
            refine V_callVi [.int 5] (pc := 68) kX12_finding lX12_129 sM0 rfl rfl (Nat.le_of_ble_eq_true rfl) rfl (Nat.le_of_ble_eq_true rfl) dX12_copy_68 ?_
            refine Ci.mono h ?_
            intro x9 M9 h
            exact V_iret dX12_copy_71 rfl h
        · have h := h.2 c
          refine V_aload_n (pc := 45) dX12_copy_45 rfl ?_
          refine V_iconst (v := 1) (pc := 46) dX12_copy_46 rfl ?_
          refine V_callVi [.int 1] (pc := 47) kX12_finding lX12_129 sM0 rfl rfl (Nat.le_of_ble_eq_true rfl) rfl (Nat.le_of_ble_eq_true rfl) dX12_copy_47 ?_
          refine Ci.mono h ?_
          intro x10 M10 h
          exact V_iret dX12_copy_50 rfl h
    · have h := h.2 c
      refine V_ldc (pc := 19) dX12_copy_19 nX12_128 ?_
      exact V_iret dX12_copy_21 rfl h
theorem wp_X12_copy_143 {G : GV} {k : Nat} {M : Mem} {q : Int32 → Mem → Prop} {v1 : Int32} {v2 : Int32} {v3 : Int32} {v4 : Int32} {v5 : Int32} {v6 : Int32} {v7 : Int32} (h : ((v5 ≤ v7 → q v5 M) ∧ (¬ v5 ≤ v7 → ((v6 = 0 → vp_in (((60 * v1) + v2) + ((v5 - 1) - v7)) 480 ∧ vp_in (((60 * v3) + v4) + ((v5 - 1) - v7)) 480 ∧ V shM G mX12_copy (k + 2) 143 [(0, .ref (G.2.1 0)), (1, .int v1), (2, .int v2), (3, .int v3), (4, .int v4), (5, .int v5), (6, .int v6), (7, .int (v7 + 1))] [] (mset M 3 (ix (((60 * v3) + v4) + ((v5 - 1) - v7))) (M.1 3 (ix (((60 * v1) + v2) + ((v5 - 1) - v7))))) (Qi q)) ∧ (¬ v6 = 0 → vp_in (((60 * v1) + v2) + v7) 480 ∧ vp_in (((60 * v3) + v4) + v7) 480 ∧ V shM G mX12_copy (k + 2) 143 [(0, .ref (G.2.1 0)), (1, .int v1), (2, .int v2), (3, .int v3), (4, .int v4), (5, .int v5), (6, .int v6), (7, .int (v7 + 1))] [] (mset M 3 (ix (((60 * v3) + v4) + v7)) (M.1 3 (ix (((60 * v1) + v2) + v7)))) (Qi q)))))) : V shM G mX12_copy (k + 2) 143 [(0, .ref (G.2.1 0)), (1, .int v1), (2, .int v2), (3, .int v3), (4, .int v4), (5, .int v5), (6, .int v6), (7, .int v7)] [] M (Qi q) := by
  refine V_iload (pc := 143) dX12_copy_143 rfl ?_
  refine V_iload (pc := 145) dX12_copy_145 rfl ?_
  refine V_icmp_ge (tgt := 204) (pc := 147) dX12_copy_147 rfl (fun c => ?_) (fun c => ?_)
  · have h := h.1 c
    refine V_iload (pc := 204) dX12_copy_204 rfl ?_
    exact V_iret dX12_copy_206 rfl h
  · have h := h.2 c
    refine V_iload (pc := 150) dX12_copy_150 rfl ?_
    refine V_if_eq (tgt := 160) (pc := 152) dX12_copy_152 rfl (fun c => ?_) (fun c => ?_)
    · have h := h.1 c
      refine V_iload (pc := 160) dX12_copy_160 rfl ?_
      refine V_iconst (v := 1) (pc := 162) dX12_copy_162 rfl ?_
      refine V_isub (pc := 163) dX12_copy_163 ?_
      refine V_iload (pc := 164) dX12_copy_164 rfl ?_
      refine V_isub (pc := 166) dX12_copy_166 ?_
      refine V_istore (pc := 167) dX12_copy_167 (by decide) ?_
      refine V_lv (lv2 := [(0, .ref (G.2.1 0)), (1, .int v1), (2, .int v2), (3, .int v3), (4, .int v4), (5, .int v5), (6, .int v6), (7, .int v7), (8, .int ((v5 - 1) - v7))]) rfl ?_
      refine V_aload_n (pc := 169) dX12_copy_169 rfl ?_
      refine V_getR (pc := 170) fX12_16 sM0 rfl dX12_copy_170 ?_
      refine V_bipush (v := 60) (pc := 173) dX12_copy_173 rfl ?_
      refine V_iload_n (pc := 175) dX12_copy_175 rfl ?_
      refine V_imul (pc := 176) dX12_copy_176 ?_
      refine V_iload (pc := 177) dX12_copy_177 rfl ?_
      refine V_iadd (pc := 179) dX12_copy_179 ?_
      refine V_iload (pc := 180) dX12_copy_180 rfl ?_
      refine V_iadd (pc := 182) dX12_copy_182 ?_
      refine V_aload_n (pc := 183) dX12_copy_183 rfl ?_
      refine V_getR (pc := 184) fX12_16 sM0 rfl dX12_copy_184 ?_
      refine V_bipush (v := 60) (pc := 187) dX12_copy_187 rfl ?_
      refine V_iload_n (pc := 189) dX12_copy_189 rfl ?_
      refine V_imul (pc := 190) dX12_copy_190 ?_
      refine V_iload_n (pc := 191) dX12_copy_191 rfl ?_
      refine V_iadd (pc := 192) dX12_copy_192 ?_
      refine V_iload (pc := 193) dX12_copy_193 rfl ?_
      refine V_iadd (pc := 195) dX12_copy_195 ?_
      refine V_iald (pc := 196) sM3 dX12_copy_196 h.1 ?_
      have h := h.2
      refine V_iast (pc := 197) sM3 dX12_copy_197 h.1 ?_
      have h := h.2
      refine V_iinc (pc := 198) dX12_copy_198 rfl (by decide) ?_
      refine V_lv (lv2 := [(0, .ref (G.2.1 0)), (1, .int v1), (2, .int v2), (3, .int v3), (4, .int v4), (5, .int v5), (6, .int v6), (7, .int (v7 + 1)), (8, .int ((v5 - 1) - v7))]) rfl ?_
      refine V_goto (tgt := 143) (pc := 201) dX12_copy_201 rfl ?_
      exact V_sub h ⟨rfl, rfl, rfl, rfl, rfl, rfl, rfl, rfl, trivial⟩
    · have h := h.2 c
      refine V_iload (pc := 155) dX12_copy_155 rfl ?_
      refine V_goto (tgt := 167) (pc := 157) dX12_copy_157 rfl ?_
      refine V_istore (pc := 167) dX12_copy_167 (by decide) ?_
      refine V_lv (lv2 := [(0, .ref (G.2.1 0)), (1, .int v1), (2, .int v2), (3, .int v3), (4, .int v4), (5, .int v5), (6, .int v6), (7, .int v7), (8, .int v7)]) rfl ?_
      refine V_aload_n (pc := 169) dX12_copy_169 rfl ?_
      refine V_getR (pc := 170) fX12_16 sM0 rfl dX12_copy_170 ?_
      refine V_bipush (v := 60) (pc := 173) dX12_copy_173 rfl ?_
      refine V_iload_n (pc := 175) dX12_copy_175 rfl ?_
      refine V_imul (pc := 176) dX12_copy_176 ?_
      refine V_iload (pc := 177) dX12_copy_177 rfl ?_
      refine V_iadd (pc := 179) dX12_copy_179 ?_
      refine V_iload (pc := 180) dX12_copy_180 rfl ?_
      refine V_iadd (pc := 182) dX12_copy_182 ?_
      refine V_aload_n (pc := 183) dX12_copy_183 rfl ?_
      refine V_getR (pc := 184) fX12_16 sM0 rfl dX12_copy_184 ?_
      refine V_bipush (v := 60) (pc := 187) dX12_copy_187 rfl ?_
      refine V_iload_n (pc := 189) dX12_copy_189 rfl ?_
      refine V_imul (pc := 190) dX12_copy_190 ?_
      refine V_iload_n (pc := 191) dX12_copy_191 rfl ?_
      refine V_iadd (pc := 192) dX12_copy_192 ?_
      refine V_iload (pc := 193) dX12_copy_193 rfl ?_
      refine V_iadd (pc := 195) dX12_copy_195 ?_
      refine V_iald (pc := 196) sM3 dX12_copy_196 h.1 ?_
      have h := h.2
      refine V_iast (pc := 197) sM3 dX12_copy_197 h.1 ?_
      have h := h.2
      refine V_iinc (pc := 198) dX12_copy_198 rfl (by decide) ?_
      refine V_lv (lv2 := [(0, .ref (G.2.1 0)), (1, .int v1), (2, .int v2), (3, .int v3), (4, .int v4), (5, .int v5), (6, .int v6), (7, .int (v7 + 1)), (8, .int v7)]) rfl ?_
      refine V_goto (tgt := 143) (pc := 201) dX12_copy_201 rfl ?_
      exact V_sub h ⟨rfl, rfl, rfl, rfl, rfl, rfl, rfl, rfl, trivial⟩
theorem wp_X12_drop {G : GV} {k : Nat} {M : Mem} {q : Int32 → Mem → Prop} {v1 : Int32} (h : Ci shM G mX12_isSheet (k + 1) [.int v1] (mset M 0 0 0) (fun x1 M1 => ((x1 ≠ 0 → vp_in v1 8 ∧ ((0 ≤ (M1.1 1 (ix v1)) → vp_in v1 8 ∧ vp_in v1 8 ∧ q (M1.1 2 (ix v1)) (mset (mset M1 0 1 0) 1 (ix v1) (-1))) ∧ (¬ 0 ≤ (M1.1 1 (ix v1)) → Ci shM G mX12_finding (k + 1) [.ref (G.2.1 0), .int 1] (mset M1 0 1 0) (fun x2 M2 => q x2 M2)))) ∧ (x1 = 0 → q (-1000001) M1)))) : Ci shM G mX12_drop (k + 2) [.ref (G.2.1 0), .int v1] M q := by
  unfold Ci
  show V _ _ _ _ _ [(0, .ref (G.2.1 0)), (1, .int v1)] _ _ _
  refine V_aload_n (pc := 0) dX12_drop_0 rfl ?_
  refine V_iconst (v := 0) (pc := 1) dX12_drop_1 rfl ?_
  refine V_putI (pc := 2) fX12_108 p12_0 sM0 rfl dX12_drop_2 ?_
  refine V_iload_n (pc := 5) dX12_drop_5 rfl ?_
  refine V_callSi [.int v1] (pc := 6) kX12_isSheet lX12_122 rfl (Nat.le_of_ble_eq_true rfl) rfl (Nat.le_of_ble_eq_true rfl) dX12_drop_6 ?_
  refine Ci.mono h ?_
  intro x1 M1 h
  refine V_if_ne (tgt := 15) (pc := 9) dX12_drop_9 rfl (fun c => ?_) (fun c => ?_)
  · have h := h.1 c
    refine V_aload_n (pc := 15) dX12_drop_15 rfl ?_
    refine V_iconst (v := 0) (pc := 16) dX12_drop_16 rfl ?_
    refine V_putI (pc := 17) fX12_112 p12_1 sM0 rfl dX12_drop_17 ?_
    refine V_aload_n (pc := 20) dX12_drop_20 rfl ?_
    refine V_getR (pc := 21) fX12_7 sM0 rfl dX12_drop_21 ?_
    refine V_iload_n (pc := 24) dX12_drop_24 rfl ?_
    refine V_iald (pc := 25) sM1 dX12_drop_25 h.1 ?_
    have h := h.2
    refine V_top (v := (M1.1 1 (ix v1))) (by simp [mset, lset]) ?_
    refine V_if_ge (tgt := 35) (pc := 26) dX12_drop_26 rfl (fun c => ?_) (fun c => ?_)
    · have h := h.1 c
      refine V_aload_n (pc := 35) dX12_drop_35 rfl ?_
      refine V_getR (pc := 36) fX12_7 sM0 rfl dX12_drop_36 ?_
      refine V_iload_n (pc := 39) dX12_drop_39 rfl ?_
      refine V_iconst (v := (-1)) (pc := 40) dX12_drop_40 rfl ?_
      refine V_iast (pc := 41) sM1 dX12_drop_41 h.1 ?_
      have h := h.2
      refine V_aload_n (pc := 42) dX12_drop_42 rfl ?_
      refine V_getR (pc := 43) fX12_13 sM0 rfl dX12_drop_43 ?_
      refine V_iload_n (pc := 46) dX12_drop_46 rfl ?_
      refine V_iald (pc := 47) sM2 dX12_drop_47 h.1 ?_
      have h := h.2
      refine V_top (v := (M1.1 2 (ix v1))) (by simp [mset, lset]) ?_
      exact V_iret dX12_drop_48 rfl h
    · have h := h.2 c
      refine V_aload_n (pc := 29) dX12_drop_29 rfl ?_
      refine V_iconst (v := 1) (pc := 30) dX12_drop_30 rfl ?_
      refine V_callVi [.int 1] (pc := 31) kX12_finding lX12_129 sM0 rfl rfl (Nat.le_of_ble_eq_true rfl) rfl (Nat.le_of_ble_eq_true rfl) dX12_drop_31 ?_
      refine Ci.mono h ?_
      intro x2 M2 h
      exact V_iret dX12_drop_34 rfl h
  · have h := h.2 c
    refine V_ldc (pc := 12) dX12_drop_12 nX12_128 ?_
    exact V_iret dX12_drop_14 rfl h
theorem wp_X12_ear {G : GV} {k : Nat} {M : Mem} {q : Int32 → Mem → Prop} {v1 : Int32} (h : Ci shM G mX12_isLine (k + 1) [.ref (G.2.1 0), .int v1] (mset M 0 0 0) (fun x1 M1 => ((x1 = 0 → q (-1000001) M1) ∧ (¬ x1 = 0 → Ci shM G mX12_earOf (k + 1) [.ref (G.2.1 0), .int v1] M1 (fun x2 M2 => q x2 M2))))) : Ci shM G mX12_ear (k + 2) [.ref (G.2.1 0), .int v1] M q := by
  unfold Ci
  show V _ _ _ _ _ [(0, .ref (G.2.1 0)), (1, .int v1)] _ _ _
  refine V_aload_n (pc := 0) dX12_ear_0 rfl ?_
  refine V_iconst (v := 0) (pc := 1) dX12_ear_1 rfl ?_
  refine V_putI (pc := 2) fX12_108 p12_0 sM0 rfl dX12_ear_2 ?_
  refine V_aload_n (pc := 5) dX12_ear_5 rfl ?_
  refine V_iload_n (pc := 6) dX12_ear_6 rfl ?_
  refine V_callVi [.int v1] (pc := 7) kX12_isLine lX12_255 sM0 rfl rfl (Nat.le_of_ble_eq_true rfl) rfl (Nat.le_of_ble_eq_true rfl) dX12_ear_7 ?_
  refine Ci.mono h ?_
  intro x1 M1 h
  refine V_if_eq (tgt := 21) (pc := 10) dX12_ear_10 rfl (fun c => ?_) (fun c => ?_)
  · have h := h.1 c
    refine V_ldc (pc := 21) dX12_ear_21 nX12_128 ?_
    exact V_iret dX12_ear_23 rfl h
  · have h := h.2 c
    refine V_aload_n (pc := 13) dX12_ear_13 rfl ?_
    refine V_iload_n (pc := 14) dX12_ear_14 rfl ?_
    refine V_callVi [.int v1] (pc := 15) kX12_earOf lX12_276 sM0 rfl rfl (Nat.le_of_ble_eq_true rfl) rfl (Nat.le_of_ble_eq_true rfl) dX12_ear_15 ?_
    refine Ci.mono h ?_
    intro x2 M2 h
    refine V_goto (tgt := 23) (pc := 18) dX12_ear_18 rfl ?_
    exact V_iret dX12_ear_23 rfl h
