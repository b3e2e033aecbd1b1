theorem wp_X11_copy {G : GV} {k : Nat} {M : Mem} {q : Int32 → Mem → Prop} {v1 : Int32} {v2 : Int32} {v3 : Int32} {v4 : Int32} {v5 : Int32} (h : Ci shC G mX11_noSheet (k + 1) [.ref (G.2.1 0), .int v1] M (fun x1 M1 => ((x1 ≠ 0 → q (-1000001) M1) ∧ (x1 = 0 → Ci shC G mX11_noSheet (k + 1) [.ref (G.2.1 0), .int v3] M1 (fun x2 M2 => ((x2 = 0 → Ci shC G mX9_isMissing (k + 1) [.ref (G.2.1 1), .int v1] M2 (fun x3 M3 => ((x3 ≠ 0 → Ci shC G mX11_finding (k + 1) [.ref (G.2.1 0), .int 1] M3 (fun x4 M4 => q x4 M4)) ∧ (x3 = 0 → Ci shC G mX9_isMissing (k + 1) [.ref (G.2.1 1), .int v3] M3 (fun x5 M5 => ((x5 = 0 → Ci shC G mX9_haveOneLane (k + 1) [.ref (G.2.1 1), .int v1, .int v3] M5 (fun x6 M6 => ((x6 ≠ 0 → Ci shC G mX9_holds (k + 1) [.ref (G.2.1 1), .int v1, .int v2, .int v5] M6 (fun x7 M7 => ((x7 = 0 → Ci shC G mX11_finding (k + 1) [.ref (G.2.1 0), .int 2] M7 (fun x8 M8 => q x8 M8)) ∧ (¬ x7 = 0 → Ci shC G mX9_holds (k + 1) [.ref (G.2.1 1), .int v3, .int v4, .int v5] M7 (fun x9 M9 => ((x9 ≠ 0 → Cv shC G mX9_move (k + 1) [.ref (G.2.1 1), .int v1, .int v2, .int v3, .int v4, .int v5] M9 (fun M10 => Ci shC G mX11_withoutFinding (k + 1) [.ref (G.2.1 0), .int v5] M10 (fun x11 M11 => q x11 M11))) ∧ (x9 = 0 → Ci shC G mX11_finding (k + 1) [.ref (G.2.1 0), .int 2] M9 (fun x12 M12 => q x12 M12)))))))) ∧ (x6 = 0 → Ci shC G mX11_finding (k + 1) [.ref (G.2.1 0), .int 5] M6 (fun x13 M13 => q x13 M13))))) ∧ (¬ x5 = 0 → Ci shC G mX11_finding (k + 1) [.ref (G.2.1 0), .int 1] M5 (fun x14 M14 => q x14 M14)))))))) ∧ (¬ x2 = 0 → q (-1000001) M2))))))) : Ci shC G mX11_copy (k + 2) [.ref (G.2.1 0), .int v1, .int v2, .int v3, .int v4, .int v5] M q := by
  unfold Ci
  show V _ _ _ _ _ [(0, .ref (G.2.1 0)), (1, .int v1), (2, .int v2), (3, .int v3), (4, .int v4), (5, .int v5)] _ _ _
  refine V_aload_n (pc := 0) dX11_copy_0 rfl ?_
  refine V_iload_n (pc := 1) dX11_copy_1 rfl ?_
  refine V_callVi [.int v1] (pc := 2) kX11_noSheet lX11_87 sC0 rfl rfl (Nat.le_of_ble_eq_true rfl) rfl (Nat.le_of_ble_eq_true rfl) dX11_copy_2 ?_
  refine Ci.mono h ?_
  intro x1 M1 h
  refine V_if_ne (tgt := 16) (pc := 5) dX11_copy_5 rfl (fun c => ?_) (fun c => ?_)
  · have h := h.1 c
    refine V_ldc (pc := 16) dX11_copy_16 nX11_91 ?_
    exact V_iret dX11_copy_18 rfl h
  · have h := h.2 c
    refine V_aload_n (pc := 8) dX11_copy_8 rfl ?_
    refine V_iload_n (pc := 9) dX11_copy_9 rfl ?_
    refine V_callVi [.int v3] (pc := 10) kX11_noSheet lX11_87 sC0 rfl rfl (Nat.le_of_ble_eq_true rfl) rfl (Nat.le_of_ble_eq_true rfl) dX11_copy_10 ?_
    refine Ci.mono h ?_
    intro x2 M2 h
    refine V_if_eq (tgt := 19) (pc := 13) dX11_copy_13 rfl (fun c => ?_) (fun c => ?_)
    · have h := h.1 c
      refine V_aload_n (pc := 19) dX11_copy_19 rfl ?_
      refine V_getR (pc := 20) fX11_10 sC0 rfl dX11_copy_20 ?_
      refine V_iload_n (pc := 23) dX11_copy_23 rfl ?_
      refine V_callVi [.int v1] (pc := 24) kX9_isMissing lX11_103 sC1 rfl rfl (Nat.le_of_ble_eq_true rfl) rfl (Nat.le_of_ble_eq_true rfl) dX11_copy_24 ?_
      refine Ci.mono h ?_
      intro x3 M3 h
      refine V_if_ne (tgt := 41) (pc := 27) dX11_copy_27 rfl (fun c => ?_) (fun c => ?_)
      · have h := h.1 c
        refine V_aload_n (pc := 41) dX11_copy_41 rfl ?_
        refine V_iconst (v := 1) (pc := 42) dX11_copy_42 rfl ?_
        refine V_callVi [.int 1] (pc := 43) kX11_finding lX11_92 sC0 rfl rfl (Nat.le_of_ble_eq_true rfl) rfl (Nat.le_of_ble_eq_true rfl) dX11_copy_43 ?_
        refine Ci.mono h ?_
        intro x4 M4 h
        exact V_iret dX11_copy_46 rfl h
      · have h := h.2 c
        refine V_aload_n (pc := 30) dX11_copy_30 rfl ?_
        refine V_getR (pc := 31) fX11_10 sC0 rfl dX11_copy_31 ?_
        refine V_iload_n (pc := 34) dX11_copy_34 rfl ?_
        refine V_callVi [.int v3] (pc := 35) kX9_isMissing lX11_103 sC1 rfl rfl (Nat.le_of_ble_eq_true rfl) rfl (Nat.le_of_ble_eq_true rfl) dX11_copy_35 ?_
        refine Ci.mono h ?_
        intro x5 M5 h
        refine V_if_eq (tgt := 47) (pc := 38) dX11_copy_38 rfl (fun c => ?_) (fun c => ?_)
        · have h := h.1 c
          refine V_aload_n (pc := 47) dX11_copy_47 rfl ?_
          refine V_getR (pc := 48) fX11_10 sC0 rfl dX11_copy_48 ?_
          refine V_iload_n (pc := 51) dX11_copy_51 rfl ?_
          refine V_iload_n (pc := 52) dX11_copy_52 rfl ?_
          refine V_callVi [.int v1, .int v3] (pc := 53) kX9_haveOneLane lX11_114 sC1 rfl rfl (Nat.le_of_ble_eq_true rfl) rfl (Nat.le_of_ble_eq_true rfl) dX11_copy_53 ?_
          refine Ci.mono h ?_
          intro x6 M6 h
          refine V_if_ne (tgt := 65) (pc := 56) dX11_copy_56 rfl (fun c => ?_) (fun c => ?_)
          · have h := h.1 c
            refine V_aload_n (pc := 65) dX11_copy_65 rfl ?_
            refine V_getR (pc := 66) fX11_10 sC0 rfl dX11_copy_66 ?_
            refine V_iload_n (pc := 69) dX11_copy_69 rfl ?_
            refine V_iload_n (pc := 70) dX11_copy_70 rfl ?_
            refine V_iload (pc := 71) dX11_copy_71 rfl ?_
            refine V_callVi [.int v1, .int v2, .int v5] (pc := 73) kX9_holds lX11_106 sC1 rfl rfl (Nat.le_of_ble_eq_true rfl) rfl (Nat.le_of_ble_eq_true rfl) dX11_copy_73 ?_
            refine Ci.mono h ?_
            intro x7 M7 h
            refine V_if_eq (tgt := 94) (pc := 76) dX11_copy_76 rfl (fun c => ?_) (fun c => ?_)
            · have h := h.1 c
              refine V_aload_n (pc := 94) dX11_copy_94 rfl ?_
              refine V_iconst (v := 2) (pc := 95) dX11_copy_95 rfl ?_
              refine V_callVi [.int 2] (pc := 96) kX11_finding lX11_92 sC0 rfl rfl (Nat.le_of_ble_eq_true rfl) rfl (Nat.le_of_ble_eq_true rfl) dX11_copy_96 ?_
              refine Ci.mono h ?_
              intro x8 M8 h
              exact V_iret dX11_copy_99 rfl h
            · have h := h.2 c
              refine V_aload_n (pc := 79) dX11_copy_79 rfl ?_
              refine V_getR (pc := 80) fX11_10 sC0 rfl dX11_copy_80 ?_
              refine V_iload_n (pc := 83) dX11_copy_83 rfl ?_
              refine V_iload (pc := 84) dX11_copy_84 rfl ?_
              refine V_iload (pc := 86) dX11_copy_86 rfl ?_
              refine V_callVi [.int v3, .int v4, .int v5] (pc := 88) kX9_holds lX11_106 sC1 rfl rfl (Nat.le_of_ble_eq_true rfl) rfl (Nat.le_of_ble_eq_true rfl) dX11_copy_88 ?_
              refine Ci.mono h ?_
              intro x9 M9 h
              refine V_if_ne (tgt := 100) (pc := 91) dX11_copy_91 rfl (fun c => ?_) (fun c => ?_)
              · have h := h.1 c
                refine V_aload_n (pc := 100) dX11_copy_100 rfl ?_
                refine V_getR (pc := 101) fX11_10 sC0 rfl dX11_copy_101 ?_
                refine V_iload_n (pc := 104) dX11_copy_104 rfl ?_
                refine V_iload_n (pc := 105) dX11_copy_105 rfl ?_
                refine V_iload_n (pc := 106) dX11_copy_106 rfl ?_
                refine V_iload (pc := 107) dX11_copy_107 rfl ?_
                refine V_iload (pc := 109) dX11_copy_109 rfl ?_
                refine V_callVv [.int v1, .int v2, .int v3, .int v4, .int v5] (pc := 111) kX9_move lX11_118 sC1 rfl rfl (Nat.le_of_ble_eq_true rfl) rfl (Nat.le_of_ble_eq_true rfl) dX11_copy_111 ?_
                refine Cv.mono h ?_
                intro M10 h
                refine V_aload_n (pc := 114) dX11_copy_114 rfl ?_
                refine V_iload (pc := 115) dX11_copy_115 rfl ?_
                refine V_callVi [.int v5] (pc := 117) kX11_withoutFinding lX11_100 sC0 rfl rfl (Nat.le_of_ble_eq_true rfl) rfl (Nat.le_of_ble_eq_true rfl) dX11_copy_117 ?_
                refine Ci.mono h ?_
                intro x11 M11 h
                exact V_iret dX11_copy_120 rfl h
              · have h := h.2 c
                refine V_aload_n (pc := 94) dX11_copy_94 rfl ?_
                refine V_iconst (v := 2) (pc := 95) dX11_copy_95 rfl ?_
                refine V_callVi [.int 2] (pc := 96) kX11_finding lX11_92 sC0 rfl rfl (Nat.le_of_ble_eq_true rfl) rfl (Nat.le_of_ble_eq_true rfl) dX11_copy_96 ?_
                refine Ci.mono h ?_
                intro x12 M12 h
                exact V_iret dX11_copy_99 rfl h
          · have h := h.2 c
            refine V_aload_n (pc := 59) dX11_copy_59 rfl ?_
            refine V_iconst (v := 5) (pc := 60) dX11_copy_60 rfl ?_
            refine V_callVi [.int 5] (pc := 61) kX11_finding lX11_92 sC0 rfl rfl (Nat.le_of_ble_eq_true rfl) rfl (Nat.le_of_ble_eq_true rfl) dX11_copy_61 ?_
            refine Ci.mono h ?_
            intro x13 M13 h
            exact V_iret dX11_copy_64 rfl h
        · have h := h.2 c
          refine V_aload_n (pc := 41) dX11_copy_41 rfl ?_
          refine V_iconst (v := 1) (pc := 42) dX11_copy_42 rfl ?_
          refine V_callVi [.int 1] (pc := 43) kX11_finding lX11_92 sC0 rfl rfl (Nat.le_of_ble_eq_true rfl) rfl (Nat.le_of_ble_eq_true rfl) dX11_copy_43 ?_
          refine Ci.mono h ?_
          intro x14 M14 h
          exact V_iret dX11_copy_46 rfl h
    · have h := h.2 c
      refine V_ldc (pc := 16) dX11_copy_16 nX11_91 ?_
      exact V_iret dX11_copy_18 rfl h
theorem wp_X11_countHomeless {G : GV} {k : Nat} {M : Mem} {q : Int32 → Mem → Prop}  (h : V shC G mX11_countHomeless (k + 2) 4 [(0, .ref (G.2.1 0)), (1, .int 0), (2, .int 0)] [] M (Qi q)) : Ci shC G mX11_countHomeless (k + 2) [.ref (G.2.1 0)] M q := by
  unfold Ci
  show V _ _ _ _ _ [(0, .ref (G.2.1 0))] _ _ _
  refine V_iconst (v := 0) (pc := 0) dX11_countHomeless_0 rfl ?_
  refine V_istore_n (pc := 1) dX11_countHomeless_1 (by decide) ?_
  refine V_lv (lv2 := [(0, .ref (G.2.1 0)), (1, .int 0)]) rfl ?_
  refine V_iconst (v := 0) (pc := 2) dX11_countHomeless_2 rfl ?_
  refine V_istore_n (pc := 3) dX11_countHomeless_3 (by decide) ?_
  refine V_lv (lv2 := [(0, .ref (G.2.1 0)), (1, .int 0), (2, .int 0)]) rfl ?_
  exact V_sub h ⟨rfl, rfl, rfl, trivial⟩
theorem wp_X11_countHomeless_4 {G : GV} {k : Nat} {M : Mem} {q : Int32 → Mem → Prop} {v1 : Int32} {v2 : Int32} (h : (((M.1 6 8) ≤ v2 → q v1 M) ∧ (¬ (M.1 6 8) ≤ v2 → Ci shC G mX11_isHomeless (k + 1) [.ref (G.2.1 0), .int v2] M (fun x1 M1 => ((x1 = 0 → V shC G mX11_countHomeless (k + 2) 4 [(0, .ref (G.2.1 0)), (1, .int v1), (2, .int (v2 + 1))] [] M1 (Qi q)) ∧ (¬ x1 = 0 → V shC G mX11_countHomeless (k + 2) 4 [(0, .ref (G.2.1 0)), (1, .int (v1 + 1)), (2, .int (v2 + 1))] [] M1 (Qi q))))))) : V shC G mX11_countHomeless (k + 2) 4 [(0, .ref (G.2.1 0)), (1, .int v1), (2, .int v2)] [] M (Qi q) := by
  refine V_iload_n (pc := 4) dX11_countHomeless_4 rfl ?_
  refine V_aload_n (pc := 5) dX11_countHomeless_5 rfl ?_
  refine V_getR (pc := 6) fX11_47 sC0 rfl dX11_countHomeless_6 ?_
  refine V_getI (pc := 9) fX11_151 sC6 rfl dX11_countHomeless_9 ?_
  refine V_icmp_ge (tgt := 32) (pc := 12) dX11_countHomeless_12 rfl (fun c => ?_) (fun c => ?_)
  · have h := h.1 c
    refine V_iload_n (pc := 32) dX11_countHomeless_32 rfl ?_
    exact V_iret dX11_countHomeless_33 rfl h
  · have h := h.2 c
    refine V_aload_n (pc := 15) dX11_countHomeless_15 rfl ?_
    refine V_iload_n (pc := 16) dX11_countHomeless_16 rfl ?_
    refine V_callVi [.int v2] (pc := 17) kX11_isHomeless lX11_178 sC0 rfl rfl (Nat.le_of_ble_eq_true rfl) rfl (Nat.le_of_ble_eq_true rfl) dX11_countHomeless_17 ?_
    refine Ci.mono h ?_
    intro x1 M1 h
    refine V_if_eq (tgt := 26) (pc := 20) dX11_countHomeless_20 rfl (fun c => ?_) (fun c => ?_)
    · have h := h.1 c
      refine V_iinc (pc := 26) dX11_countHomeless_26 rfl (by decide) ?_
      refine V_lv (lv2 := [(0, .ref (G.2.1 0)), (1, .int v1), (2, .int (v2 + 1))]) rfl ?_
      refine V_goto (tgt := 4) (pc := 29) dX11_countHomeless_29 rfl ?_
      exact V_sub h ⟨rfl, rfl, rfl, trivial⟩
    · have h := h.2 c
      refine V_iinc (pc := 23) dX11_countHomeless_23 rfl (by decide) ?_
      refine V_lv (lv2 := [(0, .ref (G.2.1 0)), (1, .int (v1 + 1)), (2, .int v2)]) rfl ?_
      refine V_iinc (pc := 26) dX11_countHomeless_26 rfl (by decide) ?_
      refine V_lv (lv2 := [(0, .ref (G.2.1 0)), (1, .int (v1 + 1)), (2, .int (v2 + 1))]) rfl ?_
      refine V_goto (tgt := 4) (pc := 29) dX11_countHomeless_29 rfl ?_
      exact V_sub h ⟨rfl, rfl, rfl, trivial⟩
theorem wp_X11_line {G : GV} {k : Nat} {M : Mem} {q : Int32 → Mem → Prop} {v1 : Int32} {v2 : Int32} (h : Ci shC G mX11_noLine (k + 1) [.ref (G.2.1 0), .int v1] M (fun x1 M1 => ((x1 = 0 → (((v2).toInt = 0 → vp_in v1 12 ∧ q (M1.1 28 (ix v1)) M1) ∧ ((v2).toInt = 1 → vp_in v1 12 ∧ q (M1.1 29 (ix v1)) M1) ∧ ((v2).toInt = 2 → vp_in v1 12 ∧ q (M1.1 30 (ix v1)) M1) ∧ ((v2).toInt = 3 → vp_in v1 12 ∧ q (M1.1 31 (ix v1)) M1) ∧ ((v2).toInt = 4 → vp_in v1 12 ∧ q (M1.1 32 (ix v1)) M1) ∧ ((v2).toInt = 5 → vp_in v1 12 ∧ q (M1.1 33 (ix v1)) M1) ∧ ((v2).toInt = 6 → vp_in v1 12 ∧ q (M1.1 34 (ix v1)) M1) ∧ ((v2).toInt = 7 → Ci shC G mX11_isHomeless (k + 1) [.ref (G.2.1 0), .int v1] M1 (fun x2 M2 => ((x2 = 0 → q 0 M2) ∧ (¬ x2 = 0 → q 1 M2)))) ∧ ((v2).toInt = 8 → vp_in v1 12 ∧ q (M1.1 38 (ix v1)) M1) ∧ (((v2).toInt < 0 ∨ 8 < (v2).toInt) → q (-1000001) M1))) ∧ (¬ x1 = 0 → q (-1000001) M1)))) : Ci shC G mX11_line (k + 2) [.ref (G.2.1 0), .int v1, .int v2] M q := by
  unfold Ci
  show V _ _ _ _ _ [(0, .ref (G.2.1 0)), (1, .int v1), (2, .int v2)] _ _ _
  refine V_aload_n (pc := 0) dX11_line_0 rfl ?_
  refine V_iload_n (pc := 1) dX11_line_1 rfl ?_
  refine V_callVi [.int v1] (pc := 2) kX11_noLine lX11_154 sC0 rfl rfl (Nat.le_of_ble_eq_true rfl) rfl (Nat.le_of_ble_eq_true rfl) dX11_line_2 ?_
  refine Ci.mono h ?_
  intro x1 M1 h
  refine V_if_eq (tgt := 11) (pc := 5) dX11_line_5 rfl (fun c => ?_) (fun c => ?_)
  · have h := h.1 c
    refine V_iload_n (pc := 11) dX11_line_11 rfl ?_
    refine V_table (tgt := 161) (pc := 12) dX11_line_12 rfl rfl rfl ⟨fun c => ?_, fun c => ?_, fun c => ?_, fun c => ?_, fun c => ?_, fun c => ?_, fun c => ?_, fun c => ?_, fun c => ?_, trivial⟩ (fun c => ?_)
    · have h := h.1 c
      show V _ _ _ _ 64 _ _ _ _
      refine V_aload_n (pc := 64) dX11_line_64 rfl ?_
      refine V_getR (pc := 65) fX11_47 sC0 rfl dX11_line_65 ?_
      refine V_getR (pc := 68) fX11_157 sC6 rfl dX11_line_68 ?_
      refine V_iload_n (pc := 71) dX11_line_71 rfl ?_
      refine V_iald (pc := 72) sC28 dX11_line_72 h.1 ?_
      have h := h.2
      exact V_iret dX11_line_73 rfl h
    · have h := h.2.1 c
      show V _ _ _ _ 74 _ _ _ _
      refine V_aload_n (pc := 74) dX11_line_74 rfl ?_
      refine V_getR (pc := 75) fX11_47 sC0 rfl dX11_line_75 ?_
      refine V_getR (pc := 78) fX11_160 sC6 rfl dX11_line_78 ?_
      refine V_iload_n (pc := 81) dX11_line_81 rfl ?_
      refine V_iald (pc := 82) sC29 dX11_line_82 h.1 ?_
      have h := h.2
      exact V_iret dX11_line_83 rfl h
    · have h := h.2.2.1 c
      show V _ _ _ _ 84 _ _ _ _
      refine V_aload_n (pc := 84) dX11_line_84 rfl ?_
      refine V_getR (pc := 85) fX11_47 sC0 rfl dX11_line_85 ?_
      refine V_getR (pc := 88) fX11_163 sC6 rfl dX11_line_88 ?_
      refine V_iload_n (pc := 91) dX11_line_91 rfl ?_
      refine V_iald (pc := 92) sC30 dX11_line_92 h.1 ?_
      have h := h.2
      exact V_iret dX11_line_93 rfl h
    · have h := h.2.2.2.1 c
      show V _ _ _ _ 94 _ _ _ _
      refine V_aload_n (pc := 94) dX11_line_94 rfl ?_
      refine V_getR (pc := 95) fX11_47 sC0 rfl dX11_line_95 ?_
      refine V_getR (pc := 98) fX11_166 sC6 rfl dX11_line_98 ?_
      refine V_iload_n (pc := 101) dX11_line_101 rfl ?_
      refine V_iald (pc := 102) sC31 dX11_line_102 h.1 ?_
      have h := h.2
      exact V_iret dX11_line_103 rfl h
    · have h := h.2.2.2.2.1 c
      show V _ _ _ _ 104 _ _ _ _
      refine V_aload_n (pc := 104) dX11_line_104 rfl ?_
      refine V_getR (pc := 105) fX11_47 sC0 rfl dX11_line_105 ?_
      refine V_getR (pc := 108) fX11_169 sC6 rfl dX11_line_108 ?_
      refine V_iload_n (pc := 111) dX11_line_111 rfl ?_
      refine V_iald (pc := 112) sC32 dX11_line_112 h.1 ?_
      have h := h.2
      exact V_iret dX11_line_113 rfl h
    · have h := h.2.2.2.2.2.1 c
      show V _ _ _ _ 114 _ _ _ _
      refine V_aload_n (pc := 114) dX11_line_114 rfl ?_
      refine V_getR (pc := 115) fX11_47 sC0 rfl dX11_line_115 ?_
      refine V_getR (pc := 118) fX11_172 sC6 rfl dX11_line_118 ?_
      refine V_iload_n (pc := 121) dX11_line_121 rfl ?_
      refine V_iald (pc := 122) sC33 dX11_line_122 h.1 ?_
      have h := h.2
      exact V_iret dX11_line_123 rfl h
    · have h := h.2.2.2.2.2.2.1 c
      show V _ _ _ _ 124 _ _ _ _
      refine V_aload_n (pc := 124) dX11_line_124 rfl ?_
      refine V_getR (pc := 125) fX11_47 sC0 rfl dX11_line_125 ?_
      refine V_getR (pc := 128) fX11_175 sC6 rfl dX11_line_128 ?_
      refine V_iload_n (pc := 131) dX11_line_131 rfl ?_
      refine V_iald (pc := 132) sC34 dX11_line_132 h.1 ?_
      have h := h.2
      exact V_iret dX11_line_133 rfl h
    · have h := h.2.2.2.2.2.2.2.1 c
      show V _ _ _ _ 134 _ _ _ _
      refine V_aload_n (pc := 134) dX11_line_134 rfl ?_
      refine V_iload_n (pc := 135) dX11_line_135 rfl ?_
      refine V_callVi [.int v1] (pc := 136) kX11_isHomeless lX11_178 sC0 rfl rfl (Nat.le_of_ble_eq_true rfl) rfl (Nat.le_of_ble_eq_true rfl) dX11_line_136 ?_
      refine Ci.mono h ?_
      intro x2 M2 h
      refine V_if_eq (tgt := 146) (pc := 139) dX11_line_139 rfl (fun c => ?_) (fun c => ?_)
      · have h := h.1 c
        refine V_iconst (v := 0) (pc := 146) dX11_line_146 rfl ?_
        exact V_iret dX11_line_147 rfl h
      · have h := h.2 c
        refine V_iconst (v := 1) (pc := 142) dX11_line_142 rfl ?_
        refine V_goto (tgt := 147) (pc := 143) dX11_line_143 rfl ?_
        exact V_iret dX11_line_147 rfl h
    · have h := h.2.2.2.2.2.2.2.2.1 c
      show V _ _ _ _ 148 _ _ _ _
      refine V_aload_n (pc := 148) dX11_line_148 rfl ?_
      refine V_getR (pc := 149) fX11_47 sC0 rfl dX11_line_149 ?_
      refine V_getR (pc := 152) fX11_181 sC6 rfl dX11_line_152 ?_
      refine V_getR (pc := 155) fX11_185 sC7 rfl dX11_line_155 ?_
      refine V_iload_n (pc := 158) dX11_line_158 rfl ?_
      refine V_iald (pc := 159) sC38 dX11_line_159 h.1 ?_
      have h := h.2
      exact V_iret dX11_line_160 rfl h
    · have h := h.2.2.2.2.2.2.2.2.2 c
      refine V_ldc (pc := 161) dX11_line_161 nX11_91 ?_
      exact V_iret dX11_line_163 rfl h
  · have h := h.2 c
    refine V_ldc (pc := 8) dX11_line_8 nX11_91 ?_
    exact V_iret dX11_line_10 rfl h
theorem wp_X11_quarrels {G : GV} {k : Nat} {M : Mem} {q : Int32 → Mem → Prop}  (h : Ci shC G mX6_countQuarrels (k + 1) [.ref (G.2.1 4)] M (fun x1 M1 => q x1 M1)) : Ci shC G mX11_quarrels (k + 2) [.ref (G.2.1 0)] M q := by
  unfold Ci
  show V _ _ _ _ _ [(0, .ref (G.2.1 0))] _ _ _
  refine V_aload_n (pc := 0) dX11_quarrels_0 rfl ?_
  refine V_getR (pc := 1) fX11_33 sC0 rfl dX11_quarrels_1 ?_
  refine V_callVi [] (pc := 4) kX6_countQuarrels lX11_208 sC4 rfl rfl (Nat.le_of_ble_eq_true rfl) rfl (Nat.le_of_ble_eq_true rfl) dX11_quarrels_4 ?_
  refine Ci.mono h ?_
  intro x1 M1 h
  exact V_iret dX11_quarrels_7 rfl h
theorem wp_X11_today {G : GV} {k : Nat} {M : Mem} {q : Int32 → Mem → Prop} {v1 : Int32} {v2 : Int32} {v3 : Int32} (h : Ci shC G mX11_isPlace (k + 1) [.ref (G.2.1 0), .int v1, .int v2, .int v3] M (fun x1 M1 => ((x1 = 0 → q (-1000001) M1) ∧ (¬ x1 = 0 → Ci shC G mX6_numberToday (k + 1) [.ref (G.2.1 4), .int v1, .int v2, .int v3] M1 (fun x2 M2 => q x2 M2))))) : Ci shC G mX11_today (k + 2) [.ref (G.2.1 0), .int v1, .int v2, .int v3] M q := by
  unfold Ci
  show V _ _ _ _ _ [(0, .ref (G.2.1 0)), (1, .int v1), (2, .int v2), (3, .int v3)] _ _ _
  refine V_aload_n (pc := 0) dX11_today_0 rfl ?_
  refine V_iload_n (pc := 1) dX11_today_1 rfl ?_
  refine V_iload_n (pc := 2) dX11_today_2 rfl ?_
  refine V_iload_n (pc := 3) dX11_today_3 rfl ?_
  refine V_callVi [.int v1, .int v2, .int v3] (pc := 4) kX11_isPlace lX11_202 sC0 rfl rfl (Nat.le_of_ble_eq_true rfl) rfl (Nat.le_of_ble_eq_true rfl) dX11_today_4 ?_
  refine Ci.mono h ?_
  intro x1 M1 h
  refine V_if_eq (tgt := 23) (pc := 7) dX11_today_7 rfl (fun c => ?_) (fun c => ?_)
  · have h := h.1 c
    refine V_ldc (pc := 23) dX11_today_23 nX11_91 ?_
    exact V_iret dX11_today_25 rfl h
  · have h := h.2 c
    refine V_aload_n (pc := 10) dX11_today_10 rfl ?_
    refine V_getR (pc := 11) fX11_33 sC0 rfl dX11_today_11 ?_
    refine V_iload_n (pc := 14) dX11_today_14 rfl ?_
    refine V_iload_n (pc := 15) dX11_today_15 rfl ?_
    refine V_iload_n (pc := 16) dX11_today_16 rfl ?_
    refine V_callVi [.int v1, .int v2, .int v3] (pc := 17) kX6_numberToday lX11_205 sC4 rfl rfl (Nat.le_of_ble_eq_true rfl) rfl (Nat.le_of_ble_eq_true rfl) dX11_today_17 ?_
    refine Ci.mono h ?_
    intro x2 M2 h
    refine V_goto (tgt := 25) (pc := 20) dX11_today_20 rfl ?_
    exact V_iret dX11_today_25 rfl h
theorem wp_X11_walkEnd {G : GV} {k : Nat} {M : Mem} {q : Int32 → Mem → Prop} {v1 : Int32} {v2 : Int32} (h : Ci shC G mX9_item (k + 1) [.ref (G.2.1 1), .int v1, .int v2] M (fun x1 M1 => Ci shC G mX9_item (k + 1) [.ref (G.2.1 1), .int v1, .int (v2 + 1)] M1 (fun x2 M2 => Ci shC G mX9_item (k + 1) [.ref (G.2.1 1), .int v1, .int (v2 + 2)] M2 (fun x3 M3 => Ci shC G mX11_isPlace (k + 1) [.ref (G.2.1 0), .int x1, .int x2, .int x3] M3 (fun x4 M4 => ((x4 ≠ 0 → Ci shC G mX6_numberToday (k + 1) [.ref (G.2.1 4), .int x1, .int x2, .int x3] M4 (fun x5 M5 => q ((x1 * 100) + x5) M5)) ∧ (x4 = 0 → q (-1000001) M4))))))) : Ci shC G mX11_walkEnd (k + 2) [.ref (G.2.1 0), .int v1, .int v2] M q := by
  unfold Ci
  show V _ _ _ _ _ [(0, .ref (G.2.1 0)), (1, .int v1), (2, .int v2)] _ _ _
  refine V_aload_n (pc := 0) dX11_walkEnd_0 rfl ?_
  refine V_getR (pc := 1) fX11_10 sC0 rfl dX11_walkEnd_1 ?_
  refine V_iload_n (pc := 4) dX11_walkEnd_4 rfl ?_
  refine V_iload_n (pc := 5) dX11_walkEnd_5 rfl ?_
  refine V_callVi [.int v1, .int v2] (pc := 6) kX9_item lX11_337 sC1 rfl rfl (Nat.le_of_ble_eq_true rfl) rfl (Nat.le_of_ble_eq_true rfl) dX11_walkEnd_6 ?_
  refine Ci.mono h ?_
  intro x1 M1 h
  refine V_istore_n (pc := 9) dX11_walkEnd_9 (by decide) ?_
  refine V_lv (lv2 := [(0, .ref (G.2.1 0)), (1, .int v1), (2, .int v2), (3, .int x1)]) rfl ?_
  refine V_aload_n (pc := 10) dX11_walkEnd_10 rfl ?_
  refine V_getR (pc := 11) fX11_10 sC0 rfl dX11_walkEnd_11 ?_
  refine V_iload_n (pc := 14) dX11_walkEnd_14 rfl ?_
  refine V_iload_n (pc := 15) dX11_walkEnd_15 rfl ?_
  refine V_iconst (v := 1) (pc := 16) dX11_walkEnd_16 rfl ?_
  refine V_iadd (pc := 17) dX11_walkEnd_17 ?_
  refine V_callVi [.int v1, .int (v2 + 1)] (pc := 18) kX9_item lX11_337 sC1 rfl rfl (Nat.le_of_ble_eq_true rfl) rfl (Nat.le_of_ble_eq_true rfl) dX11_walkEnd_18 ?_
  refine Ci.mono h ?_
  intro x2 M2 h
  refine V_istore (pc := 21) dX11_walkEnd_21 (by decide) ?_
  refine V_lv (lv2 := [(0, .ref (G.2.1 0)), (1, .int v1), (2, .int v2), (3, .int x1), (4, .int x2)]) rfl ?_
  refine V_aload_n (pc := 23) dX11_walkEnd_23 rfl ?_
  refine V_getR (pc := 24) fX11_10 sC0 rfl dX11_walkEnd_24 ?_
  refine V_iload_n (pc := 27) dX11_walkEnd_27 rfl ?_
  refine V_iload_n (pc := 28) dX11_walkEnd_28 rfl ?_
  refine V_iconst (v := 2) (pc := 29) dX11_walkEnd_29 rfl ?_
  refine V_iadd (pc := 30) dX11_walkEnd_30 ?_
  refine V_callVi [.int v1, .int (v2 + 2)] (pc := 31) kX9_item lX11_337 sC1 rfl rfl (Nat.le_of_ble_eq_true rfl) rfl (Nat.le_of_ble_eq_true rfl) dX11_walkEnd_31 ?_
  refine Ci.mono h ?_
  intro x3 M3 h
  refine V_istore (pc := 34) dX11_walkEnd_34 (by decide) ?_
  refine V_lv (lv2 := [(0, .ref (G.2.1 0)), (1, .int v1), (2, .int v2), (3, .int x1), (4, .int x2), (5, .int x3)]) rfl ?_
  refine V_aload_n (pc := 36) dX11_walkEnd_36 rfl ?_
  refine V_iload_n (pc := 37) dX11_walkEnd_37 rfl ?_
  refine V_iload (pc := 38) dX11_walkEnd_38 rfl ?_
  refine V_iload (pc := 40) dX11_walkEnd_40 rfl ?_
  refine V_callVi [.int x1, .int x2, .int x3] (pc := 42) kX11_isPlace lX11_202 sC0 rfl rfl (Nat.le_of_ble_eq_true rfl) rfl (Nat.le_of_ble_eq_true rfl) dX11_walkEnd_42 ?_
  refine Ci.mono h ?_
  intro x4 M4 h
  refine V_if_ne (tgt := 51) (pc := 45) dX11_walkEnd_45 rfl (fun c => ?_) (fun c => ?_)
  · have h := h.1 c
    refine V_iload_n (pc := 51) dX11_walkEnd_51 rfl ?_
    refine V_bipush (v := 100) (pc := 52) dX11_walkEnd_52 rfl ?_
    refine V_imul (pc := 54) dX11_walkEnd_54 ?_
    refine V_aload_n (pc := 55) dX11_walkEnd_55 rfl ?_
    refine V_getR (pc := 56) fX11_33 sC0 rfl dX11_walkEnd_56 ?_
    refine V_iload_n (pc := 59) dX11_walkEnd_59 rfl ?_
    refine V_iload (pc := 60) dX11_walkEnd_60 rfl ?_
    refine V_iload (pc := 62) dX11_walkEnd_62 rfl ?_
    refine V_callVi [.int x1, .int x2, .int x3] (pc := 64) kX6_numberToday lX11_205 sC4 rfl rfl (Nat.le_of_ble_eq_true rfl) rfl (Nat.le_of_ble_eq_true rfl) dX11_walkEnd_64 ?_
    refine Ci.mono h ?_
    intro x5 M5 h
    refine V_iadd (pc := 67) dX11_walkEnd_67 ?_
    exact V_iret dX11_walkEnd_68 rfl h
  · have h := h.2 c
    refine V_ldc (pc := 48) dX11_walkEnd_48 nX11_91 ?_
    exact V_iret dX11_walkEnd_50 rfl h
theorem wp_X11_alike {G : GV} {k : Nat} {M : Mem} {q : Int32 → Mem → Prop} {v1 : Int32} {v2 : Int32} {v3 : Int32} (h : Ci shC G mX11_noLine (k + 2) [.ref (G.2.1 0), .int v1] M (fun x1 M1 => ((x1 ≠ 0 → q (-1000001) M1) ∧ (x1 = 0 → Ci shC G mX11_noLine (k + 2) [.ref (G.2.1 0), .int v2] M1 (fun x2 M2 => ((x2 = 0 → (((v3).toInt = 0 → Ci shC G mX5_hand (k + 2) [.ref (G.2.1 7), .int v1, .int v2] M2 (fun x3 M3 => q x3 M3)) ∧ ((v3).toInt = 1 → Ci shC G mX5_areLike (k + 2) [.ref (G.2.1 7), .int v1, .int v2] M2 (fun x4 M4 => ((x4 = 0 → q 0 M4) ∧ (¬ x4 = 0 → q 1 M4)))) ∧ ((v3).toInt = 2 → Ci shC G mX3_mayBeOne (k + 2) [.ref (G.2.1 6), .int v1, .int v2] M2 (fun x5 M5 => ((x5 = 0 → q 0 M5) ∧ (¬ x5 = 0 → q 1 M5)))) ∧ (((v3).toInt < 0 ∨ 2 < (v3).toInt) → q (-1000001) M2))) ∧ (¬ x2 = 0 → q (-1000001) M2))))))) : Ci shC G mX11_alike (k + 3) [.ref (G.2.1 0), .int v1, .int v2, .int v3] M q := by
  unfold Ci
  show V _ _ _ _ _ [(0, .ref (G.2.1 0)), (1, .int v1), (2, .int v2), (3, .int v3)] _ _ _
  refine V_aload_n (pc := 0) dX11_alike_0 rfl ?_
  refine V_iload_n (pc := 1) dX11_alike_1 rfl ?_
  refine V_callVi [.int v1] (pc := 2) kX11_noLine lX11_154 sC0 rfl rfl (Nat.le_of_ble_eq_true rfl) rfl (Nat.le_of_ble_eq_true rfl) dX11_alike_2 ?_
  refine Ci.mono h ?_
  intro x1 M1 h
  refine V_if_ne (tgt := 16) (pc := 5) dX11_alike_5 rfl (fun c => ?_) (fun c => ?_)
  · have h := h.1 c
    refine V_ldc (pc := 16) dX11_alike_16 nX11_91 ?_
    exact V_iret dX11_alike_18 rfl h
  · have h := h.2 c
    refine V_aload_n (pc := 8) dX11_alike_8 rfl ?_
    refine V_iload_n (pc := 9) dX11_alike_9 rfl ?_
    refine V_callVi [.int v2] (pc := 10) kX11_noLine lX11_154 sC0 rfl rfl (Nat.le_of_ble_eq_true rfl) rfl (Nat.le_of_ble_eq_true rfl) dX11_alike_10 ?_
    refine Ci.mono h ?_
    intro x2 M2 h
    refine V_if_eq (tgt := 19) (pc := 13) dX11_alike_13 rfl (fun c => ?_) (fun c => ?_)
    · have h := h.1 c
      refine V_iload_n (pc := 19) dX11_alike_19 rfl ?_
      refine V_table (tgt := 100) (pc := 20) dX11_alike_20 rfl rfl rfl ⟨fun c => ?_, fun c => ?_, fun c => ?_, trivial⟩ (fun c => ?_)
      · have h := h.1 c
        show V _ _ _ _ 48 _ _ _ _
        refine V_aload_n (pc := 48) dX11_alike_48 rfl ?_
        refine V_getR (pc := 49) fX11_47 sC0 rfl dX11_alike_49 ?_
        refine V_getR (pc := 52) fX11_181 sC6 rfl dX11_alike_52 ?_
        refine V_iload_n (pc := 55) dX11_alike_55 rfl ?_
        refine V_iload_n (pc := 56) dX11_alike_56 rfl ?_
        refine V_callVi [.int v1, .int v2] (pc := 57) kX5_hand lX11_192 sC7 rfl rfl (Nat.le_of_ble_eq_true rfl) rfl (Nat.le_of_ble_eq_true rfl) dX11_alike_57 ?_
        refine Ci.mono h ?_
        intro x3 M3 h
        exact V_iret dX11_alike_60 rfl h
      · have h := h.2.1 c
        show V _ _ _ _ 61 _ _ _ _
        refine V_aload_n (pc := 61) dX11_alike_61 rfl ?_
        refine V_getR (pc := 62) fX11_47 sC0 rfl dX11_alike_62 ?_
        refine V_getR (pc := 65) fX11_181 sC6 rfl dX11_alike_65 ?_
        refine V_iload_n (pc := 68) dX11_alike_68 rfl ?_
        refine V_iload_n (pc := 69) dX11_alike_69 rfl ?_
        refine V_callVi [.int v1, .int v2] (pc := 70) kX5_areLike lX11_196 sC7 rfl rfl (Nat.le_of_ble_eq_true rfl) rfl (Nat.le_of_ble_eq_true rfl) dX11_alike_70 ?_
        refine Ci.mono h ?_
        intro x4 M4 h
        refine V_if_eq (tgt := 80) (pc := 73) dX11_alike_73 rfl (fun c => ?_) (fun c => ?_)
        · have h := h.1 c
          refine V_iconst (v := 0) (pc := 80) dX11_alike_80 rfl ?_
          exact V_iret dX11_alike_81 rfl h
        · have h := h.2 c
          refine V_iconst (v := 1) (pc := 76) dX11_alike_76 rfl ?_
          refine V_goto (tgt := 81) (pc := 77) dX11_alike_77 rfl ?_
          exact V_iret dX11_alike_81 rfl h
      · have h := h.2.2.1 c
        show V _ _ _ _ 82 _ _ _ _
        refine V_aload_n (pc := 82) dX11_alike_82 rfl ?_
        refine V_getR (pc := 83) fX11_47 sC0 rfl dX11_alike_83 ?_
        refine V_iload_n (pc := 86) dX11_alike_86 rfl ?_
        refine V_iload_n (pc := 87) dX11_alike_87 rfl ?_
        refine V_callVi [.int v1, .int v2] (pc := 88) kX3_mayBeOne lX11_199 sC6 rfl rfl (Nat.le_of_ble_eq_true rfl) rfl (Nat.le_of_ble_eq_true rfl) dX11_alike_88 ?_
        refine Ci.mono h ?_
        intro x5 M5 h
        refine V_if_eq (tgt := 98) (pc := 91) dX11_alike_91 rfl (fun c => ?_) (fun c => ?_)
        · have h := h.1 c
          refine V_iconst (v := 0) (pc := 98) dX11_alike_98 rfl ?_
          exact V_iret dX11_alike_99 rfl h
        · have h := h.2 c
          refine V_iconst (v := 1) (pc := 94) dX11_alike_94 rfl ?_
          refine V_goto (tgt := 99) (pc := 95) dX11_alike_95 rfl ?_
          exact V_iret dX11_alike_99 rfl h
      · have h := h.2.2.2 c
        refine V_ldc (pc := 100) dX11_alike_100 nX11_91 ?_
        exact V_iret dX11_alike_102 rfl h
    · have h := h.2 c
      refine V_ldc (pc := 16) dX11_alike_16 nX11_91 ?_
      exact V_iret dX11_alike_18 rfl h
theorem wp_X11_count {G : GV} {k : Nat} {M : Mem} {q : Int32 → Mem → Prop} {v1 : Int32} (h : (((v1).toInt = 0 → Ci shC G mX9_countLaid (k + 2) [.ref (G.2.1 1)] M (fun x1 M1 => q x1 M1)) ∧ ((v1).toInt = 1 → q (M.1 3 3) M) ∧ ((v1).toInt = 2 → q (M.1 6 8) M) ∧ ((v1).toInt = 3 → q (M.1 4 4) M) ∧ ((v1).toInt = 4 → q (M.1 5 4) M) ∧ ((v1).toInt = 5 → Ci shC G mX3_countHomes (k + 2) [.ref (G.2.1 6)] M (fun x2 M2 => q x2 M2)) ∧ ((v1).toInt = 6 → Ci shC G mX11_countHomeless (k + 2) [.ref (G.2.1 0)] M (fun x3 M3 => q x3 M3)) ∧ ((v1).toInt = 7 → q (M.1 2 1) M) ∧ (((v1).toInt < 0 ∨ 7 < (v1).toInt) → q (-1000001) M))) : Ci shC G mX11_count (k + 3) [.ref (G.2.1 0), .int v1] M q := by
  unfold Ci
  show V _ _ _ _ _ [(0, .ref (G.2.1 0)), (1, .int v1)] _ _ _
  refine V_iload_n (pc := 0) dX11_count_0 rfl ?_
  refine V_table (tgt := 109) (pc := 1) dX11_count_1 rfl rfl rfl ⟨fun c => ?_, fun c => ?_, fun c => ?_, fun c => ?_, fun c => ?_, fun c => ?_, fun c => ?_, fun c => ?_, trivial⟩ (fun c => ?_)
  · have h := h.1 c
    show V _ _ _ _ 48 _ _ _ _
    refine V_aload_n (pc := 48) dX11_count_48 rfl ?_
    refine V_getR (pc := 49) fX11_10 sC0 rfl dX11_count_49 ?_
    refine V_callVi [] (pc := 52) kX9_countLaid lX11_306 sC1 rfl rfl (Nat.le_of_ble_eq_true rfl) rfl (Nat.le_of_ble_eq_true rfl) dX11_count_52 ?_
    refine Ci.mono h ?_
    intro x1 M1 h
    exact V_iret dX11_count_55 rfl h
  · have h := h.2.1 c
    show V _ _ _ _ 56 _ _ _ _
    refine V_aload_n (pc := 56) dX11_count_56 rfl ?_
    refine V_getR (pc := 57) fX11_26 sC0 rfl dX11_count_57 ?_
    refine V_getI (pc := 60) fX11_283 sC3 rfl dX11_count_60 ?_
    exact V_iret dX11_count_63 rfl h
  · have h := h.2.2.1 c
    show V _ _ _ _ 64 _ _ _ _
    refine V_aload_n (pc := 64) dX11_count_64 rfl ?_
    refine V_getR (pc := 65) fX11_47 sC0 rfl dX11_count_65 ?_
    refine V_getI (pc := 68) fX11_151 sC6 rfl dX11_count_68 ?_
    exact V_iret dX11_count_71 rfl h
  · have h := h.2.2.2.1 c
    show V _ _ _ _ 72 _ _ _ _
    refine V_aload_n (pc := 72) dX11_count_72 rfl ?_
    refine V_getR (pc := 73) fX11_33 sC0 rfl dX11_count_73 ?_
    refine V_getI (pc := 76) fX11_309 sC4 rfl dX11_count_76 ?_
    exact V_iret dX11_count_79 rfl h
  · have h := h.2.2.2.2.1 c
    show V _ _ _ _ 80 _ _ _ _
    refine V_aload_n (pc := 80) dX11_count_80 rfl ?_
    refine V_getR (pc := 81) fX11_40 sC0 rfl dX11_count_81 ?_
    refine V_getI (pc := 84) fX11_310 sC5 rfl dX11_count_84 ?_
    exact V_iret dX11_count_87 rfl h
  · have h := h.2.2.2.2.2.1 c
    show V _ _ _ _ 88 _ _ _ _
    refine V_aload_n (pc := 88) dX11_count_88 rfl ?_
    refine V_getR (pc := 89) fX11_47 sC0 rfl dX11_count_89 ?_
    refine V_callVi [] (pc := 92) kX3_countHomes lX11_311 sC6 rfl rfl (Nat.le_of_ble_eq_true rfl) rfl (Nat.le_of_ble_eq_true rfl) dX11_count_92 ?_
    refine Ci.mono h ?_
    intro x2 M2 h
    exact V_iret dX11_count_95 rfl h
  · have h := h.2.2.2.2.2.2.1 c
    show V _ _ _ _ 96 _ _ _ _
    refine V_aload_n (pc := 96) dX11_count_96 rfl ?_
    refine V_callVi [] (pc := 97) kX11_countHomeless lX11_314 sC0 rfl rfl (Nat.le_of_ble_eq_true rfl) rfl (Nat.le_of_ble_eq_true rfl) dX11_count_97 ?_
    refine Ci.mono h ?_
    intro x3 M3 h
    exact V_iret dX11_count_100 rfl h
  · have h := h.2.2.2.2.2.2.2.1 c
    show V _ _ _ _ 101 _ _ _ _
    refine V_aload_n (pc := 101) dX11_count_101 rfl ?_
    refine V_getR (pc := 102) fX11_19 sC0 rfl dX11_count_102 ?_
    refine V_getI (pc := 105) fX11_125 sC2 rfl dX11_count_105 ?_
    exact V_iret dX11_count_108 rfl h
  · have h := h.2.2.2.2.2.2.2.2 c
    refine V_ldc (pc := 109) dX11_count_109 nX11_91 ?_
    exact V_iret dX11_count_111 rfl h
theorem wp_X11_missing {G : GV} {k : Nat} {M : Mem} {q : Int32 → Mem → Prop} {v1 : Int32} {v2 : Int32} {v3 : Int32} (h : Ci shC G mX11_noBook (k + 2) [.ref (G.2.1 0), .int v1] M (fun x1 M1 => ((x1 ≠ 0 → q (-1000001) M1) ∧ (x1 = 0 → Ci shC G mX11_noBook (k + 2) [.ref (G.2.1 0), .int v2] M1 (fun x2 M2 => ((x2 ≠ 0 → q (-1000001) M2) ∧ (x2 = 0 → ((v1 = v2 → q (-1000001) M2) ∧ (¬ v1 = v2 → ((v3 < 0 → q (-1000001) M2) ∧ (¬ v3 < 0 → ((v3 ≤ 2 → Ci shC G mX3_countOfBook (k + 2) [.ref (G.2.1 6), .int v1] M2 (fun x3 M3 => Ci shC G mX3_countOfBook (k + 2) [.ref (G.2.1 6), .int v2] M3 (fun x4 M4 => Ci shC G mX3_countInBoth (k + 2) [.ref (G.2.1 6), .int v1, .int v2] M4 (fun x5 M5 => (((v3).toInt = 0 → ((x5 ≠ 0 → ¬ x5 = 0 ∧ q ((x3 * x4) / x5) M5) ∧ (x5 = 0 → q (-1000000) M5))) ∧ ((v3).toInt = 1 → q ((x3 + x4) - x5) M5) ∧ (([((0, 27) : Int × Int), ((1, 46) : Int × Int)].all (fun q => decide ((v3).toInt ≠ q.1)) = true) → q x5 M5)))))) ∧ (¬ v3 ≤ 2 → q (-1000001) M2))))))))))))) : Ci shC G mX11_missing (k + 3) [.ref (G.2.1 0), .int v1, .int v2, .int v3] M q := by
  unfold Ci
  show V _ _ _ _ _ [(0, .ref (G.2.1 0)), (1, .int v1), (2, .int v2), (3, .int v3)] _ _ _
  refine V_aload_n (pc := 0) dX11_missing_0 rfl ?_
  refine V_iload_n (pc := 1) dX11_missing_1 rfl ?_
  refine V_callVi [.int v1] (pc := 2) kX11_noBook lX11_270 sC0 rfl rfl (Nat.le_of_ble_eq_true rfl) rfl (Nat.le_of_ble_eq_true rfl) dX11_missing_2 ?_
  refine Ci.mono h ?_
  intro x1 M1 h
  refine V_if_ne (tgt := 30) (pc := 5) dX11_missing_5 rfl (fun c => ?_) (fun c => ?_)
  · have h := h.1 c
    refine V_ldc (pc := 30) dX11_missing_30 nX11_91 ?_
    exact V_iret dX11_missing_32 rfl h
  · have h := h.2 c
    refine V_aload_n (pc := 8) dX11_missing_8 rfl ?_
    refine V_iload_n (pc := 9) dX11_missing_9 rfl ?_
    refine V_callVi [.int v2] (pc := 10) kX11_noBook lX11_270 sC0 rfl rfl (Nat.le_of_ble_eq_true rfl) rfl (Nat.le_of_ble_eq_true rfl) dX11_missing_10 ?_
    refine Ci.mono h ?_
    intro x2 M2 h
    refine V_if_ne (tgt := 30) (pc := 13) dX11_missing_13 rfl (fun c => ?_) (fun c => ?_)
    · have h := h.1 c
      refine V_ldc (pc := 30) dX11_missing_30 nX11_91 ?_
      exact V_iret dX11_missing_32 rfl h
    · have h := h.2 c
      refine V_iload_n (pc := 16) dX11_missing_16 rfl ?_
      refine V_iload_n (pc := 17) dX11_missing_17 rfl ?_
      refine V_icmp_eq (tgt := 30) (pc := 18) dX11_missing_18 rfl (fun c => ?_) (fun c => ?_)
      · have h := h.1 c
        refine V_ldc (pc := 30) dX11_missing_30 nX11_91 ?_
        exact V_iret dX11_missing_32 rfl h
      · have h := h.2 c
        refine V_iload_n (pc := 21) dX11_missing_21 rfl ?_
        refine V_if_lt (tgt := 30) (pc := 22) dX11_missing_22 rfl (fun c => ?_) (fun c => ?_)
        · have h := h.1 c
          refine V_ldc (pc := 30) dX11_missing_30 nX11_91 ?_
          exact V_iret dX11_missing_32 rfl h
        · have h := h.2 c
          refine V_iload_n (pc := 25) dX11_missing_25 rfl ?_
          refine V_iconst (v := 2) (pc := 26) dX11_missing_26 rfl ?_
          refine V_icmp_le (tgt := 33) (pc := 27) dX11_missing_27 rfl (fun c => ?_) (fun c => ?_)
          · have h := h.1 c
            refine V_aload_n (pc := 33) dX11_missing_33 rfl ?_
            refine V_getR (pc := 34) fX11_47 sC0 rfl dX11_missing_34 ?_
            refine V_iload_n (pc := 37) dX11_missing_37 rfl ?_
            refine V_callVi [.int v1] (pc := 38) kX3_countOfBook lX11_273 sC6 rfl rfl (Nat.le_of_ble_eq_true rfl) rfl (Nat.le_of_ble_eq_true rfl) dX11_missing_38 ?_
            refine Ci.mono h ?_
            intro x3 M3 h
            refine V_istore (pc := 41) dX11_missing_41 (by decide) ?_
            refine V_lv (lv2 := [(0, .ref (G.2.1 0)), (1, .int v1), (2, .int v2), (3, .int v3), (4, .int x3)]) rfl ?_
            refine V_aload_n (pc := 43) dX11_missing_43 rfl ?_
            refine V_getR (pc := 44) fX11_47 sC0 rfl dX11_missing_44 ?_
            refine V_iload_n (pc := 47) dX11_missing_47 rfl ?_
            refine V_callVi [.int v2] (pc := 48) kX3_countOfBook lX11_273 sC6 rfl rfl (Nat.le_of_ble_eq_true rfl) rfl (Nat.le_of_ble_eq_true rfl) dX11_missing_48 ?_
            refine Ci.mono h ?_
            intro x4 M4 h
            refine V_istore (pc := 51) dX11_missing_51 (by decide) ?_
            refine V_lv (lv2 := [(0, .ref (G.2.1 0)), (1, .int v1), (2, .int v2), (3, .int v3), (4, .int x3), (5, .int x4)]) rfl ?_
            refine V_aload_n (pc := 53) dX11_missing_53 rfl ?_
            refine V_getR (pc := 54) fX11_47 sC0 rfl dX11_missing_54 ?_
            refine V_iload_n (pc := 57) dX11_missing_57 rfl ?_
            refine V_iload_n (pc := 58) dX11_missing_58 rfl ?_
            refine V_callVi [.int v1, .int v2] (pc := 59) kX3_countInBoth lX11_276 sC6 rfl rfl (Nat.le_of_ble_eq_true rfl) rfl (Nat.le_of_ble_eq_true rfl) dX11_missing_59 ?_
            refine Ci.mono h ?_
            intro x5 M5 h
            refine V_istore (pc := 62) dX11_missing_62 (by decide) ?_
            refine V_lv (lv2 := [(0, .ref (G.2.1 0)), (1, .int v1), (2, .int v2), (3, .int v3), (4, .int x3), (5, .int x4), (6, .int x5)]) rfl ?_
            refine V_iload_n (pc := 64) dX11_missing_64 rfl ?_
            refine V_lookup (tgt := 120) (pc := 65) dX11_missing_65 rfl rfl rfl ⟨fun c => ?_, fun c => ?_, trivial⟩ (fun c => ?_)
            · have h := h.1 c
              show V _ _ _ _ 92 _ _ _ _
              refine V_iload (pc := 92) dX11_missing_92 rfl ?_
              refine V_if_ne (tgt := 102) (pc := 94) dX11_missing_94 rfl (fun c => ?_) (fun c => ?_)
              · have h := h.1 c
                refine V_iload (pc := 102) dX11_missing_102 rfl ?_
                refine V_iload (pc := 104) dX11_missing_104 rfl ?_
                refine V_imul (pc := 106) dX11_missing_106 ?_
                refine V_iload (pc := 107) dX11_missing_107 rfl ?_
                refine V_idiv (pc := 109) dX11_missing_109 h.1 ?_
                have h := h.2
                exact V_iret dX11_missing_110 rfl h
              · have h := h.2 c
                refine V_ldc (pc := 97) dX11_missing_97 nX11_238 ?_
                refine V_goto (tgt := 110) (pc := 99) dX11_missing_99 rfl ?_
                exact V_iret dX11_missing_110 rfl h
            · have h := h.2.1 c
              show V _ _ _ _ 111 _ _ _ _
              refine V_iload (pc := 111) dX11_missing_111 rfl ?_
              refine V_iload (pc := 113) dX11_missing_113 rfl ?_
              refine V_iadd (pc := 115) dX11_missing_115 ?_
              refine V_iload (pc := 116) dX11_missing_116 rfl ?_
              refine V_isub (pc := 118) dX11_missing_118 ?_
              exact V_iret dX11_missing_119 rfl h
            · have h := h.2.2 c
              refine V_iload (pc := 120) dX11_missing_120 rfl ?_
              exact V_iret dX11_missing_122 rfl h
          · have h := h.2 c
            refine V_ldc (pc := 30) dX11_missing_30 nX11_91 ?_
            exact V_iret dX11_missing_32 rfl h
theorem wp_X11_next {G : GV} {k : Nat} {M : Mem} {q : Int32 → Mem → Prop}  (h : V shC G mX11_next (k + 3) 7 [(0, .ref (G.2.1 0)), (1, .int (-1000000)), (2, .int (-1)), (3, .int 0)] [] M (Qi q)) : Ci shC G mX11_next (k + 3) [.ref (G.2.1 0)] M q := by
  unfold Ci
  show V _ _ _ _ _ [(0, .ref (G.2.1 0))] _ _ _
  refine V_ldc (pc := 0) dX11_next_0 nX11_238 ?_
  refine V_istore_n (pc := 2) dX11_next_2 (by decide) ?_
  refine V_lv (lv2 := [(0, .ref (G.2.1 0)), (1, .int (-1000000))]) rfl ?_
  refine V_iconst (v := (-1)) (pc := 3) dX11_next_3 rfl ?_
  refine V_istore_n (pc := 4) dX11_next_4 (by decide) ?_
  refine V_lv (lv2 := [(0, .ref (G.2.1 0)), (1, .int (-1000000)), (2, .int (-1))]) rfl ?_
  refine V_iconst (v := 0) (pc := 5) dX11_next_5 rfl ?_
  refine V_istore_n (pc := 6) dX11_next_6 (by decide) ?_
  refine V_lv (lv2 := [(0, .ref (G.2.1 0)), (1, .int (-1000000)), (2, .int (-1)), (3, .int 0)]) rfl ?_
  exact V_sub h ⟨rfl, rfl, rfl, rfl, trivial⟩
theorem wp_X11_next_7 {G : GV} {k : Nat} {M : Mem} {q : Int32 → Mem → Prop} {v1 : Int32} {v2 : Int32} {v3 : Int32} (h : (((M.1 3 3) ≤ v3 → q v1 M) ∧ (¬ (M.1 3 3) ≤ v3 → vp_in v3 10 ∧ (((M.1 19 (ix v3)) = 0 → Ci shC G mX3_countUnseen (k + 2) [.ref (G.2.1 6), .int v3, .ref (G.2.1 3)] M (fun x1 M1 => Ci shC G mX1_worth (k + 2) [.ref (G.2.1 3), .int v3, .int x1] M1 (fun x2 M2 => ((x2 ≤ v2 → V shC G mX11_next (k + 3) 7 [(0, .ref (G.2.1 0)), (1, .int v1), (2, .int v2), (3, .int (v3 + 1))] [] M2 (Qi q)) ∧ (¬ x2 ≤ v2 → V shC G mX11_next (k + 3) 7 [(0, .ref (G.2.1 0)), (1, .int v3), (2, .int x2), (3, .int (v3 + 1))] [] M2 (Qi q)))))) ∧ (¬ (M.1 19 (ix v3)) = 0 → V shC G mX11_next (k + 3) 7 [(0, .ref (G.2.1 0)), (1, .int v1), (2, .int v2), (3, .int (v3 + 1))] [] M (Qi q)))))) : V shC G mX11_next (k + 3) 7 [(0, .ref (G.2.1 0)), (1, .int v1), (2, .int v2), (3, .int v3)] [] M (Qi q) := by
  refine V_iload_n (pc := 7) dX11_next_7 rfl ?_
  refine V_aload_n (pc := 8) dX11_next_8 rfl ?_
  refine V_getR (pc := 9) fX11_26 sC0 rfl dX11_next_9 ?_
  refine V_getI (pc := 12) fX11_283 sC3 rfl dX11_next_12 ?_
  refine V_icmp_ge (tgt := 72) (pc := 15) dX11_next_15 rfl (fun c => ?_) (fun c => ?_)
  · have h := h.1 c
    refine V_iload_n (pc := 72) dX11_next_72 rfl ?_
    exact V_iret dX11_next_73 rfl h
  · have h := h.2 c
    refine V_aload_n (pc := 18) dX11_next_18 rfl ?_
    refine V_getR (pc := 19) fX11_26 sC0 rfl dX11_next_19 ?_
    refine V_getR (pc := 22) fX11_279 sC3 rfl dX11_next_22 ?_
    refine V_iload_n (pc := 25) dX11_next_25 rfl ?_
    refine V_zald (pc := 26) sC19 dX11_next_26 h.1 ?_
    have h := h.2
    refine V_if_eq (tgt := 33) (pc := 27) dX11_next_27 rfl (fun c => ?_) (fun c => ?_)
    · have h := h.1 c
      refine V_aload_n (pc := 33) dX11_next_33 rfl ?_
      refine V_getR (pc := 34) fX11_26 sC0 rfl dX11_next_34 ?_
      refine V_iload_n (pc := 37) dX11_next_37 rfl ?_
      refine V_aload_n (pc := 38) dX11_next_38 rfl ?_
      refine V_getR (pc := 39) fX11_47 sC0 rfl dX11_next_39 ?_
      refine V_iload_n (pc := 42) dX11_next_42 rfl ?_
      refine V_aload_n (pc := 43) dX11_next_43 rfl ?_
      refine V_getR (pc := 44) fX11_26 sC0 rfl dX11_next_44 ?_
      refine V_callVi [.int v3, .ref (G.2.1 3)] (pc := 47) kX3_countUnseen lX11_284 sC6 rfl rfl (Nat.le_of_ble_eq_true rfl) rfl (Nat.le_of_ble_eq_true rfl) dX11_next_47 ?_
      refine Ci.mono h ?_
      intro x1 M1 h
      refine V_callVi [.int v3, .int x1] (pc := 50) kX1_worth lX11_288 sC3 rfl rfl (Nat.le_of_ble_eq_true rfl) rfl (Nat.le_of_ble_eq_true rfl) dX11_next_50 ?_
      refine Ci.mono h ?_
      intro x2 M2 h
      refine V_istore (pc := 53) dX11_next_53 (by decide) ?_
      refine V_lv (lv2 := [(0, .ref (G.2.1 0)), (1, .int v1), (2, .int v2), (3, .int v3), (4, .int x2)]) rfl ?_
      refine V_iload (pc := 55) dX11_next_55 rfl ?_
      refine V_iload_n (pc := 57) dX11_next_57 rfl ?_
      refine V_icmp_le (tgt := 66) (pc := 58) dX11_next_58 rfl (fun c => ?_) (fun c => ?_)
      · have h := h.1 c
        refine V_iinc (pc := 66) dX11_next_66 rfl (by decide) ?_
        refine V_lv (lv2 := [(0, .ref (G.2.1 0)), (1, .int v1), (2, .int v2), (3, .int (v3 + 1)), (4, .int x2)]) rfl ?_
        refine V_goto (tgt := 7) (pc := 69) dX11_next_69 rfl ?_
        exact V_sub h ⟨rfl, rfl, rfl, rfl, trivial⟩
      · have h := h.2 c
        refine V_iload (pc := 61) dX11_next_61 rfl ?_
        refine V_istore_n (pc := 63) dX11_next_63 (by decide) ?_
        refine V_lv (lv2 := [(0, .ref (G.2.1 0)), (1, .int v1), (2, .int x2), (3, .int v3), (4, .int x2)]) rfl ?_
        refine V_iload_n (pc := 64) dX11_next_64 rfl ?_
        refine V_istore_n (pc := 65) dX11_next_65 (by decide) ?_
        refine V_lv (lv2 := [(0, .ref (G.2.1 0)), (1, .int v3), (2, .int x2), (3, .int v3), (4, .int x2)]) rfl ?_
        refine V_iinc (pc := 66) dX11_next_66 rfl (by decide) ?_
        refine V_lv (lv2 := [(0, .ref (G.2.1 0)), (1, .int v3), (2, .int x2), (3, .int (v3 + 1)), (4, .int x2)]) rfl ?_
        refine V_goto (tgt := 7) (pc := 69) dX11_next_69 rfl ?_
        exact V_sub h ⟨rfl, rfl, rfl, rfl, trivial⟩
    · have h := h.2 c
      refine V_goto (tgt := 66) (pc := 30) dX11_next_30 rfl ?_
      refine V_iinc (pc := 66) dX11_next_66 rfl (by decide) ?_
      refine V_lv (lv2 := [(0, .ref (G.2.1 0)), (1, .int v1), (2, .int v2), (3, .int (v3 + 1))]) rfl ?_
      refine V_goto (tgt := 7) (pc := 69) dX11_next_69 rfl ?_
      exact V_sub h ⟨rfl, rfl, rfl, rfl, trivial⟩
theorem wp_X11_walks {G : GV} {k : Nat} {M : Mem} {q : Int32 → Mem → Prop} {v1 : Int32} {v2 : Int32} {v3 : Int32} (h : Ci shC G mX11_noSheet (k + 2) [.ref (G.2.1 0), .int v1] M (fun x1 M1 => ((x1 ≠ 0 → q (-1000001) M1) ∧ (x1 = 0 → ((v3 < 1 → q (-1000001) M1) ∧ (¬ v3 < 1 → ((v3 ≤ 20 → Ci shC G mX9_isMissing (k + 2) [.ref (G.2.1 1), .int v1] M1 (fun x2 M2 => ((x2 = 0 → Ci shC G mX9_holds (k + 2) [.ref (G.2.1 1), .int v1, .int v2, .int (3 * v3)] M2 (fun x3 M3 => ((x3 ≠ 0 → V shC G mX11_walks (k + 3) 63 [(0, .ref (G.2.1 0)), (1, .int v1), (2, .int v2), (3, .int v3), (4, .int 0)] [] M3 (Qi q)) ∧ (x3 = 0 → Ci shC G mX11_finding (k + 2) [.ref (G.2.1 0), .int 2] M3 (fun x4 M4 => q x4 M4))))) ∧ (¬ x2 = 0 → Ci shC G mX11_finding (k + 2) [.ref (G.2.1 0), .int 1] M2 (fun x5 M5 => q x5 M5))))) ∧ (¬ v3 ≤ 20 → q (-1000001) M1)))))))) : Ci shC G mX11_walks (k + 3) [.ref (G.2.1 0), .int v1, .int v2, .int v3] M q := by
  unfold Ci
  show V _ _ _ _ _ [(0, .ref (G.2.1 0)), (1, .int v1), (2, .int v2), (3, .int v3)] _ _ _
  refine V_aload_n (pc := 0) dX11_walks_0 rfl ?_
  refine V_iload_n (pc := 1) dX11_walks_1 rfl ?_
  refine V_callVi [.int v1] (pc := 2) kX11_noSheet lX11_87 sC0 rfl rfl (Nat.le_of_ble_eq_true rfl) rfl (Nat.le_of_ble_eq_true rfl) dX11_walks_2 ?_
  refine Ci.mono h ?_
  intro x1 M1 h
  refine V_if_ne (tgt := 19) (pc := 5) dX11_walks_5 rfl (fun c => ?_) (fun c => ?_)
  · have h := h.1 c
    refine V_ldc (pc := 19) dX11_walks_19 nX11_91 ?_
    exact V_iret dX11_walks_21 rfl h
  · have h := h.2 c
    refine V_iload_n (pc := 8) dX11_walks_8 rfl ?_
    refine V_iconst (v := 1) (pc := 9) dX11_walks_9 rfl ?_
    refine V_icmp_lt (tgt := 19) (pc := 10) dX11_walks_10 rfl (fun c => ?_) (fun c => ?_)
    · have h := h.1 c
      refine V_ldc (pc := 19) dX11_walks_19 nX11_91 ?_
      exact V_iret dX11_walks_21 rfl h
    · have h := h.2 c
      refine V_iload_n (pc := 13) dX11_walks_13 rfl ?_
      refine V_bipush (v := 20) (pc := 14) dX11_walks_14 rfl ?_
      refine V_icmp_le (tgt := 22) (pc := 16) dX11_walks_16 rfl (fun c => ?_) (fun c => ?_)
      · have h := h.1 c
        refine V_aload_n (pc := 22) dX11_walks_22 rfl ?_
        refine V_getR (pc := 23) fX11_10 sC0 rfl dX11_walks_23 ?_
        refine V_iload_n (pc := 26) dX11_walks_26 rfl ?_
        refine V_callVi [.int v1] (pc := 27) kX9_isMissing lX11_103 sC1 rfl rfl (Nat.le_of_ble_eq_true rfl) rfl (Nat.le_of_ble_eq_true rfl) dX11_walks_27 ?_
        refine Ci.mono h ?_
        intro x2 M2 h
        refine V_if_eq (tgt := 39) (pc := 30) dX11_walks_30 rfl (fun c => ?_) (fun c => ?_)
        · have h := h.1 c
          refine V_aload_n (pc := 39) dX11_walks_39 rfl ?_
          refine V_getR (pc := 40) fX11_10 sC0 rfl dX11_walks_40 ?_
          refine V_iload_n (pc := 43) dX11_walks_43 rfl ?_
          refine V_iload_n (pc := 44) dX11_walks_44 rfl ?_
          refine V_iconst (v := 3) (pc := 45) dX11_walks_45 rfl ?_
          refine V_iload_n (pc := 46) dX11_walks_46 rfl ?_
          refine V_imul (pc := 47) dX11_walks_47 ?_
          refine V_callVi [.int v1, .int v2, .int (3 * v3)] (pc := 48) kX9_holds lX11_106 sC1 rfl rfl (Nat.le_of_ble_eq_true rfl) rfl (Nat.le_of_ble_eq_true rfl) dX11_walks_48 ?_
          refine Ci.mono h ?_
          intro x3 M3 h
          refine V_if_ne (tgt := 60) (pc := 51) dX11_walks_51 rfl (fun c => ?_) (fun c => ?_)
          · have h := h.1 c
            refine V_iconst (v := 0) (pc := 60) dX11_walks_60 rfl ?_
            refine V_istore (pc := 61) dX11_walks_61 (by decide) ?_
            refine V_lv (lv2 := [(0, .ref (G.2.1 0)), (1, .int v1), (2, .int v2), (3, .int v3), (4, .int 0)]) rfl ?_
            exact V_sub h ⟨rfl, rfl, rfl, rfl, rfl, trivial⟩
          · have h := h.2 c
            refine V_aload_n (pc := 54) dX11_walks_54 rfl ?_
            refine V_iconst (v := 2) (pc := 55) dX11_walks_55 rfl ?_
            refine V_callVi [.int 2] (pc := 56) kX11_finding lX11_92 sC0 rfl rfl (Nat.le_of_ble_eq_true rfl) rfl (Nat.le_of_ble_eq_true rfl) dX11_walks_56 ?_
            refine Ci.mono h ?_
            intro x4 M4 h
            exact V_iret dX11_walks_59 rfl h
        · have h := h.2 c
          refine V_aload_n (pc := 33) dX11_walks_33 rfl ?_
          refine V_iconst (v := 1) (pc := 34) dX11_walks_34 rfl ?_
          refine V_callVi [.int 1] (pc := 35) kX11_finding lX11_92 sC0 rfl rfl (Nat.le_of_ble_eq_true rfl) rfl (Nat.le_of_ble_eq_true rfl) dX11_walks_35 ?_
          refine Ci.mono h ?_
          intro x5 M5 h
          exact V_iret dX11_walks_38 rfl h
      · have h := h.2 c
        refine V_ldc (pc := 19) dX11_walks_19 nX11_91 ?_
        exact V_iret dX11_walks_21 rfl h
theorem wp_X11_walks_63 {G : GV} {k : Nat} {M : Mem} {q : Int32 → Mem → Prop} {v1 : Int32} {v2 : Int32} {v3 : Int32} {v4 : Int32} (h : ((v3 ≤ v4 → Ci shC G mX11_countMeetings (k + 2) [.ref (G.2.1 0), .int v3] M (fun x1 M1 => Ci shC G mX11_withoutFinding (k + 2) [.ref (G.2.1 0), .int x1] M1 (fun x2 M2 => q x2 M2))) ∧ (¬ v3 ≤ v4 → Ci shC G mX11_walkEnd (k + 2) [.ref (G.2.1 0), .int v1, .int (v2 + (3 * v4))] M (fun x3 M3 => ((x3 ≠ (-1000001) → vp_in v4 20 ∧ V shC G mX11_walks (k + 3) 63 [(0, .ref (G.2.1 0)), (1, .int v1), (2, .int v2), (3, .int v3), (4, .int (v4 + 1))] [] (mset M3 12 (ix v4) x3) (Qi q)) ∧ (x3 = (-1000001) → q (-1000001) M3)))))) : V shC G mX11_walks (k + 3) 63 [(0, .ref (G.2.1 0)), (1, .int v1), (2, .int v2), (3, .int v3), (4, .int v4)] [] M (Qi q) := by
  refine V_iload (pc := 63) dX11_walks_63 rfl ?_
  refine V_iload_n (pc := 65) dX11_walks_65 rfl ?_
  refine V_icmp_ge (tgt := 107) (pc := 66) dX11_walks_66 rfl (fun c => ?_) (fun c => ?_)
  · have h := h.1 c
    refine V_aload_n (pc := 107) dX11_walks_107 rfl ?_
    refine V_aload_n (pc := 108) dX11_walks_108 rfl ?_
    refine V_iload_n (pc := 109) dX11_walks_109 rfl ?_
    refine V_callVi [.int v3] (pc := 110) kX11_countMeetings lX11_215 sC0 rfl rfl (Nat.le_of_ble_eq_true rfl) rfl (Nat.le_of_ble_eq_true rfl) dX11_walks_110 ?_
    refine Ci.mono h ?_
    intro x1 M1 h
    refine V_callVi [.int x1] (pc := 113) kX11_withoutFinding lX11_100 sC0 rfl rfl (Nat.le_of_ble_eq_true rfl) rfl (Nat.le_of_ble_eq_true rfl) dX11_walks_113 ?_
    refine Ci.mono h ?_
    intro x2 M2 h
    exact V_iret dX11_walks_116 rfl h
  · have h := h.2 c
    refine V_aload_n (pc := 69) dX11_walks_69 rfl ?_
    refine V_iload_n (pc := 70) dX11_walks_70 rfl ?_
    refine V_iload_n (pc := 71) dX11_walks_71 rfl ?_
    refine V_iconst (v := 3) (pc := 72) dX11_walks_72 rfl ?_
    refine V_iload (pc := 73) dX11_walks_73 rfl ?_
    refine V_imul (pc := 75) dX11_walks_75 ?_
    refine V_iadd (pc := 76) dX11_walks_76 ?_
    refine V_callVi [.int v1, .int (v2 + (3 * v4))] (pc := 77) kX11_walkEnd lX11_212 sC0 rfl rfl (Nat.le_of_ble_eq_true rfl) rfl (Nat.le_of_ble_eq_true rfl) dX11_walks_77 ?_
    refine Ci.mono h ?_
    intro x3 M3 h
    refine V_istore (pc := 80) dX11_walks_80 (by decide) ?_
    refine V_lv (lv2 := [(0, .ref (G.2.1 0)), (1, .int v1), (2, .int v2), (3, .int v3), (4, .int v4), (5, .int x3)]) rfl ?_
    refine V_iload (pc := 82) dX11_walks_82 rfl ?_
    refine V_ldc (pc := 84) dX11_walks_84 nX11_91 ?_
    refine V_icmp_ne (tgt := 92) (pc := 86) dX11_walks_86 rfl (fun c => ?_) (fun c => ?_)
    · have h := h.1 c
      refine V_aload_n (pc := 92) dX11_walks_92 rfl ?_
      refine V_getR (pc := 93) fX11_51 sC0 rfl dX11_walks_93 ?_
      refine V_iload (pc := 96) dX11_walks_96 rfl ?_
      refine V_iload (pc := 98) dX11_walks_98 rfl ?_
      refine V_iast (pc := 100) sC12 dX11_walks_100 h.1 ?_
      have h := h.2
      refine V_iinc (pc := 101) dX11_walks_101 rfl (by decide) ?_
      refine V_lv (lv2 := [(0, .ref (G.2.1 0)), (1, .int v1), (2, .int v2), (3, .int v3), (4, .int (v4 + 1)), (5, .int x3)]) rfl ?_
      refine V_goto (tgt := 63) (pc := 104) dX11_walks_104 rfl ?_
      exact V_sub h ⟨rfl, rfl, rfl, rfl, rfl, trivial⟩
    · have h := h.2 c
      refine V_ldc (pc := 89) dX11_walks_89 nX11_91 ?_
      exact V_iret dX11_walks_91 rfl h
theorem wp_X11_found {G : GV} {k : Nat} {M : Mem} {q : Int32 → Mem → Prop} {v1 : Int32} {v2 : Int32} {v3 : Int32} {v4 : Int32} {v5 : Int32} (h : Ci shC G mX11_noStreet (k + 3) [.ref (G.2.1 0), .int v1] M (fun x1 M1 => ((x1 ≠ 0 → q (-1000001) M1) ∧ (x1 = 0 → Ci shC G mX11_noYear (k + 3) [.ref (G.2.1 0), .int v2] M1 (fun x2 M2 => ((x2 ≠ 0 → q (-1000001) M2) ∧ (x2 = 0 → Ci shC G mX11_noYear (k + 3) [.ref (G.2.1 0), .int v3] M2 (fun x3 M3 => ((x3 ≠ 0 → q (-1000001) M3) ∧ (x3 = 0 → ((v5 < 0 → q (-1000001) M3) ∧ (¬ v5 < 0 → ((v5 ≤ 1 → Cv shC G mX4_lookAt (k + 3) [.ref (G.2.1 10), .int v1, .int v2, .int v3] M3 (fun M4 => ((v4 < 0 → q (-1000000) M4) ∧ (¬ v4 < 0 → Ci shC G mX4_kept (k + 3) [.ref (G.2.1 10)] M4 (fun x5 M5 => ((v4 < x5 → ((v5 ≠ 0 → Ci shC G mX4_lineOfPair (k + 3) [.ref (G.2.1 10), .int v4, .int 0] M5 (fun x6 M6 => q x6 M6)) ∧ (v5 = 0 → Ci shC G mX4_lineOfPair (k + 3) [.ref (G.2.1 10), .int v4, .int 1] M5 (fun x7 M7 => q x7 M7)))) ∧ (¬ v4 < x5 → q (-1000000) M5))))))) ∧ (¬ v5 ≤ 1 → q (-1000001) M3)))))))))))))) : Ci shC G mX11_found (k + 4) [.ref (G.2.1 0), .int v1, .int v2, .int v3, .int v4, .int v5] M q := by
  unfold Ci
  show V _ _ _ _ _ [(0, .ref (G.2.1 0)), (1, .int v1), (2, .int v2), (3, .int v3), (4, .int v4), (5, .int v5)] _ _ _
  refine V_aload_n (pc := 0) dX11_found_0 rfl ?_
  refine V_iload_n (pc := 1) dX11_found_1 rfl ?_
  refine V_callVi [.int v1] (pc := 2) kX11_noStreet lX11_248 sC0 rfl rfl (Nat.le_of_ble_eq_true rfl) rfl (Nat.le_of_ble_eq_true rfl) dX11_found_2 ?_
  refine Ci.mono h ?_
  intro x1 M1 h
  refine V_if_ne (tgt := 35) (pc := 5) dX11_found_5 rfl (fun c => ?_) (fun c => ?_)
  · have h := h.1 c
    refine V_ldc (pc := 35) dX11_found_35 nX11_91 ?_
    exact V_iret dX11_found_37 rfl h
  · have h := h.2 c
    refine V_aload_n (pc := 8) dX11_found_8 rfl ?_
    refine V_iload_n (pc := 9) dX11_found_9 rfl ?_
    refine V_callVi [.int v2] (pc := 10) kX11_noYear lX11_251 sC0 rfl rfl (Nat.le_of_ble_eq_true rfl) rfl (Nat.le_of_ble_eq_true rfl) dX11_found_10 ?_
    refine Ci.mono h ?_
    intro x2 M2 h
    refine V_if_ne (tgt := 35) (pc := 13) dX11_found_13 rfl (fun c => ?_) (fun c => ?_)
    · have h := h.1 c
      refine V_ldc (pc := 35) dX11_found_35 nX11_91 ?_
      exact V_iret dX11_found_37 rfl h
    · have h := h.2 c
      refine V_aload_n (pc := 16) dX11_found_16 rfl ?_
      refine V_iload_n (pc := 17) dX11_found_17 rfl ?_
      refine V_callVi [.int v3] (pc := 18) kX11_noYear lX11_251 sC0 rfl rfl (Nat.le_of_ble_eq_true rfl) rfl (Nat.le_of_ble_eq_true rfl) dX11_found_18 ?_
      refine Ci.mono h ?_
      intro x3 M3 h
      refine V_if_ne (tgt := 35) (pc := 21) dX11_found_21 rfl (fun c => ?_) (fun c => ?_)
      · have h := h.1 c
        refine V_ldc (pc := 35) dX11_found_35 nX11_91 ?_
        exact V_iret dX11_found_37 rfl h
      · have h := h.2 c
        refine V_iload (pc := 24) dX11_found_24 rfl ?_
        refine V_if_lt (tgt := 35) (pc := 26) dX11_found_26 rfl (fun c => ?_) (fun c => ?_)
        · have h := h.1 c
          refine V_ldc (pc := 35) dX11_found_35 nX11_91 ?_
          exact V_iret dX11_found_37 rfl h
        · have h := h.2 c
          refine V_iload (pc := 29) dX11_found_29 rfl ?_
          refine V_iconst (v := 1) (pc := 31) dX11_found_31 rfl ?_
          refine V_icmp_le (tgt := 38) (pc := 32) dX11_found_32 rfl (fun c => ?_) (fun c => ?_)
          · have h := h.1 c
            refine V_aload_n (pc := 38) dX11_found_38 rfl ?_
            refine V_getR (pc := 39) fX11_76 sC0 rfl dX11_found_39 ?_
            refine V_iload_n (pc := 42) dX11_found_42 rfl ?_
            refine V_iload_n (pc := 43) dX11_found_43 rfl ?_
            refine V_iload_n (pc := 44) dX11_found_44 rfl ?_
            refine V_callVv [.int v1, .int v2, .int v3] (pc := 45) kX4_lookAt lX11_254 sC10 rfl rfl (Nat.le_of_ble_eq_true rfl) rfl (Nat.le_of_ble_eq_true rfl) dX11_found_45 ?_
            refine Cv.mono h ?_
            intro M4 h
            refine V_iload (pc := 48) dX11_found_48 rfl ?_
            refine V_if_lt (tgt := 65) (pc := 50) dX11_found_50 rfl (fun c => ?_) (fun c => ?_)
            · have h := h.1 c
              refine V_ldc (pc := 65) dX11_found_65 nX11_238 ?_
              exact V_iret dX11_found_67 rfl h
            · have h := h.2 c
              refine V_iload (pc := 53) dX11_found_53 rfl ?_
              refine V_aload_n (pc := 55) dX11_found_55 rfl ?_
              refine V_getR (pc := 56) fX11_76 sC0 rfl dX11_found_56 ?_
              refine V_callVi [] (pc := 59) kX4_kept lX11_257 sC10 rfl rfl (Nat.le_of_ble_eq_true rfl) rfl (Nat.le_of_ble_eq_true rfl) dX11_found_59 ?_
              refine Ci.mono h ?_
              intro x5 M5 h
              refine V_icmp_lt (tgt := 68) (pc := 62) dX11_found_62 rfl (fun c => ?_) (fun c => ?_)
              · have h := h.1 c
                refine V_aload_n (pc := 68) dX11_found_68 rfl ?_
                refine V_getR (pc := 69) fX11_76 sC0 rfl dX11_found_69 ?_
                refine V_iload (pc := 72) dX11_found_72 rfl ?_
                refine V_iload (pc := 74) dX11_found_74 rfl ?_
                refine V_if_ne (tgt := 83) (pc := 76) dX11_found_76 rfl (fun c => ?_) (fun c => ?_)
                · have h := h.1 c
                  refine V_iconst (v := 0) (pc := 83) dX11_found_83 rfl ?_
                  refine V_callVi [.int v4, .int 0] (pc := 84) kX4_lineOfPair lX11_266 sC10 rfl rfl (Nat.le_of_ble_eq_true rfl) rfl (Nat.le_of_ble_eq_true rfl) dX11_found_84 ?_
                  refine Ci.mono h ?_
                  intro x6 M6 h
                  exact V_iret dX11_found_87 rfl h
                · have h := h.2 c
                  refine V_iconst (v := 1) (pc := 79) dX11_found_79 rfl ?_
                  refine V_goto (tgt := 84) (pc := 80) dX11_found_80 rfl ?_
                  refine V_callVi [.int v4, .int 1] (pc := 84) kX4_lineOfPair lX11_266 sC10 rfl rfl (Nat.le_of_ble_eq_true rfl) rfl (Nat.le_of_ble_eq_true rfl) dX11_found_84 ?_
                  refine Ci.mono h ?_
                  intro x7 M7 h
                  exact V_iret dX11_found_87 rfl h
              · have h := h.2 c
                refine V_ldc (pc := 65) dX11_found_65 nX11_238 ?_
                exact V_iret dX11_found_67 rfl h
          · have h := h.2 c
            refine V_ldc (pc := 35) dX11_found_35 nX11_91 ?_
            exact V_iret dX11_found_37 rfl h
