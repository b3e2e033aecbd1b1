theorem wp_X12_readLine {G : GV} {k : Nat} {M : Mem} {q : Mem → Prop}  (h : Ci shM G mX12_numberIn (k + 3) [.ref (G.2.1 0), .int 0, .int ((M.1 0 38) - 1), .int (-1000000)] M (fun x1 M1 => vp_in (M.1 0 39) 12 ∧ (((M1.1 0 36) ≠ 0 → V shM G mX12_readLine (k + 4) 124 [(0, .ref (G.2.1 0)), (1, .int (M.1 0 39))] [] (mset M1 8 (ix (M.1 0 39)) x1) (Qv q)) ∧ ((M1.1 0 36) = 0 → Cl shM G mX12_word (k + 3) [.ref (G.2.1 0)] (mset M1 8 (ix (M.1 0 39)) x1) (fun x2 M2 => ((x2 ≠ 119200164373860 → ((x2 ≠ 491261289828 → ((x2 ≠ 27988572849333604 → ((x2 ≠ 500135191653 → ((x2 ≠ 495873780837 → vp_in (M.1 0 39) 12 ∧ Cv shM G mX12_need (k + 3) [.ref (G.2.1 0), .int 0] (mset M2 9 (ix (M.1 0 39)) (-1000000)) (fun M3 => V shM G mX12_readLine (k + 4) 124 [(0, .ref (G.2.1 0)), (1, .int (M.1 0 39))] [] M3 (Qv q))) ∧ (x2 = 495873780837 → vp_in (M.1 0 39) 12 ∧ Cv shM G mX12_need (k + 3) [.ref (G.2.1 0), .int 1] (mset M2 9 (ix (M.1 0 39)) 4) (fun M4 => V shM G mX12_readLine (k + 4) 124 [(0, .ref (G.2.1 0)), (1, .int (M.1 0 39))] [] M4 (Qv q))))) ∧ (x2 = 500135191653 → vp_in (M.1 0 39) 12 ∧ Cv shM G mX12_need (k + 3) [.ref (G.2.1 0), .int 1] (mset M2 9 (ix (M.1 0 39)) 3) (fun M5 => V shM G mX12_readLine (k + 4) 124 [(0, .ref (G.2.1 0)), (1, .int (M.1 0 39))] [] M5 (Qv q))))) ∧ (x2 = 27988572849333604 → vp_in (M.1 0 39) 12 ∧ Cv shM G mX12_need (k + 3) [.ref (G.2.1 0), .int 1] (mset M2 9 (ix (M.1 0 39)) 2) (fun M6 => V shM G mX12_readLine (k + 4) 124 [(0, .ref (G.2.1 0)), (1, .int (M.1 0 39))] [] M6 (Qv q))))) ∧ (x2 = 491261289828 → vp_in (M.1 0 39) 12 ∧ Cv shM G mX12_need (k + 3) [.ref (G.2.1 0), .int 1] (mset M2 9 (ix (M.1 0 39)) 1) (fun M7 => V shM G mX12_readLine (k + 4) 124 [(0, .ref (G.2.1 0)), (1, .int (M.1 0 39))] [] M7 (Qv q))))) ∧ (x2 = 119200164373860 → vp_in (M.1 0 39) 12 ∧ Cv shM G mX12_need (k + 3) [.ref (G.2.1 0), .int 1] (mset M2 9 (ix (M.1 0 39)) 0) (fun M8 => V shM G mX12_readLine (k + 4) 124 [(0, .ref (G.2.1 0)), (1, .int (M.1 0 39))] [] M8 (Qv q))))))))) : Cv shM G mX12_readLine (k + 4) [.ref (G.2.1 0)] M q := by
  unfold Cv
  show V _ _ _ _ _ [(0, .ref (G.2.1 0))] _ _ _
  refine V_aload_n (pc := 0) dX12_readLine_0 rfl ?_
  refine V_getI (pc := 1) fX12_183 sM0 rfl dX12_readLine_1 ?_
  refine V_istore_n (pc := 4) dX12_readLine_4 (by decide) ?_
  refine V_lv (lv2 := [(0, .ref (G.2.1 0)), (1, .int (M.1 0 39))]) rfl ?_
  refine V_aload_n (pc := 5) dX12_readLine_5 rfl ?_
  refine V_getR (pc := 6) fX12_32 sM0 rfl dX12_readLine_6 ?_
  refine V_iload_n (pc := 9) dX12_readLine_9 rfl ?_
  refine V_aload_n (pc := 10) dX12_readLine_10 rfl ?_
  refine V_iconst (v := 0) (pc := 11) dX12_readLine_11 rfl ?_
  refine V_aload_n (pc := 12) dX12_readLine_12 rfl ?_
  refine V_getI (pc := 13) fX12_186 sM0 rfl dX12_readLine_13 ?_
  refine V_iconst (v := 1) (pc := 16) dX12_readLine_16 rfl ?_
  refine V_isub (pc := 17) dX12_readLine_17 ?_
  refine V_ldc (pc := 18) dX12_readLine_18 nX12_144 ?_
  refine V_callVi [.int 0, .int ((M.1 0 38) - 1), .int (-1000000)] (pc := 20) kX12_numberIn lX12_189 sM0 rfl rfl (Nat.le_of_ble_eq_true rfl) rfl (Nat.le_of_ble_eq_true rfl) dX12_readLine_20 ?_
  refine Ci.mono h ?_
  intro x1 M1 h
  refine V_iast (pc := 23) sM8 dX12_readLine_23 h.1 ?_
  have h := h.2
  refine V_aload_n (pc := 24) dX12_readLine_24 rfl ?_
  refine V_getI (pc := 25) fX12_166 sM0 rfl dX12_readLine_25 ?_
  refine V_top (v := (M1.1 0 36)) (by simp [mset, lset, upd]) ?_
  refine V_if_ne (tgt := 124) (pc := 28) dX12_readLine_28 rfl (fun c => ?_) (fun c => ?_)
  · have h := h.1 c
    exact V_sub h ⟨rfl, rfl, trivial⟩
  · have h := h.2 c
    refine V_aload_n (pc := 31) dX12_readLine_31 rfl ?_
    refine V_callVl [] (pc := 32) kX12_word lX12_193 sM0 rfl rfl (Nat.le_of_ble_eq_true rfl) rfl (Nat.le_of_ble_eq_true rfl) dX12_readLine_32 ?_
    refine Cl.mono h ?_
    intro x2 M2 h
    refine V_lstore_n (pc := 35) dX12_readLine_35 (by decide) ?_
    refine V_lv (lv2 := [(0, .ref (G.2.1 0)), (1, .int (M.1 0 39)), (2, .long x2)]) rfl ?_
    refine V_lload_n (pc := 36) dX12_readLine_36 rfl ?_
    refine V_ldc2 (pc := 37) dX12_readLine_37 nX12_197 ?_
    refine V_lif_ne (tgt := 48) (pc := 40) dX12_readLine_40 dX12_readLine_41 rfl (fun c => ?_) (fun c => ?_)
    · have h := h.1 c
      refine V_lload_n (pc := 48) dX12_readLine_48 rfl ?_
      refine V_ldc2 (pc := 49) dX12_readLine_49 nX12_199 ?_
      refine V_lif_ne (tgt := 60) (pc := 52) dX12_readLine_52 dX12_readLine_53 rfl (fun c => ?_) (fun c => ?_)
      · have h := h.1 c
        refine V_lload_n (pc := 60) dX12_readLine_60 rfl ?_
        refine V_ldc2 (pc := 61) dX12_readLine_61 nX12_201 ?_
        refine V_lif_ne (tgt := 72) (pc := 64) dX12_readLine_64 dX12_readLine_65 rfl (fun c => ?_) (fun c => ?_)
        · have h := h.1 c
          refine V_lload_n (pc := 72) dX12_readLine_72 rfl ?_
          refine V_ldc2 (pc := 73) dX12_readLine_73 nX12_203 ?_
          refine V_lif_ne (tgt := 84) (pc := 76) dX12_readLine_76 dX12_readLine_77 rfl (fun c => ?_) (fun c => ?_)
          · have h := h.1 c
            refine V_lload_n (pc := 84) dX12_readLine_84 rfl ?_
            refine V_ldc2 (pc := 85) dX12_readLine_85 nX12_205 ?_
            refine V_lif_ne (tgt := 96) (pc := 88) dX12_readLine_88 dX12_readLine_89 rfl (fun c => ?_) (fun c => ?_)
            · have h := h.1 c
              refine V_ldc (pc := 96) dX12_readLine_96 nX12_144 ?_
              refine V_istore (pc := 98) dX12_readLine_98 (by decide) ?_
              refine V_lv (lv2 := [(0, .ref (G.2.1 0)), (1, .int (M.1 0 39)), (2, .long x2), (4, .int (-1000000))]) rfl ?_
              refine V_aload_n (pc := 100) dX12_readLine_100 rfl ?_
              refine V_getR (pc := 101) fX12_35 sM0 rfl dX12_readLine_101 ?_
              refine V_iload_n (pc := 104) dX12_readLine_104 rfl ?_
              refine V_iload (pc := 105) dX12_readLine_105 rfl ?_
              refine V_iast (pc := 107) sM9 dX12_readLine_107 h.1 ?_
              have h := h.2
              refine V_aload_n (pc := 108) dX12_readLine_108 rfl ?_
              refine V_iload (pc := 109) dX12_readLine_109 rfl ?_
              refine V_ldc (pc := 111) dX12_readLine_111 nX12_144 ?_
              refine V_icmp_eq (tgt := 120) (pc := 113) dX12_readLine_113 rfl (fun c => ?_) (fun c => ?_)
              · skip
                refine V_iconst (v := 0) (pc := 120) dX12_readLine_120 rfl ?_
                refine V_callVv [.int 0] (pc := 121) kX12_need lX12_179 sM0 rfl rfl (Nat.le_of_ble_eq_true rfl) rfl (Nat.le_of_ble_eq_true rfl) dX12_readLine_121 ?_
                refine Cv.mono h ?_
                intro M3 h
                exact V_sub h ⟨rfl, rfl, trivial⟩
              · exact absurd c (by decide)
            · have h := h.2 c
              refine V_iconst (v := 4) (pc := 92) dX12_readLine_92 rfl ?_
              refine V_goto (tgt := 98) (pc := 93) dX12_readLine_93 rfl ?_
              refine V_istore (pc := 98) dX12_readLine_98 (by decide) ?_
              refine V_lv (lv2 := [(0, .ref (G.2.1 0)), (1, .int (M.1 0 39)), (2, .long x2), (4, .int 4)]) rfl ?_
              refine V_aload_n (pc := 100) dX12_readLine_100 rfl ?_
              refine V_getR (pc := 101) fX12_35 sM0 rfl dX12_readLine_101 ?_
              refine V_iload_n (pc := 104) dX12_readLine_104 rfl ?_
              refine V_iload (pc := 105) dX12_readLine_105 rfl ?_
              refine V_iast (pc := 107) sM9 dX12_readLine_107 h.1 ?_
              have h := h.2
              refine V_aload_n (pc := 108) dX12_readLine_108 rfl ?_
              refine V_iload (pc := 109) dX12_readLine_109 rfl ?_
              refine V_ldc (pc := 111) dX12_readLine_111 nX12_144 ?_
              refine V_icmp_eq (tgt := 120) (pc := 113) dX12_readLine_113 rfl (fun c => ?_) (fun c => ?_)
              · exact absurd c (by decide)
              · skip
                refine V_iconst (v := 1) (pc := 116) dX12_readLine_116 rfl ?_
                refine V_goto (tgt := 121) (pc := 117) dX12_readLine_117 rfl ?_
                refine V_callVv [.int 1] (pc := 121) kX12_need lX12_179 sM0 rfl rfl (Nat.le_of_ble_eq_true rfl) rfl (Nat.le_of_ble_eq_true rfl) dX12_readLine_121 ?_
                refine Cv.mono h ?_
                intro M4 h
                exact V_sub h ⟨rfl, rfl, trivial⟩
          · have h := h.2 c
            refine V_iconst (v := 3) (pc := 80) dX12_readLine_80 rfl ?_
            refine V_goto (tgt := 98) (pc := 81) dX12_readLine_81 rfl ?_
            refine V_istore (pc := 98) dX12_readLine_98 (by decide) ?_
            refine V_lv (lv2 := [(0, .ref (G.2.1 0)), (1, .int (M.1 0 39)), (2, .long x2), (4, .int 3)]) rfl ?_
            refine V_aload_n (pc := 100) dX12_readLine_100 rfl ?_
            refine V_getR (pc := 101) fX12_35 sM0 rfl dX12_readLine_101 ?_
            refine V_iload_n (pc := 104) dX12_readLine_104 rfl ?_
            refine V_iload (pc := 105) dX12_readLine_105 rfl ?_
            refine V_iast (pc := 107) sM9 dX12_readLine_107 h.1 ?_
            have h := h.2
            refine V_aload_n (pc := 108) dX12_readLine_108 rfl ?_
            refine V_iload (pc := 109) dX12_readLine_109 rfl ?_
            refine V_ldc (pc := 111) dX12_readLine_111 nX12_144 ?_
            refine V_icmp_eq (tgt := 120) (pc := 113) dX12_readLine_113 rfl (fun c => ?_) (fun c => ?_)
            · exact absurd c (by decide)
            · skip
              refine V_iconst (v := 1) (pc := 116) dX12_readLine_116 rfl ?_
              refine V_goto (tgt := 121) (pc := 117) dX12_readLine_117 rfl ?_
              refine V_callVv [.int 1] (pc := 121) kX12_need lX12_179 sM0 rfl rfl (Nat.le_of_ble_eq_true rfl) rfl (Nat.le_of_ble_eq_true rfl) dX12_readLine_121 ?_
              refine Cv.mono h ?_
              intro M5 h
              exact V_sub h ⟨rfl, rfl, trivial⟩
        · have h := h.2 c
          refine V_iconst (v := 2) (pc := 68) dX12_readLine_68 rfl ?_
          refine V_goto (tgt := 98) (pc := 69) dX12_readLine_69 rfl ?_
          refine V_istore (pc := 98) dX12_readLine_98 (by decide) ?_
          refine V_lv (lv2 := [(0, .ref (G.2.1 0)), (1, .int (M.1 0 39)), (2, .long x2), (4, .int 2)]) rfl ?_
          refine V_aload_n (pc := 100) dX12_readLine_100 rfl ?_
          refine V_getR (pc := 101) fX12_35 sM0 rfl dX12_readLine_101 ?_
          refine V_iload_n (pc := 104) dX12_readLine_104 rfl ?_
          refine V_iload (pc := 105) dX12_readLine_105 rfl ?_
          refine V_iast (pc := 107) sM9 dX12_readLine_107 h.1 ?_
          have h := h.2
          refine V_aload_n (pc := 108) dX12_readLine_108 rfl ?_
          refine V_iload (pc := 109) dX12_readLine_109 rfl ?_
          refine V_ldc (pc := 111) dX12_readLine_111 nX12_144 ?_
          refine V_icmp_eq (tgt := 120) (pc := 113) dX12_readLine_113 rfl (fun c => ?_) (fun c => ?_)
          · exact absurd c (by decide)
          · skip
            refine V_iconst (v := 1) (pc := 116) dX12_readLine_116 rfl ?_
            refine V_goto (tgt := 121) (pc := 117) dX12_readLine_117 rfl ?_
            refine V_callVv [.int 1] (pc := 121) kX12_need lX12_179 sM0 rfl rfl (Nat.le_of_ble_eq_true rfl) rfl (Nat.le_of_ble_eq_true rfl) dX12_readLine_121 ?_
            refine Cv.mono h ?_
            intro M6 h
            exact V_sub h ⟨rfl, rfl, trivial⟩
      · have h := h.2 c
        refine V_iconst (v := 1) (pc := 56) dX12_readLine_56 rfl ?_
        refine V_goto (tgt := 98) (pc := 57) dX12_readLine_57 rfl ?_
        refine V_istore (pc := 98) dX12_readLine_98 (by decide) ?_
        refine V_lv (lv2 := [(0, .ref (G.2.1 0)), (1, .int (M.1 0 39)), (2, .long x2), (4, .int 1)]) rfl ?_
        refine V_aload_n (pc := 100) dX12_readLine_100 rfl ?_
        refine V_getR (pc := 101) fX12_35 sM0 rfl dX12_readLine_101 ?_
        refine V_iload_n (pc := 104) dX12_readLine_104 rfl ?_
        refine V_iload (pc := 105) dX12_readLine_105 rfl ?_
        refine V_iast (pc := 107) sM9 dX12_readLine_107 h.1 ?_
        have h := h.2
        refine V_aload_n (pc := 108) dX12_readLine_108 rfl ?_
        refine V_iload (pc := 109) dX12_readLine_109 rfl ?_
        refine V_ldc (pc := 111) dX12_readLine_111 nX12_144 ?_
        refine V_icmp_eq (tgt := 120) (pc := 113) dX12_readLine_113 rfl (fun c => ?_) (fun c => ?_)
        · exact absurd c (by decide)
        · skip
          refine V_iconst (v := 1) (pc := 116) dX12_readLine_116 rfl ?_
          refine V_goto (tgt := 121) (pc := 117) dX12_readLine_117 rfl ?_
          refine V_callVv [.int 1] (pc := 121) kX12_need lX12_179 sM0 rfl rfl (Nat.le_of_ble_eq_true rfl) rfl (Nat.le_of_ble_eq_true rfl) dX12_readLine_121 ?_
          refine Cv.mono h ?_
          intro M7 h
          exact V_sub h ⟨rfl, rfl, trivial⟩
    · have h := h.2 c
      refine V_iconst (v := 0) (pc := 44) dX12_readLine_44 rfl ?_
      refine V_goto (tgt := 98) (pc := 45) dX12_readLine_45 rfl ?_
      refine V_istore (pc := 98) dX12_readLine_98 (by decide) ?_
      refine V_lv (lv2 := [(0, .ref (G.2.1 0)), (1, .int (M.1 0 39)), (2, .long x2), (4, .int 0)]) rfl ?_
      refine V_aload_n (pc := 100) dX12_readLine_100 rfl ?_
      refine V_getR (pc := 101) fX12_35 sM0 rfl dX12_readLine_101 ?_
      refine V_iload_n (pc := 104) dX12_readLine_104 rfl ?_
      refine V_iload (pc := 105) dX12_readLine_105 rfl ?_
      refine V_iast (pc := 107) sM9 dX12_readLine_107 h.1 ?_
      have h := h.2
      refine V_aload_n (pc := 108) dX12_readLine_108 rfl ?_
      refine V_iload (pc := 109) dX12_readLine_109 rfl ?_
      refine V_ldc (pc := 111) dX12_readLine_111 nX12_144 ?_
      refine V_icmp_eq (tgt := 120) (pc := 113) dX12_readLine_113 rfl (fun c => ?_) (fun c => ?_)
      · exact absurd c (by decide)
      · skip
        refine V_iconst (v := 1) (pc := 116) dX12_readLine_116 rfl ?_
        refine V_goto (tgt := 121) (pc := 117) dX12_readLine_117 rfl ?_
        refine V_callVv [.int 1] (pc := 121) kX12_need lX12_179 sM0 rfl rfl (Nat.le_of_ble_eq_true rfl) rfl (Nat.le_of_ble_eq_true rfl) dX12_readLine_121 ?_
        refine Cv.mono h ?_
        intro M8 h
        exact V_sub h ⟨rfl, rfl, trivial⟩
theorem wp_X12_readLine_124 {G : GV} {k : Nat} {M : Mem} {q : Mem → Prop} {v1 : Int32} (h : Ci shM G mX12_numberIn (k + 3) [.ref (G.2.1 0), .int 0, .int 3, .int (-1000000)] M (fun x1 M1 => vp_in v1 12 ∧ Ci shM G mX12_numberIn (k + 3) [.ref (G.2.1 0), .int 1, .int 99, .int (-1000000)] (mset M1 10 (ix v1) x1) (fun x2 M2 => vp_in v1 12 ∧ (((M2.1 0 36) ≠ 0 → vp_in v1 12 ∧ (((M2.1 0 36) ≠ 0 → q (mset (mset (mset M2 11 (ix v1) x2) 12 (ix v1) (-1000000)) 0 39 ((M2.1 0 39) + 1))) ∧ ((M2.1 0 36) = 0 → Cl shM G mX12_word (k + 3) [.ref (G.2.1 0)] (mset (mset M2 11 (ix v1) x2) 12 (ix v1) (-1000000)) (fun x3 M3 => ((x3 ≠ 6383461 → q (mset M3 0 39 ((M3.1 0 39) + 1))) ∧ (x3 = 6383461 → Cv shM G mX12_step (k + 3) [.ref (G.2.1 0)] M3 (fun M4 => Ci shM G mX12_numberIn (k + 3) [.ref (G.2.1 0), .int 0, .int 120, .int (-1000000)] M4 (fun x5 M5 => vp_in v1 12 ∧ q (mset (mset M5 12 (ix v1) x5) 0 39 ((M5.1 0 39) + 1)))))))))) ∧ ((M2.1 0 36) = 0 → (((M2.1 0 33) ≠ 2 → vp_in v1 12 ∧ V shM G mX12_readLine (k + 4) 207 [(0, .ref (G.2.1 0)), (1, .int v1), (2, .int (M2.1 0 34))] [] (mset (mset M2 11 (ix v1) x2) 13 (ix v1) ((M2.1 0 35) - (M2.1 0 34))) (Qv q)) ∧ ((M2.1 0 33) = 2 → ((((M2.1 0 35) - (M2.1 0 34)) ≤ 8 → vp_in v1 12 ∧ V shM G mX12_readLine (k + 4) 207 [(0, .ref (G.2.1 0)), (1, .int v1), (2, .int (M2.1 0 34))] [] (mset (mset M2 11 (ix v1) x2) 13 (ix v1) ((M2.1 0 35) - (M2.1 0 34))) (Qv q)) ∧ (¬ ((M2.1 0 35) - (M2.1 0 34)) ≤ 8 → Cv shM G mX12_bad (k + 3) [.ref (G.2.1 0), .int 2] (mset M2 11 (ix v1) x2) (fun M6 => vp_in v1 12 ∧ V shM G mX12_readLine (k + 4) 207 [(0, .ref (G.2.1 0)), (1, .int v1), (2, .int (M6.1 0 34))] [] (mset M6 13 (ix v1) ((M6.1 0 35) - (M6.1 0 34))) (Qv q))))))))))) : V shM G mX12_readLine (k + 4) 124 [(0, .ref (G.2.1 0)), (1, .int v1)] [] M (Qv q) := by
  refine V_aload_n (pc := 124) dX12_readLine_124 rfl ?_
  refine V_getR (pc := 125) fX12_38 sM0 rfl dX12_readLine_125 ?_
  refine V_iload_n (pc := 128) dX12_readLine_128 rfl ?_
  refine V_aload_n (pc := 129) dX12_readLine_129 rfl ?_
  refine V_iconst (v := 0) (pc := 130) dX12_readLine_130 rfl ?_
  refine V_iconst (v := 3) (pc := 131) dX12_readLine_131 rfl ?_
  refine V_ldc (pc := 132) dX12_readLine_132 nX12_144 ?_
  refine V_callVi [.int 0, .int 3, .int (-1000000)] (pc := 134) kX12_numberIn lX12_189 sM0 rfl rfl (Nat.le_of_ble_eq_true rfl) rfl (Nat.le_of_ble_eq_true rfl) dX12_readLine_134 ?_
  refine Ci.mono h ?_
  intro x1 M1 h
  refine V_iast (pc := 137) sM10 dX12_readLine_137 h.1 ?_
  have h := h.2
  refine V_aload_n (pc := 138) dX12_readLine_138 rfl ?_
  refine V_getR (pc := 139) fX12_41 sM0 rfl dX12_readLine_139 ?_
  refine V_iload_n (pc := 142) dX12_readLine_142 rfl ?_
  refine V_aload_n (pc := 143) dX12_readLine_143 rfl ?_
  refine V_iconst (v := 1) (pc := 144) dX12_readLine_144 rfl ?_
  refine V_bipush (v := 99) (pc := 145) dX12_readLine_145 rfl ?_
  refine V_ldc (pc := 147) dX12_readLine_147 nX12_144 ?_
  refine V_callVi [.int 1, .int 99, .int (-1000000)] (pc := 149) kX12_numberIn lX12_189 sM0 rfl rfl (Nat.le_of_ble_eq_true rfl) rfl (Nat.le_of_ble_eq_true rfl) dX12_readLine_149 ?_
  refine Ci.mono h ?_
  intro x2 M2 h
  refine V_iast (pc := 152) sM11 dX12_readLine_152 h.1 ?_
  have h := h.2
  refine V_aload_n (pc := 153) dX12_readLine_153 rfl ?_
  refine V_getI (pc := 154) fX12_166 sM0 rfl dX12_readLine_154 ?_
  refine V_top (v := (M2.1 0 36)) (by simp [mset, lset, upd]) ?_
  refine V_if_ne (tgt := 278) (pc := 157) dX12_readLine_157 rfl (fun c => ?_) (fun c => ?_)
  · have h := h.1 c
    refine V_aload_n (pc := 278) dX12_readLine_278 rfl ?_
    refine V_getR (pc := 279) fX12_44 sM0 rfl dX12_readLine_279 ?_
    refine V_iload_n (pc := 282) dX12_readLine_282 rfl ?_
    refine V_ldc (pc := 283) dX12_readLine_283 nX12_144 ?_
    refine V_iast (pc := 285) sM12 dX12_readLine_285 h.1 ?_
    have h := h.2
    refine V_aload_n (pc := 286) dX12_readLine_286 rfl ?_
    refine V_getI (pc := 287) fX12_166 sM0 rfl dX12_readLine_287 ?_
    refine V_top (v := (M2.1 0 36)) (by simp [mset, lset, upd]) ?_
    refine V_if_ne (tgt := 323) (pc := 290) dX12_readLine_290 rfl (fun c => ?_) (fun c => ?_)
    · have h := h.1 c
      refine V_aload_n (pc := 323) dX12_readLine_323 rfl ?_
      refine V_dup (pc := 324) dX12_readLine_324 rfl ?_
      refine V_getI (pc := 325) fX12_183 sM0 rfl dX12_readLine_325 ?_
      refine V_top (v := (M2.1 0 39)) (by simp [mset, lset, upd]) ?_
      refine V_iconst (v := 1) (pc := 328) dX12_readLine_328 rfl ?_
      refine V_iadd (pc := 329) dX12_readLine_329 ?_
      refine V_putI (pc := 330) fX12_183 p12_39 sM0 rfl dX12_readLine_330 ?_
      exact V_vret dX12_readLine_333 rfl h
    · have h := h.2 c
      refine V_aload_n (pc := 293) dX12_readLine_293 rfl ?_
      refine V_callVl [] (pc := 294) kX12_word lX12_193 sM0 rfl rfl (Nat.le_of_ble_eq_true rfl) rfl (Nat.le_of_ble_eq_true rfl) dX12_readLine_294 ?_
      refine Cl.mono h ?_
      intro x3 M3 h
      refine V_ldc2 (pc := 297) dX12_readLine_297 nX12_207 ?_
      refine V_lif_ne (tgt := 323) (pc := 300) dX12_readLine_300 dX12_readLine_301 rfl (fun c => ?_) (fun c => ?_)
      · have h := h.1 c
        refine V_aload_n (pc := 323) dX12_readLine_323 rfl ?_
        refine V_dup (pc := 324) dX12_readLine_324 rfl ?_
        refine V_getI (pc := 325) fX12_183 sM0 rfl dX12_readLine_325 ?_
        refine V_iconst (v := 1) (pc := 328) dX12_readLine_328 rfl ?_
        refine V_iadd (pc := 329) dX12_readLine_329 ?_
        refine V_putI (pc := 330) fX12_183 p12_39 sM0 rfl dX12_readLine_330 ?_
        exact V_vret dX12_readLine_333 rfl h
      · have h := h.2 c
        refine V_aload_n (pc := 304) dX12_readLine_304 rfl ?_
        refine V_callVv [] (pc := 305) kX12_step lX12_176 sM0 rfl rfl (Nat.le_of_ble_eq_true rfl) rfl (Nat.le_of_ble_eq_true rfl) dX12_readLine_305 ?_
        refine Cv.mono h ?_
        intro M4 h
        refine V_aload_n (pc := 308) dX12_readLine_308 rfl ?_
        refine V_getR (pc := 309) fX12_44 sM0 rfl dX12_readLine_309 ?_
        refine V_iload_n (pc := 312) dX12_readLine_312 rfl ?_
        refine V_aload_n (pc := 313) dX12_readLine_313 rfl ?_
        refine V_iconst (v := 0) (pc := 314) dX12_readLine_314 rfl ?_
        refine V_bipush (v := 120) (pc := 315) dX12_readLine_315 rfl ?_
        refine V_ldc (pc := 317) dX12_readLine_317 nX12_144 ?_
        refine V_callVi [.int 0, .int 120, .int (-1000000)] (pc := 319) kX12_numberIn lX12_189 sM0 rfl rfl (Nat.le_of_ble_eq_true rfl) rfl (Nat.le_of_ble_eq_true rfl) dX12_readLine_319 ?_
        refine Ci.mono h ?_
        intro x5 M5 h
        refine V_iast (pc := 322) sM12 dX12_readLine_322 h.1 ?_
        have h := h.2
        refine V_aload_n (pc := 323) dX12_readLine_323 rfl ?_
        refine V_dup (pc := 324) dX12_readLine_324 rfl ?_
        refine V_getI (pc := 325) fX12_183 sM0 rfl dX12_readLine_325 ?_
        refine V_top (v := (M5.1 0 39)) (by simp [mset, lset, upd]) ?_
        refine V_iconst (v := 1) (pc := 328) dX12_readLine_328 rfl ?_
        refine V_iadd (pc := 329) dX12_readLine_329 ?_
        refine V_putI (pc := 330) fX12_183 p12_39 sM0 rfl dX12_readLine_330 ?_
        exact V_vret dX12_readLine_333 rfl h
  · have h := h.2 c
    refine V_aload_n (pc := 160) dX12_readLine_160 rfl ?_
    refine V_getI (pc := 161) fX12_154 sM0 rfl dX12_readLine_161 ?_
    refine V_top (v := (M2.1 0 33)) (by simp [mset, lset, upd]) ?_
    refine V_iconst (v := 2) (pc := 164) dX12_readLine_164 rfl ?_
    refine V_icmp_ne (tgt := 187) (pc := 165) dX12_readLine_165 rfl (fun c => ?_) (fun c => ?_)
    · have h := h.1 c
      refine V_aload_n (pc := 187) dX12_readLine_187 rfl ?_
      refine V_getR (pc := 188) fX12_47 sM0 rfl dX12_readLine_188 ?_
      refine V_iload_n (pc := 191) dX12_readLine_191 rfl ?_
      refine V_aload_n (pc := 192) dX12_readLine_192 rfl ?_
      refine V_getI (pc := 193) fX12_163 sM0 rfl dX12_readLine_193 ?_
      refine V_top (v := (M2.1 0 35)) (by simp [mset, lset, upd]) ?_
      refine V_aload_n (pc := 196) dX12_readLine_196 rfl ?_
      refine V_getI (pc := 197) fX12_151 sM0 rfl dX12_readLine_197 ?_
      refine V_top (v := (M2.1 0 34)) (by simp [mset, lset, upd]) ?_
      refine V_isub (pc := 200) dX12_readLine_200 ?_
      refine V_iast (pc := 201) sM13 dX12_readLine_201 h.1 ?_
      have h := h.2
      refine V_aload_n (pc := 202) dX12_readLine_202 rfl ?_
      refine V_getI (pc := 203) fX12_151 sM0 rfl dX12_readLine_203 ?_
      refine V_top (v := (M2.1 0 34)) (by simp [mset, lset, upd]) ?_
      refine V_istore_n (pc := 206) dX12_readLine_206 (by decide) ?_
      refine V_lv (lv2 := [(0, .ref (G.2.1 0)), (1, .int v1), (2, .int (M2.1 0 34))]) rfl ?_
      exact V_sub h ⟨rfl, rfl, rfl, trivial⟩
    · have h := h.2 c
      refine V_aload_n (pc := 168) dX12_readLine_168 rfl ?_
      refine V_getI (pc := 169) fX12_163 sM0 rfl dX12_readLine_169 ?_
      refine V_top (v := (M2.1 0 35)) (by simp [mset, lset, upd]) ?_
      refine V_aload_n (pc := 172) dX12_readLine_172 rfl ?_
      refine V_getI (pc := 173) fX12_151 sM0 rfl dX12_readLine_173 ?_
      refine V_top (v := (M2.1 0 34)) (by simp [mset, lset, upd]) ?_
      refine V_isub (pc := 176) dX12_readLine_176 ?_
      refine V_bipush (v := 8) (pc := 177) dX12_readLine_177 rfl ?_
      refine V_icmp_le (tgt := 187) (pc := 179) dX12_readLine_179 rfl (fun c => ?_) (fun c => ?_)
      · have h := h.1 c
        refine V_aload_n (pc := 187) dX12_readLine_187 rfl ?_
        refine V_getR (pc := 188) fX12_47 sM0 rfl dX12_readLine_188 ?_
        refine V_iload_n (pc := 191) dX12_readLine_191 rfl ?_
        refine V_aload_n (pc := 192) dX12_readLine_192 rfl ?_
        refine V_getI (pc := 193) fX12_163 sM0 rfl dX12_readLine_193 ?_
        refine V_top (v := (M2.1 0 35)) (by simp [mset, lset, upd]) ?_
        refine V_aload_n (pc := 196) dX12_readLine_196 rfl ?_
        refine V_getI (pc := 197) fX12_151 sM0 rfl dX12_readLine_197 ?_
        refine V_top (v := (M2.1 0 34)) (by simp [mset, lset, upd]) ?_
        refine V_isub (pc := 200) dX12_readLine_200 ?_
        refine V_iast (pc := 201) sM13 dX12_readLine_201 h.1 ?_
        have h := h.2
        refine V_aload_n (pc := 202) dX12_readLine_202 rfl ?_
        refine V_getI (pc := 203) fX12_151 sM0 rfl dX12_readLine_203 ?_
        refine V_top (v := (M2.1 0 34)) (by simp [mset, lset, upd]) ?_
        refine V_istore_n (pc := 206) dX12_readLine_206 (by decide) ?_
        refine V_lv (lv2 := [(0, .ref (G.2.1 0)), (1, .int v1), (2, .int (M2.1 0 34))]) rfl ?_
        exact V_sub h ⟨rfl, rfl, rfl, trivial⟩
      · have h := h.2 c
        refine V_aload_n (pc := 182) dX12_readLine_182 rfl ?_
        refine V_iconst (v := 2) (pc := 183) dX12_readLine_183 rfl ?_
        refine V_callVv [.int 2] (pc := 184) kX12_bad lX12_172 sM0 rfl rfl (Nat.le_of_ble_eq_true rfl) rfl (Nat.le_of_ble_eq_true rfl) dX12_readLine_184 ?_
        refine Cv.mono h ?_
        intro M6 h
        refine V_aload_n (pc := 187) dX12_readLine_187 rfl ?_
        refine V_getR (pc := 188) fX12_47 sM0 rfl dX12_readLine_188 ?_
        refine V_iload_n (pc := 191) dX12_readLine_191 rfl ?_
        refine V_aload_n (pc := 192) dX12_readLine_192 rfl ?_
        refine V_getI (pc := 193) fX12_163 sM0 rfl dX12_readLine_193 ?_
        refine V_aload_n (pc := 196) dX12_readLine_196 rfl ?_
        refine V_getI (pc := 197) fX12_151 sM0 rfl dX12_readLine_197 ?_
        refine V_isub (pc := 200) dX12_readLine_200 ?_
        refine V_iast (pc := 201) sM13 dX12_readLine_201 h.1 ?_
        have h := h.2
        refine V_aload_n (pc := 202) dX12_readLine_202 rfl ?_
        refine V_getI (pc := 203) fX12_151 sM0 rfl dX12_readLine_203 ?_
        refine V_top (v := (M6.1 0 34)) (by simp [mset, lset, upd]) ?_
        refine V_istore_n (pc := 206) dX12_readLine_206 (by decide) ?_
        refine V_lv (lv2 := [(0, .ref (G.2.1 0)), (1, .int v1), (2, .int (M6.1 0 34))]) rfl ?_
        exact V_sub h ⟨rfl, rfl, rfl, trivial⟩
theorem wp_X12_readLine_207 {G : GV} {k : Nat} {M : Mem} {q : Mem → Prop} {v1 : Int32} {v2 : Int32} (h : (((M.1 0 35) ≤ v2 → (((M.1 0 33) ≠ 2 → Cv shM G mX12_need (k + 3) [.ref (G.2.1 0), .int 0] M (fun M1 => vp_in v1 12 ∧ (((M1.1 0 36) ≠ 0 → q (mset (mset M1 12 (ix v1) (-1000000)) 0 39 ((M1.1 0 39) + 1))) ∧ ((M1.1 0 36) = 0 → Cl shM G mX12_word (k + 3) [.ref (G.2.1 0)] (mset M1 12 (ix v1) (-1000000)) (fun x2 M2 => ((x2 ≠ 6383461 → q (mset M2 0 39 ((M2.1 0 39) + 1))) ∧ (x2 = 6383461 → Cv shM G mX12_step (k + 3) [.ref (G.2.1 0)] M2 (fun M3 => Ci shM G mX12_numberIn (k + 3) [.ref (G.2.1 0), .int 0, .int 120, .int (-1000000)] M3 (fun x4 M4 => vp_in v1 12 ∧ q (mset (mset M4 12 (ix v1) x4) 0 39 ((M4.1 0 39) + 1))))))))))) ∧ ((M.1 0 33) = 2 → Cv shM G mX12_need (k + 3) [.ref (G.2.1 0), .int 1] M (fun M5 => vp_in v1 12 ∧ (((M5.1 0 36) ≠ 0 → q (mset (mset M5 12 (ix v1) (-1000000)) 0 39 ((M5.1 0 39) + 1))) ∧ ((M5.1 0 36) = 0 → Cl shM G mX12_word (k + 3) [.ref (G.2.1 0)] (mset M5 12 (ix v1) (-1000000)) (fun x6 M6 => ((x6 ≠ 6383461 → q (mset M6 0 39 ((M6.1 0 39) + 1))) ∧ (x6 = 6383461 → Cv shM G mX12_step (k + 3) [.ref (G.2.1 0)] M6 (fun M7 => Ci shM G mX12_numberIn (k + 3) [.ref (G.2.1 0), .int 0, .int 120, .int (-1000000)] M7 (fun x8 M8 => vp_in v1 12 ∧ q (mset (mset M8 12 (ix v1) x8) 0 39 ((M8.1 0 39) + 1))))))))))))) ∧ (¬ (M.1 0 35) ≤ v2 → (((M.1 0 33) ≠ 2 → (((M.1 0 33) ≠ 2 → Cv shM G mX12_need (k + 3) [.ref (G.2.1 0), .int 0] M (fun M9 => vp_in v1 12 ∧ (((M9.1 0 36) ≠ 0 → q (mset (mset M9 12 (ix v1) (-1000000)) 0 39 ((M9.1 0 39) + 1))) ∧ ((M9.1 0 36) = 0 → Cl shM G mX12_word (k + 3) [.ref (G.2.1 0)] (mset M9 12 (ix v1) (-1000000)) (fun x10 M10 => ((x10 ≠ 6383461 → q (mset M10 0 39 ((M10.1 0 39) + 1))) ∧ (x10 = 6383461 → Cv shM G mX12_step (k + 3) [.ref (G.2.1 0)] M10 (fun M11 => Ci shM G mX12_numberIn (k + 3) [.ref (G.2.1 0), .int 0, .int 120, .int (-1000000)] M11 (fun x12 M12 => vp_in v1 12 ∧ q (mset (mset M12 12 (ix v1) x12) 0 39 ((M12.1 0 39) + 1))))))))))) ∧ ((M.1 0 33) = 2 → Cv shM G mX12_need (k + 3) [.ref (G.2.1 0), .int 1] M (fun M13 => vp_in v1 12 ∧ (((M13.1 0 36) ≠ 0 → q (mset (mset M13 12 (ix v1) (-1000000)) 0 39 ((M13.1 0 39) + 1))) ∧ ((M13.1 0 36) = 0 → Cl shM G mX12_word (k + 3) [.ref (G.2.1 0)] (mset M13 12 (ix v1) (-1000000)) (fun x14 M14 => ((x14 ≠ 6383461 → q (mset M14 0 39 ((M14.1 0 39) + 1))) ∧ (x14 = 6383461 → Cv shM G mX12_step (k + 3) [.ref (G.2.1 0)] M14 (fun M15 => Ci shM G mX12_numberIn (k + 3) [.ref (G.2.1 0), .int 0, .int 120, .int (-1000000)] M15 (fun x16 M16 => vp_in v1 12 ∧ q (mset (mset M16 12 (ix v1) x16) 0 39 ((M16.1 0 39) + 1))))))))))))) ∧ ((M.1 0 33) = 2 → (((M.1 0 36) ≠ 0 → (((M.1 0 33) ≠ 2 → Cv shM G mX12_need (k + 3) [.ref (G.2.1 0), .int 0] M (fun M17 => vp_in v1 12 ∧ (((M17.1 0 36) ≠ 0 → q (mset (mset M17 12 (ix v1) (-1000000)) 0 39 ((M17.1 0 39) + 1))) ∧ ((M17.1 0 36) = 0 → Cl shM G mX12_word (k + 3) [.ref (G.2.1 0)] (mset M17 12 (ix v1) (-1000000)) (fun x18 M18 => ((x18 ≠ 6383461 → q (mset M18 0 39 ((M18.1 0 39) + 1))) ∧ (x18 = 6383461 → Cv shM G mX12_step (k + 3) [.ref (G.2.1 0)] M18 (fun M19 => Ci shM G mX12_numberIn (k + 3) [.ref (G.2.1 0), .int 0, .int 120, .int (-1000000)] M19 (fun x20 M20 => vp_in v1 12 ∧ q (mset (mset M20 12 (ix v1) x20) 0 39 ((M20.1 0 39) + 1))))))))))) ∧ ((M.1 0 33) = 2 → Cv shM G mX12_need (k + 3) [.ref (G.2.1 0), .int 1] M (fun M21 => vp_in v1 12 ∧ (((M21.1 0 36) ≠ 0 → q (mset (mset M21 12 (ix v1) (-1000000)) 0 39 ((M21.1 0 39) + 1))) ∧ ((M21.1 0 36) = 0 → Cl shM G mX12_word (k + 3) [.ref (G.2.1 0)] (mset M21 12 (ix v1) (-1000000)) (fun x22 M22 => ((x22 ≠ 6383461 → q (mset M22 0 39 ((M22.1 0 39) + 1))) ∧ (x22 = 6383461 → Cv shM G mX12_step (k + 3) [.ref (G.2.1 0)] M22 (fun M23 => Ci shM G mX12_numberIn (k + 3) [.ref (G.2.1 0), .int 0, .int 120, .int (-1000000)] M23 (fun x24 M24 => vp_in v1 12 ∧ q (mset (mset M24 12 (ix v1) x24) 0 39 ((M24.1 0 39) + 1))))))))))))) ∧ ((M.1 0 36) = 0 → vp_in v2 600 ∧ vp_in (((8 * v1) + v2) - (M.1 0 34)) 96 ∧ V shM G mX12_readLine (k + 4) 207 [(0, .ref (G.2.1 0)), (1, .int v1), (2, .int (v2 + 1))] [] (mset M 14 (ix (((8 * v1) + v2) - (M.1 0 34))) ((M.1 23 (ix v2)) - 97)) (Qv q)))))))) : V shM G mX12_readLine (k + 4) 207 [(0, .ref (G.2.1 0)), (1, .int v1), (2, .int v2)] [] M (Qv q) := by
  refine V_iload_n (pc := 207) dX12_readLine_207 rfl ?_
  refine V_aload_n (pc := 208) dX12_readLine_208 rfl ?_
  refine V_getI (pc := 209) fX12_163 sM0 rfl dX12_readLine_209 ?_
  refine V_icmp_ge (tgt := 261) (pc := 212) dX12_readLine_212 rfl (fun c => ?_) (fun c => ?_)
  · have h := h.1 c
    refine V_aload_n (pc := 261) dX12_readLine_261 rfl ?_
    refine V_aload_n (pc := 262) dX12_readLine_262 rfl ?_
    refine V_getI (pc := 263) fX12_154 sM0 rfl dX12_readLine_263 ?_
    refine V_iconst (v := 2) (pc := 266) dX12_readLine_266 rfl ?_
    refine V_icmp_ne (tgt := 274) (pc := 267) dX12_readLine_267 rfl (fun c => ?_) (fun c => ?_)
    · have h := h.1 c
      refine V_iconst (v := 0) (pc := 274) dX12_readLine_274 rfl ?_
      refine V_callVv [.int 0] (pc := 275) kX12_need lX12_179 sM0 rfl rfl (Nat.le_of_ble_eq_true rfl) rfl (Nat.le_of_ble_eq_true rfl) dX12_readLine_275 ?_
      refine Cv.mono h ?_
      intro M1 h
      refine V_aload_n (pc := 278) dX12_readLine_278 rfl ?_
      refine V_getR (pc := 279) fX12_44 sM0 rfl dX12_readLine_279 ?_
      refine V_iload_n (pc := 282) dX12_readLine_282 rfl ?_
      refine V_ldc (pc := 283) dX12_readLine_283 nX12_144 ?_
      refine V_iast (pc := 285) sM12 dX12_readLine_285 h.1 ?_
      have h := h.2
      refine V_aload_n (pc := 286) dX12_readLine_286 rfl ?_
      refine V_getI (pc := 287) fX12_166 sM0 rfl dX12_readLine_287 ?_
      refine V_top (v := (M1.1 0 36)) (by simp [mset, lset, upd]) ?_
      refine V_if_ne (tgt := 323) (pc := 290) dX12_readLine_290 rfl (fun c => ?_) (fun c => ?_)
      · have h := h.1 c
        refine V_aload_n (pc := 323) dX12_readLine_323 rfl ?_
        refine V_dup (pc := 324) dX12_readLine_324 rfl ?_
        refine V_getI (pc := 325) fX12_183 sM0 rfl dX12_readLine_325 ?_
        refine V_top (v := (M1.1 0 39)) (by simp [mset, lset, upd]) ?_
        refine V_iconst (v := 1) (pc := 328) dX12_readLine_328 rfl ?_
        refine V_iadd (pc := 329) dX12_readLine_329 ?_
        refine V_putI (pc := 330) fX12_183 p12_39 sM0 rfl dX12_readLine_330 ?_
        exact V_vret dX12_readLine_333 rfl h
      · have h := h.2 c
        refine V_aload_n (pc := 293) dX12_readLine_293 rfl ?_
        refine V_callVl [] (pc := 294) kX12_word lX12_193 sM0 rfl rfl (Nat.le_of_ble_eq_true rfl) rfl (Nat.le_of_ble_eq_true rfl) dX12_readLine_294 ?_
        refine Cl.mono h ?_
        intro x2 M2 h
        refine V_ldc2 (pc := 297) dX12_readLine_297 nX12_207 ?_
        refine V_lif_ne (tgt := 323) (pc := 300) dX12_readLine_300 dX12_readLine_301 rfl (fun c => ?_) (fun c => ?_)
        · have h := h.1 c
          refine V_aload_n (pc := 323) dX12_readLine_323 rfl ?_
          refine V_dup (pc := 324) dX12_readLine_324 rfl ?_
          refine V_getI (pc := 325) fX12_183 sM0 rfl dX12_readLine_325 ?_
          refine V_iconst (v := 1) (pc := 328) dX12_readLine_328 rfl ?_
          refine V_iadd (pc := 329) dX12_readLine_329 ?_
          refine V_putI (pc := 330) fX12_183 p12_39 sM0 rfl dX12_readLine_330 ?_
          exact V_vret dX12_readLine_333 rfl h
        · have h := h.2 c
          refine V_aload_n (pc := 304) dX12_readLine_304 rfl ?_
          refine V_callVv [] (pc := 305) kX12_step lX12_176 sM0 rfl rfl (Nat.le_of_ble_eq_true rfl) rfl (Nat.le_of_ble_eq_true rfl) dX12_readLine_305 ?_
          refine Cv.mono h ?_
          intro M3 h
          refine V_aload_n (pc := 308) dX12_readLine_308 rfl ?_
          refine V_getR (pc := 309) fX12_44 sM0 rfl dX12_readLine_309 ?_
          refine V_iload_n (pc := 312) dX12_readLine_312 rfl ?_
          refine V_aload_n (pc := 313) dX12_readLine_313 rfl ?_
          refine V_iconst (v := 0) (pc := 314) dX12_readLine_314 rfl ?_
          refine V_bipush (v := 120) (pc := 315) dX12_readLine_315 rfl ?_
          refine V_ldc (pc := 317) dX12_readLine_317 nX12_144 ?_
          refine V_callVi [.int 0, .int 120, .int (-1000000)] (pc := 319) kX12_numberIn lX12_189 sM0 rfl rfl (Nat.le_of_ble_eq_true rfl) rfl (Nat.le_of_ble_eq_true rfl) dX12_readLine_319 ?_
          refine Ci.mono h ?_
          intro x4 M4 h
          refine V_iast (pc := 322) sM12 dX12_readLine_322 h.1 ?_
          have h := h.2
          refine V_aload_n (pc := 323) dX12_readLine_323 rfl ?_
          refine V_dup (pc := 324) dX12_readLine_324 rfl ?_
          refine V_getI (pc := 325) fX12_183 sM0 rfl dX12_readLine_325 ?_
          refine V_top (v := (M4.1 0 39)) (by simp [mset, lset, upd]) ?_
          refine V_iconst (v := 1) (pc := 328) dX12_readLine_328 rfl ?_
          refine V_iadd (pc := 329) dX12_readLine_329 ?_
          refine V_putI (pc := 330) fX12_183 p12_39 sM0 rfl dX12_readLine_330 ?_
          exact V_vret dX12_readLine_333 rfl h
    · have h := h.2 c
      refine V_iconst (v := 1) (pc := 270) dX12_readLine_270 rfl ?_
      refine V_goto (tgt := 275) (pc := 271) dX12_readLine_271 rfl ?_
      refine V_callVv [.int 1] (pc := 275) kX12_need lX12_179 sM0 rfl rfl (Nat.le_of_ble_eq_true rfl) rfl (Nat.le_of_ble_eq_true rfl) dX12_readLine_275 ?_
      refine Cv.mono h ?_
      intro M5 h
      refine V_aload_n (pc := 278) dX12_readLine_278 rfl ?_
      refine V_getR (pc := 279) fX12_44 sM0 rfl dX12_readLine_279 ?_
      refine V_iload_n (pc := 282) dX12_readLine_282 rfl ?_
      refine V_ldc (pc := 283) dX12_readLine_283 nX12_144 ?_
      refine V_iast (pc := 285) sM12 dX12_readLine_285 h.1 ?_
      have h := h.2
      refine V_aload_n (pc := 286) dX12_readLine_286 rfl ?_
      refine V_getI (pc := 287) fX12_166 sM0 rfl dX12_readLine_287 ?_
      refine V_top (v := (M5.1 0 36)) (by simp [mset, lset, upd]) ?_
      refine V_if_ne (tgt := 323) (pc := 290) dX12_readLine_290 rfl (fun c => ?_) (fun c => ?_)
      · have h := h.1 c
        refine V_aload_n (pc := 323) dX12_readLine_323 rfl ?_
        refine V_dup (pc := 324) dX12_readLine_324 rfl ?_
        refine V_getI (pc := 325) fX12_183 sM0 rfl dX12_readLine_325 ?_
        refine V_top (v := (M5.1 0 39)) (by simp [mset, lset, upd]) ?_
        refine V_iconst (v := 1) (pc := 328) dX12_readLine_328 rfl ?_
        refine V_iadd (pc := 329) dX12_readLine_329 ?_
        refine V_putI (pc := 330) fX12_183 p12_39 sM0 rfl dX12_readLine_330 ?_
        exact V_vret dX12_readLine_333 rfl h
      · have h := h.2 c
        refine V_aload_n (pc := 293) dX12_readLine_293 rfl ?_
        refine V_callVl [] (pc := 294) kX12_word lX12_193 sM0 rfl rfl (Nat.le_of_ble_eq_true rfl) rfl (Nat.le_of_ble_eq_true rfl) dX12_readLine_294 ?_
        refine Cl.mono h ?_
        intro x6 M6 h
        refine V_ldc2 (pc := 297) dX12_readLine_297 nX12_207 ?_
        refine V_lif_ne (tgt := 323) (pc := 300) dX12_readLine_300 dX12_readLine_301 rfl (fun c => ?_) (fun c => ?_)
        · have h := h.1 c
          refine V_aload_n (pc := 323) dX12_readLine_323 rfl ?_
          refine V_dup (pc := 324) dX12_readLine_324 rfl ?_
          refine V_getI (pc := 325) fX12_183 sM0 rfl dX12_readLine_325 ?_
          refine V_iconst (v := 1) (pc := 328) dX12_readLine_328 rfl ?_
          refine V_iadd (pc := 329) dX12_readLine_329 ?_
          refine V_putI (pc := 330) fX12_183 p12_39 sM0 rfl dX12_readLine_330 ?_
          exact V_vret dX12_readLine_333 rfl h
        · have h := h.2 c
          refine V_aload_n (pc := 304) dX12_readLine_304 rfl ?_
          refine V_callVv [] (pc := 305) kX12_step lX12_176 sM0 rfl rfl (Nat.le_of_ble_eq_true rfl) rfl (Nat.le_of_ble_eq_true rfl) dX12_readLine_305 ?_
          refine Cv.mono h ?_
          intro M7 h
          refine V_aload_n (pc := 308) dX12_readLine_308 rfl ?_
          refine V_getR (pc := 309) fX12_44 sM0 rfl dX12_readLine_309 ?_
          refine V_iload_n (pc := 312) dX12_readLine_312 rfl ?_
          refine V_aload_n (pc := 313) dX12_readLine_313 rfl ?_
          refine V_iconst (v := 0) (pc := 314) dX12_readLine_314 rfl ?_
          refine V_bipush (v := 120) (pc := 315) dX12_readLine_315 rfl ?_
          refine V_ldc (pc := 317) dX12_readLine_317 nX12_144 ?_
          refine V_callVi [.int 0, .int 120, .int (-1000000)] (pc := 319) kX12_numberIn lX12_189 sM0 rfl rfl (Nat.le_of_ble_eq_true rfl) rfl (Nat.le_of_ble_eq_true rfl) dX12_readLine_319 ?_
          refine Ci.mono h ?_
          intro x8 M8 h
          refine V_iast (pc := 322) sM12 dX12_readLine_322 h.1 ?_
          have h := h.2
          refine V_aload_n (pc := 323) dX12_readLine_323 rfl ?_
          refine V_dup (pc := 324) dX12_readLine_324 rfl ?_
          refine V_getI (pc := 325) fX12_183 sM0 rfl dX12_readLine_325 ?_
          refine V_top (v := (M8.1 0 39)) (by simp [mset, lset, upd]) ?_
          refine V_iconst (v := 1) (pc := 328) dX12_readLine_328 rfl ?_
          refine V_iadd (pc := 329) dX12_readLine_329 ?_
          refine V_putI (pc := 330) fX12_183 p12_39 sM0 rfl dX12_readLine_330 ?_
          exact V_vret dX12_readLine_333 rfl h
  · have h := h.2 c
    refine V_aload_n (pc := 215) dX12_readLine_215 rfl ?_
    refine V_getI (pc := 216) fX12_154 sM0 rfl dX12_readLine_216 ?_
    refine V_iconst (v := 2) (pc := 219) dX12_readLine_219 rfl ?_
    refine V_icmp_ne (tgt := 261) (pc := 220) dX12_readLine_220 rfl (fun c => ?_) (fun c => ?_)
    · have h := h.1 c
      refine V_aload_n (pc := 261) dX12_readLine_261 rfl ?_
      refine V_aload_n (pc := 262) dX12_readLine_262 rfl ?_
      refine V_getI (pc := 263) fX12_154 sM0 rfl dX12_readLine_263 ?_
      refine V_iconst (v := 2) (pc := 266) dX12_readLine_266 rfl ?_
      refine V_icmp_ne (tgt := 274) (pc := 267) dX12_readLine_267 rfl (fun c => ?_) (fun c => ?_)
      · have h := h.1 c
        refine V_iconst (v := 0) (pc := 274) dX12_readLine_274 rfl ?_
        refine V_callVv [.int 0] (pc := 275) kX12_need lX12_179 sM0 rfl rfl (Nat.le_of_ble_eq_true rfl) rfl (Nat.le_of_ble_eq_true rfl) dX12_readLine_275 ?_
        refine Cv.mono h ?_
        intro M9 h
        refine V_aload_n (pc := 278) dX12_readLine_278 rfl ?_
        refine V_getR (pc := 279) fX12_44 sM0 rfl dX12_readLine_279 ?_
        refine V_iload_n (pc := 282) dX12_readLine_282 rfl ?_
        refine V_ldc (pc := 283) dX12_readLine_283 nX12_144 ?_
        refine V_iast (pc := 285) sM12 dX12_readLine_285 h.1 ?_
        have h := h.2
        refine V_aload_n (pc := 286) dX12_readLine_286 rfl ?_
        refine V_getI (pc := 287) fX12_166 sM0 rfl dX12_readLine_287 ?_
        refine V_top (v := (M9.1 0 36)) (by simp [mset, lset, upd]) ?_
        refine V_if_ne (tgt := 323) (pc := 290) dX12_readLine_290 rfl (fun c => ?_) (fun c => ?_)
        · have h := h.1 c
          refine V_aload_n (pc := 323) dX12_readLine_323 rfl ?_
          refine V_dup (pc := 324) dX12_readLine_324 rfl ?_
          refine V_getI (pc := 325) fX12_183 sM0 rfl dX12_readLine_325 ?_
          refine V_top (v := (M9.1 0 39)) (by simp [mset, lset, upd]) ?_
          refine V_iconst (v := 1) (pc := 328) dX12_readLine_328 rfl ?_
          refine V_iadd (pc := 329) dX12_readLine_329 ?_
          refine V_putI (pc := 330) fX12_183 p12_39 sM0 rfl dX12_readLine_330 ?_
          exact V_vret dX12_readLine_333 rfl h
        · have h := h.2 c
          refine V_aload_n (pc := 293) dX12_readLine_293 rfl ?_
          refine V_callVl [] (pc := 294) kX12_word lX12_193 sM0 rfl rfl (Nat.le_of_ble_eq_true rfl) rfl (Nat.le_of_ble_eq_true rfl) dX12_readLine_294 ?_
          refine Cl.mono h ?_
          intro x10 M10 h
          refine V_ldc2 (pc := 297) dX12_readLine_297 nX12_207 ?_
          refine V_lif_ne (tgt := 323) (pc := 300) dX12_readLine_300 dX12_readLine_301 rfl (fun c => ?_) (fun c => ?_)
          · have h := h.1 c
            refine V_aload_n (pc := 323) dX12_readLine_323 rfl ?_
            refine V_dup (pc := 324) dX12_readLine_324 rfl ?_
            refine V_getI (pc := 325) fX12_183 sM0 rfl dX12_readLine_325 ?_
            refine V_iconst (v := 1) (pc := 328) dX12_readLine_328 rfl ?_
            refine V_iadd (pc := 329) dX12_readLine_329 ?_
            refine V_putI (pc := 330) fX12_183 p12_39 sM0 rfl dX12_readLine_330 ?_
            exact V_vret dX12_readLine_333 rfl h
          · have h := h.2 c
            refine V_aload_n (pc := 304) dX12_readLine_304 rfl ?_
            refine V_callVv [] (pc := 305) kX12_step lX12_176 sM0 rfl rfl (Nat.le_of_ble_eq_true rfl) rfl (Nat.le_of_ble_eq_true rfl) dX12_readLine_305 ?_
            refine Cv.mono h ?_
            intro M11 h
            refine V_aload_n (pc := 308) dX12_readLine_308 rfl ?_
            refine V_getR (pc := 309) fX12_44 sM0 rfl dX12_readLine_309 ?_
            refine V_iload_n (pc := 312) dX12_readLine_312 rfl ?_
            refine V_aload_n (pc := 313) dX12_readLine_313 rfl ?_
            refine V_iconst (v := 0) (pc := 314) dX12_readLine_314 rfl ?_
            refine V_bipush (v := 120) (pc := 315) dX12_readLine_315 rfl ?_
            refine V_ldc (pc := 317) dX12_readLine_317 nX12_144 ?_
            refine V_callVi [.int 0, .int 120, .int (-1000000)] (pc := 319) kX12_numberIn lX12_189 sM0 rfl rfl (Nat.le_of_ble_eq_true rfl) rfl (Nat.le_of_ble_eq_true rfl) dX12_readLine_319 ?_
            refine Ci.mono h ?_
            intro x12 M12 h
            refine V_iast (pc := 322) sM12 dX12_readLine_322 h.1 ?_
            have h := h.2
            refine V_aload_n (pc := 323) dX12_readLine_323 rfl ?_
            refine V_dup (pc := 324) dX12_readLine_324 rfl ?_
            refine V_getI (pc := 325) fX12_183 sM0 rfl dX12_readLine_325 ?_
            refine V_top (v := (M12.1 0 39)) (by simp [mset, lset, upd]) ?_
            refine V_iconst (v := 1) (pc := 328) dX12_readLine_328 rfl ?_
            refine V_iadd (pc := 329) dX12_readLine_329 ?_
            refine V_putI (pc := 330) fX12_183 p12_39 sM0 rfl dX12_readLine_330 ?_
            exact V_vret dX12_readLine_333 rfl h
      · have h := h.2 c
        refine V_iconst (v := 1) (pc := 270) dX12_readLine_270 rfl ?_
        refine V_goto (tgt := 275) (pc := 271) dX12_readLine_271 rfl ?_
        refine V_callVv [.int 1] (pc := 275) kX12_need lX12_179 sM0 rfl rfl (Nat.le_of_ble_eq_true rfl) rfl (Nat.le_of_ble_eq_true rfl) dX12_readLine_275 ?_
        refine Cv.mono h ?_
        intro M13 h
        refine V_aload_n (pc := 278) dX12_readLine_278 rfl ?_
        refine V_getR (pc := 279) fX12_44 sM0 rfl dX12_readLine_279 ?_
        refine V_iload_n (pc := 282) dX12_readLine_282 rfl ?_
        refine V_ldc (pc := 283) dX12_readLine_283 nX12_144 ?_
        refine V_iast (pc := 285) sM12 dX12_readLine_285 h.1 ?_
        have h := h.2
        refine V_aload_n (pc := 286) dX12_readLine_286 rfl ?_
        refine V_getI (pc := 287) fX12_166 sM0 rfl dX12_readLine_287 ?_
        refine V_top (v := (M13.1 0 36)) (by simp [mset, lset, upd]) ?_
        refine V_if_ne (tgt := 323) (pc := 290) dX12_readLine_290 rfl (fun c => ?_) (fun c => ?_)
        · have h := h.1 c
          refine V_aload_n (pc := 323) dX12_readLine_323 rfl ?_
          refine V_dup (pc := 324) dX12_readLine_324 rfl ?_
          refine V_getI (pc := 325) fX12_183 sM0 rfl dX12_readLine_325 ?_
          refine V_top (v := (M13.1 0 39)) (by simp [mset, lset, upd]) ?_
          refine V_iconst (v := 1) (pc := 328) dX12_readLine_328 rfl ?_
          refine V_iadd (pc := 329) dX12_readLine_329 ?_
          refine V_putI (pc := 330) fX12_183 p12_39 sM0 rfl dX12_readLine_330 ?_
          exact V_vret dX12_readLine_333 rfl h
        · have h := h.2 c
          refine V_aload_n (pc := 293) dX12_readLine_293 rfl ?_
          refine V_callVl [] (pc := 294) kX12_word lX12_193 sM0 rfl rfl (Nat.le_of_ble_eq_true rfl) rfl (Nat.le_of_ble_eq_true rfl) dX12_readLine_294 ?_
          refine Cl.mono h ?_
          intro x14 M14 h
          refine V_ldc2 (pc := 297) dX12_readLine_297 nX12_207 ?_
          refine V_lif_ne (tgt := 323) (pc := 300) dX12_readLine_300 dX12_readLine_301 rfl (fun c => ?_) (fun c => ?_)
          · have h := h.1 c
            refine V_aload_n (pc := 323) dX12_readLine_323 rfl ?_
            refine V_dup (pc := 324) dX12_readLine_324 rfl ?_
            refine V_getI (pc := 325) fX12_183 sM0 rfl dX12_readLine_325 ?_
            refine V_iconst (v := 1) (pc := 328) dX12_readLine_328 rfl ?_
            refine V_iadd (pc := 329) dX12_readLine_329 ?_
            refine V_putI (pc := 330) fX12_183 p12_39 sM0 rfl dX12_readLine_330 ?_
            exact V_vret dX12_readLine_333 rfl h
          · have h := h.2 c
            refine V_aload_n (pc := 304) dX12_readLine_304 rfl ?_
            refine V_callVv [] (pc := 305) kX12_step lX12_176 sM0 rfl rfl (Nat.le_of_ble_eq_true rfl) rfl (Nat.le_of_ble_eq_true rfl) dX12_readLine_305 ?_
            refine Cv.mono h ?_
            intro M15 h
            refine V_aload_n (pc := 308) dX12_readLine_308 rfl ?_
            refine V_getR (pc := 309) fX12_44 sM0 rfl dX12_readLine_309 ?_
            refine V_iload_n (pc := 312) dX12_readLine_312 rfl ?_
            refine V_aload_n (pc := 313) dX12_readLine_313 rfl ?_
            refine V_iconst (v := 0) (pc := 314) dX12_readLine_314 rfl ?_
            refine V_bipush (v := 120) (pc := 315) dX12_readLine_315 rfl ?_
            refine V_ldc (pc := 317) dX12_readLine_317 nX12_144 ?_
            refine V_callVi [.int 0, .int 120, .int (-1000000)] (pc := 319) kX12_numberIn lX12_189 sM0 rfl rfl (Nat.le_of_ble_eq_true rfl) rfl (Nat.le_of_ble_eq_true rfl) dX12_readLine_319 ?_
            refine Ci.mono h ?_
            intro x16 M16 h
            refine V_iast (pc := 322) sM12 dX12_readLine_322 h.1 ?_
            have h := h.2
            refine V_aload_n (pc := 323) dX12_readLine_323 rfl ?_
            refine V_dup (pc := 324) dX12_readLine_324 rfl ?_
            refine V_getI (pc := 325) fX12_183 sM0 rfl dX12_readLine_325 ?_
            refine V_top (v := (M16.1 0 39)) (by simp [mset, lset, upd]) ?_
            refine V_iconst (v := 1) (pc := 328) dX12_readLine_328 rfl ?_
            refine V_iadd (pc := 329) dX12_readLine_329 ?_
            refine V_putI (pc := 330) fX12_183 p12_39 sM0 rfl dX12_readLine_330 ?_
            exact V_vret dX12_readLine_333 rfl h
    · have h := h.2 c
      refine V_aload_n (pc := 223) dX12_readLine_223 rfl ?_
      refine V_getI (pc := 224) fX12_166 sM0 rfl dX12_readLine_224 ?_
      refine V_if_ne (tgt := 261) (pc := 227) dX12_readLine_227 rfl (fun c => ?_) (fun c => ?_)
      · have h := h.1 c
        refine V_aload_n (pc := 261) dX12_readLine_261 rfl ?_
        refine V_aload_n (pc := 262) dX12_readLine_262 rfl ?_
        refine V_getI (pc := 263) fX12_154 sM0 rfl dX12_readLine_263 ?_
        refine V_iconst (v := 2) (pc := 266) dX12_readLine_266 rfl ?_
        refine V_icmp_ne (tgt := 274) (pc := 267) dX12_readLine_267 rfl (fun c => ?_) (fun c => ?_)
        · have h := h.1 c
          refine V_iconst (v := 0) (pc := 274) dX12_readLine_274 rfl ?_
          refine V_callVv [.int 0] (pc := 275) kX12_need lX12_179 sM0 rfl rfl (Nat.le_of_ble_eq_true rfl) rfl (Nat.le_of_ble_eq_true rfl) dX12_readLine_275 ?_
          refine Cv.mono h ?_
          intro M17 h
          refine V_aload_n (pc := 278) dX12_readLine_278 rfl ?_
          refine V_getR (pc := 279) fX12_44 sM0 rfl dX12_readLine_279 ?_
          refine V_iload_n (pc := 282) dX12_readLine_282 rfl ?_
          refine V_ldc (pc := 283) dX12_readLine_283 nX12_144 ?_
          refine V_iast (pc := 285) sM12 dX12_readLine_285 h.1 ?_
          have h := h.2
          refine V_aload_n (pc := 286) dX12_readLine_286 rfl ?_
          refine V_getI (pc := 287) fX12_166 sM0 rfl dX12_readLine_287 ?_
          refine V_top (v := (M17.1 0 36)) (by simp [mset, lset, upd]) ?_
          refine V_if_ne (tgt := 323) (pc := 290) dX12_readLine_290 rfl (fun c => ?_) (fun c => ?_)
          · have h := h.1 c
            refine V_aload_n (pc := 323) dX12_readLine_323 rfl ?_
            refine V_dup (pc := 324) dX12_readLine_324 rfl ?_
            refine V_getI (pc := 325) fX12_183 sM0 rfl dX12_readLine_325 ?_
            refine V_top (v := (M17.1 0 39)) (by simp [mset, lset, upd]) ?_
            refine V_iconst (v := 1) (pc := 328) dX12_readLine_328 rfl ?_
            refine V_iadd (pc := 329) dX12_readLine_329 ?_
            refine V_putI (pc := 330) fX12_183 p12_39 sM0 rfl dX12_readLine_330 ?_
            exact V_vret dX12_readLine_333 rfl h
          · have h := h.2 c
            refine V_aload_n (pc := 293) dX12_readLine_293 rfl ?_
            refine V_callVl [] (pc := 294) kX12_word lX12_193 sM0 rfl rfl (Nat.le_of_ble_eq_true rfl) rfl (Nat.le_of_ble_eq_true rfl) dX12_readLine_294 ?_
            refine Cl.mono h ?_
            intro x18 M18 h
            refine V_ldc2 (pc := 297) dX12_readLine_297 nX12_207 ?_
            refine V_lif_ne (tgt := 323) (pc := 300) dX12_readLine_300 dX12_readLine_301 rfl (fun c => ?_) (fun c => ?_)
            · have h := h.1 c
              refine V_aload_n (pc := 323) dX12_readLine_323 rfl ?_
              refine V_dup (pc := 324) dX12_readLine_324 rfl ?_
              refine V_getI (pc := 325) fX12_183 sM0 rfl dX12_readLine_325 ?_
              refine V_iconst (v := 1) (pc := 328) dX12_readLine_328 rfl ?_
              refine V_iadd (pc := 329) dX12_readLine_329 ?_
              refine V_putI (pc := 330) fX12_183 p12_39 sM0 rfl dX12_readLine_330 ?_
              exact V_vret dX12_readLine_333 rfl h
            · have h := h.2 c
              refine V_aload_n (pc := 304) dX12_readLine_304 rfl ?_
              refine V_callVv [] (pc := 305) kX12_step lX12_176 sM0 rfl rfl (Nat.le_of_ble_eq_true rfl) rfl (Nat.le_of_ble_eq_true rfl) dX12_readLine_305 ?_
              refine Cv.mono h ?_
              intro M19 h
              refine V_aload_n (pc := 308) dX12_readLine_308 rfl ?_
              refine V_getR (pc := 309) fX12_44 sM0 rfl dX12_readLine_309 ?_
              refine V_iload_n (pc := 312) dX12_readLine_312 rfl ?_
              refine V_aload_n (pc := 313) dX12_readLine_313 rfl ?_
              refine V_iconst (v := 0) (pc := 314) dX12_readLine_314 rfl ?_
              refine V_bipush (v := 120) (pc := 315) dX12_readLine_315 rfl ?_
              refine V_ldc (pc := 317) dX12_readLine_317 nX12_144 ?_
              refine V_callVi [.int 0, .int 120, .int (-1000000)] (pc := 319) kX12_numberIn lX12_189 sM0 rfl rfl (Nat.le_of_ble_eq_true rfl) rfl (Nat.le_of_ble_eq_true rfl) dX12_readLine_319 ?_
              refine Ci.mono h ?_
              intro x20 M20 h
              refine V_iast (pc := 322) sM12 dX12_readLine_322 h.1 ?_
              have h := h.2
              refine V_aload_n (pc := 323) dX12_readLine_323 rfl ?_
              refine V_dup (pc := 324) dX12_readLine_324 rfl ?_
              refine V_getI (pc := 325) fX12_183 sM0 rfl dX12_readLine_325 ?_
              refine V_top (v := (M20.1 0 39)) (by simp [mset, lset, upd]) ?_
              refine V_iconst (v := 1) (pc := 328) dX12_readLine_328 rfl ?_
              refine V_iadd (pc := 329) dX12_readLine_329 ?_
              refine V_putI (pc := 330) fX12_183 p12_39 sM0 rfl dX12_readLine_330 ?_
              exact V_vret dX12_readLine_333 rfl h
        · have h := h.2 c
          refine V_iconst (v := 1) (pc := 270) dX12_readLine_270 rfl ?_
          refine V_goto (tgt := 275) (pc := 271) dX12_readLine_271 rfl ?_
          refine V_callVv [.int 1] (pc := 275) kX12_need lX12_179 sM0 rfl rfl (Nat.le_of_ble_eq_true rfl) rfl (Nat.le_of_ble_eq_true rfl) dX12_readLine_275 ?_
          refine Cv.mono h ?_
          intro M21 h
          refine V_aload_n (pc := 278) dX12_readLine_278 rfl ?_
          refine V_getR (pc := 279) fX12_44 sM0 rfl dX12_readLine_279 ?_
          refine V_iload_n (pc := 282) dX12_readLine_282 rfl ?_
          refine V_ldc (pc := 283) dX12_readLine_283 nX12_144 ?_
          refine V_iast (pc := 285) sM12 dX12_readLine_285 h.1 ?_
          have h := h.2
          refine V_aload_n (pc := 286) dX12_readLine_286 rfl ?_
          refine V_getI (pc := 287) fX12_166 sM0 rfl dX12_readLine_287 ?_
          refine V_top (v := (M21.1 0 36)) (by simp [mset, lset, upd]) ?_
          refine V_if_ne (tgt := 323) (pc := 290) dX12_readLine_290 rfl (fun c => ?_) (fun c => ?_)
          · have h := h.1 c
            refine V_aload_n (pc := 323) dX12_readLine_323 rfl ?_
            refine V_dup (pc := 324) dX12_readLine_324 rfl ?_
            refine V_getI (pc := 325) fX12_183 sM0 rfl dX12_readLine_325 ?_
            refine V_top (v := (M21.1 0 39)) (by simp [mset, lset, upd]) ?_
            refine V_iconst (v := 1) (pc := 328) dX12_readLine_328 rfl ?_
            refine V_iadd (pc := 329) dX12_readLine_329 ?_
            refine V_putI (pc := 330) fX12_183 p12_39 sM0 rfl dX12_readLine_330 ?_
            exact V_vret dX12_readLine_333 rfl h
          · have h := h.2 c
            refine V_aload_n (pc := 293) dX12_readLine_293 rfl ?_
            refine V_callVl [] (pc := 294) kX12_word lX12_193 sM0 rfl rfl (Nat.le_of_ble_eq_true rfl) rfl (Nat.le_of_ble_eq_true rfl) dX12_readLine_294 ?_
            refine Cl.mono h ?_
            intro x22 M22 h
            refine V_ldc2 (pc := 297) dX12_readLine_297 nX12_207 ?_
            refine V_lif_ne (tgt := 323) (pc := 300) dX12_readLine_300 dX12_readLine_301 rfl (fun c => ?_) (fun c => ?_)
            · have h := h.1 c
              refine V_aload_n (pc := 323) dX12_readLine_323 rfl ?_
              refine V_dup (pc := 324) dX12_readLine_324 rfl ?_
              refine V_getI (pc := 325) fX12_183 sM0 rfl dX12_readLine_325 ?_
              refine V_iconst (v := 1) (pc := 328) dX12_readLine_328 rfl ?_
              refine V_iadd (pc := 329) dX12_readLine_329 ?_
              refine V_putI (pc := 330) fX12_183 p12_39 sM0 rfl dX12_readLine_330 ?_
              exact V_vret dX12_readLine_333 rfl h
            · have h := h.2 c
              refine V_aload_n (pc := 304) dX12_readLine_304 rfl ?_
              refine V_callVv [] (pc := 305) kX12_step lX12_176 sM0 rfl rfl (Nat.le_of_ble_eq_true rfl) rfl (Nat.le_of_ble_eq_true rfl) dX12_readLine_305 ?_
              refine Cv.mono h ?_
              intro M23 h
              refine V_aload_n (pc := 308) dX12_readLine_308 rfl ?_
              refine V_getR (pc := 309) fX12_44 sM0 rfl dX12_readLine_309 ?_
              refine V_iload_n (pc := 312) dX12_readLine_312 rfl ?_
              refine V_aload_n (pc := 313) dX12_readLine_313 rfl ?_
              refine V_iconst (v := 0) (pc := 314) dX12_readLine_314 rfl ?_
              refine V_bipush (v := 120) (pc := 315) dX12_readLine_315 rfl ?_
              refine V_ldc (pc := 317) dX12_readLine_317 nX12_144 ?_
              refine V_callVi [.int 0, .int 120, .int (-1000000)] (pc := 319) kX12_numberIn lX12_189 sM0 rfl rfl (Nat.le_of_ble_eq_true rfl) rfl (Nat.le_of_ble_eq_true rfl) dX12_readLine_319 ?_
              refine Ci.mono h ?_
              intro x24 M24 h
              refine V_iast (pc := 322) sM12 dX12_readLine_322 h.1 ?_
              have h := h.2
              refine V_aload_n (pc := 323) dX12_readLine_323 rfl ?_
              refine V_dup (pc := 324) dX12_readLine_324 rfl ?_
              refine V_getI (pc := 325) fX12_183 sM0 rfl dX12_readLine_325 ?_
              refine V_top (v := (M24.1 0 39)) (by simp [mset, lset, upd]) ?_
              refine V_iconst (v := 1) (pc := 328) dX12_readLine_328 rfl ?_
              refine V_iadd (pc := 329) dX12_readLine_329 ?_
              refine V_putI (pc := 330) fX12_183 p12_39 sM0 rfl dX12_readLine_330 ?_
              exact V_vret dX12_readLine_333 rfl h
      · have h := h.2 c
        refine V_aload_n (pc := 230) dX12_readLine_230 rfl ?_
        refine V_getR (pc := 231) fX12_50 sM0 rfl dX12_readLine_231 ?_
        refine V_bipush (v := 8) (pc := 234) dX12_readLine_234 rfl ?_
        refine V_iload_n (pc := 236) dX12_readLine_236 rfl ?_
        refine V_imul (pc := 237) dX12_readLine_237 ?_
        refine V_iload_n (pc := 238) dX12_readLine_238 rfl ?_
        refine V_iadd (pc := 239) dX12_readLine_239 ?_
        refine V_aload_n (pc := 240) dX12_readLine_240 rfl ?_
        refine V_getI (pc := 241) fX12_151 sM0 rfl dX12_readLine_241 ?_
        refine V_isub (pc := 244) dX12_readLine_244 ?_
        refine V_aload_n (pc := 245) dX12_readLine_245 rfl ?_
        refine V_getR (pc := 246) fX12_77 sM0 rfl dX12_readLine_246 ?_
        refine V_iload_n (pc := 249) dX12_readLine_249 rfl ?_
        refine V_iald (pc := 250) sM23 dX12_readLine_250 h.1 ?_
        have h := h.2
        refine V_bipush (v := 97) (pc := 251) dX12_readLine_251 rfl ?_
        refine V_isub (pc := 253) dX12_readLine_253 ?_
        refine V_iast (pc := 254) sM14 dX12_readLine_254 h.1 ?_
        have h := h.2
        refine V_iinc (pc := 255) dX12_readLine_255 rfl (by decide) ?_
        refine V_lv (lv2 := [(0, .ref (G.2.1 0)), (1, .int v1), (2, .int (v2 + 1))]) rfl ?_
        refine V_goto (tgt := 207) (pc := 258) dX12_readLine_258 rfl ?_
        exact V_sub h ⟨rfl, rfl, rfl, trivial⟩
