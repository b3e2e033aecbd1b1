theorem wp_X12_partAll {G : GV} {k : Nat} {M : Mem} {q : Mem → Prop} {v1 : Int32} {v2 : Int32} (h : ((v1 ≠ v2 → V shM G mX12_partAll (k + 4) 20 [(0, .ref (G.2.1 0)), (1, .int v1), (2, .int v2), (3, .int ((1 <<< (v1 &&& 31)) ||| (1 <<< (v2 &&& 31)))), (4, .int 0)] [] M (Qv q)) ∧ (v1 = v2 → V shM G mX12_partAll (k + 4) 20 [(0, .ref (G.2.1 0)), (1, .int v1), (2, .int v2), (3, .int 0), (4, .int 0)] [] M (Qv q)))) : Cv shM G mX12_partAll (k + 4) [.ref (G.2.1 0), .int v1, .int v2] M q := by
  unfold Cv
  show V _ _ _ _ _ [(0, .ref (G.2.1 0)), (1, .int v1), (2, .int v2)] _ _ _
  refine V_iload_n (pc := 0) dX12_partAll_0 rfl ?_
  refine V_iload_n (pc := 1) dX12_partAll_1 rfl ?_
  refine V_icmp_ne (tgt := 9) (pc := 2) dX12_partAll_2 rfl (fun c => ?_) (fun c => ?_)
  · have h := h.1 c
    refine V_iconst (v := 1) (pc := 9) dX12_partAll_9 rfl ?_
    refine V_iload_n (pc := 10) dX12_partAll_10 rfl ?_
    refine V_ishl (pc := 11) dX12_partAll_11 ?_
    refine V_iconst (v := 1) (pc := 12) dX12_partAll_12 rfl ?_
    refine V_iload_n (pc := 13) dX12_partAll_13 rfl ?_
    refine V_ishl (pc := 14) dX12_partAll_14 ?_
    refine V_ior (pc := 15) dX12_partAll_15 ?_
    refine V_istore_n (pc := 16) dX12_partAll_16 (by decide) ?_
    refine V_lv (lv2 := [(0, .ref (G.2.1 0)), (1, .int v1), (2, .int v2), (3, .int ((1 <<< (v1 &&& 31)) ||| (1 <<< (v2 &&& 31))))]) rfl ?_
    refine V_iconst (v := 0) (pc := 17) dX12_partAll_17 rfl ?_
    refine V_istore (pc := 18) dX12_partAll_18 (by decide) ?_
    refine V_lv (lv2 := [(0, .ref (G.2.1 0)), (1, .int v1), (2, .int v2), (3, .int ((1 <<< (v1 &&& 31)) ||| (1 <<< (v2 &&& 31)))), (4, .int 0)]) rfl ?_
    exact V_sub h ⟨rfl, rfl, rfl, rfl, rfl, trivial⟩
  · have h := h.2 c
    refine V_iconst (v := 0) (pc := 5) dX12_partAll_5 rfl ?_
    refine V_goto (tgt := 16) (pc := 6) dX12_partAll_6 rfl ?_
    refine V_istore_n (pc := 16) dX12_partAll_16 (by decide) ?_
    refine V_lv (lv2 := [(0, .ref (G.2.1 0)), (1, .int v1), (2, .int v2), (3, .int 0)]) rfl ?_
    refine V_iconst (v := 0) (pc := 17) dX12_partAll_17 rfl ?_
    refine V_istore (pc := 18) dX12_partAll_18 (by decide) ?_
    refine V_lv (lv2 := [(0, .ref (G.2.1 0)), (1, .int v1), (2, .int v2), (3, .int 0), (4, .int 0)]) rfl ?_
    exact V_sub h ⟨rfl, rfl, rfl, rfl, rfl, trivial⟩
theorem wp_X12_partAll_20 {G : GV} {k : Nat} {M : Mem} {q : Mem → Prop} {v1 : Int32} {v2 : Int32} {v3 : Int32} {v4 : Int32} (h : (((M.1 0 10) ≤ v4 → vp_in 0 4096 ∧ vp_in 0 4096 ∧ vp_in 0 4096 ∧ V shM G mX12_partAll (k + 4) 121 [(0, .ref (G.2.1 0)), (1, .int v1), (2, .int v2), (3, .int v3), (4, .int 1)] [] (lset (mset (mset M 26 (ix 0) (vp_nar .boolean 1)) 27 (ix 0) 0) 28 (ix 0) 1) (Qv q)) ∧ (¬ (M.1 0 10) ≤ v4 → vp_in v4 12 ∧ V shM G mX12_partAll (k + 4) 40 [(0, .ref (G.2.1 0)), (1, .int v1), (2, .int v2), (3, .int v3), (4, .int v4), (5, .int 0)] [] (mset M 25 (ix v4) 0) (Qv q)))) : V shM G mX12_partAll (k + 4) 20 [(0, .ref (G.2.1 0)), (1, .int v1), (2, .int v2), (3, .int v3), (4, .int v4)] [] M (Qv q) := by
  refine V_iload (pc := 20) dX12_partAll_20 rfl ?_
  refine V_aload_n (pc := 22) dX12_partAll_22 rfl ?_
  refine V_getI (pc := 23) fX12_227 sM0 rfl dX12_partAll_23 ?_
  refine V_icmp_ge (tgt := 97) (pc := 26) dX12_partAll_26 rfl (fun c => ?_) (fun c => ?_)
  · have h := h.1 c
    refine V_aload_n (pc := 97) dX12_partAll_97 rfl ?_
    refine V_getR (pc := 98) fX12_86 sM0 rfl dX12_partAll_98 ?_
    refine V_iconst (v := 0) (pc := 101) dX12_partAll_101 rfl ?_
    refine V_iconst (v := 1) (pc := 102) dX12_partAll_102 rfl ?_
    refine V_zast (pc := 103) sM26 dX12_partAll_103 h.1 ?_
    have h := h.2
    refine V_aload_n (pc := 104) dX12_partAll_104 rfl ?_
    refine V_getR (pc := 105) fX12_89 sM0 rfl dX12_partAll_105 ?_
    refine V_iconst (v := 0) (pc := 108) dX12_partAll_108 rfl ?_
    refine V_iconst (v := 0) (pc := 109) dX12_partAll_109 rfl ?_
    refine V_iast (pc := 110) sM27 dX12_partAll_110 h.1 ?_
    have h := h.2
    refine V_aload_n (pc := 111) dX12_partAll_111 rfl ?_
    refine V_getR (pc := 112) fX12_92 sM0 rfl dX12_partAll_112 ?_
    refine V_iconst (v := 0) (pc := 115) dX12_partAll_115 rfl ?_
    refine V_lconst (v := 1) (pc := 116) dX12_partAll_116 rfl ?_
    refine V_last (pc := 117) sM28 dX12_partAll_117 h.1 ?_
    have h := h.2
    refine V_iconst (v := 1) (pc := 118) dX12_partAll_118 rfl ?_
    refine V_istore (pc := 119) dX12_partAll_119 (by decide) ?_
    refine V_lv (lv2 := [(0, .ref (G.2.1 0)), (1, .int v1), (2, .int v2), (3, .int v3), (4, .int 1)]) rfl ?_
    exact V_sub h ⟨rfl, rfl, rfl, rfl, rfl, trivial⟩
  · have h := h.2 c
    refine V_aload_n (pc := 29) dX12_partAll_29 rfl ?_
    refine V_getR (pc := 30) fX12_83 sM0 rfl dX12_partAll_30 ?_
    refine V_iload (pc := 33) dX12_partAll_33 rfl ?_
    refine V_iconst (v := 0) (pc := 35) dX12_partAll_35 rfl ?_
    refine V_iast (pc := 36) sM25 dX12_partAll_36 h.1 ?_
    have h := h.2
    refine V_iconst (v := 0) (pc := 37) dX12_partAll_37 rfl ?_
    refine V_istore (pc := 38) dX12_partAll_38 (by decide) ?_
    refine V_lv (lv2 := [(0, .ref (G.2.1 0)), (1, .int v1), (2, .int v2), (3, .int v3), (4, .int v4), (5, .int 0)]) rfl ?_
    exact V_sub h ⟨rfl, rfl, rfl, rfl, rfl, rfl, trivial⟩
theorem wp_X12_partAll_40 {G : GV} {k : Nat} {M : Mem} {q : Mem → Prop} {v1 : Int32} {v2 : Int32} {v3 : Int32} {v4 : Int32} {v5 : Int32} (h : (((M.1 0 10) ≤ v5 → V shM G mX12_partAll (k + 4) 20 [(0, .ref (G.2.1 0)), (1, .int v1), (2, .int v2), (3, .int v3), (4, .int (v4 + 1))] [] M (Qv q)) ∧ (¬ (M.1 0 10) ≤ v5 → vp_in v4 12 ∧ ((v4 = v5 → vp_in v4 12 ∧ V shM G mX12_partAll (k + 4) 40 [(0, .ref (G.2.1 0)), (1, .int v1), (2, .int v2), (3, .int v3), (4, .int v4), (5, .int (v5 + 1))] [] (mset M 25 (ix v4) ((M.1 25 (ix v4)) ||| (1 <<< (v5 &&& 31)))) (Qv q)) ∧ (¬ v4 = v5 → Ci shM G mX12_mayBe (k + 3) [.ref (G.2.1 0), .int v4, .int v5] M (fun x1 M1 => ((x1 = 0 → vp_in v4 12 ∧ V shM G mX12_partAll (k + 4) 40 [(0, .ref (G.2.1 0)), (1, .int v1), (2, .int v2), (3, .int v3), (4, .int v4), (5, .int (v5 + 1))] [] (mset M1 25 (ix v4) ((M.1 25 (ix v4)) ||| 0)) (Qv q)) ∧ (¬ x1 = 0 → vp_in v4 12 ∧ V shM G mX12_partAll (k + 4) 40 [(0, .ref (G.2.1 0)), (1, .int v1), (2, .int v2), (3, .int v3), (4, .int v4), (5, .int (v5 + 1))] [] (mset M1 25 (ix v4) ((M.1 25 (ix v4)) ||| (1 <<< (v5 &&& 31)))) (Qv q))))))))) : V shM G mX12_partAll (k + 4) 40 [(0, .ref (G.2.1 0)), (1, .int v1), (2, .int v2), (3, .int v3), (4, .int v4), (5, .int v5)] [] M (Qv q) := by
  refine V_iload (pc := 40) dX12_partAll_40 rfl ?_
  refine V_aload_n (pc := 42) dX12_partAll_42 rfl ?_
  refine V_getI (pc := 43) fX12_227 sM0 rfl dX12_partAll_43 ?_
  refine V_icmp_ge (tgt := 91) (pc := 46) dX12_partAll_46 rfl (fun c => ?_) (fun c => ?_)
  · have h := h.1 c
    refine V_iinc (pc := 91) dX12_partAll_91 rfl (by decide) ?_
    refine V_lv (lv2 := [(0, .ref (G.2.1 0)), (1, .int v1), (2, .int v2), (3, .int v3), (4, .int (v4 + 1)), (5, .int v5)]) rfl ?_
    refine V_goto (tgt := 20) (pc := 94) dX12_partAll_94 rfl ?_
    exact V_sub h ⟨rfl, rfl, rfl, rfl, rfl, trivial⟩
  · have h := h.2 c
    refine V_aload_n (pc := 49) dX12_partAll_49 rfl ?_
    refine V_getR (pc := 50) fX12_83 sM0 rfl dX12_partAll_50 ?_
    refine V_iload (pc := 53) dX12_partAll_53 rfl ?_
    refine V_dup2 (pc := 55) dX12_partAll_55 rfl rfl ?_
    refine V_iald (pc := 56) sM25 dX12_partAll_56 h.1 ?_
    have h := h.2
    refine V_iload (pc := 57) dX12_partAll_57 rfl ?_
    refine V_iload (pc := 59) dX12_partAll_59 rfl ?_
    refine V_icmp_eq (tgt := 75) (pc := 61) dX12_partAll_61 rfl (fun c => ?_) (fun c => ?_)
    · have h := h.1 c
      refine V_iconst (v := 1) (pc := 75) dX12_partAll_75 rfl ?_
      refine V_iload (pc := 76) dX12_partAll_76 rfl ?_
      refine V_ishl (pc := 78) dX12_partAll_78 ?_
      refine V_goto (tgt := 83) (pc := 79) dX12_partAll_79 rfl ?_
      refine V_ior (pc := 83) dX12_partAll_83 ?_
      refine V_iast (pc := 84) sM25 dX12_partAll_84 h.1 ?_
      have h := h.2
      refine V_iinc (pc := 85) dX12_partAll_85 rfl (by decide) ?_
      refine V_lv (lv2 := [(0, .ref (G.2.1 0)), (1, .int v1), (2, .int v2), (3, .int v3), (4, .int v4), (5, .int (v5 + 1))]) rfl ?_
      refine V_goto (tgt := 40) (pc := 88) dX12_partAll_88 rfl ?_
      exact V_sub h ⟨rfl, rfl, rfl, rfl, rfl, rfl, trivial⟩
    · have h := h.2 c
      refine V_aload_n (pc := 64) dX12_partAll_64 rfl ?_
      refine V_iload (pc := 65) dX12_partAll_65 rfl ?_
      refine V_iload (pc := 67) dX12_partAll_67 rfl ?_
      refine V_callVi [.int v4, .int v5] (pc := 69) kX12_mayBe lX12_298 sM0 rfl rfl (Nat.le_of_ble_eq_true rfl) rfl (Nat.le_of_ble_eq_true rfl) dX12_partAll_69 ?_
      refine Ci.mono h ?_
      intro x1 M1 h
      refine V_if_eq (tgt := 82) (pc := 72) dX12_partAll_72 rfl (fun c => ?_) (fun c => ?_)
      · have h := h.1 c
        refine V_iconst (v := 0) (pc := 82) dX12_partAll_82 rfl ?_
        refine V_ior (pc := 83) dX12_partAll_83 ?_
        refine V_iast (pc := 84) sM25 dX12_partAll_84 h.1 ?_
        have h := h.2
        refine V_iinc (pc := 85) dX12_partAll_85 rfl (by decide) ?_
        refine V_lv (lv2 := [(0, .ref (G.2.1 0)), (1, .int v1), (2, .int v2), (3, .int v3), (4, .int v4), (5, .int (v5 + 1))]) rfl ?_
        refine V_goto (tgt := 40) (pc := 88) dX12_partAll_88 rfl ?_
        exact V_sub h ⟨rfl, rfl, rfl, rfl, rfl, rfl, trivial⟩
      · have h := h.2 c
        refine V_iconst (v := 1) (pc := 75) dX12_partAll_75 rfl ?_
        refine V_iload (pc := 76) dX12_partAll_76 rfl ?_
        refine V_ishl (pc := 78) dX12_partAll_78 ?_
        refine V_goto (tgt := 83) (pc := 79) dX12_partAll_79 rfl ?_
        refine V_ior (pc := 83) dX12_partAll_83 ?_
        refine V_iast (pc := 84) sM25 dX12_partAll_84 h.1 ?_
        have h := h.2
        refine V_iinc (pc := 85) dX12_partAll_85 rfl (by decide) ?_
        refine V_lv (lv2 := [(0, .ref (G.2.1 0)), (1, .int v1), (2, .int v2), (3, .int v3), (4, .int v4), (5, .int (v5 + 1))]) rfl ?_
        refine V_goto (tgt := 40) (pc := 88) dX12_partAll_88 rfl ?_
        exact V_sub h ⟨rfl, rfl, rfl, rfl, rfl, rfl, trivial⟩
theorem wp_X12_partAll_121 {G : GV} {k : Nat} {M : Mem} {q : Mem → Prop} {v1 : Int32} {v2 : Int32} {v3 : Int32} {v4 : Int32} (h : (((1 <<< ((M.1 0 10) &&& 31)) ≤ v4 → q M) ∧ (¬ (1 <<< ((M.1 0 10) &&& 31)) ≤ v4 → Ci shM G mX12_lowest (k + 3) [.int v4] M (fun x1 M1 => vp_in (v4 &&& ((1 <<< (x1 &&& 31)) ^^^ (-1))) 4096 ∧ (((M1.1 26 (ix (v4 &&& ((1 <<< (x1 &&& 31)) ^^^ (-1))))) = 0 → vp_in v4 4096 ∧ vp_in v4 4096 ∧ vp_in v4 4096 ∧ V shM G mX12_partAll (k + 4) 212 [(0, .ref (G.2.1 0)), (1, .int v1), (2, .int v2), (3, .int v3), (4, .int v4), (5, .int x1), (6, .int (v4 &&& ((1 <<< (x1 &&& 31)) ^^^ (-1)))), (7, .int (v4 &&& ((1 <<< (x1 &&& 31)) ^^^ (-1)))), (8, .int 1)] [] (lset (mset (mset M1 26 (ix v4) (vp_nar .boolean 0)) 27 (ix v4) 1000) 28 (ix v4) 0) (Qv q)) ∧ (¬ (M1.1 26 (ix (v4 &&& ((1 <<< (x1 &&& 31)) ^^^ (-1))))) = 0 → vp_in x1 12 ∧ ((((v4 &&& ((1 <<< (x1 &&& 31)) ^^^ (-1))) &&& ((M1.1 25 (ix x1)) ^^^ (-1))) ≠ 0 → vp_in v4 4096 ∧ vp_in v4 4096 ∧ vp_in v4 4096 ∧ V shM G mX12_partAll (k + 4) 212 [(0, .ref (G.2.1 0)), (1, .int v1), (2, .int v2), (3, .int v3), (4, .int v4), (5, .int x1), (6, .int (v4 &&& ((1 <<< (x1 &&& 31)) ^^^ (-1)))), (7, .int (v4 &&& ((1 <<< (x1 &&& 31)) ^^^ (-1)))), (8, .int 1)] [] (lset (mset (mset M1 26 (ix v4) (vp_nar .boolean 0)) 27 (ix v4) 1000) 28 (ix v4) 0) (Qv q)) ∧ (((v4 &&& ((1 <<< (x1 &&& 31)) ^^^ (-1))) &&& ((M1.1 25 (ix x1)) ^^^ (-1))) = 0 → vp_in v4 4096 ∧ vp_in v4 4096 ∧ vp_in v4 4096 ∧ V shM G mX12_partAll (k + 4) 212 [(0, .ref (G.2.1 0)), (1, .int v1), (2, .int v2), (3, .int v3), (4, .int v4), (5, .int x1), (6, .int (v4 &&& ((1 <<< (x1 &&& 31)) ^^^ (-1)))), (7, .int (v4 &&& ((1 <<< (x1 &&& 31)) ^^^ (-1)))), (8, .int 1)] [] (lset (mset (mset M1 26 (ix v4) (vp_nar .boolean 1)) 27 (ix v4) 1000) 28 (ix v4) 0) (Qv q))))))))) : V shM G mX12_partAll (k + 4) 121 [(0, .ref (G.2.1 0)), (1, .int v1), (2, .int v2), (3, .int v3), (4, .int v4)] [] M (Qv q) := by
  refine V_iload (pc := 121) dX12_partAll_121 rfl ?_
  refine V_iconst (v := 1) (pc := 123) dX12_partAll_123 rfl ?_
  refine V_aload_n (pc := 124) dX12_partAll_124 rfl ?_
  refine V_getI (pc := 125) fX12_227 sM0 rfl dX12_partAll_125 ?_
  refine V_ishl (pc := 128) dX12_partAll_128 ?_
  refine V_icmp_ge (tgt := 409) (pc := 129) dX12_partAll_129 rfl (fun c => ?_) (fun c => ?_)
  · have h := h.1 c
    exact V_vret dX12_partAll_409 rfl h
  · have h := h.2 c
    refine V_iload (pc := 132) dX12_partAll_132 rfl ?_
    refine V_callSi [.int v4] (pc := 134) kX12_lowest lX12_301 rfl (Nat.le_of_ble_eq_true rfl) rfl (Nat.le_of_ble_eq_true rfl) dX12_partAll_134 ?_
    refine Ci.mono h ?_
    intro x1 M1 h
    refine V_istore (pc := 137) dX12_partAll_137 (by decide) ?_
    refine V_lv (lv2 := [(0, .ref (G.2.1 0)), (1, .int v1), (2, .int v2), (3, .int v3), (4, .int v4), (5, .int x1)]) rfl ?_
    refine V_iload (pc := 139) dX12_partAll_139 rfl ?_
    refine V_iconst (v := 1) (pc := 141) dX12_partAll_141 rfl ?_
    refine V_iload (pc := 142) dX12_partAll_142 rfl ?_
    refine V_ishl (pc := 144) dX12_partAll_144 ?_
    refine V_iconst (v := (-1)) (pc := 145) dX12_partAll_145 rfl ?_
    refine V_ixor (pc := 146) dX12_partAll_146 ?_
    refine V_iand (pc := 147) dX12_partAll_147 ?_
    refine V_istore (pc := 148) dX12_partAll_148 (by decide) ?_
    refine V_lv (lv2 := [(0, .ref (G.2.1 0)), (1, .int v1), (2, .int v2), (3, .int v3), (4, .int v4), (5, .int x1), (6, .int (v4 &&& ((1 <<< (x1 &&& 31)) ^^^ (-1))))]) rfl ?_
    refine V_aload_n (pc := 150) dX12_partAll_150 rfl ?_
    refine V_getR (pc := 151) fX12_86 sM0 rfl dX12_partAll_151 ?_
    refine V_iload (pc := 154) dX12_partAll_154 rfl ?_
    refine V_aload_n (pc := 156) dX12_partAll_156 rfl ?_
    refine V_getR (pc := 157) fX12_86 sM0 rfl dX12_partAll_157 ?_
    refine V_iload (pc := 160) dX12_partAll_160 rfl ?_
    refine V_zald (pc := 162) sM26 dX12_partAll_162 h.1 ?_
    have h := h.2
    refine V_if_eq (tgt := 185) (pc := 163) dX12_partAll_163 rfl (fun c => ?_) (fun c => ?_)
    · have h := h.1 c
      refine V_iconst (v := 0) (pc := 185) dX12_partAll_185 rfl ?_
      refine V_zast (pc := 186) sM26 dX12_partAll_186 h.1 ?_
      have h := h.2
      refine V_aload_n (pc := 187) dX12_partAll_187 rfl ?_
      refine V_getR (pc := 188) fX12_89 sM0 rfl dX12_partAll_188 ?_
      refine V_iload (pc := 191) dX12_partAll_191 rfl ?_
      refine V_sipush (v := 1000) (pc := 193) dX12_partAll_193 rfl ?_
      refine V_iast (pc := 196) sM27 dX12_partAll_196 h.1 ?_
      have h := h.2
      refine V_aload_n (pc := 197) dX12_partAll_197 rfl ?_
      refine V_getR (pc := 198) fX12_92 sM0 rfl dX12_partAll_198 ?_
      refine V_iload (pc := 201) dX12_partAll_201 rfl ?_
      refine V_lconst (v := 0) (pc := 203) dX12_partAll_203 rfl ?_
      refine V_last (pc := 204) sM28 dX12_partAll_204 h.1 ?_
      have h := h.2
      refine V_iload (pc := 205) dX12_partAll_205 rfl ?_
      refine V_istore (pc := 207) dX12_partAll_207 (by decide) ?_
      refine V_lv (lv2 := [(0, .ref (G.2.1 0)), (1, .int v1), (2, .int v2), (3, .int v3), (4, .int v4), (5, .int x1), (6, .int (v4 &&& ((1 <<< (x1 &&& 31)) ^^^ (-1)))), (7, .int (v4 &&& ((1 <<< (x1 &&& 31)) ^^^ (-1))))]) rfl ?_
      refine V_iconst (v := 1) (pc := 209) dX12_partAll_209 rfl ?_
      refine V_istore (pc := 210) dX12_partAll_210 (by decide) ?_
      refine V_lv (lv2 := [(0, .ref (G.2.1 0)), (1, .int v1), (2, .int v2), (3, .int v3), (4, .int v4), (5, .int x1), (6, .int (v4 &&& ((1 <<< (x1 &&& 31)) ^^^ (-1)))), (7, .int (v4 &&& ((1 <<< (x1 &&& 31)) ^^^ (-1)))), (8, .int 1)]) rfl ?_
      exact V_sub h ⟨rfl, rfl, rfl, rfl, rfl, rfl, rfl, rfl, rfl, trivial⟩
    · have h := h.2 c
      refine V_iload (pc := 166) dX12_partAll_166 rfl ?_
      refine V_aload_n (pc := 168) dX12_partAll_168 rfl ?_
      refine V_getR (pc := 169) fX12_83 sM0 rfl dX12_partAll_169 ?_
      refine V_iload (pc := 172) dX12_partAll_172 rfl ?_
      refine V_iald (pc := 174) sM25 dX12_partAll_174 h.1 ?_
      have h := h.2
      refine V_iconst (v := (-1)) (pc := 175) dX12_partAll_175 rfl ?_
      refine V_ixor (pc := 176) dX12_partAll_176 ?_
      refine V_iand (pc := 177) dX12_partAll_177 ?_
      refine V_if_ne (tgt := 185) (pc := 178) dX12_partAll_178 rfl (fun c => ?_) (fun c => ?_)
      · have h := h.1 c
        refine V_iconst (v := 0) (pc := 185) dX12_partAll_185 rfl ?_
        refine V_zast (pc := 186) sM26 dX12_partAll_186 h.1 ?_
        have h := h.2
        refine V_aload_n (pc := 187) dX12_partAll_187 rfl ?_
        refine V_getR (pc := 188) fX12_89 sM0 rfl dX12_partAll_188 ?_
        refine V_iload (pc := 191) dX12_partAll_191 rfl ?_
        refine V_sipush (v := 1000) (pc := 193) dX12_partAll_193 rfl ?_
        refine V_iast (pc := 196) sM27 dX12_partAll_196 h.1 ?_
        have h := h.2
        refine V_aload_n (pc := 197) dX12_partAll_197 rfl ?_
        refine V_getR (pc := 198) fX12_92 sM0 rfl dX12_partAll_198 ?_
        refine V_iload (pc := 201) dX12_partAll_201 rfl ?_
        refine V_lconst (v := 0) (pc := 203) dX12_partAll_203 rfl ?_
        refine V_last (pc := 204) sM28 dX12_partAll_204 h.1 ?_
        have h := h.2
        refine V_iload (pc := 205) dX12_partAll_205 rfl ?_
        refine V_istore (pc := 207) dX12_partAll_207 (by decide) ?_
        refine V_lv (lv2 := [(0, .ref (G.2.1 0)), (1, .int v1), (2, .int v2), (3, .int v3), (4, .int v4), (5, .int x1), (6, .int (v4 &&& ((1 <<< (x1 &&& 31)) ^^^ (-1)))), (7, .int (v4 &&& ((1 <<< (x1 &&& 31)) ^^^ (-1))))]) rfl ?_
        refine V_iconst (v := 1) (pc := 209) dX12_partAll_209 rfl ?_
        refine V_istore (pc := 210) dX12_partAll_210 (by decide) ?_
        refine V_lv (lv2 := [(0, .ref (G.2.1 0)), (1, .int v1), (2, .int v2), (3, .int v3), (4, .int v4), (5, .int x1), (6, .int (v4 &&& ((1 <<< (x1 &&& 31)) ^^^ (-1)))), (7, .int (v4 &&& ((1 <<< (x1 &&& 31)) ^^^ (-1)))), (8, .int 1)]) rfl ?_
        exact V_sub h ⟨rfl, rfl, rfl, rfl, rfl, rfl, rfl, rfl, rfl, trivial⟩
      · have h := h.2 c
        refine V_iconst (v := 1) (pc := 181) dX12_partAll_181 rfl ?_
        refine V_goto (tgt := 186) (pc := 182) dX12_partAll_182 rfl ?_
        refine V_zast (pc := 186) sM26 dX12_partAll_186 h.1 ?_
        have h := h.2
        refine V_aload_n (pc := 187) dX12_partAll_187 rfl ?_
        refine V_getR (pc := 188) fX12_89 sM0 rfl dX12_partAll_188 ?_
        refine V_iload (pc := 191) dX12_partAll_191 rfl ?_
        refine V_sipush (v := 1000) (pc := 193) dX12_partAll_193 rfl ?_
        refine V_iast (pc := 196) sM27 dX12_partAll_196 h.1 ?_
        have h := h.2
        refine V_aload_n (pc := 197) dX12_partAll_197 rfl ?_
        refine V_getR (pc := 198) fX12_92 sM0 rfl dX12_partAll_198 ?_
        refine V_iload (pc := 201) dX12_partAll_201 rfl ?_
        refine V_lconst (v := 0) (pc := 203) dX12_partAll_203 rfl ?_
        refine V_last (pc := 204) sM28 dX12_partAll_204 h.1 ?_
        have h := h.2
        refine V_iload (pc := 205) dX12_partAll_205 rfl ?_
        refine V_istore (pc := 207) dX12_partAll_207 (by decide) ?_
        refine V_lv (lv2 := [(0, .ref (G.2.1 0)), (1, .int v1), (2, .int v2), (3, .int v3), (4, .int v4), (5, .int x1), (6, .int (v4 &&& ((1 <<< (x1 &&& 31)) ^^^ (-1)))), (7, .int (v4 &&& ((1 <<< (x1 &&& 31)) ^^^ (-1))))]) rfl ?_
        refine V_iconst (v := 1) (pc := 209) dX12_partAll_209 rfl ?_
        refine V_istore (pc := 210) dX12_partAll_210 (by decide) ?_
        refine V_lv (lv2 := [(0, .ref (G.2.1 0)), (1, .int v1), (2, .int v2), (3, .int v3), (4, .int v4), (5, .int x1), (6, .int (v4 &&& ((1 <<< (x1 &&& 31)) ^^^ (-1)))), (7, .int (v4 &&& ((1 <<< (x1 &&& 31)) ^^^ (-1)))), (8, .int 1)]) rfl ?_
        exact V_sub h ⟨rfl, rfl, rfl, rfl, rfl, rfl, rfl, rfl, rfl, trivial⟩
theorem wp_X12_partAll_212 {G : GV} {k : Nat} {M : Mem} {q : Mem → Prop} {v1 : Int32} {v2 : Int32} {v3 : Int32} {v4 : Int32} {v5 : Int32} {v6 : Int32} {v7 : Int32} {v8 : Int32} (h : ((v8 = 0 → V shM G mX12_partAll (k + 4) 121 [(0, .ref (G.2.1 0)), (1, .int v1), (2, .int v2), (3, .int v3), (4, .int (v4 + 1))] [] M (Qv q)) ∧ (¬ v8 = 0 → ((((v7 ||| (1 <<< (v5 &&& 31))) &&& v3) = 0 → V shM G mX12_partAll (k + 4) 253 [(0, .ref (G.2.1 0)), (1, .int v1), (2, .int v2), (3, .int v3), (4, .int v4), (5, .int v5), (6, .int v6), (7, .int v7), (8, .int v8), (9, .int (v7 ||| (1 <<< (v5 &&& 31)))), (10, .int (v4 &&& ((v7 ||| (1 <<< (v5 &&& 31))) ^^^ (-1))))] [] M (Qv q)) ∧ (¬ ((v7 ||| (1 <<< (v5 &&& 31))) &&& v3) = 0 → ((((v4 &&& ((v7 ||| (1 <<< (v5 &&& 31))) ^^^ (-1))) &&& v3) = 0 → V shM G mX12_partAll (k + 4) 253 [(0, .ref (G.2.1 0)), (1, .int v1), (2, .int v2), (3, .int v3), (4, .int v4), (5, .int v5), (6, .int v6), (7, .int v7), (8, .int v8), (9, .int (v7 ||| (1 <<< (v5 &&& 31)))), (10, .int (v4 &&& ((v7 ||| (1 <<< (v5 &&& 31))) ^^^ (-1))))] [] M (Qv q)) ∧ (¬ ((v4 &&& ((v7 ||| (1 <<< (v5 &&& 31))) ^^^ (-1))) &&& v3) = 0 → vp_in (v7 ||| (1 <<< (v5 &&& 31))) 4096 ∧ (((M.1 26 (ix (v7 ||| (1 <<< (v5 &&& 31))))) = 0 → ((v7 = 0 → V shM G mX12_partAll (k + 4) 212 [(0, .ref (G.2.1 0)), (1, .int v1), (2, .int v2), (3, .int v3), (4, .int v4), (5, .int v5), (6, .int v6), (7, .int ((v7 - 1) &&& v6)), (8, .int 0)] [] M (Qv q)) ∧ (¬ v7 = 0 → V shM G mX12_partAll (k + 4) 212 [(0, .ref (G.2.1 0)), (1, .int v1), (2, .int v2), (3, .int v3), (4, .int v4), (5, .int v5), (6, .int v6), (7, .int ((v7 - 1) &&& v6)), (8, .int 1)] [] M (Qv q)))) ∧ (¬ (M.1 26 (ix (v7 ||| (1 <<< (v5 &&& 31))))) = 0 → ((v7 = 0 → V shM G mX12_partAll (k + 4) 212 [(0, .ref (G.2.1 0)), (1, .int v1), (2, .int v2), (3, .int v3), (4, .int v4), (5, .int v5), (6, .int v6), (7, .int ((v7 - 1) &&& v6)), (8, .int 0)] [] M (Qv q)) ∧ (¬ v7 = 0 → V shM G mX12_partAll (k + 4) 212 [(0, .ref (G.2.1 0)), (1, .int v1), (2, .int v2), (3, .int v3), (4, .int v4), (5, .int v5), (6, .int v6), (7, .int ((v7 - 1) &&& v6)), (8, .int 1)] [] M (Qv q)))))))))))) : V shM G mX12_partAll (k + 4) 212 [(0, .ref (G.2.1 0)), (1, .int v1), (2, .int v2), (3, .int v3), (4, .int v4), (5, .int v5), (6, .int v6), (7, .int v7), (8, .int v8)] [] M (Qv q) := by
  refine V_iload (pc := 212) dX12_partAll_212 rfl ?_
  refine V_if_eq (tgt := 403) (pc := 214) dX12_partAll_214 rfl (fun c => ?_) (fun c => ?_)
  · have h := h.1 c
    refine V_iinc (pc := 403) dX12_partAll_403 rfl (by decide) ?_
    refine V_lv (lv2 := [(0, .ref (G.2.1 0)), (1, .int v1), (2, .int v2), (3, .int v3), (4, .int (v4 + 1)), (5, .int v5), (6, .int v6), (7, .int v7), (8, .int v8)]) rfl ?_
    refine V_goto (tgt := 121) (pc := 406) dX12_partAll_406 rfl ?_
    exact V_sub h ⟨rfl, rfl, rfl, rfl, rfl, trivial⟩
  · have h := h.2 c
    refine V_iload (pc := 217) dX12_partAll_217 rfl ?_
    refine V_iconst (v := 1) (pc := 219) dX12_partAll_219 rfl ?_
    refine V_iload (pc := 220) dX12_partAll_220 rfl ?_
    refine V_ishl (pc := 222) dX12_partAll_222 ?_
    refine V_ior (pc := 223) dX12_partAll_223 ?_
    refine V_istore (pc := 224) dX12_partAll_224 (by decide) ?_
    refine V_lv (lv2 := [(0, .ref (G.2.1 0)), (1, .int v1), (2, .int v2), (3, .int v3), (4, .int v4), (5, .int v5), (6, .int v6), (7, .int v7), (8, .int v8), (9, .int (v7 ||| (1 <<< (v5 &&& 31))))]) rfl ?_
    refine V_iload (pc := 226) dX12_partAll_226 rfl ?_
    refine V_iload (pc := 228) dX12_partAll_228 rfl ?_
    refine V_iconst (v := (-1)) (pc := 230) dX12_partAll_230 rfl ?_
    refine V_ixor (pc := 231) dX12_partAll_231 ?_
    refine V_iand (pc := 232) dX12_partAll_232 ?_
    refine V_istore (pc := 233) dX12_partAll_233 (by decide) ?_
    refine V_lv (lv2 := [(0, .ref (G.2.1 0)), (1, .int v1), (2, .int v2), (3, .int v3), (4, .int v4), (5, .int v5), (6, .int v6), (7, .int v7), (8, .int v8), (9, .int (v7 ||| (1 <<< (v5 &&& 31)))), (10, .int (v4 &&& ((v7 ||| (1 <<< (v5 &&& 31))) ^^^ (-1))))]) rfl ?_
    refine V_iload (pc := 235) dX12_partAll_235 rfl ?_
    refine V_iload_n (pc := 237) dX12_partAll_237 rfl ?_
    refine V_iand (pc := 238) dX12_partAll_238 ?_
    refine V_if_eq (tgt := 253) (pc := 239) dX12_partAll_239 rfl (fun c => ?_) (fun c => ?_)
    · have h := h.1 c
      exact V_sub h ⟨rfl, rfl, rfl, rfl, rfl, rfl, rfl, rfl, rfl, rfl, rfl, trivial⟩
    · have h := h.2 c
      refine V_iload (pc := 242) dX12_partAll_242 rfl ?_
      refine V_iload_n (pc := 244) dX12_partAll_244 rfl ?_
      refine V_iand (pc := 245) dX12_partAll_245 ?_
      refine V_if_eq (tgt := 253) (pc := 246) dX12_partAll_246 rfl (fun c => ?_) (fun c => ?_)
      · have h := h.1 c
        exact V_sub h ⟨rfl, rfl, rfl, rfl, rfl, rfl, rfl, rfl, rfl, rfl, rfl, trivial⟩
      · have h := h.2 c
        refine V_iconst (v := 1) (pc := 249) dX12_partAll_249 rfl ?_
        refine V_goto (tgt := 254) (pc := 250) dX12_partAll_250 rfl ?_
        refine V_istore (pc := 254) dX12_partAll_254 (by decide) ?_
        refine V_lv (lv2 := [(0, .ref (G.2.1 0)), (1, .int v1), (2, .int v2), (3, .int v3), (4, .int v4), (5, .int v5), (6, .int v6), (7, .int v7), (8, .int v8), (9, .int (v7 ||| (1 <<< (v5 &&& 31)))), (10, .int (v4 &&& ((v7 ||| (1 <<< (v5 &&& 31))) ^^^ (-1)))), (11, .int 1)]) rfl ?_
        refine V_aload_n (pc := 256) dX12_partAll_256 rfl ?_
        refine V_getR (pc := 257) fX12_86 sM0 rfl dX12_partAll_257 ?_
        refine V_iload (pc := 260) dX12_partAll_260 rfl ?_
        refine V_zald (pc := 262) sM26 dX12_partAll_262 h.1 ?_
        have h := h.2
        refine V_if_eq (tgt := 379) (pc := 263) dX12_partAll_263 rfl (fun c => ?_) (fun c => ?_)
        · have h := h.1 c
          refine V_iload (pc := 379) dX12_partAll_379 rfl ?_
          refine V_if_eq (tgt := 388) (pc := 381) dX12_partAll_381 rfl (fun c => ?_) (fun c => ?_)
          · have h := h.1 c
            refine V_iconst (v := 0) (pc := 388) dX12_partAll_388 rfl ?_
            refine V_istore (pc := 389) dX12_partAll_389 (by decide) ?_
            refine V_lv (lv2 := [(0, .ref (G.2.1 0)), (1, .int v1), (2, .int v2), (3, .int v3), (4, .int v4), (5, .int v5), (6, .int v6), (7, .int v7), (8, .int 0), (9, .int (v7 ||| (1 <<< (v5 &&& 31)))), (10, .int (v4 &&& ((v7 ||| (1 <<< (v5 &&& 31))) ^^^ (-1)))), (11, .int 1)]) rfl ?_
            refine V_iload (pc := 391) dX12_partAll_391 rfl ?_
            refine V_iconst (v := 1) (pc := 393) dX12_partAll_393 rfl ?_
            refine V_isub (pc := 394) dX12_partAll_394 ?_
            refine V_iload (pc := 395) dX12_partAll_395 rfl ?_
            refine V_iand (pc := 397) dX12_partAll_397 ?_
            refine V_istore (pc := 398) dX12_partAll_398 (by decide) ?_
            refine V_lv (lv2 := [(0, .ref (G.2.1 0)), (1, .int v1), (2, .int v2), (3, .int v3), (4, .int v4), (5, .int v5), (6, .int v6), (7, .int ((v7 - 1) &&& v6)), (8, .int 0), (9, .int (v7 ||| (1 <<< (v5 &&& 31)))), (10, .int (v4 &&& ((v7 ||| (1 <<< (v5 &&& 31))) ^^^ (-1)))), (11, .int 1)]) rfl ?_
            refine V_goto (tgt := 212) (pc := 400) dX12_partAll_400 rfl ?_
            exact V_sub h ⟨rfl, rfl, rfl, rfl, rfl, rfl, rfl, rfl, rfl, trivial⟩
          · have h := h.2 c
            refine V_iconst (v := 1) (pc := 384) dX12_partAll_384 rfl ?_
            refine V_goto (tgt := 389) (pc := 385) dX12_partAll_385 rfl ?_
            refine V_istore (pc := 389) dX12_partAll_389 (by decide) ?_
            refine V_lv (lv2 := [(0, .ref (G.2.1 0)), (1, .int v1), (2, .int v2), (3, .int v3), (4, .int v4), (5, .int v5), (6, .int v6), (7, .int v7), (8, .int 1), (9, .int (v7 ||| (1 <<< (v5 &&& 31)))), (10, .int (v4 &&& ((v7 ||| (1 <<< (v5 &&& 31))) ^^^ (-1)))), (11, .int 1)]) rfl ?_
            refine V_iload (pc := 391) dX12_partAll_391 rfl ?_
            refine V_iconst (v := 1) (pc := 393) dX12_partAll_393 rfl ?_
            refine V_isub (pc := 394) dX12_partAll_394 ?_
            refine V_iload (pc := 395) dX12_partAll_395 rfl ?_
            refine V_iand (pc := 397) dX12_partAll_397 ?_
            refine V_istore (pc := 398) dX12_partAll_398 (by decide) ?_
            refine V_lv (lv2 := [(0, .ref (G.2.1 0)), (1, .int v1), (2, .int v2), (3, .int v3), (4, .int v4), (5, .int v5), (6, .int v6), (7, .int ((v7 - 1) &&& v6)), (8, .int 1), (9, .int (v7 ||| (1 <<< (v5 &&& 31)))), (10, .int (v4 &&& ((v7 ||| (1 <<< (v5 &&& 31))) ^^^ (-1)))), (11, .int 1)]) rfl ?_
            refine V_goto (tgt := 212) (pc := 400) dX12_partAll_400 rfl ?_
            exact V_sub h ⟨rfl, rfl, rfl, rfl, rfl, rfl, rfl, rfl, rfl, trivial⟩
        · have h := h.2 c
          refine V_iload (pc := 266) dX12_partAll_266 rfl ?_
          refine V_if_ne (tgt := 379) (pc := 268) dX12_partAll_268 rfl (fun c => ?_) (fun c => ?_)
          · skip
            refine V_iload (pc := 379) dX12_partAll_379 rfl ?_
            refine V_if_eq (tgt := 388) (pc := 381) dX12_partAll_381 rfl (fun c => ?_) (fun c => ?_)
            · have h := h.1 c
              refine V_iconst (v := 0) (pc := 388) dX12_partAll_388 rfl ?_
              refine V_istore (pc := 389) dX12_partAll_389 (by decide) ?_
              refine V_lv (lv2 := [(0, .ref (G.2.1 0)), (1, .int v1), (2, .int v2), (3, .int v3), (4, .int v4), (5, .int v5), (6, .int v6), (7, .int v7), (8, .int 0), (9, .int (v7 ||| (1 <<< (v5 &&& 31)))), (10, .int (v4 &&& ((v7 ||| (1 <<< (v5 &&& 31))) ^^^ (-1)))), (11, .int 1)]) rfl ?_
              refine V_iload (pc := 391) dX12_partAll_391 rfl ?_
              refine V_iconst (v := 1) (pc := 393) dX12_partAll_393 rfl ?_
              refine V_isub (pc := 394) dX12_partAll_394 ?_
              refine V_iload (pc := 395) dX12_partAll_395 rfl ?_
              refine V_iand (pc := 397) dX12_partAll_397 ?_
              refine V_istore (pc := 398) dX12_partAll_398 (by decide) ?_
              refine V_lv (lv2 := [(0, .ref (G.2.1 0)), (1, .int v1), (2, .int v2), (3, .int v3), (4, .int v4), (5, .int v5), (6, .int v6), (7, .int ((v7 - 1) &&& v6)), (8, .int 0), (9, .int (v7 ||| (1 <<< (v5 &&& 31)))), (10, .int (v4 &&& ((v7 ||| (1 <<< (v5 &&& 31))) ^^^ (-1)))), (11, .int 1)]) rfl ?_
              refine V_goto (tgt := 212) (pc := 400) dX12_partAll_400 rfl ?_
              exact V_sub h ⟨rfl, rfl, rfl, rfl, rfl, rfl, rfl, rfl, rfl, trivial⟩
            · have h := h.2 c
              refine V_iconst (v := 1) (pc := 384) dX12_partAll_384 rfl ?_
              refine V_goto (tgt := 389) (pc := 385) dX12_partAll_385 rfl ?_
              refine V_istore (pc := 389) dX12_partAll_389 (by decide) ?_
              refine V_lv (lv2 := [(0, .ref (G.2.1 0)), (1, .int v1), (2, .int v2), (3, .int v3), (4, .int v4), (5, .int v5), (6, .int v6), (7, .int v7), (8, .int 1), (9, .int (v7 ||| (1 <<< (v5 &&& 31)))), (10, .int (v4 &&& ((v7 ||| (1 <<< (v5 &&& 31))) ^^^ (-1)))), (11, .int 1)]) rfl ?_
              refine V_iload (pc := 391) dX12_partAll_391 rfl ?_
              refine V_iconst (v := 1) (pc := 393) dX12_partAll_393 rfl ?_
              refine V_isub (pc := 394) dX12_partAll_394 ?_
              refine V_iload (pc := 395) dX12_partAll_395 rfl ?_
              refine V_iand (pc := 397) dX12_partAll_397 ?_
              refine V_istore (pc := 398) dX12_partAll_398 (by decide) ?_
              refine V_lv (lv2 := [(0, .ref (G.2.1 0)), (1, .int v1), (2, .int v2), (3, .int v3), (4, .int v4), (5, .int v5), (6, .int v6), (7, .int ((v7 - 1) &&& v6)), (8, .int 1), (9, .int (v7 ||| (1 <<< (v5 &&& 31)))), (10, .int (v4 &&& ((v7 ||| (1 <<< (v5 &&& 31))) ^^^ (-1)))), (11, .int 1)]) rfl ?_
              refine V_goto (tgt := 212) (pc := 400) dX12_partAll_400 rfl ?_
              exact V_sub h ⟨rfl, rfl, rfl, rfl, rfl, rfl, rfl, rfl, rfl, trivial⟩
          · exact absurd c (by decide)
theorem wp_X12_partAll_253 {G : GV} {k : Nat} {M : Mem} {q : Mem → Prop} {v1 : Int32} {v2 : Int32} {v3 : Int32} {v4 : Int32} {v5 : Int32} {v6 : Int32} {v7 : Int32} {v8 : Int32} {v9 : Int32} {v10 : Int32} (h : vp_in v9 4096 ∧ (((M.1 26 (ix v9)) = 0 → ((v7 = 0 → V shM G mX12_partAll (k + 4) 212 [(0, .ref (G.2.1 0)), (1, .int v1), (2, .int v2), (3, .int v3), (4, .int v4), (5, .int v5), (6, .int v6), (7, .int ((v7 - 1) &&& v6)), (8, .int 0)] [] M (Qv q)) ∧ (¬ v7 = 0 → V shM G mX12_partAll (k + 4) 212 [(0, .ref (G.2.1 0)), (1, .int v1), (2, .int v2), (3, .int v3), (4, .int v4), (5, .int v5), (6, .int v6), (7, .int ((v7 - 1) &&& v6)), (8, .int 1)] [] M (Qv q)))) ∧ (¬ (M.1 26 (ix v9)) = 0 → vp_in v10 4096 ∧ vp_in v4 4096 ∧ (((M.1 27 (ix v4)) ≤ ((M.1 27 (ix v10)) + 1) → vp_in v4 4096 ∧ ((((M.1 27 (ix v10)) + 1) ≠ (M.1 27 (ix v4)) → vp_in v4 4096 ∧ vp_in v4 4096 ∧ vp_in v4 4096 ∧ (((M.1 27 (ix v4)) ≤ ((M.1 27 (ix v10)) + 1) → vp_in v4 4096 ∧ vp_in v4 4096 ∧ ((v7 = 0 → V shM G mX12_partAll (k + 4) 212 [(0, .ref (G.2.1 0)), (1, .int v1), (2, .int v2), (3, .int v3), (4, .int v4), (5, .int v5), (6, .int v6), (7, .int ((v7 - 1) &&& v6)), (8, .int 0)] [] (mset (lset M 28 (ix v4) (M.2 28 (ix v4))) 27 (ix v4) (M.1 27 (ix v4))) (Qv q)) ∧ (¬ v7 = 0 → V shM G mX12_partAll (k + 4) 212 [(0, .ref (G.2.1 0)), (1, .int v1), (2, .int v2), (3, .int v3), (4, .int v4), (5, .int v5), (6, .int v6), (7, .int ((v7 - 1) &&& v6)), (8, .int 1)] [] (mset (lset M 28 (ix v4) (M.2 28 (ix v4))) 27 (ix v4) (M.1 27 (ix v4))) (Qv q)))) ∧ (¬ (M.1 27 (ix v4)) ≤ ((M.1 27 (ix v10)) + 1) → vp_in v4 4096 ∧ ((v7 = 0 → V shM G mX12_partAll (k + 4) 212 [(0, .ref (G.2.1 0)), (1, .int v1), (2, .int v2), (3, .int v3), (4, .int v4), (5, .int v5), (6, .int v6), (7, .int ((v7 - 1) &&& v6)), (8, .int 0)] [] (mset (lset M 28 (ix v4) (M.2 28 (ix v4))) 27 (ix v4) ((M.1 27 (ix v10)) + 1)) (Qv q)) ∧ (¬ v7 = 0 → V shM G mX12_partAll (k + 4) 212 [(0, .ref (G.2.1 0)), (1, .int v1), (2, .int v2), (3, .int v3), (4, .int v4), (5, .int v5), (6, .int v6), (7, .int ((v7 - 1) &&& v6)), (8, .int 1)] [] (mset (lset M 28 (ix v4) (M.2 28 (ix v4))) 27 (ix v4) ((M.1 27 (ix v10)) + 1)) (Qv q)))))) ∧ (((M.1 27 (ix v10)) + 1) = (M.1 27 (ix v4)) → vp_in v4 4096 ∧ vp_in v10 4096 ∧ vp_in v4 4096 ∧ vp_in v4 4096 ∧ (((M.1 27 (ix v4)) ≤ ((M.1 27 (ix v10)) + 1) → vp_in v4 4096 ∧ vp_in v4 4096 ∧ ((v7 = 0 → V shM G mX12_partAll (k + 4) 212 [(0, .ref (G.2.1 0)), (1, .int v1), (2, .int v2), (3, .int v3), (4, .int v4), (5, .int v5), (6, .int v6), (7, .int ((v7 - 1) &&& v6)), (8, .int 0)] [] (mset (lset M 28 (ix v4) ((M.2 28 (ix v4)) + (M.2 28 (ix v10)))) 27 (ix v4) (M.1 27 (ix v4))) (Qv q)) ∧ (¬ v7 = 0 → V shM G mX12_partAll (k + 4) 212 [(0, .ref (G.2.1 0)), (1, .int v1), (2, .int v2), (3, .int v3), (4, .int v4), (5, .int v5), (6, .int v6), (7, .int ((v7 - 1) &&& v6)), (8, .int 1)] [] (mset (lset M 28 (ix v4) ((M.2 28 (ix v4)) + (M.2 28 (ix v10)))) 27 (ix v4) (M.1 27 (ix v4))) (Qv q)))) ∧ (¬ (M.1 27 (ix v4)) ≤ ((M.1 27 (ix v10)) + 1) → vp_in v4 4096 ∧ ((v7 = 0 → V shM G mX12_partAll (k + 4) 212 [(0, .ref (G.2.1 0)), (1, .int v1), (2, .int v2), (3, .int v3), (4, .int v4), (5, .int v5), (6, .int v6), (7, .int ((v7 - 1) &&& v6)), (8, .int 0)] [] (mset (lset M 28 (ix v4) ((M.2 28 (ix v4)) + (M.2 28 (ix v10)))) 27 (ix v4) ((M.1 27 (ix v10)) + 1)) (Qv q)) ∧ (¬ v7 = 0 → V shM G mX12_partAll (k + 4) 212 [(0, .ref (G.2.1 0)), (1, .int v1), (2, .int v2), (3, .int v3), (4, .int v4), (5, .int v5), (6, .int v6), (7, .int ((v7 - 1) &&& v6)), (8, .int 1)] [] (mset (lset M 28 (ix v4) ((M.2 28 (ix v4)) + (M.2 28 (ix v10)))) 27 (ix v4) ((M.1 27 (ix v10)) + 1)) (Qv q)))))))) ∧ (¬ (M.1 27 (ix v4)) ≤ ((M.1 27 (ix v10)) + 1) → vp_in v10 4096 ∧ vp_in v4 4096 ∧ vp_in v4 4096 ∧ (((M.1 27 (ix v4)) ≤ ((M.1 27 (ix v10)) + 1) → vp_in v4 4096 ∧ vp_in v4 4096 ∧ ((v7 = 0 → V shM G mX12_partAll (k + 4) 212 [(0, .ref (G.2.1 0)), (1, .int v1), (2, .int v2), (3, .int v3), (4, .int v4), (5, .int v5), (6, .int v6), (7, .int ((v7 - 1) &&& v6)), (8, .int 0)] [] (mset (lset M 28 (ix v4) (M.2 28 (ix v10))) 27 (ix v4) (M.1 27 (ix v4))) (Qv q)) ∧ (¬ v7 = 0 → V shM G mX12_partAll (k + 4) 212 [(0, .ref (G.2.1 0)), (1, .int v1), (2, .int v2), (3, .int v3), (4, .int v4), (5, .int v5), (6, .int v6), (7, .int ((v7 - 1) &&& v6)), (8, .int 1)] [] (mset (lset M 28 (ix v4) (M.2 28 (ix v10))) 27 (ix v4) (M.1 27 (ix v4))) (Qv q)))) ∧ (¬ (M.1 27 (ix v4)) ≤ ((M.1 27 (ix v10)) + 1) → vp_in v4 4096 ∧ ((v7 = 0 → V shM G mX12_partAll (k + 4) 212 [(0, .ref (G.2.1 0)), (1, .int v1), (2, .int v2), (3, .int v3), (4, .int v4), (5, .int v5), (6, .int v6), (7, .int ((v7 - 1) &&& v6)), (8, .int 0)] [] (mset (lset M 28 (ix v4) (M.2 28 (ix v10))) 27 (ix v4) ((M.1 27 (ix v10)) + 1)) (Qv q)) ∧ (¬ v7 = 0 → V shM G mX12_partAll (k + 4) 212 [(0, .ref (G.2.1 0)), (1, .int v1), (2, .int v2), (3, .int v3), (4, .int v4), (5, .int v5), (6, .int v6), (7, .int ((v7 - 1) &&& v6)), (8, .int 1)] [] (mset (lset M 28 (ix v4) (M.2 28 (ix v10))) 27 (ix v4) ((M.1 27 (ix v10)) + 1)) (Qv q)))))))))) : V shM G mX12_partAll (k + 4) 253 [(0, .ref (G.2.1 0)), (1, .int v1), (2, .int v2), (3, .int v3), (4, .int v4), (5, .int v5), (6, .int v6), (7, .int v7), (8, .int v8), (9, .int v9), (10, .int v10)] [] M (Qv q) := by
  refine V_iconst (v := 0) (pc := 253) dX12_partAll_253 rfl ?_
  refine V_istore (pc := 254) dX12_partAll_254 (by decide) ?_
  refine V_lv (lv2 := [(0, .ref (G.2.1 0)), (1, .int v1), (2, .int v2), (3, .int v3), (4, .int v4), (5, .int v5), (6, .int v6), (7, .int v7), (8, .int v8), (9, .int v9), (10, .int v10), (11, .int 0)]) rfl ?_
  refine V_aload_n (pc := 256) dX12_partAll_256 rfl ?_
  refine V_getR (pc := 257) fX12_86 sM0 rfl dX12_partAll_257 ?_
  refine V_iload (pc := 260) dX12_partAll_260 rfl ?_
  refine V_zald (pc := 262) sM26 dX12_partAll_262 h.1 ?_
  have h := h.2
  refine V_if_eq (tgt := 379) (pc := 263) dX12_partAll_263 rfl (fun c => ?_) (fun c => ?_)
  · have h := h.1 c
    refine V_iload (pc := 379) dX12_partAll_379 rfl ?_
    refine V_if_eq (tgt := 388) (pc := 381) dX12_partAll_381 rfl (fun c => ?_) (fun c => ?_)
    · have h := h.1 c
      refine V_iconst (v := 0) (pc := 388) dX12_partAll_388 rfl ?_
      refine V_istore (pc := 389) dX12_partAll_389 (by decide) ?_
      refine V_lv (lv2 := [(0, .ref (G.2.1 0)), (1, .int v1), (2, .int v2), (3, .int v3), (4, .int v4), (5, .int v5), (6, .int v6), (7, .int v7), (8, .int 0), (9, .int v9), (10, .int v10), (11, .int 0)]) rfl ?_
      refine V_iload (pc := 391) dX12_partAll_391 rfl ?_
      refine V_iconst (v := 1) (pc := 393) dX12_partAll_393 rfl ?_
      refine V_isub (pc := 394) dX12_partAll_394 ?_
      refine V_iload (pc := 395) dX12_partAll_395 rfl ?_
      refine V_iand (pc := 397) dX12_partAll_397 ?_
      refine V_istore (pc := 398) dX12_partAll_398 (by decide) ?_
      refine V_lv (lv2 := [(0, .ref (G.2.1 0)), (1, .int v1), (2, .int v2), (3, .int v3), (4, .int v4), (5, .int v5), (6, .int v6), (7, .int ((v7 - 1) &&& v6)), (8, .int 0), (9, .int v9), (10, .int v10), (11, .int 0)]) rfl ?_
      refine V_goto (tgt := 212) (pc := 400) dX12_partAll_400 rfl ?_
      exact V_sub h ⟨rfl, rfl, rfl, rfl, rfl, rfl, rfl, rfl, rfl, trivial⟩
    · have h := h.2 c
      refine V_iconst (v := 1) (pc := 384) dX12_partAll_384 rfl ?_
      refine V_goto (tgt := 389) (pc := 385) dX12_partAll_385 rfl ?_
      refine V_istore (pc := 389) dX12_partAll_389 (by decide) ?_
      refine V_lv (lv2 := [(0, .ref (G.2.1 0)), (1, .int v1), (2, .int v2), (3, .int v3), (4, .int v4), (5, .int v5), (6, .int v6), (7, .int v7), (8, .int 1), (9, .int v9), (10, .int v10), (11, .int 0)]) rfl ?_
      refine V_iload (pc := 391) dX12_partAll_391 rfl ?_
      refine V_iconst (v := 1) (pc := 393) dX12_partAll_393 rfl ?_
      refine V_isub (pc := 394) dX12_partAll_394 ?_
      refine V_iload (pc := 395) dX12_partAll_395 rfl ?_
      refine V_iand (pc := 397) dX12_partAll_397 ?_
      refine V_istore (pc := 398) dX12_partAll_398 (by decide) ?_
      refine V_lv (lv2 := [(0, .ref (G.2.1 0)), (1, .int v1), (2, .int v2), (3, .int v3), (4, .int v4), (5, .int v5), (6, .int v6), (7, .int ((v7 - 1) &&& v6)), (8, .int 1), (9, .int v9), (10, .int v10), (11, .int 0)]) rfl ?_
      refine V_goto (tgt := 212) (pc := 400) dX12_partAll_400 rfl ?_
      exact V_sub h ⟨rfl, rfl, rfl, rfl, rfl, rfl, rfl, rfl, rfl, trivial⟩
  · have h := h.2 c
    refine V_iload (pc := 266) dX12_partAll_266 rfl ?_
    refine V_if_ne (tgt := 379) (pc := 268) dX12_partAll_268 rfl (fun c => ?_) (fun c => ?_)
    · exact absurd c (by decide)
    · skip
      refine V_aload_n (pc := 271) dX12_partAll_271 rfl ?_
      refine V_getR (pc := 272) fX12_89 sM0 rfl dX12_partAll_272 ?_
      refine V_iload (pc := 275) dX12_partAll_275 rfl ?_
      refine V_iald (pc := 277) sM27 dX12_partAll_277 h.1 ?_
      have h := h.2
      refine V_iconst (v := 1) (pc := 278) dX12_partAll_278 rfl ?_
      refine V_iadd (pc := 279) dX12_partAll_279 ?_
      refine V_istore (pc := 280) dX12_partAll_280 (by decide) ?_
      refine V_lv (lv2 := [(0, .ref (G.2.1 0)), (1, .int v1), (2, .int v2), (3, .int v3), (4, .int v4), (5, .int v5), (6, .int v6), (7, .int v7), (8, .int v8), (9, .int v9), (10, .int v10), (11, .int 0), (12, .int ((M.1 27 (ix v10)) + 1))]) rfl ?_
      refine V_aload_n (pc := 282) dX12_partAll_282 rfl ?_
      refine V_getR (pc := 283) fX12_92 sM0 rfl dX12_partAll_283 ?_
      refine V_iload (pc := 286) dX12_partAll_286 rfl ?_
      refine V_iload (pc := 288) dX12_partAll_288 rfl ?_
      refine V_aload_n (pc := 290) dX12_partAll_290 rfl ?_
      refine V_getR (pc := 291) fX12_89 sM0 rfl dX12_partAll_291 ?_
      refine V_iload (pc := 294) dX12_partAll_294 rfl ?_
      refine V_iald (pc := 296) sM27 dX12_partAll_296 h.1 ?_
      have h := h.2
      refine V_icmp_ge (tgt := 310) (pc := 297) dX12_partAll_297 rfl (fun c => ?_) (fun c => ?_)
      · have h := h.1 c
        refine V_iload (pc := 310) dX12_partAll_310 rfl ?_
        refine V_aload_n (pc := 312) dX12_partAll_312 rfl ?_
        refine V_getR (pc := 313) fX12_89 sM0 rfl dX12_partAll_313 ?_
        refine V_iload (pc := 316) dX12_partAll_316 rfl ?_
        refine V_iald (pc := 318) sM27 dX12_partAll_318 h.1 ?_
        have h := h.2
        refine V_icmp_ne (tgt := 340) (pc := 319) dX12_partAll_319 rfl (fun c => ?_) (fun c => ?_)
        · have h := h.1 c
          refine V_aload_n (pc := 340) dX12_partAll_340 rfl ?_
          refine V_getR (pc := 341) fX12_92 sM0 rfl dX12_partAll_341 ?_
          refine V_iload (pc := 344) dX12_partAll_344 rfl ?_
          refine V_lald (pc := 346) sM28 dX12_partAll_346 h.1 ?_
          have h := h.2
          refine V_last (pc := 347) sM28 dX12_partAll_347 h.1 ?_
          have h := h.2
          refine V_aload_n (pc := 348) dX12_partAll_348 rfl ?_
          refine V_getR (pc := 349) fX12_89 sM0 rfl dX12_partAll_349 ?_
          refine V_iload (pc := 352) dX12_partAll_352 rfl ?_
          refine V_iload (pc := 354) dX12_partAll_354 rfl ?_
          refine V_aload_n (pc := 356) dX12_partAll_356 rfl ?_
          refine V_getR (pc := 357) fX12_89 sM0 rfl dX12_partAll_357 ?_
          refine V_iload (pc := 360) dX12_partAll_360 rfl ?_
          refine V_iald (pc := 362) sM27 dX12_partAll_362 h.1 ?_
          have h := h.2
          refine V_top (v := (M.1 27 (ix v4))) (by simp [mset, lset]) ?_
          refine V_icmp_ge (tgt := 371) (pc := 363) dX12_partAll_363 rfl (fun c => ?_) (fun c => ?_)
          · have h := h.1 c
            refine V_aload_n (pc := 371) dX12_partAll_371 rfl ?_
            refine V_getR (pc := 372) fX12_89 sM0 rfl dX12_partAll_372 ?_
            refine V_iload (pc := 375) dX12_partAll_375 rfl ?_
            refine V_iald (pc := 377) sM27 dX12_partAll_377 h.1 ?_
            have h := h.2
            refine V_top (v := (M.1 27 (ix v4))) (by simp [mset, lset]) ?_
            refine V_iast (pc := 378) sM27 dX12_partAll_378 h.1 ?_
            have h := h.2
            refine V_iload (pc := 379) dX12_partAll_379 rfl ?_
            refine V_if_eq (tgt := 388) (pc := 381) dX12_partAll_381 rfl (fun c => ?_) (fun c => ?_)
            · have h := h.1 c
              refine V_iconst (v := 0) (pc := 388) dX12_partAll_388 rfl ?_
              refine V_istore (pc := 389) dX12_partAll_389 (by decide) ?_
              refine V_lv (lv2 := [(0, .ref (G.2.1 0)), (1, .int v1), (2, .int v2), (3, .int v3), (4, .int v4), (5, .int v5), (6, .int v6), (7, .int v7), (8, .int 0), (9, .int v9), (10, .int v10), (11, .int 0), (12, .int ((M.1 27 (ix v10)) + 1))]) rfl ?_
              refine V_iload (pc := 391) dX12_partAll_391 rfl ?_
              refine V_iconst (v := 1) (pc := 393) dX12_partAll_393 rfl ?_
              refine V_isub (pc := 394) dX12_partAll_394 ?_
              refine V_iload (pc := 395) dX12_partAll_395 rfl ?_
              refine V_iand (pc := 397) dX12_partAll_397 ?_
              refine V_istore (pc := 398) dX12_partAll_398 (by decide) ?_
              refine V_lv (lv2 := [(0, .ref (G.2.1 0)), (1, .int v1), (2, .int v2), (3, .int v3), (4, .int v4), (5, .int v5), (6, .int v6), (7, .int ((v7 - 1) &&& v6)), (8, .int 0), (9, .int v9), (10, .int v10), (11, .int 0), (12, .int ((M.1 27 (ix v10)) + 1))]) rfl ?_
              refine V_goto (tgt := 212) (pc := 400) dX12_partAll_400 rfl ?_
              exact V_sub h ⟨rfl, rfl, rfl, rfl, rfl, rfl, rfl, rfl, rfl, trivial⟩
            · have h := h.2 c
              refine V_iconst (v := 1) (pc := 384) dX12_partAll_384 rfl ?_
              refine V_goto (tgt := 389) (pc := 385) dX12_partAll_385 rfl ?_
              refine V_istore (pc := 389) dX12_partAll_389 (by decide) ?_
              refine V_lv (lv2 := [(0, .ref (G.2.1 0)), (1, .int v1), (2, .int v2), (3, .int v3), (4, .int v4), (5, .int v5), (6, .int v6), (7, .int v7), (8, .int 1), (9, .int v9), (10, .int v10), (11, .int 0), (12, .int ((M.1 27 (ix v10)) + 1))]) rfl ?_
              refine V_iload (pc := 391) dX12_partAll_391 rfl ?_
              refine V_iconst (v := 1) (pc := 393) dX12_partAll_393 rfl ?_
              refine V_isub (pc := 394) dX12_partAll_394 ?_
              refine V_iload (pc := 395) dX12_partAll_395 rfl ?_
              refine V_iand (pc := 397) dX12_partAll_397 ?_
              refine V_istore (pc := 398) dX12_partAll_398 (by decide) ?_
              refine V_lv (lv2 := [(0, .ref (G.2.1 0)), (1, .int v1), (2, .int v2), (3, .int v3), (4, .int v4), (5, .int v5), (6, .int v6), (7, .int ((v7 - 1) &&& v6)), (8, .int 1), (9, .int v9), (10, .int v10), (11, .int 0), (12, .int ((M.1 27 (ix v10)) + 1))]) rfl ?_
              refine V_goto (tgt := 212) (pc := 400) dX12_partAll_400 rfl ?_
              exact V_sub h ⟨rfl, rfl, rfl, rfl, rfl, rfl, rfl, rfl, rfl, trivial⟩
          · have h := h.2 c
            refine V_iload (pc := 366) dX12_partAll_366 rfl ?_
            refine V_goto (tgt := 378) (pc := 368) dX12_partAll_368 rfl ?_
            refine V_iast (pc := 378) sM27 dX12_partAll_378 h.1 ?_
            have h := h.2
            refine V_iload (pc := 379) dX12_partAll_379 rfl ?_
            refine V_if_eq (tgt := 388) (pc := 381) dX12_partAll_381 rfl (fun c => ?_) (fun c => ?_)
            · have h := h.1 c
              refine V_iconst (v := 0) (pc := 388) dX12_partAll_388 rfl ?_
              refine V_istore (pc := 389) dX12_partAll_389 (by decide) ?_
              refine V_lv (lv2 := [(0, .ref (G.2.1 0)), (1, .int v1), (2, .int v2), (3, .int v3), (4, .int v4), (5, .int v5), (6, .int v6), (7, .int v7), (8, .int 0), (9, .int v9), (10, .int v10), (11, .int 0), (12, .int ((M.1 27 (ix v10)) + 1))]) rfl ?_
              refine V_iload (pc := 391) dX12_partAll_391 rfl ?_
              refine V_iconst (v := 1) (pc := 393) dX12_partAll_393 rfl ?_
              refine V_isub (pc := 394) dX12_partAll_394 ?_
              refine V_iload (pc := 395) dX12_partAll_395 rfl ?_
              refine V_iand (pc := 397) dX12_partAll_397 ?_
              refine V_istore (pc := 398) dX12_partAll_398 (by decide) ?_
              refine V_lv (lv2 := [(0, .ref (G.2.1 0)), (1, .int v1), (2, .int v2), (3, .int v3), (4, .int v4), (5, .int v5), (6, .int v6), (7, .int ((v7 - 1) &&& v6)), (8, .int 0), (9, .int v9), (10, .int v10), (11, .int 0), (12, .int ((M.1 27 (ix v10)) + 1))]) rfl ?_
              refine V_goto (tgt := 212) (pc := 400) dX12_partAll_400 rfl ?_
              exact V_sub h ⟨rfl, rfl, rfl, rfl, rfl, rfl, rfl, rfl, rfl, trivial⟩
            · have h := h.2 c
              refine V_iconst (v := 1) (pc := 384) dX12_partAll_384 rfl ?_
              refine V_goto (tgt := 389) (pc := 385) dX12_partAll_385 rfl ?_
              refine V_istore (pc := 389) dX12_partAll_389 (by decide) ?_
              refine V_lv (lv2 := [(0, .ref (G.2.1 0)), (1, .int v1), (2, .int v2), (3, .int v3), (4, .int v4), (5, .int v5), (6, .int v6), (7, .int v7), (8, .int 1), (9, .int v9), (10, .int v10), (11, .int 0), (12, .int ((M.1 27 (ix v10)) + 1))]) rfl ?_
              refine V_iload (pc := 391) dX12_partAll_391 rfl ?_
              refine V_iconst (v := 1) (pc := 393) dX12_partAll_393 rfl ?_
              refine V_isub (pc := 394) dX12_partAll_394 ?_
              refine V_iload (pc := 395) dX12_partAll_395 rfl ?_
              refine V_iand (pc := 397) dX12_partAll_397 ?_
              refine V_istore (pc := 398) dX12_partAll_398 (by decide) ?_
              refine V_lv (lv2 := [(0, .ref (G.2.1 0)), (1, .int v1), (2, .int v2), (3, .int v3), (4, .int v4), (5, .int v5), (6, .int v6), (7, .int ((v7 - 1) &&& v6)), (8, .int 1), (9, .int v9), (10, .int v10), (11, .int 0), (12, .int ((M.1 27 (ix v10)) + 1))]) rfl ?_
              refine V_goto (tgt := 212) (pc := 400) dX12_partAll_400 rfl ?_
              exact V_sub h ⟨rfl, rfl, rfl, rfl, rfl, rfl, rfl, rfl, rfl, trivial⟩
        · have h := h.2 c
          refine V_aload_n (pc := 322) dX12_partAll_322 rfl ?_
          refine V_getR (pc := 323) fX12_92 sM0 rfl dX12_partAll_323 ?_
          refine V_iload (pc := 326) dX12_partAll_326 rfl ?_
          refine V_lald (pc := 328) sM28 dX12_partAll_328 h.1 ?_
          have h := h.2
          refine V_aload_n (pc := 329) dX12_partAll_329 rfl ?_
          refine V_getR (pc := 330) fX12_92 sM0 rfl dX12_partAll_330 ?_
          refine V_iload (pc := 333) dX12_partAll_333 rfl ?_
          refine V_lald (pc := 335) sM28 dX12_partAll_335 h.1 ?_
          have h := h.2
          refine V_ladd (pc := 336) dX12_partAll_336 ?_
          refine V_goto (tgt := 347) (pc := 337) dX12_partAll_337 rfl ?_
          refine V_last (pc := 347) sM28 dX12_partAll_347 h.1 ?_
          have h := h.2
          refine V_aload_n (pc := 348) dX12_partAll_348 rfl ?_
          refine V_getR (pc := 349) fX12_89 sM0 rfl dX12_partAll_349 ?_
          refine V_iload (pc := 352) dX12_partAll_352 rfl ?_
          refine V_iload (pc := 354) dX12_partAll_354 rfl ?_
          refine V_aload_n (pc := 356) dX12_partAll_356 rfl ?_
          refine V_getR (pc := 357) fX12_89 sM0 rfl dX12_partAll_357 ?_
          refine V_iload (pc := 360) dX12_partAll_360 rfl ?_
          refine V_iald (pc := 362) sM27 dX12_partAll_362 h.1 ?_
          have h := h.2
          refine V_top (v := (M.1 27 (ix v4))) (by simp [mset, lset]) ?_
          refine V_icmp_ge (tgt := 371) (pc := 363) dX12_partAll_363 rfl (fun c => ?_) (fun c => ?_)
          · have h := h.1 c
            refine V_aload_n (pc := 371) dX12_partAll_371 rfl ?_
            refine V_getR (pc := 372) fX12_89 sM0 rfl dX12_partAll_372 ?_
            refine V_iload (pc := 375) dX12_partAll_375 rfl ?_
            refine V_iald (pc := 377) sM27 dX12_partAll_377 h.1 ?_
            have h := h.2
            refine V_top (v := (M.1 27 (ix v4))) (by simp [mset, lset]) ?_
            refine V_iast (pc := 378) sM27 dX12_partAll_378 h.1 ?_
            have h := h.2
            refine V_iload (pc := 379) dX12_partAll_379 rfl ?_
            refine V_if_eq (tgt := 388) (pc := 381) dX12_partAll_381 rfl (fun c => ?_) (fun c => ?_)
            · have h := h.1 c
              refine V_iconst (v := 0) (pc := 388) dX12_partAll_388 rfl ?_
              refine V_istore (pc := 389) dX12_partAll_389 (by decide) ?_
              refine V_lv (lv2 := [(0, .ref (G.2.1 0)), (1, .int v1), (2, .int v2), (3, .int v3), (4, .int v4), (5, .int v5), (6, .int v6), (7, .int v7), (8, .int 0), (9, .int v9), (10, .int v10), (11, .int 0), (12, .int ((M.1 27 (ix v10)) + 1))]) rfl ?_
              refine V_iload (pc := 391) dX12_partAll_391 rfl ?_
              refine V_iconst (v := 1) (pc := 393) dX12_partAll_393 rfl ?_
              refine V_isub (pc := 394) dX12_partAll_394 ?_
              refine V_iload (pc := 395) dX12_partAll_395 rfl ?_
              refine V_iand (pc := 397) dX12_partAll_397 ?_
              refine V_istore (pc := 398) dX12_partAll_398 (by decide) ?_
              refine V_lv (lv2 := [(0, .ref (G.2.1 0)), (1, .int v1), (2, .int v2), (3, .int v3), (4, .int v4), (5, .int v5), (6, .int v6), (7, .int ((v7 - 1) &&& v6)), (8, .int 0), (9, .int v9), (10, .int v10), (11, .int 0), (12, .int ((M.1 27 (ix v10)) + 1))]) rfl ?_
              refine V_goto (tgt := 212) (pc := 400) dX12_partAll_400 rfl ?_
              exact V_sub h ⟨rfl, rfl, rfl, rfl, rfl, rfl, rfl, rfl, rfl, trivial⟩
            · have h := h.2 c
              refine V_iconst (v := 1) (pc := 384) dX12_partAll_384 rfl ?_
              refine V_goto (tgt := 389) (pc := 385) dX12_partAll_385 rfl ?_
              refine V_istore (pc := 389) dX12_partAll_389 (by decide) ?_
              refine V_lv (lv2 := [(0, .ref (G.2.1 0)), (1, .int v1), (2, .int v2), (3, .int v3), (4, .int v4), (5, .int v5), (6, .int v6), (7, .int v7), (8, .int 1), (9, .int v9), (10, .int v10), (11, .int 0), (12, .int ((M.1 27 (ix v10)) + 1))]) rfl ?_
              refine V_iload (pc := 391) dX12_partAll_391 rfl ?_
              refine V_iconst (v := 1) (pc := 393) dX12_partAll_393 rfl ?_
              refine V_isub (pc := 394) dX12_partAll_394 ?_
              refine V_iload (pc := 395) dX12_partAll_395 rfl ?_
              refine V_iand (pc := 397) dX12_partAll_397 ?_
              refine V_istore (pc := 398) dX12_partAll_398 (by decide) ?_
              refine V_lv (lv2 := [(0, .ref (G.2.1 0)), (1, .int v1), (2, .int v2), (3, .int v3), (4, .int v4), (5, .int v5), (6, .int v6), (7, .int ((v7 - 1) &&& v6)), (8, .int 1), (9, .int v9), (10, .int v10), (11, .int 0), (12, .int ((M.1 27 (ix v10)) + 1))]) rfl ?_
              refine V_goto (tgt := 212) (pc := 400) dX12_partAll_400 rfl ?_
              exact V_sub h ⟨rfl, rfl, rfl, rfl, rfl, rfl, rfl, rfl, rfl, trivial⟩
          · have h := h.2 c
            refine V_iload (pc := 366) dX12_partAll_366 rfl ?_
            refine V_goto (tgt := 378) (pc := 368) dX12_partAll_368 rfl ?_
            refine V_iast (pc := 378) sM27 dX12_partAll_378 h.1 ?_
            have h := h.2
            refine V_iload (pc := 379) dX12_partAll_379 rfl ?_
            refine V_if_eq (tgt := 388) (pc := 381) dX12_partAll_381 rfl (fun c => ?_) (fun c => ?_)
            · have h := h.1 c
              refine V_iconst (v := 0) (pc := 388) dX12_partAll_388 rfl ?_
              refine V_istore (pc := 389) dX12_partAll_389 (by decide) ?_
              refine V_lv (lv2 := [(0, .ref (G.2.1 0)), (1, .int v1), (2, .int v2), (3, .int v3), (4, .int v4), (5, .int v5), (6, .int v6), (7, .int v7), (8, .int 0), (9, .int v9), (10, .int v10), (11, .int 0), (12, .int ((M.1 27 (ix v10)) + 1))]) rfl ?_
              refine V_iload (pc := 391) dX12_partAll_391 rfl ?_
              refine V_iconst (v := 1) (pc := 393) dX12_partAll_393 rfl ?_
              refine V_isub (pc := 394) dX12_partAll_394 ?_
              refine V_iload (pc := 395) dX12_partAll_395 rfl ?_
              refine V_iand (pc := 397) dX12_partAll_397 ?_
              refine V_istore (pc := 398) dX12_partAll_398 (by decide) ?_
              refine V_lv (lv2 := [(0, .ref (G.2.1 0)), (1, .int v1), (2, .int v2), (3, .int v3), (4, .int v4), (5, .int v5), (6, .int v6), (7, .int ((v7 - 1) &&& v6)), (8, .int 0), (9, .int v9), (10, .int v10), (11, .int 0), (12, .int ((M.1 27 (ix v10)) + 1))]) rfl ?_
              refine V_goto (tgt := 212) (pc := 400) dX12_partAll_400 rfl ?_
              exact V_sub h ⟨rfl, rfl, rfl, rfl, rfl, rfl, rfl, rfl, rfl, trivial⟩
            · have h := h.2 c
              refine V_iconst (v := 1) (pc := 384) dX12_partAll_384 rfl ?_
              refine V_goto (tgt := 389) (pc := 385) dX12_partAll_385 rfl ?_
              refine V_istore (pc := 389) dX12_partAll_389 (by decide) ?_
              refine V_lv (lv2 := [(0, .ref (G.2.1 0)), (1, .int v1), (2, .int v2), (3, .int v3), (4, .int v4), (5, .int v5), (6, .int v6), (7, .int v7), (8, .int 1), (9, .int v9), (10, .int v10), (11, .int 0), (12, .int ((M.1 27 (ix v10)) + 1))]) rfl ?_
              refine V_iload (pc := 391) dX12_partAll_391 rfl ?_
              refine V_iconst (v := 1) (pc := 393) dX12_partAll_393 rfl ?_
              refine V_isub (pc := 394) dX12_partAll_394 ?_
              refine V_iload (pc := 395) dX12_partAll_395 rfl ?_
              refine V_iand (pc := 397) dX12_partAll_397 ?_
              refine V_istore (pc := 398) dX12_partAll_398 (by decide) ?_
              refine V_lv (lv2 := [(0, .ref (G.2.1 0)), (1, .int v1), (2, .int v2), (3, .int v3), (4, .int v4), (5, .int v5), (6, .int v6), (7, .int ((v7 - 1) &&& v6)), (8, .int 1), (9, .int v9), (10, .int v10), (11, .int 0), (12, .int ((M.1 27 (ix v10)) + 1))]) rfl ?_
              refine V_goto (tgt := 212) (pc := 400) dX12_partAll_400 rfl ?_
              exact V_sub h ⟨rfl, rfl, rfl, rfl, rfl, rfl, rfl, rfl, rfl, trivial⟩
      · have h := h.2 c
        refine V_aload_n (pc := 300) dX12_partAll_300 rfl ?_
        refine V_getR (pc := 301) fX12_92 sM0 rfl dX12_partAll_301 ?_
        refine V_iload (pc := 304) dX12_partAll_304 rfl ?_
        refine V_lald (pc := 306) sM28 dX12_partAll_306 h.1 ?_
        have h := h.2
        refine V_goto (tgt := 347) (pc := 307) dX12_partAll_307 rfl ?_
        refine V_last (pc := 347) sM28 dX12_partAll_347 h.1 ?_
        have h := h.2
        refine V_aload_n (pc := 348) dX12_partAll_348 rfl ?_
        refine V_getR (pc := 349) fX12_89 sM0 rfl dX12_partAll_349 ?_
        refine V_iload (pc := 352) dX12_partAll_352 rfl ?_
        refine V_iload (pc := 354) dX12_partAll_354 rfl ?_
        refine V_aload_n (pc := 356) dX12_partAll_356 rfl ?_
        refine V_getR (pc := 357) fX12_89 sM0 rfl dX12_partAll_357 ?_
        refine V_iload (pc := 360) dX12_partAll_360 rfl ?_
        refine V_iald (pc := 362) sM27 dX12_partAll_362 h.1 ?_
        have h := h.2
        refine V_top (v := (M.1 27 (ix v4))) (by simp [mset, lset]) ?_
        refine V_icmp_ge (tgt := 371) (pc := 363) dX12_partAll_363 rfl (fun c => ?_) (fun c => ?_)
        · have h := h.1 c
          refine V_aload_n (pc := 371) dX12_partAll_371 rfl ?_
          refine V_getR (pc := 372) fX12_89 sM0 rfl dX12_partAll_372 ?_
          refine V_iload (pc := 375) dX12_partAll_375 rfl ?_
          refine V_iald (pc := 377) sM27 dX12_partAll_377 h.1 ?_
          have h := h.2
          refine V_top (v := (M.1 27 (ix v4))) (by simp [mset, lset]) ?_
          refine V_iast (pc := 378) sM27 dX12_partAll_378 h.1 ?_
          have h := h.2
          refine V_iload (pc := 379) dX12_partAll_379 rfl ?_
          refine V_if_eq (tgt := 388) (pc := 381) dX12_partAll_381 rfl (fun c => ?_) (fun c => ?_)
          · have h := h.1 c
            refine V_iconst (v := 0) (pc := 388) dX12_partAll_388 rfl ?_
            refine V_istore (pc := 389) dX12_partAll_389 (by decide) ?_
            refine V_lv (lv2 := [(0, .ref (G.2.1 0)), (1, .int v1), (2, .int v2), (3, .int v3), (4, .int v4), (5, .int v5), (6, .int v6), (7, .int v7), (8, .int 0), (9, .int v9), (10, .int v10), (11, .int 0), (12, .int ((M.1 27 (ix v10)) + 1))]) rfl ?_
            refine V_iload (pc := 391) dX12_partAll_391 rfl ?_
            refine V_iconst (v := 1) (pc := 393) dX12_partAll_393 rfl ?_
            refine V_isub (pc := 394) dX12_partAll_394 ?_
            refine V_iload (pc := 395) dX12_partAll_395 rfl ?_
            refine V_iand (pc := 397) dX12_partAll_397 ?_
            refine V_istore (pc := 398) dX12_partAll_398 (by decide) ?_
            refine V_lv (lv2 := [(0, .ref (G.2.1 0)), (1, .int v1), (2, .int v2), (3, .int v3), (4, .int v4), (5, .int v5), (6, .int v6), (7, .int ((v7 - 1) &&& v6)), (8, .int 0), (9, .int v9), (10, .int v10), (11, .int 0), (12, .int ((M.1 27 (ix v10)) + 1))]) rfl ?_
            refine V_goto (tgt := 212) (pc := 400) dX12_partAll_400 rfl ?_
            exact V_sub h ⟨rfl, rfl, rfl, rfl, rfl, rfl, rfl, rfl, rfl, trivial⟩
          · have h := h.2 c
            refine V_iconst (v := 1) (pc := 384) dX12_partAll_384 rfl ?_
            refine V_goto (tgt := 389) (pc := 385) dX12_partAll_385 rfl ?_
            refine V_istore (pc := 389) dX12_partAll_389 (by decide) ?_
            refine V_lv (lv2 := [(0, .ref (G.2.1 0)), (1, .int v1), (2, .int v2), (3, .int v3), (4, .int v4), (5, .int v5), (6, .int v6), (7, .int v7), (8, .int 1), (9, .int v9), (10, .int v10), (11, .int 0), (12, .int ((M.1 27 (ix v10)) + 1))]) rfl ?_
            refine V_iload (pc := 391) dX12_partAll_391 rfl ?_
            refine V_iconst (v := 1) (pc := 393) dX12_partAll_393 rfl ?_
            refine V_isub (pc := 394) dX12_partAll_394 ?_
            refine V_iload (pc := 395) dX12_partAll_395 rfl ?_
            refine V_iand (pc := 397) dX12_partAll_397 ?_
            refine V_istore (pc := 398) dX12_partAll_398 (by decide) ?_
            refine V_lv (lv2 := [(0, .ref (G.2.1 0)), (1, .int v1), (2, .int v2), (3, .int v3), (4, .int v4), (5, .int v5), (6, .int v6), (7, .int ((v7 - 1) &&& v6)), (8, .int 1), (9, .int v9), (10, .int v10), (11, .int 0), (12, .int ((M.1 27 (ix v10)) + 1))]) rfl ?_
            refine V_goto (tgt := 212) (pc := 400) dX12_partAll_400 rfl ?_
            exact V_sub h ⟨rfl, rfl, rfl, rfl, rfl, rfl, rfl, rfl, rfl, trivial⟩
        · have h := h.2 c
          refine V_iload (pc := 366) dX12_partAll_366 rfl ?_
          refine V_goto (tgt := 378) (pc := 368) dX12_partAll_368 rfl ?_
          refine V_iast (pc := 378) sM27 dX12_partAll_378 h.1 ?_
          have h := h.2
          refine V_iload (pc := 379) dX12_partAll_379 rfl ?_
          refine V_if_eq (tgt := 388) (pc := 381) dX12_partAll_381 rfl (fun c => ?_) (fun c => ?_)
          · have h := h.1 c
            refine V_iconst (v := 0) (pc := 388) dX12_partAll_388 rfl ?_
            refine V_istore (pc := 389) dX12_partAll_389 (by decide) ?_
            refine V_lv (lv2 := [(0, .ref (G.2.1 0)), (1, .int v1), (2, .int v2), (3, .int v3), (4, .int v4), (5, .int v5), (6, .int v6), (7, .int v7), (8, .int 0), (9, .int v9), (10, .int v10), (11, .int 0), (12, .int ((M.1 27 (ix v10)) + 1))]) rfl ?_
            refine V_iload (pc := 391) dX12_partAll_391 rfl ?_
            refine V_iconst (v := 1) (pc := 393) dX12_partAll_393 rfl ?_
            refine V_isub (pc := 394) dX12_partAll_394 ?_
            refine V_iload (pc := 395) dX12_partAll_395 rfl ?_
            refine V_iand (pc := 397) dX12_partAll_397 ?_
            refine V_istore (pc := 398) dX12_partAll_398 (by decide) ?_
            refine V_lv (lv2 := [(0, .ref (G.2.1 0)), (1, .int v1), (2, .int v2), (3, .int v3), (4, .int v4), (5, .int v5), (6, .int v6), (7, .int ((v7 - 1) &&& v6)), (8, .int 0), (9, .int v9), (10, .int v10), (11, .int 0), (12, .int ((M.1 27 (ix v10)) + 1))]) rfl ?_
            refine V_goto (tgt := 212) (pc := 400) dX12_partAll_400 rfl ?_
            exact V_sub h ⟨rfl, rfl, rfl, rfl, rfl, rfl, rfl, rfl, rfl, trivial⟩
          · have h := h.2 c
            refine V_iconst (v := 1) (pc := 384) dX12_partAll_384 rfl ?_
            refine V_goto (tgt := 389) (pc := 385) dX12_partAll_385 rfl ?_
            refine V_istore (pc := 389) dX12_partAll_389 (by decide) ?_
            refine V_lv (lv2 := [(0, .ref (G.2.1 0)), (1, .int v1), (2, .int v2), (3, .int v3), (4, .int v4), (5, .int v5), (6, .int v6), (7, .int v7), (8, .int 1), (9, .int v9), (10, .int v10), (11, .int 0), (12, .int ((M.1 27 (ix v10)) + 1))]) rfl ?_
            refine V_iload (pc := 391) dX12_partAll_391 rfl ?_
            refine V_iconst (v := 1) (pc := 393) dX12_partAll_393 rfl ?_
            refine V_isub (pc := 394) dX12_partAll_394 ?_
            refine V_iload (pc := 395) dX12_partAll_395 rfl ?_
            refine V_iand (pc := 397) dX12_partAll_397 ?_
            refine V_istore (pc := 398) dX12_partAll_398 (by decide) ?_
            refine V_lv (lv2 := [(0, .ref (G.2.1 0)), (1, .int v1), (2, .int v2), (3, .int v3), (4, .int v4), (5, .int v5), (6, .int v6), (7, .int ((v7 - 1) &&& v6)), (8, .int 1), (9, .int v9), (10, .int v10), (11, .int 0), (12, .int ((M.1 27 (ix v10)) + 1))]) rfl ?_
            refine V_goto (tgt := 212) (pc := 400) dX12_partAll_400 rfl ?_
            exact V_sub h ⟨rfl, rfl, rfl, rfl, rfl, rfl, rfl, rfl, rfl, trivial⟩
