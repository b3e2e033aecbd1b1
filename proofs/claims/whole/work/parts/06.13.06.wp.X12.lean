theorem wp_X12_match {G : GV} {k : Nat} {M : Mem} {q : Mem → Prop} {v1 : Int32} {v2 : Int32} {v3 : Int32} (h : Ci shM G mX12_sorted (k + 2) [.ref (G.2.1 0), .int v1, .int v2, .ref (G.2.1 29)] M (fun x1 M1 => Ci shM G mX12_sorted (k + 2) [.ref (G.2.1 0), .int v1, .int v3, .ref (G.2.1 30)] (mset M1 0 47 x1) (fun x2 M2 => V shM G mX12_match (k + 3) 31 [(0, .ref (G.2.1 0)), (1, .int v1), (2, .int v2), (3, .int v3), (4, .int 0)] [] (mset M2 0 48 x2) (Qv q)))) : Cv shM G mX12_match (k + 3) [.ref (G.2.1 0), .int v1, .int v2, .int v3] M q := by
  unfold Cv
  show V _ _ _ _ _ [(0, .ref (G.2.1 0)), (1, .int v1), (2, .int v2), (3, .int v3)] _ _ _
  refine V_aload_n (pc := 0) dX12_match_0 rfl ?_
  refine V_aload_n (pc := 1) dX12_match_1 rfl ?_
  refine V_iload_n (pc := 2) dX12_match_2 rfl ?_
  refine V_iload_n (pc := 3) dX12_match_3 rfl ?_
  refine V_aload_n (pc := 4) dX12_match_4 rfl ?_
  refine V_getR (pc := 5) fX12_96 sM0 rfl dX12_match_5 ?_
  refine V_callVi [.int v1, .int v2, .ref (G.2.1 29)] (pc := 8) kX12_sorted lX12_320 sM0 rfl rfl (Nat.le_of_ble_eq_true rfl) rfl (Nat.le_of_ble_eq_true rfl) dX12_match_8 ?_
  refine Ci.mono h ?_
  intro x1 M1 h
  refine V_putI (pc := 11) fX12_324 p12_47 sM0 rfl dX12_match_11 ?_
  refine V_aload_n (pc := 14) dX12_match_14 rfl ?_
  refine V_aload_n (pc := 15) dX12_match_15 rfl ?_
  refine V_iload_n (pc := 16) dX12_match_16 rfl ?_
  refine V_iload_n (pc := 17) dX12_match_17 rfl ?_
  refine V_aload_n (pc := 18) dX12_match_18 rfl ?_
  refine V_getR (pc := 19) fX12_99 sM0 rfl dX12_match_19 ?_
  refine V_callVi [.int v1, .int v3, .ref (G.2.1 30)] (pc := 22) kX12_sorted lX12_320 sM0 rfl rfl (Nat.le_of_ble_eq_true rfl) rfl (Nat.le_of_ble_eq_true rfl) dX12_match_22 ?_
  refine Ci.mono h ?_
  intro x2 M2 h
  refine V_putI (pc := 25) fX12_327 p12_48 sM0 rfl dX12_match_25 ?_
  refine V_iconst (v := 0) (pc := 28) dX12_match_28 rfl ?_
  refine V_istore (pc := 29) dX12_match_29 (by decide) ?_
  refine V_lv (lv2 := [(0, .ref (G.2.1 0)), (1, .int v1), (2, .int v2), (3, .int v3), (4, .int 0)]) rfl ?_
  exact V_sub h ⟨rfl, rfl, rfl, rfl, rfl, trivial⟩
theorem wp_X12_match_31 {G : GV} {k : Nat} {M : Mem} {q : Mem → Prop} {v1 : Int32} {v2 : Int32} {v3 : Int32} {v4 : Int32} (h : ((169 ≤ v4 → V shM G mX12_match (k + 3) 61 [(0, .ref (G.2.1 0)), (1, .int v1), (2, .int v2), (3, .int v3), (4, .int ((M.1 0 47) - 1))] [] M (Qv q)) ∧ (¬ 169 ≤ v4 → vp_in v4 169 ∧ V shM G mX12_match (k + 3) 31 [(0, .ref (G.2.1 0)), (1, .int v1), (2, .int v2), (3, .int v3), (4, .int (v4 + 1))] [] (mset M 31 (ix v4) 0) (Qv q)))) : V shM G mX12_match (k + 3) 31 [(0, .ref (G.2.1 0)), (1, .int v1), (2, .int v2), (3, .int v3), (4, .int v4)] [] M (Qv q) := by
  refine V_iload (pc := 31) dX12_match_31 rfl ?_
  refine V_sipush (v := 169) (pc := 33) dX12_match_33 rfl ?_
  refine V_icmp_ge (tgt := 53) (pc := 36) dX12_match_36 rfl (fun c => ?_) (fun c => ?_)
  · have h := h.1 c
    refine V_aload_n (pc := 53) dX12_match_53 rfl ?_
    refine V_getI (pc := 54) fX12_324 sM0 rfl dX12_match_54 ?_
    refine V_iconst (v := 1) (pc := 57) dX12_match_57 rfl ?_
    refine V_isub (pc := 58) dX12_match_58 ?_
    refine V_istore (pc := 59) dX12_match_59 (by decide) ?_
    refine V_lv (lv2 := [(0, .ref (G.2.1 0)), (1, .int v1), (2, .int v2), (3, .int v3), (4, .int ((M.1 0 47) - 1))]) rfl ?_
    exact V_sub h ⟨rfl, rfl, rfl, rfl, rfl, trivial⟩
  · have h := h.2 c
    refine V_aload_n (pc := 39) dX12_match_39 rfl ?_
    refine V_getR (pc := 40) fX12_102 sM0 rfl dX12_match_40 ?_
    refine V_iload (pc := 43) dX12_match_43 rfl ?_
    refine V_iconst (v := 0) (pc := 45) dX12_match_45 rfl ?_
    refine V_iast (pc := 46) sM31 dX12_match_46 h.1 ?_
    have h := h.2
    refine V_iinc (pc := 47) dX12_match_47 rfl (by decide) ?_
    refine V_lv (lv2 := [(0, .ref (G.2.1 0)), (1, .int v1), (2, .int v2), (3, .int v3), (4, .int (v4 + 1))]) rfl ?_
    refine V_goto (tgt := 31) (pc := 50) dX12_match_50 rfl ?_
    exact V_sub h ⟨rfl, rfl, rfl, rfl, rfl, trivial⟩
theorem wp_X12_match_61 {G : GV} {k : Nat} {M : Mem} {q : Mem → Prop} {v1 : Int32} {v2 : Int32} {v3 : Int32} {v4 : Int32} (h : ((v4 < 0 → q M) ∧ (¬ v4 < 0 → V shM G mX12_match (k + 3) 74 [(0, .ref (G.2.1 0)), (1, .int v1), (2, .int v2), (3, .int v3), (4, .int v4), (5, .int ((M.1 0 48) - 1))] [] M (Qv q)))) : V shM G mX12_match (k + 3) 61 [(0, .ref (G.2.1 0)), (1, .int v1), (2, .int v2), (3, .int v3), (4, .int v4)] [] M (Qv q) := by
  refine V_iload (pc := 61) dX12_match_61 rfl ?_
  refine V_if_lt (tgt := 233) (pc := 63) dX12_match_63 rfl (fun c => ?_) (fun c => ?_)
  · have h := h.1 c
    exact V_vret dX12_match_233 rfl h
  · have h := h.2 c
    refine V_aload_n (pc := 66) dX12_match_66 rfl ?_
    refine V_getI (pc := 67) fX12_327 sM0 rfl dX12_match_67 ?_
    refine V_iconst (v := 1) (pc := 70) dX12_match_70 rfl ?_
    refine V_isub (pc := 71) dX12_match_71 ?_
    refine V_istore (pc := 72) dX12_match_72 (by decide) ?_
    refine V_lv (lv2 := [(0, .ref (G.2.1 0)), (1, .int v1), (2, .int v2), (3, .int v3), (4, .int v4), (5, .int ((M.1 0 48) - 1))]) rfl ?_
    exact V_sub h ⟨rfl, rfl, rfl, rfl, rfl, rfl, trivial⟩
theorem wp_X12_match_74 {G : GV} {k : Nat} {M : Mem} {q : Mem → Prop} {v1 : Int32} {v2 : Int32} {v3 : Int32} {v4 : Int32} {v5 : Int32} (h : ((v5 < 0 → V shM G mX12_match (k + 3) 61 [(0, .ref (G.2.1 0)), (1, .int v1), (2, .int v2), (3, .int v3), (4, .int (v4 + (-1)))] [] M (Qv q)) ∧ (¬ v5 < 0 → vp_in (((13 * v4) + 13) + v5) 169 ∧ vp_in (((13 * v4) + v5) + 1) 169 ∧ (((M.1 31 (ix (((13 * v4) + 13) + v5))) ≤ (M.1 31 (ix (((13 * v4) + v5) + 1))) → vp_in (((13 * v4) + v5) + 1) 169 ∧ vp_in v4 12 ∧ vp_in v5 12 ∧ Ci shM G mX12_isLike (k + 2) [.ref (G.2.1 0), .int (M.1 29 (ix v4)), .int (M.1 30 (ix v5))] M (fun x1 M1 => ((x1 = 0 → (((M.1 31 (ix (((13 * v4) + v5) + 1))) ≤ 0 → vp_in ((13 * v4) + v5) 169 ∧ V shM G mX12_match (k + 3) 74 [(0, .ref (G.2.1 0)), (1, .int v1), (2, .int v2), (3, .int v3), (4, .int v4), (5, .int (v5 + (-1)))] [] (mset M1 31 (ix ((13 * v4) + v5)) 0) (Qv q)) ∧ (¬ (M.1 31 (ix (((13 * v4) + v5) + 1))) ≤ 0 → vp_in ((13 * v4) + v5) 169 ∧ V shM G mX12_match (k + 3) 74 [(0, .ref (G.2.1 0)), (1, .int v1), (2, .int v2), (3, .int v3), (4, .int v4), (5, .int (v5 + (-1)))] [] (mset M1 31 (ix ((13 * v4) + v5)) (M.1 31 (ix (((13 * v4) + v5) + 1)))) (Qv q)))) ∧ (¬ x1 = 0 → vp_in (((13 * v4) + 14) + v5) 169 ∧ (((M.1 31 (ix (((13 * v4) + v5) + 1))) ≤ ((M1.1 31 (ix (((13 * v4) + 14) + v5))) + 1) → vp_in ((13 * v4) + v5) 169 ∧ V shM G mX12_match (k + 3) 74 [(0, .ref (G.2.1 0)), (1, .int v1), (2, .int v2), (3, .int v3), (4, .int v4), (5, .int (v5 + (-1)))] [] (mset M1 31 (ix ((13 * v4) + v5)) ((M1.1 31 (ix (((13 * v4) + 14) + v5))) + 1)) (Qv q)) ∧ (¬ (M.1 31 (ix (((13 * v4) + v5) + 1))) ≤ ((M1.1 31 (ix (((13 * v4) + 14) + v5))) + 1) → vp_in ((13 * v4) + v5) 169 ∧ V shM G mX12_match (k + 3) 74 [(0, .ref (G.2.1 0)), (1, .int v1), (2, .int v2), (3, .int v3), (4, .int v4), (5, .int (v5 + (-1)))] [] (mset M1 31 (ix ((13 * v4) + v5)) (M.1 31 (ix (((13 * v4) + v5) + 1)))) (Qv q))))))) ∧ (¬ (M.1 31 (ix (((13 * v4) + 13) + v5))) ≤ (M.1 31 (ix (((13 * v4) + v5) + 1))) → vp_in (((13 * v4) + 13) + v5) 169 ∧ vp_in v4 12 ∧ vp_in v5 12 ∧ Ci shM G mX12_isLike (k + 2) [.ref (G.2.1 0), .int (M.1 29 (ix v4)), .int (M.1 30 (ix v5))] M (fun x2 M2 => ((x2 = 0 → (((M.1 31 (ix (((13 * v4) + 13) + v5))) ≤ 0 → vp_in ((13 * v4) + v5) 169 ∧ V shM G mX12_match (k + 3) 74 [(0, .ref (G.2.1 0)), (1, .int v1), (2, .int v2), (3, .int v3), (4, .int v4), (5, .int (v5 + (-1)))] [] (mset M2 31 (ix ((13 * v4) + v5)) 0) (Qv q)) ∧ (¬ (M.1 31 (ix (((13 * v4) + 13) + v5))) ≤ 0 → vp_in ((13 * v4) + v5) 169 ∧ V shM G mX12_match (k + 3) 74 [(0, .ref (G.2.1 0)), (1, .int v1), (2, .int v2), (3, .int v3), (4, .int v4), (5, .int (v5 + (-1)))] [] (mset M2 31 (ix ((13 * v4) + v5)) (M.1 31 (ix (((13 * v4) + 13) + v5)))) (Qv q)))) ∧ (¬ x2 = 0 → vp_in (((13 * v4) + 14) + v5) 169 ∧ (((M.1 31 (ix (((13 * v4) + 13) + v5))) ≤ ((M2.1 31 (ix (((13 * v4) + 14) + v5))) + 1) → vp_in ((13 * v4) + v5) 169 ∧ V shM G mX12_match (k + 3) 74 [(0, .ref (G.2.1 0)), (1, .int v1), (2, .int v2), (3, .int v3), (4, .int v4), (5, .int (v5 + (-1)))] [] (mset M2 31 (ix ((13 * v4) + v5)) ((M2.1 31 (ix (((13 * v4) + 14) + v5))) + 1)) (Qv q)) ∧ (¬ (M.1 31 (ix (((13 * v4) + 13) + v5))) ≤ ((M2.1 31 (ix (((13 * v4) + 14) + v5))) + 1) → vp_in ((13 * v4) + v5) 169 ∧ V shM G mX12_match (k + 3) 74 [(0, .ref (G.2.1 0)), (1, .int v1), (2, .int v2), (3, .int v3), (4, .int v4), (5, .int (v5 + (-1)))] [] (mset M2 31 (ix ((13 * v4) + v5)) (M.1 31 (ix (((13 * v4) + 13) + v5)))) (Qv q))))))))))) : V shM G mX12_match (k + 3) 74 [(0, .ref (G.2.1 0)), (1, .int v1), (2, .int v2), (3, .int v3), (4, .int v4), (5, .int v5)] [] M (Qv q) := by
  refine V_iload (pc := 74) dX12_match_74 rfl ?_
  refine V_if_lt (tgt := 227) (pc := 76) dX12_match_76 rfl (fun c => ?_) (fun c => ?_)
  · have h := h.1 c
    refine V_iinc (pc := 227) dX12_match_227 rfl (by decide) ?_
    refine V_lv (lv2 := [(0, .ref (G.2.1 0)), (1, .int v1), (2, .int v2), (3, .int v3), (4, .int (v4 + (-1))), (5, .int v5)]) rfl ?_
    refine V_goto (tgt := 61) (pc := 230) dX12_match_230 rfl ?_
    exact V_sub h ⟨rfl, rfl, rfl, rfl, rfl, trivial⟩
  · have h := h.2 c
    refine V_aload_n (pc := 79) dX12_match_79 rfl ?_
    refine V_getR (pc := 80) fX12_102 sM0 rfl dX12_match_80 ?_
    refine V_bipush (v := 13) (pc := 83) dX12_match_83 rfl ?_
    refine V_iload (pc := 85) dX12_match_85 rfl ?_
    refine V_imul (pc := 87) dX12_match_87 ?_
    refine V_bipush (v := 13) (pc := 88) dX12_match_88 rfl ?_
    refine V_iadd (pc := 90) dX12_match_90 ?_
    refine V_iload (pc := 91) dX12_match_91 rfl ?_
    refine V_iadd (pc := 93) dX12_match_93 ?_
    refine V_iald (pc := 94) sM31 dX12_match_94 h.1 ?_
    have h := h.2
    refine V_aload_n (pc := 95) dX12_match_95 rfl ?_
    refine V_getR (pc := 96) fX12_102 sM0 rfl dX12_match_96 ?_
    refine V_bipush (v := 13) (pc := 99) dX12_match_99 rfl ?_
    refine V_iload (pc := 101) dX12_match_101 rfl ?_
    refine V_imul (pc := 103) dX12_match_103 ?_
    refine V_iload (pc := 104) dX12_match_104 rfl ?_
    refine V_iadd (pc := 106) dX12_match_106 ?_
    refine V_iconst (v := 1) (pc := 107) dX12_match_107 rfl ?_
    refine V_iadd (pc := 108) dX12_match_108 ?_
    refine V_iald (pc := 109) sM31 dX12_match_109 h.1 ?_
    have h := h.2
    refine V_icmp_le (tgt := 132) (pc := 110) dX12_match_110 rfl (fun c => ?_) (fun c => ?_)
    · have h := h.1 c
      refine V_aload_n (pc := 132) dX12_match_132 rfl ?_
      refine V_getR (pc := 133) fX12_102 sM0 rfl dX12_match_133 ?_
      refine V_bipush (v := 13) (pc := 136) dX12_match_136 rfl ?_
      refine V_iload (pc := 138) dX12_match_138 rfl ?_
      refine V_imul (pc := 140) dX12_match_140 ?_
      refine V_iload (pc := 141) dX12_match_141 rfl ?_
      refine V_iadd (pc := 143) dX12_match_143 ?_
      refine V_iconst (v := 1) (pc := 144) dX12_match_144 rfl ?_
      refine V_iadd (pc := 145) dX12_match_145 ?_
      refine V_iald (pc := 146) sM31 dX12_match_146 h.1 ?_
      have h := h.2
      refine V_istore (pc := 147) dX12_match_147 (by decide) ?_
      refine V_lv (lv2 := [(0, .ref (G.2.1 0)), (1, .int v1), (2, .int v2), (3, .int v3), (4, .int v4), (5, .int v5), (6, .int (M.1 31 (ix (((13 * v4) + v5) + 1))))]) rfl ?_
      refine V_aload_n (pc := 149) dX12_match_149 rfl ?_
      refine V_aload_n (pc := 150) dX12_match_150 rfl ?_
      refine V_getR (pc := 151) fX12_96 sM0 rfl dX12_match_151 ?_
      refine V_iload (pc := 154) dX12_match_154 rfl ?_
      refine V_iald (pc := 156) sM29 dX12_match_156 h.1 ?_
      have h := h.2
      refine V_aload_n (pc := 157) dX12_match_157 rfl ?_
      refine V_getR (pc := 158) fX12_99 sM0 rfl dX12_match_158 ?_
      refine V_iload (pc := 161) dX12_match_161 rfl ?_
      refine V_iald (pc := 163) sM30 dX12_match_163 h.1 ?_
      have h := h.2
      refine V_callVi [.int (M.1 29 (ix v4)), .int (M.1 30 (ix v5))] (pc := 164) kX12_isLike lX12_286 sM0 rfl rfl (Nat.le_of_ble_eq_true rfl) rfl (Nat.le_of_ble_eq_true rfl) dX12_match_164 ?_
      refine Ci.mono h ?_
      intro x1 M1 h
      refine V_if_eq (tgt := 191) (pc := 167) dX12_match_167 rfl (fun c => ?_) (fun c => ?_)
      · have h := h.1 c
        refine V_iconst (v := 0) (pc := 191) dX12_match_191 rfl ?_
        refine V_istore (pc := 192) dX12_match_192 (by decide) ?_
        refine V_lv (lv2 := [(0, .ref (G.2.1 0)), (1, .int v1), (2, .int v2), (3, .int v3), (4, .int v4), (5, .int v5), (6, .int (M.1 31 (ix (((13 * v4) + v5) + 1)))), (7, .int 0)]) rfl ?_
        refine V_aload_n (pc := 194) dX12_match_194 rfl ?_
        refine V_getR (pc := 195) fX12_102 sM0 rfl dX12_match_195 ?_
        refine V_bipush (v := 13) (pc := 198) dX12_match_198 rfl ?_
        refine V_iload (pc := 200) dX12_match_200 rfl ?_
        refine V_imul (pc := 202) dX12_match_202 ?_
        refine V_iload (pc := 203) dX12_match_203 rfl ?_
        refine V_iadd (pc := 205) dX12_match_205 ?_
        refine V_iload (pc := 206) dX12_match_206 rfl ?_
        refine V_iload (pc := 208) dX12_match_208 rfl ?_
        refine V_icmp_le (tgt := 218) (pc := 210) dX12_match_210 rfl (fun c => ?_) (fun c => ?_)
        · have h := h.1 c
          refine V_iload (pc := 218) dX12_match_218 rfl ?_
          refine V_iast (pc := 220) sM31 dX12_match_220 h.1 ?_
          have h := h.2
          refine V_iinc (pc := 221) dX12_match_221 rfl (by decide) ?_
          refine V_lv (lv2 := [(0, .ref (G.2.1 0)), (1, .int v1), (2, .int v2), (3, .int v3), (4, .int v4), (5, .int (v5 + (-1))), (6, .int (M.1 31 (ix (((13 * v4) + v5) + 1)))), (7, .int 0)]) rfl ?_
          refine V_goto (tgt := 74) (pc := 224) dX12_match_224 rfl ?_
          exact V_sub h ⟨rfl, rfl, rfl, rfl, rfl, rfl, trivial⟩
        · have h := h.2 c
          refine V_iload (pc := 213) dX12_match_213 rfl ?_
          refine V_goto (tgt := 220) (pc := 215) dX12_match_215 rfl ?_
          refine V_iast (pc := 220) sM31 dX12_match_220 h.1 ?_
          have h := h.2
          refine V_iinc (pc := 221) dX12_match_221 rfl (by decide) ?_
          refine V_lv (lv2 := [(0, .ref (G.2.1 0)), (1, .int v1), (2, .int v2), (3, .int v3), (4, .int v4), (5, .int (v5 + (-1))), (6, .int (M.1 31 (ix (((13 * v4) + v5) + 1)))), (7, .int 0)]) rfl ?_
          refine V_goto (tgt := 74) (pc := 224) dX12_match_224 rfl ?_
          exact V_sub h ⟨rfl, rfl, rfl, rfl, rfl, rfl, trivial⟩
      · have h := h.2 c
        refine V_aload_n (pc := 170) dX12_match_170 rfl ?_
        refine V_getR (pc := 171) fX12_102 sM0 rfl dX12_match_171 ?_
        refine V_bipush (v := 13) (pc := 174) dX12_match_174 rfl ?_
        refine V_iload (pc := 176) dX12_match_176 rfl ?_
        refine V_imul (pc := 178) dX12_match_178 ?_
        refine V_bipush (v := 14) (pc := 179) dX12_match_179 rfl ?_
        refine V_iadd (pc := 181) dX12_match_181 ?_
        refine V_iload (pc := 182) dX12_match_182 rfl ?_
        refine V_iadd (pc := 184) dX12_match_184 ?_
        refine V_iald (pc := 185) sM31 dX12_match_185 h.1 ?_
        have h := h.2
        refine V_iconst (v := 1) (pc := 186) dX12_match_186 rfl ?_
        refine V_iadd (pc := 187) dX12_match_187 ?_
        refine V_goto (tgt := 192) (pc := 188) dX12_match_188 rfl ?_
        refine V_istore (pc := 192) dX12_match_192 (by decide) ?_
        refine V_lv (lv2 := [(0, .ref (G.2.1 0)), (1, .int v1), (2, .int v2), (3, .int v3), (4, .int v4), (5, .int v5), (6, .int (M.1 31 (ix (((13 * v4) + v5) + 1)))), (7, .int ((M1.1 31 (ix (((13 * v4) + 14) + v5))) + 1))]) rfl ?_
        refine V_aload_n (pc := 194) dX12_match_194 rfl ?_
        refine V_getR (pc := 195) fX12_102 sM0 rfl dX12_match_195 ?_
        refine V_bipush (v := 13) (pc := 198) dX12_match_198 rfl ?_
        refine V_iload (pc := 200) dX12_match_200 rfl ?_
        refine V_imul (pc := 202) dX12_match_202 ?_
        refine V_iload (pc := 203) dX12_match_203 rfl ?_
        refine V_iadd (pc := 205) dX12_match_205 ?_
        refine V_iload (pc := 206) dX12_match_206 rfl ?_
        refine V_iload (pc := 208) dX12_match_208 rfl ?_
        refine V_icmp_le (tgt := 218) (pc := 210) dX12_match_210 rfl (fun c => ?_) (fun c => ?_)
        · have h := h.1 c
          refine V_iload (pc := 218) dX12_match_218 rfl ?_
          refine V_iast (pc := 220) sM31 dX12_match_220 h.1 ?_
          have h := h.2
          refine V_iinc (pc := 221) dX12_match_221 rfl (by decide) ?_
          refine V_lv (lv2 := [(0, .ref (G.2.1 0)), (1, .int v1), (2, .int v2), (3, .int v3), (4, .int v4), (5, .int (v5 + (-1))), (6, .int (M.1 31 (ix (((13 * v4) + v5) + 1)))), (7, .int ((M1.1 31 (ix (((13 * v4) + 14) + v5))) + 1))]) rfl ?_
          refine V_goto (tgt := 74) (pc := 224) dX12_match_224 rfl ?_
          exact V_sub h ⟨rfl, rfl, rfl, rfl, rfl, rfl, trivial⟩
        · have h := h.2 c
          refine V_iload (pc := 213) dX12_match_213 rfl ?_
          refine V_goto (tgt := 220) (pc := 215) dX12_match_215 rfl ?_
          refine V_iast (pc := 220) sM31 dX12_match_220 h.1 ?_
          have h := h.2
          refine V_iinc (pc := 221) dX12_match_221 rfl (by decide) ?_
          refine V_lv (lv2 := [(0, .ref (G.2.1 0)), (1, .int v1), (2, .int v2), (3, .int v3), (4, .int v4), (5, .int (v5 + (-1))), (6, .int (M.1 31 (ix (((13 * v4) + v5) + 1)))), (7, .int ((M1.1 31 (ix (((13 * v4) + 14) + v5))) + 1))]) rfl ?_
          refine V_goto (tgt := 74) (pc := 224) dX12_match_224 rfl ?_
          exact V_sub h ⟨rfl, rfl, rfl, rfl, rfl, rfl, trivial⟩
    · have h := h.2 c
      refine V_aload_n (pc := 113) dX12_match_113 rfl ?_
      refine V_getR (pc := 114) fX12_102 sM0 rfl dX12_match_114 ?_
      refine V_bipush (v := 13) (pc := 117) dX12_match_117 rfl ?_
      refine V_iload (pc := 119) dX12_match_119 rfl ?_
      refine V_imul (pc := 121) dX12_match_121 ?_
      refine V_bipush (v := 13) (pc := 122) dX12_match_122 rfl ?_
      refine V_iadd (pc := 124) dX12_match_124 ?_
      refine V_iload (pc := 125) dX12_match_125 rfl ?_
      refine V_iadd (pc := 127) dX12_match_127 ?_
      refine V_iald (pc := 128) sM31 dX12_match_128 h.1 ?_
      have h := h.2
      refine V_goto (tgt := 147) (pc := 129) dX12_match_129 rfl ?_
      refine V_istore (pc := 147) dX12_match_147 (by decide) ?_
      refine V_lv (lv2 := [(0, .ref (G.2.1 0)), (1, .int v1), (2, .int v2), (3, .int v3), (4, .int v4), (5, .int v5), (6, .int (M.1 31 (ix (((13 * v4) + 13) + v5))))]) rfl ?_
      refine V_aload_n (pc := 149) dX12_match_149 rfl ?_
      refine V_aload_n (pc := 150) dX12_match_150 rfl ?_
      refine V_getR (pc := 151) fX12_96 sM0 rfl dX12_match_151 ?_
      refine V_iload (pc := 154) dX12_match_154 rfl ?_
      refine V_iald (pc := 156) sM29 dX12_match_156 h.1 ?_
      have h := h.2
      refine V_aload_n (pc := 157) dX12_match_157 rfl ?_
      refine V_getR (pc := 158) fX12_99 sM0 rfl dX12_match_158 ?_
      refine V_iload (pc := 161) dX12_match_161 rfl ?_
      refine V_iald (pc := 163) sM30 dX12_match_163 h.1 ?_
      have h := h.2
      refine V_callVi [.int (M.1 29 (ix v4)), .int (M.1 30 (ix v5))] (pc := 164) kX12_isLike lX12_286 sM0 rfl rfl (Nat.le_of_ble_eq_true rfl) rfl (Nat.le_of_ble_eq_true rfl) dX12_match_164 ?_
      refine Ci.mono h ?_
      intro x2 M2 h
      refine V_if_eq (tgt := 191) (pc := 167) dX12_match_167 rfl (fun c => ?_) (fun c => ?_)
      · have h := h.1 c
        refine V_iconst (v := 0) (pc := 191) dX12_match_191 rfl ?_
        refine V_istore (pc := 192) dX12_match_192 (by decide) ?_
        refine V_lv (lv2 := [(0, .ref (G.2.1 0)), (1, .int v1), (2, .int v2), (3, .int v3), (4, .int v4), (5, .int v5), (6, .int (M.1 31 (ix (((13 * v4) + 13) + v5)))), (7, .int 0)]) rfl ?_
        refine V_aload_n (pc := 194) dX12_match_194 rfl ?_
        refine V_getR (pc := 195) fX12_102 sM0 rfl dX12_match_195 ?_
        refine V_bipush (v := 13) (pc := 198) dX12_match_198 rfl ?_
        refine V_iload (pc := 200) dX12_match_200 rfl ?_
        refine V_imul (pc := 202) dX12_match_202 ?_
        refine V_iload (pc := 203) dX12_match_203 rfl ?_
        refine V_iadd (pc := 205) dX12_match_205 ?_
        refine V_iload (pc := 206) dX12_match_206 rfl ?_
        refine V_iload (pc := 208) dX12_match_208 rfl ?_
        refine V_icmp_le (tgt := 218) (pc := 210) dX12_match_210 rfl (fun c => ?_) (fun c => ?_)
        · have h := h.1 c
          refine V_iload (pc := 218) dX12_match_218 rfl ?_
          refine V_iast (pc := 220) sM31 dX12_match_220 h.1 ?_
          have h := h.2
          refine V_iinc (pc := 221) dX12_match_221 rfl (by decide) ?_
          refine V_lv (lv2 := [(0, .ref (G.2.1 0)), (1, .int v1), (2, .int v2), (3, .int v3), (4, .int v4), (5, .int (v5 + (-1))), (6, .int (M.1 31 (ix (((13 * v4) + 13) + v5)))), (7, .int 0)]) rfl ?_
          refine V_goto (tgt := 74) (pc := 224) dX12_match_224 rfl ?_
          exact V_sub h ⟨rfl, rfl, rfl, rfl, rfl, rfl, trivial⟩
        · have h := h.2 c
          refine V_iload (pc := 213) dX12_match_213 rfl ?_
          refine V_goto (tgt := 220) (pc := 215) dX12_match_215 rfl ?_
          refine V_iast (pc := 220) sM31 dX12_match_220 h.1 ?_
          have h := h.2
          refine V_iinc (pc := 221) dX12_match_221 rfl (by decide) ?_
          refine V_lv (lv2 := [(0, .ref (G.2.1 0)), (1, .int v1), (2, .int v2), (3, .int v3), (4, .int v4), (5, .int (v5 + (-1))), (6, .int (M.1 31 (ix (((13 * v4) + 13) + v5)))), (7, .int 0)]) rfl ?_
          refine V_goto (tgt := 74) (pc := 224) dX12_match_224 rfl ?_
          exact V_sub h ⟨rfl, rfl, rfl, rfl, rfl, rfl, trivial⟩
      · have h := h.2 c
        refine V_aload_n (pc := 170) dX12_match_170 rfl ?_
        refine V_getR (pc := 171) fX12_102 sM0 rfl dX12_match_171 ?_
        refine V_bipush (v := 13) (pc := 174) dX12_match_174 rfl ?_
        refine V_iload (pc := 176) dX12_match_176 rfl ?_
        refine V_imul (pc := 178) dX12_match_178 ?_
        refine V_bipush (v := 14) (pc := 179) dX12_match_179 rfl ?_
        refine V_iadd (pc := 181) dX12_match_181 ?_
        refine V_iload (pc := 182) dX12_match_182 rfl ?_
        refine V_iadd (pc := 184) dX12_match_184 ?_
        refine V_iald (pc := 185) sM31 dX12_match_185 h.1 ?_
        have h := h.2
        refine V_iconst (v := 1) (pc := 186) dX12_match_186 rfl ?_
        refine V_iadd (pc := 187) dX12_match_187 ?_
        refine V_goto (tgt := 192) (pc := 188) dX12_match_188 rfl ?_
        refine V_istore (pc := 192) dX12_match_192 (by decide) ?_
        refine V_lv (lv2 := [(0, .ref (G.2.1 0)), (1, .int v1), (2, .int v2), (3, .int v3), (4, .int v4), (5, .int v5), (6, .int (M.1 31 (ix (((13 * v4) + 13) + v5)))), (7, .int ((M2.1 31 (ix (((13 * v4) + 14) + v5))) + 1))]) rfl ?_
        refine V_aload_n (pc := 194) dX12_match_194 rfl ?_
        refine V_getR (pc := 195) fX12_102 sM0 rfl dX12_match_195 ?_
        refine V_bipush (v := 13) (pc := 198) dX12_match_198 rfl ?_
        refine V_iload (pc := 200) dX12_match_200 rfl ?_
        refine V_imul (pc := 202) dX12_match_202 ?_
        refine V_iload (pc := 203) dX12_match_203 rfl ?_
        refine V_iadd (pc := 205) dX12_match_205 ?_
        refine V_iload (pc := 206) dX12_match_206 rfl ?_
        refine V_iload (pc := 208) dX12_match_208 rfl ?_
        refine V_icmp_le (tgt := 218) (pc := 210) dX12_match_210 rfl (fun c => ?_) (fun c => ?_)
        · have h := h.1 c
          refine V_iload (pc := 218) dX12_match_218 rfl ?_
          refine V_iast (pc := 220) sM31 dX12_match_220 h.1 ?_
          have h := h.2
          refine V_iinc (pc := 221) dX12_match_221 rfl (by decide) ?_
          refine V_lv (lv2 := [(0, .ref (G.2.1 0)), (1, .int v1), (2, .int v2), (3, .int v3), (4, .int v4), (5, .int (v5 + (-1))), (6, .int (M.1 31 (ix (((13 * v4) + 13) + v5)))), (7, .int ((M2.1 31 (ix (((13 * v4) + 14) + v5))) + 1))]) rfl ?_
          refine V_goto (tgt := 74) (pc := 224) dX12_match_224 rfl ?_
          exact V_sub h ⟨rfl, rfl, rfl, rfl, rfl, rfl, trivial⟩
        · have h := h.2 c
          refine V_iload (pc := 213) dX12_match_213 rfl ?_
          refine V_goto (tgt := 220) (pc := 215) dX12_match_215 rfl ?_
          refine V_iast (pc := 220) sM31 dX12_match_220 h.1 ?_
          have h := h.2
          refine V_iinc (pc := 221) dX12_match_221 rfl (by decide) ?_
          refine V_lv (lv2 := [(0, .ref (G.2.1 0)), (1, .int v1), (2, .int v2), (3, .int v3), (4, .int v4), (5, .int (v5 + (-1))), (6, .int (M.1 31 (ix (((13 * v4) + 13) + v5)))), (7, .int ((M2.1 31 (ix (((13 * v4) + 14) + v5))) + 1))]) rfl ?_
          refine V_goto (tgt := 74) (pc := 224) dX12_match_224 rfl ?_
          exact V_sub h ⟨rfl, rfl, rfl, rfl, rfl, rfl, trivial⟩
theorem wp_X12_mayBe {G : GV} {k : Nat} {M : Mem} {q : Int32 → Mem → Prop} {v1 : Int32} {v2 : Int32} (h : Ci shM G mX12_isLike (k + 2) [.ref (G.2.1 0), .int v1, .int v2] M (fun x1 M1 => ((x1 ≠ 0 → vp_in v1 12 ∧ (((M1.1 12 (ix v1)) = (-1000000) → Ci shM G mX12_isHome (k + 2) [.ref (G.2.1 0), .int v1] M1 (fun x2 M2 => ((x2 = 0 → q 1 M2) ∧ (¬ x2 = 0 → Ci shM G mX12_isHome (k + 2) [.ref (G.2.1 0), .int v2] M2 (fun x3 M3 => ((x3 = 0 → q 1 M3) ∧ (¬ x3 = 0 → Ci shM G mX12_gathered (k + 2) [.ref (G.2.1 0), .int v1] M3 (fun x4 M4 => Ci shM G mX12_gathered (k + 2) [.ref (G.2.1 0), .int v2] M4 (fun x5 M5 => ((x4 ≠ x5 → q 1 M5) ∧ (x4 = x5 → Ci shM G mX12_isOneDoor (k + 2) [.ref (G.2.1 0), .int v1, .int v2] M5 (fun x6 M6 => ((x6 = 0 → q 0 M6) ∧ (¬ x6 = 0 → q 1 M6)))))))))))))) ∧ (¬ (M1.1 12 (ix v1)) = (-1000000) → vp_in v2 12 ∧ (((M1.1 12 (ix v2)) = (-1000000) → Ci shM G mX12_isHome (k + 2) [.ref (G.2.1 0), .int v1] M1 (fun x7 M7 => ((x7 = 0 → q 1 M7) ∧ (¬ x7 = 0 → Ci shM G mX12_isHome (k + 2) [.ref (G.2.1 0), .int v2] M7 (fun x8 M8 => ((x8 = 0 → q 1 M8) ∧ (¬ x8 = 0 → Ci shM G mX12_gathered (k + 2) [.ref (G.2.1 0), .int v1] M8 (fun x9 M9 => Ci shM G mX12_gathered (k + 2) [.ref (G.2.1 0), .int v2] M9 (fun x10 M10 => ((x9 ≠ x10 → q 1 M10) ∧ (x9 = x10 → Ci shM G mX12_isOneDoor (k + 2) [.ref (G.2.1 0), .int v1, .int v2] M10 (fun x11 M11 => ((x11 = 0 → q 0 M11) ∧ (¬ x11 = 0 → q 1 M11)))))))))))))) ∧ (¬ (M1.1 12 (ix v2)) = (-1000000) → vp_in v1 12 ∧ vp_in v2 12 ∧ Ci shM G mX12_gathered (k + 2) [.ref (G.2.1 0), .int v1] M1 (fun x12 M12 => Ci shM G mX12_gathered (k + 2) [.ref (G.2.1 0), .int v2] M12 (fun x13 M13 => Ci shM G mX12_in (k + 2) [.long (Int32.toInt64 (((M1.1 12 (ix v1)) - (M1.1 12 (ix v2))) - (x12 - x13))), .long (-2), .long 2] M13 (fun x14 M14 => ((x14 ≠ 0 → Ci shM G mX12_isHome (k + 2) [.ref (G.2.1 0), .int v1] M14 (fun x15 M15 => ((x15 = 0 → q 1 M15) ∧ (¬ x15 = 0 → Ci shM G mX12_isHome (k + 2) [.ref (G.2.1 0), .int v2] M15 (fun x16 M16 => ((x16 = 0 → q 1 M16) ∧ (¬ x16 = 0 → Ci shM G mX12_gathered (k + 2) [.ref (G.2.1 0), .int v1] M16 (fun x17 M17 => Ci shM G mX12_gathered (k + 2) [.ref (G.2.1 0), .int v2] M17 (fun x18 M18 => ((x17 ≠ x18 → q 1 M18) ∧ (x17 = x18 → Ci shM G mX12_isOneDoor (k + 2) [.ref (G.2.1 0), .int v1, .int v2] M18 (fun x19 M19 => ((x19 = 0 → q 0 M19) ∧ (¬ x19 = 0 → q 1 M19)))))))))))))) ∧ (x14 = 0 → q 0 M14)))))))))) ∧ (x1 = 0 → q 0 M1)))) : Ci shM G mX12_mayBe (k + 3) [.ref (G.2.1 0), .int v1, .int v2] M q := by
  unfold Ci
  show V _ _ _ _ _ [(0, .ref (G.2.1 0)), (1, .int v1), (2, .int v2)] _ _ _
  refine V_aload_n (pc := 0) dX12_mayBe_0 rfl ?_
  refine V_iload_n (pc := 1) dX12_mayBe_1 rfl ?_
  refine V_iload_n (pc := 2) dX12_mayBe_2 rfl ?_
  refine V_callVi [.int v1, .int v2] (pc := 3) kX12_isLike lX12_286 sM0 rfl rfl (Nat.le_of_ble_eq_true rfl) rfl (Nat.le_of_ble_eq_true rfl) dX12_mayBe_3 ?_
  refine Ci.mono h ?_
  intro x1 M1 h
  refine V_if_ne (tgt := 11) (pc := 6) dX12_mayBe_6 rfl (fun c => ?_) (fun c => ?_)
  · have h := h.1 c
    refine V_aload_n (pc := 11) dX12_mayBe_11 rfl ?_
    refine V_getR (pc := 12) fX12_44 sM0 rfl dX12_mayBe_12 ?_
    refine V_iload_n (pc := 15) dX12_mayBe_15 rfl ?_
    refine V_iald (pc := 16) sM12 dX12_mayBe_16 h.1 ?_
    have h := h.2
    refine V_ldc (pc := 17) dX12_mayBe_17 nX12_144 ?_
    refine V_icmp_eq (tgt := 73) (pc := 19) dX12_mayBe_19 rfl (fun c => ?_) (fun c => ?_)
    · have h := h.1 c
      refine V_aload_n (pc := 73) dX12_mayBe_73 rfl ?_
      refine V_iload_n (pc := 74) dX12_mayBe_74 rfl ?_
      refine V_callVi [.int v1] (pc := 75) kX12_isHome lX12_292 sM0 rfl rfl (Nat.le_of_ble_eq_true rfl) rfl (Nat.le_of_ble_eq_true rfl) dX12_mayBe_75 ?_
      refine Ci.mono h ?_
      intro x2 M2 h
      refine V_if_eq (tgt := 111) (pc := 78) dX12_mayBe_78 rfl (fun c => ?_) (fun c => ?_)
      · have h := h.1 c
        refine V_iconst (v := 1) (pc := 111) dX12_mayBe_111 rfl ?_
        refine V_goto (tgt := 116) (pc := 112) dX12_mayBe_112 rfl ?_
        exact V_zret dX12_mayBe_116 rfl (Or.inr rfl) h
      · have h := h.2 c
        refine V_aload_n (pc := 81) dX12_mayBe_81 rfl ?_
        refine V_iload_n (pc := 82) dX12_mayBe_82 rfl ?_
        refine V_callVi [.int v2] (pc := 83) kX12_isHome lX12_292 sM0 rfl rfl (Nat.le_of_ble_eq_true rfl) rfl (Nat.le_of_ble_eq_true rfl) dX12_mayBe_83 ?_
        refine Ci.mono h ?_
        intro x3 M3 h
        refine V_if_eq (tgt := 111) (pc := 86) dX12_mayBe_86 rfl (fun c => ?_) (fun c => ?_)
        · have h := h.1 c
          refine V_iconst (v := 1) (pc := 111) dX12_mayBe_111 rfl ?_
          refine V_goto (tgt := 116) (pc := 112) dX12_mayBe_112 rfl ?_
          exact V_zret dX12_mayBe_116 rfl (Or.inr rfl) h
        · have h := h.2 c
          refine V_aload_n (pc := 89) dX12_mayBe_89 rfl ?_
          refine V_iload_n (pc := 90) dX12_mayBe_90 rfl ?_
          refine V_callVi [.int v1] (pc := 91) kX12_gathered lX12_246 sM0 rfl rfl (Nat.le_of_ble_eq_true rfl) rfl (Nat.le_of_ble_eq_true rfl) dX12_mayBe_91 ?_
          refine Ci.mono h ?_
          intro x4 M4 h
          refine V_aload_n (pc := 94) dX12_mayBe_94 rfl ?_
          refine V_iload_n (pc := 95) dX12_mayBe_95 rfl ?_
          refine V_callVi [.int v2] (pc := 96) kX12_gathered lX12_246 sM0 rfl rfl (Nat.le_of_ble_eq_true rfl) rfl (Nat.le_of_ble_eq_true rfl) dX12_mayBe_96 ?_
          refine Ci.mono h ?_
          intro x5 M5 h
          refine V_icmp_ne (tgt := 111) (pc := 99) dX12_mayBe_99 rfl (fun c => ?_) (fun c => ?_)
          · have h := h.1 c
            refine V_iconst (v := 1) (pc := 111) dX12_mayBe_111 rfl ?_
            refine V_goto (tgt := 116) (pc := 112) dX12_mayBe_112 rfl ?_
            exact V_zret dX12_mayBe_116 rfl (Or.inr rfl) h
          · have h := h.2 c
            refine V_aload_n (pc := 102) dX12_mayBe_102 rfl ?_
            refine V_iload_n (pc := 103) dX12_mayBe_103 rfl ?_
            refine V_iload_n (pc := 104) dX12_mayBe_104 rfl ?_
            refine V_callVi [.int v1, .int v2] (pc := 105) kX12_isOneDoor lX12_295 sM0 rfl rfl (Nat.le_of_ble_eq_true rfl) rfl (Nat.le_of_ble_eq_true rfl) dX12_mayBe_105 ?_
            refine Ci.mono h ?_
            intro x6 M6 h
            refine V_if_eq (tgt := 115) (pc := 108) dX12_mayBe_108 rfl (fun c => ?_) (fun c => ?_)
            · have h := h.1 c
              refine V_iconst (v := 0) (pc := 115) dX12_mayBe_115 rfl ?_
              exact V_zret dX12_mayBe_116 rfl (Or.inl rfl) h
            · have h := h.2 c
              refine V_iconst (v := 1) (pc := 111) dX12_mayBe_111 rfl ?_
              refine V_goto (tgt := 116) (pc := 112) dX12_mayBe_112 rfl ?_
              exact V_zret dX12_mayBe_116 rfl (Or.inr rfl) h
    · have h := h.2 c
      refine V_aload_n (pc := 22) dX12_mayBe_22 rfl ?_
      refine V_getR (pc := 23) fX12_44 sM0 rfl dX12_mayBe_23 ?_
      refine V_iload_n (pc := 26) dX12_mayBe_26 rfl ?_
      refine V_iald (pc := 27) sM12 dX12_mayBe_27 h.1 ?_
      have h := h.2
      refine V_ldc (pc := 28) dX12_mayBe_28 nX12_144 ?_
      refine V_icmp_eq (tgt := 73) (pc := 30) dX12_mayBe_30 rfl (fun c => ?_) (fun c => ?_)
      · have h := h.1 c
        refine V_aload_n (pc := 73) dX12_mayBe_73 rfl ?_
        refine V_iload_n (pc := 74) dX12_mayBe_74 rfl ?_
        refine V_callVi [.int v1] (pc := 75) kX12_isHome lX12_292 sM0 rfl rfl (Nat.le_of_ble_eq_true rfl) rfl (Nat.le_of_ble_eq_true rfl) dX12_mayBe_75 ?_
        refine Ci.mono h ?_
        intro x7 M7 h
        refine V_if_eq (tgt := 111) (pc := 78) dX12_mayBe_78 rfl (fun c => ?_) (fun c => ?_)
        · have h := h.1 c
          refine V_iconst (v := 1) (pc := 111) dX12_mayBe_111 rfl ?_
          refine V_goto (tgt := 116) (pc := 112) dX12_mayBe_112 rfl ?_
          exact V_zret dX12_mayBe_116 rfl (Or.inr rfl) h
        · have h := h.2 c
          refine V_aload_n (pc := 81) dX12_mayBe_81 rfl ?_
          refine V_iload_n (pc := 82) dX12_mayBe_82 rfl ?_
          refine V_callVi [.int v2] (pc := 83) kX12_isHome lX12_292 sM0 rfl rfl (Nat.le_of_ble_eq_true rfl) rfl (Nat.le_of_ble_eq_true rfl) dX12_mayBe_83 ?_
          refine Ci.mono h ?_
          intro x8 M8 h
          refine V_if_eq (tgt := 111) (pc := 86) dX12_mayBe_86 rfl (fun c => ?_) (fun c => ?_)
          · have h := h.1 c
            refine V_iconst (v := 1) (pc := 111) dX12_mayBe_111 rfl ?_
            refine V_goto (tgt := 116) (pc := 112) dX12_mayBe_112 rfl ?_
            exact V_zret dX12_mayBe_116 rfl (Or.inr rfl) h
          · have h := h.2 c
            refine V_aload_n (pc := 89) dX12_mayBe_89 rfl ?_
            refine V_iload_n (pc := 90) dX12_mayBe_90 rfl ?_
            refine V_callVi [.int v1] (pc := 91) kX12_gathered lX12_246 sM0 rfl rfl (Nat.le_of_ble_eq_true rfl) rfl (Nat.le_of_ble_eq_true rfl) dX12_mayBe_91 ?_
            refine Ci.mono h ?_
            intro x9 M9 h
            refine V_aload_n (pc := 94) dX12_mayBe_94 rfl ?_
            refine V_iload_n (pc := 95) dX12_mayBe_95 rfl ?_
            refine V_callVi [.int v2] (pc := 96) kX12_gathered lX12_246 sM0 rfl rfl (Nat.le_of_ble_eq_true rfl) rfl (Nat.le_of_ble_eq_true rfl) dX12_mayBe_96 ?_
            refine Ci.mono h ?_
            intro x10 M10 h
            refine V_icmp_ne (tgt := 111) (pc := 99) dX12_mayBe_99 rfl (fun c => ?_) (fun c => ?_)
            · have h := h.1 c
              refine V_iconst (v := 1) (pc := 111) dX12_mayBe_111 rfl ?_
              refine V_goto (tgt := 116) (pc := 112) dX12_mayBe_112 rfl ?_
              exact V_zret dX12_mayBe_116 rfl (Or.inr rfl) h
            · have h := h.2 c
              refine V_aload_n (pc := 102) dX12_mayBe_102 rfl ?_
              refine V_iload_n (pc := 103) dX12_mayBe_103 rfl ?_
              refine V_iload_n (pc := 104) dX12_mayBe_104 rfl ?_
              refine V_callVi [.int v1, .int v2] (pc := 105) kX12_isOneDoor lX12_295 sM0 rfl rfl (Nat.le_of_ble_eq_true rfl) rfl (Nat.le_of_ble_eq_true rfl) dX12_mayBe_105 ?_
              refine Ci.mono h ?_
              intro x11 M11 h
              refine V_if_eq (tgt := 115) (pc := 108) dX12_mayBe_108 rfl (fun c => ?_) (fun c => ?_)
              · have h := h.1 c
                refine V_iconst (v := 0) (pc := 115) dX12_mayBe_115 rfl ?_
                exact V_zret dX12_mayBe_116 rfl (Or.inl rfl) h
              · have h := h.2 c
                refine V_iconst (v := 1) (pc := 111) dX12_mayBe_111 rfl ?_
                refine V_goto (tgt := 116) (pc := 112) dX12_mayBe_112 rfl ?_
                exact V_zret dX12_mayBe_116 rfl (Or.inr rfl) h
      · have h := h.2 c
        refine V_aload_n (pc := 33) dX12_mayBe_33 rfl ?_
        refine V_getR (pc := 34) fX12_44 sM0 rfl dX12_mayBe_34 ?_
        refine V_iload_n (pc := 37) dX12_mayBe_37 rfl ?_
        refine V_iald (pc := 38) sM12 dX12_mayBe_38 h.1 ?_
        have h := h.2
        refine V_aload_n (pc := 39) dX12_mayBe_39 rfl ?_
        refine V_getR (pc := 40) fX12_44 sM0 rfl dX12_mayBe_40 ?_
        refine V_iload_n (pc := 43) dX12_mayBe_43 rfl ?_
        refine V_iald (pc := 44) sM12 dX12_mayBe_44 h.1 ?_
        have h := h.2
        refine V_isub (pc := 45) dX12_mayBe_45 ?_
        refine V_aload_n (pc := 46) dX12_mayBe_46 rfl ?_
        refine V_iload_n (pc := 47) dX12_mayBe_47 rfl ?_
        refine V_callVi [.int v1] (pc := 48) kX12_gathered lX12_246 sM0 rfl rfl (Nat.le_of_ble_eq_true rfl) rfl (Nat.le_of_ble_eq_true rfl) dX12_mayBe_48 ?_
        refine Ci.mono h ?_
        intro x12 M12 h
        refine V_aload_n (pc := 51) dX12_mayBe_51 rfl ?_
        refine V_iload_n (pc := 52) dX12_mayBe_52 rfl ?_
        refine V_callVi [.int v2] (pc := 53) kX12_gathered lX12_246 sM0 rfl rfl (Nat.le_of_ble_eq_true rfl) rfl (Nat.le_of_ble_eq_true rfl) dX12_mayBe_53 ?_
        refine Ci.mono h ?_
        intro x13 M13 h
        refine V_isub (pc := 56) dX12_mayBe_56 ?_
        refine V_isub (pc := 57) dX12_mayBe_57 ?_
        refine V_i2l (pc := 58) dX12_mayBe_58 ?_
        refine V_ldc2 (pc := 59) dX12_mayBe_59 nX12_290 ?_
        refine V_ldc2 (pc := 62) dX12_mayBe_62 nX12_126 ?_
        refine V_callSi [.long (Int32.toInt64 (((M1.1 12 (ix v1)) - (M1.1 12 (ix v2))) - (x12 - x13))), .long (-2), .long 2] (pc := 65) kX12_in lX12_118 rfl (Nat.le_of_ble_eq_true rfl) rfl (Nat.le_of_ble_eq_true rfl) dX12_mayBe_65 ?_
        refine Ci.mono h ?_
        intro x14 M14 h
        refine V_if_ne (tgt := 73) (pc := 68) dX12_mayBe_68 rfl (fun c => ?_) (fun c => ?_)
        · have h := h.1 c
          refine V_aload_n (pc := 73) dX12_mayBe_73 rfl ?_
          refine V_iload_n (pc := 74) dX12_mayBe_74 rfl ?_
          refine V_callVi [.int v1] (pc := 75) kX12_isHome lX12_292 sM0 rfl rfl (Nat.le_of_ble_eq_true rfl) rfl (Nat.le_of_ble_eq_true rfl) dX12_mayBe_75 ?_
          refine Ci.mono h ?_
          intro x15 M15 h
          refine V_if_eq (tgt := 111) (pc := 78) dX12_mayBe_78 rfl (fun c => ?_) (fun c => ?_)
          · have h := h.1 c
            refine V_iconst (v := 1) (pc := 111) dX12_mayBe_111 rfl ?_
            refine V_goto (tgt := 116) (pc := 112) dX12_mayBe_112 rfl ?_
            exact V_zret dX12_mayBe_116 rfl (Or.inr rfl) h
          · have h := h.2 c
            refine V_aload_n (pc := 81) dX12_mayBe_81 rfl ?_
            refine V_iload_n (pc := 82) dX12_mayBe_82 rfl ?_
            refine V_callVi [.int v2] (pc := 83) kX12_isHome lX12_292 sM0 rfl rfl (Nat.le_of_ble_eq_true rfl) rfl (Nat.le_of_ble_eq_true rfl) dX12_mayBe_83 ?_
            refine Ci.mono h ?_
            intro x16 M16 h
            refine V_if_eq (tgt := 111) (pc := 86) dX12_mayBe_86 rfl (fun c => ?_) (fun c => ?_)
            · have h := h.1 c
              refine V_iconst (v := 1) (pc := 111) dX12_mayBe_111 rfl ?_
              refine V_goto (tgt := 116) (pc := 112) dX12_mayBe_112 rfl ?_
              exact V_zret dX12_mayBe_116 rfl (Or.inr rfl) h
            · have h := h.2 c
              refine V_aload_n (pc := 89) dX12_mayBe_89 rfl ?_
              refine V_iload_n (pc := 90) dX12_mayBe_90 rfl ?_
              refine V_callVi [.int v1] (pc := 91) kX12_gathered lX12_246 sM0 rfl rfl (Nat.le_of_ble_eq_true rfl) rfl (Nat.le_of_ble_eq_true rfl) dX12_mayBe_91 ?_
              refine Ci.mono h ?_
              intro x17 M17 h
              refine V_aload_n (pc := 94) dX12_mayBe_94 rfl ?_
              refine V_iload_n (pc := 95) dX12_mayBe_95 rfl ?_
              refine V_callVi [.int v2] (pc := 96) kX12_gathered lX12_246 sM0 rfl rfl (Nat.le_of_ble_eq_true rfl) rfl (Nat.le_of_ble_eq_true rfl) dX12_mayBe_96 ?_
              refine Ci.mono h ?_
              intro x18 M18 h
              refine V_icmp_ne (tgt := 111) (pc := 99) dX12_mayBe_99 rfl (fun c => ?_) (fun c => ?_)
              · have h := h.1 c
                refine V_iconst (v := 1) (pc := 111) dX12_mayBe_111 rfl ?_
                refine V_goto (tgt := 116) (pc := 112) dX12_mayBe_112 rfl ?_
                exact V_zret dX12_mayBe_116 rfl (Or.inr rfl) h
              · have h := h.2 c
                refine V_aload_n (pc := 102) dX12_mayBe_102 rfl ?_
                refine V_iload_n (pc := 103) dX12_mayBe_103 rfl ?_
                refine V_iload_n (pc := 104) dX12_mayBe_104 rfl ?_
                refine V_callVi [.int v1, .int v2] (pc := 105) kX12_isOneDoor lX12_295 sM0 rfl rfl (Nat.le_of_ble_eq_true rfl) rfl (Nat.le_of_ble_eq_true rfl) dX12_mayBe_105 ?_
                refine Ci.mono h ?_
                intro x19 M19 h
                refine V_if_eq (tgt := 115) (pc := 108) dX12_mayBe_108 rfl (fun c => ?_) (fun c => ?_)
                · have h := h.1 c
                  refine V_iconst (v := 0) (pc := 115) dX12_mayBe_115 rfl ?_
                  exact V_zret dX12_mayBe_116 rfl (Or.inl rfl) h
                · have h := h.2 c
                  refine V_iconst (v := 1) (pc := 111) dX12_mayBe_111 rfl ?_
                  refine V_goto (tgt := 116) (pc := 112) dX12_mayBe_112 rfl ?_
                  exact V_zret dX12_mayBe_116 rfl (Or.inr rfl) h
        · have h := h.2 c
          refine V_iconst (v := 0) (pc := 71) dX12_mayBe_71 rfl ?_
          exact V_zret dX12_mayBe_72 rfl (Or.inl rfl) h
  · have h := h.2 c
    refine V_iconst (v := 0) (pc := 9) dX12_mayBe_9 rfl ?_
    exact V_zret dX12_mayBe_10 rfl (Or.inl rfl) h
