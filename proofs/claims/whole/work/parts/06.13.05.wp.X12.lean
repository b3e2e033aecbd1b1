theorem wp_X12_walks {G : GV} {k : Nat} {M : Mem} {q : Int32 → Mem → Prop} {v1 : Int32} {v2 : Int32} {v3 : Int32} (h : Ci shM G mX12_isSheet (k + 1) [.int v1] (mset M 0 0 0) (fun x1 M1 => ((x1 = 0 → q (-1000001) M1) ∧ (¬ x1 = 0 → Ci shM G mX12_in (k + 1) [.long (Int32.toInt64 v3), .long 1, .long 20] M1 (fun x2 M2 => ((x2 ≠ 0 → vp_in v1 8 ∧ ((0 ≤ (M2.1 1 (ix v1)) → ((v2 < 0 → Ci shM G mX12_finding (k + 1) [.ref (G.2.1 0), .int 2] M2 (fun x3 M3 => q x3 M3)) ∧ (¬ v2 < 0 → vp_in v1 8 ∧ ((((Int32.toInt64 v2) + (Int32.toInt64 (3 * v3))) ≤ (Int32.toInt64 (M2.1 2 (ix v1))) → V shM G mX12_walks (k + 2) 81 [(0, .ref (G.2.1 0)), (1, .int v1), (2, .int v2), (3, .int v3), (4, .int ((60 * v1) + v2)), (5, .int 0)] [] M2 (Qi q)) ∧ (¬ ((Int32.toInt64 v2) + (Int32.toInt64 (3 * v3))) ≤ (Int32.toInt64 (M2.1 2 (ix v1))) → Ci shM G mX12_finding (k + 1) [.ref (G.2.1 0), .int 2] M2 (fun x4 M4 => q x4 M4)))))) ∧ (¬ 0 ≤ (M2.1 1 (ix v1)) → Ci shM G mX12_finding (k + 1) [.ref (G.2.1 0), .int 1] M2 (fun x5 M5 => q x5 M5)))) ∧ (x2 = 0 → q (-1000001) M2))))))) : Ci shM G mX12_walks (k + 2) [.ref (G.2.1 0), .int v1, .int v2, .int v3] M q := by
  unfold Ci
  show V _ _ _ _ _ [(0, .ref (G.2.1 0)), (1, .int v1), (2, .int v2), (3, .int v3)] _ _ _
  refine V_aload_n (pc := 0) dX12_walks_0 rfl ?_
  refine V_iconst (v := 0) (pc := 1) dX12_walks_1 rfl ?_
  refine V_putI (pc := 2) fX12_108 p12_0 sM0 rfl dX12_walks_2 ?_
  refine V_iload_n (pc := 5) dX12_walks_5 rfl ?_
  refine V_callSi [.int v1] (pc := 6) kX12_isSheet lX12_122 rfl (Nat.le_of_ble_eq_true rfl) rfl (Nat.le_of_ble_eq_true rfl) dX12_walks_6 ?_
  refine Ci.mono h ?_
  intro x1 M1 h
  refine V_if_eq (tgt := 24) (pc := 9) dX12_walks_9 rfl (fun c => ?_) (fun c => ?_)
  · have h := h.1 c
    refine V_ldc (pc := 24) dX12_walks_24 nX12_128 ?_
    exact V_iret dX12_walks_26 rfl h
  · have h := h.2 c
    refine V_iload_n (pc := 12) dX12_walks_12 rfl ?_
    refine V_i2l (pc := 13) dX12_walks_13 ?_
    refine V_lconst (v := 1) (pc := 14) dX12_walks_14 rfl ?_
    refine V_ldc2 (pc := 15) dX12_walks_15 nX12_271 ?_
    refine V_callSi [.long (Int32.toInt64 v3), .long 1, .long 20] (pc := 18) kX12_in lX12_118 rfl (Nat.le_of_ble_eq_true rfl) rfl (Nat.le_of_ble_eq_true rfl) dX12_walks_18 ?_
    refine Ci.mono h ?_
    intro x2 M2 h
    refine V_if_ne (tgt := 27) (pc := 21) dX12_walks_21 rfl (fun c => ?_) (fun c => ?_)
    · have h := h.1 c
      refine V_aload_n (pc := 27) dX12_walks_27 rfl ?_
      refine V_getR (pc := 28) fX12_7 sM0 rfl dX12_walks_28 ?_
      refine V_iload_n (pc := 31) dX12_walks_31 rfl ?_
      refine V_iald (pc := 32) sM1 dX12_walks_32 h.1 ?_
      have h := h.2
      refine V_if_ge (tgt := 42) (pc := 33) dX12_walks_33 rfl (fun c => ?_) (fun c => ?_)
      · have h := h.1 c
        refine V_iload_n (pc := 42) dX12_walks_42 rfl ?_
        refine V_if_lt (tgt := 64) (pc := 43) dX12_walks_43 rfl (fun c => ?_) (fun c => ?_)
        · have h := h.1 c
          refine V_aload_n (pc := 64) dX12_walks_64 rfl ?_
          refine V_iconst (v := 2) (pc := 65) dX12_walks_65 rfl ?_
          refine V_callVi [.int 2] (pc := 66) kX12_finding lX12_129 sM0 rfl rfl (Nat.le_of_ble_eq_true rfl) rfl (Nat.le_of_ble_eq_true rfl) dX12_walks_66 ?_
          refine Ci.mono h ?_
          intro x3 M3 h
          exact V_iret dX12_walks_69 rfl h
        · have h := h.2 c
          refine V_iload_n (pc := 46) dX12_walks_46 rfl ?_
          refine V_i2l (pc := 47) dX12_walks_47 ?_
          refine V_iconst (v := 3) (pc := 48) dX12_walks_48 rfl ?_
          refine V_iload_n (pc := 49) dX12_walks_49 rfl ?_
          refine V_imul (pc := 50) dX12_walks_50 ?_
          refine V_i2l (pc := 51) dX12_walks_51 ?_
          refine V_ladd (pc := 52) dX12_walks_52 ?_
          refine V_aload_n (pc := 53) dX12_walks_53 rfl ?_
          refine V_getR (pc := 54) fX12_13 sM0 rfl dX12_walks_54 ?_
          refine V_iload_n (pc := 57) dX12_walks_57 rfl ?_
          refine V_iald (pc := 58) sM2 dX12_walks_58 h.1 ?_
          have h := h.2
          refine V_i2l (pc := 59) dX12_walks_59 ?_
          refine V_lif_le (tgt := 70) (pc := 60) dX12_walks_60 dX12_walks_61 rfl (fun c => ?_) (fun c => ?_)
          · have h := h.1 c
            refine V_bipush (v := 60) (pc := 70) dX12_walks_70 rfl ?_
            refine V_iload_n (pc := 72) dX12_walks_72 rfl ?_
            refine V_imul (pc := 73) dX12_walks_73 ?_
            refine V_iload_n (pc := 74) dX12_walks_74 rfl ?_
            refine V_iadd (pc := 75) dX12_walks_75 ?_
            refine V_istore (pc := 76) dX12_walks_76 (by decide) ?_
            refine V_lv (lv2 := [(0, .ref (G.2.1 0)), (1, .int v1), (2, .int v2), (3, .int v3), (4, .int ((60 * v1) + v2))]) rfl ?_
            refine V_iconst (v := 0) (pc := 78) dX12_walks_78 rfl ?_
            refine V_istore (pc := 79) dX12_walks_79 (by decide) ?_
            refine V_lv (lv2 := [(0, .ref (G.2.1 0)), (1, .int v1), (2, .int v2), (3, .int v3), (4, .int ((60 * v1) + v2)), (5, .int 0)]) rfl ?_
            exact V_sub h ⟨rfl, rfl, rfl, rfl, rfl, rfl, trivial⟩
          · have h := h.2 c
            refine V_aload_n (pc := 64) dX12_walks_64 rfl ?_
            refine V_iconst (v := 2) (pc := 65) dX12_walks_65 rfl ?_
            refine V_callVi [.int 2] (pc := 66) kX12_finding lX12_129 sM0 rfl rfl (Nat.le_of_ble_eq_true rfl) rfl (Nat.le_of_ble_eq_true rfl) dX12_walks_66 ?_
            refine Ci.mono h ?_
            intro x4 M4 h
            exact V_iret dX12_walks_69 rfl h
      · have h := h.2 c
        refine V_aload_n (pc := 36) dX12_walks_36 rfl ?_
        refine V_iconst (v := 1) (pc := 37) dX12_walks_37 rfl ?_
        refine V_callVi [.int 1] (pc := 38) kX12_finding lX12_129 sM0 rfl rfl (Nat.le_of_ble_eq_true rfl) rfl (Nat.le_of_ble_eq_true rfl) dX12_walks_38 ?_
        refine Ci.mono h ?_
        intro x5 M5 h
        exact V_iret dX12_walks_41 rfl h
    · have h := h.2 c
      refine V_ldc (pc := 24) dX12_walks_24 nX12_128 ?_
      exact V_iret dX12_walks_26 rfl h
theorem wp_X12_walks_81 {G : GV} {k : Nat} {M : Mem} {q : Int32 → Mem → Prop} {v1 : Int32} {v2 : Int32} {v3 : Int32} {v4 : Int32} {v5 : Int32} (h : ((v3 ≤ v5 → V shM G mX12_walks (k + 2) 153 [(0, .ref (G.2.1 0)), (1, .int v1), (2, .int v2), (3, .int v3), (4, .int v4), (5, .int 0), (6, .int 0)] [] (mset M 0 1 0) (Qi q)) ∧ (¬ v3 ≤ v5 → vp_in (v4 + (3 * v5)) 480 ∧ vp_in ((v4 + (3 * v5)) + 1) 480 ∧ vp_in ((v4 + (3 * v5)) + 2) 480 ∧ Ci shM G mX12_isAddress (k + 1) [.int (M.1 3 (ix (v4 + (3 * v5)))), .int (M.1 3 (ix ((v4 + (3 * v5)) + 1))), .int (M.1 3 (ix ((v4 + (3 * v5)) + 2)))] M (fun x1 M1 => ((x1 ≠ 0 → V shM G mX12_walks (k + 2) 81 [(0, .ref (G.2.1 0)), (1, .int v1), (2, .int v2), (3, .int v3), (4, .int v4), (5, .int (v5 + 1))] [] M1 (Qi q)) ∧ (x1 = 0 → q (-1000001) M1)))))) : V shM G mX12_walks (k + 2) 81 [(0, .ref (G.2.1 0)), (1, .int v1), (2, .int v2), (3, .int v3), (4, .int v4), (5, .int v5)] [] M (Qi q) := by
  refine V_iload (pc := 81) dX12_walks_81 rfl ?_
  refine V_iload_n (pc := 83) dX12_walks_83 rfl ?_
  refine V_icmp_ge (tgt := 142) (pc := 84) dX12_walks_84 rfl (fun c => ?_) (fun c => ?_)
  · have h := h.1 c
    refine V_aload_n (pc := 142) dX12_walks_142 rfl ?_
    refine V_iconst (v := 0) (pc := 143) dX12_walks_143 rfl ?_
    refine V_putI (pc := 144) fX12_112 p12_1 sM0 rfl dX12_walks_144 ?_
    refine V_iconst (v := 0) (pc := 147) dX12_walks_147 rfl ?_
    refine V_istore (pc := 148) dX12_walks_148 (by decide) ?_
    refine V_lv (lv2 := [(0, .ref (G.2.1 0)), (1, .int v1), (2, .int v2), (3, .int v3), (4, .int v4), (5, .int 0)]) rfl ?_
    refine V_iconst (v := 0) (pc := 150) dX12_walks_150 rfl ?_
    refine V_istore (pc := 151) dX12_walks_151 (by decide) ?_
    refine V_lv (lv2 := [(0, .ref (G.2.1 0)), (1, .int v1), (2, .int v2), (3, .int v3), (4, .int v4), (5, .int 0), (6, .int 0)]) rfl ?_
    exact V_sub h ⟨rfl, rfl, rfl, rfl, rfl, rfl, rfl, trivial⟩
  · have h := h.2 c
    refine V_aload_n (pc := 87) dX12_walks_87 rfl ?_
    refine V_getR (pc := 88) fX12_16 sM0 rfl dX12_walks_88 ?_
    refine V_iload (pc := 91) dX12_walks_91 rfl ?_
    refine V_iconst (v := 3) (pc := 93) dX12_walks_93 rfl ?_
    refine V_iload (pc := 94) dX12_walks_94 rfl ?_
    refine V_imul (pc := 96) dX12_walks_96 ?_
    refine V_iadd (pc := 97) dX12_walks_97 ?_
    refine V_iald (pc := 98) sM3 dX12_walks_98 h.1 ?_
    have h := h.2
    refine V_aload_n (pc := 99) dX12_walks_99 rfl ?_
    refine V_getR (pc := 100) fX12_16 sM0 rfl dX12_walks_100 ?_
    refine V_iload (pc := 103) dX12_walks_103 rfl ?_
    refine V_iconst (v := 3) (pc := 105) dX12_walks_105 rfl ?_
    refine V_iload (pc := 106) dX12_walks_106 rfl ?_
    refine V_imul (pc := 108) dX12_walks_108 ?_
    refine V_iadd (pc := 109) dX12_walks_109 ?_
    refine V_iconst (v := 1) (pc := 110) dX12_walks_110 rfl ?_
    refine V_iadd (pc := 111) dX12_walks_111 ?_
    refine V_iald (pc := 112) sM3 dX12_walks_112 h.1 ?_
    have h := h.2
    refine V_aload_n (pc := 113) dX12_walks_113 rfl ?_
    refine V_getR (pc := 114) fX12_16 sM0 rfl dX12_walks_114 ?_
    refine V_iload (pc := 117) dX12_walks_117 rfl ?_
    refine V_iconst (v := 3) (pc := 119) dX12_walks_119 rfl ?_
    refine V_iload (pc := 120) dX12_walks_120 rfl ?_
    refine V_imul (pc := 122) dX12_walks_122 ?_
    refine V_iadd (pc := 123) dX12_walks_123 ?_
    refine V_iconst (v := 2) (pc := 124) dX12_walks_124 rfl ?_
    refine V_iadd (pc := 125) dX12_walks_125 ?_
    refine V_iald (pc := 126) sM3 dX12_walks_126 h.1 ?_
    have h := h.2
    refine V_callSi [.int (M.1 3 (ix (v4 + (3 * v5)))), .int (M.1 3 (ix ((v4 + (3 * v5)) + 1))), .int (M.1 3 (ix ((v4 + (3 * v5)) + 2)))] (pc := 127) kX12_isAddress lX12_267 rfl (Nat.le_of_ble_eq_true rfl) rfl (Nat.le_of_ble_eq_true rfl) dX12_walks_127 ?_
    refine Ci.mono h ?_
    intro x1 M1 h
    refine V_if_ne (tgt := 136) (pc := 130) dX12_walks_130 rfl (fun c => ?_) (fun c => ?_)
    · have h := h.1 c
      refine V_iinc (pc := 136) dX12_walks_136 rfl (by decide) ?_
      refine V_lv (lv2 := [(0, .ref (G.2.1 0)), (1, .int v1), (2, .int v2), (3, .int v3), (4, .int v4), (5, .int (v5 + 1))]) rfl ?_
      refine V_goto (tgt := 81) (pc := 139) dX12_walks_139 rfl ?_
      exact V_sub h ⟨rfl, rfl, rfl, rfl, rfl, rfl, trivial⟩
    · have h := h.2 c
      refine V_ldc (pc := 133) dX12_walks_133 nX12_128 ?_
      exact V_iret dX12_walks_135 rfl h
theorem wp_X12_walks_153 {G : GV} {k : Nat} {M : Mem} {q : Int32 → Mem → Prop} {v1 : Int32} {v2 : Int32} {v3 : Int32} {v4 : Int32} {v5 : Int32} {v6 : Int32} (h : ((v3 ≤ v6 → q v5 M) ∧ (¬ v3 ≤ v6 → vp_in (v4 + (3 * v6)) 480 ∧ vp_in ((v4 + (3 * v6)) + 1) 480 ∧ vp_in ((v4 + (3 * v6)) + 2) 480 ∧ Ci shM G mX12_todayOf (k + 1) [.ref (G.2.1 0), .int (M.1 3 (ix (v4 + (3 * v6)))), .int (M.1 3 (ix ((v4 + (3 * v6)) + 1))), .int (M.1 3 (ix ((v4 + (3 * v6)) + 2)))] M (fun x1 M1 => V shM G mX12_walks (k + 2) 211 [(0, .ref (G.2.1 0)), (1, .int v1), (2, .int v2), (3, .int v3), (4, .int v4), (5, .int v5), (6, .int v6), (7, .int 0), (8, .int x1), (9, .int 0)] [] M1 (Qi q))))) : V shM G mX12_walks (k + 2) 153 [(0, .ref (G.2.1 0)), (1, .int v1), (2, .int v2), (3, .int v3), (4, .int v4), (5, .int v5), (6, .int v6)] [] M (Qi q) := by
  refine V_iload (pc := 153) dX12_walks_153 rfl ?_
  refine V_iload_n (pc := 155) dX12_walks_155 rfl ?_
  refine V_icmp_ge (tgt := 339) (pc := 156) dX12_walks_156 rfl (fun c => ?_) (fun c => ?_)
  · have h := h.1 c
    refine V_iload (pc := 339) dX12_walks_339 rfl ?_
    exact V_iret dX12_walks_341 rfl h
  · have h := h.2 c
    refine V_iconst (v := 0) (pc := 159) dX12_walks_159 rfl ?_
    refine V_istore (pc := 160) dX12_walks_160 (by decide) ?_
    refine V_lv (lv2 := [(0, .ref (G.2.1 0)), (1, .int v1), (2, .int v2), (3, .int v3), (4, .int v4), (5, .int v5), (6, .int v6), (7, .int 0)]) rfl ?_
    refine V_aload_n (pc := 162) dX12_walks_162 rfl ?_
    refine V_aload_n (pc := 163) dX12_walks_163 rfl ?_
    refine V_getR (pc := 164) fX12_16 sM0 rfl dX12_walks_164 ?_
    refine V_iload (pc := 167) dX12_walks_167 rfl ?_
    refine V_iconst (v := 3) (pc := 169) dX12_walks_169 rfl ?_
    refine V_iload (pc := 170) dX12_walks_170 rfl ?_
    refine V_imul (pc := 172) dX12_walks_172 ?_
    refine V_iadd (pc := 173) dX12_walks_173 ?_
    refine V_iald (pc := 174) sM3 dX12_walks_174 h.1 ?_
    have h := h.2
    refine V_aload_n (pc := 175) dX12_walks_175 rfl ?_
    refine V_getR (pc := 176) fX12_16 sM0 rfl dX12_walks_176 ?_
    refine V_iload (pc := 179) dX12_walks_179 rfl ?_
    refine V_iconst (v := 3) (pc := 181) dX12_walks_181 rfl ?_
    refine V_iload (pc := 182) dX12_walks_182 rfl ?_
    refine V_imul (pc := 184) dX12_walks_184 ?_
    refine V_iadd (pc := 185) dX12_walks_185 ?_
    refine V_iconst (v := 1) (pc := 186) dX12_walks_186 rfl ?_
    refine V_iadd (pc := 187) dX12_walks_187 ?_
    refine V_iald (pc := 188) sM3 dX12_walks_188 h.1 ?_
    have h := h.2
    refine V_aload_n (pc := 189) dX12_walks_189 rfl ?_
    refine V_getR (pc := 190) fX12_16 sM0 rfl dX12_walks_190 ?_
    refine V_iload (pc := 193) dX12_walks_193 rfl ?_
    refine V_iconst (v := 3) (pc := 195) dX12_walks_195 rfl ?_
    refine V_iload (pc := 196) dX12_walks_196 rfl ?_
    refine V_imul (pc := 198) dX12_walks_198 ?_
    refine V_iadd (pc := 199) dX12_walks_199 ?_
    refine V_iconst (v := 2) (pc := 200) dX12_walks_200 rfl ?_
    refine V_iadd (pc := 201) dX12_walks_201 ?_
    refine V_iald (pc := 202) sM3 dX12_walks_202 h.1 ?_
    have h := h.2
    refine V_callVi [.int (M.1 3 (ix (v4 + (3 * v6)))), .int (M.1 3 (ix ((v4 + (3 * v6)) + 1))), .int (M.1 3 (ix ((v4 + (3 * v6)) + 2)))] (pc := 203) kX12_todayOf lX12_249 sM0 rfl rfl (Nat.le_of_ble_eq_true rfl) rfl (Nat.le_of_ble_eq_true rfl) dX12_walks_203 ?_
    refine Ci.mono h ?_
    intro x1 M1 h
    refine V_istore (pc := 206) dX12_walks_206 (by decide) ?_
    refine V_lv (lv2 := [(0, .ref (G.2.1 0)), (1, .int v1), (2, .int v2), (3, .int v3), (4, .int v4), (5, .int v5), (6, .int v6), (7, .int 0), (8, .int x1)]) rfl ?_
    refine V_iconst (v := 0) (pc := 208) dX12_walks_208 rfl ?_
    refine V_istore (pc := 209) dX12_walks_209 (by decide) ?_
    refine V_lv (lv2 := [(0, .ref (G.2.1 0)), (1, .int v1), (2, .int v2), (3, .int v3), (4, .int v4), (5, .int v5), (6, .int v6), (7, .int 0), (8, .int x1), (9, .int 0)]) rfl ?_
    exact V_sub h ⟨rfl, rfl, rfl, rfl, rfl, rfl, rfl, rfl, rfl, rfl, trivial⟩
theorem wp_X12_walks_211 {G : GV} {k : Nat} {M : Mem} {q : Int32 → Mem → Prop} {v1 : Int32} {v2 : Int32} {v3 : Int32} {v4 : Int32} {v5 : Int32} {v6 : Int32} {v7 : Int32} {v8 : Int32} {v9 : Int32} (h : ((v3 ≤ v9 → ((v7 = 0 → V shM G mX12_walks (k + 2) 153 [(0, .ref (G.2.1 0)), (1, .int v1), (2, .int v2), (3, .int v3), (4, .int v4), (5, .int (v5 + 0)), (6, .int (v6 + 1))] [] M (Qi q)) ∧ (¬ v7 = 0 → V shM G mX12_walks (k + 2) 153 [(0, .ref (G.2.1 0)), (1, .int v1), (2, .int v2), (3, .int v3), (4, .int v4), (5, .int (v5 + 1)), (6, .int (v6 + 1))] [] M (Qi q)))) ∧ (¬ v3 ≤ v9 → ((v7 ≠ 0 → V shM G mX12_walks (k + 2) 211 [(0, .ref (G.2.1 0)), (1, .int v1), (2, .int v2), (3, .int v3), (4, .int v4), (5, .int v5), (6, .int v6), (7, .int 1), (8, .int v8), (9, .int (v9 + 1))] [] M (Qi q)) ∧ (v7 = 0 → ((v9 = v6 → V shM G mX12_walks (k + 2) 211 [(0, .ref (G.2.1 0)), (1, .int v1), (2, .int v2), (3, .int v3), (4, .int v4), (5, .int v5), (6, .int v6), (7, .int 0), (8, .int v8), (9, .int (v9 + 1))] [] M (Qi q)) ∧ (¬ v9 = v6 → vp_in (v4 + (3 * v6)) 480 ∧ vp_in (v4 + (3 * v9)) 480 ∧ (((M.1 3 (ix (v4 + (3 * v6)))) ≠ (M.1 3 (ix (v4 + (3 * v9)))) → V shM G mX12_walks (k + 2) 211 [(0, .ref (G.2.1 0)), (1, .int v1), (2, .int v2), (3, .int v3), (4, .int v4), (5, .int v5), (6, .int v6), (7, .int 0), (8, .int v8), (9, .int (v9 + 1))] [] M (Qi q)) ∧ ((M.1 3 (ix (v4 + (3 * v6)))) = (M.1 3 (ix (v4 + (3 * v9)))) → vp_in (v4 + (3 * v9)) 480 ∧ vp_in ((v4 + (3 * v9)) + 1) 480 ∧ vp_in ((v4 + (3 * v9)) + 2) 480 ∧ Ci shM G mX12_todayOf (k + 1) [.ref (G.2.1 0), .int (M.1 3 (ix (v4 + (3 * v9)))), .int (M.1 3 (ix ((v4 + (3 * v9)) + 1))), .int (M.1 3 (ix ((v4 + (3 * v9)) + 2)))] M (fun x1 M1 => ((x1 ≠ v8 → V shM G mX12_walks (k + 2) 211 [(0, .ref (G.2.1 0)), (1, .int v1), (2, .int v2), (3, .int v3), (4, .int v4), (5, .int v5), (6, .int v6), (7, .int 0), (8, .int v8), (9, .int (v9 + 1))] [] M1 (Qi q)) ∧ (x1 = v8 → V shM G mX12_walks (k + 2) 211 [(0, .ref (G.2.1 0)), (1, .int v1), (2, .int v2), (3, .int v3), (4, .int v4), (5, .int v5), (6, .int v6), (7, .int 1), (8, .int v8), (9, .int (v9 + 1))] [] M1 (Qi q))))))))))))) : V shM G mX12_walks (k + 2) 211 [(0, .ref (G.2.1 0)), (1, .int v1), (2, .int v2), (3, .int v3), (4, .int v4), (5, .int v5), (6, .int v6), (7, .int v7), (8, .int v8), (9, .int v9)] [] M (Qi q) := by
  refine V_iload (pc := 211) dX12_walks_211 rfl ?_
  refine V_iload_n (pc := 213) dX12_walks_213 rfl ?_
  refine V_icmp_ge (tgt := 318) (pc := 214) dX12_walks_214 rfl (fun c => ?_) (fun c => ?_)
  · have h := h.1 c
    refine V_iload (pc := 318) dX12_walks_318 rfl ?_
    refine V_iload (pc := 320) dX12_walks_320 rfl ?_
    refine V_if_eq (tgt := 329) (pc := 322) dX12_walks_322 rfl (fun c => ?_) (fun c => ?_)
    · have h := h.1 c
      refine V_iconst (v := 0) (pc := 329) dX12_walks_329 rfl ?_
      refine V_iadd (pc := 330) dX12_walks_330 ?_
      refine V_istore (pc := 331) dX12_walks_331 (by decide) ?_
      refine V_lv (lv2 := [(0, .ref (G.2.1 0)), (1, .int v1), (2, .int v2), (3, .int v3), (4, .int v4), (5, .int (v5 + 0)), (6, .int v6), (7, .int v7), (8, .int v8), (9, .int v9)]) rfl ?_
      refine V_iinc (pc := 333) dX12_walks_333 rfl (by decide) ?_
      refine V_lv (lv2 := [(0, .ref (G.2.1 0)), (1, .int v1), (2, .int v2), (3, .int v3), (4, .int v4), (5, .int (v5 + 0)), (6, .int (v6 + 1)), (7, .int v7), (8, .int v8), (9, .int v9)]) rfl ?_
      refine V_goto (tgt := 153) (pc := 336) dX12_walks_336 rfl ?_
      exact V_sub h ⟨rfl, rfl, rfl, rfl, rfl, rfl, rfl, trivial⟩
    · have h := h.2 c
      refine V_iconst (v := 1) (pc := 325) dX12_walks_325 rfl ?_
      refine V_goto (tgt := 330) (pc := 326) dX12_walks_326 rfl ?_
      refine V_iadd (pc := 330) dX12_walks_330 ?_
      refine V_istore (pc := 331) dX12_walks_331 (by decide) ?_
      refine V_lv (lv2 := [(0, .ref (G.2.1 0)), (1, .int v1), (2, .int v2), (3, .int v3), (4, .int v4), (5, .int (v5 + 1)), (6, .int v6), (7, .int v7), (8, .int v8), (9, .int v9)]) rfl ?_
      refine V_iinc (pc := 333) dX12_walks_333 rfl (by decide) ?_
      refine V_lv (lv2 := [(0, .ref (G.2.1 0)), (1, .int v1), (2, .int v2), (3, .int v3), (4, .int v4), (5, .int (v5 + 1)), (6, .int (v6 + 1)), (7, .int v7), (8, .int v8), (9, .int v9)]) rfl ?_
      refine V_goto (tgt := 153) (pc := 336) dX12_walks_336 rfl ?_
      exact V_sub h ⟨rfl, rfl, rfl, rfl, rfl, rfl, rfl, trivial⟩
  · have h := h.2 c
    refine V_iload (pc := 217) dX12_walks_217 rfl ?_
    refine V_if_ne (tgt := 305) (pc := 219) dX12_walks_219 rfl (fun c => ?_) (fun c => ?_)
    · have h := h.1 c
      refine V_iconst (v := 1) (pc := 305) dX12_walks_305 rfl ?_
      refine V_goto (tgt := 310) (pc := 306) dX12_walks_306 rfl ?_
      refine V_istore (pc := 310) dX12_walks_310 (by decide) ?_
      refine V_lv (lv2 := [(0, .ref (G.2.1 0)), (1, .int v1), (2, .int v2), (3, .int v3), (4, .int v4), (5, .int v5), (6, .int v6), (7, .int 1), (8, .int v8), (9, .int v9)]) rfl ?_
      refine V_iinc (pc := 312) dX12_walks_312 rfl (by decide) ?_
      refine V_lv (lv2 := [(0, .ref (G.2.1 0)), (1, .int v1), (2, .int v2), (3, .int v3), (4, .int v4), (5, .int v5), (6, .int v6), (7, .int 1), (8, .int v8), (9, .int (v9 + 1))]) rfl ?_
      refine V_goto (tgt := 211) (pc := 315) dX12_walks_315 rfl ?_
      exact V_sub h ⟨rfl, rfl, rfl, rfl, rfl, rfl, rfl, rfl, rfl, rfl, trivial⟩
    · have h := h.2 c
      refine V_iload (pc := 222) dX12_walks_222 rfl ?_
      refine V_iload (pc := 224) dX12_walks_224 rfl ?_
      refine V_icmp_eq (tgt := 309) (pc := 226) dX12_walks_226 rfl (fun c => ?_) (fun c => ?_)
      · have h := h.1 c
        refine V_iconst (v := 0) (pc := 309) dX12_walks_309 rfl ?_
        refine V_istore (pc := 310) dX12_walks_310 (by decide) ?_
        refine V_lv (lv2 := [(0, .ref (G.2.1 0)), (1, .int v1), (2, .int v2), (3, .int v3), (4, .int v4), (5, .int v5), (6, .int v6), (7, .int 0), (8, .int v8), (9, .int v9)]) rfl ?_
        refine V_iinc (pc := 312) dX12_walks_312 rfl (by decide) ?_
        refine V_lv (lv2 := [(0, .ref (G.2.1 0)), (1, .int v1), (2, .int v2), (3, .int v3), (4, .int v4), (5, .int v5), (6, .int v6), (7, .int 0), (8, .int v8), (9, .int (v9 + 1))]) rfl ?_
        refine V_goto (tgt := 211) (pc := 315) dX12_walks_315 rfl ?_
        exact V_sub h ⟨rfl, rfl, rfl, rfl, rfl, rfl, rfl, rfl, rfl, rfl, trivial⟩
      · have h := h.2 c
        refine V_aload_n (pc := 229) dX12_walks_229 rfl ?_
        refine V_getR (pc := 230) fX12_16 sM0 rfl dX12_walks_230 ?_
        refine V_iload (pc := 233) dX12_walks_233 rfl ?_
        refine V_iconst (v := 3) (pc := 235) dX12_walks_235 rfl ?_
        refine V_iload (pc := 236) dX12_walks_236 rfl ?_
        refine V_imul (pc := 238) dX12_walks_238 ?_
        refine V_iadd (pc := 239) dX12_walks_239 ?_
        refine V_iald (pc := 240) sM3 dX12_walks_240 h.1 ?_
        have h := h.2
        refine V_aload_n (pc := 241) dX12_walks_241 rfl ?_
        refine V_getR (pc := 242) fX12_16 sM0 rfl dX12_walks_242 ?_
        refine V_iload (pc := 245) dX12_walks_245 rfl ?_
        refine V_iconst (v := 3) (pc := 247) dX12_walks_247 rfl ?_
        refine V_iload (pc := 248) dX12_walks_248 rfl ?_
        refine V_imul (pc := 250) dX12_walks_250 ?_
        refine V_iadd (pc := 251) dX12_walks_251 ?_
        refine V_iald (pc := 252) sM3 dX12_walks_252 h.1 ?_
        have h := h.2
        refine V_icmp_ne (tgt := 309) (pc := 253) dX12_walks_253 rfl (fun c => ?_) (fun c => ?_)
        · have h := h.1 c
          refine V_iconst (v := 0) (pc := 309) dX12_walks_309 rfl ?_
          refine V_istore (pc := 310) dX12_walks_310 (by decide) ?_
          refine V_lv (lv2 := [(0, .ref (G.2.1 0)), (1, .int v1), (2, .int v2), (3, .int v3), (4, .int v4), (5, .int v5), (6, .int v6), (7, .int 0), (8, .int v8), (9, .int v9)]) rfl ?_
          refine V_iinc (pc := 312) dX12_walks_312 rfl (by decide) ?_
          refine V_lv (lv2 := [(0, .ref (G.2.1 0)), (1, .int v1), (2, .int v2), (3, .int v3), (4, .int v4), (5, .int v5), (6, .int v6), (7, .int 0), (8, .int v8), (9, .int (v9 + 1))]) rfl ?_
          refine V_goto (tgt := 211) (pc := 315) dX12_walks_315 rfl ?_
          exact V_sub h ⟨rfl, rfl, rfl, rfl, rfl, rfl, rfl, rfl, rfl, rfl, trivial⟩
        · have h := h.2 c
          refine V_aload_n (pc := 256) dX12_walks_256 rfl ?_
          refine V_aload_n (pc := 257) dX12_walks_257 rfl ?_
          refine V_getR (pc := 258) fX12_16 sM0 rfl dX12_walks_258 ?_
          refine V_iload (pc := 261) dX12_walks_261 rfl ?_
          refine V_iconst (v := 3) (pc := 263) dX12_walks_263 rfl ?_
          refine V_iload (pc := 264) dX12_walks_264 rfl ?_
          refine V_imul (pc := 266) dX12_walks_266 ?_
          refine V_iadd (pc := 267) dX12_walks_267 ?_
          refine V_iald (pc := 268) sM3 dX12_walks_268 h.1 ?_
          have h := h.2
          refine V_aload_n (pc := 269) dX12_walks_269 rfl ?_
          refine V_getR (pc := 270) fX12_16 sM0 rfl dX12_walks_270 ?_
          refine V_iload (pc := 273) dX12_walks_273 rfl ?_
          refine V_iconst (v := 3) (pc := 275) dX12_walks_275 rfl ?_
          refine V_iload (pc := 276) dX12_walks_276 rfl ?_
          refine V_imul (pc := 278) dX12_walks_278 ?_
          refine V_iadd (pc := 279) dX12_walks_279 ?_
          refine V_iconst (v := 1) (pc := 280) dX12_walks_280 rfl ?_
          refine V_iadd (pc := 281) dX12_walks_281 ?_
          refine V_iald (pc := 282) sM3 dX12_walks_282 h.1 ?_
          have h := h.2
          refine V_aload_n (pc := 283) dX12_walks_283 rfl ?_
          refine V_getR (pc := 284) fX12_16 sM0 rfl dX12_walks_284 ?_
          refine V_iload (pc := 287) dX12_walks_287 rfl ?_
          refine V_iconst (v := 3) (pc := 289) dX12_walks_289 rfl ?_
          refine V_iload (pc := 290) dX12_walks_290 rfl ?_
          refine V_imul (pc := 292) dX12_walks_292 ?_
          refine V_iadd (pc := 293) dX12_walks_293 ?_
          refine V_iconst (v := 2) (pc := 294) dX12_walks_294 rfl ?_
          refine V_iadd (pc := 295) dX12_walks_295 ?_
          refine V_iald (pc := 296) sM3 dX12_walks_296 h.1 ?_
          have h := h.2
          refine V_callVi [.int (M.1 3 (ix (v4 + (3 * v9)))), .int (M.1 3 (ix ((v4 + (3 * v9)) + 1))), .int (M.1 3 (ix ((v4 + (3 * v9)) + 2)))] (pc := 297) kX12_todayOf lX12_249 sM0 rfl rfl (Nat.le_of_ble_eq_true rfl) rfl (Nat.le_of_ble_eq_true rfl) dX12_walks_297 ?_
          refine Ci.mono h ?_
          intro x1 M1 h
          refine V_iload (pc := 300) dX12_walks_300 rfl ?_
          refine V_icmp_ne (tgt := 309) (pc := 302) dX12_walks_302 rfl (fun c => ?_) (fun c => ?_)
          · have h := h.1 c
            refine V_iconst (v := 0) (pc := 309) dX12_walks_309 rfl ?_
            refine V_istore (pc := 310) dX12_walks_310 (by decide) ?_
            refine V_lv (lv2 := [(0, .ref (G.2.1 0)), (1, .int v1), (2, .int v2), (3, .int v3), (4, .int v4), (5, .int v5), (6, .int v6), (7, .int 0), (8, .int v8), (9, .int v9)]) rfl ?_
            refine V_iinc (pc := 312) dX12_walks_312 rfl (by decide) ?_
            refine V_lv (lv2 := [(0, .ref (G.2.1 0)), (1, .int v1), (2, .int v2), (3, .int v3), (4, .int v4), (5, .int v5), (6, .int v6), (7, .int 0), (8, .int v8), (9, .int (v9 + 1))]) rfl ?_
            refine V_goto (tgt := 211) (pc := 315) dX12_walks_315 rfl ?_
            exact V_sub h ⟨rfl, rfl, rfl, rfl, rfl, rfl, rfl, rfl, rfl, rfl, trivial⟩
          · have h := h.2 c
            refine V_iconst (v := 1) (pc := 305) dX12_walks_305 rfl ?_
            refine V_goto (tgt := 310) (pc := 306) dX12_walks_306 rfl ?_
            refine V_istore (pc := 310) dX12_walks_310 (by decide) ?_
            refine V_lv (lv2 := [(0, .ref (G.2.1 0)), (1, .int v1), (2, .int v2), (3, .int v3), (4, .int v4), (5, .int v5), (6, .int v6), (7, .int 1), (8, .int v8), (9, .int v9)]) rfl ?_
            refine V_iinc (pc := 312) dX12_walks_312 rfl (by decide) ?_
            refine V_lv (lv2 := [(0, .ref (G.2.1 0)), (1, .int v1), (2, .int v2), (3, .int v3), (4, .int v4), (5, .int v5), (6, .int v6), (7, .int 1), (8, .int v8), (9, .int (v9 + 1))]) rfl ?_
            refine V_goto (tgt := 211) (pc := 315) dX12_walks_315 rfl ?_
            exact V_sub h ⟨rfl, rfl, rfl, rfl, rfl, rfl, rfl, rfl, rfl, rfl, trivial⟩
theorem wp_X12_count {G : GV} {k : Nat} {M : Mem} {q : Int32 → Mem → Prop} {v1 : Int32} (h : (((v1).toInt = 0 → V shM G mX12_count (k + 3) 58 [(0, .ref (G.2.1 0)), (1, .int v1), (2, .int 0), (3, .int 0)] [] (mset M 0 0 0) (Qi q)) ∧ ((v1).toInt = 1 → q (M.1 0 5) (mset M 0 0 0)) ∧ ((v1).toInt = 2 → q (M.1 0 10) (mset M 0 0 0)) ∧ ((v1).toInt = 3 → q (M.1 0 18) (mset M 0 0 0)) ∧ ((v1).toInt = 4 → q (M.1 0 23) (mset M 0 0 0)) ∧ ((v1).toInt = 5 → V shM G mX12_count (k + 3) 111 [(0, .ref (G.2.1 0)), (1, .int v1), (2, .int 0), (3, .int 0)] [] (mset M 0 0 0) (Qi q)) ∧ ((v1).toInt = 6 → V shM G mX12_count (k + 3) 111 [(0, .ref (G.2.1 0)), (1, .int v1), (2, .int 0), (3, .int 0)] [] (mset M 0 0 0) (Qi q)) ∧ ((v1).toInt = 7 → q (M.1 0 29) (mset M 0 0 0)) ∧ (((v1).toInt < 0 ∨ 7 < (v1).toInt) → q (-1000001) (mset M 0 0 0)))) : Ci shM G mX12_count (k + 3) [.ref (G.2.1 0), .int v1] M q := by
  unfold Ci
  show V _ _ _ _ _ [(0, .ref (G.2.1 0)), (1, .int v1)] _ _ _
  refine V_aload_n (pc := 0) dX12_count_0 rfl ?_
  refine V_iconst (v := 0) (pc := 1) dX12_count_1 rfl ?_
  refine V_putI (pc := 2) fX12_108 p12_0 sM0 rfl dX12_count_2 ?_
  refine V_iconst (v := 0) (pc := 5) dX12_count_5 rfl ?_
  refine V_istore_n (pc := 6) dX12_count_6 (by decide) ?_
  refine V_lv (lv2 := [(0, .ref (G.2.1 0)), (1, .int v1), (2, .int 0)]) rfl ?_
  refine V_iload_n (pc := 7) dX12_count_7 rfl ?_
  refine V_table (tgt := 169) (pc := 8) dX12_count_8 rfl rfl rfl ⟨fun c => ?_, fun c => ?_, fun c => ?_, fun c => ?_, fun c => ?_, fun c => ?_, fun c => ?_, fun c => ?_, trivial⟩ (fun c => ?_)
  · have h := h.1 c
    show V _ _ _ _ 56 _ _ _ _
    refine V_iconst (v := 0) (pc := 56) dX12_count_56 rfl ?_
    refine V_istore_n (pc := 57) dX12_count_57 (by decide) ?_
    refine V_lv (lv2 := [(0, .ref (G.2.1 0)), (1, .int v1), (2, .int 0), (3, .int 0)]) rfl ?_
    exact V_sub h ⟨rfl, rfl, rfl, rfl, trivial⟩
  · have h := h.2.1 c
    show V _ _ _ _ 89 _ _ _ _
    refine V_aload_n (pc := 89) dX12_count_89 rfl ?_
    refine V_getI (pc := 90) fX12_224 sM0 rfl dX12_count_90 ?_
    refine V_top (v := (M.1 0 5)) (by simp [mset, lset, upd]) ?_
    exact V_iret dX12_count_93 rfl h
  · have h := h.2.2.1 c
    show V _ _ _ _ 94 _ _ _ _
    refine V_aload_n (pc := 94) dX12_count_94 rfl ?_
    refine V_getI (pc := 95) fX12_227 sM0 rfl dX12_count_95 ?_
    refine V_top (v := (M.1 0 10)) (by simp [mset, lset, upd]) ?_
    exact V_iret dX12_count_98 rfl h
  · have h := h.2.2.2.1 c
    show V _ _ _ _ 99 _ _ _ _
    refine V_aload_n (pc := 99) dX12_count_99 rfl ?_
    refine V_getI (pc := 100) fX12_230 sM0 rfl dX12_count_100 ?_
    refine V_top (v := (M.1 0 18)) (by simp [mset, lset, upd]) ?_
    exact V_iret dX12_count_103 rfl h
  · have h := h.2.2.2.2.1 c
    show V _ _ _ _ 104 _ _ _ _
    refine V_aload_n (pc := 104) dX12_count_104 rfl ?_
    refine V_getI (pc := 105) fX12_233 sM0 rfl dX12_count_105 ?_
    refine V_top (v := (M.1 0 23)) (by simp [mset, lset, upd]) ?_
    exact V_iret dX12_count_108 rfl h
  · have h := h.2.2.2.2.2.1 c
    show V _ _ _ _ 109 _ _ _ _
    refine V_iconst (v := 0) (pc := 109) dX12_count_109 rfl ?_
    refine V_istore_n (pc := 110) dX12_count_110 (by decide) ?_
    refine V_lv (lv2 := [(0, .ref (G.2.1 0)), (1, .int v1), (2, .int 0), (3, .int 0)]) rfl ?_
    exact V_sub h ⟨rfl, rfl, rfl, rfl, trivial⟩
  · have h := h.2.2.2.2.2.2.1 c
    show V _ _ _ _ 109 _ _ _ _
    refine V_iconst (v := 0) (pc := 109) dX12_count_109 rfl ?_
    refine V_istore_n (pc := 110) dX12_count_110 (by decide) ?_
    refine V_lv (lv2 := [(0, .ref (G.2.1 0)), (1, .int v1), (2, .int 0), (3, .int 0)]) rfl ?_
    exact V_sub h ⟨rfl, rfl, rfl, rfl, trivial⟩
  · have h := h.2.2.2.2.2.2.2.1 c
    show V _ _ _ _ 164 _ _ _ _
    refine V_aload_n (pc := 164) dX12_count_164 rfl ?_
    refine V_getI (pc := 165) fX12_135 sM0 rfl dX12_count_165 ?_
    refine V_top (v := (M.1 0 29)) (by simp [mset, lset, upd]) ?_
    exact V_iret dX12_count_168 rfl h
  · have h := h.2.2.2.2.2.2.2.2 c
    refine V_ldc (pc := 169) dX12_count_169 nX12_128 ?_
    exact V_iret dX12_count_171 rfl h
theorem wp_X12_count_58 {G : GV} {k : Nat} {M : Mem} {q : Int32 → Mem → Prop} {v1 : Int32} {v2 : Int32} {v3 : Int32} (h : ((8 ≤ v3 → q v2 M) ∧ (¬ 8 ≤ v3 → vp_in v3 8 ∧ (((M.1 1 (ix v3)) < 0 → V shM G mX12_count (k + 3) 58 [(0, .ref (G.2.1 0)), (1, .int v1), (2, .int (v2 + 0)), (3, .int (v3 + 1))] [] M (Qi q)) ∧ (¬ (M.1 1 (ix v3)) < 0 → V shM G mX12_count (k + 3) 58 [(0, .ref (G.2.1 0)), (1, .int v1), (2, .int (v2 + 1)), (3, .int (v3 + 1))] [] M (Qi q)))))) : V shM G mX12_count (k + 3) 58 [(0, .ref (G.2.1 0)), (1, .int v1), (2, .int v2), (3, .int v3)] [] M (Qi q) := by
  refine V_iload_n (pc := 58) dX12_count_58 rfl ?_
  refine V_bipush (v := 8) (pc := 59) dX12_count_59 rfl ?_
  refine V_icmp_ge (tgt := 87) (pc := 61) dX12_count_61 rfl (fun c => ?_) (fun c => ?_)
  · have h := h.1 c
    refine V_iload_n (pc := 87) dX12_count_87 rfl ?_
    exact V_iret dX12_count_88 rfl h
  · have h := h.2 c
    refine V_iload_n (pc := 64) dX12_count_64 rfl ?_
    refine V_aload_n (pc := 65) dX12_count_65 rfl ?_
    refine V_getR (pc := 66) fX12_7 sM0 rfl dX12_count_66 ?_
    refine V_iload_n (pc := 69) dX12_count_69 rfl ?_
    refine V_iald (pc := 70) sM1 dX12_count_70 h.1 ?_
    have h := h.2
    refine V_if_lt (tgt := 78) (pc := 71) dX12_count_71 rfl (fun c => ?_) (fun c => ?_)
    · have h := h.1 c
      refine V_iconst (v := 0) (pc := 78) dX12_count_78 rfl ?_
      refine V_iadd (pc := 79) dX12_count_79 ?_
      refine V_istore_n (pc := 80) dX12_count_80 (by decide) ?_
      refine V_lv (lv2 := [(0, .ref (G.2.1 0)), (1, .int v1), (2, .int (v2 + 0)), (3, .int v3)]) rfl ?_
      refine V_iinc (pc := 81) dX12_count_81 rfl (by decide) ?_
      refine V_lv (lv2 := [(0, .ref (G.2.1 0)), (1, .int v1), (2, .int (v2 + 0)), (3, .int (v3 + 1))]) rfl ?_
      refine V_goto (tgt := 58) (pc := 84) dX12_count_84 rfl ?_
      exact V_sub h ⟨rfl, rfl, rfl, rfl, trivial⟩
    · have h := h.2 c
      refine V_iconst (v := 1) (pc := 74) dX12_count_74 rfl ?_
      refine V_goto (tgt := 79) (pc := 75) dX12_count_75 rfl ?_
      refine V_iadd (pc := 79) dX12_count_79 ?_
      refine V_istore_n (pc := 80) dX12_count_80 (by decide) ?_
      refine V_lv (lv2 := [(0, .ref (G.2.1 0)), (1, .int v1), (2, .int (v2 + 1)), (3, .int v3)]) rfl ?_
      refine V_iinc (pc := 81) dX12_count_81 rfl (by decide) ?_
      refine V_lv (lv2 := [(0, .ref (G.2.1 0)), (1, .int v1), (2, .int (v2 + 1)), (3, .int (v3 + 1))]) rfl ?_
      refine V_goto (tgt := 58) (pc := 84) dX12_count_84 rfl ?_
      exact V_sub h ⟨rfl, rfl, rfl, rfl, trivial⟩
theorem wp_X12_count_111 {G : GV} {k : Nat} {M : Mem} {q : Int32 → Mem → Prop} {v1 : Int32} {v2 : Int32} {v3 : Int32} (h : (((M.1 0 10) ≤ v3 → q v2 M) ∧ (¬ (M.1 0 10) ≤ v3 → ((v1 ≠ 5 → Ci shM G mX12_isHomeless (k + 2) [.ref (G.2.1 0), .int v3] M (fun x1 M1 => ((x1 = 0 → V shM G mX12_count (k + 3) 111 [(0, .ref (G.2.1 0)), (1, .int v1), (2, .int (v2 + 0)), (3, .int (v3 + 1))] [] M1 (Qi q)) ∧ (¬ x1 = 0 → V shM G mX12_count (k + 3) 111 [(0, .ref (G.2.1 0)), (1, .int v1), (2, .int (v2 + 1)), (3, .int (v3 + 1))] [] M1 (Qi q))))) ∧ (v1 = 5 → Ci shM G mX12_isHome (k + 2) [.ref (G.2.1 0), .int v3] M (fun x2 M2 => ((x2 = 0 → V shM G mX12_count (k + 3) 111 [(0, .ref (G.2.1 0)), (1, .int v1), (2, .int (v2 + 0)), (3, .int (v3 + 1))] [] M2 (Qi q)) ∧ (¬ x2 = 0 → V shM G mX12_count (k + 3) 111 [(0, .ref (G.2.1 0)), (1, .int v1), (2, .int (v2 + 1)), (3, .int (v3 + 1))] [] M2 (Qi q))))))))) : V shM G mX12_count (k + 3) 111 [(0, .ref (G.2.1 0)), (1, .int v1), (2, .int v2), (3, .int v3)] [] M (Qi q) := by
  refine V_iload_n (pc := 111) dX12_count_111 rfl ?_
  refine V_aload_n (pc := 112) dX12_count_112 rfl ?_
  refine V_getI (pc := 113) fX12_227 sM0 rfl dX12_count_113 ?_
  refine V_icmp_ge (tgt := 162) (pc := 116) dX12_count_116 rfl (fun c => ?_) (fun c => ?_)
  · have h := h.1 c
    refine V_iload_n (pc := 162) dX12_count_162 rfl ?_
    exact V_iret dX12_count_163 rfl h
  · have h := h.2 c
    refine V_iload_n (pc := 119) dX12_count_119 rfl ?_
    refine V_iload_n (pc := 120) dX12_count_120 rfl ?_
    refine V_iconst (v := 5) (pc := 121) dX12_count_121 rfl ?_
    refine V_icmp_ne (tgt := 141) (pc := 122) dX12_count_122 rfl (fun c => ?_) (fun c => ?_)
    · have h := h.1 c
      refine V_aload_n (pc := 141) dX12_count_141 rfl ?_
      refine V_iload_n (pc := 142) dX12_count_142 rfl ?_
      refine V_callVi [.int v3] (pc := 143) kX12_isHomeless lX12_258 sM0 rfl rfl (Nat.le_of_ble_eq_true rfl) rfl (Nat.le_of_ble_eq_true rfl) dX12_count_143 ?_
      refine Ci.mono h ?_
      intro x1 M1 h
      refine V_if_eq (tgt := 153) (pc := 146) dX12_count_146 rfl (fun c => ?_) (fun c => ?_)
      · have h := h.1 c
        refine V_iconst (v := 0) (pc := 153) dX12_count_153 rfl ?_
        refine V_iadd (pc := 154) dX12_count_154 ?_
        refine V_istore_n (pc := 155) dX12_count_155 (by decide) ?_
        refine V_lv (lv2 := [(0, .ref (G.2.1 0)), (1, .int v1), (2, .int (v2 + 0)), (3, .int v3)]) rfl ?_
        refine V_iinc (pc := 156) dX12_count_156 rfl (by decide) ?_
        refine V_lv (lv2 := [(0, .ref (G.2.1 0)), (1, .int v1), (2, .int (v2 + 0)), (3, .int (v3 + 1))]) rfl ?_
        refine V_goto (tgt := 111) (pc := 159) dX12_count_159 rfl ?_
        exact V_sub h ⟨rfl, rfl, rfl, rfl, trivial⟩
      · have h := h.2 c
        refine V_iconst (v := 1) (pc := 149) dX12_count_149 rfl ?_
        refine V_goto (tgt := 154) (pc := 150) dX12_count_150 rfl ?_
        refine V_iadd (pc := 154) dX12_count_154 ?_
        refine V_istore_n (pc := 155) dX12_count_155 (by decide) ?_
        refine V_lv (lv2 := [(0, .ref (G.2.1 0)), (1, .int v1), (2, .int (v2 + 1)), (3, .int v3)]) rfl ?_
        refine V_iinc (pc := 156) dX12_count_156 rfl (by decide) ?_
        refine V_lv (lv2 := [(0, .ref (G.2.1 0)), (1, .int v1), (2, .int (v2 + 1)), (3, .int (v3 + 1))]) rfl ?_
        refine V_goto (tgt := 111) (pc := 159) dX12_count_159 rfl ?_
        exact V_sub h ⟨rfl, rfl, rfl, rfl, trivial⟩
    · have h := h.2 c
      refine V_aload_n (pc := 125) dX12_count_125 rfl ?_
      refine V_iload_n (pc := 126) dX12_count_126 rfl ?_
      refine V_callVi [.int v3] (pc := 127) kX12_isHome lX12_292 sM0 rfl rfl (Nat.le_of_ble_eq_true rfl) rfl (Nat.le_of_ble_eq_true rfl) dX12_count_127 ?_
      refine Ci.mono h ?_
      intro x2 M2 h
      refine V_if_eq (tgt := 137) (pc := 130) dX12_count_130 rfl (fun c => ?_) (fun c => ?_)
      · have h := h.1 c
        refine V_iconst (v := 0) (pc := 137) dX12_count_137 rfl ?_
        refine V_goto (tgt := 154) (pc := 138) dX12_count_138 rfl ?_
        refine V_iadd (pc := 154) dX12_count_154 ?_
        refine V_istore_n (pc := 155) dX12_count_155 (by decide) ?_
        refine V_lv (lv2 := [(0, .ref (G.2.1 0)), (1, .int v1), (2, .int (v2 + 0)), (3, .int v3)]) rfl ?_
        refine V_iinc (pc := 156) dX12_count_156 rfl (by decide) ?_
        refine V_lv (lv2 := [(0, .ref (G.2.1 0)), (1, .int v1), (2, .int (v2 + 0)), (3, .int (v3 + 1))]) rfl ?_
        refine V_goto (tgt := 111) (pc := 159) dX12_count_159 rfl ?_
        exact V_sub h ⟨rfl, rfl, rfl, rfl, trivial⟩
      · have h := h.2 c
        refine V_iconst (v := 1) (pc := 133) dX12_count_133 rfl ?_
        refine V_goto (tgt := 154) (pc := 134) dX12_count_134 rfl ?_
        refine V_iadd (pc := 154) dX12_count_154 ?_
        refine V_istore_n (pc := 155) dX12_count_155 (by decide) ?_
        refine V_lv (lv2 := [(0, .ref (G.2.1 0)), (1, .int v1), (2, .int (v2 + 1)), (3, .int v3)]) rfl ?_
        refine V_iinc (pc := 156) dX12_count_156 rfl (by decide) ?_
        refine V_lv (lv2 := [(0, .ref (G.2.1 0)), (1, .int v1), (2, .int (v2 + 1)), (3, .int (v3 + 1))]) rfl ?_
        refine V_goto (tgt := 111) (pc := 159) dX12_count_159 rfl ?_
        exact V_sub h ⟨rfl, rfl, rfl, rfl, trivial⟩
theorem wp_X12_line {G : GV} {k : Nat} {M : Mem} {q : Int32 → Mem → Prop} {v1 : Int32} {v2 : Int32} (h : Ci shM G mX12_isLine (k + 2) [.ref (G.2.1 0), .int v1] (mset M 0 0 0) (fun x1 M1 => ((x1 = 0 → q (-1000001) M1) ∧ (¬ x1 = 0 → Ci shM G mX12_in (k + 2) [.long (Int32.toInt64 v2), .long 0, .long 8] M1 (fun x2 M2 => ((x2 ≠ 0 → (((v2).toInt = 0 → vp_in v1 12 ∧ q (M2.1 8 (ix v1)) M2) ∧ ((v2).toInt = 1 → vp_in v1 12 ∧ q (M2.1 9 (ix v1)) M2) ∧ ((v2).toInt = 2 → vp_in v1 12 ∧ q (M2.1 10 (ix v1)) M2) ∧ ((v2).toInt = 3 → vp_in v1 12 ∧ q (M2.1 11 (ix v1)) M2) ∧ ((v2).toInt = 4 → vp_in v1 12 ∧ q (M2.1 12 (ix v1)) M2) ∧ ((v2).toInt = 5 → Ci shM G mX12_gathered (k + 2) [.ref (G.2.1 0), .int v1] M2 (fun x3 M3 => q x3 M3)) ∧ ((v2).toInt = 6 → Ci shM G mX12_doorOf (k + 2) [.ref (G.2.1 0), .int v1] M2 (fun x4 M4 => q x4 M4)) ∧ ((v2).toInt = 7 → Ci shM G mX12_isHomeless (k + 2) [.ref (G.2.1 0), .int v1] M2 (fun x5 M5 => ((x5 = 0 → q 0 M5) ∧ (¬ x5 = 0 → q 1 M5)))) ∧ (((v2).toInt < 0 ∨ 7 < (v2).toInt) → vp_in v1 12 ∧ q (M2.1 13 (ix v1)) M2))) ∧ (x2 = 0 → q (-1000001) M2))))))) : Ci shM G mX12_line (k + 3) [.ref (G.2.1 0), .int v1, .int v2] M q := by
  unfold Ci
  show V _ _ _ _ _ [(0, .ref (G.2.1 0)), (1, .int v1), (2, .int v2)] _ _ _
  refine V_aload_n (pc := 0) dX12_line_0 rfl ?_
  refine V_iconst (v := 0) (pc := 1) dX12_line_1 rfl ?_
  refine V_putI (pc := 2) fX12_108 p12_0 sM0 rfl dX12_line_2 ?_
  refine V_aload_n (pc := 5) dX12_line_5 rfl ?_
  refine V_iload_n (pc := 6) dX12_line_6 rfl ?_
  refine V_callVi [.int v1] (pc := 7) kX12_isLine lX12_255 sM0 rfl rfl (Nat.le_of_ble_eq_true rfl) rfl (Nat.le_of_ble_eq_true rfl) dX12_line_7 ?_
  refine Ci.mono h ?_
  intro x1 M1 h
  refine V_if_eq (tgt := 25) (pc := 10) dX12_line_10 rfl (fun c => ?_) (fun c => ?_)
  · have h := h.1 c
    refine V_ldc (pc := 25) dX12_line_25 nX12_128 ?_
    exact V_iret dX12_line_27 rfl h
  · have h := h.2 c
    refine V_iload_n (pc := 13) dX12_line_13 rfl ?_
    refine V_i2l (pc := 14) dX12_line_14 ?_
    refine V_lconst (v := 0) (pc := 15) dX12_line_15 rfl ?_
    refine V_ldc2 (pc := 16) dX12_line_16 nX12_133 ?_
    refine V_callSi [.long (Int32.toInt64 v2), .long 0, .long 8] (pc := 19) kX12_in lX12_118 rfl (Nat.le_of_ble_eq_true rfl) rfl (Nat.le_of_ble_eq_true rfl) dX12_line_19 ?_
    refine Ci.mono h ?_
    intro x2 M2 h
    refine V_if_ne (tgt := 28) (pc := 22) dX12_line_22 rfl (fun c => ?_) (fun c => ?_)
    · have h := h.1 c
      refine V_iload_n (pc := 28) dX12_line_28 rfl ?_
      refine V_table (tgt := 137) (pc := 29) dX12_line_29 rfl rfl rfl ⟨fun c => ?_, fun c => ?_, fun c => ?_, fun c => ?_, fun c => ?_, fun c => ?_, fun c => ?_, fun c => ?_, trivial⟩ (fun c => ?_)
      · have h := h.1 c
        show V _ _ _ _ 76 _ _ _ _
        refine V_aload_n (pc := 76) dX12_line_76 rfl ?_
        refine V_getR (pc := 77) fX12_32 sM0 rfl dX12_line_77 ?_
        refine V_iload_n (pc := 80) dX12_line_80 rfl ?_
        refine V_iald (pc := 81) sM8 dX12_line_81 h.1 ?_
        have h := h.2
        exact V_iret dX12_line_82 rfl h
      · have h := h.2.1 c
        show V _ _ _ _ 83 _ _ _ _
        refine V_aload_n (pc := 83) dX12_line_83 rfl ?_
        refine V_getR (pc := 84) fX12_35 sM0 rfl dX12_line_84 ?_
        refine V_iload_n (pc := 87) dX12_line_87 rfl ?_
        refine V_iald (pc := 88) sM9 dX12_line_88 h.1 ?_
        have h := h.2
        exact V_iret dX12_line_89 rfl h
      · have h := h.2.2.1 c
        show V _ _ _ _ 90 _ _ _ _
        refine V_aload_n (pc := 90) dX12_line_90 rfl ?_
        refine V_getR (pc := 91) fX12_38 sM0 rfl dX12_line_91 ?_
        refine V_iload_n (pc := 94) dX12_line_94 rfl ?_
        refine V_iald (pc := 95) sM10 dX12_line_95 h.1 ?_
        have h := h.2
        exact V_iret dX12_line_96 rfl h
      · have h := h.2.2.2.1 c
        show V _ _ _ _ 97 _ _ _ _
        refine V_aload_n (pc := 97) dX12_line_97 rfl ?_
        refine V_getR (pc := 98) fX12_41 sM0 rfl dX12_line_98 ?_
        refine V_iload_n (pc := 101) dX12_line_101 rfl ?_
        refine V_iald (pc := 102) sM11 dX12_line_102 h.1 ?_
        have h := h.2
        exact V_iret dX12_line_103 rfl h
      · have h := h.2.2.2.2.1 c
        show V _ _ _ _ 104 _ _ _ _
        refine V_aload_n (pc := 104) dX12_line_104 rfl ?_
        refine V_getR (pc := 105) fX12_44 sM0 rfl dX12_line_105 ?_
        refine V_iload_n (pc := 108) dX12_line_108 rfl ?_
        refine V_iald (pc := 109) sM12 dX12_line_109 h.1 ?_
        have h := h.2
        exact V_iret dX12_line_110 rfl h
      · have h := h.2.2.2.2.2.1 c
        show V _ _ _ _ 111 _ _ _ _
        refine V_aload_n (pc := 111) dX12_line_111 rfl ?_
        refine V_iload_n (pc := 112) dX12_line_112 rfl ?_
        refine V_callVi [.int v1] (pc := 113) kX12_gathered lX12_246 sM0 rfl rfl (Nat.le_of_ble_eq_true rfl) rfl (Nat.le_of_ble_eq_true rfl) dX12_line_113 ?_
        refine Ci.mono h ?_
        intro x3 M3 h
        exact V_iret dX12_line_116 rfl h
      · have h := h.2.2.2.2.2.2.1 c
        show V _ _ _ _ 117 _ _ _ _
        refine V_aload_n (pc := 117) dX12_line_117 rfl ?_
        refine V_iload_n (pc := 118) dX12_line_118 rfl ?_
        refine V_callVi [.int v1] (pc := 119) kX12_doorOf lX12_252 sM0 rfl rfl (Nat.le_of_ble_eq_true rfl) rfl (Nat.le_of_ble_eq_true rfl) dX12_line_119 ?_
        refine Ci.mono h ?_
        intro x4 M4 h
        exact V_iret dX12_line_122 rfl h
      · have h := h.2.2.2.2.2.2.2.1 c
        show V _ _ _ _ 123 _ _ _ _
        refine V_aload_n (pc := 123) dX12_line_123 rfl ?_
        refine V_iload_n (pc := 124) dX12_line_124 rfl ?_
        refine V_callVi [.int v1] (pc := 125) kX12_isHomeless lX12_258 sM0 rfl rfl (Nat.le_of_ble_eq_true rfl) rfl (Nat.le_of_ble_eq_true rfl) dX12_line_125 ?_
        refine Ci.mono h ?_
        intro x5 M5 h
        refine V_if_eq (tgt := 135) (pc := 128) dX12_line_128 rfl (fun c => ?_) (fun c => ?_)
        · have h := h.1 c
          refine V_iconst (v := 0) (pc := 135) dX12_line_135 rfl ?_
          exact V_iret dX12_line_136 rfl h
        · have h := h.2 c
          refine V_iconst (v := 1) (pc := 131) dX12_line_131 rfl ?_
          refine V_goto (tgt := 136) (pc := 132) dX12_line_132 rfl ?_
          exact V_iret dX12_line_136 rfl h
      · have h := h.2.2.2.2.2.2.2.2 c
        refine V_aload_n (pc := 137) dX12_line_137 rfl ?_
        refine V_getR (pc := 138) fX12_47 sM0 rfl dX12_line_138 ?_
        refine V_iload_n (pc := 141) dX12_line_141 rfl ?_
        refine V_iald (pc := 142) sM13 dX12_line_142 h.1 ?_
        have h := h.2
        exact V_iret dX12_line_143 rfl h
    · have h := h.2 c
      refine V_ldc (pc := 25) dX12_line_25 nX12_128 ?_
      exact V_iret dX12_line_27 rfl h
