theorem wp_X12_found {G : GV} {k : Nat} {M : Mem} {q : Int32 → Mem → Prop} {v1 : Int32} {v2 : Int32} {v3 : Int32} {v4 : Int32} {v5 : Int32} (h : Ci shM G mX12_isSpan (k + 3) [.int v1, .int v2, .int v3] (mset M 0 0 0) (fun x1 M1 => ((x1 = 0 → q (-1000001) M1) ∧ (¬ x1 = 0 → Ci shM G mX12_in (k + 3) [.long (Int32.toInt64 v5), .long 0, .long 1] M1 (fun x2 M2 => ((x2 ≠ 0 → Cv shM G mX12_match (k + 3) [.ref (G.2.1 0), .int v1, .int v2, .int v3] M2 (fun M3 => V shM G mX12_found (k + 4) 44 [(0, .ref (G.2.1 0)), (1, .int v1), (2, .int v2), (3, .int v3), (4, .int v4), (5, .int v5), (6, .int 0), (7, .int 0), (8, .int 0)] [] M3 (Qi q))) ∧ (x2 = 0 → q (-1000001) M2))))))) : Ci shM G mX12_found (k + 4) [.ref (G.2.1 0), .int v1, .int v2, .int v3, .int v4, .int v5] M q := by
  unfold Ci
  show V _ _ _ _ _ [(0, .ref (G.2.1 0)), (1, .int v1), (2, .int v2), (3, .int v3), (4, .int v4), (5, .int v5)] _ _ _
  refine V_aload_n (pc := 0) dX12_found_0 rfl ?_
  refine V_iconst (v := 0) (pc := 1) dX12_found_1 rfl ?_
  refine V_putI (pc := 2) fX12_108 p12_0 sM0 rfl dX12_found_2 ?_
  refine V_iload_n (pc := 5) dX12_found_5 rfl ?_
  refine V_iload_n (pc := 6) dX12_found_6 rfl ?_
  refine V_iload_n (pc := 7) dX12_found_7 rfl ?_
  refine V_callSi [.int v1, .int v2, .int v3] (pc := 8) kX12_isSpan lX12_330 rfl (Nat.le_of_ble_eq_true rfl) rfl (Nat.le_of_ble_eq_true rfl) dX12_found_8 ?_
  refine Ci.mono h ?_
  intro x1 M1 h
  refine V_if_eq (tgt := 25) (pc := 11) dX12_found_11 rfl (fun c => ?_) (fun c => ?_)
  · have h := h.1 c
    refine V_ldc (pc := 25) dX12_found_25 nX12_128 ?_
    exact V_iret dX12_found_27 rfl h
  · have h := h.2 c
    refine V_iload (pc := 14) dX12_found_14 rfl ?_
    refine V_i2l (pc := 16) dX12_found_16 ?_
    refine V_lconst (v := 0) (pc := 17) dX12_found_17 rfl ?_
    refine V_lconst (v := 1) (pc := 18) dX12_found_18 rfl ?_
    refine V_callSi [.long (Int32.toInt64 v5), .long 0, .long 1] (pc := 19) kX12_in lX12_118 rfl (Nat.le_of_ble_eq_true rfl) rfl (Nat.le_of_ble_eq_true rfl) dX12_found_19 ?_
    refine Ci.mono h ?_
    intro x2 M2 h
    refine V_if_ne (tgt := 28) (pc := 22) dX12_found_22 rfl (fun c => ?_) (fun c => ?_)
    · have h := h.1 c
      refine V_aload_n (pc := 28) dX12_found_28 rfl ?_
      refine V_iload_n (pc := 29) dX12_found_29 rfl ?_
      refine V_iload_n (pc := 30) dX12_found_30 rfl ?_
      refine V_iload_n (pc := 31) dX12_found_31 rfl ?_
      refine V_callVv [.int v1, .int v2, .int v3] (pc := 32) kX12_match lX12_333 sM0 rfl rfl (Nat.le_of_ble_eq_true rfl) rfl (Nat.le_of_ble_eq_true rfl) dX12_found_32 ?_
      refine Cv.mono h ?_
      intro M3 h
      refine V_iconst (v := 0) (pc := 35) dX12_found_35 rfl ?_
      refine V_istore (pc := 36) dX12_found_36 (by decide) ?_
      refine V_lv (lv2 := [(0, .ref (G.2.1 0)), (1, .int v1), (2, .int v2), (3, .int v3), (4, .int v4), (5, .int v5), (6, .int 0)]) rfl ?_
      refine V_iconst (v := 0) (pc := 38) dX12_found_38 rfl ?_
      refine V_istore (pc := 39) dX12_found_39 (by decide) ?_
      refine V_lv (lv2 := [(0, .ref (G.2.1 0)), (1, .int v1), (2, .int v2), (3, .int v3), (4, .int v4), (5, .int v5), (6, .int 0), (7, .int 0)]) rfl ?_
      refine V_iconst (v := 0) (pc := 41) dX12_found_41 rfl ?_
      refine V_istore (pc := 42) dX12_found_42 (by decide) ?_
      refine V_lv (lv2 := [(0, .ref (G.2.1 0)), (1, .int v1), (2, .int v2), (3, .int v3), (4, .int v4), (5, .int v5), (6, .int 0), (7, .int 0), (8, .int 0)]) rfl ?_
      exact V_sub h ⟨rfl, rfl, rfl, rfl, rfl, rfl, rfl, rfl, rfl, trivial⟩
    · have h := h.2 c
      refine V_ldc (pc := 25) dX12_found_25 nX12_128 ?_
      exact V_iret dX12_found_27 rfl h
theorem wp_X12_found_44 {G : GV} {k : Nat} {M : Mem} {q : Int32 → Mem → Prop} {v1 : Int32} {v2 : Int32} {v3 : Int32} {v4 : Int32} {v5 : Int32} {v6 : Int32} {v7 : Int32} {v8 : Int32} (h : ((v4 < v8 → q (-1000000) M) ∧ (¬ v4 < v8 → vp_in ((13 * v6) + v7) 169 ∧ (((M.1 31 (ix ((13 * v6) + v7))) ≤ 0 → q (-1000000) M) ∧ (¬ (M.1 31 (ix ((13 * v6) + v7))) ≤ 0 → vp_in ((13 * v6) + v7) 169 ∧ V shM G mX12_found (k + 4) 94 [(0, .ref (G.2.1 0)), (1, .int v1), (2, .int v2), (3, .int v3), (4, .int v4), (5, .int v5), (6, .int v6), (7, .int v7), (8, .int v8), (9, .int (M.1 31 (ix ((13 * v6) + v7)))), (10, .int (-1000000)), (11, .int (-1000000)), (12, .int v6)] [] M (Qi q)))))) : V shM G mX12_found (k + 4) 44 [(0, .ref (G.2.1 0)), (1, .int v1), (2, .int v2), (3, .int v3), (4, .int v4), (5, .int v5), (6, .int v6), (7, .int v7), (8, .int v8)] [] M (Qi q) := by
  refine V_iload (pc := 44) dX12_found_44 rfl ?_
  refine V_iload (pc := 46) dX12_found_46 rfl ?_
  refine V_icmp_gt (tgt := 242) (pc := 48) dX12_found_48 rfl (fun c => ?_) (fun c => ?_)
  · have h := h.1 c
    refine V_ldc (pc := 242) dX12_found_242 nX12_144 ?_
    exact V_iret dX12_found_244 rfl h
  · have h := h.2 c
    refine V_aload_n (pc := 51) dX12_found_51 rfl ?_
    refine V_getR (pc := 52) fX12_102 sM0 rfl dX12_found_52 ?_
    refine V_bipush (v := 13) (pc := 55) dX12_found_55 rfl ?_
    refine V_iload (pc := 57) dX12_found_57 rfl ?_
    refine V_imul (pc := 59) dX12_found_59 ?_
    refine V_iload (pc := 60) dX12_found_60 rfl ?_
    refine V_iadd (pc := 62) dX12_found_62 ?_
    refine V_iald (pc := 63) sM31 dX12_found_63 h.1 ?_
    have h := h.2
    refine V_if_le (tgt := 242) (pc := 64) dX12_found_64 rfl (fun c => ?_) (fun c => ?_)
    · have h := h.1 c
      refine V_ldc (pc := 242) dX12_found_242 nX12_144 ?_
      exact V_iret dX12_found_244 rfl h
    · have h := h.2 c
      refine V_aload_n (pc := 67) dX12_found_67 rfl ?_
      refine V_getR (pc := 68) fX12_102 sM0 rfl dX12_found_68 ?_
      refine V_bipush (v := 13) (pc := 71) dX12_found_71 rfl ?_
      refine V_iload (pc := 73) dX12_found_73 rfl ?_
      refine V_imul (pc := 75) dX12_found_75 ?_
      refine V_iload (pc := 76) dX12_found_76 rfl ?_
      refine V_iadd (pc := 78) dX12_found_78 ?_
      refine V_iald (pc := 79) sM31 dX12_found_79 h.1 ?_
      have h := h.2
      refine V_istore (pc := 80) dX12_found_80 (by decide) ?_
      refine V_lv (lv2 := [(0, .ref (G.2.1 0)), (1, .int v1), (2, .int v2), (3, .int v3), (4, .int v4), (5, .int v5), (6, .int v6), (7, .int v7), (8, .int v8), (9, .int (M.1 31 (ix ((13 * v6) + v7))))]) rfl ?_
      refine V_ldc (pc := 82) dX12_found_82 nX12_144 ?_
      refine V_istore (pc := 84) dX12_found_84 (by decide) ?_
      refine V_lv (lv2 := [(0, .ref (G.2.1 0)), (1, .int v1), (2, .int v2), (3, .int v3), (4, .int v4), (5, .int v5), (6, .int v6), (7, .int v7), (8, .int v8), (9, .int (M.1 31 (ix ((13 * v6) + v7)))), (10, .int (-1000000))]) rfl ?_
      refine V_ldc (pc := 86) dX12_found_86 nX12_144 ?_
      refine V_istore (pc := 88) dX12_found_88 (by decide) ?_
      refine V_lv (lv2 := [(0, .ref (G.2.1 0)), (1, .int v1), (2, .int v2), (3, .int v3), (4, .int v4), (5, .int v5), (6, .int v6), (7, .int v7), (8, .int v8), (9, .int (M.1 31 (ix ((13 * v6) + v7)))), (10, .int (-1000000)), (11, .int (-1000000))]) rfl ?_
      refine V_iload (pc := 90) dX12_found_90 rfl ?_
      refine V_istore (pc := 92) dX12_found_92 (by decide) ?_
      refine V_lv (lv2 := [(0, .ref (G.2.1 0)), (1, .int v1), (2, .int v2), (3, .int v3), (4, .int v4), (5, .int v5), (6, .int v6), (7, .int v7), (8, .int v8), (9, .int (M.1 31 (ix ((13 * v6) + v7)))), (10, .int (-1000000)), (11, .int (-1000000)), (12, .int v6)]) rfl ?_
      exact V_sub h ⟨rfl, rfl, rfl, rfl, rfl, rfl, rfl, rfl, rfl, rfl, rfl, rfl, rfl, trivial⟩
theorem wp_X12_found_94 {G : GV} {k : Nat} {M : Mem} {q : Int32 → Mem → Prop} {v1 : Int32} {v2 : Int32} {v3 : Int32} {v4 : Int32} {v5 : Int32} {v6 : Int32} {v7 : Int32} {v8 : Int32} {v9 : Int32} {v10 : Int32} {v11 : Int32} {v12 : Int32} (h : (((M.1 0 47) ≤ v12 → ((v8 ≠ v4 → V shM G mX12_found (k + 4) 44 [(0, .ref (G.2.1 0)), (1, .int v1), (2, .int v2), (3, .int v3), (4, .int v4), (5, .int v5), (6, .int (v10 + 1)), (7, .int (v11 + 1)), (8, .int (v8 + 1))] [] M (Qi q)) ∧ (v8 = v4 → ((v5 ≠ 0 → vp_in v11 12 ∧ q (M.1 30 (ix v11)) M) ∧ (v5 = 0 → vp_in v10 12 ∧ q (M.1 29 (ix v10)) M))))) ∧ (¬ (M.1 0 47) ≤ v12 → ((v10 ≠ (-1000000) → ((v8 ≠ v4 → V shM G mX12_found (k + 4) 44 [(0, .ref (G.2.1 0)), (1, .int v1), (2, .int v2), (3, .int v3), (4, .int v4), (5, .int v5), (6, .int (v10 + 1)), (7, .int (v11 + 1)), (8, .int (v8 + 1))] [] M (Qi q)) ∧ (v8 = v4 → ((v5 ≠ 0 → vp_in v11 12 ∧ q (M.1 30 (ix v11)) M) ∧ (v5 = 0 → vp_in v10 12 ∧ q (M.1 29 (ix v10)) M))))) ∧ (v10 = (-1000000) → V shM G mX12_found (k + 4) 114 [(0, .ref (G.2.1 0)), (1, .int v1), (2, .int v2), (3, .int v3), (4, .int v4), (5, .int v5), (6, .int v6), (7, .int v7), (8, .int v8), (9, .int v9), (10, .int v10), (11, .int v11), (12, .int v12), (13, .int v7)] [] M (Qi q)))))) : V shM G mX12_found (k + 4) 94 [(0, .ref (G.2.1 0)), (1, .int v1), (2, .int v2), (3, .int v3), (4, .int v4), (5, .int v5), (6, .int v6), (7, .int v7), (8, .int v8), (9, .int v9), (10, .int v10), (11, .int v11), (12, .int v12)] [] M (Qi q) := by
  refine V_iload (pc := 94) dX12_found_94 rfl ?_
  refine V_aload_n (pc := 96) dX12_found_96 rfl ?_
  refine V_getI (pc := 97) fX12_324 sM0 rfl dX12_found_97 ?_
  refine V_icmp_ge (tgt := 194) (pc := 100) dX12_found_100 rfl (fun c => ?_) (fun c => ?_)
  · have h := h.1 c
    refine V_iload (pc := 194) dX12_found_194 rfl ?_
    refine V_iload (pc := 196) dX12_found_196 rfl ?_
    refine V_icmp_ne (tgt := 224) (pc := 198) dX12_found_198 rfl (fun c => ?_) (fun c => ?_)
    · have h := h.1 c
      refine V_iload (pc := 224) dX12_found_224 rfl ?_
      refine V_iconst (v := 1) (pc := 226) dX12_found_226 rfl ?_
      refine V_iadd (pc := 227) dX12_found_227 ?_
      refine V_istore (pc := 228) dX12_found_228 (by decide) ?_
      refine V_lv (lv2 := [(0, .ref (G.2.1 0)), (1, .int v1), (2, .int v2), (3, .int v3), (4, .int v4), (5, .int v5), (6, .int (v10 + 1)), (7, .int v7), (8, .int v8), (9, .int v9), (10, .int v10), (11, .int v11), (12, .int v12)]) rfl ?_
      refine V_iload (pc := 230) dX12_found_230 rfl ?_
      refine V_iconst (v := 1) (pc := 232) dX12_found_232 rfl ?_
      refine V_iadd (pc := 233) dX12_found_233 ?_
      refine V_istore (pc := 234) dX12_found_234 (by decide) ?_
      refine V_lv (lv2 := [(0, .ref (G.2.1 0)), (1, .int v1), (2, .int v2), (3, .int v3), (4, .int v4), (5, .int v5), (6, .int (v10 + 1)), (7, .int (v11 + 1)), (8, .int v8), (9, .int v9), (10, .int v10), (11, .int v11), (12, .int v12)]) rfl ?_
      refine V_iinc (pc := 236) dX12_found_236 rfl (by decide) ?_
      refine V_lv (lv2 := [(0, .ref (G.2.1 0)), (1, .int v1), (2, .int v2), (3, .int v3), (4, .int v4), (5, .int v5), (6, .int (v10 + 1)), (7, .int (v11 + 1)), (8, .int (v8 + 1)), (9, .int v9), (10, .int v10), (11, .int v11), (12, .int v12)]) rfl ?_
      refine V_goto (tgt := 44) (pc := 239) dX12_found_239 rfl ?_
      exact V_sub h ⟨rfl, rfl, rfl, rfl, rfl, rfl, rfl, rfl, rfl, trivial⟩
    · have h := h.2 c
      refine V_iload (pc := 201) dX12_found_201 rfl ?_
      refine V_if_ne (tgt := 216) (pc := 203) dX12_found_203 rfl (fun c => ?_) (fun c => ?_)
      · have h := h.1 c
        refine V_aload_n (pc := 216) dX12_found_216 rfl ?_
        refine V_getR (pc := 217) fX12_99 sM0 rfl dX12_found_217 ?_
        refine V_iload (pc := 220) dX12_found_220 rfl ?_
        refine V_iald (pc := 222) sM30 dX12_found_222 h.1 ?_
        have h := h.2
        exact V_iret dX12_found_223 rfl h
      · have h := h.2 c
        refine V_aload_n (pc := 206) dX12_found_206 rfl ?_
        refine V_getR (pc := 207) fX12_96 sM0 rfl dX12_found_207 ?_
        refine V_iload (pc := 210) dX12_found_210 rfl ?_
        refine V_iald (pc := 212) sM29 dX12_found_212 h.1 ?_
        have h := h.2
        refine V_goto (tgt := 223) (pc := 213) dX12_found_213 rfl ?_
        exact V_iret dX12_found_223 rfl h
  · have h := h.2 c
    refine V_iload (pc := 103) dX12_found_103 rfl ?_
    refine V_ldc (pc := 105) dX12_found_105 nX12_144 ?_
    refine V_icmp_ne (tgt := 194) (pc := 107) dX12_found_107 rfl (fun c => ?_) (fun c => ?_)
    · have h := h.1 c
      refine V_iload (pc := 194) dX12_found_194 rfl ?_
      refine V_iload (pc := 196) dX12_found_196 rfl ?_
      refine V_icmp_ne (tgt := 224) (pc := 198) dX12_found_198 rfl (fun c => ?_) (fun c => ?_)
      · have h := h.1 c
        refine V_iload (pc := 224) dX12_found_224 rfl ?_
        refine V_iconst (v := 1) (pc := 226) dX12_found_226 rfl ?_
        refine V_iadd (pc := 227) dX12_found_227 ?_
        refine V_istore (pc := 228) dX12_found_228 (by decide) ?_
        refine V_lv (lv2 := [(0, .ref (G.2.1 0)), (1, .int v1), (2, .int v2), (3, .int v3), (4, .int v4), (5, .int v5), (6, .int (v10 + 1)), (7, .int v7), (8, .int v8), (9, .int v9), (10, .int v10), (11, .int v11), (12, .int v12)]) rfl ?_
        refine V_iload (pc := 230) dX12_found_230 rfl ?_
        refine V_iconst (v := 1) (pc := 232) dX12_found_232 rfl ?_
        refine V_iadd (pc := 233) dX12_found_233 ?_
        refine V_istore (pc := 234) dX12_found_234 (by decide) ?_
        refine V_lv (lv2 := [(0, .ref (G.2.1 0)), (1, .int v1), (2, .int v2), (3, .int v3), (4, .int v4), (5, .int v5), (6, .int (v10 + 1)), (7, .int (v11 + 1)), (8, .int v8), (9, .int v9), (10, .int v10), (11, .int v11), (12, .int v12)]) rfl ?_
        refine V_iinc (pc := 236) dX12_found_236 rfl (by decide) ?_
        refine V_lv (lv2 := [(0, .ref (G.2.1 0)), (1, .int v1), (2, .int v2), (3, .int v3), (4, .int v4), (5, .int v5), (6, .int (v10 + 1)), (7, .int (v11 + 1)), (8, .int (v8 + 1)), (9, .int v9), (10, .int v10), (11, .int v11), (12, .int v12)]) rfl ?_
        refine V_goto (tgt := 44) (pc := 239) dX12_found_239 rfl ?_
        exact V_sub h ⟨rfl, rfl, rfl, rfl, rfl, rfl, rfl, rfl, rfl, trivial⟩
      · have h := h.2 c
        refine V_iload (pc := 201) dX12_found_201 rfl ?_
        refine V_if_ne (tgt := 216) (pc := 203) dX12_found_203 rfl (fun c => ?_) (fun c => ?_)
        · have h := h.1 c
          refine V_aload_n (pc := 216) dX12_found_216 rfl ?_
          refine V_getR (pc := 217) fX12_99 sM0 rfl dX12_found_217 ?_
          refine V_iload (pc := 220) dX12_found_220 rfl ?_
          refine V_iald (pc := 222) sM30 dX12_found_222 h.1 ?_
          have h := h.2
          exact V_iret dX12_found_223 rfl h
        · have h := h.2 c
          refine V_aload_n (pc := 206) dX12_found_206 rfl ?_
          refine V_getR (pc := 207) fX12_96 sM0 rfl dX12_found_207 ?_
          refine V_iload (pc := 210) dX12_found_210 rfl ?_
          refine V_iald (pc := 212) sM29 dX12_found_212 h.1 ?_
          have h := h.2
          refine V_goto (tgt := 223) (pc := 213) dX12_found_213 rfl ?_
          exact V_iret dX12_found_223 rfl h
    · have h := h.2 c
      refine V_iload (pc := 110) dX12_found_110 rfl ?_
      refine V_istore (pc := 112) dX12_found_112 (by decide) ?_
      refine V_lv (lv2 := [(0, .ref (G.2.1 0)), (1, .int v1), (2, .int v2), (3, .int v3), (4, .int v4), (5, .int v5), (6, .int v6), (7, .int v7), (8, .int v8), (9, .int v9), (10, .int v10), (11, .int v11), (12, .int v12), (13, .int v7)]) rfl ?_
      exact V_sub h ⟨rfl, rfl, rfl, rfl, rfl, rfl, rfl, rfl, rfl, rfl, rfl, rfl, rfl, rfl, trivial⟩
theorem wp_X12_found_114 {G : GV} {k : Nat} {M : Mem} {q : Int32 → Mem → Prop} {v1 : Int32} {v2 : Int32} {v3 : Int32} {v4 : Int32} {v5 : Int32} {v6 : Int32} {v7 : Int32} {v8 : Int32} {v9 : Int32} {v10 : Int32} {v11 : Int32} {v12 : Int32} {v13 : Int32} (h : (((M.1 0 48) ≤ v13 → V shM G mX12_found (k + 4) 94 [(0, .ref (G.2.1 0)), (1, .int v1), (2, .int v2), (3, .int v3), (4, .int v4), (5, .int v5), (6, .int v6), (7, .int v7), (8, .int v8), (9, .int v9), (10, .int v10), (11, .int v11), (12, .int (v12 + 1))] [] M (Qi q)) ∧ (¬ (M.1 0 48) ≤ v13 → ((v10 ≠ (-1000000) → V shM G mX12_found (k + 4) 94 [(0, .ref (G.2.1 0)), (1, .int v1), (2, .int v2), (3, .int v3), (4, .int v4), (5, .int v5), (6, .int v6), (7, .int v7), (8, .int v8), (9, .int v9), (10, .int v10), (11, .int v11), (12, .int (v12 + 1))] [] M (Qi q)) ∧ (v10 = (-1000000) → vp_in v12 12 ∧ vp_in v13 12 ∧ Ci shM G mX12_isLike (k + 3) [.ref (G.2.1 0), .int (M.1 29 (ix v12)), .int (M.1 30 (ix v13))] M (fun x1 M1 => ((x1 = 0 → V shM G mX12_found (k + 4) 114 [(0, .ref (G.2.1 0)), (1, .int v1), (2, .int v2), (3, .int v3), (4, .int v4), (5, .int v5), (6, .int v6), (7, .int v7), (8, .int v8), (9, .int v9), (10, .int v10), (11, .int v11), (12, .int v12), (13, .int (v13 + 1))] [] M1 (Qi q)) ∧ (¬ x1 = 0 → vp_in (((13 * v12) + 14) + v13) 169 ∧ ((((M1.1 31 (ix (((13 * v12) + 14) + v13))) + 1) ≠ v9 → V shM G mX12_found (k + 4) 114 [(0, .ref (G.2.1 0)), (1, .int v1), (2, .int v2), (3, .int v3), (4, .int v4), (5, .int v5), (6, .int v6), (7, .int v7), (8, .int v8), (9, .int v9), (10, .int v10), (11, .int v11), (12, .int v12), (13, .int (v13 + 1))] [] M1 (Qi q)) ∧ (((M1.1 31 (ix (((13 * v12) + 14) + v13))) + 1) = v9 → V shM G mX12_found (k + 4) 114 [(0, .ref (G.2.1 0)), (1, .int v1), (2, .int v2), (3, .int v3), (4, .int v4), (5, .int v5), (6, .int v6), (7, .int v7), (8, .int v8), (9, .int v9), (10, .int v12), (11, .int v13), (12, .int v12), (13, .int (v13 + 1))] [] M1 (Qi q))))))))))) : V shM G mX12_found (k + 4) 114 [(0, .ref (G.2.1 0)), (1, .int v1), (2, .int v2), (3, .int v3), (4, .int v4), (5, .int v5), (6, .int v6), (7, .int v7), (8, .int v8), (9, .int v9), (10, .int v10), (11, .int v11), (12, .int v12), (13, .int v13)] [] M (Qi q) := by
  refine V_iload (pc := 114) dX12_found_114 rfl ?_
  refine V_aload_n (pc := 116) dX12_found_116 rfl ?_
  refine V_getI (pc := 117) fX12_327 sM0 rfl dX12_found_117 ?_
  refine V_icmp_ge (tgt := 188) (pc := 120) dX12_found_120 rfl (fun c => ?_) (fun c => ?_)
  · have h := h.1 c
    refine V_iinc (pc := 188) dX12_found_188 rfl (by decide) ?_
    refine V_lv (lv2 := [(0, .ref (G.2.1 0)), (1, .int v1), (2, .int v2), (3, .int v3), (4, .int v4), (5, .int v5), (6, .int v6), (7, .int v7), (8, .int v8), (9, .int v9), (10, .int v10), (11, .int v11), (12, .int (v12 + 1)), (13, .int v13)]) rfl ?_
    refine V_goto (tgt := 94) (pc := 191) dX12_found_191 rfl ?_
    exact V_sub h ⟨rfl, rfl, rfl, rfl, rfl, rfl, rfl, rfl, rfl, rfl, rfl, rfl, rfl, trivial⟩
  · have h := h.2 c
    refine V_iload (pc := 123) dX12_found_123 rfl ?_
    refine V_ldc (pc := 125) dX12_found_125 nX12_144 ?_
    refine V_icmp_ne (tgt := 188) (pc := 127) dX12_found_127 rfl (fun c => ?_) (fun c => ?_)
    · have h := h.1 c
      refine V_iinc (pc := 188) dX12_found_188 rfl (by decide) ?_
      refine V_lv (lv2 := [(0, .ref (G.2.1 0)), (1, .int v1), (2, .int v2), (3, .int v3), (4, .int v4), (5, .int v5), (6, .int v6), (7, .int v7), (8, .int v8), (9, .int v9), (10, .int v10), (11, .int v11), (12, .int (v12 + 1)), (13, .int v13)]) rfl ?_
      refine V_goto (tgt := 94) (pc := 191) dX12_found_191 rfl ?_
      exact V_sub h ⟨rfl, rfl, rfl, rfl, rfl, rfl, rfl, rfl, rfl, rfl, rfl, rfl, rfl, trivial⟩
    · have h := h.2 c
      refine V_aload_n (pc := 130) dX12_found_130 rfl ?_
      refine V_aload_n (pc := 131) dX12_found_131 rfl ?_
      refine V_getR (pc := 132) fX12_96 sM0 rfl dX12_found_132 ?_
      refine V_iload (pc := 135) dX12_found_135 rfl ?_
      refine V_iald (pc := 137) sM29 dX12_found_137 h.1 ?_
      have h := h.2
      refine V_aload_n (pc := 138) dX12_found_138 rfl ?_
      refine V_getR (pc := 139) fX12_99 sM0 rfl dX12_found_139 ?_
      refine V_iload (pc := 142) dX12_found_142 rfl ?_
      refine V_iald (pc := 144) sM30 dX12_found_144 h.1 ?_
      have h := h.2
      refine V_callVi [.int (M.1 29 (ix v12)), .int (M.1 30 (ix v13))] (pc := 145) kX12_isLike lX12_286 sM0 rfl rfl (Nat.le_of_ble_eq_true rfl) rfl (Nat.le_of_ble_eq_true rfl) dX12_found_145 ?_
      refine Ci.mono h ?_
      intro x1 M1 h
      refine V_if_eq (tgt := 182) (pc := 148) dX12_found_148 rfl (fun c => ?_) (fun c => ?_)
      · have h := h.1 c
        refine V_iinc (pc := 182) dX12_found_182 rfl (by decide) ?_
        refine V_lv (lv2 := [(0, .ref (G.2.1 0)), (1, .int v1), (2, .int v2), (3, .int v3), (4, .int v4), (5, .int v5), (6, .int v6), (7, .int v7), (8, .int v8), (9, .int v9), (10, .int v10), (11, .int v11), (12, .int v12), (13, .int (v13 + 1))]) rfl ?_
        refine V_goto (tgt := 114) (pc := 185) dX12_found_185 rfl ?_
        exact V_sub h ⟨rfl, rfl, rfl, rfl, rfl, rfl, rfl, rfl, rfl, rfl, rfl, rfl, rfl, rfl, trivial⟩
      · have h := h.2 c
        refine V_aload_n (pc := 151) dX12_found_151 rfl ?_
        refine V_getR (pc := 152) fX12_102 sM0 rfl dX12_found_152 ?_
        refine V_bipush (v := 13) (pc := 155) dX12_found_155 rfl ?_
        refine V_iload (pc := 157) dX12_found_157 rfl ?_
        refine V_imul (pc := 159) dX12_found_159 ?_
        refine V_bipush (v := 14) (pc := 160) dX12_found_160 rfl ?_
        refine V_iadd (pc := 162) dX12_found_162 ?_
        refine V_iload (pc := 163) dX12_found_163 rfl ?_
        refine V_iadd (pc := 165) dX12_found_165 ?_
        refine V_iald (pc := 166) sM31 dX12_found_166 h.1 ?_
        have h := h.2
        refine V_iconst (v := 1) (pc := 167) dX12_found_167 rfl ?_
        refine V_iadd (pc := 168) dX12_found_168 ?_
        refine V_iload (pc := 169) dX12_found_169 rfl ?_
        refine V_icmp_ne (tgt := 182) (pc := 171) dX12_found_171 rfl (fun c => ?_) (fun c => ?_)
        · have h := h.1 c
          refine V_iinc (pc := 182) dX12_found_182 rfl (by decide) ?_
          refine V_lv (lv2 := [(0, .ref (G.2.1 0)), (1, .int v1), (2, .int v2), (3, .int v3), (4, .int v4), (5, .int v5), (6, .int v6), (7, .int v7), (8, .int v8), (9, .int v9), (10, .int v10), (11, .int v11), (12, .int v12), (13, .int (v13 + 1))]) rfl ?_
          refine V_goto (tgt := 114) (pc := 185) dX12_found_185 rfl ?_
          exact V_sub h ⟨rfl, rfl, rfl, rfl, rfl, rfl, rfl, rfl, rfl, rfl, rfl, rfl, rfl, rfl, trivial⟩
        · have h := h.2 c
          refine V_iload (pc := 174) dX12_found_174 rfl ?_
          refine V_istore (pc := 176) dX12_found_176 (by decide) ?_
          refine V_lv (lv2 := [(0, .ref (G.2.1 0)), (1, .int v1), (2, .int v2), (3, .int v3), (4, .int v4), (5, .int v5), (6, .int v6), (7, .int v7), (8, .int v8), (9, .int v9), (10, .int v12), (11, .int v11), (12, .int v12), (13, .int v13)]) rfl ?_
          refine V_iload (pc := 178) dX12_found_178 rfl ?_
          refine V_istore (pc := 180) dX12_found_180 (by decide) ?_
          refine V_lv (lv2 := [(0, .ref (G.2.1 0)), (1, .int v1), (2, .int v2), (3, .int v3), (4, .int v4), (5, .int v5), (6, .int v6), (7, .int v7), (8, .int v8), (9, .int v9), (10, .int v12), (11, .int v13), (12, .int v12), (13, .int v13)]) rfl ?_
          refine V_iinc (pc := 182) dX12_found_182 rfl (by decide) ?_
          refine V_lv (lv2 := [(0, .ref (G.2.1 0)), (1, .int v1), (2, .int v2), (3, .int v3), (4, .int v4), (5, .int v5), (6, .int v6), (7, .int v7), (8, .int v8), (9, .int v9), (10, .int v12), (11, .int v13), (12, .int v12), (13, .int (v13 + 1))]) rfl ?_
          refine V_goto (tgt := 114) (pc := 185) dX12_found_185 rfl ?_
          exact V_sub h ⟨rfl, rfl, rfl, rfl, rfl, rfl, rfl, rfl, rfl, rfl, rfl, rfl, rfl, rfl, trivial⟩
theorem wp_X12_lost {G : GV} {k : Nat} {M : Mem} {q : Int32 → Mem → Prop} {v1 : Int32} {v2 : Int32} {v3 : Int32} {v4 : Int32} (h : Ci shM G mX12_isSpan (k + 3) [.int v1, .int v2, .int v3] (mset M 0 0 0) (fun x1 M1 => ((x1 = 0 → q (-1000001) M1) ∧ (¬ x1 = 0 → Ci shM G mX12_in (k + 3) [.long (Int32.toInt64 v4), .long 0, .long 2] M1 (fun x2 M2 => ((x2 ≠ 0 → Cv shM G mX12_match (k + 3) [.ref (G.2.1 0), .int v1, .int v2, .int v3] M2 (fun M3 => ((v4 ≠ 0 → ((v4 ≠ 1 → q (M3.1 0 48) M3) ∧ (v4 = 1 → q (M3.1 0 47) M3))) ∧ (v4 = 0 → vp_in 0 169 ∧ q (M3.1 31 (ix 0)) M3)))) ∧ (x2 = 0 → q (-1000001) M2))))))) : Ci shM G mX12_lost (k + 4) [.ref (G.2.1 0), .int v1, .int v2, .int v3, .int v4] M q := by
  unfold Ci
  show V _ _ _ _ _ [(0, .ref (G.2.1 0)), (1, .int v1), (2, .int v2), (3, .int v3), (4, .int v4)] _ _ _
  refine V_aload_n (pc := 0) dX12_lost_0 rfl ?_
  refine V_iconst (v := 0) (pc := 1) dX12_lost_1 rfl ?_
  refine V_putI (pc := 2) fX12_108 p12_0 sM0 rfl dX12_lost_2 ?_
  refine V_iload_n (pc := 5) dX12_lost_5 rfl ?_
  refine V_iload_n (pc := 6) dX12_lost_6 rfl ?_
  refine V_iload_n (pc := 7) dX12_lost_7 rfl ?_
  refine V_callSi [.int v1, .int v2, .int v3] (pc := 8) kX12_isSpan lX12_330 rfl (Nat.le_of_ble_eq_true rfl) rfl (Nat.le_of_ble_eq_true rfl) dX12_lost_8 ?_
  refine Ci.mono h ?_
  intro x1 M1 h
  refine V_if_eq (tgt := 27) (pc := 11) dX12_lost_11 rfl (fun c => ?_) (fun c => ?_)
  · have h := h.1 c
    refine V_ldc (pc := 27) dX12_lost_27 nX12_128 ?_
    exact V_iret dX12_lost_29 rfl h
  · have h := h.2 c
    refine V_iload (pc := 14) dX12_lost_14 rfl ?_
    refine V_i2l (pc := 16) dX12_lost_16 ?_
    refine V_lconst (v := 0) (pc := 17) dX12_lost_17 rfl ?_
    refine V_ldc2 (pc := 18) dX12_lost_18 nX12_126 ?_
    refine V_callSi [.long (Int32.toInt64 v4), .long 0, .long 2] (pc := 21) kX12_in lX12_118 rfl (Nat.le_of_ble_eq_true rfl) rfl (Nat.le_of_ble_eq_true rfl) dX12_lost_21 ?_
    refine Ci.mono h ?_
    intro x2 M2 h
    refine V_if_ne (tgt := 30) (pc := 24) dX12_lost_24 rfl (fun c => ?_) (fun c => ?_)
    · have h := h.1 c
      refine V_aload_n (pc := 30) dX12_lost_30 rfl ?_
      refine V_iload_n (pc := 31) dX12_lost_31 rfl ?_
      refine V_iload_n (pc := 32) dX12_lost_32 rfl ?_
      refine V_iload_n (pc := 33) dX12_lost_33 rfl ?_
      refine V_callVv [.int v1, .int v2, .int v3] (pc := 34) kX12_match lX12_333 sM0 rfl rfl (Nat.le_of_ble_eq_true rfl) rfl (Nat.le_of_ble_eq_true rfl) dX12_lost_34 ?_
      refine Cv.mono h ?_
      intro M3 h
      refine V_iload (pc := 37) dX12_lost_37 rfl ?_
      refine V_if_ne (tgt := 51) (pc := 39) dX12_lost_39 rfl (fun c => ?_) (fun c => ?_)
      · have h := h.1 c
        refine V_iload (pc := 51) dX12_lost_51 rfl ?_
        refine V_iconst (v := 1) (pc := 53) dX12_lost_53 rfl ?_
        refine V_icmp_ne (tgt := 64) (pc := 54) dX12_lost_54 rfl (fun c => ?_) (fun c => ?_)
        · have h := h.1 c
          refine V_aload_n (pc := 64) dX12_lost_64 rfl ?_
          refine V_getI (pc := 65) fX12_327 sM0 rfl dX12_lost_65 ?_
          exact V_iret dX12_lost_68 rfl h
        · have h := h.2 c
          refine V_aload_n (pc := 57) dX12_lost_57 rfl ?_
          refine V_getI (pc := 58) fX12_324 sM0 rfl dX12_lost_58 ?_
          refine V_goto (tgt := 68) (pc := 61) dX12_lost_61 rfl ?_
          exact V_iret dX12_lost_68 rfl h
      · have h := h.2 c
        refine V_aload_n (pc := 42) dX12_lost_42 rfl ?_
        refine V_getR (pc := 43) fX12_102 sM0 rfl dX12_lost_43 ?_
        refine V_iconst (v := 0) (pc := 46) dX12_lost_46 rfl ?_
        refine V_iald (pc := 47) sM31 dX12_lost_47 h.1 ?_
        have h := h.2
        refine V_goto (tgt := 68) (pc := 48) dX12_lost_48 rfl ?_
        exact V_iret dX12_lost_68 rfl h
    · have h := h.2 c
      refine V_ldc (pc := 27) dX12_lost_27 nX12_128 ?_
      exact V_iret dX12_lost_29 rfl h
