theorem wp_X12_missing {G : GV} {k : Nat} {M : Mem} {q : Int32 → Mem → Prop} {v1 : Int32} {v2 : Int32} {v3 : Int32} (h : Ci shM G mX12_isBook (k + 2) [.ref (G.2.1 0), .int v1] (mset M 0 0 0) (fun x1 M1 => ((x1 = 0 → q (-1000001) M1) ∧ (¬ x1 = 0 → Ci shM G mX12_isBook (k + 2) [.ref (G.2.1 0), .int v2] M1 (fun x2 M2 => ((x2 = 0 → q (-1000001) M2) ∧ (¬ x2 = 0 → ((v1 = v2 → q (-1000001) M2) ∧ (¬ v1 = v2 → Ci shM G mX12_in (k + 2) [.long (Int32.toInt64 v3), .long 0, .long 2] M2 (fun x3 M3 => ((x3 ≠ 0 → V shM G mX12_missing (k + 3) 53 [(0, .ref (G.2.1 0)), (1, .int v1), (2, .int v2), (3, .int v3), (4, .int 0), (5, .int 0), (6, .int 0), (7, .int 0)] [] M3 (Qi q)) ∧ (x3 = 0 → q (-1000001) M3)))))))))))) : Ci shM G mX12_missing (k + 3) [.ref (G.2.1 0), .int v1, .int v2, .int v3] M q := by
  unfold Ci
  show V _ _ _ _ _ [(0, .ref (G.2.1 0)), (1, .int v1), (2, .int v2), (3, .int v3)] _ _ _
  refine V_aload_n (pc := 0) dX12_missing_0 rfl ?_
  refine V_iconst (v := 0) (pc := 1) dX12_missing_1 rfl ?_
  refine V_putI (pc := 2) fX12_108 p12_0 sM0 rfl dX12_missing_2 ?_
  refine V_aload_n (pc := 5) dX12_missing_5 rfl ?_
  refine V_iload_n (pc := 6) dX12_missing_6 rfl ?_
  refine V_callVi [.int v1] (pc := 7) kX12_isBook lX12_337 sM0 rfl rfl (Nat.le_of_ble_eq_true rfl) rfl (Nat.le_of_ble_eq_true rfl) dX12_missing_7 ?_
  refine Ci.mono h ?_
  intro x1 M1 h
  refine V_if_eq (tgt := 38) (pc := 10) dX12_missing_10 rfl (fun c => ?_) (fun c => ?_)
  · have h := h.1 c
    refine V_ldc (pc := 38) dX12_missing_38 nX12_128 ?_
    exact V_iret dX12_missing_40 rfl h
  · have h := h.2 c
    refine V_aload_n (pc := 13) dX12_missing_13 rfl ?_
    refine V_iload_n (pc := 14) dX12_missing_14 rfl ?_
    refine V_callVi [.int v2] (pc := 15) kX12_isBook lX12_337 sM0 rfl rfl (Nat.le_of_ble_eq_true rfl) rfl (Nat.le_of_ble_eq_true rfl) dX12_missing_15 ?_
    refine Ci.mono h ?_
    intro x2 M2 h
    refine V_if_eq (tgt := 38) (pc := 18) dX12_missing_18 rfl (fun c => ?_) (fun c => ?_)
    · have h := h.1 c
      refine V_ldc (pc := 38) dX12_missing_38 nX12_128 ?_
      exact V_iret dX12_missing_40 rfl h
    · have h := h.2 c
      refine V_iload_n (pc := 21) dX12_missing_21 rfl ?_
      refine V_iload_n (pc := 22) dX12_missing_22 rfl ?_
      refine V_icmp_eq (tgt := 38) (pc := 23) dX12_missing_23 rfl (fun c => ?_) (fun c => ?_)
      · have h := h.1 c
        refine V_ldc (pc := 38) dX12_missing_38 nX12_128 ?_
        exact V_iret dX12_missing_40 rfl h
      · have h := h.2 c
        refine V_iload_n (pc := 26) dX12_missing_26 rfl ?_
        refine V_i2l (pc := 27) dX12_missing_27 ?_
        refine V_lconst (v := 0) (pc := 28) dX12_missing_28 rfl ?_
        refine V_ldc2 (pc := 29) dX12_missing_29 nX12_126 ?_
        refine V_callSi [.long (Int32.toInt64 v3), .long 0, .long 2] (pc := 32) kX12_in lX12_118 rfl (Nat.le_of_ble_eq_true rfl) rfl (Nat.le_of_ble_eq_true rfl) dX12_missing_32 ?_
        refine Ci.mono h ?_
        intro x3 M3 h
        refine V_if_ne (tgt := 41) (pc := 35) dX12_missing_35 rfl (fun c => ?_) (fun c => ?_)
        · have h := h.1 c
          refine V_iconst (v := 0) (pc := 41) dX12_missing_41 rfl ?_
          refine V_istore (pc := 42) dX12_missing_42 (by decide) ?_
          refine V_lv (lv2 := [(0, .ref (G.2.1 0)), (1, .int v1), (2, .int v2), (3, .int v3), (4, .int 0)]) rfl ?_
          refine V_iconst (v := 0) (pc := 44) dX12_missing_44 rfl ?_
          refine V_istore (pc := 45) dX12_missing_45 (by decide) ?_
          refine V_lv (lv2 := [(0, .ref (G.2.1 0)), (1, .int v1), (2, .int v2), (3, .int v3), (4, .int 0), (5, .int 0)]) rfl ?_
          refine V_iconst (v := 0) (pc := 47) dX12_missing_47 rfl ?_
          refine V_istore (pc := 48) dX12_missing_48 (by decide) ?_
          refine V_lv (lv2 := [(0, .ref (G.2.1 0)), (1, .int v1), (2, .int v2), (3, .int v3), (4, .int 0), (5, .int 0), (6, .int 0)]) rfl ?_
          refine V_iconst (v := 0) (pc := 50) dX12_missing_50 rfl ?_
          refine V_istore (pc := 51) dX12_missing_51 (by decide) ?_
          refine V_lv (lv2 := [(0, .ref (G.2.1 0)), (1, .int v1), (2, .int v2), (3, .int v3), (4, .int 0), (5, .int 0), (6, .int 0), (7, .int 0)]) rfl ?_
          exact V_sub h ⟨rfl, rfl, rfl, rfl, rfl, rfl, rfl, rfl, trivial⟩
        · have h := h.2 c
          refine V_ldc (pc := 38) dX12_missing_38 nX12_128 ?_
          exact V_iret dX12_missing_40 rfl h
theorem wp_X12_missing_53 {G : GV} {k : Nat} {M : Mem} {q : Int32 → Mem → Prop} {v1 : Int32} {v2 : Int32} {v3 : Int32} {v4 : Int32} {v5 : Int32} {v6 : Int32} {v7 : Int32} (h : (((M.1 0 10) ≤ v7 → ((v3 ≠ 2 → ((v3 ≠ 1 → ((v6 ≠ 0 → ¬ v6 = 0 ∧ q ((v4 * v5) / v6) M) ∧ (v6 = 0 → q (-1000000) M))) ∧ (v3 = 1 → q ((v4 + v5) - v6) M))) ∧ (v3 = 2 → q v6 M))) ∧ (¬ (M.1 0 10) ≤ v7 → vp_in v7 12 ∧ (((M.1 8 (ix v7)) ≠ v1 → vp_in v7 12 ∧ (((M.1 8 (ix v7)) ≠ v2 → V shM G mX12_missing (k + 3) 110 [(0, .ref (G.2.1 0)), (1, .int v1), (2, .int v2), (3, .int v3), (4, .int (v4 + 0)), (5, .int (v5 + 0)), (6, .int v6), (7, .int v7), (8, .int 0), (9, .int 0)] [] M (Qi q)) ∧ ((M.1 8 (ix v7)) = v2 → V shM G mX12_missing (k + 3) 110 [(0, .ref (G.2.1 0)), (1, .int v1), (2, .int v2), (3, .int v3), (4, .int (v4 + 0)), (5, .int (v5 + 1)), (6, .int v6), (7, .int v7), (8, .int 0), (9, .int 0)] [] M (Qi q)))) ∧ ((M.1 8 (ix v7)) = v1 → vp_in v7 12 ∧ (((M.1 8 (ix v7)) ≠ v2 → V shM G mX12_missing (k + 3) 110 [(0, .ref (G.2.1 0)), (1, .int v1), (2, .int v2), (3, .int v3), (4, .int (v4 + 1)), (5, .int (v5 + 0)), (6, .int v6), (7, .int v7), (8, .int 0), (9, .int 0)] [] M (Qi q)) ∧ ((M.1 8 (ix v7)) = v2 → V shM G mX12_missing (k + 3) 110 [(0, .ref (G.2.1 0)), (1, .int v1), (2, .int v2), (3, .int v3), (4, .int (v4 + 1)), (5, .int (v5 + 1)), (6, .int v6), (7, .int v7), (8, .int 0), (9, .int 0)] [] M (Qi q)))))))) : V shM G mX12_missing (k + 3) 53 [(0, .ref (G.2.1 0)), (1, .int v1), (2, .int v2), (3, .int v3), (4, .int v4), (5, .int v5), (6, .int v6), (7, .int v7)] [] M (Qi q) := by
  refine V_iload (pc := 53) dX12_missing_53 rfl ?_
  refine V_aload_n (pc := 55) dX12_missing_55 rfl ?_
  refine V_getI (pc := 56) fX12_227 sM0 rfl dX12_missing_56 ?_
  refine V_icmp_ge (tgt := 202) (pc := 59) dX12_missing_59 rfl (fun c => ?_) (fun c => ?_)
  · have h := h.1 c
    refine V_iload_n (pc := 202) dX12_missing_202 rfl ?_
    refine V_iconst (v := 2) (pc := 203) dX12_missing_203 rfl ?_
    refine V_icmp_ne (tgt := 212) (pc := 204) dX12_missing_204 rfl (fun c => ?_) (fun c => ?_)
    · have h := h.1 c
      refine V_iload_n (pc := 212) dX12_missing_212 rfl ?_
      refine V_iconst (v := 1) (pc := 213) dX12_missing_213 rfl ?_
      refine V_icmp_ne (tgt := 228) (pc := 214) dX12_missing_214 rfl (fun c => ?_) (fun c => ?_)
      · have h := h.1 c
        refine V_iload (pc := 228) dX12_missing_228 rfl ?_
        refine V_if_ne (tgt := 238) (pc := 230) dX12_missing_230 rfl (fun c => ?_) (fun c => ?_)
        · have h := h.1 c
          refine V_iload (pc := 238) dX12_missing_238 rfl ?_
          refine V_iload (pc := 240) dX12_missing_240 rfl ?_
          refine V_imul (pc := 242) dX12_missing_242 ?_
          refine V_iload (pc := 243) dX12_missing_243 rfl ?_
          refine V_idiv (pc := 245) dX12_missing_245 h.1 ?_
          have h := h.2
          exact V_iret dX12_missing_246 rfl h
        · have h := h.2 c
          refine V_ldc (pc := 233) dX12_missing_233 nX12_144 ?_
          refine V_goto (tgt := 246) (pc := 235) dX12_missing_235 rfl ?_
          exact V_iret dX12_missing_246 rfl h
      · have h := h.2 c
        refine V_iload (pc := 217) dX12_missing_217 rfl ?_
        refine V_iload (pc := 219) dX12_missing_219 rfl ?_
        refine V_iadd (pc := 221) dX12_missing_221 ?_
        refine V_iload (pc := 222) dX12_missing_222 rfl ?_
        refine V_isub (pc := 224) dX12_missing_224 ?_
        refine V_goto (tgt := 246) (pc := 225) dX12_missing_225 rfl ?_
        exact V_iret dX12_missing_246 rfl h
    · have h := h.2 c
      refine V_iload (pc := 207) dX12_missing_207 rfl ?_
      refine V_goto (tgt := 246) (pc := 209) dX12_missing_209 rfl ?_
      exact V_iret dX12_missing_246 rfl h
  · have h := h.2 c
    refine V_iload (pc := 62) dX12_missing_62 rfl ?_
    refine V_aload_n (pc := 64) dX12_missing_64 rfl ?_
    refine V_getR (pc := 65) fX12_32 sM0 rfl dX12_missing_65 ?_
    refine V_iload (pc := 68) dX12_missing_68 rfl ?_
    refine V_iald (pc := 70) sM8 dX12_missing_70 h.1 ?_
    have h := h.2
    refine V_iload_n (pc := 71) dX12_missing_71 rfl ?_
    refine V_icmp_ne (tgt := 79) (pc := 72) dX12_missing_72 rfl (fun c => ?_) (fun c => ?_)
    · have h := h.1 c
      refine V_iconst (v := 0) (pc := 79) dX12_missing_79 rfl ?_
      refine V_iadd (pc := 80) dX12_missing_80 ?_
      refine V_istore (pc := 81) dX12_missing_81 (by decide) ?_
      refine V_lv (lv2 := [(0, .ref (G.2.1 0)), (1, .int v1), (2, .int v2), (3, .int v3), (4, .int (v4 + 0)), (5, .int v5), (6, .int v6), (7, .int v7)]) rfl ?_
      refine V_iload (pc := 83) dX12_missing_83 rfl ?_
      refine V_aload_n (pc := 85) dX12_missing_85 rfl ?_
      refine V_getR (pc := 86) fX12_32 sM0 rfl dX12_missing_86 ?_
      refine V_iload (pc := 89) dX12_missing_89 rfl ?_
      refine V_iald (pc := 91) sM8 dX12_missing_91 h.1 ?_
      have h := h.2
      refine V_iload_n (pc := 92) dX12_missing_92 rfl ?_
      refine V_icmp_ne (tgt := 100) (pc := 93) dX12_missing_93 rfl (fun c => ?_) (fun c => ?_)
      · have h := h.1 c
        refine V_iconst (v := 0) (pc := 100) dX12_missing_100 rfl ?_
        refine V_iadd (pc := 101) dX12_missing_101 ?_
        refine V_istore (pc := 102) dX12_missing_102 (by decide) ?_
        refine V_lv (lv2 := [(0, .ref (G.2.1 0)), (1, .int v1), (2, .int v2), (3, .int v3), (4, .int (v4 + 0)), (5, .int (v5 + 0)), (6, .int v6), (7, .int v7)]) rfl ?_
        refine V_iconst (v := 0) (pc := 104) dX12_missing_104 rfl ?_
        refine V_istore (pc := 105) dX12_missing_105 (by decide) ?_
        refine V_lv (lv2 := [(0, .ref (G.2.1 0)), (1, .int v1), (2, .int v2), (3, .int v3), (4, .int (v4 + 0)), (5, .int (v5 + 0)), (6, .int v6), (7, .int v7), (8, .int 0)]) rfl ?_
        refine V_iconst (v := 0) (pc := 107) dX12_missing_107 rfl ?_
        refine V_istore (pc := 108) dX12_missing_108 (by decide) ?_
        refine V_lv (lv2 := [(0, .ref (G.2.1 0)), (1, .int v1), (2, .int v2), (3, .int v3), (4, .int (v4 + 0)), (5, .int (v5 + 0)), (6, .int v6), (7, .int v7), (8, .int 0), (9, .int 0)]) rfl ?_
        exact V_sub h ⟨rfl, rfl, rfl, rfl, rfl, rfl, rfl, rfl, rfl, rfl, trivial⟩
      · have h := h.2 c
        refine V_iconst (v := 1) (pc := 96) dX12_missing_96 rfl ?_
        refine V_goto (tgt := 101) (pc := 97) dX12_missing_97 rfl ?_
        refine V_iadd (pc := 101) dX12_missing_101 ?_
        refine V_istore (pc := 102) dX12_missing_102 (by decide) ?_
        refine V_lv (lv2 := [(0, .ref (G.2.1 0)), (1, .int v1), (2, .int v2), (3, .int v3), (4, .int (v4 + 0)), (5, .int (v5 + 1)), (6, .int v6), (7, .int v7)]) rfl ?_
        refine V_iconst (v := 0) (pc := 104) dX12_missing_104 rfl ?_
        refine V_istore (pc := 105) dX12_missing_105 (by decide) ?_
        refine V_lv (lv2 := [(0, .ref (G.2.1 0)), (1, .int v1), (2, .int v2), (3, .int v3), (4, .int (v4 + 0)), (5, .int (v5 + 1)), (6, .int v6), (7, .int v7), (8, .int 0)]) rfl ?_
        refine V_iconst (v := 0) (pc := 107) dX12_missing_107 rfl ?_
        refine V_istore (pc := 108) dX12_missing_108 (by decide) ?_
        refine V_lv (lv2 := [(0, .ref (G.2.1 0)), (1, .int v1), (2, .int v2), (3, .int v3), (4, .int (v4 + 0)), (5, .int (v5 + 1)), (6, .int v6), (7, .int v7), (8, .int 0), (9, .int 0)]) rfl ?_
        exact V_sub h ⟨rfl, rfl, rfl, rfl, rfl, rfl, rfl, rfl, rfl, rfl, trivial⟩
    · have h := h.2 c
      refine V_iconst (v := 1) (pc := 75) dX12_missing_75 rfl ?_
      refine V_goto (tgt := 80) (pc := 76) dX12_missing_76 rfl ?_
      refine V_iadd (pc := 80) dX12_missing_80 ?_
      refine V_istore (pc := 81) dX12_missing_81 (by decide) ?_
      refine V_lv (lv2 := [(0, .ref (G.2.1 0)), (1, .int v1), (2, .int v2), (3, .int v3), (4, .int (v4 + 1)), (5, .int v5), (6, .int v6), (7, .int v7)]) rfl ?_
      refine V_iload (pc := 83) dX12_missing_83 rfl ?_
      refine V_aload_n (pc := 85) dX12_missing_85 rfl ?_
      refine V_getR (pc := 86) fX12_32 sM0 rfl dX12_missing_86 ?_
      refine V_iload (pc := 89) dX12_missing_89 rfl ?_
      refine V_iald (pc := 91) sM8 dX12_missing_91 h.1 ?_
      have h := h.2
      refine V_iload_n (pc := 92) dX12_missing_92 rfl ?_
      refine V_icmp_ne (tgt := 100) (pc := 93) dX12_missing_93 rfl (fun c => ?_) (fun c => ?_)
      · have h := h.1 c
        refine V_iconst (v := 0) (pc := 100) dX12_missing_100 rfl ?_
        refine V_iadd (pc := 101) dX12_missing_101 ?_
        refine V_istore (pc := 102) dX12_missing_102 (by decide) ?_
        refine V_lv (lv2 := [(0, .ref (G.2.1 0)), (1, .int v1), (2, .int v2), (3, .int v3), (4, .int (v4 + 1)), (5, .int (v5 + 0)), (6, .int v6), (7, .int v7)]) rfl ?_
        refine V_iconst (v := 0) (pc := 104) dX12_missing_104 rfl ?_
        refine V_istore (pc := 105) dX12_missing_105 (by decide) ?_
        refine V_lv (lv2 := [(0, .ref (G.2.1 0)), (1, .int v1), (2, .int v2), (3, .int v3), (4, .int (v4 + 1)), (5, .int (v5 + 0)), (6, .int v6), (7, .int v7), (8, .int 0)]) rfl ?_
        refine V_iconst (v := 0) (pc := 107) dX12_missing_107 rfl ?_
        refine V_istore (pc := 108) dX12_missing_108 (by decide) ?_
        refine V_lv (lv2 := [(0, .ref (G.2.1 0)), (1, .int v1), (2, .int v2), (3, .int v3), (4, .int (v4 + 1)), (5, .int (v5 + 0)), (6, .int v6), (7, .int v7), (8, .int 0), (9, .int 0)]) rfl ?_
        exact V_sub h ⟨rfl, rfl, rfl, rfl, rfl, rfl, rfl, rfl, rfl, rfl, trivial⟩
      · have h := h.2 c
        refine V_iconst (v := 1) (pc := 96) dX12_missing_96 rfl ?_
        refine V_goto (tgt := 101) (pc := 97) dX12_missing_97 rfl ?_
        refine V_iadd (pc := 101) dX12_missing_101 ?_
        refine V_istore (pc := 102) dX12_missing_102 (by decide) ?_
        refine V_lv (lv2 := [(0, .ref (G.2.1 0)), (1, .int v1), (2, .int v2), (3, .int v3), (4, .int (v4 + 1)), (5, .int (v5 + 1)), (6, .int v6), (7, .int v7)]) rfl ?_
        refine V_iconst (v := 0) (pc := 104) dX12_missing_104 rfl ?_
        refine V_istore (pc := 105) dX12_missing_105 (by decide) ?_
        refine V_lv (lv2 := [(0, .ref (G.2.1 0)), (1, .int v1), (2, .int v2), (3, .int v3), (4, .int (v4 + 1)), (5, .int (v5 + 1)), (6, .int v6), (7, .int v7), (8, .int 0)]) rfl ?_
        refine V_iconst (v := 0) (pc := 107) dX12_missing_107 rfl ?_
        refine V_istore (pc := 108) dX12_missing_108 (by decide) ?_
        refine V_lv (lv2 := [(0, .ref (G.2.1 0)), (1, .int v1), (2, .int v2), (3, .int v3), (4, .int (v4 + 1)), (5, .int (v5 + 1)), (6, .int v6), (7, .int v7), (8, .int 0), (9, .int 0)]) rfl ?_
        exact V_sub h ⟨rfl, rfl, rfl, rfl, rfl, rfl, rfl, rfl, rfl, rfl, trivial⟩
theorem wp_X12_missing_110 {G : GV} {k : Nat} {M : Mem} {q : Int32 → Mem → Prop} {v1 : Int32} {v2 : Int32} {v3 : Int32} {v4 : Int32} {v5 : Int32} {v6 : Int32} {v7 : Int32} {v8 : Int32} {v9 : Int32} (h : (((M.1 0 10) ≤ v9 → ((v8 = 0 → V shM G mX12_missing (k + 3) 53 [(0, .ref (G.2.1 0)), (1, .int v1), (2, .int v2), (3, .int v3), (4, .int v4), (5, .int v5), (6, .int (v6 + 0)), (7, .int (v7 + 1))] [] M (Qi q)) ∧ (¬ v8 = 0 → V shM G mX12_missing (k + 3) 53 [(0, .ref (G.2.1 0)), (1, .int v1), (2, .int v2), (3, .int v3), (4, .int v4), (5, .int v5), (6, .int (v6 + 1)), (7, .int (v7 + 1))] [] M (Qi q)))) ∧ (¬ (M.1 0 10) ≤ v9 → vp_in v7 12 ∧ (((M.1 8 (ix v7)) ≠ v1 → ((v8 = 0 → V shM G mX12_missing (k + 3) 53 [(0, .ref (G.2.1 0)), (1, .int v1), (2, .int v2), (3, .int v3), (4, .int v4), (5, .int v5), (6, .int (v6 + 0)), (7, .int (v7 + 1))] [] M (Qi q)) ∧ (¬ v8 = 0 → V shM G mX12_missing (k + 3) 53 [(0, .ref (G.2.1 0)), (1, .int v1), (2, .int v2), (3, .int v3), (4, .int v4), (5, .int v5), (6, .int (v6 + 1)), (7, .int (v7 + 1))] [] M (Qi q)))) ∧ ((M.1 8 (ix v7)) = v1 → ((v8 ≠ 0 → V shM G mX12_missing (k + 3) 110 [(0, .ref (G.2.1 0)), (1, .int v1), (2, .int v2), (3, .int v3), (4, .int v4), (5, .int v5), (6, .int v6), (7, .int v7), (8, .int 1), (9, .int (v9 + 1))] [] M (Qi q)) ∧ (v8 = 0 → vp_in v9 12 ∧ (((M.1 8 (ix v9)) ≠ v2 → V shM G mX12_missing (k + 3) 110 [(0, .ref (G.2.1 0)), (1, .int v1), (2, .int v2), (3, .int v3), (4, .int v4), (5, .int v5), (6, .int v6), (7, .int v7), (8, .int 0), (9, .int (v9 + 1))] [] M (Qi q)) ∧ ((M.1 8 (ix v9)) = v2 → Ci shM G mX12_isLike (k + 2) [.ref (G.2.1 0), .int v7, .int v9] M (fun x1 M1 => ((x1 = 0 → V shM G mX12_missing (k + 3) 110 [(0, .ref (G.2.1 0)), (1, .int v1), (2, .int v2), (3, .int v3), (4, .int v4), (5, .int v5), (6, .int v6), (7, .int v7), (8, .int 0), (9, .int (v9 + 1))] [] M1 (Qi q)) ∧ (¬ x1 = 0 → Ci shM G mX12_isOneDoor (k + 2) [.ref (G.2.1 0), .int v7, .int v9] M1 (fun x2 M2 => ((x2 = 0 → V shM G mX12_missing (k + 3) 110 [(0, .ref (G.2.1 0)), (1, .int v1), (2, .int v2), (3, .int v3), (4, .int v4), (5, .int v5), (6, .int v6), (7, .int v7), (8, .int 0), (9, .int (v9 + 1))] [] M2 (Qi q)) ∧ (¬ x2 = 0 → V shM G mX12_missing (k + 3) 110 [(0, .ref (G.2.1 0)), (1, .int v1), (2, .int v2), (3, .int v3), (4, .int v4), (5, .int v5), (6, .int v6), (7, .int v7), (8, .int 1), (9, .int (v9 + 1))] [] M2 (Qi q)))))))))))))))) : V shM G mX12_missing (k + 3) 110 [(0, .ref (G.2.1 0)), (1, .int v1), (2, .int v2), (3, .int v3), (4, .int v4), (5, .int v5), (6, .int v6), (7, .int v7), (8, .int v8), (9, .int v9)] [] M (Qi q) := by
  refine V_iload (pc := 110) dX12_missing_110 rfl ?_
  refine V_aload_n (pc := 112) dX12_missing_112 rfl ?_
  refine V_getI (pc := 113) fX12_227 sM0 rfl dX12_missing_113 ?_
  refine V_icmp_ge (tgt := 181) (pc := 116) dX12_missing_116 rfl (fun c => ?_) (fun c => ?_)
  · have h := h.1 c
    refine V_iload (pc := 181) dX12_missing_181 rfl ?_
    refine V_iload (pc := 183) dX12_missing_183 rfl ?_
    refine V_if_eq (tgt := 192) (pc := 185) dX12_missing_185 rfl (fun c => ?_) (fun c => ?_)
    · have h := h.1 c
      refine V_iconst (v := 0) (pc := 192) dX12_missing_192 rfl ?_
      refine V_iadd (pc := 193) dX12_missing_193 ?_
      refine V_istore (pc := 194) dX12_missing_194 (by decide) ?_
      refine V_lv (lv2 := [(0, .ref (G.2.1 0)), (1, .int v1), (2, .int v2), (3, .int v3), (4, .int v4), (5, .int v5), (6, .int (v6 + 0)), (7, .int v7), (8, .int v8), (9, .int v9)]) rfl ?_
      refine V_iinc (pc := 196) dX12_missing_196 rfl (by decide) ?_
      refine V_lv (lv2 := [(0, .ref (G.2.1 0)), (1, .int v1), (2, .int v2), (3, .int v3), (4, .int v4), (5, .int v5), (6, .int (v6 + 0)), (7, .int (v7 + 1)), (8, .int v8), (9, .int v9)]) rfl ?_
      refine V_goto (tgt := 53) (pc := 199) dX12_missing_199 rfl ?_
      exact V_sub h ⟨rfl, rfl, rfl, rfl, rfl, rfl, rfl, rfl, trivial⟩
    · have h := h.2 c
      refine V_iconst (v := 1) (pc := 188) dX12_missing_188 rfl ?_
      refine V_goto (tgt := 193) (pc := 189) dX12_missing_189 rfl ?_
      refine V_iadd (pc := 193) dX12_missing_193 ?_
      refine V_istore (pc := 194) dX12_missing_194 (by decide) ?_
      refine V_lv (lv2 := [(0, .ref (G.2.1 0)), (1, .int v1), (2, .int v2), (3, .int v3), (4, .int v4), (5, .int v5), (6, .int (v6 + 1)), (7, .int v7), (8, .int v8), (9, .int v9)]) rfl ?_
      refine V_iinc (pc := 196) dX12_missing_196 rfl (by decide) ?_
      refine V_lv (lv2 := [(0, .ref (G.2.1 0)), (1, .int v1), (2, .int v2), (3, .int v3), (4, .int v4), (5, .int v5), (6, .int (v6 + 1)), (7, .int (v7 + 1)), (8, .int v8), (9, .int v9)]) rfl ?_
      refine V_goto (tgt := 53) (pc := 199) dX12_missing_199 rfl ?_
      exact V_sub h ⟨rfl, rfl, rfl, rfl, rfl, rfl, rfl, rfl, trivial⟩
  · have h := h.2 c
    refine V_aload_n (pc := 119) dX12_missing_119 rfl ?_
    refine V_getR (pc := 120) fX12_32 sM0 rfl dX12_missing_120 ?_
    refine V_iload (pc := 123) dX12_missing_123 rfl ?_
    refine V_iald (pc := 125) sM8 dX12_missing_125 h.1 ?_
    have h := h.2
    refine V_iload_n (pc := 126) dX12_missing_126 rfl ?_
    refine V_icmp_ne (tgt := 181) (pc := 127) dX12_missing_127 rfl (fun c => ?_) (fun c => ?_)
    · have h := h.1 c
      refine V_iload (pc := 181) dX12_missing_181 rfl ?_
      refine V_iload (pc := 183) dX12_missing_183 rfl ?_
      refine V_if_eq (tgt := 192) (pc := 185) dX12_missing_185 rfl (fun c => ?_) (fun c => ?_)
      · have h := h.1 c
        refine V_iconst (v := 0) (pc := 192) dX12_missing_192 rfl ?_
        refine V_iadd (pc := 193) dX12_missing_193 ?_
        refine V_istore (pc := 194) dX12_missing_194 (by decide) ?_
        refine V_lv (lv2 := [(0, .ref (G.2.1 0)), (1, .int v1), (2, .int v2), (3, .int v3), (4, .int v4), (5, .int v5), (6, .int (v6 + 0)), (7, .int v7), (8, .int v8), (9, .int v9)]) rfl ?_
        refine V_iinc (pc := 196) dX12_missing_196 rfl (by decide) ?_
        refine V_lv (lv2 := [(0, .ref (G.2.1 0)), (1, .int v1), (2, .int v2), (3, .int v3), (4, .int v4), (5, .int v5), (6, .int (v6 + 0)), (7, .int (v7 + 1)), (8, .int v8), (9, .int v9)]) rfl ?_
        refine V_goto (tgt := 53) (pc := 199) dX12_missing_199 rfl ?_
        exact V_sub h ⟨rfl, rfl, rfl, rfl, rfl, rfl, rfl, rfl, trivial⟩
      · have h := h.2 c
        refine V_iconst (v := 1) (pc := 188) dX12_missing_188 rfl ?_
        refine V_goto (tgt := 193) (pc := 189) dX12_missing_189 rfl ?_
        refine V_iadd (pc := 193) dX12_missing_193 ?_
        refine V_istore (pc := 194) dX12_missing_194 (by decide) ?_
        refine V_lv (lv2 := [(0, .ref (G.2.1 0)), (1, .int v1), (2, .int v2), (3, .int v3), (4, .int v4), (5, .int v5), (6, .int (v6 + 1)), (7, .int v7), (8, .int v8), (9, .int v9)]) rfl ?_
        refine V_iinc (pc := 196) dX12_missing_196 rfl (by decide) ?_
        refine V_lv (lv2 := [(0, .ref (G.2.1 0)), (1, .int v1), (2, .int v2), (3, .int v3), (4, .int v4), (5, .int v5), (6, .int (v6 + 1)), (7, .int (v7 + 1)), (8, .int v8), (9, .int v9)]) rfl ?_
        refine V_goto (tgt := 53) (pc := 199) dX12_missing_199 rfl ?_
        exact V_sub h ⟨rfl, rfl, rfl, rfl, rfl, rfl, rfl, rfl, trivial⟩
    · have h := h.2 c
      refine V_iload (pc := 130) dX12_missing_130 rfl ?_
      refine V_if_ne (tgt := 168) (pc := 132) dX12_missing_132 rfl (fun c => ?_) (fun c => ?_)
      · have h := h.1 c
        refine V_iconst (v := 1) (pc := 168) dX12_missing_168 rfl ?_
        refine V_goto (tgt := 173) (pc := 169) dX12_missing_169 rfl ?_
        refine V_istore (pc := 173) dX12_missing_173 (by decide) ?_
        refine V_lv (lv2 := [(0, .ref (G.2.1 0)), (1, .int v1), (2, .int v2), (3, .int v3), (4, .int v4), (5, .int v5), (6, .int v6), (7, .int v7), (8, .int 1), (9, .int v9)]) rfl ?_
        refine V_iinc (pc := 175) dX12_missing_175 rfl (by decide) ?_
        refine V_lv (lv2 := [(0, .ref (G.2.1 0)), (1, .int v1), (2, .int v2), (3, .int v3), (4, .int v4), (5, .int v5), (6, .int v6), (7, .int v7), (8, .int 1), (9, .int (v9 + 1))]) rfl ?_
        refine V_goto (tgt := 110) (pc := 178) dX12_missing_178 rfl ?_
        exact V_sub h ⟨rfl, rfl, rfl, rfl, rfl, rfl, rfl, rfl, rfl, rfl, trivial⟩
      · have h := h.2 c
        refine V_aload_n (pc := 135) dX12_missing_135 rfl ?_
        refine V_getR (pc := 136) fX12_32 sM0 rfl dX12_missing_136 ?_
        refine V_iload (pc := 139) dX12_missing_139 rfl ?_
        refine V_iald (pc := 141) sM8 dX12_missing_141 h.1 ?_
        have h := h.2
        refine V_iload_n (pc := 142) dX12_missing_142 rfl ?_
        refine V_icmp_ne (tgt := 172) (pc := 143) dX12_missing_143 rfl (fun c => ?_) (fun c => ?_)
        · have h := h.1 c
          refine V_iconst (v := 0) (pc := 172) dX12_missing_172 rfl ?_
          refine V_istore (pc := 173) dX12_missing_173 (by decide) ?_
          refine V_lv (lv2 := [(0, .ref (G.2.1 0)), (1, .int v1), (2, .int v2), (3, .int v3), (4, .int v4), (5, .int v5), (6, .int v6), (7, .int v7), (8, .int 0), (9, .int v9)]) rfl ?_
          refine V_iinc (pc := 175) dX12_missing_175 rfl (by decide) ?_
          refine V_lv (lv2 := [(0, .ref (G.2.1 0)), (1, .int v1), (2, .int v2), (3, .int v3), (4, .int v4), (5, .int v5), (6, .int v6), (7, .int v7), (8, .int 0), (9, .int (v9 + 1))]) rfl ?_
          refine V_goto (tgt := 110) (pc := 178) dX12_missing_178 rfl ?_
          exact V_sub h ⟨rfl, rfl, rfl, rfl, rfl, rfl, rfl, rfl, rfl, rfl, trivial⟩
        · have h := h.2 c
          refine V_aload_n (pc := 146) dX12_missing_146 rfl ?_
          refine V_iload (pc := 147) dX12_missing_147 rfl ?_
          refine V_iload (pc := 149) dX12_missing_149 rfl ?_
          refine V_callVi [.int v7, .int v9] (pc := 151) kX12_isLike lX12_286 sM0 rfl rfl (Nat.le_of_ble_eq_true rfl) rfl (Nat.le_of_ble_eq_true rfl) dX12_missing_151 ?_
          refine Ci.mono h ?_
          intro x1 M1 h
          refine V_if_eq (tgt := 172) (pc := 154) dX12_missing_154 rfl (fun c => ?_) (fun c => ?_)
          · have h := h.1 c
            refine V_iconst (v := 0) (pc := 172) dX12_missing_172 rfl ?_
            refine V_istore (pc := 173) dX12_missing_173 (by decide) ?_
            refine V_lv (lv2 := [(0, .ref (G.2.1 0)), (1, .int v1), (2, .int v2), (3, .int v3), (4, .int v4), (5, .int v5), (6, .int v6), (7, .int v7), (8, .int 0), (9, .int v9)]) rfl ?_
            refine V_iinc (pc := 175) dX12_missing_175 rfl (by decide) ?_
            refine V_lv (lv2 := [(0, .ref (G.2.1 0)), (1, .int v1), (2, .int v2), (3, .int v3), (4, .int v4), (5, .int v5), (6, .int v6), (7, .int v7), (8, .int 0), (9, .int (v9 + 1))]) rfl ?_
            refine V_goto (tgt := 110) (pc := 178) dX12_missing_178 rfl ?_
            exact V_sub h ⟨rfl, rfl, rfl, rfl, rfl, rfl, rfl, rfl, rfl, rfl, trivial⟩
          · have h := h.2 c
            refine V_aload_n (pc := 157) dX12_missing_157 rfl ?_
            refine V_iload (pc := 158) dX12_missing_158 rfl ?_
            refine V_iload (pc := 160) dX12_missing_160 rfl ?_
            refine V_callVi [.int v7, .int v9] (pc := 162) kX12_isOneDoor lX12_295 sM0 rfl rfl (Nat.le_of_ble_eq_true rfl) rfl (Nat.le_of_ble_eq_true rfl) dX12_missing_162 ?_
            refine Ci.mono h ?_
            intro x2 M2 h
            refine V_if_eq (tgt := 172) (pc := 165) dX12_missing_165 rfl (fun c => ?_) (fun c => ?_)
            · have h := h.1 c
              refine V_iconst (v := 0) (pc := 172) dX12_missing_172 rfl ?_
              refine V_istore (pc := 173) dX12_missing_173 (by decide) ?_
              refine V_lv (lv2 := [(0, .ref (G.2.1 0)), (1, .int v1), (2, .int v2), (3, .int v3), (4, .int v4), (5, .int v5), (6, .int v6), (7, .int v7), (8, .int 0), (9, .int v9)]) rfl ?_
              refine V_iinc (pc := 175) dX12_missing_175 rfl (by decide) ?_
              refine V_lv (lv2 := [(0, .ref (G.2.1 0)), (1, .int v1), (2, .int v2), (3, .int v3), (4, .int v4), (5, .int v5), (6, .int v6), (7, .int v7), (8, .int 0), (9, .int (v9 + 1))]) rfl ?_
              refine V_goto (tgt := 110) (pc := 178) dX12_missing_178 rfl ?_
              exact V_sub h ⟨rfl, rfl, rfl, rfl, rfl, rfl, rfl, rfl, rfl, rfl, trivial⟩
            · have h := h.2 c
              refine V_iconst (v := 1) (pc := 168) dX12_missing_168 rfl ?_
              refine V_goto (tgt := 173) (pc := 169) dX12_missing_169 rfl ?_
              refine V_istore (pc := 173) dX12_missing_173 (by decide) ?_
              refine V_lv (lv2 := [(0, .ref (G.2.1 0)), (1, .int v1), (2, .int v2), (3, .int v3), (4, .int v4), (5, .int v5), (6, .int v6), (7, .int v7), (8, .int 1), (9, .int v9)]) rfl ?_
              refine V_iinc (pc := 175) dX12_missing_175 rfl (by decide) ?_
              refine V_lv (lv2 := [(0, .ref (G.2.1 0)), (1, .int v1), (2, .int v2), (3, .int v3), (4, .int v4), (5, .int v5), (6, .int v6), (7, .int v7), (8, .int 1), (9, .int (v9 + 1))]) rfl ?_
              refine V_goto (tgt := 110) (pc := 178) dX12_missing_178 rfl ?_
              exact V_sub h ⟨rfl, rfl, rfl, rfl, rfl, rfl, rfl, rfl, rfl, rfl, trivial⟩
theorem wp_X12_next {G : GV} {k : Nat} {M : Mem} {q : Int32 → Mem → Prop}  (h : V shM G mX12_next (k + 3) 12 [(0, .ref (G.2.1 0)), (1, .int (-1000000)), (2, .int 0), (3, .int 0)] [] (mset M 0 0 0) (Qi q)) : Ci shM G mX12_next (k + 3) [.ref (G.2.1 0)] M q := by
  unfold Ci
  show V _ _ _ _ _ [(0, .ref (G.2.1 0))] _ _ _
  refine V_aload_n (pc := 0) dX12_next_0 rfl ?_
  refine V_iconst (v := 0) (pc := 1) dX12_next_1 rfl ?_
  refine V_putI (pc := 2) fX12_108 p12_0 sM0 rfl dX12_next_2 ?_
  refine V_ldc (pc := 5) dX12_next_5 nX12_144 ?_
  refine V_istore_n (pc := 7) dX12_next_7 (by decide) ?_
  refine V_lv (lv2 := [(0, .ref (G.2.1 0)), (1, .int (-1000000))]) rfl ?_
  refine V_iconst (v := 0) (pc := 8) dX12_next_8 rfl ?_
  refine V_istore_n (pc := 9) dX12_next_9 (by decide) ?_
  refine V_lv (lv2 := [(0, .ref (G.2.1 0)), (1, .int (-1000000)), (2, .int 0)]) rfl ?_
  refine V_iconst (v := 0) (pc := 10) dX12_next_10 rfl ?_
  refine V_istore_n (pc := 11) dX12_next_11 (by decide) ?_
  refine V_lv (lv2 := [(0, .ref (G.2.1 0)), (1, .int (-1000000)), (2, .int 0), (3, .int 0)]) rfl ?_
  exact V_sub h ⟨rfl, rfl, rfl, rfl, trivial⟩
theorem wp_X12_next_12 {G : GV} {k : Nat} {M : Mem} {q : Int32 → Mem → Prop} {v1 : Int32} {v2 : Int32} {v3 : Int32} (h : (((M.1 0 5) ≤ v3 → q v1 M) ∧ (¬ (M.1 0 5) ≤ v3 → V shM G mX12_next (k + 3) 26 [(0, .ref (G.2.1 0)), (1, .int v1), (2, .int v2), (3, .int v3), (4, .int 0), (5, .int 0)] [] M (Qi q)))) : V shM G mX12_next (k + 3) 12 [(0, .ref (G.2.1 0)), (1, .int v1), (2, .int v2), (3, .int v3)] [] M (Qi q) := by
  refine V_iload_n (pc := 12) dX12_next_12 rfl ?_
  refine V_aload_n (pc := 13) dX12_next_13 rfl ?_
  refine V_getI (pc := 14) fX12_224 sM0 rfl dX12_next_14 ?_
  refine V_icmp_ge (tgt := 184) (pc := 17) dX12_next_17 rfl (fun c => ?_) (fun c => ?_)
  · have h := h.1 c
    refine V_iload_n (pc := 184) dX12_next_184 rfl ?_
    exact V_iret dX12_next_185 rfl h
  · have h := h.2 c
    refine V_iconst (v := 0) (pc := 20) dX12_next_20 rfl ?_
    refine V_istore (pc := 21) dX12_next_21 (by decide) ?_
    refine V_lv (lv2 := [(0, .ref (G.2.1 0)), (1, .int v1), (2, .int v2), (3, .int v3), (4, .int 0)]) rfl ?_
    refine V_iconst (v := 0) (pc := 23) dX12_next_23 rfl ?_
    refine V_istore (pc := 24) dX12_next_24 (by decide) ?_
    refine V_lv (lv2 := [(0, .ref (G.2.1 0)), (1, .int v1), (2, .int v2), (3, .int v3), (4, .int 0), (5, .int 0)]) rfl ?_
    exact V_sub h ⟨rfl, rfl, rfl, rfl, rfl, rfl, trivial⟩
theorem wp_X12_next_26 {G : GV} {k : Nat} {M : Mem} {q : Int32 → Mem → Prop} {v1 : Int32} {v2 : Int32} {v3 : Int32} {v4 : Int32} {v5 : Int32} (h : (((M.1 0 10) ≤ v5 → vp_in v3 10 ∧ ¬ (M.1 6 (ix v3)) = 0 ∧ vp_in v3 10 ∧ (((M.1 7 (ix v3)) ≠ 0 → V shM G mX12_next (k + 3) 12 [(0, .ref (G.2.1 0)), (1, .int v1), (2, .int v2), (3, .int (v3 + 1))] [] M (Qi q)) ∧ ((M.1 7 (ix v3)) = 0 → ((v1 = (-1000000) → V shM G mX12_next (k + 3) 12 [(0, .ref (G.2.1 0)), (1, .int v3), (2, .int ((1000 * v4) / (M.1 6 (ix v3)))), (3, .int (v3 + 1))] [] M (Qi q)) ∧ (¬ v1 = (-1000000) → ((((1000 * v4) / (M.1 6 (ix v3))) ≤ v2 → V shM G mX12_next (k + 3) 12 [(0, .ref (G.2.1 0)), (1, .int v1), (2, .int v2), (3, .int (v3 + 1))] [] M (Qi q)) ∧ (¬ ((1000 * v4) / (M.1 6 (ix v3))) ≤ v2 → V shM G mX12_next (k + 3) 12 [(0, .ref (G.2.1 0)), (1, .int v3), (2, .int ((1000 * v4) / (M.1 6 (ix v3)))), (3, .int (v3 + 1))] [] M (Qi q)))))))) ∧ (¬ (M.1 0 10) ≤ v5 → V shM G mX12_next (k + 3) 41 [(0, .ref (G.2.1 0)), (1, .int v1), (2, .int v2), (3, .int v3), (4, .int v4), (5, .int v5), (6, .int 0), (7, .int 0)] [] M (Qi q)))) : V shM G mX12_next (k + 3) 26 [(0, .ref (G.2.1 0)), (1, .int v1), (2, .int v2), (3, .int v3), (4, .int v4), (5, .int v5)] [] M (Qi q) := by
  refine V_iload (pc := 26) dX12_next_26 rfl ?_
  refine V_aload_n (pc := 28) dX12_next_28 rfl ?_
  refine V_getI (pc := 29) fX12_227 sM0 rfl dX12_next_29 ?_
  refine V_icmp_ge (tgt := 137) (pc := 32) dX12_next_32 rfl (fun c => ?_) (fun c => ?_)
  · have h := h.1 c
    refine V_sipush (v := 1000) (pc := 137) dX12_next_137 rfl ?_
    refine V_iload (pc := 140) dX12_next_140 rfl ?_
    refine V_imul (pc := 142) dX12_next_142 ?_
    refine V_aload_n (pc := 143) dX12_next_143 rfl ?_
    refine V_getR (pc := 144) fX12_25 sM0 rfl dX12_next_144 ?_
    refine V_iload_n (pc := 147) dX12_next_147 rfl ?_
    refine V_iald (pc := 148) sM6 dX12_next_148 h.1 ?_
    have h := h.2
    refine V_idiv (pc := 149) dX12_next_149 h.1 ?_
    have h := h.2
    refine V_istore (pc := 150) dX12_next_150 (by decide) ?_
    refine V_lv (lv2 := [(0, .ref (G.2.1 0)), (1, .int v1), (2, .int v2), (3, .int v3), (4, .int v4), (5, .int ((1000 * v4) / (M.1 6 (ix v3))))]) rfl ?_
    refine V_aload_n (pc := 152) dX12_next_152 rfl ?_
    refine V_getR (pc := 153) fX12_28 sM0 rfl dX12_next_153 ?_
    refine V_iload_n (pc := 156) dX12_next_156 rfl ?_
    refine V_zald (pc := 157) sM7 dX12_next_157 h.1 ?_
    have h := h.2
    refine V_if_ne (tgt := 178) (pc := 158) dX12_next_158 rfl (fun c => ?_) (fun c => ?_)
    · have h := h.1 c
      refine V_iinc (pc := 178) dX12_next_178 rfl (by decide) ?_
      refine V_lv (lv2 := [(0, .ref (G.2.1 0)), (1, .int v1), (2, .int v2), (3, .int (v3 + 1)), (4, .int v4), (5, .int ((1000 * v4) / (M.1 6 (ix v3))))]) rfl ?_
      refine V_goto (tgt := 12) (pc := 181) dX12_next_181 rfl ?_
      exact V_sub h ⟨rfl, rfl, rfl, rfl, trivial⟩
    · have h := h.2 c
      refine V_iload_n (pc := 161) dX12_next_161 rfl ?_
      refine V_ldc (pc := 162) dX12_next_162 nX12_144 ?_
      refine V_icmp_eq (tgt := 173) (pc := 164) dX12_next_164 rfl (fun c => ?_) (fun c => ?_)
      · have h := h.1 c
        refine V_iload_n (pc := 173) dX12_next_173 rfl ?_
        refine V_istore_n (pc := 174) dX12_next_174 (by decide) ?_
        refine V_lv (lv2 := [(0, .ref (G.2.1 0)), (1, .int v3), (2, .int v2), (3, .int v3), (4, .int v4), (5, .int ((1000 * v4) / (M.1 6 (ix v3))))]) rfl ?_
        refine V_iload (pc := 175) dX12_next_175 rfl ?_
        refine V_istore_n (pc := 177) dX12_next_177 (by decide) ?_
        refine V_lv (lv2 := [(0, .ref (G.2.1 0)), (1, .int v3), (2, .int ((1000 * v4) / (M.1 6 (ix v3)))), (3, .int v3), (4, .int v4), (5, .int ((1000 * v4) / (M.1 6 (ix v3))))]) rfl ?_
        refine V_iinc (pc := 178) dX12_next_178 rfl (by decide) ?_
        refine V_lv (lv2 := [(0, .ref (G.2.1 0)), (1, .int v3), (2, .int ((1000 * v4) / (M.1 6 (ix v3)))), (3, .int (v3 + 1)), (4, .int v4), (5, .int ((1000 * v4) / (M.1 6 (ix v3))))]) rfl ?_
        refine V_goto (tgt := 12) (pc := 181) dX12_next_181 rfl ?_
        exact V_sub h ⟨rfl, rfl, rfl, rfl, trivial⟩
      · have h := h.2 c
        refine V_iload (pc := 167) dX12_next_167 rfl ?_
        refine V_iload_n (pc := 169) dX12_next_169 rfl ?_
        refine V_icmp_le (tgt := 178) (pc := 170) dX12_next_170 rfl (fun c => ?_) (fun c => ?_)
        · have h := h.1 c
          refine V_iinc (pc := 178) dX12_next_178 rfl (by decide) ?_
          refine V_lv (lv2 := [(0, .ref (G.2.1 0)), (1, .int v1), (2, .int v2), (3, .int (v3 + 1)), (4, .int v4), (5, .int ((1000 * v4) / (M.1 6 (ix v3))))]) rfl ?_
          refine V_goto (tgt := 12) (pc := 181) dX12_next_181 rfl ?_
          exact V_sub h ⟨rfl, rfl, rfl, rfl, trivial⟩
        · have h := h.2 c
          refine V_iload_n (pc := 173) dX12_next_173 rfl ?_
          refine V_istore_n (pc := 174) dX12_next_174 (by decide) ?_
          refine V_lv (lv2 := [(0, .ref (G.2.1 0)), (1, .int v3), (2, .int v2), (3, .int v3), (4, .int v4), (5, .int ((1000 * v4) / (M.1 6 (ix v3))))]) rfl ?_
          refine V_iload (pc := 175) dX12_next_175 rfl ?_
          refine V_istore_n (pc := 177) dX12_next_177 (by decide) ?_
          refine V_lv (lv2 := [(0, .ref (G.2.1 0)), (1, .int v3), (2, .int ((1000 * v4) / (M.1 6 (ix v3)))), (3, .int v3), (4, .int v4), (5, .int ((1000 * v4) / (M.1 6 (ix v3))))]) rfl ?_
          refine V_iinc (pc := 178) dX12_next_178 rfl (by decide) ?_
          refine V_lv (lv2 := [(0, .ref (G.2.1 0)), (1, .int v3), (2, .int ((1000 * v4) / (M.1 6 (ix v3)))), (3, .int (v3 + 1)), (4, .int v4), (5, .int ((1000 * v4) / (M.1 6 (ix v3))))]) rfl ?_
          refine V_goto (tgt := 12) (pc := 181) dX12_next_181 rfl ?_
          exact V_sub h ⟨rfl, rfl, rfl, rfl, trivial⟩
  · have h := h.2 c
    refine V_iconst (v := 0) (pc := 35) dX12_next_35 rfl ?_
    refine V_istore (pc := 36) dX12_next_36 (by decide) ?_
    refine V_lv (lv2 := [(0, .ref (G.2.1 0)), (1, .int v1), (2, .int v2), (3, .int v3), (4, .int v4), (5, .int v5), (6, .int 0)]) rfl ?_
    refine V_iconst (v := 0) (pc := 38) dX12_next_38 rfl ?_
    refine V_istore (pc := 39) dX12_next_39 (by decide) ?_
    refine V_lv (lv2 := [(0, .ref (G.2.1 0)), (1, .int v1), (2, .int v2), (3, .int v3), (4, .int v4), (5, .int v5), (6, .int 0), (7, .int 0)]) rfl ?_
    exact V_sub h ⟨rfl, rfl, rfl, rfl, rfl, rfl, rfl, rfl, trivial⟩
theorem wp_X12_next_41 {G : GV} {k : Nat} {M : Mem} {q : Int32 → Mem → Prop} {v1 : Int32} {v2 : Int32} {v3 : Int32} {v4 : Int32} {v5 : Int32} {v6 : Int32} {v7 : Int32} (h : (((M.1 0 10) ≤ v7 → vp_in v5 12 ∧ (((M.1 8 (ix v5)) ≠ v3 → V shM G mX12_next (k + 3) 26 [(0, .ref (G.2.1 0)), (1, .int v1), (2, .int v2), (3, .int v3), (4, .int (v4 + 0)), (5, .int (v5 + 1))] [] M (Qi q)) ∧ ((M.1 8 (ix v5)) = v3 → ((v6 ≠ 0 → V shM G mX12_next (k + 3) 26 [(0, .ref (G.2.1 0)), (1, .int v1), (2, .int v2), (3, .int v3), (4, .int (v4 + 0)), (5, .int (v5 + 1))] [] M (Qi q)) ∧ (v6 = 0 → V shM G mX12_next (k + 3) 26 [(0, .ref (G.2.1 0)), (1, .int v1), (2, .int v2), (3, .int v3), (4, .int (v4 + 1)), (5, .int (v5 + 1))] [] M (Qi q)))))) ∧ (¬ (M.1 0 10) ≤ v7 → vp_in v5 12 ∧ (((M.1 8 (ix v5)) ≠ v3 → vp_in v5 12 ∧ (((M.1 8 (ix v5)) ≠ v3 → V shM G mX12_next (k + 3) 26 [(0, .ref (G.2.1 0)), (1, .int v1), (2, .int v2), (3, .int v3), (4, .int (v4 + 0)), (5, .int (v5 + 1))] [] M (Qi q)) ∧ ((M.1 8 (ix v5)) = v3 → ((v6 ≠ 0 → V shM G mX12_next (k + 3) 26 [(0, .ref (G.2.1 0)), (1, .int v1), (2, .int v2), (3, .int v3), (4, .int (v4 + 0)), (5, .int (v5 + 1))] [] M (Qi q)) ∧ (v6 = 0 → V shM G mX12_next (k + 3) 26 [(0, .ref (G.2.1 0)), (1, .int v1), (2, .int v2), (3, .int v3), (4, .int (v4 + 1)), (5, .int (v5 + 1))] [] M (Qi q)))))) ∧ ((M.1 8 (ix v5)) = v3 → ((v6 ≠ 0 → V shM G mX12_next (k + 3) 41 [(0, .ref (G.2.1 0)), (1, .int v1), (2, .int v2), (3, .int v3), (4, .int v4), (5, .int v5), (6, .int 1), (7, .int (v7 + 1))] [] M (Qi q)) ∧ (v6 = 0 → vp_in v7 12 ∧ vp_in (M.1 8 (ix v7)) 10 ∧ (((M.1 7 (ix (M.1 8 (ix v7)))) = 0 → V shM G mX12_next (k + 3) 41 [(0, .ref (G.2.1 0)), (1, .int v1), (2, .int v2), (3, .int v3), (4, .int v4), (5, .int v5), (6, .int 0), (7, .int (v7 + 1))] [] M (Qi q)) ∧ (¬ (M.1 7 (ix (M.1 8 (ix v7)))) = 0 → Ci shM G mX12_isOneDoor (k + 2) [.ref (G.2.1 0), .int v5, .int v7] M (fun x1 M1 => ((x1 = 0 → V shM G mX12_next (k + 3) 41 [(0, .ref (G.2.1 0)), (1, .int v1), (2, .int v2), (3, .int v3), (4, .int v4), (5, .int v5), (6, .int 0), (7, .int (v7 + 1))] [] M1 (Qi q)) ∧ (¬ x1 = 0 → V shM G mX12_next (k + 3) 41 [(0, .ref (G.2.1 0)), (1, .int v1), (2, .int v2), (3, .int v3), (4, .int v4), (5, .int v5), (6, .int 1), (7, .int (v7 + 1))] [] M1 (Qi q))))))))))))) : V shM G mX12_next (k + 3) 41 [(0, .ref (G.2.1 0)), (1, .int v1), (2, .int v2), (3, .int v3), (4, .int v4), (5, .int v5), (6, .int v6), (7, .int v7)] [] M (Qi q) := by
  refine V_iload (pc := 41) dX12_next_41 rfl ?_
  refine V_aload_n (pc := 43) dX12_next_43 rfl ?_
  refine V_getI (pc := 44) fX12_227 sM0 rfl dX12_next_44 ?_
  refine V_icmp_ge (tgt := 105) (pc := 47) dX12_next_47 rfl (fun c => ?_) (fun c => ?_)
  · have h := h.1 c
    refine V_iload (pc := 105) dX12_next_105 rfl ?_
    refine V_aload_n (pc := 107) dX12_next_107 rfl ?_
    refine V_getR (pc := 108) fX12_32 sM0 rfl dX12_next_108 ?_
    refine V_iload (pc := 111) dX12_next_111 rfl ?_
    refine V_iald (pc := 113) sM8 dX12_next_113 h.1 ?_
    have h := h.2
    refine V_iload_n (pc := 114) dX12_next_114 rfl ?_
    refine V_icmp_ne (tgt := 127) (pc := 115) dX12_next_115 rfl (fun c => ?_) (fun c => ?_)
    · have h := h.1 c
      refine V_iconst (v := 0) (pc := 127) dX12_next_127 rfl ?_
      refine V_iadd (pc := 128) dX12_next_128 ?_
      refine V_istore (pc := 129) dX12_next_129 (by decide) ?_
      refine V_lv (lv2 := [(0, .ref (G.2.1 0)), (1, .int v1), (2, .int v2), (3, .int v3), (4, .int (v4 + 0)), (5, .int v5), (6, .int v6), (7, .int v7)]) rfl ?_
      refine V_iinc (pc := 131) dX12_next_131 rfl (by decide) ?_
      refine V_lv (lv2 := [(0, .ref (G.2.1 0)), (1, .int v1), (2, .int v2), (3, .int v3), (4, .int (v4 + 0)), (5, .int (v5 + 1)), (6, .int v6), (7, .int v7)]) rfl ?_
      refine V_goto (tgt := 26) (pc := 134) dX12_next_134 rfl ?_
      exact V_sub h ⟨rfl, rfl, rfl, rfl, rfl, rfl, trivial⟩
    · have h := h.2 c
      refine V_iload (pc := 118) dX12_next_118 rfl ?_
      refine V_if_ne (tgt := 127) (pc := 120) dX12_next_120 rfl (fun c => ?_) (fun c => ?_)
      · have h := h.1 c
        refine V_iconst (v := 0) (pc := 127) dX12_next_127 rfl ?_
        refine V_iadd (pc := 128) dX12_next_128 ?_
        refine V_istore (pc := 129) dX12_next_129 (by decide) ?_
        refine V_lv (lv2 := [(0, .ref (G.2.1 0)), (1, .int v1), (2, .int v2), (3, .int v3), (4, .int (v4 + 0)), (5, .int v5), (6, .int v6), (7, .int v7)]) rfl ?_
        refine V_iinc (pc := 131) dX12_next_131 rfl (by decide) ?_
        refine V_lv (lv2 := [(0, .ref (G.2.1 0)), (1, .int v1), (2, .int v2), (3, .int v3), (4, .int (v4 + 0)), (5, .int (v5 + 1)), (6, .int v6), (7, .int v7)]) rfl ?_
        refine V_goto (tgt := 26) (pc := 134) dX12_next_134 rfl ?_
        exact V_sub h ⟨rfl, rfl, rfl, rfl, rfl, rfl, trivial⟩
      · have h := h.2 c
        refine V_iconst (v := 1) (pc := 123) dX12_next_123 rfl ?_
        refine V_goto (tgt := 128) (pc := 124) dX12_next_124 rfl ?_
        refine V_iadd (pc := 128) dX12_next_128 ?_
        refine V_istore (pc := 129) dX12_next_129 (by decide) ?_
        refine V_lv (lv2 := [(0, .ref (G.2.1 0)), (1, .int v1), (2, .int v2), (3, .int v3), (4, .int (v4 + 1)), (5, .int v5), (6, .int v6), (7, .int v7)]) rfl ?_
        refine V_iinc (pc := 131) dX12_next_131 rfl (by decide) ?_
        refine V_lv (lv2 := [(0, .ref (G.2.1 0)), (1, .int v1), (2, .int v2), (3, .int v3), (4, .int (v4 + 1)), (5, .int (v5 + 1)), (6, .int v6), (7, .int v7)]) rfl ?_
        refine V_goto (tgt := 26) (pc := 134) dX12_next_134 rfl ?_
        exact V_sub h ⟨rfl, rfl, rfl, rfl, rfl, rfl, trivial⟩
  · have h := h.2 c
    refine V_aload_n (pc := 50) dX12_next_50 rfl ?_
    refine V_getR (pc := 51) fX12_32 sM0 rfl dX12_next_51 ?_
    refine V_iload (pc := 54) dX12_next_54 rfl ?_
    refine V_iald (pc := 56) sM8 dX12_next_56 h.1 ?_
    have h := h.2
    refine V_iload_n (pc := 57) dX12_next_57 rfl ?_
    refine V_icmp_ne (tgt := 105) (pc := 58) dX12_next_58 rfl (fun c => ?_) (fun c => ?_)
    · have h := h.1 c
      refine V_iload (pc := 105) dX12_next_105 rfl ?_
      refine V_aload_n (pc := 107) dX12_next_107 rfl ?_
      refine V_getR (pc := 108) fX12_32 sM0 rfl dX12_next_108 ?_
      refine V_iload (pc := 111) dX12_next_111 rfl ?_
      refine V_iald (pc := 113) sM8 dX12_next_113 h.1 ?_
      have h := h.2
      refine V_iload_n (pc := 114) dX12_next_114 rfl ?_
      refine V_icmp_ne (tgt := 127) (pc := 115) dX12_next_115 rfl (fun c => ?_) (fun c => ?_)
      · have h := h.1 c
        refine V_iconst (v := 0) (pc := 127) dX12_next_127 rfl ?_
        refine V_iadd (pc := 128) dX12_next_128 ?_
        refine V_istore (pc := 129) dX12_next_129 (by decide) ?_
        refine V_lv (lv2 := [(0, .ref (G.2.1 0)), (1, .int v1), (2, .int v2), (3, .int v3), (4, .int (v4 + 0)), (5, .int v5), (6, .int v6), (7, .int v7)]) rfl ?_
        refine V_iinc (pc := 131) dX12_next_131 rfl (by decide) ?_
        refine V_lv (lv2 := [(0, .ref (G.2.1 0)), (1, .int v1), (2, .int v2), (3, .int v3), (4, .int (v4 + 0)), (5, .int (v5 + 1)), (6, .int v6), (7, .int v7)]) rfl ?_
        refine V_goto (tgt := 26) (pc := 134) dX12_next_134 rfl ?_
        exact V_sub h ⟨rfl, rfl, rfl, rfl, rfl, rfl, trivial⟩
      · have h := h.2 c
        refine V_iload (pc := 118) dX12_next_118 rfl ?_
        refine V_if_ne (tgt := 127) (pc := 120) dX12_next_120 rfl (fun c => ?_) (fun c => ?_)
        · have h := h.1 c
          refine V_iconst (v := 0) (pc := 127) dX12_next_127 rfl ?_
          refine V_iadd (pc := 128) dX12_next_128 ?_
          refine V_istore (pc := 129) dX12_next_129 (by decide) ?_
          refine V_lv (lv2 := [(0, .ref (G.2.1 0)), (1, .int v1), (2, .int v2), (3, .int v3), (4, .int (v4 + 0)), (5, .int v5), (6, .int v6), (7, .int v7)]) rfl ?_
          refine V_iinc (pc := 131) dX12_next_131 rfl (by decide) ?_
          refine V_lv (lv2 := [(0, .ref (G.2.1 0)), (1, .int v1), (2, .int v2), (3, .int v3), (4, .int (v4 + 0)), (5, .int (v5 + 1)), (6, .int v6), (7, .int v7)]) rfl ?_
          refine V_goto (tgt := 26) (pc := 134) dX12_next_134 rfl ?_
          exact V_sub h ⟨rfl, rfl, rfl, rfl, rfl, rfl, trivial⟩
        · have h := h.2 c
          refine V_iconst (v := 1) (pc := 123) dX12_next_123 rfl ?_
          refine V_goto (tgt := 128) (pc := 124) dX12_next_124 rfl ?_
          refine V_iadd (pc := 128) dX12_next_128 ?_
          refine V_istore (pc := 129) dX12_next_129 (by decide) ?_
          refine V_lv (lv2 := [(0, .ref (G.2.1 0)), (1, .int v1), (2, .int v2), (3, .int v3), (4, .int (v4 + 1)), (5, .int v5), (6, .int v6), (7, .int v7)]) rfl ?_
          refine V_iinc (pc := 131) dX12_next_131 rfl (by decide) ?_
          refine V_lv (lv2 := [(0, .ref (G.2.1 0)), (1, .int v1), (2, .int v2), (3, .int v3), (4, .int (v4 + 1)), (5, .int (v5 + 1)), (6, .int v6), (7, .int v7)]) rfl ?_
          refine V_goto (tgt := 26) (pc := 134) dX12_next_134 rfl ?_
          exact V_sub h ⟨rfl, rfl, rfl, rfl, rfl, rfl, trivial⟩
    · have h := h.2 c
      refine V_iload (pc := 61) dX12_next_61 rfl ?_
      refine V_if_ne (tgt := 92) (pc := 63) dX12_next_63 rfl (fun c => ?_) (fun c => ?_)
      · have h := h.1 c
        refine V_iconst (v := 1) (pc := 92) dX12_next_92 rfl ?_
        refine V_goto (tgt := 97) (pc := 93) dX12_next_93 rfl ?_
        refine V_istore (pc := 97) dX12_next_97 (by decide) ?_
        refine V_lv (lv2 := [(0, .ref (G.2.1 0)), (1, .int v1), (2, .int v2), (3, .int v3), (4, .int v4), (5, .int v5), (6, .int 1), (7, .int v7)]) rfl ?_
        refine V_iinc (pc := 99) dX12_next_99 rfl (by decide) ?_
        refine V_lv (lv2 := [(0, .ref (G.2.1 0)), (1, .int v1), (2, .int v2), (3, .int v3), (4, .int v4), (5, .int v5), (6, .int 1), (7, .int (v7 + 1))]) rfl ?_
        refine V_goto (tgt := 41) (pc := 102) dX12_next_102 rfl ?_
        exact V_sub h ⟨rfl, rfl, rfl, rfl, rfl, rfl, rfl, rfl, trivial⟩
      · have h := h.2 c
        refine V_aload_n (pc := 66) dX12_next_66 rfl ?_
        refine V_getR (pc := 67) fX12_28 sM0 rfl dX12_next_67 ?_
        refine V_aload_n (pc := 70) dX12_next_70 rfl ?_
        refine V_getR (pc := 71) fX12_32 sM0 rfl dX12_next_71 ?_
        refine V_iload (pc := 74) dX12_next_74 rfl ?_
        refine V_iald (pc := 76) sM8 dX12_next_76 h.1 ?_
        have h := h.2
        refine V_zald (pc := 77) sM7 dX12_next_77 h.1 ?_
        have h := h.2
        refine V_if_eq (tgt := 96) (pc := 78) dX12_next_78 rfl (fun c => ?_) (fun c => ?_)
        · have h := h.1 c
          refine V_iconst (v := 0) (pc := 96) dX12_next_96 rfl ?_
          refine V_istore (pc := 97) dX12_next_97 (by decide) ?_
          refine V_lv (lv2 := [(0, .ref (G.2.1 0)), (1, .int v1), (2, .int v2), (3, .int v3), (4, .int v4), (5, .int v5), (6, .int 0), (7, .int v7)]) rfl ?_
          refine V_iinc (pc := 99) dX12_next_99 rfl (by decide) ?_
          refine V_lv (lv2 := [(0, .ref (G.2.1 0)), (1, .int v1), (2, .int v2), (3, .int v3), (4, .int v4), (5, .int v5), (6, .int 0), (7, .int (v7 + 1))]) rfl ?_
          refine V_goto (tgt := 41) (pc := 102) dX12_next_102 rfl ?_
          exact V_sub h ⟨rfl, rfl, rfl, rfl, rfl, rfl, rfl, rfl, trivial⟩
        · have h := h.2 c
          refine V_aload_n (pc := 81) dX12_next_81 rfl ?_
          refine V_iload (pc := 82) dX12_next_82 rfl ?_
          refine V_iload (pc := 84) dX12_next_84 rfl ?_
          refine V_callVi [.int v5, .int v7] (pc := 86) kX12_isOneDoor lX12_295 sM0 rfl rfl (Nat.le_of_ble_eq_true rfl) rfl (Nat.le_of_ble_eq_true rfl) dX12_next_86 ?_
          refine Ci.mono h ?_
          intro x1 M1 h
          refine V_if_eq (tgt := 96) (pc := 89) dX12_next_89 rfl (fun c => ?_) (fun c => ?_)
          · have h := h.1 c
            refine V_iconst (v := 0) (pc := 96) dX12_next_96 rfl ?_
            refine V_istore (pc := 97) dX12_next_97 (by decide) ?_
            refine V_lv (lv2 := [(0, .ref (G.2.1 0)), (1, .int v1), (2, .int v2), (3, .int v3), (4, .int v4), (5, .int v5), (6, .int 0), (7, .int v7)]) rfl ?_
            refine V_iinc (pc := 99) dX12_next_99 rfl (by decide) ?_
            refine V_lv (lv2 := [(0, .ref (G.2.1 0)), (1, .int v1), (2, .int v2), (3, .int v3), (4, .int v4), (5, .int v5), (6, .int 0), (7, .int (v7 + 1))]) rfl ?_
            refine V_goto (tgt := 41) (pc := 102) dX12_next_102 rfl ?_
            exact V_sub h ⟨rfl, rfl, rfl, rfl, rfl, rfl, rfl, rfl, trivial⟩
          · have h := h.2 c
            refine V_iconst (v := 1) (pc := 92) dX12_next_92 rfl ?_
            refine V_goto (tgt := 97) (pc := 93) dX12_next_93 rfl ?_
            refine V_istore (pc := 97) dX12_next_97 (by decide) ?_
            refine V_lv (lv2 := [(0, .ref (G.2.1 0)), (1, .int v1), (2, .int v2), (3, .int v3), (4, .int v4), (5, .int v5), (6, .int 1), (7, .int v7)]) rfl ?_
            refine V_iinc (pc := 99) dX12_next_99 rfl (by decide) ?_
            refine V_lv (lv2 := [(0, .ref (G.2.1 0)), (1, .int v1), (2, .int v2), (3, .int v3), (4, .int v4), (5, .int v5), (6, .int 1), (7, .int (v7 + 1))]) rfl ?_
            refine V_goto (tgt := 41) (pc := 102) dX12_next_102 rfl ?_
            exact V_sub h ⟨rfl, rfl, rfl, rfl, rfl, rfl, rfl, rfl, trivial⟩
