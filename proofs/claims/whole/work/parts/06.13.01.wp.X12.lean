theorem wp_X12_earOf {G : GV} {k : Nat} {M : Mem} {q : Int32 → Mem → Prop} {v1 : Int32} (h : V shM G mX12_earOf (k + 1) 10 [(0, .ref (G.2.1 0)), (1, .int v1), (2, .int 0), (3, .int 0), (4, .int 0), (5, .int 1)] [] M (Qi q)) : Ci shM G mX12_earOf (k + 1) [.ref (G.2.1 0), .int v1] M q := by
  unfold Ci
  show V _ _ _ _ _ [(0, .ref (G.2.1 0)), (1, .int v1)] _ _ _
  refine V_iconst (v := 0) (pc := 0) dX12_earOf_0 rfl ?_
  refine V_istore_n (pc := 1) dX12_earOf_1 (by decide) ?_
  refine V_lv (lv2 := [(0, .ref (G.2.1 0)), (1, .int v1), (2, .int 0)]) rfl ?_
  refine V_iconst (v := 0) (pc := 2) dX12_earOf_2 rfl ?_
  refine V_istore_n (pc := 3) dX12_earOf_3 (by decide) ?_
  refine V_lv (lv2 := [(0, .ref (G.2.1 0)), (1, .int v1), (2, .int 0), (3, .int 0)]) rfl ?_
  refine V_iconst (v := 0) (pc := 4) dX12_earOf_4 rfl ?_
  refine V_istore (pc := 5) dX12_earOf_5 (by decide) ?_
  refine V_lv (lv2 := [(0, .ref (G.2.1 0)), (1, .int v1), (2, .int 0), (3, .int 0), (4, .int 0)]) rfl ?_
  refine V_iconst (v := 1) (pc := 7) dX12_earOf_7 rfl ?_
  refine V_istore (pc := 8) dX12_earOf_8 (by decide) ?_
  refine V_lv (lv2 := [(0, .ref (G.2.1 0)), (1, .int v1), (2, .int 0), (3, .int 0), (4, .int 0), (5, .int 1)]) rfl ?_
  exact V_sub h ⟨rfl, rfl, rfl, rfl, rfl, rfl, trivial⟩
theorem wp_X12_earOf_10 {G : GV} {k : Nat} {M : Mem} {q : Int32 → Mem → Prop} {v1 : Int32} {v2 : Int32} {v3 : Int32} {v4 : Int32} {v5 : Int32} (h : vp_in v1 12 ∧ (((M.1 13 (ix v1)) ≤ v5 → V shM G mX12_earOf (k + 1) 76 [(0, .ref (G.2.1 0)), (1, .int v1), (2, .int v2), (3, .int v3), (4, .int v4), (5, .int v5)] [] M (Qi q)) ∧ (¬ (M.1 13 (ix v1)) ≤ v5 → vp_in ((8 * v1) + v5) 96 ∧ Ci shM G mX12_codeOf k [.int (M.1 14 (ix ((8 * v1) + v5)))] M (fun x1 M1 => ((x1 ≤ 0 → V shM G mX12_earOf (k + 1) 10 [(0, .ref (G.2.1 0)), (1, .int v1), (2, .int v2), (3, .int v3), (4, .int v4), (5, .int (v5 + 1))] [] M1 (Qi q)) ∧ (¬ x1 ≤ 0 → ((x1 = v4 → V shM G mX12_earOf (k + 1) 10 [(0, .ref (G.2.1 0)), (1, .int v1), (2, .int v2), (3, .int v3), (4, .int x1), (5, .int (v5 + 1))] [] M1 (Qi q)) ∧ (¬ x1 = v4 → ((3 ≤ v3 → V shM G mX12_earOf (k + 1) 10 [(0, .ref (G.2.1 0)), (1, .int v1), (2, .int v2), (3, .int v3), (4, .int x1), (5, .int (v5 + 1))] [] M1 (Qi q)) ∧ (¬ 3 ≤ v3 → V shM G mX12_earOf (k + 1) 10 [(0, .ref (G.2.1 0)), (1, .int v1), (2, .int ((10 * v2) + x1)), (3, .int (v3 + 1)), (4, .int x1), (5, .int (v5 + 1))] [] M1 (Qi q))))))))))) : V shM G mX12_earOf (k + 1) 10 [(0, .ref (G.2.1 0)), (1, .int v1), (2, .int v2), (3, .int v3), (4, .int v4), (5, .int v5)] [] M (Qi q) := by
  refine V_iload (pc := 10) dX12_earOf_10 rfl ?_
  refine V_aload_n (pc := 12) dX12_earOf_12 rfl ?_
  refine V_getR (pc := 13) fX12_47 sM0 rfl dX12_earOf_13 ?_
  refine V_iload_n (pc := 16) dX12_earOf_16 rfl ?_
  refine V_iald (pc := 17) sM13 dX12_earOf_17 h.1 ?_
  have h := h.2
  refine V_icmp_ge (tgt := 76) (pc := 18) dX12_earOf_18 rfl (fun c => ?_) (fun c => ?_)
  · have h := h.1 c
    exact V_sub h ⟨rfl, rfl, rfl, rfl, rfl, rfl, trivial⟩
  · have h := h.2 c
    refine V_aload_n (pc := 21) dX12_earOf_21 rfl ?_
    refine V_getR (pc := 22) fX12_50 sM0 rfl dX12_earOf_22 ?_
    refine V_bipush (v := 8) (pc := 25) dX12_earOf_25 rfl ?_
    refine V_iload_n (pc := 27) dX12_earOf_27 rfl ?_
    refine V_imul (pc := 28) dX12_earOf_28 ?_
    refine V_iload (pc := 29) dX12_earOf_29 rfl ?_
    refine V_iadd (pc := 31) dX12_earOf_31 ?_
    refine V_iald (pc := 32) sM14 dX12_earOf_32 h.1 ?_
    have h := h.2
    refine V_callSi [.int (M.1 14 (ix ((8 * v1) + v5)))] (pc := 33) kX12_codeOf lX12_273 rfl (Nat.le_of_ble_eq_true rfl) rfl (Nat.le_of_ble_eq_true rfl) dX12_earOf_33 ?_
    refine Ci.mono h ?_
    intro x1 M1 h
    refine V_istore (pc := 36) dX12_earOf_36 (by decide) ?_
    refine V_lv (lv2 := [(0, .ref (G.2.1 0)), (1, .int v1), (2, .int v2), (3, .int v3), (4, .int v4), (5, .int v5), (6, .int x1)]) rfl ?_
    refine V_iload (pc := 38) dX12_earOf_38 rfl ?_
    refine V_if_le (tgt := 70) (pc := 40) dX12_earOf_40 rfl (fun c => ?_) (fun c => ?_)
    · have h := h.1 c
      refine V_iinc (pc := 70) dX12_earOf_70 rfl (by decide) ?_
      refine V_lv (lv2 := [(0, .ref (G.2.1 0)), (1, .int v1), (2, .int v2), (3, .int v3), (4, .int v4), (5, .int (v5 + 1)), (6, .int x1)]) rfl ?_
      refine V_goto (tgt := 10) (pc := 73) dX12_earOf_73 rfl ?_
      exact V_sub h ⟨rfl, rfl, rfl, rfl, rfl, rfl, trivial⟩
    · have h := h.2 c
      refine V_iload (pc := 43) dX12_earOf_43 rfl ?_
      refine V_iload (pc := 45) dX12_earOf_45 rfl ?_
      refine V_icmp_eq (tgt := 66) (pc := 47) dX12_earOf_47 rfl (fun c => ?_) (fun c => ?_)
      · have h := h.1 c
        refine V_iload (pc := 66) dX12_earOf_66 rfl ?_
        refine V_istore (pc := 68) dX12_earOf_68 (by decide) ?_
        refine V_lv (lv2 := [(0, .ref (G.2.1 0)), (1, .int v1), (2, .int v2), (3, .int v3), (4, .int x1), (5, .int v5), (6, .int x1)]) rfl ?_
        refine V_iinc (pc := 70) dX12_earOf_70 rfl (by decide) ?_
        refine V_lv (lv2 := [(0, .ref (G.2.1 0)), (1, .int v1), (2, .int v2), (3, .int v3), (4, .int x1), (5, .int (v5 + 1)), (6, .int x1)]) rfl ?_
        refine V_goto (tgt := 10) (pc := 73) dX12_earOf_73 rfl ?_
        exact V_sub h ⟨rfl, rfl, rfl, rfl, rfl, rfl, trivial⟩
      · have h := h.2 c
        refine V_iload_n (pc := 50) dX12_earOf_50 rfl ?_
        refine V_iconst (v := 3) (pc := 51) dX12_earOf_51 rfl ?_
        refine V_icmp_ge (tgt := 66) (pc := 52) dX12_earOf_52 rfl (fun c => ?_) (fun c => ?_)
        · have h := h.1 c
          refine V_iload (pc := 66) dX12_earOf_66 rfl ?_
          refine V_istore (pc := 68) dX12_earOf_68 (by decide) ?_
          refine V_lv (lv2 := [(0, .ref (G.2.1 0)), (1, .int v1), (2, .int v2), (3, .int v3), (4, .int x1), (5, .int v5), (6, .int x1)]) rfl ?_
          refine V_iinc (pc := 70) dX12_earOf_70 rfl (by decide) ?_
          refine V_lv (lv2 := [(0, .ref (G.2.1 0)), (1, .int v1), (2, .int v2), (3, .int v3), (4, .int x1), (5, .int (v5 + 1)), (6, .int x1)]) rfl ?_
          refine V_goto (tgt := 10) (pc := 73) dX12_earOf_73 rfl ?_
          exact V_sub h ⟨rfl, rfl, rfl, rfl, rfl, rfl, trivial⟩
        · have h := h.2 c
          refine V_bipush (v := 10) (pc := 55) dX12_earOf_55 rfl ?_
          refine V_iload_n (pc := 57) dX12_earOf_57 rfl ?_
          refine V_imul (pc := 58) dX12_earOf_58 ?_
          refine V_iload (pc := 59) dX12_earOf_59 rfl ?_
          refine V_iadd (pc := 61) dX12_earOf_61 ?_
          refine V_istore_n (pc := 62) dX12_earOf_62 (by decide) ?_
          refine V_lv (lv2 := [(0, .ref (G.2.1 0)), (1, .int v1), (2, .int ((10 * v2) + x1)), (3, .int v3), (4, .int v4), (5, .int v5), (6, .int x1)]) rfl ?_
          refine V_iinc (pc := 63) dX12_earOf_63 rfl (by decide) ?_
          refine V_lv (lv2 := [(0, .ref (G.2.1 0)), (1, .int v1), (2, .int ((10 * v2) + x1)), (3, .int (v3 + 1)), (4, .int v4), (5, .int v5), (6, .int x1)]) rfl ?_
          refine V_iload (pc := 66) dX12_earOf_66 rfl ?_
          refine V_istore (pc := 68) dX12_earOf_68 (by decide) ?_
          refine V_lv (lv2 := [(0, .ref (G.2.1 0)), (1, .int v1), (2, .int ((10 * v2) + x1)), (3, .int (v3 + 1)), (4, .int x1), (5, .int v5), (6, .int x1)]) rfl ?_
          refine V_iinc (pc := 70) dX12_earOf_70 rfl (by decide) ?_
          refine V_lv (lv2 := [(0, .ref (G.2.1 0)), (1, .int v1), (2, .int ((10 * v2) + x1)), (3, .int (v3 + 1)), (4, .int x1), (5, .int (v5 + 1)), (6, .int x1)]) rfl ?_
          refine V_goto (tgt := 10) (pc := 73) dX12_earOf_73 rfl ?_
          exact V_sub h ⟨rfl, rfl, rfl, rfl, rfl, rfl, trivial⟩
theorem wp_X12_earOf_76 {G : GV} {k : Nat} {M : Mem} {q : Int32 → Mem → Prop} {v1 : Int32} {v2 : Int32} {v3 : Int32} {v4 : Int32} {v5 : Int32} (h : ((3 ≤ v3 → vp_in (8 * v1) 96 ∧ q ((1000 * (M.1 14 (ix (8 * v1)))) + v2) M) ∧ (¬ 3 ≤ v3 → V shM G mX12_earOf (k + 1) 76 [(0, .ref (G.2.1 0)), (1, .int v1), (2, .int (v2 * 10)), (3, .int (v3 + 1)), (4, .int v4), (5, .int v5)] [] M (Qi q)))) : V shM G mX12_earOf (k + 1) 76 [(0, .ref (G.2.1 0)), (1, .int v1), (2, .int v2), (3, .int v3), (4, .int v4), (5, .int v5)] [] M (Qi q) := by
  refine V_iload_n (pc := 76) dX12_earOf_76 rfl ?_
  refine V_iconst (v := 3) (pc := 77) dX12_earOf_77 rfl ?_
  refine V_icmp_ge (tgt := 92) (pc := 78) dX12_earOf_78 rfl (fun c => ?_) (fun c => ?_)
  · have h := h.1 c
    refine V_sipush (v := 1000) (pc := 92) dX12_earOf_92 rfl ?_
    refine V_aload_n (pc := 95) dX12_earOf_95 rfl ?_
    refine V_getR (pc := 96) fX12_50 sM0 rfl dX12_earOf_96 ?_
    refine V_bipush (v := 8) (pc := 99) dX12_earOf_99 rfl ?_
    refine V_iload_n (pc := 101) dX12_earOf_101 rfl ?_
    refine V_imul (pc := 102) dX12_earOf_102 ?_
    refine V_iald (pc := 103) sM14 dX12_earOf_103 h.1 ?_
    have h := h.2
    refine V_imul (pc := 104) dX12_earOf_104 ?_
    refine V_iload_n (pc := 105) dX12_earOf_105 rfl ?_
    refine V_iadd (pc := 106) dX12_earOf_106 ?_
    exact V_iret dX12_earOf_107 rfl h
  · have h := h.2 c
    refine V_iload_n (pc := 81) dX12_earOf_81 rfl ?_
    refine V_bipush (v := 10) (pc := 82) dX12_earOf_82 rfl ?_
    refine V_imul (pc := 84) dX12_earOf_84 ?_
    refine V_istore_n (pc := 85) dX12_earOf_85 (by decide) ?_
    refine V_lv (lv2 := [(0, .ref (G.2.1 0)), (1, .int v1), (2, .int (v2 * 10)), (3, .int v3), (4, .int v4), (5, .int v5)]) rfl ?_
    refine V_iinc (pc := 86) dX12_earOf_86 rfl (by decide) ?_
    refine V_lv (lv2 := [(0, .ref (G.2.1 0)), (1, .int v1), (2, .int (v2 * 10)), (3, .int (v3 + 1)), (4, .int v4), (5, .int v5)]) rfl ?_
    refine V_goto (tgt := 76) (pc := 89) dX12_earOf_89 rfl ?_
    exact V_sub h ⟨rfl, rfl, rfl, rfl, rfl, rfl, trivial⟩
theorem wp_X12_feed {G : GV} {k : Nat} {M : Mem} {q : Int32 → Mem → Prop} {v1 : Int64} {v3 : Int32} (h : Ci shM G mX12_in k [.long (Int32.toInt64 v3), .long 1, .long 8] (mset M 0 0 0) (fun x1 M1 => ((x1 ≠ 0 → ((((M1.1 0 29) + v3) ≤ 600 → V shM G mX12_feed (k + 1) 40 [(0, .ref (G.2.1 0)), (1, .long v1), (3, .int v3), (4, .int (v3 - 1))] [] M1 (Qi q)) ∧ (¬ ((M1.1 0 29) + v3) ≤ 600 → q (-1000003) M1))) ∧ (x1 = 0 → q (-1000001) M1)))) : Ci shM G mX12_feed (k + 1) [.ref (G.2.1 0), .long v1, .int v3] M q := by
  unfold Ci
  show V _ _ _ _ _ [(0, .ref (G.2.1 0)), (1, .long v1), (3, .int v3)] _ _ _
  refine V_aload_n (pc := 0) dX12_feed_0 rfl ?_
  refine V_iconst (v := 0) (pc := 1) dX12_feed_1 rfl ?_
  refine V_putI (pc := 2) fX12_108 p12_0 sM0 rfl dX12_feed_2 ?_
  refine V_iload_n (pc := 5) dX12_feed_5 rfl ?_
  refine V_i2l (pc := 6) dX12_feed_6 ?_
  refine V_lconst (v := 1) (pc := 7) dX12_feed_7 rfl ?_
  refine V_ldc2 (pc := 8) dX12_feed_8 nX12_133 ?_
  refine V_callSi [.long (Int32.toInt64 v3), .long 1, .long 8] (pc := 11) kX12_in lX12_118 rfl (Nat.le_of_ble_eq_true rfl) rfl (Nat.le_of_ble_eq_true rfl) dX12_feed_11 ?_
  refine Ci.mono h ?_
  intro x1 M1 h
  refine V_if_ne (tgt := 20) (pc := 14) dX12_feed_14 rfl (fun c => ?_) (fun c => ?_)
  · have h := h.1 c
    refine V_aload_n (pc := 20) dX12_feed_20 rfl ?_
    refine V_getI (pc := 21) fX12_135 sM0 rfl dX12_feed_21 ?_
    refine V_iload_n (pc := 24) dX12_feed_24 rfl ?_
    refine V_iadd (pc := 25) dX12_feed_25 ?_
    refine V_sipush (v := 600) (pc := 26) dX12_feed_26 rfl ?_
    refine V_icmp_le (tgt := 35) (pc := 29) dX12_feed_29 rfl (fun c => ?_) (fun c => ?_)
    · have h := h.1 c
      refine V_iload_n (pc := 35) dX12_feed_35 rfl ?_
      refine V_iconst (v := 1) (pc := 36) dX12_feed_36 rfl ?_
      refine V_isub (pc := 37) dX12_feed_37 ?_
      refine V_istore (pc := 38) dX12_feed_38 (by decide) ?_
      refine V_lv (lv2 := [(0, .ref (G.2.1 0)), (1, .long v1), (3, .int v3), (4, .int (v3 - 1))]) rfl ?_
      exact V_sub h ⟨rfl, rfl, rfl, rfl, trivial⟩
    · have h := h.2 c
      refine V_ldc (pc := 32) dX12_feed_32 nX12_138 ?_
      exact V_iret dX12_feed_34 rfl h
  · have h := h.2 c
    refine V_ldc (pc := 17) dX12_feed_17 nX12_128 ?_
    exact V_iret dX12_feed_19 rfl h
theorem wp_X12_feed_40 {G : GV} {k : Nat} {M : Mem} {q : Int32 → Mem → Prop} {v1 : Int64} {v3 : Int32} {v4 : Int32} (h : ((v4 < 0 → q (M.1 0 29) M) ∧ (¬ v4 < 0 → vp_in (M.1 0 29) 600 ∧ V shM G mX12_feed (k + 1) 40 [(0, .ref (G.2.1 0)), (1, .long v1), (3, .int v3), (4, .int (v4 + (-1)))] [] (mset (mset M 23 (ix (M.1 0 29)) (Int64.toInt32 ((v1 >>> (Int32.toInt64 (8 * v4) &&& 63)) &&& 255))) 0 29 ((M.1 0 29) + 1)) (Qi q)))) : V shM G mX12_feed (k + 1) 40 [(0, .ref (G.2.1 0)), (1, .long v1), (3, .int v3), (4, .int v4)] [] M (Qi q) := by
  refine V_iload (pc := 40) dX12_feed_40 rfl ?_
  refine V_if_lt (tgt := 82) (pc := 42) dX12_feed_42 rfl (fun c => ?_) (fun c => ?_)
  · have h := h.1 c
    refine V_aload_n (pc := 82) dX12_feed_82 rfl ?_
    refine V_getI (pc := 83) fX12_135 sM0 rfl dX12_feed_83 ?_
    exact V_iret dX12_feed_86 rfl h
  · have h := h.2 c
    refine V_aload_n (pc := 45) dX12_feed_45 rfl ?_
    refine V_getR (pc := 46) fX12_77 sM0 rfl dX12_feed_46 ?_
    refine V_aload_n (pc := 49) dX12_feed_49 rfl ?_
    refine V_getI (pc := 50) fX12_135 sM0 rfl dX12_feed_50 ?_
    refine V_lload_n (pc := 53) dX12_feed_53 rfl ?_
    refine V_bipush (v := 8) (pc := 54) dX12_feed_54 rfl ?_
    refine V_iload (pc := 56) dX12_feed_56 rfl ?_
    refine V_imul (pc := 58) dX12_feed_58 ?_
    refine V_lshr (pc := 59) dX12_feed_59 ?_
    refine V_ldc2 (pc := 60) dX12_feed_60 nX12_139 ?_
    refine V_land (pc := 63) dX12_feed_63 ?_
    refine V_l2i (pc := 64) dX12_feed_64 ?_
    refine V_iast (pc := 65) sM23 dX12_feed_65 h.1 ?_
    have h := h.2
    refine V_aload_n (pc := 66) dX12_feed_66 rfl ?_
    refine V_dup (pc := 67) dX12_feed_67 rfl ?_
    refine V_getI (pc := 68) fX12_135 sM0 rfl dX12_feed_68 ?_
    refine V_top (v := (M.1 0 29)) (by simp [mset, lset, upd]) ?_
    refine V_iconst (v := 1) (pc := 71) dX12_feed_71 rfl ?_
    refine V_iadd (pc := 72) dX12_feed_72 ?_
    refine V_putI (pc := 73) fX12_135 p12_29 sM0 rfl dX12_feed_73 ?_
    refine V_iinc (pc := 76) dX12_feed_76 rfl (by decide) ?_
    refine V_lv (lv2 := [(0, .ref (G.2.1 0)), (1, .long v1), (3, .int v3), (4, .int (v4 + (-1)))]) rfl ?_
    refine V_goto (tgt := 40) (pc := 79) dX12_feed_79 rfl ?_
    exact V_sub h ⟨rfl, rfl, rfl, rfl, trivial⟩
theorem wp_X12_handOf {G : GV} {k : Nat} {M : Mem} {q : Int32 → Mem → Prop} {v1 : Int32} {v2 : Int32} (h : V shM G mX12_handOf (k + 1) 2 [(0, .ref (G.2.1 0)), (1, .int v1), (2, .int v2), (3, .int 0)] [] M (Qi q)) : Ci shM G mX12_handOf (k + 1) [.ref (G.2.1 0), .int v1, .int v2] M q := by
  unfold Ci
  show V _ _ _ _ _ [(0, .ref (G.2.1 0)), (1, .int v1), (2, .int v2)] _ _ _
  refine V_iconst (v := 0) (pc := 0) dX12_handOf_0 rfl ?_
  refine V_istore_n (pc := 1) dX12_handOf_1 (by decide) ?_
  refine V_lv (lv2 := [(0, .ref (G.2.1 0)), (1, .int v1), (2, .int v2), (3, .int 0)]) rfl ?_
  exact V_sub h ⟨rfl, rfl, rfl, rfl, trivial⟩
theorem wp_X12_handOf_2 {G : GV} {k : Nat} {M : Mem} {q : Int32 → Mem → Prop} {v1 : Int32} {v2 : Int32} {v3 : Int32} (h : vp_in v1 12 ∧ (((M.1 13 (ix v1)) < v3 → vp_in v1 12 ∧ vp_in v2 12 ∧ vp_in ((9 * (M.1 13 (ix v1))) + (M.1 13 (ix v2))) 81 ∧ q (M.1 24 (ix ((9 * (M.1 13 (ix v1))) + (M.1 13 (ix v2))))) M) ∧ (¬ (M.1 13 (ix v1)) < v3 → V shM G mX12_handOf (k + 1) 15 [(0, .ref (G.2.1 0)), (1, .int v1), (2, .int v2), (3, .int v3), (4, .int 0)] [] M (Qi q)))) : V shM G mX12_handOf (k + 1) 2 [(0, .ref (G.2.1 0)), (1, .int v1), (2, .int v2), (3, .int v3)] [] M (Qi q) := by
  refine V_iload_n (pc := 2) dX12_handOf_2 rfl ?_
  refine V_aload_n (pc := 3) dX12_handOf_3 rfl ?_
  refine V_getR (pc := 4) fX12_47 sM0 rfl dX12_handOf_4 ?_
  refine V_iload_n (pc := 7) dX12_handOf_7 rfl ?_
  refine V_iald (pc := 8) sM13 dX12_handOf_8 h.1 ?_
  have h := h.2
  refine V_icmp_gt (tgt := 170) (pc := 9) dX12_handOf_9 rfl (fun c => ?_) (fun c => ?_)
  · have h := h.1 c
    refine V_aload_n (pc := 170) dX12_handOf_170 rfl ?_
    refine V_getR (pc := 171) fX12_80 sM0 rfl dX12_handOf_171 ?_
    refine V_bipush (v := 9) (pc := 174) dX12_handOf_174 rfl ?_
    refine V_aload_n (pc := 176) dX12_handOf_176 rfl ?_
    refine V_getR (pc := 177) fX12_47 sM0 rfl dX12_handOf_177 ?_
    refine V_iload_n (pc := 180) dX12_handOf_180 rfl ?_
    refine V_iald (pc := 181) sM13 dX12_handOf_181 h.1 ?_
    have h := h.2
    refine V_imul (pc := 182) dX12_handOf_182 ?_
    refine V_aload_n (pc := 183) dX12_handOf_183 rfl ?_
    refine V_getR (pc := 184) fX12_47 sM0 rfl dX12_handOf_184 ?_
    refine V_iload_n (pc := 187) dX12_handOf_187 rfl ?_
    refine V_iald (pc := 188) sM13 dX12_handOf_188 h.1 ?_
    have h := h.2
    refine V_iadd (pc := 189) dX12_handOf_189 ?_
    refine V_iald (pc := 190) sM24 dX12_handOf_190 h.1 ?_
    have h := h.2
    exact V_iret dX12_handOf_191 rfl h
  · have h := h.2 c
    refine V_iconst (v := 0) (pc := 12) dX12_handOf_12 rfl ?_
    refine V_istore (pc := 13) dX12_handOf_13 (by decide) ?_
    refine V_lv (lv2 := [(0, .ref (G.2.1 0)), (1, .int v1), (2, .int v2), (3, .int v3), (4, .int 0)]) rfl ?_
    exact V_sub h ⟨rfl, rfl, rfl, rfl, rfl, trivial⟩
theorem wp_X12_handOf_15 {G : GV} {k : Nat} {M : Mem} {q : Int32 → Mem → Prop} {v1 : Int32} {v2 : Int32} {v3 : Int32} {v4 : Int32} (h : vp_in v2 12 ∧ (((M.1 13 (ix v2)) < v4 → V shM G mX12_handOf (k + 1) 2 [(0, .ref (G.2.1 0)), (1, .int v1), (2, .int v2), (3, .int (v3 + 1))] [] M (Qi q)) ∧ (¬ (M.1 13 (ix v2)) < v4 → ((v3 = 0 → vp_in ((9 * v3) + v4) 81 ∧ V shM G mX12_handOf (k + 1) 15 [(0, .ref (G.2.1 0)), (1, .int v1), (2, .int v2), (3, .int v3), (4, .int (v4 + 1))] [] (mset M 24 (ix ((9 * v3) + v4)) (v3 + v4)) (Qi q)) ∧ (¬ v3 = 0 → ((v4 ≠ 0 → vp_in (((8 * v1) + v3) - 1) 96 ∧ vp_in (((8 * v2) + v4) - 1) 96 ∧ (((M.1 14 (ix (((8 * v1) + v3) - 1))) ≠ (M.1 14 (ix (((8 * v2) + v4) - 1))) → vp_in (((9 * v3) + v4) - 10) 81 ∧ vp_in (((9 * v3) + v4) - 9) 81 ∧ vp_in (((9 * v3) + v4) - 1) 81 ∧ Ci shM G mX12_least k [.int (M.1 24 (ix (((9 * v3) + v4) - 9))), .int (M.1 24 (ix (((9 * v3) + v4) - 1)))] M (fun x1 M1 => Ci shM G mX12_least k [.int ((M.1 24 (ix (((9 * v3) + v4) - 10))) + 1), .int (1 + x1)] M1 (fun x2 M2 => vp_in ((9 * v3) + v4) 81 ∧ V shM G mX12_handOf (k + 1) 15 [(0, .ref (G.2.1 0)), (1, .int v1), (2, .int v2), (3, .int v3), (4, .int (v4 + 1))] [] (mset M2 24 (ix ((9 * v3) + v4)) x2) (Qi q)))) ∧ ((M.1 14 (ix (((8 * v1) + v3) - 1))) = (M.1 14 (ix (((8 * v2) + v4) - 1))) → vp_in (((9 * v3) + v4) - 10) 81 ∧ vp_in (((9 * v3) + v4) - 9) 81 ∧ vp_in (((9 * v3) + v4) - 1) 81 ∧ Ci shM G mX12_least k [.int (M.1 24 (ix (((9 * v3) + v4) - 9))), .int (M.1 24 (ix (((9 * v3) + v4) - 1)))] M (fun x3 M3 => Ci shM G mX12_least k [.int ((M.1 24 (ix (((9 * v3) + v4) - 10))) + 0), .int (1 + x3)] M3 (fun x4 M4 => vp_in ((9 * v3) + v4) 81 ∧ V shM G mX12_handOf (k + 1) 15 [(0, .ref (G.2.1 0)), (1, .int v1), (2, .int v2), (3, .int v3), (4, .int (v4 + 1))] [] (mset M4 24 (ix ((9 * v3) + v4)) x4) (Qi q)))))) ∧ (v4 = 0 → vp_in ((9 * v3) + v4) 81 ∧ V shM G mX12_handOf (k + 1) 15 [(0, .ref (G.2.1 0)), (1, .int v1), (2, .int v2), (3, .int v3), (4, .int (v4 + 1))] [] (mset M 24 (ix ((9 * v3) + v4)) (v3 + v4)) (Qi q)))))))) : V shM G mX12_handOf (k + 1) 15 [(0, .ref (G.2.1 0)), (1, .int v1), (2, .int v2), (3, .int v3), (4, .int v4)] [] M (Qi q) := by
  refine V_iload (pc := 15) dX12_handOf_15 rfl ?_
  refine V_aload_n (pc := 17) dX12_handOf_17 rfl ?_
  refine V_getR (pc := 18) fX12_47 sM0 rfl dX12_handOf_18 ?_
  refine V_iload_n (pc := 21) dX12_handOf_21 rfl ?_
  refine V_iald (pc := 22) sM13 dX12_handOf_22 h.1 ?_
  have h := h.2
  refine V_icmp_gt (tgt := 164) (pc := 23) dX12_handOf_23 rfl (fun c => ?_) (fun c => ?_)
  · have h := h.1 c
    refine V_iinc (pc := 164) dX12_handOf_164 rfl (by decide) ?_
    refine V_lv (lv2 := [(0, .ref (G.2.1 0)), (1, .int v1), (2, .int v2), (3, .int (v3 + 1)), (4, .int v4)]) rfl ?_
    refine V_goto (tgt := 2) (pc := 167) dX12_handOf_167 rfl ?_
    exact V_sub h ⟨rfl, rfl, rfl, rfl, trivial⟩
  · have h := h.2 c
    refine V_iload_n (pc := 26) dX12_handOf_26 rfl ?_
    refine V_if_eq (tgt := 35) (pc := 27) dX12_handOf_27 rfl (fun c => ?_) (fun c => ?_)
    · have h := h.1 c
      refine V_aload_n (pc := 35) dX12_handOf_35 rfl ?_
      refine V_getR (pc := 36) fX12_80 sM0 rfl dX12_handOf_36 ?_
      refine V_bipush (v := 9) (pc := 39) dX12_handOf_39 rfl ?_
      refine V_iload_n (pc := 41) dX12_handOf_41 rfl ?_
      refine V_imul (pc := 42) dX12_handOf_42 ?_
      refine V_iload (pc := 43) dX12_handOf_43 rfl ?_
      refine V_iadd (pc := 45) dX12_handOf_45 ?_
      refine V_iload_n (pc := 46) dX12_handOf_46 rfl ?_
      refine V_iload (pc := 47) dX12_handOf_47 rfl ?_
      refine V_iadd (pc := 49) dX12_handOf_49 ?_
      refine V_iast (pc := 50) sM24 dX12_handOf_50 h.1 ?_
      have h := h.2
      refine V_goto (tgt := 158) (pc := 51) dX12_handOf_51 rfl ?_
      refine V_iinc (pc := 158) dX12_handOf_158 rfl (by decide) ?_
      refine V_lv (lv2 := [(0, .ref (G.2.1 0)), (1, .int v1), (2, .int v2), (3, .int v3), (4, .int (v4 + 1))]) rfl ?_
      refine V_goto (tgt := 15) (pc := 161) dX12_handOf_161 rfl ?_
      exact V_sub h ⟨rfl, rfl, rfl, rfl, rfl, trivial⟩
    · have h := h.2 c
      refine V_iload (pc := 30) dX12_handOf_30 rfl ?_
      refine V_if_ne (tgt := 54) (pc := 32) dX12_handOf_32 rfl (fun c => ?_) (fun c => ?_)
      · have h := h.1 c
        refine V_aload_n (pc := 54) dX12_handOf_54 rfl ?_
        refine V_getR (pc := 55) fX12_50 sM0 rfl dX12_handOf_55 ?_
        refine V_bipush (v := 8) (pc := 58) dX12_handOf_58 rfl ?_
        refine V_iload_n (pc := 60) dX12_handOf_60 rfl ?_
        refine V_imul (pc := 61) dX12_handOf_61 ?_
        refine V_iload_n (pc := 62) dX12_handOf_62 rfl ?_
        refine V_iadd (pc := 63) dX12_handOf_63 ?_
        refine V_iconst (v := 1) (pc := 64) dX12_handOf_64 rfl ?_
        refine V_isub (pc := 65) dX12_handOf_65 ?_
        refine V_iald (pc := 66) sM14 dX12_handOf_66 h.1 ?_
        have h := h.2
        refine V_aload_n (pc := 67) dX12_handOf_67 rfl ?_
        refine V_getR (pc := 68) fX12_50 sM0 rfl dX12_handOf_68 ?_
        refine V_bipush (v := 8) (pc := 71) dX12_handOf_71 rfl ?_
        refine V_iload_n (pc := 73) dX12_handOf_73 rfl ?_
        refine V_imul (pc := 74) dX12_handOf_74 ?_
        refine V_iload (pc := 75) dX12_handOf_75 rfl ?_
        refine V_iadd (pc := 77) dX12_handOf_77 ?_
        refine V_iconst (v := 1) (pc := 78) dX12_handOf_78 rfl ?_
        refine V_isub (pc := 79) dX12_handOf_79 ?_
        refine V_iald (pc := 80) sM14 dX12_handOf_80 h.1 ?_
        have h := h.2
        refine V_icmp_ne (tgt := 88) (pc := 81) dX12_handOf_81 rfl (fun c => ?_) (fun c => ?_)
        · have h := h.1 c
          refine V_iconst (v := 1) (pc := 88) dX12_handOf_88 rfl ?_
          refine V_istore (pc := 89) dX12_handOf_89 (by decide) ?_
          refine V_lv (lv2 := [(0, .ref (G.2.1 0)), (1, .int v1), (2, .int v2), (3, .int v3), (4, .int v4), (5, .int 1)]) rfl ?_
          refine V_aload_n (pc := 91) dX12_handOf_91 rfl ?_
          refine V_getR (pc := 92) fX12_80 sM0 rfl dX12_handOf_92 ?_
          refine V_bipush (v := 9) (pc := 95) dX12_handOf_95 rfl ?_
          refine V_iload_n (pc := 97) dX12_handOf_97 rfl ?_
          refine V_imul (pc := 98) dX12_handOf_98 ?_
          refine V_iload (pc := 99) dX12_handOf_99 rfl ?_
          refine V_iadd (pc := 101) dX12_handOf_101 ?_
          refine V_aload_n (pc := 102) dX12_handOf_102 rfl ?_
          refine V_getR (pc := 103) fX12_80 sM0 rfl dX12_handOf_103 ?_
          refine V_bipush (v := 9) (pc := 106) dX12_handOf_106 rfl ?_
          refine V_iload_n (pc := 108) dX12_handOf_108 rfl ?_
          refine V_imul (pc := 109) dX12_handOf_109 ?_
          refine V_iload (pc := 110) dX12_handOf_110 rfl ?_
          refine V_iadd (pc := 112) dX12_handOf_112 ?_
          refine V_bipush (v := 10) (pc := 113) dX12_handOf_113 rfl ?_
          refine V_isub (pc := 115) dX12_handOf_115 ?_
          refine V_iald (pc := 116) sM24 dX12_handOf_116 h.1 ?_
          have h := h.2
          refine V_iload (pc := 117) dX12_handOf_117 rfl ?_
          refine V_iadd (pc := 119) dX12_handOf_119 ?_
          refine V_iconst (v := 1) (pc := 120) dX12_handOf_120 rfl ?_
          refine V_aload_n (pc := 121) dX12_handOf_121 rfl ?_
          refine V_getR (pc := 122) fX12_80 sM0 rfl dX12_handOf_122 ?_
          refine V_bipush (v := 9) (pc := 125) dX12_handOf_125 rfl ?_
          refine V_iload_n (pc := 127) dX12_handOf_127 rfl ?_
          refine V_imul (pc := 128) dX12_handOf_128 ?_
          refine V_iload (pc := 129) dX12_handOf_129 rfl ?_
          refine V_iadd (pc := 131) dX12_handOf_131 ?_
          refine V_bipush (v := 9) (pc := 132) dX12_handOf_132 rfl ?_
          refine V_isub (pc := 134) dX12_handOf_134 ?_
          refine V_iald (pc := 135) sM24 dX12_handOf_135 h.1 ?_
          have h := h.2
          refine V_aload_n (pc := 136) dX12_handOf_136 rfl ?_
          refine V_getR (pc := 137) fX12_80 sM0 rfl dX12_handOf_137 ?_
          refine V_bipush (v := 9) (pc := 140) dX12_handOf_140 rfl ?_
          refine V_iload_n (pc := 142) dX12_handOf_142 rfl ?_
          refine V_imul (pc := 143) dX12_handOf_143 ?_
          refine V_iload (pc := 144) dX12_handOf_144 rfl ?_
          refine V_iadd (pc := 146) dX12_handOf_146 ?_
          refine V_iconst (v := 1) (pc := 147) dX12_handOf_147 rfl ?_
          refine V_isub (pc := 148) dX12_handOf_148 ?_
          refine V_iald (pc := 149) sM24 dX12_handOf_149 h.1 ?_
          have h := h.2
          refine V_callSi [.int (M.1 24 (ix (((9 * v3) + v4) - 9))), .int (M.1 24 (ix (((9 * v3) + v4) - 1)))] (pc := 150) kX12_least lX12_279 rfl (Nat.le_of_ble_eq_true rfl) rfl (Nat.le_of_ble_eq_true rfl) dX12_handOf_150 ?_
          refine Ci.mono h ?_
          intro x1 M1 h
          refine V_iadd (pc := 153) dX12_handOf_153 ?_
          refine V_callSi [.int ((M.1 24 (ix (((9 * v3) + v4) - 10))) + 1), .int (1 + x1)] (pc := 154) kX12_least lX12_279 rfl (Nat.le_of_ble_eq_true rfl) rfl (Nat.le_of_ble_eq_true rfl) dX12_handOf_154 ?_
          refine Ci.mono h ?_
          intro x2 M2 h
          refine V_iast (pc := 157) sM24 dX12_handOf_157 h.1 ?_
          have h := h.2
          refine V_iinc (pc := 158) dX12_handOf_158 rfl (by decide) ?_
          refine V_lv (lv2 := [(0, .ref (G.2.1 0)), (1, .int v1), (2, .int v2), (3, .int v3), (4, .int (v4 + 1)), (5, .int 1)]) rfl ?_
          refine V_goto (tgt := 15) (pc := 161) dX12_handOf_161 rfl ?_
          exact V_sub h ⟨rfl, rfl, rfl, rfl, rfl, trivial⟩
        · have h := h.2 c
          refine V_iconst (v := 0) (pc := 84) dX12_handOf_84 rfl ?_
          refine V_goto (tgt := 89) (pc := 85) dX12_handOf_85 rfl ?_
          refine V_istore (pc := 89) dX12_handOf_89 (by decide) ?_
          refine V_lv (lv2 := [(0, .ref (G.2.1 0)), (1, .int v1), (2, .int v2), (3, .int v3), (4, .int v4), (5, .int 0)]) rfl ?_
          refine V_aload_n (pc := 91) dX12_handOf_91 rfl ?_
          refine V_getR (pc := 92) fX12_80 sM0 rfl dX12_handOf_92 ?_
          refine V_bipush (v := 9) (pc := 95) dX12_handOf_95 rfl ?_
          refine V_iload_n (pc := 97) dX12_handOf_97 rfl ?_
          refine V_imul (pc := 98) dX12_handOf_98 ?_
          refine V_iload (pc := 99) dX12_handOf_99 rfl ?_
          refine V_iadd (pc := 101) dX12_handOf_101 ?_
          refine V_aload_n (pc := 102) dX12_handOf_102 rfl ?_
          refine V_getR (pc := 103) fX12_80 sM0 rfl dX12_handOf_103 ?_
          refine V_bipush (v := 9) (pc := 106) dX12_handOf_106 rfl ?_
          refine V_iload_n (pc := 108) dX12_handOf_108 rfl ?_
          refine V_imul (pc := 109) dX12_handOf_109 ?_
          refine V_iload (pc := 110) dX12_handOf_110 rfl ?_
          refine V_iadd (pc := 112) dX12_handOf_112 ?_
          refine V_bipush (v := 10) (pc := 113) dX12_handOf_113 rfl ?_
          refine V_isub (pc := 115) dX12_handOf_115 ?_
          refine V_iald (pc := 116) sM24 dX12_handOf_116 h.1 ?_
          have h := h.2
          refine V_iload (pc := 117) dX12_handOf_117 rfl ?_
          refine V_iadd (pc := 119) dX12_handOf_119 ?_
          refine V_iconst (v := 1) (pc := 120) dX12_handOf_120 rfl ?_
          refine V_aload_n (pc := 121) dX12_handOf_121 rfl ?_
          refine V_getR (pc := 122) fX12_80 sM0 rfl dX12_handOf_122 ?_
          refine V_bipush (v := 9) (pc := 125) dX12_handOf_125 rfl ?_
          refine V_iload_n (pc := 127) dX12_handOf_127 rfl ?_
          refine V_imul (pc := 128) dX12_handOf_128 ?_
          refine V_iload (pc := 129) dX12_handOf_129 rfl ?_
          refine V_iadd (pc := 131) dX12_handOf_131 ?_
          refine V_bipush (v := 9) (pc := 132) dX12_handOf_132 rfl ?_
          refine V_isub (pc := 134) dX12_handOf_134 ?_
          refine V_iald (pc := 135) sM24 dX12_handOf_135 h.1 ?_
          have h := h.2
          refine V_aload_n (pc := 136) dX12_handOf_136 rfl ?_
          refine V_getR (pc := 137) fX12_80 sM0 rfl dX12_handOf_137 ?_
          refine V_bipush (v := 9) (pc := 140) dX12_handOf_140 rfl ?_
          refine V_iload_n (pc := 142) dX12_handOf_142 rfl ?_
          refine V_imul (pc := 143) dX12_handOf_143 ?_
          refine V_iload (pc := 144) dX12_handOf_144 rfl ?_
          refine V_iadd (pc := 146) dX12_handOf_146 ?_
          refine V_iconst (v := 1) (pc := 147) dX12_handOf_147 rfl ?_
          refine V_isub (pc := 148) dX12_handOf_148 ?_
          refine V_iald (pc := 149) sM24 dX12_handOf_149 h.1 ?_
          have h := h.2
          refine V_callSi [.int (M.1 24 (ix (((9 * v3) + v4) - 9))), .int (M.1 24 (ix (((9 * v3) + v4) - 1)))] (pc := 150) kX12_least lX12_279 rfl (Nat.le_of_ble_eq_true rfl) rfl (Nat.le_of_ble_eq_true rfl) dX12_handOf_150 ?_
          refine Ci.mono h ?_
          intro x3 M3 h
          refine V_iadd (pc := 153) dX12_handOf_153 ?_
          refine V_callSi [.int ((M.1 24 (ix (((9 * v3) + v4) - 10))) + 0), .int (1 + x3)] (pc := 154) kX12_least lX12_279 rfl (Nat.le_of_ble_eq_true rfl) rfl (Nat.le_of_ble_eq_true rfl) dX12_handOf_154 ?_
          refine Ci.mono h ?_
          intro x4 M4 h
          refine V_iast (pc := 157) sM24 dX12_handOf_157 h.1 ?_
          have h := h.2
          refine V_iinc (pc := 158) dX12_handOf_158 rfl (by decide) ?_
          refine V_lv (lv2 := [(0, .ref (G.2.1 0)), (1, .int v1), (2, .int v2), (3, .int v3), (4, .int (v4 + 1)), (5, .int 0)]) rfl ?_
          refine V_goto (tgt := 15) (pc := 161) dX12_handOf_161 rfl ?_
          exact V_sub h ⟨rfl, rfl, rfl, rfl, rfl, trivial⟩
      · have h := h.2 c
        refine V_aload_n (pc := 35) dX12_handOf_35 rfl ?_
        refine V_getR (pc := 36) fX12_80 sM0 rfl dX12_handOf_36 ?_
        refine V_bipush (v := 9) (pc := 39) dX12_handOf_39 rfl ?_
        refine V_iload_n (pc := 41) dX12_handOf_41 rfl ?_
        refine V_imul (pc := 42) dX12_handOf_42 ?_
        refine V_iload (pc := 43) dX12_handOf_43 rfl ?_
        refine V_iadd (pc := 45) dX12_handOf_45 ?_
        refine V_iload_n (pc := 46) dX12_handOf_46 rfl ?_
        refine V_iload (pc := 47) dX12_handOf_47 rfl ?_
        refine V_iadd (pc := 49) dX12_handOf_49 ?_
        refine V_iast (pc := 50) sM24 dX12_handOf_50 h.1 ?_
        have h := h.2
        refine V_goto (tgt := 158) (pc := 51) dX12_handOf_51 rfl ?_
        refine V_iinc (pc := 158) dX12_handOf_158 rfl (by decide) ?_
        refine V_lv (lv2 := [(0, .ref (G.2.1 0)), (1, .int v1), (2, .int v2), (3, .int v3), (4, .int (v4 + 1))]) rfl ?_
        refine V_goto (tgt := 15) (pc := 161) dX12_handOf_161 rfl ?_
        exact V_sub h ⟨rfl, rfl, rfl, rfl, rfl, trivial⟩
theorem wp_X12_isAddress {G : GV} {k : Nat} {M : Mem} {q : Int32 → Mem → Prop} {v0 : Int32} {v1 : Int32} {v2 : Int32} (h : Ci shM G mX12_in k [.long (Int32.toInt64 v0), .long 0, .long 3] M (fun x1 M1 => ((x1 = 0 → q 0 M1) ∧ (¬ x1 = 0 → Ci shM G mX12_in k [.long (Int32.toInt64 v1), .long 1, .long 99] M1 (fun x2 M2 => ((x2 = 0 → q 0 M2) ∧ (¬ x2 = 0 → Ci shM G mX12_in k [.long (Int32.toInt64 v2), .long 0, .long 9999] M2 (fun x3 M3 => ((x3 = 0 → q 0 M3) ∧ (¬ x3 = 0 → q 1 M3)))))))))) : Ci shM G mX12_isAddress (k + 1) [.int v0, .int v1, .int v2] M q := by
  unfold Ci
  show V _ _ _ _ _ [(0, .int v0), (1, .int v1), (2, .int v2)] _ _ _
  refine V_iload_n (pc := 0) dX12_isAddress_0 rfl ?_
  refine V_i2l (pc := 1) dX12_isAddress_1 ?_
  refine V_lconst (v := 0) (pc := 2) dX12_isAddress_2 rfl ?_
  refine V_ldc2 (pc := 3) dX12_isAddress_3 nX12_261 ?_
  refine V_callSi [.long (Int32.toInt64 v0), .long 0, .long 3] (pc := 6) kX12_in lX12_118 rfl (Nat.le_of_ble_eq_true rfl) rfl (Nat.le_of_ble_eq_true rfl) dX12_isAddress_6 ?_
  refine Ci.mono h ?_
  intro x1 M1 h
  refine V_if_eq (tgt := 40) (pc := 9) dX12_isAddress_9 rfl (fun c => ?_) (fun c => ?_)
  · have h := h.1 c
    refine V_iconst (v := 0) (pc := 40) dX12_isAddress_40 rfl ?_
    exact V_zret dX12_isAddress_41 rfl (Or.inl rfl) h
  · have h := h.2 c
    refine V_iload_n (pc := 12) dX12_isAddress_12 rfl ?_
    refine V_i2l (pc := 13) dX12_isAddress_13 ?_
    refine V_lconst (v := 1) (pc := 14) dX12_isAddress_14 rfl ?_
    refine V_ldc2 (pc := 15) dX12_isAddress_15 nX12_263 ?_
    refine V_callSi [.long (Int32.toInt64 v1), .long 1, .long 99] (pc := 18) kX12_in lX12_118 rfl (Nat.le_of_ble_eq_true rfl) rfl (Nat.le_of_ble_eq_true rfl) dX12_isAddress_18 ?_
    refine Ci.mono h ?_
    intro x2 M2 h
    refine V_if_eq (tgt := 40) (pc := 21) dX12_isAddress_21 rfl (fun c => ?_) (fun c => ?_)
    · have h := h.1 c
      refine V_iconst (v := 0) (pc := 40) dX12_isAddress_40 rfl ?_
      exact V_zret dX12_isAddress_41 rfl (Or.inl rfl) h
    · have h := h.2 c
      refine V_iload_n (pc := 24) dX12_isAddress_24 rfl ?_
      refine V_i2l (pc := 25) dX12_isAddress_25 ?_
      refine V_lconst (v := 0) (pc := 26) dX12_isAddress_26 rfl ?_
      refine V_ldc2 (pc := 27) dX12_isAddress_27 nX12_265 ?_
      refine V_callSi [.long (Int32.toInt64 v2), .long 0, .long 9999] (pc := 30) kX12_in lX12_118 rfl (Nat.le_of_ble_eq_true rfl) rfl (Nat.le_of_ble_eq_true rfl) dX12_isAddress_30 ?_
      refine Ci.mono h ?_
      intro x3 M3 h
      refine V_if_eq (tgt := 40) (pc := 33) dX12_isAddress_33 rfl (fun c => ?_) (fun c => ?_)
      · have h := h.1 c
        refine V_iconst (v := 0) (pc := 40) dX12_isAddress_40 rfl ?_
        exact V_zret dX12_isAddress_41 rfl (Or.inl rfl) h
      · have h := h.2 c
        refine V_iconst (v := 1) (pc := 36) dX12_isAddress_36 rfl ?_
        refine V_goto (tgt := 41) (pc := 37) dX12_isAddress_37 rfl ?_
        exact V_zret dX12_isAddress_41 rfl (Or.inr rfl) h
theorem wp_X12_isBook {G : GV} {k : Nat} {M : Mem} {q : Int32 → Mem → Prop} {v1 : Int32} (h : Ci shM G mX12_in k [.long (Int32.toInt64 v1), .long 0, .long (Int32.toInt64 ((M.1 0 5) - 1))] M (fun x1 M1 => (x1 = 0 ∨ x1 = 1) ∧ q x1 M1)) : Ci shM G mX12_isBook (k + 1) [.ref (G.2.1 0), .int v1] M q := by
  unfold Ci
  show V _ _ _ _ _ [(0, .ref (G.2.1 0)), (1, .int v1)] _ _ _
  refine V_iload_n (pc := 0) dX12_isBook_0 rfl ?_
  refine V_i2l (pc := 1) dX12_isBook_1 ?_
  refine V_lconst (v := 0) (pc := 2) dX12_isBook_2 rfl ?_
  refine V_aload_n (pc := 3) dX12_isBook_3 rfl ?_
  refine V_getI (pc := 4) fX12_224 sM0 rfl dX12_isBook_4 ?_
  refine V_iconst (v := 1) (pc := 7) dX12_isBook_7 rfl ?_
  refine V_isub (pc := 8) dX12_isBook_8 ?_
  refine V_i2l (pc := 9) dX12_isBook_9 ?_
  refine V_callSi [.long (Int32.toInt64 v1), .long 0, .long (Int32.toInt64 ((M.1 0 5) - 1))] (pc := 10) kX12_in lX12_118 rfl (Nat.le_of_ble_eq_true rfl) rfl (Nat.le_of_ble_eq_true rfl) dX12_isBook_10 ?_
  refine Ci.mono h ?_
  intro x1 M1 h
  exact V_zret dX12_isBook_13 rfl h.1 h.2
theorem wp_X12_isLine {G : GV} {k : Nat} {M : Mem} {q : Int32 → Mem → Prop} {v1 : Int32} (h : Ci shM G mX12_in k [.long (Int32.toInt64 v1), .long 0, .long (Int32.toInt64 ((M.1 0 10) - 1))] M (fun x1 M1 => (x1 = 0 ∨ x1 = 1) ∧ q x1 M1)) : Ci shM G mX12_isLine (k + 1) [.ref (G.2.1 0), .int v1] M q := by
  unfold Ci
  show V _ _ _ _ _ [(0, .ref (G.2.1 0)), (1, .int v1)] _ _ _
  refine V_iload_n (pc := 0) dX12_isLine_0 rfl ?_
  refine V_i2l (pc := 1) dX12_isLine_1 ?_
  refine V_lconst (v := 0) (pc := 2) dX12_isLine_2 rfl ?_
  refine V_aload_n (pc := 3) dX12_isLine_3 rfl ?_
  refine V_getI (pc := 4) fX12_227 sM0 rfl dX12_isLine_4 ?_
  refine V_iconst (v := 1) (pc := 7) dX12_isLine_7 rfl ?_
  refine V_isub (pc := 8) dX12_isLine_8 ?_
  refine V_i2l (pc := 9) dX12_isLine_9 ?_
  refine V_callSi [.long (Int32.toInt64 v1), .long 0, .long (Int32.toInt64 ((M.1 0 10) - 1))] (pc := 10) kX12_in lX12_118 rfl (Nat.le_of_ble_eq_true rfl) rfl (Nat.le_of_ble_eq_true rfl) dX12_isLine_10 ?_
  refine Ci.mono h ?_
  intro x1 M1 h
  exact V_zret dX12_isLine_13 rfl h.1 h.2
theorem wp_X12_isSheet {G : GV} {k : Nat} {M : Mem} {q : Int32 → Mem → Prop} {v0 : Int32} (h : Ci shM G mX12_in k [.long (Int32.toInt64 v0), .long 0, .long 7] M (fun x1 M1 => (x1 = 0 ∨ x1 = 1) ∧ q x1 M1)) : Ci shM G mX12_isSheet (k + 1) [.int v0] M q := by
  unfold Ci
  show V _ _ _ _ _ [(0, .int v0)] _ _ _
  refine V_iload_n (pc := 0) dX12_isSheet_0 rfl ?_
  refine V_i2l (pc := 1) dX12_isSheet_1 ?_
  refine V_lconst (v := 0) (pc := 2) dX12_isSheet_2 rfl ?_
  refine V_ldc2 (pc := 3) dX12_isSheet_3 nX12_116 ?_
  refine V_callSi [.long (Int32.toInt64 v0), .long 0, .long 7] (pc := 6) kX12_in lX12_118 rfl (Nat.le_of_ble_eq_true rfl) rfl (Nat.le_of_ble_eq_true rfl) dX12_isSheet_6 ?_
  refine Ci.mono h ?_
  intro x1 M1 h
  exact V_zret dX12_isSheet_9 rfl h.1 h.2
theorem wp_X12_isSpan {G : GV} {k : Nat} {M : Mem} {q : Int32 → Mem → Prop} {v0 : Int32} {v1 : Int32} {v2 : Int32} (h : Ci shM G mX12_in k [.long (Int32.toInt64 v0), .long 0, .long 3] M (fun x1 M1 => ((x1 = 0 → q 0 M1) ∧ (¬ x1 = 0 → Ci shM G mX12_in k [.long (Int32.toInt64 v1), .long 0, .long 9999] M1 (fun x2 M2 => ((x2 = 0 → q 0 M2) ∧ (¬ x2 = 0 → Ci shM G mX12_in k [.long (Int32.toInt64 v2), .long 0, .long 9999] M2 (fun x3 M3 => ((x3 = 0 → q 0 M3) ∧ (¬ x3 = 0 → q 1 M3)))))))))) : Ci shM G mX12_isSpan (k + 1) [.int v0, .int v1, .int v2] M q := by
  unfold Ci
  show V _ _ _ _ _ [(0, .int v0), (1, .int v1), (2, .int v2)] _ _ _
  refine V_iload_n (pc := 0) dX12_isSpan_0 rfl ?_
  refine V_i2l (pc := 1) dX12_isSpan_1 ?_
  refine V_lconst (v := 0) (pc := 2) dX12_isSpan_2 rfl ?_
  refine V_ldc2 (pc := 3) dX12_isSpan_3 nX12_261 ?_
  refine V_callSi [.long (Int32.toInt64 v0), .long 0, .long 3] (pc := 6) kX12_in lX12_118 rfl (Nat.le_of_ble_eq_true rfl) rfl (Nat.le_of_ble_eq_true rfl) dX12_isSpan_6 ?_
  refine Ci.mono h ?_
  intro x1 M1 h
  refine V_if_eq (tgt := 40) (pc := 9) dX12_isSpan_9 rfl (fun c => ?_) (fun c => ?_)
  · have h := h.1 c
    refine V_iconst (v := 0) (pc := 40) dX12_isSpan_40 rfl ?_
    exact V_zret dX12_isSpan_41 rfl (Or.inl rfl) h
  · have h := h.2 c
    refine V_iload_n (pc := 12) dX12_isSpan_12 rfl ?_
    refine V_i2l (pc := 13) dX12_isSpan_13 ?_
    refine V_lconst (v := 0) (pc := 14) dX12_isSpan_14 rfl ?_
    refine V_ldc2 (pc := 15) dX12_isSpan_15 nX12_265 ?_
    refine V_callSi [.long (Int32.toInt64 v1), .long 0, .long 9999] (pc := 18) kX12_in lX12_118 rfl (Nat.le_of_ble_eq_true rfl) rfl (Nat.le_of_ble_eq_true rfl) dX12_isSpan_18 ?_
    refine Ci.mono h ?_
    intro x2 M2 h
    refine V_if_eq (tgt := 40) (pc := 21) dX12_isSpan_21 rfl (fun c => ?_) (fun c => ?_)
    · have h := h.1 c
      refine V_iconst (v := 0) (pc := 40) dX12_isSpan_40 rfl ?_
      exact V_zret dX12_isSpan_41 rfl (Or.inl rfl) h
    · have h := h.2 c
      refine V_iload_n (pc := 24) dX12_isSpan_24 rfl ?_
      refine V_i2l (pc := 25) dX12_isSpan_25 ?_
      refine V_lconst (v := 0) (pc := 26) dX12_isSpan_26 rfl ?_
      refine V_ldc2 (pc := 27) dX12_isSpan_27 nX12_265 ?_
      refine V_callSi [.long (Int32.toInt64 v2), .long 0, .long 9999] (pc := 30) kX12_in lX12_118 rfl (Nat.le_of_ble_eq_true rfl) rfl (Nat.le_of_ble_eq_true rfl) dX12_isSpan_30 ?_
      refine Ci.mono h ?_
      intro x3 M3 h
      refine V_if_eq (tgt := 40) (pc := 33) dX12_isSpan_33 rfl (fun c => ?_) (fun c => ?_)
      · have h := h.1 c
        refine V_iconst (v := 0) (pc := 40) dX12_isSpan_40 rfl ?_
        exact V_zret dX12_isSpan_41 rfl (Or.inl rfl) h
      · have h := h.2 c
        refine V_iconst (v := 1) (pc := 36) dX12_isSpan_36 rfl ?_
        refine V_goto (tgt := 41) (pc := 37) dX12_isSpan_37 rfl ?_
        exact V_zret dX12_isSpan_41 rfl (Or.inr rfl) h
theorem wp_X12_personOf {G : GV} {k : Nat} {M : Mem} {q : Int32 → Mem → Prop} {v1 : Int32} (h : Ci shM G mX12_all k [.ref (G.2.1 0)] M (fun x1 M1 => V shM G mX12_personOf (k + 1) 5 [(0, .ref (G.2.1 0)), (1, .int v1), (2, .int x1)] [] M1 (Qi q))) : Ci shM G mX12_personOf (k + 1) [.ref (G.2.1 0), .int v1] M q := by
  unfold Ci
  show V _ _ _ _ _ [(0, .ref (G.2.1 0)), (1, .int v1)] _ _ _
  refine V_aload_n (pc := 0) dX12_personOf_0 rfl ?_
  refine V_callVi [] (pc := 1) kX12_all lX12_304 sM0 rfl rfl (Nat.le_of_ble_eq_true rfl) rfl (Nat.le_of_ble_eq_true rfl) dX12_personOf_1 ?_
  refine Ci.mono h ?_
  intro x1 M1 h
  refine V_istore_n (pc := 4) dX12_personOf_4 (by decide) ?_
  refine V_lv (lv2 := [(0, .ref (G.2.1 0)), (1, .int v1), (2, .int x1)]) rfl ?_
  exact V_sub h ⟨rfl, rfl, rfl, trivial⟩
theorem wp_X12_personOf_5 {G : GV} {k : Nat} {M : Mem} {q : Int32 → Mem → Prop} {v1 : Int32} {v2 : Int32} (h : Ci shM G mX12_lowest k [.int v2] M (fun x1 M1 => V shM G mX12_personOf (k + 1) 16 [(0, .ref (G.2.1 0)), (1, .int v1), (2, .int v2), (3, .int x1), (4, .int v2), (5, .int v2)] [] M1 (Qi q))) : V shM G mX12_personOf (k + 1) 5 [(0, .ref (G.2.1 0)), (1, .int v1), (2, .int v2)] [] M (Qi q) := by
  refine V_iload_n (pc := 5) dX12_personOf_5 rfl ?_
  refine V_callSi [.int v2] (pc := 6) kX12_lowest lX12_301 rfl (Nat.le_of_ble_eq_true rfl) rfl (Nat.le_of_ble_eq_true rfl) dX12_personOf_6 ?_
  refine Ci.mono h ?_
  intro x1 M1 h
  refine V_istore_n (pc := 9) dX12_personOf_9 (by decide) ?_
  refine V_lv (lv2 := [(0, .ref (G.2.1 0)), (1, .int v1), (2, .int v2), (3, .int x1)]) rfl ?_
  refine V_iload_n (pc := 10) dX12_personOf_10 rfl ?_
  refine V_istore (pc := 11) dX12_personOf_11 (by decide) ?_
  refine V_lv (lv2 := [(0, .ref (G.2.1 0)), (1, .int v1), (2, .int v2), (3, .int x1), (4, .int v2)]) rfl ?_
  refine V_iload_n (pc := 13) dX12_personOf_13 rfl ?_
  refine V_istore (pc := 14) dX12_personOf_14 (by decide) ?_
  refine V_lv (lv2 := [(0, .ref (G.2.1 0)), (1, .int v1), (2, .int v2), (3, .int x1), (4, .int v2), (5, .int v2)]) rfl ?_
  exact V_sub h ⟨rfl, rfl, rfl, rfl, rfl, rfl, trivial⟩
theorem wp_X12_personOf_16 {G : GV} {k : Nat} {M : Mem} {q : Int32 → Mem → Prop} {v1 : Int32} {v2 : Int32} {v3 : Int32} {v4 : Int32} {v5 : Int32} (h : ((v5 ≤ 0 → ((((v4 >>> (v1 &&& 31)) &&& 1) ≠ 1 → V shM G mX12_personOf (k + 1) 5 [(0, .ref (G.2.1 0)), (1, .int v1), (2, .int (v2 &&& (v4 ^^^ (-1))))] [] M (Qi q)) ∧ (((v4 >>> (v1 &&& 31)) &&& 1) = 1 → q v4 M))) ∧ (¬ v5 ≤ 0 → ((((v5 >>> (v3 &&& 31)) &&& 1) ≠ 1 → V shM G mX12_personOf (k + 1) 16 [(0, .ref (G.2.1 0)), (1, .int v1), (2, .int v2), (3, .int v3), (4, .int v4), (5, .int ((v5 - 1) &&& v2))] [] M (Qi q)) ∧ (((v5 >>> (v3 &&& 31)) &&& 1) = 1 → vp_in v5 4096 ∧ (((M.1 26 (ix v5)) = 0 → V shM G mX12_personOf (k + 1) 16 [(0, .ref (G.2.1 0)), (1, .int v1), (2, .int v2), (3, .int v3), (4, .int v4), (5, .int ((v5 - 1) &&& v2))] [] M (Qi q)) ∧ (¬ (M.1 26 (ix v5)) = 0 → vp_in (v2 &&& (v5 ^^^ (-1))) 4096 ∧ vp_in v2 4096 ∧ ((((M.1 27 (ix (v2 &&& (v5 ^^^ (-1))))) + 1) ≠ (M.1 27 (ix v2)) → V shM G mX12_personOf (k + 1) 16 [(0, .ref (G.2.1 0)), (1, .int v1), (2, .int v2), (3, .int v3), (4, .int v4), (5, .int ((v5 - 1) &&& v2))] [] M (Qi q)) ∧ (((M.1 27 (ix (v2 &&& (v5 ^^^ (-1))))) + 1) = (M.1 27 (ix v2)) → V shM G mX12_personOf (k + 1) 16 [(0, .ref (G.2.1 0)), (1, .int v1), (2, .int v2), (3, .int v3), (4, .int v5), (5, .int ((v5 - 1) &&& v2))] [] M (Qi q)))))))))) : V shM G mX12_personOf (k + 1) 16 [(0, .ref (G.2.1 0)), (1, .int v1), (2, .int v2), (3, .int v3), (4, .int v4), (5, .int v5)] [] M (Qi q) := by
  refine V_iload (pc := 16) dX12_personOf_16 rfl ?_
  refine V_if_le (tgt := 78) (pc := 18) dX12_personOf_18 rfl (fun c => ?_) (fun c => ?_)
  · have h := h.1 c
    refine V_iload (pc := 78) dX12_personOf_78 rfl ?_
    refine V_iload_n (pc := 80) dX12_personOf_80 rfl ?_
    refine V_ishr (pc := 81) dX12_personOf_81 ?_
    refine V_iconst (v := 1) (pc := 82) dX12_personOf_82 rfl ?_
    refine V_iand (pc := 83) dX12_personOf_83 ?_
    refine V_iconst (v := 1) (pc := 84) dX12_personOf_84 rfl ?_
    refine V_icmp_ne (tgt := 91) (pc := 85) dX12_personOf_85 rfl (fun c => ?_) (fun c => ?_)
    · have h := h.1 c
      refine V_iload_n (pc := 91) dX12_personOf_91 rfl ?_
      refine V_iload (pc := 92) dX12_personOf_92 rfl ?_
      refine V_iconst (v := (-1)) (pc := 94) dX12_personOf_94 rfl ?_
      refine V_ixor (pc := 95) dX12_personOf_95 ?_
      refine V_iand (pc := 96) dX12_personOf_96 ?_
      refine V_istore_n (pc := 97) dX12_personOf_97 (by decide) ?_
      refine V_lv (lv2 := [(0, .ref (G.2.1 0)), (1, .int v1), (2, .int (v2 &&& (v4 ^^^ (-1)))), (3, .int v3), (4, .int v4), (5, .int v5)]) rfl ?_
      refine V_goto (tgt := 5) (pc := 98) dX12_personOf_98 rfl ?_
      exact V_sub h ⟨rfl, rfl, rfl, trivial⟩
    · have h := h.2 c
      refine V_iload (pc := 88) dX12_personOf_88 rfl ?_
      exact V_iret dX12_personOf_90 rfl h
  · have h := h.2 c
    refine V_iload (pc := 21) dX12_personOf_21 rfl ?_
    refine V_iload_n (pc := 23) dX12_personOf_23 rfl ?_
    refine V_ishr (pc := 24) dX12_personOf_24 ?_
    refine V_iconst (v := 1) (pc := 25) dX12_personOf_25 rfl ?_
    refine V_iand (pc := 26) dX12_personOf_26 ?_
    refine V_iconst (v := 1) (pc := 27) dX12_personOf_27 rfl ?_
    refine V_icmp_ne (tgt := 67) (pc := 28) dX12_personOf_28 rfl (fun c => ?_) (fun c => ?_)
    · have h := h.1 c
      refine V_iload (pc := 67) dX12_personOf_67 rfl ?_
      refine V_iconst (v := 1) (pc := 69) dX12_personOf_69 rfl ?_
      refine V_isub (pc := 70) dX12_personOf_70 ?_
      refine V_iload_n (pc := 71) dX12_personOf_71 rfl ?_
      refine V_iand (pc := 72) dX12_personOf_72 ?_
      refine V_istore (pc := 73) dX12_personOf_73 (by decide) ?_
      refine V_lv (lv2 := [(0, .ref (G.2.1 0)), (1, .int v1), (2, .int v2), (3, .int v3), (4, .int v4), (5, .int ((v5 - 1) &&& v2))]) rfl ?_
      refine V_goto (tgt := 16) (pc := 75) dX12_personOf_75 rfl ?_
      exact V_sub h ⟨rfl, rfl, rfl, rfl, rfl, rfl, trivial⟩
    · have h := h.2 c
      refine V_aload_n (pc := 31) dX12_personOf_31 rfl ?_
      refine V_getR (pc := 32) fX12_86 sM0 rfl dX12_personOf_32 ?_
      refine V_iload (pc := 35) dX12_personOf_35 rfl ?_
      refine V_zald (pc := 37) sM26 dX12_personOf_37 h.1 ?_
      have h := h.2
      refine V_if_eq (tgt := 67) (pc := 38) dX12_personOf_38 rfl (fun c => ?_) (fun c => ?_)
      · have h := h.1 c
        refine V_iload (pc := 67) dX12_personOf_67 rfl ?_
        refine V_iconst (v := 1) (pc := 69) dX12_personOf_69 rfl ?_
        refine V_isub (pc := 70) dX12_personOf_70 ?_
        refine V_iload_n (pc := 71) dX12_personOf_71 rfl ?_
        refine V_iand (pc := 72) dX12_personOf_72 ?_
        refine V_istore (pc := 73) dX12_personOf_73 (by decide) ?_
        refine V_lv (lv2 := [(0, .ref (G.2.1 0)), (1, .int v1), (2, .int v2), (3, .int v3), (4, .int v4), (5, .int ((v5 - 1) &&& v2))]) rfl ?_
        refine V_goto (tgt := 16) (pc := 75) dX12_personOf_75 rfl ?_
        exact V_sub h ⟨rfl, rfl, rfl, rfl, rfl, rfl, trivial⟩
      · have h := h.2 c
        refine V_aload_n (pc := 41) dX12_personOf_41 rfl ?_
        refine V_getR (pc := 42) fX12_89 sM0 rfl dX12_personOf_42 ?_
        refine V_iload_n (pc := 45) dX12_personOf_45 rfl ?_
        refine V_iload (pc := 46) dX12_personOf_46 rfl ?_
        refine V_iconst (v := (-1)) (pc := 48) dX12_personOf_48 rfl ?_
        refine V_ixor (pc := 49) dX12_personOf_49 ?_
        refine V_iand (pc := 50) dX12_personOf_50 ?_
        refine V_iald (pc := 51) sM27 dX12_personOf_51 h.1 ?_
        have h := h.2
        refine V_iconst (v := 1) (pc := 52) dX12_personOf_52 rfl ?_
        refine V_iadd (pc := 53) dX12_personOf_53 ?_
        refine V_aload_n (pc := 54) dX12_personOf_54 rfl ?_
        refine V_getR (pc := 55) fX12_89 sM0 rfl dX12_personOf_55 ?_
        refine V_iload_n (pc := 58) dX12_personOf_58 rfl ?_
        refine V_iald (pc := 59) sM27 dX12_personOf_59 h.1 ?_
        have h := h.2
        refine V_icmp_ne (tgt := 67) (pc := 60) dX12_personOf_60 rfl (fun c => ?_) (fun c => ?_)
        · have h := h.1 c
          refine V_iload (pc := 67) dX12_personOf_67 rfl ?_
          refine V_iconst (v := 1) (pc := 69) dX12_personOf_69 rfl ?_
          refine V_isub (pc := 70) dX12_personOf_70 ?_
          refine V_iload_n (pc := 71) dX12_personOf_71 rfl ?_
          refine V_iand (pc := 72) dX12_personOf_72 ?_
          refine V_istore (pc := 73) dX12_personOf_73 (by decide) ?_
          refine V_lv (lv2 := [(0, .ref (G.2.1 0)), (1, .int v1), (2, .int v2), (3, .int v3), (4, .int v4), (5, .int ((v5 - 1) &&& v2))]) rfl ?_
          refine V_goto (tgt := 16) (pc := 75) dX12_personOf_75 rfl ?_
          exact V_sub h ⟨rfl, rfl, rfl, rfl, rfl, rfl, trivial⟩
        · have h := h.2 c
          refine V_iload (pc := 63) dX12_personOf_63 rfl ?_
          refine V_istore (pc := 65) dX12_personOf_65 (by decide) ?_
          refine V_lv (lv2 := [(0, .ref (G.2.1 0)), (1, .int v1), (2, .int v2), (3, .int v3), (4, .int v5), (5, .int v5)]) rfl ?_
          refine V_iload (pc := 67) dX12_personOf_67 rfl ?_
          refine V_iconst (v := 1) (pc := 69) dX12_personOf_69 rfl ?_
          refine V_isub (pc := 70) dX12_personOf_70 ?_
          refine V_iload_n (pc := 71) dX12_personOf_71 rfl ?_
          refine V_iand (pc := 72) dX12_personOf_72 ?_
          refine V_istore (pc := 73) dX12_personOf_73 (by decide) ?_
          refine V_lv (lv2 := [(0, .ref (G.2.1 0)), (1, .int v1), (2, .int v2), (3, .int v3), (4, .int v5), (5, .int ((v5 - 1) &&& v2))]) rfl ?_
          refine V_goto (tgt := 16) (pc := 75) dX12_personOf_75 rfl ?_
          exact V_sub h ⟨rfl, rfl, rfl, rfl, rfl, rfl, trivial⟩
theorem wp_X12_plainSize {G : GV} {k : Nat} {M : Mem} {q : Int32 → Mem → Prop} {v1 : Int32} (h : Cv shM G mX12_began k [.ref (G.2.1 0), .int 10] M (fun M1 => vp_in v1 12 ∧ q (M1.1 13 (ix v1)) M1)) : Ci shM G mX12_plainSize (k + 1) [.ref (G.2.1 0), .int v1] M q := by
  unfold Ci
  show V _ _ _ _ _ [(0, .ref (G.2.1 0)), (1, .int v1)] _ _ _
  refine V_aload_n (pc := 0) dX12_plainSize_0 rfl ?_
  refine V_bipush (v := 10) (pc := 1) dX12_plainSize_1 rfl ?_
  refine V_callVv [.int 10] (pc := 3) kX12_began lX12_348 sM0 rfl rfl (Nat.le_of_ble_eq_true rfl) rfl (Nat.le_of_ble_eq_true rfl) dX12_plainSize_3 ?_
  refine Cv.mono h ?_
  intro M1 h
  refine V_aload_n (pc := 6) dX12_plainSize_6 rfl ?_
  refine V_getR (pc := 7) fX12_47 sM0 rfl dX12_plainSize_7 ?_
  refine V_iload_n (pc := 10) dX12_plainSize_10 rfl ?_
  refine V_iald (pc := 11) sM13 dX12_plainSize_11 h.1 ?_
  have h := h.2
  exact V_iret dX12_plainSize_12 rfl h
