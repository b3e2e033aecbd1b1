theorem wp_X12_all {G : GV} {k : Nat} {M : Mem} {q : Int32 → Mem → Prop}  (h : q ((1 <<< ((M.1 0 10) &&& 31)) - 1) M) : Ci shM G mX12_all k [.ref (G.2.1 0)] M q := by
  unfold Ci
  show V _ _ _ _ _ [(0, .ref (G.2.1 0))] _ _ _
  refine V_iconst (v := 1) (pc := 0) dX12_all_0 rfl ?_
  refine V_aload_n (pc := 1) dX12_all_1 rfl ?_
  refine V_getI (pc := 2) fX12_227 sM0 rfl dX12_all_2 ?_
  refine V_ishl (pc := 5) dX12_all_5 ?_
  refine V_iconst (v := 1) (pc := 6) dX12_all_6 rfl ?_
  refine V_isub (pc := 7) dX12_all_7 ?_
  exact V_iret dX12_all_8 rfl h
theorem wp_X12_bad {G : GV} {k : Nat} {M : Mem} {q : Mem → Prop} {v1 : Int32} (h : (((M.1 0 36) ≠ 0 → q M) ∧ ((M.1 0 36) = 0 → q (mset (mset M 0 36 v1) 0 37 (M.1 0 34))))) : Cv shM G mX12_bad k [.ref (G.2.1 0), .int v1] M q := by
  unfold Cv
  show V _ _ _ _ _ [(0, .ref (G.2.1 0)), (1, .int v1)] _ _ _
  refine V_aload_n (pc := 0) dX12_bad_0 rfl ?_
  refine V_getI (pc := 1) fX12_166 sM0 rfl dX12_bad_1 ?_
  refine V_if_ne (tgt := 20) (pc := 4) dX12_bad_4 rfl (fun c => ?_) (fun c => ?_)
  · have h := h.1 c
    exact V_vret dX12_bad_20 rfl h
  · have h := h.2 c
    refine V_aload_n (pc := 7) dX12_bad_7 rfl ?_
    refine V_iload_n (pc := 8) dX12_bad_8 rfl ?_
    refine V_putI (pc := 9) fX12_166 p12_36 sM0 rfl dX12_bad_9 ?_
    refine V_aload_n (pc := 12) dX12_bad_12 rfl ?_
    refine V_aload_n (pc := 13) dX12_bad_13 rfl ?_
    refine V_getI (pc := 14) fX12_151 sM0 rfl dX12_bad_14 ?_
    refine V_top (v := (M.1 0 34)) (by simp [mset, lset, upd]) ?_
    refine V_putI (pc := 17) fX12_169 p12_37 sM0 rfl dX12_bad_17 ?_
    exact V_vret dX12_bad_20 rfl h
theorem wp_X12_began {G : GV} {k : Nat} {M : Mem} {q : Mem → Prop} {v1 : Int32} (h : ((16 ≤ (M.1 0 53) → q M) ∧ (¬ 16 ≤ (M.1 0 53) → vp_in (M.1 0 53) 16 ∧ q (mset (mset M 32 (ix (M.1 0 53)) v1) 0 53 ((M.1 0 53) + 1))))) : Cv shM G mX12_began k [.ref (G.2.1 0), .int v1] M q := by
  unfold Cv
  show V _ _ _ _ _ [(0, .ref (G.2.1 0)), (1, .int v1)] _ _ _
  refine V_aload_n (pc := 0) dX12_began_0 rfl ?_
  refine V_getI (pc := 1) fX12_345 sM0 rfl dX12_began_1 ?_
  refine V_bipush (v := 16) (pc := 4) dX12_began_4 rfl ?_
  refine V_icmp_ge (tgt := 29) (pc := 6) dX12_began_6 rfl (fun c => ?_) (fun c => ?_)
  · have h := h.1 c
    exact V_vret dX12_began_29 rfl h
  · have h := h.2 c
    refine V_aload_n (pc := 9) dX12_began_9 rfl ?_
    refine V_getR (pc := 10) fX12_105 sM0 rfl dX12_began_10 ?_
    refine V_aload_n (pc := 13) dX12_began_13 rfl ?_
    refine V_getI (pc := 14) fX12_345 sM0 rfl dX12_began_14 ?_
    refine V_iload_n (pc := 17) dX12_began_17 rfl ?_
    refine V_iast (pc := 18) sM32 dX12_began_18 h.1 ?_
    have h := h.2
    refine V_aload_n (pc := 19) dX12_began_19 rfl ?_
    refine V_dup (pc := 20) dX12_began_20 rfl ?_
    refine V_getI (pc := 21) fX12_345 sM0 rfl dX12_began_21 ?_
    refine V_top (v := (M.1 0 53)) (by simp [mset, lset, upd]) ?_
    refine V_iconst (v := 1) (pc := 24) dX12_began_24 rfl ?_
    refine V_iadd (pc := 25) dX12_began_25 ?_
    refine V_putI (pc := 26) fX12_345 p12_53 sM0 rfl dX12_began_26 ?_
    exact V_vret dX12_began_29 rfl h
theorem wp_X12_bits {G : GV} {k : Nat} {M : Mem} {q : Int32 → Mem → Prop} {v0 : Int32} (h : V shM G mX12_bits k 4 [(0, .int v0), (1, .int 0), (2, .int 0)] [] M (Qi q)) : Ci shM G mX12_bits k [.int v0] M q := by
  unfold Ci
  show V _ _ _ _ _ [(0, .int v0)] _ _ _
  refine V_iconst (v := 0) (pc := 0) dX12_bits_0 rfl ?_
  refine V_istore_n (pc := 1) dX12_bits_1 (by decide) ?_
  refine V_lv (lv2 := [(0, .int v0), (1, .int 0)]) rfl ?_
  refine V_iconst (v := 0) (pc := 2) dX12_bits_2 rfl ?_
  refine V_istore_n (pc := 3) dX12_bits_3 (by decide) ?_
  refine V_lv (lv2 := [(0, .int v0), (1, .int 0), (2, .int 0)]) rfl ?_
  exact V_sub h ⟨rfl, rfl, rfl, trivial⟩
theorem wp_X12_bits_4 {G : GV} {k : Nat} {M : Mem} {q : Int32 → Mem → Prop} {v0 : Int32} {v1 : Int32} {v2 : Int32} (h : ((12 ≤ v2 → q v1 M) ∧ (¬ 12 ≤ v2 → V shM G mX12_bits k 4 [(0, .int v0), (1, .int (v1 + ((v0 >>> (v2 &&& 31)) &&& 1))), (2, .int (v2 + 1))] [] M (Qi q)))) : V shM G mX12_bits k 4 [(0, .int v0), (1, .int v1), (2, .int v2)] [] M (Qi q) := by
  refine V_iload_n (pc := 4) dX12_bits_4 rfl ?_
  refine V_bipush (v := 12) (pc := 5) dX12_bits_5 rfl ?_
  refine V_icmp_ge (tgt := 24) (pc := 7) dX12_bits_7 rfl (fun c => ?_) (fun c => ?_)
  · have h := h.1 c
    refine V_iload_n (pc := 24) dX12_bits_24 rfl ?_
    exact V_iret dX12_bits_25 rfl h
  · have h := h.2 c
    refine V_iload_n (pc := 10) dX12_bits_10 rfl ?_
    refine V_iload_n (pc := 11) dX12_bits_11 rfl ?_
    refine V_iload_n (pc := 12) dX12_bits_12 rfl ?_
    refine V_ishr (pc := 13) dX12_bits_13 ?_
    refine V_iconst (v := 1) (pc := 14) dX12_bits_14 rfl ?_
    refine V_iand (pc := 15) dX12_bits_15 ?_
    refine V_iadd (pc := 16) dX12_bits_16 ?_
    refine V_istore_n (pc := 17) dX12_bits_17 (by decide) ?_
    refine V_lv (lv2 := [(0, .int v0), (1, .int (v1 + ((v0 >>> (v2 &&& 31)) &&& 1))), (2, .int v2)]) rfl ?_
    refine V_iinc (pc := 18) dX12_bits_18 rfl (by decide) ?_
    refine V_lv (lv2 := [(0, .int v0), (1, .int (v1 + ((v0 >>> (v2 &&& 31)) &&& 1))), (2, .int (v2 + 1))]) rfl ?_
    refine V_goto (tgt := 4) (pc := 21) dX12_bits_21 rfl ?_
    exact V_sub h ⟨rfl, rfl, rfl, trivial⟩
theorem wp_X12_byteAt {G : GV} {k : Nat} {M : Mem} {q : Int32 → Mem → Prop} {v1 : Int32} (h : (((M.1 0 31) ≤ v1 → q (-1000000) M) ∧ (¬ (M.1 0 31) ≤ v1 → vp_in v1 600 ∧ q (M.1 23 (ix v1)) M))) : Ci shM G mX12_byteAt k [.ref (G.2.1 0), .int v1] M q := by
  unfold Ci
  show V _ _ _ _ _ [(0, .ref (G.2.1 0)), (1, .int v1)] _ _ _
  refine V_iload_n (pc := 0) dX12_byteAt_0 rfl ?_
  refine V_aload_n (pc := 1) dX12_byteAt_1 rfl ?_
  refine V_getI (pc := 2) fX12_141 sM0 rfl dX12_byteAt_2 ?_
  refine V_icmp_ge (tgt := 17) (pc := 5) dX12_byteAt_5 rfl (fun c => ?_) (fun c => ?_)
  · have h := h.1 c
    refine V_ldc (pc := 17) dX12_byteAt_17 nX12_144 ?_
    exact V_iret dX12_byteAt_19 rfl h
  · have h := h.2 c
    refine V_aload_n (pc := 8) dX12_byteAt_8 rfl ?_
    refine V_getR (pc := 9) fX12_77 sM0 rfl dX12_byteAt_9 ?_
    refine V_iload_n (pc := 12) dX12_byteAt_12 rfl ?_
    refine V_iald (pc := 13) sM23 dX12_byteAt_13 h.1 ?_
    have h := h.2
    refine V_goto (tgt := 19) (pc := 14) dX12_byteAt_14 rfl ?_
    exact V_iret dX12_byteAt_19 rfl h
theorem wp_X12_codeOf {G : GV} {k : Nat} {M : Mem} {q : Int32 → Mem → Prop} {v0 : Int32} (h : ((((97 + v0)).toInt = 98 → q 1 M) ∧ (((97 + v0)).toInt = 99 → q 2 M) ∧ (((97 + v0)).toInt = 100 → q 3 M) ∧ (((97 + v0)).toInt = 101 → q 0 M) ∧ (((97 + v0)).toInt = 102 → q 1 M) ∧ (((97 + v0)).toInt = 103 → q 2 M) ∧ (((97 + v0)).toInt = 104 → q 0 M) ∧ (((97 + v0)).toInt = 105 → q 0 M) ∧ (((97 + v0)).toInt = 106 → q 2 M) ∧ (((97 + v0)).toInt = 107 → q 2 M) ∧ (((97 + v0)).toInt = 108 → q 4 M) ∧ (((97 + v0)).toInt = 109 → q 5 M) ∧ (((97 + v0)).toInt = 110 → q 5 M) ∧ (((97 + v0)).toInt = 111 → q 0 M) ∧ (((97 + v0)).toInt = 112 → q 1 M) ∧ (((97 + v0)).toInt = 113 → q 2 M) ∧ (((97 + v0)).toInt = 114 → q 6 M) ∧ (((97 + v0)).toInt = 115 → q 2 M) ∧ (((97 + v0)).toInt = 116 → q 3 M) ∧ (((97 + v0)).toInt = 117 → q 0 M) ∧ (((97 + v0)).toInt = 118 → q 1 M) ∧ (((97 + v0)).toInt = 119 → q 0 M) ∧ (((97 + v0)).toInt = 120 → q 2 M) ∧ (((97 + v0)).toInt = 121 → q 0 M) ∧ (((97 + v0)).toInt = 122 → q 2 M) ∧ ((((97 + v0)).toInt < 98 ∨ 122 < ((97 + v0)).toInt) → q 0 M))) : Ci shM G mX12_codeOf k [.int v0] M q := by
  unfold Ci
  show V _ _ _ _ _ [(0, .int v0)] _ _ _
  refine V_bipush (v := 97) (pc := 0) dX12_codeOf_0 rfl ?_
  refine V_iload_n (pc := 2) dX12_codeOf_2 rfl ?_
  refine V_iadd (pc := 3) dX12_codeOf_3 ?_
  refine V_table (tgt := 133) (pc := 4) dX12_codeOf_4 rfl rfl rfl ⟨fun c => ?_, fun c => ?_, fun c => ?_, fun c => ?_, fun c => ?_, fun c => ?_, fun c => ?_, fun c => ?_, fun c => ?_, fun c => ?_, fun c => ?_, fun c => ?_, fun c => ?_, fun c => ?_, fun c => ?_, fun c => ?_, fun c => ?_, fun c => ?_, fun c => ?_, fun c => ?_, fun c => ?_, fun c => ?_, fun c => ?_, fun c => ?_, fun c => ?_, trivial⟩ (fun c => ?_)
  · have h := h.1 c
    show V _ _ _ _ 120 _ _ _ _
    refine V_iconst (v := 1) (pc := 120) dX12_codeOf_120 rfl ?_
    exact V_iret dX12_codeOf_121 rfl h
  · have h := h.2.1 c
    show V _ _ _ _ 122 _ _ _ _
    refine V_iconst (v := 2) (pc := 122) dX12_codeOf_122 rfl ?_
    exact V_iret dX12_codeOf_123 rfl h
  · have h := h.2.2.1 c
    show V _ _ _ _ 124 _ _ _ _
    refine V_iconst (v := 3) (pc := 124) dX12_codeOf_124 rfl ?_
    exact V_iret dX12_codeOf_125 rfl h
  · have h := h.2.2.2.1 c
    show V _ _ _ _ 133 _ _ _ _
    refine V_iconst (v := 0) (pc := 133) dX12_codeOf_133 rfl ?_
    exact V_iret dX12_codeOf_134 rfl h
  · have h := h.2.2.2.2.1 c
    show V _ _ _ _ 120 _ _ _ _
    refine V_iconst (v := 1) (pc := 120) dX12_codeOf_120 rfl ?_
    exact V_iret dX12_codeOf_121 rfl h
  · have h := h.2.2.2.2.2.1 c
    show V _ _ _ _ 122 _ _ _ _
    refine V_iconst (v := 2) (pc := 122) dX12_codeOf_122 rfl ?_
    exact V_iret dX12_codeOf_123 rfl h
  · have h := h.2.2.2.2.2.2.1 c
    show V _ _ _ _ 133 _ _ _ _
    refine V_iconst (v := 0) (pc := 133) dX12_codeOf_133 rfl ?_
    exact V_iret dX12_codeOf_134 rfl h
  · have h := h.2.2.2.2.2.2.2.1 c
    show V _ _ _ _ 133 _ _ _ _
    refine V_iconst (v := 0) (pc := 133) dX12_codeOf_133 rfl ?_
    exact V_iret dX12_codeOf_134 rfl h
  · have h := h.2.2.2.2.2.2.2.2.1 c
    show V _ _ _ _ 122 _ _ _ _
    refine V_iconst (v := 2) (pc := 122) dX12_codeOf_122 rfl ?_
    exact V_iret dX12_codeOf_123 rfl h
  · have h := h.2.2.2.2.2.2.2.2.2.1 c
    show V _ _ _ _ 122 _ _ _ _
    refine V_iconst (v := 2) (pc := 122) dX12_codeOf_122 rfl ?_
    exact V_iret dX12_codeOf_123 rfl h
  · have h := h.2.2.2.2.2.2.2.2.2.2.1 c
    show V _ _ _ _ 126 _ _ _ _
    refine V_iconst (v := 4) (pc := 126) dX12_codeOf_126 rfl ?_
    exact V_iret dX12_codeOf_127 rfl h
  · have h := h.2.2.2.2.2.2.2.2.2.2.2.1 c
    show V _ _ _ _ 128 _ _ _ _
    refine V_iconst (v := 5) (pc := 128) dX12_codeOf_128 rfl ?_
    exact V_iret dX12_codeOf_129 rfl h
  · have h := h.2.2.2.2.2.2.2.2.2.2.2.2.1 c
    show V _ _ _ _ 128 _ _ _ _
    refine V_iconst (v := 5) (pc := 128) dX12_codeOf_128 rfl ?_
    exact V_iret dX12_codeOf_129 rfl h
  · have h := h.2.2.2.2.2.2.2.2.2.2.2.2.2.1 c
    show V _ _ _ _ 133 _ _ _ _
    refine V_iconst (v := 0) (pc := 133) dX12_codeOf_133 rfl ?_
    exact V_iret dX12_codeOf_134 rfl h
  · have h := h.2.2.2.2.2.2.2.2.2.2.2.2.2.2.1 c
    show V _ _ _ _ 120 _ _ _ _
    refine V_iconst (v := 1) (pc := 120) dX12_codeOf_120 rfl ?_
    exact V_iret dX12_codeOf_121 rfl h
  · have h := h.2.2.2.2.2.2.2.2.2.2.2.2.2.2.2.1 c
    show V _ _ _ _ 122 _ _ _ _
    refine V_iconst (v := 2) (pc := 122) dX12_codeOf_122 rfl ?_
    exact V_iret dX12_codeOf_123 rfl h
  · have h := h.2.2.2.2.2.2.2.2.2.2.2.2.2.2.2.2.1 c
    show V _ _ _ _ 130 _ _ _ _
    refine V_bipush (v := 6) (pc := 130) dX12_codeOf_130 rfl ?_
    exact V_iret dX12_codeOf_132 rfl h
  · have h := h.2.2.2.2.2.2.2.2.2.2.2.2.2.2.2.2.2.1 c
    show V _ _ _ _ 122 _ _ _ _
    refine V_iconst (v := 2) (pc := 122) dX12_codeOf_122 rfl ?_
    exact V_iret dX12_codeOf_123 rfl h
  · have h := h.2.2.2.2.2.2.2.2.2.2.2.2.2.2.2.2.2.2.1 c
    show V _ _ _ _ 124 _ _ _ _
    refine V_iconst (v := 3) (pc := 124) dX12_codeOf_124 rfl ?_
    exact V_iret dX12_codeOf_125 rfl h
  · have h := h.2.2.2.2.2.2.2.2.2.2.2.2.2.2.2.2.2.2.2.1 c
    show V _ _ _ _ 133 _ _ _ _
    refine V_iconst (v := 0) (pc := 133) dX12_codeOf_133 rfl ?_
    exact V_iret dX12_codeOf_134 rfl h
  · have h := h.2.2.2.2.2.2.2.2.2.2.2.2.2.2.2.2.2.2.2.2.1 c
    show V _ _ _ _ 120 _ _ _ _
    refine V_iconst (v := 1) (pc := 120) dX12_codeOf_120 rfl ?_
    exact V_iret dX12_codeOf_121 rfl h
  · have h := h.2.2.2.2.2.2.2.2.2.2.2.2.2.2.2.2.2.2.2.2.2.1 c
    show V _ _ _ _ 133 _ _ _ _
    refine V_iconst (v := 0) (pc := 133) dX12_codeOf_133 rfl ?_
    exact V_iret dX12_codeOf_134 rfl h
  · have h := h.2.2.2.2.2.2.2.2.2.2.2.2.2.2.2.2.2.2.2.2.2.2.1 c
    show V _ _ _ _ 122 _ _ _ _
    refine V_iconst (v := 2) (pc := 122) dX12_codeOf_122 rfl ?_
    exact V_iret dX12_codeOf_123 rfl h
  · have h := h.2.2.2.2.2.2.2.2.2.2.2.2.2.2.2.2.2.2.2.2.2.2.2.1 c
    show V _ _ _ _ 133 _ _ _ _
    refine V_iconst (v := 0) (pc := 133) dX12_codeOf_133 rfl ?_
    exact V_iret dX12_codeOf_134 rfl h
  · have h := h.2.2.2.2.2.2.2.2.2.2.2.2.2.2.2.2.2.2.2.2.2.2.2.2.1 c
    show V _ _ _ _ 122 _ _ _ _
    refine V_iconst (v := 2) (pc := 122) dX12_codeOf_122 rfl ?_
    exact V_iret dX12_codeOf_123 rfl h
  · have h := h.2.2.2.2.2.2.2.2.2.2.2.2.2.2.2.2.2.2.2.2.2.2.2.2.2 c
    refine V_iconst (v := 0) (pc := 133) dX12_codeOf_133 rfl ?_
    exact V_iret dX12_codeOf_134 rfl h
theorem wp_X12_fault {G : GV} {k : Nat} {M : Mem} {q : Int32 → Mem → Prop}  (h : q (M.1 0 30) (mset M 0 0 0)) : Ci shM G mX12_fault k [.ref (G.2.1 0)] M q := by
  unfold Ci
  show V _ _ _ _ _ [(0, .ref (G.2.1 0))] _ _ _
  refine V_aload_n (pc := 0) dX12_fault_0 rfl ?_
  refine V_iconst (v := 0) (pc := 1) dX12_fault_1 rfl ?_
  refine V_putI (pc := 2) fX12_108 p12_0 sM0 rfl dX12_fault_2 ?_
  refine V_aload_n (pc := 5) dX12_fault_5 rfl ?_
  refine V_getI (pc := 6) fX12_242 sM0 rfl dX12_fault_6 ?_
  refine V_top (v := (M.1 0 30)) (by simp [mset, lset, upd]) ?_
  exact V_iret dX12_fault_9 rfl h
theorem wp_X12_finding {G : GV} {k : Nat} {M : Mem} {q : Int32 → Mem → Prop} {v1 : Int32} (h : q ((-1000010) - v1) (mset M 0 1 v1)) : Ci shM G mX12_finding k [.ref (G.2.1 0), .int v1] M q := by
  unfold Ci
  show V _ _ _ _ _ [(0, .ref (G.2.1 0)), (1, .int v1)] _ _ _
  refine V_aload_n (pc := 0) dX12_finding_0 rfl ?_
  refine V_iload_n (pc := 1) dX12_finding_1 rfl ?_
  refine V_putI (pc := 2) fX12_112 p12_1 sM0 rfl dX12_finding_2 ?_
  refine V_ldc (pc := 5) dX12_finding_5 nX12_115 ?_
  refine V_iload_n (pc := 7) dX12_finding_7 rfl ?_
  refine V_isub (pc := 8) dX12_finding_8 ?_
  exact V_iret dX12_finding_9 rfl h
theorem wp_X12_gathered {G : GV} {k : Nat} {M : Mem} {q : Int32 → Mem → Prop} {v1 : Int32} (h : vp_in v1 12 ∧ vp_in (M.1 8 (ix v1)) 10 ∧ vp_in v1 12 ∧ vp_in (M.1 8 (ix v1)) 10 ∧ q ((M.1 4 (ix (M.1 8 (ix v1)))) - (M.1 5 (ix (M.1 8 (ix v1))))) M) : Ci shM G mX12_gathered k [.ref (G.2.1 0), .int v1] M q := by
  unfold Ci
  show V _ _ _ _ _ [(0, .ref (G.2.1 0)), (1, .int v1)] _ _ _
  refine V_aload_n (pc := 0) dX12_gathered_0 rfl ?_
  refine V_getR (pc := 1) fX12_19 sM0 rfl dX12_gathered_1 ?_
  refine V_aload_n (pc := 4) dX12_gathered_4 rfl ?_
  refine V_getR (pc := 5) fX12_32 sM0 rfl dX12_gathered_5 ?_
  refine V_iload_n (pc := 8) dX12_gathered_8 rfl ?_
  refine V_iald (pc := 9) sM8 dX12_gathered_9 h.1 ?_
  have h := h.2
  refine V_iald (pc := 10) sM4 dX12_gathered_10 h.1 ?_
  have h := h.2
  refine V_aload_n (pc := 11) dX12_gathered_11 rfl ?_
  refine V_getR (pc := 12) fX12_22 sM0 rfl dX12_gathered_12 ?_
  refine V_aload_n (pc := 15) dX12_gathered_15 rfl ?_
  refine V_getR (pc := 16) fX12_32 sM0 rfl dX12_gathered_16 ?_
  refine V_iload_n (pc := 19) dX12_gathered_19 rfl ?_
  refine V_iald (pc := 20) sM8 dX12_gathered_20 h.1 ?_
  have h := h.2
  refine V_iald (pc := 21) sM5 dX12_gathered_21 h.1 ?_
  have h := h.2
  refine V_isub (pc := 22) dX12_gathered_22 ?_
  exact V_iret dX12_gathered_23 rfl h
theorem wp_X12_in {G : GV} {k : Nat} {M : Mem} {q : Int32 → Mem → Prop} {v0 : Int64} {v2 : Int64} {v4 : Int64} (h : ((v0 < v2 → q 0 M) ∧ (¬ v0 < v2 → ((v4 < v0 → q 0 M) ∧ (¬ v4 < v0 → q 1 M))))) : Ci shM G mX12_in k [.long v0, .long v2, .long v4] M q := by
  unfold Ci
  show V _ _ _ _ _ [(0, .long v0), (2, .long v2), (4, .long v4)] _ _ _
  refine V_lload_n (pc := 0) dX12_in_0 rfl ?_
  refine V_lload_n (pc := 1) dX12_in_1 rfl ?_
  refine V_lif_lt (tgt := 17) (pc := 2) dX12_in_2 dX12_in_3 rfl (fun c => ?_) (fun c => ?_)
  · have h := h.1 c
    refine V_iconst (v := 0) (pc := 17) dX12_in_17 rfl ?_
    exact V_zret dX12_in_18 rfl (Or.inl rfl) h
  · have h := h.2 c
    refine V_lload_n (pc := 6) dX12_in_6 rfl ?_
    refine V_lload (pc := 7) dX12_in_7 rfl ?_
    refine V_lif_gt (tgt := 17) (pc := 9) dX12_in_9 dX12_in_10 rfl (fun c => ?_) (fun c => ?_)
    · have h := h.1 c
      refine V_iconst (v := 0) (pc := 17) dX12_in_17 rfl ?_
      exact V_zret dX12_in_18 rfl (Or.inl rfl) h
    · have h := h.2 c
      refine V_iconst (v := 1) (pc := 13) dX12_in_13 rfl ?_
      refine V_goto (tgt := 18) (pc := 14) dX12_in_14 rfl ?_
      exact V_zret dX12_in_18 rfl (Or.inr rfl) h
theorem wp_X12_isFigure {G : GV} {k : Nat} {M : Mem} {q : Int32 → Mem → Prop} {v0 : Int32} (h : ((v0 < 48 → q 0 M) ∧ (¬ v0 < 48 → ((57 < v0 → q 0 M) ∧ (¬ 57 < v0 → q 1 M))))) : Ci shM G mX12_isFigure k [.int v0] M q := by
  unfold Ci
  show V _ _ _ _ _ [(0, .int v0)] _ _ _
  refine V_iload_n (pc := 0) dX12_isFigure_0 rfl ?_
  refine V_bipush (v := 48) (pc := 1) dX12_isFigure_1 rfl ?_
  refine V_icmp_lt (tgt := 16) (pc := 3) dX12_isFigure_3 rfl (fun c => ?_) (fun c => ?_)
  · have h := h.1 c
    refine V_iconst (v := 0) (pc := 16) dX12_isFigure_16 rfl ?_
    exact V_zret dX12_isFigure_17 rfl (Or.inl rfl) h
  · have h := h.2 c
    refine V_iload_n (pc := 6) dX12_isFigure_6 rfl ?_
    refine V_bipush (v := 57) (pc := 7) dX12_isFigure_7 rfl ?_
    refine V_icmp_gt (tgt := 16) (pc := 9) dX12_isFigure_9 rfl (fun c => ?_) (fun c => ?_)
    · have h := h.1 c
      refine V_iconst (v := 0) (pc := 16) dX12_isFigure_16 rfl ?_
      exact V_zret dX12_isFigure_17 rfl (Or.inl rfl) h
    · have h := h.2 c
      refine V_iconst (v := 1) (pc := 12) dX12_isFigure_12 rfl ?_
      refine V_goto (tgt := 17) (pc := 13) dX12_isFigure_13 rfl ?_
      exact V_zret dX12_isFigure_17 rfl (Or.inr rfl) h
theorem wp_X12_isHome {G : GV} {k : Nat} {M : Mem} {q : Int32 → Mem → Prop} {v1 : Int32} (h : vp_in v1 12 ∧ ((3 ≤ (M.1 9 (ix v1)) → q 0 M) ∧ (¬ 3 ≤ (M.1 9 (ix v1)) → q 1 M))) : Ci shM G mX12_isHome k [.ref (G.2.1 0), .int v1] M q := by
  unfold Ci
  show V _ _ _ _ _ [(0, .ref (G.2.1 0)), (1, .int v1)] _ _ _
  refine V_aload_n (pc := 0) dX12_isHome_0 rfl ?_
  refine V_getR (pc := 1) fX12_35 sM0 rfl dX12_isHome_1 ?_
  refine V_iload_n (pc := 4) dX12_isHome_4 rfl ?_
  refine V_iald (pc := 5) sM9 dX12_isHome_5 h.1 ?_
  have h := h.2
  refine V_iconst (v := 3) (pc := 6) dX12_isHome_6 rfl ?_
  refine V_icmp_ge (tgt := 14) (pc := 7) dX12_isHome_7 rfl (fun c => ?_) (fun c => ?_)
  · have h := h.1 c
    refine V_iconst (v := 0) (pc := 14) dX12_isHome_14 rfl ?_
    exact V_zret dX12_isHome_15 rfl (Or.inl rfl) h
  · have h := h.2 c
    refine V_iconst (v := 1) (pc := 10) dX12_isHome_10 rfl ?_
    refine V_goto (tgt := 15) (pc := 11) dX12_isHome_11 rfl ?_
    exact V_zret dX12_isHome_15 rfl (Or.inr rfl) h
theorem wp_X12_isLetter {G : GV} {k : Nat} {M : Mem} {q : Int32 → Mem → Prop} {v0 : Int32} (h : ((v0 < 97 → q 0 M) ∧ (¬ v0 < 97 → ((122 < v0 → q 0 M) ∧ (¬ 122 < v0 → q 1 M))))) : Ci shM G mX12_isLetter k [.int v0] M q := by
  unfold Ci
  show V _ _ _ _ _ [(0, .int v0)] _ _ _
  refine V_iload_n (pc := 0) dX12_isLetter_0 rfl ?_
  refine V_bipush (v := 97) (pc := 1) dX12_isLetter_1 rfl ?_
  refine V_icmp_lt (tgt := 16) (pc := 3) dX12_isLetter_3 rfl (fun c => ?_) (fun c => ?_)
  · have h := h.1 c
    refine V_iconst (v := 0) (pc := 16) dX12_isLetter_16 rfl ?_
    exact V_zret dX12_isLetter_17 rfl (Or.inl rfl) h
  · have h := h.2 c
    refine V_iload_n (pc := 6) dX12_isLetter_6 rfl ?_
    refine V_bipush (v := 122) (pc := 7) dX12_isLetter_7 rfl ?_
    refine V_icmp_gt (tgt := 16) (pc := 9) dX12_isLetter_9 rfl (fun c => ?_) (fun c => ?_)
    · have h := h.1 c
      refine V_iconst (v := 0) (pc := 16) dX12_isLetter_16 rfl ?_
      exact V_zret dX12_isLetter_17 rfl (Or.inl rfl) h
    · have h := h.2 c
      refine V_iconst (v := 1) (pc := 12) dX12_isLetter_12 rfl ?_
      refine V_goto (tgt := 17) (pc := 13) dX12_isLetter_13 rfl ?_
      exact V_zret dX12_isLetter_17 rfl (Or.inr rfl) h
theorem wp_X12_isOf {G : GV} {k : Nat} {M : Mem} {q : Int32 → Mem → Prop} {v0 : Int32} {v1 : Int32} (h : ((v1 = 0 → q 1 M) ∧ (¬ v1 = 0 → ((v0 = v1 → q 1 M) ∧ (¬ v0 = v1 → ((v1 ≠ 1 → q 0 M) ∧ (v1 = 1 → ((v0 = 2 → q 1 M) ∧ (¬ v0 = 2 → ((v0 ≠ 3 → q 0 M) ∧ (v0 = 3 → q 1 M))))))))))) : Ci shM G mX12_isOf k [.int v0, .int v1] M q := by
  unfold Ci
  show V _ _ _ _ _ [(0, .int v0), (1, .int v1)] _ _ _
  refine V_iload_n (pc := 0) dX12_isOf_0 rfl ?_
  refine V_if_eq (tgt := 24) (pc := 1) dX12_isOf_1 rfl (fun c => ?_) (fun c => ?_)
  · have h := h.1 c
    refine V_iconst (v := 1) (pc := 24) dX12_isOf_24 rfl ?_
    refine V_goto (tgt := 29) (pc := 25) dX12_isOf_25 rfl ?_
    exact V_zret dX12_isOf_29 rfl (Or.inr rfl) h
  · have h := h.2 c
    refine V_iload_n (pc := 4) dX12_isOf_4 rfl ?_
    refine V_iload_n (pc := 5) dX12_isOf_5 rfl ?_
    refine V_icmp_eq (tgt := 24) (pc := 6) dX12_isOf_6 rfl (fun c => ?_) (fun c => ?_)
    · have h := h.1 c
      refine V_iconst (v := 1) (pc := 24) dX12_isOf_24 rfl ?_
      refine V_goto (tgt := 29) (pc := 25) dX12_isOf_25 rfl ?_
      exact V_zret dX12_isOf_29 rfl (Or.inr rfl) h
    · have h := h.2 c
      refine V_iload_n (pc := 9) dX12_isOf_9 rfl ?_
      refine V_iconst (v := 1) (pc := 10) dX12_isOf_10 rfl ?_
      refine V_icmp_ne (tgt := 28) (pc := 11) dX12_isOf_11 rfl (fun c => ?_) (fun c => ?_)
      · have h := h.1 c
        refine V_iconst (v := 0) (pc := 28) dX12_isOf_28 rfl ?_
        exact V_zret dX12_isOf_29 rfl (Or.inl rfl) h
      · have h := h.2 c
        refine V_iload_n (pc := 14) dX12_isOf_14 rfl ?_
        refine V_iconst (v := 2) (pc := 15) dX12_isOf_15 rfl ?_
        refine V_icmp_eq (tgt := 24) (pc := 16) dX12_isOf_16 rfl (fun c => ?_) (fun c => ?_)
        · have h := h.1 c
          refine V_iconst (v := 1) (pc := 24) dX12_isOf_24 rfl ?_
          refine V_goto (tgt := 29) (pc := 25) dX12_isOf_25 rfl ?_
          exact V_zret dX12_isOf_29 rfl (Or.inr rfl) h
        · have h := h.2 c
          refine V_iload_n (pc := 19) dX12_isOf_19 rfl ?_
          refine V_iconst (v := 3) (pc := 20) dX12_isOf_20 rfl ?_
          refine V_icmp_ne (tgt := 28) (pc := 21) dX12_isOf_21 rfl (fun c => ?_) (fun c => ?_)
          · have h := h.1 c
            refine V_iconst (v := 0) (pc := 28) dX12_isOf_28 rfl ?_
            exact V_zret dX12_isOf_29 rfl (Or.inl rfl) h
          · have h := h.2 c
            refine V_iconst (v := 1) (pc := 24) dX12_isOf_24 rfl ?_
            refine V_goto (tgt := 29) (pc := 25) dX12_isOf_25 rfl ?_
            exact V_zret dX12_isOf_29 rfl (Or.inr rfl) h
theorem wp_X12_least {G : GV} {k : Nat} {M : Mem} {q : Int32 → Mem → Prop} {v0 : Int32} {v1 : Int32} (h : ((v1 ≤ v0 → q v1 M) ∧ (¬ v1 ≤ v0 → q v0 M))) : Ci shM G mX12_least k [.int v0, .int v1] M q := by
  unfold Ci
  show V _ _ _ _ _ [(0, .int v0), (1, .int v1)] _ _ _
  refine V_iload_n (pc := 0) dX12_least_0 rfl ?_
  refine V_iload_n (pc := 1) dX12_least_1 rfl ?_
  refine V_icmp_ge (tgt := 9) (pc := 2) dX12_least_2 rfl (fun c => ?_) (fun c => ?_)
  · have h := h.1 c
    refine V_iload_n (pc := 9) dX12_least_9 rfl ?_
    exact V_iret dX12_least_10 rfl h
  · have h := h.2 c
    refine V_iload_n (pc := 5) dX12_least_5 rfl ?_
    refine V_goto (tgt := 10) (pc := 6) dX12_least_6 rfl ?_
    exact V_iret dX12_least_10 rfl h
theorem wp_X12_lowest {G : GV} {k : Nat} {M : Mem} {q : Int32 → Mem → Prop} {v0 : Int32} (h : V shM G mX12_lowest k 2 [(0, .int v0), (1, .int 0)] [] M (Qi q)) : Ci shM G mX12_lowest k [.int v0] M q := by
  unfold Ci
  show V _ _ _ _ _ [(0, .int v0)] _ _ _
  refine V_iconst (v := 0) (pc := 0) dX12_lowest_0 rfl ?_
  refine V_istore_n (pc := 1) dX12_lowest_1 (by decide) ?_
  refine V_lv (lv2 := [(0, .int v0), (1, .int 0)]) rfl ?_
  exact V_sub h ⟨rfl, rfl, trivial⟩
theorem wp_X12_lowest_2 {G : GV} {k : Nat} {M : Mem} {q : Int32 → Mem → Prop} {v0 : Int32} {v1 : Int32} (h : ((((v0 >>> (v1 &&& 31)) &&& 1) ≠ 0 → q v1 M) ∧ (((v0 >>> (v1 &&& 31)) &&& 1) = 0 → V shM G mX12_lowest k 2 [(0, .int v0), (1, .int (v1 + 1))] [] M (Qi q)))) : V shM G mX12_lowest k 2 [(0, .int v0), (1, .int v1)] [] M (Qi q) := by
  refine V_iload_n (pc := 2) dX12_lowest_2 rfl ?_
  refine V_iload_n (pc := 3) dX12_lowest_3 rfl ?_
  refine V_ishr (pc := 4) dX12_lowest_4 ?_
  refine V_iconst (v := 1) (pc := 5) dX12_lowest_5 rfl ?_
  refine V_iand (pc := 6) dX12_lowest_6 ?_
  refine V_if_ne (tgt := 16) (pc := 7) dX12_lowest_7 rfl (fun c => ?_) (fun c => ?_)
  · have h := h.1 c
    refine V_iload_n (pc := 16) dX12_lowest_16 rfl ?_
    exact V_iret dX12_lowest_17 rfl h
  · have h := h.2 c
    refine V_iinc (pc := 10) dX12_lowest_10 rfl (by decide) ?_
    refine V_lv (lv2 := [(0, .int v0), (1, .int (v1 + 1))]) rfl ?_
    refine V_goto (tgt := 2) (pc := 13) dX12_lowest_13 rfl ?_
    exact V_sub h ⟨rfl, rfl, trivial⟩
theorem wp_X12_quarrels {G : GV} {k : Nat} {M : Mem} {q : Int32 → Mem → Prop}  (h : V shM G mX12_quarrels k 9 [(0, .ref (G.2.1 0)), (1, .int 0), (2, .int 0)] [] (mset M 0 0 0) (Qi q)) : Ci shM G mX12_quarrels k [.ref (G.2.1 0)] M q := by
  unfold Ci
  show V _ _ _ _ _ [(0, .ref (G.2.1 0))] _ _ _
  refine V_aload_n (pc := 0) dX12_quarrels_0 rfl ?_
  refine V_iconst (v := 0) (pc := 1) dX12_quarrels_1 rfl ?_
  refine V_putI (pc := 2) fX12_108 p12_0 sM0 rfl dX12_quarrels_2 ?_
  refine V_iconst (v := 0) (pc := 5) dX12_quarrels_5 rfl ?_
  refine V_istore_n (pc := 6) dX12_quarrels_6 (by decide) ?_
  refine V_lv (lv2 := [(0, .ref (G.2.1 0)), (1, .int 0)]) rfl ?_
  refine V_iconst (v := 0) (pc := 7) dX12_quarrels_7 rfl ?_
  refine V_istore_n (pc := 8) dX12_quarrels_8 (by decide) ?_
  refine V_lv (lv2 := [(0, .ref (G.2.1 0)), (1, .int 0), (2, .int 0)]) rfl ?_
  exact V_sub h ⟨rfl, rfl, rfl, trivial⟩
theorem wp_X12_quarrels_9 {G : GV} {k : Nat} {M : Mem} {q : Int32 → Mem → Prop} {v1 : Int32} {v2 : Int32} (h : (((M.1 0 18) ≤ v2 → q v1 M) ∧ (¬ (M.1 0 18) ≤ v2 → V shM G mX12_quarrels k 22 [(0, .ref (G.2.1 0)), (1, .int v1), (2, .int v2), (3, .int 0), (4, .int 0)] [] M (Qi q)))) : V shM G mX12_quarrels k 9 [(0, .ref (G.2.1 0)), (1, .int v1), (2, .int v2)] [] M (Qi q) := by
  refine V_iload_n (pc := 9) dX12_quarrels_9 rfl ?_
  refine V_aload_n (pc := 10) dX12_quarrels_10 rfl ?_
  refine V_getI (pc := 11) fX12_230 sM0 rfl dX12_quarrels_11 ?_
  refine V_icmp_ge (tgt := 110) (pc := 14) dX12_quarrels_14 rfl (fun c => ?_) (fun c => ?_)
  · have h := h.1 c
    refine V_iload_n (pc := 110) dX12_quarrels_110 rfl ?_
    exact V_iret dX12_quarrels_111 rfl h
  · have h := h.2 c
    refine V_iconst (v := 0) (pc := 17) dX12_quarrels_17 rfl ?_
    refine V_istore_n (pc := 18) dX12_quarrels_18 (by decide) ?_
    refine V_lv (lv2 := [(0, .ref (G.2.1 0)), (1, .int v1), (2, .int v2), (3, .int 0)]) rfl ?_
    refine V_iconst (v := 0) (pc := 19) dX12_quarrels_19 rfl ?_
    refine V_istore (pc := 20) dX12_quarrels_20 (by decide) ?_
    refine V_lv (lv2 := [(0, .ref (G.2.1 0)), (1, .int v1), (2, .int v2), (3, .int 0), (4, .int 0)]) rfl ?_
    exact V_sub h ⟨rfl, rfl, rfl, rfl, rfl, trivial⟩
theorem wp_X12_quarrels_22 {G : GV} {k : Nat} {M : Mem} {q : Int32 → Mem → Prop} {v1 : Int32} {v2 : Int32} {v3 : Int32} {v4 : Int32} (h : ((v2 ≤ v4 → ((v3 = 0 → V shM G mX12_quarrels k 9 [(0, .ref (G.2.1 0)), (1, .int (v1 + 0)), (2, .int (v2 + 1))] [] M (Qi q)) ∧ (¬ v3 = 0 → V shM G mX12_quarrels k 9 [(0, .ref (G.2.1 0)), (1, .int (v1 + 1)), (2, .int (v2 + 1))] [] M (Qi q)))) ∧ (¬ v2 ≤ v4 → ((v3 ≠ 0 → V shM G mX12_quarrels k 22 [(0, .ref (G.2.1 0)), (1, .int v1), (2, .int v2), (3, .int 1), (4, .int (v4 + 1))] [] M (Qi q)) ∧ (v3 = 0 → vp_in v2 20 ∧ vp_in v4 20 ∧ (((M.1 15 (ix v2)) ≠ (M.1 15 (ix v4)) → V shM G mX12_quarrels k 22 [(0, .ref (G.2.1 0)), (1, .int v1), (2, .int v2), (3, .int 0), (4, .int (v4 + 1))] [] M (Qi q)) ∧ ((M.1 15 (ix v2)) = (M.1 15 (ix v4)) → vp_in v2 20 ∧ vp_in v4 20 ∧ (((M.1 16 (ix v2)) ≠ (M.1 16 (ix v4)) → V shM G mX12_quarrels k 22 [(0, .ref (G.2.1 0)), (1, .int v1), (2, .int v2), (3, .int 0), (4, .int (v4 + 1))] [] M (Qi q)) ∧ ((M.1 16 (ix v2)) = (M.1 16 (ix v4)) → vp_in v2 20 ∧ vp_in v4 20 ∧ (((M.1 17 (ix v2)) ≠ (M.1 17 (ix v4)) → V shM G mX12_quarrels k 22 [(0, .ref (G.2.1 0)), (1, .int v1), (2, .int v2), (3, .int 0), (4, .int (v4 + 1))] [] M (Qi q)) ∧ ((M.1 17 (ix v2)) = (M.1 17 (ix v4)) → V shM G mX12_quarrels k 22 [(0, .ref (G.2.1 0)), (1, .int v1), (2, .int v2), (3, .int 1), (4, .int (v4 + 1))] [] M (Qi q)))))))))))) : V shM G mX12_quarrels k 22 [(0, .ref (G.2.1 0)), (1, .int v1), (2, .int v2), (3, .int v3), (4, .int v4)] [] M (Qi q) := by
  refine V_iload (pc := 22) dX12_quarrels_22 rfl ?_
  refine V_iload_n (pc := 24) dX12_quarrels_24 rfl ?_
  refine V_icmp_ge (tgt := 92) (pc := 25) dX12_quarrels_25 rfl (fun c => ?_) (fun c => ?_)
  · have h := h.1 c
    refine V_iload_n (pc := 92) dX12_quarrels_92 rfl ?_
    refine V_iload_n (pc := 93) dX12_quarrels_93 rfl ?_
    refine V_if_eq (tgt := 101) (pc := 94) dX12_quarrels_94 rfl (fun c => ?_) (fun c => ?_)
    · have h := h.1 c
      refine V_iconst (v := 0) (pc := 101) dX12_quarrels_101 rfl ?_
      refine V_iadd (pc := 102) dX12_quarrels_102 ?_
      refine V_istore_n (pc := 103) dX12_quarrels_103 (by decide) ?_
      refine V_lv (lv2 := [(0, .ref (G.2.1 0)), (1, .int (v1 + 0)), (2, .int v2), (3, .int v3), (4, .int v4)]) rfl ?_
      refine V_iinc (pc := 104) dX12_quarrels_104 rfl (by decide) ?_
      refine V_lv (lv2 := [(0, .ref (G.2.1 0)), (1, .int (v1 + 0)), (2, .int (v2 + 1)), (3, .int v3), (4, .int v4)]) rfl ?_
      refine V_goto (tgt := 9) (pc := 107) dX12_quarrels_107 rfl ?_
      exact V_sub h ⟨rfl, rfl, rfl, trivial⟩
    · have h := h.2 c
      refine V_iconst (v := 1) (pc := 97) dX12_quarrels_97 rfl ?_
      refine V_goto (tgt := 102) (pc := 98) dX12_quarrels_98 rfl ?_
      refine V_iadd (pc := 102) dX12_quarrels_102 ?_
      refine V_istore_n (pc := 103) dX12_quarrels_103 (by decide) ?_
      refine V_lv (lv2 := [(0, .ref (G.2.1 0)), (1, .int (v1 + 1)), (2, .int v2), (3, .int v3), (4, .int v4)]) rfl ?_
      refine V_iinc (pc := 104) dX12_quarrels_104 rfl (by decide) ?_
      refine V_lv (lv2 := [(0, .ref (G.2.1 0)), (1, .int (v1 + 1)), (2, .int (v2 + 1)), (3, .int v3), (4, .int v4)]) rfl ?_
      refine V_goto (tgt := 9) (pc := 107) dX12_quarrels_107 rfl ?_
      exact V_sub h ⟨rfl, rfl, rfl, trivial⟩
  · have h := h.2 c
    refine V_iload_n (pc := 28) dX12_quarrels_28 rfl ?_
    refine V_if_ne (tgt := 80) (pc := 29) dX12_quarrels_29 rfl (fun c => ?_) (fun c => ?_)
    · have h := h.1 c
      refine V_iconst (v := 1) (pc := 80) dX12_quarrels_80 rfl ?_
      refine V_goto (tgt := 85) (pc := 81) dX12_quarrels_81 rfl ?_
      refine V_istore_n (pc := 85) dX12_quarrels_85 (by decide) ?_
      refine V_lv (lv2 := [(0, .ref (G.2.1 0)), (1, .int v1), (2, .int v2), (3, .int 1), (4, .int v4)]) rfl ?_
      refine V_iinc (pc := 86) dX12_quarrels_86 rfl (by decide) ?_
      refine V_lv (lv2 := [(0, .ref (G.2.1 0)), (1, .int v1), (2, .int v2), (3, .int 1), (4, .int (v4 + 1))]) rfl ?_
      refine V_goto (tgt := 22) (pc := 89) dX12_quarrels_89 rfl ?_
      exact V_sub h ⟨rfl, rfl, rfl, rfl, rfl, trivial⟩
    · have h := h.2 c
      refine V_aload_n (pc := 32) dX12_quarrels_32 rfl ?_
      refine V_getR (pc := 33) fX12_53 sM0 rfl dX12_quarrels_33 ?_
      refine V_iload_n (pc := 36) dX12_quarrels_36 rfl ?_
      refine V_iald (pc := 37) sM15 dX12_quarrels_37 h.1 ?_
      have h := h.2
      refine V_aload_n (pc := 38) dX12_quarrels_38 rfl ?_
      refine V_getR (pc := 39) fX12_53 sM0 rfl dX12_quarrels_39 ?_
      refine V_iload (pc := 42) dX12_quarrels_42 rfl ?_
      refine V_iald (pc := 44) sM15 dX12_quarrels_44 h.1 ?_
      have h := h.2
      refine V_icmp_ne (tgt := 84) (pc := 45) dX12_quarrels_45 rfl (fun c => ?_) (fun c => ?_)
      · have h := h.1 c
        refine V_iconst (v := 0) (pc := 84) dX12_quarrels_84 rfl ?_
        refine V_istore_n (pc := 85) dX12_quarrels_85 (by decide) ?_
        refine V_lv (lv2 := [(0, .ref (G.2.1 0)), (1, .int v1), (2, .int v2), (3, .int 0), (4, .int v4)]) rfl ?_
        refine V_iinc (pc := 86) dX12_quarrels_86 rfl (by decide) ?_
        refine V_lv (lv2 := [(0, .ref (G.2.1 0)), (1, .int v1), (2, .int v2), (3, .int 0), (4, .int (v4 + 1))]) rfl ?_
        refine V_goto (tgt := 22) (pc := 89) dX12_quarrels_89 rfl ?_
        exact V_sub h ⟨rfl, rfl, rfl, rfl, rfl, trivial⟩
      · have h := h.2 c
        refine V_aload_n (pc := 48) dX12_quarrels_48 rfl ?_
        refine V_getR (pc := 49) fX12_56 sM0 rfl dX12_quarrels_49 ?_
        refine V_iload_n (pc := 52) dX12_quarrels_52 rfl ?_
        refine V_iald (pc := 53) sM16 dX12_quarrels_53 h.1 ?_
        have h := h.2
        refine V_aload_n (pc := 54) dX12_quarrels_54 rfl ?_
        refine V_getR (pc := 55) fX12_56 sM0 rfl dX12_quarrels_55 ?_
        refine V_iload (pc := 58) dX12_quarrels_58 rfl ?_
        refine V_iald (pc := 60) sM16 dX12_quarrels_60 h.1 ?_
        have h := h.2
        refine V_icmp_ne (tgt := 84) (pc := 61) dX12_quarrels_61 rfl (fun c => ?_) (fun c => ?_)
        · have h := h.1 c
          refine V_iconst (v := 0) (pc := 84) dX12_quarrels_84 rfl ?_
          refine V_istore_n (pc := 85) dX12_quarrels_85 (by decide) ?_
          refine V_lv (lv2 := [(0, .ref (G.2.1 0)), (1, .int v1), (2, .int v2), (3, .int 0), (4, .int v4)]) rfl ?_
          refine V_iinc (pc := 86) dX12_quarrels_86 rfl (by decide) ?_
          refine V_lv (lv2 := [(0, .ref (G.2.1 0)), (1, .int v1), (2, .int v2), (3, .int 0), (4, .int (v4 + 1))]) rfl ?_
          refine V_goto (tgt := 22) (pc := 89) dX12_quarrels_89 rfl ?_
          exact V_sub h ⟨rfl, rfl, rfl, rfl, rfl, trivial⟩
        · have h := h.2 c
          refine V_aload_n (pc := 64) dX12_quarrels_64 rfl ?_
          refine V_getR (pc := 65) fX12_59 sM0 rfl dX12_quarrels_65 ?_
          refine V_iload_n (pc := 68) dX12_quarrels_68 rfl ?_
          refine V_iald (pc := 69) sM17 dX12_quarrels_69 h.1 ?_
          have h := h.2
          refine V_aload_n (pc := 70) dX12_quarrels_70 rfl ?_
          refine V_getR (pc := 71) fX12_59 sM0 rfl dX12_quarrels_71 ?_
          refine V_iload (pc := 74) dX12_quarrels_74 rfl ?_
          refine V_iald (pc := 76) sM17 dX12_quarrels_76 h.1 ?_
          have h := h.2
          refine V_icmp_ne (tgt := 84) (pc := 77) dX12_quarrels_77 rfl (fun c => ?_) (fun c => ?_)
          · have h := h.1 c
            refine V_iconst (v := 0) (pc := 84) dX12_quarrels_84 rfl ?_
            refine V_istore_n (pc := 85) dX12_quarrels_85 (by decide) ?_
            refine V_lv (lv2 := [(0, .ref (G.2.1 0)), (1, .int v1), (2, .int v2), (3, .int 0), (4, .int v4)]) rfl ?_
            refine V_iinc (pc := 86) dX12_quarrels_86 rfl (by decide) ?_
            refine V_lv (lv2 := [(0, .ref (G.2.1 0)), (1, .int v1), (2, .int v2), (3, .int 0), (4, .int (v4 + 1))]) rfl ?_
            refine V_goto (tgt := 22) (pc := 89) dX12_quarrels_89 rfl ?_
            exact V_sub h ⟨rfl, rfl, rfl, rfl, rfl, trivial⟩
          · have h := h.2 c
            refine V_iconst (v := 1) (pc := 80) dX12_quarrels_80 rfl ?_
            refine V_goto (tgt := 85) (pc := 81) dX12_quarrels_81 rfl ?_
            refine V_istore_n (pc := 85) dX12_quarrels_85 (by decide) ?_
            refine V_lv (lv2 := [(0, .ref (G.2.1 0)), (1, .int v1), (2, .int v2), (3, .int 1), (4, .int v4)]) rfl ?_
            refine V_iinc (pc := 86) dX12_quarrels_86 rfl (by decide) ?_
            refine V_lv (lv2 := [(0, .ref (G.2.1 0)), (1, .int v1), (2, .int v2), (3, .int 1), (4, .int (v4 + 1))]) rfl ?_
            refine V_goto (tgt := 22) (pc := 89) dX12_quarrels_89 rfl ?_
            exact V_sub h ⟨rfl, rfl, rfl, rfl, rfl, trivial⟩
theorem wp_X12_status {G : GV} {k : Nat} {M : Mem} {q : Int32 → Mem → Prop}  (h : q (M.1 0 1) (mset M 0 0 0)) : Ci shM G mX12_status k [.ref (G.2.1 0)] M q := by
  unfold Ci
  show V _ _ _ _ _ [(0, .ref (G.2.1 0))] _ _ _
  refine V_aload_n (pc := 0) dX12_status_0 rfl ?_
  refine V_iconst (v := 0) (pc := 1) dX12_status_1 rfl ?_
  refine V_putI (pc := 2) fX12_108 p12_0 sM0 rfl dX12_status_2 ?_
  refine V_aload_n (pc := 5) dX12_status_5 rfl ?_
  refine V_getI (pc := 6) fX12_112 sM0 rfl dX12_status_6 ?_
  refine V_top (v := (M.1 0 1)) (by simp [mset, lset, upd]) ?_
  exact V_iret dX12_status_9 rfl h
theorem wp_X12_todayOf {G : GV} {k : Nat} {M : Mem} {q : Int32 → Mem → Prop} {v1 : Int32} {v2 : Int32} {v3 : Int32} (h : V shM G mX12_todayOf k 9 [(0, .ref (G.2.1 0)), (1, .int v1), (2, .int v2), (3, .int v3), (4, .int v2), (5, .int 0), (6, .int 1)] [] M (Qi q)) : Ci shM G mX12_todayOf k [.ref (G.2.1 0), .int v1, .int v2, .int v3] M q := by
  unfold Ci
  show V _ _ _ _ _ [(0, .ref (G.2.1 0)), (1, .int v1), (2, .int v2), (3, .int v3)] _ _ _
  refine V_iload_n (pc := 0) dX12_todayOf_0 rfl ?_
  refine V_istore (pc := 1) dX12_todayOf_1 (by decide) ?_
  refine V_lv (lv2 := [(0, .ref (G.2.1 0)), (1, .int v1), (2, .int v2), (3, .int v3), (4, .int v2)]) rfl ?_
  refine V_iconst (v := 0) (pc := 3) dX12_todayOf_3 rfl ?_
  refine V_istore (pc := 4) dX12_todayOf_4 (by decide) ?_
  refine V_lv (lv2 := [(0, .ref (G.2.1 0)), (1, .int v1), (2, .int v2), (3, .int v3), (4, .int v2), (5, .int 0)]) rfl ?_
  refine V_iconst (v := 1) (pc := 6) dX12_todayOf_6 rfl ?_
  refine V_istore (pc := 7) dX12_todayOf_7 (by decide) ?_
  refine V_lv (lv2 := [(0, .ref (G.2.1 0)), (1, .int v1), (2, .int v2), (3, .int v3), (4, .int v2), (5, .int 0), (6, .int 1)]) rfl ?_
  exact V_sub h ⟨rfl, rfl, rfl, rfl, rfl, rfl, rfl, trivial⟩
theorem wp_X12_todayOf_9 {G : GV} {k : Nat} {M : Mem} {q : Int32 → Mem → Prop} {v1 : Int32} {v2 : Int32} {v3 : Int32} {v4 : Int32} {v5 : Int32} {v6 : Int32} (h : ((v6 = 0 → q v4 M) ∧ (¬ v6 = 0 → V shM G mX12_todayOf k 21 [(0, .ref (G.2.1 0)), (1, .int v1), (2, .int v2), (3, .int v3), (4, .int v4), (5, .int v5), (6, .int v6), (7, .int (-1000000)), (8, .int 0)] [] M (Qi q)))) : V shM G mX12_todayOf k 9 [(0, .ref (G.2.1 0)), (1, .int v1), (2, .int v2), (3, .int v3), (4, .int v4), (5, .int v5), (6, .int v6)] [] M (Qi q) := by
  refine V_iload (pc := 9) dX12_todayOf_9 rfl ?_
  refine V_if_eq (tgt := 158) (pc := 11) dX12_todayOf_11 rfl (fun c => ?_) (fun c => ?_)
  · have h := h.1 c
    refine V_iload (pc := 158) dX12_todayOf_158 rfl ?_
    exact V_iret dX12_todayOf_160 rfl h
  · have h := h.2 c
    refine V_ldc (pc := 14) dX12_todayOf_14 nX12_144 ?_
    refine V_istore (pc := 16) dX12_todayOf_16 (by decide) ?_
    refine V_lv (lv2 := [(0, .ref (G.2.1 0)), (1, .int v1), (2, .int v2), (3, .int v3), (4, .int v4), (5, .int v5), (6, .int v6), (7, .int (-1000000))]) rfl ?_
    refine V_iconst (v := 0) (pc := 18) dX12_todayOf_18 rfl ?_
    refine V_istore (pc := 19) dX12_todayOf_19 (by decide) ?_
    refine V_lv (lv2 := [(0, .ref (G.2.1 0)), (1, .int v1), (2, .int v2), (3, .int v3), (4, .int v4), (5, .int v5), (6, .int v6), (7, .int (-1000000)), (8, .int 0)]) rfl ?_
    exact V_sub h ⟨rfl, rfl, rfl, rfl, rfl, rfl, rfl, rfl, rfl, trivial⟩
theorem wp_X12_todayOf_21 {G : GV} {k : Nat} {M : Mem} {q : Int32 → Mem → Prop} {v1 : Int32} {v2 : Int32} {v3 : Int32} {v4 : Int32} {v5 : Int32} {v6 : Int32} {v7 : Int32} {v8 : Int32} (h : (((M.1 0 18) ≤ v8 → ((v7 = (-1000000) → V shM G mX12_todayOf k 9 [(0, .ref (G.2.1 0)), (1, .int v1), (2, .int v2), (3, .int v3), (4, .int v4), (5, .int v5), (6, .int 0)] [] M (Qi q)) ∧ (¬ v7 = (-1000000) → vp_in v7 20 ∧ (((M.1 16 (ix v7)) ≠ v1 → V shM G mX12_todayOf k 9 [(0, .ref (G.2.1 0)), (1, .int v1), (2, .int v2), (3, .int v3), (4, .int v4), (5, .int (v5 ||| (1 <<< (v7 &&& 31)))), (6, .int 1)] [] M (Qi q)) ∧ ((M.1 16 (ix v7)) = v1 → vp_in v7 20 ∧ (((M.1 17 (ix v7)) ≠ v4 → V shM G mX12_todayOf k 9 [(0, .ref (G.2.1 0)), (1, .int v1), (2, .int v2), (3, .int v3), (4, .int v4), (5, .int (v5 ||| (1 <<< (v7 &&& 31)))), (6, .int 1)] [] M (Qi q)) ∧ ((M.1 17 (ix v7)) = v4 → vp_in v7 20 ∧ V shM G mX12_todayOf k 9 [(0, .ref (G.2.1 0)), (1, .int v1), (2, .int v2), (3, .int v3), (4, .int (M.1 18 (ix v7))), (5, .int (v5 ||| (1 <<< (v7 &&& 31)))), (6, .int 1)] [] M (Qi q)))))))) ∧ (¬ (M.1 0 18) ≤ v8 → vp_in v8 20 ∧ (((M.1 15 (ix v8)) ≤ v3 → V shM G mX12_todayOf k 21 [(0, .ref (G.2.1 0)), (1, .int v1), (2, .int v2), (3, .int v3), (4, .int v4), (5, .int v5), (6, .int v6), (7, .int v7), (8, .int (v8 + 1))] [] M (Qi q)) ∧ (¬ (M.1 15 (ix v8)) ≤ v3 → ((((v5 >>> (v8 &&& 31)) &&& 1) ≠ 0 → V shM G mX12_todayOf k 21 [(0, .ref (G.2.1 0)), (1, .int v1), (2, .int v2), (3, .int v3), (4, .int v4), (5, .int v5), (6, .int v6), (7, .int v7), (8, .int (v8 + 1))] [] M (Qi q)) ∧ (((v5 >>> (v8 &&& 31)) &&& 1) = 0 → ((v7 = (-1000000) → V shM G mX12_todayOf k 21 [(0, .ref (G.2.1 0)), (1, .int v1), (2, .int v2), (3, .int v3), (4, .int v4), (5, .int v5), (6, .int v6), (7, .int v8), (8, .int (v8 + 1))] [] M (Qi q)) ∧ (¬ v7 = (-1000000) → vp_in v8 20 ∧ vp_in v7 20 ∧ (((M.1 15 (ix v7)) ≤ (M.1 15 (ix v8)) → V shM G mX12_todayOf k 21 [(0, .ref (G.2.1 0)), (1, .int v1), (2, .int v2), (3, .int v3), (4, .int v4), (5, .int v5), (6, .int v6), (7, .int v7), (8, .int (v8 + 1))] [] M (Qi q)) ∧ (¬ (M.1 15 (ix v7)) ≤ (M.1 15 (ix v8)) → V shM G mX12_todayOf k 21 [(0, .ref (G.2.1 0)), (1, .int v1), (2, .int v2), (3, .int v3), (4, .int v4), (5, .int v5), (6, .int v6), (7, .int v8), (8, .int (v8 + 1))] [] M (Qi q)))))))))))) : V shM G mX12_todayOf k 21 [(0, .ref (G.2.1 0)), (1, .int v1), (2, .int v2), (3, .int v3), (4, .int v4), (5, .int v5), (6, .int v6), (7, .int v7), (8, .int v8)] [] M (Qi q) := by
  refine V_iload (pc := 21) dX12_todayOf_21 rfl ?_
  refine V_aload_n (pc := 23) dX12_todayOf_23 rfl ?_
  refine V_getI (pc := 24) fX12_230 sM0 rfl dX12_todayOf_24 ?_
  refine V_icmp_ge (tgt := 90) (pc := 27) dX12_todayOf_27 rfl (fun c => ?_) (fun c => ?_)
  · have h := h.1 c
    refine V_iload (pc := 90) dX12_todayOf_90 rfl ?_
    refine V_ldc (pc := 92) dX12_todayOf_92 nX12_144 ?_
    refine V_icmp_eq (tgt := 101) (pc := 94) dX12_todayOf_94 rfl (fun c => ?_) (fun c => ?_)
    · have h := h.1 c
      refine V_iconst (v := 0) (pc := 101) dX12_todayOf_101 rfl ?_
      refine V_istore (pc := 102) dX12_todayOf_102 (by decide) ?_
      refine V_lv (lv2 := [(0, .ref (G.2.1 0)), (1, .int v1), (2, .int v2), (3, .int v3), (4, .int v4), (5, .int v5), (6, .int 0), (7, .int v7), (8, .int v8)]) rfl ?_
      refine V_iload (pc := 104) dX12_todayOf_104 rfl ?_
      refine V_if_eq (tgt := 155) (pc := 106) dX12_todayOf_106 rfl (fun c => ?_) (fun c => ?_)
      · skip
        refine V_goto (tgt := 9) (pc := 155) dX12_todayOf_155 rfl ?_
        exact V_sub h ⟨rfl, rfl, rfl, rfl, rfl, rfl, rfl, trivial⟩
      · exact absurd c (by decide)
    · have h := h.2 c
      refine V_iconst (v := 1) (pc := 97) dX12_todayOf_97 rfl ?_
      refine V_goto (tgt := 102) (pc := 98) dX12_todayOf_98 rfl ?_
      refine V_istore (pc := 102) dX12_todayOf_102 (by decide) ?_
      refine V_lv (lv2 := [(0, .ref (G.2.1 0)), (1, .int v1), (2, .int v2), (3, .int v3), (4, .int v4), (5, .int v5), (6, .int 1), (7, .int v7), (8, .int v8)]) rfl ?_
      refine V_iload (pc := 104) dX12_todayOf_104 rfl ?_
      refine V_if_eq (tgt := 155) (pc := 106) dX12_todayOf_106 rfl (fun c => ?_) (fun c => ?_)
      · exact absurd c (by decide)
      · skip
        refine V_iload (pc := 109) dX12_todayOf_109 rfl ?_
        refine V_iconst (v := 1) (pc := 111) dX12_todayOf_111 rfl ?_
        refine V_iload (pc := 112) dX12_todayOf_112 rfl ?_
        refine V_ishl (pc := 114) dX12_todayOf_114 ?_
        refine V_ior (pc := 115) dX12_todayOf_115 ?_
        refine V_istore (pc := 116) dX12_todayOf_116 (by decide) ?_
        refine V_lv (lv2 := [(0, .ref (G.2.1 0)), (1, .int v1), (2, .int v2), (3, .int v3), (4, .int v4), (5, .int (v5 ||| (1 <<< (v7 &&& 31)))), (6, .int 1), (7, .int v7), (8, .int v8)]) rfl ?_
        refine V_aload_n (pc := 118) dX12_todayOf_118 rfl ?_
        refine V_getR (pc := 119) fX12_56 sM0 rfl dX12_todayOf_119 ?_
        refine V_iload (pc := 122) dX12_todayOf_122 rfl ?_
        refine V_iald (pc := 124) sM16 dX12_todayOf_124 h.1 ?_
        have h := h.2
        refine V_iload_n (pc := 125) dX12_todayOf_125 rfl ?_
        refine V_icmp_ne (tgt := 151) (pc := 126) dX12_todayOf_126 rfl (fun c => ?_) (fun c => ?_)
        · have h := h.1 c
          refine V_iload (pc := 151) dX12_todayOf_151 rfl ?_
          refine V_istore (pc := 153) dX12_todayOf_153 (by decide) ?_
          refine V_lv (lv2 := [(0, .ref (G.2.1 0)), (1, .int v1), (2, .int v2), (3, .int v3), (4, .int v4), (5, .int (v5 ||| (1 <<< (v7 &&& 31)))), (6, .int 1), (7, .int v7), (8, .int v8)]) rfl ?_
          refine V_goto (tgt := 9) (pc := 155) dX12_todayOf_155 rfl ?_
          exact V_sub h ⟨rfl, rfl, rfl, rfl, rfl, rfl, rfl, trivial⟩
        · have h := h.2 c
          refine V_aload_n (pc := 129) dX12_todayOf_129 rfl ?_
          refine V_getR (pc := 130) fX12_59 sM0 rfl dX12_todayOf_130 ?_
          refine V_iload (pc := 133) dX12_todayOf_133 rfl ?_
          refine V_iald (pc := 135) sM17 dX12_todayOf_135 h.1 ?_
          have h := h.2
          refine V_iload (pc := 136) dX12_todayOf_136 rfl ?_
          refine V_icmp_ne (tgt := 151) (pc := 138) dX12_todayOf_138 rfl (fun c => ?_) (fun c => ?_)
          · have h := h.1 c
            refine V_iload (pc := 151) dX12_todayOf_151 rfl ?_
            refine V_istore (pc := 153) dX12_todayOf_153 (by decide) ?_
            refine V_lv (lv2 := [(0, .ref (G.2.1 0)), (1, .int v1), (2, .int v2), (3, .int v3), (4, .int v4), (5, .int (v5 ||| (1 <<< (v7 &&& 31)))), (6, .int 1), (7, .int v7), (8, .int v8)]) rfl ?_
            refine V_goto (tgt := 9) (pc := 155) dX12_todayOf_155 rfl ?_
            exact V_sub h ⟨rfl, rfl, rfl, rfl, rfl, rfl, rfl, trivial⟩
          · have h := h.2 c
            refine V_aload_n (pc := 141) dX12_todayOf_141 rfl ?_
            refine V_getR (pc := 142) fX12_62 sM0 rfl dX12_todayOf_142 ?_
            refine V_iload (pc := 145) dX12_todayOf_145 rfl ?_
            refine V_iald (pc := 147) sM18 dX12_todayOf_147 h.1 ?_
            have h := h.2
            refine V_goto (tgt := 153) (pc := 148) dX12_todayOf_148 rfl ?_
            refine V_istore (pc := 153) dX12_todayOf_153 (by decide) ?_
            refine V_lv (lv2 := [(0, .ref (G.2.1 0)), (1, .int v1), (2, .int v2), (3, .int v3), (4, .int (M.1 18 (ix v7))), (5, .int (v5 ||| (1 <<< (v7 &&& 31)))), (6, .int 1), (7, .int v7), (8, .int v8)]) rfl ?_
            refine V_goto (tgt := 9) (pc := 155) dX12_todayOf_155 rfl ?_
            exact V_sub h ⟨rfl, rfl, rfl, rfl, rfl, rfl, rfl, trivial⟩
  · have h := h.2 c
    refine V_aload_n (pc := 30) dX12_todayOf_30 rfl ?_
    refine V_getR (pc := 31) fX12_53 sM0 rfl dX12_todayOf_31 ?_
    refine V_iload (pc := 34) dX12_todayOf_34 rfl ?_
    refine V_iald (pc := 36) sM15 dX12_todayOf_36 h.1 ?_
    have h := h.2
    refine V_iload_n (pc := 37) dX12_todayOf_37 rfl ?_
    refine V_icmp_le (tgt := 84) (pc := 38) dX12_todayOf_38 rfl (fun c => ?_) (fun c => ?_)
    · have h := h.1 c
      refine V_iinc (pc := 84) dX12_todayOf_84 rfl (by decide) ?_
      refine V_lv (lv2 := [(0, .ref (G.2.1 0)), (1, .int v1), (2, .int v2), (3, .int v3), (4, .int v4), (5, .int v5), (6, .int v6), (7, .int v7), (8, .int (v8 + 1))]) rfl ?_
      refine V_goto (tgt := 21) (pc := 87) dX12_todayOf_87 rfl ?_
      exact V_sub h ⟨rfl, rfl, rfl, rfl, rfl, rfl, rfl, rfl, rfl, trivial⟩
    · have h := h.2 c
      refine V_iload (pc := 41) dX12_todayOf_41 rfl ?_
      refine V_iload (pc := 43) dX12_todayOf_43 rfl ?_
      refine V_ishr (pc := 45) dX12_todayOf_45 ?_
      refine V_iconst (v := 1) (pc := 46) dX12_todayOf_46 rfl ?_
      refine V_iand (pc := 47) dX12_todayOf_47 ?_
      refine V_if_ne (tgt := 84) (pc := 48) dX12_todayOf_48 rfl (fun c => ?_) (fun c => ?_)
      · have h := h.1 c
        refine V_iinc (pc := 84) dX12_todayOf_84 rfl (by decide) ?_
        refine V_lv (lv2 := [(0, .ref (G.2.1 0)), (1, .int v1), (2, .int v2), (3, .int v3), (4, .int v4), (5, .int v5), (6, .int v6), (7, .int v7), (8, .int (v8 + 1))]) rfl ?_
        refine V_goto (tgt := 21) (pc := 87) dX12_todayOf_87 rfl ?_
        exact V_sub h ⟨rfl, rfl, rfl, rfl, rfl, rfl, rfl, rfl, rfl, trivial⟩
      · have h := h.2 c
        refine V_iload (pc := 51) dX12_todayOf_51 rfl ?_
        refine V_ldc (pc := 53) dX12_todayOf_53 nX12_144 ?_
        refine V_icmp_eq (tgt := 75) (pc := 55) dX12_todayOf_55 rfl (fun c => ?_) (fun c => ?_)
        · have h := h.1 c
          refine V_iload (pc := 75) dX12_todayOf_75 rfl ?_
          refine V_goto (tgt := 82) (pc := 77) dX12_todayOf_77 rfl ?_
          refine V_istore (pc := 82) dX12_todayOf_82 (by decide) ?_
          refine V_lv (lv2 := [(0, .ref (G.2.1 0)), (1, .int v1), (2, .int v2), (3, .int v3), (4, .int v4), (5, .int v5), (6, .int v6), (7, .int v8), (8, .int v8)]) rfl ?_
          refine V_iinc (pc := 84) dX12_todayOf_84 rfl (by decide) ?_
          refine V_lv (lv2 := [(0, .ref (G.2.1 0)), (1, .int v1), (2, .int v2), (3, .int v3), (4, .int v4), (5, .int v5), (6, .int v6), (7, .int v8), (8, .int (v8 + 1))]) rfl ?_
          refine V_goto (tgt := 21) (pc := 87) dX12_todayOf_87 rfl ?_
          exact V_sub h ⟨rfl, rfl, rfl, rfl, rfl, rfl, rfl, rfl, rfl, trivial⟩
        · have h := h.2 c
          refine V_aload_n (pc := 58) dX12_todayOf_58 rfl ?_
          refine V_getR (pc := 59) fX12_53 sM0 rfl dX12_todayOf_59 ?_
          refine V_iload (pc := 62) dX12_todayOf_62 rfl ?_
          refine V_iald (pc := 64) sM15 dX12_todayOf_64 h.1 ?_
          have h := h.2
          refine V_aload_n (pc := 65) dX12_todayOf_65 rfl ?_
          refine V_getR (pc := 66) fX12_53 sM0 rfl dX12_todayOf_66 ?_
          refine V_iload (pc := 69) dX12_todayOf_69 rfl ?_
          refine V_iald (pc := 71) sM15 dX12_todayOf_71 h.1 ?_
          have h := h.2
          refine V_icmp_ge (tgt := 80) (pc := 72) dX12_todayOf_72 rfl (fun c => ?_) (fun c => ?_)
          · have h := h.1 c
            refine V_iload (pc := 80) dX12_todayOf_80 rfl ?_
            refine V_istore (pc := 82) dX12_todayOf_82 (by decide) ?_
            refine V_lv (lv2 := [(0, .ref (G.2.1 0)), (1, .int v1), (2, .int v2), (3, .int v3), (4, .int v4), (5, .int v5), (6, .int v6), (7, .int v7), (8, .int v8)]) rfl ?_
            refine V_iinc (pc := 84) dX12_todayOf_84 rfl (by decide) ?_
            refine V_lv (lv2 := [(0, .ref (G.2.1 0)), (1, .int v1), (2, .int v2), (3, .int v3), (4, .int v4), (5, .int v5), (6, .int v6), (7, .int v7), (8, .int (v8 + 1))]) rfl ?_
            refine V_goto (tgt := 21) (pc := 87) dX12_todayOf_87 rfl ?_
            exact V_sub h ⟨rfl, rfl, rfl, rfl, rfl, rfl, rfl, rfl, rfl, trivial⟩
          · have h := h.2 c
            refine V_iload (pc := 75) dX12_todayOf_75 rfl ?_
            refine V_goto (tgt := 82) (pc := 77) dX12_todayOf_77 rfl ?_
            refine V_istore (pc := 82) dX12_todayOf_82 (by decide) ?_
            refine V_lv (lv2 := [(0, .ref (G.2.1 0)), (1, .int v1), (2, .int v2), (3, .int v3), (4, .int v4), (5, .int v5), (6, .int v6), (7, .int v8), (8, .int v8)]) rfl ?_
            refine V_iinc (pc := 84) dX12_todayOf_84 rfl (by decide) ?_
            refine V_lv (lv2 := [(0, .ref (G.2.1 0)), (1, .int v1), (2, .int v2), (3, .int v3), (4, .int v4), (5, .int v5), (6, .int v6), (7, .int v8), (8, .int (v8 + 1))]) rfl ?_
            refine V_goto (tgt := 21) (pc := 87) dX12_todayOf_87 rfl ?_
            exact V_sub h ⟨rfl, rfl, rfl, rfl, rfl, rfl, rfl, rfl, rfl, trivial⟩
theorem wp_X12_word {G : GV} {k : Nat} {M : Mem} {q : Int64 → Mem → Prop}  (h : V shM G mX12_word k 7 [(0, .ref (G.2.1 0)), (1, .long 0), (3, .int (M.1 0 34))] [] M (Ql q)) : Cl shM G mX12_word k [.ref (G.2.1 0)] M q := by
  unfold Cl
  show V _ _ _ _ _ [(0, .ref (G.2.1 0))] _ _ _
  refine V_lconst (v := 0) (pc := 0) dX12_word_0 rfl ?_
  refine V_lstore_n (pc := 1) dX12_word_1 (by decide) ?_
  refine V_lv (lv2 := [(0, .ref (G.2.1 0)), (1, .long 0)]) rfl ?_
  refine V_aload_n (pc := 2) dX12_word_2 rfl ?_
  refine V_getI (pc := 3) fX12_151 sM0 rfl dX12_word_3 ?_
  refine V_istore_n (pc := 6) dX12_word_6 (by decide) ?_
  refine V_lv (lv2 := [(0, .ref (G.2.1 0)), (1, .long 0), (3, .int (M.1 0 34))]) rfl ?_
  exact V_sub h ⟨rfl, rfl, rfl, trivial⟩
theorem wp_X12_word_7 {G : GV} {k : Nat} {M : Mem} {q : Int64 → Mem → Prop} {v1 : Int64} {v3 : Int32} (h : (((M.1 0 35) ≤ v3 → q v1 M) ∧ (¬ (M.1 0 35) ≤ v3 → (((M.1 0 33) ≠ 2 → q v1 M) ∧ ((M.1 0 33) = 2 → ((8 ≤ ((M.1 0 35) - (M.1 0 34)) → q v1 M) ∧ (¬ 8 ≤ ((M.1 0 35) - (M.1 0 34)) → vp_in v3 600 ∧ V shM G mX12_word k 7 [(0, .ref (G.2.1 0)), (1, .long ((v1 <<< (Int32.toInt64 8 &&& 63)) ||| (Int32.toInt64 (M.1 23 (ix v3))))), (3, .int (v3 + 1))] [] M (Ql q)))))))) : V shM G mX12_word k 7 [(0, .ref (G.2.1 0)), (1, .long v1), (3, .int v3)] [] M (Ql q) := by
  refine V_iload_n (pc := 7) dX12_word_7 rfl ?_
  refine V_aload_n (pc := 8) dX12_word_8 rfl ?_
  refine V_getI (pc := 9) fX12_163 sM0 rfl dX12_word_9 ?_
  refine V_icmp_ge (tgt := 56) (pc := 12) dX12_word_12 rfl (fun c => ?_) (fun c => ?_)
  · have h := h.1 c
    refine V_lload_n (pc := 56) dX12_word_56 rfl ?_
    exact V_lret dX12_word_57 rfl h
  · have h := h.2 c
    refine V_aload_n (pc := 15) dX12_word_15 rfl ?_
    refine V_getI (pc := 16) fX12_154 sM0 rfl dX12_word_16 ?_
    refine V_iconst (v := 2) (pc := 19) dX12_word_19 rfl ?_
    refine V_icmp_ne (tgt := 56) (pc := 20) dX12_word_20 rfl (fun c => ?_) (fun c => ?_)
    · have h := h.1 c
      refine V_lload_n (pc := 56) dX12_word_56 rfl ?_
      exact V_lret dX12_word_57 rfl h
    · have h := h.2 c
      refine V_aload_n (pc := 23) dX12_word_23 rfl ?_
      refine V_getI (pc := 24) fX12_163 sM0 rfl dX12_word_24 ?_
      refine V_aload_n (pc := 27) dX12_word_27 rfl ?_
      refine V_getI (pc := 28) fX12_151 sM0 rfl dX12_word_28 ?_
      refine V_isub (pc := 31) dX12_word_31 ?_
      refine V_bipush (v := 8) (pc := 32) dX12_word_32 rfl ?_
      refine V_icmp_ge (tgt := 56) (pc := 34) dX12_word_34 rfl (fun c => ?_) (fun c => ?_)
      · have h := h.1 c
        refine V_lload_n (pc := 56) dX12_word_56 rfl ?_
        exact V_lret dX12_word_57 rfl h
      · have h := h.2 c
        refine V_lload_n (pc := 37) dX12_word_37 rfl ?_
        refine V_bipush (v := 8) (pc := 38) dX12_word_38 rfl ?_
        refine V_lshl (pc := 40) dX12_word_40 ?_
        refine V_aload_n (pc := 41) dX12_word_41 rfl ?_
        refine V_getR (pc := 42) fX12_77 sM0 rfl dX12_word_42 ?_
        refine V_iload_n (pc := 45) dX12_word_45 rfl ?_
        refine V_iald (pc := 46) sM23 dX12_word_46 h.1 ?_
        have h := h.2
        refine V_i2l (pc := 47) dX12_word_47 ?_
        refine V_lor (pc := 48) dX12_word_48 ?_
        refine V_lstore_n (pc := 49) dX12_word_49 (by decide) ?_
        refine V_lv (lv2 := [(0, .ref (G.2.1 0)), (1, .long ((v1 <<< (Int32.toInt64 8 &&& 63)) ||| (Int32.toInt64 (M.1 23 (ix v3))))), (3, .int v3)]) rfl ?_
        refine V_iinc (pc := 50) dX12_word_50 rfl (by decide) ?_
        refine V_lv (lv2 := [(0, .ref (G.2.1 0)), (1, .long ((v1 <<< (Int32.toInt64 8 &&& 63)) ||| (Int32.toInt64 (M.1 23 (ix v3))))), (3, .int (v3 + 1))]) rfl ?_
        refine V_goto (tgt := 7) (pc := 53) dX12_word_53 rfl ?_
        exact V_sub h ⟨rfl, rfl, rfl, trivial⟩
theorem wp_X12_doorOf {G : GV} {k : Nat} {M : Mem} {q : Int32 → Mem → Prop} {v1 : Int32} (h : vp_in v1 12 ∧ vp_in v1 12 ∧ Ci shM G mX12_gathered k [.ref (G.2.1 0), .int v1] M (fun x1 M1 => Ci shM G mX12_todayOf k [.ref (G.2.1 0), .int (M.1 10 (ix v1)), .int (M.1 11 (ix v1)), .int x1] M1 (fun x2 M2 => q x2 M2))) : Ci shM G mX12_doorOf (k + 1) [.ref (G.2.1 0), .int v1] M q := by
  unfold Ci
  show V _ _ _ _ _ [(0, .ref (G.2.1 0)), (1, .int v1)] _ _ _
  refine V_aload_n (pc := 0) dX12_doorOf_0 rfl ?_
  refine V_aload_n (pc := 1) dX12_doorOf_1 rfl ?_
  refine V_getR (pc := 2) fX12_38 sM0 rfl dX12_doorOf_2 ?_
  refine V_iload_n (pc := 5) dX12_doorOf_5 rfl ?_
  refine V_iald (pc := 6) sM10 dX12_doorOf_6 h.1 ?_
  have h := h.2
  refine V_aload_n (pc := 7) dX12_doorOf_7 rfl ?_
  refine V_getR (pc := 8) fX12_41 sM0 rfl dX12_doorOf_8 ?_
  refine V_iload_n (pc := 11) dX12_doorOf_11 rfl ?_
  refine V_iald (pc := 12) sM11 dX12_doorOf_12 h.1 ?_
  have h := h.2
  refine V_aload_n (pc := 13) dX12_doorOf_13 rfl ?_
  refine V_iload_n (pc := 14) dX12_doorOf_14 rfl ?_
  refine V_callVi [.int v1] (pc := 15) kX12_gathered lX12_246 sM0 rfl rfl (Nat.le_of_ble_eq_true rfl) rfl (Nat.le_of_ble_eq_true rfl) dX12_doorOf_15 ?_
  refine Ci.mono h ?_
  intro x1 M1 h
  refine V_callVi [.int (M.1 10 (ix v1)), .int (M.1 11 (ix v1)), .int x1] (pc := 18) kX12_todayOf lX12_249 sM0 rfl rfl (Nat.le_of_ble_eq_true rfl) rfl (Nat.le_of_ble_eq_true rfl) dX12_doorOf_18 ?_
  refine Ci.mono h ?_
  intro x2 M2 h
  exact V_iret dX12_doorOf_21 rfl h
