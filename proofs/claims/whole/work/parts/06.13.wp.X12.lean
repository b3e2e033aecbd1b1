theorem wp_X12_all {G : GV} {k : Nat} {M : Mem} {q : Int32 → Mem → Prop}  (h : q ((1 <<< ((M.1 0 10) &&& 31)) - 1) M) : Ci shM G mX12_all k [.ref (G.2.1 0)] M q := by
  unfold Ci
  show V _ _ _ _ _ [(0, .ref (G.2.1 0))] _ _ _
  refine V_iconst (v := 1) (pc := 0) dX12_all_0 rfl ?_
  refine V_aload_n (pc := 1) dX12_all_1 rfl ?_
  refine V_getI (pc := 2) fX12_227 sM0 rfl dX12_all_2 ?_
  refine V_ishl (pc := 5) dX12_all_5 ?_
  refine V_iconst (v := 1) (pc := 6) dX12_all_6 rfl ?_
  refine V_isub (pc := 7) dX12_all_7 ?_
  exact V_iret dX12_all_8 rfl h
theorem wp_X12_bad {G : GV} {k : Nat} {M : Mem} {q : Mem → Prop} {v1 : Int32} (h : (((M.1 0 36) ≠ 0 → q M) ∧ ((M.1 0 36) = 0 → q (mset (mset M 0 36 v1) 0 37 (M.1 0 34))))) : Cv shM G mX12_bad k [.ref (G.2.1 0), .int v1] M q := by
  unfold Cv
  show V _ _ _ _ _ [(0, .ref (G.2.1 0)), (1, .int v1)] _ _ _
  refine V_aload_n (pc := 0) dX12_bad_0 rfl ?_
  refine V_getI (pc := 1) fX12_166 sM0 rfl dX12_bad_1 ?_
  refine V_if_ne (tgt := 20) (pc := 4) dX12_bad_4 rfl (fun c => ?_) (fun c => ?_)
  · have h := h.1 c
    exact V_vret dX12_bad_20 rfl h
  · have h := h.2 c
    refine V_aload_n (pc := 7) dX12_bad_7 rfl ?_
    refine V_iload_n (pc := 8) dX12_bad_8 rfl ?_
    refine V_putI (pc := 9) fX12_166 p12_36 sM0 rfl dX12_bad_9 ?_
    refine V_aload_n (pc := 12) dX12_bad_12 rfl ?_
    refine V_aload_n (pc := 13) dX12_bad_13 rfl ?_
    refine V_getI (pc := 14) fX12_151 sM0 rfl dX12_bad_14 ?_
    refine V_top (v := (M.1 0 34)) (by simp [mset, lset, upd]) ?_
    refine V_putI (pc := 17) fX12_169 p12_37 sM0 rfl dX12_bad_17 ?_
    exact V_vret dX12_bad_20 rfl h
theorem wp_X12_began {G : GV} {k : Nat} {M : Mem} {q : Mem → Prop} {v1 : Int32} (h : ((16 ≤ (M.1 0 53) → q M) ∧ (¬ 16 ≤ (M.1 0 53) → vp_in (M.1 0 53) 16 ∧ q (mset (mset M 32 (ix (M.1 0 53)) v1) 0 53 ((M.1 0 53) + 1))))) : Cv shM G mX12_began k [.ref (G.2.1 0), .int v1] M q := by
  unfold Cv
  show V _ _ _ _ _ [(0, .ref (G.2.1 0)), (1, .int v1)] _ _ _
  refine V_aload_n (pc := 0) dX12_began_0 rfl ?_
  refine V_getI (pc := 1) fX12_345 sM0 rfl dX12_began_1 ?_
  refine V_bipush (v := 16) (pc := 4) dX12_began_4 rfl ?_
  refine V_icmp_ge (tgt := 29) (pc := 6) dX12_began_6 rfl (fun c => ?_) (fun c => ?_)
  · have h := h.1 c
    exact V_vret dX12_began_29 rfl h
  · have h := h.2 c
    refine V_aload_n (pc := 9) dX12_began_9 rfl ?_
    refine V_getR (pc := 10) fX12_105 sM0 rfl dX12_began_10 ?_
    refine V_aload_n (pc := 13) dX12_began_13 rfl ?_
    refine V_getI (pc := 14) fX12_345 sM0 rfl dX12_began_14 ?_
    refine V_iload_n (pc := 17) dX12_began_17 rfl ?_
    refine V_iast (pc := 18) sM32 dX12_began_18 h.1 ?_
    have h := h.2
    refine V_aload_n (pc := 19) dX12_began_19 rfl ?_
    refine V_dup (pc := 20) dX12_began_20 rfl ?_
    refine V_getI (pc := 21) fX12_345 sM0 rfl dX12_began_21 ?_
    refine V_top (v := (M.1 0 53)) (by simp [mset, lset, upd]) ?_
    refine V_iconst (v := 1) (pc := 24) dX12_began_24 rfl ?_
    refine V_iadd (pc := 25) dX12_began_25 ?_
    refine V_putI (pc := 26) fX12_345 p12_53 sM0 rfl dX12_began_26 ?_
    exact V_vret dX12_began_29 rfl h
theorem wp_X12_bits {G : GV} {k : Nat} {M : Mem} {q : Int32 → Mem → Prop} {v0 : Int32} (h : V shM G mX12_bits k 4 [(0, .int v0), (1, .int 0), (2, .int 0)] [] M (Qi q)) : Ci shM G mX12_bits k [.int v0] M q := by
  unfold Ci
  show V _ _ _ _ _ [(0, .int v0)] _ _ _
  refine V_iconst (v := 0) (pc := 0) dX12_bits_0 rfl ?_
  refine V_istore_n (pc := 1) dX12_bits_1 (by decide) ?_
  refine V_iconst (v := 0) (pc := 2) dX12_bits_2 rfl ?_
  refine V_istore_n (pc := 3) dX12_bits_3 (by decide) ?_
  exact V_sub h ⟨rfl, rfl, rfl, trivial⟩
theorem wp_X12_bits_4 {G : GV} {k : Nat} {M : Mem} {q : Int32 → Mem → Prop} {v0 : Int32} {v1 : Int32} {v2 : Int32} (h : ((12 ≤ v2 → q v1 M) ∧ (¬ 12 ≤ v2 → V shM G mX12_bits k 4 [(0, .int v0), (1, .int (v1 + ((v0 >>> (v2 &&& 31)) &&& 1))), (2, .int (v2 + 1))] [] M (Qi q)))) : V shM G mX12_bits k 4 [(0, .int v0), (1, .int v1), (2, .int v2)] [] M (Qi q) := by
  refine V_iload_n (pc := 4) dX12_bits_4 rfl ?_
  refine V_bipush (v := 12) (pc := 5) dX12_bits_5 rfl ?_
  refine V_icmp_ge (tgt := 24) (pc := 7) dX12_bits_7 rfl (fun c => ?_) (fun c => ?_)
  · have h := h.1 c
    refine V_iload_n (pc := 24) dX12_bits_24 rfl ?_
    exact V_iret dX12_bits_25 rfl h
  · have h := h.2 c
    refine V_iload_n (pc := 10) dX12_bits_10 rfl ?_
    refine V_iload_n (pc := 11) dX12_bits_11 rfl ?_
    refine V_iload_n (pc := 12) dX12_bits_12 rfl ?_
    refine V_ishr (pc := 13) dX12_bits_13 ?_
    refine V_iconst (v := 1) (pc := 14) dX12_bits_14 rfl ?_
    refine V_iand (pc := 15) dX12_bits_15 ?_
    refine V_iadd (pc := 16) dX12_bits_16 ?_
    refine V_istore_n (pc := 17) dX12_bits_17 (by decide) ?_
    refine V_iinc (pc := 18) dX12_bits_18 rfl (by decide) ?_
    refine V_goto (tgt := 4) (pc := 21) dX12_bits_21 rfl ?_
    exact V_sub h ⟨rfl, rfl, rfl, trivial⟩
theorem wp_X12_byteAt {G : GV} {k : Nat} {M : Mem} {q : Int32 → Mem → Prop} {v1 : Int32} (h : (((M.1 0 31) ≤ v1 → q (-1000000) M) ∧ (¬ (M.1 0 31) ≤ v1 → vp_in v1 600 ∧ q (M.1 23 (ix v1)) M))) : Ci shM G mX12_byteAt k [.ref (G.2.1 0), .int v1] M q := by
  unfold Ci
  show V _ _ _ _ _ [(0, .ref (G.2.1 0)), (1, .int v1)] _ _ _
  refine V_iload_n (pc := 0) dX12_byteAt_0 rfl ?_
  refine V_aload_n (pc := 1) dX12_byteAt_1 rfl ?_
  refine V_getI (pc := 2) fX12_141 sM0 rfl dX12_byteAt_2 ?_
  refine V_icmp_ge (tgt := 17) (pc := 5) dX12_byteAt_5 rfl (fun c => ?_) (fun c => ?_)
  · have h := h.1 c
    refine V_ldc (pc := 17) dX12_byteAt_17 nX12_144 ?_
    exact V_iret dX12_byteAt_19 rfl h
  · have h := h.2 c
    refine V_aload_n (pc := 8) dX12_byteAt_8 rfl ?_
    refine V_getR (pc := 9) fX12_77 sM0 rfl dX12_byteAt_9 ?_
    refine V_iload_n (pc := 12) dX12_byteAt_12 rfl ?_
    refine V_iald (pc := 13) sM23 dX12_byteAt_13 h.1 ?_
    have h := h.2
    refine V_goto (tgt := 19) (pc := 14) dX12_byteAt_14 rfl ?_
    exact V_iret dX12_byteAt_19 rfl h
theorem wp_X12_codeOf {G : GV} {k : Nat} {M : Mem} {q : Int32 → Mem → Prop} {v0 : Int32} (h : ((((97 + v0)).toInt = 98 → q 1 M) ∧ (((97 + v0)).toInt = 99 → q 2 M) ∧ (((97 + v0)).toInt = 100 → q 3 M) ∧ (((97 + v0)).toInt = 101 → q 0 M) ∧ (((97 + v0)).toInt = 102 → q 1 M) ∧ (((97 + v0)).toInt = 103 → q 2 M) ∧ (((97 + v0)).toInt = 104 → q 0 M) ∧ (((97 + v0)).toInt = 105 → q 0 M) ∧ (((97 + v0)).toInt = 106 → q 2 M) ∧ (((97 + v0)).toInt = 107 → q 2 M) ∧ (((97 + v0)).toInt = 108 → q 4 M) ∧ (((97 + v0)).toInt = 109 → q 5 M) ∧ (((97 + v0)).toInt = 110 → q 5 M) ∧ (((97 + v0)).toInt = 111 → q 0 M) ∧ (((97 + v0)).toInt = 112 → q 1 M) ∧ (((97 + v0)).toInt = 113 → q 2 M) ∧ (((97 + v0)).toInt = 114 → q 6 M) ∧ (((97 + v0)).toInt = 115 → q 2 M) ∧ (((97 + v0)).toInt = 116 → q 3 M) ∧ (((97 + v0)).toInt = 117 → q 0 M) ∧ (((97 + v0)).toInt = 118 → q 1 M) ∧ (((97 + v0)).toInt = 119 → q 0 M) ∧ (((97 + v0)).toInt = 120 → q 2 M) ∧ (((97 + v0)).toInt = 121 → q 0 M) ∧ (((97 + v0)).toInt = 122 → q 2 M) ∧ ((((97 + v0)).toInt < 98 ∨ 122 < ((97 + v0)).toInt) → q 0 M))) : Ci shM G mX12_codeOf k [.int v0] M q := by
  unfold Ci
  show V _ _ _ _ _ [(0, .int v0)] _ _ _
  refine V_bipush (v := 97) (pc := 0) dX12_codeOf_0 rfl ?_
  refine V_iload_n (pc := 2) dX12_codeOf_2 rfl ?_
  refine V_iadd (pc := 3) dX12_codeOf_3 ?_
  refine V_table (tgt := 133) (pc := 4) dX12_codeOf_4 rfl rfl rfl ⟨fun c => ?_, fun c => ?_, fun c => ?_, fun c => ?_, fun c => ?_, fun c => ?_, fun c => ?_, fun c => ?_, fun c => ?_, fun c => ?_, fun c => ?_, fun c => ?_, fun c => ?_, fun c => ?_, fun c => ?_, fun c => ?_, fun c => ?_, fun c => ?_, fun c => ?_, fun c => ?_, fun c => ?_, fun c => ?_, fun c => ?_, fun c => ?_, fun c => ?_, trivial⟩ (fun c => ?_)
  · have h := h.1 c
    show V _ _ _ _ 120 _ _ _ _
    refine V_iconst (v := 1) (pc := 120) dX12_codeOf_120 rfl ?_
    exact V_iret dX12_codeOf_121 rfl h
  · have h := h.2.1 c
    show V _ _ _ _ 122 _ _ _ _
    refine V_iconst (v := 2) (pc := 122) dX12_codeOf_122 rfl ?_
    exact V_iret dX12_codeOf_123 rfl h
  · have h := h.2.2.1 c
    show V _ _ _ _ 124 _ _ _ _
    refine V_iconst (v := 3) (pc := 124) dX12_codeOf_124 rfl ?_
    exact V_iret dX12_codeOf_125 rfl h
  · have h := h.2.2.2.1 c
    show V _ _ _ _ 133 _ _ _ _
    refine V_iconst (v := 0) (pc := 133) dX12_codeOf_133 rfl ?_
    exact V_iret dX12_codeOf_134 rfl h
  · have h := h.2.2.2.2.1 c
    show V _ _ _ _ 120 _ _ _ _
    refine V_iconst (v := 1) (pc := 120) dX12_codeOf_120 rfl ?_
    exact V_iret dX12_codeOf_121 rfl h
  · have h := h.2.2.2.2.2.1 c
    show V _ _ _ _ 122 _ _ _ _
    refine V_iconst (v := 2) (pc := 122) dX12_codeOf_122 rfl ?_
    exact V_iret dX12_codeOf_123 rfl h
  · have h := h.2.2.2.2.2.2.1 c
    show V _ _ _ _ 133 _ _ _ _
    refine V_iconst (v := 0) (pc := 133) dX12_codeOf_133 rfl ?_
    exact V_iret dX12_codeOf_134 rfl h
  · have h := h.2.2.2.2.2.2.2.1 c
    show V _ _ _ _ 133 _ _ _ _
    refine V_iconst (v := 0) (pc := 133) dX12_codeOf_133 rfl ?_
    exact V_iret dX12_codeOf_134 rfl h
  · have h := h.2.2.2.2.2.2.2.2.1 c
    show V _ _ _ _ 122 _ _ _ _
    refine V_iconst (v := 2) (pc := 122) dX12_codeOf_122 rfl ?_
    exact V_iret dX12_codeOf_123 rfl h
  · have h := h.2.2.2.2.2.2.2.2.2.1 c
    show V _ _ _ _ 122 _ _ _ _
    refine V_iconst (v := 2) (pc := 122) dX12_codeOf_122 rfl ?_
    exact V_iret dX12_codeOf_123 rfl h
  · have h := h.2.2.2.2.2.2.2.2.2.2.1 c
    show V _ _ _ _ 126 _ _ _ _
    refine V_iconst (v := 4) (pc := 126) dX12_codeOf_126 rfl ?_
    exact V_iret dX12_codeOf_127 rfl h
  · have h := h.2.2.2.2.2.2.2.2.2.2.2.1 c
    show V _ _ _ _ 128 _ _ _ _
    refine V_iconst (v := 5) (pc := 128) dX12_codeOf_128 rfl ?_
    exact V_iret dX12_codeOf_129 rfl h
  · have h := h.2.2.2.2.2.2.2.2.2.2.2.2.1 c
    show V _ _ _ _ 128 _ _ _ _
    refine V_iconst (v := 5) (pc := 128) dX12_codeOf_128 rfl ?_
    exact V_iret dX12_codeOf_129 rfl h
  · have h := h.2.2.2.2.2.2.2.2.2.2.2.2.2.1 c
    show V _ _ _ _ 133 _ _ _ _
    refine V_iconst (v := 0) (pc := 133) dX12_codeOf_133 rfl ?_
    exact V_iret dX12_codeOf_134 rfl h
  · have h := h.2.2.2.2.2.2.2.2.2.2.2.2.2.2.1 c
    show V _ _ _ _ 120 _ _ _ _
    refine V_iconst (v := 1) (pc := 120) dX12_codeOf_120 rfl ?_
    exact V_iret dX12_codeOf_121 rfl h
  · have h := h.2.2.2.2.2.2.2.2.2.2.2.2.2.2.2.1 c
    show V _ _ _ _ 122 _ _ _ _
    refine V_iconst (v := 2) (pc := 122) dX12_codeOf_122 rfl ?_
    exact V_iret dX12_codeOf_123 rfl h
  · have h := h.2.2.2.2.2.2.2.2.2.2.2.2.2.2.2.2.1 c
    show V _ _ _ _ 130 _ _ _ _
    refine V_bipush (v := 6) (pc := 130) dX12_codeOf_130 rfl ?_
    exact V_iret dX12_codeOf_132 rfl h
  · have h := h.2.2.2.2.2.2.2.2.2.2.2.2.2.2.2.2.2.1 c
    show V _ _ _ _ 122 _ _ _ _
    refine V_iconst (v := 2) (pc := 122) dX12_codeOf_122 rfl ?_
    exact V_iret dX12_codeOf_123 rfl h
  · have h := h.2.2.2.2.2.2.2.2.2.2.2.2.2.2.2.2.2.2.1 c
    show V _ _ _ _ 124 _ _ _ _
    refine V_iconst (v := 3) (pc := 124) dX12_codeOf_124 rfl ?_
    exact V_iret dX12_codeOf_125 rfl h
  · have h := h.2.2.2.2.2.2.2.2.2.2.2.2.2.2.2.2.2.2.2.1 c
    show V _ _ _ _ 133 _ _ _ _
    refine V_iconst (v := 0) (pc := 133) dX12_codeOf_133 rfl ?_
    exact V_iret dX12_codeOf_134 rfl h
  · have h := h.2.2.2.2.2.2.2.2.2.2.2.2.2.2.2.2.2.2.2.2.1 c
    show V _ _ _ _ 120 _ _ _ _
    refine V_iconst (v := 1) (pc := 120) dX12_codeOf_120 rfl ?_
    exact V_iret dX12_codeOf_121 rfl h
  · have h := h.2.2.2.2.2.2.2.2.2.2.2.2.2.2.2.2.2.2.2.2.2.1 c
    show V _ _ _ _ 133 _ _ _ _
    refine V_iconst (v := 0) (pc := 133) dX12_codeOf_133 rfl ?_
    exact V_iret dX12_codeOf_134 rfl h
  · have h := h.2.2.2.2.2.2.2.2.2.2.2.2.2.2.2.2.2.2.2.2.2.2.1 c
    show V _ _ _ _ 122 _ _ _ _
    refine V_iconst (v := 2) (pc := 122) dX12_codeOf_122 rfl ?_
    exact V_iret dX12_codeOf_123 rfl h
  · have h := h.2.2.2.2.2.2.2.2.2.2.2.2.2.2.2.2.2.2.2.2.2.2.2.1 c
    show V _ _ _ _ 133 _ _ _ _
    refine V_iconst (v := 0) (pc := 133) dX12_codeOf_133 rfl ?_
    exact V_iret dX12_codeOf_134 rfl h
  · have h := h.2.2.2.2.2.2.2.2.2.2.2.2.2.2.2.2.2.2.2.2.2.2.2.2.1 c
    show V _ _ _ _ 122 _ _ _ _
    refine V_iconst (v := 2) (pc := 122) dX12_codeOf_122 rfl ?_
    exact V_iret dX12_codeOf_123 rfl h
  · have h := h.2.2.2.2.2.2.2.2.2.2.2.2.2.2.2.2.2.2.2.2.2.2.2.2.2 c
    refine V_iconst (v := 0) (pc := 133) dX12_codeOf_133 rfl ?_
    exact V_iret dX12_codeOf_134 rfl h
theorem wp_X12_fault {G : GV} {k : Nat} {M : Mem} {q : Int32 → Mem → Prop}  (h : q (M.1 0 30) (mset M 0 0 0)) : Ci shM G mX12_fault k [.ref (G.2.1 0)] M q := by
  unfold Ci
  show V _ _ _ _ _ [(0, .ref (G.2.1 0))] _ _ _
  refine V_aload_n (pc := 0) dX12_fault_0 rfl ?_
  refine V_iconst (v := 0) (pc := 1) dX12_fault_1 rfl ?_
  refine V_putI (pc := 2) fX12_108 p12_0 sM0 rfl dX12_fault_2 ?_
  refine V_aload_n (pc := 5) dX12_fault_5 rfl ?_
  refine V_getI (pc := 6) fX12_242 sM0 rfl dX12_fault_6 ?_
  refine V_top (v := (M.1 0 30)) (by simp [mset, lset, upd]) ?_
  exact V_iret dX12_fault_9 rfl h
theorem wp_X12_finding {G : GV} {k : Nat} {M : Mem} {q : Int32 → Mem → Prop} {v1 : Int32} (h : q ((-1000010) - v1) (mset M 0 1 v1)) : Ci shM G mX12_finding k [.ref (G.2.1 0), .int v1] M q := by
  unfold Ci
  show V _ _ _ _ _ [(0, .ref (G.2.1 0)), (1, .int v1)] _ _ _
  refine V_aload_n (pc := 0) dX12_finding_0 rfl ?_
  refine V_iload_n (pc := 1) dX12_finding_1 rfl ?_
  refine V_putI (pc := 2) fX12_112 p12_1 sM0 rfl dX12_finding_2 ?_
  refine V_ldc (pc := 5) dX12_finding_5 nX12_115 ?_
  refine V_iload_n (pc := 7) dX12_finding_7 rfl ?_
  refine V_isub (pc := 8) dX12_finding_8 ?_
  exact V_iret dX12_finding_9 rfl h
theorem wp_X12_gathered {G : GV} {k : Nat} {M : Mem} {q : Int32 → Mem → Prop} {v1 : Int32} (h : vp_in v1 12 ∧ vp_in (M.1 8 (ix v1)) 10 ∧ vp_in v1 12 ∧ vp_in (M.1 8 (ix v1)) 10 ∧ q ((M.1 4 (ix (M.1 8 (ix v1)))) - (M.1 5 (ix (M.1 8 (ix v1))))) M) : Ci shM G mX12_gathered k [.ref (G.2.1 0), .int v1] M q := by
  unfold Ci
  show V _ _ _ _ _ [(0, .ref (G.2.1 0)), (1, .int v1)] _ _ _
  refine V_aload_n (pc := 0) dX12_gathered_0 rfl ?_
  refine V_getR (pc := 1) fX12_19 sM0 rfl dX12_gathered_1 ?_
  refine V_aload_n (pc := 4) dX12_gathered_4 rfl ?_
  refine V_getR (pc := 5) fX12_32 sM0 rfl dX12_gathered_5 ?_
  refine V_iload_n (pc := 8) dX12_gathered_8 rfl ?_
  refine V_iald (pc := 9) sM8 dX12_gathered_9 h.1 ?_
  have h := h.2
  refine V_iald (pc := 10) sM4 dX12_gathered_10 h.1 ?_
  have h := h.2
  refine V_aload_n (pc := 11) dX12_gathered_11 rfl ?_
  refine V_getR (pc := 12) fX12_22 sM0 rfl dX12_gathered_12 ?_
  refine V_aload_n (pc := 15) dX12_gathered_15 rfl ?_
  refine V_getR (pc := 16) fX12_32 sM0 rfl dX12_gathered_16 ?_
  refine V_iload_n (pc := 19) dX12_gathered_19 rfl ?_
  refine V_iald (pc := 20) sM8 dX12_gathered_20 h.1 ?_
  have h := h.2
  refine V_iald (pc := 21) sM5 dX12_gathered_21 h.1 ?_
  have h := h.2
  refine V_isub (pc := 22) dX12_gathered_22 ?_
  exact V_iret dX12_gathered_23 rfl h
theorem wp_X12_in {G : GV} {k : Nat} {M : Mem} {q : Int32 → Mem → Prop} {v0 : Int64} {v2 : Int64} {v4 : Int64} (h : ((v0 < v2 → q 0 M) ∧ (¬ v0 < v2 → ((v4 < v0 → q 0 M) ∧ (¬ v4 < v0 → q 1 M))))) : Ci shM G mX12_in k [.long v0, .long v2, .long v4] M q := by
  unfold Ci
  show V _ _ _ _ _ [(0, .long v0), (2, .long v2), (4, .long v4)] _ _ _
  refine V_lload_n (pc := 0) dX12_in_0 rfl ?_
  refine V_lload_n (pc := 1) dX12_in_1 rfl ?_
  refine V_lif_lt (tgt := 17) (pc := 2) dX12_in_2 dX12_in_3 rfl (fun c => ?_) (fun c => ?_)
  · have h := h.1 c
    refine V_iconst (v := 0) (pc := 17) dX12_in_17 rfl ?_
    exact V_zret dX12_in_18 rfl (Or.inl rfl) h
  · have h := h.2 c
    refine V_lload_n (pc := 6) dX12_in_6 rfl ?_
    refine V_lload (pc := 7) dX12_in_7 rfl ?_
    refine V_lif_gt (tgt := 17) (pc := 9) dX12_in_9 dX12_in_10 rfl (fun c => ?_) (fun c => ?_)
    · have h := h.1 c
      refine V_iconst (v := 0) (pc := 17) dX12_in_17 rfl ?_
      exact V_zret dX12_in_18 rfl (Or.inl rfl) h
    · have h := h.2 c
      refine V_iconst (v := 1) (pc := 13) dX12_in_13 rfl ?_
      refine V_goto (tgt := 18) (pc := 14) dX12_in_14 rfl ?_
      exact V_zret dX12_in_18 rfl (Or.inr rfl) h
theorem wp_X12_isFigure {G : GV} {k : Nat} {M : Mem} {q : Int32 → Mem → Prop} {v0 : Int32} (h : ((v0 < 48 → q 0 M) ∧ (¬ v0 < 48 → ((57 < v0 → q 0 M) ∧ (¬ 57 < v0 → q 1 M))))) : Ci shM G mX12_isFigure k [.int v0] M q := by
  unfold Ci
  show V _ _ _ _ _ [(0, .int v0)] _ _ _
  refine V_iload_n (pc := 0) dX12_isFigure_0 rfl ?_
  refine V_bipush (v := 48) (pc := 1) dX12_isFigure_1 rfl ?_
  refine V_icmp_lt (tgt := 16) (pc := 3) dX12_isFigure_3 rfl (fun c => ?_) (fun c => ?_)
  · have h := h.1 c
    refine V_iconst (v := 0) (pc := 16) dX12_isFigure_16 rfl ?_
    exact V_zret dX12_isFigure_17 rfl (Or.inl rfl) h
  · have h := h.2 c
    refine V_iload_n (pc := 6) dX12_isFigure_6 rfl ?_
    refine V_bipush (v := 57) (pc := 7) dX12_isFigure_7 rfl ?_
    refine V_icmp_gt (tgt := 16) (pc := 9) dX12_isFigure_9 rfl (fun c => ?_) (fun c => ?_)
    · have h := h.1 c
      refine V_iconst (v := 0) (pc := 16) dX12_isFigure_16 rfl ?_
      exact V_zret dX12_isFigure_17 rfl (Or.inl rfl) h
    · have h := h.2 c
      refine V_iconst (v := 1) (pc := 12) dX12_isFigure_12 rfl ?_
      refine V_goto (tgt := 17) (pc := 13) dX12_isFigure_13 rfl ?_
      exact V_zret dX12_isFigure_17 rfl (Or.inr rfl) h
theorem wp_X12_isHome {G : GV} {k : Nat} {M : Mem} {q : Int32 → Mem → Prop} {v1 : Int32} (h : vp_in v1 12 ∧ ((3 ≤ (M.1 9 (ix v1)) → q 0 M) ∧ (¬ 3 ≤ (M.1 9 (ix v1)) → q 1 M))) : Ci shM G mX12_isHome k [.ref (G.2.1 0), .int v1] M q := by
  unfold Ci
  show V _ _ _ _ _ [(0, .ref (G.2.1 0)), (1, .int v1)] _ _ _
  refine V_aload_n (pc := 0) dX12_isHome_0 rfl ?_
  refine V_getR (pc := 1) fX12_35 sM0 rfl dX12_isHome_1 ?_
  refine V_iload_n (pc := 4) dX12_isHome_4 rfl ?_
  refine V_iald (pc := 5) sM9 dX12_isHome_5 h.1 ?_
  have h := h.2
  refine V_iconst (v := 3) (pc := 6) dX12_isHome_6 rfl ?_
  refine V_icmp_ge (tgt := 14) (pc := 7) dX12_isHome_7 rfl (fun c => ?_) (fun c => ?_)
  · have h := h.1 c
    refine V_iconst (v := 0) (pc := 14) dX12_isHome_14 rfl ?_
    exact V_zret dX12_isHome_15 rfl (Or.inl rfl) h
  · have h := h.2 c
    refine V_iconst (v := 1) (pc := 10) dX12_isHome_10 rfl ?_
    refine V_goto (tgt := 15) (pc := 11) dX12_isHome_11 rfl ?_
    exact V_zret dX12_isHome_15 rfl (Or.inr rfl) h
theorem wp_X12_isLetter {G : GV} {k : Nat} {M : Mem} {q : Int32 → Mem → Prop} {v0 : Int32} (h : ((v0 < 97 → q 0 M) ∧ (¬ v0 < 97 → ((122 < v0 → q 0 M) ∧ (¬ 122 < v0 → q 1 M))))) : Ci shM G mX12_isLetter k [.int v0] M q := by
  unfold Ci
  show V _ _ _ _ _ [(0, .int v0)] _ _ _
  refine V_iload_n (pc := 0) dX12_isLetter_0 rfl ?_
  refine V_bipush (v := 97) (pc := 1) dX12_isLetter_1 rfl ?_
  refine V_icmp_lt (tgt := 16) (pc := 3) dX12_isLetter_3 rfl (fun c => ?_) (fun c => ?_)
  · have h := h.1 c
    refine V_iconst (v := 0) (pc := 16) dX12_isLetter_16 rfl ?_
    exact V_zret dX12_isLetter_17 rfl (Or.inl rfl) h
  · have h := h.2 c
    refine V_iload_n (pc := 6) dX12_isLetter_6 rfl ?_
    refine V_bipush (v := 122) (pc := 7) dX12_isLetter_7 rfl ?_
    refine V_icmp_gt (tgt := 16) (pc := 9) dX12_isLetter_9 rfl (fun c => ?_) (fun c => ?_)
    · have h := h.1 c
      refine V_iconst (v := 0) (pc := 16) dX12_isLetter_16 rfl ?_
      exact V_zret dX12_isLetter_17 rfl (Or.inl rfl) h
    · have h := h.2 c
      refine V_iconst (v := 1) (pc := 12) dX12_isLetter_12 rfl ?_
      refine V_goto (tgt := 17) (pc := 13) dX12_isLetter_13 rfl ?_
      exact V_zret dX12_isLetter_17 rfl (Or.inr rfl) h
theorem wp_X12_isOf {G : GV} {k : Nat} {M : Mem} {q : Int32 → Mem → Prop} {v0 : Int32} {v1 : Int32} (h : ((v1 = 0 → q 1 M) ∧ (¬ v1 = 0 → ((v0 = v1 → q 1 M) ∧ (¬ v0 = v1 → ((v1 ≠ 1 → q 0 M) ∧ (v1 = 1 → ((v0 = 2 → q 1 M) ∧ (¬ v0 = 2 → ((v0 ≠ 3 → q 0 M) ∧ (v0 = 3 → q 1 M))))))))))) : Ci shM G mX12_isOf k [.int v0, .int v1] M q := by
  unfold Ci
  show V _ _ _ _ _ [(0, .int v0), (1, .int v1)] _ _ _
  refine V_iload_n (pc := 0) dX12_isOf_0 rfl ?_
  refine V_if_eq (tgt := 24) (pc := 1) dX12_isOf_1 rfl (fun c => ?_) (fun c => ?_)
  · have h := h.1 c
    refine V_iconst (v := 1) (pc := 24) dX12_isOf_24 rfl ?_
    refine V_goto (tgt := 29) (pc := 25) dX12_isOf_25 rfl ?_
    exact V_zret dX12_isOf_29 rfl (Or.inr rfl) h
  · have h := h.2 c
    refine V_iload_n (pc := 4) dX12_isOf_4 rfl ?_
    refine V_iload_n (pc := 5) dX12_isOf_5 rfl ?_
    refine V_icmp_eq (tgt := 24) (pc := 6) dX12_isOf_6 rfl (fun c => ?_) (fun c => ?_)
    · have h := h.1 c
      refine V_iconst (v := 1) (pc := 24) dX12_isOf_24 rfl ?_
      refine V_goto (tgt := 29) (pc := 25) dX12_isOf_25 rfl ?_
      exact V_zret dX12_isOf_29 rfl (Or.inr rfl) h
    · have h := h.2 c
      refine V_iload_n (pc := 9) dX12_isOf_9 rfl ?_
      refine V_iconst (v := 1) (pc := 10) dX12_isOf_10 rfl ?_
      refine V_icmp_ne (tgt := 28) (pc := 11) dX12_isOf_11 rfl (fun c => ?_) (fun c => ?_)
      · have h := h.1 c
        refine V_iconst (v := 0) (pc := 28) dX12_isOf_28 rfl ?_
        exact V_zret dX12_isOf_29 rfl (Or.inl rfl) h
      · have h := h.2 c
        refine V_iload_n (pc := 14) dX12_isOf_14 rfl ?_
        refine V_iconst (v := 2) (pc := 15) dX12_isOf_15 rfl ?_
        refine V_icmp_eq (tgt := 24) (pc := 16) dX12_isOf_16 rfl (fun c => ?_) (fun c => ?_)
        · have h := h.1 c
          refine V_iconst (v := 1) (pc := 24) dX12_isOf_24 rfl ?_
          refine V_goto (tgt := 29) (pc := 25) dX12_isOf_25 rfl ?_
          exact V_zret dX12_isOf_29 rfl (Or.inr rfl) h
        · have h := h.2 c
          refine V_iload_n (pc := 19) dX12_isOf_19 rfl ?_
          refine V_iconst (v := 3) (pc := 20) dX12_isOf_20 rfl ?_
          refine V_icmp_ne (tgt := 28) (pc := 21) dX12_isOf_21 rfl (fun c => ?_) (fun c => ?_)
          · have h := h.1 c
            refine V_iconst (v := 0) (pc := 28) dX12_isOf_28 rfl ?_
            exact V_zret dX12_isOf_29 rfl (Or.inl rfl) h
          · have h := h.2 c
            refine V_iconst (v := 1) (pc := 24) dX12_isOf_24 rfl ?_
            refine V_goto (tgt := 29) (pc := 25) dX12_isOf_25 rfl ?_
            exact V_zret dX12_isOf_29 rfl (Or.inr rfl) h
theorem wp_X12_least {G : GV} {k : Nat} {M : Mem} {q : Int32 → Mem → Prop} {v0 : Int32} {v1 : Int32} (h : ((v1 ≤ v0 → q v1 M) ∧ (¬ v1 ≤ v0 → q v0 M))) : Ci shM G mX12_least k [.int v0, .int v1] M q := by
  unfold Ci
  show V _ _ _ _ _ [(0, .int v0), (1, .int v1)] _ _ _
  refine V_iload_n (pc := 0) dX12_least_0 rfl ?_
  refine V_iload_n (pc := 1) dX12_least_1 rfl ?_
  refine V_icmp_ge (tgt := 9) (pc := 2) dX12_least_2 rfl (fun c => ?_) (fun c => ?_)
  · have h := h.1 c
    refine V_iload_n (pc := 9) dX12_least_9 rfl ?_
    exact V_iret dX12_least_10 rfl h
  · have h := h.2 c
    refine V_iload_n (pc := 5) dX12_least_5 rfl ?_
    refine V_goto (tgt := 10) (pc := 6) dX12_least_6 rfl ?_
    exact V_iret dX12_least_10 rfl h
theorem wp_X12_lowest {G : GV} {k : Nat} {M : Mem} {q : Int32 → Mem → Prop} {v0 : Int32} (h : V shM G mX12_lowest k 2 [(0, .int v0), (1, .int 0)] [] M (Qi q)) : Ci shM G mX12_lowest k [.int v0] M q := by
  unfold Ci
  show V _ _ _ _ _ [(0, .int v0)] _ _ _
  refine V_iconst (v := 0) (pc := 0) dX12_lowest_0 rfl ?_
  refine V_istore_n (pc := 1) dX12_lowest_1 (by decide) ?_
  exact V_sub h ⟨rfl, rfl, trivial⟩
theorem wp_X12_lowest_2 {G : GV} {k : Nat} {M : Mem} {q : Int32 → Mem → Prop} {v0 : Int32} {v1 : Int32} (h : ((((v0 >>> (v1 &&& 31)) &&& 1) ≠ 0 → q v1 M) ∧ (((v0 >>> (v1 &&& 31)) &&& 1) = 0 → V shM G mX12_lowest k 2 [(0, .int v0), (1, .int (v1 + 1))] [] M (Qi q)))) : V shM G mX12_lowest k 2 [(0, .int v0), (1, .int v1)] [] M (Qi q) := by
  refine V_iload_n (pc := 2) dX12_lowest_2 rfl ?_
  refine V_iload_n (pc := 3) dX12_lowest_3 rfl ?_
  refine V_ishr (pc := 4) dX12_lowest_4 ?_
  refine V_iconst (v := 1) (pc := 5) dX12_lowest_5 rfl ?_
  refine V_iand (pc := 6) dX12_lowest_6 ?_
  refine V_if_ne (tgt := 16) (pc := 7) dX12_lowest_7 rfl (fun c => ?_) (fun c => ?_)
  · have h := h.1 c
    refine V_iload_n (pc := 16) dX12_lowest_16 rfl ?_
    exact V_iret dX12_lowest_17 rfl h
  · have h := h.2 c
    refine V_iinc (pc := 10) dX12_lowest_10 rfl (by decide) ?_
    refine V_goto (tgt := 2) (pc := 13) dX12_lowest_13 rfl ?_
    exact V_sub h ⟨rfl, rfl, trivial⟩
theorem wp_X12_quarrels {G : GV} {k : Nat} {M : Mem} {q : Int32 → Mem → Prop}  (h : V shM G mX12_quarrels k 9 [(0, .ref (G.2.1 0)), (1, .int 0), (2, .int 0)] [] (mset M 0 0 0) (Qi q)) : Ci shM G mX12_quarrels k [.ref (G.2.1 0)] M q := by
  unfold Ci
  show V _ _ _ _ _ [(0, .ref (G.2.1 0))] _ _ _
  refine V_aload_n (pc := 0) dX12_quarrels_0 rfl ?_
  refine V_iconst (v := 0) (pc := 1) dX12_quarrels_1 rfl ?_
  refine V_putI (pc := 2) fX12_108 p12_0 sM0 rfl dX12_quarrels_2 ?_
  refine V_iconst (v := 0) (pc := 5) dX12_quarrels_5 rfl ?_
  refine V_istore_n (pc := 6) dX12_quarrels_6 (by decide) ?_
  refine V_iconst (v := 0) (pc := 7) dX12_quarrels_7 rfl ?_
  refine V_istore_n (pc := 8) dX12_quarrels_8 (by decide) ?_
  exact V_sub h ⟨rfl, rfl, rfl, trivial⟩
theorem wp_X12_quarrels_9 {G : GV} {k : Nat} {M : Mem} {q : Int32 → Mem → Prop} {v1 : Int32} {v2 : Int32} (h : (((M.1 0 18) ≤ v2 → q v1 M) ∧ (¬ (M.1 0 18) ≤ v2 → V shM G mX12_quarrels k 22 [(0, .ref (G.2.1 0)), (1, .int v1), (2, .int v2), (3, .int 0), (4, .int 0)] [] M (Qi q)))) : V shM G mX12_quarrels k 9 [(0, .ref (G.2.1 0)), (1, .int v1), (2, .int v2)] [] M (Qi q) := by
  refine V_iload_n (pc := 9) dX12_quarrels_9 rfl ?_
  refine V_aload_n (pc := 10) dX12_quarrels_10 rfl ?_
  refine V_getI (pc := 11) fX12_230 sM0 rfl dX12_quarrels_11 ?_
  refine V_icmp_ge (tgt := 110) (pc := 14) dX12_quarrels_14 rfl (fun c => ?_) (fun c => ?_)
  · have h := h.1 c
    refine V_iload_n (pc := 110) dX12_quarrels_110 rfl ?_
    exact V_iret dX12_quarrels_111 rfl h
  · have h := h.2 c
    refine V_iconst (v := 0) (pc := 17) dX12_quarrels_17 rfl ?_
    refine V_istore_n (pc := 18) dX12_quarrels_18 (by decide) ?_
    refine V_iconst (v := 0) (pc := 19) dX12_quarrels_19 rfl ?_
    refine V_istore (pc := 20) dX12_quarrels_20 (by decide) ?_
    exact V_sub h ⟨rfl, rfl, rfl, rfl, rfl, trivial⟩
theorem wp_X12_quarrels_22 {G : GV} {k : Nat} {M : Mem} {q : Int32 → Mem → Prop} {v1 : Int32} {v2 : Int32} {v3 : Int32} {v4 : Int32} (h : ((v2 ≤ v4 → ((v3 = 0 → V shM G mX12_quarrels k 9 [(0, .ref (G.2.1 0)), (1, .int (v1 + 0)), (2, .int (v2 + 1))] [] M (Qi q)) ∧ (¬ v3 = 0 → V shM G mX12_quarrels k 9 [(0, .ref (G.2.1 0)), (1, .int (v1 + 1)), (2, .int (v2 + 1))] [] M (Qi q)))) ∧ (¬ v2 ≤ v4 → ((v3 ≠ 0 → V shM G mX12_quarrels k 22 [(0, .ref (G.2.1 0)), (1, .int v1), (2, .int v2), (3, .int 1), (4, .int (v4 + 1))] [] M (Qi q)) ∧ (v3 = 0 → vp_in v2 20 ∧ vp_in v4 20 ∧ (((M.1 15 (ix v2)) ≠ (M.1 15 (ix v4)) → V shM G mX12_quarrels k 22 [(0, .ref (G.2.1 0)), (1, .int v1), (2, .int v2), (3, .int 0), (4, .int (v4 + 1))] [] M (Qi q)) ∧ ((M.1 15 (ix v2)) = (M.1 15 (ix v4)) → vp_in v2 20 ∧ vp_in v4 20 ∧ (((M.1 16 (ix v2)) ≠ (M.1 16 (ix v4)) → V shM G mX12_quarrels k 22 [(0, .ref (G.2.1 0)), (1, .int v1), (2, .int v2), (3, .int 0), (4, .int (v4 + 1))] [] M (Qi q)) ∧ ((M.1 16 (ix v2)) = (M.1 16 (ix v4)) → vp_in v2 20 ∧ vp_in v4 20 ∧ (((M.1 17 (ix v2)) ≠ (M.1 17 (ix v4)) → V shM G mX12_quarrels k 22 [(0, .ref (G.2.1 0)), (1, .int v1), (2, .int v2), (3, .int 0), (4, .int (v4 + 1))] [] M (Qi q)) ∧ ((M.1 17 (ix v2)) = (M.1 17 (ix v4)) → V shM G mX12_quarrels k 22 [(0, .ref (G.2.1 0)), (1, .int v1), (2, .int v2), (3, .int 1), (4, .int (v4 + 1))] [] M (Qi q)))))))))))) : V shM G mX12_quarrels k 22 [(0, .ref (G.2.1 0)), (1, .int v1), (2, .int v2), (3, .int v3), (4, .int v4)] [] M (Qi q) := by
  refine V_iload (pc := 22) dX12_quarrels_22 rfl ?_
  refine V_iload_n (pc := 24) dX12_quarrels_24 rfl ?_
  refine V_icmp_ge (tgt := 92) (pc := 25) dX12_quarrels_25 rfl (fun c => ?_) (fun c => ?_)
  · have h := h.1 c
    refine V_iload_n (pc := 92) dX12_quarrels_92 rfl ?_
    refine V_iload_n (pc := 93) dX12_quarrels_93 rfl ?_
    refine V_if_eq (tgt := 101) (pc := 94) dX12_quarrels_94 rfl (fun c => ?_) (fun c => ?_)
    · have h := h.1 c
      refine V_iconst (v := 0) (pc := 101) dX12_quarrels_101 rfl ?_
      refine V_iadd (pc := 102) dX12_quarrels_102 ?_
      refine V_istore_n (pc := 103) dX12_quarrels_103 (by decide) ?_
      refine V_iinc (pc := 104) dX12_quarrels_104 rfl (by decide) ?_
      refine V_goto (tgt := 9) (pc := 107) dX12_quarrels_107 rfl ?_
      exact V_sub h ⟨rfl, rfl, rfl, trivial⟩
    · have h := h.2 c
      refine V_iconst (v := 1) (pc := 97) dX12_quarrels_97 rfl ?_
      refine V_goto (tgt := 102) (pc := 98) dX12_quarrels_98 rfl ?_
      refine V_iadd (pc := 102) dX12_quarrels_102 ?_
      refine V_istore_n (pc := 103) dX12_quarrels_103 (by decide) ?_
      refine V_iinc (pc := 104) dX12_quarrels_104 rfl (by decide) ?_
      refine V_goto (tgt := 9) (pc := 107) dX12_quarrels_107 rfl ?_
      exact V_sub h ⟨rfl, rfl, rfl, trivial⟩
  · have h := h.2 c
    refine V_iload_n (pc := 28) dX12_quarrels_28 rfl ?_
    refine V_if_ne (tgt := 80) (pc := 29) dX12_quarrels_29 rfl (fun c => ?_) (fun c => ?_)
    · have h := h.1 c
      refine V_iconst (v := 1) (pc := 80) dX12_quarrels_80 rfl ?_
      refine V_goto (tgt := 85) (pc := 81) dX12_quarrels_81 rfl ?_
      refine V_istore_n (pc := 85) dX12_quarrels_85 (by decide) ?_
      refine V_iinc (pc := 86) dX12_quarrels_86 rfl (by decide) ?_
      refine V_goto (tgt := 22) (pc := 89) dX12_quarrels_89 rfl ?_
      exact V_sub h ⟨rfl, rfl, rfl, rfl, rfl, trivial⟩
    · have h := h.2 c
      refine V_aload_n (pc := 32) dX12_quarrels_32 rfl ?_
      refine V_getR (pc := 33) fX12_53 sM0 rfl dX12_quarrels_33 ?_
      refine V_iload_n (pc := 36) dX12_quarrels_36 rfl ?_
      refine V_iald (pc := 37) sM15 dX12_quarrels_37 h.1 ?_
      have h := h.2
      refine V_aload_n (pc := 38) dX12_quarrels_38 rfl ?_
      refine V_getR (pc := 39) fX12_53 sM0 rfl dX12_quarrels_39 ?_
      refine V_iload (pc := 42) dX12_quarrels_42 rfl ?_
      refine V_iald (pc := 44) sM15 dX12_quarrels_44 h.1 ?_
      have h := h.2
      refine V_icmp_ne (tgt := 84) (pc := 45) dX12_quarrels_45 rfl (fun c => ?_) (fun c => ?_)
      · have h := h.1 c
        refine V_iconst (v := 0) (pc := 84) dX12_quarrels_84 rfl ?_
        refine V_istore_n (pc := 85) dX12_quarrels_85 (by decide) ?_
        refine V_iinc (pc := 86) dX12_quarrels_86 rfl (by decide) ?_
        refine V_goto (tgt := 22) (pc := 89) dX12_quarrels_89 rfl ?_
        exact V_sub h ⟨rfl, rfl, rfl, rfl, rfl, trivial⟩
      · have h := h.2 c
        refine V_aload_n (pc := 48) dX12_quarrels_48 rfl ?_
        refine V_getR (pc := 49) fX12_56 sM0 rfl dX12_quarrels_49 ?_
        refine V_iload_n (pc := 52) dX12_quarrels_52 rfl ?_
        refine V_iald (pc := 53) sM16 dX12_quarrels_53 h.1 ?_
        have h := h.2
        refine V_aload_n (pc := 54) dX12_quarrels_54 rfl ?_
        refine V_getR (pc := 55) fX12_56 sM0 rfl dX12_quarrels_55 ?_
        refine V_iload (pc := 58) dX12_quarrels_58 rfl ?_
        refine V_iald (pc := 60) sM16 dX12_quarrels_60 h.1 ?_
        have h := h.2
        refine V_icmp_ne (tgt := 84) (pc := 61) dX12_quarrels_61 rfl (fun c => ?_) (fun c => ?_)
        · have h := h.1 c
          refine V_iconst (v := 0) (pc := 84) dX12_quarrels_84 rfl ?_
          refine V_istore_n (pc := 85) dX12_quarrels_85 (by decide) ?_
          refine V_iinc (pc := 86) dX12_quarrels_86 rfl (by decide) ?_
          refine V_goto (tgt := 22) (pc := 89) dX12_quarrels_89 rfl ?_
          exact V_sub h ⟨rfl, rfl, rfl, rfl, rfl, trivial⟩
        · have h := h.2 c
          refine V_aload_n (pc := 64) dX12_quarrels_64 rfl ?_
          refine V_getR (pc := 65) fX12_59 sM0 rfl dX12_quarrels_65 ?_
          refine V_iload_n (pc := 68) dX12_quarrels_68 rfl ?_
          refine V_iald (pc := 69) sM17 dX12_quarrels_69 h.1 ?_
          have h := h.2
          refine V_aload_n (pc := 70) dX12_quarrels_70 rfl ?_
          refine V_getR (pc := 71) fX12_59 sM0 rfl dX12_quarrels_71 ?_
          refine V_iload (pc := 74) dX12_quarrels_74 rfl ?_
          refine V_iald (pc := 76) sM17 dX12_quarrels_76 h.1 ?_
          have h := h.2
          refine V_icmp_ne (tgt := 84) (pc := 77) dX12_quarrels_77 rfl (fun c => ?_) (fun c => ?_)
          · have h := h.1 c
            refine V_iconst (v := 0) (pc := 84) dX12_quarrels_84 rfl ?_
            refine V_istore_n (pc := 85) dX12_quarrels_85 (by decide) ?_
            refine V_iinc (pc := 86) dX12_quarrels_86 rfl (by decide) ?_
            refine V_goto (tgt := 22) (pc := 89) dX12_quarrels_89 rfl ?_
            exact V_sub h ⟨rfl, rfl, rfl, rfl, rfl, trivial⟩
          · have h := h.2 c
            refine V_iconst (v := 1) (pc := 80) dX12_quarrels_80 rfl ?_
            refine V_goto (tgt := 85) (pc := 81) dX12_quarrels_81 rfl ?_
            refine V_istore_n (pc := 85) dX12_quarrels_85 (by decide) ?_
            refine V_iinc (pc := 86) dX12_quarrels_86 rfl (by decide) ?_
            refine V_goto (tgt := 22) (pc := 89) dX12_quarrels_89 rfl ?_
            exact V_sub h ⟨rfl, rfl, rfl, rfl, rfl, trivial⟩
theorem wp_X12_status {G : GV} {k : Nat} {M : Mem} {q : Int32 → Mem → Prop}  (h : q (M.1 0 1) (mset M 0 0 0)) : Ci shM G mX12_status k [.ref (G.2.1 0)] M q := by
  unfold Ci
  show V _ _ _ _ _ [(0, .ref (G.2.1 0))] _ _ _
  refine V_aload_n (pc := 0) dX12_status_0 rfl ?_
  refine V_iconst (v := 0) (pc := 1) dX12_status_1 rfl ?_
  refine V_putI (pc := 2) fX12_108 p12_0 sM0 rfl dX12_status_2 ?_
  refine V_aload_n (pc := 5) dX12_status_5 rfl ?_
  refine V_getI (pc := 6) fX12_112 sM0 rfl dX12_status_6 ?_
  refine V_top (v := (M.1 0 1)) (by simp [mset, lset, upd]) ?_
  exact V_iret dX12_status_9 rfl h
theorem wp_X12_todayOf {G : GV} {k : Nat} {M : Mem} {q : Int32 → Mem → Prop} {v1 : Int32} {v2 : Int32} {v3 : Int32} (h : V shM G mX12_todayOf k 9 [(0, .ref (G.2.1 0)), (1, .int v1), (2, .int v2), (3, .int v3), (4, .int v2), (5, .int 0), (6, .int 1)] [] M (Qi q)) : Ci shM G mX12_todayOf k [.ref (G.2.1 0), .int v1, .int v2, .int v3] M q := by
  unfold Ci
  show V _ _ _ _ _ [(0, .ref (G.2.1 0)), (1, .int v1), (2, .int v2), (3, .int v3)] _ _ _
  refine V_iload_n (pc := 0) dX12_todayOf_0 rfl ?_
  refine V_istore (pc := 1) dX12_todayOf_1 (by decide) ?_
  refine V_iconst (v := 0) (pc := 3) dX12_todayOf_3 rfl ?_
  refine V_istore (pc := 4) dX12_todayOf_4 (by decide) ?_
  refine V_iconst (v := 1) (pc := 6) dX12_todayOf_6 rfl ?_
  refine V_istore (pc := 7) dX12_todayOf_7 (by decide) ?_
  exact V_sub h ⟨rfl, rfl, rfl, rfl, rfl, rfl, rfl, trivial⟩
theorem wp_X12_todayOf_9 {G : GV} {k : Nat} {M : Mem} {q : Int32 → Mem → Prop} {v1 : Int32} {v2 : Int32} {v3 : Int32} {v4 : Int32} {v5 : Int32} {v6 : Int32} (h : ((v6 = 0 → q v4 M) ∧ (¬ v6 = 0 → V shM G mX12_todayOf k 21 [(0, .ref (G.2.1 0)), (1, .int v1), (2, .int v2), (3, .int v3), (4, .int v4), (5, .int v5), (6, .int v6), (7, .int (-1000000)), (8, .int 0)] [] M (Qi q)))) : V shM G mX12_todayOf k 9 [(0, .ref (G.2.1 0)), (1, .int v1), (2, .int v2), (3, .int v3), (4, .int v4), (5, .int v5), (6, .int v6)] [] M (Qi q) := by
  refine V_iload (pc := 9) dX12_todayOf_9 rfl ?_
  refine V_if_eq (tgt := 158) (pc := 11) dX12_todayOf_11 rfl (fun c => ?_) (fun c => ?_)
  · have h := h.1 c
    refine V_iload (pc := 158) dX12_todayOf_158 rfl ?_
    exact V_iret dX12_todayOf_160 rfl h
  · have h := h.2 c
    refine V_ldc (pc := 14) dX12_todayOf_14 nX12_144 ?_
    refine V_istore (pc := 16) dX12_todayOf_16 (by decide) ?_
    refine V_iconst (v := 0) (pc := 18) dX12_todayOf_18 rfl ?_
    refine V_istore (pc := 19) dX12_todayOf_19 (by decide) ?_
    exact V_sub h ⟨rfl, rfl, rfl, rfl, rfl, rfl, rfl, rfl, rfl, trivial⟩
theorem wp_X12_todayOf_21 {G : GV} {k : Nat} {M : Mem} {q : Int32 → Mem → Prop} {v1 : Int32} {v2 : Int32} {v3 : Int32} {v4 : Int32} {v5 : Int32} {v6 : Int32} {v7 : Int32} {v8 : Int32} (h : (((M.1 0 18) ≤ v8 → ((v7 = (-1000000) → V shM G mX12_todayOf k 9 [(0, .ref (G.2.1 0)), (1, .int v1), (2, .int v2), (3, .int v3), (4, .int v4), (5, .int v5), (6, .int 0)] [] M (Qi q)) ∧ (¬ v7 = (-1000000) → vp_in v7 20 ∧ (((M.1 16 (ix v7)) ≠ v1 → V shM G mX12_todayOf k 9 [(0, .ref (G.2.1 0)), (1, .int v1), (2, .int v2), (3, .int v3), (4, .int v4), (5, .int (v5 ||| (1 <<< (v7 &&& 31)))), (6, .int 1)] [] M (Qi q)) ∧ ((M.1 16 (ix v7)) = v1 → vp_in v7 20 ∧ (((M.1 17 (ix v7)) ≠ v4 → V shM G mX12_todayOf k 9 [(0, .ref (G.2.1 0)), (1, .int v1), (2, .int v2), (3, .int v3), (4, .int v4), (5, .int (v5 ||| (1 <<< (v7 &&& 31)))), (6, .int 1)] [] M (Qi q)) ∧ ((M.1 17 (ix v7)) = v4 → vp_in v7 20 ∧ V shM G mX12_todayOf k 9 [(0, .ref (G.2.1 0)), (1, .int v1), (2, .int v2), (3, .int v3), (4, .int (M.1 18 (ix v7))), (5, .int (v5 ||| (1 <<< (v7 &&& 31)))), (6, .int 1)] [] M (Qi q)))))))) ∧ (¬ (M.1 0 18) ≤ v8 → vp_in v8 20 ∧ (((M.1 15 (ix v8)) ≤ v3 → V shM G mX12_todayOf k 21 [(0, .ref (G.2.1 0)), (1, .int v1), (2, .int v2), (3, .int v3), (4, .int v4), (5, .int v5), (6, .int v6), (7, .int v7), (8, .int (v8 + 1))] [] M (Qi q)) ∧ (¬ (M.1 15 (ix v8)) ≤ v3 → ((((v5 >>> (v8 &&& 31)) &&& 1) ≠ 0 → V shM G mX12_todayOf k 21 [(0, .ref (G.2.1 0)), (1, .int v1), (2, .int v2), (3, .int v3), (4, .int v4), (5, .int v5), (6, .int v6), (7, .int v7), (8, .int (v8 + 1))] [] M (Qi q)) ∧ (((v5 >>> (v8 &&& 31)) &&& 1) = 0 → ((v7 = (-1000000) → V shM G mX12_todayOf k 21 [(0, .ref (G.2.1 0)), (1, .int v1), (2, .int v2), (3, .int v3), (4, .int v4), (5, .int v5), (6, .int v6), (7, .int v8), (8, .int (v8 + 1))] [] M (Qi q)) ∧ (¬ v7 = (-1000000) → vp_in v8 20 ∧ vp_in v7 20 ∧ (((M.1 15 (ix v7)) ≤ (M.1 15 (ix v8)) → V shM G mX12_todayOf k 21 [(0, .ref (G.2.1 0)), (1, .int v1), (2, .int v2), (3, .int v3), (4, .int v4), (5, .int v5), (6, .int v6), (7, .int v7), (8, .int (v8 + 1))] [] M (Qi q)) ∧ (¬ (M.1 15 (ix v7)) ≤ (M.1 15 (ix v8)) → V shM G mX12_todayOf k 21 [(0, .ref (G.2.1 0)), (1, .int v1), (2, .int v2), (3, .int v3), (4, .int v4), (5, .int v5), (6, .int v6), (7, .int v8), (8, .int (v8 + 1))] [] M (Qi q)))))))))))) : V shM G mX12_todayOf k 21 [(0, .ref (G.2.1 0)), (1, .int v1), (2, .int v2), (3, .int v3), (4, .int v4), (5, .int v5), (6, .int v6), (7, .int v7), (8, .int v8)] [] M (Qi q) := by
  refine V_iload (pc := 21) dX12_todayOf_21 rfl ?_
  refine V_aload_n (pc := 23) dX12_todayOf_23 rfl ?_
  refine V_getI (pc := 24) fX12_230 sM0 rfl dX12_todayOf_24 ?_
  refine V_icmp_ge (tgt := 90) (pc := 27) dX12_todayOf_27 rfl (fun c => ?_) (fun c => ?_)
  · have h := h.1 c
    refine V_iload (pc := 90) dX12_todayOf_90 rfl ?_
    refine V_ldc (pc := 92) dX12_todayOf_92 nX12_144 ?_
    refine V_icmp_eq (tgt := 101) (pc := 94) dX12_todayOf_94 rfl (fun c => ?_) (fun c => ?_)
    · have h := h.1 c
      refine V_iconst (v := 0) (pc := 101) dX12_todayOf_101 rfl ?_
      refine V_istore (pc := 102) dX12_todayOf_102 (by decide) ?_
      refine V_iload (pc := 104) dX12_todayOf_104 rfl ?_
      refine V_if_eq (tgt := 155) (pc := 106) dX12_todayOf_106 rfl (fun c => ?_) (fun c => ?_)
      · skip
        refine V_goto (tgt := 9) (pc := 155) dX12_todayOf_155 rfl ?_
        exact V_sub h ⟨rfl, rfl, rfl, rfl, rfl, rfl, rfl, trivial⟩
      · exact absurd c (by decide)
    · have h := h.2 c
      refine V_iconst (v := 1) (pc := 97) dX12_todayOf_97 rfl ?_
      refine V_goto (tgt := 102) (pc := 98) dX12_todayOf_98 rfl ?_
      refine V_istore (pc := 102) dX12_todayOf_102 (by decide) ?_
      refine V_iload (pc := 104) dX12_todayOf_104 rfl ?_
      refine V_if_eq (tgt := 155) (pc := 106) dX12_todayOf_106 rfl (fun c => ?_) (fun c => ?_)
      · exact absurd c (by decide)
      · skip
        refine V_iload (pc := 109) dX12_todayOf_109 rfl ?_
        refine V_iconst (v := 1) (pc := 111) dX12_todayOf_111 rfl ?_
        refine V_iload (pc := 112) dX12_todayOf_112 rfl ?_
        refine V_ishl (pc := 114) dX12_todayOf_114 ?_
        refine V_ior (pc := 115) dX12_todayOf_115 ?_
        refine V_istore (pc := 116) dX12_todayOf_116 (by decide) ?_
        refine V_aload_n (pc := 118) dX12_todayOf_118 rfl ?_
        refine V_getR (pc := 119) fX12_56 sM0 rfl dX12_todayOf_119 ?_
        refine V_iload (pc := 122) dX12_todayOf_122 rfl ?_
        refine V_iald (pc := 124) sM16 dX12_todayOf_124 h.1 ?_
        have h := h.2
        refine V_iload_n (pc := 125) dX12_todayOf_125 rfl ?_
        refine V_icmp_ne (tgt := 151) (pc := 126) dX12_todayOf_126 rfl (fun c => ?_) (fun c => ?_)
        · have h := h.1 c
          refine V_iload (pc := 151) dX12_todayOf_151 rfl ?_
          refine V_istore (pc := 153) dX12_todayOf_153 (by decide) ?_
          refine V_goto (tgt := 9) (pc := 155) dX12_todayOf_155 rfl ?_
          exact V_sub h ⟨rfl, rfl, rfl, rfl, rfl, rfl, rfl, trivial⟩
        · have h := h.2 c
          refine V_aload_n (pc := 129) dX12_todayOf_129 rfl ?_
          refine V_getR (pc := 130) fX12_59 sM0 rfl dX12_todayOf_130 ?_
          refine V_iload (pc := 133) dX12_todayOf_133 rfl ?_
          refine V_iald (pc := 135) sM17 dX12_todayOf_135 h.1 ?_
          have h := h.2
          refine V_iload (pc := 136) dX12_todayOf_136 rfl ?_
          refine V_icmp_ne (tgt := 151) (pc := 138) dX12_todayOf_138 rfl (fun c => ?_) (fun c => ?_)
          · have h := h.1 c
            refine V_iload (pc := 151) dX12_todayOf_151 rfl ?_
            refine V_istore (pc := 153) dX12_todayOf_153 (by decide) ?_
            refine V_goto (tgt := 9) (pc := 155) dX12_todayOf_155 rfl ?_
            exact V_sub h ⟨rfl, rfl, rfl, rfl, rfl, rfl, rfl, trivial⟩
          · have h := h.2 c
            refine V_aload_n (pc := 141) dX12_todayOf_141 rfl ?_
            refine V_getR (pc := 142) fX12_62 sM0 rfl dX12_todayOf_142 ?_
            refine V_iload (pc := 145) dX12_todayOf_145 rfl ?_
            refine V_iald (pc := 147) sM18 dX12_todayOf_147 h.1 ?_
            have h := h.2
            refine V_goto (tgt := 153) (pc := 148) dX12_todayOf_148 rfl ?_
            refine V_istore (pc := 153) dX12_todayOf_153 (by decide) ?_
            refine V_goto (tgt := 9) (pc := 155) dX12_todayOf_155 rfl ?_
            exact V_sub h ⟨rfl, rfl, rfl, rfl, rfl, rfl, rfl, trivial⟩
  · have h := h.2 c
    refine V_aload_n (pc := 30) dX12_todayOf_30 rfl ?_
    refine V_getR (pc := 31) fX12_53 sM0 rfl dX12_todayOf_31 ?_
    refine V_iload (pc := 34) dX12_todayOf_34 rfl ?_
    refine V_iald (pc := 36) sM15 dX12_todayOf_36 h.1 ?_
    have h := h.2
    refine V_iload_n (pc := 37) dX12_todayOf_37 rfl ?_
    refine V_icmp_le (tgt := 84) (pc := 38) dX12_todayOf_38 rfl (fun c => ?_) (fun c => ?_)
    · have h := h.1 c
      refine V_iinc (pc := 84) dX12_todayOf_84 rfl (by decide) ?_
      refine V_goto (tgt := 21) (pc := 87) dX12_todayOf_87 rfl ?_
      exact V_sub h ⟨rfl, rfl, rfl, rfl, rfl, rfl, rfl, rfl, rfl, trivial⟩
    · have h := h.2 c
      refine V_iload (pc := 41) dX12_todayOf_41 rfl ?_
      refine V_iload (pc := 43) dX12_todayOf_43 rfl ?_
      refine V_ishr (pc := 45) dX12_todayOf_45 ?_
      refine V_iconst (v := 1) (pc := 46) dX12_todayOf_46 rfl ?_
      refine V_iand (pc := 47) dX12_todayOf_47 ?_
      refine V_if_ne (tgt := 84) (pc := 48) dX12_todayOf_48 rfl (fun c => ?_) (fun c => ?_)
      · have h := h.1 c
        refine V_iinc (pc := 84) dX12_todayOf_84 rfl (by decide) ?_
        refine V_goto (tgt := 21) (pc := 87) dX12_todayOf_87 rfl ?_
        exact V_sub h ⟨rfl, rfl, rfl, rfl, rfl, rfl, rfl, rfl, rfl, trivial⟩
      · have h := h.2 c
        refine V_iload (pc := 51) dX12_todayOf_51 rfl ?_
        refine V_ldc (pc := 53) dX12_todayOf_53 nX12_144 ?_
        refine V_icmp_eq (tgt := 75) (pc := 55) dX12_todayOf_55 rfl (fun c => ?_) (fun c => ?_)
        · have h := h.1 c
          refine V_iload (pc := 75) dX12_todayOf_75 rfl ?_
          refine V_goto (tgt := 82) (pc := 77) dX12_todayOf_77 rfl ?_
          refine V_istore (pc := 82) dX12_todayOf_82 (by decide) ?_
          refine V_iinc (pc := 84) dX12_todayOf_84 rfl (by decide) ?_
          refine V_goto (tgt := 21) (pc := 87) dX12_todayOf_87 rfl ?_
          exact V_sub h ⟨rfl, rfl, rfl, rfl, rfl, rfl, rfl, rfl, rfl, trivial⟩
        · have h := h.2 c
          refine V_aload_n (pc := 58) dX12_todayOf_58 rfl ?_
          refine V_getR (pc := 59) fX12_53 sM0 rfl dX12_todayOf_59 ?_
          refine V_iload (pc := 62) dX12_todayOf_62 rfl ?_
          refine V_iald (pc := 64) sM15 dX12_todayOf_64 h.1 ?_
          have h := h.2
          refine V_aload_n (pc := 65) dX12_todayOf_65 rfl ?_
          refine V_getR (pc := 66) fX12_53 sM0 rfl dX12_todayOf_66 ?_
          refine V_iload (pc := 69) dX12_todayOf_69 rfl ?_
          refine V_iald (pc := 71) sM15 dX12_todayOf_71 h.1 ?_
          have h := h.2
          refine V_icmp_ge (tgt := 80) (pc := 72) dX12_todayOf_72 rfl (fun c => ?_) (fun c => ?_)
          · have h := h.1 c
            refine V_iload (pc := 80) dX12_todayOf_80 rfl ?_
            refine V_istore (pc := 82) dX12_todayOf_82 (by decide) ?_
            refine V_iinc (pc := 84) dX12_todayOf_84 rfl (by decide) ?_
            refine V_goto (tgt := 21) (pc := 87) dX12_todayOf_87 rfl ?_
            exact V_sub h ⟨rfl, rfl, rfl, rfl, rfl, rfl, rfl, rfl, rfl, trivial⟩
          · have h := h.2 c
            refine V_iload (pc := 75) dX12_todayOf_75 rfl ?_
            refine V_goto (tgt := 82) (pc := 77) dX12_todayOf_77 rfl ?_
            refine V_istore (pc := 82) dX12_todayOf_82 (by decide) ?_
            refine V_iinc (pc := 84) dX12_todayOf_84 rfl (by decide) ?_
            refine V_goto (tgt := 21) (pc := 87) dX12_todayOf_87 rfl ?_
            exact V_sub h ⟨rfl, rfl, rfl, rfl, rfl, rfl, rfl, rfl, rfl, trivial⟩
theorem wp_X12_word {G : GV} {k : Nat} {M : Mem} {q : Int64 → Mem → Prop}  (h : V shM G mX12_word k 7 [(0, .ref (G.2.1 0)), (1, .long 0), (3, .int (M.1 0 34))] [] M (Ql q)) : Cl shM G mX12_word k [.ref (G.2.1 0)] M q := by
  unfold Cl
  show V _ _ _ _ _ [(0, .ref (G.2.1 0))] _ _ _
  refine V_lconst (v := 0) (pc := 0) dX12_word_0 rfl ?_
  refine V_lstore_n (pc := 1) dX12_word_1 (by decide) ?_
  refine V_aload_n (pc := 2) dX12_word_2 rfl ?_
  refine V_getI (pc := 3) fX12_151 sM0 rfl dX12_word_3 ?_
  refine V_istore_n (pc := 6) dX12_word_6 (by decide) ?_
  exact V_sub h ⟨rfl, rfl, rfl, trivial⟩
theorem wp_X12_word_7 {G : GV} {k : Nat} {M : Mem} {q : Int64 → Mem → Prop} {v1 : Int64} {v3 : Int32} (h : (((M.1 0 35) ≤ v3 → q v1 M) ∧ (¬ (M.1 0 35) ≤ v3 → (((M.1 0 33) ≠ 2 → q v1 M) ∧ ((M.1 0 33) = 2 → ((8 ≤ ((M.1 0 35) - (M.1 0 34)) → q v1 M) ∧ (¬ 8 ≤ ((M.1 0 35) - (M.1 0 34)) → vp_in v3 600 ∧ V shM G mX12_word k 7 [(0, .ref (G.2.1 0)), (1, .long ((v1 <<< (Int32.toInt64 8 &&& 63)) ||| (Int32.toInt64 (M.1 23 (ix v3))))), (3, .int (v3 + 1))] [] M (Ql q)))))))) : V shM G mX12_word k 7 [(0, .ref (G.2.1 0)), (1, .long v1), (3, .int v3)] [] M (Ql q) := by
  refine V_iload_n (pc := 7) dX12_word_7 rfl ?_
  refine V_aload_n (pc := 8) dX12_word_8 rfl ?_
  refine V_getI (pc := 9) fX12_163 sM0 rfl dX12_word_9 ?_
  refine V_icmp_ge (tgt := 56) (pc := 12) dX12_word_12 rfl (fun c => ?_) (fun c => ?_)
  · have h := h.1 c
    refine V_lload_n (pc := 56) dX12_word_56 rfl ?_
    exact V_lret dX12_word_57 rfl h
  · have h := h.2 c
    refine V_aload_n (pc := 15) dX12_word_15 rfl ?_
    refine V_getI (pc := 16) fX12_154 sM0 rfl dX12_word_16 ?_
    refine V_iconst (v := 2) (pc := 19) dX12_word_19 rfl ?_
    refine V_icmp_ne (tgt := 56) (pc := 20) dX12_word_20 rfl (fun c => ?_) (fun c => ?_)
    · have h := h.1 c
      refine V_lload_n (pc := 56) dX12_word_56 rfl ?_
      exact V_lret dX12_word_57 rfl h
    · have h := h.2 c
      refine V_aload_n (pc := 23) dX12_word_23 rfl ?_
      refine V_getI (pc := 24) fX12_163 sM0 rfl dX12_word_24 ?_
      refine V_aload_n (pc := 27) dX12_word_27 rfl ?_
      refine V_getI (pc := 28) fX12_151 sM0 rfl dX12_word_28 ?_
      refine V_isub (pc := 31) dX12_word_31 ?_
      refine V_bipush (v := 8) (pc := 32) dX12_word_32 rfl ?_
      refine V_icmp_ge (tgt := 56) (pc := 34) dX12_word_34 rfl (fun c => ?_) (fun c => ?_)
      · have h := h.1 c
        refine V_lload_n (pc := 56) dX12_word_56 rfl ?_
        exact V_lret dX12_word_57 rfl h
      · have h := h.2 c
        refine V_lload_n (pc := 37) dX12_word_37 rfl ?_
        refine V_bipush (v := 8) (pc := 38) dX12_word_38 rfl ?_
        refine V_lshl (pc := 40) dX12_word_40 ?_
        refine V_aload_n (pc := 41) dX12_word_41 rfl ?_
        refine V_getR (pc := 42) fX12_77 sM0 rfl dX12_word_42 ?_
        refine V_iload_n (pc := 45) dX12_word_45 rfl ?_
        refine V_iald (pc := 46) sM23 dX12_word_46 h.1 ?_
        have h := h.2
        refine V_i2l (pc := 47) dX12_word_47 ?_
        refine V_lor (pc := 48) dX12_word_48 ?_
        refine V_lstore_n (pc := 49) dX12_word_49 (by decide) ?_
        refine V_iinc (pc := 50) dX12_word_50 rfl (by decide) ?_
        refine V_goto (tgt := 7) (pc := 53) dX12_word_53 rfl ?_
        exact V_sub h ⟨rfl, rfl, rfl, trivial⟩
theorem wp_X12_doorOf {G : GV} {k : Nat} {M : Mem} {q : Int32 → Mem → Prop} {v1 : Int32} (h : vp_in v1 12 ∧ vp_in v1 12 ∧ Ci shM G mX12_gathered k [.ref (G.2.1 0), .int v1] M (fun x1 M1 => Ci shM G mX12_todayOf k [.ref (G.2.1 0), .int (M.1 10 (ix v1)), .int (M.1 11 (ix v1)), .int x1] M1 (fun x2 M2 => q x2 M2))) : Ci shM G mX12_doorOf (k + 1) [.ref (G.2.1 0), .int v1] M q := by
  unfold Ci
  show V _ _ _ _ _ [(0, .ref (G.2.1 0)), (1, .int v1)] _ _ _
  refine V_aload_n (pc := 0) dX12_doorOf_0 rfl ?_
  refine V_aload_n (pc := 1) dX12_doorOf_1 rfl ?_
  refine V_getR (pc := 2) fX12_38 sM0 rfl dX12_doorOf_2 ?_
  refine V_iload_n (pc := 5) dX12_doorOf_5 rfl ?_
  refine V_iald (pc := 6) sM10 dX12_doorOf_6 h.1 ?_
  have h := h.2
  refine V_aload_n (pc := 7) dX12_doorOf_7 rfl ?_
  refine V_getR (pc := 8) fX12_41 sM0 rfl dX12_doorOf_8 ?_
  refine V_iload_n (pc := 11) dX12_doorOf_11 rfl ?_
  refine V_iald (pc := 12) sM11 dX12_doorOf_12 h.1 ?_
  have h := h.2
  refine V_aload_n (pc := 13) dX12_doorOf_13 rfl ?_
  refine V_iload_n (pc := 14) dX12_doorOf_14 rfl ?_
  refine V_callVi [.int v1] (pc := 15) kX12_gathered lX12_246 sM0 rfl rfl (Nat.le_of_ble_eq_true rfl) rfl (Nat.le_of_ble_eq_true rfl) dX12_doorOf_15 ?_
  refine Ci.mono h ?_
  intro x1 M1 h
  refine V_callVi [.int (M.1 10 (ix v1)), .int (M.1 11 (ix v1)), .int x1] (pc := 18) kX12_todayOf lX12_249 sM0 rfl rfl (Nat.le_of_ble_eq_true rfl) rfl (Nat.le_of_ble_eq_true rfl) dX12_doorOf_18 ?_
  refine Ci.mono h ?_
  intro x2 M2 h
  exact V_iret dX12_doorOf_21 rfl h
theorem wp_X12_earOf {G : GV} {k : Nat} {M : Mem} {q : Int32 → Mem → Prop} {v1 : Int32} (h : V shM G mX12_earOf (k + 1) 10 [(0, .ref (G.2.1 0)), (1, .int v1), (2, .int 0), (3, .int 0), (4, .int 0), (5, .int 1)] [] M (Qi q)) : Ci shM G mX12_earOf (k + 1) [.ref (G.2.1 0), .int v1] M q := by
  unfold Ci
  show V _ _ _ _ _ [(0, .ref (G.2.1 0)), (1, .int v1)] _ _ _
  refine V_iconst (v := 0) (pc := 0) dX12_earOf_0 rfl ?_
  refine V_istore_n (pc := 1) dX12_earOf_1 (by decide) ?_
  refine V_iconst (v := 0) (pc := 2) dX12_earOf_2 rfl ?_
  refine V_istore_n (pc := 3) dX12_earOf_3 (by decide) ?_
  refine V_iconst (v := 0) (pc := 4) dX12_earOf_4 rfl ?_
  refine V_istore (pc := 5) dX12_earOf_5 (by decide) ?_
  refine V_iconst (v := 1) (pc := 7) dX12_earOf_7 rfl ?_
  refine V_istore (pc := 8) dX12_earOf_8 (by decide) ?_
  exact V_sub h ⟨rfl, rfl, rfl, rfl, rfl, rfl, trivial⟩
theorem wp_X12_earOf_10 {G : GV} {k : Nat} {M : Mem} {q : Int32 → Mem → Prop} {v1 : Int32} {v2 : Int32} {v3 : Int32} {v4 : Int32} {v5 : Int32} (h : vp_in v1 12 ∧ (((M.1 13 (ix v1)) ≤ v5 → V shM G mX12_earOf (k + 1) 76 [(0, .ref (G.2.1 0)), (1, .int v1), (2, .int v2), (3, .int v3), (4, .int v4), (5, .int v5)] [] M (Qi q)) ∧ (¬ (M.1 13 (ix v1)) ≤ v5 → vp_in ((8 * v1) + v5) 96 ∧ Ci shM G mX12_codeOf k [.int (M.1 14 (ix ((8 * v1) + v5)))] M (fun x1 M1 => ((x1 ≤ 0 → V shM G mX12_earOf (k + 1) 10 [(0, .ref (G.2.1 0)), (1, .int v1), (2, .int v2), (3, .int v3), (4, .int v4), (5, .int (v5 + 1))] [] M1 (Qi q)) ∧ (¬ x1 ≤ 0 → ((x1 = v4 → V shM G mX12_earOf (k + 1) 10 [(0, .ref (G.2.1 0)), (1, .int v1), (2, .int v2), (3, .int v3), (4, .int x1), (5, .int (v5 + 1))] [] M1 (Qi q)) ∧ (¬ x1 = v4 → ((3 ≤ v3 → V shM G mX12_earOf (k + 1) 10 [(0, .ref (G.2.1 0)), (1, .int v1), (2, .int v2), (3, .int v3), (4, .int x1), (5, .int (v5 + 1))] [] M1 (Qi q)) ∧ (¬ 3 ≤ v3 → V shM G mX12_earOf (k + 1) 10 [(0, .ref (G.2.1 0)), (1, .int v1), (2, .int ((10 * v2) + x1)), (3, .int (v3 + 1)), (4, .int x1), (5, .int (v5 + 1))] [] M1 (Qi q))))))))))) : V shM G mX12_earOf (k + 1) 10 [(0, .ref (G.2.1 0)), (1, .int v1), (2, .int v2), (3, .int v3), (4, .int v4), (5, .int v5)] [] M (Qi q) := by
  refine V_iload (pc := 10) dX12_earOf_10 rfl ?_
  refine V_aload_n (pc := 12) dX12_earOf_12 rfl ?_
  refine V_getR (pc := 13) fX12_47 sM0 rfl dX12_earOf_13 ?_
  refine V_iload_n (pc := 16) dX12_earOf_16 rfl ?_
  refine V_iald (pc := 17) sM13 dX12_earOf_17 h.1 ?_
  have h := h.2
  refine V_icmp_ge (tgt := 76) (pc := 18) dX12_earOf_18 rfl (fun c => ?_) (fun c => ?_)
  · have h := h.1 c
    exact V_sub h ⟨rfl, rfl, rfl, rfl, rfl, rfl, trivial⟩
  · have h := h.2 c
    refine V_aload_n (pc := 21) dX12_earOf_21 rfl ?_
    refine V_getR (pc := 22) fX12_50 sM0 rfl dX12_earOf_22 ?_
    refine V_bipush (v := 8) (pc := 25) dX12_earOf_25 rfl ?_
    refine V_iload_n (pc := 27) dX12_earOf_27 rfl ?_
    refine V_imul (pc := 28) dX12_earOf_28 ?_
    refine V_iload (pc := 29) dX12_earOf_29 rfl ?_
    refine V_iadd (pc := 31) dX12_earOf_31 ?_
    refine V_iald (pc := 32) sM14 dX12_earOf_32 h.1 ?_
    have h := h.2
    refine V_callSi [.int (M.1 14 (ix ((8 * v1) + v5)))] (pc := 33) kX12_codeOf lX12_273 rfl (Nat.le_of_ble_eq_true rfl) rfl (Nat.le_of_ble_eq_true rfl) dX12_earOf_33 ?_
    refine Ci.mono h ?_
    intro x1 M1 h
    refine V_istore (pc := 36) dX12_earOf_36 (by decide) ?_
    refine V_iload (pc := 38) dX12_earOf_38 rfl ?_
    refine V_if_le (tgt := 70) (pc := 40) dX12_earOf_40 rfl (fun c => ?_) (fun c => ?_)
    · have h := h.1 c
      refine V_iinc (pc := 70) dX12_earOf_70 rfl (by decide) ?_
      refine V_goto (tgt := 10) (pc := 73) dX12_earOf_73 rfl ?_
      exact V_sub h ⟨rfl, rfl, rfl, rfl, rfl, rfl, trivial⟩
    · have h := h.2 c
      refine V_iload (pc := 43) dX12_earOf_43 rfl ?_
      refine V_iload (pc := 45) dX12_earOf_45 rfl ?_
      refine V_icmp_eq (tgt := 66) (pc := 47) dX12_earOf_47 rfl (fun c => ?_) (fun c => ?_)
      · have h := h.1 c
        refine V_iload (pc := 66) dX12_earOf_66 rfl ?_
        refine V_istore (pc := 68) dX12_earOf_68 (by decide) ?_
        refine V_iinc (pc := 70) dX12_earOf_70 rfl (by decide) ?_
        refine V_goto (tgt := 10) (pc := 73) dX12_earOf_73 rfl ?_
        exact V_sub h ⟨rfl, rfl, rfl, rfl, rfl, rfl, trivial⟩
      · have h := h.2 c
        refine V_iload_n (pc := 50) dX12_earOf_50 rfl ?_
        refine V_iconst (v := 3) (pc := 51) dX12_earOf_51 rfl ?_
        refine V_icmp_ge (tgt := 66) (pc := 52) dX12_earOf_52 rfl (fun c => ?_) (fun c => ?_)
        · have h := h.1 c
          refine V_iload (pc := 66) dX12_earOf_66 rfl ?_
          refine V_istore (pc := 68) dX12_earOf_68 (by decide) ?_
          refine V_iinc (pc := 70) dX12_earOf_70 rfl (by decide) ?_
          refine V_goto (tgt := 10) (pc := 73) dX12_earOf_73 rfl ?_
          exact V_sub h ⟨rfl, rfl, rfl, rfl, rfl, rfl, trivial⟩
        · have h := h.2 c
          refine V_bipush (v := 10) (pc := 55) dX12_earOf_55 rfl ?_
          refine V_iload_n (pc := 57) dX12_earOf_57 rfl ?_
          refine V_imul (pc := 58) dX12_earOf_58 ?_
          refine V_iload (pc := 59) dX12_earOf_59 rfl ?_
          refine V_iadd (pc := 61) dX12_earOf_61 ?_
          refine V_istore_n (pc := 62) dX12_earOf_62 (by decide) ?_
          refine V_iinc (pc := 63) dX12_earOf_63 rfl (by decide) ?_
          refine V_iload (pc := 66) dX12_earOf_66 rfl ?_
          refine V_istore (pc := 68) dX12_earOf_68 (by decide) ?_
          refine V_iinc (pc := 70) dX12_earOf_70 rfl (by decide) ?_
          refine V_goto (tgt := 10) (pc := 73) dX12_earOf_73 rfl ?_
          exact V_sub h ⟨rfl, rfl, rfl, rfl, rfl, rfl, trivial⟩
theorem wp_X12_earOf_76 {G : GV} {k : Nat} {M : Mem} {q : Int32 → Mem → Prop} {v1 : Int32} {v2 : Int32} {v3 : Int32} {v4 : Int32} {v5 : Int32} (h : ((3 ≤ v3 → vp_in (8 * v1) 96 ∧ q ((1000 * (M.1 14 (ix (8 * v1)))) + v2) M) ∧ (¬ 3 ≤ v3 → V shM G mX12_earOf (k + 1) 76 [(0, .ref (G.2.1 0)), (1, .int v1), (2, .int (v2 * 10)), (3, .int (v3 + 1)), (4, .int v4), (5, .int v5)] [] M (Qi q)))) : V shM G mX12_earOf (k + 1) 76 [(0, .ref (G.2.1 0)), (1, .int v1), (2, .int v2), (3, .int v3), (4, .int v4), (5, .int v5)] [] M (Qi q) := by
  refine V_iload_n (pc := 76) dX12_earOf_76 rfl ?_
  refine V_iconst (v := 3) (pc := 77) dX12_earOf_77 rfl ?_
  refine V_icmp_ge (tgt := 92) (pc := 78) dX12_earOf_78 rfl (fun c => ?_) (fun c => ?_)
  · have h := h.1 c
    refine V_sipush (v := 1000) (pc := 92) dX12_earOf_92 rfl ?_
    refine V_aload_n (pc := 95) dX12_earOf_95 rfl ?_
    refine V_getR (pc := 96) fX12_50 sM0 rfl dX12_earOf_96 ?_
    refine V_bipush (v := 8) (pc := 99) dX12_earOf_99 rfl ?_
    refine V_iload_n (pc := 101) dX12_earOf_101 rfl ?_
    refine V_imul (pc := 102) dX12_earOf_102 ?_
    refine V_iald (pc := 103) sM14 dX12_earOf_103 h.1 ?_
    have h := h.2
    refine V_imul (pc := 104) dX12_earOf_104 ?_
    refine V_iload_n (pc := 105) dX12_earOf_105 rfl ?_
    refine V_iadd (pc := 106) dX12_earOf_106 ?_
    exact V_iret dX12_earOf_107 rfl h
  · have h := h.2 c
    refine V_iload_n (pc := 81) dX12_earOf_81 rfl ?_
    refine V_bipush (v := 10) (pc := 82) dX12_earOf_82 rfl ?_
    refine V_imul (pc := 84) dX12_earOf_84 ?_
    refine V_istore_n (pc := 85) dX12_earOf_85 (by decide) ?_
    refine V_iinc (pc := 86) dX12_earOf_86 rfl (by decide) ?_
    refine V_goto (tgt := 76) (pc := 89) dX12_earOf_89 rfl ?_
    exact V_sub h ⟨rfl, rfl, rfl, rfl, rfl, rfl, trivial⟩
theorem wp_X12_feed {G : GV} {k : Nat} {M : Mem} {q : Int32 → Mem → Prop} {v1 : Int64} {v3 : Int32} (h : Ci shM G mX12_in k [.long (Int32.toInt64 v3), .long 1, .long 8] (mset M 0 0 0) (fun x1 M1 => ((x1 ≠ 0 → ((((M1.1 0 29) + v3) ≤ 600 → V shM G mX12_feed (k + 1) 40 [(0, .ref (G.2.1 0)), (1, .long v1), (3, .int v3), (4, .int (v3 - 1))] [] M1 (Qi q)) ∧ (¬ ((M1.1 0 29) + v3) ≤ 600 → q (-1000003) M1))) ∧ (x1 = 0 → q (-1000001) M1)))) : Ci shM G mX12_feed (k + 1) [.ref (G.2.1 0), .long v1, .int v3] M q := by
  unfold Ci
  show V _ _ _ _ _ [(0, .ref (G.2.1 0)), (1, .long v1), (3, .int v3)] _ _ _
  refine V_aload_n (pc := 0) dX12_feed_0 rfl ?_
  refine V_iconst (v := 0) (pc := 1) dX12_feed_1 rfl ?_
  refine V_putI (pc := 2) fX12_108 p12_0 sM0 rfl dX12_feed_2 ?_
  refine V_iload_n (pc := 5) dX12_feed_5 rfl ?_
  refine V_i2l (pc := 6) dX12_feed_6 ?_
  refine V_lconst (v := 1) (pc := 7) dX12_feed_7 rfl ?_
  refine V_ldc2 (pc := 8) dX12_feed_8 nX12_133 ?_
  refine V_callSi [.long (Int32.toInt64 v3), .long 1, .long 8] (pc := 11) kX12_in lX12_118 rfl (Nat.le_of_ble_eq_true rfl) rfl (Nat.le_of_ble_eq_true rfl) dX12_feed_11 ?_
  refine Ci.mono h ?_
  intro x1 M1 h
  refine V_if_ne (tgt := 20) (pc := 14) dX12_feed_14 rfl (fun c => ?_) (fun c => ?_)
  · have h := h.1 c
    refine V_aload_n (pc := 20) dX12_feed_20 rfl ?_
    refine V_getI (pc := 21) fX12_135 sM0 rfl dX12_feed_21 ?_
    refine V_iload_n (pc := 24) dX12_feed_24 rfl ?_
    refine V_iadd (pc := 25) dX12_feed_25 ?_
    refine V_sipush (v := 600) (pc := 26) dX12_feed_26 rfl ?_
    refine V_icmp_le (tgt := 35) (pc := 29) dX12_feed_29 rfl (fun c => ?_) (fun c => ?_)
    · have h := h.1 c
      refine V_iload_n (pc := 35) dX12_feed_35 rfl ?_
      refine V_iconst (v := 1) (pc := 36) dX12_feed_36 rfl ?_
      refine V_isub (pc := 37) dX12_feed_37 ?_
      refine V_istore (pc := 38) dX12_feed_38 (by decide) ?_
      exact V_sub h ⟨rfl, rfl, rfl, rfl, trivial⟩
    · have h := h.2 c
      refine V_ldc (pc := 32) dX12_feed_32 nX12_138 ?_
      exact V_iret dX12_feed_34 rfl h
  · have h := h.2 c
    refine V_ldc (pc := 17) dX12_feed_17 nX12_128 ?_
    exact V_iret dX12_feed_19 rfl h
theorem wp_X12_feed_40 {G : GV} {k : Nat} {M : Mem} {q : Int32 → Mem → Prop} {v1 : Int64} {v3 : Int32} {v4 : Int32} (h : ((v4 < 0 → q (M.1 0 29) M) ∧ (¬ v4 < 0 → vp_in (M.1 0 29) 600 ∧ V shM G mX12_feed (k + 1) 40 [(0, .ref (G.2.1 0)), (1, .long v1), (3, .int v3), (4, .int (v4 + (-1)))] [] (mset (mset M 23 (ix (M.1 0 29)) (Int64.toInt32 ((v1 >>> (Int32.toInt64 (8 * v4) &&& 63)) &&& 255))) 0 29 ((M.1 0 29) + 1)) (Qi q)))) : V shM G mX12_feed (k + 1) 40 [(0, .ref (G.2.1 0)), (1, .long v1), (3, .int v3), (4, .int v4)] [] M (Qi q) := by
  refine V_iload (pc := 40) dX12_feed_40 rfl ?_
  refine V_if_lt (tgt := 82) (pc := 42) dX12_feed_42 rfl (fun c => ?_) (fun c => ?_)
  · have h := h.1 c
    refine V_aload_n (pc := 82) dX12_feed_82 rfl ?_
    refine V_getI (pc := 83) fX12_135 sM0 rfl dX12_feed_83 ?_
    exact V_iret dX12_feed_86 rfl h
  · have h := h.2 c
    refine V_aload_n (pc := 45) dX12_feed_45 rfl ?_
    refine V_getR (pc := 46) fX12_77 sM0 rfl dX12_feed_46 ?_
    refine V_aload_n (pc := 49) dX12_feed_49 rfl ?_
    refine V_getI (pc := 50) fX12_135 sM0 rfl dX12_feed_50 ?_
    refine V_lload_n (pc := 53) dX12_feed_53 rfl ?_
    refine V_bipush (v := 8) (pc := 54) dX12_feed_54 rfl ?_
    refine V_iload (pc := 56) dX12_feed_56 rfl ?_
    refine V_imul (pc := 58) dX12_feed_58 ?_
    refine V_lshr (pc := 59) dX12_feed_59 ?_
    refine V_ldc2 (pc := 60) dX12_feed_60 nX12_139 ?_
    refine V_land (pc := 63) dX12_feed_63 ?_
    refine V_l2i (pc := 64) dX12_feed_64 ?_
    refine V_iast (pc := 65) sM23 dX12_feed_65 h.1 ?_
    have h := h.2
    refine V_aload_n (pc := 66) dX12_feed_66 rfl ?_
    refine V_dup (pc := 67) dX12_feed_67 rfl ?_
    refine V_getI (pc := 68) fX12_135 sM0 rfl dX12_feed_68 ?_
    refine V_top (v := (M.1 0 29)) (by simp [mset, lset, upd]) ?_
    refine V_iconst (v := 1) (pc := 71) dX12_feed_71 rfl ?_
    refine V_iadd (pc := 72) dX12_feed_72 ?_
    refine V_putI (pc := 73) fX12_135 p12_29 sM0 rfl dX12_feed_73 ?_
    refine V_iinc (pc := 76) dX12_feed_76 rfl (by decide) ?_
    refine V_goto (tgt := 40) (pc := 79) dX12_feed_79 rfl ?_
    exact V_sub h ⟨rfl, rfl, rfl, rfl, trivial⟩
theorem wp_X12_handOf {G : GV} {k : Nat} {M : Mem} {q : Int32 → Mem → Prop} {v1 : Int32} {v2 : Int32} (h : V shM G mX12_handOf (k + 1) 2 [(0, .ref (G.2.1 0)), (1, .int v1), (2, .int v2), (3, .int 0)] [] M (Qi q)) : Ci shM G mX12_handOf (k + 1) [.ref (G.2.1 0), .int v1, .int v2] M q := by
  unfold Ci
  show V _ _ _ _ _ [(0, .ref (G.2.1 0)), (1, .int v1), (2, .int v2)] _ _ _
  refine V_iconst (v := 0) (pc := 0) dX12_handOf_0 rfl ?_
  refine V_istore_n (pc := 1) dX12_handOf_1 (by decide) ?_
  exact V_sub h ⟨rfl, rfl, rfl, rfl, trivial⟩
theorem wp_X12_handOf_2 {G : GV} {k : Nat} {M : Mem} {q : Int32 → Mem → Prop} {v1 : Int32} {v2 : Int32} {v3 : Int32} (h : vp_in v1 12 ∧ (((M.1 13 (ix v1)) < v3 → vp_in v1 12 ∧ vp_in v2 12 ∧ vp_in ((9 * (M.1 13 (ix v1))) + (M.1 13 (ix v2))) 81 ∧ q (M.1 24 (ix ((9 * (M.1 13 (ix v1))) + (M.1 13 (ix v2))))) M) ∧ (¬ (M.1 13 (ix v1)) < v3 → V shM G mX12_handOf (k + 1) 15 [(0, .ref (G.2.1 0)), (1, .int v1), (2, .int v2), (3, .int v3), (4, .int 0)] [] M (Qi q)))) : V shM G mX12_handOf (k + 1) 2 [(0, .ref (G.2.1 0)), (1, .int v1), (2, .int v2), (3, .int v3)] [] M (Qi q) := by
  refine V_iload_n (pc := 2) dX12_handOf_2 rfl ?_
  refine V_aload_n (pc := 3) dX12_handOf_3 rfl ?_
  refine V_getR (pc := 4) fX12_47 sM0 rfl dX12_handOf_4 ?_
  refine V_iload_n (pc := 7) dX12_handOf_7 rfl ?_
  refine V_iald (pc := 8) sM13 dX12_handOf_8 h.1 ?_
  have h := h.2
  refine V_icmp_gt (tgt := 170) (pc := 9) dX12_handOf_9 rfl (fun c => ?_) (fun c => ?_)
  · have h := h.1 c
    refine V_aload_n (pc := 170) dX12_handOf_170 rfl ?_
    refine V_getR (pc := 171) fX12_80 sM0 rfl dX12_handOf_171 ?_
    refine V_bipush (v := 9) (pc := 174) dX12_handOf_174 rfl ?_
    refine V_aload_n (pc := 176) dX12_handOf_176 rfl ?_
    refine V_getR (pc := 177) fX12_47 sM0 rfl dX12_handOf_177 ?_
    refine V_iload_n (pc := 180) dX12_handOf_180 rfl ?_
    refine V_iald (pc := 181) sM13 dX12_handOf_181 h.1 ?_
    have h := h.2
    refine V_imul (pc := 182) dX12_handOf_182 ?_
    refine V_aload_n (pc := 183) dX12_handOf_183 rfl ?_
    refine V_getR (pc := 184) fX12_47 sM0 rfl dX12_handOf_184 ?_
    refine V_iload_n (pc := 187) dX12_handOf_187 rfl ?_
    refine V_iald (pc := 188) sM13 dX12_handOf_188 h.1 ?_
    have h := h.2
    refine V_iadd (pc := 189) dX12_handOf_189 ?_
    refine V_iald (pc := 190) sM24 dX12_handOf_190 h.1 ?_
    have h := h.2
    exact V_iret dX12_handOf_191 rfl h
  · have h := h.2 c
    refine V_iconst (v := 0) (pc := 12) dX12_handOf_12 rfl ?_
    refine V_istore (pc := 13) dX12_handOf_13 (by decide) ?_
    exact V_sub h ⟨rfl, rfl, rfl, rfl, rfl, trivial⟩
theorem wp_X12_handOf_15 {G : GV} {k : Nat} {M : Mem} {q : Int32 → Mem → Prop} {v1 : Int32} {v2 : Int32} {v3 : Int32} {v4 : Int32} (h : vp_in v2 12 ∧ (((M.1 13 (ix v2)) < v4 → V shM G mX12_handOf (k + 1) 2 [(0, .ref (G.2.1 0)), (1, .int v1), (2, .int v2), (3, .int (v3 + 1))] [] M (Qi q)) ∧ (¬ (M.1 13 (ix v2)) < v4 → ((v3 = 0 → vp_in ((9 * v3) + v4) 81 ∧ V shM G mX12_handOf (k + 1) 15 [(0, .ref (G.2.1 0)), (1, .int v1), (2, .int v2), (3, .int v3), (4, .int (v4 + 1))] [] (mset M 24 (ix ((9 * v3) + v4)) (v3 + v4)) (Qi q)) ∧ (¬ v3 = 0 → ((v4 ≠ 0 → vp_in (((8 * v1) + v3) - 1) 96 ∧ vp_in (((8 * v2) + v4) - 1) 96 ∧ (((M.1 14 (ix (((8 * v1) + v3) - 1))) ≠ (M.1 14 (ix (((8 * v2) + v4) - 1))) → vp_in (((9 * v3) + v4) - 10) 81 ∧ vp_in (((9 * v3) + v4) - 9) 81 ∧ vp_in (((9 * v3) + v4) - 1) 81 ∧ Ci shM G mX12_least k [.int (M.1 24 (ix (((9 * v3) + v4) - 9))), .int (M.1 24 (ix (((9 * v3) + v4) - 1)))] M (fun x1 M1 => Ci shM G mX12_least k [.int ((M.1 24 (ix (((9 * v3) + v4) - 10))) + 1), .int (1 + x1)] M1 (fun x2 M2 => vp_in ((9 * v3) + v4) 81 ∧ V shM G mX12_handOf (k + 1) 15 [(0, .ref (G.2.1 0)), (1, .int v1), (2, .int v2), (3, .int v3), (4, .int (v4 + 1))] [] (mset M2 24 (ix ((9 * v3) + v4)) x2) (Qi q)))) ∧ ((M.1 14 (ix (((8 * v1) + v3) - 1))) = (M.1 14 (ix (((8 * v2) + v4) - 1))) → vp_in (((9 * v3) + v4) - 10) 81 ∧ vp_in (((9 * v3) + v4) - 9) 81 ∧ vp_in (((9 * v3) + v4) - 1) 81 ∧ Ci shM G mX12_least k [.int (M.1 24 (ix (((9 * v3) + v4) - 9))), .int (M.1 24 (ix (((9 * v3) + v4) - 1)))] M (fun x3 M3 => Ci shM G mX12_least k [.int ((M.1 24 (ix (((9 * v3) + v4) - 10))) + 0), .int (1 + x3)] M3 (fun x4 M4 => vp_in ((9 * v3) + v4) 81 ∧ V shM G mX12_handOf (k + 1) 15 [(0, .ref (G.2.1 0)), (1, .int v1), (2, .int v2), (3, .int v3), (4, .int (v4 + 1))] [] (mset M4 24 (ix ((9 * v3) + v4)) x4) (Qi q)))))) ∧ (v4 = 0 → vp_in ((9 * v3) + v4) 81 ∧ V shM G mX12_handOf (k + 1) 15 [(0, .ref (G.2.1 0)), (1, .int v1), (2, .int v2), (3, .int v3), (4, .int (v4 + 1))] [] (mset M 24 (ix ((9 * v3) + v4)) (v3 + v4)) (Qi q)))))))) : V shM G mX12_handOf (k + 1) 15 [(0, .ref (G.2.1 0)), (1, .int v1), (2, .int v2), (3, .int v3), (4, .int v4)] [] M (Qi q) := by
  refine V_iload (pc := 15) dX12_handOf_15 rfl ?_
  refine V_aload_n (pc := 17) dX12_handOf_17 rfl ?_
  refine V_getR (pc := 18) fX12_47 sM0 rfl dX12_handOf_18 ?_
  refine V_iload_n (pc := 21) dX12_handOf_21 rfl ?_
  refine V_iald (pc := 22) sM13 dX12_handOf_22 h.1 ?_
  have h := h.2
  refine V_icmp_gt (tgt := 164) (pc := 23) dX12_handOf_23 rfl (fun c => ?_) (fun c => ?_)
  · have h := h.1 c
    refine V_iinc (pc := 164) dX12_handOf_164 rfl (by decide) ?_
    refine V_goto (tgt := 2) (pc := 167) dX12_handOf_167 rfl ?_
    exact V_sub h ⟨rfl, rfl, rfl, rfl, trivial⟩
  · have h := h.2 c
    refine V_iload_n (pc := 26) dX12_handOf_26 rfl ?_
    refine V_if_eq (tgt := 35) (pc := 27) dX12_handOf_27 rfl (fun c => ?_) (fun c => ?_)
    · have h := h.1 c
      refine V_aload_n (pc := 35) dX12_handOf_35 rfl ?_
      refine V_getR (pc := 36) fX12_80 sM0 rfl dX12_handOf_36 ?_
      refine V_bipush (v := 9) (pc := 39) dX12_handOf_39 rfl ?_
      refine V_iload_n (pc := 41) dX12_handOf_41 rfl ?_
      refine V_imul (pc := 42) dX12_handOf_42 ?_
      refine V_iload (pc := 43) dX12_handOf_43 rfl ?_
      refine V_iadd (pc := 45) dX12_handOf_45 ?_
      refine V_iload_n (pc := 46) dX12_handOf_46 rfl ?_
      refine V_iload (pc := 47) dX12_handOf_47 rfl ?_
      refine V_iadd (pc := 49) dX12_handOf_49 ?_
      refine V_iast (pc := 50) sM24 dX12_handOf_50 h.1 ?_
      have h := h.2
      refine V_goto (tgt := 158) (pc := 51) dX12_handOf_51 rfl ?_
      refine V_iinc (pc := 158) dX12_handOf_158 rfl (by decide) ?_
      refine V_goto (tgt := 15) (pc := 161) dX12_handOf_161 rfl ?_
      exact V_sub h ⟨rfl, rfl, rfl, rfl, rfl, trivial⟩
    · have h := h.2 c
      refine V_iload (pc := 30) dX12_handOf_30 rfl ?_
      refine V_if_ne (tgt := 54) (pc := 32) dX12_handOf_32 rfl (fun c => ?_) (fun c => ?_)
      · have h := h.1 c
        refine V_aload_n (pc := 54) dX12_handOf_54 rfl ?_
        refine V_getR (pc := 55) fX12_50 sM0 rfl dX12_handOf_55 ?_
        refine V_bipush (v := 8) (pc := 58) dX12_handOf_58 rfl ?_
        refine V_iload_n (pc := 60) dX12_handOf_60 rfl ?_
        refine V_imul (pc := 61) dX12_handOf_61 ?_
        refine V_iload_n (pc := 62) dX12_handOf_62 rfl ?_
        refine V_iadd (pc := 63) dX12_handOf_63 ?_
        refine V_iconst (v := 1) (pc := 64) dX12_handOf_64 rfl ?_
        refine V_isub (pc := 65) dX12_handOf_65 ?_
        refine V_iald (pc := 66) sM14 dX12_handOf_66 h.1 ?_
        have h := h.2
        refine V_aload_n (pc := 67) dX12_handOf_67 rfl ?_
        refine V_getR (pc := 68) fX12_50 sM0 rfl dX12_handOf_68 ?_
        refine V_bipush (v := 8) (pc := 71) dX12_handOf_71 rfl ?_
        refine V_iload_n (pc := 73) dX12_handOf_73 rfl ?_
        refine V_imul (pc := 74) dX12_handOf_74 ?_
        refine V_iload (pc := 75) dX12_handOf_75 rfl ?_
        refine V_iadd (pc := 77) dX12_handOf_77 ?_
        refine V_iconst (v := 1) (pc := 78) dX12_handOf_78 rfl ?_
        refine V_isub (pc := 79) dX12_handOf_79 ?_
        refine V_iald (pc := 80) sM14 dX12_handOf_80 h.1 ?_
        have h := h.2
        refine V_icmp_ne (tgt := 88) (pc := 81) dX12_handOf_81 rfl (fun c => ?_) (fun c => ?_)
        · have h := h.1 c
          refine V_iconst (v := 1) (pc := 88) dX12_handOf_88 rfl ?_
          refine V_istore (pc := 89) dX12_handOf_89 (by decide) ?_
          refine V_aload_n (pc := 91) dX12_handOf_91 rfl ?_
          refine V_getR (pc := 92) fX12_80 sM0 rfl dX12_handOf_92 ?_
          refine V_bipush (v := 9) (pc := 95) dX12_handOf_95 rfl ?_
          refine V_iload_n (pc := 97) dX12_handOf_97 rfl ?_
          refine V_imul (pc := 98) dX12_handOf_98 ?_
          refine V_iload (pc := 99) dX12_handOf_99 rfl ?_
          refine V_iadd (pc := 101) dX12_handOf_101 ?_
          refine V_aload_n (pc := 102) dX12_handOf_102 rfl ?_
          refine V_getR (pc := 103) fX12_80 sM0 rfl dX12_handOf_103 ?_
          refine V_bipush (v := 9) (pc := 106) dX12_handOf_106 rfl ?_
          refine V_iload_n (pc := 108) dX12_handOf_108 rfl ?_
          refine V_imul (pc := 109) dX12_handOf_109 ?_
          refine V_iload (pc := 110) dX12_handOf_110 rfl ?_
          refine V_iadd (pc := 112) dX12_handOf_112 ?_
          refine V_bipush (v := 10) (pc := 113) dX12_handOf_113 rfl ?_
          refine V_isub (pc := 115) dX12_handOf_115 ?_
          refine V_iald (pc := 116) sM24 dX12_handOf_116 h.1 ?_
          have h := h.2
          refine V_iload (pc := 117) dX12_handOf_117 rfl ?_
          refine V_iadd (pc := 119) dX12_handOf_119 ?_
          refine V_iconst (v := 1) (pc := 120) dX12_handOf_120 rfl ?_
          refine V_aload_n (pc := 121) dX12_handOf_121 rfl ?_
          refine V_getR (pc := 122) fX12_80 sM0 rfl dX12_handOf_122 ?_
          refine V_bipush (v := 9) (pc := 125) dX12_handOf_125 rfl ?_
          refine V_iload_n (pc := 127) dX12_handOf_127 rfl ?_
          refine V_imul (pc := 128) dX12_handOf_128 ?_
          refine V_iload (pc := 129) dX12_handOf_129 rfl ?_
          refine V_iadd (pc := 131) dX12_handOf_131 ?_
          refine V_bipush (v := 9) (pc := 132) dX12_handOf_132 rfl ?_
          refine V_isub (pc := 134) dX12_handOf_134 ?_
          refine V_iald (pc := 135) sM24 dX12_handOf_135 h.1 ?_
          have h := h.2
          refine V_aload_n (pc := 136) dX12_handOf_136 rfl ?_
          refine V_getR (pc := 137) fX12_80 sM0 rfl dX12_handOf_137 ?_
          refine V_bipush (v := 9) (pc := 140) dX12_handOf_140 rfl ?_
          refine V_iload_n (pc := 142) dX12_handOf_142 rfl ?_
          refine V_imul (pc := 143) dX12_handOf_143 ?_
          refine V_iload (pc := 144) dX12_handOf_144 rfl ?_
          refine V_iadd (pc := 146) dX12_handOf_146 ?_
          refine V_iconst (v := 1) (pc := 147) dX12_handOf_147 rfl ?_
          refine V_isub (pc := 148) dX12_handOf_148 ?_
          refine V_iald (pc := 149) sM24 dX12_handOf_149 h.1 ?_
          have h := h.2
          refine V_callSi [.int (M.1 24 (ix (((9 * v3) + v4) - 9))), .int (M.1 24 (ix (((9 * v3) + v4) - 1)))] (pc := 150) kX12_least lX12_279 rfl (Nat.le_of_ble_eq_true rfl) rfl (Nat.le_of_ble_eq_true rfl) dX12_handOf_150 ?_
          refine Ci.mono h ?_
          intro x1 M1 h
          refine V_iadd (pc := 153) dX12_handOf_153 ?_
          refine V_callSi [.int ((M.1 24 (ix (((9 * v3) + v4) - 10))) + 1), .int (1 + x1)] (pc := 154) kX12_least lX12_279 rfl (Nat.le_of_ble_eq_true rfl) rfl (Nat.le_of_ble_eq_true rfl) dX12_handOf_154 ?_
          refine Ci.mono h ?_
          intro x2 M2 h
          refine V_iast (pc := 157) sM24 dX12_handOf_157 h.1 ?_
          have h := h.2
          refine V_iinc (pc := 158) dX12_handOf_158 rfl (by decide) ?_
          refine V_goto (tgt := 15) (pc := 161) dX12_handOf_161 rfl ?_
          exact V_sub h ⟨rfl, rfl, rfl, rfl, rfl, trivial⟩
        · have h := h.2 c
          refine V_iconst (v := 0) (pc := 84) dX12_handOf_84 rfl ?_
          refine V_goto (tgt := 89) (pc := 85) dX12_handOf_85 rfl ?_
          refine V_istore (pc := 89) dX12_handOf_89 (by decide) ?_
          refine V_aload_n (pc := 91) dX12_handOf_91 rfl ?_
          refine V_getR (pc := 92) fX12_80 sM0 rfl dX12_handOf_92 ?_
          refine V_bipush (v := 9) (pc := 95) dX12_handOf_95 rfl ?_
          refine V_iload_n (pc := 97) dX12_handOf_97 rfl ?_
          refine V_imul (pc := 98) dX12_handOf_98 ?_
          refine V_iload (pc := 99) dX12_handOf_99 rfl ?_
          refine V_iadd (pc := 101) dX12_handOf_101 ?_
          refine V_aload_n (pc := 102) dX12_handOf_102 rfl ?_
          refine V_getR (pc := 103) fX12_80 sM0 rfl dX12_handOf_103 ?_
          refine V_bipush (v := 9) (pc := 106) dX12_handOf_106 rfl ?_
          refine V_iload_n (pc := 108) dX12_handOf_108 rfl ?_
          refine V_imul (pc := 109) dX12_handOf_109 ?_
          refine V_iload (pc := 110) dX12_handOf_110 rfl ?_
          refine V_iadd (pc := 112) dX12_handOf_112 ?_
          refine V_bipush (v := 10) (pc := 113) dX12_handOf_113 rfl ?_
          refine V_isub (pc := 115) dX12_handOf_115 ?_
          refine V_iald (pc := 116) sM24 dX12_handOf_116 h.1 ?_
          have h := h.2
          refine V_iload (pc := 117) dX12_handOf_117 rfl ?_
          refine V_iadd (pc := 119) dX12_handOf_119 ?_
          refine V_iconst (v := 1) (pc := 120) dX12_handOf_120 rfl ?_
          refine V_aload_n (pc := 121) dX12_handOf_121 rfl ?_
          refine V_getR (pc := 122) fX12_80 sM0 rfl dX12_handOf_122 ?_
          refine V_bipush (v := 9) (pc := 125) dX12_handOf_125 rfl ?_
          refine V_iload_n (pc := 127) dX12_handOf_127 rfl ?_
          refine V_imul (pc := 128) dX12_handOf_128 ?_
          refine V_iload (pc := 129) dX12_handOf_129 rfl ?_
          refine V_iadd (pc := 131) dX12_handOf_131 ?_
          refine V_bipush (v := 9) (pc := 132) dX12_handOf_132 rfl ?_
          refine V_isub (pc := 134) dX12_handOf_134 ?_
          refine V_iald (pc := 135) sM24 dX12_handOf_135 h.1 ?_
          have h := h.2
          refine V_aload_n (pc := 136) dX12_handOf_136 rfl ?_
          refine V_getR (pc := 137) fX12_80 sM0 rfl dX12_handOf_137 ?_
          refine V_bipush (v := 9) (pc := 140) dX12_handOf_140 rfl ?_
          refine V_iload_n (pc := 142) dX12_handOf_142 rfl ?_
          refine V_imul (pc := 143) dX12_handOf_143 ?_
          refine V_iload (pc := 144) dX12_handOf_144 rfl ?_
          refine V_iadd (pc := 146) dX12_handOf_146 ?_
          refine V_iconst (v := 1) (pc := 147) dX12_handOf_147 rfl ?_
          refine V_isub (pc := 148) dX12_handOf_148 ?_
          refine V_iald (pc := 149) sM24 dX12_handOf_149 h.1 ?_
          have h := h.2
          refine V_callSi [.int (M.1 24 (ix (((9 * v3) + v4) - 9))), .int (M.1 24 (ix (((9 * v3) + v4) - 1)))] (pc := 150) kX12_least lX12_279 rfl (Nat.le_of_ble_eq_true rfl) rfl (Nat.le_of_ble_eq_true rfl) dX12_handOf_150 ?_
          refine Ci.mono h ?_
          intro x3 M3 h
          refine V_iadd (pc := 153) dX12_handOf_153 ?_
          refine V_callSi [.int ((M.1 24 (ix (((9 * v3) + v4) - 10))) + 0), .int (1 + x3)] (pc := 154) kX12_least lX12_279 rfl (Nat.le_of_ble_eq_true rfl) rfl (Nat.le_of_ble_eq_true rfl) dX12_handOf_154 ?_
          refine Ci.mono h ?_
          intro x4 M4 h
          refine V_iast (pc := 157) sM24 dX12_handOf_157 h.1 ?_
          have h := h.2
          refine V_iinc (pc := 158) dX12_handOf_158 rfl (by decide) ?_
          refine V_goto (tgt := 15) (pc := 161) dX12_handOf_161 rfl ?_
          exact V_sub h ⟨rfl, rfl, rfl, rfl, rfl, trivial⟩
      · have h := h.2 c
        refine V_aload_n (pc := 35) dX12_handOf_35 rfl ?_
        refine V_getR (pc := 36) fX12_80 sM0 rfl dX12_handOf_36 ?_
        refine V_bipush (v := 9) (pc := 39) dX12_handOf_39 rfl ?_
        refine V_iload_n (pc := 41) dX12_handOf_41 rfl ?_
        refine V_imul (pc := 42) dX12_handOf_42 ?_
        refine V_iload (pc := 43) dX12_handOf_43 rfl ?_
        refine V_iadd (pc := 45) dX12_handOf_45 ?_
        refine V_iload_n (pc := 46) dX12_handOf_46 rfl ?_
        refine V_iload (pc := 47) dX12_handOf_47 rfl ?_
        refine V_iadd (pc := 49) dX12_handOf_49 ?_
        refine V_iast (pc := 50) sM24 dX12_handOf_50 h.1 ?_
        have h := h.2
        refine V_goto (tgt := 158) (pc := 51) dX12_handOf_51 rfl ?_
        refine V_iinc (pc := 158) dX12_handOf_158 rfl (by decide) ?_
        refine V_goto (tgt := 15) (pc := 161) dX12_handOf_161 rfl ?_
        exact V_sub h ⟨rfl, rfl, rfl, rfl, rfl, trivial⟩
theorem wp_X12_isAddress {G : GV} {k : Nat} {M : Mem} {q : Int32 → Mem → Prop} {v0 : Int32} {v1 : Int32} {v2 : Int32} (h : Ci shM G mX12_in k [.long (Int32.toInt64 v0), .long 0, .long 3] M (fun x1 M1 => ((x1 = 0 → q 0 M1) ∧ (¬ x1 = 0 → Ci shM G mX12_in k [.long (Int32.toInt64 v1), .long 1, .long 99] M1 (fun x2 M2 => ((x2 = 0 → q 0 M2) ∧ (¬ x2 = 0 → Ci shM G mX12_in k [.long (Int32.toInt64 v2), .long 0, .long 9999] M2 (fun x3 M3 => ((x3 = 0 → q 0 M3) ∧ (¬ x3 = 0 → q 1 M3)))))))))) : Ci shM G mX12_isAddress (k + 1) [.int v0, .int v1, .int v2] M q := by
  unfold Ci
  show V _ _ _ _ _ [(0, .int v0), (1, .int v1), (2, .int v2)] _ _ _
  refine V_iload_n (pc := 0) dX12_isAddress_0 rfl ?_
  refine V_i2l (pc := 1) dX12_isAddress_1 ?_
  refine V_lconst (v := 0) (pc := 2) dX12_isAddress_2 rfl ?_
  refine V_ldc2 (pc := 3) dX12_isAddress_3 nX12_261 ?_
  refine V_callSi [.long (Int32.toInt64 v0), .long 0, .long 3] (pc := 6) kX12_in lX12_118 rfl (Nat.le_of_ble_eq_true rfl) rfl (Nat.le_of_ble_eq_true rfl) dX12_isAddress_6 ?_
  refine Ci.mono h ?_
  intro x1 M1 h
  refine V_if_eq (tgt := 40) (pc := 9) dX12_isAddress_9 rfl (fun c => ?_) (fun c => ?_)
  · have h := h.1 c
    refine V_iconst (v := 0) (pc := 40) dX12_isAddress_40 rfl ?_
    exact V_zret dX12_isAddress_41 rfl (Or.inl rfl) h
  · have h := h.2 c
    refine V_iload_n (pc := 12) dX12_isAddress_12 rfl ?_
    refine V_i2l (pc := 13) dX12_isAddress_13 ?_
    refine V_lconst (v := 1) (pc := 14) dX12_isAddress_14 rfl ?_
    refine V_ldc2 (pc := 15) dX12_isAddress_15 nX12_263 ?_
    refine V_callSi [.long (Int32.toInt64 v1), .long 1, .long 99] (pc := 18) kX12_in lX12_118 rfl (Nat.le_of_ble_eq_true rfl) rfl (Nat.le_of_ble_eq_true rfl) dX12_isAddress_18 ?_
    refine Ci.mono h ?_
    intro x2 M2 h
    refine V_if_eq (tgt := 40) (pc := 21) dX12_isAddress_21 rfl (fun c => ?_) (fun c => ?_)
    · have h := h.1 c
      refine V_iconst (v := 0) (pc := 40) dX12_isAddress_40 rfl ?_
      exact V_zret dX12_isAddress_41 rfl (Or.inl rfl) h
    · have h := h.2 c
      refine V_iload_n (pc := 24) dX12_isAddress_24 rfl ?_
      refine V_i2l (pc := 25) dX12_isAddress_25 ?_
      refine V_lconst (v := 0) (pc := 26) dX12_isAddress_26 rfl ?_
      refine V_ldc2 (pc := 27) dX12_isAddress_27 nX12_265 ?_
      refine V_callSi [.long (Int32.toInt64 v2), .long 0, .long 9999] (pc := 30) kX12_in lX12_118 rfl (Nat.le_of_ble_eq_true rfl) rfl (Nat.le_of_ble_eq_true rfl) dX12_isAddress_30 ?_
      refine Ci.mono h ?_
      intro x3 M3 h
      refine V_if_eq (tgt := 40) (pc := 33) dX12_isAddress_33 rfl (fun c => ?_) (fun c => ?_)
      · have h := h.1 c
        refine V_iconst (v := 0) (pc := 40) dX12_isAddress_40 rfl ?_
        exact V_zret dX12_isAddress_41 rfl (Or.inl rfl) h
      · have h := h.2 c
        refine V_iconst (v := 1) (pc := 36) dX12_isAddress_36 rfl ?_
        refine V_goto (tgt := 41) (pc := 37) dX12_isAddress_37 rfl ?_
        exact V_zret dX12_isAddress_41 rfl (Or.inr rfl) h
theorem wp_X12_isBook {G : GV} {k : Nat} {M : Mem} {q : Int32 → Mem → Prop} {v1 : Int32} (h : Ci shM G mX12_in k [.long (Int32.toInt64 v1), .long 0, .long (Int32.toInt64 ((M.1 0 5) - 1))] M (fun x1 M1 => (x1 = 0 ∨ x1 = 1) ∧ q x1 M1)) : Ci shM G mX12_isBook (k + 1) [.ref (G.2.1 0), .int v1] M q := by
  unfold Ci
  show V _ _ _ _ _ [(0, .ref (G.2.1 0)), (1, .int v1)] _ _ _
  refine V_iload_n (pc := 0) dX12_isBook_0 rfl ?_
  refine V_i2l (pc := 1) dX12_isBook_1 ?_
  refine V_lconst (v := 0) (pc := 2) dX12_isBook_2 rfl ?_
  refine V_aload_n (pc := 3) dX12_isBook_3 rfl ?_
  refine V_getI (pc := 4) fX12_224 sM0 rfl dX12_isBook_4 ?_
  refine V_iconst (v := 1) (pc := 7) dX12_isBook_7 rfl ?_
  refine V_isub (pc := 8) dX12_isBook_8 ?_
  refine V_i2l (pc := 9) dX12_isBook_9 ?_
  refine V_callSi [.long (Int32.toInt64 v1), .long 0, .long (Int32.toInt64 ((M.1 0 5) - 1))] (pc := 10) kX12_in lX12_118 rfl (Nat.le_of_ble_eq_true rfl) rfl (Nat.le_of_ble_eq_true rfl) dX12_isBook_10 ?_
  refine Ci.mono h ?_
  intro x1 M1 h
  exact V_zret dX12_isBook_13 rfl h.1 h.2
theorem wp_X12_isLine {G : GV} {k : Nat} {M : Mem} {q : Int32 → Mem → Prop} {v1 : Int32} (h : Ci shM G mX12_in k [.long (Int32.toInt64 v1), .long 0, .long (Int32.toInt64 ((M.1 0 10) - 1))] M (fun x1 M1 => (x1 = 0 ∨ x1 = 1) ∧ q x1 M1)) : Ci shM G mX12_isLine (k + 1) [.ref (G.2.1 0), .int v1] M q := by
  unfold Ci
  show V _ _ _ _ _ [(0, .ref (G.2.1 0)), (1, .int v1)] _ _ _
  refine V_iload_n (pc := 0) dX12_isLine_0 rfl ?_
  refine V_i2l (pc := 1) dX12_isLine_1 ?_
  refine V_lconst (v := 0) (pc := 2) dX12_isLine_2 rfl ?_
  refine V_aload_n (pc := 3) dX12_isLine_3 rfl ?_
  refine V_getI (pc := 4) fX12_227 sM0 rfl dX12_isLine_4 ?_
  refine V_iconst (v := 1) (pc := 7) dX12_isLine_7 rfl ?_
  refine V_isub (pc := 8) dX12_isLine_8 ?_
  refine V_i2l (pc := 9) dX12_isLine_9 ?_
  refine V_callSi [.long (Int32.toInt64 v1), .long 0, .long (Int32.toInt64 ((M.1 0 10) - 1))] (pc := 10) kX12_in lX12_118 rfl (Nat.le_of_ble_eq_true rfl) rfl (Nat.le_of_ble_eq_true rfl) dX12_isLine_10 ?_
  refine Ci.mono h ?_
  intro x1 M1 h
  exact V_zret dX12_isLine_13 rfl h.1 h.2
theorem wp_X12_isSheet {G : GV} {k : Nat} {M : Mem} {q : Int32 → Mem → Prop} {v0 : Int32} (h : Ci shM G mX12_in k [.long (Int32.toInt64 v0), .long 0, .long 7] M (fun x1 M1 => (x1 = 0 ∨ x1 = 1) ∧ q x1 M1)) : Ci shM G mX12_isSheet (k + 1) [.int v0] M q := by
  unfold Ci
  show V _ _ _ _ _ [(0, .int v0)] _ _ _
  refine V_iload_n (pc := 0) dX12_isSheet_0 rfl ?_
  refine V_i2l (pc := 1) dX12_isSheet_1 ?_
  refine V_lconst (v := 0) (pc := 2) dX12_isSheet_2 rfl ?_
  refine V_ldc2 (pc := 3) dX12_isSheet_3 nX12_116 ?_
  refine V_callSi [.long (Int32.toInt64 v0), .long 0, .long 7] (pc := 6) kX12_in lX12_118 rfl (Nat.le_of_ble_eq_true rfl) rfl (Nat.le_of_ble_eq_true rfl) dX12_isSheet_6 ?_
  refine Ci.mono h ?_
  intro x1 M1 h
  exact V_zret dX12_isSheet_9 rfl h.1 h.2
theorem wp_X12_isSpan {G : GV} {k : Nat} {M : Mem} {q : Int32 → Mem → Prop} {v0 : Int32} {v1 : Int32} {v2 : Int32} (h : Ci shM G mX12_in k [.long (Int32.toInt64 v0), .long 0, .long 3] M (fun x1 M1 => ((x1 = 0 → q 0 M1) ∧ (¬ x1 = 0 → Ci shM G mX12_in k [.long (Int32.toInt64 v1), .long 0, .long 9999] M1 (fun x2 M2 => ((x2 = 0 → q 0 M2) ∧ (¬ x2 = 0 → Ci shM G mX12_in k [.long (Int32.toInt64 v2), .long 0, .long 9999] M2 (fun x3 M3 => ((x3 = 0 → q 0 M3) ∧ (¬ x3 = 0 → q 1 M3)))))))))) : Ci shM G mX12_isSpan (k + 1) [.int v0, .int v1, .int v2] M q := by
  unfold Ci
  show V _ _ _ _ _ [(0, .int v0), (1, .int v1), (2, .int v2)] _ _ _
  refine V_iload_n (pc := 0) dX12_isSpan_0 rfl ?_
  refine V_i2l (pc := 1) dX12_isSpan_1 ?_
  refine V_lconst (v := 0) (pc := 2) dX12_isSpan_2 rfl ?_
  refine V_ldc2 (pc := 3) dX12_isSpan_3 nX12_261 ?_
  refine V_callSi [.long (Int32.toInt64 v0), .long 0, .long 3] (pc := 6) kX12_in lX12_118 rfl (Nat.le_of_ble_eq_true rfl) rfl (Nat.le_of_ble_eq_true rfl) dX12_isSpan_6 ?_
  refine Ci.mono h ?_
  intro x1 M1 h
  refine V_if_eq (tgt := 40) (pc := 9) dX12_isSpan_9 rfl (fun c => ?_) (fun c => ?_)
  · have h := h.1 c
    refine V_iconst (v := 0) (pc := 40) dX12_isSpan_40 rfl ?_
    exact V_zret dX12_isSpan_41 rfl (Or.inl rfl) h
  · have h := h.2 c
    refine V_iload_n (pc := 12) dX12_isSpan_12 rfl ?_
    refine V_i2l (pc := 13) dX12_isSpan_13 ?_
    refine V_lconst (v := 0) (pc := 14) dX12_isSpan_14 rfl ?_
    refine V_ldc2 (pc := 15) dX12_isSpan_15 nX12_265 ?_
    refine V_callSi [.long (Int32.toInt64 v1), .long 0, .long 9999] (pc := 18) kX12_in lX12_118 rfl (Nat.le_of_ble_eq_true rfl) rfl (Nat.le_of_ble_eq_true rfl) dX12_isSpan_18 ?_
    refine Ci.mono h ?_
    intro x2 M2 h
    refine V_if_eq (tgt := 40) (pc := 21) dX12_isSpan_21 rfl (fun c => ?_) (fun c => ?_)
    · have h := h.1 c
      refine V_iconst (v := 0) (pc := 40) dX12_isSpan_40 rfl ?_
      exact V_zret dX12_isSpan_41 rfl (Or.inl rfl) h
    · have h := h.2 c
      refine V_iload_n (pc := 24) dX12_isSpan_24 rfl ?_
      refine V_i2l (pc := 25) dX12_isSpan_25 ?_
      refine V_lconst (v := 0) (pc := 26) dX12_isSpan_26 rfl ?_
      refine V_ldc2 (pc := 27) dX12_isSpan_27 nX12_265 ?_
      refine V_callSi [.long (Int32.toInt64 v2), .long 0, .long 9999] (pc := 30) kX12_in lX12_118 rfl (Nat.le_of_ble_eq_true rfl) rfl (Nat.le_of_ble_eq_true rfl) dX12_isSpan_30 ?_
      refine Ci.mono h ?_
      intro x3 M3 h
      refine V_if_eq (tgt := 40) (pc := 33) dX12_isSpan_33 rfl (fun c => ?_) (fun c => ?_)
      · have h := h.1 c
        refine V_iconst (v := 0) (pc := 40) dX12_isSpan_40 rfl ?_
        exact V_zret dX12_isSpan_41 rfl (Or.inl rfl) h
      · have h := h.2 c
        refine V_iconst (v := 1) (pc := 36) dX12_isSpan_36 rfl ?_
        refine V_goto (tgt := 41) (pc := 37) dX12_isSpan_37 rfl ?_
        exact V_zret dX12_isSpan_41 rfl (Or.inr rfl) h
theorem wp_X12_personOf {G : GV} {k : Nat} {M : Mem} {q : Int32 → Mem → Prop} {v1 : Int32} (h : Ci shM G mX12_all k [.ref (G.2.1 0)] M (fun x1 M1 => V shM G mX12_personOf (k + 1) 5 [(0, .ref (G.2.1 0)), (1, .int v1), (2, .int x1)] [] M1 (Qi q))) : Ci shM G mX12_personOf (k + 1) [.ref (G.2.1 0), .int v1] M q := by
  unfold Ci
  show V _ _ _ _ _ [(0, .ref (G.2.1 0)), (1, .int v1)] _ _ _
  refine V_aload_n (pc := 0) dX12_personOf_0 rfl ?_
  refine V_callVi [] (pc := 1) kX12_all lX12_304 sM0 rfl rfl (Nat.le_of_ble_eq_true rfl) rfl (Nat.le_of_ble_eq_true rfl) dX12_personOf_1 ?_
  refine Ci.mono h ?_
  intro x1 M1 h
  refine V_istore_n (pc := 4) dX12_personOf_4 (by decide) ?_
  exact V_sub h ⟨rfl, rfl, rfl, trivial⟩
theorem wp_X12_personOf_5 {G : GV} {k : Nat} {M : Mem} {q : Int32 → Mem → Prop} {v1 : Int32} {v2 : Int32} (h : Ci shM G mX12_lowest k [.int v2] M (fun x1 M1 => V shM G mX12_personOf (k + 1) 16 [(0, .ref (G.2.1 0)), (1, .int v1), (2, .int v2), (3, .int x1), (4, .int v2), (5, .int v2)] [] M1 (Qi q))) : V shM G mX12_personOf (k + 1) 5 [(0, .ref (G.2.1 0)), (1, .int v1), (2, .int v2)] [] M (Qi q) := by
  refine V_iload_n (pc := 5) dX12_personOf_5 rfl ?_
  refine V_callSi [.int v2] (pc := 6) kX12_lowest lX12_301 rfl (Nat.le_of_ble_eq_true rfl) rfl (Nat.le_of_ble_eq_true rfl) dX12_personOf_6 ?_
  refine Ci.mono h ?_
  intro x1 M1 h
  refine V_istore_n (pc := 9) dX12_personOf_9 (by decide) ?_
  refine V_iload_n (pc := 10) dX12_personOf_10 rfl ?_
  refine V_istore (pc := 11) dX12_personOf_11 (by decide) ?_
  refine V_iload_n (pc := 13) dX12_personOf_13 rfl ?_
  refine V_istore (pc := 14) dX12_personOf_14 (by decide) ?_
  exact V_sub h ⟨rfl, rfl, rfl, rfl, rfl, rfl, trivial⟩
theorem wp_X12_personOf_16 {G : GV} {k : Nat} {M : Mem} {q : Int32 → Mem → Prop} {v1 : Int32} {v2 : Int32} {v3 : Int32} {v4 : Int32} {v5 : Int32} (h : ((v5 ≤ 0 → ((((v4 >>> (v1 &&& 31)) &&& 1) ≠ 1 → V shM G mX12_personOf (k + 1) 5 [(0, .ref (G.2.1 0)), (1, .int v1), (2, .int (v2 &&& (v4 ^^^ (-1))))] [] M (Qi q)) ∧ (((v4 >>> (v1 &&& 31)) &&& 1) = 1 → q v4 M))) ∧ (¬ v5 ≤ 0 → ((((v5 >>> (v3 &&& 31)) &&& 1) ≠ 1 → V shM G mX12_personOf (k + 1) 16 [(0, .ref (G.2.1 0)), (1, .int v1), (2, .int v2), (3, .int v3), (4, .int v4), (5, .int ((v5 - 1) &&& v2))] [] M (Qi q)) ∧ (((v5 >>> (v3 &&& 31)) &&& 1) = 1 → vp_in v5 4096 ∧ (((M.1 26 (ix v5)) = 0 → V shM G mX12_personOf (k + 1) 16 [(0, .ref (G.2.1 0)), (1, .int v1), (2, .int v2), (3, .int v3), (4, .int v4), (5, .int ((v5 - 1) &&& v2))] [] M (Qi q)) ∧ (¬ (M.1 26 (ix v5)) = 0 → vp_in (v2 &&& (v5 ^^^ (-1))) 4096 ∧ vp_in v2 4096 ∧ ((((M.1 27 (ix (v2 &&& (v5 ^^^ (-1))))) + 1) ≠ (M.1 27 (ix v2)) → V shM G mX12_personOf (k + 1) 16 [(0, .ref (G.2.1 0)), (1, .int v1), (2, .int v2), (3, .int v3), (4, .int v4), (5, .int ((v5 - 1) &&& v2))] [] M (Qi q)) ∧ (((M.1 27 (ix (v2 &&& (v5 ^^^ (-1))))) + 1) = (M.1 27 (ix v2)) → V shM G mX12_personOf (k + 1) 16 [(0, .ref (G.2.1 0)), (1, .int v1), (2, .int v2), (3, .int v3), (4, .int v5), (5, .int ((v5 - 1) &&& v2))] [] M (Qi q)))))))))) : V shM G mX12_personOf (k + 1) 16 [(0, .ref (G.2.1 0)), (1, .int v1), (2, .int v2), (3, .int v3), (4, .int v4), (5, .int v5)] [] M (Qi q) := by
  refine V_iload (pc := 16) dX12_personOf_16 rfl ?_
  refine V_if_le (tgt := 78) (pc := 18) dX12_personOf_18 rfl (fun c => ?_) (fun c => ?_)
  · have h := h.1 c
    refine V_iload (pc := 78) dX12_personOf_78 rfl ?_
    refine V_iload_n (pc := 80) dX12_personOf_80 rfl ?_
    refine V_ishr (pc := 81) dX12_personOf_81 ?_
    refine V_iconst (v := 1) (pc := 82) dX12_personOf_82 rfl ?_
    refine V_iand (pc := 83) dX12_personOf_83 ?_
    refine V_iconst (v := 1) (pc := 84) dX12_personOf_84 rfl ?_
    refine V_icmp_ne (tgt := 91) (pc := 85) dX12_personOf_85 rfl (fun c => ?_) (fun c => ?_)
    · have h := h.1 c
      refine V_iload_n (pc := 91) dX12_personOf_91 rfl ?_
      refine V_iload (pc := 92) dX12_personOf_92 rfl ?_
      refine V_iconst (v := (-1)) (pc := 94) dX12_personOf_94 rfl ?_
      refine V_ixor (pc := 95) dX12_personOf_95 ?_
      refine V_iand (pc := 96) dX12_personOf_96 ?_
      refine V_istore_n (pc := 97) dX12_personOf_97 (by decide) ?_
      refine V_goto (tgt := 5) (pc := 98) dX12_personOf_98 rfl ?_
      exact V_sub h ⟨rfl, rfl, rfl, trivial⟩
    · have h := h.2 c
      refine V_iload (pc := 88) dX12_personOf_88 rfl ?_
      exact V_iret dX12_personOf_90 rfl h
  · have h := h.2 c
    refine V_iload (pc := 21) dX12_personOf_21 rfl ?_
    refine V_iload_n (pc := 23) dX12_personOf_23 rfl ?_
    refine V_ishr (pc := 24) dX12_personOf_24 ?_
    refine V_iconst (v := 1) (pc := 25) dX12_personOf_25 rfl ?_
    refine V_iand (pc := 26) dX12_personOf_26 ?_
    refine V_iconst (v := 1) (pc := 27) dX12_personOf_27 rfl ?_
    refine V_icmp_ne (tgt := 67) (pc := 28) dX12_personOf_28 rfl (fun c => ?_) (fun c => ?_)
    · have h := h.1 c
      refine V_iload (pc := 67) dX12_personOf_67 rfl ?_
      refine V_iconst (v := 1) (pc := 69) dX12_personOf_69 rfl ?_
      refine V_isub (pc := 70) dX12_personOf_70 ?_
      refine V_iload_n (pc := 71) dX12_personOf_71 rfl ?_
      refine V_iand (pc := 72) dX12_personOf_72 ?_
      refine V_istore (pc := 73) dX12_personOf_73 (by decide) ?_
      refine V_goto (tgt := 16) (pc := 75) dX12_personOf_75 rfl ?_
      exact V_sub h ⟨rfl, rfl, rfl, rfl, rfl, rfl, trivial⟩
    · have h := h.2 c
      refine V_aload_n (pc := 31) dX12_personOf_31 rfl ?_
      refine V_getR (pc := 32) fX12_86 sM0 rfl dX12_personOf_32 ?_
      refine V_iload (pc := 35) dX12_personOf_35 rfl ?_
      refine V_zald (pc := 37) sM26 dX12_personOf_37 h.1 ?_
      have h := h.2
      refine V_if_eq (tgt := 67) (pc := 38) dX12_personOf_38 rfl (fun c => ?_) (fun c => ?_)
      · have h := h.1 c
        refine V_iload (pc := 67) dX12_personOf_67 rfl ?_
        refine V_iconst (v := 1) (pc := 69) dX12_personOf_69 rfl ?_
        refine V_isub (pc := 70) dX12_personOf_70 ?_
        refine V_iload_n (pc := 71) dX12_personOf_71 rfl ?_
        refine V_iand (pc := 72) dX12_personOf_72 ?_
        refine V_istore (pc := 73) dX12_personOf_73 (by decide) ?_
        refine V_goto (tgt := 16) (pc := 75) dX12_personOf_75 rfl ?_
        exact V_sub h ⟨rfl, rfl, rfl, rfl, rfl, rfl, trivial⟩
      · have h := h.2 c
        refine V_aload_n (pc := 41) dX12_personOf_41 rfl ?_
        refine V_getR (pc := 42) fX12_89 sM0 rfl dX12_personOf_42 ?_
        refine V_iload_n (pc := 45) dX12_personOf_45 rfl ?_
        refine V_iload (pc := 46) dX12_personOf_46 rfl ?_
        refine V_iconst (v := (-1)) (pc := 48) dX12_personOf_48 rfl ?_
        refine V_ixor (pc := 49) dX12_personOf_49 ?_
        refine V_iand (pc := 50) dX12_personOf_50 ?_
        refine V_iald (pc := 51) sM27 dX12_personOf_51 h.1 ?_
        have h := h.2
        refine V_iconst (v := 1) (pc := 52) dX12_personOf_52 rfl ?_
        refine V_iadd (pc := 53) dX12_personOf_53 ?_
        refine V_aload_n (pc := 54) dX12_personOf_54 rfl ?_
        refine V_getR (pc := 55) fX12_89 sM0 rfl dX12_personOf_55 ?_
        refine V_iload_n (pc := 58) dX12_personOf_58 rfl ?_
        refine V_iald (pc := 59) sM27 dX12_personOf_59 h.1 ?_
        have h := h.2
        refine V_icmp_ne (tgt := 67) (pc := 60) dX12_personOf_60 rfl (fun c => ?_) (fun c => ?_)
        · have h := h.1 c
          refine V_iload (pc := 67) dX12_personOf_67 rfl ?_
          refine V_iconst (v := 1) (pc := 69) dX12_personOf_69 rfl ?_
          refine V_isub (pc := 70) dX12_personOf_70 ?_
          refine V_iload_n (pc := 71) dX12_personOf_71 rfl ?_
          refine V_iand (pc := 72) dX12_personOf_72 ?_
          refine V_istore (pc := 73) dX12_personOf_73 (by decide) ?_
          refine V_goto (tgt := 16) (pc := 75) dX12_personOf_75 rfl ?_
          exact V_sub h ⟨rfl, rfl, rfl, rfl, rfl, rfl, trivial⟩
        · have h := h.2 c
          refine V_iload (pc := 63) dX12_personOf_63 rfl ?_
          refine V_istore (pc := 65) dX12_personOf_65 (by decide) ?_
          refine V_iload (pc := 67) dX12_personOf_67 rfl ?_
          refine V_iconst (v := 1) (pc := 69) dX12_personOf_69 rfl ?_
          refine V_isub (pc := 70) dX12_personOf_70 ?_
          refine V_iload_n (pc := 71) dX12_personOf_71 rfl ?_
          refine V_iand (pc := 72) dX12_personOf_72 ?_
          refine V_istore (pc := 73) dX12_personOf_73 (by decide) ?_
          refine V_goto (tgt := 16) (pc := 75) dX12_personOf_75 rfl ?_
          exact V_sub h ⟨rfl, rfl, rfl, rfl, rfl, rfl, trivial⟩
theorem wp_X12_plainSize {G : GV} {k : Nat} {M : Mem} {q : Int32 → Mem → Prop} {v1 : Int32} (h : Cv shM G mX12_began k [.ref (G.2.1 0), .int 10] M (fun M1 => vp_in v1 12 ∧ q (M1.1 13 (ix v1)) M1)) : Ci shM G mX12_plainSize (k + 1) [.ref (G.2.1 0), .int v1] M q := by
  unfold Ci
  show V _ _ _ _ _ [(0, .ref (G.2.1 0)), (1, .int v1)] _ _ _
  refine V_aload_n (pc := 0) dX12_plainSize_0 rfl ?_
  refine V_bipush (v := 10) (pc := 1) dX12_plainSize_1 rfl ?_
  refine V_callVv [.int 10] (pc := 3) kX12_began lX12_348 sM0 rfl rfl (Nat.le_of_ble_eq_true rfl) rfl (Nat.le_of_ble_eq_true rfl) dX12_plainSize_3 ?_
  refine Cv.mono h ?_
  intro M1 h
  refine V_aload_n (pc := 6) dX12_plainSize_6 rfl ?_
  refine V_getR (pc := 7) fX12_47 sM0 rfl dX12_plainSize_7 ?_
  refine V_iload_n (pc := 10) dX12_plainSize_10 rfl ?_
  refine V_iald (pc := 11) sM13 dX12_plainSize_11 h.1 ?_
  have h := h.2
  exact V_iret dX12_plainSize_12 rfl h
theorem wp_X12_sorted_one {G : GV} {k : Nat} {M : Mem} {q : Int32 → Mem → Prop} {v1 : Int32} {v2 : Int32} (h : V shM G mX12_sorted (k + 1) 6 [(0, .ref (G.2.1 0)), (1, .int v1), (2, .int v2), (3, .ref (G.2.1 29)), (4, .int 0), (5, .int 1)] [] M (Qi q)) : Ci shM G mX12_sorted (k + 1) [.ref (G.2.1 0), .int v1, .int v2, .ref (G.2.1 29)] M q := by
  unfold Ci
  show V _ _ _ _ _ [(0, .ref (G.2.1 0)), (1, .int v1), (2, .int v2), (3, .ref (G.2.1 29))] _ _ _
  refine V_iconst (v := 0) (pc := 0) dX12_sorted_0 rfl ?_
  refine V_istore (pc := 1) dX12_sorted_1 (by decide) ?_
  refine V_iconst (v := 1) (pc := 3) dX12_sorted_3 rfl ?_
  refine V_istore (pc := 4) dX12_sorted_4 (by decide) ?_
  exact V_sub h ⟨rfl, rfl, rfl, rfl, rfl, rfl, trivial⟩
theorem wp_X12_sorted_one_6 {G : GV} {k : Nat} {M : Mem} {q : Int32 → Mem → Prop} {v1 : Int32} {v2 : Int32} {v4 : Int32} {v5 : Int32} (h : ((100 ≤ v5 → q v4 M) ∧ (¬ 100 ≤ v5 → V shM G mX12_sorted (k + 1) 16 [(0, .ref (G.2.1 0)), (1, .int v1), (2, .int v2), (3, .ref (G.2.1 29)), (4, .int v4), (5, .int v5), (6, .int 0)] [] M (Qi q)))) : V shM G mX12_sorted (k + 1) 6 [(0, .ref (G.2.1 0)), (1, .int v1), (2, .int v2), (3, .ref (G.2.1 29)), (4, .int v4), (5, .int v5)] [] M (Qi q) := by
  refine V_iload (pc := 6) dX12_sorted_6 rfl ?_
  refine V_bipush (v := 100) (pc := 8) dX12_sorted_8 rfl ?_
  refine V_icmp_ge (tgt := 79) (pc := 10) dX12_sorted_10 rfl (fun c => ?_) (fun c => ?_)
  · have h := h.1 c
    refine V_iload (pc := 79) dX12_sorted_79 rfl ?_
    exact V_iret dX12_sorted_81 rfl h
  · have h := h.2 c
    refine V_iconst (v := 0) (pc := 13) dX12_sorted_13 rfl ?_
    refine V_istore (pc := 14) dX12_sorted_14 (by decide) ?_
    exact V_sub h ⟨rfl, rfl, rfl, rfl, rfl, rfl, rfl, trivial⟩
theorem wp_X12_sorted_one_16 {G : GV} {k : Nat} {M : Mem} {q : Int32 → Mem → Prop} {v1 : Int32} {v2 : Int32} {v4 : Int32} {v5 : Int32} {v6 : Int32} (h : (((M.1 0 10) ≤ v6 → V shM G mX12_sorted (k + 1) 6 [(0, .ref (G.2.1 0)), (1, .int v1), (2, .int v2), (3, .ref (G.2.1 29)), (4, .int v4), (5, .int (v5 + 1))] [] M (Qi q)) ∧ (¬ (M.1 0 10) ≤ v6 → vp_in v6 12 ∧ (((M.1 10 (ix v6)) ≠ v1 → V shM G mX12_sorted (k + 1) 16 [(0, .ref (G.2.1 0)), (1, .int v1), (2, .int v2), (3, .ref (G.2.1 29)), (4, .int v4), (5, .int v5), (6, .int (v6 + 1))] [] M (Qi q)) ∧ ((M.1 10 (ix v6)) = v1 → vp_in v6 12 ∧ (((M.1 11 (ix v6)) ≠ v5 → V shM G mX12_sorted (k + 1) 16 [(0, .ref (G.2.1 0)), (1, .int v1), (2, .int v2), (3, .ref (G.2.1 29)), (4, .int v4), (5, .int v5), (6, .int (v6 + 1))] [] M (Qi q)) ∧ ((M.1 11 (ix v6)) = v5 → Ci shM G mX12_gathered k [.ref (G.2.1 0), .int v6] M (fun x1 M1 => ((x1 ≠ v2 → V shM G mX12_sorted (k + 1) 16 [(0, .ref (G.2.1 0)), (1, .int v1), (2, .int v2), (3, .ref (G.2.1 29)), (4, .int v4), (5, .int v5), (6, .int (v6 + 1))] [] M1 (Qi q)) ∧ (x1 = v2 → vp_in v4 12 ∧ V shM G mX12_sorted (k + 1) 16 [(0, .ref (G.2.1 0)), (1, .int v1), (2, .int v2), (3, .ref (G.2.1 29)), (4, .int (v4 + 1)), (5, .int v5), (6, .int (v6 + 1))] [] (mset M1 29 (ix v4) v6) (Qi q))))))))))) : V shM G mX12_sorted (k + 1) 16 [(0, .ref (G.2.1 0)), (1, .int v1), (2, .int v2), (3, .ref (G.2.1 29)), (4, .int v4), (5, .int v5), (6, .int v6)] [] M (Qi q) := by
  refine V_iload (pc := 16) dX12_sorted_16 rfl ?_
  refine V_aload_n (pc := 18) dX12_sorted_18 rfl ?_
  refine V_getI (pc := 19) fX12_227 sM0 rfl dX12_sorted_19 ?_
  refine V_icmp_ge (tgt := 73) (pc := 22) dX12_sorted_22 rfl (fun c => ?_) (fun c => ?_)
  · have h := h.1 c
    refine V_iinc (pc := 73) dX12_sorted_73 rfl (by decide) ?_
    refine V_goto (tgt := 6) (pc := 76) dX12_sorted_76 rfl ?_
    exact V_sub h ⟨rfl, rfl, rfl, rfl, rfl, rfl, trivial⟩
  · have h := h.2 c
    refine V_aload_n (pc := 25) dX12_sorted_25 rfl ?_
    refine V_getR (pc := 26) fX12_38 sM0 rfl dX12_sorted_26 ?_
    refine V_iload (pc := 29) dX12_sorted_29 rfl ?_
    refine V_iald (pc := 31) sM10 dX12_sorted_31 h.1 ?_
    have h := h.2
    refine V_iload_n (pc := 32) dX12_sorted_32 rfl ?_
    refine V_icmp_ne (tgt := 67) (pc := 33) dX12_sorted_33 rfl (fun c => ?_) (fun c => ?_)
    · have h := h.1 c
      refine V_iinc (pc := 67) dX12_sorted_67 rfl (by decide) ?_
      refine V_goto (tgt := 16) (pc := 70) dX12_sorted_70 rfl ?_
      exact V_sub h ⟨rfl, rfl, rfl, rfl, rfl, rfl, rfl, trivial⟩
    · have h := h.2 c
      refine V_aload_n (pc := 36) dX12_sorted_36 rfl ?_
      refine V_getR (pc := 37) fX12_41 sM0 rfl dX12_sorted_37 ?_
      refine V_iload (pc := 40) dX12_sorted_40 rfl ?_
      refine V_iald (pc := 42) sM11 dX12_sorted_42 h.1 ?_
      have h := h.2
      refine V_iload (pc := 43) dX12_sorted_43 rfl ?_
      refine V_icmp_ne (tgt := 67) (pc := 45) dX12_sorted_45 rfl (fun c => ?_) (fun c => ?_)
      · have h := h.1 c
        refine V_iinc (pc := 67) dX12_sorted_67 rfl (by decide) ?_
        refine V_goto (tgt := 16) (pc := 70) dX12_sorted_70 rfl ?_
        exact V_sub h ⟨rfl, rfl, rfl, rfl, rfl, rfl, rfl, trivial⟩
      · have h := h.2 c
        refine V_aload_n (pc := 48) dX12_sorted_48 rfl ?_
        refine V_iload (pc := 49) dX12_sorted_49 rfl ?_
        refine V_callVi [.int v6] (pc := 51) kX12_gathered lX12_246 sM0 rfl rfl (Nat.le_of_ble_eq_true rfl) rfl (Nat.le_of_ble_eq_true rfl) dX12_sorted_51 ?_
        refine Ci.mono h ?_
        intro x1 M1 h
        refine V_iload_n (pc := 54) dX12_sorted_54 rfl ?_
        refine V_icmp_ne (tgt := 67) (pc := 55) dX12_sorted_55 rfl (fun c => ?_) (fun c => ?_)
        · have h := h.1 c
          refine V_iinc (pc := 67) dX12_sorted_67 rfl (by decide) ?_
          refine V_goto (tgt := 16) (pc := 70) dX12_sorted_70 rfl ?_
          exact V_sub h ⟨rfl, rfl, rfl, rfl, rfl, rfl, rfl, trivial⟩
        · have h := h.2 c
          refine V_aload_n (pc := 58) dX12_sorted_58 rfl ?_
          refine V_iload (pc := 59) dX12_sorted_59 rfl ?_
          refine V_iload (pc := 61) dX12_sorted_61 rfl ?_
          refine V_iast (pc := 63) sM29 dX12_sorted_63 h.1 ?_
          have h := h.2
          refine V_iinc (pc := 64) dX12_sorted_64 rfl (by decide) ?_
          refine V_iinc (pc := 67) dX12_sorted_67 rfl (by decide) ?_
          refine V_goto (tgt := 16) (pc := 70) dX12_sorted_70 rfl ?_
          exact V_sub h ⟨rfl, rfl, rfl, rfl, rfl, rfl, rfl, trivial⟩
theorem wp_X12_sorted_other {G : GV} {k : Nat} {M : Mem} {q : Int32 → Mem → Prop} {v1 : Int32} {v2 : Int32} (h : V shM G mX12_sorted (k + 1) 6 [(0, .ref (G.2.1 0)), (1, .int v1), (2, .int v2), (3, .ref (G.2.1 30)), (4, .int 0), (5, .int 1)] [] M (Qi q)) : Ci shM G mX12_sorted (k + 1) [.ref (G.2.1 0), .int v1, .int v2, .ref (G.2.1 30)] M q := by
  unfold Ci
  show V _ _ _ _ _ [(0, .ref (G.2.1 0)), (1, .int v1), (2, .int v2), (3, .ref (G.2.1 30))] _ _ _
  refine V_iconst (v := 0) (pc := 0) dX12_sorted_0 rfl ?_
  refine V_istore (pc := 1) dX12_sorted_1 (by decide) ?_
  refine V_iconst (v := 1) (pc := 3) dX12_sorted_3 rfl ?_
  refine V_istore (pc := 4) dX12_sorted_4 (by decide) ?_
  exact V_sub h ⟨rfl, rfl, rfl, rfl, rfl, rfl, trivial⟩
theorem wp_X12_sorted_other_6 {G : GV} {k : Nat} {M : Mem} {q : Int32 → Mem → Prop} {v1 : Int32} {v2 : Int32} {v4 : Int32} {v5 : Int32} (h : ((100 ≤ v5 → q v4 M) ∧ (¬ 100 ≤ v5 → V shM G mX12_sorted (k + 1) 16 [(0, .ref (G.2.1 0)), (1, .int v1), (2, .int v2), (3, .ref (G.2.1 30)), (4, .int v4), (5, .int v5), (6, .int 0)] [] M (Qi q)))) : V shM G mX12_sorted (k + 1) 6 [(0, .ref (G.2.1 0)), (1, .int v1), (2, .int v2), (3, .ref (G.2.1 30)), (4, .int v4), (5, .int v5)] [] M (Qi q) := by
  refine V_iload (pc := 6) dX12_sorted_6 rfl ?_
  refine V_bipush (v := 100) (pc := 8) dX12_sorted_8 rfl ?_
  refine V_icmp_ge (tgt := 79) (pc := 10) dX12_sorted_10 rfl (fun c => ?_) (fun c => ?_)
  · have h := h.1 c
    refine V_iload (pc := 79) dX12_sorted_79 rfl ?_
    exact V_iret dX12_sorted_81 rfl h
  · have h := h.2 c
    refine V_iconst (v := 0) (pc := 13) dX12_sorted_13 rfl ?_
    refine V_istore (pc := 14) dX12_sorted_14 (by decide) ?_
    exact V_sub h ⟨rfl, rfl, rfl, rfl, rfl, rfl, rfl, trivial⟩
theorem wp_X12_sorted_other_16 {G : GV} {k : Nat} {M : Mem} {q : Int32 → Mem → Prop} {v1 : Int32} {v2 : Int32} {v4 : Int32} {v5 : Int32} {v6 : Int32} (h : (((M.1 0 10) ≤ v6 → V shM G mX12_sorted (k + 1) 6 [(0, .ref (G.2.1 0)), (1, .int v1), (2, .int v2), (3, .ref (G.2.1 30)), (4, .int v4), (5, .int (v5 + 1))] [] M (Qi q)) ∧ (¬ (M.1 0 10) ≤ v6 → vp_in v6 12 ∧ (((M.1 10 (ix v6)) ≠ v1 → V shM G mX12_sorted (k + 1) 16 [(0, .ref (G.2.1 0)), (1, .int v1), (2, .int v2), (3, .ref (G.2.1 30)), (4, .int v4), (5, .int v5), (6, .int (v6 + 1))] [] M (Qi q)) ∧ ((M.1 10 (ix v6)) = v1 → vp_in v6 12 ∧ (((M.1 11 (ix v6)) ≠ v5 → V shM G mX12_sorted (k + 1) 16 [(0, .ref (G.2.1 0)), (1, .int v1), (2, .int v2), (3, .ref (G.2.1 30)), (4, .int v4), (5, .int v5), (6, .int (v6 + 1))] [] M (Qi q)) ∧ ((M.1 11 (ix v6)) = v5 → Ci shM G mX12_gathered k [.ref (G.2.1 0), .int v6] M (fun x1 M1 => ((x1 ≠ v2 → V shM G mX12_sorted (k + 1) 16 [(0, .ref (G.2.1 0)), (1, .int v1), (2, .int v2), (3, .ref (G.2.1 30)), (4, .int v4), (5, .int v5), (6, .int (v6 + 1))] [] M1 (Qi q)) ∧ (x1 = v2 → vp_in v4 12 ∧ V shM G mX12_sorted (k + 1) 16 [(0, .ref (G.2.1 0)), (1, .int v1), (2, .int v2), (3, .ref (G.2.1 30)), (4, .int (v4 + 1)), (5, .int v5), (6, .int (v6 + 1))] [] (mset M1 30 (ix v4) v6) (Qi q))))))))))) : V shM G mX12_sorted (k + 1) 16 [(0, .ref (G.2.1 0)), (1, .int v1), (2, .int v2), (3, .ref (G.2.1 30)), (4, .int v4), (5, .int v5), (6, .int v6)] [] M (Qi q) := by
  refine V_iload (pc := 16) dX12_sorted_16 rfl ?_
  refine V_aload_n (pc := 18) dX12_sorted_18 rfl ?_
  refine V_getI (pc := 19) fX12_227 sM0 rfl dX12_sorted_19 ?_
  refine V_icmp_ge (tgt := 73) (pc := 22) dX12_sorted_22 rfl (fun c => ?_) (fun c => ?_)
  · have h := h.1 c
    refine V_iinc (pc := 73) dX12_sorted_73 rfl (by decide) ?_
    refine V_goto (tgt := 6) (pc := 76) dX12_sorted_76 rfl ?_
    exact V_sub h ⟨rfl, rfl, rfl, rfl, rfl, rfl, trivial⟩
  · have h := h.2 c
    refine V_aload_n (pc := 25) dX12_sorted_25 rfl ?_
    refine V_getR (pc := 26) fX12_38 sM0 rfl dX12_sorted_26 ?_
    refine V_iload (pc := 29) dX12_sorted_29 rfl ?_
    refine V_iald (pc := 31) sM10 dX12_sorted_31 h.1 ?_
    have h := h.2
    refine V_iload_n (pc := 32) dX12_sorted_32 rfl ?_
    refine V_icmp_ne (tgt := 67) (pc := 33) dX12_sorted_33 rfl (fun c => ?_) (fun c => ?_)
    · have h := h.1 c
      refine V_iinc (pc := 67) dX12_sorted_67 rfl (by decide) ?_
      refine V_goto (tgt := 16) (pc := 70) dX12_sorted_70 rfl ?_
      exact V_sub h ⟨rfl, rfl, rfl, rfl, rfl, rfl, rfl, trivial⟩
    · have h := h.2 c
      refine V_aload_n (pc := 36) dX12_sorted_36 rfl ?_
      refine V_getR (pc := 37) fX12_41 sM0 rfl dX12_sorted_37 ?_
      refine V_iload (pc := 40) dX12_sorted_40 rfl ?_
      refine V_iald (pc := 42) sM11 dX12_sorted_42 h.1 ?_
      have h := h.2
      refine V_iload (pc := 43) dX12_sorted_43 rfl ?_
      refine V_icmp_ne (tgt := 67) (pc := 45) dX12_sorted_45 rfl (fun c => ?_) (fun c => ?_)
      · have h := h.1 c
        refine V_iinc (pc := 67) dX12_sorted_67 rfl (by decide) ?_
        refine V_goto (tgt := 16) (pc := 70) dX12_sorted_70 rfl ?_
        exact V_sub h ⟨rfl, rfl, rfl, rfl, rfl, rfl, rfl, trivial⟩
      · have h := h.2 c
        refine V_aload_n (pc := 48) dX12_sorted_48 rfl ?_
        refine V_iload (pc := 49) dX12_sorted_49 rfl ?_
        refine V_callVi [.int v6] (pc := 51) kX12_gathered lX12_246 sM0 rfl rfl (Nat.le_of_ble_eq_true rfl) rfl (Nat.le_of_ble_eq_true rfl) dX12_sorted_51 ?_
        refine Ci.mono h ?_
        intro x1 M1 h
        refine V_iload_n (pc := 54) dX12_sorted_54 rfl ?_
        refine V_icmp_ne (tgt := 67) (pc := 55) dX12_sorted_55 rfl (fun c => ?_) (fun c => ?_)
        · have h := h.1 c
          refine V_iinc (pc := 67) dX12_sorted_67 rfl (by decide) ?_
          refine V_goto (tgt := 16) (pc := 70) dX12_sorted_70 rfl ?_
          exact V_sub h ⟨rfl, rfl, rfl, rfl, rfl, rfl, rfl, trivial⟩
        · have h := h.2 c
          refine V_aload_n (pc := 58) dX12_sorted_58 rfl ?_
          refine V_iload (pc := 59) dX12_sorted_59 rfl ?_
          refine V_iload (pc := 61) dX12_sorted_61 rfl ?_
          refine V_iast (pc := 63) sM30 dX12_sorted_63 h.1 ?_
          have h := h.2
          refine V_iinc (pc := 64) dX12_sorted_64 rfl (by decide) ?_
          refine V_iinc (pc := 67) dX12_sorted_67 rfl (by decide) ?_
          refine V_goto (tgt := 16) (pc := 70) dX12_sorted_70 rfl ?_
          exact V_sub h ⟨rfl, rfl, rfl, rfl, rfl, rfl, rfl, trivial⟩
theorem wp_X12_step {G : GV} {k : Nat} {M : Mem} {q : Mem → Prop}  (h : V shM G mX12_step (k + 1) 0 [(0, .ref (G.2.1 0))] [] M (Qv q)) : Cv shM G mX12_step (k + 1) [.ref (G.2.1 0)] M q := by
  unfold Cv
  show V _ _ _ _ _ [(0, .ref (G.2.1 0))] _ _ _
  exact V_sub h ⟨rfl, trivial⟩
theorem wp_X12_step_0 {G : GV} {k : Nat} {M : Mem} {q : Mem → Prop}  (h : Ci shM G mX12_byteAt k [.ref (G.2.1 0), .int (M.1 0 32)] M (fun x1 M1 => ((x1 = 32 → V shM G mX12_step (k + 1) 0 [(0, .ref (G.2.1 0))] [] (mset M1 0 32 ((M1.1 0 32) + 1)) (Qv q)) ∧ (¬ x1 = 32 → Ci shM G mX12_byteAt k [.ref (G.2.1 0), .int (M1.1 0 32)] M1 (fun x2 M2 => ((x2 ≠ 10 → Ci shM G mX12_byteAt k [.ref (G.2.1 0), .int (M2.1 0 32)] (mset M2 0 34 (M2.1 0 32)) (fun x3 M3 => ((x3 ≠ (-1000000) → Ci shM G mX12_isLetter k [.int x3] M3 (fun x4 M4 => ((x4 = 0 → Ci shM G mX12_isFigure k [.int x3] M4 (fun x5 M5 => ((x5 = 0 → ((x3 ≠ 59 → q (mset (mset (mset M5 0 32 ((M5.1 0 32) + 1)) 0 33 0) 0 35 ((M5.1 0 32) + 1))) ∧ (x3 = 59 → q (mset (mset (mset M5 0 32 ((M5.1 0 32) + 1)) 0 33 4) 0 35 ((M5.1 0 32) + 1))))) ∧ (¬ x5 = 0 → V shM G mX12_step (k + 1) 119 [(0, .ref (G.2.1 0)), (1, .int x3)] [] M5 (Qv q))))) ∧ (¬ x4 = 0 → V shM G mX12_step (k + 1) 77 [(0, .ref (G.2.1 0)), (1, .int x3)] [] M4 (Qv q))))) ∧ (x3 = (-1000000) → q (mset (mset M3 0 33 1) 0 35 (M3.1 0 32)))))) ∧ (x2 = 10 → V shM G mX12_step (k + 1) 0 [(0, .ref (G.2.1 0))] [] (mset M2 0 32 ((M2.1 0 32) + 1)) (Qv q)))))))) : V shM G mX12_step (k + 1) 0 [(0, .ref (G.2.1 0))] [] M (Qv q) := by
  refine V_aload_n (pc := 0) dX12_step_0 rfl ?_
  refine V_aload_n (pc := 1) dX12_step_1 rfl ?_
  refine V_getI (pc := 2) fX12_145 sM0 rfl dX12_step_2 ?_
  refine V_callVi [.int (M.1 0 32)] (pc := 5) kX12_byteAt lX12_148 sM0 rfl rfl (Nat.le_of_ble_eq_true rfl) rfl (Nat.le_of_ble_eq_true rfl) dX12_step_5 ?_
  refine Ci.mono h ?_
  intro x1 M1 h
  refine V_bipush (v := 32) (pc := 8) dX12_step_8 rfl ?_
  refine V_icmp_eq (tgt := 26) (pc := 10) dX12_step_10 rfl (fun c => ?_) (fun c => ?_)
  · have h := h.1 c
    refine V_aload_n (pc := 26) dX12_step_26 rfl ?_
    refine V_dup (pc := 27) dX12_step_27 rfl ?_
    refine V_getI (pc := 28) fX12_145 sM0 rfl dX12_step_28 ?_
    refine V_iconst (v := 1) (pc := 31) dX12_step_31 rfl ?_
    refine V_iadd (pc := 32) dX12_step_32 ?_
    refine V_putI (pc := 33) fX12_145 p12_32 sM0 rfl dX12_step_33 ?_
    refine V_goto (tgt := 0) (pc := 36) dX12_step_36 rfl ?_
    exact V_sub h ⟨rfl, trivial⟩
  · have h := h.2 c
    refine V_aload_n (pc := 13) dX12_step_13 rfl ?_
    refine V_aload_n (pc := 14) dX12_step_14 rfl ?_
    refine V_getI (pc := 15) fX12_145 sM0 rfl dX12_step_15 ?_
    refine V_callVi [.int (M1.1 0 32)] (pc := 18) kX12_byteAt lX12_148 sM0 rfl rfl (Nat.le_of_ble_eq_true rfl) rfl (Nat.le_of_ble_eq_true rfl) dX12_step_18 ?_
    refine Ci.mono h ?_
    intro x2 M2 h
    refine V_bipush (v := 10) (pc := 21) dX12_step_21 rfl ?_
    refine V_icmp_ne (tgt := 39) (pc := 23) dX12_step_23 rfl (fun c => ?_) (fun c => ?_)
    · have h := h.1 c
      refine V_aload_n (pc := 39) dX12_step_39 rfl ?_
      refine V_aload_n (pc := 40) dX12_step_40 rfl ?_
      refine V_getI (pc := 41) fX12_145 sM0 rfl dX12_step_41 ?_
      refine V_putI (pc := 44) fX12_151 p12_34 sM0 rfl dX12_step_44 ?_
      refine V_aload_n (pc := 47) dX12_step_47 rfl ?_
      refine V_aload_n (pc := 48) dX12_step_48 rfl ?_
      refine V_getI (pc := 49) fX12_145 sM0 rfl dX12_step_49 ?_
      refine V_top (v := (M2.1 0 32)) (by simp [mset, lset, upd]) ?_
      refine V_callVi [.int (M2.1 0 32)] (pc := 52) kX12_byteAt lX12_148 sM0 rfl rfl (Nat.le_of_ble_eq_true rfl) rfl (Nat.le_of_ble_eq_true rfl) dX12_step_52 ?_
      refine Ci.mono h ?_
      intro x3 M3 h
      refine V_istore_n (pc := 55) dX12_step_55 (by decide) ?_
      refine V_iload_n (pc := 56) dX12_step_56 rfl ?_
      refine V_ldc (pc := 57) dX12_step_57 nX12_144 ?_
      refine V_icmp_ne (tgt := 70) (pc := 59) dX12_step_59 rfl (fun c => ?_) (fun c => ?_)
      · have h := h.1 c
        refine V_iload_n (pc := 70) dX12_step_70 rfl ?_
        refine V_callSi [.int x3] (pc := 71) kX12_isLetter lX12_157 rfl (Nat.le_of_ble_eq_true rfl) rfl (Nat.le_of_ble_eq_true rfl) dX12_step_71 ?_
        refine Ci.mono h ?_
        intro x4 M4 h
        refine V_if_eq (tgt := 112) (pc := 74) dX12_step_74 rfl (fun c => ?_) (fun c => ?_)
        · have h := h.1 c
          refine V_iload_n (pc := 112) dX12_step_112 rfl ?_
          refine V_callSi [.int x3] (pc := 113) kX12_isFigure lX12_160 rfl (Nat.le_of_ble_eq_true rfl) rfl (Nat.le_of_ble_eq_true rfl) dX12_step_113 ?_
          refine Ci.mono h ?_
          intro x5 M5 h
          refine V_if_eq (tgt := 171) (pc := 116) dX12_step_116 rfl (fun c => ?_) (fun c => ?_)
          · have h := h.1 c
            refine V_aload_n (pc := 171) dX12_step_171 rfl ?_
            refine V_dup (pc := 172) dX12_step_172 rfl ?_
            refine V_getI (pc := 173) fX12_145 sM0 rfl dX12_step_173 ?_
            refine V_iconst (v := 1) (pc := 176) dX12_step_176 rfl ?_
            refine V_iadd (pc := 177) dX12_step_177 ?_
            refine V_putI (pc := 178) fX12_145 p12_32 sM0 rfl dX12_step_178 ?_
            refine V_aload_n (pc := 181) dX12_step_181 rfl ?_
            refine V_iload_n (pc := 182) dX12_step_182 rfl ?_
            refine V_bipush (v := 59) (pc := 183) dX12_step_183 rfl ?_
            refine V_icmp_ne (tgt := 192) (pc := 185) dX12_step_185 rfl (fun c => ?_) (fun c => ?_)
            · have h := h.1 c
              refine V_iconst (v := 0) (pc := 192) dX12_step_192 rfl ?_
              refine V_putI (pc := 193) fX12_154 p12_33 sM0 rfl dX12_step_193 ?_
              refine V_aload_n (pc := 196) dX12_step_196 rfl ?_
              refine V_aload_n (pc := 197) dX12_step_197 rfl ?_
              refine V_getI (pc := 198) fX12_145 sM0 rfl dX12_step_198 ?_
              refine V_top (v := ((M5.1 0 32) + 1)) (by simp [mset, lset, upd]) ?_
              refine V_putI (pc := 201) fX12_163 p12_35 sM0 rfl dX12_step_201 ?_
              exact V_vret dX12_step_204 rfl h
            · have h := h.2 c
              refine V_iconst (v := 4) (pc := 188) dX12_step_188 rfl ?_
              refine V_goto (tgt := 193) (pc := 189) dX12_step_189 rfl ?_
              refine V_putI (pc := 193) fX12_154 p12_33 sM0 rfl dX12_step_193 ?_
              refine V_aload_n (pc := 196) dX12_step_196 rfl ?_
              refine V_aload_n (pc := 197) dX12_step_197 rfl ?_
              refine V_getI (pc := 198) fX12_145 sM0 rfl dX12_step_198 ?_
              refine V_top (v := ((M5.1 0 32) + 1)) (by simp [mset, lset, upd]) ?_
              refine V_putI (pc := 201) fX12_163 p12_35 sM0 rfl dX12_step_201 ?_
              exact V_vret dX12_step_204 rfl h
          · have h := h.2 c
            exact V_sub h ⟨rfl, rfl, trivial⟩
        · have h := h.2 c
          exact V_sub h ⟨rfl, rfl, trivial⟩
      · have h := h.2 c
        refine V_aload_n (pc := 62) dX12_step_62 rfl ?_
        refine V_iconst (v := 1) (pc := 63) dX12_step_63 rfl ?_
        refine V_putI (pc := 64) fX12_154 p12_33 sM0 rfl dX12_step_64 ?_
        refine V_goto (tgt := 196) (pc := 67) dX12_step_67 rfl ?_
        refine V_aload_n (pc := 196) dX12_step_196 rfl ?_
        refine V_aload_n (pc := 197) dX12_step_197 rfl ?_
        refine V_getI (pc := 198) fX12_145 sM0 rfl dX12_step_198 ?_
        refine V_top (v := (M3.1 0 32)) (by simp [mset, lset, upd]) ?_
        refine V_putI (pc := 201) fX12_163 p12_35 sM0 rfl dX12_step_201 ?_
        exact V_vret dX12_step_204 rfl h
    · have h := h.2 c
      refine V_aload_n (pc := 26) dX12_step_26 rfl ?_
      refine V_dup (pc := 27) dX12_step_27 rfl ?_
      refine V_getI (pc := 28) fX12_145 sM0 rfl dX12_step_28 ?_
      refine V_iconst (v := 1) (pc := 31) dX12_step_31 rfl ?_
      refine V_iadd (pc := 32) dX12_step_32 ?_
      refine V_putI (pc := 33) fX12_145 p12_32 sM0 rfl dX12_step_33 ?_
      refine V_goto (tgt := 0) (pc := 36) dX12_step_36 rfl ?_
      exact V_sub h ⟨rfl, trivial⟩
theorem wp_X12_step_77 {G : GV} {k : Nat} {M : Mem} {q : Mem → Prop} {v1 : Int32} (h : Ci shM G mX12_byteAt k [.ref (G.2.1 0), .int (M.1 0 32)] M (fun x1 M1 => Ci shM G mX12_isLetter k [.int x1] M1 (fun x2 M2 => ((x2 = 0 → q (mset (mset M2 0 33 2) 0 35 (M2.1 0 32))) ∧ (¬ x2 = 0 → V shM G mX12_step (k + 1) 77 [(0, .ref (G.2.1 0)), (1, .int v1)] [] (mset M2 0 32 ((M2.1 0 32) + 1)) (Qv q)))))) : V shM G mX12_step (k + 1) 77 [(0, .ref (G.2.1 0)), (1, .int v1)] [] M (Qv q) := by
  refine V_aload_n (pc := 77) dX12_step_77 rfl ?_
  refine V_aload_n (pc := 78) dX12_step_78 rfl ?_
  refine V_getI (pc := 79) fX12_145 sM0 rfl dX12_step_79 ?_
  refine V_callVi [.int (M.1 0 32)] (pc := 82) kX12_byteAt lX12_148 sM0 rfl rfl (Nat.le_of_ble_eq_true rfl) rfl (Nat.le_of_ble_eq_true rfl) dX12_step_82 ?_
  refine Ci.mono h ?_
  intro x1 M1 h
  refine V_callSi [.int x1] (pc := 85) kX12_isLetter lX12_157 rfl (Nat.le_of_ble_eq_true rfl) rfl (Nat.le_of_ble_eq_true rfl) dX12_step_85 ?_
  refine Ci.mono h ?_
  intro x2 M2 h
  refine V_if_eq (tgt := 104) (pc := 88) dX12_step_88 rfl (fun c => ?_) (fun c => ?_)
  · have h := h.1 c
    refine V_aload_n (pc := 104) dX12_step_104 rfl ?_
    refine V_iconst (v := 2) (pc := 105) dX12_step_105 rfl ?_
    refine V_putI (pc := 106) fX12_154 p12_33 sM0 rfl dX12_step_106 ?_
    refine V_goto (tgt := 196) (pc := 109) dX12_step_109 rfl ?_
    refine V_aload_n (pc := 196) dX12_step_196 rfl ?_
    refine V_aload_n (pc := 197) dX12_step_197 rfl ?_
    refine V_getI (pc := 198) fX12_145 sM0 rfl dX12_step_198 ?_
    refine V_top (v := (M2.1 0 32)) (by simp [mset, lset, upd]) ?_
    refine V_putI (pc := 201) fX12_163 p12_35 sM0 rfl dX12_step_201 ?_
    exact V_vret dX12_step_204 rfl h
  · have h := h.2 c
    refine V_aload_n (pc := 91) dX12_step_91 rfl ?_
    refine V_dup (pc := 92) dX12_step_92 rfl ?_
    refine V_getI (pc := 93) fX12_145 sM0 rfl dX12_step_93 ?_
    refine V_iconst (v := 1) (pc := 96) dX12_step_96 rfl ?_
    refine V_iadd (pc := 97) dX12_step_97 ?_
    refine V_putI (pc := 98) fX12_145 p12_32 sM0 rfl dX12_step_98 ?_
    refine V_goto (tgt := 77) (pc := 101) dX12_step_101 rfl ?_
    exact V_sub h ⟨rfl, rfl, trivial⟩
theorem wp_X12_step_119 {G : GV} {k : Nat} {M : Mem} {q : Mem → Prop} {v1 : Int32} (h : Ci shM G mX12_byteAt k [.ref (G.2.1 0), .int (M.1 0 32)] M (fun x1 M1 => Ci shM G mX12_isFigure k [.int x1] M1 (fun x2 M2 => ((x2 = 0 → ((((M2.1 0 32) - (M2.1 0 34)) ≤ 4 → q (mset (mset M2 0 33 3) 0 35 (M2.1 0 32))) ∧ (¬ ((M2.1 0 32) - (M2.1 0 34)) ≤ 4 → q (mset (mset M2 0 33 0) 0 35 (M2.1 0 32))))) ∧ (¬ x2 = 0 → V shM G mX12_step (k + 1) 119 [(0, .ref (G.2.1 0)), (1, .int v1)] [] (mset M2 0 32 ((M2.1 0 32) + 1)) (Qv q)))))) : V shM G mX12_step (k + 1) 119 [(0, .ref (G.2.1 0)), (1, .int v1)] [] M (Qv q) := by
  refine V_aload_n (pc := 119) dX12_step_119 rfl ?_
  refine V_aload_n (pc := 120) dX12_step_120 rfl ?_
  refine V_getI (pc := 121) fX12_145 sM0 rfl dX12_step_121 ?_
  refine V_callVi [.int (M.1 0 32)] (pc := 124) kX12_byteAt lX12_148 sM0 rfl rfl (Nat.le_of_ble_eq_true rfl) rfl (Nat.le_of_ble_eq_true rfl) dX12_step_124 ?_
  refine Ci.mono h ?_
  intro x1 M1 h
  refine V_callSi [.int x1] (pc := 127) kX12_isFigure lX12_160 rfl (Nat.le_of_ble_eq_true rfl) rfl (Nat.le_of_ble_eq_true rfl) dX12_step_127 ?_
  refine Ci.mono h ?_
  intro x2 M2 h
  refine V_if_eq (tgt := 146) (pc := 130) dX12_step_130 rfl (fun c => ?_) (fun c => ?_)
  · have h := h.1 c
    refine V_aload_n (pc := 146) dX12_step_146 rfl ?_
    refine V_aload_n (pc := 147) dX12_step_147 rfl ?_
    refine V_getI (pc := 148) fX12_145 sM0 rfl dX12_step_148 ?_
    refine V_aload_n (pc := 151) dX12_step_151 rfl ?_
    refine V_getI (pc := 152) fX12_151 sM0 rfl dX12_step_152 ?_
    refine V_isub (pc := 155) dX12_step_155 ?_
    refine V_iconst (v := 4) (pc := 156) dX12_step_156 rfl ?_
    refine V_icmp_le (tgt := 164) (pc := 157) dX12_step_157 rfl (fun c => ?_) (fun c => ?_)
    · have h := h.1 c
      refine V_iconst (v := 3) (pc := 164) dX12_step_164 rfl ?_
      refine V_putI (pc := 165) fX12_154 p12_33 sM0 rfl dX12_step_165 ?_
      refine V_goto (tgt := 196) (pc := 168) dX12_step_168 rfl ?_
      refine V_aload_n (pc := 196) dX12_step_196 rfl ?_
      refine V_aload_n (pc := 197) dX12_step_197 rfl ?_
      refine V_getI (pc := 198) fX12_145 sM0 rfl dX12_step_198 ?_
      refine V_top (v := (M2.1 0 32)) (by simp [mset, lset, upd]) ?_
      refine V_putI (pc := 201) fX12_163 p12_35 sM0 rfl dX12_step_201 ?_
      exact V_vret dX12_step_204 rfl h
    · have h := h.2 c
      refine V_iconst (v := 0) (pc := 160) dX12_step_160 rfl ?_
      refine V_goto (tgt := 165) (pc := 161) dX12_step_161 rfl ?_
      refine V_putI (pc := 165) fX12_154 p12_33 sM0 rfl dX12_step_165 ?_
      refine V_goto (tgt := 196) (pc := 168) dX12_step_168 rfl ?_
      refine V_aload_n (pc := 196) dX12_step_196 rfl ?_
      refine V_aload_n (pc := 197) dX12_step_197 rfl ?_
      refine V_getI (pc := 198) fX12_145 sM0 rfl dX12_step_198 ?_
      refine V_top (v := (M2.1 0 32)) (by simp [mset, lset, upd]) ?_
      refine V_putI (pc := 201) fX12_163 p12_35 sM0 rfl dX12_step_201 ?_
      exact V_vret dX12_step_204 rfl h
  · have h := h.2 c
    refine V_aload_n (pc := 133) dX12_step_133 rfl ?_
    refine V_dup (pc := 134) dX12_step_134 rfl ?_
    refine V_getI (pc := 135) fX12_145 sM0 rfl dX12_step_135 ?_
    refine V_iconst (v := 1) (pc := 138) dX12_step_138 rfl ?_
    refine V_iadd (pc := 139) dX12_step_139 ?_
    refine V_putI (pc := 140) fX12_145 p12_32 sM0 rfl dX12_step_140 ?_
    refine V_goto (tgt := 119) (pc := 143) dX12_step_143 rfl ?_
    exact V_sub h ⟨rfl, rfl, trivial⟩
theorem wp_X12_trace {G : GV} {k : Nat} {M : Mem} {q : Int32 → Mem → Prop} {v1 : Int32} (h : Ci shM G mX12_in k [.long (Int32.toInt64 v1), .long 0, .long (Int32.toInt64 ((M.1 0 53) - 1))] (mset M 0 0 0) (fun x1 M1 => ((x1 = 0 → q (-1000000) M1) ∧ (¬ x1 = 0 → vp_in v1 16 ∧ q (M1.1 32 (ix v1)) M1)))) : Ci shM G mX12_trace (k + 1) [.ref (G.2.1 0), .int v1] M q := by
  unfold Ci
  show V _ _ _ _ _ [(0, .ref (G.2.1 0)), (1, .int v1)] _ _ _
  refine V_aload_n (pc := 0) dX12_trace_0 rfl ?_
  refine V_iconst (v := 0) (pc := 1) dX12_trace_1 rfl ?_
  refine V_putI (pc := 2) fX12_108 p12_0 sM0 rfl dX12_trace_2 ?_
  refine V_iload_n (pc := 5) dX12_trace_5 rfl ?_
  refine V_i2l (pc := 6) dX12_trace_6 ?_
  refine V_lconst (v := 0) (pc := 7) dX12_trace_7 rfl ?_
  refine V_aload_n (pc := 8) dX12_trace_8 rfl ?_
  refine V_getI (pc := 9) fX12_345 sM0 rfl dX12_trace_9 ?_
  refine V_top (v := (M.1 0 53)) (by simp [mset, lset, upd]) ?_
  refine V_iconst (v := 1) (pc := 12) dX12_trace_12 rfl ?_
  refine V_isub (pc := 13) dX12_trace_13 ?_
  refine V_i2l (pc := 14) dX12_trace_14 ?_
  refine V_callSi [.long (Int32.toInt64 v1), .long 0, .long (Int32.toInt64 ((M.1 0 53) - 1))] (pc := 15) kX12_in lX12_118 rfl (Nat.le_of_ble_eq_true rfl) rfl (Nat.le_of_ble_eq_true rfl) dX12_trace_15 ?_
  refine Ci.mono h ?_
  intro x1 M1 h
  refine V_if_eq (tgt := 30) (pc := 18) dX12_trace_18 rfl (fun c => ?_) (fun c => ?_)
  · have h := h.1 c
    refine V_ldc (pc := 30) dX12_trace_30 nX12_144 ?_
    exact V_iret dX12_trace_32 rfl h
  · have h := h.2 c
    refine V_aload_n (pc := 21) dX12_trace_21 rfl ?_
    refine V_getR (pc := 22) fX12_105 sM0 rfl dX12_trace_22 ?_
    refine V_iload_n (pc := 25) dX12_trace_25 rfl ?_
    refine V_iald (pc := 26) sM32 dX12_trace_26 h.1 ?_
    have h := h.2
    refine V_goto (tgt := 32) (pc := 27) dX12_trace_27 rfl ?_
    exact V_iret dX12_trace_32 rfl h
theorem wp_X12_as {G : GV} {k : Nat} {M : Mem} {q : Int32 → Mem → Prop} {v1 : Int32} {v2 : Int32} (h : Ci shM G mX12_isLine (k + 1) [.ref (G.2.1 0), .int v1] (mset M 0 0 0) (fun x1 M1 => ((x1 = 0 → q (-1000001) M1) ∧ (¬ x1 = 0 → Ci shM G mX12_in (k + 1) [.long (Int32.toInt64 v2), .long 0, .long 5] M1 (fun x2 M2 => ((x2 ≠ 0 → vp_in v1 12 ∧ Ci shM G mX12_isOf (k + 1) [.int ((M2.1 9 (ix v1)) + 1), .int v2] (mset M2 0 1 0) (fun x3 M3 => ((x3 = 0 → Ci shM G mX12_finding (k + 1) [.ref (G.2.1 0), .int 3] M3 (fun x4 M4 => q x4 M4)) ∧ (¬ x3 = 0 → vp_in v1 12 ∧ q (M3.1 11 (ix v1)) M3)))) ∧ (x2 = 0 → q (-1000001) M2))))))) : Ci shM G mX12_as (k + 2) [.ref (G.2.1 0), .int v1, .int v2] M q := by
  unfold Ci
  show V _ _ _ _ _ [(0, .ref (G.2.1 0)), (1, .int v1), (2, .int v2)] _ _ _
  refine V_aload_n (pc := 0) dX12_as_0 rfl ?_
  refine V_iconst (v := 0) (pc := 1) dX12_as_1 rfl ?_
  refine V_putI (pc := 2) fX12_108 p12_0 sM0 rfl dX12_as_2 ?_
  refine V_aload_n (pc := 5) dX12_as_5 rfl ?_
  refine V_iload_n (pc := 6) dX12_as_6 rfl ?_
  refine V_callVi [.int v1] (pc := 7) kX12_isLine lX12_255 sM0 rfl rfl (Nat.le_of_ble_eq_true rfl) rfl (Nat.le_of_ble_eq_true rfl) dX12_as_7 ?_
  refine Ci.mono h ?_
  intro x1 M1 h
  refine V_if_eq (tgt := 25) (pc := 10) dX12_as_10 rfl (fun c => ?_) (fun c => ?_)
  · have h := h.1 c
    refine V_ldc (pc := 25) dX12_as_25 nX12_128 ?_
    exact V_iret dX12_as_27 rfl h
  · have h := h.2 c
    refine V_iload_n (pc := 13) dX12_as_13 rfl ?_
    refine V_i2l (pc := 14) dX12_as_14 ?_
    refine V_lconst (v := 0) (pc := 15) dX12_as_15 rfl ?_
    refine V_ldc2 (pc := 16) dX12_as_16 nX12_340 ?_
    refine V_callSi [.long (Int32.toInt64 v2), .long 0, .long 5] (pc := 19) kX12_in lX12_118 rfl (Nat.le_of_ble_eq_true rfl) rfl (Nat.le_of_ble_eq_true rfl) dX12_as_19 ?_
    refine Ci.mono h ?_
    intro x2 M2 h
    refine V_if_ne (tgt := 28) (pc := 22) dX12_as_22 rfl (fun c => ?_) (fun c => ?_)
    · have h := h.1 c
      refine V_aload_n (pc := 28) dX12_as_28 rfl ?_
      refine V_iconst (v := 0) (pc := 29) dX12_as_29 rfl ?_
      refine V_putI (pc := 30) fX12_112 p12_1 sM0 rfl dX12_as_30 ?_
      refine V_aload_n (pc := 33) dX12_as_33 rfl ?_
      refine V_getR (pc := 34) fX12_35 sM0 rfl dX12_as_34 ?_
      refine V_iload_n (pc := 37) dX12_as_37 rfl ?_
      refine V_iald (pc := 38) sM9 dX12_as_38 h.1 ?_
      have h := h.2
      refine V_top (v := (M2.1 9 (ix v1))) (by simp [mset, lset]) ?_
      refine V_iconst (v := 1) (pc := 39) dX12_as_39 rfl ?_
      refine V_iadd (pc := 40) dX12_as_40 ?_
      refine V_iload_n (pc := 41) dX12_as_41 rfl ?_
      refine V_callSi [.int ((M2.1 9 (ix v1)) + 1), .int v2] (pc := 42) kX12_isOf lX12_342 rfl (Nat.le_of_ble_eq_true rfl) rfl (Nat.le_of_ble_eq_true rfl) dX12_as_42 ?_
      refine Ci.mono h ?_
      intro x3 M3 h
      refine V_if_eq (tgt := 57) (pc := 45) dX12_as_45 rfl (fun c => ?_) (fun c => ?_)
      · have h := h.1 c
        refine V_aload_n (pc := 57) dX12_as_57 rfl ?_
        refine V_iconst (v := 3) (pc := 58) dX12_as_58 rfl ?_
        refine V_callVi [.int 3] (pc := 59) kX12_finding lX12_129 sM0 rfl rfl (Nat.le_of_ble_eq_true rfl) rfl (Nat.le_of_ble_eq_true rfl) dX12_as_59 ?_
        refine Ci.mono h ?_
        intro x4 M4 h
        exact V_iret dX12_as_62 rfl h
      · have h := h.2 c
        refine V_aload_n (pc := 48) dX12_as_48 rfl ?_
        refine V_getR (pc := 49) fX12_41 sM0 rfl dX12_as_49 ?_
        refine V_iload_n (pc := 52) dX12_as_52 rfl ?_
        refine V_iald (pc := 53) sM11 dX12_as_53 h.1 ?_
        have h := h.2
        refine V_goto (tgt := 62) (pc := 54) dX12_as_54 rfl ?_
        exact V_iret dX12_as_62 rfl h
    · have h := h.2 c
      refine V_ldc (pc := 25) dX12_as_25 nX12_128 ?_
      exact V_iret dX12_as_27 rfl h
theorem wp_X12_copy {G : GV} {k : Nat} {M : Mem} {q : Int32 → Mem → Prop} {v1 : Int32} {v2 : Int32} {v3 : Int32} {v4 : Int32} {v5 : Int32} (h : Ci shM G mX12_isSheet (k + 1) [.int v1] (mset M 0 0 0) (fun x1 M1 => ((x1 = 0 → q (-1000001) M1) ∧ (¬ x1 = 0 → Ci shM G mX12_isSheet (k + 1) [.int v3] M1 (fun x2 M2 => ((x2 ≠ 0 → vp_in v1 8 ∧ (((M2.1 1 (ix v1)) < 0 → Ci shM G mX12_finding (k + 1) [.ref (G.2.1 0), .int 1] (mset M2 0 1 0) (fun x3 M3 => q x3 M3)) ∧ (¬ (M2.1 1 (ix v1)) < 0 → vp_in v3 8 ∧ ((0 ≤ (M2.1 1 (ix v3)) → vp_in v1 8 ∧ vp_in v3 8 ∧ (((M2.1 1 (ix v1)) = (M2.1 1 (ix v3)) → ((v2 < 0 → Ci shM G mX12_finding (k + 1) [.ref (G.2.1 0), .int 2] (mset M2 0 1 0) (fun x4 M4 => q x4 M4)) ∧ (¬ v2 < 0 → ((v4 < 0 → Ci shM G mX12_finding (k + 1) [.ref (G.2.1 0), .int 2] (mset M2 0 1 0) (fun x5 M5 => q x5 M5)) ∧ (¬ v4 < 0 → ((v5 < 0 → Ci shM G mX12_finding (k + 1) [.ref (G.2.1 0), .int 2] (mset M2 0 1 0) (fun x6 M6 => q x6 M6)) ∧ (¬ v5 < 0 → vp_in v1 8 ∧ (((Int32.toInt64 (M2.1 2 (ix v1))) < ((Int32.toInt64 v2) + (Int32.toInt64 v5)) → Ci shM G mX12_finding (k + 1) [.ref (G.2.1 0), .int 2] (mset M2 0 1 0) (fun x7 M7 => q x7 M7)) ∧ (¬ (Int32.toInt64 (M2.1 2 (ix v1))) < ((Int32.toInt64 v2) + (Int32.toInt64 v5)) → vp_in v3 8 ∧ ((((Int32.toInt64 v4) + (Int32.toInt64 v5)) ≤ (Int32.toInt64 (M2.1 2 (ix v3))) → ((v2 < v4 → V shM G mX12_copy (k + 2) 143 [(0, .ref (G.2.1 0)), (1, .int v1), (2, .int v2), (3, .int v3), (4, .int v4), (5, .int v5), (6, .int 0), (7, .int 0)] [] (mset M2 0 1 0) (Qi q)) ∧ (¬ v2 < v4 → V shM G mX12_copy (k + 2) 143 [(0, .ref (G.2.1 0)), (1, .int v1), (2, .int v2), (3, .int v3), (4, .int v4), (5, .int v5), (6, .int 1), (7, .int 0)] [] (mset M2 0 1 0) (Qi q)))) ∧ (¬ ((Int32.toInt64 v4) + (Int32.toInt64 v5)) ≤ (Int32.toInt64 (M2.1 2 (ix v3))) → Ci shM G mX12_finding (k + 1) [.ref (G.2.1 0), .int 2] (mset M2 0 1 0) (fun x8 M8 => q x8 M8)))))))))))) ∧ (¬ (M2.1 1 (ix v1)) = (M2.1 1 (ix v3)) → Ci shM G mX12_finding (k + 1) [.ref (G.2.1 0), .int 5] (mset M2 0 1 0) (fun x9 M9 => q x9 M9)))) ∧ (¬ 0 ≤ (M2.1 1 (ix v3)) → Ci shM G mX12_finding (k + 1) [.ref (G.2.1 0), .int 1] (mset M2 0 1 0) (fun x10 M10 => q x10 M10)))))) ∧ (x2 = 0 → q (-1000001) M2))))))) : Ci shM G mX12_copy (k + 2) [.ref (G.2.1 0), .int v1, .int v2, .int v3, .int v4, .int v5] M q := by
  unfold Ci
  show V _ _ _ _ _ [(0, .ref (G.2.1 0)), (1, .int v1), (2, .int v2), (3, .int v3), (4, .int v4), (5, .int v5)] _ _ _
  refine V_aload_n (pc := 0) dX12_copy_0 rfl ?_
  refine V_iconst (v := 0) (pc := 1) dX12_copy_1 rfl ?_
  refine V_putI (pc := 2) fX12_108 p12_0 sM0 rfl dX12_copy_2 ?_
  refine V_iload_n (pc := 5) dX12_copy_5 rfl ?_
  refine V_callSi [.int v1] (pc := 6) kX12_isSheet lX12_122 rfl (Nat.le_of_ble_eq_true rfl) rfl (Nat.le_of_ble_eq_true rfl) dX12_copy_6 ?_
  refine Ci.mono h ?_
  intro x1 M1 h
  refine V_if_eq (tgt := 19) (pc := 9) dX12_copy_9 rfl (fun c => ?_) (fun c => ?_)
  · have h := h.1 c
    refine V_ldc (pc := 19) dX12_copy_19 nX12_128 ?_
    exact V_iret dX12_copy_21 rfl h
  · have h := h.2 c
    refine V_iload_n (pc := 12) dX12_copy_12 rfl ?_
    refine V_callSi [.int v3] (pc := 13) kX12_isSheet lX12_122 rfl (Nat.le_of_ble_eq_true rfl) rfl (Nat.le_of_ble_eq_true rfl) dX12_copy_13 ?_
    refine Ci.mono h ?_
    intro x2 M2 h
    refine V_if_ne (tgt := 22) (pc := 16) dX12_copy_16 rfl (fun c => ?_) (fun c => ?_)
    · have h := h.1 c
      refine V_aload_n (pc := 22) dX12_copy_22 rfl ?_
      refine V_iconst (v := 0) (pc := 23) dX12_copy_23 rfl ?_
      refine V_putI (pc := 24) fX12_112 p12_1 sM0 rfl dX12_copy_24 ?_
      refine V_aload_n (pc := 27) dX12_copy_27 rfl ?_
      refine V_getR (pc := 28) fX12_7 sM0 rfl dX12_copy_28 ?_
      refine V_iload_n (pc := 31) dX12_copy_31 rfl ?_
      refine V_iald (pc := 32) sM1 dX12_copy_32 h.1 ?_
      have h := h.2
      refine V_top (v := (M2.1 1 (ix v1))) (by simp [mset, lset]) ?_
      refine V_if_lt (tgt := 45) (pc := 33) dX12_copy_33 rfl (fun c => ?_) (fun c => ?_)
      · have h := h.1 c
        refine V_aload_n (pc := 45) dX12_copy_45 rfl ?_
        refine V_iconst (v := 1) (pc := 46) dX12_copy_46 rfl ?_
        refine V_callVi [.int 1] (pc := 47) kX12_finding lX12_129 sM0 rfl rfl (Nat.le_of_ble_eq_true rfl) rfl (Nat.le_of_ble_eq_true rfl) dX12_copy_47 ?_
        refine Ci.mono h ?_
        intro x3 M3 h
        exact V_iret dX12_copy_50 rfl h
      · have h := h.2 c
        refine V_aload_n (pc := 36) dX12_copy_36 rfl ?_
        refine V_getR (pc := 37) fX12_7 sM0 rfl dX12_copy_37 ?_
        refine V_iload_n (pc := 40) dX12_copy_40 rfl ?_
        refine V_iald (pc := 41) sM1 dX12_copy_41 h.1 ?_
        have h := h.2
        refine V_top (v := (M2.1 1 (ix v3))) (by simp [mset, lset]) ?_
        refine V_if_ge (tgt := 51) (pc := 42) dX12_copy_42 rfl (fun c => ?_) (fun c => ?_)
        · have h := h.1 c
          refine V_aload_n (pc := 51) dX12_copy_51 rfl ?_
          refine V_getR (pc := 52) fX12_7 sM0 rfl dX12_copy_52 ?_
          refine V_iload_n (pc := 55) dX12_copy_55 rfl ?_
          refine V_iald (pc := 56) sM1 dX12_copy_56 h.1 ?_
          have h := h.2
          refine V_top (v := (M2.1 1 (ix v1))) (by simp [mset, lset]) ?_
          refine V_aload_n (pc := 57) dX12_copy_57 rfl ?_
          refine V_getR (pc := 58) fX12_7 sM0 rfl dX12_copy_58 ?_
          refine V_iload_n (pc := 61) dX12_copy_61 rfl ?_
          refine V_iald (pc := 62) sM1 dX12_copy_62 h.1 ?_
          have h := h.2
          refine V_top (v := (M2.1 1 (ix v3))) (by simp [mset, lset]) ?_
          refine V_icmp_eq (tgt := 72) (pc := 63) dX12_copy_63 rfl (fun c => ?_) (fun c => ?_)
          · have h := h.1 c
            refine V_iload_n (pc := 72) dX12_copy_72 rfl ?_
            refine V_if_lt (tgt := 121) (pc := 73) dX12_copy_73 rfl (fun c => ?_) (fun c => ?_)
            · have h := h.1 c
              refine V_aload_n (pc := 121) dX12_copy_121 rfl ?_
              refine V_iconst (v := 2) (pc := 122) dX12_copy_122 rfl ?_
              refine V_callVi [.int 2] (pc := 123) kX12_finding lX12_129 sM0 rfl rfl (Nat.le_of_ble_eq_true rfl) rfl (Nat.le_of_ble_eq_true rfl) dX12_copy_123 ?_
              refine Ci.mono h ?_
              intro x4 M4 h
              exact V_iret dX12_copy_126 rfl h
            · have h := h.2 c
              refine V_iload (pc := 76) dX12_copy_76 rfl ?_
              refine V_if_lt (tgt := 121) (pc := 78) dX12_copy_78 rfl (fun c => ?_) (fun c => ?_)
              · have h := h.1 c
                refine V_aload_n (pc := 121) dX12_copy_121 rfl ?_
                refine V_iconst (v := 2) (pc := 122) dX12_copy_122 rfl ?_
                refine V_callVi [.int 2] (pc := 123) kX12_finding lX12_129 sM0 rfl rfl (Nat.le_of_ble_eq_true rfl) rfl (Nat.le_of_ble_eq_true rfl) dX12_copy_123 ?_
                refine Ci.mono h ?_
                intro x5 M5 h
                exact V_iret dX12_copy_126 rfl h
              · have h := h.2 c
                refine V_iload (pc := 81) dX12_copy_81 rfl ?_
                refine V_if_lt (tgt := 121) (pc := 83) dX12_copy_83 rfl (fun c => ?_) (fun c => ?_)
                · have h := h.1 c
                  refine V_aload_n (pc := 121) dX12_copy_121 rfl ?_
                  refine V_iconst (v := 2) (pc := 122) dX12_copy_122 rfl ?_
                  refine V_callVi [.int 2] (pc := 123) kX12_finding lX12_129 sM0 rfl rfl (Nat.le_of_ble_eq_true rfl) rfl (Nat.le_of_ble_eq_true rfl) dX12_copy_123 ?_
                  refine Ci.mono h ?_
                  intro x6 M6 h
                  exact V_iret dX12_copy_126 rfl h
                · have h := h.2 c
                  refine V_iload_n (pc := 86) dX12_copy_86 rfl ?_
                  refine V_i2l (pc := 87) dX12_copy_87 ?_
                  refine V_iload (pc := 88) dX12_copy_88 rfl ?_
                  refine V_i2l (pc := 90) dX12_copy_90 ?_
                  refine V_ladd (pc := 91) dX12_copy_91 ?_
                  refine V_aload_n (pc := 92) dX12_copy_92 rfl ?_
                  refine V_getR (pc := 93) fX12_13 sM0 rfl dX12_copy_93 ?_
                  refine V_iload_n (pc := 96) dX12_copy_96 rfl ?_
                  refine V_iald (pc := 97) sM2 dX12_copy_97 h.1 ?_
                  have h := h.2
                  refine V_top (v := (M2.1 2 (ix v1))) (by simp [mset, lset]) ?_
                  refine V_i2l (pc := 98) dX12_copy_98 ?_
                  refine V_lif_gt (tgt := 121) (pc := 99) dX12_copy_99 dX12_copy_100 rfl (fun c => ?_) (fun c => ?_)
                  · have h := h.1 c
                    refine V_aload_n (pc := 121) dX12_copy_121 rfl ?_
                    refine V_iconst (v := 2) (pc := 122) dX12_copy_122 rfl ?_
                    refine V_callVi [.int 2] (pc := 123) kX12_finding lX12_129 sM0 rfl rfl (Nat.le_of_ble_eq_true rfl) rfl (Nat.le_of_ble_eq_true rfl) dX12_copy_123 ?_
                    refine Ci.mono h ?_
                    intro x7 M7 h
                    exact V_iret dX12_copy_126 rfl h
                  · have h := h.2 c
                    refine V_iload (pc := 103) dX12_copy_103 rfl ?_
                    refine V_i2l (pc := 105) dX12_copy_105 ?_
                    refine V_iload (pc := 106) dX12_copy_106 rfl ?_
                    refine V_i2l (pc := 108) dX12_copy_108 ?_
                    refine V_ladd (pc := 109) dX12_copy_109 ?_
                    refine V_aload_n (pc := 110) dX12_copy_110 rfl ?_
                    refine V_getR (pc := 111) fX12_13 sM0 rfl dX12_copy_111 ?_
                    refine V_iload_n (pc := 114) dX12_copy_114 rfl ?_
                    refine V_iald (pc := 115) sM2 dX12_copy_115 h.1 ?_
                    have h := h.2
                    refine V_top (v := (M2.1 2 (ix v3))) (by simp [mset, lset]) ?_
                    refine V_i2l (pc := 116) dX12_copy_116 ?_
                    refine V_lif_le (tgt := 127) (pc := 117) dX12_copy_117 dX12_copy_118 rfl (fun c => ?_) (fun c => ?_)
                    · have h := h.1 c
                      refine V_iload_n (pc := 127) dX12_copy_127 rfl ?_
                      refine V_iload (pc := 128) dX12_copy_128 rfl ?_
                      refine V_icmp_lt (tgt := 137) (pc := 130) dX12_copy_130 rfl (fun c => ?_) (fun c => ?_)
                      · have h := h.1 c
                        refine V_iconst (v := 0) (pc := 137) dX12_copy_137 rfl ?_
                        refine V_istore (pc := 138) dX12_copy_138 (by decide) ?_
                        refine V_iconst (v := 0) (pc := 140) dX12_copy_140 rfl ?_
                        refine V_istore (pc := 141) dX12_copy_141 (by decide) ?_
                        exact V_sub h ⟨rfl, rfl, rfl, rfl, rfl, rfl, rfl, rfl, trivial⟩
                      · have h := h.2 c
                        refine V_iconst (v := 1) (pc := 133) dX12_copy_133 rfl ?_
                        refine V_goto (tgt := 138) (pc := 134) dX12_copy_134 rfl ?_
                        refine V_istore (pc := 138) dX12_copy_138 (by decide) ?_
                        refine V_iconst (v := 0) (pc := 140) dX12_copy_140 rfl ?_
                        refine V_istore (pc := 141) dX12_copy_141 (by decide) ?_
                        exact V_sub h ⟨rfl, rfl, rfl, rfl, rfl, rfl, rfl, rfl, trivial⟩
                    · have h := h.2 c
                      refine V_aload_n (pc := 121) dX12_copy_121 rfl ?_
                      refine V_iconst (v := 2) (pc := 122) dX12_copy_122 rfl ?_
                      refine V_callVi [.int 2] (pc := 123) kX12_finding lX12_129 sM0 rfl rfl (Nat.le_of_ble_eq_true rfl) rfl (Nat.le_of_ble_eq_true rfl) dX12_copy_123 ?_
                      refine Ci.mono h ?_
                      intro x8 M8 h
                      exact V_iret dX12_copy_126 rfl h
          · have h := h.2 c
            refine V_aload_n (pc := 66) dX12_copy_66 rfl ?_
            refine V_iconst (v := 5) (pc := 67) dX12_copy_67 rfl ?_
            refine V_callVi [.int 5] (pc := 68) kX12_finding lX12_129 sM0 rfl rfl (Nat.le_of_ble_eq_true rfl) rfl (Nat.le_of_ble_eq_true rfl) dX12_copy_68 ?_
            refine Ci.mono h ?_
            intro x9 M9 h
            exact V_iret dX12_copy_71 rfl h
        · have h := h.2 c
          refine V_aload_n (pc := 45) dX12_copy_45 rfl ?_
          refine V_iconst (v := 1) (pc := 46) dX12_copy_46 rfl ?_
          refine V_callVi [.int 1] (pc := 47) kX12_finding lX12_129 sM0 rfl rfl (Nat.le_of_ble_eq_true rfl) rfl (Nat.le_of_ble_eq_true rfl) dX12_copy_47 ?_
          refine Ci.mono h ?_
          intro x10 M10 h
          exact V_iret dX12_copy_50 rfl h
    · have h := h.2 c
      refine V_ldc (pc := 19) dX12_copy_19 nX12_128 ?_
      exact V_iret dX12_copy_21 rfl h
theorem wp_X12_copy_143 {G : GV} {k : Nat} {M : Mem} {q : Int32 → Mem → Prop} {v1 : Int32} {v2 : Int32} {v3 : Int32} {v4 : Int32} {v5 : Int32} {v6 : Int32} {v7 : Int32} (h : ((v5 ≤ v7 → q v5 M) ∧ (¬ v5 ≤ v7 → ((v6 = 0 → vp_in (((60 * v1) + v2) + ((v5 - 1) - v7)) 480 ∧ vp_in (((60 * v3) + v4) + ((v5 - 1) - v7)) 480 ∧ V shM G mX12_copy (k + 2) 143 [(0, .ref (G.2.1 0)), (1, .int v1), (2, .int v2), (3, .int v3), (4, .int v4), (5, .int v5), (6, .int v6), (7, .int (v7 + 1))] [] (mset M 3 (ix (((60 * v3) + v4) + ((v5 - 1) - v7))) (M.1 3 (ix (((60 * v1) + v2) + ((v5 - 1) - v7))))) (Qi q)) ∧ (¬ v6 = 0 → vp_in (((60 * v1) + v2) + v7) 480 ∧ vp_in (((60 * v3) + v4) + v7) 480 ∧ V shM G mX12_copy (k + 2) 143 [(0, .ref (G.2.1 0)), (1, .int v1), (2, .int v2), (3, .int v3), (4, .int v4), (5, .int v5), (6, .int v6), (7, .int (v7 + 1))] [] (mset M 3 (ix (((60 * v3) + v4) + v7)) (M.1 3 (ix (((60 * v1) + v2) + v7)))) (Qi q)))))) : V shM G mX12_copy (k + 2) 143 [(0, .ref (G.2.1 0)), (1, .int v1), (2, .int v2), (3, .int v3), (4, .int v4), (5, .int v5), (6, .int v6), (7, .int v7)] [] M (Qi q) := by
  refine V_iload (pc := 143) dX12_copy_143 rfl ?_
  refine V_iload (pc := 145) dX12_copy_145 rfl ?_
  refine V_icmp_ge (tgt := 204) (pc := 147) dX12_copy_147 rfl (fun c => ?_) (fun c => ?_)
  · have h := h.1 c
    refine V_iload (pc := 204) dX12_copy_204 rfl ?_
    exact V_iret dX12_copy_206 rfl h
  · have h := h.2 c
    refine V_iload (pc := 150) dX12_copy_150 rfl ?_
    refine V_if_eq (tgt := 160) (pc := 152) dX12_copy_152 rfl (fun c => ?_) (fun c => ?_)
    · have h := h.1 c
      refine V_iload (pc := 160) dX12_copy_160 rfl ?_
      refine V_iconst (v := 1) (pc := 162) dX12_copy_162 rfl ?_
      refine V_isub (pc := 163) dX12_copy_163 ?_
      refine V_iload (pc := 164) dX12_copy_164 rfl ?_
      refine V_isub (pc := 166) dX12_copy_166 ?_
      refine V_istore (pc := 167) dX12_copy_167 (by decide) ?_
      refine V_aload_n (pc := 169) dX12_copy_169 rfl ?_
      refine V_getR (pc := 170) fX12_16 sM0 rfl dX12_copy_170 ?_
      refine V_bipush (v := 60) (pc := 173) dX12_copy_173 rfl ?_
      refine V_iload_n (pc := 175) dX12_copy_175 rfl ?_
      refine V_imul (pc := 176) dX12_copy_176 ?_
      refine V_iload (pc := 177) dX12_copy_177 rfl ?_
      refine V_iadd (pc := 179) dX12_copy_179 ?_
      refine V_iload (pc := 180) dX12_copy_180 rfl ?_
      refine V_iadd (pc := 182) dX12_copy_182 ?_
      refine V_aload_n (pc := 183) dX12_copy_183 rfl ?_
      refine V_getR (pc := 184) fX12_16 sM0 rfl dX12_copy_184 ?_
      refine V_bipush (v := 60) (pc := 187) dX12_copy_187 rfl ?_
      refine V_iload_n (pc := 189) dX12_copy_189 rfl ?_
      refine V_imul (pc := 190) dX12_copy_190 ?_
      refine V_iload_n (pc := 191) dX12_copy_191 rfl ?_
      refine V_iadd (pc := 192) dX12_copy_192 ?_
      refine V_iload (pc := 193) dX12_copy_193 rfl ?_
      refine V_iadd (pc := 195) dX12_copy_195 ?_
      refine V_iald (pc := 196) sM3 dX12_copy_196 h.1 ?_
      have h := h.2
      refine V_iast (pc := 197) sM3 dX12_copy_197 h.1 ?_
      have h := h.2
      refine V_iinc (pc := 198) dX12_copy_198 rfl (by decide) ?_
      refine V_goto (tgt := 143) (pc := 201) dX12_copy_201 rfl ?_
      exact V_sub h ⟨rfl, rfl, rfl, rfl, rfl, rfl, rfl, rfl, trivial⟩
    · have h := h.2 c
      refine V_iload (pc := 155) dX12_copy_155 rfl ?_
      refine V_goto (tgt := 167) (pc := 157) dX12_copy_157 rfl ?_
      refine V_istore (pc := 167) dX12_copy_167 (by decide) ?_
      refine V_aload_n (pc := 169) dX12_copy_169 rfl ?_
      refine V_getR (pc := 170) fX12_16 sM0 rfl dX12_copy_170 ?_
      refine V_bipush (v := 60) (pc := 173) dX12_copy_173 rfl ?_
      refine V_iload_n (pc := 175) dX12_copy_175 rfl ?_
      refine V_imul (pc := 176) dX12_copy_176 ?_
      refine V_iload (pc := 177) dX12_copy_177 rfl ?_
      refine V_iadd (pc := 179) dX12_copy_179 ?_
      refine V_iload (pc := 180) dX12_copy_180 rfl ?_
      refine V_iadd (pc := 182) dX12_copy_182 ?_
      refine V_aload_n (pc := 183) dX12_copy_183 rfl ?_
      refine V_getR (pc := 184) fX12_16 sM0 rfl dX12_copy_184 ?_
      refine V_bipush (v := 60) (pc := 187) dX12_copy_187 rfl ?_
      refine V_iload_n (pc := 189) dX12_copy_189 rfl ?_
      refine V_imul (pc := 190) dX12_copy_190 ?_
      refine V_iload_n (pc := 191) dX12_copy_191 rfl ?_
      refine V_iadd (pc := 192) dX12_copy_192 ?_
      refine V_iload (pc := 193) dX12_copy_193 rfl ?_
      refine V_iadd (pc := 195) dX12_copy_195 ?_
      refine V_iald (pc := 196) sM3 dX12_copy_196 h.1 ?_
      have h := h.2
      refine V_iast (pc := 197) sM3 dX12_copy_197 h.1 ?_
      have h := h.2
      refine V_iinc (pc := 198) dX12_copy_198 rfl (by decide) ?_
      refine V_goto (tgt := 143) (pc := 201) dX12_copy_201 rfl ?_
      exact V_sub h ⟨rfl, rfl, rfl, rfl, rfl, rfl, rfl, rfl, trivial⟩
theorem wp_X12_drop {G : GV} {k : Nat} {M : Mem} {q : Int32 → Mem → Prop} {v1 : Int32} (h : Ci shM G mX12_isSheet (k + 1) [.int v1] (mset M 0 0 0) (fun x1 M1 => ((x1 ≠ 0 → vp_in v1 8 ∧ ((0 ≤ (M1.1 1 (ix v1)) → vp_in v1 8 ∧ vp_in v1 8 ∧ q (M1.1 2 (ix v1)) (mset (mset M1 0 1 0) 1 (ix v1) (-1))) ∧ (¬ 0 ≤ (M1.1 1 (ix v1)) → Ci shM G mX12_finding (k + 1) [.ref (G.2.1 0), .int 1] (mset M1 0 1 0) (fun x2 M2 => q x2 M2)))) ∧ (x1 = 0 → q (-1000001) M1)))) : Ci shM G mX12_drop (k + 2) [.ref (G.2.1 0), .int v1] M q := by
  unfold Ci
  show V _ _ _ _ _ [(0, .ref (G.2.1 0)), (1, .int v1)] _ _ _
  refine V_aload_n (pc := 0) dX12_drop_0 rfl ?_
  refine V_iconst (v := 0) (pc := 1) dX12_drop_1 rfl ?_
  refine V_putI (pc := 2) fX12_108 p12_0 sM0 rfl dX12_drop_2 ?_
  refine V_iload_n (pc := 5) dX12_drop_5 rfl ?_
  refine V_callSi [.int v1] (pc := 6) kX12_isSheet lX12_122 rfl (Nat.le_of_ble_eq_true rfl) rfl (Nat.le_of_ble_eq_true rfl) dX12_drop_6 ?_
  refine Ci.mono h ?_
  intro x1 M1 h
  refine V_if_ne (tgt := 15) (pc := 9) dX12_drop_9 rfl (fun c => ?_) (fun c => ?_)
  · have h := h.1 c
    refine V_aload_n (pc := 15) dX12_drop_15 rfl ?_
    refine V_iconst (v := 0) (pc := 16) dX12_drop_16 rfl ?_
    refine V_putI (pc := 17) fX12_112 p12_1 sM0 rfl dX12_drop_17 ?_
    refine V_aload_n (pc := 20) dX12_drop_20 rfl ?_
    refine V_getR (pc := 21) fX12_7 sM0 rfl dX12_drop_21 ?_
    refine V_iload_n (pc := 24) dX12_drop_24 rfl ?_
    refine V_iald (pc := 25) sM1 dX12_drop_25 h.1 ?_
    have h := h.2
    refine V_top (v := (M1.1 1 (ix v1))) (by simp [mset, lset]) ?_
    refine V_if_ge (tgt := 35) (pc := 26) dX12_drop_26 rfl (fun c => ?_) (fun c => ?_)
    · have h := h.1 c
      refine V_aload_n (pc := 35) dX12_drop_35 rfl ?_
      refine V_getR (pc := 36) fX12_7 sM0 rfl dX12_drop_36 ?_
      refine V_iload_n (pc := 39) dX12_drop_39 rfl ?_
      refine V_iconst (v := (-1)) (pc := 40) dX12_drop_40 rfl ?_
      refine V_iast (pc := 41) sM1 dX12_drop_41 h.1 ?_
      have h := h.2
      refine V_aload_n (pc := 42) dX12_drop_42 rfl ?_
      refine V_getR (pc := 43) fX12_13 sM0 rfl dX12_drop_43 ?_
      refine V_iload_n (pc := 46) dX12_drop_46 rfl ?_
      refine V_iald (pc := 47) sM2 dX12_drop_47 h.1 ?_
      have h := h.2
      refine V_top (v := (M1.1 2 (ix v1))) (by simp [mset, lset]) ?_
      exact V_iret dX12_drop_48 rfl h
    · have h := h.2 c
      refine V_aload_n (pc := 29) dX12_drop_29 rfl ?_
      refine V_iconst (v := 1) (pc := 30) dX12_drop_30 rfl ?_
      refine V_callVi [.int 1] (pc := 31) kX12_finding lX12_129 sM0 rfl rfl (Nat.le_of_ble_eq_true rfl) rfl (Nat.le_of_ble_eq_true rfl) dX12_drop_31 ?_
      refine Ci.mono h ?_
      intro x2 M2 h
      exact V_iret dX12_drop_34 rfl h
  · have h := h.2 c
    refine V_ldc (pc := 12) dX12_drop_12 nX12_128 ?_
    exact V_iret dX12_drop_14 rfl h
theorem wp_X12_ear {G : GV} {k : Nat} {M : Mem} {q : Int32 → Mem → Prop} {v1 : Int32} (h : Ci shM G mX12_isLine (k + 1) [.ref (G.2.1 0), .int v1] (mset M 0 0 0) (fun x1 M1 => ((x1 = 0 → q (-1000001) M1) ∧ (¬ x1 = 0 → Ci shM G mX12_earOf (k + 1) [.ref (G.2.1 0), .int v1] M1 (fun x2 M2 => q x2 M2))))) : Ci shM G mX12_ear (k + 2) [.ref (G.2.1 0), .int v1] M q := by
  unfold Ci
  show V _ _ _ _ _ [(0, .ref (G.2.1 0)), (1, .int v1)] _ _ _
  refine V_aload_n (pc := 0) dX12_ear_0 rfl ?_
  refine V_iconst (v := 0) (pc := 1) dX12_ear_1 rfl ?_
  refine V_putI (pc := 2) fX12_108 p12_0 sM0 rfl dX12_ear_2 ?_
  refine V_aload_n (pc := 5) dX12_ear_5 rfl ?_
  refine V_iload_n (pc := 6) dX12_ear_6 rfl ?_
  refine V_callVi [.int v1] (pc := 7) kX12_isLine lX12_255 sM0 rfl rfl (Nat.le_of_ble_eq_true rfl) rfl (Nat.le_of_ble_eq_true rfl) dX12_ear_7 ?_
  refine Ci.mono h ?_
  intro x1 M1 h
  refine V_if_eq (tgt := 21) (pc := 10) dX12_ear_10 rfl (fun c => ?_) (fun c => ?_)
  · have h := h.1 c
    refine V_ldc (pc := 21) dX12_ear_21 nX12_128 ?_
    exact V_iret dX12_ear_23 rfl h
  · have h := h.2 c
    refine V_aload_n (pc := 13) dX12_ear_13 rfl ?_
    refine V_iload_n (pc := 14) dX12_ear_14 rfl ?_
    refine V_callVi [.int v1] (pc := 15) kX12_earOf lX12_276 sM0 rfl rfl (Nat.le_of_ble_eq_true rfl) rfl (Nat.le_of_ble_eq_true rfl) dX12_ear_15 ?_
    refine Ci.mono h ?_
    intro x2 M2 h
    refine V_goto (tgt := 23) (pc := 18) dX12_ear_18 rfl ?_
    exact V_iret dX12_ear_23 rfl h
theorem wp_X12_isHomeless {G : GV} {k : Nat} {M : Mem} {q : Int32 → Mem → Prop} {v1 : Int32} (h : V shM G mX12_isHomeless (k + 2) 7 [(0, .ref (G.2.1 0)), (1, .int v1), (2, .int 0), (3, .int 0), (4, .int 0)] [] M (Qi q)) : Ci shM G mX12_isHomeless (k + 2) [.ref (G.2.1 0), .int v1] M q := by
  unfold Ci
  show V _ _ _ _ _ [(0, .ref (G.2.1 0)), (1, .int v1)] _ _ _
  refine V_iconst (v := 0) (pc := 0) dX12_isHomeless_0 rfl ?_
  refine V_istore_n (pc := 1) dX12_isHomeless_1 (by decide) ?_
  refine V_iconst (v := 0) (pc := 2) dX12_isHomeless_2 rfl ?_
  refine V_istore_n (pc := 3) dX12_isHomeless_3 (by decide) ?_
  refine V_iconst (v := 0) (pc := 4) dX12_isHomeless_4 rfl ?_
  refine V_istore (pc := 5) dX12_isHomeless_5 (by decide) ?_
  exact V_sub h ⟨rfl, rfl, rfl, rfl, rfl, trivial⟩
theorem wp_X12_isHomeless_7 {G : GV} {k : Nat} {M : Mem} {q : Int32 → Mem → Prop} {v1 : Int32} {v2 : Int32} {v3 : Int32} {v4 : Int32} (h : (((M.1 0 23) ≤ v4 → ((v2 = 0 → q 0 M) ∧ (¬ v2 = 0 → ((v3 ≠ 0 → q 0 M) ∧ (v3 = 0 → q 1 M))))) ∧ (¬ (M.1 0 23) ≤ v4 → vp_in v4 20 ∧ vp_in v1 12 ∧ (((M.1 19 (ix v4)) ≠ (M.1 10 (ix v1)) → ((v2 ≠ 0 → ((v3 ≠ 0 → V shM G mX12_isHomeless (k + 2) 7 [(0, .ref (G.2.1 0)), (1, .int v1), (2, .int 1), (3, .int 1), (4, .int (v4 + 1))] [] M (Qi q)) ∧ (v3 = 0 → V shM G mX12_isHomeless (k + 2) 7 [(0, .ref (G.2.1 0)), (1, .int v1), (2, .int 1), (3, .int 0), (4, .int (v4 + 1))] [] M (Qi q)))) ∧ (v2 = 0 → ((v3 ≠ 0 → V shM G mX12_isHomeless (k + 2) 7 [(0, .ref (G.2.1 0)), (1, .int v1), (2, .int 0), (3, .int 1), (4, .int (v4 + 1))] [] M (Qi q)) ∧ (v3 = 0 → V shM G mX12_isHomeless (k + 2) 7 [(0, .ref (G.2.1 0)), (1, .int v1), (2, .int 0), (3, .int 0), (4, .int (v4 + 1))] [] M (Qi q)))))) ∧ ((M.1 19 (ix v4)) = (M.1 10 (ix v1)) → vp_in v4 20 ∧ Ci shM G mX12_doorOf (k + 1) [.ref (G.2.1 0), .int v1] M (fun x1 M1 => (((M.1 20 (ix v4)) ≠ x1 → ((v2 ≠ 0 → ((v3 ≠ 0 → V shM G mX12_isHomeless (k + 2) 7 [(0, .ref (G.2.1 0)), (1, .int v1), (2, .int 1), (3, .int 1), (4, .int (v4 + 1))] [] M1 (Qi q)) ∧ (v3 = 0 → V shM G mX12_isHomeless (k + 2) 7 [(0, .ref (G.2.1 0)), (1, .int v1), (2, .int 1), (3, .int 0), (4, .int (v4 + 1))] [] M1 (Qi q)))) ∧ (v2 = 0 → ((v3 ≠ 0 → V shM G mX12_isHomeless (k + 2) 7 [(0, .ref (G.2.1 0)), (1, .int v1), (2, .int 0), (3, .int 1), (4, .int (v4 + 1))] [] M1 (Qi q)) ∧ (v3 = 0 → V shM G mX12_isHomeless (k + 2) 7 [(0, .ref (G.2.1 0)), (1, .int v1), (2, .int 0), (3, .int 0), (4, .int (v4 + 1))] [] M1 (Qi q)))))) ∧ ((M.1 20 (ix v4)) = x1 → ((v2 ≠ 0 → ((v3 ≠ 0 → V shM G mX12_isHomeless (k + 2) 7 [(0, .ref (G.2.1 0)), (1, .int v1), (2, .int 1), (3, .int 1), (4, .int (v4 + 1))] [] M1 (Qi q)) ∧ (v3 = 0 → Ci shM G mX12_gathered (k + 1) [.ref (G.2.1 0), .int v1] M1 (fun x2 M2 => vp_in v4 20 ∧ vp_in v4 20 ∧ Ci shM G mX12_in (k + 1) [.long (Int32.toInt64 x2), .long (Int32.toInt64 (M2.1 21 (ix v4))), .long (Int32.toInt64 ((M2.1 22 (ix v4)) - 1))] M2 (fun x3 M3 => ((x3 = 0 → V shM G mX12_isHomeless (k + 2) 7 [(0, .ref (G.2.1 0)), (1, .int v1), (2, .int 1), (3, .int 0), (4, .int (v4 + 1))] [] M3 (Qi q)) ∧ (¬ x3 = 0 → V shM G mX12_isHomeless (k + 2) 7 [(0, .ref (G.2.1 0)), (1, .int v1), (2, .int 1), (3, .int 1), (4, .int (v4 + 1))] [] M3 (Qi q)))))))) ∧ (v2 = 0 → ((v3 ≠ 0 → V shM G mX12_isHomeless (k + 2) 7 [(0, .ref (G.2.1 0)), (1, .int v1), (2, .int 1), (3, .int 1), (4, .int (v4 + 1))] [] M1 (Qi q)) ∧ (v3 = 0 → Ci shM G mX12_gathered (k + 1) [.ref (G.2.1 0), .int v1] M1 (fun x4 M4 => vp_in v4 20 ∧ vp_in v4 20 ∧ Ci shM G mX12_in (k + 1) [.long (Int32.toInt64 x4), .long (Int32.toInt64 (M4.1 21 (ix v4))), .long (Int32.toInt64 ((M4.1 22 (ix v4)) - 1))] M4 (fun x5 M5 => ((x5 = 0 → V shM G mX12_isHomeless (k + 2) 7 [(0, .ref (G.2.1 0)), (1, .int v1), (2, .int 1), (3, .int 0), (4, .int (v4 + 1))] [] M5 (Qi q)) ∧ (¬ x5 = 0 → V shM G mX12_isHomeless (k + 2) 7 [(0, .ref (G.2.1 0)), (1, .int v1), (2, .int 1), (3, .int 1), (4, .int (v4 + 1))] [] M5 (Qi q))))))))))))))))) : V shM G mX12_isHomeless (k + 2) 7 [(0, .ref (G.2.1 0)), (1, .int v1), (2, .int v2), (3, .int v3), (4, .int v4)] [] M (Qi q) := by
  refine V_iload (pc := 7) dX12_isHomeless_7 rfl ?_
  refine V_aload_n (pc := 9) dX12_isHomeless_9 rfl ?_
  refine V_getI (pc := 10) fX12_233 sM0 rfl dX12_isHomeless_10 ?_
  refine V_icmp_ge (tgt := 120) (pc := 13) dX12_isHomeless_13 rfl (fun c => ?_) (fun c => ?_)
  · have h := h.1 c
    refine V_iload_n (pc := 120) dX12_isHomeless_120 rfl ?_
    refine V_if_eq (tgt := 132) (pc := 121) dX12_isHomeless_121 rfl (fun c => ?_) (fun c => ?_)
    · have h := h.1 c
      refine V_iconst (v := 0) (pc := 132) dX12_isHomeless_132 rfl ?_
      exact V_zret dX12_isHomeless_133 rfl (Or.inl rfl) h
    · have h := h.2 c
      refine V_iload_n (pc := 124) dX12_isHomeless_124 rfl ?_
      refine V_if_ne (tgt := 132) (pc := 125) dX12_isHomeless_125 rfl (fun c => ?_) (fun c => ?_)
      · have h := h.1 c
        refine V_iconst (v := 0) (pc := 132) dX12_isHomeless_132 rfl ?_
        exact V_zret dX12_isHomeless_133 rfl (Or.inl rfl) h
      · have h := h.2 c
        refine V_iconst (v := 1) (pc := 128) dX12_isHomeless_128 rfl ?_
        refine V_goto (tgt := 133) (pc := 129) dX12_isHomeless_129 rfl ?_
        exact V_zret dX12_isHomeless_133 rfl (Or.inr rfl) h
  · have h := h.2 c
    refine V_aload_n (pc := 16) dX12_isHomeless_16 rfl ?_
    refine V_getR (pc := 17) fX12_65 sM0 rfl dX12_isHomeless_17 ?_
    refine V_iload (pc := 20) dX12_isHomeless_20 rfl ?_
    refine V_iald (pc := 22) sM19 dX12_isHomeless_22 h.1 ?_
    have h := h.2
    refine V_aload_n (pc := 23) dX12_isHomeless_23 rfl ?_
    refine V_getR (pc := 24) fX12_38 sM0 rfl dX12_isHomeless_24 ?_
    refine V_iload_n (pc := 27) dX12_isHomeless_27 rfl ?_
    refine V_iald (pc := 28) sM10 dX12_isHomeless_28 h.1 ?_
    have h := h.2
    refine V_icmp_ne (tgt := 51) (pc := 29) dX12_isHomeless_29 rfl (fun c => ?_) (fun c => ?_)
    · have h := h.1 c
      refine V_iconst (v := 0) (pc := 51) dX12_isHomeless_51 rfl ?_
      refine V_istore (pc := 52) dX12_isHomeless_52 (by decide) ?_
      refine V_iload_n (pc := 54) dX12_isHomeless_54 rfl ?_
      refine V_if_ne (tgt := 63) (pc := 55) dX12_isHomeless_55 rfl (fun c => ?_) (fun c => ?_)
      · have h := h.1 c
        refine V_iconst (v := 1) (pc := 63) dX12_isHomeless_63 rfl ?_
        refine V_goto (tgt := 68) (pc := 64) dX12_isHomeless_64 rfl ?_
        refine V_istore_n (pc := 68) dX12_isHomeless_68 (by decide) ?_
        refine V_iload_n (pc := 69) dX12_isHomeless_69 rfl ?_
        refine V_if_ne (tgt := 108) (pc := 70) dX12_isHomeless_70 rfl (fun c => ?_) (fun c => ?_)
        · have h := h.1 c
          refine V_iconst (v := 1) (pc := 108) dX12_isHomeless_108 rfl ?_
          refine V_goto (tgt := 113) (pc := 109) dX12_isHomeless_109 rfl ?_
          refine V_istore_n (pc := 113) dX12_isHomeless_113 (by decide) ?_
          refine V_iinc (pc := 114) dX12_isHomeless_114 rfl (by decide) ?_
          refine V_goto (tgt := 7) (pc := 117) dX12_isHomeless_117 rfl ?_
          exact V_sub h ⟨rfl, rfl, rfl, rfl, rfl, trivial⟩
        · have h := h.2 c
          refine V_iload (pc := 73) dX12_isHomeless_73 rfl ?_
          refine V_if_eq (tgt := 112) (pc := 75) dX12_isHomeless_75 rfl (fun c => ?_) (fun c => ?_)
          · skip
            refine V_iconst (v := 0) (pc := 112) dX12_isHomeless_112 rfl ?_
            refine V_istore_n (pc := 113) dX12_isHomeless_113 (by decide) ?_
            refine V_iinc (pc := 114) dX12_isHomeless_114 rfl (by decide) ?_
            refine V_goto (tgt := 7) (pc := 117) dX12_isHomeless_117 rfl ?_
            exact V_sub h ⟨rfl, rfl, rfl, rfl, rfl, trivial⟩
          · exact absurd c (by decide)
      · have h := h.2 c
        refine V_iload (pc := 58) dX12_isHomeless_58 rfl ?_
        refine V_if_eq (tgt := 67) (pc := 60) dX12_isHomeless_60 rfl (fun c => ?_) (fun c => ?_)
        · skip
          refine V_iconst (v := 0) (pc := 67) dX12_isHomeless_67 rfl ?_
          refine V_istore_n (pc := 68) dX12_isHomeless_68 (by decide) ?_
          refine V_iload_n (pc := 69) dX12_isHomeless_69 rfl ?_
          refine V_if_ne (tgt := 108) (pc := 70) dX12_isHomeless_70 rfl (fun c => ?_) (fun c => ?_)
          · have h := h.1 c
            refine V_iconst (v := 1) (pc := 108) dX12_isHomeless_108 rfl ?_
            refine V_goto (tgt := 113) (pc := 109) dX12_isHomeless_109 rfl ?_
            refine V_istore_n (pc := 113) dX12_isHomeless_113 (by decide) ?_
            refine V_iinc (pc := 114) dX12_isHomeless_114 rfl (by decide) ?_
            refine V_goto (tgt := 7) (pc := 117) dX12_isHomeless_117 rfl ?_
            exact V_sub h ⟨rfl, rfl, rfl, rfl, rfl, trivial⟩
          · have h := h.2 c
            refine V_iload (pc := 73) dX12_isHomeless_73 rfl ?_
            refine V_if_eq (tgt := 112) (pc := 75) dX12_isHomeless_75 rfl (fun c => ?_) (fun c => ?_)
            · skip
              refine V_iconst (v := 0) (pc := 112) dX12_isHomeless_112 rfl ?_
              refine V_istore_n (pc := 113) dX12_isHomeless_113 (by decide) ?_
              refine V_iinc (pc := 114) dX12_isHomeless_114 rfl (by decide) ?_
              refine V_goto (tgt := 7) (pc := 117) dX12_isHomeless_117 rfl ?_
              exact V_sub h ⟨rfl, rfl, rfl, rfl, rfl, trivial⟩
            · exact absurd c (by decide)
        · exact absurd c (by decide)
    · have h := h.2 c
      refine V_aload_n (pc := 32) dX12_isHomeless_32 rfl ?_
      refine V_getR (pc := 33) fX12_68 sM0 rfl dX12_isHomeless_33 ?_
      refine V_iload (pc := 36) dX12_isHomeless_36 rfl ?_
      refine V_iald (pc := 38) sM20 dX12_isHomeless_38 h.1 ?_
      have h := h.2
      refine V_aload_n (pc := 39) dX12_isHomeless_39 rfl ?_
      refine V_iload_n (pc := 40) dX12_isHomeless_40 rfl ?_
      refine V_callVi [.int v1] (pc := 41) kX12_doorOf lX12_252 sM0 rfl rfl (Nat.le_of_ble_eq_true rfl) rfl (Nat.le_of_ble_eq_true rfl) dX12_isHomeless_41 ?_
      refine Ci.mono h ?_
      intro x1 M1 h
      refine V_icmp_ne (tgt := 51) (pc := 44) dX12_isHomeless_44 rfl (fun c => ?_) (fun c => ?_)
      · have h := h.1 c
        refine V_iconst (v := 0) (pc := 51) dX12_isHomeless_51 rfl ?_
        refine V_istore (pc := 52) dX12_isHomeless_52 (by decide) ?_
        refine V_iload_n (pc := 54) dX12_isHomeless_54 rfl ?_
        refine V_if_ne (tgt := 63) (pc := 55) dX12_isHomeless_55 rfl (fun c => ?_) (fun c => ?_)
        · have h := h.1 c
          refine V_iconst (v := 1) (pc := 63) dX12_isHomeless_63 rfl ?_
          refine V_goto (tgt := 68) (pc := 64) dX12_isHomeless_64 rfl ?_
          refine V_istore_n (pc := 68) dX12_isHomeless_68 (by decide) ?_
          refine V_iload_n (pc := 69) dX12_isHomeless_69 rfl ?_
          refine V_if_ne (tgt := 108) (pc := 70) dX12_isHomeless_70 rfl (fun c => ?_) (fun c => ?_)
          · have h := h.1 c
            refine V_iconst (v := 1) (pc := 108) dX12_isHomeless_108 rfl ?_
            refine V_goto (tgt := 113) (pc := 109) dX12_isHomeless_109 rfl ?_
            refine V_istore_n (pc := 113) dX12_isHomeless_113 (by decide) ?_
            refine V_iinc (pc := 114) dX12_isHomeless_114 rfl (by decide) ?_
            refine V_goto (tgt := 7) (pc := 117) dX12_isHomeless_117 rfl ?_
            exact V_sub h ⟨rfl, rfl, rfl, rfl, rfl, trivial⟩
          · have h := h.2 c
            refine V_iload (pc := 73) dX12_isHomeless_73 rfl ?_
            refine V_if_eq (tgt := 112) (pc := 75) dX12_isHomeless_75 rfl (fun c => ?_) (fun c => ?_)
            · skip
              refine V_iconst (v := 0) (pc := 112) dX12_isHomeless_112 rfl ?_
              refine V_istore_n (pc := 113) dX12_isHomeless_113 (by decide) ?_
              refine V_iinc (pc := 114) dX12_isHomeless_114 rfl (by decide) ?_
              refine V_goto (tgt := 7) (pc := 117) dX12_isHomeless_117 rfl ?_
              exact V_sub h ⟨rfl, rfl, rfl, rfl, rfl, trivial⟩
            · exact absurd c (by decide)
        · have h := h.2 c
          refine V_iload (pc := 58) dX12_isHomeless_58 rfl ?_
          refine V_if_eq (tgt := 67) (pc := 60) dX12_isHomeless_60 rfl (fun c => ?_) (fun c => ?_)
          · skip
            refine V_iconst (v := 0) (pc := 67) dX12_isHomeless_67 rfl ?_
            refine V_istore_n (pc := 68) dX12_isHomeless_68 (by decide) ?_
            refine V_iload_n (pc := 69) dX12_isHomeless_69 rfl ?_
            refine V_if_ne (tgt := 108) (pc := 70) dX12_isHomeless_70 rfl (fun c => ?_) (fun c => ?_)
            · have h := h.1 c
              refine V_iconst (v := 1) (pc := 108) dX12_isHomeless_108 rfl ?_
              refine V_goto (tgt := 113) (pc := 109) dX12_isHomeless_109 rfl ?_
              refine V_istore_n (pc := 113) dX12_isHomeless_113 (by decide) ?_
              refine V_iinc (pc := 114) dX12_isHomeless_114 rfl (by decide) ?_
              refine V_goto (tgt := 7) (pc := 117) dX12_isHomeless_117 rfl ?_
              exact V_sub h ⟨rfl, rfl, rfl, rfl, rfl, trivial⟩
            · have h := h.2 c
              refine V_iload (pc := 73) dX12_isHomeless_73 rfl ?_
              refine V_if_eq (tgt := 112) (pc := 75) dX12_isHomeless_75 rfl (fun c => ?_) (fun c => ?_)
              · skip
                refine V_iconst (v := 0) (pc := 112) dX12_isHomeless_112 rfl ?_
                refine V_istore_n (pc := 113) dX12_isHomeless_113 (by decide) ?_
                refine V_iinc (pc := 114) dX12_isHomeless_114 rfl (by decide) ?_
                refine V_goto (tgt := 7) (pc := 117) dX12_isHomeless_117 rfl ?_
                exact V_sub h ⟨rfl, rfl, rfl, rfl, rfl, trivial⟩
              · exact absurd c (by decide)
          · exact absurd c (by decide)
      · have h := h.2 c
        refine V_iconst (v := 1) (pc := 47) dX12_isHomeless_47 rfl ?_
        refine V_goto (tgt := 52) (pc := 48) dX12_isHomeless_48 rfl ?_
        refine V_istore (pc := 52) dX12_isHomeless_52 (by decide) ?_
        refine V_iload_n (pc := 54) dX12_isHomeless_54 rfl ?_
        refine V_if_ne (tgt := 63) (pc := 55) dX12_isHomeless_55 rfl (fun c => ?_) (fun c => ?_)
        · have h := h.1 c
          refine V_iconst (v := 1) (pc := 63) dX12_isHomeless_63 rfl ?_
          refine V_goto (tgt := 68) (pc := 64) dX12_isHomeless_64 rfl ?_
          refine V_istore_n (pc := 68) dX12_isHomeless_68 (by decide) ?_
          refine V_iload_n (pc := 69) dX12_isHomeless_69 rfl ?_
          refine V_if_ne (tgt := 108) (pc := 70) dX12_isHomeless_70 rfl (fun c => ?_) (fun c => ?_)
          · have h := h.1 c
            refine V_iconst (v := 1) (pc := 108) dX12_isHomeless_108 rfl ?_
            refine V_goto (tgt := 113) (pc := 109) dX12_isHomeless_109 rfl ?_
            refine V_istore_n (pc := 113) dX12_isHomeless_113 (by decide) ?_
            refine V_iinc (pc := 114) dX12_isHomeless_114 rfl (by decide) ?_
            refine V_goto (tgt := 7) (pc := 117) dX12_isHomeless_117 rfl ?_
            exact V_sub h ⟨rfl, rfl, rfl, rfl, rfl, trivial⟩
          · have h := h.2 c
            refine V_iload (pc := 73) dX12_isHomeless_73 rfl ?_
            refine V_if_eq (tgt := 112) (pc := 75) dX12_isHomeless_75 rfl (fun c => ?_) (fun c => ?_)
            · exact absurd c (by decide)
            · skip
              refine V_aload_n (pc := 78) dX12_isHomeless_78 rfl ?_
              refine V_iload_n (pc := 79) dX12_isHomeless_79 rfl ?_
              refine V_callVi [.int v1] (pc := 80) kX12_gathered lX12_246 sM0 rfl rfl (Nat.le_of_ble_eq_true rfl) rfl (Nat.le_of_ble_eq_true rfl) dX12_isHomeless_80 ?_
              refine Ci.mono h ?_
              intro x2 M2 h
              refine V_i2l (pc := 83) dX12_isHomeless_83 ?_
              refine V_aload_n (pc := 84) dX12_isHomeless_84 rfl ?_
              refine V_getR (pc := 85) fX12_71 sM0 rfl dX12_isHomeless_85 ?_
              refine V_iload (pc := 88) dX12_isHomeless_88 rfl ?_
              refine V_iald (pc := 90) sM21 dX12_isHomeless_90 h.1 ?_
              have h := h.2
              refine V_i2l (pc := 91) dX12_isHomeless_91 ?_
              refine V_aload_n (pc := 92) dX12_isHomeless_92 rfl ?_
              refine V_getR (pc := 93) fX12_74 sM0 rfl dX12_isHomeless_93 ?_
              refine V_iload (pc := 96) dX12_isHomeless_96 rfl ?_
              refine V_iald (pc := 98) sM22 dX12_isHomeless_98 h.1 ?_
              have h := h.2
              refine V_iconst (v := 1) (pc := 99) dX12_isHomeless_99 rfl ?_
              refine V_isub (pc := 100) dX12_isHomeless_100 ?_
              refine V_i2l (pc := 101) dX12_isHomeless_101 ?_
              refine V_callSi [.long (Int32.toInt64 x2), .long (Int32.toInt64 (M2.1 21 (ix v4))), .long (Int32.toInt64 ((M2.1 22 (ix v4)) - 1))] (pc := 102) kX12_in lX12_118 rfl (Nat.le_of_ble_eq_true rfl) rfl (Nat.le_of_ble_eq_true rfl) dX12_isHomeless_102 ?_
              refine Ci.mono h ?_
              intro x3 M3 h
              refine V_if_eq (tgt := 112) (pc := 105) dX12_isHomeless_105 rfl (fun c => ?_) (fun c => ?_)
              · have h := h.1 c
                refine V_iconst (v := 0) (pc := 112) dX12_isHomeless_112 rfl ?_
                refine V_istore_n (pc := 113) dX12_isHomeless_113 (by decide) ?_
                refine V_iinc (pc := 114) dX12_isHomeless_114 rfl (by decide) ?_
                refine V_goto (tgt := 7) (pc := 117) dX12_isHomeless_117 rfl ?_
                exact V_sub h ⟨rfl, rfl, rfl, rfl, rfl, trivial⟩
              · have h := h.2 c
                refine V_iconst (v := 1) (pc := 108) dX12_isHomeless_108 rfl ?_
                refine V_goto (tgt := 113) (pc := 109) dX12_isHomeless_109 rfl ?_
                refine V_istore_n (pc := 113) dX12_isHomeless_113 (by decide) ?_
                refine V_iinc (pc := 114) dX12_isHomeless_114 rfl (by decide) ?_
                refine V_goto (tgt := 7) (pc := 117) dX12_isHomeless_117 rfl ?_
                exact V_sub h ⟨rfl, rfl, rfl, rfl, rfl, trivial⟩
        · have h := h.2 c
          refine V_iload (pc := 58) dX12_isHomeless_58 rfl ?_
          refine V_if_eq (tgt := 67) (pc := 60) dX12_isHomeless_60 rfl (fun c => ?_) (fun c => ?_)
          · exact absurd c (by decide)
          · skip
            refine V_iconst (v := 1) (pc := 63) dX12_isHomeless_63 rfl ?_
            refine V_goto (tgt := 68) (pc := 64) dX12_isHomeless_64 rfl ?_
            refine V_istore_n (pc := 68) dX12_isHomeless_68 (by decide) ?_
            refine V_iload_n (pc := 69) dX12_isHomeless_69 rfl ?_
            refine V_if_ne (tgt := 108) (pc := 70) dX12_isHomeless_70 rfl (fun c => ?_) (fun c => ?_)
            · have h := h.1 c
              refine V_iconst (v := 1) (pc := 108) dX12_isHomeless_108 rfl ?_
              refine V_goto (tgt := 113) (pc := 109) dX12_isHomeless_109 rfl ?_
              refine V_istore_n (pc := 113) dX12_isHomeless_113 (by decide) ?_
              refine V_iinc (pc := 114) dX12_isHomeless_114 rfl (by decide) ?_
              refine V_goto (tgt := 7) (pc := 117) dX12_isHomeless_117 rfl ?_
              exact V_sub h ⟨rfl, rfl, rfl, rfl, rfl, trivial⟩
            · have h := h.2 c
              refine V_iload (pc := 73) dX12_isHomeless_73 rfl ?_
              refine V_if_eq (tgt := 112) (pc := 75) dX12_isHomeless_75 rfl (fun c => ?_) (fun c => ?_)
              · exact absurd c (by decide)
              · skip
                refine V_aload_n (pc := 78) dX12_isHomeless_78 rfl ?_
                refine V_iload_n (pc := 79) dX12_isHomeless_79 rfl ?_
                refine V_callVi [.int v1] (pc := 80) kX12_gathered lX12_246 sM0 rfl rfl (Nat.le_of_ble_eq_true rfl) rfl (Nat.le_of_ble_eq_true rfl) dX12_isHomeless_80 ?_
                refine Ci.mono h ?_
                intro x4 M4 h
                refine V_i2l (pc := 83) dX12_isHomeless_83 ?_
                refine V_aload_n (pc := 84) dX12_isHomeless_84 rfl ?_
                refine V_getR (pc := 85) fX12_71 sM0 rfl dX12_isHomeless_85 ?_
                refine V_iload (pc := 88) dX12_isHomeless_88 rfl ?_
                refine V_iald (pc := 90) sM21 dX12_isHomeless_90 h.1 ?_
                have h := h.2
                refine V_i2l (pc := 91) dX12_isHomeless_91 ?_
                refine V_aload_n (pc := 92) dX12_isHomeless_92 rfl ?_
                refine V_getR (pc := 93) fX12_74 sM0 rfl dX12_isHomeless_93 ?_
                refine V_iload (pc := 96) dX12_isHomeless_96 rfl ?_
                refine V_iald (pc := 98) sM22 dX12_isHomeless_98 h.1 ?_
                have h := h.2
                refine V_iconst (v := 1) (pc := 99) dX12_isHomeless_99 rfl ?_
                refine V_isub (pc := 100) dX12_isHomeless_100 ?_
                refine V_i2l (pc := 101) dX12_isHomeless_101 ?_
                refine V_callSi [.long (Int32.toInt64 x4), .long (Int32.toInt64 (M4.1 21 (ix v4))), .long (Int32.toInt64 ((M4.1 22 (ix v4)) - 1))] (pc := 102) kX12_in lX12_118 rfl (Nat.le_of_ble_eq_true rfl) rfl (Nat.le_of_ble_eq_true rfl) dX12_isHomeless_102 ?_
                refine Ci.mono h ?_
                intro x5 M5 h
                refine V_if_eq (tgt := 112) (pc := 105) dX12_isHomeless_105 rfl (fun c => ?_) (fun c => ?_)
                · have h := h.1 c
                  refine V_iconst (v := 0) (pc := 112) dX12_isHomeless_112 rfl ?_
                  refine V_istore_n (pc := 113) dX12_isHomeless_113 (by decide) ?_
                  refine V_iinc (pc := 114) dX12_isHomeless_114 rfl (by decide) ?_
                  refine V_goto (tgt := 7) (pc := 117) dX12_isHomeless_117 rfl ?_
                  exact V_sub h ⟨rfl, rfl, rfl, rfl, rfl, trivial⟩
                · have h := h.2 c
                  refine V_iconst (v := 1) (pc := 108) dX12_isHomeless_108 rfl ?_
                  refine V_goto (tgt := 113) (pc := 109) dX12_isHomeless_109 rfl ?_
                  refine V_istore_n (pc := 113) dX12_isHomeless_113 (by decide) ?_
                  refine V_iinc (pc := 114) dX12_isHomeless_114 rfl (by decide) ?_
                  refine V_goto (tgt := 7) (pc := 117) dX12_isHomeless_117 rfl ?_
                  exact V_sub h ⟨rfl, rfl, rfl, rfl, rfl, trivial⟩
theorem wp_X12_isLike {G : GV} {k : Nat} {M : Mem} {q : Int32 → Mem → Prop} {v1 : Int32} {v2 : Int32} (h : Ci shM G mX12_earOf (k + 1) [.ref (G.2.1 0), .int v1] M (fun x1 M1 => Ci shM G mX12_earOf (k + 1) [.ref (G.2.1 0), .int v2] M1 (fun x2 M2 => ((x1 = x2 → q 1 M2) ∧ (¬ x1 = x2 → Ci shM G mX12_handOf (k + 1) [.ref (G.2.1 0), .int v1, .int v2] M2 (fun x3 M3 => ((2 ≤ x3 → q 0 M3) ∧ (¬ 2 ≤ x3 → q 1 M3)))))))) : Ci shM G mX12_isLike (k + 2) [.ref (G.2.1 0), .int v1, .int v2] M q := by
  unfold Ci
  show V _ _ _ _ _ [(0, .ref (G.2.1 0)), (1, .int v1), (2, .int v2)] _ _ _
  refine V_aload_n (pc := 0) dX12_isLike_0 rfl ?_
  refine V_iload_n (pc := 1) dX12_isLike_1 rfl ?_
  refine V_callVi [.int v1] (pc := 2) kX12_earOf lX12_276 sM0 rfl rfl (Nat.le_of_ble_eq_true rfl) rfl (Nat.le_of_ble_eq_true rfl) dX12_isLike_2 ?_
  refine Ci.mono h ?_
  intro x1 M1 h
  refine V_aload_n (pc := 5) dX12_isLike_5 rfl ?_
  refine V_iload_n (pc := 6) dX12_isLike_6 rfl ?_
  refine V_callVi [.int v2] (pc := 7) kX12_earOf lX12_276 sM0 rfl rfl (Nat.le_of_ble_eq_true rfl) rfl (Nat.le_of_ble_eq_true rfl) dX12_isLike_7 ?_
  refine Ci.mono h ?_
  intro x2 M2 h
  refine V_icmp_eq (tgt := 23) (pc := 10) dX12_isLike_10 rfl (fun c => ?_) (fun c => ?_)
  · have h := h.1 c
    refine V_iconst (v := 1) (pc := 23) dX12_isLike_23 rfl ?_
    refine V_goto (tgt := 28) (pc := 24) dX12_isLike_24 rfl ?_
    exact V_zret dX12_isLike_28 rfl (Or.inr rfl) h
  · have h := h.2 c
    refine V_aload_n (pc := 13) dX12_isLike_13 rfl ?_
    refine V_iload_n (pc := 14) dX12_isLike_14 rfl ?_
    refine V_iload_n (pc := 15) dX12_isLike_15 rfl ?_
    refine V_callVi [.int v1, .int v2] (pc := 16) kX12_handOf lX12_283 sM0 rfl rfl (Nat.le_of_ble_eq_true rfl) rfl (Nat.le_of_ble_eq_true rfl) dX12_isLike_16 ?_
    refine Ci.mono h ?_
    intro x3 M3 h
    refine V_iconst (v := 2) (pc := 19) dX12_isLike_19 rfl ?_
    refine V_icmp_ge (tgt := 27) (pc := 20) dX12_isLike_20 rfl (fun c => ?_) (fun c => ?_)
    · have h := h.1 c
      refine V_iconst (v := 0) (pc := 27) dX12_isLike_27 rfl ?_
      exact V_zret dX12_isLike_28 rfl (Or.inl rfl) h
    · have h := h.2 c
      refine V_iconst (v := 1) (pc := 23) dX12_isLike_23 rfl ?_
      refine V_goto (tgt := 28) (pc := 24) dX12_isLike_24 rfl ?_
      exact V_zret dX12_isLike_28 rfl (Or.inr rfl) h
theorem wp_X12_isOneDoor {G : GV} {k : Nat} {M : Mem} {q : Int32 → Mem → Prop} {v1 : Int32} {v2 : Int32} (h : vp_in v1 12 ∧ vp_in v2 12 ∧ (((M.1 10 (ix v1)) ≠ (M.1 10 (ix v2)) → q 0 M) ∧ ((M.1 10 (ix v1)) = (M.1 10 (ix v2)) → Ci shM G mX12_doorOf (k + 1) [.ref (G.2.1 0), .int v1] M (fun x1 M1 => Ci shM G mX12_doorOf (k + 1) [.ref (G.2.1 0), .int v2] M1 (fun x2 M2 => ((x1 ≠ x2 → q 0 M2) ∧ (x1 = x2 → q 1 M2))))))) : Ci shM G mX12_isOneDoor (k + 2) [.ref (G.2.1 0), .int v1, .int v2] M q := by
  unfold Ci
  show V _ _ _ _ _ [(0, .ref (G.2.1 0)), (1, .int v1), (2, .int v2)] _ _ _
  refine V_aload_n (pc := 0) dX12_isOneDoor_0 rfl ?_
  refine V_getR (pc := 1) fX12_38 sM0 rfl dX12_isOneDoor_1 ?_
  refine V_iload_n (pc := 4) dX12_isOneDoor_4 rfl ?_
  refine V_iald (pc := 5) sM10 dX12_isOneDoor_5 h.1 ?_
  have h := h.2
  refine V_aload_n (pc := 6) dX12_isOneDoor_6 rfl ?_
  refine V_getR (pc := 7) fX12_38 sM0 rfl dX12_isOneDoor_7 ?_
  refine V_iload_n (pc := 10) dX12_isOneDoor_10 rfl ?_
  refine V_iald (pc := 11) sM10 dX12_isOneDoor_11 h.1 ?_
  have h := h.2
  refine V_icmp_ne (tgt := 32) (pc := 12) dX12_isOneDoor_12 rfl (fun c => ?_) (fun c => ?_)
  · have h := h.1 c
    refine V_iconst (v := 0) (pc := 32) dX12_isOneDoor_32 rfl ?_
    exact V_zret dX12_isOneDoor_33 rfl (Or.inl rfl) h
  · have h := h.2 c
    refine V_aload_n (pc := 15) dX12_isOneDoor_15 rfl ?_
    refine V_iload_n (pc := 16) dX12_isOneDoor_16 rfl ?_
    refine V_callVi [.int v1] (pc := 17) kX12_doorOf lX12_252 sM0 rfl rfl (Nat.le_of_ble_eq_true rfl) rfl (Nat.le_of_ble_eq_true rfl) dX12_isOneDoor_17 ?_
    refine Ci.mono h ?_
    intro x1 M1 h
    refine V_aload_n (pc := 20) dX12_isOneDoor_20 rfl ?_
    refine V_iload_n (pc := 21) dX12_isOneDoor_21 rfl ?_
    refine V_callVi [.int v2] (pc := 22) kX12_doorOf lX12_252 sM0 rfl rfl (Nat.le_of_ble_eq_true rfl) rfl (Nat.le_of_ble_eq_true rfl) dX12_isOneDoor_22 ?_
    refine Ci.mono h ?_
    intro x2 M2 h
    refine V_icmp_ne (tgt := 32) (pc := 25) dX12_isOneDoor_25 rfl (fun c => ?_) (fun c => ?_)
    · have h := h.1 c
      refine V_iconst (v := 0) (pc := 32) dX12_isOneDoor_32 rfl ?_
      exact V_zret dX12_isOneDoor_33 rfl (Or.inl rfl) h
    · have h := h.2 c
      refine V_iconst (v := 1) (pc := 28) dX12_isOneDoor_28 rfl ?_
      refine V_goto (tgt := 33) (pc := 29) dX12_isOneDoor_29 rfl ?_
      exact V_zret dX12_isOneDoor_33 rfl (Or.inr rfl) h
theorem wp_X12_kind {G : GV} {k : Nat} {M : Mem} {q : Int32 → Mem → Prop} {v1 : Int32} (h : Ci shM G mX12_isLine (k + 1) [.ref (G.2.1 0), .int v1] (mset M 0 0 0) (fun x1 M1 => ((x1 = 0 → q (-1000001) M1) ∧ (¬ x1 = 0 → vp_in v1 12 ∧ q ((M1.1 9 (ix v1)) + 1) M1)))) : Ci shM G mX12_kind (k + 2) [.ref (G.2.1 0), .int v1] M q := by
  unfold Ci
  show V _ _ _ _ _ [(0, .ref (G.2.1 0)), (1, .int v1)] _ _ _
  refine V_aload_n (pc := 0) dX12_kind_0 rfl ?_
  refine V_iconst (v := 0) (pc := 1) dX12_kind_1 rfl ?_
  refine V_putI (pc := 2) fX12_108 p12_0 sM0 rfl dX12_kind_2 ?_
  refine V_aload_n (pc := 5) dX12_kind_5 rfl ?_
  refine V_iload_n (pc := 6) dX12_kind_6 rfl ?_
  refine V_callVi [.int v1] (pc := 7) kX12_isLine lX12_255 sM0 rfl rfl (Nat.le_of_ble_eq_true rfl) rfl (Nat.le_of_ble_eq_true rfl) dX12_kind_7 ?_
  refine Ci.mono h ?_
  intro x1 M1 h
  refine V_if_eq (tgt := 24) (pc := 10) dX12_kind_10 rfl (fun c => ?_) (fun c => ?_)
  · have h := h.1 c
    refine V_ldc (pc := 24) dX12_kind_24 nX12_128 ?_
    exact V_iret dX12_kind_26 rfl h
  · have h := h.2 c
    refine V_aload_n (pc := 13) dX12_kind_13 rfl ?_
    refine V_getR (pc := 14) fX12_35 sM0 rfl dX12_kind_14 ?_
    refine V_iload_n (pc := 17) dX12_kind_17 rfl ?_
    refine V_iald (pc := 18) sM9 dX12_kind_18 h.1 ?_
    have h := h.2
    refine V_iconst (v := 1) (pc := 19) dX12_kind_19 rfl ?_
    refine V_iadd (pc := 20) dX12_kind_20 ?_
    refine V_goto (tgt := 26) (pc := 21) dX12_kind_21 rfl ?_
    exact V_iret dX12_kind_26 rfl h
theorem wp_X12_leaf {G : GV} {k : Nat} {M : Mem} {q : Int32 → Mem → Prop} {v1 : Int32} {v2 : Int32} (h : Ci shM G mX12_isBook (k + 1) [.ref (G.2.1 0), .int v1] (mset M 0 0 0) (fun x1 M1 => ((x1 = 0 → q (-1000001) M1) ∧ (¬ x1 = 0 → Ci shM G mX12_in (k + 1) [.long (Int32.toInt64 v2), .long 0, .long 1] M1 (fun x2 M2 => ((x2 ≠ 0 → vp_in v1 10 ∧ (((M2.1 7 (ix v1)) = 0 → ((v2 ≠ 1 → vp_in v1 10 ∧ q 0 (mset M2 7 (ix v1) (vp_nar .boolean 0))) ∧ (v2 = 1 → vp_in v1 10 ∧ q 0 (mset M2 7 (ix v1) (vp_nar .boolean 1))))) ∧ (¬ (M2.1 7 (ix v1)) = 0 → ((v2 ≠ 1 → vp_in v1 10 ∧ q 1 (mset M2 7 (ix v1) (vp_nar .boolean 0))) ∧ (v2 = 1 → vp_in v1 10 ∧ q 1 (mset M2 7 (ix v1) (vp_nar .boolean 1))))))) ∧ (x2 = 0 → q (-1000001) M2))))))) : Ci shM G mX12_leaf (k + 2) [.ref (G.2.1 0), .int v1, .int v2] M q := by
  unfold Ci
  show V _ _ _ _ _ [(0, .ref (G.2.1 0)), (1, .int v1), (2, .int v2)] _ _ _
  refine V_aload_n (pc := 0) dX12_leaf_0 rfl ?_
  refine V_iconst (v := 0) (pc := 1) dX12_leaf_1 rfl ?_
  refine V_putI (pc := 2) fX12_108 p12_0 sM0 rfl dX12_leaf_2 ?_
  refine V_aload_n (pc := 5) dX12_leaf_5 rfl ?_
  refine V_iload_n (pc := 6) dX12_leaf_6 rfl ?_
  refine V_callVi [.int v1] (pc := 7) kX12_isBook lX12_337 sM0 rfl rfl (Nat.le_of_ble_eq_true rfl) rfl (Nat.le_of_ble_eq_true rfl) dX12_leaf_7 ?_
  refine Ci.mono h ?_
  intro x1 M1 h
  refine V_if_eq (tgt := 23) (pc := 10) dX12_leaf_10 rfl (fun c => ?_) (fun c => ?_)
  · have h := h.1 c
    refine V_ldc (pc := 23) dX12_leaf_23 nX12_128 ?_
    exact V_iret dX12_leaf_25 rfl h
  · have h := h.2 c
    refine V_iload_n (pc := 13) dX12_leaf_13 rfl ?_
    refine V_i2l (pc := 14) dX12_leaf_14 ?_
    refine V_lconst (v := 0) (pc := 15) dX12_leaf_15 rfl ?_
    refine V_lconst (v := 1) (pc := 16) dX12_leaf_16 rfl ?_
    refine V_callSi [.long (Int32.toInt64 v2), .long 0, .long 1] (pc := 17) kX12_in lX12_118 rfl (Nat.le_of_ble_eq_true rfl) rfl (Nat.le_of_ble_eq_true rfl) dX12_leaf_17 ?_
    refine Ci.mono h ?_
    intro x2 M2 h
    refine V_if_ne (tgt := 26) (pc := 20) dX12_leaf_20 rfl (fun c => ?_) (fun c => ?_)
    · have h := h.1 c
      refine V_aload_n (pc := 26) dX12_leaf_26 rfl ?_
      refine V_getR (pc := 27) fX12_28 sM0 rfl dX12_leaf_27 ?_
      refine V_iload_n (pc := 30) dX12_leaf_30 rfl ?_
      refine V_zald (pc := 31) sM7 dX12_leaf_31 h.1 ?_
      have h := h.2
      refine V_if_eq (tgt := 39) (pc := 32) dX12_leaf_32 rfl (fun c => ?_) (fun c => ?_)
      · have h := h.1 c
        refine V_iconst (v := 0) (pc := 39) dX12_leaf_39 rfl ?_
        refine V_istore_n (pc := 40) dX12_leaf_40 (by decide) ?_
        refine V_aload_n (pc := 41) dX12_leaf_41 rfl ?_
        refine V_getR (pc := 42) fX12_28 sM0 rfl dX12_leaf_42 ?_
        refine V_iload_n (pc := 45) dX12_leaf_45 rfl ?_
        refine V_iload_n (pc := 46) dX12_leaf_46 rfl ?_
        refine V_iconst (v := 1) (pc := 47) dX12_leaf_47 rfl ?_
        refine V_icmp_ne (tgt := 55) (pc := 48) dX12_leaf_48 rfl (fun c => ?_) (fun c => ?_)
        · have h := h.1 c
          refine V_iconst (v := 0) (pc := 55) dX12_leaf_55 rfl ?_
          refine V_zast (pc := 56) sM7 dX12_leaf_56 h.1 ?_
          have h := h.2
          refine V_iload_n (pc := 57) dX12_leaf_57 rfl ?_
          exact V_iret dX12_leaf_58 rfl h
        · have h := h.2 c
          refine V_iconst (v := 1) (pc := 51) dX12_leaf_51 rfl ?_
          refine V_goto (tgt := 56) (pc := 52) dX12_leaf_52 rfl ?_
          refine V_zast (pc := 56) sM7 dX12_leaf_56 h.1 ?_
          have h := h.2
          refine V_iload_n (pc := 57) dX12_leaf_57 rfl ?_
          exact V_iret dX12_leaf_58 rfl h
      · have h := h.2 c
        refine V_iconst (v := 1) (pc := 35) dX12_leaf_35 rfl ?_
        refine V_goto (tgt := 40) (pc := 36) dX12_leaf_36 rfl ?_
        refine V_istore_n (pc := 40) dX12_leaf_40 (by decide) ?_
        refine V_aload_n (pc := 41) dX12_leaf_41 rfl ?_
        refine V_getR (pc := 42) fX12_28 sM0 rfl dX12_leaf_42 ?_
        refine V_iload_n (pc := 45) dX12_leaf_45 rfl ?_
        refine V_iload_n (pc := 46) dX12_leaf_46 rfl ?_
        refine V_iconst (v := 1) (pc := 47) dX12_leaf_47 rfl ?_
        refine V_icmp_ne (tgt := 55) (pc := 48) dX12_leaf_48 rfl (fun c => ?_) (fun c => ?_)
        · have h := h.1 c
          refine V_iconst (v := 0) (pc := 55) dX12_leaf_55 rfl ?_
          refine V_zast (pc := 56) sM7 dX12_leaf_56 h.1 ?_
          have h := h.2
          refine V_iload_n (pc := 57) dX12_leaf_57 rfl ?_
          exact V_iret dX12_leaf_58 rfl h
        · have h := h.2 c
          refine V_iconst (v := 1) (pc := 51) dX12_leaf_51 rfl ?_
          refine V_goto (tgt := 56) (pc := 52) dX12_leaf_52 rfl ?_
          refine V_zast (pc := 56) sM7 dX12_leaf_56 h.1 ?_
          have h := h.2
          refine V_iload_n (pc := 57) dX12_leaf_57 rfl ?_
          exact V_iret dX12_leaf_58 rfl h
    · have h := h.2 c
      refine V_ldc (pc := 23) dX12_leaf_23 nX12_128 ?_
      exact V_iret dX12_leaf_25 rfl h
theorem wp_X12_markOf {G : GV} {k : Nat} {M : Mem} {q : Int32 → Mem → Prop} {v1 : Int32} (h : vp_in v1 12 ∧ ((((M.1 9 (ix v1)) + 1) ≠ 3 → V shM G mX12_markOf (k + 2) 20 [(0, .ref (G.2.1 0)), (1, .int v1), (2, .int ((M.1 9 (ix v1)) + 1))] [] M (Qi q)) ∧ (((M.1 9 (ix v1)) + 1) = 3 → Cv shM G mX12_began (k + 1) [.ref (G.2.1 0), .int 22] M (fun M1 => V shM G mX12_markOf (k + 2) 20 [(0, .ref (G.2.1 0)), (1, .int v1), (2, .int ((M.1 9 (ix v1)) + 1))] [] M1 (Qi q))))) : Ci shM G mX12_markOf (k + 2) [.ref (G.2.1 0), .int v1] M q := by
  unfold Ci
  show V _ _ _ _ _ [(0, .ref (G.2.1 0)), (1, .int v1)] _ _ _
  refine V_aload_n (pc := 0) dX12_markOf_0 rfl ?_
  refine V_getR (pc := 1) fX12_35 sM0 rfl dX12_markOf_1 ?_
  refine V_iload_n (pc := 4) dX12_markOf_4 rfl ?_
  refine V_iald (pc := 5) sM9 dX12_markOf_5 h.1 ?_
  have h := h.2
  refine V_iconst (v := 1) (pc := 6) dX12_markOf_6 rfl ?_
  refine V_iadd (pc := 7) dX12_markOf_7 ?_
  refine V_istore_n (pc := 8) dX12_markOf_8 (by decide) ?_
  refine V_iload_n (pc := 9) dX12_markOf_9 rfl ?_
  refine V_iconst (v := 3) (pc := 10) dX12_markOf_10 rfl ?_
  refine V_icmp_ne (tgt := 20) (pc := 11) dX12_markOf_11 rfl (fun c => ?_) (fun c => ?_)
  · have h := h.1 c
    exact V_sub h ⟨rfl, rfl, rfl, trivial⟩
  · have h := h.2 c
    refine V_aload_n (pc := 14) dX12_markOf_14 rfl ?_
    refine V_bipush (v := 22) (pc := 15) dX12_markOf_15 rfl ?_
    refine V_callVv [.int 22] (pc := 17) kX12_began lX12_348 sM0 rfl rfl (Nat.le_of_ble_eq_true rfl) rfl (Nat.le_of_ble_eq_true rfl) dX12_markOf_17 ?_
    refine Cv.mono h ?_
    intro M1 h
    exact V_sub h ⟨rfl, rfl, rfl, trivial⟩
theorem wp_X12_markOf_20 {G : GV} {k : Nat} {M : Mem} {q : Int32 → Mem → Prop} {v1 : Int32} {v2 : Int32} (h : Ci shM G mX12_isOf (k + 1) [.int v2, .int 1] M (fun x1 M1 => ((x1 = 0 → ((v2 ≠ 4 → Cv shM G mX12_began (k + 1) [.ref (G.2.1 0), .int 20] M1 (fun M2 => Ci shM G mX12_gathered (k + 1) [.ref (G.2.1 0), .int v1] M2 (fun x3 M3 => Ci shM G mX12_isOf (k + 1) [.int v2, .int 1] M3 (fun x4 M4 => ((x4 = 0 → ((v2 ≠ 3 → ((v2 ≠ 4 → q (x3 + 0) M4) ∧ (v2 = 4 → Ci shM G mX12_plainSize (k + 1) [.ref (G.2.1 0), .int v1] M4 (fun x5 M5 => q ((x3 + 0) + x5) M5)))) ∧ (v2 = 3 → vp_in v1 12 ∧ (((M4.1 12 (ix v1)) ≠ (-1000000) → vp_in v1 12 ∧ q ((x3 + 0) + (M4.1 12 (ix v1))) M4) ∧ ((M4.1 12 (ix v1)) = (-1000000) → q ((x3 + 0) + 0) M4))))) ∧ (¬ x4 = 0 → vp_in v1 12 ∧ ((v2 ≠ 3 → ((v2 ≠ 4 → q (x3 + (M4.1 10 (ix v1))) M4) ∧ (v2 = 4 → Ci shM G mX12_plainSize (k + 1) [.ref (G.2.1 0), .int v1] M4 (fun x6 M6 => q ((x3 + (M4.1 10 (ix v1))) + x6) M6)))) ∧ (v2 = 3 → vp_in v1 12 ∧ (((M4.1 12 (ix v1)) ≠ (-1000000) → vp_in v1 12 ∧ q ((x3 + (M4.1 10 (ix v1))) + (M4.1 12 (ix v1))) M4) ∧ ((M4.1 12 (ix v1)) = (-1000000) → q ((x3 + (M4.1 10 (ix v1))) + 0) M4)))))))))) ∧ (v2 = 4 → Cv shM G mX12_began (k + 1) [.ref (G.2.1 0), .int 23] M1 (fun M7 => Cv shM G mX12_began (k + 1) [.ref (G.2.1 0), .int 20] M7 (fun M8 => Ci shM G mX12_gathered (k + 1) [.ref (G.2.1 0), .int v1] M8 (fun x9 M9 => Ci shM G mX12_isOf (k + 1) [.int v2, .int 1] M9 (fun x10 M10 => ((x10 = 0 → ((v2 ≠ 3 → ((v2 ≠ 4 → q (x9 + 0) M10) ∧ (v2 = 4 → Ci shM G mX12_plainSize (k + 1) [.ref (G.2.1 0), .int v1] M10 (fun x11 M11 => q ((x9 + 0) + x11) M11)))) ∧ (v2 = 3 → vp_in v1 12 ∧ (((M10.1 12 (ix v1)) ≠ (-1000000) → vp_in v1 12 ∧ q ((x9 + 0) + (M10.1 12 (ix v1))) M10) ∧ ((M10.1 12 (ix v1)) = (-1000000) → q ((x9 + 0) + 0) M10))))) ∧ (¬ x10 = 0 → vp_in v1 12 ∧ ((v2 ≠ 3 → ((v2 ≠ 4 → q (x9 + (M10.1 10 (ix v1))) M10) ∧ (v2 = 4 → Ci shM G mX12_plainSize (k + 1) [.ref (G.2.1 0), .int v1] M10 (fun x12 M12 => q ((x9 + (M10.1 10 (ix v1))) + x12) M12)))) ∧ (v2 = 3 → vp_in v1 12 ∧ (((M10.1 12 (ix v1)) ≠ (-1000000) → vp_in v1 12 ∧ q ((x9 + (M10.1 10 (ix v1))) + (M10.1 12 (ix v1))) M10) ∧ ((M10.1 12 (ix v1)) = (-1000000) → q ((x9 + (M10.1 10 (ix v1))) + 0) M10))))))))))))) ∧ (¬ x1 = 0 → Cv shM G mX12_began (k + 1) [.ref (G.2.1 0), .int 21] M1 (fun M13 => ((v2 ≠ 4 → Cv shM G mX12_began (k + 1) [.ref (G.2.1 0), .int 20] M13 (fun M14 => Ci shM G mX12_gathered (k + 1) [.ref (G.2.1 0), .int v1] M14 (fun x15 M15 => Ci shM G mX12_isOf (k + 1) [.int v2, .int 1] M15 (fun x16 M16 => ((x16 = 0 → ((v2 ≠ 3 → ((v2 ≠ 4 → q (x15 + 0) M16) ∧ (v2 = 4 → Ci shM G mX12_plainSize (k + 1) [.ref (G.2.1 0), .int v1] M16 (fun x17 M17 => q ((x15 + 0) + x17) M17)))) ∧ (v2 = 3 → vp_in v1 12 ∧ (((M16.1 12 (ix v1)) ≠ (-1000000) → vp_in v1 12 ∧ q ((x15 + 0) + (M16.1 12 (ix v1))) M16) ∧ ((M16.1 12 (ix v1)) = (-1000000) → q ((x15 + 0) + 0) M16))))) ∧ (¬ x16 = 0 → vp_in v1 12 ∧ ((v2 ≠ 3 → ((v2 ≠ 4 → q (x15 + (M16.1 10 (ix v1))) M16) ∧ (v2 = 4 → Ci shM G mX12_plainSize (k + 1) [.ref (G.2.1 0), .int v1] M16 (fun x18 M18 => q ((x15 + (M16.1 10 (ix v1))) + x18) M18)))) ∧ (v2 = 3 → vp_in v1 12 ∧ (((M16.1 12 (ix v1)) ≠ (-1000000) → vp_in v1 12 ∧ q ((x15 + (M16.1 10 (ix v1))) + (M16.1 12 (ix v1))) M16) ∧ ((M16.1 12 (ix v1)) = (-1000000) → q ((x15 + (M16.1 10 (ix v1))) + 0) M16)))))))))) ∧ (v2 = 4 → Cv shM G mX12_began (k + 1) [.ref (G.2.1 0), .int 23] M13 (fun M19 => Cv shM G mX12_began (k + 1) [.ref (G.2.1 0), .int 20] M19 (fun M20 => Ci shM G mX12_gathered (k + 1) [.ref (G.2.1 0), .int v1] M20 (fun x21 M21 => Ci shM G mX12_isOf (k + 1) [.int v2, .int 1] M21 (fun x22 M22 => ((x22 = 0 → ((v2 ≠ 3 → ((v2 ≠ 4 → q (x21 + 0) M22) ∧ (v2 = 4 → Ci shM G mX12_plainSize (k + 1) [.ref (G.2.1 0), .int v1] M22 (fun x23 M23 => q ((x21 + 0) + x23) M23)))) ∧ (v2 = 3 → vp_in v1 12 ∧ (((M22.1 12 (ix v1)) ≠ (-1000000) → vp_in v1 12 ∧ q ((x21 + 0) + (M22.1 12 (ix v1))) M22) ∧ ((M22.1 12 (ix v1)) = (-1000000) → q ((x21 + 0) + 0) M22))))) ∧ (¬ x22 = 0 → vp_in v1 12 ∧ ((v2 ≠ 3 → ((v2 ≠ 4 → q (x21 + (M22.1 10 (ix v1))) M22) ∧ (v2 = 4 → Ci shM G mX12_plainSize (k + 1) [.ref (G.2.1 0), .int v1] M22 (fun x24 M24 => q ((x21 + (M22.1 10 (ix v1))) + x24) M24)))) ∧ (v2 = 3 → vp_in v1 12 ∧ (((M22.1 12 (ix v1)) ≠ (-1000000) → vp_in v1 12 ∧ q ((x21 + (M22.1 10 (ix v1))) + (M22.1 12 (ix v1))) M22) ∧ ((M22.1 12 (ix v1)) = (-1000000) → q ((x21 + (M22.1 10 (ix v1))) + 0) M22))))))))))))))))) : V shM G mX12_markOf (k + 2) 20 [(0, .ref (G.2.1 0)), (1, .int v1), (2, .int v2)] [] M (Qi q) := by
  refine V_iload_n (pc := 20) dX12_markOf_20 rfl ?_
  refine V_iconst (v := 1) (pc := 21) dX12_markOf_21 rfl ?_
  refine V_callSi [.int v2, .int 1] (pc := 22) kX12_isOf lX12_342 rfl (Nat.le_of_ble_eq_true rfl) rfl (Nat.le_of_ble_eq_true rfl) dX12_markOf_22 ?_
  refine Ci.mono h ?_
  intro x1 M1 h
  refine V_if_eq (tgt := 34) (pc := 25) dX12_markOf_25 rfl (fun c => ?_) (fun c => ?_)
  · have h := h.1 c
    refine V_iload_n (pc := 34) dX12_markOf_34 rfl ?_
    refine V_iconst (v := 4) (pc := 35) dX12_markOf_35 rfl ?_
    refine V_icmp_ne (tgt := 45) (pc := 36) dX12_markOf_36 rfl (fun c => ?_) (fun c => ?_)
    · have h := h.1 c
      refine V_aload_n (pc := 45) dX12_markOf_45 rfl ?_
      refine V_bipush (v := 20) (pc := 46) dX12_markOf_46 rfl ?_
      refine V_callVv [.int 20] (pc := 48) kX12_began lX12_348 sM0 rfl rfl (Nat.le_of_ble_eq_true rfl) rfl (Nat.le_of_ble_eq_true rfl) dX12_markOf_48 ?_
      refine Cv.mono h ?_
      intro M2 h
      refine V_aload_n (pc := 51) dX12_markOf_51 rfl ?_
      refine V_iload_n (pc := 52) dX12_markOf_52 rfl ?_
      refine V_callVi [.int v1] (pc := 53) kX12_gathered lX12_246 sM0 rfl rfl (Nat.le_of_ble_eq_true rfl) rfl (Nat.le_of_ble_eq_true rfl) dX12_markOf_53 ?_
      refine Ci.mono h ?_
      intro x3 M3 h
      refine V_iload_n (pc := 56) dX12_markOf_56 rfl ?_
      refine V_iconst (v := 1) (pc := 57) dX12_markOf_57 rfl ?_
      refine V_callSi [.int v2, .int 1] (pc := 58) kX12_isOf lX12_342 rfl (Nat.le_of_ble_eq_true rfl) rfl (Nat.le_of_ble_eq_true rfl) dX12_markOf_58 ?_
      refine Ci.mono h ?_
      intro x4 M4 h
      refine V_if_eq (tgt := 73) (pc := 61) dX12_markOf_61 rfl (fun c => ?_) (fun c => ?_)
      · have h := h.1 c
        refine V_iconst (v := 0) (pc := 73) dX12_markOf_73 rfl ?_
        refine V_iadd (pc := 74) dX12_markOf_74 ?_
        refine V_istore_n (pc := 75) dX12_markOf_75 (by decide) ?_
        refine V_iload_n (pc := 76) dX12_markOf_76 rfl ?_
        refine V_iconst (v := 3) (pc := 77) dX12_markOf_77 rfl ?_
        refine V_icmp_ne (tgt := 107) (pc := 78) dX12_markOf_78 rfl (fun c => ?_) (fun c => ?_)
        · have h := h.1 c
          refine V_iload_n (pc := 107) dX12_markOf_107 rfl ?_
          refine V_iconst (v := 4) (pc := 108) dX12_markOf_108 rfl ?_
          refine V_icmp_ne (tgt := 122) (pc := 109) dX12_markOf_109 rfl (fun c => ?_) (fun c => ?_)
          · have h := h.1 c
            refine V_iload_n (pc := 122) dX12_markOf_122 rfl ?_
            exact V_iret dX12_markOf_123 rfl h
          · have h := h.2 c
            refine V_iload_n (pc := 112) dX12_markOf_112 rfl ?_
            refine V_aload_n (pc := 113) dX12_markOf_113 rfl ?_
            refine V_iload_n (pc := 114) dX12_markOf_114 rfl ?_
            refine V_callVi [.int v1] (pc := 115) kX12_plainSize lX12_351 sM0 rfl rfl (Nat.le_of_ble_eq_true rfl) rfl (Nat.le_of_ble_eq_true rfl) dX12_markOf_115 ?_
            refine Ci.mono h ?_
            intro x5 M5 h
            refine V_iadd (pc := 118) dX12_markOf_118 ?_
            refine V_goto (tgt := 123) (pc := 119) dX12_markOf_119 rfl ?_
            exact V_iret dX12_markOf_123 rfl h
        · have h := h.2 c
          refine V_iload_n (pc := 81) dX12_markOf_81 rfl ?_
          refine V_aload_n (pc := 82) dX12_markOf_82 rfl ?_
          refine V_getR (pc := 83) fX12_44 sM0 rfl dX12_markOf_83 ?_
          refine V_iload_n (pc := 86) dX12_markOf_86 rfl ?_
          refine V_iald (pc := 87) sM12 dX12_markOf_87 h.1 ?_
          have h := h.2
          refine V_ldc (pc := 88) dX12_markOf_88 nX12_144 ?_
          refine V_icmp_ne (tgt := 97) (pc := 90) dX12_markOf_90 rfl (fun c => ?_) (fun c => ?_)
          · have h := h.1 c
            refine V_aload_n (pc := 97) dX12_markOf_97 rfl ?_
            refine V_getR (pc := 98) fX12_44 sM0 rfl dX12_markOf_98 ?_
            refine V_iload_n (pc := 101) dX12_markOf_101 rfl ?_
            refine V_iald (pc := 102) sM12 dX12_markOf_102 h.1 ?_
            have h := h.2
            refine V_iadd (pc := 103) dX12_markOf_103 ?_
            refine V_goto (tgt := 123) (pc := 104) dX12_markOf_104 rfl ?_
            exact V_iret dX12_markOf_123 rfl h
          · have h := h.2 c
            refine V_iconst (v := 0) (pc := 93) dX12_markOf_93 rfl ?_
            refine V_goto (tgt := 103) (pc := 94) dX12_markOf_94 rfl ?_
            refine V_iadd (pc := 103) dX12_markOf_103 ?_
            refine V_goto (tgt := 123) (pc := 104) dX12_markOf_104 rfl ?_
            exact V_iret dX12_markOf_123 rfl h
      · have h := h.2 c
        refine V_aload_n (pc := 64) dX12_markOf_64 rfl ?_
        refine V_getR (pc := 65) fX12_38 sM0 rfl dX12_markOf_65 ?_
        refine V_iload_n (pc := 68) dX12_markOf_68 rfl ?_
        refine V_iald (pc := 69) sM10 dX12_markOf_69 h.1 ?_
        have h := h.2
        refine V_goto (tgt := 74) (pc := 70) dX12_markOf_70 rfl ?_
        refine V_iadd (pc := 74) dX12_markOf_74 ?_
        refine V_istore_n (pc := 75) dX12_markOf_75 (by decide) ?_
        refine V_iload_n (pc := 76) dX12_markOf_76 rfl ?_
        refine V_iconst (v := 3) (pc := 77) dX12_markOf_77 rfl ?_
        refine V_icmp_ne (tgt := 107) (pc := 78) dX12_markOf_78 rfl (fun c => ?_) (fun c => ?_)
        · have h := h.1 c
          refine V_iload_n (pc := 107) dX12_markOf_107 rfl ?_
          refine V_iconst (v := 4) (pc := 108) dX12_markOf_108 rfl ?_
          refine V_icmp_ne (tgt := 122) (pc := 109) dX12_markOf_109 rfl (fun c => ?_) (fun c => ?_)
          · have h := h.1 c
            refine V_iload_n (pc := 122) dX12_markOf_122 rfl ?_
            exact V_iret dX12_markOf_123 rfl h
          · have h := h.2 c
            refine V_iload_n (pc := 112) dX12_markOf_112 rfl ?_
            refine V_aload_n (pc := 113) dX12_markOf_113 rfl ?_
            refine V_iload_n (pc := 114) dX12_markOf_114 rfl ?_
            refine V_callVi [.int v1] (pc := 115) kX12_plainSize lX12_351 sM0 rfl rfl (Nat.le_of_ble_eq_true rfl) rfl (Nat.le_of_ble_eq_true rfl) dX12_markOf_115 ?_
            refine Ci.mono h ?_
            intro x6 M6 h
            refine V_iadd (pc := 118) dX12_markOf_118 ?_
            refine V_goto (tgt := 123) (pc := 119) dX12_markOf_119 rfl ?_
            exact V_iret dX12_markOf_123 rfl h
        · have h := h.2 c
          refine V_iload_n (pc := 81) dX12_markOf_81 rfl ?_
          refine V_aload_n (pc := 82) dX12_markOf_82 rfl ?_
          refine V_getR (pc := 83) fX12_44 sM0 rfl dX12_markOf_83 ?_
          refine V_iload_n (pc := 86) dX12_markOf_86 rfl ?_
          refine V_iald (pc := 87) sM12 dX12_markOf_87 h.1 ?_
          have h := h.2
          refine V_ldc (pc := 88) dX12_markOf_88 nX12_144 ?_
          refine V_icmp_ne (tgt := 97) (pc := 90) dX12_markOf_90 rfl (fun c => ?_) (fun c => ?_)
          · have h := h.1 c
            refine V_aload_n (pc := 97) dX12_markOf_97 rfl ?_
            refine V_getR (pc := 98) fX12_44 sM0 rfl dX12_markOf_98 ?_
            refine V_iload_n (pc := 101) dX12_markOf_101 rfl ?_
            refine V_iald (pc := 102) sM12 dX12_markOf_102 h.1 ?_
            have h := h.2
            refine V_iadd (pc := 103) dX12_markOf_103 ?_
            refine V_goto (tgt := 123) (pc := 104) dX12_markOf_104 rfl ?_
            exact V_iret dX12_markOf_123 rfl h
          · have h := h.2 c
            refine V_iconst (v := 0) (pc := 93) dX12_markOf_93 rfl ?_
            refine V_goto (tgt := 103) (pc := 94) dX12_markOf_94 rfl ?_
            refine V_iadd (pc := 103) dX12_markOf_103 ?_
            refine V_goto (tgt := 123) (pc := 104) dX12_markOf_104 rfl ?_
            exact V_iret dX12_markOf_123 rfl h
    · have h := h.2 c
      refine V_aload_n (pc := 39) dX12_markOf_39 rfl ?_
      refine V_bipush (v := 23) (pc := 40) dX12_markOf_40 rfl ?_
      refine V_callVv [.int 23] (pc := 42) kX12_began lX12_348 sM0 rfl rfl (Nat.le_of_ble_eq_true rfl) rfl (Nat.le_of_ble_eq_true rfl) dX12_markOf_42 ?_
      refine Cv.mono h ?_
      intro M7 h
      refine V_aload_n (pc := 45) dX12_markOf_45 rfl ?_
      refine V_bipush (v := 20) (pc := 46) dX12_markOf_46 rfl ?_
      refine V_callVv [.int 20] (pc := 48) kX12_began lX12_348 sM0 rfl rfl (Nat.le_of_ble_eq_true rfl) rfl (Nat.le_of_ble_eq_true rfl) dX12_markOf_48 ?_
      refine Cv.mono h ?_
      intro M8 h
      refine V_aload_n (pc := 51) dX12_markOf_51 rfl ?_
      refine V_iload_n (pc := 52) dX12_markOf_52 rfl ?_
      refine V_callVi [.int v1] (pc := 53) kX12_gathered lX12_246 sM0 rfl rfl (Nat.le_of_ble_eq_true rfl) rfl (Nat.le_of_ble_eq_true rfl) dX12_markOf_53 ?_
      refine Ci.mono h ?_
      intro x9 M9 h
      refine V_iload_n (pc := 56) dX12_markOf_56 rfl ?_
      refine V_iconst (v := 1) (pc := 57) dX12_markOf_57 rfl ?_
      refine V_callSi [.int v2, .int 1] (pc := 58) kX12_isOf lX12_342 rfl (Nat.le_of_ble_eq_true rfl) rfl (Nat.le_of_ble_eq_true rfl) dX12_markOf_58 ?_
      refine Ci.mono h ?_
      intro x10 M10 h
      refine V_if_eq (tgt := 73) (pc := 61) dX12_markOf_61 rfl (fun c => ?_) (fun c => ?_)
      · have h := h.1 c
        refine V_iconst (v := 0) (pc := 73) dX12_markOf_73 rfl ?_
        refine V_iadd (pc := 74) dX12_markOf_74 ?_
        refine V_istore_n (pc := 75) dX12_markOf_75 (by decide) ?_
        refine V_iload_n (pc := 76) dX12_markOf_76 rfl ?_
        refine V_iconst (v := 3) (pc := 77) dX12_markOf_77 rfl ?_
        refine V_icmp_ne (tgt := 107) (pc := 78) dX12_markOf_78 rfl (fun c => ?_) (fun c => ?_)
        · have h := h.1 c
          refine V_iload_n (pc := 107) dX12_markOf_107 rfl ?_
          refine V_iconst (v := 4) (pc := 108) dX12_markOf_108 rfl ?_
          refine V_icmp_ne (tgt := 122) (pc := 109) dX12_markOf_109 rfl (fun c => ?_) (fun c => ?_)
          · have h := h.1 c
            refine V_iload_n (pc := 122) dX12_markOf_122 rfl ?_
            exact V_iret dX12_markOf_123 rfl h
          · have h := h.2 c
            refine V_iload_n (pc := 112) dX12_markOf_112 rfl ?_
            refine V_aload_n (pc := 113) dX12_markOf_113 rfl ?_
            refine V_iload_n (pc := 114) dX12_markOf_114 rfl ?_
            refine V_callVi [.int v1] (pc := 115) kX12_plainSize lX12_351 sM0 rfl rfl (Nat.le_of_ble_eq_true rfl) rfl (Nat.le_of_ble_eq_true rfl) dX12_markOf_115 ?_
            refine Ci.mono h ?_
            intro x11 M11 h
            refine V_iadd (pc := 118) dX12_markOf_118 ?_
            refine V_goto (tgt := 123) (pc := 119) dX12_markOf_119 rfl ?_
            exact V_iret dX12_markOf_123 rfl h
        · have h := h.2 c
          refine V_iload_n (pc := 81) dX12_markOf_81 rfl ?_
          refine V_aload_n (pc := 82) dX12_markOf_82 rfl ?_
          refine V_getR (pc := 83) fX12_44 sM0 rfl dX12_markOf_83 ?_
          refine V_iload_n (pc := 86) dX12_markOf_86 rfl ?_
          refine V_iald (pc := 87) sM12 dX12_markOf_87 h.1 ?_
          have h := h.2
          refine V_ldc (pc := 88) dX12_markOf_88 nX12_144 ?_
          refine V_icmp_ne (tgt := 97) (pc := 90) dX12_markOf_90 rfl (fun c => ?_) (fun c => ?_)
          · have h := h.1 c
            refine V_aload_n (pc := 97) dX12_markOf_97 rfl ?_
            refine V_getR (pc := 98) fX12_44 sM0 rfl dX12_markOf_98 ?_
            refine V_iload_n (pc := 101) dX12_markOf_101 rfl ?_
            refine V_iald (pc := 102) sM12 dX12_markOf_102 h.1 ?_
            have h := h.2
            refine V_iadd (pc := 103) dX12_markOf_103 ?_
            refine V_goto (tgt := 123) (pc := 104) dX12_markOf_104 rfl ?_
            exact V_iret dX12_markOf_123 rfl h
          · have h := h.2 c
            refine V_iconst (v := 0) (pc := 93) dX12_markOf_93 rfl ?_
            refine V_goto (tgt := 103) (pc := 94) dX12_markOf_94 rfl ?_
            refine V_iadd (pc := 103) dX12_markOf_103 ?_
            refine V_goto (tgt := 123) (pc := 104) dX12_markOf_104 rfl ?_
            exact V_iret dX12_markOf_123 rfl h
      · have h := h.2 c
        refine V_aload_n (pc := 64) dX12_markOf_64 rfl ?_
        refine V_getR (pc := 65) fX12_38 sM0 rfl dX12_markOf_65 ?_
        refine V_iload_n (pc := 68) dX12_markOf_68 rfl ?_
        refine V_iald (pc := 69) sM10 dX12_markOf_69 h.1 ?_
        have h := h.2
        refine V_goto (tgt := 74) (pc := 70) dX12_markOf_70 rfl ?_
        refine V_iadd (pc := 74) dX12_markOf_74 ?_
        refine V_istore_n (pc := 75) dX12_markOf_75 (by decide) ?_
        refine V_iload_n (pc := 76) dX12_markOf_76 rfl ?_
        refine V_iconst (v := 3) (pc := 77) dX12_markOf_77 rfl ?_
        refine V_icmp_ne (tgt := 107) (pc := 78) dX12_markOf_78 rfl (fun c => ?_) (fun c => ?_)
        · have h := h.1 c
          refine V_iload_n (pc := 107) dX12_markOf_107 rfl ?_
          refine V_iconst (v := 4) (pc := 108) dX12_markOf_108 rfl ?_
          refine V_icmp_ne (tgt := 122) (pc := 109) dX12_markOf_109 rfl (fun c => ?_) (fun c => ?_)
          · have h := h.1 c
            refine V_iload_n (pc := 122) dX12_markOf_122 rfl ?_
            exact V_iret dX12_markOf_123 rfl h
          · have h := h.2 c
            refine V_iload_n (pc := 112) dX12_markOf_112 rfl ?_
            refine V_aload_n (pc := 113) dX12_markOf_113 rfl ?_
            refine V_iload_n (pc := 114) dX12_markOf_114 rfl ?_
            refine V_callVi [.int v1] (pc := 115) kX12_plainSize lX12_351 sM0 rfl rfl (Nat.le_of_ble_eq_true rfl) rfl (Nat.le_of_ble_eq_true rfl) dX12_markOf_115 ?_
            refine Ci.mono h ?_
            intro x12 M12 h
            refine V_iadd (pc := 118) dX12_markOf_118 ?_
            refine V_goto (tgt := 123) (pc := 119) dX12_markOf_119 rfl ?_
            exact V_iret dX12_markOf_123 rfl h
        · have h := h.2 c
          refine V_iload_n (pc := 81) dX12_markOf_81 rfl ?_
          refine V_aload_n (pc := 82) dX12_markOf_82 rfl ?_
          refine V_getR (pc := 83) fX12_44 sM0 rfl dX12_markOf_83 ?_
          refine V_iload_n (pc := 86) dX12_markOf_86 rfl ?_
          refine V_iald (pc := 87) sM12 dX12_markOf_87 h.1 ?_
          have h := h.2
          refine V_ldc (pc := 88) dX12_markOf_88 nX12_144 ?_
          refine V_icmp_ne (tgt := 97) (pc := 90) dX12_markOf_90 rfl (fun c => ?_) (fun c => ?_)
          · have h := h.1 c
            refine V_aload_n (pc := 97) dX12_markOf_97 rfl ?_
            refine V_getR (pc := 98) fX12_44 sM0 rfl dX12_markOf_98 ?_
            refine V_iload_n (pc := 101) dX12_markOf_101 rfl ?_
            refine V_iald (pc := 102) sM12 dX12_markOf_102 h.1 ?_
            have h := h.2
            refine V_iadd (pc := 103) dX12_markOf_103 ?_
            refine V_goto (tgt := 123) (pc := 104) dX12_markOf_104 rfl ?_
            exact V_iret dX12_markOf_123 rfl h
          · have h := h.2 c
            refine V_iconst (v := 0) (pc := 93) dX12_markOf_93 rfl ?_
            refine V_goto (tgt := 103) (pc := 94) dX12_markOf_94 rfl ?_
            refine V_iadd (pc := 103) dX12_markOf_103 ?_
            refine V_goto (tgt := 123) (pc := 104) dX12_markOf_104 rfl ?_
            exact V_iret dX12_markOf_123 rfl h
  · have h := h.2 c
    refine V_aload_n (pc := 28) dX12_markOf_28 rfl ?_
    refine V_bipush (v := 21) (pc := 29) dX12_markOf_29 rfl ?_
    refine V_callVv [.int 21] (pc := 31) kX12_began lX12_348 sM0 rfl rfl (Nat.le_of_ble_eq_true rfl) rfl (Nat.le_of_ble_eq_true rfl) dX12_markOf_31 ?_
    refine Cv.mono h ?_
    intro M13 h
    refine V_iload_n (pc := 34) dX12_markOf_34 rfl ?_
    refine V_iconst (v := 4) (pc := 35) dX12_markOf_35 rfl ?_
    refine V_icmp_ne (tgt := 45) (pc := 36) dX12_markOf_36 rfl (fun c => ?_) (fun c => ?_)
    · have h := h.1 c
      refine V_aload_n (pc := 45) dX12_markOf_45 rfl ?_
      refine V_bipush (v := 20) (pc := 46) dX12_markOf_46 rfl ?_
      refine V_callVv [.int 20] (pc := 48) kX12_began lX12_348 sM0 rfl rfl (Nat.le_of_ble_eq_true rfl) rfl (Nat.le_of_ble_eq_true rfl) dX12_markOf_48 ?_
      refine Cv.mono h ?_
      intro M14 h
      refine V_aload_n (pc := 51) dX12_markOf_51 rfl ?_
      refine V_iload_n (pc := 52) dX12_markOf_52 rfl ?_
      refine V_callVi [.int v1] (pc := 53) kX12_gathered lX12_246 sM0 rfl rfl (Nat.le_of_ble_eq_true rfl) rfl (Nat.le_of_ble_eq_true rfl) dX12_markOf_53 ?_
      refine Ci.mono h ?_
      intro x15 M15 h
      refine V_iload_n (pc := 56) dX12_markOf_56 rfl ?_
      refine V_iconst (v := 1) (pc := 57) dX12_markOf_57 rfl ?_
      refine V_callSi [.int v2, .int 1] (pc := 58) kX12_isOf lX12_342 rfl (Nat.le_of_ble_eq_true rfl) rfl (Nat.le_of_ble_eq_true rfl) dX12_markOf_58 ?_
      refine Ci.mono h ?_
      intro x16 M16 h
      refine V_if_eq (tgt := 73) (pc := 61) dX12_markOf_61 rfl (fun c => ?_) (fun c => ?_)
      · have h := h.1 c
        refine V_iconst (v := 0) (pc := 73) dX12_markOf_73 rfl ?_
        refine V_iadd (pc := 74) dX12_markOf_74 ?_
        refine V_istore_n (pc := 75) dX12_markOf_75 (by decide) ?_
        refine V_iload_n (pc := 76) dX12_markOf_76 rfl ?_
        refine V_iconst (v := 3) (pc := 77) dX12_markOf_77 rfl ?_
        refine V_icmp_ne (tgt := 107) (pc := 78) dX12_markOf_78 rfl (fun c => ?_) (fun c => ?_)
        · have h := h.1 c
          refine V_iload_n (pc := 107) dX12_markOf_107 rfl ?_
          refine V_iconst (v := 4) (pc := 108) dX12_markOf_108 rfl ?_
          refine V_icmp_ne (tgt := 122) (pc := 109) dX12_markOf_109 rfl (fun c => ?_) (fun c => ?_)
          · have h := h.1 c
            refine V_iload_n (pc := 122) dX12_markOf_122 rfl ?_
            exact V_iret dX12_markOf_123 rfl h
          · have h := h.2 c
            refine V_iload_n (pc := 112) dX12_markOf_112 rfl ?_
            refine V_aload_n (pc := 113) dX12_markOf_113 rfl ?_
            refine V_iload_n (pc := 114) dX12_markOf_114 rfl ?_
            refine V_callVi [.int v1] (pc := 115) kX12_plainSize lX12_351 sM0 rfl rfl (Nat.le_of_ble_eq_true rfl) rfl (Nat.le_of_ble_eq_true rfl) dX12_markOf_115 ?_
            refine Ci.mono h ?_
            intro x17 M17 h
            refine V_iadd (pc := 118) dX12_markOf_118 ?_
            refine V_goto (tgt := 123) (pc := 119) dX12_markOf_119 rfl ?_
            exact V_iret dX12_markOf_123 rfl h
        · have h := h.2 c
          refine V_iload_n (pc := 81) dX12_markOf_81 rfl ?_
          refine V_aload_n (pc := 82) dX12_markOf_82 rfl ?_
          refine V_getR (pc := 83) fX12_44 sM0 rfl dX12_markOf_83 ?_
          refine V_iload_n (pc := 86) dX12_markOf_86 rfl ?_
          refine V_iald (pc := 87) sM12 dX12_markOf_87 h.1 ?_
          have h := h.2
          refine V_ldc (pc := 88) dX12_markOf_88 nX12_144 ?_
          refine V_icmp_ne (tgt := 97) (pc := 90) dX12_markOf_90 rfl (fun c => ?_) (fun c => ?_)
          · have h := h.1 c
            refine V_aload_n (pc := 97) dX12_markOf_97 rfl ?_
            refine V_getR (pc := 98) fX12_44 sM0 rfl dX12_markOf_98 ?_
            refine V_iload_n (pc := 101) dX12_markOf_101 rfl ?_
            refine V_iald (pc := 102) sM12 dX12_markOf_102 h.1 ?_
            have h := h.2
            refine V_iadd (pc := 103) dX12_markOf_103 ?_
            refine V_goto (tgt := 123) (pc := 104) dX12_markOf_104 rfl ?_
            exact V_iret dX12_markOf_123 rfl h
          · have h := h.2 c
            refine V_iconst (v := 0) (pc := 93) dX12_markOf_93 rfl ?_
            refine V_goto (tgt := 103) (pc := 94) dX12_markOf_94 rfl ?_
            refine V_iadd (pc := 103) dX12_markOf_103 ?_
            refine V_goto (tgt := 123) (pc := 104) dX12_markOf_104 rfl ?_
            exact V_iret dX12_markOf_123 rfl h
      · have h := h.2 c
        refine V_aload_n (pc := 64) dX12_markOf_64 rfl ?_
        refine V_getR (pc := 65) fX12_38 sM0 rfl dX12_markOf_65 ?_
        refine V_iload_n (pc := 68) dX12_markOf_68 rfl ?_
        refine V_iald (pc := 69) sM10 dX12_markOf_69 h.1 ?_
        have h := h.2
        refine V_goto (tgt := 74) (pc := 70) dX12_markOf_70 rfl ?_
        refine V_iadd (pc := 74) dX12_markOf_74 ?_
        refine V_istore_n (pc := 75) dX12_markOf_75 (by decide) ?_
        refine V_iload_n (pc := 76) dX12_markOf_76 rfl ?_
        refine V_iconst (v := 3) (pc := 77) dX12_markOf_77 rfl ?_
        refine V_icmp_ne (tgt := 107) (pc := 78) dX12_markOf_78 rfl (fun c => ?_) (fun c => ?_)
        · have h := h.1 c
          refine V_iload_n (pc := 107) dX12_markOf_107 rfl ?_
          refine V_iconst (v := 4) (pc := 108) dX12_markOf_108 rfl ?_
          refine V_icmp_ne (tgt := 122) (pc := 109) dX12_markOf_109 rfl (fun c => ?_) (fun c => ?_)
          · have h := h.1 c
            refine V_iload_n (pc := 122) dX12_markOf_122 rfl ?_
            exact V_iret dX12_markOf_123 rfl h
          · have h := h.2 c
            refine V_iload_n (pc := 112) dX12_markOf_112 rfl ?_
            refine V_aload_n (pc := 113) dX12_markOf_113 rfl ?_
            refine V_iload_n (pc := 114) dX12_markOf_114 rfl ?_
            refine V_callVi [.int v1] (pc := 115) kX12_plainSize lX12_351 sM0 rfl rfl (Nat.le_of_ble_eq_true rfl) rfl (Nat.le_of_ble_eq_true rfl) dX12_markOf_115 ?_
            refine Ci.mono h ?_
            intro x18 M18 h
            refine V_iadd (pc := 118) dX12_markOf_118 ?_
            refine V_goto (tgt := 123) (pc := 119) dX12_markOf_119 rfl ?_
            exact V_iret dX12_markOf_123 rfl h
        · have h := h.2 c
          refine V_iload_n (pc := 81) dX12_markOf_81 rfl ?_
          refine V_aload_n (pc := 82) dX12_markOf_82 rfl ?_
          refine V_getR (pc := 83) fX12_44 sM0 rfl dX12_markOf_83 ?_
          refine V_iload_n (pc := 86) dX12_markOf_86 rfl ?_
          refine V_iald (pc := 87) sM12 dX12_markOf_87 h.1 ?_
          have h := h.2
          refine V_ldc (pc := 88) dX12_markOf_88 nX12_144 ?_
          refine V_icmp_ne (tgt := 97) (pc := 90) dX12_markOf_90 rfl (fun c => ?_) (fun c => ?_)
          · have h := h.1 c
            refine V_aload_n (pc := 97) dX12_markOf_97 rfl ?_
            refine V_getR (pc := 98) fX12_44 sM0 rfl dX12_markOf_98 ?_
            refine V_iload_n (pc := 101) dX12_markOf_101 rfl ?_
            refine V_iald (pc := 102) sM12 dX12_markOf_102 h.1 ?_
            have h := h.2
            refine V_iadd (pc := 103) dX12_markOf_103 ?_
            refine V_goto (tgt := 123) (pc := 104) dX12_markOf_104 rfl ?_
            exact V_iret dX12_markOf_123 rfl h
          · have h := h.2 c
            refine V_iconst (v := 0) (pc := 93) dX12_markOf_93 rfl ?_
            refine V_goto (tgt := 103) (pc := 94) dX12_markOf_94 rfl ?_
            refine V_iadd (pc := 103) dX12_markOf_103 ?_
            refine V_goto (tgt := 123) (pc := 104) dX12_markOf_104 rfl ?_
            exact V_iret dX12_markOf_123 rfl h
    · have h := h.2 c
      refine V_aload_n (pc := 39) dX12_markOf_39 rfl ?_
      refine V_bipush (v := 23) (pc := 40) dX12_markOf_40 rfl ?_
      refine V_callVv [.int 23] (pc := 42) kX12_began lX12_348 sM0 rfl rfl (Nat.le_of_ble_eq_true rfl) rfl (Nat.le_of_ble_eq_true rfl) dX12_markOf_42 ?_
      refine Cv.mono h ?_
      intro M19 h
      refine V_aload_n (pc := 45) dX12_markOf_45 rfl ?_
      refine V_bipush (v := 20) (pc := 46) dX12_markOf_46 rfl ?_
      refine V_callVv [.int 20] (pc := 48) kX12_began lX12_348 sM0 rfl rfl (Nat.le_of_ble_eq_true rfl) rfl (Nat.le_of_ble_eq_true rfl) dX12_markOf_48 ?_
      refine Cv.mono h ?_
      intro M20 h
      refine V_aload_n (pc := 51) dX12_markOf_51 rfl ?_
      refine V_iload_n (pc := 52) dX12_markOf_52 rfl ?_
      refine V_callVi [.int v1] (pc := 53) kX12_gathered lX12_246 sM0 rfl rfl (Nat.le_of_ble_eq_true rfl) rfl (Nat.le_of_ble_eq_true rfl) dX12_markOf_53 ?_
      refine Ci.mono h ?_
      intro x21 M21 h
      refine V_iload_n (pc := 56) dX12_markOf_56 rfl ?_
      refine V_iconst (v := 1) (pc := 57) dX12_markOf_57 rfl ?_
      refine V_callSi [.int v2, .int 1] (pc := 58) kX12_isOf lX12_342 rfl (Nat.le_of_ble_eq_true rfl) rfl (Nat.le_of_ble_eq_true rfl) dX12_markOf_58 ?_
      refine Ci.mono h ?_
      intro x22 M22 h
      refine V_if_eq (tgt := 73) (pc := 61) dX12_markOf_61 rfl (fun c => ?_) (fun c => ?_)
      · have h := h.1 c
        refine V_iconst (v := 0) (pc := 73) dX12_markOf_73 rfl ?_
        refine V_iadd (pc := 74) dX12_markOf_74 ?_
        refine V_istore_n (pc := 75) dX12_markOf_75 (by decide) ?_
        refine V_iload_n (pc := 76) dX12_markOf_76 rfl ?_
        refine V_iconst (v := 3) (pc := 77) dX12_markOf_77 rfl ?_
        refine V_icmp_ne (tgt := 107) (pc := 78) dX12_markOf_78 rfl (fun c => ?_) (fun c => ?_)
        · have h := h.1 c
          refine V_iload_n (pc := 107) dX12_markOf_107 rfl ?_
          refine V_iconst (v := 4) (pc := 108) dX12_markOf_108 rfl ?_
          refine V_icmp_ne (tgt := 122) (pc := 109) dX12_markOf_109 rfl (fun c => ?_) (fun c => ?_)
          · have h := h.1 c
            refine V_iload_n (pc := 122) dX12_markOf_122 rfl ?_
            exact V_iret dX12_markOf_123 rfl h
          · have h := h.2 c
            refine V_iload_n (pc := 112) dX12_markOf_112 rfl ?_
            refine V_aload_n (pc := 113) dX12_markOf_113 rfl ?_
            refine V_iload_n (pc := 114) dX12_markOf_114 rfl ?_
            refine V_callVi [.int v1] (pc := 115) kX12_plainSize lX12_351 sM0 rfl rfl (Nat.le_of_ble_eq_true rfl) rfl (Nat.le_of_ble_eq_true rfl) dX12_markOf_115 ?_
            refine Ci.mono h ?_
            intro x23 M23 h
            refine V_iadd (pc := 118) dX12_markOf_118 ?_
            refine V_goto (tgt := 123) (pc := 119) dX12_markOf_119 rfl ?_
            exact V_iret dX12_markOf_123 rfl h
        · have h := h.2 c
          refine V_iload_n (pc := 81) dX12_markOf_81 rfl ?_
          refine V_aload_n (pc := 82) dX12_markOf_82 rfl ?_
          refine V_getR (pc := 83) fX12_44 sM0 rfl dX12_markOf_83 ?_
          refine V_iload_n (pc := 86) dX12_markOf_86 rfl ?_
          refine V_iald (pc := 87) sM12 dX12_markOf_87 h.1 ?_
          have h := h.2
          refine V_ldc (pc := 88) dX12_markOf_88 nX12_144 ?_
          refine V_icmp_ne (tgt := 97) (pc := 90) dX12_markOf_90 rfl (fun c => ?_) (fun c => ?_)
          · have h := h.1 c
            refine V_aload_n (pc := 97) dX12_markOf_97 rfl ?_
            refine V_getR (pc := 98) fX12_44 sM0 rfl dX12_markOf_98 ?_
            refine V_iload_n (pc := 101) dX12_markOf_101 rfl ?_
            refine V_iald (pc := 102) sM12 dX12_markOf_102 h.1 ?_
            have h := h.2
            refine V_iadd (pc := 103) dX12_markOf_103 ?_
            refine V_goto (tgt := 123) (pc := 104) dX12_markOf_104 rfl ?_
            exact V_iret dX12_markOf_123 rfl h
          · have h := h.2 c
            refine V_iconst (v := 0) (pc := 93) dX12_markOf_93 rfl ?_
            refine V_goto (tgt := 103) (pc := 94) dX12_markOf_94 rfl ?_
            refine V_iadd (pc := 103) dX12_markOf_103 ?_
            refine V_goto (tgt := 123) (pc := 104) dX12_markOf_104 rfl ?_
            exact V_iret dX12_markOf_123 rfl h
      · have h := h.2 c
        refine V_aload_n (pc := 64) dX12_markOf_64 rfl ?_
        refine V_getR (pc := 65) fX12_38 sM0 rfl dX12_markOf_65 ?_
        refine V_iload_n (pc := 68) dX12_markOf_68 rfl ?_
        refine V_iald (pc := 69) sM10 dX12_markOf_69 h.1 ?_
        have h := h.2
        refine V_goto (tgt := 74) (pc := 70) dX12_markOf_70 rfl ?_
        refine V_iadd (pc := 74) dX12_markOf_74 ?_
        refine V_istore_n (pc := 75) dX12_markOf_75 (by decide) ?_
        refine V_iload_n (pc := 76) dX12_markOf_76 rfl ?_
        refine V_iconst (v := 3) (pc := 77) dX12_markOf_77 rfl ?_
        refine V_icmp_ne (tgt := 107) (pc := 78) dX12_markOf_78 rfl (fun c => ?_) (fun c => ?_)
        · have h := h.1 c
          refine V_iload_n (pc := 107) dX12_markOf_107 rfl ?_
          refine V_iconst (v := 4) (pc := 108) dX12_markOf_108 rfl ?_
          refine V_icmp_ne (tgt := 122) (pc := 109) dX12_markOf_109 rfl (fun c => ?_) (fun c => ?_)
          · have h := h.1 c
            refine V_iload_n (pc := 122) dX12_markOf_122 rfl ?_
            exact V_iret dX12_markOf_123 rfl h
          · have h := h.2 c
            refine V_iload_n (pc := 112) dX12_markOf_112 rfl ?_
            refine V_aload_n (pc := 113) dX12_markOf_113 rfl ?_
            refine V_iload_n (pc := 114) dX12_markOf_114 rfl ?_
            refine V_callVi [.int v1] (pc := 115) kX12_plainSize lX12_351 sM0 rfl rfl (Nat.le_of_ble_eq_true rfl) rfl (Nat.le_of_ble_eq_true rfl) dX12_markOf_115 ?_
            refine Ci.mono h ?_
            intro x24 M24 h
            refine V_iadd (pc := 118) dX12_markOf_118 ?_
            refine V_goto (tgt := 123) (pc := 119) dX12_markOf_119 rfl ?_
            exact V_iret dX12_markOf_123 rfl h
        · have h := h.2 c
          refine V_iload_n (pc := 81) dX12_markOf_81 rfl ?_
          refine V_aload_n (pc := 82) dX12_markOf_82 rfl ?_
          refine V_getR (pc := 83) fX12_44 sM0 rfl dX12_markOf_83 ?_
          refine V_iload_n (pc := 86) dX12_markOf_86 rfl ?_
          refine V_iald (pc := 87) sM12 dX12_markOf_87 h.1 ?_
          have h := h.2
          refine V_ldc (pc := 88) dX12_markOf_88 nX12_144 ?_
          refine V_icmp_ne (tgt := 97) (pc := 90) dX12_markOf_90 rfl (fun c => ?_) (fun c => ?_)
          · have h := h.1 c
            refine V_aload_n (pc := 97) dX12_markOf_97 rfl ?_
            refine V_getR (pc := 98) fX12_44 sM0 rfl dX12_markOf_98 ?_
            refine V_iload_n (pc := 101) dX12_markOf_101 rfl ?_
            refine V_iald (pc := 102) sM12 dX12_markOf_102 h.1 ?_
            have h := h.2
            refine V_iadd (pc := 103) dX12_markOf_103 ?_
            refine V_goto (tgt := 123) (pc := 104) dX12_markOf_104 rfl ?_
            exact V_iret dX12_markOf_123 rfl h
          · have h := h.2 c
            refine V_iconst (v := 0) (pc := 93) dX12_markOf_93 rfl ?_
            refine V_goto (tgt := 103) (pc := 94) dX12_markOf_94 rfl ?_
            refine V_iadd (pc := 103) dX12_markOf_103 ?_
            refine V_goto (tgt := 123) (pc := 104) dX12_markOf_104 rfl ?_
            exact V_iret dX12_markOf_123 rfl h
theorem wp_X12_need {G : GV} {k : Nat} {M : Mem} {q : Mem → Prop} {v1 : Int32} (h : ((v1 ≠ 0 → (((M.1 0 36) ≠ 0 → q M) ∧ ((M.1 0 36) = 0 → Cv shM G mX12_step (k + 1) [.ref (G.2.1 0)] M (fun M1 => q M1)))) ∧ (v1 = 0 → Cv shM G mX12_bad (k + 1) [.ref (G.2.1 0), .int 1] M (fun M2 => (((M2.1 0 36) ≠ 0 → q M2) ∧ ((M2.1 0 36) = 0 → Cv shM G mX12_step (k + 1) [.ref (G.2.1 0)] M2 (fun M3 => q M3))))))) : Cv shM G mX12_need (k + 2) [.ref (G.2.1 0), .int v1] M q := by
  unfold Cv
  show V _ _ _ _ _ [(0, .ref (G.2.1 0)), (1, .int v1)] _ _ _
  refine V_iload_n (pc := 0) dX12_need_0 rfl ?_
  refine V_if_ne (tgt := 9) (pc := 1) dX12_need_1 rfl (fun c => ?_) (fun c => ?_)
  · have h := h.1 c
    refine V_aload_n (pc := 9) dX12_need_9 rfl ?_
    refine V_getI (pc := 10) fX12_166 sM0 rfl dX12_need_10 ?_
    refine V_if_ne (tgt := 20) (pc := 13) dX12_need_13 rfl (fun c => ?_) (fun c => ?_)
    · have h := h.1 c
      exact V_vret dX12_need_20 rfl h
    · have h := h.2 c
      refine V_aload_n (pc := 16) dX12_need_16 rfl ?_
      refine V_callVv [] (pc := 17) kX12_step lX12_176 sM0 rfl rfl (Nat.le_of_ble_eq_true rfl) rfl (Nat.le_of_ble_eq_true rfl) dX12_need_17 ?_
      refine Cv.mono h ?_
      intro M1 h
      exact V_vret dX12_need_20 rfl h
  · have h := h.2 c
    refine V_aload_n (pc := 4) dX12_need_4 rfl ?_
    refine V_iconst (v := 1) (pc := 5) dX12_need_5 rfl ?_
    refine V_callVv [.int 1] (pc := 6) kX12_bad lX12_172 sM0 rfl rfl (Nat.le_of_ble_eq_true rfl) rfl (Nat.le_of_ble_eq_true rfl) dX12_need_6 ?_
    refine Cv.mono h ?_
    intro M2 h
    refine V_aload_n (pc := 9) dX12_need_9 rfl ?_
    refine V_getI (pc := 10) fX12_166 sM0 rfl dX12_need_10 ?_
    refine V_if_ne (tgt := 20) (pc := 13) dX12_need_13 rfl (fun c => ?_) (fun c => ?_)
    · have h := h.1 c
      exact V_vret dX12_need_20 rfl h
    · have h := h.2 c
      refine V_aload_n (pc := 16) dX12_need_16 rfl ?_
      refine V_callVv [] (pc := 17) kX12_step lX12_176 sM0 rfl rfl (Nat.le_of_ble_eq_true rfl) rfl (Nat.le_of_ble_eq_true rfl) dX12_need_17 ?_
      refine Cv.mono h ?_
      intro M3 h
      exact V_vret dX12_need_20 rfl h
theorem wp_X12_set {G : GV} {k : Nat} {M : Mem} {q : Int32 → Mem → Prop} {v1 : Int32} {v2 : Int32} {v3 : Int32} (h : Ci shM G mX12_isSheet (k + 1) [.int v1] (mset M 0 0 0) (fun x1 M1 => ((x1 ≠ 0 → vp_in v1 8 ∧ ((0 ≤ (M1.1 1 (ix v1)) → vp_in v1 8 ∧ Ci shM G mX12_in (k + 1) [.long (Int32.toInt64 v2), .long 0, .long (Int32.toInt64 ((M1.1 2 (ix v1)) - 1))] (mset M1 0 1 0) (fun x2 M2 => ((x2 ≠ 0 → vp_in v1 8 ∧ (((M2.1 1 (ix v1)) ≠ 0 → vp_in v1 8 ∧ (((M2.1 1 (ix v1)) ≠ 1 → vp_in ((60 * v1) + v2) 480 ∧ vp_in ((60 * v1) + v2) 480 ∧ q ((mset M2 3 (ix ((60 * v1) + v2)) v3).1 3 (ix ((60 * v1) + v2))) (mset M2 3 (ix ((60 * v1) + v2)) v3)) ∧ ((M2.1 1 (ix v1)) = 1 → vp_in ((60 * v1) + v2) 480 ∧ vp_in ((60 * v1) + v2) 480 ∧ q ((mset M2 3 (ix ((60 * v1) + v2)) ((Int32.toInt16 v3).toInt32)).1 3 (ix ((60 * v1) + v2))) (mset M2 3 (ix ((60 * v1) + v2)) ((Int32.toInt16 v3).toInt32))))) ∧ ((M2.1 1 (ix v1)) = 0 → vp_in ((60 * v1) + v2) 480 ∧ vp_in ((60 * v1) + v2) 480 ∧ q ((mset M2 3 (ix ((60 * v1) + v2)) ((Int32.toInt8 v3).toInt32)).1 3 (ix ((60 * v1) + v2))) (mset M2 3 (ix ((60 * v1) + v2)) ((Int32.toInt8 v3).toInt32))))) ∧ (x2 = 0 → Ci shM G mX12_finding (k + 1) [.ref (G.2.1 0), .int 2] M2 (fun x3 M3 => q x3 M3))))) ∧ (¬ 0 ≤ (M1.1 1 (ix v1)) → Ci shM G mX12_finding (k + 1) [.ref (G.2.1 0), .int 1] (mset M1 0 1 0) (fun x4 M4 => q x4 M4)))) ∧ (x1 = 0 → q (-1000001) M1)))) : Ci shM G mX12_set (k + 2) [.ref (G.2.1 0), .int v1, .int v2, .int v3] M q := by
  unfold Ci
  show V _ _ _ _ _ [(0, .ref (G.2.1 0)), (1, .int v1), (2, .int v2), (3, .int v3)] _ _ _
  refine V_aload_n (pc := 0) dX12_set_0 rfl ?_
  refine V_iconst (v := 0) (pc := 1) dX12_set_1 rfl ?_
  refine V_putI (pc := 2) fX12_108 p12_0 sM0 rfl dX12_set_2 ?_
  refine V_iload_n (pc := 5) dX12_set_5 rfl ?_
  refine V_callSi [.int v1] (pc := 6) kX12_isSheet lX12_122 rfl (Nat.le_of_ble_eq_true rfl) rfl (Nat.le_of_ble_eq_true rfl) dX12_set_6 ?_
  refine Ci.mono h ?_
  intro x1 M1 h
  refine V_if_ne (tgt := 15) (pc := 9) dX12_set_9 rfl (fun c => ?_) (fun c => ?_)
  · have h := h.1 c
    refine V_aload_n (pc := 15) dX12_set_15 rfl ?_
    refine V_iconst (v := 0) (pc := 16) dX12_set_16 rfl ?_
    refine V_putI (pc := 17) fX12_112 p12_1 sM0 rfl dX12_set_17 ?_
    refine V_aload_n (pc := 20) dX12_set_20 rfl ?_
    refine V_getR (pc := 21) fX12_7 sM0 rfl dX12_set_21 ?_
    refine V_iload_n (pc := 24) dX12_set_24 rfl ?_
    refine V_iald (pc := 25) sM1 dX12_set_25 h.1 ?_
    have h := h.2
    refine V_top (v := (M1.1 1 (ix v1))) (by simp [mset, lset]) ?_
    refine V_if_ge (tgt := 35) (pc := 26) dX12_set_26 rfl (fun c => ?_) (fun c => ?_)
    · have h := h.1 c
      refine V_iload_n (pc := 35) dX12_set_35 rfl ?_
      refine V_i2l (pc := 36) dX12_set_36 ?_
      refine V_lconst (v := 0) (pc := 37) dX12_set_37 rfl ?_
      refine V_aload_n (pc := 38) dX12_set_38 rfl ?_
      refine V_getR (pc := 39) fX12_13 sM0 rfl dX12_set_39 ?_
      refine V_iload_n (pc := 42) dX12_set_42 rfl ?_
      refine V_iald (pc := 43) sM2 dX12_set_43 h.1 ?_
      have h := h.2
      refine V_top (v := (M1.1 2 (ix v1))) (by simp [mset, lset]) ?_
      refine V_iconst (v := 1) (pc := 44) dX12_set_44 rfl ?_
      refine V_isub (pc := 45) dX12_set_45 ?_
      refine V_i2l (pc := 46) dX12_set_46 ?_
      refine V_callSi [.long (Int32.toInt64 v2), .long 0, .long (Int32.toInt64 ((M1.1 2 (ix v1)) - 1))] (pc := 47) kX12_in lX12_118 rfl (Nat.le_of_ble_eq_true rfl) rfl (Nat.le_of_ble_eq_true rfl) dX12_set_47 ?_
      refine Ci.mono h ?_
      intro x2 M2 h
      refine V_if_ne (tgt := 59) (pc := 50) dX12_set_50 rfl (fun c => ?_) (fun c => ?_)
      · have h := h.1 c
        refine V_aload_n (pc := 59) dX12_set_59 rfl ?_
        refine V_getR (pc := 60) fX12_16 sM0 rfl dX12_set_60 ?_
        refine V_bipush (v := 60) (pc := 63) dX12_set_63 rfl ?_
        refine V_iload_n (pc := 65) dX12_set_65 rfl ?_
        refine V_imul (pc := 66) dX12_set_66 ?_
        refine V_iload_n (pc := 67) dX12_set_67 rfl ?_
        refine V_iadd (pc := 68) dX12_set_68 ?_
        refine V_aload_n (pc := 69) dX12_set_69 rfl ?_
        refine V_getR (pc := 70) fX12_7 sM0 rfl dX12_set_70 ?_
        refine V_iload_n (pc := 73) dX12_set_73 rfl ?_
        refine V_iald (pc := 74) sM1 dX12_set_74 h.1 ?_
        have h := h.2
        refine V_if_ne (tgt := 83) (pc := 75) dX12_set_75 rfl (fun c => ?_) (fun c => ?_)
        · have h := h.1 c
          refine V_aload_n (pc := 83) dX12_set_83 rfl ?_
          refine V_getR (pc := 84) fX12_7 sM0 rfl dX12_set_84 ?_
          refine V_iload_n (pc := 87) dX12_set_87 rfl ?_
          refine V_iald (pc := 88) sM1 dX12_set_88 h.1 ?_
          have h := h.2
          refine V_iconst (v := 1) (pc := 89) dX12_set_89 rfl ?_
          refine V_icmp_ne (tgt := 98) (pc := 90) dX12_set_90 rfl (fun c => ?_) (fun c => ?_)
          · have h := h.1 c
            refine V_iload_n (pc := 98) dX12_set_98 rfl ?_
            refine V_iast (pc := 99) sM3 dX12_set_99 h.1 ?_
            have h := h.2
            refine V_aload_n (pc := 100) dX12_set_100 rfl ?_
            refine V_getR (pc := 101) fX12_16 sM0 rfl dX12_set_101 ?_
            refine V_bipush (v := 60) (pc := 104) dX12_set_104 rfl ?_
            refine V_iload_n (pc := 106) dX12_set_106 rfl ?_
            refine V_imul (pc := 107) dX12_set_107 ?_
            refine V_iload_n (pc := 108) dX12_set_108 rfl ?_
            refine V_iadd (pc := 109) dX12_set_109 ?_
            refine V_iald (pc := 110) sM3 dX12_set_110 h.1 ?_
            have h := h.2
            exact V_iret dX12_set_111 rfl h
          · have h := h.2 c
            refine V_iload_n (pc := 93) dX12_set_93 rfl ?_
            refine V_i2s (pc := 94) dX12_set_94 ?_
            refine V_goto (tgt := 99) (pc := 95) dX12_set_95 rfl ?_
            refine V_iast (pc := 99) sM3 dX12_set_99 h.1 ?_
            have h := h.2
            refine V_aload_n (pc := 100) dX12_set_100 rfl ?_
            refine V_getR (pc := 101) fX12_16 sM0 rfl dX12_set_101 ?_
            refine V_bipush (v := 60) (pc := 104) dX12_set_104 rfl ?_
            refine V_iload_n (pc := 106) dX12_set_106 rfl ?_
            refine V_imul (pc := 107) dX12_set_107 ?_
            refine V_iload_n (pc := 108) dX12_set_108 rfl ?_
            refine V_iadd (pc := 109) dX12_set_109 ?_
            refine V_iald (pc := 110) sM3 dX12_set_110 h.1 ?_
            have h := h.2
            exact V_iret dX12_set_111 rfl h
        · have h := h.2 c
          refine V_iload_n (pc := 78) dX12_set_78 rfl ?_
          refine V_i2b (pc := 79) dX12_set_79 ?_
          refine V_goto (tgt := 99) (pc := 80) dX12_set_80 rfl ?_
          refine V_iast (pc := 99) sM3 dX12_set_99 h.1 ?_
          have h := h.2
          refine V_aload_n (pc := 100) dX12_set_100 rfl ?_
          refine V_getR (pc := 101) fX12_16 sM0 rfl dX12_set_101 ?_
          refine V_bipush (v := 60) (pc := 104) dX12_set_104 rfl ?_
          refine V_iload_n (pc := 106) dX12_set_106 rfl ?_
          refine V_imul (pc := 107) dX12_set_107 ?_
          refine V_iload_n (pc := 108) dX12_set_108 rfl ?_
          refine V_iadd (pc := 109) dX12_set_109 ?_
          refine V_iald (pc := 110) sM3 dX12_set_110 h.1 ?_
          have h := h.2
          exact V_iret dX12_set_111 rfl h
      · have h := h.2 c
        refine V_aload_n (pc := 53) dX12_set_53 rfl ?_
        refine V_iconst (v := 2) (pc := 54) dX12_set_54 rfl ?_
        refine V_callVi [.int 2] (pc := 55) kX12_finding lX12_129 sM0 rfl rfl (Nat.le_of_ble_eq_true rfl) rfl (Nat.le_of_ble_eq_true rfl) dX12_set_55 ?_
        refine Ci.mono h ?_
        intro x3 M3 h
        exact V_iret dX12_set_58 rfl h
    · have h := h.2 c
      refine V_aload_n (pc := 29) dX12_set_29 rfl ?_
      refine V_iconst (v := 1) (pc := 30) dX12_set_30 rfl ?_
      refine V_callVi [.int 1] (pc := 31) kX12_finding lX12_129 sM0 rfl rfl (Nat.le_of_ble_eq_true rfl) rfl (Nat.le_of_ble_eq_true rfl) dX12_set_31 ?_
      refine Ci.mono h ?_
      intro x4 M4 h
      exact V_iret dX12_set_34 rfl h
  · have h := h.2 c
    refine V_ldc (pc := 12) dX12_set_12 nX12_128 ?_
    exact V_iret dX12_set_14 rfl h
theorem wp_X12_sheet {G : GV} {k : Nat} {M : Mem} {q : Int32 → Mem → Prop} {v1 : Int32} {v2 : Int32} {v3 : Int32} (h : Ci shM G mX12_isSheet (k + 1) [.int v1] (mset M 0 0 0) (fun x1 M1 => ((x1 = 0 → q (-1000001) M1) ∧ (¬ x1 = 0 → Ci shM G mX12_in (k + 1) [.long (Int32.toInt64 v2), .long 0, .long 2] M1 (fun x2 M2 => ((x2 = 0 → q (-1000001) M2) ∧ (¬ x2 = 0 → ((v3 ≤ 60 → ((0 ≤ v3 → vp_in v1 8 ∧ vp_in v1 8 ∧ V shM G mX12_sheet (k + 2) 65 [(0, .ref (G.2.1 0)), (1, .int v1), (2, .int v2), (3, .int v3), (4, .int 0)] [] (mset (mset (mset M2 0 1 0) 1 (ix v1) v2) 2 (ix v1) v3) (Qi q)) ∧ (¬ 0 ≤ v3 → Ci shM G mX12_finding (k + 1) [.ref (G.2.1 0), .int 4] (mset M2 0 1 0) (fun x3 M3 => q x3 M3)))) ∧ (¬ v3 ≤ 60 → q (-1000001) M2))))))))) : Ci shM G mX12_sheet (k + 2) [.ref (G.2.1 0), .int v1, .int v2, .int v3] M q := by
  unfold Ci
  show V _ _ _ _ _ [(0, .ref (G.2.1 0)), (1, .int v1), (2, .int v2), (3, .int v3)] _ _ _
  refine V_aload_n (pc := 0) dX12_sheet_0 rfl ?_
  refine V_iconst (v := 0) (pc := 1) dX12_sheet_1 rfl ?_
  refine V_putI (pc := 2) fX12_108 p12_0 sM0 rfl dX12_sheet_2 ?_
  refine V_iload_n (pc := 5) dX12_sheet_5 rfl ?_
  refine V_callSi [.int v1] (pc := 6) kX12_isSheet lX12_122 rfl (Nat.le_of_ble_eq_true rfl) rfl (Nat.le_of_ble_eq_true rfl) dX12_sheet_6 ?_
  refine Ci.mono h ?_
  intro x1 M1 h
  refine V_if_eq (tgt := 30) (pc := 9) dX12_sheet_9 rfl (fun c => ?_) (fun c => ?_)
  · have h := h.1 c
    refine V_ldc (pc := 30) dX12_sheet_30 nX12_128 ?_
    exact V_iret dX12_sheet_32 rfl h
  · have h := h.2 c
    refine V_iload_n (pc := 12) dX12_sheet_12 rfl ?_
    refine V_i2l (pc := 13) dX12_sheet_13 ?_
    refine V_lconst (v := 0) (pc := 14) dX12_sheet_14 rfl ?_
    refine V_ldc2 (pc := 15) dX12_sheet_15 nX12_126 ?_
    refine V_callSi [.long (Int32.toInt64 v2), .long 0, .long 2] (pc := 18) kX12_in lX12_118 rfl (Nat.le_of_ble_eq_true rfl) rfl (Nat.le_of_ble_eq_true rfl) dX12_sheet_18 ?_
    refine Ci.mono h ?_
    intro x2 M2 h
    refine V_if_eq (tgt := 30) (pc := 21) dX12_sheet_21 rfl (fun c => ?_) (fun c => ?_)
    · have h := h.1 c
      refine V_ldc (pc := 30) dX12_sheet_30 nX12_128 ?_
      exact V_iret dX12_sheet_32 rfl h
    · have h := h.2 c
      refine V_iload_n (pc := 24) dX12_sheet_24 rfl ?_
      refine V_bipush (v := 60) (pc := 25) dX12_sheet_25 rfl ?_
      refine V_icmp_le (tgt := 33) (pc := 27) dX12_sheet_27 rfl (fun c => ?_) (fun c => ?_)
      · have h := h.1 c
        refine V_aload_n (pc := 33) dX12_sheet_33 rfl ?_
        refine V_iconst (v := 0) (pc := 34) dX12_sheet_34 rfl ?_
        refine V_putI (pc := 35) fX12_112 p12_1 sM0 rfl dX12_sheet_35 ?_
        refine V_iload_n (pc := 38) dX12_sheet_38 rfl ?_
        refine V_if_ge (tgt := 48) (pc := 39) dX12_sheet_39 rfl (fun c => ?_) (fun c => ?_)
        · have h := h.1 c
          refine V_aload_n (pc := 48) dX12_sheet_48 rfl ?_
          refine V_getR (pc := 49) fX12_7 sM0 rfl dX12_sheet_49 ?_
          refine V_iload_n (pc := 52) dX12_sheet_52 rfl ?_
          refine V_iload_n (pc := 53) dX12_sheet_53 rfl ?_
          refine V_iast (pc := 54) sM1 dX12_sheet_54 h.1 ?_
          have h := h.2
          refine V_aload_n (pc := 55) dX12_sheet_55 rfl ?_
          refine V_getR (pc := 56) fX12_13 sM0 rfl dX12_sheet_56 ?_
          refine V_iload_n (pc := 59) dX12_sheet_59 rfl ?_
          refine V_iload_n (pc := 60) dX12_sheet_60 rfl ?_
          refine V_iast (pc := 61) sM2 dX12_sheet_61 h.1 ?_
          have h := h.2
          refine V_iconst (v := 0) (pc := 62) dX12_sheet_62 rfl ?_
          refine V_istore (pc := 63) dX12_sheet_63 (by decide) ?_
          exact V_sub h ⟨rfl, rfl, rfl, rfl, rfl, trivial⟩
        · have h := h.2 c
          refine V_aload_n (pc := 42) dX12_sheet_42 rfl ?_
          refine V_iconst (v := 4) (pc := 43) dX12_sheet_43 rfl ?_
          refine V_callVi [.int 4] (pc := 44) kX12_finding lX12_129 sM0 rfl rfl (Nat.le_of_ble_eq_true rfl) rfl (Nat.le_of_ble_eq_true rfl) dX12_sheet_44 ?_
          refine Ci.mono h ?_
          intro x3 M3 h
          exact V_iret dX12_sheet_47 rfl h
      · have h := h.2 c
        refine V_ldc (pc := 30) dX12_sheet_30 nX12_128 ?_
        exact V_iret dX12_sheet_32 rfl h
theorem wp_X12_sheet_65 {G : GV} {k : Nat} {M : Mem} {q : Int32 → Mem → Prop} {v1 : Int32} {v2 : Int32} {v3 : Int32} {v4 : Int32} (h : ((60 ≤ v4 → q v3 M) ∧ (¬ 60 ≤ v4 → vp_in ((60 * v1) + v4) 480 ∧ V shM G mX12_sheet (k + 2) 65 [(0, .ref (G.2.1 0)), (1, .int v1), (2, .int v2), (3, .int v3), (4, .int (v4 + 1))] [] (mset M 3 (ix ((60 * v1) + v4)) 0) (Qi q)))) : V shM G mX12_sheet (k + 2) 65 [(0, .ref (G.2.1 0)), (1, .int v1), (2, .int v2), (3, .int v3), (4, .int v4)] [] M (Qi q) := by
  refine V_iload (pc := 65) dX12_sheet_65 rfl ?_
  refine V_bipush (v := 60) (pc := 67) dX12_sheet_67 rfl ?_
  refine V_icmp_ge (tgt := 91) (pc := 69) dX12_sheet_69 rfl (fun c => ?_) (fun c => ?_)
  · have h := h.1 c
    refine V_iload_n (pc := 91) dX12_sheet_91 rfl ?_
    exact V_iret dX12_sheet_92 rfl h
  · have h := h.2 c
    refine V_aload_n (pc := 72) dX12_sheet_72 rfl ?_
    refine V_getR (pc := 73) fX12_16 sM0 rfl dX12_sheet_73 ?_
    refine V_bipush (v := 60) (pc := 76) dX12_sheet_76 rfl ?_
    refine V_iload_n (pc := 78) dX12_sheet_78 rfl ?_
    refine V_imul (pc := 79) dX12_sheet_79 ?_
    refine V_iload (pc := 80) dX12_sheet_80 rfl ?_
    refine V_iadd (pc := 82) dX12_sheet_82 ?_
    refine V_iconst (v := 0) (pc := 83) dX12_sheet_83 rfl ?_
    refine V_iast (pc := 84) sM3 dX12_sheet_84 h.1 ?_
    have h := h.2
    refine V_iinc (pc := 85) dX12_sheet_85 rfl (by decide) ?_
    refine V_goto (tgt := 65) (pc := 88) dX12_sheet_88 rfl ?_
    exact V_sub h ⟨rfl, rfl, rfl, rfl, rfl, trivial⟩
theorem wp_X12_shown {G : GV} {k : Nat} {M : Mem} {q : Int32 → Mem → Prop} {v1 : Int32} {v2 : Int32} (h : Ci shM G mX12_isLine (k + 1) [.ref (G.2.1 0), .int v1] (mset M 0 0 0) (fun x1 M1 => ((x1 = 0 → q (-1000001) M1) ∧ (¬ x1 = 0 → Ci shM G mX12_in (k + 1) [.long (Int32.toInt64 v2), .long 0, .long 9999] M1 (fun x2 M2 => ((x2 ≠ 0 → Ci shM G mX12_gathered (k + 1) [.ref (G.2.1 0), .int v1] M2 (fun x3 M3 => vp_in v1 12 ∧ (((M3.1 9 (ix v1)) ≠ 2 → (((v2 - x3) < 72 → q 0 M3) ∧ (¬ (v2 - x3) < 72 → q 1 M3))) ∧ ((M3.1 9 (ix v1)) = 2 → (((v2 - x3) < 100 → q 0 M3) ∧ (¬ (v2 - x3) < 100 → q 1 M3)))))) ∧ (x2 = 0 → q (-1000001) M2))))))) : Ci shM G mX12_shown (k + 2) [.ref (G.2.1 0), .int v1, .int v2] M q := by
  unfold Ci
  show V _ _ _ _ _ [(0, .ref (G.2.1 0)), (1, .int v1), (2, .int v2)] _ _ _
  refine V_aload_n (pc := 0) dX12_shown_0 rfl ?_
  refine V_iconst (v := 0) (pc := 1) dX12_shown_1 rfl ?_
  refine V_putI (pc := 2) fX12_108 p12_0 sM0 rfl dX12_shown_2 ?_
  refine V_aload_n (pc := 5) dX12_shown_5 rfl ?_
  refine V_iload_n (pc := 6) dX12_shown_6 rfl ?_
  refine V_callVi [.int v1] (pc := 7) kX12_isLine lX12_255 sM0 rfl rfl (Nat.le_of_ble_eq_true rfl) rfl (Nat.le_of_ble_eq_true rfl) dX12_shown_7 ?_
  refine Ci.mono h ?_
  intro x1 M1 h
  refine V_if_eq (tgt := 25) (pc := 10) dX12_shown_10 rfl (fun c => ?_) (fun c => ?_)
  · have h := h.1 c
    refine V_ldc (pc := 25) dX12_shown_25 nX12_128 ?_
    exact V_iret dX12_shown_27 rfl h
  · have h := h.2 c
    refine V_iload_n (pc := 13) dX12_shown_13 rfl ?_
    refine V_i2l (pc := 14) dX12_shown_14 ?_
    refine V_lconst (v := 0) (pc := 15) dX12_shown_15 rfl ?_
    refine V_ldc2 (pc := 16) dX12_shown_16 nX12_265 ?_
    refine V_callSi [.long (Int32.toInt64 v2), .long 0, .long 9999] (pc := 19) kX12_in lX12_118 rfl (Nat.le_of_ble_eq_true rfl) rfl (Nat.le_of_ble_eq_true rfl) dX12_shown_19 ?_
    refine Ci.mono h ?_
    intro x2 M2 h
    refine V_if_ne (tgt := 28) (pc := 22) dX12_shown_22 rfl (fun c => ?_) (fun c => ?_)
    · have h := h.1 c
      refine V_iload_n (pc := 28) dX12_shown_28 rfl ?_
      refine V_aload_n (pc := 29) dX12_shown_29 rfl ?_
      refine V_iload_n (pc := 30) dX12_shown_30 rfl ?_
      refine V_callVi [.int v1] (pc := 31) kX12_gathered lX12_246 sM0 rfl rfl (Nat.le_of_ble_eq_true rfl) rfl (Nat.le_of_ble_eq_true rfl) dX12_shown_31 ?_
      refine Ci.mono h ?_
      intro x3 M3 h
      refine V_isub (pc := 34) dX12_shown_34 ?_
      refine V_aload_n (pc := 35) dX12_shown_35 rfl ?_
      refine V_getR (pc := 36) fX12_35 sM0 rfl dX12_shown_36 ?_
      refine V_iload_n (pc := 39) dX12_shown_39 rfl ?_
      refine V_iald (pc := 40) sM9 dX12_shown_40 h.1 ?_
      have h := h.2
      refine V_iconst (v := 2) (pc := 41) dX12_shown_41 rfl ?_
      refine V_icmp_ne (tgt := 50) (pc := 42) dX12_shown_42 rfl (fun c => ?_) (fun c => ?_)
      · have h := h.1 c
        refine V_bipush (v := 72) (pc := 50) dX12_shown_50 rfl ?_
        refine V_icmp_lt (tgt := 59) (pc := 52) dX12_shown_52 rfl (fun c => ?_) (fun c => ?_)
        · have h := h.1 c
          refine V_iconst (v := 0) (pc := 59) dX12_shown_59 rfl ?_
          exact V_iret dX12_shown_60 rfl h
        · have h := h.2 c
          refine V_iconst (v := 1) (pc := 55) dX12_shown_55 rfl ?_
          refine V_goto (tgt := 60) (pc := 56) dX12_shown_56 rfl ?_
          exact V_iret dX12_shown_60 rfl h
      · have h := h.2 c
        refine V_bipush (v := 100) (pc := 45) dX12_shown_45 rfl ?_
        refine V_goto (tgt := 52) (pc := 47) dX12_shown_47 rfl ?_
        refine V_icmp_lt (tgt := 59) (pc := 52) dX12_shown_52 rfl (fun c => ?_) (fun c => ?_)
        · have h := h.1 c
          refine V_iconst (v := 0) (pc := 59) dX12_shown_59 rfl ?_
          exact V_iret dX12_shown_60 rfl h
        · have h := h.2 c
          refine V_iconst (v := 1) (pc := 55) dX12_shown_55 rfl ?_
          refine V_goto (tgt := 60) (pc := 56) dX12_shown_56 rfl ?_
          exact V_iret dX12_shown_60 rfl h
    · have h := h.2 c
      refine V_ldc (pc := 25) dX12_shown_25 nX12_128 ?_
      exact V_iret dX12_shown_27 rfl h
theorem wp_X12_today {G : GV} {k : Nat} {M : Mem} {q : Int32 → Mem → Prop} {v1 : Int32} {v2 : Int32} {v3 : Int32} (h : Ci shM G mX12_isAddress (k + 1) [.int v1, .int v2, .int v3] (mset M 0 0 0) (fun x1 M1 => ((x1 = 0 → q (-1000001) M1) ∧ (¬ x1 = 0 → Ci shM G mX12_todayOf (k + 1) [.ref (G.2.1 0), .int v1, .int v2, .int v3] M1 (fun x2 M2 => q x2 M2))))) : Ci shM G mX12_today (k + 2) [.ref (G.2.1 0), .int v1, .int v2, .int v3] M q := by
  unfold Ci
  show V _ _ _ _ _ [(0, .ref (G.2.1 0)), (1, .int v1), (2, .int v2), (3, .int v3)] _ _ _
  refine V_aload_n (pc := 0) dX12_today_0 rfl ?_
  refine V_iconst (v := 0) (pc := 1) dX12_today_1 rfl ?_
  refine V_putI (pc := 2) fX12_108 p12_0 sM0 rfl dX12_today_2 ?_
  refine V_iload_n (pc := 5) dX12_today_5 rfl ?_
  refine V_iload_n (pc := 6) dX12_today_6 rfl ?_
  refine V_iload_n (pc := 7) dX12_today_7 rfl ?_
  refine V_callSi [.int v1, .int v2, .int v3] (pc := 8) kX12_isAddress lX12_267 rfl (Nat.le_of_ble_eq_true rfl) rfl (Nat.le_of_ble_eq_true rfl) dX12_today_8 ?_
  refine Ci.mono h ?_
  intro x1 M1 h
  refine V_if_eq (tgt := 24) (pc := 11) dX12_today_11 rfl (fun c => ?_) (fun c => ?_)
  · have h := h.1 c
    refine V_ldc (pc := 24) dX12_today_24 nX12_128 ?_
    exact V_iret dX12_today_26 rfl h
  · have h := h.2 c
    refine V_aload_n (pc := 14) dX12_today_14 rfl ?_
    refine V_iload_n (pc := 15) dX12_today_15 rfl ?_
    refine V_iload_n (pc := 16) dX12_today_16 rfl ?_
    refine V_iload_n (pc := 17) dX12_today_17 rfl ?_
    refine V_callVi [.int v1, .int v2, .int v3] (pc := 18) kX12_todayOf lX12_249 sM0 rfl rfl (Nat.le_of_ble_eq_true rfl) rfl (Nat.le_of_ble_eq_true rfl) dX12_today_18 ?_
    refine Ci.mono h ?_
    intro x2 M2 h
    refine V_goto (tgt := 26) (pc := 21) dX12_today_21 rfl ?_
    exact V_iret dX12_today_26 rfl h
theorem wp_X12_walks {G : GV} {k : Nat} {M : Mem} {q : Int32 → Mem → Prop} {v1 : Int32} {v2 : Int32} {v3 : Int32} (h : Ci shM G mX12_isSheet (k + 1) [.int v1] (mset M 0 0 0) (fun x1 M1 => ((x1 = 0 → q (-1000001) M1) ∧ (¬ x1 = 0 → Ci shM G mX12_in (k + 1) [.long (Int32.toInt64 v3), .long 1, .long 20] M1 (fun x2 M2 => ((x2 ≠ 0 → vp_in v1 8 ∧ ((0 ≤ (M2.1 1 (ix v1)) → ((v2 < 0 → Ci shM G mX12_finding (k + 1) [.ref (G.2.1 0), .int 2] M2 (fun x3 M3 => q x3 M3)) ∧ (¬ v2 < 0 → vp_in v1 8 ∧ ((((Int32.toInt64 v2) + (Int32.toInt64 (3 * v3))) ≤ (Int32.toInt64 (M2.1 2 (ix v1))) → V shM G mX12_walks (k + 2) 81 [(0, .ref (G.2.1 0)), (1, .int v1), (2, .int v2), (3, .int v3), (4, .int ((60 * v1) + v2)), (5, .int 0)] [] M2 (Qi q)) ∧ (¬ ((Int32.toInt64 v2) + (Int32.toInt64 (3 * v3))) ≤ (Int32.toInt64 (M2.1 2 (ix v1))) → Ci shM G mX12_finding (k + 1) [.ref (G.2.1 0), .int 2] M2 (fun x4 M4 => q x4 M4)))))) ∧ (¬ 0 ≤ (M2.1 1 (ix v1)) → Ci shM G mX12_finding (k + 1) [.ref (G.2.1 0), .int 1] M2 (fun x5 M5 => q x5 M5)))) ∧ (x2 = 0 → q (-1000001) M2))))))) : Ci shM G mX12_walks (k + 2) [.ref (G.2.1 0), .int v1, .int v2, .int v3] M q := by
  unfold Ci
  show V _ _ _ _ _ [(0, .ref (G.2.1 0)), (1, .int v1), (2, .int v2), (3, .int v3)] _ _ _
  refine V_aload_n (pc := 0) dX12_walks_0 rfl ?_
  refine V_iconst (v := 0) (pc := 1) dX12_walks_1 rfl ?_
  refine V_putI (pc := 2) fX12_108 p12_0 sM0 rfl dX12_walks_2 ?_
  refine V_iload_n (pc := 5) dX12_walks_5 rfl ?_
  refine V_callSi [.int v1] (pc := 6) kX12_isSheet lX12_122 rfl (Nat.le_of_ble_eq_true rfl) rfl (Nat.le_of_ble_eq_true rfl) dX12_walks_6 ?_
  refine Ci.mono h ?_
  intro x1 M1 h
  refine V_if_eq (tgt := 24) (pc := 9) dX12_walks_9 rfl (fun c => ?_) (fun c => ?_)
  · have h := h.1 c
    refine V_ldc (pc := 24) dX12_walks_24 nX12_128 ?_
    exact V_iret dX12_walks_26 rfl h
  · have h := h.2 c
    refine V_iload_n (pc := 12) dX12_walks_12 rfl ?_
    refine V_i2l (pc := 13) dX12_walks_13 ?_
    refine V_lconst (v := 1) (pc := 14) dX12_walks_14 rfl ?_
    refine V_ldc2 (pc := 15) dX12_walks_15 nX12_271 ?_
    refine V_callSi [.long (Int32.toInt64 v3), .long 1, .long 20] (pc := 18) kX12_in lX12_118 rfl (Nat.le_of_ble_eq_true rfl) rfl (Nat.le_of_ble_eq_true rfl) dX12_walks_18 ?_
    refine Ci.mono h ?_
    intro x2 M2 h
    refine V_if_ne (tgt := 27) (pc := 21) dX12_walks_21 rfl (fun c => ?_) (fun c => ?_)
    · have h := h.1 c
      refine V_aload_n (pc := 27) dX12_walks_27 rfl ?_
      refine V_getR (pc := 28) fX12_7 sM0 rfl dX12_walks_28 ?_
      refine V_iload_n (pc := 31) dX12_walks_31 rfl ?_
      refine V_iald (pc := 32) sM1 dX12_walks_32 h.1 ?_
      have h := h.2
      refine V_if_ge (tgt := 42) (pc := 33) dX12_walks_33 rfl (fun c => ?_) (fun c => ?_)
      · have h := h.1 c
        refine V_iload_n (pc := 42) dX12_walks_42 rfl ?_
        refine V_if_lt (tgt := 64) (pc := 43) dX12_walks_43 rfl (fun c => ?_) (fun c => ?_)
        · have h := h.1 c
          refine V_aload_n (pc := 64) dX12_walks_64 rfl ?_
          refine V_iconst (v := 2) (pc := 65) dX12_walks_65 rfl ?_
          refine V_callVi [.int 2] (pc := 66) kX12_finding lX12_129 sM0 rfl rfl (Nat.le_of_ble_eq_true rfl) rfl (Nat.le_of_ble_eq_true rfl) dX12_walks_66 ?_
          refine Ci.mono h ?_
          intro x3 M3 h
          exact V_iret dX12_walks_69 rfl h
        · have h := h.2 c
          refine V_iload_n (pc := 46) dX12_walks_46 rfl ?_
          refine V_i2l (pc := 47) dX12_walks_47 ?_
          refine V_iconst (v := 3) (pc := 48) dX12_walks_48 rfl ?_
          refine V_iload_n (pc := 49) dX12_walks_49 rfl ?_
          refine V_imul (pc := 50) dX12_walks_50 ?_
          refine V_i2l (pc := 51) dX12_walks_51 ?_
          refine V_ladd (pc := 52) dX12_walks_52 ?_
          refine V_aload_n (pc := 53) dX12_walks_53 rfl ?_
          refine V_getR (pc := 54) fX12_13 sM0 rfl dX12_walks_54 ?_
          refine V_iload_n (pc := 57) dX12_walks_57 rfl ?_
          refine V_iald (pc := 58) sM2 dX12_walks_58 h.1 ?_
          have h := h.2
          refine V_i2l (pc := 59) dX12_walks_59 ?_
          refine V_lif_le (tgt := 70) (pc := 60) dX12_walks_60 dX12_walks_61 rfl (fun c => ?_) (fun c => ?_)
          · have h := h.1 c
            refine V_bipush (v := 60) (pc := 70) dX12_walks_70 rfl ?_
            refine V_iload_n (pc := 72) dX12_walks_72 rfl ?_
            refine V_imul (pc := 73) dX12_walks_73 ?_
            refine V_iload_n (pc := 74) dX12_walks_74 rfl ?_
            refine V_iadd (pc := 75) dX12_walks_75 ?_
            refine V_istore (pc := 76) dX12_walks_76 (by decide) ?_
            refine V_iconst (v := 0) (pc := 78) dX12_walks_78 rfl ?_
            refine V_istore (pc := 79) dX12_walks_79 (by decide) ?_
            exact V_sub h ⟨rfl, rfl, rfl, rfl, rfl, rfl, trivial⟩
          · have h := h.2 c
            refine V_aload_n (pc := 64) dX12_walks_64 rfl ?_
            refine V_iconst (v := 2) (pc := 65) dX12_walks_65 rfl ?_
            refine V_callVi [.int 2] (pc := 66) kX12_finding lX12_129 sM0 rfl rfl (Nat.le_of_ble_eq_true rfl) rfl (Nat.le_of_ble_eq_true rfl) dX12_walks_66 ?_
            refine Ci.mono h ?_
            intro x4 M4 h
            exact V_iret dX12_walks_69 rfl h
      · have h := h.2 c
        refine V_aload_n (pc := 36) dX12_walks_36 rfl ?_
        refine V_iconst (v := 1) (pc := 37) dX12_walks_37 rfl ?_
        refine V_callVi [.int 1] (pc := 38) kX12_finding lX12_129 sM0 rfl rfl (Nat.le_of_ble_eq_true rfl) rfl (Nat.le_of_ble_eq_true rfl) dX12_walks_38 ?_
        refine Ci.mono h ?_
        intro x5 M5 h
        exact V_iret dX12_walks_41 rfl h
    · have h := h.2 c
      refine V_ldc (pc := 24) dX12_walks_24 nX12_128 ?_
      exact V_iret dX12_walks_26 rfl h
theorem wp_X12_walks_81 {G : GV} {k : Nat} {M : Mem} {q : Int32 → Mem → Prop} {v1 : Int32} {v2 : Int32} {v3 : Int32} {v4 : Int32} {v5 : Int32} (h : ((v3 ≤ v5 → V shM G mX12_walks (k + 2) 153 [(0, .ref (G.2.1 0)), (1, .int v1), (2, .int v2), (3, .int v3), (4, .int v4), (5, .int 0), (6, .int 0)] [] (mset M 0 1 0) (Qi q)) ∧ (¬ v3 ≤ v5 → vp_in (v4 + (3 * v5)) 480 ∧ vp_in ((v4 + (3 * v5)) + 1) 480 ∧ vp_in ((v4 + (3 * v5)) + 2) 480 ∧ Ci shM G mX12_isAddress (k + 1) [.int (M.1 3 (ix (v4 + (3 * v5)))), .int (M.1 3 (ix ((v4 + (3 * v5)) + 1))), .int (M.1 3 (ix ((v4 + (3 * v5)) + 2)))] M (fun x1 M1 => ((x1 ≠ 0 → V shM G mX12_walks (k + 2) 81 [(0, .ref (G.2.1 0)), (1, .int v1), (2, .int v2), (3, .int v3), (4, .int v4), (5, .int (v5 + 1))] [] M1 (Qi q)) ∧ (x1 = 0 → q (-1000001) M1)))))) : V shM G mX12_walks (k + 2) 81 [(0, .ref (G.2.1 0)), (1, .int v1), (2, .int v2), (3, .int v3), (4, .int v4), (5, .int v5)] [] M (Qi q) := by
  refine V_iload (pc := 81) dX12_walks_81 rfl ?_
  refine V_iload_n (pc := 83) dX12_walks_83 rfl ?_
  refine V_icmp_ge (tgt := 142) (pc := 84) dX12_walks_84 rfl (fun c => ?_) (fun c => ?_)
  · have h := h.1 c
    refine V_aload_n (pc := 142) dX12_walks_142 rfl ?_
    refine V_iconst (v := 0) (pc := 143) dX12_walks_143 rfl ?_
    refine V_putI (pc := 144) fX12_112 p12_1 sM0 rfl dX12_walks_144 ?_
    refine V_iconst (v := 0) (pc := 147) dX12_walks_147 rfl ?_
    refine V_istore (pc := 148) dX12_walks_148 (by decide) ?_
    refine V_iconst (v := 0) (pc := 150) dX12_walks_150 rfl ?_
    refine V_istore (pc := 151) dX12_walks_151 (by decide) ?_
    exact V_sub h ⟨rfl, rfl, rfl, rfl, rfl, rfl, rfl, trivial⟩
  · have h := h.2 c
    refine V_aload_n (pc := 87) dX12_walks_87 rfl ?_
    refine V_getR (pc := 88) fX12_16 sM0 rfl dX12_walks_88 ?_
    refine V_iload (pc := 91) dX12_walks_91 rfl ?_
    refine V_iconst (v := 3) (pc := 93) dX12_walks_93 rfl ?_
    refine V_iload (pc := 94) dX12_walks_94 rfl ?_
    refine V_imul (pc := 96) dX12_walks_96 ?_
    refine V_iadd (pc := 97) dX12_walks_97 ?_
    refine V_iald (pc := 98) sM3 dX12_walks_98 h.1 ?_
    have h := h.2
    refine V_aload_n (pc := 99) dX12_walks_99 rfl ?_
    refine V_getR (pc := 100) fX12_16 sM0 rfl dX12_walks_100 ?_
    refine V_iload (pc := 103) dX12_walks_103 rfl ?_
    refine V_iconst (v := 3) (pc := 105) dX12_walks_105 rfl ?_
    refine V_iload (pc := 106) dX12_walks_106 rfl ?_
    refine V_imul (pc := 108) dX12_walks_108 ?_
    refine V_iadd (pc := 109) dX12_walks_109 ?_
    refine V_iconst (v := 1) (pc := 110) dX12_walks_110 rfl ?_
    refine V_iadd (pc := 111) dX12_walks_111 ?_
    refine V_iald (pc := 112) sM3 dX12_walks_112 h.1 ?_
    have h := h.2
    refine V_aload_n (pc := 113) dX12_walks_113 rfl ?_
    refine V_getR (pc := 114) fX12_16 sM0 rfl dX12_walks_114 ?_
    refine V_iload (pc := 117) dX12_walks_117 rfl ?_
    refine V_iconst (v := 3) (pc := 119) dX12_walks_119 rfl ?_
    refine V_iload (pc := 120) dX12_walks_120 rfl ?_
    refine V_imul (pc := 122) dX12_walks_122 ?_
    refine V_iadd (pc := 123) dX12_walks_123 ?_
    refine V_iconst (v := 2) (pc := 124) dX12_walks_124 rfl ?_
    refine V_iadd (pc := 125) dX12_walks_125 ?_
    refine V_iald (pc := 126) sM3 dX12_walks_126 h.1 ?_
    have h := h.2
    refine V_callSi [.int (M.1 3 (ix (v4 + (3 * v5)))), .int (M.1 3 (ix ((v4 + (3 * v5)) + 1))), .int (M.1 3 (ix ((v4 + (3 * v5)) + 2)))] (pc := 127) kX12_isAddress lX12_267 rfl (Nat.le_of_ble_eq_true rfl) rfl (Nat.le_of_ble_eq_true rfl) dX12_walks_127 ?_
    refine Ci.mono h ?_
    intro x1 M1 h
    refine V_if_ne (tgt := 136) (pc := 130) dX12_walks_130 rfl (fun c => ?_) (fun c => ?_)
    · have h := h.1 c
      refine V_iinc (pc := 136) dX12_walks_136 rfl (by decide) ?_
      refine V_goto (tgt := 81) (pc := 139) dX12_walks_139 rfl ?_
      exact V_sub h ⟨rfl, rfl, rfl, rfl, rfl, rfl, trivial⟩
    · have h := h.2 c
      refine V_ldc (pc := 133) dX12_walks_133 nX12_128 ?_
      exact V_iret dX12_walks_135 rfl h
theorem wp_X12_walks_153 {G : GV} {k : Nat} {M : Mem} {q : Int32 → Mem → Prop} {v1 : Int32} {v2 : Int32} {v3 : Int32} {v4 : Int32} {v5 : Int32} {v6 : Int32} (h : ((v3 ≤ v6 → q v5 M) ∧ (¬ v3 ≤ v6 → vp_in (v4 + (3 * v6)) 480 ∧ vp_in ((v4 + (3 * v6)) + 1) 480 ∧ vp_in ((v4 + (3 * v6)) + 2) 480 ∧ Ci shM G mX12_todayOf (k + 1) [.ref (G.2.1 0), .int (M.1 3 (ix (v4 + (3 * v6)))), .int (M.1 3 (ix ((v4 + (3 * v6)) + 1))), .int (M.1 3 (ix ((v4 + (3 * v6)) + 2)))] M (fun x1 M1 => V shM G mX12_walks (k + 2) 211 [(0, .ref (G.2.1 0)), (1, .int v1), (2, .int v2), (3, .int v3), (4, .int v4), (5, .int v5), (6, .int v6), (7, .int 0), (8, .int x1), (9, .int 0)] [] M1 (Qi q))))) : V shM G mX12_walks (k + 2) 153 [(0, .ref (G.2.1 0)), (1, .int v1), (2, .int v2), (3, .int v3), (4, .int v4), (5, .int v5), (6, .int v6)] [] M (Qi q) := by
  refine V_iload (pc := 153) dX12_walks_153 rfl ?_
  refine V_iload_n (pc := 155) dX12_walks_155 rfl ?_
  refine V_icmp_ge (tgt := 339) (pc := 156) dX12_walks_156 rfl (fun c => ?_) (fun c => ?_)
  · have h := h.1 c
    refine V_iload (pc := 339) dX12_walks_339 rfl ?_
    exact V_iret dX12_walks_341 rfl h
  · have h := h.2 c
    refine V_iconst (v := 0) (pc := 159) dX12_walks_159 rfl ?_
    refine V_istore (pc := 160) dX12_walks_160 (by decide) ?_
    refine V_aload_n (pc := 162) dX12_walks_162 rfl ?_
    refine V_aload_n (pc := 163) dX12_walks_163 rfl ?_
    refine V_getR (pc := 164) fX12_16 sM0 rfl dX12_walks_164 ?_
    refine V_iload (pc := 167) dX12_walks_167 rfl ?_
    refine V_iconst (v := 3) (pc := 169) dX12_walks_169 rfl ?_
    refine V_iload (pc := 170) dX12_walks_170 rfl ?_
    refine V_imul (pc := 172) dX12_walks_172 ?_
    refine V_iadd (pc := 173) dX12_walks_173 ?_
    refine V_iald (pc := 174) sM3 dX12_walks_174 h.1 ?_
    have h := h.2
    refine V_aload_n (pc := 175) dX12_walks_175 rfl ?_
    refine V_getR (pc := 176) fX12_16 sM0 rfl dX12_walks_176 ?_
    refine V_iload (pc := 179) dX12_walks_179 rfl ?_
    refine V_iconst (v := 3) (pc := 181) dX12_walks_181 rfl ?_
    refine V_iload (pc := 182) dX12_walks_182 rfl ?_
    refine V_imul (pc := 184) dX12_walks_184 ?_
    refine V_iadd (pc := 185) dX12_walks_185 ?_
    refine V_iconst (v := 1) (pc := 186) dX12_walks_186 rfl ?_
    refine V_iadd (pc := 187) dX12_walks_187 ?_
    refine V_iald (pc := 188) sM3 dX12_walks_188 h.1 ?_
    have h := h.2
    refine V_aload_n (pc := 189) dX12_walks_189 rfl ?_
    refine V_getR (pc := 190) fX12_16 sM0 rfl dX12_walks_190 ?_
    refine V_iload (pc := 193) dX12_walks_193 rfl ?_
    refine V_iconst (v := 3) (pc := 195) dX12_walks_195 rfl ?_
    refine V_iload (pc := 196) dX12_walks_196 rfl ?_
    refine V_imul (pc := 198) dX12_walks_198 ?_
    refine V_iadd (pc := 199) dX12_walks_199 ?_
    refine V_iconst (v := 2) (pc := 200) dX12_walks_200 rfl ?_
    refine V_iadd (pc := 201) dX12_walks_201 ?_
    refine V_iald (pc := 202) sM3 dX12_walks_202 h.1 ?_
    have h := h.2
    refine V_callVi [.int (M.1 3 (ix (v4 + (3 * v6)))), .int (M.1 3 (ix ((v4 + (3 * v6)) + 1))), .int (M.1 3 (ix ((v4 + (3 * v6)) + 2)))] (pc := 203) kX12_todayOf lX12_249 sM0 rfl rfl (Nat.le_of_ble_eq_true rfl) rfl (Nat.le_of_ble_eq_true rfl) dX12_walks_203 ?_
    refine Ci.mono h ?_
    intro x1 M1 h
    refine V_istore (pc := 206) dX12_walks_206 (by decide) ?_
    refine V_iconst (v := 0) (pc := 208) dX12_walks_208 rfl ?_
    refine V_istore (pc := 209) dX12_walks_209 (by decide) ?_
    exact V_sub h ⟨rfl, rfl, rfl, rfl, rfl, rfl, rfl, rfl, rfl, rfl, trivial⟩
theorem wp_X12_walks_211 {G : GV} {k : Nat} {M : Mem} {q : Int32 → Mem → Prop} {v1 : Int32} {v2 : Int32} {v3 : Int32} {v4 : Int32} {v5 : Int32} {v6 : Int32} {v7 : Int32} {v8 : Int32} {v9 : Int32} (h : ((v3 ≤ v9 → ((v7 = 0 → V shM G mX12_walks (k + 2) 153 [(0, .ref (G.2.1 0)), (1, .int v1), (2, .int v2), (3, .int v3), (4, .int v4), (5, .int (v5 + 0)), (6, .int (v6 + 1))] [] M (Qi q)) ∧ (¬ v7 = 0 → V shM G mX12_walks (k + 2) 153 [(0, .ref (G.2.1 0)), (1, .int v1), (2, .int v2), (3, .int v3), (4, .int v4), (5, .int (v5 + 1)), (6, .int (v6 + 1))] [] M (Qi q)))) ∧ (¬ v3 ≤ v9 → ((v7 ≠ 0 → V shM G mX12_walks (k + 2) 211 [(0, .ref (G.2.1 0)), (1, .int v1), (2, .int v2), (3, .int v3), (4, .int v4), (5, .int v5), (6, .int v6), (7, .int 1), (8, .int v8), (9, .int (v9 + 1))] [] M (Qi q)) ∧ (v7 = 0 → ((v9 = v6 → V shM G mX12_walks (k + 2) 211 [(0, .ref (G.2.1 0)), (1, .int v1), (2, .int v2), (3, .int v3), (4, .int v4), (5, .int v5), (6, .int v6), (7, .int 0), (8, .int v8), (9, .int (v9 + 1))] [] M (Qi q)) ∧ (¬ v9 = v6 → vp_in (v4 + (3 * v6)) 480 ∧ vp_in (v4 + (3 * v9)) 480 ∧ (((M.1 3 (ix (v4 + (3 * v6)))) ≠ (M.1 3 (ix (v4 + (3 * v9)))) → V shM G mX12_walks (k + 2) 211 [(0, .ref (G.2.1 0)), (1, .int v1), (2, .int v2), (3, .int v3), (4, .int v4), (5, .int v5), (6, .int v6), (7, .int 0), (8, .int v8), (9, .int (v9 + 1))] [] M (Qi q)) ∧ ((M.1 3 (ix (v4 + (3 * v6)))) = (M.1 3 (ix (v4 + (3 * v9)))) → vp_in (v4 + (3 * v9)) 480 ∧ vp_in ((v4 + (3 * v9)) + 1) 480 ∧ vp_in ((v4 + (3 * v9)) + 2) 480 ∧ Ci shM G mX12_todayOf (k + 1) [.ref (G.2.1 0), .int (M.1 3 (ix (v4 + (3 * v9)))), .int (M.1 3 (ix ((v4 + (3 * v9)) + 1))), .int (M.1 3 (ix ((v4 + (3 * v9)) + 2)))] M (fun x1 M1 => ((x1 ≠ v8 → V shM G mX12_walks (k + 2) 211 [(0, .ref (G.2.1 0)), (1, .int v1), (2, .int v2), (3, .int v3), (4, .int v4), (5, .int v5), (6, .int v6), (7, .int 0), (8, .int v8), (9, .int (v9 + 1))] [] M1 (Qi q)) ∧ (x1 = v8 → V shM G mX12_walks (k + 2) 211 [(0, .ref (G.2.1 0)), (1, .int v1), (2, .int v2), (3, .int v3), (4, .int v4), (5, .int v5), (6, .int v6), (7, .int 1), (8, .int v8), (9, .int (v9 + 1))] [] M1 (Qi q))))))))))))) : V shM G mX12_walks (k + 2) 211 [(0, .ref (G.2.1 0)), (1, .int v1), (2, .int v2), (3, .int v3), (4, .int v4), (5, .int v5), (6, .int v6), (7, .int v7), (8, .int v8), (9, .int v9)] [] M (Qi q) := by
  refine V_iload (pc := 211) dX12_walks_211 rfl ?_
  refine V_iload_n (pc := 213) dX12_walks_213 rfl ?_
  refine V_icmp_ge (tgt := 318) (pc := 214) dX12_walks_214 rfl (fun c => ?_) (fun c => ?_)
  · have h := h.1 c
    refine V_iload (pc := 318) dX12_walks_318 rfl ?_
    refine V_iload (pc := 320) dX12_walks_320 rfl ?_
    refine V_if_eq (tgt := 329) (pc := 322) dX12_walks_322 rfl (fun c => ?_) (fun c => ?_)
    · have h := h.1 c
      refine V_iconst (v := 0) (pc := 329) dX12_walks_329 rfl ?_
      refine V_iadd (pc := 330) dX12_walks_330 ?_
      refine V_istore (pc := 331) dX12_walks_331 (by decide) ?_
      refine V_iinc (pc := 333) dX12_walks_333 rfl (by decide) ?_
      refine V_goto (tgt := 153) (pc := 336) dX12_walks_336 rfl ?_
      exact V_sub h ⟨rfl, rfl, rfl, rfl, rfl, rfl, rfl, trivial⟩
    · have h := h.2 c
      refine V_iconst (v := 1) (pc := 325) dX12_walks_325 rfl ?_
      refine V_goto (tgt := 330) (pc := 326) dX12_walks_326 rfl ?_
      refine V_iadd (pc := 330) dX12_walks_330 ?_
      refine V_istore (pc := 331) dX12_walks_331 (by decide) ?_
      refine V_iinc (pc := 333) dX12_walks_333 rfl (by decide) ?_
      refine V_goto (tgt := 153) (pc := 336) dX12_walks_336 rfl ?_
      exact V_sub h ⟨rfl, rfl, rfl, rfl, rfl, rfl, rfl, trivial⟩
  · have h := h.2 c
    refine V_iload (pc := 217) dX12_walks_217 rfl ?_
    refine V_if_ne (tgt := 305) (pc := 219) dX12_walks_219 rfl (fun c => ?_) (fun c => ?_)
    · have h := h.1 c
      refine V_iconst (v := 1) (pc := 305) dX12_walks_305 rfl ?_
      refine V_goto (tgt := 310) (pc := 306) dX12_walks_306 rfl ?_
      refine V_istore (pc := 310) dX12_walks_310 (by decide) ?_
      refine V_iinc (pc := 312) dX12_walks_312 rfl (by decide) ?_
      refine V_goto (tgt := 211) (pc := 315) dX12_walks_315 rfl ?_
      exact V_sub h ⟨rfl, rfl, rfl, rfl, rfl, rfl, rfl, rfl, rfl, rfl, trivial⟩
    · have h := h.2 c
      refine V_iload (pc := 222) dX12_walks_222 rfl ?_
      refine V_iload (pc := 224) dX12_walks_224 rfl ?_
      refine V_icmp_eq (tgt := 309) (pc := 226) dX12_walks_226 rfl (fun c => ?_) (fun c => ?_)
      · have h := h.1 c
        refine V_iconst (v := 0) (pc := 309) dX12_walks_309 rfl ?_
        refine V_istore (pc := 310) dX12_walks_310 (by decide) ?_
        refine V_iinc (pc := 312) dX12_walks_312 rfl (by decide) ?_
        refine V_goto (tgt := 211) (pc := 315) dX12_walks_315 rfl ?_
        exact V_sub h ⟨rfl, rfl, rfl, rfl, rfl, rfl, rfl, rfl, rfl, rfl, trivial⟩
      · have h := h.2 c
        refine V_aload_n (pc := 229) dX12_walks_229 rfl ?_
        refine V_getR (pc := 230) fX12_16 sM0 rfl dX12_walks_230 ?_
        refine V_iload (pc := 233) dX12_walks_233 rfl ?_
        refine V_iconst (v := 3) (pc := 235) dX12_walks_235 rfl ?_
        refine V_iload (pc := 236) dX12_walks_236 rfl ?_
        refine V_imul (pc := 238) dX12_walks_238 ?_
        refine V_iadd (pc := 239) dX12_walks_239 ?_
        refine V_iald (pc := 240) sM3 dX12_walks_240 h.1 ?_
        have h := h.2
        refine V_aload_n (pc := 241) dX12_walks_241 rfl ?_
        refine V_getR (pc := 242) fX12_16 sM0 rfl dX12_walks_242 ?_
        refine V_iload (pc := 245) dX12_walks_245 rfl ?_
        refine V_iconst (v := 3) (pc := 247) dX12_walks_247 rfl ?_
        refine V_iload (pc := 248) dX12_walks_248 rfl ?_
        refine V_imul (pc := 250) dX12_walks_250 ?_
        refine V_iadd (pc := 251) dX12_walks_251 ?_
        refine V_iald (pc := 252) sM3 dX12_walks_252 h.1 ?_
        have h := h.2
        refine V_icmp_ne (tgt := 309) (pc := 253) dX12_walks_253 rfl (fun c => ?_) (fun c => ?_)
        · have h := h.1 c
          refine V_iconst (v := 0) (pc := 309) dX12_walks_309 rfl ?_
          refine V_istore (pc := 310) dX12_walks_310 (by decide) ?_
          refine V_iinc (pc := 312) dX12_walks_312 rfl (by decide) ?_
          refine V_goto (tgt := 211) (pc := 315) dX12_walks_315 rfl ?_
          exact V_sub h ⟨rfl, rfl, rfl, rfl, rfl, rfl, rfl, rfl, rfl, rfl, trivial⟩
        · have h := h.2 c
          refine V_aload_n (pc := 256) dX12_walks_256 rfl ?_
          refine V_aload_n (pc := 257) dX12_walks_257 rfl ?_
          refine V_getR (pc := 258) fX12_16 sM0 rfl dX12_walks_258 ?_
          refine V_iload (pc := 261) dX12_walks_261 rfl ?_
          refine V_iconst (v := 3) (pc := 263) dX12_walks_263 rfl ?_
          refine V_iload (pc := 264) dX12_walks_264 rfl ?_
          refine V_imul (pc := 266) dX12_walks_266 ?_
          refine V_iadd (pc := 267) dX12_walks_267 ?_
          refine V_iald (pc := 268) sM3 dX12_walks_268 h.1 ?_
          have h := h.2
          refine V_aload_n (pc := 269) dX12_walks_269 rfl ?_
          refine V_getR (pc := 270) fX12_16 sM0 rfl dX12_walks_270 ?_
          refine V_iload (pc := 273) dX12_walks_273 rfl ?_
          refine V_iconst (v := 3) (pc := 275) dX12_walks_275 rfl ?_
          refine V_iload (pc := 276) dX12_walks_276 rfl ?_
          refine V_imul (pc := 278) dX12_walks_278 ?_
          refine V_iadd (pc := 279) dX12_walks_279 ?_
          refine V_iconst (v := 1) (pc := 280) dX12_walks_280 rfl ?_
          refine V_iadd (pc := 281) dX12_walks_281 ?_
          refine V_iald (pc := 282) sM3 dX12_walks_282 h.1 ?_
          have h := h.2
          refine V_aload_n (pc := 283) dX12_walks_283 rfl ?_
          refine V_getR (pc := 284) fX12_16 sM0 rfl dX12_walks_284 ?_
          refine V_iload (pc := 287) dX12_walks_287 rfl ?_
          refine V_iconst (v := 3) (pc := 289) dX12_walks_289 rfl ?_
          refine V_iload (pc := 290) dX12_walks_290 rfl ?_
          refine V_imul (pc := 292) dX12_walks_292 ?_
          refine V_iadd (pc := 293) dX12_walks_293 ?_
          refine V_iconst (v := 2) (pc := 294) dX12_walks_294 rfl ?_
          refine V_iadd (pc := 295) dX12_walks_295 ?_
          refine V_iald (pc := 296) sM3 dX12_walks_296 h.1 ?_
          have h := h.2
          refine V_callVi [.int (M.1 3 (ix (v4 + (3 * v9)))), .int (M.1 3 (ix ((v4 + (3 * v9)) + 1))), .int (M.1 3 (ix ((v4 + (3 * v9)) + 2)))] (pc := 297) kX12_todayOf lX12_249 sM0 rfl rfl (Nat.le_of_ble_eq_true rfl) rfl (Nat.le_of_ble_eq_true rfl) dX12_walks_297 ?_
          refine Ci.mono h ?_
          intro x1 M1 h
          refine V_iload (pc := 300) dX12_walks_300 rfl ?_
          refine V_icmp_ne (tgt := 309) (pc := 302) dX12_walks_302 rfl (fun c => ?_) (fun c => ?_)
          · have h := h.1 c
            refine V_iconst (v := 0) (pc := 309) dX12_walks_309 rfl ?_
            refine V_istore (pc := 310) dX12_walks_310 (by decide) ?_
            refine V_iinc (pc := 312) dX12_walks_312 rfl (by decide) ?_
            refine V_goto (tgt := 211) (pc := 315) dX12_walks_315 rfl ?_
            exact V_sub h ⟨rfl, rfl, rfl, rfl, rfl, rfl, rfl, rfl, rfl, rfl, trivial⟩
          · have h := h.2 c
            refine V_iconst (v := 1) (pc := 305) dX12_walks_305 rfl ?_
            refine V_goto (tgt := 310) (pc := 306) dX12_walks_306 rfl ?_
            refine V_istore (pc := 310) dX12_walks_310 (by decide) ?_
            refine V_iinc (pc := 312) dX12_walks_312 rfl (by decide) ?_
            refine V_goto (tgt := 211) (pc := 315) dX12_walks_315 rfl ?_
            exact V_sub h ⟨rfl, rfl, rfl, rfl, rfl, rfl, rfl, rfl, rfl, rfl, trivial⟩
theorem wp_X12_count {G : GV} {k : Nat} {M : Mem} {q : Int32 → Mem → Prop} {v1 : Int32} (h : (((v1).toInt = 0 → V shM G mX12_count (k + 3) 58 [(0, .ref (G.2.1 0)), (1, .int v1), (2, .int 0), (3, .int 0)] [] (mset M 0 0 0) (Qi q)) ∧ ((v1).toInt = 1 → q (M.1 0 5) (mset M 0 0 0)) ∧ ((v1).toInt = 2 → q (M.1 0 10) (mset M 0 0 0)) ∧ ((v1).toInt = 3 → q (M.1 0 18) (mset M 0 0 0)) ∧ ((v1).toInt = 4 → q (M.1 0 23) (mset M 0 0 0)) ∧ ((v1).toInt = 5 → V shM G mX12_count (k + 3) 111 [(0, .ref (G.2.1 0)), (1, .int v1), (2, .int 0), (3, .int 0)] [] (mset M 0 0 0) (Qi q)) ∧ ((v1).toInt = 6 → V shM G mX12_count (k + 3) 111 [(0, .ref (G.2.1 0)), (1, .int v1), (2, .int 0), (3, .int 0)] [] (mset M 0 0 0) (Qi q)) ∧ ((v1).toInt = 7 → q (M.1 0 29) (mset M 0 0 0)) ∧ (((v1).toInt < 0 ∨ 7 < (v1).toInt) → q (-1000001) (mset M 0 0 0)))) : Ci shM G mX12_count (k + 3) [.ref (G.2.1 0), .int v1] M q := by
  unfold Ci
  show V _ _ _ _ _ [(0, .ref (G.2.1 0)), (1, .int v1)] _ _ _
  refine V_aload_n (pc := 0) dX12_count_0 rfl ?_
  refine V_iconst (v := 0) (pc := 1) dX12_count_1 rfl ?_
  refine V_putI (pc := 2) fX12_108 p12_0 sM0 rfl dX12_count_2 ?_
  refine V_iconst (v := 0) (pc := 5) dX12_count_5 rfl ?_
  refine V_istore_n (pc := 6) dX12_count_6 (by decide) ?_
  refine V_iload_n (pc := 7) dX12_count_7 rfl ?_
  refine V_table (tgt := 169) (pc := 8) dX12_count_8 rfl rfl rfl ⟨fun c => ?_, fun c => ?_, fun c => ?_, fun c => ?_, fun c => ?_, fun c => ?_, fun c => ?_, fun c => ?_, trivial⟩ (fun c => ?_)
  · have h := h.1 c
    show V _ _ _ _ 56 _ _ _ _
    refine V_iconst (v := 0) (pc := 56) dX12_count_56 rfl ?_
    refine V_istore_n (pc := 57) dX12_count_57 (by decide) ?_
    exact V_sub h ⟨rfl, rfl, rfl, rfl, trivial⟩
  · have h := h.2.1 c
    show V _ _ _ _ 89 _ _ _ _
    refine V_aload_n (pc := 89) dX12_count_89 rfl ?_
    refine V_getI (pc := 90) fX12_224 sM0 rfl dX12_count_90 ?_
    refine V_top (v := (M.1 0 5)) (by simp [mset, lset, upd]) ?_
    exact V_iret dX12_count_93 rfl h
  · have h := h.2.2.1 c
    show V _ _ _ _ 94 _ _ _ _
    refine V_aload_n (pc := 94) dX12_count_94 rfl ?_
    refine V_getI (pc := 95) fX12_227 sM0 rfl dX12_count_95 ?_
    refine V_top (v := (M.1 0 10)) (by simp [mset, lset, upd]) ?_
    exact V_iret dX12_count_98 rfl h
  · have h := h.2.2.2.1 c
    show V _ _ _ _ 99 _ _ _ _
    refine V_aload_n (pc := 99) dX12_count_99 rfl ?_
    refine V_getI (pc := 100) fX12_230 sM0 rfl dX12_count_100 ?_
    refine V_top (v := (M.1 0 18)) (by simp [mset, lset, upd]) ?_
    exact V_iret dX12_count_103 rfl h
  · have h := h.2.2.2.2.1 c
    show V _ _ _ _ 104 _ _ _ _
    refine V_aload_n (pc := 104) dX12_count_104 rfl ?_
    refine V_getI (pc := 105) fX12_233 sM0 rfl dX12_count_105 ?_
    refine V_top (v := (M.1 0 23)) (by simp [mset, lset, upd]) ?_
    exact V_iret dX12_count_108 rfl h
  · have h := h.2.2.2.2.2.1 c
    show V _ _ _ _ 109 _ _ _ _
    refine V_iconst (v := 0) (pc := 109) dX12_count_109 rfl ?_
    refine V_istore_n (pc := 110) dX12_count_110 (by decide) ?_
    exact V_sub h ⟨rfl, rfl, rfl, rfl, trivial⟩
  · have h := h.2.2.2.2.2.2.1 c
    show V _ _ _ _ 109 _ _ _ _
    refine V_iconst (v := 0) (pc := 109) dX12_count_109 rfl ?_
    refine V_istore_n (pc := 110) dX12_count_110 (by decide) ?_
    exact V_sub h ⟨rfl, rfl, rfl, rfl, trivial⟩
  · have h := h.2.2.2.2.2.2.2.1 c
    show V _ _ _ _ 164 _ _ _ _
    refine V_aload_n (pc := 164) dX12_count_164 rfl ?_
    refine V_getI (pc := 165) fX12_135 sM0 rfl dX12_count_165 ?_
    refine V_top (v := (M.1 0 29)) (by simp [mset, lset, upd]) ?_
    exact V_iret dX12_count_168 rfl h
  · have h := h.2.2.2.2.2.2.2.2 c
    refine V_ldc (pc := 169) dX12_count_169 nX12_128 ?_
    exact V_iret dX12_count_171 rfl h
theorem wp_X12_count_58 {G : GV} {k : Nat} {M : Mem} {q : Int32 → Mem → Prop} {v1 : Int32} {v2 : Int32} {v3 : Int32} (h : ((8 ≤ v3 → q v2 M) ∧ (¬ 8 ≤ v3 → vp_in v3 8 ∧ (((M.1 1 (ix v3)) < 0 → V shM G mX12_count (k + 3) 58 [(0, .ref (G.2.1 0)), (1, .int v1), (2, .int (v2 + 0)), (3, .int (v3 + 1))] [] M (Qi q)) ∧ (¬ (M.1 1 (ix v3)) < 0 → V shM G mX12_count (k + 3) 58 [(0, .ref (G.2.1 0)), (1, .int v1), (2, .int (v2 + 1)), (3, .int (v3 + 1))] [] M (Qi q)))))) : V shM G mX12_count (k + 3) 58 [(0, .ref (G.2.1 0)), (1, .int v1), (2, .int v2), (3, .int v3)] [] M (Qi q) := by
  refine V_iload_n (pc := 58) dX12_count_58 rfl ?_
  refine V_bipush (v := 8) (pc := 59) dX12_count_59 rfl ?_
  refine V_icmp_ge (tgt := 87) (pc := 61) dX12_count_61 rfl (fun c => ?_) (fun c => ?_)
  · have h := h.1 c
    refine V_iload_n (pc := 87) dX12_count_87 rfl ?_
    exact V_iret dX12_count_88 rfl h
  · have h := h.2 c
    refine V_iload_n (pc := 64) dX12_count_64 rfl ?_
    refine V_aload_n (pc := 65) dX12_count_65 rfl ?_
    refine V_getR (pc := 66) fX12_7 sM0 rfl dX12_count_66 ?_
    refine V_iload_n (pc := 69) dX12_count_69 rfl ?_
    refine V_iald (pc := 70) sM1 dX12_count_70 h.1 ?_
    have h := h.2
    refine V_if_lt (tgt := 78) (pc := 71) dX12_count_71 rfl (fun c => ?_) (fun c => ?_)
    · have h := h.1 c
      refine V_iconst (v := 0) (pc := 78) dX12_count_78 rfl ?_
      refine V_iadd (pc := 79) dX12_count_79 ?_
      refine V_istore_n (pc := 80) dX12_count_80 (by decide) ?_
      refine V_iinc (pc := 81) dX12_count_81 rfl (by decide) ?_
      refine V_goto (tgt := 58) (pc := 84) dX12_count_84 rfl ?_
      exact V_sub h ⟨rfl, rfl, rfl, rfl, trivial⟩
    · have h := h.2 c
      refine V_iconst (v := 1) (pc := 74) dX12_count_74 rfl ?_
      refine V_goto (tgt := 79) (pc := 75) dX12_count_75 rfl ?_
      refine V_iadd (pc := 79) dX12_count_79 ?_
      refine V_istore_n (pc := 80) dX12_count_80 (by decide) ?_
      refine V_iinc (pc := 81) dX12_count_81 rfl (by decide) ?_
      refine V_goto (tgt := 58) (pc := 84) dX12_count_84 rfl ?_
      exact V_sub h ⟨rfl, rfl, rfl, rfl, trivial⟩
theorem wp_X12_count_111 {G : GV} {k : Nat} {M : Mem} {q : Int32 → Mem → Prop} {v1 : Int32} {v2 : Int32} {v3 : Int32} (h : (((M.1 0 10) ≤ v3 → q v2 M) ∧ (¬ (M.1 0 10) ≤ v3 → ((v1 ≠ 5 → Ci shM G mX12_isHomeless (k + 2) [.ref (G.2.1 0), .int v3] M (fun x1 M1 => ((x1 = 0 → V shM G mX12_count (k + 3) 111 [(0, .ref (G.2.1 0)), (1, .int v1), (2, .int (v2 + 0)), (3, .int (v3 + 1))] [] M1 (Qi q)) ∧ (¬ x1 = 0 → V shM G mX12_count (k + 3) 111 [(0, .ref (G.2.1 0)), (1, .int v1), (2, .int (v2 + 1)), (3, .int (v3 + 1))] [] M1 (Qi q))))) ∧ (v1 = 5 → Ci shM G mX12_isHome (k + 2) [.ref (G.2.1 0), .int v3] M (fun x2 M2 => ((x2 = 0 → V shM G mX12_count (k + 3) 111 [(0, .ref (G.2.1 0)), (1, .int v1), (2, .int (v2 + 0)), (3, .int (v3 + 1))] [] M2 (Qi q)) ∧ (¬ x2 = 0 → V shM G mX12_count (k + 3) 111 [(0, .ref (G.2.1 0)), (1, .int v1), (2, .int (v2 + 1)), (3, .int (v3 + 1))] [] M2 (Qi q))))))))) : V shM G mX12_count (k + 3) 111 [(0, .ref (G.2.1 0)), (1, .int v1), (2, .int v2), (3, .int v3)] [] M (Qi q) := by
  refine V_iload_n (pc := 111) dX12_count_111 rfl ?_
  refine V_aload_n (pc := 112) dX12_count_112 rfl ?_
  refine V_getI (pc := 113) fX12_227 sM0 rfl dX12_count_113 ?_
  refine V_icmp_ge (tgt := 162) (pc := 116) dX12_count_116 rfl (fun c => ?_) (fun c => ?_)
  · have h := h.1 c
    refine V_iload_n (pc := 162) dX12_count_162 rfl ?_
    exact V_iret dX12_count_163 rfl h
  · have h := h.2 c
    refine V_iload_n (pc := 119) dX12_count_119 rfl ?_
    refine V_iload_n (pc := 120) dX12_count_120 rfl ?_
    refine V_iconst (v := 5) (pc := 121) dX12_count_121 rfl ?_
    refine V_icmp_ne (tgt := 141) (pc := 122) dX12_count_122 rfl (fun c => ?_) (fun c => ?_)
    · have h := h.1 c
      refine V_aload_n (pc := 141) dX12_count_141 rfl ?_
      refine V_iload_n (pc := 142) dX12_count_142 rfl ?_
      refine V_callVi [.int v3] (pc := 143) kX12_isHomeless lX12_258 sM0 rfl rfl (Nat.le_of_ble_eq_true rfl) rfl (Nat.le_of_ble_eq_true rfl) dX12_count_143 ?_
      refine Ci.mono h ?_
      intro x1 M1 h
      refine V_if_eq (tgt := 153) (pc := 146) dX12_count_146 rfl (fun c => ?_) (fun c => ?_)
      · have h := h.1 c
        refine V_iconst (v := 0) (pc := 153) dX12_count_153 rfl ?_
        refine V_iadd (pc := 154) dX12_count_154 ?_
        refine V_istore_n (pc := 155) dX12_count_155 (by decide) ?_
        refine V_iinc (pc := 156) dX12_count_156 rfl (by decide) ?_
        refine V_goto (tgt := 111) (pc := 159) dX12_count_159 rfl ?_
        exact V_sub h ⟨rfl, rfl, rfl, rfl, trivial⟩
      · have h := h.2 c
        refine V_iconst (v := 1) (pc := 149) dX12_count_149 rfl ?_
        refine V_goto (tgt := 154) (pc := 150) dX12_count_150 rfl ?_
        refine V_iadd (pc := 154) dX12_count_154 ?_
        refine V_istore_n (pc := 155) dX12_count_155 (by decide) ?_
        refine V_iinc (pc := 156) dX12_count_156 rfl (by decide) ?_
        refine V_goto (tgt := 111) (pc := 159) dX12_count_159 rfl ?_
        exact V_sub h ⟨rfl, rfl, rfl, rfl, trivial⟩
    · have h := h.2 c
      refine V_aload_n (pc := 125) dX12_count_125 rfl ?_
      refine V_iload_n (pc := 126) dX12_count_126 rfl ?_
      refine V_callVi [.int v3] (pc := 127) kX12_isHome lX12_292 sM0 rfl rfl (Nat.le_of_ble_eq_true rfl) rfl (Nat.le_of_ble_eq_true rfl) dX12_count_127 ?_
      refine Ci.mono h ?_
      intro x2 M2 h
      refine V_if_eq (tgt := 137) (pc := 130) dX12_count_130 rfl (fun c => ?_) (fun c => ?_)
      · have h := h.1 c
        refine V_iconst (v := 0) (pc := 137) dX12_count_137 rfl ?_
        refine V_goto (tgt := 154) (pc := 138) dX12_count_138 rfl ?_
        refine V_iadd (pc := 154) dX12_count_154 ?_
        refine V_istore_n (pc := 155) dX12_count_155 (by decide) ?_
        refine V_iinc (pc := 156) dX12_count_156 rfl (by decide) ?_
        refine V_goto (tgt := 111) (pc := 159) dX12_count_159 rfl ?_
        exact V_sub h ⟨rfl, rfl, rfl, rfl, trivial⟩
      · have h := h.2 c
        refine V_iconst (v := 1) (pc := 133) dX12_count_133 rfl ?_
        refine V_goto (tgt := 154) (pc := 134) dX12_count_134 rfl ?_
        refine V_iadd (pc := 154) dX12_count_154 ?_
        refine V_istore_n (pc := 155) dX12_count_155 (by decide) ?_
        refine V_iinc (pc := 156) dX12_count_156 rfl (by decide) ?_
        refine V_goto (tgt := 111) (pc := 159) dX12_count_159 rfl ?_
        exact V_sub h ⟨rfl, rfl, rfl, rfl, trivial⟩
theorem wp_X12_line {G : GV} {k : Nat} {M : Mem} {q : Int32 → Mem → Prop} {v1 : Int32} {v2 : Int32} (h : Ci shM G mX12_isLine (k + 2) [.ref (G.2.1 0), .int v1] (mset M 0 0 0) (fun x1 M1 => ((x1 = 0 → q (-1000001) M1) ∧ (¬ x1 = 0 → Ci shM G mX12_in (k + 2) [.long (Int32.toInt64 v2), .long 0, .long 8] M1 (fun x2 M2 => ((x2 ≠ 0 → (((v2).toInt = 0 → vp_in v1 12 ∧ q (M2.1 8 (ix v1)) M2) ∧ ((v2).toInt = 1 → vp_in v1 12 ∧ q (M2.1 9 (ix v1)) M2) ∧ ((v2).toInt = 2 → vp_in v1 12 ∧ q (M2.1 10 (ix v1)) M2) ∧ ((v2).toInt = 3 → vp_in v1 12 ∧ q (M2.1 11 (ix v1)) M2) ∧ ((v2).toInt = 4 → vp_in v1 12 ∧ q (M2.1 12 (ix v1)) M2) ∧ ((v2).toInt = 5 → Ci shM G mX12_gathered (k + 2) [.ref (G.2.1 0), .int v1] M2 (fun x3 M3 => q x3 M3)) ∧ ((v2).toInt = 6 → Ci shM G mX12_doorOf (k + 2) [.ref (G.2.1 0), .int v1] M2 (fun x4 M4 => q x4 M4)) ∧ ((v2).toInt = 7 → Ci shM G mX12_isHomeless (k + 2) [.ref (G.2.1 0), .int v1] M2 (fun x5 M5 => ((x5 = 0 → q 0 M5) ∧ (¬ x5 = 0 → q 1 M5)))) ∧ (((v2).toInt < 0 ∨ 7 < (v2).toInt) → vp_in v1 12 ∧ q (M2.1 13 (ix v1)) M2))) ∧ (x2 = 0 → q (-1000001) M2))))))) : Ci shM G mX12_line (k + 3) [.ref (G.2.1 0), .int v1, .int v2] M q := by
  unfold Ci
  show V _ _ _ _ _ [(0, .ref (G.2.1 0)), (1, .int v1), (2, .int v2)] _ _ _
  refine V_aload_n (pc := 0) dX12_line_0 rfl ?_
  refine V_iconst (v := 0) (pc := 1) dX12_line_1 rfl ?_
  refine V_putI (pc := 2) fX12_108 p12_0 sM0 rfl dX12_line_2 ?_
  refine V_aload_n (pc := 5) dX12_line_5 rfl ?_
  refine V_iload_n (pc := 6) dX12_line_6 rfl ?_
  refine V_callVi [.int v1] (pc := 7) kX12_isLine lX12_255 sM0 rfl rfl (Nat.le_of_ble_eq_true rfl) rfl (Nat.le_of_ble_eq_true rfl) dX12_line_7 ?_
  refine Ci.mono h ?_
  intro x1 M1 h
  refine V_if_eq (tgt := 25) (pc := 10) dX12_line_10 rfl (fun c => ?_) (fun c => ?_)
  · have h := h.1 c
    refine V_ldc (pc := 25) dX12_line_25 nX12_128 ?_
    exact V_iret dX12_line_27 rfl h
  · have h := h.2 c
    refine V_iload_n (pc := 13) dX12_line_13 rfl ?_
    refine V_i2l (pc := 14) dX12_line_14 ?_
    refine V_lconst (v := 0) (pc := 15) dX12_line_15 rfl ?_
    refine V_ldc2 (pc := 16) dX12_line_16 nX12_133 ?_
    refine V_callSi [.long (Int32.toInt64 v2), .long 0, .long 8] (pc := 19) kX12_in lX12_118 rfl (Nat.le_of_ble_eq_true rfl) rfl (Nat.le_of_ble_eq_true rfl) dX12_line_19 ?_
    refine Ci.mono h ?_
    intro x2 M2 h
    refine V_if_ne (tgt := 28) (pc := 22) dX12_line_22 rfl (fun c => ?_) (fun c => ?_)
    · have h := h.1 c
      refine V_iload_n (pc := 28) dX12_line_28 rfl ?_
      refine V_table (tgt := 137) (pc := 29) dX12_line_29 rfl rfl rfl ⟨fun c => ?_, fun c => ?_, fun c => ?_, fun c => ?_, fun c => ?_, fun c => ?_, fun c => ?_, fun c => ?_, trivial⟩ (fun c => ?_)
      · have h := h.1 c
        show V _ _ _ _ 76 _ _ _ _
        refine V_aload_n (pc := 76) dX12_line_76 rfl ?_
        refine V_getR (pc := 77) fX12_32 sM0 rfl dX12_line_77 ?_
        refine V_iload_n (pc := 80) dX12_line_80 rfl ?_
        refine V_iald (pc := 81) sM8 dX12_line_81 h.1 ?_
        have h := h.2
        exact V_iret dX12_line_82 rfl h
      · have h := h.2.1 c
        show V _ _ _ _ 83 _ _ _ _
        refine V_aload_n (pc := 83) dX12_line_83 rfl ?_
        refine V_getR (pc := 84) fX12_35 sM0 rfl dX12_line_84 ?_
        refine V_iload_n (pc := 87) dX12_line_87 rfl ?_
        refine V_iald (pc := 88) sM9 dX12_line_88 h.1 ?_
        have h := h.2
        exact V_iret dX12_line_89 rfl h
      · have h := h.2.2.1 c
        show V _ _ _ _ 90 _ _ _ _
        refine V_aload_n (pc := 90) dX12_line_90 rfl ?_
        refine V_getR (pc := 91) fX12_38 sM0 rfl dX12_line_91 ?_
        refine V_iload_n (pc := 94) dX12_line_94 rfl ?_
        refine V_iald (pc := 95) sM10 dX12_line_95 h.1 ?_
        have h := h.2
        exact V_iret dX12_line_96 rfl h
      · have h := h.2.2.2.1 c
        show V _ _ _ _ 97 _ _ _ _
        refine V_aload_n (pc := 97) dX12_line_97 rfl ?_
        refine V_getR (pc := 98) fX12_41 sM0 rfl dX12_line_98 ?_
        refine V_iload_n (pc := 101) dX12_line_101 rfl ?_
        refine V_iald (pc := 102) sM11 dX12_line_102 h.1 ?_
        have h := h.2
        exact V_iret dX12_line_103 rfl h
      · have h := h.2.2.2.2.1 c
        show V _ _ _ _ 104 _ _ _ _
        refine V_aload_n (pc := 104) dX12_line_104 rfl ?_
        refine V_getR (pc := 105) fX12_44 sM0 rfl dX12_line_105 ?_
        refine V_iload_n (pc := 108) dX12_line_108 rfl ?_
        refine V_iald (pc := 109) sM12 dX12_line_109 h.1 ?_
        have h := h.2
        exact V_iret dX12_line_110 rfl h
      · have h := h.2.2.2.2.2.1 c
        show V _ _ _ _ 111 _ _ _ _
        refine V_aload_n (pc := 111) dX12_line_111 rfl ?_
        refine V_iload_n (pc := 112) dX12_line_112 rfl ?_
        refine V_callVi [.int v1] (pc := 113) kX12_gathered lX12_246 sM0 rfl rfl (Nat.le_of_ble_eq_true rfl) rfl (Nat.le_of_ble_eq_true rfl) dX12_line_113 ?_
        refine Ci.mono h ?_
        intro x3 M3 h
        exact V_iret dX12_line_116 rfl h
      · have h := h.2.2.2.2.2.2.1 c
        show V _ _ _ _ 117 _ _ _ _
        refine V_aload_n (pc := 117) dX12_line_117 rfl ?_
        refine V_iload_n (pc := 118) dX12_line_118 rfl ?_
        refine V_callVi [.int v1] (pc := 119) kX12_doorOf lX12_252 sM0 rfl rfl (Nat.le_of_ble_eq_true rfl) rfl (Nat.le_of_ble_eq_true rfl) dX12_line_119 ?_
        refine Ci.mono h ?_
        intro x4 M4 h
        exact V_iret dX12_line_122 rfl h
      · have h := h.2.2.2.2.2.2.2.1 c
        show V _ _ _ _ 123 _ _ _ _
        refine V_aload_n (pc := 123) dX12_line_123 rfl ?_
        refine V_iload_n (pc := 124) dX12_line_124 rfl ?_
        refine V_callVi [.int v1] (pc := 125) kX12_isHomeless lX12_258 sM0 rfl rfl (Nat.le_of_ble_eq_true rfl) rfl (Nat.le_of_ble_eq_true rfl) dX12_line_125 ?_
        refine Ci.mono h ?_
        intro x5 M5 h
        refine V_if_eq (tgt := 135) (pc := 128) dX12_line_128 rfl (fun c => ?_) (fun c => ?_)
        · have h := h.1 c
          refine V_iconst (v := 0) (pc := 135) dX12_line_135 rfl ?_
          exact V_iret dX12_line_136 rfl h
        · have h := h.2 c
          refine V_iconst (v := 1) (pc := 131) dX12_line_131 rfl ?_
          refine V_goto (tgt := 136) (pc := 132) dX12_line_132 rfl ?_
          exact V_iret dX12_line_136 rfl h
      · have h := h.2.2.2.2.2.2.2.2 c
        refine V_aload_n (pc := 137) dX12_line_137 rfl ?_
        refine V_getR (pc := 138) fX12_47 sM0 rfl dX12_line_138 ?_
        refine V_iload_n (pc := 141) dX12_line_141 rfl ?_
        refine V_iald (pc := 142) sM13 dX12_line_142 h.1 ?_
        have h := h.2
        exact V_iret dX12_line_143 rfl h
    · have h := h.2 c
      refine V_ldc (pc := 25) dX12_line_25 nX12_128 ?_
      exact V_iret dX12_line_27 rfl h
theorem wp_X12_match {G : GV} {k : Nat} {M : Mem} {q : Mem → Prop} {v1 : Int32} {v2 : Int32} {v3 : Int32} (h : Ci shM G mX12_sorted (k + 2) [.ref (G.2.1 0), .int v1, .int v2, .ref (G.2.1 29)] M (fun x1 M1 => Ci shM G mX12_sorted (k + 2) [.ref (G.2.1 0), .int v1, .int v3, .ref (G.2.1 30)] (mset M1 0 47 x1) (fun x2 M2 => V shM G mX12_match (k + 3) 31 [(0, .ref (G.2.1 0)), (1, .int v1), (2, .int v2), (3, .int v3), (4, .int 0)] [] (mset M2 0 48 x2) (Qv q)))) : Cv shM G mX12_match (k + 3) [.ref (G.2.1 0), .int v1, .int v2, .int v3] M q := by
  unfold Cv
  show V _ _ _ _ _ [(0, .ref (G.2.1 0)), (1, .int v1), (2, .int v2), (3, .int v3)] _ _ _
  refine V_aload_n (pc := 0) dX12_match_0 rfl ?_
  refine V_aload_n (pc := 1) dX12_match_1 rfl ?_
  refine V_iload_n (pc := 2) dX12_match_2 rfl ?_
  refine V_iload_n (pc := 3) dX12_match_3 rfl ?_
  refine V_aload_n (pc := 4) dX12_match_4 rfl ?_
  refine V_getR (pc := 5) fX12_96 sM0 rfl dX12_match_5 ?_
  refine V_callVi [.int v1, .int v2, .ref (G.2.1 29)] (pc := 8) kX12_sorted lX12_320 sM0 rfl rfl (Nat.le_of_ble_eq_true rfl) rfl (Nat.le_of_ble_eq_true rfl) dX12_match_8 ?_
  refine Ci.mono h ?_
  intro x1 M1 h
  refine V_putI (pc := 11) fX12_324 p12_47 sM0 rfl dX12_match_11 ?_
  refine V_aload_n (pc := 14) dX12_match_14 rfl ?_
  refine V_aload_n (pc := 15) dX12_match_15 rfl ?_
  refine V_iload_n (pc := 16) dX12_match_16 rfl ?_
  refine V_iload_n (pc := 17) dX12_match_17 rfl ?_
  refine V_aload_n (pc := 18) dX12_match_18 rfl ?_
  refine V_getR (pc := 19) fX12_99 sM0 rfl dX12_match_19 ?_
  refine V_callVi [.int v1, .int v3, .ref (G.2.1 30)] (pc := 22) kX12_sorted lX12_320 sM0 rfl rfl (Nat.le_of_ble_eq_true rfl) rfl (Nat.le_of_ble_eq_true rfl) dX12_match_22 ?_
  refine Ci.mono h ?_
  intro x2 M2 h
  refine V_putI (pc := 25) fX12_327 p12_48 sM0 rfl dX12_match_25 ?_
  refine V_iconst (v := 0) (pc := 28) dX12_match_28 rfl ?_
  refine V_istore (pc := 29) dX12_match_29 (by decide) ?_
  exact V_sub h ⟨rfl, rfl, rfl, rfl, rfl, trivial⟩
theorem wp_X12_match_31 {G : GV} {k : Nat} {M : Mem} {q : Mem → Prop} {v1 : Int32} {v2 : Int32} {v3 : Int32} {v4 : Int32} (h : ((169 ≤ v4 → V shM G mX12_match (k + 3) 61 [(0, .ref (G.2.1 0)), (1, .int v1), (2, .int v2), (3, .int v3), (4, .int ((M.1 0 47) - 1))] [] M (Qv q)) ∧ (¬ 169 ≤ v4 → vp_in v4 169 ∧ V shM G mX12_match (k + 3) 31 [(0, .ref (G.2.1 0)), (1, .int v1), (2, .int v2), (3, .int v3), (4, .int (v4 + 1))] [] (mset M 31 (ix v4) 0) (Qv q)))) : V shM G mX12_match (k + 3) 31 [(0, .ref (G.2.1 0)), (1, .int v1), (2, .int v2), (3, .int v3), (4, .int v4)] [] M (Qv q) := by
  refine V_iload (pc := 31) dX12_match_31 rfl ?_
  refine V_sipush (v := 169) (pc := 33) dX12_match_33 rfl ?_
  refine V_icmp_ge (tgt := 53) (pc := 36) dX12_match_36 rfl (fun c => ?_) (fun c => ?_)
  · have h := h.1 c
    refine V_aload_n (pc := 53) dX12_match_53 rfl ?_
    refine V_getI (pc := 54) fX12_324 sM0 rfl dX12_match_54 ?_
    refine V_iconst (v := 1) (pc := 57) dX12_match_57 rfl ?_
    refine V_isub (pc := 58) dX12_match_58 ?_
    refine V_istore (pc := 59) dX12_match_59 (by decide) ?_
    exact V_sub h ⟨rfl, rfl, rfl, rfl, rfl, trivial⟩
  · have h := h.2 c
    refine V_aload_n (pc := 39) dX12_match_39 rfl ?_
    refine V_getR (pc := 40) fX12_102 sM0 rfl dX12_match_40 ?_
    refine V_iload (pc := 43) dX12_match_43 rfl ?_
    refine V_iconst (v := 0) (pc := 45) dX12_match_45 rfl ?_
    refine V_iast (pc := 46) sM31 dX12_match_46 h.1 ?_
    have h := h.2
    refine V_iinc (pc := 47) dX12_match_47 rfl (by decide) ?_
    refine V_goto (tgt := 31) (pc := 50) dX12_match_50 rfl ?_
    exact V_sub h ⟨rfl, rfl, rfl, rfl, rfl, trivial⟩
theorem wp_X12_match_61 {G : GV} {k : Nat} {M : Mem} {q : Mem → Prop} {v1 : Int32} {v2 : Int32} {v3 : Int32} {v4 : Int32} (h : ((v4 < 0 → q M) ∧ (¬ v4 < 0 → V shM G mX12_match (k + 3) 74 [(0, .ref (G.2.1 0)), (1, .int v1), (2, .int v2), (3, .int v3), (4, .int v4), (5, .int ((M.1 0 48) - 1))] [] M (Qv q)))) : V shM G mX12_match (k + 3) 61 [(0, .ref (G.2.1 0)), (1, .int v1), (2, .int v2), (3, .int v3), (4, .int v4)] [] M (Qv q) := by
  refine V_iload (pc := 61) dX12_match_61 rfl ?_
  refine V_if_lt (tgt := 233) (pc := 63) dX12_match_63 rfl (fun c => ?_) (fun c => ?_)
  · have h := h.1 c
    exact V_vret dX12_match_233 rfl h
  · have h := h.2 c
    refine V_aload_n (pc := 66) dX12_match_66 rfl ?_
    refine V_getI (pc := 67) fX12_327 sM0 rfl dX12_match_67 ?_
    refine V_iconst (v := 1) (pc := 70) dX12_match_70 rfl ?_
    refine V_isub (pc := 71) dX12_match_71 ?_
    refine V_istore (pc := 72) dX12_match_72 (by decide) ?_
    exact V_sub h ⟨rfl, rfl, rfl, rfl, rfl, rfl, trivial⟩
theorem wp_X12_match_74 {G : GV} {k : Nat} {M : Mem} {q : Mem → Prop} {v1 : Int32} {v2 : Int32} {v3 : Int32} {v4 : Int32} {v5 : Int32} (h : ((v5 < 0 → V shM G mX12_match (k + 3) 61 [(0, .ref (G.2.1 0)), (1, .int v1), (2, .int v2), (3, .int v3), (4, .int (v4 + (-1)))] [] M (Qv q)) ∧ (¬ v5 < 0 → vp_in (((13 * v4) + 13) + v5) 169 ∧ vp_in (((13 * v4) + v5) + 1) 169 ∧ (((M.1 31 (ix (((13 * v4) + 13) + v5))) ≤ (M.1 31 (ix (((13 * v4) + v5) + 1))) → vp_in (((13 * v4) + v5) + 1) 169 ∧ vp_in v4 12 ∧ vp_in v5 12 ∧ Ci shM G mX12_isLike (k + 2) [.ref (G.2.1 0), .int (M.1 29 (ix v4)), .int (M.1 30 (ix v5))] M (fun x1 M1 => ((x1 = 0 → (((M.1 31 (ix (((13 * v4) + v5) + 1))) ≤ 0 → vp_in ((13 * v4) + v5) 169 ∧ V shM G mX12_match (k + 3) 74 [(0, .ref (G.2.1 0)), (1, .int v1), (2, .int v2), (3, .int v3), (4, .int v4), (5, .int (v5 + (-1)))] [] (mset M1 31 (ix ((13 * v4) + v5)) 0) (Qv q)) ∧ (¬ (M.1 31 (ix (((13 * v4) + v5) + 1))) ≤ 0 → vp_in ((13 * v4) + v5) 169 ∧ V shM G mX12_match (k + 3) 74 [(0, .ref (G.2.1 0)), (1, .int v1), (2, .int v2), (3, .int v3), (4, .int v4), (5, .int (v5 + (-1)))] [] (mset M1 31 (ix ((13 * v4) + v5)) (M.1 31 (ix (((13 * v4) + v5) + 1)))) (Qv q)))) ∧ (¬ x1 = 0 → vp_in (((13 * v4) + 14) + v5) 169 ∧ (((M.1 31 (ix (((13 * v4) + v5) + 1))) ≤ ((M1.1 31 (ix (((13 * v4) + 14) + v5))) + 1) → vp_in ((13 * v4) + v5) 169 ∧ V shM G mX12_match (k + 3) 74 [(0, .ref (G.2.1 0)), (1, .int v1), (2, .int v2), (3, .int v3), (4, .int v4), (5, .int (v5 + (-1)))] [] (mset M1 31 (ix ((13 * v4) + v5)) ((M1.1 31 (ix (((13 * v4) + 14) + v5))) + 1)) (Qv q)) ∧ (¬ (M.1 31 (ix (((13 * v4) + v5) + 1))) ≤ ((M1.1 31 (ix (((13 * v4) + 14) + v5))) + 1) → vp_in ((13 * v4) + v5) 169 ∧ V shM G mX12_match (k + 3) 74 [(0, .ref (G.2.1 0)), (1, .int v1), (2, .int v2), (3, .int v3), (4, .int v4), (5, .int (v5 + (-1)))] [] (mset M1 31 (ix ((13 * v4) + v5)) (M.1 31 (ix (((13 * v4) + v5) + 1)))) (Qv q))))))) ∧ (¬ (M.1 31 (ix (((13 * v4) + 13) + v5))) ≤ (M.1 31 (ix (((13 * v4) + v5) + 1))) → vp_in (((13 * v4) + 13) + v5) 169 ∧ vp_in v4 12 ∧ vp_in v5 12 ∧ Ci shM G mX12_isLike (k + 2) [.ref (G.2.1 0), .int (M.1 29 (ix v4)), .int (M.1 30 (ix v5))] M (fun x2 M2 => ((x2 = 0 → (((M.1 31 (ix (((13 * v4) + 13) + v5))) ≤ 0 → vp_in ((13 * v4) + v5) 169 ∧ V shM G mX12_match (k + 3) 74 [(0, .ref (G.2.1 0)), (1, .int v1), (2, .int v2), (3, .int v3), (4, .int v4), (5, .int (v5 + (-1)))] [] (mset M2 31 (ix ((13 * v4) + v5)) 0) (Qv q)) ∧ (¬ (M.1 31 (ix (((13 * v4) + 13) + v5))) ≤ 0 → vp_in ((13 * v4) + v5) 169 ∧ V shM G mX12_match (k + 3) 74 [(0, .ref (G.2.1 0)), (1, .int v1), (2, .int v2), (3, .int v3), (4, .int v4), (5, .int (v5 + (-1)))] [] (mset M2 31 (ix ((13 * v4) + v5)) (M.1 31 (ix (((13 * v4) + 13) + v5)))) (Qv q)))) ∧ (¬ x2 = 0 → vp_in (((13 * v4) + 14) + v5) 169 ∧ (((M.1 31 (ix (((13 * v4) + 13) + v5))) ≤ ((M2.1 31 (ix (((13 * v4) + 14) + v5))) + 1) → vp_in ((13 * v4) + v5) 169 ∧ V shM G mX12_match (k + 3) 74 [(0, .ref (G.2.1 0)), (1, .int v1), (2, .int v2), (3, .int v3), (4, .int v4), (5, .int (v5 + (-1)))] [] (mset M2 31 (ix ((13 * v4) + v5)) ((M2.1 31 (ix (((13 * v4) + 14) + v5))) + 1)) (Qv q)) ∧ (¬ (M.1 31 (ix (((13 * v4) + 13) + v5))) ≤ ((M2.1 31 (ix (((13 * v4) + 14) + v5))) + 1) → vp_in ((13 * v4) + v5) 169 ∧ V shM G mX12_match (k + 3) 74 [(0, .ref (G.2.1 0)), (1, .int v1), (2, .int v2), (3, .int v3), (4, .int v4), (5, .int (v5 + (-1)))] [] (mset M2 31 (ix ((13 * v4) + v5)) (M.1 31 (ix (((13 * v4) + 13) + v5)))) (Qv q))))))))))) : V shM G mX12_match (k + 3) 74 [(0, .ref (G.2.1 0)), (1, .int v1), (2, .int v2), (3, .int v3), (4, .int v4), (5, .int v5)] [] M (Qv q) := by
  refine V_iload (pc := 74) dX12_match_74 rfl ?_
  refine V_if_lt (tgt := 227) (pc := 76) dX12_match_76 rfl (fun c => ?_) (fun c => ?_)
  · have h := h.1 c
    refine V_iinc (pc := 227) dX12_match_227 rfl (by decide) ?_
    refine V_goto (tgt := 61) (pc := 230) dX12_match_230 rfl ?_
    exact V_sub h ⟨rfl, rfl, rfl, rfl, rfl, trivial⟩
  · have h := h.2 c
    refine V_aload_n (pc := 79) dX12_match_79 rfl ?_
    refine V_getR (pc := 80) fX12_102 sM0 rfl dX12_match_80 ?_
    refine V_bipush (v := 13) (pc := 83) dX12_match_83 rfl ?_
    refine V_iload (pc := 85) dX12_match_85 rfl ?_
    refine V_imul (pc := 87) dX12_match_87 ?_
    refine V_bipush (v := 13) (pc := 88) dX12_match_88 rfl ?_
    refine V_iadd (pc := 90) dX12_match_90 ?_
    refine V_iload (pc := 91) dX12_match_91 rfl ?_
    refine V_iadd (pc := 93) dX12_match_93 ?_
    refine V_iald (pc := 94) sM31 dX12_match_94 h.1 ?_
    have h := h.2
    refine V_aload_n (pc := 95) dX12_match_95 rfl ?_
    refine V_getR (pc := 96) fX12_102 sM0 rfl dX12_match_96 ?_
    refine V_bipush (v := 13) (pc := 99) dX12_match_99 rfl ?_
    refine V_iload (pc := 101) dX12_match_101 rfl ?_
    refine V_imul (pc := 103) dX12_match_103 ?_
    refine V_iload (pc := 104) dX12_match_104 rfl ?_
    refine V_iadd (pc := 106) dX12_match_106 ?_
    refine V_iconst (v := 1) (pc := 107) dX12_match_107 rfl ?_
    refine V_iadd (pc := 108) dX12_match_108 ?_
    refine V_iald (pc := 109) sM31 dX12_match_109 h.1 ?_
    have h := h.2
    refine V_icmp_le (tgt := 132) (pc := 110) dX12_match_110 rfl (fun c => ?_) (fun c => ?_)
    · have h := h.1 c
      refine V_aload_n (pc := 132) dX12_match_132 rfl ?_
      refine V_getR (pc := 133) fX12_102 sM0 rfl dX12_match_133 ?_
      refine V_bipush (v := 13) (pc := 136) dX12_match_136 rfl ?_
      refine V_iload (pc := 138) dX12_match_138 rfl ?_
      refine V_imul (pc := 140) dX12_match_140 ?_
      refine V_iload (pc := 141) dX12_match_141 rfl ?_
      refine V_iadd (pc := 143) dX12_match_143 ?_
      refine V_iconst (v := 1) (pc := 144) dX12_match_144 rfl ?_
      refine V_iadd (pc := 145) dX12_match_145 ?_
      refine V_iald (pc := 146) sM31 dX12_match_146 h.1 ?_
      have h := h.2
      refine V_istore (pc := 147) dX12_match_147 (by decide) ?_
      refine V_aload_n (pc := 149) dX12_match_149 rfl ?_
      refine V_aload_n (pc := 150) dX12_match_150 rfl ?_
      refine V_getR (pc := 151) fX12_96 sM0 rfl dX12_match_151 ?_
      refine V_iload (pc := 154) dX12_match_154 rfl ?_
      refine V_iald (pc := 156) sM29 dX12_match_156 h.1 ?_
      have h := h.2
      refine V_aload_n (pc := 157) dX12_match_157 rfl ?_
      refine V_getR (pc := 158) fX12_99 sM0 rfl dX12_match_158 ?_
      refine V_iload (pc := 161) dX12_match_161 rfl ?_
      refine V_iald (pc := 163) sM30 dX12_match_163 h.1 ?_
      have h := h.2
      refine V_callVi [.int (M.1 29 (ix v4)), .int (M.1 30 (ix v5))] (pc := 164) kX12_isLike lX12_286 sM0 rfl rfl (Nat.le_of_ble_eq_true rfl) rfl (Nat.le_of_ble_eq_true rfl) dX12_match_164 ?_
      refine Ci.mono h ?_
      intro x1 M1 h
      refine V_if_eq (tgt := 191) (pc := 167) dX12_match_167 rfl (fun c => ?_) (fun c => ?_)
      · have h := h.1 c
        refine V_iconst (v := 0) (pc := 191) dX12_match_191 rfl ?_
        refine V_istore (pc := 192) dX12_match_192 (by decide) ?_
        refine V_aload_n (pc := 194) dX12_match_194 rfl ?_
        refine V_getR (pc := 195) fX12_102 sM0 rfl dX12_match_195 ?_
        refine V_bipush (v := 13) (pc := 198) dX12_match_198 rfl ?_
        refine V_iload (pc := 200) dX12_match_200 rfl ?_
        refine V_imul (pc := 202) dX12_match_202 ?_
        refine V_iload (pc := 203) dX12_match_203 rfl ?_
        refine V_iadd (pc := 205) dX12_match_205 ?_
        refine V_iload (pc := 206) dX12_match_206 rfl ?_
        refine V_iload (pc := 208) dX12_match_208 rfl ?_
        refine V_icmp_le (tgt := 218) (pc := 210) dX12_match_210 rfl (fun c => ?_) (fun c => ?_)
        · have h := h.1 c
          refine V_iload (pc := 218) dX12_match_218 rfl ?_
          refine V_iast (pc := 220) sM31 dX12_match_220 h.1 ?_
          have h := h.2
          refine V_iinc (pc := 221) dX12_match_221 rfl (by decide) ?_
          refine V_goto (tgt := 74) (pc := 224) dX12_match_224 rfl ?_
          exact V_sub h ⟨rfl, rfl, rfl, rfl, rfl, rfl, trivial⟩
        · have h := h.2 c
          refine V_iload (pc := 213) dX12_match_213 rfl ?_
          refine V_goto (tgt := 220) (pc := 215) dX12_match_215 rfl ?_
          refine V_iast (pc := 220) sM31 dX12_match_220 h.1 ?_
          have h := h.2
          refine V_iinc (pc := 221) dX12_match_221 rfl (by decide) ?_
          refine V_goto (tgt := 74) (pc := 224) dX12_match_224 rfl ?_
          exact V_sub h ⟨rfl, rfl, rfl, rfl, rfl, rfl, trivial⟩
      · have h := h.2 c
        refine V_aload_n (pc := 170) dX12_match_170 rfl ?_
        refine V_getR (pc := 171) fX12_102 sM0 rfl dX12_match_171 ?_
        refine V_bipush (v := 13) (pc := 174) dX12_match_174 rfl ?_
        refine V_iload (pc := 176) dX12_match_176 rfl ?_
        refine V_imul (pc := 178) dX12_match_178 ?_
        refine V_bipush (v := 14) (pc := 179) dX12_match_179 rfl ?_
        refine V_iadd (pc := 181) dX12_match_181 ?_
        refine V_iload (pc := 182) dX12_match_182 rfl ?_
        refine V_iadd (pc := 184) dX12_match_184 ?_
        refine V_iald (pc := 185) sM31 dX12_match_185 h.1 ?_
        have h := h.2
        refine V_iconst (v := 1) (pc := 186) dX12_match_186 rfl ?_
        refine V_iadd (pc := 187) dX12_match_187 ?_
        refine V_goto (tgt := 192) (pc := 188) dX12_match_188 rfl ?_
        refine V_istore (pc := 192) dX12_match_192 (by decide) ?_
        refine V_aload_n (pc := 194) dX12_match_194 rfl ?_
        refine V_getR (pc := 195) fX12_102 sM0 rfl dX12_match_195 ?_
        refine V_bipush (v := 13) (pc := 198) dX12_match_198 rfl ?_
        refine V_iload (pc := 200) dX12_match_200 rfl ?_
        refine V_imul (pc := 202) dX12_match_202 ?_
        refine V_iload (pc := 203) dX12_match_203 rfl ?_
        refine V_iadd (pc := 205) dX12_match_205 ?_
        refine V_iload (pc := 206) dX12_match_206 rfl ?_
        refine V_iload (pc := 208) dX12_match_208 rfl ?_
        refine V_icmp_le (tgt := 218) (pc := 210) dX12_match_210 rfl (fun c => ?_) (fun c => ?_)
        · have h := h.1 c
          refine V_iload (pc := 218) dX12_match_218 rfl ?_
          refine V_iast (pc := 220) sM31 dX12_match_220 h.1 ?_
          have h := h.2
          refine V_iinc (pc := 221) dX12_match_221 rfl (by decide) ?_
          refine V_goto (tgt := 74) (pc := 224) dX12_match_224 rfl ?_
          exact V_sub h ⟨rfl, rfl, rfl, rfl, rfl, rfl, trivial⟩
        · have h := h.2 c
          refine V_iload (pc := 213) dX12_match_213 rfl ?_
          refine V_goto (tgt := 220) (pc := 215) dX12_match_215 rfl ?_
          refine V_iast (pc := 220) sM31 dX12_match_220 h.1 ?_
          have h := h.2
          refine V_iinc (pc := 221) dX12_match_221 rfl (by decide) ?_
          refine V_goto (tgt := 74) (pc := 224) dX12_match_224 rfl ?_
          exact V_sub h ⟨rfl, rfl, rfl, rfl, rfl, rfl, trivial⟩
    · have h := h.2 c
      refine V_aload_n (pc := 113) dX12_match_113 rfl ?_
      refine V_getR (pc := 114) fX12_102 sM0 rfl dX12_match_114 ?_
      refine V_bipush (v := 13) (pc := 117) dX12_match_117 rfl ?_
      refine V_iload (pc := 119) dX12_match_119 rfl ?_
      refine V_imul (pc := 121) dX12_match_121 ?_
      refine V_bipush (v := 13) (pc := 122) dX12_match_122 rfl ?_
      refine V_iadd (pc := 124) dX12_match_124 ?_
      refine V_iload (pc := 125) dX12_match_125 rfl ?_
      refine V_iadd (pc := 127) dX12_match_127 ?_
      refine V_iald (pc := 128) sM31 dX12_match_128 h.1 ?_
      have h := h.2
      refine V_goto (tgt := 147) (pc := 129) dX12_match_129 rfl ?_
      refine V_istore (pc := 147) dX12_match_147 (by decide) ?_
      refine V_aload_n (pc := 149) dX12_match_149 rfl ?_
      refine V_aload_n (pc := 150) dX12_match_150 rfl ?_
      refine V_getR (pc := 151) fX12_96 sM0 rfl dX12_match_151 ?_
      refine V_iload (pc := 154) dX12_match_154 rfl ?_
      refine V_iald (pc := 156) sM29 dX12_match_156 h.1 ?_
      have h := h.2
      refine V_aload_n (pc := 157) dX12_match_157 rfl ?_
      refine V_getR (pc := 158) fX12_99 sM0 rfl dX12_match_158 ?_
      refine V_iload (pc := 161) dX12_match_161 rfl ?_
      refine V_iald (pc := 163) sM30 dX12_match_163 h.1 ?_
      have h := h.2
      refine V_callVi [.int (M.1 29 (ix v4)), .int (M.1 30 (ix v5))] (pc := 164) kX12_isLike lX12_286 sM0 rfl rfl (Nat.le_of_ble_eq_true rfl) rfl (Nat.le_of_ble_eq_true rfl) dX12_match_164 ?_
      refine Ci.mono h ?_
      intro x2 M2 h
      refine V_if_eq (tgt := 191) (pc := 167) dX12_match_167 rfl (fun c => ?_) (fun c => ?_)
      · have h := h.1 c
        refine V_iconst (v := 0) (pc := 191) dX12_match_191 rfl ?_
        refine V_istore (pc := 192) dX12_match_192 (by decide) ?_
        refine V_aload_n (pc := 194) dX12_match_194 rfl ?_
        refine V_getR (pc := 195) fX12_102 sM0 rfl dX12_match_195 ?_
        refine V_bipush (v := 13) (pc := 198) dX12_match_198 rfl ?_
        refine V_iload (pc := 200) dX12_match_200 rfl ?_
        refine V_imul (pc := 202) dX12_match_202 ?_
        refine V_iload (pc := 203) dX12_match_203 rfl ?_
        refine V_iadd (pc := 205) dX12_match_205 ?_
        refine V_iload (pc := 206) dX12_match_206 rfl ?_
        refine V_iload (pc := 208) dX12_match_208 rfl ?_
        refine V_icmp_le (tgt := 218) (pc := 210) dX12_match_210 rfl (fun c => ?_) (fun c => ?_)
        · have h := h.1 c
          refine V_iload (pc := 218) dX12_match_218 rfl ?_
          refine V_iast (pc := 220) sM31 dX12_match_220 h.1 ?_
          have h := h.2
          refine V_iinc (pc := 221) dX12_match_221 rfl (by decide) ?_
          refine V_goto (tgt := 74) (pc := 224) dX12_match_224 rfl ?_
          exact V_sub h ⟨rfl, rfl, rfl, rfl, rfl, rfl, trivial⟩
        · have h := h.2 c
          refine V_iload (pc := 213) dX12_match_213 rfl ?_
          refine V_goto (tgt := 220) (pc := 215) dX12_match_215 rfl ?_
          refine V_iast (pc := 220) sM31 dX12_match_220 h.1 ?_
          have h := h.2
          refine V_iinc (pc := 221) dX12_match_221 rfl (by decide) ?_
          refine V_goto (tgt := 74) (pc := 224) dX12_match_224 rfl ?_
          exact V_sub h ⟨rfl, rfl, rfl, rfl, rfl, rfl, trivial⟩
      · have h := h.2 c
        refine V_aload_n (pc := 170) dX12_match_170 rfl ?_
        refine V_getR (pc := 171) fX12_102 sM0 rfl dX12_match_171 ?_
        refine V_bipush (v := 13) (pc := 174) dX12_match_174 rfl ?_
        refine V_iload (pc := 176) dX12_match_176 rfl ?_
        refine V_imul (pc := 178) dX12_match_178 ?_
        refine V_bipush (v := 14) (pc := 179) dX12_match_179 rfl ?_
        refine V_iadd (pc := 181) dX12_match_181 ?_
        refine V_iload (pc := 182) dX12_match_182 rfl ?_
        refine V_iadd (pc := 184) dX12_match_184 ?_
        refine V_iald (pc := 185) sM31 dX12_match_185 h.1 ?_
        have h := h.2
        refine V_iconst (v := 1) (pc := 186) dX12_match_186 rfl ?_
        refine V_iadd (pc := 187) dX12_match_187 ?_
        refine V_goto (tgt := 192) (pc := 188) dX12_match_188 rfl ?_
        refine V_istore (pc := 192) dX12_match_192 (by decide) ?_
        refine V_aload_n (pc := 194) dX12_match_194 rfl ?_
        refine V_getR (pc := 195) fX12_102 sM0 rfl dX12_match_195 ?_
        refine V_bipush (v := 13) (pc := 198) dX12_match_198 rfl ?_
        refine V_iload (pc := 200) dX12_match_200 rfl ?_
        refine V_imul (pc := 202) dX12_match_202 ?_
        refine V_iload (pc := 203) dX12_match_203 rfl ?_
        refine V_iadd (pc := 205) dX12_match_205 ?_
        refine V_iload (pc := 206) dX12_match_206 rfl ?_
        refine V_iload (pc := 208) dX12_match_208 rfl ?_
        refine V_icmp_le (tgt := 218) (pc := 210) dX12_match_210 rfl (fun c => ?_) (fun c => ?_)
        · have h := h.1 c
          refine V_iload (pc := 218) dX12_match_218 rfl ?_
          refine V_iast (pc := 220) sM31 dX12_match_220 h.1 ?_
          have h := h.2
          refine V_iinc (pc := 221) dX12_match_221 rfl (by decide) ?_
          refine V_goto (tgt := 74) (pc := 224) dX12_match_224 rfl ?_
          exact V_sub h ⟨rfl, rfl, rfl, rfl, rfl, rfl, trivial⟩
        · have h := h.2 c
          refine V_iload (pc := 213) dX12_match_213 rfl ?_
          refine V_goto (tgt := 220) (pc := 215) dX12_match_215 rfl ?_
          refine V_iast (pc := 220) sM31 dX12_match_220 h.1 ?_
          have h := h.2
          refine V_iinc (pc := 221) dX12_match_221 rfl (by decide) ?_
          refine V_goto (tgt := 74) (pc := 224) dX12_match_224 rfl ?_
          exact V_sub h ⟨rfl, rfl, rfl, rfl, rfl, rfl, trivial⟩
theorem wp_X12_mayBe {G : GV} {k : Nat} {M : Mem} {q : Int32 → Mem → Prop} {v1 : Int32} {v2 : Int32} (h : Ci shM G mX12_isLike (k + 2) [.ref (G.2.1 0), .int v1, .int v2] M (fun x1 M1 => ((x1 ≠ 0 → vp_in v1 12 ∧ (((M1.1 12 (ix v1)) = (-1000000) → Ci shM G mX12_isHome (k + 2) [.ref (G.2.1 0), .int v1] M1 (fun x2 M2 => ((x2 = 0 → q 1 M2) ∧ (¬ x2 = 0 → Ci shM G mX12_isHome (k + 2) [.ref (G.2.1 0), .int v2] M2 (fun x3 M3 => ((x3 = 0 → q 1 M3) ∧ (¬ x3 = 0 → Ci shM G mX12_gathered (k + 2) [.ref (G.2.1 0), .int v1] M3 (fun x4 M4 => Ci shM G mX12_gathered (k + 2) [.ref (G.2.1 0), .int v2] M4 (fun x5 M5 => ((x4 ≠ x5 → q 1 M5) ∧ (x4 = x5 → Ci shM G mX12_isOneDoor (k + 2) [.ref (G.2.1 0), .int v1, .int v2] M5 (fun x6 M6 => ((x6 = 0 → q 0 M6) ∧ (¬ x6 = 0 → q 1 M6)))))))))))))) ∧ (¬ (M1.1 12 (ix v1)) = (-1000000) → vp_in v2 12 ∧ (((M1.1 12 (ix v2)) = (-1000000) → Ci shM G mX12_isHome (k + 2) [.ref (G.2.1 0), .int v1] M1 (fun x7 M7 => ((x7 = 0 → q 1 M7) ∧ (¬ x7 = 0 → Ci shM G mX12_isHome (k + 2) [.ref (G.2.1 0), .int v2] M7 (fun x8 M8 => ((x8 = 0 → q 1 M8) ∧ (¬ x8 = 0 → Ci shM G mX12_gathered (k + 2) [.ref (G.2.1 0), .int v1] M8 (fun x9 M9 => Ci shM G mX12_gathered (k + 2) [.ref (G.2.1 0), .int v2] M9 (fun x10 M10 => ((x9 ≠ x10 → q 1 M10) ∧ (x9 = x10 → Ci shM G mX12_isOneDoor (k + 2) [.ref (G.2.1 0), .int v1, .int v2] M10 (fun x11 M11 => ((x11 = 0 → q 0 M11) ∧ (¬ x11 = 0 → q 1 M11)))))))))))))) ∧ (¬ (M1.1 12 (ix v2)) = (-1000000) → vp_in v1 12 ∧ vp_in v2 12 ∧ Ci shM G mX12_gathered (k + 2) [.ref (G.2.1 0), .int v1] M1 (fun x12 M12 => Ci shM G mX12_gathered (k + 2) [.ref (G.2.1 0), .int v2] M12 (fun x13 M13 => Ci shM G mX12_in (k + 2) [.long (Int32.toInt64 (((M1.1 12 (ix v1)) - (M1.1 12 (ix v2))) - (x12 - x13))), .long (-2), .long 2] M13 (fun x14 M14 => ((x14 ≠ 0 → Ci shM G mX12_isHome (k + 2) [.ref (G.2.1 0), .int v1] M14 (fun x15 M15 => ((x15 = 0 → q 1 M15) ∧ (¬ x15 = 0 → Ci shM G mX12_isHome (k + 2) [.ref (G.2.1 0), .int v2] M15 (fun x16 M16 => ((x16 = 0 → q 1 M16) ∧ (¬ x16 = 0 → Ci shM G mX12_gathered (k + 2) [.ref (G.2.1 0), .int v1] M16 (fun x17 M17 => Ci shM G mX12_gathered (k + 2) [.ref (G.2.1 0), .int v2] M17 (fun x18 M18 => ((x17 ≠ x18 → q 1 M18) ∧ (x17 = x18 → Ci shM G mX12_isOneDoor (k + 2) [.ref (G.2.1 0), .int v1, .int v2] M18 (fun x19 M19 => ((x19 = 0 → q 0 M19) ∧ (¬ x19 = 0 → q 1 M19)))))))))))))) ∧ (x14 = 0 → q 0 M14)))))))))) ∧ (x1 = 0 → q 0 M1)))) : Ci shM G mX12_mayBe (k + 3) [.ref (G.2.1 0), .int v1, .int v2] M q := by
  unfold Ci
  show V _ _ _ _ _ [(0, .ref (G.2.1 0)), (1, .int v1), (2, .int v2)] _ _ _
  refine V_aload_n (pc := 0) dX12_mayBe_0 rfl ?_
  refine V_iload_n (pc := 1) dX12_mayBe_1 rfl ?_
  refine V_iload_n (pc := 2) dX12_mayBe_2 rfl ?_
  refine V_callVi [.int v1, .int v2] (pc := 3) kX12_isLike lX12_286 sM0 rfl rfl (Nat.le_of_ble_eq_true rfl) rfl (Nat.le_of_ble_eq_true rfl) dX12_mayBe_3 ?_
  refine Ci.mono h ?_
  intro x1 M1 h
  refine V_if_ne (tgt := 11) (pc := 6) dX12_mayBe_6 rfl (fun c => ?_) (fun c => ?_)
  · have h := h.1 c
    refine V_aload_n (pc := 11) dX12_mayBe_11 rfl ?_
    refine V_getR (pc := 12) fX12_44 sM0 rfl dX12_mayBe_12 ?_
    refine V_iload_n (pc := 15) dX12_mayBe_15 rfl ?_
    refine V_iald (pc := 16) sM12 dX12_mayBe_16 h.1 ?_
    have h := h.2
    refine V_ldc (pc := 17) dX12_mayBe_17 nX12_144 ?_
    refine V_icmp_eq (tgt := 73) (pc := 19) dX12_mayBe_19 rfl (fun c => ?_) (fun c => ?_)
    · have h := h.1 c
      refine V_aload_n (pc := 73) dX12_mayBe_73 rfl ?_
      refine V_iload_n (pc := 74) dX12_mayBe_74 rfl ?_
      refine V_callVi [.int v1] (pc := 75) kX12_isHome lX12_292 sM0 rfl rfl (Nat.le_of_ble_eq_true rfl) rfl (Nat.le_of_ble_eq_true rfl) dX12_mayBe_75 ?_
      refine Ci.mono h ?_
      intro x2 M2 h
      refine V_if_eq (tgt := 111) (pc := 78) dX12_mayBe_78 rfl (fun c => ?_) (fun c => ?_)
      · have h := h.1 c
        refine V_iconst (v := 1) (pc := 111) dX12_mayBe_111 rfl ?_
        refine V_goto (tgt := 116) (pc := 112) dX12_mayBe_112 rfl ?_
        exact V_zret dX12_mayBe_116 rfl (Or.inr rfl) h
      · have h := h.2 c
        refine V_aload_n (pc := 81) dX12_mayBe_81 rfl ?_
        refine V_iload_n (pc := 82) dX12_mayBe_82 rfl ?_
        refine V_callVi [.int v2] (pc := 83) kX12_isHome lX12_292 sM0 rfl rfl (Nat.le_of_ble_eq_true rfl) rfl (Nat.le_of_ble_eq_true rfl) dX12_mayBe_83 ?_
        refine Ci.mono h ?_
        intro x3 M3 h
        refine V_if_eq (tgt := 111) (pc := 86) dX12_mayBe_86 rfl (fun c => ?_) (fun c => ?_)
        · have h := h.1 c
          refine V_iconst (v := 1) (pc := 111) dX12_mayBe_111 rfl ?_
          refine V_goto (tgt := 116) (pc := 112) dX12_mayBe_112 rfl ?_
          exact V_zret dX12_mayBe_116 rfl (Or.inr rfl) h
        · have h := h.2 c
          refine V_aload_n (pc := 89) dX12_mayBe_89 rfl ?_
          refine V_iload_n (pc := 90) dX12_mayBe_90 rfl ?_
          refine V_callVi [.int v1] (pc := 91) kX12_gathered lX12_246 sM0 rfl rfl (Nat.le_of_ble_eq_true rfl) rfl (Nat.le_of_ble_eq_true rfl) dX12_mayBe_91 ?_
          refine Ci.mono h ?_
          intro x4 M4 h
          refine V_aload_n (pc := 94) dX12_mayBe_94 rfl ?_
          refine V_iload_n (pc := 95) dX12_mayBe_95 rfl ?_
          refine V_callVi [.int v2] (pc := 96) kX12_gathered lX12_246 sM0 rfl rfl (Nat.le_of_ble_eq_true rfl) rfl (Nat.le_of_ble_eq_true rfl) dX12_mayBe_96 ?_
          refine Ci.mono h ?_
          intro x5 M5 h
          refine V_icmp_ne (tgt := 111) (pc := 99) dX12_mayBe_99 rfl (fun c => ?_) (fun c => ?_)
          · have h := h.1 c
            refine V_iconst (v := 1) (pc := 111) dX12_mayBe_111 rfl ?_
            refine V_goto (tgt := 116) (pc := 112) dX12_mayBe_112 rfl ?_
            exact V_zret dX12_mayBe_116 rfl (Or.inr rfl) h
          · have h := h.2 c
            refine V_aload_n (pc := 102) dX12_mayBe_102 rfl ?_
            refine V_iload_n (pc := 103) dX12_mayBe_103 rfl ?_
            refine V_iload_n (pc := 104) dX12_mayBe_104 rfl ?_
            refine V_callVi [.int v1, .int v2] (pc := 105) kX12_isOneDoor lX12_295 sM0 rfl rfl (Nat.le_of_ble_eq_true rfl) rfl (Nat.le_of_ble_eq_true rfl) dX12_mayBe_105 ?_
            refine Ci.mono h ?_
            intro x6 M6 h
            refine V_if_eq (tgt := 115) (pc := 108) dX12_mayBe_108 rfl (fun c => ?_) (fun c => ?_)
            · have h := h.1 c
              refine V_iconst (v := 0) (pc := 115) dX12_mayBe_115 rfl ?_
              exact V_zret dX12_mayBe_116 rfl (Or.inl rfl) h
            · have h := h.2 c
              refine V_iconst (v := 1) (pc := 111) dX12_mayBe_111 rfl ?_
              refine V_goto (tgt := 116) (pc := 112) dX12_mayBe_112 rfl ?_
              exact V_zret dX12_mayBe_116 rfl (Or.inr rfl) h
    · have h := h.2 c
      refine V_aload_n (pc := 22) dX12_mayBe_22 rfl ?_
      refine V_getR (pc := 23) fX12_44 sM0 rfl dX12_mayBe_23 ?_
      refine V_iload_n (pc := 26) dX12_mayBe_26 rfl ?_
      refine V_iald (pc := 27) sM12 dX12_mayBe_27 h.1 ?_
      have h := h.2
      refine V_ldc (pc := 28) dX12_mayBe_28 nX12_144 ?_
      refine V_icmp_eq (tgt := 73) (pc := 30) dX12_mayBe_30 rfl (fun c => ?_) (fun c => ?_)
      · have h := h.1 c
        refine V_aload_n (pc := 73) dX12_mayBe_73 rfl ?_
        refine V_iload_n (pc := 74) dX12_mayBe_74 rfl ?_
        refine V_callVi [.int v1] (pc := 75) kX12_isHome lX12_292 sM0 rfl rfl (Nat.le_of_ble_eq_true rfl) rfl (Nat.le_of_ble_eq_true rfl) dX12_mayBe_75 ?_
        refine Ci.mono h ?_
        intro x7 M7 h
        refine V_if_eq (tgt := 111) (pc := 78) dX12_mayBe_78 rfl (fun c => ?_) (fun c => ?_)
        · have h := h.1 c
          refine V_iconst (v := 1) (pc := 111) dX12_mayBe_111 rfl ?_
          refine V_goto (tgt := 116) (pc := 112) dX12_mayBe_112 rfl ?_
          exact V_zret dX12_mayBe_116 rfl (Or.inr rfl) h
        · have h := h.2 c
          refine V_aload_n (pc := 81) dX12_mayBe_81 rfl ?_
          refine V_iload_n (pc := 82) dX12_mayBe_82 rfl ?_
          refine V_callVi [.int v2] (pc := 83) kX12_isHome lX12_292 sM0 rfl rfl (Nat.le_of_ble_eq_true rfl) rfl (Nat.le_of_ble_eq_true rfl) dX12_mayBe_83 ?_
          refine Ci.mono h ?_
          intro x8 M8 h
          refine V_if_eq (tgt := 111) (pc := 86) dX12_mayBe_86 rfl (fun c => ?_) (fun c => ?_)
          · have h := h.1 c
            refine V_iconst (v := 1) (pc := 111) dX12_mayBe_111 rfl ?_
            refine V_goto (tgt := 116) (pc := 112) dX12_mayBe_112 rfl ?_
            exact V_zret dX12_mayBe_116 rfl (Or.inr rfl) h
          · have h := h.2 c
            refine V_aload_n (pc := 89) dX12_mayBe_89 rfl ?_
            refine V_iload_n (pc := 90) dX12_mayBe_90 rfl ?_
            refine V_callVi [.int v1] (pc := 91) kX12_gathered lX12_246 sM0 rfl rfl (Nat.le_of_ble_eq_true rfl) rfl (Nat.le_of_ble_eq_true rfl) dX12_mayBe_91 ?_
            refine Ci.mono h ?_
            intro x9 M9 h
            refine V_aload_n (pc := 94) dX12_mayBe_94 rfl ?_
            refine V_iload_n (pc := 95) dX12_mayBe_95 rfl ?_
            refine V_callVi [.int v2] (pc := 96) kX12_gathered lX12_246 sM0 rfl rfl (Nat.le_of_ble_eq_true rfl) rfl (Nat.le_of_ble_eq_true rfl) dX12_mayBe_96 ?_
            refine Ci.mono h ?_
            intro x10 M10 h
            refine V_icmp_ne (tgt := 111) (pc := 99) dX12_mayBe_99 rfl (fun c => ?_) (fun c => ?_)
            · have h := h.1 c
              refine V_iconst (v := 1) (pc := 111) dX12_mayBe_111 rfl ?_
              refine V_goto (tgt := 116) (pc := 112) dX12_mayBe_112 rfl ?_
              exact V_zret dX12_mayBe_116 rfl (Or.inr rfl) h
            · have h := h.2 c
              refine V_aload_n (pc := 102) dX12_mayBe_102 rfl ?_
              refine V_iload_n (pc := 103) dX12_mayBe_103 rfl ?_
              refine V_iload_n (pc := 104) dX12_mayBe_104 rfl ?_
              refine V_callVi [.int v1, .int v2] (pc := 105) kX12_isOneDoor lX12_295 sM0 rfl rfl (Nat.le_of_ble_eq_true rfl) rfl (Nat.le_of_ble_eq_true rfl) dX12_mayBe_105 ?_
              refine Ci.mono h ?_
              intro x11 M11 h
              refine V_if_eq (tgt := 115) (pc := 108) dX12_mayBe_108 rfl (fun c => ?_) (fun c => ?_)
              · have h := h.1 c
                refine V_iconst (v := 0) (pc := 115) dX12_mayBe_115 rfl ?_
                exact V_zret dX12_mayBe_116 rfl (Or.inl rfl) h
              · have h := h.2 c
                refine V_iconst (v := 1) (pc := 111) dX12_mayBe_111 rfl ?_
                refine V_goto (tgt := 116) (pc := 112) dX12_mayBe_112 rfl ?_
                exact V_zret dX12_mayBe_116 rfl (Or.inr rfl) h
      · have h := h.2 c
        refine V_aload_n (pc := 33) dX12_mayBe_33 rfl ?_
        refine V_getR (pc := 34) fX12_44 sM0 rfl dX12_mayBe_34 ?_
        refine V_iload_n (pc := 37) dX12_mayBe_37 rfl ?_
        refine V_iald (pc := 38) sM12 dX12_mayBe_38 h.1 ?_
        have h := h.2
        refine V_aload_n (pc := 39) dX12_mayBe_39 rfl ?_
        refine V_getR (pc := 40) fX12_44 sM0 rfl dX12_mayBe_40 ?_
        refine V_iload_n (pc := 43) dX12_mayBe_43 rfl ?_
        refine V_iald (pc := 44) sM12 dX12_mayBe_44 h.1 ?_
        have h := h.2
        refine V_isub (pc := 45) dX12_mayBe_45 ?_
        refine V_aload_n (pc := 46) dX12_mayBe_46 rfl ?_
        refine V_iload_n (pc := 47) dX12_mayBe_47 rfl ?_
        refine V_callVi [.int v1] (pc := 48) kX12_gathered lX12_246 sM0 rfl rfl (Nat.le_of_ble_eq_true rfl) rfl (Nat.le_of_ble_eq_true rfl) dX12_mayBe_48 ?_
        refine Ci.mono h ?_
        intro x12 M12 h
        refine V_aload_n (pc := 51) dX12_mayBe_51 rfl ?_
        refine V_iload_n (pc := 52) dX12_mayBe_52 rfl ?_
        refine V_callVi [.int v2] (pc := 53) kX12_gathered lX12_246 sM0 rfl rfl (Nat.le_of_ble_eq_true rfl) rfl (Nat.le_of_ble_eq_true rfl) dX12_mayBe_53 ?_
        refine Ci.mono h ?_
        intro x13 M13 h
        refine V_isub (pc := 56) dX12_mayBe_56 ?_
        refine V_isub (pc := 57) dX12_mayBe_57 ?_
        refine V_i2l (pc := 58) dX12_mayBe_58 ?_
        refine V_ldc2 (pc := 59) dX12_mayBe_59 nX12_290 ?_
        refine V_ldc2 (pc := 62) dX12_mayBe_62 nX12_126 ?_
        refine V_callSi [.long (Int32.toInt64 (((M1.1 12 (ix v1)) - (M1.1 12 (ix v2))) - (x12 - x13))), .long (-2), .long 2] (pc := 65) kX12_in lX12_118 rfl (Nat.le_of_ble_eq_true rfl) rfl (Nat.le_of_ble_eq_true rfl) dX12_mayBe_65 ?_
        refine Ci.mono h ?_
        intro x14 M14 h
        refine V_if_ne (tgt := 73) (pc := 68) dX12_mayBe_68 rfl (fun c => ?_) (fun c => ?_)
        · have h := h.1 c
          refine V_aload_n (pc := 73) dX12_mayBe_73 rfl ?_
          refine V_iload_n (pc := 74) dX12_mayBe_74 rfl ?_
          refine V_callVi [.int v1] (pc := 75) kX12_isHome lX12_292 sM0 rfl rfl (Nat.le_of_ble_eq_true rfl) rfl (Nat.le_of_ble_eq_true rfl) dX12_mayBe_75 ?_
          refine Ci.mono h ?_
          intro x15 M15 h
          refine V_if_eq (tgt := 111) (pc := 78) dX12_mayBe_78 rfl (fun c => ?_) (fun c => ?_)
          · have h := h.1 c
            refine V_iconst (v := 1) (pc := 111) dX12_mayBe_111 rfl ?_
            refine V_goto (tgt := 116) (pc := 112) dX12_mayBe_112 rfl ?_
            exact V_zret dX12_mayBe_116 rfl (Or.inr rfl) h
          · have h := h.2 c
            refine V_aload_n (pc := 81) dX12_mayBe_81 rfl ?_
            refine V_iload_n (pc := 82) dX12_mayBe_82 rfl ?_
            refine V_callVi [.int v2] (pc := 83) kX12_isHome lX12_292 sM0 rfl rfl (Nat.le_of_ble_eq_true rfl) rfl (Nat.le_of_ble_eq_true rfl) dX12_mayBe_83 ?_
            refine Ci.mono h ?_
            intro x16 M16 h
            refine V_if_eq (tgt := 111) (pc := 86) dX12_mayBe_86 rfl (fun c => ?_) (fun c => ?_)
            · have h := h.1 c
              refine V_iconst (v := 1) (pc := 111) dX12_mayBe_111 rfl ?_
              refine V_goto (tgt := 116) (pc := 112) dX12_mayBe_112 rfl ?_
              exact V_zret dX12_mayBe_116 rfl (Or.inr rfl) h
            · have h := h.2 c
              refine V_aload_n (pc := 89) dX12_mayBe_89 rfl ?_
              refine V_iload_n (pc := 90) dX12_mayBe_90 rfl ?_
              refine V_callVi [.int v1] (pc := 91) kX12_gathered lX12_246 sM0 rfl rfl (Nat.le_of_ble_eq_true rfl) rfl (Nat.le_of_ble_eq_true rfl) dX12_mayBe_91 ?_
              refine Ci.mono h ?_
              intro x17 M17 h
              refine V_aload_n (pc := 94) dX12_mayBe_94 rfl ?_
              refine V_iload_n (pc := 95) dX12_mayBe_95 rfl ?_
              refine V_callVi [.int v2] (pc := 96) kX12_gathered lX12_246 sM0 rfl rfl (Nat.le_of_ble_eq_true rfl) rfl (Nat.le_of_ble_eq_true rfl) dX12_mayBe_96 ?_
              refine Ci.mono h ?_
              intro x18 M18 h
              refine V_icmp_ne (tgt := 111) (pc := 99) dX12_mayBe_99 rfl (fun c => ?_) (fun c => ?_)
              · have h := h.1 c
                refine V_iconst (v := 1) (pc := 111) dX12_mayBe_111 rfl ?_
                refine V_goto (tgt := 116) (pc := 112) dX12_mayBe_112 rfl ?_
                exact V_zret dX12_mayBe_116 rfl (Or.inr rfl) h
              · have h := h.2 c
                refine V_aload_n (pc := 102) dX12_mayBe_102 rfl ?_
                refine V_iload_n (pc := 103) dX12_mayBe_103 rfl ?_
                refine V_iload_n (pc := 104) dX12_mayBe_104 rfl ?_
                refine V_callVi [.int v1, .int v2] (pc := 105) kX12_isOneDoor lX12_295 sM0 rfl rfl (Nat.le_of_ble_eq_true rfl) rfl (Nat.le_of_ble_eq_true rfl) dX12_mayBe_105 ?_
                refine Ci.mono h ?_
                intro x19 M19 h
                refine V_if_eq (tgt := 115) (pc := 108) dX12_mayBe_108 rfl (fun c => ?_) (fun c => ?_)
                · have h := h.1 c
                  refine V_iconst (v := 0) (pc := 115) dX12_mayBe_115 rfl ?_
                  exact V_zret dX12_mayBe_116 rfl (Or.inl rfl) h
                · have h := h.2 c
                  refine V_iconst (v := 1) (pc := 111) dX12_mayBe_111 rfl ?_
                  refine V_goto (tgt := 116) (pc := 112) dX12_mayBe_112 rfl ?_
                  exact V_zret dX12_mayBe_116 rfl (Or.inr rfl) h
        · have h := h.2 c
          refine V_iconst (v := 0) (pc := 71) dX12_mayBe_71 rfl ?_
          exact V_zret dX12_mayBe_72 rfl (Or.inl rfl) h
  · have h := h.2 c
    refine V_iconst (v := 0) (pc := 9) dX12_mayBe_9 rfl ?_
    exact V_zret dX12_mayBe_10 rfl (Or.inl rfl) h
theorem wp_X12_missing {G : GV} {k : Nat} {M : Mem} {q : Int32 → Mem → Prop} {v1 : Int32} {v2 : Int32} {v3 : Int32} (h : Ci shM G mX12_isBook (k + 2) [.ref (G.2.1 0), .int v1] (mset M 0 0 0) (fun x1 M1 => ((x1 = 0 → q (-1000001) M1) ∧ (¬ x1 = 0 → Ci shM G mX12_isBook (k + 2) [.ref (G.2.1 0), .int v2] M1 (fun x2 M2 => ((x2 = 0 → q (-1000001) M2) ∧ (¬ x2 = 0 → ((v1 = v2 → q (-1000001) M2) ∧ (¬ v1 = v2 → Ci shM G mX12_in (k + 2) [.long (Int32.toInt64 v3), .long 0, .long 2] M2 (fun x3 M3 => ((x3 ≠ 0 → V shM G mX12_missing (k + 3) 53 [(0, .ref (G.2.1 0)), (1, .int v1), (2, .int v2), (3, .int v3), (4, .int 0), (5, .int 0), (6, .int 0), (7, .int 0)] [] M3 (Qi q)) ∧ (x3 = 0 → q (-1000001) M3)))))))))))) : Ci shM G mX12_missing (k + 3) [.ref (G.2.1 0), .int v1, .int v2, .int v3] M q := by
  unfold Ci
  show V _ _ _ _ _ [(0, .ref (G.2.1 0)), (1, .int v1), (2, .int v2), (3, .int v3)] _ _ _
  refine V_aload_n (pc := 0) dX12_missing_0 rfl ?_
  refine V_iconst (v := 0) (pc := 1) dX12_missing_1 rfl ?_
  refine V_putI (pc := 2) fX12_108 p12_0 sM0 rfl dX12_missing_2 ?_
  refine V_aload_n (pc := 5) dX12_missing_5 rfl ?_
  refine V_iload_n (pc := 6) dX12_missing_6 rfl ?_
  refine V_callVi [.int v1] (pc := 7) kX12_isBook lX12_337 sM0 rfl rfl (Nat.le_of_ble_eq_true rfl) rfl (Nat.le_of_ble_eq_true rfl) dX12_missing_7 ?_
  refine Ci.mono h ?_
  intro x1 M1 h
  refine V_if_eq (tgt := 38) (pc := 10) dX12_missing_10 rfl (fun c => ?_) (fun c => ?_)
  · have h := h.1 c
    refine V_ldc (pc := 38) dX12_missing_38 nX12_128 ?_
    exact V_iret dX12_missing_40 rfl h
  · have h := h.2 c
    refine V_aload_n (pc := 13) dX12_missing_13 rfl ?_
    refine V_iload_n (pc := 14) dX12_missing_14 rfl ?_
    refine V_callVi [.int v2] (pc := 15) kX12_isBook lX12_337 sM0 rfl rfl (Nat.le_of_ble_eq_true rfl) rfl (Nat.le_of_ble_eq_true rfl) dX12_missing_15 ?_
    refine Ci.mono h ?_
    intro x2 M2 h
    refine V_if_eq (tgt := 38) (pc := 18) dX12_missing_18 rfl (fun c => ?_) (fun c => ?_)
    · have h := h.1 c
      refine V_ldc (pc := 38) dX12_missing_38 nX12_128 ?_
      exact V_iret dX12_missing_40 rfl h
    · have h := h.2 c
      refine V_iload_n (pc := 21) dX12_missing_21 rfl ?_
      refine V_iload_n (pc := 22) dX12_missing_22 rfl ?_
      refine V_icmp_eq (tgt := 38) (pc := 23) dX12_missing_23 rfl (fun c => ?_) (fun c => ?_)
      · have h := h.1 c
        refine V_ldc (pc := 38) dX12_missing_38 nX12_128 ?_
        exact V_iret dX12_missing_40 rfl h
      · have h := h.2 c
        refine V_iload_n (pc := 26) dX12_missing_26 rfl ?_
        refine V_i2l (pc := 27) dX12_missing_27 ?_
        refine V_lconst (v := 0) (pc := 28) dX12_missing_28 rfl ?_
        refine V_ldc2 (pc := 29) dX12_missing_29 nX12_126 ?_
        refine V_callSi [.long (Int32.toInt64 v3), .long 0, .long 2] (pc := 32) kX12_in lX12_118 rfl (Nat.le_of_ble_eq_true rfl) rfl (Nat.le_of_ble_eq_true rfl) dX12_missing_32 ?_
        refine Ci.mono h ?_
        intro x3 M3 h
        refine V_if_ne (tgt := 41) (pc := 35) dX12_missing_35 rfl (fun c => ?_) (fun c => ?_)
        · have h := h.1 c
          refine V_iconst (v := 0) (pc := 41) dX12_missing_41 rfl ?_
          refine V_istore (pc := 42) dX12_missing_42 (by decide) ?_
          refine V_iconst (v := 0) (pc := 44) dX12_missing_44 rfl ?_
          refine V_istore (pc := 45) dX12_missing_45 (by decide) ?_
          refine V_iconst (v := 0) (pc := 47) dX12_missing_47 rfl ?_
          refine V_istore (pc := 48) dX12_missing_48 (by decide) ?_
          refine V_iconst (v := 0) (pc := 50) dX12_missing_50 rfl ?_
          refine V_istore (pc := 51) dX12_missing_51 (by decide) ?_
          exact V_sub h ⟨rfl, rfl, rfl, rfl, rfl, rfl, rfl, rfl, trivial⟩
        · have h := h.2 c
          refine V_ldc (pc := 38) dX12_missing_38 nX12_128 ?_
          exact V_iret dX12_missing_40 rfl h
theorem wp_X12_missing_53 {G : GV} {k : Nat} {M : Mem} {q : Int32 → Mem → Prop} {v1 : Int32} {v2 : Int32} {v3 : Int32} {v4 : Int32} {v5 : Int32} {v6 : Int32} {v7 : Int32} (h : (((M.1 0 10) ≤ v7 → ((v3 ≠ 2 → ((v3 ≠ 1 → ((v6 ≠ 0 → ¬ v6 = 0 ∧ q ((v4 * v5) / v6) M) ∧ (v6 = 0 → q (-1000000) M))) ∧ (v3 = 1 → q ((v4 + v5) - v6) M))) ∧ (v3 = 2 → q v6 M))) ∧ (¬ (M.1 0 10) ≤ v7 → vp_in v7 12 ∧ (((M.1 8 (ix v7)) ≠ v1 → vp_in v7 12 ∧ (((M.1 8 (ix v7)) ≠ v2 → V shM G mX12_missing (k + 3) 110 [(0, .ref (G.2.1 0)), (1, .int v1), (2, .int v2), (3, .int v3), (4, .int (v4 + 0)), (5, .int (v5 + 0)), (6, .int v6), (7, .int v7), (8, .int 0), (9, .int 0)] [] M (Qi q)) ∧ ((M.1 8 (ix v7)) = v2 → V shM G mX12_missing (k + 3) 110 [(0, .ref (G.2.1 0)), (1, .int v1), (2, .int v2), (3, .int v3), (4, .int (v4 + 0)), (5, .int (v5 + 1)), (6, .int v6), (7, .int v7), (8, .int 0), (9, .int 0)] [] M (Qi q)))) ∧ ((M.1 8 (ix v7)) = v1 → vp_in v7 12 ∧ (((M.1 8 (ix v7)) ≠ v2 → V shM G mX12_missing (k + 3) 110 [(0, .ref (G.2.1 0)), (1, .int v1), (2, .int v2), (3, .int v3), (4, .int (v4 + 1)), (5, .int (v5 + 0)), (6, .int v6), (7, .int v7), (8, .int 0), (9, .int 0)] [] M (Qi q)) ∧ ((M.1 8 (ix v7)) = v2 → V shM G mX12_missing (k + 3) 110 [(0, .ref (G.2.1 0)), (1, .int v1), (2, .int v2), (3, .int v3), (4, .int (v4 + 1)), (5, .int (v5 + 1)), (6, .int v6), (7, .int v7), (8, .int 0), (9, .int 0)] [] M (Qi q)))))))) : V shM G mX12_missing (k + 3) 53 [(0, .ref (G.2.1 0)), (1, .int v1), (2, .int v2), (3, .int v3), (4, .int v4), (5, .int v5), (6, .int v6), (7, .int v7)] [] M (Qi q) := by
  refine V_iload (pc := 53) dX12_missing_53 rfl ?_
  refine V_aload_n (pc := 55) dX12_missing_55 rfl ?_
  refine V_getI (pc := 56) fX12_227 sM0 rfl dX12_missing_56 ?_
  refine V_icmp_ge (tgt := 202) (pc := 59) dX12_missing_59 rfl (fun c => ?_) (fun c => ?_)
  · have h := h.1 c
    refine V_iload_n (pc := 202) dX12_missing_202 rfl ?_
    refine V_iconst (v := 2) (pc := 203) dX12_missing_203 rfl ?_
    refine V_icmp_ne (tgt := 212) (pc := 204) dX12_missing_204 rfl (fun c => ?_) (fun c => ?_)
    · have h := h.1 c
      refine V_iload_n (pc := 212) dX12_missing_212 rfl ?_
      refine V_iconst (v := 1) (pc := 213) dX12_missing_213 rfl ?_
      refine V_icmp_ne (tgt := 228) (pc := 214) dX12_missing_214 rfl (fun c => ?_) (fun c => ?_)
      · have h := h.1 c
        refine V_iload (pc := 228) dX12_missing_228 rfl ?_
        refine V_if_ne (tgt := 238) (pc := 230) dX12_missing_230 rfl (fun c => ?_) (fun c => ?_)
        · have h := h.1 c
          refine V_iload (pc := 238) dX12_missing_238 rfl ?_
          refine V_iload (pc := 240) dX12_missing_240 rfl ?_
          refine V_imul (pc := 242) dX12_missing_242 ?_
          refine V_iload (pc := 243) dX12_missing_243 rfl ?_
          refine V_idiv (pc := 245) dX12_missing_245 h.1 ?_
          have h := h.2
          exact V_iret dX12_missing_246 rfl h
        · have h := h.2 c
          refine V_ldc (pc := 233) dX12_missing_233 nX12_144 ?_
          refine V_goto (tgt := 246) (pc := 235) dX12_missing_235 rfl ?_
          exact V_iret dX12_missing_246 rfl h
      · have h := h.2 c
        refine V_iload (pc := 217) dX12_missing_217 rfl ?_
        refine V_iload (pc := 219) dX12_missing_219 rfl ?_
        refine V_iadd (pc := 221) dX12_missing_221 ?_
        refine V_iload (pc := 222) dX12_missing_222 rfl ?_
        refine V_isub (pc := 224) dX12_missing_224 ?_
        refine V_goto (tgt := 246) (pc := 225) dX12_missing_225 rfl ?_
        exact V_iret dX12_missing_246 rfl h
    · have h := h.2 c
      refine V_iload (pc := 207) dX12_missing_207 rfl ?_
      refine V_goto (tgt := 246) (pc := 209) dX12_missing_209 rfl ?_
      exact V_iret dX12_missing_246 rfl h
  · have h := h.2 c
    refine V_iload (pc := 62) dX12_missing_62 rfl ?_
    refine V_aload_n (pc := 64) dX12_missing_64 rfl ?_
    refine V_getR (pc := 65) fX12_32 sM0 rfl dX12_missing_65 ?_
    refine V_iload (pc := 68) dX12_missing_68 rfl ?_
    refine V_iald (pc := 70) sM8 dX12_missing_70 h.1 ?_
    have h := h.2
    refine V_iload_n (pc := 71) dX12_missing_71 rfl ?_
    refine V_icmp_ne (tgt := 79) (pc := 72) dX12_missing_72 rfl (fun c => ?_) (fun c => ?_)
    · have h := h.1 c
      refine V_iconst (v := 0) (pc := 79) dX12_missing_79 rfl ?_
      refine V_iadd (pc := 80) dX12_missing_80 ?_
      refine V_istore (pc := 81) dX12_missing_81 (by decide) ?_
      refine V_iload (pc := 83) dX12_missing_83 rfl ?_
      refine V_aload_n (pc := 85) dX12_missing_85 rfl ?_
      refine V_getR (pc := 86) fX12_32 sM0 rfl dX12_missing_86 ?_
      refine V_iload (pc := 89) dX12_missing_89 rfl ?_
      refine V_iald (pc := 91) sM8 dX12_missing_91 h.1 ?_
      have h := h.2
      refine V_iload_n (pc := 92) dX12_missing_92 rfl ?_
      refine V_icmp_ne (tgt := 100) (pc := 93) dX12_missing_93 rfl (fun c => ?_) (fun c => ?_)
      · have h := h.1 c
        refine V_iconst (v := 0) (pc := 100) dX12_missing_100 rfl ?_
        refine V_iadd (pc := 101) dX12_missing_101 ?_
        refine V_istore (pc := 102) dX12_missing_102 (by decide) ?_
        refine V_iconst (v := 0) (pc := 104) dX12_missing_104 rfl ?_
        refine V_istore (pc := 105) dX12_missing_105 (by decide) ?_
        refine V_iconst (v := 0) (pc := 107) dX12_missing_107 rfl ?_
        refine V_istore (pc := 108) dX12_missing_108 (by decide) ?_
        exact V_sub h ⟨rfl, rfl, rfl, rfl, rfl, rfl, rfl, rfl, rfl, rfl, trivial⟩
      · have h := h.2 c
        refine V_iconst (v := 1) (pc := 96) dX12_missing_96 rfl ?_
        refine V_goto (tgt := 101) (pc := 97) dX12_missing_97 rfl ?_
        refine V_iadd (pc := 101) dX12_missing_101 ?_
        refine V_istore (pc := 102) dX12_missing_102 (by decide) ?_
        refine V_iconst (v := 0) (pc := 104) dX12_missing_104 rfl ?_
        refine V_istore (pc := 105) dX12_missing_105 (by decide) ?_
        refine V_iconst (v := 0) (pc := 107) dX12_missing_107 rfl ?_
        refine V_istore (pc := 108) dX12_missing_108 (by decide) ?_
        exact V_sub h ⟨rfl, rfl, rfl, rfl, rfl, rfl, rfl, rfl, rfl, rfl, trivial⟩
    · have h := h.2 c
      refine V_iconst (v := 1) (pc := 75) dX12_missing_75 rfl ?_
      refine V_goto (tgt := 80) (pc := 76) dX12_missing_76 rfl ?_
      refine V_iadd (pc := 80) dX12_missing_80 ?_
      refine V_istore (pc := 81) dX12_missing_81 (by decide) ?_
      refine V_iload (pc := 83) dX12_missing_83 rfl ?_
      refine V_aload_n (pc := 85) dX12_missing_85 rfl ?_
      refine V_getR (pc := 86) fX12_32 sM0 rfl dX12_missing_86 ?_
      refine V_iload (pc := 89) dX12_missing_89 rfl ?_
      refine V_iald (pc := 91) sM8 dX12_missing_91 h.1 ?_
      have h := h.2
      refine V_iload_n (pc := 92) dX12_missing_92 rfl ?_
      refine V_icmp_ne (tgt := 100) (pc := 93) dX12_missing_93 rfl (fun c => ?_) (fun c => ?_)
      · have h := h.1 c
        refine V_iconst (v := 0) (pc := 100) dX12_missing_100 rfl ?_
        refine V_iadd (pc := 101) dX12_missing_101 ?_
        refine V_istore (pc := 102) dX12_missing_102 (by decide) ?_
        refine V_iconst (v := 0) (pc := 104) dX12_missing_104 rfl ?_
        refine V_istore (pc := 105) dX12_missing_105 (by decide) ?_
        refine V_iconst (v := 0) (pc := 107) dX12_missing_107 rfl ?_
        refine V_istore (pc := 108) dX12_missing_108 (by decide) ?_
        exact V_sub h ⟨rfl, rfl, rfl, rfl, rfl, rfl, rfl, rfl, rfl, rfl, trivial⟩
      · have h := h.2 c
        refine V_iconst (v := 1) (pc := 96) dX12_missing_96 rfl ?_
        refine V_goto (tgt := 101) (pc := 97) dX12_missing_97 rfl ?_
        refine V_iadd (pc := 101) dX12_missing_101 ?_
        refine V_istore (pc := 102) dX12_missing_102 (by decide) ?_
        refine V_iconst (v := 0) (pc := 104) dX12_missing_104 rfl ?_
        refine V_istore (pc := 105) dX12_missing_105 (by decide) ?_
        refine V_iconst (v := 0) (pc := 107) dX12_missing_107 rfl ?_
        refine V_istore (pc := 108) dX12_missing_108 (by decide) ?_
        exact V_sub h ⟨rfl, rfl, rfl, rfl, rfl, rfl, rfl, rfl, rfl, rfl, trivial⟩
theorem wp_X12_missing_110 {G : GV} {k : Nat} {M : Mem} {q : Int32 → Mem → Prop} {v1 : Int32} {v2 : Int32} {v3 : Int32} {v4 : Int32} {v5 : Int32} {v6 : Int32} {v7 : Int32} {v8 : Int32} {v9 : Int32} (h : (((M.1 0 10) ≤ v9 → ((v8 = 0 → V shM G mX12_missing (k + 3) 53 [(0, .ref (G.2.1 0)), (1, .int v1), (2, .int v2), (3, .int v3), (4, .int v4), (5, .int v5), (6, .int (v6 + 0)), (7, .int (v7 + 1))] [] M (Qi q)) ∧ (¬ v8 = 0 → V shM G mX12_missing (k + 3) 53 [(0, .ref (G.2.1 0)), (1, .int v1), (2, .int v2), (3, .int v3), (4, .int v4), (5, .int v5), (6, .int (v6 + 1)), (7, .int (v7 + 1))] [] M (Qi q)))) ∧ (¬ (M.1 0 10) ≤ v9 → vp_in v7 12 ∧ (((M.1 8 (ix v7)) ≠ v1 → ((v8 = 0 → V shM G mX12_missing (k + 3) 53 [(0, .ref (G.2.1 0)), (1, .int v1), (2, .int v2), (3, .int v3), (4, .int v4), (5, .int v5), (6, .int (v6 + 0)), (7, .int (v7 + 1))] [] M (Qi q)) ∧ (¬ v8 = 0 → V shM G mX12_missing (k + 3) 53 [(0, .ref (G.2.1 0)), (1, .int v1), (2, .int v2), (3, .int v3), (4, .int v4), (5, .int v5), (6, .int (v6 + 1)), (7, .int (v7 + 1))] [] M (Qi q)))) ∧ ((M.1 8 (ix v7)) = v1 → ((v8 ≠ 0 → V shM G mX12_missing (k + 3) 110 [(0, .ref (G.2.1 0)), (1, .int v1), (2, .int v2), (3, .int v3), (4, .int v4), (5, .int v5), (6, .int v6), (7, .int v7), (8, .int 1), (9, .int (v9 + 1))] [] M (Qi q)) ∧ (v8 = 0 → vp_in v9 12 ∧ (((M.1 8 (ix v9)) ≠ v2 → V shM G mX12_missing (k + 3) 110 [(0, .ref (G.2.1 0)), (1, .int v1), (2, .int v2), (3, .int v3), (4, .int v4), (5, .int v5), (6, .int v6), (7, .int v7), (8, .int 0), (9, .int (v9 + 1))] [] M (Qi q)) ∧ ((M.1 8 (ix v9)) = v2 → Ci shM G mX12_isLike (k + 2) [.ref (G.2.1 0), .int v7, .int v9] M (fun x1 M1 => ((x1 = 0 → V shM G mX12_missing (k + 3) 110 [(0, .ref (G.2.1 0)), (1, .int v1), (2, .int v2), (3, .int v3), (4, .int v4), (5, .int v5), (6, .int v6), (7, .int v7), (8, .int 0), (9, .int (v9 + 1))] [] M1 (Qi q)) ∧ (¬ x1 = 0 → Ci shM G mX12_isOneDoor (k + 2) [.ref (G.2.1 0), .int v7, .int v9] M1 (fun x2 M2 => ((x2 = 0 → V shM G mX12_missing (k + 3) 110 [(0, .ref (G.2.1 0)), (1, .int v1), (2, .int v2), (3, .int v3), (4, .int v4), (5, .int v5), (6, .int v6), (7, .int v7), (8, .int 0), (9, .int (v9 + 1))] [] M2 (Qi q)) ∧ (¬ x2 = 0 → V shM G mX12_missing (k + 3) 110 [(0, .ref (G.2.1 0)), (1, .int v1), (2, .int v2), (3, .int v3), (4, .int v4), (5, .int v5), (6, .int v6), (7, .int v7), (8, .int 1), (9, .int (v9 + 1))] [] M2 (Qi q)))))))))))))))) : V shM G mX12_missing (k + 3) 110 [(0, .ref (G.2.1 0)), (1, .int v1), (2, .int v2), (3, .int v3), (4, .int v4), (5, .int v5), (6, .int v6), (7, .int v7), (8, .int v8), (9, .int v9)] [] M (Qi q) := by
  refine V_iload (pc := 110) dX12_missing_110 rfl ?_
  refine V_aload_n (pc := 112) dX12_missing_112 rfl ?_
  refine V_getI (pc := 113) fX12_227 sM0 rfl dX12_missing_113 ?_
  refine V_icmp_ge (tgt := 181) (pc := 116) dX12_missing_116 rfl (fun c => ?_) (fun c => ?_)
  · have h := h.1 c
    refine V_iload (pc := 181) dX12_missing_181 rfl ?_
    refine V_iload (pc := 183) dX12_missing_183 rfl ?_
    refine V_if_eq (tgt := 192) (pc := 185) dX12_missing_185 rfl (fun c => ?_) (fun c => ?_)
    · have h := h.1 c
      refine V_iconst (v := 0) (pc := 192) dX12_missing_192 rfl ?_
      refine V_iadd (pc := 193) dX12_missing_193 ?_
      refine V_istore (pc := 194) dX12_missing_194 (by decide) ?_
      refine V_iinc (pc := 196) dX12_missing_196 rfl (by decide) ?_
      refine V_goto (tgt := 53) (pc := 199) dX12_missing_199 rfl ?_
      exact V_sub h ⟨rfl, rfl, rfl, rfl, rfl, rfl, rfl, rfl, trivial⟩
    · have h := h.2 c
      refine V_iconst (v := 1) (pc := 188) dX12_missing_188 rfl ?_
      refine V_goto (tgt := 193) (pc := 189) dX12_missing_189 rfl ?_
      refine V_iadd (pc := 193) dX12_missing_193 ?_
      refine V_istore (pc := 194) dX12_missing_194 (by decide) ?_
      refine V_iinc (pc := 196) dX12_missing_196 rfl (by decide) ?_
      refine V_goto (tgt := 53) (pc := 199) dX12_missing_199 rfl ?_
      exact V_sub h ⟨rfl, rfl, rfl, rfl, rfl, rfl, rfl, rfl, trivial⟩
  · have h := h.2 c
    refine V_aload_n (pc := 119) dX12_missing_119 rfl ?_
    refine V_getR (pc := 120) fX12_32 sM0 rfl dX12_missing_120 ?_
    refine V_iload (pc := 123) dX12_missing_123 rfl ?_
    refine V_iald (pc := 125) sM8 dX12_missing_125 h.1 ?_
    have h := h.2
    refine V_iload_n (pc := 126) dX12_missing_126 rfl ?_
    refine V_icmp_ne (tgt := 181) (pc := 127) dX12_missing_127 rfl (fun c => ?_) (fun c => ?_)
    · have h := h.1 c
      refine V_iload (pc := 181) dX12_missing_181 rfl ?_
      refine V_iload (pc := 183) dX12_missing_183 rfl ?_
      refine V_if_eq (tgt := 192) (pc := 185) dX12_missing_185 rfl (fun c => ?_) (fun c => ?_)
      · have h := h.1 c
        refine V_iconst (v := 0) (pc := 192) dX12_missing_192 rfl ?_
        refine V_iadd (pc := 193) dX12_missing_193 ?_
        refine V_istore (pc := 194) dX12_missing_194 (by decide) ?_
        refine V_iinc (pc := 196) dX12_missing_196 rfl (by decide) ?_
        refine V_goto (tgt := 53) (pc := 199) dX12_missing_199 rfl ?_
        exact V_sub h ⟨rfl, rfl, rfl, rfl, rfl, rfl, rfl, rfl, trivial⟩
      · have h := h.2 c
        refine V_iconst (v := 1) (pc := 188) dX12_missing_188 rfl ?_
        refine V_goto (tgt := 193) (pc := 189) dX12_missing_189 rfl ?_
        refine V_iadd (pc := 193) dX12_missing_193 ?_
        refine V_istore (pc := 194) dX12_missing_194 (by decide) ?_
        refine V_iinc (pc := 196) dX12_missing_196 rfl (by decide) ?_
        refine V_goto (tgt := 53) (pc := 199) dX12_missing_199 rfl ?_
        exact V_sub h ⟨rfl, rfl, rfl, rfl, rfl, rfl, rfl, rfl, trivial⟩
    · have h := h.2 c
      refine V_iload (pc := 130) dX12_missing_130 rfl ?_
      refine V_if_ne (tgt := 168) (pc := 132) dX12_missing_132 rfl (fun c => ?_) (fun c => ?_)
      · have h := h.1 c
        refine V_iconst (v := 1) (pc := 168) dX12_missing_168 rfl ?_
        refine V_goto (tgt := 173) (pc := 169) dX12_missing_169 rfl ?_
        refine V_istore (pc := 173) dX12_missing_173 (by decide) ?_
        refine V_iinc (pc := 175) dX12_missing_175 rfl (by decide) ?_
        refine V_goto (tgt := 110) (pc := 178) dX12_missing_178 rfl ?_
        exact V_sub h ⟨rfl, rfl, rfl, rfl, rfl, rfl, rfl, rfl, rfl, rfl, trivial⟩
      · have h := h.2 c
        refine V_aload_n (pc := 135) dX12_missing_135 rfl ?_
        refine V_getR (pc := 136) fX12_32 sM0 rfl dX12_missing_136 ?_
        refine V_iload (pc := 139) dX12_missing_139 rfl ?_
        refine V_iald (pc := 141) sM8 dX12_missing_141 h.1 ?_
        have h := h.2
        refine V_iload_n (pc := 142) dX12_missing_142 rfl ?_
        refine V_icmp_ne (tgt := 172) (pc := 143) dX12_missing_143 rfl (fun c => ?_) (fun c => ?_)
        · have h := h.1 c
          refine V_iconst (v := 0) (pc := 172) dX12_missing_172 rfl ?_
          refine V_istore (pc := 173) dX12_missing_173 (by decide) ?_
          refine V_iinc (pc := 175) dX12_missing_175 rfl (by decide) ?_
          refine V_goto (tgt := 110) (pc := 178) dX12_missing_178 rfl ?_
          exact V_sub h ⟨rfl, rfl, rfl, rfl, rfl, rfl, rfl, rfl, rfl, rfl, trivial⟩
        · have h := h.2 c
          refine V_aload_n (pc := 146) dX12_missing_146 rfl ?_
          refine V_iload (pc := 147) dX12_missing_147 rfl ?_
          refine V_iload (pc := 149) dX12_missing_149 rfl ?_
          refine V_callVi [.int v7, .int v9] (pc := 151) kX12_isLike lX12_286 sM0 rfl rfl (Nat.le_of_ble_eq_true rfl) rfl (Nat.le_of_ble_eq_true rfl) dX12_missing_151 ?_
          refine Ci.mono h ?_
          intro x1 M1 h
          refine V_if_eq (tgt := 172) (pc := 154) dX12_missing_154 rfl (fun c => ?_) (fun c => ?_)
          · have h := h.1 c
            refine V_iconst (v := 0) (pc := 172) dX12_missing_172 rfl ?_
            refine V_istore (pc := 173) dX12_missing_173 (by decide) ?_
            refine V_iinc (pc := 175) dX12_missing_175 rfl (by decide) ?_
            refine V_goto (tgt := 110) (pc := 178) dX12_missing_178 rfl ?_
            exact V_sub h ⟨rfl, rfl, rfl, rfl, rfl, rfl, rfl, rfl, rfl, rfl, trivial⟩
          · have h := h.2 c
            refine V_aload_n (pc := 157) dX12_missing_157 rfl ?_
            refine V_iload (pc := 158) dX12_missing_158 rfl ?_
            refine V_iload (pc := 160) dX12_missing_160 rfl ?_
            refine V_callVi [.int v7, .int v9] (pc := 162) kX12_isOneDoor lX12_295 sM0 rfl rfl (Nat.le_of_ble_eq_true rfl) rfl (Nat.le_of_ble_eq_true rfl) dX12_missing_162 ?_
            refine Ci.mono h ?_
            intro x2 M2 h
            refine V_if_eq (tgt := 172) (pc := 165) dX12_missing_165 rfl (fun c => ?_) (fun c => ?_)
            · have h := h.1 c
              refine V_iconst (v := 0) (pc := 172) dX12_missing_172 rfl ?_
              refine V_istore (pc := 173) dX12_missing_173 (by decide) ?_
              refine V_iinc (pc := 175) dX12_missing_175 rfl (by decide) ?_
              refine V_goto (tgt := 110) (pc := 178) dX12_missing_178 rfl ?_
              exact V_sub h ⟨rfl, rfl, rfl, rfl, rfl, rfl, rfl, rfl, rfl, rfl, trivial⟩
            · have h := h.2 c
              refine V_iconst (v := 1) (pc := 168) dX12_missing_168 rfl ?_
              refine V_goto (tgt := 173) (pc := 169) dX12_missing_169 rfl ?_
              refine V_istore (pc := 173) dX12_missing_173 (by decide) ?_
              refine V_iinc (pc := 175) dX12_missing_175 rfl (by decide) ?_
              refine V_goto (tgt := 110) (pc := 178) dX12_missing_178 rfl ?_
              exact V_sub h ⟨rfl, rfl, rfl, rfl, rfl, rfl, rfl, rfl, rfl, rfl, trivial⟩
theorem wp_X12_next {G : GV} {k : Nat} {M : Mem} {q : Int32 → Mem → Prop}  (h : V shM G mX12_next (k + 3) 12 [(0, .ref (G.2.1 0)), (1, .int (-1000000)), (2, .int 0), (3, .int 0)] [] (mset M 0 0 0) (Qi q)) : Ci shM G mX12_next (k + 3) [.ref (G.2.1 0)] M q := by
  unfold Ci
  show V _ _ _ _ _ [(0, .ref (G.2.1 0))] _ _ _
  refine V_aload_n (pc := 0) dX12_next_0 rfl ?_
  refine V_iconst (v := 0) (pc := 1) dX12_next_1 rfl ?_
  refine V_putI (pc := 2) fX12_108 p12_0 sM0 rfl dX12_next_2 ?_
  refine V_ldc (pc := 5) dX12_next_5 nX12_144 ?_
  refine V_istore_n (pc := 7) dX12_next_7 (by decide) ?_
  refine V_iconst (v := 0) (pc := 8) dX12_next_8 rfl ?_
  refine V_istore_n (pc := 9) dX12_next_9 (by decide) ?_
  refine V_iconst (v := 0) (pc := 10) dX12_next_10 rfl ?_
  refine V_istore_n (pc := 11) dX12_next_11 (by decide) ?_
  exact V_sub h ⟨rfl, rfl, rfl, rfl, trivial⟩
theorem wp_X12_next_12 {G : GV} {k : Nat} {M : Mem} {q : Int32 → Mem → Prop} {v1 : Int32} {v2 : Int32} {v3 : Int32} (h : (((M.1 0 5) ≤ v3 → q v1 M) ∧ (¬ (M.1 0 5) ≤ v3 → V shM G mX12_next (k + 3) 26 [(0, .ref (G.2.1 0)), (1, .int v1), (2, .int v2), (3, .int v3), (4, .int 0), (5, .int 0)] [] M (Qi q)))) : V shM G mX12_next (k + 3) 12 [(0, .ref (G.2.1 0)), (1, .int v1), (2, .int v2), (3, .int v3)] [] M (Qi q) := by
  refine V_iload_n (pc := 12) dX12_next_12 rfl ?_
  refine V_aload_n (pc := 13) dX12_next_13 rfl ?_
  refine V_getI (pc := 14) fX12_224 sM0 rfl dX12_next_14 ?_
  refine V_icmp_ge (tgt := 184) (pc := 17) dX12_next_17 rfl (fun c => ?_) (fun c => ?_)
  · have h := h.1 c
    refine V_iload_n (pc := 184) dX12_next_184 rfl ?_
    exact V_iret dX12_next_185 rfl h
  · have h := h.2 c
    refine V_iconst (v := 0) (pc := 20) dX12_next_20 rfl ?_
    refine V_istore (pc := 21) dX12_next_21 (by decide) ?_
    refine V_iconst (v := 0) (pc := 23) dX12_next_23 rfl ?_
    refine V_istore (pc := 24) dX12_next_24 (by decide) ?_
    exact V_sub h ⟨rfl, rfl, rfl, rfl, rfl, rfl, trivial⟩
theorem wp_X12_next_26 {G : GV} {k : Nat} {M : Mem} {q : Int32 → Mem → Prop} {v1 : Int32} {v2 : Int32} {v3 : Int32} {v4 : Int32} {v5 : Int32} (h : (((M.1 0 10) ≤ v5 → vp_in v3 10 ∧ ¬ (M.1 6 (ix v3)) = 0 ∧ vp_in v3 10 ∧ (((M.1 7 (ix v3)) ≠ 0 → V shM G mX12_next (k + 3) 12 [(0, .ref (G.2.1 0)), (1, .int v1), (2, .int v2), (3, .int (v3 + 1))] [] M (Qi q)) ∧ ((M.1 7 (ix v3)) = 0 → ((v1 = (-1000000) → V shM G mX12_next (k + 3) 12 [(0, .ref (G.2.1 0)), (1, .int v3), (2, .int ((1000 * v4) / (M.1 6 (ix v3)))), (3, .int (v3 + 1))] [] M (Qi q)) ∧ (¬ v1 = (-1000000) → ((((1000 * v4) / (M.1 6 (ix v3))) ≤ v2 → V shM G mX12_next (k + 3) 12 [(0, .ref (G.2.1 0)), (1, .int v1), (2, .int v2), (3, .int (v3 + 1))] [] M (Qi q)) ∧ (¬ ((1000 * v4) / (M.1 6 (ix v3))) ≤ v2 → V shM G mX12_next (k + 3) 12 [(0, .ref (G.2.1 0)), (1, .int v3), (2, .int ((1000 * v4) / (M.1 6 (ix v3)))), (3, .int (v3 + 1))] [] M (Qi q)))))))) ∧ (¬ (M.1 0 10) ≤ v5 → V shM G mX12_next (k + 3) 41 [(0, .ref (G.2.1 0)), (1, .int v1), (2, .int v2), (3, .int v3), (4, .int v4), (5, .int v5), (6, .int 0), (7, .int 0)] [] M (Qi q)))) : V shM G mX12_next (k + 3) 26 [(0, .ref (G.2.1 0)), (1, .int v1), (2, .int v2), (3, .int v3), (4, .int v4), (5, .int v5)] [] M (Qi q) := by
  refine V_iload (pc := 26) dX12_next_26 rfl ?_
  refine V_aload_n (pc := 28) dX12_next_28 rfl ?_
  refine V_getI (pc := 29) fX12_227 sM0 rfl dX12_next_29 ?_
  refine V_icmp_ge (tgt := 137) (pc := 32) dX12_next_32 rfl (fun c => ?_) (fun c => ?_)
  · have h := h.1 c
    refine V_sipush (v := 1000) (pc := 137) dX12_next_137 rfl ?_
    refine V_iload (pc := 140) dX12_next_140 rfl ?_
    refine V_imul (pc := 142) dX12_next_142 ?_
    refine V_aload_n (pc := 143) dX12_next_143 rfl ?_
    refine V_getR (pc := 144) fX12_25 sM0 rfl dX12_next_144 ?_
    refine V_iload_n (pc := 147) dX12_next_147 rfl ?_
    refine V_iald (pc := 148) sM6 dX12_next_148 h.1 ?_
    have h := h.2
    refine V_idiv (pc := 149) dX12_next_149 h.1 ?_
    have h := h.2
    refine V_istore (pc := 150) dX12_next_150 (by decide) ?_
    refine V_aload_n (pc := 152) dX12_next_152 rfl ?_
    refine V_getR (pc := 153) fX12_28 sM0 rfl dX12_next_153 ?_
    refine V_iload_n (pc := 156) dX12_next_156 rfl ?_
    refine V_zald (pc := 157) sM7 dX12_next_157 h.1 ?_
    have h := h.2
    refine V_if_ne (tgt := 178) (pc := 158) dX12_next_158 rfl (fun c => ?_) (fun c => ?_)
    · have h := h.1 c
      refine V_iinc (pc := 178) dX12_next_178 rfl (by decide) ?_
      refine V_goto (tgt := 12) (pc := 181) dX12_next_181 rfl ?_
      exact V_sub h ⟨rfl, rfl, rfl, rfl, trivial⟩
    · have h := h.2 c
      refine V_iload_n (pc := 161) dX12_next_161 rfl ?_
      refine V_ldc (pc := 162) dX12_next_162 nX12_144 ?_
      refine V_icmp_eq (tgt := 173) (pc := 164) dX12_next_164 rfl (fun c => ?_) (fun c => ?_)
      · have h := h.1 c
        refine V_iload_n (pc := 173) dX12_next_173 rfl ?_
        refine V_istore_n (pc := 174) dX12_next_174 (by decide) ?_
        refine V_iload (pc := 175) dX12_next_175 rfl ?_
        refine V_istore_n (pc := 177) dX12_next_177 (by decide) ?_
        refine V_iinc (pc := 178) dX12_next_178 rfl (by decide) ?_
        refine V_goto (tgt := 12) (pc := 181) dX12_next_181 rfl ?_
        exact V_sub h ⟨rfl, rfl, rfl, rfl, trivial⟩
      · have h := h.2 c
        refine V_iload (pc := 167) dX12_next_167 rfl ?_
        refine V_iload_n (pc := 169) dX12_next_169 rfl ?_
        refine V_icmp_le (tgt := 178) (pc := 170) dX12_next_170 rfl (fun c => ?_) (fun c => ?_)
        · have h := h.1 c
          refine V_iinc (pc := 178) dX12_next_178 rfl (by decide) ?_
          refine V_goto (tgt := 12) (pc := 181) dX12_next_181 rfl ?_
          exact V_sub h ⟨rfl, rfl, rfl, rfl, trivial⟩
        · have h := h.2 c
          refine V_iload_n (pc := 173) dX12_next_173 rfl ?_
          refine V_istore_n (pc := 174) dX12_next_174 (by decide) ?_
          refine V_iload (pc := 175) dX12_next_175 rfl ?_
          refine V_istore_n (pc := 177) dX12_next_177 (by decide) ?_
          refine V_iinc (pc := 178) dX12_next_178 rfl (by decide) ?_
          refine V_goto (tgt := 12) (pc := 181) dX12_next_181 rfl ?_
          exact V_sub h ⟨rfl, rfl, rfl, rfl, trivial⟩
  · have h := h.2 c
    refine V_iconst (v := 0) (pc := 35) dX12_next_35 rfl ?_
    refine V_istore (pc := 36) dX12_next_36 (by decide) ?_
    refine V_iconst (v := 0) (pc := 38) dX12_next_38 rfl ?_
    refine V_istore (pc := 39) dX12_next_39 (by decide) ?_
    exact V_sub h ⟨rfl, rfl, rfl, rfl, rfl, rfl, rfl, rfl, trivial⟩
theorem wp_X12_next_41 {G : GV} {k : Nat} {M : Mem} {q : Int32 → Mem → Prop} {v1 : Int32} {v2 : Int32} {v3 : Int32} {v4 : Int32} {v5 : Int32} {v6 : Int32} {v7 : Int32} (h : (((M.1 0 10) ≤ v7 → vp_in v5 12 ∧ (((M.1 8 (ix v5)) ≠ v3 → V shM G mX12_next (k + 3) 26 [(0, .ref (G.2.1 0)), (1, .int v1), (2, .int v2), (3, .int v3), (4, .int (v4 + 0)), (5, .int (v5 + 1))] [] M (Qi q)) ∧ ((M.1 8 (ix v5)) = v3 → ((v6 ≠ 0 → V shM G mX12_next (k + 3) 26 [(0, .ref (G.2.1 0)), (1, .int v1), (2, .int v2), (3, .int v3), (4, .int (v4 + 0)), (5, .int (v5 + 1))] [] M (Qi q)) ∧ (v6 = 0 → V shM G mX12_next (k + 3) 26 [(0, .ref (G.2.1 0)), (1, .int v1), (2, .int v2), (3, .int v3), (4, .int (v4 + 1)), (5, .int (v5 + 1))] [] M (Qi q)))))) ∧ (¬ (M.1 0 10) ≤ v7 → vp_in v5 12 ∧ (((M.1 8 (ix v5)) ≠ v3 → vp_in v5 12 ∧ (((M.1 8 (ix v5)) ≠ v3 → V shM G mX12_next (k + 3) 26 [(0, .ref (G.2.1 0)), (1, .int v1), (2, .int v2), (3, .int v3), (4, .int (v4 + 0)), (5, .int (v5 + 1))] [] M (Qi q)) ∧ ((M.1 8 (ix v5)) = v3 → ((v6 ≠ 0 → V shM G mX12_next (k + 3) 26 [(0, .ref (G.2.1 0)), (1, .int v1), (2, .int v2), (3, .int v3), (4, .int (v4 + 0)), (5, .int (v5 + 1))] [] M (Qi q)) ∧ (v6 = 0 → V shM G mX12_next (k + 3) 26 [(0, .ref (G.2.1 0)), (1, .int v1), (2, .int v2), (3, .int v3), (4, .int (v4 + 1)), (5, .int (v5 + 1))] [] M (Qi q)))))) ∧ ((M.1 8 (ix v5)) = v3 → ((v6 ≠ 0 → V shM G mX12_next (k + 3) 41 [(0, .ref (G.2.1 0)), (1, .int v1), (2, .int v2), (3, .int v3), (4, .int v4), (5, .int v5), (6, .int 1), (7, .int (v7 + 1))] [] M (Qi q)) ∧ (v6 = 0 → vp_in v7 12 ∧ vp_in (M.1 8 (ix v7)) 10 ∧ (((M.1 7 (ix (M.1 8 (ix v7)))) = 0 → V shM G mX12_next (k + 3) 41 [(0, .ref (G.2.1 0)), (1, .int v1), (2, .int v2), (3, .int v3), (4, .int v4), (5, .int v5), (6, .int 0), (7, .int (v7 + 1))] [] M (Qi q)) ∧ (¬ (M.1 7 (ix (M.1 8 (ix v7)))) = 0 → Ci shM G mX12_isOneDoor (k + 2) [.ref (G.2.1 0), .int v5, .int v7] M (fun x1 M1 => ((x1 = 0 → V shM G mX12_next (k + 3) 41 [(0, .ref (G.2.1 0)), (1, .int v1), (2, .int v2), (3, .int v3), (4, .int v4), (5, .int v5), (6, .int 0), (7, .int (v7 + 1))] [] M1 (Qi q)) ∧ (¬ x1 = 0 → V shM G mX12_next (k + 3) 41 [(0, .ref (G.2.1 0)), (1, .int v1), (2, .int v2), (3, .int v3), (4, .int v4), (5, .int v5), (6, .int 1), (7, .int (v7 + 1))] [] M1 (Qi q))))))))))))) : V shM G mX12_next (k + 3) 41 [(0, .ref (G.2.1 0)), (1, .int v1), (2, .int v2), (3, .int v3), (4, .int v4), (5, .int v5), (6, .int v6), (7, .int v7)] [] M (Qi q) := by
  refine V_iload (pc := 41) dX12_next_41 rfl ?_
  refine V_aload_n (pc := 43) dX12_next_43 rfl ?_
  refine V_getI (pc := 44) fX12_227 sM0 rfl dX12_next_44 ?_
  refine V_icmp_ge (tgt := 105) (pc := 47) dX12_next_47 rfl (fun c => ?_) (fun c => ?_)
  · have h := h.1 c
    refine V_iload (pc := 105) dX12_next_105 rfl ?_
    refine V_aload_n (pc := 107) dX12_next_107 rfl ?_
    refine V_getR (pc := 108) fX12_32 sM0 rfl dX12_next_108 ?_
    refine V_iload (pc := 111) dX12_next_111 rfl ?_
    refine V_iald (pc := 113) sM8 dX12_next_113 h.1 ?_
    have h := h.2
    refine V_iload_n (pc := 114) dX12_next_114 rfl ?_
    refine V_icmp_ne (tgt := 127) (pc := 115) dX12_next_115 rfl (fun c => ?_) (fun c => ?_)
    · have h := h.1 c
      refine V_iconst (v := 0) (pc := 127) dX12_next_127 rfl ?_
      refine V_iadd (pc := 128) dX12_next_128 ?_
      refine V_istore (pc := 129) dX12_next_129 (by decide) ?_
      refine V_iinc (pc := 131) dX12_next_131 rfl (by decide) ?_
      refine V_goto (tgt := 26) (pc := 134) dX12_next_134 rfl ?_
      exact V_sub h ⟨rfl, rfl, rfl, rfl, rfl, rfl, trivial⟩
    · have h := h.2 c
      refine V_iload (pc := 118) dX12_next_118 rfl ?_
      refine V_if_ne (tgt := 127) (pc := 120) dX12_next_120 rfl (fun c => ?_) (fun c => ?_)
      · have h := h.1 c
        refine V_iconst (v := 0) (pc := 127) dX12_next_127 rfl ?_
        refine V_iadd (pc := 128) dX12_next_128 ?_
        refine V_istore (pc := 129) dX12_next_129 (by decide) ?_
        refine V_iinc (pc := 131) dX12_next_131 rfl (by decide) ?_
        refine V_goto (tgt := 26) (pc := 134) dX12_next_134 rfl ?_
        exact V_sub h ⟨rfl, rfl, rfl, rfl, rfl, rfl, trivial⟩
      · have h := h.2 c
        refine V_iconst (v := 1) (pc := 123) dX12_next_123 rfl ?_
        refine V_goto (tgt := 128) (pc := 124) dX12_next_124 rfl ?_
        refine V_iadd (pc := 128) dX12_next_128 ?_
        refine V_istore (pc := 129) dX12_next_129 (by decide) ?_
        refine V_iinc (pc := 131) dX12_next_131 rfl (by decide) ?_
        refine V_goto (tgt := 26) (pc := 134) dX12_next_134 rfl ?_
        exact V_sub h ⟨rfl, rfl, rfl, rfl, rfl, rfl, trivial⟩
  · have h := h.2 c
    refine V_aload_n (pc := 50) dX12_next_50 rfl ?_
    refine V_getR (pc := 51) fX12_32 sM0 rfl dX12_next_51 ?_
    refine V_iload (pc := 54) dX12_next_54 rfl ?_
    refine V_iald (pc := 56) sM8 dX12_next_56 h.1 ?_
    have h := h.2
    refine V_iload_n (pc := 57) dX12_next_57 rfl ?_
    refine V_icmp_ne (tgt := 105) (pc := 58) dX12_next_58 rfl (fun c => ?_) (fun c => ?_)
    · have h := h.1 c
      refine V_iload (pc := 105) dX12_next_105 rfl ?_
      refine V_aload_n (pc := 107) dX12_next_107 rfl ?_
      refine V_getR (pc := 108) fX12_32 sM0 rfl dX12_next_108 ?_
      refine V_iload (pc := 111) dX12_next_111 rfl ?_
      refine V_iald (pc := 113) sM8 dX12_next_113 h.1 ?_
      have h := h.2
      refine V_iload_n (pc := 114) dX12_next_114 rfl ?_
      refine V_icmp_ne (tgt := 127) (pc := 115) dX12_next_115 rfl (fun c => ?_) (fun c => ?_)
      · have h := h.1 c
        refine V_iconst (v := 0) (pc := 127) dX12_next_127 rfl ?_
        refine V_iadd (pc := 128) dX12_next_128 ?_
        refine V_istore (pc := 129) dX12_next_129 (by decide) ?_
        refine V_iinc (pc := 131) dX12_next_131 rfl (by decide) ?_
        refine V_goto (tgt := 26) (pc := 134) dX12_next_134 rfl ?_
        exact V_sub h ⟨rfl, rfl, rfl, rfl, rfl, rfl, trivial⟩
      · have h := h.2 c
        refine V_iload (pc := 118) dX12_next_118 rfl ?_
        refine V_if_ne (tgt := 127) (pc := 120) dX12_next_120 rfl (fun c => ?_) (fun c => ?_)
        · have h := h.1 c
          refine V_iconst (v := 0) (pc := 127) dX12_next_127 rfl ?_
          refine V_iadd (pc := 128) dX12_next_128 ?_
          refine V_istore (pc := 129) dX12_next_129 (by decide) ?_
          refine V_iinc (pc := 131) dX12_next_131 rfl (by decide) ?_
          refine V_goto (tgt := 26) (pc := 134) dX12_next_134 rfl ?_
          exact V_sub h ⟨rfl, rfl, rfl, rfl, rfl, rfl, trivial⟩
        · have h := h.2 c
          refine V_iconst (v := 1) (pc := 123) dX12_next_123 rfl ?_
          refine V_goto (tgt := 128) (pc := 124) dX12_next_124 rfl ?_
          refine V_iadd (pc := 128) dX12_next_128 ?_
          refine V_istore (pc := 129) dX12_next_129 (by decide) ?_
          refine V_iinc (pc := 131) dX12_next_131 rfl (by decide) ?_
          refine V_goto (tgt := 26) (pc := 134) dX12_next_134 rfl ?_
          exact V_sub h ⟨rfl, rfl, rfl, rfl, rfl, rfl, trivial⟩
    · have h := h.2 c
      refine V_iload (pc := 61) dX12_next_61 rfl ?_
      refine V_if_ne (tgt := 92) (pc := 63) dX12_next_63 rfl (fun c => ?_) (fun c => ?_)
      · have h := h.1 c
        refine V_iconst (v := 1) (pc := 92) dX12_next_92 rfl ?_
        refine V_goto (tgt := 97) (pc := 93) dX12_next_93 rfl ?_
        refine V_istore (pc := 97) dX12_next_97 (by decide) ?_
        refine V_iinc (pc := 99) dX12_next_99 rfl (by decide) ?_
        refine V_goto (tgt := 41) (pc := 102) dX12_next_102 rfl ?_
        exact V_sub h ⟨rfl, rfl, rfl, rfl, rfl, rfl, rfl, rfl, trivial⟩
      · have h := h.2 c
        refine V_aload_n (pc := 66) dX12_next_66 rfl ?_
        refine V_getR (pc := 67) fX12_28 sM0 rfl dX12_next_67 ?_
        refine V_aload_n (pc := 70) dX12_next_70 rfl ?_
        refine V_getR (pc := 71) fX12_32 sM0 rfl dX12_next_71 ?_
        refine V_iload (pc := 74) dX12_next_74 rfl ?_
        refine V_iald (pc := 76) sM8 dX12_next_76 h.1 ?_
        have h := h.2
        refine V_zald (pc := 77) sM7 dX12_next_77 h.1 ?_
        have h := h.2
        refine V_if_eq (tgt := 96) (pc := 78) dX12_next_78 rfl (fun c => ?_) (fun c => ?_)
        · have h := h.1 c
          refine V_iconst (v := 0) (pc := 96) dX12_next_96 rfl ?_
          refine V_istore (pc := 97) dX12_next_97 (by decide) ?_
          refine V_iinc (pc := 99) dX12_next_99 rfl (by decide) ?_
          refine V_goto (tgt := 41) (pc := 102) dX12_next_102 rfl ?_
          exact V_sub h ⟨rfl, rfl, rfl, rfl, rfl, rfl, rfl, rfl, trivial⟩
        · have h := h.2 c
          refine V_aload_n (pc := 81) dX12_next_81 rfl ?_
          refine V_iload (pc := 82) dX12_next_82 rfl ?_
          refine V_iload (pc := 84) dX12_next_84 rfl ?_
          refine V_callVi [.int v5, .int v7] (pc := 86) kX12_isOneDoor lX12_295 sM0 rfl rfl (Nat.le_of_ble_eq_true rfl) rfl (Nat.le_of_ble_eq_true rfl) dX12_next_86 ?_
          refine Ci.mono h ?_
          intro x1 M1 h
          refine V_if_eq (tgt := 96) (pc := 89) dX12_next_89 rfl (fun c => ?_) (fun c => ?_)
          · have h := h.1 c
            refine V_iconst (v := 0) (pc := 96) dX12_next_96 rfl ?_
            refine V_istore (pc := 97) dX12_next_97 (by decide) ?_
            refine V_iinc (pc := 99) dX12_next_99 rfl (by decide) ?_
            refine V_goto (tgt := 41) (pc := 102) dX12_next_102 rfl ?_
            exact V_sub h ⟨rfl, rfl, rfl, rfl, rfl, rfl, rfl, rfl, trivial⟩
          · have h := h.2 c
            refine V_iconst (v := 1) (pc := 92) dX12_next_92 rfl ?_
            refine V_goto (tgt := 97) (pc := 93) dX12_next_93 rfl ?_
            refine V_istore (pc := 97) dX12_next_97 (by decide) ?_
            refine V_iinc (pc := 99) dX12_next_99 rfl (by decide) ?_
            refine V_goto (tgt := 41) (pc := 102) dX12_next_102 rfl ?_
            exact V_sub h ⟨rfl, rfl, rfl, rfl, rfl, rfl, rfl, rfl, trivial⟩
theorem wp_X12_numberIn {G : GV} {k : Nat} {M : Mem} {q : Int32 → Mem → Prop} {v1 : Int32} {v2 : Int32} {v3 : Int32} (h : (((M.1 0 36) ≤ 0 → V shM G mX12_numberIn (k + 3) 18 [(0, .ref (G.2.1 0)), (1, .int v1), (2, .int v2), (3, .int v3), (4, .int 0), (5, .int (M.1 0 34))] [] M (Qi q)) ∧ (¬ (M.1 0 36) ≤ 0 → q 0 M))) : Ci shM G mX12_numberIn (k + 3) [.ref (G.2.1 0), .int v1, .int v2, .int v3] M q := by
  unfold Ci
  show V _ _ _ _ _ [(0, .ref (G.2.1 0)), (1, .int v1), (2, .int v2), (3, .int v3)] _ _ _
  refine V_aload_n (pc := 0) dX12_numberIn_0 rfl ?_
  refine V_getI (pc := 1) fX12_166 sM0 rfl dX12_numberIn_1 ?_
  refine V_if_le (tgt := 9) (pc := 4) dX12_numberIn_4 rfl (fun c => ?_) (fun c => ?_)
  · have h := h.1 c
    refine V_iconst (v := 0) (pc := 9) dX12_numberIn_9 rfl ?_
    refine V_istore (pc := 10) dX12_numberIn_10 (by decide) ?_
    refine V_aload_n (pc := 12) dX12_numberIn_12 rfl ?_
    refine V_getI (pc := 13) fX12_151 sM0 rfl dX12_numberIn_13 ?_
    refine V_istore (pc := 16) dX12_numberIn_16 (by decide) ?_
    exact V_sub h ⟨rfl, rfl, rfl, rfl, rfl, rfl, trivial⟩
  · have h := h.2 c
    refine V_iconst (v := 0) (pc := 7) dX12_numberIn_7 rfl ?_
    exact V_iret dX12_numberIn_8 rfl h
theorem wp_X12_numberIn_18 {G : GV} {k : Nat} {M : Mem} {q : Int32 → Mem → Prop} {v1 : Int32} {v2 : Int32} {v3 : Int32} {v4 : Int32} {v5 : Int32} (h : (((M.1 0 35) ≤ v5 → (((M.1 0 33) ≠ 3 → (((M.1 0 33) ≠ 3 → Cv shM G mX12_need (k + 2) [.ref (G.2.1 0), .int 0] M (fun M1 => q v4 M1)) ∧ ((M.1 0 33) = 3 → Cv shM G mX12_need (k + 2) [.ref (G.2.1 0), .int 1] M (fun M2 => q v4 M2)))) ∧ ((M.1 0 33) = 3 → Ci shM G mX12_in (k + 2) [.long (Int32.toInt64 v4), .long (Int32.toInt64 v1), .long (Int32.toInt64 v2)] M (fun x3 M3 => ((x3 = 0 → Cv shM G mX12_bad (k + 2) [.ref (G.2.1 0), .int 2] M3 (fun M4 => (((M4.1 0 33) ≠ 3 → Cv shM G mX12_need (k + 2) [.ref (G.2.1 0), .int 0] M4 (fun M5 => q v4 M5)) ∧ ((M4.1 0 33) = 3 → Cv shM G mX12_need (k + 2) [.ref (G.2.1 0), .int 1] M4 (fun M6 => q v4 M6))))) ∧ (¬ x3 = 0 → ((v4 ≠ v3 → (((M3.1 0 33) ≠ 3 → Cv shM G mX12_need (k + 2) [.ref (G.2.1 0), .int 0] M3 (fun M7 => q v4 M7)) ∧ ((M3.1 0 33) = 3 → Cv shM G mX12_need (k + 2) [.ref (G.2.1 0), .int 1] M3 (fun M8 => q v4 M8)))) ∧ (v4 = v3 → Cv shM G mX12_bad (k + 2) [.ref (G.2.1 0), .int 2] M3 (fun M9 => (((M9.1 0 33) ≠ 3 → Cv shM G mX12_need (k + 2) [.ref (G.2.1 0), .int 0] M9 (fun M10 => q v4 M10)) ∧ ((M9.1 0 33) = 3 → Cv shM G mX12_need (k + 2) [.ref (G.2.1 0), .int 1] M9 (fun M11 => q v4 M11)))))))))))) ∧ (¬ (M.1 0 35) ≤ v5 → (((M.1 0 33) ≠ 3 → (((M.1 0 33) ≠ 3 → (((M.1 0 33) ≠ 3 → Cv shM G mX12_need (k + 2) [.ref (G.2.1 0), .int 0] M (fun M12 => q v4 M12)) ∧ ((M.1 0 33) = 3 → Cv shM G mX12_need (k + 2) [.ref (G.2.1 0), .int 1] M (fun M13 => q v4 M13)))) ∧ ((M.1 0 33) = 3 → Ci shM G mX12_in (k + 2) [.long (Int32.toInt64 v4), .long (Int32.toInt64 v1), .long (Int32.toInt64 v2)] M (fun x14 M14 => ((x14 = 0 → Cv shM G mX12_bad (k + 2) [.ref (G.2.1 0), .int 2] M14 (fun M15 => (((M15.1 0 33) ≠ 3 → Cv shM G mX12_need (k + 2) [.ref (G.2.1 0), .int 0] M15 (fun M16 => q v4 M16)) ∧ ((M15.1 0 33) = 3 → Cv shM G mX12_need (k + 2) [.ref (G.2.1 0), .int 1] M15 (fun M17 => q v4 M17))))) ∧ (¬ x14 = 0 → ((v4 ≠ v3 → (((M14.1 0 33) ≠ 3 → Cv shM G mX12_need (k + 2) [.ref (G.2.1 0), .int 0] M14 (fun M18 => q v4 M18)) ∧ ((M14.1 0 33) = 3 → Cv shM G mX12_need (k + 2) [.ref (G.2.1 0), .int 1] M14 (fun M19 => q v4 M19)))) ∧ (v4 = v3 → Cv shM G mX12_bad (k + 2) [.ref (G.2.1 0), .int 2] M14 (fun M20 => (((M20.1 0 33) ≠ 3 → Cv shM G mX12_need (k + 2) [.ref (G.2.1 0), .int 0] M20 (fun M21 => q v4 M21)) ∧ ((M20.1 0 33) = 3 → Cv shM G mX12_need (k + 2) [.ref (G.2.1 0), .int 1] M20 (fun M22 => q v4 M22)))))))))))) ∧ ((M.1 0 33) = 3 → vp_in v5 600 ∧ V shM G mX12_numberIn (k + 3) 18 [(0, .ref (G.2.1 0)), (1, .int v1), (2, .int v2), (3, .int v3), (4, .int (((10 * v4) + (M.1 23 (ix v5))) - 48)), (5, .int (v5 + 1))] [] M (Qi q)))))) : V shM G mX12_numberIn (k + 3) 18 [(0, .ref (G.2.1 0)), (1, .int v1), (2, .int v2), (3, .int v3), (4, .int v4), (5, .int v5)] [] M (Qi q) := by
  refine V_iload (pc := 18) dX12_numberIn_18 rfl ?_
  refine V_aload_n (pc := 20) dX12_numberIn_20 rfl ?_
  refine V_getI (pc := 21) fX12_163 sM0 rfl dX12_numberIn_21 ?_
  refine V_icmp_ge (tgt := 59) (pc := 24) dX12_numberIn_24 rfl (fun c => ?_) (fun c => ?_)
  · have h := h.1 c
    refine V_aload_n (pc := 59) dX12_numberIn_59 rfl ?_
    refine V_getI (pc := 60) fX12_154 sM0 rfl dX12_numberIn_60 ?_
    refine V_iconst (v := 3) (pc := 63) dX12_numberIn_63 rfl ?_
    refine V_icmp_ne (tgt := 91) (pc := 64) dX12_numberIn_64 rfl (fun c => ?_) (fun c => ?_)
    · have h := h.1 c
      refine V_aload_n (pc := 91) dX12_numberIn_91 rfl ?_
      refine V_aload_n (pc := 92) dX12_numberIn_92 rfl ?_
      refine V_getI (pc := 93) fX12_154 sM0 rfl dX12_numberIn_93 ?_
      refine V_iconst (v := 3) (pc := 96) dX12_numberIn_96 rfl ?_
      refine V_icmp_ne (tgt := 104) (pc := 97) dX12_numberIn_97 rfl (fun c => ?_) (fun c => ?_)
      · have h := h.1 c
        refine V_iconst (v := 0) (pc := 104) dX12_numberIn_104 rfl ?_
        refine V_callVv [.int 0] (pc := 105) kX12_need lX12_179 sM0 rfl rfl (Nat.le_of_ble_eq_true rfl) rfl (Nat.le_of_ble_eq_true rfl) dX12_numberIn_105 ?_
        refine Cv.mono h ?_
        intro M1 h
        refine V_iload (pc := 108) dX12_numberIn_108 rfl ?_
        exact V_iret dX12_numberIn_110 rfl h
      · have h := h.2 c
        refine V_iconst (v := 1) (pc := 100) dX12_numberIn_100 rfl ?_
        refine V_goto (tgt := 105) (pc := 101) dX12_numberIn_101 rfl ?_
        refine V_callVv [.int 1] (pc := 105) kX12_need lX12_179 sM0 rfl rfl (Nat.le_of_ble_eq_true rfl) rfl (Nat.le_of_ble_eq_true rfl) dX12_numberIn_105 ?_
        refine Cv.mono h ?_
        intro M2 h
        refine V_iload (pc := 108) dX12_numberIn_108 rfl ?_
        exact V_iret dX12_numberIn_110 rfl h
    · have h := h.2 c
      refine V_iload (pc := 67) dX12_numberIn_67 rfl ?_
      refine V_i2l (pc := 69) dX12_numberIn_69 ?_
      refine V_iload_n (pc := 70) dX12_numberIn_70 rfl ?_
      refine V_i2l (pc := 71) dX12_numberIn_71 ?_
      refine V_iload_n (pc := 72) dX12_numberIn_72 rfl ?_
      refine V_i2l (pc := 73) dX12_numberIn_73 ?_
      refine V_callSi [.long (Int32.toInt64 v4), .long (Int32.toInt64 v1), .long (Int32.toInt64 v2)] (pc := 74) kX12_in lX12_118 rfl (Nat.le_of_ble_eq_true rfl) rfl (Nat.le_of_ble_eq_true rfl) dX12_numberIn_74 ?_
      refine Ci.mono h ?_
      intro x3 M3 h
      refine V_if_eq (tgt := 86) (pc := 77) dX12_numberIn_77 rfl (fun c => ?_) (fun c => ?_)
      · have h := h.1 c
        refine V_aload_n (pc := 86) dX12_numberIn_86 rfl ?_
        refine V_iconst (v := 2) (pc := 87) dX12_numberIn_87 rfl ?_
        refine V_callVv [.int 2] (pc := 88) kX12_bad lX12_172 sM0 rfl rfl (Nat.le_of_ble_eq_true rfl) rfl (Nat.le_of_ble_eq_true rfl) dX12_numberIn_88 ?_
        refine Cv.mono h ?_
        intro M4 h
        refine V_aload_n (pc := 91) dX12_numberIn_91 rfl ?_
        refine V_aload_n (pc := 92) dX12_numberIn_92 rfl ?_
        refine V_getI (pc := 93) fX12_154 sM0 rfl dX12_numberIn_93 ?_
        refine V_iconst (v := 3) (pc := 96) dX12_numberIn_96 rfl ?_
        refine V_icmp_ne (tgt := 104) (pc := 97) dX12_numberIn_97 rfl (fun c => ?_) (fun c => ?_)
        · have h := h.1 c
          refine V_iconst (v := 0) (pc := 104) dX12_numberIn_104 rfl ?_
          refine V_callVv [.int 0] (pc := 105) kX12_need lX12_179 sM0 rfl rfl (Nat.le_of_ble_eq_true rfl) rfl (Nat.le_of_ble_eq_true rfl) dX12_numberIn_105 ?_
          refine Cv.mono h ?_
          intro M5 h
          refine V_iload (pc := 108) dX12_numberIn_108 rfl ?_
          exact V_iret dX12_numberIn_110 rfl h
        · have h := h.2 c
          refine V_iconst (v := 1) (pc := 100) dX12_numberIn_100 rfl ?_
          refine V_goto (tgt := 105) (pc := 101) dX12_numberIn_101 rfl ?_
          refine V_callVv [.int 1] (pc := 105) kX12_need lX12_179 sM0 rfl rfl (Nat.le_of_ble_eq_true rfl) rfl (Nat.le_of_ble_eq_true rfl) dX12_numberIn_105 ?_
          refine Cv.mono h ?_
          intro M6 h
          refine V_iload (pc := 108) dX12_numberIn_108 rfl ?_
          exact V_iret dX12_numberIn_110 rfl h
      · have h := h.2 c
        refine V_iload (pc := 80) dX12_numberIn_80 rfl ?_
        refine V_iload_n (pc := 82) dX12_numberIn_82 rfl ?_
        refine V_icmp_ne (tgt := 91) (pc := 83) dX12_numberIn_83 rfl (fun c => ?_) (fun c => ?_)
        · have h := h.1 c
          refine V_aload_n (pc := 91) dX12_numberIn_91 rfl ?_
          refine V_aload_n (pc := 92) dX12_numberIn_92 rfl ?_
          refine V_getI (pc := 93) fX12_154 sM0 rfl dX12_numberIn_93 ?_
          refine V_iconst (v := 3) (pc := 96) dX12_numberIn_96 rfl ?_
          refine V_icmp_ne (tgt := 104) (pc := 97) dX12_numberIn_97 rfl (fun c => ?_) (fun c => ?_)
          · have h := h.1 c
            refine V_iconst (v := 0) (pc := 104) dX12_numberIn_104 rfl ?_
            refine V_callVv [.int 0] (pc := 105) kX12_need lX12_179 sM0 rfl rfl (Nat.le_of_ble_eq_true rfl) rfl (Nat.le_of_ble_eq_true rfl) dX12_numberIn_105 ?_
            refine Cv.mono h ?_
            intro M7 h
            refine V_iload (pc := 108) dX12_numberIn_108 rfl ?_
            exact V_iret dX12_numberIn_110 rfl h
          · have h := h.2 c
            refine V_iconst (v := 1) (pc := 100) dX12_numberIn_100 rfl ?_
            refine V_goto (tgt := 105) (pc := 101) dX12_numberIn_101 rfl ?_
            refine V_callVv [.int 1] (pc := 105) kX12_need lX12_179 sM0 rfl rfl (Nat.le_of_ble_eq_true rfl) rfl (Nat.le_of_ble_eq_true rfl) dX12_numberIn_105 ?_
            refine Cv.mono h ?_
            intro M8 h
            refine V_iload (pc := 108) dX12_numberIn_108 rfl ?_
            exact V_iret dX12_numberIn_110 rfl h
        · have h := h.2 c
          refine V_aload_n (pc := 86) dX12_numberIn_86 rfl ?_
          refine V_iconst (v := 2) (pc := 87) dX12_numberIn_87 rfl ?_
          refine V_callVv [.int 2] (pc := 88) kX12_bad lX12_172 sM0 rfl rfl (Nat.le_of_ble_eq_true rfl) rfl (Nat.le_of_ble_eq_true rfl) dX12_numberIn_88 ?_
          refine Cv.mono h ?_
          intro M9 h
          refine V_aload_n (pc := 91) dX12_numberIn_91 rfl ?_
          refine V_aload_n (pc := 92) dX12_numberIn_92 rfl ?_
          refine V_getI (pc := 93) fX12_154 sM0 rfl dX12_numberIn_93 ?_
          refine V_iconst (v := 3) (pc := 96) dX12_numberIn_96 rfl ?_
          refine V_icmp_ne (tgt := 104) (pc := 97) dX12_numberIn_97 rfl (fun c => ?_) (fun c => ?_)
          · have h := h.1 c
            refine V_iconst (v := 0) (pc := 104) dX12_numberIn_104 rfl ?_
            refine V_callVv [.int 0] (pc := 105) kX12_need lX12_179 sM0 rfl rfl (Nat.le_of_ble_eq_true rfl) rfl (Nat.le_of_ble_eq_true rfl) dX12_numberIn_105 ?_
            refine Cv.mono h ?_
            intro M10 h
            refine V_iload (pc := 108) dX12_numberIn_108 rfl ?_
            exact V_iret dX12_numberIn_110 rfl h
          · have h := h.2 c
            refine V_iconst (v := 1) (pc := 100) dX12_numberIn_100 rfl ?_
            refine V_goto (tgt := 105) (pc := 101) dX12_numberIn_101 rfl ?_
            refine V_callVv [.int 1] (pc := 105) kX12_need lX12_179 sM0 rfl rfl (Nat.le_of_ble_eq_true rfl) rfl (Nat.le_of_ble_eq_true rfl) dX12_numberIn_105 ?_
            refine Cv.mono h ?_
            intro M11 h
            refine V_iload (pc := 108) dX12_numberIn_108 rfl ?_
            exact V_iret dX12_numberIn_110 rfl h
  · have h := h.2 c
    refine V_aload_n (pc := 27) dX12_numberIn_27 rfl ?_
    refine V_getI (pc := 28) fX12_154 sM0 rfl dX12_numberIn_28 ?_
    refine V_iconst (v := 3) (pc := 31) dX12_numberIn_31 rfl ?_
    refine V_icmp_ne (tgt := 59) (pc := 32) dX12_numberIn_32 rfl (fun c => ?_) (fun c => ?_)
    · have h := h.1 c
      refine V_aload_n (pc := 59) dX12_numberIn_59 rfl ?_
      refine V_getI (pc := 60) fX12_154 sM0 rfl dX12_numberIn_60 ?_
      refine V_iconst (v := 3) (pc := 63) dX12_numberIn_63 rfl ?_
      refine V_icmp_ne (tgt := 91) (pc := 64) dX12_numberIn_64 rfl (fun c => ?_) (fun c => ?_)
      · have h := h.1 c
        refine V_aload_n (pc := 91) dX12_numberIn_91 rfl ?_
        refine V_aload_n (pc := 92) dX12_numberIn_92 rfl ?_
        refine V_getI (pc := 93) fX12_154 sM0 rfl dX12_numberIn_93 ?_
        refine V_iconst (v := 3) (pc := 96) dX12_numberIn_96 rfl ?_
        refine V_icmp_ne (tgt := 104) (pc := 97) dX12_numberIn_97 rfl (fun c => ?_) (fun c => ?_)
        · have h := h.1 c
          refine V_iconst (v := 0) (pc := 104) dX12_numberIn_104 rfl ?_
          refine V_callVv [.int 0] (pc := 105) kX12_need lX12_179 sM0 rfl rfl (Nat.le_of_ble_eq_true rfl) rfl (Nat.le_of_ble_eq_true rfl) dX12_numberIn_105 ?_
          refine Cv.mono h ?_
          intro M12 h
          refine V_iload (pc := 108) dX12_numberIn_108 rfl ?_
          exact V_iret dX12_numberIn_110 rfl h
        · have h := h.2 c
          refine V_iconst (v := 1) (pc := 100) dX12_numberIn_100 rfl ?_
          refine V_goto (tgt := 105) (pc := 101) dX12_numberIn_101 rfl ?_
          refine V_callVv [.int 1] (pc := 105) kX12_need lX12_179 sM0 rfl rfl (Nat.le_of_ble_eq_true rfl) rfl (Nat.le_of_ble_eq_true rfl) dX12_numberIn_105 ?_
          refine Cv.mono h ?_
          intro M13 h
          refine V_iload (pc := 108) dX12_numberIn_108 rfl ?_
          exact V_iret dX12_numberIn_110 rfl h
      · have h := h.2 c
        refine V_iload (pc := 67) dX12_numberIn_67 rfl ?_
        refine V_i2l (pc := 69) dX12_numberIn_69 ?_
        refine V_iload_n (pc := 70) dX12_numberIn_70 rfl ?_
        refine V_i2l (pc := 71) dX12_numberIn_71 ?_
        refine V_iload_n (pc := 72) dX12_numberIn_72 rfl ?_
        refine V_i2l (pc := 73) dX12_numberIn_73 ?_
        refine V_callSi [.long (Int32.toInt64 v4), .long (Int32.toInt64 v1), .long (Int32.toInt64 v2)] (pc := 74) kX12_in lX12_118 rfl (Nat.le_of_ble_eq_true rfl) rfl (Nat.le_of_ble_eq_true rfl) dX12_numberIn_74 ?_
        refine Ci.mono h ?_
        intro x14 M14 h
        refine V_if_eq (tgt := 86) (pc := 77) dX12_numberIn_77 rfl (fun c => ?_) (fun c => ?_)
        · have h := h.1 c
          refine V_aload_n (pc := 86) dX12_numberIn_86 rfl ?_
          refine V_iconst (v := 2) (pc := 87) dX12_numberIn_87 rfl ?_
          refine V_callVv [.int 2] (pc := 88) kX12_bad lX12_172 sM0 rfl rfl (Nat.le_of_ble_eq_true rfl) rfl (Nat.le_of_ble_eq_true rfl) dX12_numberIn_88 ?_
          refine Cv.mono h ?_
          intro M15 h
          refine V_aload_n (pc := 91) dX12_numberIn_91 rfl ?_
          refine V_aload_n (pc := 92) dX12_numberIn_92 rfl ?_
          refine V_getI (pc := 93) fX12_154 sM0 rfl dX12_numberIn_93 ?_
          refine V_iconst (v := 3) (pc := 96) dX12_numberIn_96 rfl ?_
          refine V_icmp_ne (tgt := 104) (pc := 97) dX12_numberIn_97 rfl (fun c => ?_) (fun c => ?_)
          · have h := h.1 c
            refine V_iconst (v := 0) (pc := 104) dX12_numberIn_104 rfl ?_
            refine V_callVv [.int 0] (pc := 105) kX12_need lX12_179 sM0 rfl rfl (Nat.le_of_ble_eq_true rfl) rfl (Nat.le_of_ble_eq_true rfl) dX12_numberIn_105 ?_
            refine Cv.mono h ?_
            intro M16 h
            refine V_iload (pc := 108) dX12_numberIn_108 rfl ?_
            exact V_iret dX12_numberIn_110 rfl h
          · have h := h.2 c
            refine V_iconst (v := 1) (pc := 100) dX12_numberIn_100 rfl ?_
            refine V_goto (tgt := 105) (pc := 101) dX12_numberIn_101 rfl ?_
            refine V_callVv [.int 1] (pc := 105) kX12_need lX12_179 sM0 rfl rfl (Nat.le_of_ble_eq_true rfl) rfl (Nat.le_of_ble_eq_true rfl) dX12_numberIn_105 ?_
            refine Cv.mono h ?_
            intro M17 h
            refine V_iload (pc := 108) dX12_numberIn_108 rfl ?_
            exact V_iret dX12_numberIn_110 rfl h
        · have h := h.2 c
          refine V_iload (pc := 80) dX12_numberIn_80 rfl ?_
          refine V_iload_n (pc := 82) dX12_numberIn_82 rfl ?_
          refine V_icmp_ne (tgt := 91) (pc := 83) dX12_numberIn_83 rfl (fun c => ?_) (fun c => ?_)
          · have h := h.1 c
            refine V_aload_n (pc := 91) dX12_numberIn_91 rfl ?_
            refine V_aload_n (pc := 92) dX12_numberIn_92 rfl ?_
            refine V_getI (pc := 93) fX12_154 sM0 rfl dX12_numberIn_93 ?_
            refine V_iconst (v := 3) (pc := 96) dX12_numberIn_96 rfl ?_
            refine V_icmp_ne (tgt := 104) (pc := 97) dX12_numberIn_97 rfl (fun c => ?_) (fun c => ?_)
            · have h := h.1 c
              refine V_iconst (v := 0) (pc := 104) dX12_numberIn_104 rfl ?_
              refine V_callVv [.int 0] (pc := 105) kX12_need lX12_179 sM0 rfl rfl (Nat.le_of_ble_eq_true rfl) rfl (Nat.le_of_ble_eq_true rfl) dX12_numberIn_105 ?_
              refine Cv.mono h ?_
              intro M18 h
              refine V_iload (pc := 108) dX12_numberIn_108 rfl ?_
              exact V_iret dX12_numberIn_110 rfl h
            · have h := h.2 c
              refine V_iconst (v := 1) (pc := 100) dX12_numberIn_100 rfl ?_
              refine V_goto (tgt := 105) (pc := 101) dX12_numberIn_101 rfl ?_
              refine V_callVv [.int 1] (pc := 105) kX12_need lX12_179 sM0 rfl rfl (Nat.le_of_ble_eq_true rfl) rfl (Nat.le_of_ble_eq_true rfl) dX12_numberIn_105 ?_
              refine Cv.mono h ?_
              intro M19 h
              refine V_iload (pc := 108) dX12_numberIn_108 rfl ?_
              exact V_iret dX12_numberIn_110 rfl h
          · have h := h.2 c
            refine V_aload_n (pc := 86) dX12_numberIn_86 rfl ?_
            refine V_iconst (v := 2) (pc := 87) dX12_numberIn_87 rfl ?_
            refine V_callVv [.int 2] (pc := 88) kX12_bad lX12_172 sM0 rfl rfl (Nat.le_of_ble_eq_true rfl) rfl (Nat.le_of_ble_eq_true rfl) dX12_numberIn_88 ?_
            refine Cv.mono h ?_
            intro M20 h
            refine V_aload_n (pc := 91) dX12_numberIn_91 rfl ?_
            refine V_aload_n (pc := 92) dX12_numberIn_92 rfl ?_
            refine V_getI (pc := 93) fX12_154 sM0 rfl dX12_numberIn_93 ?_
            refine V_iconst (v := 3) (pc := 96) dX12_numberIn_96 rfl ?_
            refine V_icmp_ne (tgt := 104) (pc := 97) dX12_numberIn_97 rfl (fun c => ?_) (fun c => ?_)
            · have h := h.1 c
              refine V_iconst (v := 0) (pc := 104) dX12_numberIn_104 rfl ?_
              refine V_callVv [.int 0] (pc := 105) kX12_need lX12_179 sM0 rfl rfl (Nat.le_of_ble_eq_true rfl) rfl (Nat.le_of_ble_eq_true rfl) dX12_numberIn_105 ?_
              refine Cv.mono h ?_
              intro M21 h
              refine V_iload (pc := 108) dX12_numberIn_108 rfl ?_
              exact V_iret dX12_numberIn_110 rfl h
            · have h := h.2 c
              refine V_iconst (v := 1) (pc := 100) dX12_numberIn_100 rfl ?_
              refine V_goto (tgt := 105) (pc := 101) dX12_numberIn_101 rfl ?_
              refine V_callVv [.int 1] (pc := 105) kX12_need lX12_179 sM0 rfl rfl (Nat.le_of_ble_eq_true rfl) rfl (Nat.le_of_ble_eq_true rfl) dX12_numberIn_105 ?_
              refine Cv.mono h ?_
              intro M22 h
              refine V_iload (pc := 108) dX12_numberIn_108 rfl ?_
              exact V_iret dX12_numberIn_110 rfl h
    · have h := h.2 c
      refine V_bipush (v := 10) (pc := 35) dX12_numberIn_35 rfl ?_
      refine V_iload (pc := 37) dX12_numberIn_37 rfl ?_
      refine V_imul (pc := 39) dX12_numberIn_39 ?_
      refine V_aload_n (pc := 40) dX12_numberIn_40 rfl ?_
      refine V_getR (pc := 41) fX12_77 sM0 rfl dX12_numberIn_41 ?_
      refine V_iload (pc := 44) dX12_numberIn_44 rfl ?_
      refine V_iald (pc := 46) sM23 dX12_numberIn_46 h.1 ?_
      have h := h.2
      refine V_iadd (pc := 47) dX12_numberIn_47 ?_
      refine V_bipush (v := 48) (pc := 48) dX12_numberIn_48 rfl ?_
      refine V_isub (pc := 50) dX12_numberIn_50 ?_
      refine V_istore (pc := 51) dX12_numberIn_51 (by decide) ?_
      refine V_iinc (pc := 53) dX12_numberIn_53 rfl (by decide) ?_
      refine V_goto (tgt := 18) (pc := 56) dX12_numberIn_56 rfl ?_
      exact V_sub h ⟨rfl, rfl, rfl, rfl, rfl, rfl, trivial⟩
theorem wp_X12_sizeOf {G : GV} {k : Nat} {M : Mem} {q : Int32 → Mem → Prop} {v1 : Int32} (h : vp_in v1 12 ∧ ((((M.1 9 (ix v1)) + 1) ≠ 5 → ((((M.1 9 (ix v1)) + 1) ≠ 2 → V shM G mX12_sizeOf (k + 3) 38 [(0, .ref (G.2.1 0)), (1, .int v1), (2, .int ((M.1 9 (ix v1)) + 1))] [] M (Qi q)) ∧ (((M.1 9 (ix v1)) + 1) = 2 → Cv shM G mX12_began (k + 2) [.ref (G.2.1 0), .int 12] M (fun M1 => V shM G mX12_sizeOf (k + 3) 38 [(0, .ref (G.2.1 0)), (1, .int v1), (2, .int ((M.1 9 (ix v1)) + 1))] [] M1 (Qi q))))) ∧ (((M.1 9 (ix v1)) + 1) = 5 → Cv shM G mX12_began (k + 2) [.ref (G.2.1 0), .int 14] M (fun M2 => Ci shM G mX12_plainSize (k + 2) [.ref (G.2.1 0), .int v1] M2 (fun x3 M3 => q (-x3) M3))))) : Ci shM G mX12_sizeOf (k + 3) [.ref (G.2.1 0), .int v1] M q := by
  unfold Ci
  show V _ _ _ _ _ [(0, .ref (G.2.1 0)), (1, .int v1)] _ _ _
  refine V_aload_n (pc := 0) dX12_sizeOf_0 rfl ?_
  refine V_getR (pc := 1) fX12_35 sM0 rfl dX12_sizeOf_1 ?_
  refine V_iload_n (pc := 4) dX12_sizeOf_4 rfl ?_
  refine V_iald (pc := 5) sM9 dX12_sizeOf_5 h.1 ?_
  have h := h.2
  refine V_iconst (v := 1) (pc := 6) dX12_sizeOf_6 rfl ?_
  refine V_iadd (pc := 7) dX12_sizeOf_7 ?_
  refine V_istore_n (pc := 8) dX12_sizeOf_8 (by decide) ?_
  refine V_iload_n (pc := 9) dX12_sizeOf_9 rfl ?_
  refine V_iconst (v := 5) (pc := 10) dX12_sizeOf_10 rfl ?_
  refine V_icmp_ne (tgt := 27) (pc := 11) dX12_sizeOf_11 rfl (fun c => ?_) (fun c => ?_)
  · have h := h.1 c
    refine V_iload_n (pc := 27) dX12_sizeOf_27 rfl ?_
    refine V_iconst (v := 2) (pc := 28) dX12_sizeOf_28 rfl ?_
    refine V_icmp_ne (tgt := 38) (pc := 29) dX12_sizeOf_29 rfl (fun c => ?_) (fun c => ?_)
    · have h := h.1 c
      exact V_sub h ⟨rfl, rfl, rfl, trivial⟩
    · have h := h.2 c
      refine V_aload_n (pc := 32) dX12_sizeOf_32 rfl ?_
      refine V_bipush (v := 12) (pc := 33) dX12_sizeOf_33 rfl ?_
      refine V_callVv [.int 12] (pc := 35) kX12_began lX12_348 sM0 rfl rfl (Nat.le_of_ble_eq_true rfl) rfl (Nat.le_of_ble_eq_true rfl) dX12_sizeOf_35 ?_
      refine Cv.mono h ?_
      intro M1 h
      exact V_sub h ⟨rfl, rfl, rfl, trivial⟩
  · have h := h.2 c
    refine V_aload_n (pc := 14) dX12_sizeOf_14 rfl ?_
    refine V_bipush (v := 14) (pc := 15) dX12_sizeOf_15 rfl ?_
    refine V_callVv [.int 14] (pc := 17) kX12_began lX12_348 sM0 rfl rfl (Nat.le_of_ble_eq_true rfl) rfl (Nat.le_of_ble_eq_true rfl) dX12_sizeOf_17 ?_
    refine Cv.mono h ?_
    intro M2 h
    refine V_aload_n (pc := 20) dX12_sizeOf_20 rfl ?_
    refine V_iload_n (pc := 21) dX12_sizeOf_21 rfl ?_
    refine V_callVi [.int v1] (pc := 22) kX12_plainSize lX12_351 sM0 rfl rfl (Nat.le_of_ble_eq_true rfl) rfl (Nat.le_of_ble_eq_true rfl) dX12_sizeOf_22 ?_
    refine Ci.mono h ?_
    intro x3 M3 h
    refine V_ineg (pc := 25) dX12_sizeOf_25 ?_
    exact V_iret dX12_sizeOf_26 rfl h
theorem wp_X12_sizeOf_38 {G : GV} {k : Nat} {M : Mem} {q : Int32 → Mem → Prop} {v1 : Int32} {v2 : Int32} (h : ((v2 ≠ 3 → Ci shM G mX12_isOf (k + 2) [.int v2, .int 1] M (fun x1 M1 => ((x1 = 0 → Ci shM G mX12_plainSize (k + 2) [.ref (G.2.1 0), .int v1] M1 (fun x2 M2 => Ci shM G mX12_isOf (k + 2) [.int v2, .int 1] M2 (fun x3 M3 => ((x3 = 0 → ((v2 ≠ 2 → ((v2 ≠ 3 → q (x2 + 0) M3) ∧ (v2 = 3 → Ci shM G mX12_markOf (k + 2) [.ref (G.2.1 0), .int v1] M3 (fun x4 M4 => q ((x2 + 0) + x4) M4)))) ∧ (v2 = 2 → q (2 * (x2 + 0)) M3))) ∧ (¬ x3 = 0 → vp_in v1 12 ∧ ((v2 ≠ 2 → ((v2 ≠ 3 → q (x2 + (M3.1 11 (ix v1))) M3) ∧ (v2 = 3 → Ci shM G mX12_markOf (k + 2) [.ref (G.2.1 0), .int v1] M3 (fun x5 M5 => q ((x2 + (M3.1 11 (ix v1))) + x5) M5)))) ∧ (v2 = 2 → q (2 * (x2 + (M3.1 11 (ix v1)))) M3))))))) ∧ (¬ x1 = 0 → Cv shM G mX12_began (k + 2) [.ref (G.2.1 0), .int 11] M1 (fun M6 => Ci shM G mX12_plainSize (k + 2) [.ref (G.2.1 0), .int v1] M6 (fun x7 M7 => Ci shM G mX12_isOf (k + 2) [.int v2, .int 1] M7 (fun x8 M8 => ((x8 = 0 → ((v2 ≠ 2 → ((v2 ≠ 3 → q (x7 + 0) M8) ∧ (v2 = 3 → Ci shM G mX12_markOf (k + 2) [.ref (G.2.1 0), .int v1] M8 (fun x9 M9 => q ((x7 + 0) + x9) M9)))) ∧ (v2 = 2 → q (2 * (x7 + 0)) M8))) ∧ (¬ x8 = 0 → vp_in v1 12 ∧ ((v2 ≠ 2 → ((v2 ≠ 3 → q (x7 + (M8.1 11 (ix v1))) M8) ∧ (v2 = 3 → Ci shM G mX12_markOf (k + 2) [.ref (G.2.1 0), .int v1] M8 (fun x10 M10 => q ((x7 + (M8.1 11 (ix v1))) + x10) M10)))) ∧ (v2 = 2 → q (2 * (x7 + (M8.1 11 (ix v1)))) M8))))))))))) ∧ (v2 = 3 → Cv shM G mX12_began (k + 2) [.ref (G.2.1 0), .int 13] M (fun M11 => Ci shM G mX12_isOf (k + 2) [.int v2, .int 1] M11 (fun x12 M12 => ((x12 = 0 → Ci shM G mX12_plainSize (k + 2) [.ref (G.2.1 0), .int v1] M12 (fun x13 M13 => Ci shM G mX12_isOf (k + 2) [.int v2, .int 1] M13 (fun x14 M14 => ((x14 = 0 → ((v2 ≠ 2 → ((v2 ≠ 3 → q (x13 + 0) M14) ∧ (v2 = 3 → Ci shM G mX12_markOf (k + 2) [.ref (G.2.1 0), .int v1] M14 (fun x15 M15 => q ((x13 + 0) + x15) M15)))) ∧ (v2 = 2 → q (2 * (x13 + 0)) M14))) ∧ (¬ x14 = 0 → vp_in v1 12 ∧ ((v2 ≠ 2 → ((v2 ≠ 3 → q (x13 + (M14.1 11 (ix v1))) M14) ∧ (v2 = 3 → Ci shM G mX12_markOf (k + 2) [.ref (G.2.1 0), .int v1] M14 (fun x16 M16 => q ((x13 + (M14.1 11 (ix v1))) + x16) M16)))) ∧ (v2 = 2 → q (2 * (x13 + (M14.1 11 (ix v1)))) M14))))))) ∧ (¬ x12 = 0 → Cv shM G mX12_began (k + 2) [.ref (G.2.1 0), .int 11] M12 (fun M17 => Ci shM G mX12_plainSize (k + 2) [.ref (G.2.1 0), .int v1] M17 (fun x18 M18 => Ci shM G mX12_isOf (k + 2) [.int v2, .int 1] M18 (fun x19 M19 => ((x19 = 0 → ((v2 ≠ 2 → ((v2 ≠ 3 → q (x18 + 0) M19) ∧ (v2 = 3 → Ci shM G mX12_markOf (k + 2) [.ref (G.2.1 0), .int v1] M19 (fun x20 M20 => q ((x18 + 0) + x20) M20)))) ∧ (v2 = 2 → q (2 * (x18 + 0)) M19))) ∧ (¬ x19 = 0 → vp_in v1 12 ∧ ((v2 ≠ 2 → ((v2 ≠ 3 → q (x18 + (M19.1 11 (ix v1))) M19) ∧ (v2 = 3 → Ci shM G mX12_markOf (k + 2) [.ref (G.2.1 0), .int v1] M19 (fun x21 M21 => q ((x18 + (M19.1 11 (ix v1))) + x21) M21)))) ∧ (v2 = 2 → q (2 * (x18 + (M19.1 11 (ix v1)))) M19)))))))))))))) : V shM G mX12_sizeOf (k + 3) 38 [(0, .ref (G.2.1 0)), (1, .int v1), (2, .int v2)] [] M (Qi q) := by
  refine V_iload_n (pc := 38) dX12_sizeOf_38 rfl ?_
  refine V_iconst (v := 3) (pc := 39) dX12_sizeOf_39 rfl ?_
  refine V_icmp_ne (tgt := 49) (pc := 40) dX12_sizeOf_40 rfl (fun c => ?_) (fun c => ?_)
  · have h := h.1 c
    refine V_iload_n (pc := 49) dX12_sizeOf_49 rfl ?_
    refine V_iconst (v := 1) (pc := 50) dX12_sizeOf_50 rfl ?_
    refine V_callSi [.int v2, .int 1] (pc := 51) kX12_isOf lX12_342 rfl (Nat.le_of_ble_eq_true rfl) rfl (Nat.le_of_ble_eq_true rfl) dX12_sizeOf_51 ?_
    refine Ci.mono h ?_
    intro x1 M1 h
    refine V_if_eq (tgt := 63) (pc := 54) dX12_sizeOf_54 rfl (fun c => ?_) (fun c => ?_)
    · have h := h.1 c
      refine V_aload_n (pc := 63) dX12_sizeOf_63 rfl ?_
      refine V_iload_n (pc := 64) dX12_sizeOf_64 rfl ?_
      refine V_callVi [.int v1] (pc := 65) kX12_plainSize lX12_351 sM0 rfl rfl (Nat.le_of_ble_eq_true rfl) rfl (Nat.le_of_ble_eq_true rfl) dX12_sizeOf_65 ?_
      refine Ci.mono h ?_
      intro x2 M2 h
      refine V_iload_n (pc := 68) dX12_sizeOf_68 rfl ?_
      refine V_iconst (v := 1) (pc := 69) dX12_sizeOf_69 rfl ?_
      refine V_callSi [.int v2, .int 1] (pc := 70) kX12_isOf lX12_342 rfl (Nat.le_of_ble_eq_true rfl) rfl (Nat.le_of_ble_eq_true rfl) dX12_sizeOf_70 ?_
      refine Ci.mono h ?_
      intro x3 M3 h
      refine V_if_eq (tgt := 85) (pc := 73) dX12_sizeOf_73 rfl (fun c => ?_) (fun c => ?_)
      · have h := h.1 c
        refine V_iconst (v := 0) (pc := 85) dX12_sizeOf_85 rfl ?_
        refine V_iadd (pc := 86) dX12_sizeOf_86 ?_
        refine V_istore_n (pc := 87) dX12_sizeOf_87 (by decide) ?_
        refine V_iload_n (pc := 88) dX12_sizeOf_88 rfl ?_
        refine V_iconst (v := 2) (pc := 89) dX12_sizeOf_89 rfl ?_
        refine V_icmp_ne (tgt := 99) (pc := 90) dX12_sizeOf_90 rfl (fun c => ?_) (fun c => ?_)
        · have h := h.1 c
          refine V_iload_n (pc := 99) dX12_sizeOf_99 rfl ?_
          refine V_iconst (v := 3) (pc := 100) dX12_sizeOf_100 rfl ?_
          refine V_icmp_ne (tgt := 114) (pc := 101) dX12_sizeOf_101 rfl (fun c => ?_) (fun c => ?_)
          · have h := h.1 c
            refine V_iload_n (pc := 114) dX12_sizeOf_114 rfl ?_
            exact V_iret dX12_sizeOf_115 rfl h
          · have h := h.2 c
            refine V_iload_n (pc := 104) dX12_sizeOf_104 rfl ?_
            refine V_aload_n (pc := 105) dX12_sizeOf_105 rfl ?_
            refine V_iload_n (pc := 106) dX12_sizeOf_106 rfl ?_
            refine V_callVi [.int v1] (pc := 107) kX12_markOf lX12_354 sM0 rfl rfl (Nat.le_of_ble_eq_true rfl) rfl (Nat.le_of_ble_eq_true rfl) dX12_sizeOf_107 ?_
            refine Ci.mono h ?_
            intro x4 M4 h
            refine V_iadd (pc := 110) dX12_sizeOf_110 ?_
            refine V_goto (tgt := 115) (pc := 111) dX12_sizeOf_111 rfl ?_
            exact V_iret dX12_sizeOf_115 rfl h
        · have h := h.2 c
          refine V_iconst (v := 2) (pc := 93) dX12_sizeOf_93 rfl ?_
          refine V_iload_n (pc := 94) dX12_sizeOf_94 rfl ?_
          refine V_imul (pc := 95) dX12_sizeOf_95 ?_
          refine V_goto (tgt := 115) (pc := 96) dX12_sizeOf_96 rfl ?_
          exact V_iret dX12_sizeOf_115 rfl h
      · have h := h.2 c
        refine V_aload_n (pc := 76) dX12_sizeOf_76 rfl ?_
        refine V_getR (pc := 77) fX12_41 sM0 rfl dX12_sizeOf_77 ?_
        refine V_iload_n (pc := 80) dX12_sizeOf_80 rfl ?_
        refine V_iald (pc := 81) sM11 dX12_sizeOf_81 h.1 ?_
        have h := h.2
        refine V_goto (tgt := 86) (pc := 82) dX12_sizeOf_82 rfl ?_
        refine V_iadd (pc := 86) dX12_sizeOf_86 ?_
        refine V_istore_n (pc := 87) dX12_sizeOf_87 (by decide) ?_
        refine V_iload_n (pc := 88) dX12_sizeOf_88 rfl ?_
        refine V_iconst (v := 2) (pc := 89) dX12_sizeOf_89 rfl ?_
        refine V_icmp_ne (tgt := 99) (pc := 90) dX12_sizeOf_90 rfl (fun c => ?_) (fun c => ?_)
        · have h := h.1 c
          refine V_iload_n (pc := 99) dX12_sizeOf_99 rfl ?_
          refine V_iconst (v := 3) (pc := 100) dX12_sizeOf_100 rfl ?_
          refine V_icmp_ne (tgt := 114) (pc := 101) dX12_sizeOf_101 rfl (fun c => ?_) (fun c => ?_)
          · have h := h.1 c
            refine V_iload_n (pc := 114) dX12_sizeOf_114 rfl ?_
            exact V_iret dX12_sizeOf_115 rfl h
          · have h := h.2 c
            refine V_iload_n (pc := 104) dX12_sizeOf_104 rfl ?_
            refine V_aload_n (pc := 105) dX12_sizeOf_105 rfl ?_
            refine V_iload_n (pc := 106) dX12_sizeOf_106 rfl ?_
            refine V_callVi [.int v1] (pc := 107) kX12_markOf lX12_354 sM0 rfl rfl (Nat.le_of_ble_eq_true rfl) rfl (Nat.le_of_ble_eq_true rfl) dX12_sizeOf_107 ?_
            refine Ci.mono h ?_
            intro x5 M5 h
            refine V_iadd (pc := 110) dX12_sizeOf_110 ?_
            refine V_goto (tgt := 115) (pc := 111) dX12_sizeOf_111 rfl ?_
            exact V_iret dX12_sizeOf_115 rfl h
        · have h := h.2 c
          refine V_iconst (v := 2) (pc := 93) dX12_sizeOf_93 rfl ?_
          refine V_iload_n (pc := 94) dX12_sizeOf_94 rfl ?_
          refine V_imul (pc := 95) dX12_sizeOf_95 ?_
          refine V_goto (tgt := 115) (pc := 96) dX12_sizeOf_96 rfl ?_
          exact V_iret dX12_sizeOf_115 rfl h
    · have h := h.2 c
      refine V_aload_n (pc := 57) dX12_sizeOf_57 rfl ?_
      refine V_bipush (v := 11) (pc := 58) dX12_sizeOf_58 rfl ?_
      refine V_callVv [.int 11] (pc := 60) kX12_began lX12_348 sM0 rfl rfl (Nat.le_of_ble_eq_true rfl) rfl (Nat.le_of_ble_eq_true rfl) dX12_sizeOf_60 ?_
      refine Cv.mono h ?_
      intro M6 h
      refine V_aload_n (pc := 63) dX12_sizeOf_63 rfl ?_
      refine V_iload_n (pc := 64) dX12_sizeOf_64 rfl ?_
      refine V_callVi [.int v1] (pc := 65) kX12_plainSize lX12_351 sM0 rfl rfl (Nat.le_of_ble_eq_true rfl) rfl (Nat.le_of_ble_eq_true rfl) dX12_sizeOf_65 ?_
      refine Ci.mono h ?_
      intro x7 M7 h
      refine V_iload_n (pc := 68) dX12_sizeOf_68 rfl ?_
      refine V_iconst (v := 1) (pc := 69) dX12_sizeOf_69 rfl ?_
      refine V_callSi [.int v2, .int 1] (pc := 70) kX12_isOf lX12_342 rfl (Nat.le_of_ble_eq_true rfl) rfl (Nat.le_of_ble_eq_true rfl) dX12_sizeOf_70 ?_
      refine Ci.mono h ?_
      intro x8 M8 h
      refine V_if_eq (tgt := 85) (pc := 73) dX12_sizeOf_73 rfl (fun c => ?_) (fun c => ?_)
      · have h := h.1 c
        refine V_iconst (v := 0) (pc := 85) dX12_sizeOf_85 rfl ?_
        refine V_iadd (pc := 86) dX12_sizeOf_86 ?_
        refine V_istore_n (pc := 87) dX12_sizeOf_87 (by decide) ?_
        refine V_iload_n (pc := 88) dX12_sizeOf_88 rfl ?_
        refine V_iconst (v := 2) (pc := 89) dX12_sizeOf_89 rfl ?_
        refine V_icmp_ne (tgt := 99) (pc := 90) dX12_sizeOf_90 rfl (fun c => ?_) (fun c => ?_)
        · have h := h.1 c
          refine V_iload_n (pc := 99) dX12_sizeOf_99 rfl ?_
          refine V_iconst (v := 3) (pc := 100) dX12_sizeOf_100 rfl ?_
          refine V_icmp_ne (tgt := 114) (pc := 101) dX12_sizeOf_101 rfl (fun c => ?_) (fun c => ?_)
          · have h := h.1 c
            refine V_iload_n (pc := 114) dX12_sizeOf_114 rfl ?_
            exact V_iret dX12_sizeOf_115 rfl h
          · have h := h.2 c
            refine V_iload_n (pc := 104) dX12_sizeOf_104 rfl ?_
            refine V_aload_n (pc := 105) dX12_sizeOf_105 rfl ?_
            refine V_iload_n (pc := 106) dX12_sizeOf_106 rfl ?_
            refine V_callVi [.int v1] (pc := 107) kX12_markOf lX12_354 sM0 rfl rfl (Nat.le_of_ble_eq_true rfl) rfl (Nat.le_of_ble_eq_true rfl) dX12_sizeOf_107 ?_
            refine Ci.mono h ?_
            intro x9 M9 h
            refine V_iadd (pc := 110) dX12_sizeOf_110 ?_
            refine V_goto (tgt := 115) (pc := 111) dX12_sizeOf_111 rfl ?_
            exact V_iret dX12_sizeOf_115 rfl h
        · have h := h.2 c
          refine V_iconst (v := 2) (pc := 93) dX12_sizeOf_93 rfl ?_
          refine V_iload_n (pc := 94) dX12_sizeOf_94 rfl ?_
          refine V_imul (pc := 95) dX12_sizeOf_95 ?_
          refine V_goto (tgt := 115) (pc := 96) dX12_sizeOf_96 rfl ?_
          exact V_iret dX12_sizeOf_115 rfl h
      · have h := h.2 c
        refine V_aload_n (pc := 76) dX12_sizeOf_76 rfl ?_
        refine V_getR (pc := 77) fX12_41 sM0 rfl dX12_sizeOf_77 ?_
        refine V_iload_n (pc := 80) dX12_sizeOf_80 rfl ?_
        refine V_iald (pc := 81) sM11 dX12_sizeOf_81 h.1 ?_
        have h := h.2
        refine V_goto (tgt := 86) (pc := 82) dX12_sizeOf_82 rfl ?_
        refine V_iadd (pc := 86) dX12_sizeOf_86 ?_
        refine V_istore_n (pc := 87) dX12_sizeOf_87 (by decide) ?_
        refine V_iload_n (pc := 88) dX12_sizeOf_88 rfl ?_
        refine V_iconst (v := 2) (pc := 89) dX12_sizeOf_89 rfl ?_
        refine V_icmp_ne (tgt := 99) (pc := 90) dX12_sizeOf_90 rfl (fun c => ?_) (fun c => ?_)
        · have h := h.1 c
          refine V_iload_n (pc := 99) dX12_sizeOf_99 rfl ?_
          refine V_iconst (v := 3) (pc := 100) dX12_sizeOf_100 rfl ?_
          refine V_icmp_ne (tgt := 114) (pc := 101) dX12_sizeOf_101 rfl (fun c => ?_) (fun c => ?_)
          · have h := h.1 c
            refine V_iload_n (pc := 114) dX12_sizeOf_114 rfl ?_
            exact V_iret dX12_sizeOf_115 rfl h
          · have h := h.2 c
            refine V_iload_n (pc := 104) dX12_sizeOf_104 rfl ?_
            refine V_aload_n (pc := 105) dX12_sizeOf_105 rfl ?_
            refine V_iload_n (pc := 106) dX12_sizeOf_106 rfl ?_
            refine V_callVi [.int v1] (pc := 107) kX12_markOf lX12_354 sM0 rfl rfl (Nat.le_of_ble_eq_true rfl) rfl (Nat.le_of_ble_eq_true rfl) dX12_sizeOf_107 ?_
            refine Ci.mono h ?_
            intro x10 M10 h
            refine V_iadd (pc := 110) dX12_sizeOf_110 ?_
            refine V_goto (tgt := 115) (pc := 111) dX12_sizeOf_111 rfl ?_
            exact V_iret dX12_sizeOf_115 rfl h
        · have h := h.2 c
          refine V_iconst (v := 2) (pc := 93) dX12_sizeOf_93 rfl ?_
          refine V_iload_n (pc := 94) dX12_sizeOf_94 rfl ?_
          refine V_imul (pc := 95) dX12_sizeOf_95 ?_
          refine V_goto (tgt := 115) (pc := 96) dX12_sizeOf_96 rfl ?_
          exact V_iret dX12_sizeOf_115 rfl h
  · have h := h.2 c
    refine V_aload_n (pc := 43) dX12_sizeOf_43 rfl ?_
    refine V_bipush (v := 13) (pc := 44) dX12_sizeOf_44 rfl ?_
    refine V_callVv [.int 13] (pc := 46) kX12_began lX12_348 sM0 rfl rfl (Nat.le_of_ble_eq_true rfl) rfl (Nat.le_of_ble_eq_true rfl) dX12_sizeOf_46 ?_
    refine Cv.mono h ?_
    intro M11 h
    refine V_iload_n (pc := 49) dX12_sizeOf_49 rfl ?_
    refine V_iconst (v := 1) (pc := 50) dX12_sizeOf_50 rfl ?_
    refine V_callSi [.int v2, .int 1] (pc := 51) kX12_isOf lX12_342 rfl (Nat.le_of_ble_eq_true rfl) rfl (Nat.le_of_ble_eq_true rfl) dX12_sizeOf_51 ?_
    refine Ci.mono h ?_
    intro x12 M12 h
    refine V_if_eq (tgt := 63) (pc := 54) dX12_sizeOf_54 rfl (fun c => ?_) (fun c => ?_)
    · have h := h.1 c
      refine V_aload_n (pc := 63) dX12_sizeOf_63 rfl ?_
      refine V_iload_n (pc := 64) dX12_sizeOf_64 rfl ?_
      refine V_callVi [.int v1] (pc := 65) kX12_plainSize lX12_351 sM0 rfl rfl (Nat.le_of_ble_eq_true rfl) rfl (Nat.le_of_ble_eq_true rfl) dX12_sizeOf_65 ?_
      refine Ci.mono h ?_
      intro x13 M13 h
      refine V_iload_n (pc := 68) dX12_sizeOf_68 rfl ?_
      refine V_iconst (v := 1) (pc := 69) dX12_sizeOf_69 rfl ?_
      refine V_callSi [.int v2, .int 1] (pc := 70) kX12_isOf lX12_342 rfl (Nat.le_of_ble_eq_true rfl) rfl (Nat.le_of_ble_eq_true rfl) dX12_sizeOf_70 ?_
      refine Ci.mono h ?_
      intro x14 M14 h
      refine V_if_eq (tgt := 85) (pc := 73) dX12_sizeOf_73 rfl (fun c => ?_) (fun c => ?_)
      · have h := h.1 c
        refine V_iconst (v := 0) (pc := 85) dX12_sizeOf_85 rfl ?_
        refine V_iadd (pc := 86) dX12_sizeOf_86 ?_
        refine V_istore_n (pc := 87) dX12_sizeOf_87 (by decide) ?_
        refine V_iload_n (pc := 88) dX12_sizeOf_88 rfl ?_
        refine V_iconst (v := 2) (pc := 89) dX12_sizeOf_89 rfl ?_
        refine V_icmp_ne (tgt := 99) (pc := 90) dX12_sizeOf_90 rfl (fun c => ?_) (fun c => ?_)
        · have h := h.1 c
          refine V_iload_n (pc := 99) dX12_sizeOf_99 rfl ?_
          refine V_iconst (v := 3) (pc := 100) dX12_sizeOf_100 rfl ?_
          refine V_icmp_ne (tgt := 114) (pc := 101) dX12_sizeOf_101 rfl (fun c => ?_) (fun c => ?_)
          · have h := h.1 c
            refine V_iload_n (pc := 114) dX12_sizeOf_114 rfl ?_
            exact V_iret dX12_sizeOf_115 rfl h
          · have h := h.2 c
            refine V_iload_n (pc := 104) dX12_sizeOf_104 rfl ?_
            refine V_aload_n (pc := 105) dX12_sizeOf_105 rfl ?_
            refine V_iload_n (pc := 106) dX12_sizeOf_106 rfl ?_
            refine V_callVi [.int v1] (pc := 107) kX12_markOf lX12_354 sM0 rfl rfl (Nat.le_of_ble_eq_true rfl) rfl (Nat.le_of_ble_eq_true rfl) dX12_sizeOf_107 ?_
            refine Ci.mono h ?_
            intro x15 M15 h
            refine V_iadd (pc := 110) dX12_sizeOf_110 ?_
            refine V_goto (tgt := 115) (pc := 111) dX12_sizeOf_111 rfl ?_
            exact V_iret dX12_sizeOf_115 rfl h
        · have h := h.2 c
          refine V_iconst (v := 2) (pc := 93) dX12_sizeOf_93 rfl ?_
          refine V_iload_n (pc := 94) dX12_sizeOf_94 rfl ?_
          refine V_imul (pc := 95) dX12_sizeOf_95 ?_
          refine V_goto (tgt := 115) (pc := 96) dX12_sizeOf_96 rfl ?_
          exact V_iret dX12_sizeOf_115 rfl h
      · have h := h.2 c
        refine V_aload_n (pc := 76) dX12_sizeOf_76 rfl ?_
        refine V_getR (pc := 77) fX12_41 sM0 rfl dX12_sizeOf_77 ?_
        refine V_iload_n (pc := 80) dX12_sizeOf_80 rfl ?_
        refine V_iald (pc := 81) sM11 dX12_sizeOf_81 h.1 ?_
        have h := h.2
        refine V_goto (tgt := 86) (pc := 82) dX12_sizeOf_82 rfl ?_
        refine V_iadd (pc := 86) dX12_sizeOf_86 ?_
        refine V_istore_n (pc := 87) dX12_sizeOf_87 (by decide) ?_
        refine V_iload_n (pc := 88) dX12_sizeOf_88 rfl ?_
        refine V_iconst (v := 2) (pc := 89) dX12_sizeOf_89 rfl ?_
        refine V_icmp_ne (tgt := 99) (pc := 90) dX12_sizeOf_90 rfl (fun c => ?_) (fun c => ?_)
        · have h := h.1 c
          refine V_iload_n (pc := 99) dX12_sizeOf_99 rfl ?_
          refine V_iconst (v := 3) (pc := 100) dX12_sizeOf_100 rfl ?_
          refine V_icmp_ne (tgt := 114) (pc := 101) dX12_sizeOf_101 rfl (fun c => ?_) (fun c => ?_)
          · have h := h.1 c
            refine V_iload_n (pc := 114) dX12_sizeOf_114 rfl ?_
            exact V_iret dX12_sizeOf_115 rfl h
          · have h := h.2 c
            refine V_iload_n (pc := 104) dX12_sizeOf_104 rfl ?_
            refine V_aload_n (pc := 105) dX12_sizeOf_105 rfl ?_
            refine V_iload_n (pc := 106) dX12_sizeOf_106 rfl ?_
            refine V_callVi [.int v1] (pc := 107) kX12_markOf lX12_354 sM0 rfl rfl (Nat.le_of_ble_eq_true rfl) rfl (Nat.le_of_ble_eq_true rfl) dX12_sizeOf_107 ?_
            refine Ci.mono h ?_
            intro x16 M16 h
            refine V_iadd (pc := 110) dX12_sizeOf_110 ?_
            refine V_goto (tgt := 115) (pc := 111) dX12_sizeOf_111 rfl ?_
            exact V_iret dX12_sizeOf_115 rfl h
        · have h := h.2 c
          refine V_iconst (v := 2) (pc := 93) dX12_sizeOf_93 rfl ?_
          refine V_iload_n (pc := 94) dX12_sizeOf_94 rfl ?_
          refine V_imul (pc := 95) dX12_sizeOf_95 ?_
          refine V_goto (tgt := 115) (pc := 96) dX12_sizeOf_96 rfl ?_
          exact V_iret dX12_sizeOf_115 rfl h
    · have h := h.2 c
      refine V_aload_n (pc := 57) dX12_sizeOf_57 rfl ?_
      refine V_bipush (v := 11) (pc := 58) dX12_sizeOf_58 rfl ?_
      refine V_callVv [.int 11] (pc := 60) kX12_began lX12_348 sM0 rfl rfl (Nat.le_of_ble_eq_true rfl) rfl (Nat.le_of_ble_eq_true rfl) dX12_sizeOf_60 ?_
      refine Cv.mono h ?_
      intro M17 h
      refine V_aload_n (pc := 63) dX12_sizeOf_63 rfl ?_
      refine V_iload_n (pc := 64) dX12_sizeOf_64 rfl ?_
      refine V_callVi [.int v1] (pc := 65) kX12_plainSize lX12_351 sM0 rfl rfl (Nat.le_of_ble_eq_true rfl) rfl (Nat.le_of_ble_eq_true rfl) dX12_sizeOf_65 ?_
      refine Ci.mono h ?_
      intro x18 M18 h
      refine V_iload_n (pc := 68) dX12_sizeOf_68 rfl ?_
      refine V_iconst (v := 1) (pc := 69) dX12_sizeOf_69 rfl ?_
      refine V_callSi [.int v2, .int 1] (pc := 70) kX12_isOf lX12_342 rfl (Nat.le_of_ble_eq_true rfl) rfl (Nat.le_of_ble_eq_true rfl) dX12_sizeOf_70 ?_
      refine Ci.mono h ?_
      intro x19 M19 h
      refine V_if_eq (tgt := 85) (pc := 73) dX12_sizeOf_73 rfl (fun c => ?_) (fun c => ?_)
      · have h := h.1 c
        refine V_iconst (v := 0) (pc := 85) dX12_sizeOf_85 rfl ?_
        refine V_iadd (pc := 86) dX12_sizeOf_86 ?_
        refine V_istore_n (pc := 87) dX12_sizeOf_87 (by decide) ?_
        refine V_iload_n (pc := 88) dX12_sizeOf_88 rfl ?_
        refine V_iconst (v := 2) (pc := 89) dX12_sizeOf_89 rfl ?_
        refine V_icmp_ne (tgt := 99) (pc := 90) dX12_sizeOf_90 rfl (fun c => ?_) (fun c => ?_)
        · have h := h.1 c
          refine V_iload_n (pc := 99) dX12_sizeOf_99 rfl ?_
          refine V_iconst (v := 3) (pc := 100) dX12_sizeOf_100 rfl ?_
          refine V_icmp_ne (tgt := 114) (pc := 101) dX12_sizeOf_101 rfl (fun c => ?_) (fun c => ?_)
          · have h := h.1 c
            refine V_iload_n (pc := 114) dX12_sizeOf_114 rfl ?_
            exact V_iret dX12_sizeOf_115 rfl h
          · have h := h.2 c
            refine V_iload_n (pc := 104) dX12_sizeOf_104 rfl ?_
            refine V_aload_n (pc := 105) dX12_sizeOf_105 rfl ?_
            refine V_iload_n (pc := 106) dX12_sizeOf_106 rfl ?_
            refine V_callVi [.int v1] (pc := 107) kX12_markOf lX12_354 sM0 rfl rfl (Nat.le_of_ble_eq_true rfl) rfl (Nat.le_of_ble_eq_true rfl) dX12_sizeOf_107 ?_
            refine Ci.mono h ?_
            intro x20 M20 h
            refine V_iadd (pc := 110) dX12_sizeOf_110 ?_
            refine V_goto (tgt := 115) (pc := 111) dX12_sizeOf_111 rfl ?_
            exact V_iret dX12_sizeOf_115 rfl h
        · have h := h.2 c
          refine V_iconst (v := 2) (pc := 93) dX12_sizeOf_93 rfl ?_
          refine V_iload_n (pc := 94) dX12_sizeOf_94 rfl ?_
          refine V_imul (pc := 95) dX12_sizeOf_95 ?_
          refine V_goto (tgt := 115) (pc := 96) dX12_sizeOf_96 rfl ?_
          exact V_iret dX12_sizeOf_115 rfl h
      · have h := h.2 c
        refine V_aload_n (pc := 76) dX12_sizeOf_76 rfl ?_
        refine V_getR (pc := 77) fX12_41 sM0 rfl dX12_sizeOf_77 ?_
        refine V_iload_n (pc := 80) dX12_sizeOf_80 rfl ?_
        refine V_iald (pc := 81) sM11 dX12_sizeOf_81 h.1 ?_
        have h := h.2
        refine V_goto (tgt := 86) (pc := 82) dX12_sizeOf_82 rfl ?_
        refine V_iadd (pc := 86) dX12_sizeOf_86 ?_
        refine V_istore_n (pc := 87) dX12_sizeOf_87 (by decide) ?_
        refine V_iload_n (pc := 88) dX12_sizeOf_88 rfl ?_
        refine V_iconst (v := 2) (pc := 89) dX12_sizeOf_89 rfl ?_
        refine V_icmp_ne (tgt := 99) (pc := 90) dX12_sizeOf_90 rfl (fun c => ?_) (fun c => ?_)
        · have h := h.1 c
          refine V_iload_n (pc := 99) dX12_sizeOf_99 rfl ?_
          refine V_iconst (v := 3) (pc := 100) dX12_sizeOf_100 rfl ?_
          refine V_icmp_ne (tgt := 114) (pc := 101) dX12_sizeOf_101 rfl (fun c => ?_) (fun c => ?_)
          · have h := h.1 c
            refine V_iload_n (pc := 114) dX12_sizeOf_114 rfl ?_
            exact V_iret dX12_sizeOf_115 rfl h
          · have h := h.2 c
            refine V_iload_n (pc := 104) dX12_sizeOf_104 rfl ?_
            refine V_aload_n (pc := 105) dX12_sizeOf_105 rfl ?_
            refine V_iload_n (pc := 106) dX12_sizeOf_106 rfl ?_
            refine V_callVi [.int v1] (pc := 107) kX12_markOf lX12_354 sM0 rfl rfl (Nat.le_of_ble_eq_true rfl) rfl (Nat.le_of_ble_eq_true rfl) dX12_sizeOf_107 ?_
            refine Ci.mono h ?_
            intro x21 M21 h
            refine V_iadd (pc := 110) dX12_sizeOf_110 ?_
            refine V_goto (tgt := 115) (pc := 111) dX12_sizeOf_111 rfl ?_
            exact V_iret dX12_sizeOf_115 rfl h
        · have h := h.2 c
          refine V_iconst (v := 2) (pc := 93) dX12_sizeOf_93 rfl ?_
          refine V_iload_n (pc := 94) dX12_sizeOf_94 rfl ?_
          refine V_imul (pc := 95) dX12_sizeOf_95 ?_
          refine V_goto (tgt := 115) (pc := 96) dX12_sizeOf_96 rfl ?_
          exact V_iret dX12_sizeOf_115 rfl h
theorem wp_X12_alike {G : GV} {k : Nat} {M : Mem} {q : Int32 → Mem → Prop} {v1 : Int32} {v2 : Int32} {v3 : Int32} (h : Ci shM G mX12_isLine (k + 3) [.ref (G.2.1 0), .int v1] (mset M 0 0 0) (fun x1 M1 => ((x1 = 0 → q (-1000001) M1) ∧ (¬ x1 = 0 → Ci shM G mX12_isLine (k + 3) [.ref (G.2.1 0), .int v2] M1 (fun x2 M2 => ((x2 = 0 → q (-1000001) M2) ∧ (¬ x2 = 0 → Ci shM G mX12_in (k + 3) [.long (Int32.toInt64 v3), .long 0, .long 2] M2 (fun x3 M3 => ((x3 ≠ 0 → ((v3 ≠ 0 → ((v3 ≠ 1 → Ci shM G mX12_mayBe (k + 3) [.ref (G.2.1 0), .int v1, .int v2] M3 (fun x4 M4 => ((x4 = 0 → q 0 M4) ∧ (¬ x4 = 0 → q 1 M4)))) ∧ (v3 = 1 → Ci shM G mX12_isLike (k + 3) [.ref (G.2.1 0), .int v1, .int v2] M3 (fun x5 M5 => ((x5 = 0 → q 0 M5) ∧ (¬ x5 = 0 → q 1 M5)))))) ∧ (v3 = 0 → Ci shM G mX12_handOf (k + 3) [.ref (G.2.1 0), .int v1, .int v2] M3 (fun x6 M6 => q x6 M6)))) ∧ (x3 = 0 → q (-1000001) M3)))))))))) : Ci shM G mX12_alike (k + 4) [.ref (G.2.1 0), .int v1, .int v2, .int v3] M q := by
  unfold Ci
  show V _ _ _ _ _ [(0, .ref (G.2.1 0)), (1, .int v1), (2, .int v2), (3, .int v3)] _ _ _
  refine V_aload_n (pc := 0) dX12_alike_0 rfl ?_
  refine V_iconst (v := 0) (pc := 1) dX12_alike_1 rfl ?_
  refine V_putI (pc := 2) fX12_108 p12_0 sM0 rfl dX12_alike_2 ?_
  refine V_aload_n (pc := 5) dX12_alike_5 rfl ?_
  refine V_iload_n (pc := 6) dX12_alike_6 rfl ?_
  refine V_callVi [.int v1] (pc := 7) kX12_isLine lX12_255 sM0 rfl rfl (Nat.le_of_ble_eq_true rfl) rfl (Nat.le_of_ble_eq_true rfl) dX12_alike_7 ?_
  refine Ci.mono h ?_
  intro x1 M1 h
  refine V_if_eq (tgt := 33) (pc := 10) dX12_alike_10 rfl (fun c => ?_) (fun c => ?_)
  · have h := h.1 c
    refine V_ldc (pc := 33) dX12_alike_33 nX12_128 ?_
    exact V_iret dX12_alike_35 rfl h
  · have h := h.2 c
    refine V_aload_n (pc := 13) dX12_alike_13 rfl ?_
    refine V_iload_n (pc := 14) dX12_alike_14 rfl ?_
    refine V_callVi [.int v2] (pc := 15) kX12_isLine lX12_255 sM0 rfl rfl (Nat.le_of_ble_eq_true rfl) rfl (Nat.le_of_ble_eq_true rfl) dX12_alike_15 ?_
    refine Ci.mono h ?_
    intro x2 M2 h
    refine V_if_eq (tgt := 33) (pc := 18) dX12_alike_18 rfl (fun c => ?_) (fun c => ?_)
    · have h := h.1 c
      refine V_ldc (pc := 33) dX12_alike_33 nX12_128 ?_
      exact V_iret dX12_alike_35 rfl h
    · have h := h.2 c
      refine V_iload_n (pc := 21) dX12_alike_21 rfl ?_
      refine V_i2l (pc := 22) dX12_alike_22 ?_
      refine V_lconst (v := 0) (pc := 23) dX12_alike_23 rfl ?_
      refine V_ldc2 (pc := 24) dX12_alike_24 nX12_126 ?_
      refine V_callSi [.long (Int32.toInt64 v3), .long 0, .long 2] (pc := 27) kX12_in lX12_118 rfl (Nat.le_of_ble_eq_true rfl) rfl (Nat.le_of_ble_eq_true rfl) dX12_alike_27 ?_
      refine Ci.mono h ?_
      intro x3 M3 h
      refine V_if_ne (tgt := 36) (pc := 30) dX12_alike_30 rfl (fun c => ?_) (fun c => ?_)
      · have h := h.1 c
        refine V_iload_n (pc := 36) dX12_alike_36 rfl ?_
        refine V_if_ne (tgt := 49) (pc := 37) dX12_alike_37 rfl (fun c => ?_) (fun c => ?_)
        · have h := h.1 c
          refine V_iload_n (pc := 49) dX12_alike_49 rfl ?_
          refine V_iconst (v := 1) (pc := 50) dX12_alike_50 rfl ?_
          refine V_icmp_ne (tgt := 71) (pc := 51) dX12_alike_51 rfl (fun c => ?_) (fun c => ?_)
          · have h := h.1 c
            refine V_aload_n (pc := 71) dX12_alike_71 rfl ?_
            refine V_iload_n (pc := 72) dX12_alike_72 rfl ?_
            refine V_iload_n (pc := 73) dX12_alike_73 rfl ?_
            refine V_callVi [.int v1, .int v2] (pc := 74) kX12_mayBe lX12_298 sM0 rfl rfl (Nat.le_of_ble_eq_true rfl) rfl (Nat.le_of_ble_eq_true rfl) dX12_alike_74 ?_
            refine Ci.mono h ?_
            intro x4 M4 h
            refine V_if_eq (tgt := 84) (pc := 77) dX12_alike_77 rfl (fun c => ?_) (fun c => ?_)
            · have h := h.1 c
              refine V_iconst (v := 0) (pc := 84) dX12_alike_84 rfl ?_
              exact V_iret dX12_alike_85 rfl h
            · have h := h.2 c
              refine V_iconst (v := 1) (pc := 80) dX12_alike_80 rfl ?_
              refine V_goto (tgt := 85) (pc := 81) dX12_alike_81 rfl ?_
              exact V_iret dX12_alike_85 rfl h
          · have h := h.2 c
            refine V_aload_n (pc := 54) dX12_alike_54 rfl ?_
            refine V_iload_n (pc := 55) dX12_alike_55 rfl ?_
            refine V_iload_n (pc := 56) dX12_alike_56 rfl ?_
            refine V_callVi [.int v1, .int v2] (pc := 57) kX12_isLike lX12_286 sM0 rfl rfl (Nat.le_of_ble_eq_true rfl) rfl (Nat.le_of_ble_eq_true rfl) dX12_alike_57 ?_
            refine Ci.mono h ?_
            intro x5 M5 h
            refine V_if_eq (tgt := 67) (pc := 60) dX12_alike_60 rfl (fun c => ?_) (fun c => ?_)
            · have h := h.1 c
              refine V_iconst (v := 0) (pc := 67) dX12_alike_67 rfl ?_
              refine V_goto (tgt := 85) (pc := 68) dX12_alike_68 rfl ?_
              exact V_iret dX12_alike_85 rfl h
            · have h := h.2 c
              refine V_iconst (v := 1) (pc := 63) dX12_alike_63 rfl ?_
              refine V_goto (tgt := 85) (pc := 64) dX12_alike_64 rfl ?_
              exact V_iret dX12_alike_85 rfl h
        · have h := h.2 c
          refine V_aload_n (pc := 40) dX12_alike_40 rfl ?_
          refine V_iload_n (pc := 41) dX12_alike_41 rfl ?_
          refine V_iload_n (pc := 42) dX12_alike_42 rfl ?_
          refine V_callVi [.int v1, .int v2] (pc := 43) kX12_handOf lX12_283 sM0 rfl rfl (Nat.le_of_ble_eq_true rfl) rfl (Nat.le_of_ble_eq_true rfl) dX12_alike_43 ?_
          refine Ci.mono h ?_
          intro x6 M6 h
          refine V_goto (tgt := 85) (pc := 46) dX12_alike_46 rfl ?_
          exact V_iret dX12_alike_85 rfl h
      · have h := h.2 c
        refine V_ldc (pc := 33) dX12_alike_33 nX12_128 ?_
        exact V_iret dX12_alike_35 rfl h
theorem wp_X12_ask {G : GV} {k : Nat} {M : Mem} {q : Int32 → Mem → Prop} {v1 : Int32} {v2 : Int32} (h : Ci shM G mX12_isLine (k + 3) [.ref (G.2.1 0), .int v1] (mset M 0 0 0) (fun x1 M1 => ((x1 = 0 → q (-1000001) M1) ∧ (¬ x1 = 0 → Ci shM G mX12_in (k + 3) [.long (Int32.toInt64 v2), .long 0, .long 1] M1 (fun x2 M2 => ((x2 ≠ 0 → ((v2 ≠ 0 → Ci shM G mX12_markOf (k + 3) [.ref (G.2.1 0), .int v1] (mset M2 0 53 0) (fun x3 M3 => q x3 M3)) ∧ (v2 = 0 → Ci shM G mX12_sizeOf (k + 3) [.ref (G.2.1 0), .int v1] (mset M2 0 53 0) (fun x4 M4 => q x4 M4)))) ∧ (x2 = 0 → q (-1000001) M2))))))) : Ci shM G mX12_ask (k + 4) [.ref (G.2.1 0), .int v1, .int v2] M q := by
  unfold Ci
  show V _ _ _ _ _ [(0, .ref (G.2.1 0)), (1, .int v1), (2, .int v2)] _ _ _
  refine V_aload_n (pc := 0) dX12_ask_0 rfl ?_
  refine V_iconst (v := 0) (pc := 1) dX12_ask_1 rfl ?_
  refine V_putI (pc := 2) fX12_108 p12_0 sM0 rfl dX12_ask_2 ?_
  refine V_aload_n (pc := 5) dX12_ask_5 rfl ?_
  refine V_iload_n (pc := 6) dX12_ask_6 rfl ?_
  refine V_callVi [.int v1] (pc := 7) kX12_isLine lX12_255 sM0 rfl rfl (Nat.le_of_ble_eq_true rfl) rfl (Nat.le_of_ble_eq_true rfl) dX12_ask_7 ?_
  refine Ci.mono h ?_
  intro x1 M1 h
  refine V_if_eq (tgt := 23) (pc := 10) dX12_ask_10 rfl (fun c => ?_) (fun c => ?_)
  · have h := h.1 c
    refine V_ldc (pc := 23) dX12_ask_23 nX12_128 ?_
    exact V_iret dX12_ask_25 rfl h
  · have h := h.2 c
    refine V_iload_n (pc := 13) dX12_ask_13 rfl ?_
    refine V_i2l (pc := 14) dX12_ask_14 ?_
    refine V_lconst (v := 0) (pc := 15) dX12_ask_15 rfl ?_
    refine V_lconst (v := 1) (pc := 16) dX12_ask_16 rfl ?_
    refine V_callSi [.long (Int32.toInt64 v2), .long 0, .long 1] (pc := 17) kX12_in lX12_118 rfl (Nat.le_of_ble_eq_true rfl) rfl (Nat.le_of_ble_eq_true rfl) dX12_ask_17 ?_
    refine Ci.mono h ?_
    intro x2 M2 h
    refine V_if_ne (tgt := 26) (pc := 20) dX12_ask_20 rfl (fun c => ?_) (fun c => ?_)
    · have h := h.1 c
      refine V_aload_n (pc := 26) dX12_ask_26 rfl ?_
      refine V_iconst (v := 0) (pc := 27) dX12_ask_27 rfl ?_
      refine V_putI (pc := 28) fX12_345 p12_53 sM0 rfl dX12_ask_28 ?_
      refine V_iload_n (pc := 31) dX12_ask_31 rfl ?_
      refine V_if_ne (tgt := 43) (pc := 32) dX12_ask_32 rfl (fun c => ?_) (fun c => ?_)
      · have h := h.1 c
        refine V_aload_n (pc := 43) dX12_ask_43 rfl ?_
        refine V_iload_n (pc := 44) dX12_ask_44 rfl ?_
        refine V_callVi [.int v1] (pc := 45) kX12_markOf lX12_354 sM0 rfl rfl (Nat.le_of_ble_eq_true rfl) rfl (Nat.le_of_ble_eq_true rfl) dX12_ask_45 ?_
        refine Ci.mono h ?_
        intro x3 M3 h
        exact V_iret dX12_ask_48 rfl h
      · have h := h.2 c
        refine V_aload_n (pc := 35) dX12_ask_35 rfl ?_
        refine V_iload_n (pc := 36) dX12_ask_36 rfl ?_
        refine V_callVi [.int v1] (pc := 37) kX12_sizeOf lX12_357 sM0 rfl rfl (Nat.le_of_ble_eq_true rfl) rfl (Nat.le_of_ble_eq_true rfl) dX12_ask_37 ?_
        refine Ci.mono h ?_
        intro x4 M4 h
        refine V_goto (tgt := 48) (pc := 40) dX12_ask_40 rfl ?_
        exact V_iret dX12_ask_48 rfl h
    · have h := h.2 c
      refine V_ldc (pc := 23) dX12_ask_23 nX12_128 ?_
      exact V_iret dX12_ask_25 rfl h
theorem wp_X12_found {G : GV} {k : Nat} {M : Mem} {q : Int32 → Mem → Prop} {v1 : Int32} {v2 : Int32} {v3 : Int32} {v4 : Int32} {v5 : Int32} (h : Ci shM G mX12_isSpan (k + 3) [.int v1, .int v2, .int v3] (mset M 0 0 0) (fun x1 M1 => ((x1 = 0 → q (-1000001) M1) ∧ (¬ x1 = 0 → Ci shM G mX12_in (k + 3) [.long (Int32.toInt64 v5), .long 0, .long 1] M1 (fun x2 M2 => ((x2 ≠ 0 → Cv shM G mX12_match (k + 3) [.ref (G.2.1 0), .int v1, .int v2, .int v3] M2 (fun M3 => V shM G mX12_found (k + 4) 44 [(0, .ref (G.2.1 0)), (1, .int v1), (2, .int v2), (3, .int v3), (4, .int v4), (5, .int v5), (6, .int 0), (7, .int 0), (8, .int 0)] [] M3 (Qi q))) ∧ (x2 = 0 → q (-1000001) M2))))))) : Ci shM G mX12_found (k + 4) [.ref (G.2.1 0), .int v1, .int v2, .int v3, .int v4, .int v5] M q := by
  unfold Ci
  show V _ _ _ _ _ [(0, .ref (G.2.1 0)), (1, .int v1), (2, .int v2), (3, .int v3), (4, .int v4), (5, .int v5)] _ _ _
  refine V_aload_n (pc := 0) dX12_found_0 rfl ?_
  refine V_iconst (v := 0) (pc := 1) dX12_found_1 rfl ?_
  refine V_putI (pc := 2) fX12_108 p12_0 sM0 rfl dX12_found_2 ?_
  refine V_iload_n (pc := 5) dX12_found_5 rfl ?_
  refine V_iload_n (pc := 6) dX12_found_6 rfl ?_
  refine V_iload_n (pc := 7) dX12_found_7 rfl ?_
  refine V_callSi [.int v1, .int v2, .int v3] (pc := 8) kX12_isSpan lX12_330 rfl (Nat.le_of_ble_eq_true rfl) rfl (Nat.le_of_ble_eq_true rfl) dX12_found_8 ?_
  refine Ci.mono h ?_
  intro x1 M1 h
  refine V_if_eq (tgt := 25) (pc := 11) dX12_found_11 rfl (fun c => ?_) (fun c => ?_)
  · have h := h.1 c
    refine V_ldc (pc := 25) dX12_found_25 nX12_128 ?_
    exact V_iret dX12_found_27 rfl h
  · have h := h.2 c
    refine V_iload (pc := 14) dX12_found_14 rfl ?_
    refine V_i2l (pc := 16) dX12_found_16 ?_
    refine V_lconst (v := 0) (pc := 17) dX12_found_17 rfl ?_
    refine V_lconst (v := 1) (pc := 18) dX12_found_18 rfl ?_
    refine V_callSi [.long (Int32.toInt64 v5), .long 0, .long 1] (pc := 19) kX12_in lX12_118 rfl (Nat.le_of_ble_eq_true rfl) rfl (Nat.le_of_ble_eq_true rfl) dX12_found_19 ?_
    refine Ci.mono h ?_
    intro x2 M2 h
    refine V_if_ne (tgt := 28) (pc := 22) dX12_found_22 rfl (fun c => ?_) (fun c => ?_)
    · have h := h.1 c
      refine V_aload_n (pc := 28) dX12_found_28 rfl ?_
      refine V_iload_n (pc := 29) dX12_found_29 rfl ?_
      refine V_iload_n (pc := 30) dX12_found_30 rfl ?_
      refine V_iload_n (pc := 31) dX12_found_31 rfl ?_
      refine V_callVv [.int v1, .int v2, .int v3] (pc := 32) kX12_match lX12_333 sM0 rfl rfl (Nat.le_of_ble_eq_true rfl) rfl (Nat.le_of_ble_eq_true rfl) dX12_found_32 ?_
      refine Cv.mono h ?_
      intro M3 h
      refine V_iconst (v := 0) (pc := 35) dX12_found_35 rfl ?_
      refine V_istore (pc := 36) dX12_found_36 (by decide) ?_
      refine V_iconst (v := 0) (pc := 38) dX12_found_38 rfl ?_
      refine V_istore (pc := 39) dX12_found_39 (by decide) ?_
      refine V_iconst (v := 0) (pc := 41) dX12_found_41 rfl ?_
      refine V_istore (pc := 42) dX12_found_42 (by decide) ?_
      exact V_sub h ⟨rfl, rfl, rfl, rfl, rfl, rfl, rfl, rfl, rfl, trivial⟩
    · have h := h.2 c
      refine V_ldc (pc := 25) dX12_found_25 nX12_128 ?_
      exact V_iret dX12_found_27 rfl h
theorem wp_X12_found_44 {G : GV} {k : Nat} {M : Mem} {q : Int32 → Mem → Prop} {v1 : Int32} {v2 : Int32} {v3 : Int32} {v4 : Int32} {v5 : Int32} {v6 : Int32} {v7 : Int32} {v8 : Int32} (h : ((v4 < v8 → q (-1000000) M) ∧ (¬ v4 < v8 → vp_in ((13 * v6) + v7) 169 ∧ (((M.1 31 (ix ((13 * v6) + v7))) ≤ 0 → q (-1000000) M) ∧ (¬ (M.1 31 (ix ((13 * v6) + v7))) ≤ 0 → vp_in ((13 * v6) + v7) 169 ∧ V shM G mX12_found (k + 4) 94 [(0, .ref (G.2.1 0)), (1, .int v1), (2, .int v2), (3, .int v3), (4, .int v4), (5, .int v5), (6, .int v6), (7, .int v7), (8, .int v8), (9, .int (M.1 31 (ix ((13 * v6) + v7)))), (10, .int (-1000000)), (11, .int (-1000000)), (12, .int v6)] [] M (Qi q)))))) : V shM G mX12_found (k + 4) 44 [(0, .ref (G.2.1 0)), (1, .int v1), (2, .int v2), (3, .int v3), (4, .int v4), (5, .int v5), (6, .int v6), (7, .int v7), (8, .int v8)] [] M (Qi q) := by
  refine V_iload (pc := 44) dX12_found_44 rfl ?_
  refine V_iload (pc := 46) dX12_found_46 rfl ?_
  refine V_icmp_gt (tgt := 242) (pc := 48) dX12_found_48 rfl (fun c => ?_) (fun c => ?_)
  · have h := h.1 c
    refine V_ldc (pc := 242) dX12_found_242 nX12_144 ?_
    exact V_iret dX12_found_244 rfl h
  · have h := h.2 c
    refine V_aload_n (pc := 51) dX12_found_51 rfl ?_
    refine V_getR (pc := 52) fX12_102 sM0 rfl dX12_found_52 ?_
    refine V_bipush (v := 13) (pc := 55) dX12_found_55 rfl ?_
    refine V_iload (pc := 57) dX12_found_57 rfl ?_
    refine V_imul (pc := 59) dX12_found_59 ?_
    refine V_iload (pc := 60) dX12_found_60 rfl ?_
    refine V_iadd (pc := 62) dX12_found_62 ?_
    refine V_iald (pc := 63) sM31 dX12_found_63 h.1 ?_
    have h := h.2
    refine V_if_le (tgt := 242) (pc := 64) dX12_found_64 rfl (fun c => ?_) (fun c => ?_)
    · have h := h.1 c
      refine V_ldc (pc := 242) dX12_found_242 nX12_144 ?_
      exact V_iret dX12_found_244 rfl h
    · have h := h.2 c
      refine V_aload_n (pc := 67) dX12_found_67 rfl ?_
      refine V_getR (pc := 68) fX12_102 sM0 rfl dX12_found_68 ?_
      refine V_bipush (v := 13) (pc := 71) dX12_found_71 rfl ?_
      refine V_iload (pc := 73) dX12_found_73 rfl ?_
      refine V_imul (pc := 75) dX12_found_75 ?_
      refine V_iload (pc := 76) dX12_found_76 rfl ?_
      refine V_iadd (pc := 78) dX12_found_78 ?_
      refine V_iald (pc := 79) sM31 dX12_found_79 h.1 ?_
      have h := h.2
      refine V_istore (pc := 80) dX12_found_80 (by decide) ?_
      refine V_ldc (pc := 82) dX12_found_82 nX12_144 ?_
      refine V_istore (pc := 84) dX12_found_84 (by decide) ?_
      refine V_ldc (pc := 86) dX12_found_86 nX12_144 ?_
      refine V_istore (pc := 88) dX12_found_88 (by decide) ?_
      refine V_iload (pc := 90) dX12_found_90 rfl ?_
      refine V_istore (pc := 92) dX12_found_92 (by decide) ?_
      exact V_sub h ⟨rfl, rfl, rfl, rfl, rfl, rfl, rfl, rfl, rfl, rfl, rfl, rfl, rfl, trivial⟩
theorem wp_X12_found_94 {G : GV} {k : Nat} {M : Mem} {q : Int32 → Mem → Prop} {v1 : Int32} {v2 : Int32} {v3 : Int32} {v4 : Int32} {v5 : Int32} {v6 : Int32} {v7 : Int32} {v8 : Int32} {v9 : Int32} {v10 : Int32} {v11 : Int32} {v12 : Int32} (h : (((M.1 0 47) ≤ v12 → ((v8 ≠ v4 → V shM G mX12_found (k + 4) 44 [(0, .ref (G.2.1 0)), (1, .int v1), (2, .int v2), (3, .int v3), (4, .int v4), (5, .int v5), (6, .int (v10 + 1)), (7, .int (v11 + 1)), (8, .int (v8 + 1))] [] M (Qi q)) ∧ (v8 = v4 → ((v5 ≠ 0 → vp_in v11 12 ∧ q (M.1 30 (ix v11)) M) ∧ (v5 = 0 → vp_in v10 12 ∧ q (M.1 29 (ix v10)) M))))) ∧ (¬ (M.1 0 47) ≤ v12 → ((v10 ≠ (-1000000) → ((v8 ≠ v4 → V shM G mX12_found (k + 4) 44 [(0, .ref (G.2.1 0)), (1, .int v1), (2, .int v2), (3, .int v3), (4, .int v4), (5, .int v5), (6, .int (v10 + 1)), (7, .int (v11 + 1)), (8, .int (v8 + 1))] [] M (Qi q)) ∧ (v8 = v4 → ((v5 ≠ 0 → vp_in v11 12 ∧ q (M.1 30 (ix v11)) M) ∧ (v5 = 0 → vp_in v10 12 ∧ q (M.1 29 (ix v10)) M))))) ∧ (v10 = (-1000000) → V shM G mX12_found (k + 4) 114 [(0, .ref (G.2.1 0)), (1, .int v1), (2, .int v2), (3, .int v3), (4, .int v4), (5, .int v5), (6, .int v6), (7, .int v7), (8, .int v8), (9, .int v9), (10, .int v10), (11, .int v11), (12, .int v12), (13, .int v7)] [] M (Qi q)))))) : V shM G mX12_found (k + 4) 94 [(0, .ref (G.2.1 0)), (1, .int v1), (2, .int v2), (3, .int v3), (4, .int v4), (5, .int v5), (6, .int v6), (7, .int v7), (8, .int v8), (9, .int v9), (10, .int v10), (11, .int v11), (12, .int v12)] [] M (Qi q) := by
  refine V_iload (pc := 94) dX12_found_94 rfl ?_
  refine V_aload_n (pc := 96) dX12_found_96 rfl ?_
  refine V_getI (pc := 97) fX12_324 sM0 rfl dX12_found_97 ?_
  refine V_icmp_ge (tgt := 194) (pc := 100) dX12_found_100 rfl (fun c => ?_) (fun c => ?_)
  · have h := h.1 c
    refine V_iload (pc := 194) dX12_found_194 rfl ?_
    refine V_iload (pc := 196) dX12_found_196 rfl ?_
    refine V_icmp_ne (tgt := 224) (pc := 198) dX12_found_198 rfl (fun c => ?_) (fun c => ?_)
    · have h := h.1 c
      refine V_iload (pc := 224) dX12_found_224 rfl ?_
      refine V_iconst (v := 1) (pc := 226) dX12_found_226 rfl ?_
      refine V_iadd (pc := 227) dX12_found_227 ?_
      refine V_istore (pc := 228) dX12_found_228 (by decide) ?_
      refine V_iload (pc := 230) dX12_found_230 rfl ?_
      refine V_iconst (v := 1) (pc := 232) dX12_found_232 rfl ?_
      refine V_iadd (pc := 233) dX12_found_233 ?_
      refine V_istore (pc := 234) dX12_found_234 (by decide) ?_
      refine V_iinc (pc := 236) dX12_found_236 rfl (by decide) ?_
      refine V_goto (tgt := 44) (pc := 239) dX12_found_239 rfl ?_
      exact V_sub h ⟨rfl, rfl, rfl, rfl, rfl, rfl, rfl, rfl, rfl, trivial⟩
    · have h := h.2 c
      refine V_iload (pc := 201) dX12_found_201 rfl ?_
      refine V_if_ne (tgt := 216) (pc := 203) dX12_found_203 rfl (fun c => ?_) (fun c => ?_)
      · have h := h.1 c
        refine V_aload_n (pc := 216) dX12_found_216 rfl ?_
        refine V_getR (pc := 217) fX12_99 sM0 rfl dX12_found_217 ?_
        refine V_iload (pc := 220) dX12_found_220 rfl ?_
        refine V_iald (pc := 222) sM30 dX12_found_222 h.1 ?_
        have h := h.2
        exact V_iret dX12_found_223 rfl h
      · have h := h.2 c
        refine V_aload_n (pc := 206) dX12_found_206 rfl ?_
        refine V_getR (pc := 207) fX12_96 sM0 rfl dX12_found_207 ?_
        refine V_iload (pc := 210) dX12_found_210 rfl ?_
        refine V_iald (pc := 212) sM29 dX12_found_212 h.1 ?_
        have h := h.2
        refine V_goto (tgt := 223) (pc := 213) dX12_found_213 rfl ?_
        exact V_iret dX12_found_223 rfl h
  · have h := h.2 c
    refine V_iload (pc := 103) dX12_found_103 rfl ?_
    refine V_ldc (pc := 105) dX12_found_105 nX12_144 ?_
    refine V_icmp_ne (tgt := 194) (pc := 107) dX12_found_107 rfl (fun c => ?_) (fun c => ?_)
    · have h := h.1 c
      refine V_iload (pc := 194) dX12_found_194 rfl ?_
      refine V_iload (pc := 196) dX12_found_196 rfl ?_
      refine V_icmp_ne (tgt := 224) (pc := 198) dX12_found_198 rfl (fun c => ?_) (fun c => ?_)
      · have h := h.1 c
        refine V_iload (pc := 224) dX12_found_224 rfl ?_
        refine V_iconst (v := 1) (pc := 226) dX12_found_226 rfl ?_
        refine V_iadd (pc := 227) dX12_found_227 ?_
        refine V_istore (pc := 228) dX12_found_228 (by decide) ?_
        refine V_iload (pc := 230) dX12_found_230 rfl ?_
        refine V_iconst (v := 1) (pc := 232) dX12_found_232 rfl ?_
        refine V_iadd (pc := 233) dX12_found_233 ?_
        refine V_istore (pc := 234) dX12_found_234 (by decide) ?_
        refine V_iinc (pc := 236) dX12_found_236 rfl (by decide) ?_
        refine V_goto (tgt := 44) (pc := 239) dX12_found_239 rfl ?_
        exact V_sub h ⟨rfl, rfl, rfl, rfl, rfl, rfl, rfl, rfl, rfl, trivial⟩
      · have h := h.2 c
        refine V_iload (pc := 201) dX12_found_201 rfl ?_
        refine V_if_ne (tgt := 216) (pc := 203) dX12_found_203 rfl (fun c => ?_) (fun c => ?_)
        · have h := h.1 c
          refine V_aload_n (pc := 216) dX12_found_216 rfl ?_
          refine V_getR (pc := 217) fX12_99 sM0 rfl dX12_found_217 ?_
          refine V_iload (pc := 220) dX12_found_220 rfl ?_
          refine V_iald (pc := 222) sM30 dX12_found_222 h.1 ?_
          have h := h.2
          exact V_iret dX12_found_223 rfl h
        · have h := h.2 c
          refine V_aload_n (pc := 206) dX12_found_206 rfl ?_
          refine V_getR (pc := 207) fX12_96 sM0 rfl dX12_found_207 ?_
          refine V_iload (pc := 210) dX12_found_210 rfl ?_
          refine V_iald (pc := 212) sM29 dX12_found_212 h.1 ?_
          have h := h.2
          refine V_goto (tgt := 223) (pc := 213) dX12_found_213 rfl ?_
          exact V_iret dX12_found_223 rfl h
    · have h := h.2 c
      refine V_iload (pc := 110) dX12_found_110 rfl ?_
      refine V_istore (pc := 112) dX12_found_112 (by decide) ?_
      exact V_sub h ⟨rfl, rfl, rfl, rfl, rfl, rfl, rfl, rfl, rfl, rfl, rfl, rfl, rfl, rfl, trivial⟩
theorem wp_X12_found_114 {G : GV} {k : Nat} {M : Mem} {q : Int32 → Mem → Prop} {v1 : Int32} {v2 : Int32} {v3 : Int32} {v4 : Int32} {v5 : Int32} {v6 : Int32} {v7 : Int32} {v8 : Int32} {v9 : Int32} {v10 : Int32} {v11 : Int32} {v12 : Int32} {v13 : Int32} (h : (((M.1 0 48) ≤ v13 → V shM G mX12_found (k + 4) 94 [(0, .ref (G.2.1 0)), (1, .int v1), (2, .int v2), (3, .int v3), (4, .int v4), (5, .int v5), (6, .int v6), (7, .int v7), (8, .int v8), (9, .int v9), (10, .int v10), (11, .int v11), (12, .int (v12 + 1))] [] M (Qi q)) ∧ (¬ (M.1 0 48) ≤ v13 → ((v10 ≠ (-1000000) → V shM G mX12_found (k + 4) 94 [(0, .ref (G.2.1 0)), (1, .int v1), (2, .int v2), (3, .int v3), (4, .int v4), (5, .int v5), (6, .int v6), (7, .int v7), (8, .int v8), (9, .int v9), (10, .int v10), (11, .int v11), (12, .int (v12 + 1))] [] M (Qi q)) ∧ (v10 = (-1000000) → vp_in v12 12 ∧ vp_in v13 12 ∧ Ci shM G mX12_isLike (k + 3) [.ref (G.2.1 0), .int (M.1 29 (ix v12)), .int (M.1 30 (ix v13))] M (fun x1 M1 => ((x1 = 0 → V shM G mX12_found (k + 4) 114 [(0, .ref (G.2.1 0)), (1, .int v1), (2, .int v2), (3, .int v3), (4, .int v4), (5, .int v5), (6, .int v6), (7, .int v7), (8, .int v8), (9, .int v9), (10, .int v10), (11, .int v11), (12, .int v12), (13, .int (v13 + 1))] [] M1 (Qi q)) ∧ (¬ x1 = 0 → vp_in (((13 * v12) + 14) + v13) 169 ∧ ((((M1.1 31 (ix (((13 * v12) + 14) + v13))) + 1) ≠ v9 → V shM G mX12_found (k + 4) 114 [(0, .ref (G.2.1 0)), (1, .int v1), (2, .int v2), (3, .int v3), (4, .int v4), (5, .int v5), (6, .int v6), (7, .int v7), (8, .int v8), (9, .int v9), (10, .int v10), (11, .int v11), (12, .int v12), (13, .int (v13 + 1))] [] M1 (Qi q)) ∧ (((M1.1 31 (ix (((13 * v12) + 14) + v13))) + 1) = v9 → V shM G mX12_found (k + 4) 114 [(0, .ref (G.2.1 0)), (1, .int v1), (2, .int v2), (3, .int v3), (4, .int v4), (5, .int v5), (6, .int v6), (7, .int v7), (8, .int v8), (9, .int v9), (10, .int v12), (11, .int v13), (12, .int v12), (13, .int (v13 + 1))] [] M1 (Qi q))))))))))) : V shM G mX12_found (k + 4) 114 [(0, .ref (G.2.1 0)), (1, .int v1), (2, .int v2), (3, .int v3), (4, .int v4), (5, .int v5), (6, .int v6), (7, .int v7), (8, .int v8), (9, .int v9), (10, .int v10), (11, .int v11), (12, .int v12), (13, .int v13)] [] M (Qi q) := by
  refine V_iload (pc := 114) dX12_found_114 rfl ?_
  refine V_aload_n (pc := 116) dX12_found_116 rfl ?_
  refine V_getI (pc := 117) fX12_327 sM0 rfl dX12_found_117 ?_
  refine V_icmp_ge (tgt := 188) (pc := 120) dX12_found_120 rfl (fun c => ?_) (fun c => ?_)
  · have h := h.1 c
    refine V_iinc (pc := 188) dX12_found_188 rfl (by decide) ?_
    refine V_goto (tgt := 94) (pc := 191) dX12_found_191 rfl ?_
    exact V_sub h ⟨rfl, rfl, rfl, rfl, rfl, rfl, rfl, rfl, rfl, rfl, rfl, rfl, rfl, trivial⟩
  · have h := h.2 c
    refine V_iload (pc := 123) dX12_found_123 rfl ?_
    refine V_ldc (pc := 125) dX12_found_125 nX12_144 ?_
    refine V_icmp_ne (tgt := 188) (pc := 127) dX12_found_127 rfl (fun c => ?_) (fun c => ?_)
    · have h := h.1 c
      refine V_iinc (pc := 188) dX12_found_188 rfl (by decide) ?_
      refine V_goto (tgt := 94) (pc := 191) dX12_found_191 rfl ?_
      exact V_sub h ⟨rfl, rfl, rfl, rfl, rfl, rfl, rfl, rfl, rfl, rfl, rfl, rfl, rfl, trivial⟩
    · have h := h.2 c
      refine V_aload_n (pc := 130) dX12_found_130 rfl ?_
      refine V_aload_n (pc := 131) dX12_found_131 rfl ?_
      refine V_getR (pc := 132) fX12_96 sM0 rfl dX12_found_132 ?_
      refine V_iload (pc := 135) dX12_found_135 rfl ?_
      refine V_iald (pc := 137) sM29 dX12_found_137 h.1 ?_
      have h := h.2
      refine V_aload_n (pc := 138) dX12_found_138 rfl ?_
      refine V_getR (pc := 139) fX12_99 sM0 rfl dX12_found_139 ?_
      refine V_iload (pc := 142) dX12_found_142 rfl ?_
      refine V_iald (pc := 144) sM30 dX12_found_144 h.1 ?_
      have h := h.2
      refine V_callVi [.int (M.1 29 (ix v12)), .int (M.1 30 (ix v13))] (pc := 145) kX12_isLike lX12_286 sM0 rfl rfl (Nat.le_of_ble_eq_true rfl) rfl (Nat.le_of_ble_eq_true rfl) dX12_found_145 ?_
      refine Ci.mono h ?_
      intro x1 M1 h
      refine V_if_eq (tgt := 182) (pc := 148) dX12_found_148 rfl (fun c => ?_) (fun c => ?_)
      · have h := h.1 c
        refine V_iinc (pc := 182) dX12_found_182 rfl (by decide) ?_
        refine V_goto (tgt := 114) (pc := 185) dX12_found_185 rfl ?_
        exact V_sub h ⟨rfl, rfl, rfl, rfl, rfl, rfl, rfl, rfl, rfl, rfl, rfl, rfl, rfl, rfl, trivial⟩
      · have h := h.2 c
        refine V_aload_n (pc := 151) dX12_found_151 rfl ?_
        refine V_getR (pc := 152) fX12_102 sM0 rfl dX12_found_152 ?_
        refine V_bipush (v := 13) (pc := 155) dX12_found_155 rfl ?_
        refine V_iload (pc := 157) dX12_found_157 rfl ?_
        refine V_imul (pc := 159) dX12_found_159 ?_
        refine V_bipush (v := 14) (pc := 160) dX12_found_160 rfl ?_
        refine V_iadd (pc := 162) dX12_found_162 ?_
        refine V_iload (pc := 163) dX12_found_163 rfl ?_
        refine V_iadd (pc := 165) dX12_found_165 ?_
        refine V_iald (pc := 166) sM31 dX12_found_166 h.1 ?_
        have h := h.2
        refine V_iconst (v := 1) (pc := 167) dX12_found_167 rfl ?_
        refine V_iadd (pc := 168) dX12_found_168 ?_
        refine V_iload (pc := 169) dX12_found_169 rfl ?_
        refine V_icmp_ne (tgt := 182) (pc := 171) dX12_found_171 rfl (fun c => ?_) (fun c => ?_)
        · have h := h.1 c
          refine V_iinc (pc := 182) dX12_found_182 rfl (by decide) ?_
          refine V_goto (tgt := 114) (pc := 185) dX12_found_185 rfl ?_
          exact V_sub h ⟨rfl, rfl, rfl, rfl, rfl, rfl, rfl, rfl, rfl, rfl, rfl, rfl, rfl, rfl, trivial⟩
        · have h := h.2 c
          refine V_iload (pc := 174) dX12_found_174 rfl ?_
          refine V_istore (pc := 176) dX12_found_176 (by decide) ?_
          refine V_iload (pc := 178) dX12_found_178 rfl ?_
          refine V_istore (pc := 180) dX12_found_180 (by decide) ?_
          refine V_iinc (pc := 182) dX12_found_182 rfl (by decide) ?_
          refine V_goto (tgt := 114) (pc := 185) dX12_found_185 rfl ?_
          exact V_sub h ⟨rfl, rfl, rfl, rfl, rfl, rfl, rfl, rfl, rfl, rfl, rfl, rfl, rfl, rfl, trivial⟩
theorem wp_X12_lost {G : GV} {k : Nat} {M : Mem} {q : Int32 → Mem → Prop} {v1 : Int32} {v2 : Int32} {v3 : Int32} {v4 : Int32} (h : Ci shM G mX12_isSpan (k + 3) [.int v1, .int v2, .int v3] (mset M 0 0 0) (fun x1 M1 => ((x1 = 0 → q (-1000001) M1) ∧ (¬ x1 = 0 → Ci shM G mX12_in (k + 3) [.long (Int32.toInt64 v4), .long 0, .long 2] M1 (fun x2 M2 => ((x2 ≠ 0 → Cv shM G mX12_match (k + 3) [.ref (G.2.1 0), .int v1, .int v2, .int v3] M2 (fun M3 => ((v4 ≠ 0 → ((v4 ≠ 1 → q (M3.1 0 48) M3) ∧ (v4 = 1 → q (M3.1 0 47) M3))) ∧ (v4 = 0 → vp_in 0 169 ∧ q (M3.1 31 (ix 0)) M3)))) ∧ (x2 = 0 → q (-1000001) M2))))))) : Ci shM G mX12_lost (k + 4) [.ref (G.2.1 0), .int v1, .int v2, .int v3, .int v4] M q := by
  unfold Ci
  show V _ _ _ _ _ [(0, .ref (G.2.1 0)), (1, .int v1), (2, .int v2), (3, .int v3), (4, .int v4)] _ _ _
  refine V_aload_n (pc := 0) dX12_lost_0 rfl ?_
  refine V_iconst (v := 0) (pc := 1) dX12_lost_1 rfl ?_
  refine V_putI (pc := 2) fX12_108 p12_0 sM0 rfl dX12_lost_2 ?_
  refine V_iload_n (pc := 5) dX12_lost_5 rfl ?_
  refine V_iload_n (pc := 6) dX12_lost_6 rfl ?_
  refine V_iload_n (pc := 7) dX12_lost_7 rfl ?_
  refine V_callSi [.int v1, .int v2, .int v3] (pc := 8) kX12_isSpan lX12_330 rfl (Nat.le_of_ble_eq_true rfl) rfl (Nat.le_of_ble_eq_true rfl) dX12_lost_8 ?_
  refine Ci.mono h ?_
  intro x1 M1 h
  refine V_if_eq (tgt := 27) (pc := 11) dX12_lost_11 rfl (fun c => ?_) (fun c => ?_)
  · have h := h.1 c
    refine V_ldc (pc := 27) dX12_lost_27 nX12_128 ?_
    exact V_iret dX12_lost_29 rfl h
  · have h := h.2 c
    refine V_iload (pc := 14) dX12_lost_14 rfl ?_
    refine V_i2l (pc := 16) dX12_lost_16 ?_
    refine V_lconst (v := 0) (pc := 17) dX12_lost_17 rfl ?_
    refine V_ldc2 (pc := 18) dX12_lost_18 nX12_126 ?_
    refine V_callSi [.long (Int32.toInt64 v4), .long 0, .long 2] (pc := 21) kX12_in lX12_118 rfl (Nat.le_of_ble_eq_true rfl) rfl (Nat.le_of_ble_eq_true rfl) dX12_lost_21 ?_
    refine Ci.mono h ?_
    intro x2 M2 h
    refine V_if_ne (tgt := 30) (pc := 24) dX12_lost_24 rfl (fun c => ?_) (fun c => ?_)
    · have h := h.1 c
      refine V_aload_n (pc := 30) dX12_lost_30 rfl ?_
      refine V_iload_n (pc := 31) dX12_lost_31 rfl ?_
      refine V_iload_n (pc := 32) dX12_lost_32 rfl ?_
      refine V_iload_n (pc := 33) dX12_lost_33 rfl ?_
      refine V_callVv [.int v1, .int v2, .int v3] (pc := 34) kX12_match lX12_333 sM0 rfl rfl (Nat.le_of_ble_eq_true rfl) rfl (Nat.le_of_ble_eq_true rfl) dX12_lost_34 ?_
      refine Cv.mono h ?_
      intro M3 h
      refine V_iload (pc := 37) dX12_lost_37 rfl ?_
      refine V_if_ne (tgt := 51) (pc := 39) dX12_lost_39 rfl (fun c => ?_) (fun c => ?_)
      · have h := h.1 c
        refine V_iload (pc := 51) dX12_lost_51 rfl ?_
        refine V_iconst (v := 1) (pc := 53) dX12_lost_53 rfl ?_
        refine V_icmp_ne (tgt := 64) (pc := 54) dX12_lost_54 rfl (fun c => ?_) (fun c => ?_)
        · have h := h.1 c
          refine V_aload_n (pc := 64) dX12_lost_64 rfl ?_
          refine V_getI (pc := 65) fX12_327 sM0 rfl dX12_lost_65 ?_
          exact V_iret dX12_lost_68 rfl h
        · have h := h.2 c
          refine V_aload_n (pc := 57) dX12_lost_57 rfl ?_
          refine V_getI (pc := 58) fX12_324 sM0 rfl dX12_lost_58 ?_
          refine V_goto (tgt := 68) (pc := 61) dX12_lost_61 rfl ?_
          exact V_iret dX12_lost_68 rfl h
      · have h := h.2 c
        refine V_aload_n (pc := 42) dX12_lost_42 rfl ?_
        refine V_getR (pc := 43) fX12_102 sM0 rfl dX12_lost_43 ?_
        refine V_iconst (v := 0) (pc := 46) dX12_lost_46 rfl ?_
        refine V_iald (pc := 47) sM31 dX12_lost_47 h.1 ?_
        have h := h.2
        refine V_goto (tgt := 68) (pc := 48) dX12_lost_48 rfl ?_
        exact V_iret dX12_lost_68 rfl h
    · have h := h.2 c
      refine V_ldc (pc := 27) dX12_lost_27 nX12_128 ?_
      exact V_iret dX12_lost_29 rfl h
theorem wp_X12_partAll {G : GV} {k : Nat} {M : Mem} {q : Mem → Prop} {v1 : Int32} {v2 : Int32} (h : ((v1 ≠ v2 → V shM G mX12_partAll (k + 4) 20 [(0, .ref (G.2.1 0)), (1, .int v1), (2, .int v2), (3, .int ((1 <<< (v1 &&& 31)) ||| (1 <<< (v2 &&& 31)))), (4, .int 0)] [] M (Qv q)) ∧ (v1 = v2 → V shM G mX12_partAll (k + 4) 20 [(0, .ref (G.2.1 0)), (1, .int v1), (2, .int v2), (3, .int 0), (4, .int 0)] [] M (Qv q)))) : Cv shM G mX12_partAll (k + 4) [.ref (G.2.1 0), .int v1, .int v2] M q := by
  unfold Cv
  show V _ _ _ _ _ [(0, .ref (G.2.1 0)), (1, .int v1), (2, .int v2)] _ _ _
  refine V_iload_n (pc := 0) dX12_partAll_0 rfl ?_
  refine V_iload_n (pc := 1) dX12_partAll_1 rfl ?_
  refine V_icmp_ne (tgt := 9) (pc := 2) dX12_partAll_2 rfl (fun c => ?_) (fun c => ?_)
  · have h := h.1 c
    refine V_iconst (v := 1) (pc := 9) dX12_partAll_9 rfl ?_
    refine V_iload_n (pc := 10) dX12_partAll_10 rfl ?_
    refine V_ishl (pc := 11) dX12_partAll_11 ?_
    refine V_iconst (v := 1) (pc := 12) dX12_partAll_12 rfl ?_
    refine V_iload_n (pc := 13) dX12_partAll_13 rfl ?_
    refine V_ishl (pc := 14) dX12_partAll_14 ?_
    refine V_ior (pc := 15) dX12_partAll_15 ?_
    refine V_istore_n (pc := 16) dX12_partAll_16 (by decide) ?_
    refine V_iconst (v := 0) (pc := 17) dX12_partAll_17 rfl ?_
    refine V_istore (pc := 18) dX12_partAll_18 (by decide) ?_
    exact V_sub h ⟨rfl, rfl, rfl, rfl, rfl, trivial⟩
  · have h := h.2 c
    refine V_iconst (v := 0) (pc := 5) dX12_partAll_5 rfl ?_
    refine V_goto (tgt := 16) (pc := 6) dX12_partAll_6 rfl ?_
    refine V_istore_n (pc := 16) dX12_partAll_16 (by decide) ?_
    refine V_iconst (v := 0) (pc := 17) dX12_partAll_17 rfl ?_
    refine V_istore (pc := 18) dX12_partAll_18 (by decide) ?_
    exact V_sub h ⟨rfl, rfl, rfl, rfl, rfl, trivial⟩
theorem wp_X12_partAll_20 {G : GV} {k : Nat} {M : Mem} {q : Mem → Prop} {v1 : Int32} {v2 : Int32} {v3 : Int32} {v4 : Int32} (h : (((M.1 0 10) ≤ v4 → vp_in 0 4096 ∧ vp_in 0 4096 ∧ vp_in 0 4096 ∧ V shM G mX12_partAll (k + 4) 121 [(0, .ref (G.2.1 0)), (1, .int v1), (2, .int v2), (3, .int v3), (4, .int 1)] [] (lset (mset (mset M 26 (ix 0) (vp_nar .boolean 1)) 27 (ix 0) 0) 28 (ix 0) 1) (Qv q)) ∧ (¬ (M.1 0 10) ≤ v4 → vp_in v4 12 ∧ V shM G mX12_partAll (k + 4) 40 [(0, .ref (G.2.1 0)), (1, .int v1), (2, .int v2), (3, .int v3), (4, .int v4), (5, .int 0)] [] (mset M 25 (ix v4) 0) (Qv q)))) : V shM G mX12_partAll (k + 4) 20 [(0, .ref (G.2.1 0)), (1, .int v1), (2, .int v2), (3, .int v3), (4, .int v4)] [] M (Qv q) := by
  refine V_iload (pc := 20) dX12_partAll_20 rfl ?_
  refine V_aload_n (pc := 22) dX12_partAll_22 rfl ?_
  refine V_getI (pc := 23) fX12_227 sM0 rfl dX12_partAll_23 ?_
  refine V_icmp_ge (tgt := 97) (pc := 26) dX12_partAll_26 rfl (fun c => ?_) (fun c => ?_)
  · have h := h.1 c
    refine V_aload_n (pc := 97) dX12_partAll_97 rfl ?_
    refine V_getR (pc := 98) fX12_86 sM0 rfl dX12_partAll_98 ?_
    refine V_iconst (v := 0) (pc := 101) dX12_partAll_101 rfl ?_
    refine V_iconst (v := 1) (pc := 102) dX12_partAll_102 rfl ?_
    refine V_zast (pc := 103) sM26 dX12_partAll_103 h.1 ?_
    have h := h.2
    refine V_aload_n (pc := 104) dX12_partAll_104 rfl ?_
    refine V_getR (pc := 105) fX12_89 sM0 rfl dX12_partAll_105 ?_
    refine V_iconst (v := 0) (pc := 108) dX12_partAll_108 rfl ?_
    refine V_iconst (v := 0) (pc := 109) dX12_partAll_109 rfl ?_
    refine V_iast (pc := 110) sM27 dX12_partAll_110 h.1 ?_
    have h := h.2
    refine V_aload_n (pc := 111) dX12_partAll_111 rfl ?_
    refine V_getR (pc := 112) fX12_92 sM0 rfl dX12_partAll_112 ?_
    refine V_iconst (v := 0) (pc := 115) dX12_partAll_115 rfl ?_
    refine V_lconst (v := 1) (pc := 116) dX12_partAll_116 rfl ?_
    refine V_last (pc := 117) sM28 dX12_partAll_117 h.1 ?_
    have h := h.2
    refine V_iconst (v := 1) (pc := 118) dX12_partAll_118 rfl ?_
    refine V_istore (pc := 119) dX12_partAll_119 (by decide) ?_
    exact V_sub h ⟨rfl, rfl, rfl, rfl, rfl, trivial⟩
  · have h := h.2 c
    refine V_aload_n (pc := 29) dX12_partAll_29 rfl ?_
    refine V_getR (pc := 30) fX12_83 sM0 rfl dX12_partAll_30 ?_
    refine V_iload (pc := 33) dX12_partAll_33 rfl ?_
    refine V_iconst (v := 0) (pc := 35) dX12_partAll_35 rfl ?_
    refine V_iast (pc := 36) sM25 dX12_partAll_36 h.1 ?_
    have h := h.2
    refine V_iconst (v := 0) (pc := 37) dX12_partAll_37 rfl ?_
    refine V_istore (pc := 38) dX12_partAll_38 (by decide) ?_
    exact V_sub h ⟨rfl, rfl, rfl, rfl, rfl, rfl, trivial⟩
theorem wp_X12_partAll_40 {G : GV} {k : Nat} {M : Mem} {q : Mem → Prop} {v1 : Int32} {v2 : Int32} {v3 : Int32} {v4 : Int32} {v5 : Int32} (h : (((M.1 0 10) ≤ v5 → V shM G mX12_partAll (k + 4) 20 [(0, .ref (G.2.1 0)), (1, .int v1), (2, .int v2), (3, .int v3), (4, .int (v4 + 1))] [] M (Qv q)) ∧ (¬ (M.1 0 10) ≤ v5 → vp_in v4 12 ∧ ((v4 = v5 → vp_in v4 12 ∧ V shM G mX12_partAll (k + 4) 40 [(0, .ref (G.2.1 0)), (1, .int v1), (2, .int v2), (3, .int v3), (4, .int v4), (5, .int (v5 + 1))] [] (mset M 25 (ix v4) ((M.1 25 (ix v4)) ||| (1 <<< (v5 &&& 31)))) (Qv q)) ∧ (¬ v4 = v5 → Ci shM G mX12_mayBe (k + 3) [.ref (G.2.1 0), .int v4, .int v5] M (fun x1 M1 => ((x1 = 0 → vp_in v4 12 ∧ V shM G mX12_partAll (k + 4) 40 [(0, .ref (G.2.1 0)), (1, .int v1), (2, .int v2), (3, .int v3), (4, .int v4), (5, .int (v5 + 1))] [] (mset M1 25 (ix v4) ((M.1 25 (ix v4)) ||| 0)) (Qv q)) ∧ (¬ x1 = 0 → vp_in v4 12 ∧ V shM G mX12_partAll (k + 4) 40 [(0, .ref (G.2.1 0)), (1, .int v1), (2, .int v2), (3, .int v3), (4, .int v4), (5, .int (v5 + 1))] [] (mset M1 25 (ix v4) ((M.1 25 (ix v4)) ||| (1 <<< (v5 &&& 31)))) (Qv q))))))))) : V shM G mX12_partAll (k + 4) 40 [(0, .ref (G.2.1 0)), (1, .int v1), (2, .int v2), (3, .int v3), (4, .int v4), (5, .int v5)] [] M (Qv q) := by
  refine V_iload (pc := 40) dX12_partAll_40 rfl ?_
  refine V_aload_n (pc := 42) dX12_partAll_42 rfl ?_
  refine V_getI (pc := 43) fX12_227 sM0 rfl dX12_partAll_43 ?_
  refine V_icmp_ge (tgt := 91) (pc := 46) dX12_partAll_46 rfl (fun c => ?_) (fun c => ?_)
  · have h := h.1 c
    refine V_iinc (pc := 91) dX12_partAll_91 rfl (by decide) ?_
    refine V_goto (tgt := 20) (pc := 94) dX12_partAll_94 rfl ?_
    exact V_sub h ⟨rfl, rfl, rfl, rfl, rfl, trivial⟩
  · have h := h.2 c
    refine V_aload_n (pc := 49) dX12_partAll_49 rfl ?_
    refine V_getR (pc := 50) fX12_83 sM0 rfl dX12_partAll_50 ?_
    refine V_iload (pc := 53) dX12_partAll_53 rfl ?_
    refine V_dup2 (pc := 55) dX12_partAll_55 rfl rfl ?_
    refine V_iald (pc := 56) sM25 dX12_partAll_56 h.1 ?_
    have h := h.2
    refine V_iload (pc := 57) dX12_partAll_57 rfl ?_
    refine V_iload (pc := 59) dX12_partAll_59 rfl ?_
    refine V_icmp_eq (tgt := 75) (pc := 61) dX12_partAll_61 rfl (fun c => ?_) (fun c => ?_)
    · have h := h.1 c
      refine V_iconst (v := 1) (pc := 75) dX12_partAll_75 rfl ?_
      refine V_iload (pc := 76) dX12_partAll_76 rfl ?_
      refine V_ishl (pc := 78) dX12_partAll_78 ?_
      refine V_goto (tgt := 83) (pc := 79) dX12_partAll_79 rfl ?_
      refine V_ior (pc := 83) dX12_partAll_83 ?_
      refine V_iast (pc := 84) sM25 dX12_partAll_84 h.1 ?_
      have h := h.2
      refine V_iinc (pc := 85) dX12_partAll_85 rfl (by decide) ?_
      refine V_goto (tgt := 40) (pc := 88) dX12_partAll_88 rfl ?_
      exact V_sub h ⟨rfl, rfl, rfl, rfl, rfl, rfl, trivial⟩
    · have h := h.2 c
      refine V_aload_n (pc := 64) dX12_partAll_64 rfl ?_
      refine V_iload (pc := 65) dX12_partAll_65 rfl ?_
      refine V_iload (pc := 67) dX12_partAll_67 rfl ?_
      refine V_callVi [.int v4, .int v5] (pc := 69) kX12_mayBe lX12_298 sM0 rfl rfl (Nat.le_of_ble_eq_true rfl) rfl (Nat.le_of_ble_eq_true rfl) dX12_partAll_69 ?_
      refine Ci.mono h ?_
      intro x1 M1 h
      refine V_if_eq (tgt := 82) (pc := 72) dX12_partAll_72 rfl (fun c => ?_) (fun c => ?_)
      · have h := h.1 c
        refine V_iconst (v := 0) (pc := 82) dX12_partAll_82 rfl ?_
        refine V_ior (pc := 83) dX12_partAll_83 ?_
        refine V_iast (pc := 84) sM25 dX12_partAll_84 h.1 ?_
        have h := h.2
        refine V_iinc (pc := 85) dX12_partAll_85 rfl (by decide) ?_
        refine V_goto (tgt := 40) (pc := 88) dX12_partAll_88 rfl ?_
        exact V_sub h ⟨rfl, rfl, rfl, rfl, rfl, rfl, trivial⟩
      · have h := h.2 c
        refine V_iconst (v := 1) (pc := 75) dX12_partAll_75 rfl ?_
        refine V_iload (pc := 76) dX12_partAll_76 rfl ?_
        refine V_ishl (pc := 78) dX12_partAll_78 ?_
        refine V_goto (tgt := 83) (pc := 79) dX12_partAll_79 rfl ?_
        refine V_ior (pc := 83) dX12_partAll_83 ?_
        refine V_iast (pc := 84) sM25 dX12_partAll_84 h.1 ?_
        have h := h.2
        refine V_iinc (pc := 85) dX12_partAll_85 rfl (by decide) ?_
        refine V_goto (tgt := 40) (pc := 88) dX12_partAll_88 rfl ?_
        exact V_sub h ⟨rfl, rfl, rfl, rfl, rfl, rfl, trivial⟩
theorem wp_X12_partAll_121 {G : GV} {k : Nat} {M : Mem} {q : Mem → Prop} {v1 : Int32} {v2 : Int32} {v3 : Int32} {v4 : Int32} (h : (((1 <<< ((M.1 0 10) &&& 31)) ≤ v4 → q M) ∧ (¬ (1 <<< ((M.1 0 10) &&& 31)) ≤ v4 → Ci shM G mX12_lowest (k + 3) [.int v4] M (fun x1 M1 => vp_in (v4 &&& ((1 <<< (x1 &&& 31)) ^^^ (-1))) 4096 ∧ (((M1.1 26 (ix (v4 &&& ((1 <<< (x1 &&& 31)) ^^^ (-1))))) = 0 → vp_in v4 4096 ∧ vp_in v4 4096 ∧ vp_in v4 4096 ∧ V shM G mX12_partAll (k + 4) 212 [(0, .ref (G.2.1 0)), (1, .int v1), (2, .int v2), (3, .int v3), (4, .int v4), (5, .int x1), (6, .int (v4 &&& ((1 <<< (x1 &&& 31)) ^^^ (-1)))), (7, .int (v4 &&& ((1 <<< (x1 &&& 31)) ^^^ (-1)))), (8, .int 1)] [] (lset (mset (mset M1 26 (ix v4) (vp_nar .boolean 0)) 27 (ix v4) 1000) 28 (ix v4) 0) (Qv q)) ∧ (¬ (M1.1 26 (ix (v4 &&& ((1 <<< (x1 &&& 31)) ^^^ (-1))))) = 0 → vp_in x1 12 ∧ ((((v4 &&& ((1 <<< (x1 &&& 31)) ^^^ (-1))) &&& ((M1.1 25 (ix x1)) ^^^ (-1))) ≠ 0 → vp_in v4 4096 ∧ vp_in v4 4096 ∧ vp_in v4 4096 ∧ V shM G mX12_partAll (k + 4) 212 [(0, .ref (G.2.1 0)), (1, .int v1), (2, .int v2), (3, .int v3), (4, .int v4), (5, .int x1), (6, .int (v4 &&& ((1 <<< (x1 &&& 31)) ^^^ (-1)))), (7, .int (v4 &&& ((1 <<< (x1 &&& 31)) ^^^ (-1)))), (8, .int 1)] [] (lset (mset (mset M1 26 (ix v4) (vp_nar .boolean 0)) 27 (ix v4) 1000) 28 (ix v4) 0) (Qv q)) ∧ (((v4 &&& ((1 <<< (x1 &&& 31)) ^^^ (-1))) &&& ((M1.1 25 (ix x1)) ^^^ (-1))) = 0 → vp_in v4 4096 ∧ vp_in v4 4096 ∧ vp_in v4 4096 ∧ V shM G mX12_partAll (k + 4) 212 [(0, .ref (G.2.1 0)), (1, .int v1), (2, .int v2), (3, .int v3), (4, .int v4), (5, .int x1), (6, .int (v4 &&& ((1 <<< (x1 &&& 31)) ^^^ (-1)))), (7, .int (v4 &&& ((1 <<< (x1 &&& 31)) ^^^ (-1)))), (8, .int 1)] [] (lset (mset (mset M1 26 (ix v4) (vp_nar .boolean 1)) 27 (ix v4) 1000) 28 (ix v4) 0) (Qv q))))))))) : V shM G mX12_partAll (k + 4) 121 [(0, .ref (G.2.1 0)), (1, .int v1), (2, .int v2), (3, .int v3), (4, .int v4)] [] M (Qv q) := by
  refine V_iload (pc := 121) dX12_partAll_121 rfl ?_
  refine V_iconst (v := 1) (pc := 123) dX12_partAll_123 rfl ?_
  refine V_aload_n (pc := 124) dX12_partAll_124 rfl ?_
  refine V_getI (pc := 125) fX12_227 sM0 rfl dX12_partAll_125 ?_
  refine V_ishl (pc := 128) dX12_partAll_128 ?_
  refine V_icmp_ge (tgt := 409) (pc := 129) dX12_partAll_129 rfl (fun c => ?_) (fun c => ?_)
  · have h := h.1 c
    exact V_vret dX12_partAll_409 rfl h
  · have h := h.2 c
    refine V_iload (pc := 132) dX12_partAll_132 rfl ?_
    refine V_callSi [.int v4] (pc := 134) kX12_lowest lX12_301 rfl (Nat.le_of_ble_eq_true rfl) rfl (Nat.le_of_ble_eq_true rfl) dX12_partAll_134 ?_
    refine Ci.mono h ?_
    intro x1 M1 h
    refine V_istore (pc := 137) dX12_partAll_137 (by decide) ?_
    refine V_iload (pc := 139) dX12_partAll_139 rfl ?_
    refine V_iconst (v := 1) (pc := 141) dX12_partAll_141 rfl ?_
    refine V_iload (pc := 142) dX12_partAll_142 rfl ?_
    refine V_ishl (pc := 144) dX12_partAll_144 ?_
    refine V_iconst (v := (-1)) (pc := 145) dX12_partAll_145 rfl ?_
    refine V_ixor (pc := 146) dX12_partAll_146 ?_
    refine V_iand (pc := 147) dX12_partAll_147 ?_
    refine V_istore (pc := 148) dX12_partAll_148 (by decide) ?_
    refine V_aload_n (pc := 150) dX12_partAll_150 rfl ?_
    refine V_getR (pc := 151) fX12_86 sM0 rfl dX12_partAll_151 ?_
    refine V_iload (pc := 154) dX12_partAll_154 rfl ?_
    refine V_aload_n (pc := 156) dX12_partAll_156 rfl ?_
    refine V_getR (pc := 157) fX12_86 sM0 rfl dX12_partAll_157 ?_
    refine V_iload (pc := 160) dX12_partAll_160 rfl ?_
    refine V_zald (pc := 162) sM26 dX12_partAll_162 h.1 ?_
    have h := h.2
    refine V_if_eq (tgt := 185) (pc := 163) dX12_partAll_163 rfl (fun c => ?_) (fun c => ?_)
    · have h := h.1 c
      refine V_iconst (v := 0) (pc := 185) dX12_partAll_185 rfl ?_
      refine V_zast (pc := 186) sM26 dX12_partAll_186 h.1 ?_
      have h := h.2
      refine V_aload_n (pc := 187) dX12_partAll_187 rfl ?_
      refine V_getR (pc := 188) fX12_89 sM0 rfl dX12_partAll_188 ?_
      refine V_iload (pc := 191) dX12_partAll_191 rfl ?_
      refine V_sipush (v := 1000) (pc := 193) dX12_partAll_193 rfl ?_
      refine V_iast (pc := 196) sM27 dX12_partAll_196 h.1 ?_
      have h := h.2
      refine V_aload_n (pc := 197) dX12_partAll_197 rfl ?_
      refine V_getR (pc := 198) fX12_92 sM0 rfl dX12_partAll_198 ?_
      refine V_iload (pc := 201) dX12_partAll_201 rfl ?_
      refine V_lconst (v := 0) (pc := 203) dX12_partAll_203 rfl ?_
      refine V_last (pc := 204) sM28 dX12_partAll_204 h.1 ?_
      have h := h.2
      refine V_iload (pc := 205) dX12_partAll_205 rfl ?_
      refine V_istore (pc := 207) dX12_partAll_207 (by decide) ?_
      refine V_iconst (v := 1) (pc := 209) dX12_partAll_209 rfl ?_
      refine V_istore (pc := 210) dX12_partAll_210 (by decide) ?_
      exact V_sub h ⟨rfl, rfl, rfl, rfl, rfl, rfl, rfl, rfl, rfl, trivial⟩
    · have h := h.2 c
      refine V_iload (pc := 166) dX12_partAll_166 rfl ?_
      refine V_aload_n (pc := 168) dX12_partAll_168 rfl ?_
      refine V_getR (pc := 169) fX12_83 sM0 rfl dX12_partAll_169 ?_
      refine V_iload (pc := 172) dX12_partAll_172 rfl ?_
      refine V_iald (pc := 174) sM25 dX12_partAll_174 h.1 ?_
      have h := h.2
      refine V_iconst (v := (-1)) (pc := 175) dX12_partAll_175 rfl ?_
      refine V_ixor (pc := 176) dX12_partAll_176 ?_
      refine V_iand (pc := 177) dX12_partAll_177 ?_
      refine V_if_ne (tgt := 185) (pc := 178) dX12_partAll_178 rfl (fun c => ?_) (fun c => ?_)
      · have h := h.1 c
        refine V_iconst (v := 0) (pc := 185) dX12_partAll_185 rfl ?_
        refine V_zast (pc := 186) sM26 dX12_partAll_186 h.1 ?_
        have h := h.2
        refine V_aload_n (pc := 187) dX12_partAll_187 rfl ?_
        refine V_getR (pc := 188) fX12_89 sM0 rfl dX12_partAll_188 ?_
        refine V_iload (pc := 191) dX12_partAll_191 rfl ?_
        refine V_sipush (v := 1000) (pc := 193) dX12_partAll_193 rfl ?_
        refine V_iast (pc := 196) sM27 dX12_partAll_196 h.1 ?_
        have h := h.2
        refine V_aload_n (pc := 197) dX12_partAll_197 rfl ?_
        refine V_getR (pc := 198) fX12_92 sM0 rfl dX12_partAll_198 ?_
        refine V_iload (pc := 201) dX12_partAll_201 rfl ?_
        refine V_lconst (v := 0) (pc := 203) dX12_partAll_203 rfl ?_
        refine V_last (pc := 204) sM28 dX12_partAll_204 h.1 ?_
        have h := h.2
        refine V_iload (pc := 205) dX12_partAll_205 rfl ?_
        refine V_istore (pc := 207) dX12_partAll_207 (by decide) ?_
        refine V_iconst (v := 1) (pc := 209) dX12_partAll_209 rfl ?_
        refine V_istore (pc := 210) dX12_partAll_210 (by decide) ?_
        exact V_sub h ⟨rfl, rfl, rfl, rfl, rfl, rfl, rfl, rfl, rfl, trivial⟩
      · have h := h.2 c
        refine V_iconst (v := 1) (pc := 181) dX12_partAll_181 rfl ?_
        refine V_goto (tgt := 186) (pc := 182) dX12_partAll_182 rfl ?_
        refine V_zast (pc := 186) sM26 dX12_partAll_186 h.1 ?_
        have h := h.2
        refine V_aload_n (pc := 187) dX12_partAll_187 rfl ?_
        refine V_getR (pc := 188) fX12_89 sM0 rfl dX12_partAll_188 ?_
        refine V_iload (pc := 191) dX12_partAll_191 rfl ?_
        refine V_sipush (v := 1000) (pc := 193) dX12_partAll_193 rfl ?_
        refine V_iast (pc := 196) sM27 dX12_partAll_196 h.1 ?_
        have h := h.2
        refine V_aload_n (pc := 197) dX12_partAll_197 rfl ?_
        refine V_getR (pc := 198) fX12_92 sM0 rfl dX12_partAll_198 ?_
        refine V_iload (pc := 201) dX12_partAll_201 rfl ?_
        refine V_lconst (v := 0) (pc := 203) dX12_partAll_203 rfl ?_
        refine V_last (pc := 204) sM28 dX12_partAll_204 h.1 ?_
        have h := h.2
        refine V_iload (pc := 205) dX12_partAll_205 rfl ?_
        refine V_istore (pc := 207) dX12_partAll_207 (by decide) ?_
        refine V_iconst (v := 1) (pc := 209) dX12_partAll_209 rfl ?_
        refine V_istore (pc := 210) dX12_partAll_210 (by decide) ?_
        exact V_sub h ⟨rfl, rfl, rfl, rfl, rfl, rfl, rfl, rfl, rfl, trivial⟩
theorem wp_X12_partAll_212 {G : GV} {k : Nat} {M : Mem} {q : Mem → Prop} {v1 : Int32} {v2 : Int32} {v3 : Int32} {v4 : Int32} {v5 : Int32} {v6 : Int32} {v7 : Int32} {v8 : Int32} (h : ((v8 = 0 → V shM G mX12_partAll (k + 4) 121 [(0, .ref (G.2.1 0)), (1, .int v1), (2, .int v2), (3, .int v3), (4, .int (v4 + 1))] [] M (Qv q)) ∧ (¬ v8 = 0 → ((((v7 ||| (1 <<< (v5 &&& 31))) &&& v3) = 0 → V shM G mX12_partAll (k + 4) 253 [(0, .ref (G.2.1 0)), (1, .int v1), (2, .int v2), (3, .int v3), (4, .int v4), (5, .int v5), (6, .int v6), (7, .int v7), (8, .int v8), (9, .int (v7 ||| (1 <<< (v5 &&& 31)))), (10, .int (v4 &&& ((v7 ||| (1 <<< (v5 &&& 31))) ^^^ (-1))))] [] M (Qv q)) ∧ (¬ ((v7 ||| (1 <<< (v5 &&& 31))) &&& v3) = 0 → ((((v4 &&& ((v7 ||| (1 <<< (v5 &&& 31))) ^^^ (-1))) &&& v3) = 0 → V shM G mX12_partAll (k + 4) 253 [(0, .ref (G.2.1 0)), (1, .int v1), (2, .int v2), (3, .int v3), (4, .int v4), (5, .int v5), (6, .int v6), (7, .int v7), (8, .int v8), (9, .int (v7 ||| (1 <<< (v5 &&& 31)))), (10, .int (v4 &&& ((v7 ||| (1 <<< (v5 &&& 31))) ^^^ (-1))))] [] M (Qv q)) ∧ (¬ ((v4 &&& ((v7 ||| (1 <<< (v5 &&& 31))) ^^^ (-1))) &&& v3) = 0 → vp_in (v7 ||| (1 <<< (v5 &&& 31))) 4096 ∧ (((M.1 26 (ix (v7 ||| (1 <<< (v5 &&& 31))))) = 0 → ((v7 = 0 → V shM G mX12_partAll (k + 4) 212 [(0, .ref (G.2.1 0)), (1, .int v1), (2, .int v2), (3, .int v3), (4, .int v4), (5, .int v5), (6, .int v6), (7, .int ((v7 - 1) &&& v6)), (8, .int 0)] [] M (Qv q)) ∧ (¬ v7 = 0 → V shM G mX12_partAll (k + 4) 212 [(0, .ref (G.2.1 0)), (1, .int v1), (2, .int v2), (3, .int v3), (4, .int v4), (5, .int v5), (6, .int v6), (7, .int ((v7 - 1) &&& v6)), (8, .int 1)] [] M (Qv q)))) ∧ (¬ (M.1 26 (ix (v7 ||| (1 <<< (v5 &&& 31))))) = 0 → ((v7 = 0 → V shM G mX12_partAll (k + 4) 212 [(0, .ref (G.2.1 0)), (1, .int v1), (2, .int v2), (3, .int v3), (4, .int v4), (5, .int v5), (6, .int v6), (7, .int ((v7 - 1) &&& v6)), (8, .int 0)] [] M (Qv q)) ∧ (¬ v7 = 0 → V shM G mX12_partAll (k + 4) 212 [(0, .ref (G.2.1 0)), (1, .int v1), (2, .int v2), (3, .int v3), (4, .int v4), (5, .int v5), (6, .int v6), (7, .int ((v7 - 1) &&& v6)), (8, .int 1)] [] M (Qv q)))))))))))) : V shM G mX12_partAll (k + 4) 212 [(0, .ref (G.2.1 0)), (1, .int v1), (2, .int v2), (3, .int v3), (4, .int v4), (5, .int v5), (6, .int v6), (7, .int v7), (8, .int v8)] [] M (Qv q) := by
  refine V_iload (pc := 212) dX12_partAll_212 rfl ?_
  refine V_if_eq (tgt := 403) (pc := 214) dX12_partAll_214 rfl (fun c => ?_) (fun c => ?_)
  · have h := h.1 c
    refine V_iinc (pc := 403) dX12_partAll_403 rfl (by decide) ?_
    refine V_goto (tgt := 121) (pc := 406) dX12_partAll_406 rfl ?_
    exact V_sub h ⟨rfl, rfl, rfl, rfl, rfl, trivial⟩
  · have h := h.2 c
    refine V_iload (pc := 217) dX12_partAll_217 rfl ?_
    refine V_iconst (v := 1) (pc := 219) dX12_partAll_219 rfl ?_
    refine V_iload (pc := 220) dX12_partAll_220 rfl ?_
    refine V_ishl (pc := 222) dX12_partAll_222 ?_
    refine V_ior (pc := 223) dX12_partAll_223 ?_
    refine V_istore (pc := 224) dX12_partAll_224 (by decide) ?_
    refine V_iload (pc := 226) dX12_partAll_226 rfl ?_
    refine V_iload (pc := 228) dX12_partAll_228 rfl ?_
    refine V_iconst (v := (-1)) (pc := 230) dX12_partAll_230 rfl ?_
    refine V_ixor (pc := 231) dX12_partAll_231 ?_
    refine V_iand (pc := 232) dX12_partAll_232 ?_
    refine V_istore (pc := 233) dX12_partAll_233 (by decide) ?_
    refine V_iload (pc := 235) dX12_partAll_235 rfl ?_
    refine V_iload_n (pc := 237) dX12_partAll_237 rfl ?_
    refine V_iand (pc := 238) dX12_partAll_238 ?_
    refine V_if_eq (tgt := 253) (pc := 239) dX12_partAll_239 rfl (fun c => ?_) (fun c => ?_)
    · have h := h.1 c
      exact V_sub h ⟨rfl, rfl, rfl, rfl, rfl, rfl, rfl, rfl, rfl, rfl, rfl, trivial⟩
    · have h := h.2 c
      refine V_iload (pc := 242) dX12_partAll_242 rfl ?_
      refine V_iload_n (pc := 244) dX12_partAll_244 rfl ?_
      refine V_iand (pc := 245) dX12_partAll_245 ?_
      refine V_if_eq (tgt := 253) (pc := 246) dX12_partAll_246 rfl (fun c => ?_) (fun c => ?_)
      · have h := h.1 c
        exact V_sub h ⟨rfl, rfl, rfl, rfl, rfl, rfl, rfl, rfl, rfl, rfl, rfl, trivial⟩
      · have h := h.2 c
        refine V_iconst (v := 1) (pc := 249) dX12_partAll_249 rfl ?_
        refine V_goto (tgt := 254) (pc := 250) dX12_partAll_250 rfl ?_
        refine V_istore (pc := 254) dX12_partAll_254 (by decide) ?_
        refine V_aload_n (pc := 256) dX12_partAll_256 rfl ?_
        refine V_getR (pc := 257) fX12_86 sM0 rfl dX12_partAll_257 ?_
        refine V_iload (pc := 260) dX12_partAll_260 rfl ?_
        refine V_zald (pc := 262) sM26 dX12_partAll_262 h.1 ?_
        have h := h.2
        refine V_if_eq (tgt := 379) (pc := 263) dX12_partAll_263 rfl (fun c => ?_) (fun c => ?_)
        · have h := h.1 c
          refine V_iload (pc := 379) dX12_partAll_379 rfl ?_
          refine V_if_eq (tgt := 388) (pc := 381) dX12_partAll_381 rfl (fun c => ?_) (fun c => ?_)
          · have h := h.1 c
            refine V_iconst (v := 0) (pc := 388) dX12_partAll_388 rfl ?_
            refine V_istore (pc := 389) dX12_partAll_389 (by decide) ?_
            refine V_iload (pc := 391) dX12_partAll_391 rfl ?_
            refine V_iconst (v := 1) (pc := 393) dX12_partAll_393 rfl ?_
            refine V_isub (pc := 394) dX12_partAll_394 ?_
            refine V_iload (pc := 395) dX12_partAll_395 rfl ?_
            refine V_iand (pc := 397) dX12_partAll_397 ?_
            refine V_istore (pc := 398) dX12_partAll_398 (by decide) ?_
            refine V_goto (tgt := 212) (pc := 400) dX12_partAll_400 rfl ?_
            exact V_sub h ⟨rfl, rfl, rfl, rfl, rfl, rfl, rfl, rfl, rfl, trivial⟩
          · have h := h.2 c
            refine V_iconst (v := 1) (pc := 384) dX12_partAll_384 rfl ?_
            refine V_goto (tgt := 389) (pc := 385) dX12_partAll_385 rfl ?_
            refine V_istore (pc := 389) dX12_partAll_389 (by decide) ?_
            refine V_iload (pc := 391) dX12_partAll_391 rfl ?_
            refine V_iconst (v := 1) (pc := 393) dX12_partAll_393 rfl ?_
            refine V_isub (pc := 394) dX12_partAll_394 ?_
            refine V_iload (pc := 395) dX12_partAll_395 rfl ?_
            refine V_iand (pc := 397) dX12_partAll_397 ?_
            refine V_istore (pc := 398) dX12_partAll_398 (by decide) ?_
            refine V_goto (tgt := 212) (pc := 400) dX12_partAll_400 rfl ?_
            exact V_sub h ⟨rfl, rfl, rfl, rfl, rfl, rfl, rfl, rfl, rfl, trivial⟩
        · have h := h.2 c
          refine V_iload (pc := 266) dX12_partAll_266 rfl ?_
          refine V_if_ne (tgt := 379) (pc := 268) dX12_partAll_268 rfl (fun c => ?_) (fun c => ?_)
          · skip
            refine V_iload (pc := 379) dX12_partAll_379 rfl ?_
            refine V_if_eq (tgt := 388) (pc := 381) dX12_partAll_381 rfl (fun c => ?_) (fun c => ?_)
            · have h := h.1 c
              refine V_iconst (v := 0) (pc := 388) dX12_partAll_388 rfl ?_
              refine V_istore (pc := 389) dX12_partAll_389 (by decide) ?_
              refine V_iload (pc := 391) dX12_partAll_391 rfl ?_
              refine V_iconst (v := 1) (pc := 393) dX12_partAll_393 rfl ?_
              refine V_isub (pc := 394) dX12_partAll_394 ?_
              refine V_iload (pc := 395) dX12_partAll_395 rfl ?_
              refine V_iand (pc := 397) dX12_partAll_397 ?_
              refine V_istore (pc := 398) dX12_partAll_398 (by decide) ?_
              refine V_goto (tgt := 212) (pc := 400) dX12_partAll_400 rfl ?_
              exact V_sub h ⟨rfl, rfl, rfl, rfl, rfl, rfl, rfl, rfl, rfl, trivial⟩
            · have h := h.2 c
              refine V_iconst (v := 1) (pc := 384) dX12_partAll_384 rfl ?_
              refine V_goto (tgt := 389) (pc := 385) dX12_partAll_385 rfl ?_
              refine V_istore (pc := 389) dX12_partAll_389 (by decide) ?_
              refine V_iload (pc := 391) dX12_partAll_391 rfl ?_
              refine V_iconst (v := 1) (pc := 393) dX12_partAll_393 rfl ?_
              refine V_isub (pc := 394) dX12_partAll_394 ?_
              refine V_iload (pc := 395) dX12_partAll_395 rfl ?_
              refine V_iand (pc := 397) dX12_partAll_397 ?_
              refine V_istore (pc := 398) dX12_partAll_398 (by decide) ?_
              refine V_goto (tgt := 212) (pc := 400) dX12_partAll_400 rfl ?_
              exact V_sub h ⟨rfl, rfl, rfl, rfl, rfl, rfl, rfl, rfl, rfl, trivial⟩
          · exact absurd c (by decide)
theorem wp_X12_partAll_253 {G : GV} {k : Nat} {M : Mem} {q : Mem → Prop} {v1 : Int32} {v2 : Int32} {v3 : Int32} {v4 : Int32} {v5 : Int32} {v6 : Int32} {v7 : Int32} {v8 : Int32} {v9 : Int32} {v10 : Int32} (h : vp_in v9 4096 ∧ (((M.1 26 (ix v9)) = 0 → ((v7 = 0 → V shM G mX12_partAll (k + 4) 212 [(0, .ref (G.2.1 0)), (1, .int v1), (2, .int v2), (3, .int v3), (4, .int v4), (5, .int v5), (6, .int v6), (7, .int ((v7 - 1) &&& v6)), (8, .int 0)] [] M (Qv q)) ∧ (¬ v7 = 0 → V shM G mX12_partAll (k + 4) 212 [(0, .ref (G.2.1 0)), (1, .int v1), (2, .int v2), (3, .int v3), (4, .int v4), (5, .int v5), (6, .int v6), (7, .int ((v7 - 1) &&& v6)), (8, .int 1)] [] M (Qv q)))) ∧ (¬ (M.1 26 (ix v9)) = 0 → vp_in v10 4096 ∧ vp_in v4 4096 ∧ (((M.1 27 (ix v4)) ≤ ((M.1 27 (ix v10)) + 1) → vp_in v4 4096 ∧ ((((M.1 27 (ix v10)) + 1) ≠ (M.1 27 (ix v4)) → vp_in v4 4096 ∧ vp_in v4 4096 ∧ vp_in v4 4096 ∧ (((M.1 27 (ix v4)) ≤ ((M.1 27 (ix v10)) + 1) → vp_in v4 4096 ∧ vp_in v4 4096 ∧ ((v7 = 0 → V shM G mX12_partAll (k + 4) 212 [(0, .ref (G.2.1 0)), (1, .int v1), (2, .int v2), (3, .int v3), (4, .int v4), (5, .int v5), (6, .int v6), (7, .int ((v7 - 1) &&& v6)), (8, .int 0)] [] (mset (lset M 28 (ix v4) (M.2 28 (ix v4))) 27 (ix v4) (M.1 27 (ix v4))) (Qv q)) ∧ (¬ v7 = 0 → V shM G mX12_partAll (k + 4) 212 [(0, .ref (G.2.1 0)), (1, .int v1), (2, .int v2), (3, .int v3), (4, .int v4), (5, .int v5), (6, .int v6), (7, .int ((v7 - 1) &&& v6)), (8, .int 1)] [] (mset (lset M 28 (ix v4) (M.2 28 (ix v4))) 27 (ix v4) (M.1 27 (ix v4))) (Qv q)))) ∧ (¬ (M.1 27 (ix v4)) ≤ ((M.1 27 (ix v10)) + 1) → vp_in v4 4096 ∧ ((v7 = 0 → V shM G mX12_partAll (k + 4) 212 [(0, .ref (G.2.1 0)), (1, .int v1), (2, .int v2), (3, .int v3), (4, .int v4), (5, .int v5), (6, .int v6), (7, .int ((v7 - 1) &&& v6)), (8, .int 0)] [] (mset (lset M 28 (ix v4) (M.2 28 (ix v4))) 27 (ix v4) ((M.1 27 (ix v10)) + 1)) (Qv q)) ∧ (¬ v7 = 0 → V shM G mX12_partAll (k + 4) 212 [(0, .ref (G.2.1 0)), (1, .int v1), (2, .int v2), (3, .int v3), (4, .int v4), (5, .int v5), (6, .int v6), (7, .int ((v7 - 1) &&& v6)), (8, .int 1)] [] (mset (lset M 28 (ix v4) (M.2 28 (ix v4))) 27 (ix v4) ((M.1 27 (ix v10)) + 1)) (Qv q)))))) ∧ (((M.1 27 (ix v10)) + 1) = (M.1 27 (ix v4)) → vp_in v4 4096 ∧ vp_in v10 4096 ∧ vp_in v4 4096 ∧ vp_in v4 4096 ∧ (((M.1 27 (ix v4)) ≤ ((M.1 27 (ix v10)) + 1) → vp_in v4 4096 ∧ vp_in v4 4096 ∧ ((v7 = 0 → V shM G mX12_partAll (k + 4) 212 [(0, .ref (G.2.1 0)), (1, .int v1), (2, .int v2), (3, .int v3), (4, .int v4), (5, .int v5), (6, .int v6), (7, .int ((v7 - 1) &&& v6)), (8, .int 0)] [] (mset (lset M 28 (ix v4) ((M.2 28 (ix v4)) + (M.2 28 (ix v10)))) 27 (ix v4) (M.1 27 (ix v4))) (Qv q)) ∧ (¬ v7 = 0 → V shM G mX12_partAll (k + 4) 212 [(0, .ref (G.2.1 0)), (1, .int v1), (2, .int v2), (3, .int v3), (4, .int v4), (5, .int v5), (6, .int v6), (7, .int ((v7 - 1) &&& v6)), (8, .int 1)] [] (mset (lset M 28 (ix v4) ((M.2 28 (ix v4)) + (M.2 28 (ix v10)))) 27 (ix v4) (M.1 27 (ix v4))) (Qv q)))) ∧ (¬ (M.1 27 (ix v4)) ≤ ((M.1 27 (ix v10)) + 1) → vp_in v4 4096 ∧ ((v7 = 0 → V shM G mX12_partAll (k + 4) 212 [(0, .ref (G.2.1 0)), (1, .int v1), (2, .int v2), (3, .int v3), (4, .int v4), (5, .int v5), (6, .int v6), (7, .int ((v7 - 1) &&& v6)), (8, .int 0)] [] (mset (lset M 28 (ix v4) ((M.2 28 (ix v4)) + (M.2 28 (ix v10)))) 27 (ix v4) ((M.1 27 (ix v10)) + 1)) (Qv q)) ∧ (¬ v7 = 0 → V shM G mX12_partAll (k + 4) 212 [(0, .ref (G.2.1 0)), (1, .int v1), (2, .int v2), (3, .int v3), (4, .int v4), (5, .int v5), (6, .int v6), (7, .int ((v7 - 1) &&& v6)), (8, .int 1)] [] (mset (lset M 28 (ix v4) ((M.2 28 (ix v4)) + (M.2 28 (ix v10)))) 27 (ix v4) ((M.1 27 (ix v10)) + 1)) (Qv q)))))))) ∧ (¬ (M.1 27 (ix v4)) ≤ ((M.1 27 (ix v10)) + 1) → vp_in v10 4096 ∧ vp_in v4 4096 ∧ vp_in v4 4096 ∧ (((M.1 27 (ix v4)) ≤ ((M.1 27 (ix v10)) + 1) → vp_in v4 4096 ∧ vp_in v4 4096 ∧ ((v7 = 0 → V shM G mX12_partAll (k + 4) 212 [(0, .ref (G.2.1 0)), (1, .int v1), (2, .int v2), (3, .int v3), (4, .int v4), (5, .int v5), (6, .int v6), (7, .int ((v7 - 1) &&& v6)), (8, .int 0)] [] (mset (lset M 28 (ix v4) (M.2 28 (ix v10))) 27 (ix v4) (M.1 27 (ix v4))) (Qv q)) ∧ (¬ v7 = 0 → V shM G mX12_partAll (k + 4) 212 [(0, .ref (G.2.1 0)), (1, .int v1), (2, .int v2), (3, .int v3), (4, .int v4), (5, .int v5), (6, .int v6), (7, .int ((v7 - 1) &&& v6)), (8, .int 1)] [] (mset (lset M 28 (ix v4) (M.2 28 (ix v10))) 27 (ix v4) (M.1 27 (ix v4))) (Qv q)))) ∧ (¬ (M.1 27 (ix v4)) ≤ ((M.1 27 (ix v10)) + 1) → vp_in v4 4096 ∧ ((v7 = 0 → V shM G mX12_partAll (k + 4) 212 [(0, .ref (G.2.1 0)), (1, .int v1), (2, .int v2), (3, .int v3), (4, .int v4), (5, .int v5), (6, .int v6), (7, .int ((v7 - 1) &&& v6)), (8, .int 0)] [] (mset (lset M 28 (ix v4) (M.2 28 (ix v10))) 27 (ix v4) ((M.1 27 (ix v10)) + 1)) (Qv q)) ∧ (¬ v7 = 0 → V shM G mX12_partAll (k + 4) 212 [(0, .ref (G.2.1 0)), (1, .int v1), (2, .int v2), (3, .int v3), (4, .int v4), (5, .int v5), (6, .int v6), (7, .int ((v7 - 1) &&& v6)), (8, .int 1)] [] (mset (lset M 28 (ix v4) (M.2 28 (ix v10))) 27 (ix v4) ((M.1 27 (ix v10)) + 1)) (Qv q)))))))))) : V shM G mX12_partAll (k + 4) 253 [(0, .ref (G.2.1 0)), (1, .int v1), (2, .int v2), (3, .int v3), (4, .int v4), (5, .int v5), (6, .int v6), (7, .int v7), (8, .int v8), (9, .int v9), (10, .int v10)] [] M (Qv q) := by
  refine V_iconst (v := 0) (pc := 253) dX12_partAll_253 rfl ?_
  refine V_istore (pc := 254) dX12_partAll_254 (by decide) ?_
  refine V_aload_n (pc := 256) dX12_partAll_256 rfl ?_
  refine V_getR (pc := 257) fX12_86 sM0 rfl dX12_partAll_257 ?_
  refine V_iload (pc := 260) dX12_partAll_260 rfl ?_
  refine V_zald (pc := 262) sM26 dX12_partAll_262 h.1 ?_
  have h := h.2
  refine V_if_eq (tgt := 379) (pc := 263) dX12_partAll_263 rfl (fun c => ?_) (fun c => ?_)
  · have h := h.1 c
    refine V_iload (pc := 379) dX12_partAll_379 rfl ?_
    refine V_if_eq (tgt := 388) (pc := 381) dX12_partAll_381 rfl (fun c => ?_) (fun c => ?_)
    · have h := h.1 c
      refine V_iconst (v := 0) (pc := 388) dX12_partAll_388 rfl ?_
      refine V_istore (pc := 389) dX12_partAll_389 (by decide) ?_
      refine V_iload (pc := 391) dX12_partAll_391 rfl ?_
      refine V_iconst (v := 1) (pc := 393) dX12_partAll_393 rfl ?_
      refine V_isub (pc := 394) dX12_partAll_394 ?_
      refine V_iload (pc := 395) dX12_partAll_395 rfl ?_
      refine V_iand (pc := 397) dX12_partAll_397 ?_
      refine V_istore (pc := 398) dX12_partAll_398 (by decide) ?_
      refine V_goto (tgt := 212) (pc := 400) dX12_partAll_400 rfl ?_
      exact V_sub h ⟨rfl, rfl, rfl, rfl, rfl, rfl, rfl, rfl, rfl, trivial⟩
    · have h := h.2 c
      refine V_iconst (v := 1) (pc := 384) dX12_partAll_384 rfl ?_
      refine V_goto (tgt := 389) (pc := 385) dX12_partAll_385 rfl ?_
      refine V_istore (pc := 389) dX12_partAll_389 (by decide) ?_
      refine V_iload (pc := 391) dX12_partAll_391 rfl ?_
      refine V_iconst (v := 1) (pc := 393) dX12_partAll_393 rfl ?_
      refine V_isub (pc := 394) dX12_partAll_394 ?_
      refine V_iload (pc := 395) dX12_partAll_395 rfl ?_
      refine V_iand (pc := 397) dX12_partAll_397 ?_
      refine V_istore (pc := 398) dX12_partAll_398 (by decide) ?_
      refine V_goto (tgt := 212) (pc := 400) dX12_partAll_400 rfl ?_
      exact V_sub h ⟨rfl, rfl, rfl, rfl, rfl, rfl, rfl, rfl, rfl, trivial⟩
  · have h := h.2 c
    refine V_iload (pc := 266) dX12_partAll_266 rfl ?_
    refine V_if_ne (tgt := 379) (pc := 268) dX12_partAll_268 rfl (fun c => ?_) (fun c => ?_)
    · exact absurd c (by decide)
    · skip
      refine V_aload_n (pc := 271) dX12_partAll_271 rfl ?_
      refine V_getR (pc := 272) fX12_89 sM0 rfl dX12_partAll_272 ?_
      refine V_iload (pc := 275) dX12_partAll_275 rfl ?_
      refine V_iald (pc := 277) sM27 dX12_partAll_277 h.1 ?_
      have h := h.2
      refine V_iconst (v := 1) (pc := 278) dX12_partAll_278 rfl ?_
      refine V_iadd (pc := 279) dX12_partAll_279 ?_
      refine V_istore (pc := 280) dX12_partAll_280 (by decide) ?_
      refine V_aload_n (pc := 282) dX12_partAll_282 rfl ?_
      refine V_getR (pc := 283) fX12_92 sM0 rfl dX12_partAll_283 ?_
      refine V_iload (pc := 286) dX12_partAll_286 rfl ?_
      refine V_iload (pc := 288) dX12_partAll_288 rfl ?_
      refine V_aload_n (pc := 290) dX12_partAll_290 rfl ?_
      refine V_getR (pc := 291) fX12_89 sM0 rfl dX12_partAll_291 ?_
      refine V_iload (pc := 294) dX12_partAll_294 rfl ?_
      refine V_iald (pc := 296) sM27 dX12_partAll_296 h.1 ?_
      have h := h.2
      refine V_icmp_ge (tgt := 310) (pc := 297) dX12_partAll_297 rfl (fun c => ?_) (fun c => ?_)
      · have h := h.1 c
        refine V_iload (pc := 310) dX12_partAll_310 rfl ?_
        refine V_aload_n (pc := 312) dX12_partAll_312 rfl ?_
        refine V_getR (pc := 313) fX12_89 sM0 rfl dX12_partAll_313 ?_
        refine V_iload (pc := 316) dX12_partAll_316 rfl ?_
        refine V_iald (pc := 318) sM27 dX12_partAll_318 h.1 ?_
        have h := h.2
        refine V_icmp_ne (tgt := 340) (pc := 319) dX12_partAll_319 rfl (fun c => ?_) (fun c => ?_)
        · have h := h.1 c
          refine V_aload_n (pc := 340) dX12_partAll_340 rfl ?_
          refine V_getR (pc := 341) fX12_92 sM0 rfl dX12_partAll_341 ?_
          refine V_iload (pc := 344) dX12_partAll_344 rfl ?_
          refine V_lald (pc := 346) sM28 dX12_partAll_346 h.1 ?_
          have h := h.2
          refine V_last (pc := 347) sM28 dX12_partAll_347 h.1 ?_
          have h := h.2
          refine V_aload_n (pc := 348) dX12_partAll_348 rfl ?_
          refine V_getR (pc := 349) fX12_89 sM0 rfl dX12_partAll_349 ?_
          refine V_iload (pc := 352) dX12_partAll_352 rfl ?_
          refine V_iload (pc := 354) dX12_partAll_354 rfl ?_
          refine V_aload_n (pc := 356) dX12_partAll_356 rfl ?_
          refine V_getR (pc := 357) fX12_89 sM0 rfl dX12_partAll_357 ?_
          refine V_iload (pc := 360) dX12_partAll_360 rfl ?_
          refine V_iald (pc := 362) sM27 dX12_partAll_362 h.1 ?_
          have h := h.2
          refine V_top (v := (M.1 27 (ix v4))) (by simp [mset, lset]) ?_
          refine V_icmp_ge (tgt := 371) (pc := 363) dX12_partAll_363 rfl (fun c => ?_) (fun c => ?_)
          · have h := h.1 c
            refine V_aload_n (pc := 371) dX12_partAll_371 rfl ?_
            refine V_getR (pc := 372) fX12_89 sM0 rfl dX12_partAll_372 ?_
            refine V_iload (pc := 375) dX12_partAll_375 rfl ?_
            refine V_iald (pc := 377) sM27 dX12_partAll_377 h.1 ?_
            have h := h.2
            refine V_top (v := (M.1 27 (ix v4))) (by simp [mset, lset]) ?_
            refine V_iast (pc := 378) sM27 dX12_partAll_378 h.1 ?_
            have h := h.2
            refine V_iload (pc := 379) dX12_partAll_379 rfl ?_
            refine V_if_eq (tgt := 388) (pc := 381) dX12_partAll_381 rfl (fun c => ?_) (fun c => ?_)
            · have h := h.1 c
              refine V_iconst (v := 0) (pc := 388) dX12_partAll_388 rfl ?_
              refine V_istore (pc := 389) dX12_partAll_389 (by decide) ?_
              refine V_iload (pc := 391) dX12_partAll_391 rfl ?_
              refine V_iconst (v := 1) (pc := 393) dX12_partAll_393 rfl ?_
              refine V_isub (pc := 394) dX12_partAll_394 ?_
              refine V_iload (pc := 395) dX12_partAll_395 rfl ?_
              refine V_iand (pc := 397) dX12_partAll_397 ?_
              refine V_istore (pc := 398) dX12_partAll_398 (by decide) ?_
              refine V_goto (tgt := 212) (pc := 400) dX12_partAll_400 rfl ?_
              exact V_sub h ⟨rfl, rfl, rfl, rfl, rfl, rfl, rfl, rfl, rfl, trivial⟩
            · have h := h.2 c
              refine V_iconst (v := 1) (pc := 384) dX12_partAll_384 rfl ?_
              refine V_goto (tgt := 389) (pc := 385) dX12_partAll_385 rfl ?_
              refine V_istore (pc := 389) dX12_partAll_389 (by decide) ?_
              refine V_iload (pc := 391) dX12_partAll_391 rfl ?_
              refine V_iconst (v := 1) (pc := 393) dX12_partAll_393 rfl ?_
              refine V_isub (pc := 394) dX12_partAll_394 ?_
              refine V_iload (pc := 395) dX12_partAll_395 rfl ?_
              refine V_iand (pc := 397) dX12_partAll_397 ?_
              refine V_istore (pc := 398) dX12_partAll_398 (by decide) ?_
              refine V_goto (tgt := 212) (pc := 400) dX12_partAll_400 rfl ?_
              exact V_sub h ⟨rfl, rfl, rfl, rfl, rfl, rfl, rfl, rfl, rfl, trivial⟩
          · have h := h.2 c
            refine V_iload (pc := 366) dX12_partAll_366 rfl ?_
            refine V_goto (tgt := 378) (pc := 368) dX12_partAll_368 rfl ?_
            refine V_iast (pc := 378) sM27 dX12_partAll_378 h.1 ?_
            have h := h.2
            refine V_iload (pc := 379) dX12_partAll_379 rfl ?_
            refine V_if_eq (tgt := 388) (pc := 381) dX12_partAll_381 rfl (fun c => ?_) (fun c => ?_)
            · have h := h.1 c
              refine V_iconst (v := 0) (pc := 388) dX12_partAll_388 rfl ?_
              refine V_istore (pc := 389) dX12_partAll_389 (by decide) ?_
              refine V_iload (pc := 391) dX12_partAll_391 rfl ?_
              refine V_iconst (v := 1) (pc := 393) dX12_partAll_393 rfl ?_
              refine V_isub (pc := 394) dX12_partAll_394 ?_
              refine V_iload (pc := 395) dX12_partAll_395 rfl ?_
              refine V_iand (pc := 397) dX12_partAll_397 ?_
              refine V_istore (pc := 398) dX12_partAll_398 (by decide) ?_
              refine V_goto (tgt := 212) (pc := 400) dX12_partAll_400 rfl ?_
              exact V_sub h ⟨rfl, rfl, rfl, rfl, rfl, rfl, rfl, rfl, rfl, trivial⟩
            · have h := h.2 c
              refine V_iconst (v := 1) (pc := 384) dX12_partAll_384 rfl ?_
              refine V_goto (tgt := 389) (pc := 385) dX12_partAll_385 rfl ?_
              refine V_istore (pc := 389) dX12_partAll_389 (by decide) ?_
              refine V_iload (pc := 391) dX12_partAll_391 rfl ?_
              refine V_iconst (v := 1) (pc := 393) dX12_partAll_393 rfl ?_
              refine V_isub (pc := 394) dX12_partAll_394 ?_
              refine V_iload (pc := 395) dX12_partAll_395 rfl ?_
              refine V_iand (pc := 397) dX12_partAll_397 ?_
              refine V_istore (pc := 398) dX12_partAll_398 (by decide) ?_
              refine V_goto (tgt := 212) (pc := 400) dX12_partAll_400 rfl ?_
              exact V_sub h ⟨rfl, rfl, rfl, rfl, rfl, rfl, rfl, rfl, rfl, trivial⟩
        · have h := h.2 c
          refine V_aload_n (pc := 322) dX12_partAll_322 rfl ?_
          refine V_getR (pc := 323) fX12_92 sM0 rfl dX12_partAll_323 ?_
          refine V_iload (pc := 326) dX12_partAll_326 rfl ?_
          refine V_lald (pc := 328) sM28 dX12_partAll_328 h.1 ?_
          have h := h.2
          refine V_aload_n (pc := 329) dX12_partAll_329 rfl ?_
          refine V_getR (pc := 330) fX12_92 sM0 rfl dX12_partAll_330 ?_
          refine V_iload (pc := 333) dX12_partAll_333 rfl ?_
          refine V_lald (pc := 335) sM28 dX12_partAll_335 h.1 ?_
          have h := h.2
          refine V_ladd (pc := 336) dX12_partAll_336 ?_
          refine V_goto (tgt := 347) (pc := 337) dX12_partAll_337 rfl ?_
          refine V_last (pc := 347) sM28 dX12_partAll_347 h.1 ?_
          have h := h.2
          refine V_aload_n (pc := 348) dX12_partAll_348 rfl ?_
          refine V_getR (pc := 349) fX12_89 sM0 rfl dX12_partAll_349 ?_
          refine V_iload (pc := 352) dX12_partAll_352 rfl ?_
          refine V_iload (pc := 354) dX12_partAll_354 rfl ?_
          refine V_aload_n (pc := 356) dX12_partAll_356 rfl ?_
          refine V_getR (pc := 357) fX12_89 sM0 rfl dX12_partAll_357 ?_
          refine V_iload (pc := 360) dX12_partAll_360 rfl ?_
          refine V_iald (pc := 362) sM27 dX12_partAll_362 h.1 ?_
          have h := h.2
          refine V_top (v := (M.1 27 (ix v4))) (by simp [mset, lset]) ?_
          refine V_icmp_ge (tgt := 371) (pc := 363) dX12_partAll_363 rfl (fun c => ?_) (fun c => ?_)
          · have h := h.1 c
            refine V_aload_n (pc := 371) dX12_partAll_371 rfl ?_
            refine V_getR (pc := 372) fX12_89 sM0 rfl dX12_partAll_372 ?_
            refine V_iload (pc := 375) dX12_partAll_375 rfl ?_
            refine V_iald (pc := 377) sM27 dX12_partAll_377 h.1 ?_
            have h := h.2
            refine V_top (v := (M.1 27 (ix v4))) (by simp [mset, lset]) ?_
            refine V_iast (pc := 378) sM27 dX12_partAll_378 h.1 ?_
            have h := h.2
            refine V_iload (pc := 379) dX12_partAll_379 rfl ?_
            refine V_if_eq (tgt := 388) (pc := 381) dX12_partAll_381 rfl (fun c => ?_) (fun c => ?_)
            · have h := h.1 c
              refine V_iconst (v := 0) (pc := 388) dX12_partAll_388 rfl ?_
              refine V_istore (pc := 389) dX12_partAll_389 (by decide) ?_
              refine V_iload (pc := 391) dX12_partAll_391 rfl ?_
              refine V_iconst (v := 1) (pc := 393) dX12_partAll_393 rfl ?_
              refine V_isub (pc := 394) dX12_partAll_394 ?_
              refine V_iload (pc := 395) dX12_partAll_395 rfl ?_
              refine V_iand (pc := 397) dX12_partAll_397 ?_
              refine V_istore (pc := 398) dX12_partAll_398 (by decide) ?_
              refine V_goto (tgt := 212) (pc := 400) dX12_partAll_400 rfl ?_
              exact V_sub h ⟨rfl, rfl, rfl, rfl, rfl, rfl, rfl, rfl, rfl, trivial⟩
            · have h := h.2 c
              refine V_iconst (v := 1) (pc := 384) dX12_partAll_384 rfl ?_
              refine V_goto (tgt := 389) (pc := 385) dX12_partAll_385 rfl ?_
              refine V_istore (pc := 389) dX12_partAll_389 (by decide) ?_
              refine V_iload (pc := 391) dX12_partAll_391 rfl ?_
              refine V_iconst (v := 1) (pc := 393) dX12_partAll_393 rfl ?_
              refine V_isub (pc := 394) dX12_partAll_394 ?_
              refine V_iload (pc := 395) dX12_partAll_395 rfl ?_
              refine V_iand (pc := 397) dX12_partAll_397 ?_
              refine V_istore (pc := 398) dX12_partAll_398 (by decide) ?_
              refine V_goto (tgt := 212) (pc := 400) dX12_partAll_400 rfl ?_
              exact V_sub h ⟨rfl, rfl, rfl, rfl, rfl, rfl, rfl, rfl, rfl, trivial⟩
          · have h := h.2 c
            refine V_iload (pc := 366) dX12_partAll_366 rfl ?_
            refine V_goto (tgt := 378) (pc := 368) dX12_partAll_368 rfl ?_
            refine V_iast (pc := 378) sM27 dX12_partAll_378 h.1 ?_
            have h := h.2
            refine V_iload (pc := 379) dX12_partAll_379 rfl ?_
            refine V_if_eq (tgt := 388) (pc := 381) dX12_partAll_381 rfl (fun c => ?_) (fun c => ?_)
            · have h := h.1 c
              refine V_iconst (v := 0) (pc := 388) dX12_partAll_388 rfl ?_
              refine V_istore (pc := 389) dX12_partAll_389 (by decide) ?_
              refine V_iload (pc := 391) dX12_partAll_391 rfl ?_
              refine V_iconst (v := 1) (pc := 393) dX12_partAll_393 rfl ?_
              refine V_isub (pc := 394) dX12_partAll_394 ?_
              refine V_iload (pc := 395) dX12_partAll_395 rfl ?_
              refine V_iand (pc := 397) dX12_partAll_397 ?_
              refine V_istore (pc := 398) dX12_partAll_398 (by decide) ?_
              refine V_goto (tgt := 212) (pc := 400) dX12_partAll_400 rfl ?_
              exact V_sub h ⟨rfl, rfl, rfl, rfl, rfl, rfl, rfl, rfl, rfl, trivial⟩
            · have h := h.2 c
              refine V_iconst (v := 1) (pc := 384) dX12_partAll_384 rfl ?_
              refine V_goto (tgt := 389) (pc := 385) dX12_partAll_385 rfl ?_
              refine V_istore (pc := 389) dX12_partAll_389 (by decide) ?_
              refine V_iload (pc := 391) dX12_partAll_391 rfl ?_
              refine V_iconst (v := 1) (pc := 393) dX12_partAll_393 rfl ?_
              refine V_isub (pc := 394) dX12_partAll_394 ?_
              refine V_iload (pc := 395) dX12_partAll_395 rfl ?_
              refine V_iand (pc := 397) dX12_partAll_397 ?_
              refine V_istore (pc := 398) dX12_partAll_398 (by decide) ?_
              refine V_goto (tgt := 212) (pc := 400) dX12_partAll_400 rfl ?_
              exact V_sub h ⟨rfl, rfl, rfl, rfl, rfl, rfl, rfl, rfl, rfl, trivial⟩
      · have h := h.2 c
        refine V_aload_n (pc := 300) dX12_partAll_300 rfl ?_
        refine V_getR (pc := 301) fX12_92 sM0 rfl dX12_partAll_301 ?_
        refine V_iload (pc := 304) dX12_partAll_304 rfl ?_
        refine V_lald (pc := 306) sM28 dX12_partAll_306 h.1 ?_
        have h := h.2
        refine V_goto (tgt := 347) (pc := 307) dX12_partAll_307 rfl ?_
        refine V_last (pc := 347) sM28 dX12_partAll_347 h.1 ?_
        have h := h.2
        refine V_aload_n (pc := 348) dX12_partAll_348 rfl ?_
        refine V_getR (pc := 349) fX12_89 sM0 rfl dX12_partAll_349 ?_
        refine V_iload (pc := 352) dX12_partAll_352 rfl ?_
        refine V_iload (pc := 354) dX12_partAll_354 rfl ?_
        refine V_aload_n (pc := 356) dX12_partAll_356 rfl ?_
        refine V_getR (pc := 357) fX12_89 sM0 rfl dX12_partAll_357 ?_
        refine V_iload (pc := 360) dX12_partAll_360 rfl ?_
        refine V_iald (pc := 362) sM27 dX12_partAll_362 h.1 ?_
        have h := h.2
        refine V_top (v := (M.1 27 (ix v4))) (by simp [mset, lset]) ?_
        refine V_icmp_ge (tgt := 371) (pc := 363) dX12_partAll_363 rfl (fun c => ?_) (fun c => ?_)
        · have h := h.1 c
          refine V_aload_n (pc := 371) dX12_partAll_371 rfl ?_
          refine V_getR (pc := 372) fX12_89 sM0 rfl dX12_partAll_372 ?_
          refine V_iload (pc := 375) dX12_partAll_375 rfl ?_
          refine V_iald (pc := 377) sM27 dX12_partAll_377 h.1 ?_
          have h := h.2
          refine V_top (v := (M.1 27 (ix v4))) (by simp [mset, lset]) ?_
          refine V_iast (pc := 378) sM27 dX12_partAll_378 h.1 ?_
          have h := h.2
          refine V_iload (pc := 379) dX12_partAll_379 rfl ?_
          refine V_if_eq (tgt := 388) (pc := 381) dX12_partAll_381 rfl (fun c => ?_) (fun c => ?_)
          · have h := h.1 c
            refine V_iconst (v := 0) (pc := 388) dX12_partAll_388 rfl ?_
            refine V_istore (pc := 389) dX12_partAll_389 (by decide) ?_
            refine V_iload (pc := 391) dX12_partAll_391 rfl ?_
            refine V_iconst (v := 1) (pc := 393) dX12_partAll_393 rfl ?_
            refine V_isub (pc := 394) dX12_partAll_394 ?_
            refine V_iload (pc := 395) dX12_partAll_395 rfl ?_
            refine V_iand (pc := 397) dX12_partAll_397 ?_
            refine V_istore (pc := 398) dX12_partAll_398 (by decide) ?_
            refine V_goto (tgt := 212) (pc := 400) dX12_partAll_400 rfl ?_
            exact V_sub h ⟨rfl, rfl, rfl, rfl, rfl, rfl, rfl, rfl, rfl, trivial⟩
          · have h := h.2 c
            refine V_iconst (v := 1) (pc := 384) dX12_partAll_384 rfl ?_
            refine V_goto (tgt := 389) (pc := 385) dX12_partAll_385 rfl ?_
            refine V_istore (pc := 389) dX12_partAll_389 (by decide) ?_
            refine V_iload (pc := 391) dX12_partAll_391 rfl ?_
            refine V_iconst (v := 1) (pc := 393) dX12_partAll_393 rfl ?_
            refine V_isub (pc := 394) dX12_partAll_394 ?_
            refine V_iload (pc := 395) dX12_partAll_395 rfl ?_
            refine V_iand (pc := 397) dX12_partAll_397 ?_
            refine V_istore (pc := 398) dX12_partAll_398 (by decide) ?_
            refine V_goto (tgt := 212) (pc := 400) dX12_partAll_400 rfl ?_
            exact V_sub h ⟨rfl, rfl, rfl, rfl, rfl, rfl, rfl, rfl, rfl, trivial⟩
        · have h := h.2 c
          refine V_iload (pc := 366) dX12_partAll_366 rfl ?_
          refine V_goto (tgt := 378) (pc := 368) dX12_partAll_368 rfl ?_
          refine V_iast (pc := 378) sM27 dX12_partAll_378 h.1 ?_
          have h := h.2
          refine V_iload (pc := 379) dX12_partAll_379 rfl ?_
          refine V_if_eq (tgt := 388) (pc := 381) dX12_partAll_381 rfl (fun c => ?_) (fun c => ?_)
          · have h := h.1 c
            refine V_iconst (v := 0) (pc := 388) dX12_partAll_388 rfl ?_
            refine V_istore (pc := 389) dX12_partAll_389 (by decide) ?_
            refine V_iload (pc := 391) dX12_partAll_391 rfl ?_
            refine V_iconst (v := 1) (pc := 393) dX12_partAll_393 rfl ?_
            refine V_isub (pc := 394) dX12_partAll_394 ?_
            refine V_iload (pc := 395) dX12_partAll_395 rfl ?_
            refine V_iand (pc := 397) dX12_partAll_397 ?_
            refine V_istore (pc := 398) dX12_partAll_398 (by decide) ?_
            refine V_goto (tgt := 212) (pc := 400) dX12_partAll_400 rfl ?_
            exact V_sub h ⟨rfl, rfl, rfl, rfl, rfl, rfl, rfl, rfl, rfl, trivial⟩
          · have h := h.2 c
            refine V_iconst (v := 1) (pc := 384) dX12_partAll_384 rfl ?_
            refine V_goto (tgt := 389) (pc := 385) dX12_partAll_385 rfl ?_
            refine V_istore (pc := 389) dX12_partAll_389 (by decide) ?_
            refine V_iload (pc := 391) dX12_partAll_391 rfl ?_
            refine V_iconst (v := 1) (pc := 393) dX12_partAll_393 rfl ?_
            refine V_isub (pc := 394) dX12_partAll_394 ?_
            refine V_iload (pc := 395) dX12_partAll_395 rfl ?_
            refine V_iand (pc := 397) dX12_partAll_397 ?_
            refine V_istore (pc := 398) dX12_partAll_398 (by decide) ?_
            refine V_goto (tgt := 212) (pc := 400) dX12_partAll_400 rfl ?_
            exact V_sub h ⟨rfl, rfl, rfl, rfl, rfl, rfl, rfl, rfl, rfl, trivial⟩
theorem wp_X12_readLine {G : GV} {k : Nat} {M : Mem} {q : Mem → Prop}  (h : Ci shM G mX12_numberIn (k + 3) [.ref (G.2.1 0), .int 0, .int ((M.1 0 38) - 1), .int (-1000000)] M (fun x1 M1 => vp_in (M.1 0 39) 12 ∧ (((M1.1 0 36) ≠ 0 → V shM G mX12_readLine (k + 4) 124 [(0, .ref (G.2.1 0)), (1, .int (M.1 0 39))] [] (mset M1 8 (ix (M.1 0 39)) x1) (Qv q)) ∧ ((M1.1 0 36) = 0 → Cl shM G mX12_word (k + 3) [.ref (G.2.1 0)] (mset M1 8 (ix (M.1 0 39)) x1) (fun x2 M2 => ((x2 ≠ 119200164373860 → ((x2 ≠ 491261289828 → ((x2 ≠ 27988572849333604 → ((x2 ≠ 500135191653 → ((x2 ≠ 495873780837 → vp_in (M.1 0 39) 12 ∧ Cv shM G mX12_need (k + 3) [.ref (G.2.1 0), .int 0] (mset M2 9 (ix (M.1 0 39)) (-1000000)) (fun M3 => V shM G mX12_readLine (k + 4) 124 [(0, .ref (G.2.1 0)), (1, .int (M.1 0 39))] [] M3 (Qv q))) ∧ (x2 = 495873780837 → vp_in (M.1 0 39) 12 ∧ Cv shM G mX12_need (k + 3) [.ref (G.2.1 0), .int 1] (mset M2 9 (ix (M.1 0 39)) 4) (fun M4 => V shM G mX12_readLine (k + 4) 124 [(0, .ref (G.2.1 0)), (1, .int (M.1 0 39))] [] M4 (Qv q))))) ∧ (x2 = 500135191653 → vp_in (M.1 0 39) 12 ∧ Cv shM G mX12_need (k + 3) [.ref (G.2.1 0), .int 1] (mset M2 9 (ix (M.1 0 39)) 3) (fun M5 => V shM G mX12_readLine (k + 4) 124 [(0, .ref (G.2.1 0)), (1, .int (M.1 0 39))] [] M5 (Qv q))))) ∧ (x2 = 27988572849333604 → vp_in (M.1 0 39) 12 ∧ Cv shM G mX12_need (k + 3) [.ref (G.2.1 0), .int 1] (mset M2 9 (ix (M.1 0 39)) 2) (fun M6 => V shM G mX12_readLine (k + 4) 124 [(0, .ref (G.2.1 0)), (1, .int (M.1 0 39))] [] M6 (Qv q))))) ∧ (x2 = 491261289828 → vp_in (M.1 0 39) 12 ∧ Cv shM G mX12_need (k + 3) [.ref (G.2.1 0), .int 1] (mset M2 9 (ix (M.1 0 39)) 1) (fun M7 => V shM G mX12_readLine (k + 4) 124 [(0, .ref (G.2.1 0)), (1, .int (M.1 0 39))] [] M7 (Qv q))))) ∧ (x2 = 119200164373860 → vp_in (M.1 0 39) 12 ∧ Cv shM G mX12_need (k + 3) [.ref (G.2.1 0), .int 1] (mset M2 9 (ix (M.1 0 39)) 0) (fun M8 => V shM G mX12_readLine (k + 4) 124 [(0, .ref (G.2.1 0)), (1, .int (M.1 0 39))] [] M8 (Qv q))))))))) : Cv shM G mX12_readLine (k + 4) [.ref (G.2.1 0)] M q := by
  unfold Cv
  show V _ _ _ _ _ [(0, .ref (G.2.1 0))] _ _ _
  refine V_aload_n (pc := 0) dX12_readLine_0 rfl ?_
  refine V_getI (pc := 1) fX12_183 sM0 rfl dX12_readLine_1 ?_
  refine V_istore_n (pc := 4) dX12_readLine_4 (by decide) ?_
  refine V_aload_n (pc := 5) dX12_readLine_5 rfl ?_
  refine V_getR (pc := 6) fX12_32 sM0 rfl dX12_readLine_6 ?_
  refine V_iload_n (pc := 9) dX12_readLine_9 rfl ?_
  refine V_aload_n (pc := 10) dX12_readLine_10 rfl ?_
  refine V_iconst (v := 0) (pc := 11) dX12_readLine_11 rfl ?_
  refine V_aload_n (pc := 12) dX12_readLine_12 rfl ?_
  refine V_getI (pc := 13) fX12_186 sM0 rfl dX12_readLine_13 ?_
  refine V_iconst (v := 1) (pc := 16) dX12_readLine_16 rfl ?_
  refine V_isub (pc := 17) dX12_readLine_17 ?_
  refine V_ldc (pc := 18) dX12_readLine_18 nX12_144 ?_
  refine V_callVi [.int 0, .int ((M.1 0 38) - 1), .int (-1000000)] (pc := 20) kX12_numberIn lX12_189 sM0 rfl rfl (Nat.le_of_ble_eq_true rfl) rfl (Nat.le_of_ble_eq_true rfl) dX12_readLine_20 ?_
  refine Ci.mono h ?_
  intro x1 M1 h
  refine V_iast (pc := 23) sM8 dX12_readLine_23 h.1 ?_
  have h := h.2
  refine V_aload_n (pc := 24) dX12_readLine_24 rfl ?_
  refine V_getI (pc := 25) fX12_166 sM0 rfl dX12_readLine_25 ?_
  refine V_top (v := (M1.1 0 36)) (by simp [mset, lset, upd]) ?_
  refine V_if_ne (tgt := 124) (pc := 28) dX12_readLine_28 rfl (fun c => ?_) (fun c => ?_)
  · have h := h.1 c
    exact V_sub h ⟨rfl, rfl, trivial⟩
  · have h := h.2 c
    refine V_aload_n (pc := 31) dX12_readLine_31 rfl ?_
    refine V_callVl [] (pc := 32) kX12_word lX12_193 sM0 rfl rfl (Nat.le_of_ble_eq_true rfl) rfl (Nat.le_of_ble_eq_true rfl) dX12_readLine_32 ?_
    refine Cl.mono h ?_
    intro x2 M2 h
    refine V_lstore_n (pc := 35) dX12_readLine_35 (by decide) ?_
    refine V_lload_n (pc := 36) dX12_readLine_36 rfl ?_
    refine V_ldc2 (pc := 37) dX12_readLine_37 nX12_197 ?_
    refine V_lif_ne (tgt := 48) (pc := 40) dX12_readLine_40 dX12_readLine_41 rfl (fun c => ?_) (fun c => ?_)
    · have h := h.1 c
      refine V_lload_n (pc := 48) dX12_readLine_48 rfl ?_
      refine V_ldc2 (pc := 49) dX12_readLine_49 nX12_199 ?_
      refine V_lif_ne (tgt := 60) (pc := 52) dX12_readLine_52 dX12_readLine_53 rfl (fun c => ?_) (fun c => ?_)
      · have h := h.1 c
        refine V_lload_n (pc := 60) dX12_readLine_60 rfl ?_
        refine V_ldc2 (pc := 61) dX12_readLine_61 nX12_201 ?_
        refine V_lif_ne (tgt := 72) (pc := 64) dX12_readLine_64 dX12_readLine_65 rfl (fun c => ?_) (fun c => ?_)
        · have h := h.1 c
          refine V_lload_n (pc := 72) dX12_readLine_72 rfl ?_
          refine V_ldc2 (pc := 73) dX12_readLine_73 nX12_203 ?_
          refine V_lif_ne (tgt := 84) (pc := 76) dX12_readLine_76 dX12_readLine_77 rfl (fun c => ?_) (fun c => ?_)
          · have h := h.1 c
            refine V_lload_n (pc := 84) dX12_readLine_84 rfl ?_
            refine V_ldc2 (pc := 85) dX12_readLine_85 nX12_205 ?_
            refine V_lif_ne (tgt := 96) (pc := 88) dX12_readLine_88 dX12_readLine_89 rfl (fun c => ?_) (fun c => ?_)
            · have h := h.1 c
              refine V_ldc (pc := 96) dX12_readLine_96 nX12_144 ?_
              refine V_istore (pc := 98) dX12_readLine_98 (by decide) ?_
              refine V_aload_n (pc := 100) dX12_readLine_100 rfl ?_
              refine V_getR (pc := 101) fX12_35 sM0 rfl dX12_readLine_101 ?_
              refine V_iload_n (pc := 104) dX12_readLine_104 rfl ?_
              refine V_iload (pc := 105) dX12_readLine_105 rfl ?_
              refine V_iast (pc := 107) sM9 dX12_readLine_107 h.1 ?_
              have h := h.2
              refine V_aload_n (pc := 108) dX12_readLine_108 rfl ?_
              refine V_iload (pc := 109) dX12_readLine_109 rfl ?_
              refine V_ldc (pc := 111) dX12_readLine_111 nX12_144 ?_
              refine V_icmp_eq (tgt := 120) (pc := 113) dX12_readLine_113 rfl (fun c => ?_) (fun c => ?_)
              · skip
                refine V_iconst (v := 0) (pc := 120) dX12_readLine_120 rfl ?_
                refine V_callVv [.int 0] (pc := 121) kX12_need lX12_179 sM0 rfl rfl (Nat.le_of_ble_eq_true rfl) rfl (Nat.le_of_ble_eq_true rfl) dX12_readLine_121 ?_
                refine Cv.mono h ?_
                intro M3 h
                exact V_sub h ⟨rfl, rfl, trivial⟩
              · exact absurd c (by decide)
            · have h := h.2 c
              refine V_iconst (v := 4) (pc := 92) dX12_readLine_92 rfl ?_
              refine V_goto (tgt := 98) (pc := 93) dX12_readLine_93 rfl ?_
              refine V_istore (pc := 98) dX12_readLine_98 (by decide) ?_
              refine V_aload_n (pc := 100) dX12_readLine_100 rfl ?_
              refine V_getR (pc := 101) fX12_35 sM0 rfl dX12_readLine_101 ?_
              refine V_iload_n (pc := 104) dX12_readLine_104 rfl ?_
              refine V_iload (pc := 105) dX12_readLine_105 rfl ?_
              refine V_iast (pc := 107) sM9 dX12_readLine_107 h.1 ?_
              have h := h.2
              refine V_aload_n (pc := 108) dX12_readLine_108 rfl ?_
              refine V_iload (pc := 109) dX12_readLine_109 rfl ?_
              refine V_ldc (pc := 111) dX12_readLine_111 nX12_144 ?_
              refine V_icmp_eq (tgt := 120) (pc := 113) dX12_readLine_113 rfl (fun c => ?_) (fun c => ?_)
              · exact absurd c (by decide)
              · skip
                refine V_iconst (v := 1) (pc := 116) dX12_readLine_116 rfl ?_
                refine V_goto (tgt := 121) (pc := 117) dX12_readLine_117 rfl ?_
                refine V_callVv [.int 1] (pc := 121) kX12_need lX12_179 sM0 rfl rfl (Nat.le_of_ble_eq_true rfl) rfl (Nat.le_of_ble_eq_true rfl) dX12_readLine_121 ?_
                refine Cv.mono h ?_
                intro M4 h
                exact V_sub h ⟨rfl, rfl, trivial⟩
          · have h := h.2 c
            refine V_iconst (v := 3) (pc := 80) dX12_readLine_80 rfl ?_
            refine V_goto (tgt := 98) (pc := 81) dX12_readLine_81 rfl ?_
            refine V_istore (pc := 98) dX12_readLine_98 (by decide) ?_
            refine V_aload_n (pc := 100) dX12_readLine_100 rfl ?_
            refine V_getR (pc := 101) fX12_35 sM0 rfl dX12_readLine_101 ?_
            refine V_iload_n (pc := 104) dX12_readLine_104 rfl ?_
            refine V_iload (pc := 105) dX12_readLine_105 rfl ?_
            refine V_iast (pc := 107) sM9 dX12_readLine_107 h.1 ?_
            have h := h.2
            refine V_aload_n (pc := 108) dX12_readLine_108 rfl ?_
            refine V_iload (pc := 109) dX12_readLine_109 rfl ?_
            refine V_ldc (pc := 111) dX12_readLine_111 nX12_144 ?_
            refine V_icmp_eq (tgt := 120) (pc := 113) dX12_readLine_113 rfl (fun c => ?_) (fun c => ?_)
            · exact absurd c (by decide)
            · skip
              refine V_iconst (v := 1) (pc := 116) dX12_readLine_116 rfl ?_
              refine V_goto (tgt := 121) (pc := 117) dX12_readLine_117 rfl ?_
              refine V_callVv [.int 1] (pc := 121) kX12_need lX12_179 sM0 rfl rfl (Nat.le_of_ble_eq_true rfl) rfl (Nat.le_of_ble_eq_true rfl) dX12_readLine_121 ?_
              refine Cv.mono h ?_
              intro M5 h
              exact V_sub h ⟨rfl, rfl, trivial⟩
        · have h := h.2 c
          refine V_iconst (v := 2) (pc := 68) dX12_readLine_68 rfl ?_
          refine V_goto (tgt := 98) (pc := 69) dX12_readLine_69 rfl ?_
          refine V_istore (pc := 98) dX12_readLine_98 (by decide) ?_
          refine V_aload_n (pc := 100) dX12_readLine_100 rfl ?_
          refine V_getR (pc := 101) fX12_35 sM0 rfl dX12_readLine_101 ?_
          refine V_iload_n (pc := 104) dX12_readLine_104 rfl ?_
          refine V_iload (pc := 105) dX12_readLine_105 rfl ?_
          refine V_iast (pc := 107) sM9 dX12_readLine_107 h.1 ?_
          have h := h.2
          refine V_aload_n (pc := 108) dX12_readLine_108 rfl ?_
          refine V_iload (pc := 109) dX12_readLine_109 rfl ?_
          refine V_ldc (pc := 111) dX12_readLine_111 nX12_144 ?_
          refine V_icmp_eq (tgt := 120) (pc := 113) dX12_readLine_113 rfl (fun c => ?_) (fun c => ?_)
          · exact absurd c (by decide)
          · skip
            refine V_iconst (v := 1) (pc := 116) dX12_readLine_116 rfl ?_
            refine V_goto (tgt := 121) (pc := 117) dX12_readLine_117 rfl ?_
            refine V_callVv [.int 1] (pc := 121) kX12_need lX12_179 sM0 rfl rfl (Nat.le_of_ble_eq_true rfl) rfl (Nat.le_of_ble_eq_true rfl) dX12_readLine_121 ?_
            refine Cv.mono h ?_
            intro M6 h
            exact V_sub h ⟨rfl, rfl, trivial⟩
      · have h := h.2 c
        refine V_iconst (v := 1) (pc := 56) dX12_readLine_56 rfl ?_
        refine V_goto (tgt := 98) (pc := 57) dX12_readLine_57 rfl ?_
        refine V_istore (pc := 98) dX12_readLine_98 (by decide) ?_
        refine V_aload_n (pc := 100) dX12_readLine_100 rfl ?_
        refine V_getR (pc := 101) fX12_35 sM0 rfl dX12_readLine_101 ?_
        refine V_iload_n (pc := 104) dX12_readLine_104 rfl ?_
        refine V_iload (pc := 105) dX12_readLine_105 rfl ?_
        refine V_iast (pc := 107) sM9 dX12_readLine_107 h.1 ?_
        have h := h.2
        refine V_aload_n (pc := 108) dX12_readLine_108 rfl ?_
        refine V_iload (pc := 109) dX12_readLine_109 rfl ?_
        refine V_ldc (pc := 111) dX12_readLine_111 nX12_144 ?_
        refine V_icmp_eq (tgt := 120) (pc := 113) dX12_readLine_113 rfl (fun c => ?_) (fun c => ?_)
        · exact absurd c (by decide)
        · skip
          refine V_iconst (v := 1) (pc := 116) dX12_readLine_116 rfl ?_
          refine V_goto (tgt := 121) (pc := 117) dX12_readLine_117 rfl ?_
          refine V_callVv [.int 1] (pc := 121) kX12_need lX12_179 sM0 rfl rfl (Nat.le_of_ble_eq_true rfl) rfl (Nat.le_of_ble_eq_true rfl) dX12_readLine_121 ?_
          refine Cv.mono h ?_
          intro M7 h
          exact V_sub h ⟨rfl, rfl, trivial⟩
    · have h := h.2 c
      refine V_iconst (v := 0) (pc := 44) dX12_readLine_44 rfl ?_
      refine V_goto (tgt := 98) (pc := 45) dX12_readLine_45 rfl ?_
      refine V_istore (pc := 98) dX12_readLine_98 (by decide) ?_
      refine V_aload_n (pc := 100) dX12_readLine_100 rfl ?_
      refine V_getR (pc := 101) fX12_35 sM0 rfl dX12_readLine_101 ?_
      refine V_iload_n (pc := 104) dX12_readLine_104 rfl ?_
      refine V_iload (pc := 105) dX12_readLine_105 rfl ?_
      refine V_iast (pc := 107) sM9 dX12_readLine_107 h.1 ?_
      have h := h.2
      refine V_aload_n (pc := 108) dX12_readLine_108 rfl ?_
      refine V_iload (pc := 109) dX12_readLine_109 rfl ?_
      refine V_ldc (pc := 111) dX12_readLine_111 nX12_144 ?_
      refine V_icmp_eq (tgt := 120) (pc := 113) dX12_readLine_113 rfl (fun c => ?_) (fun c => ?_)
      · exact absurd c (by decide)
      · skip
        refine V_iconst (v := 1) (pc := 116) dX12_readLine_116 rfl ?_
        refine V_goto (tgt := 121) (pc := 117) dX12_readLine_117 rfl ?_
        refine V_callVv [.int 1] (pc := 121) kX12_need lX12_179 sM0 rfl rfl (Nat.le_of_ble_eq_true rfl) rfl (Nat.le_of_ble_eq_true rfl) dX12_readLine_121 ?_
        refine Cv.mono h ?_
        intro M8 h
        exact V_sub h ⟨rfl, rfl, trivial⟩
theorem wp_X12_readLine_124 {G : GV} {k : Nat} {M : Mem} {q : Mem → Prop} {v1 : Int32} (h : Ci shM G mX12_numberIn (k + 3) [.ref (G.2.1 0), .int 0, .int 3, .int (-1000000)] M (fun x1 M1 => vp_in v1 12 ∧ Ci shM G mX12_numberIn (k + 3) [.ref (G.2.1 0), .int 1, .int 99, .int (-1000000)] (mset M1 10 (ix v1) x1) (fun x2 M2 => vp_in v1 12 ∧ (((M2.1 0 36) ≠ 0 → vp_in v1 12 ∧ (((M2.1 0 36) ≠ 0 → q (mset (mset (mset M2 11 (ix v1) x2) 12 (ix v1) (-1000000)) 0 39 ((M2.1 0 39) + 1))) ∧ ((M2.1 0 36) = 0 → Cl shM G mX12_word (k + 3) [.ref (G.2.1 0)] (mset (mset M2 11 (ix v1) x2) 12 (ix v1) (-1000000)) (fun x3 M3 => ((x3 ≠ 6383461 → q (mset M3 0 39 ((M3.1 0 39) + 1))) ∧ (x3 = 6383461 → Cv shM G mX12_step (k + 3) [.ref (G.2.1 0)] M3 (fun M4 => Ci shM G mX12_numberIn (k + 3) [.ref (G.2.1 0), .int 0, .int 120, .int (-1000000)] M4 (fun x5 M5 => vp_in v1 12 ∧ q (mset (mset M5 12 (ix v1) x5) 0 39 ((M5.1 0 39) + 1)))))))))) ∧ ((M2.1 0 36) = 0 → (((M2.1 0 33) ≠ 2 → vp_in v1 12 ∧ V shM G mX12_readLine (k + 4) 207 [(0, .ref (G.2.1 0)), (1, .int v1), (2, .int (M2.1 0 34))] [] (mset (mset M2 11 (ix v1) x2) 13 (ix v1) ((M2.1 0 35) - (M2.1 0 34))) (Qv q)) ∧ ((M2.1 0 33) = 2 → ((((M2.1 0 35) - (M2.1 0 34)) ≤ 8 → vp_in v1 12 ∧ V shM G mX12_readLine (k + 4) 207 [(0, .ref (G.2.1 0)), (1, .int v1), (2, .int (M2.1 0 34))] [] (mset (mset M2 11 (ix v1) x2) 13 (ix v1) ((M2.1 0 35) - (M2.1 0 34))) (Qv q)) ∧ (¬ ((M2.1 0 35) - (M2.1 0 34)) ≤ 8 → Cv shM G mX12_bad (k + 3) [.ref (G.2.1 0), .int 2] (mset M2 11 (ix v1) x2) (fun M6 => vp_in v1 12 ∧ V shM G mX12_readLine (k + 4) 207 [(0, .ref (G.2.1 0)), (1, .int v1), (2, .int (M6.1 0 34))] [] (mset M6 13 (ix v1) ((M6.1 0 35) - (M6.1 0 34))) (Qv q))))))))))) : V shM G mX12_readLine (k + 4) 124 [(0, .ref (G.2.1 0)), (1, .int v1)] [] M (Qv q) := by
  refine V_aload_n (pc := 124) dX12_readLine_124 rfl ?_
  refine V_getR (pc := 125) fX12_38 sM0 rfl dX12_readLine_125 ?_
  refine V_iload_n (pc := 128) dX12_readLine_128 rfl ?_
  refine V_aload_n (pc := 129) dX12_readLine_129 rfl ?_
  refine V_iconst (v := 0) (pc := 130) dX12_readLine_130 rfl ?_
  refine V_iconst (v := 3) (pc := 131) dX12_readLine_131 rfl ?_
  refine V_ldc (pc := 132) dX12_readLine_132 nX12_144 ?_
  refine V_callVi [.int 0, .int 3, .int (-1000000)] (pc := 134) kX12_numberIn lX12_189 sM0 rfl rfl (Nat.le_of_ble_eq_true rfl) rfl (Nat.le_of_ble_eq_true rfl) dX12_readLine_134 ?_
  refine Ci.mono h ?_
  intro x1 M1 h
  refine V_iast (pc := 137) sM10 dX12_readLine_137 h.1 ?_
  have h := h.2
  refine V_aload_n (pc := 138) dX12_readLine_138 rfl ?_
  refine V_getR (pc := 139) fX12_41 sM0 rfl dX12_readLine_139 ?_
  refine V_iload_n (pc := 142) dX12_readLine_142 rfl ?_
  refine V_aload_n (pc := 143) dX12_readLine_143 rfl ?_
  refine V_iconst (v := 1) (pc := 144) dX12_readLine_144 rfl ?_
  refine V_bipush (v := 99) (pc := 145) dX12_readLine_145 rfl ?_
  refine V_ldc (pc := 147) dX12_readLine_147 nX12_144 ?_
  refine V_callVi [.int 1, .int 99, .int (-1000000)] (pc := 149) kX12_numberIn lX12_189 sM0 rfl rfl (Nat.le_of_ble_eq_true rfl) rfl (Nat.le_of_ble_eq_true rfl) dX12_readLine_149 ?_
  refine Ci.mono h ?_
  intro x2 M2 h
  refine V_iast (pc := 152) sM11 dX12_readLine_152 h.1 ?_
  have h := h.2
  refine V_aload_n (pc := 153) dX12_readLine_153 rfl ?_
  refine V_getI (pc := 154) fX12_166 sM0 rfl dX12_readLine_154 ?_
  refine V_top (v := (M2.1 0 36)) (by simp [mset, lset, upd]) ?_
  refine V_if_ne (tgt := 278) (pc := 157) dX12_readLine_157 rfl (fun c => ?_) (fun c => ?_)
  · have h := h.1 c
    refine V_aload_n (pc := 278) dX12_readLine_278 rfl ?_
    refine V_getR (pc := 279) fX12_44 sM0 rfl dX12_readLine_279 ?_
    refine V_iload_n (pc := 282) dX12_readLine_282 rfl ?_
    refine V_ldc (pc := 283) dX12_readLine_283 nX12_144 ?_
    refine V_iast (pc := 285) sM12 dX12_readLine_285 h.1 ?_
    have h := h.2
    refine V_aload_n (pc := 286) dX12_readLine_286 rfl ?_
    refine V_getI (pc := 287) fX12_166 sM0 rfl dX12_readLine_287 ?_
    refine V_top (v := (M2.1 0 36)) (by simp [mset, lset, upd]) ?_
    refine V_if_ne (tgt := 323) (pc := 290) dX12_readLine_290 rfl (fun c => ?_) (fun c => ?_)
    · have h := h.1 c
      refine V_aload_n (pc := 323) dX12_readLine_323 rfl ?_
      refine V_dup (pc := 324) dX12_readLine_324 rfl ?_
      refine V_getI (pc := 325) fX12_183 sM0 rfl dX12_readLine_325 ?_
      refine V_top (v := (M2.1 0 39)) (by simp [mset, lset, upd]) ?_
      refine V_iconst (v := 1) (pc := 328) dX12_readLine_328 rfl ?_
      refine V_iadd (pc := 329) dX12_readLine_329 ?_
      refine V_putI (pc := 330) fX12_183 p12_39 sM0 rfl dX12_readLine_330 ?_
      exact V_vret dX12_readLine_333 rfl h
    · have h := h.2 c
      refine V_aload_n (pc := 293) dX12_readLine_293 rfl ?_
      refine V_callVl [] (pc := 294) kX12_word lX12_193 sM0 rfl rfl (Nat.le_of_ble_eq_true rfl) rfl (Nat.le_of_ble_eq_true rfl) dX12_readLine_294 ?_
      refine Cl.mono h ?_
      intro x3 M3 h
      refine V_ldc2 (pc := 297) dX12_readLine_297 nX12_207 ?_
      refine V_lif_ne (tgt := 323) (pc := 300) dX12_readLine_300 dX12_readLine_301 rfl (fun c => ?_) (fun c => ?_)
      · have h := h.1 c
        refine V_aload_n (pc := 323) dX12_readLine_323 rfl ?_
        refine V_dup (pc := 324) dX12_readLine_324 rfl ?_
        refine V_getI (pc := 325) fX12_183 sM0 rfl dX12_readLine_325 ?_
        refine V_iconst (v := 1) (pc := 328) dX12_readLine_328 rfl ?_
        refine V_iadd (pc := 329) dX12_readLine_329 ?_
        refine V_putI (pc := 330) fX12_183 p12_39 sM0 rfl dX12_readLine_330 ?_
        exact V_vret dX12_readLine_333 rfl h
      · have h := h.2 c
        refine V_aload_n (pc := 304) dX12_readLine_304 rfl ?_
        refine V_callVv [] (pc := 305) kX12_step lX12_176 sM0 rfl rfl (Nat.le_of_ble_eq_true rfl) rfl (Nat.le_of_ble_eq_true rfl) dX12_readLine_305 ?_
        refine Cv.mono h ?_
        intro M4 h
        refine V_aload_n (pc := 308) dX12_readLine_308 rfl ?_
        refine V_getR (pc := 309) fX12_44 sM0 rfl dX12_readLine_309 ?_
        refine V_iload_n (pc := 312) dX12_readLine_312 rfl ?_
        refine V_aload_n (pc := 313) dX12_readLine_313 rfl ?_
        refine V_iconst (v := 0) (pc := 314) dX12_readLine_314 rfl ?_
        refine V_bipush (v := 120) (pc := 315) dX12_readLine_315 rfl ?_
        refine V_ldc (pc := 317) dX12_readLine_317 nX12_144 ?_
        refine V_callVi [.int 0, .int 120, .int (-1000000)] (pc := 319) kX12_numberIn lX12_189 sM0 rfl rfl (Nat.le_of_ble_eq_true rfl) rfl (Nat.le_of_ble_eq_true rfl) dX12_readLine_319 ?_
        refine Ci.mono h ?_
        intro x5 M5 h
        refine V_iast (pc := 322) sM12 dX12_readLine_322 h.1 ?_
        have h := h.2
        refine V_aload_n (pc := 323) dX12_readLine_323 rfl ?_
        refine V_dup (pc := 324) dX12_readLine_324 rfl ?_
        refine V_getI (pc := 325) fX12_183 sM0 rfl dX12_readLine_325 ?_
        refine V_top (v := (M5.1 0 39)) (by simp [mset, lset, upd]) ?_
        refine V_iconst (v := 1) (pc := 328) dX12_readLine_328 rfl ?_
        refine V_iadd (pc := 329) dX12_readLine_329 ?_
        refine V_putI (pc := 330) fX12_183 p12_39 sM0 rfl dX12_readLine_330 ?_
        exact V_vret dX12_readLine_333 rfl h
  · have h := h.2 c
    refine V_aload_n (pc := 160) dX12_readLine_160 rfl ?_
    refine V_getI (pc := 161) fX12_154 sM0 rfl dX12_readLine_161 ?_
    refine V_top (v := (M2.1 0 33)) (by simp [mset, lset, upd]) ?_
    refine V_iconst (v := 2) (pc := 164) dX12_readLine_164 rfl ?_
    refine V_icmp_ne (tgt := 187) (pc := 165) dX12_readLine_165 rfl (fun c => ?_) (fun c => ?_)
    · have h := h.1 c
      refine V_aload_n (pc := 187) dX12_readLine_187 rfl ?_
      refine V_getR (pc := 188) fX12_47 sM0 rfl dX12_readLine_188 ?_
      refine V_iload_n (pc := 191) dX12_readLine_191 rfl ?_
      refine V_aload_n (pc := 192) dX12_readLine_192 rfl ?_
      refine V_getI (pc := 193) fX12_163 sM0 rfl dX12_readLine_193 ?_
      refine V_top (v := (M2.1 0 35)) (by simp [mset, lset, upd]) ?_
      refine V_aload_n (pc := 196) dX12_readLine_196 rfl ?_
      refine V_getI (pc := 197) fX12_151 sM0 rfl dX12_readLine_197 ?_
      refine V_top (v := (M2.1 0 34)) (by simp [mset, lset, upd]) ?_
      refine V_isub (pc := 200) dX12_readLine_200 ?_
      refine V_iast (pc := 201) sM13 dX12_readLine_201 h.1 ?_
      have h := h.2
      refine V_aload_n (pc := 202) dX12_readLine_202 rfl ?_
      refine V_getI (pc := 203) fX12_151 sM0 rfl dX12_readLine_203 ?_
      refine V_top (v := (M2.1 0 34)) (by simp [mset, lset, upd]) ?_
      refine V_istore_n (pc := 206) dX12_readLine_206 (by decide) ?_
      exact V_sub h ⟨rfl, rfl, rfl, trivial⟩
    · have h := h.2 c
      refine V_aload_n (pc := 168) dX12_readLine_168 rfl ?_
      refine V_getI (pc := 169) fX12_163 sM0 rfl dX12_readLine_169 ?_
      refine V_top (v := (M2.1 0 35)) (by simp [mset, lset, upd]) ?_
      refine V_aload_n (pc := 172) dX12_readLine_172 rfl ?_
      refine V_getI (pc := 173) fX12_151 sM0 rfl dX12_readLine_173 ?_
      refine V_top (v := (M2.1 0 34)) (by simp [mset, lset, upd]) ?_
      refine V_isub (pc := 176) dX12_readLine_176 ?_
      refine V_bipush (v := 8) (pc := 177) dX12_readLine_177 rfl ?_
      refine V_icmp_le (tgt := 187) (pc := 179) dX12_readLine_179 rfl (fun c => ?_) (fun c => ?_)
      · have h := h.1 c
        refine V_aload_n (pc := 187) dX12_readLine_187 rfl ?_
        refine V_getR (pc := 188) fX12_47 sM0 rfl dX12_readLine_188 ?_
        refine V_iload_n (pc := 191) dX12_readLine_191 rfl ?_
        refine V_aload_n (pc := 192) dX12_readLine_192 rfl ?_
        refine V_getI (pc := 193) fX12_163 sM0 rfl dX12_readLine_193 ?_
        refine V_top (v := (M2.1 0 35)) (by simp [mset, lset, upd]) ?_
        refine V_aload_n (pc := 196) dX12_readLine_196 rfl ?_
        refine V_getI (pc := 197) fX12_151 sM0 rfl dX12_readLine_197 ?_
        refine V_top (v := (M2.1 0 34)) (by simp [mset, lset, upd]) ?_
        refine V_isub (pc := 200) dX12_readLine_200 ?_
        refine V_iast (pc := 201) sM13 dX12_readLine_201 h.1 ?_
        have h := h.2
        refine V_aload_n (pc := 202) dX12_readLine_202 rfl ?_
        refine V_getI (pc := 203) fX12_151 sM0 rfl dX12_readLine_203 ?_
        refine V_top (v := (M2.1 0 34)) (by simp [mset, lset, upd]) ?_
        refine V_istore_n (pc := 206) dX12_readLine_206 (by decide) ?_
        exact V_sub h ⟨rfl, rfl, rfl, trivial⟩
      · have h := h.2 c
        refine V_aload_n (pc := 182) dX12_readLine_182 rfl ?_
        refine V_iconst (v := 2) (pc := 183) dX12_readLine_183 rfl ?_
        refine V_callVv [.int 2] (pc := 184) kX12_bad lX12_172 sM0 rfl rfl (Nat.le_of_ble_eq_true rfl) rfl (Nat.le_of_ble_eq_true rfl) dX12_readLine_184 ?_
        refine Cv.mono h ?_
        intro M6 h
        refine V_aload_n (pc := 187) dX12_readLine_187 rfl ?_
        refine V_getR (pc := 188) fX12_47 sM0 rfl dX12_readLine_188 ?_
        refine V_iload_n (pc := 191) dX12_readLine_191 rfl ?_
        refine V_aload_n (pc := 192) dX12_readLine_192 rfl ?_
        refine V_getI (pc := 193) fX12_163 sM0 rfl dX12_readLine_193 ?_
        refine V_aload_n (pc := 196) dX12_readLine_196 rfl ?_
        refine V_getI (pc := 197) fX12_151 sM0 rfl dX12_readLine_197 ?_
        refine V_isub (pc := 200) dX12_readLine_200 ?_
        refine V_iast (pc := 201) sM13 dX12_readLine_201 h.1 ?_
        have h := h.2
        refine V_aload_n (pc := 202) dX12_readLine_202 rfl ?_
        refine V_getI (pc := 203) fX12_151 sM0 rfl dX12_readLine_203 ?_
        refine V_top (v := (M6.1 0 34)) (by simp [mset, lset, upd]) ?_
        refine V_istore_n (pc := 206) dX12_readLine_206 (by decide) ?_
        exact V_sub h ⟨rfl, rfl, rfl, trivial⟩
theorem wp_X12_readLine_207 {G : GV} {k : Nat} {M : Mem} {q : Mem → Prop} {v1 : Int32} {v2 : Int32} (h : (((M.1 0 35) ≤ v2 → (((M.1 0 33) ≠ 2 → Cv shM G mX12_need (k + 3) [.ref (G.2.1 0), .int 0] M (fun M1 => vp_in v1 12 ∧ (((M1.1 0 36) ≠ 0 → q (mset (mset M1 12 (ix v1) (-1000000)) 0 39 ((M1.1 0 39) + 1))) ∧ ((M1.1 0 36) = 0 → Cl shM G mX12_word (k + 3) [.ref (G.2.1 0)] (mset M1 12 (ix v1) (-1000000)) (fun x2 M2 => ((x2 ≠ 6383461 → q (mset M2 0 39 ((M2.1 0 39) + 1))) ∧ (x2 = 6383461 → Cv shM G mX12_step (k + 3) [.ref (G.2.1 0)] M2 (fun M3 => Ci shM G mX12_numberIn (k + 3) [.ref (G.2.1 0), .int 0, .int 120, .int (-1000000)] M3 (fun x4 M4 => vp_in v1 12 ∧ q (mset (mset M4 12 (ix v1) x4) 0 39 ((M4.1 0 39) + 1))))))))))) ∧ ((M.1 0 33) = 2 → Cv shM G mX12_need (k + 3) [.ref (G.2.1 0), .int 1] M (fun M5 => vp_in v1 12 ∧ (((M5.1 0 36) ≠ 0 → q (mset (mset M5 12 (ix v1) (-1000000)) 0 39 ((M5.1 0 39) + 1))) ∧ ((M5.1 0 36) = 0 → Cl shM G mX12_word (k + 3) [.ref (G.2.1 0)] (mset M5 12 (ix v1) (-1000000)) (fun x6 M6 => ((x6 ≠ 6383461 → q (mset M6 0 39 ((M6.1 0 39) + 1))) ∧ (x6 = 6383461 → Cv shM G mX12_step (k + 3) [.ref (G.2.1 0)] M6 (fun M7 => Ci shM G mX12_numberIn (k + 3) [.ref (G.2.1 0), .int 0, .int 120, .int (-1000000)] M7 (fun x8 M8 => vp_in v1 12 ∧ q (mset (mset M8 12 (ix v1) x8) 0 39 ((M8.1 0 39) + 1))))))))))))) ∧ (¬ (M.1 0 35) ≤ v2 → (((M.1 0 33) ≠ 2 → (((M.1 0 33) ≠ 2 → Cv shM G mX12_need (k + 3) [.ref (G.2.1 0), .int 0] M (fun M9 => vp_in v1 12 ∧ (((M9.1 0 36) ≠ 0 → q (mset (mset M9 12 (ix v1) (-1000000)) 0 39 ((M9.1 0 39) + 1))) ∧ ((M9.1 0 36) = 0 → Cl shM G mX12_word (k + 3) [.ref (G.2.1 0)] (mset M9 12 (ix v1) (-1000000)) (fun x10 M10 => ((x10 ≠ 6383461 → q (mset M10 0 39 ((M10.1 0 39) + 1))) ∧ (x10 = 6383461 → Cv shM G mX12_step (k + 3) [.ref (G.2.1 0)] M10 (fun M11 => Ci shM G mX12_numberIn (k + 3) [.ref (G.2.1 0), .int 0, .int 120, .int (-1000000)] M11 (fun x12 M12 => vp_in v1 12 ∧ q (mset (mset M12 12 (ix v1) x12) 0 39 ((M12.1 0 39) + 1))))))))))) ∧ ((M.1 0 33) = 2 → Cv shM G mX12_need (k + 3) [.ref (G.2.1 0), .int 1] M (fun M13 => vp_in v1 12 ∧ (((M13.1 0 36) ≠ 0 → q (mset (mset M13 12 (ix v1) (-1000000)) 0 39 ((M13.1 0 39) + 1))) ∧ ((M13.1 0 36) = 0 → Cl shM G mX12_word (k + 3) [.ref (G.2.1 0)] (mset M13 12 (ix v1) (-1000000)) (fun x14 M14 => ((x14 ≠ 6383461 → q (mset M14 0 39 ((M14.1 0 39) + 1))) ∧ (x14 = 6383461 → Cv shM G mX12_step (k + 3) [.ref (G.2.1 0)] M14 (fun M15 => Ci shM G mX12_numberIn (k + 3) [.ref (G.2.1 0), .int 0, .int 120, .int (-1000000)] M15 (fun x16 M16 => vp_in v1 12 ∧ q (mset (mset M16 12 (ix v1) x16) 0 39 ((M16.1 0 39) + 1))))))))))))) ∧ ((M.1 0 33) = 2 → (((M.1 0 36) ≠ 0 → (((M.1 0 33) ≠ 2 → Cv shM G mX12_need (k + 3) [.ref (G.2.1 0), .int 0] M (fun M17 => vp_in v1 12 ∧ (((M17.1 0 36) ≠ 0 → q (mset (mset M17 12 (ix v1) (-1000000)) 0 39 ((M17.1 0 39) + 1))) ∧ ((M17.1 0 36) = 0 → Cl shM G mX12_word (k + 3) [.ref (G.2.1 0)] (mset M17 12 (ix v1) (-1000000)) (fun x18 M18 => ((x18 ≠ 6383461 → q (mset M18 0 39 ((M18.1 0 39) + 1))) ∧ (x18 = 6383461 → Cv shM G mX12_step (k + 3) [.ref (G.2.1 0)] M18 (fun M19 => Ci shM G mX12_numberIn (k + 3) [.ref (G.2.1 0), .int 0, .int 120, .int (-1000000)] M19 (fun x20 M20 => vp_in v1 12 ∧ q (mset (mset M20 12 (ix v1) x20) 0 39 ((M20.1 0 39) + 1))))))))))) ∧ ((M.1 0 33) = 2 → Cv shM G mX12_need (k + 3) [.ref (G.2.1 0), .int 1] M (fun M21 => vp_in v1 12 ∧ (((M21.1 0 36) ≠ 0 → q (mset (mset M21 12 (ix v1) (-1000000)) 0 39 ((M21.1 0 39) + 1))) ∧ ((M21.1 0 36) = 0 → Cl shM G mX12_word (k + 3) [.ref (G.2.1 0)] (mset M21 12 (ix v1) (-1000000)) (fun x22 M22 => ((x22 ≠ 6383461 → q (mset M22 0 39 ((M22.1 0 39) + 1))) ∧ (x22 = 6383461 → Cv shM G mX12_step (k + 3) [.ref (G.2.1 0)] M22 (fun M23 => Ci shM G mX12_numberIn (k + 3) [.ref (G.2.1 0), .int 0, .int 120, .int (-1000000)] M23 (fun x24 M24 => vp_in v1 12 ∧ q (mset (mset M24 12 (ix v1) x24) 0 39 ((M24.1 0 39) + 1))))))))))))) ∧ ((M.1 0 36) = 0 → vp_in v2 600 ∧ vp_in (((8 * v1) + v2) - (M.1 0 34)) 96 ∧ V shM G mX12_readLine (k + 4) 207 [(0, .ref (G.2.1 0)), (1, .int v1), (2, .int (v2 + 1))] [] (mset M 14 (ix (((8 * v1) + v2) - (M.1 0 34))) ((M.1 23 (ix v2)) - 97)) (Qv q)))))))) : V shM G mX12_readLine (k + 4) 207 [(0, .ref (G.2.1 0)), (1, .int v1), (2, .int v2)] [] M (Qv q) := by
  refine V_iload_n (pc := 207) dX12_readLine_207 rfl ?_
  refine V_aload_n (pc := 208) dX12_readLine_208 rfl ?_
  refine V_getI (pc := 209) fX12_163 sM0 rfl dX12_readLine_209 ?_
  refine V_icmp_ge (tgt := 261) (pc := 212) dX12_readLine_212 rfl (fun c => ?_) (fun c => ?_)
  · have h := h.1 c
    refine V_aload_n (pc := 261) dX12_readLine_261 rfl ?_
    refine V_aload_n (pc := 262) dX12_readLine_262 rfl ?_
    refine V_getI (pc := 263) fX12_154 sM0 rfl dX12_readLine_263 ?_
    refine V_iconst (v := 2) (pc := 266) dX12_readLine_266 rfl ?_
    refine V_icmp_ne (tgt := 274) (pc := 267) dX12_readLine_267 rfl (fun c => ?_) (fun c => ?_)
    · have h := h.1 c
      refine V_iconst (v := 0) (pc := 274) dX12_readLine_274 rfl ?_
      refine V_callVv [.int 0] (pc := 275) kX12_need lX12_179 sM0 rfl rfl (Nat.le_of_ble_eq_true rfl) rfl (Nat.le_of_ble_eq_true rfl) dX12_readLine_275 ?_
      refine Cv.mono h ?_
      intro M1 h
      refine V_aload_n (pc := 278) dX12_readLine_278 rfl ?_
      refine V_getR (pc := 279) fX12_44 sM0 rfl dX12_readLine_279 ?_
      refine V_iload_n (pc := 282) dX12_readLine_282 rfl ?_
      refine V_ldc (pc := 283) dX12_readLine_283 nX12_144 ?_
      refine V_iast (pc := 285) sM12 dX12_readLine_285 h.1 ?_
      have h := h.2
      refine V_aload_n (pc := 286) dX12_readLine_286 rfl ?_
      refine V_getI (pc := 287) fX12_166 sM0 rfl dX12_readLine_287 ?_
      refine V_top (v := (M1.1 0 36)) (by simp [mset, lset, upd]) ?_
      refine V_if_ne (tgt := 323) (pc := 290) dX12_readLine_290 rfl (fun c => ?_) (fun c => ?_)
      · have h := h.1 c
        refine V_aload_n (pc := 323) dX12_readLine_323 rfl ?_
        refine V_dup (pc := 324) dX12_readLine_324 rfl ?_
        refine V_getI (pc := 325) fX12_183 sM0 rfl dX12_readLine_325 ?_
        refine V_top (v := (M1.1 0 39)) (by simp [mset, lset, upd]) ?_
        refine V_iconst (v := 1) (pc := 328) dX12_readLine_328 rfl ?_
        refine V_iadd (pc := 329) dX12_readLine_329 ?_
        refine V_putI (pc := 330) fX12_183 p12_39 sM0 rfl dX12_readLine_330 ?_
        exact V_vret dX12_readLine_333 rfl h
      · have h := h.2 c
        refine V_aload_n (pc := 293) dX12_readLine_293 rfl ?_
        refine V_callVl [] (pc := 294) kX12_word lX12_193 sM0 rfl rfl (Nat.le_of_ble_eq_true rfl) rfl (Nat.le_of_ble_eq_true rfl) dX12_readLine_294 ?_
        refine Cl.mono h ?_
        intro x2 M2 h
        refine V_ldc2 (pc := 297) dX12_readLine_297 nX12_207 ?_
        refine V_lif_ne (tgt := 323) (pc := 300) dX12_readLine_300 dX12_readLine_301 rfl (fun c => ?_) (fun c => ?_)
        · have h := h.1 c
          refine V_aload_n (pc := 323) dX12_readLine_323 rfl ?_
          refine V_dup (pc := 324) dX12_readLine_324 rfl ?_
          refine V_getI (pc := 325) fX12_183 sM0 rfl dX12_readLine_325 ?_
          refine V_iconst (v := 1) (pc := 328) dX12_readLine_328 rfl ?_
          refine V_iadd (pc := 329) dX12_readLine_329 ?_
          refine V_putI (pc := 330) fX12_183 p12_39 sM0 rfl dX12_readLine_330 ?_
          exact V_vret dX12_readLine_333 rfl h
        · have h := h.2 c
          refine V_aload_n (pc := 304) dX12_readLine_304 rfl ?_
          refine V_callVv [] (pc := 305) kX12_step lX12_176 sM0 rfl rfl (Nat.le_of_ble_eq_true rfl) rfl (Nat.le_of_ble_eq_true rfl) dX12_readLine_305 ?_
          refine Cv.mono h ?_
          intro M3 h
          refine V_aload_n (pc := 308) dX12_readLine_308 rfl ?_
          refine V_getR (pc := 309) fX12_44 sM0 rfl dX12_readLine_309 ?_
          refine V_iload_n (pc := 312) dX12_readLine_312 rfl ?_
          refine V_aload_n (pc := 313) dX12_readLine_313 rfl ?_
          refine V_iconst (v := 0) (pc := 314) dX12_readLine_314 rfl ?_
          refine V_bipush (v := 120) (pc := 315) dX12_readLine_315 rfl ?_
          refine V_ldc (pc := 317) dX12_readLine_317 nX12_144 ?_
          refine V_callVi [.int 0, .int 120, .int (-1000000)] (pc := 319) kX12_numberIn lX12_189 sM0 rfl rfl (Nat.le_of_ble_eq_true rfl) rfl (Nat.le_of_ble_eq_true rfl) dX12_readLine_319 ?_
          refine Ci.mono h ?_
          intro x4 M4 h
          refine V_iast (pc := 322) sM12 dX12_readLine_322 h.1 ?_
          have h := h.2
          refine V_aload_n (pc := 323) dX12_readLine_323 rfl ?_
          refine V_dup (pc := 324) dX12_readLine_324 rfl ?_
          refine V_getI (pc := 325) fX12_183 sM0 rfl dX12_readLine_325 ?_
          refine V_top (v := (M4.1 0 39)) (by simp [mset, lset, upd]) ?_
          refine V_iconst (v := 1) (pc := 328) dX12_readLine_328 rfl ?_
          refine V_iadd (pc := 329) dX12_readLine_329 ?_
          refine V_putI (pc := 330) fX12_183 p12_39 sM0 rfl dX12_readLine_330 ?_
          exact V_vret dX12_readLine_333 rfl h
    · have h := h.2 c
      refine V_iconst (v := 1) (pc := 270) dX12_readLine_270 rfl ?_
      refine V_goto (tgt := 275) (pc := 271) dX12_readLine_271 rfl ?_
      refine V_callVv [.int 1] (pc := 275) kX12_need lX12_179 sM0 rfl rfl (Nat.le_of_ble_eq_true rfl) rfl (Nat.le_of_ble_eq_true rfl) dX12_readLine_275 ?_
      refine Cv.mono h ?_
      intro M5 h
      refine V_aload_n (pc := 278) dX12_readLine_278 rfl ?_
      refine V_getR (pc := 279) fX12_44 sM0 rfl dX12_readLine_279 ?_
      refine V_iload_n (pc := 282) dX12_readLine_282 rfl ?_
      refine V_ldc (pc := 283) dX12_readLine_283 nX12_144 ?_
      refine V_iast (pc := 285) sM12 dX12_readLine_285 h.1 ?_
      have h := h.2
      refine V_aload_n (pc := 286) dX12_readLine_286 rfl ?_
      refine V_getI (pc := 287) fX12_166 sM0 rfl dX12_readLine_287 ?_
      refine V_top (v := (M5.1 0 36)) (by simp [mset, lset, upd]) ?_
      refine V_if_ne (tgt := 323) (pc := 290) dX12_readLine_290 rfl (fun c => ?_) (fun c => ?_)
      · have h := h.1 c
        refine V_aload_n (pc := 323) dX12_readLine_323 rfl ?_
        refine V_dup (pc := 324) dX12_readLine_324 rfl ?_
        refine V_getI (pc := 325) fX12_183 sM0 rfl dX12_readLine_325 ?_
        refine V_top (v := (M5.1 0 39)) (by simp [mset, lset, upd]) ?_
        refine V_iconst (v := 1) (pc := 328) dX12_readLine_328 rfl ?_
        refine V_iadd (pc := 329) dX12_readLine_329 ?_
        refine V_putI (pc := 330) fX12_183 p12_39 sM0 rfl dX12_readLine_330 ?_
        exact V_vret dX12_readLine_333 rfl h
      · have h := h.2 c
        refine V_aload_n (pc := 293) dX12_readLine_293 rfl ?_
        refine V_callVl [] (pc := 294) kX12_word lX12_193 sM0 rfl rfl (Nat.le_of_ble_eq_true rfl) rfl (Nat.le_of_ble_eq_true rfl) dX12_readLine_294 ?_
        refine Cl.mono h ?_
        intro x6 M6 h
        refine V_ldc2 (pc := 297) dX12_readLine_297 nX12_207 ?_
        refine V_lif_ne (tgt := 323) (pc := 300) dX12_readLine_300 dX12_readLine_301 rfl (fun c => ?_) (fun c => ?_)
        · have h := h.1 c
          refine V_aload_n (pc := 323) dX12_readLine_323 rfl ?_
          refine V_dup (pc := 324) dX12_readLine_324 rfl ?_
          refine V_getI (pc := 325) fX12_183 sM0 rfl dX12_readLine_325 ?_
          refine V_iconst (v := 1) (pc := 328) dX12_readLine_328 rfl ?_
          refine V_iadd (pc := 329) dX12_readLine_329 ?_
          refine V_putI (pc := 330) fX12_183 p12_39 sM0 rfl dX12_readLine_330 ?_
          exact V_vret dX12_readLine_333 rfl h
        · have h := h.2 c
          refine V_aload_n (pc := 304) dX12_readLine_304 rfl ?_
          refine V_callVv [] (pc := 305) kX12_step lX12_176 sM0 rfl rfl (Nat.le_of_ble_eq_true rfl) rfl (Nat.le_of_ble_eq_true rfl) dX12_readLine_305 ?_
          refine Cv.mono h ?_
          intro M7 h
          refine V_aload_n (pc := 308) dX12_readLine_308 rfl ?_
          refine V_getR (pc := 309) fX12_44 sM0 rfl dX12_readLine_309 ?_
          refine V_iload_n (pc := 312) dX12_readLine_312 rfl ?_
          refine V_aload_n (pc := 313) dX12_readLine_313 rfl ?_
          refine V_iconst (v := 0) (pc := 314) dX12_readLine_314 rfl ?_
          refine V_bipush (v := 120) (pc := 315) dX12_readLine_315 rfl ?_
          refine V_ldc (pc := 317) dX12_readLine_317 nX12_144 ?_
          refine V_callVi [.int 0, .int 120, .int (-1000000)] (pc := 319) kX12_numberIn lX12_189 sM0 rfl rfl (Nat.le_of_ble_eq_true rfl) rfl (Nat.le_of_ble_eq_true rfl) dX12_readLine_319 ?_
          refine Ci.mono h ?_
          intro x8 M8 h
          refine V_iast (pc := 322) sM12 dX12_readLine_322 h.1 ?_
          have h := h.2
          refine V_aload_n (pc := 323) dX12_readLine_323 rfl ?_
          refine V_dup (pc := 324) dX12_readLine_324 rfl ?_
          refine V_getI (pc := 325) fX12_183 sM0 rfl dX12_readLine_325 ?_
          refine V_top (v := (M8.1 0 39)) (by simp [mset, lset, upd]) ?_
          refine V_iconst (v := 1) (pc := 328) dX12_readLine_328 rfl ?_
          refine V_iadd (pc := 329) dX12_readLine_329 ?_
          refine V_putI (pc := 330) fX12_183 p12_39 sM0 rfl dX12_readLine_330 ?_
          exact V_vret dX12_readLine_333 rfl h
  · have h := h.2 c
    refine V_aload_n (pc := 215) dX12_readLine_215 rfl ?_
    refine V_getI (pc := 216) fX12_154 sM0 rfl dX12_readLine_216 ?_
    refine V_iconst (v := 2) (pc := 219) dX12_readLine_219 rfl ?_
    refine V_icmp_ne (tgt := 261) (pc := 220) dX12_readLine_220 rfl (fun c => ?_) (fun c => ?_)
    · have h := h.1 c
      refine V_aload_n (pc := 261) dX12_readLine_261 rfl ?_
      refine V_aload_n (pc := 262) dX12_readLine_262 rfl ?_
      refine V_getI (pc := 263) fX12_154 sM0 rfl dX12_readLine_263 ?_
      refine V_iconst (v := 2) (pc := 266) dX12_readLine_266 rfl ?_
      refine V_icmp_ne (tgt := 274) (pc := 267) dX12_readLine_267 rfl (fun c => ?_) (fun c => ?_)
      · have h := h.1 c
        refine V_iconst (v := 0) (pc := 274) dX12_readLine_274 rfl ?_
        refine V_callVv [.int 0] (pc := 275) kX12_need lX12_179 sM0 rfl rfl (Nat.le_of_ble_eq_true rfl) rfl (Nat.le_of_ble_eq_true rfl) dX12_readLine_275 ?_
        refine Cv.mono h ?_
        intro M9 h
        refine V_aload_n (pc := 278) dX12_readLine_278 rfl ?_
        refine V_getR (pc := 279) fX12_44 sM0 rfl dX12_readLine_279 ?_
        refine V_iload_n (pc := 282) dX12_readLine_282 rfl ?_
        refine V_ldc (pc := 283) dX12_readLine_283 nX12_144 ?_
        refine V_iast (pc := 285) sM12 dX12_readLine_285 h.1 ?_
        have h := h.2
        refine V_aload_n (pc := 286) dX12_readLine_286 rfl ?_
        refine V_getI (pc := 287) fX12_166 sM0 rfl dX12_readLine_287 ?_
        refine V_top (v := (M9.1 0 36)) (by simp [mset, lset, upd]) ?_
        refine V_if_ne (tgt := 323) (pc := 290) dX12_readLine_290 rfl (fun c => ?_) (fun c => ?_)
        · have h := h.1 c
          refine V_aload_n (pc := 323) dX12_readLine_323 rfl ?_
          refine V_dup (pc := 324) dX12_readLine_324 rfl ?_
          refine V_getI (pc := 325) fX12_183 sM0 rfl dX12_readLine_325 ?_
          refine V_top (v := (M9.1 0 39)) (by simp [mset, lset, upd]) ?_
          refine V_iconst (v := 1) (pc := 328) dX12_readLine_328 rfl ?_
          refine V_iadd (pc := 329) dX12_readLine_329 ?_
          refine V_putI (pc := 330) fX12_183 p12_39 sM0 rfl dX12_readLine_330 ?_
          exact V_vret dX12_readLine_333 rfl h
        · have h := h.2 c
          refine V_aload_n (pc := 293) dX12_readLine_293 rfl ?_
          refine V_callVl [] (pc := 294) kX12_word lX12_193 sM0 rfl rfl (Nat.le_of_ble_eq_true rfl) rfl (Nat.le_of_ble_eq_true rfl) dX12_readLine_294 ?_
          refine Cl.mono h ?_
          intro x10 M10 h
          refine V_ldc2 (pc := 297) dX12_readLine_297 nX12_207 ?_
          refine V_lif_ne (tgt := 323) (pc := 300) dX12_readLine_300 dX12_readLine_301 rfl (fun c => ?_) (fun c => ?_)
          · have h := h.1 c
            refine V_aload_n (pc := 323) dX12_readLine_323 rfl ?_
            refine V_dup (pc := 324) dX12_readLine_324 rfl ?_
            refine V_getI (pc := 325) fX12_183 sM0 rfl dX12_readLine_325 ?_
            refine V_iconst (v := 1) (pc := 328) dX12_readLine_328 rfl ?_
            refine V_iadd (pc := 329) dX12_readLine_329 ?_
            refine V_putI (pc := 330) fX12_183 p12_39 sM0 rfl dX12_readLine_330 ?_
            exact V_vret dX12_readLine_333 rfl h
          · have h := h.2 c
            refine V_aload_n (pc := 304) dX12_readLine_304 rfl ?_
            refine V_callVv [] (pc := 305) kX12_step lX12_176 sM0 rfl rfl (Nat.le_of_ble_eq_true rfl) rfl (Nat.le_of_ble_eq_true rfl) dX12_readLine_305 ?_
            refine Cv.mono h ?_
            intro M11 h
            refine V_aload_n (pc := 308) dX12_readLine_308 rfl ?_
            refine V_getR (pc := 309) fX12_44 sM0 rfl dX12_readLine_309 ?_
            refine V_iload_n (pc := 312) dX12_readLine_312 rfl ?_
            refine V_aload_n (pc := 313) dX12_readLine_313 rfl ?_
            refine V_iconst (v := 0) (pc := 314) dX12_readLine_314 rfl ?_
            refine V_bipush (v := 120) (pc := 315) dX12_readLine_315 rfl ?_
            refine V_ldc (pc := 317) dX12_readLine_317 nX12_144 ?_
            refine V_callVi [.int 0, .int 120, .int (-1000000)] (pc := 319) kX12_numberIn lX12_189 sM0 rfl rfl (Nat.le_of_ble_eq_true rfl) rfl (Nat.le_of_ble_eq_true rfl) dX12_readLine_319 ?_
            refine Ci.mono h ?_
            intro x12 M12 h
            refine V_iast (pc := 322) sM12 dX12_readLine_322 h.1 ?_
            have h := h.2
            refine V_aload_n (pc := 323) dX12_readLine_323 rfl ?_
            refine V_dup (pc := 324) dX12_readLine_324 rfl ?_
            refine V_getI (pc := 325) fX12_183 sM0 rfl dX12_readLine_325 ?_
            refine V_top (v := (M12.1 0 39)) (by simp [mset, lset, upd]) ?_
            refine V_iconst (v := 1) (pc := 328) dX12_readLine_328 rfl ?_
            refine V_iadd (pc := 329) dX12_readLine_329 ?_
            refine V_putI (pc := 330) fX12_183 p12_39 sM0 rfl dX12_readLine_330 ?_
            exact V_vret dX12_readLine_333 rfl h
      · have h := h.2 c
        refine V_iconst (v := 1) (pc := 270) dX12_readLine_270 rfl ?_
        refine V_goto (tgt := 275) (pc := 271) dX12_readLine_271 rfl ?_
        refine V_callVv [.int 1] (pc := 275) kX12_need lX12_179 sM0 rfl rfl (Nat.le_of_ble_eq_true rfl) rfl (Nat.le_of_ble_eq_true rfl) dX12_readLine_275 ?_
        refine Cv.mono h ?_
        intro M13 h
        refine V_aload_n (pc := 278) dX12_readLine_278 rfl ?_
        refine V_getR (pc := 279) fX12_44 sM0 rfl dX12_readLine_279 ?_
        refine V_iload_n (pc := 282) dX12_readLine_282 rfl ?_
        refine V_ldc (pc := 283) dX12_readLine_283 nX12_144 ?_
        refine V_iast (pc := 285) sM12 dX12_readLine_285 h.1 ?_
        have h := h.2
        refine V_aload_n (pc := 286) dX12_readLine_286 rfl ?_
        refine V_getI (pc := 287) fX12_166 sM0 rfl dX12_readLine_287 ?_
        refine V_top (v := (M13.1 0 36)) (by simp [mset, lset, upd]) ?_
        refine V_if_ne (tgt := 323) (pc := 290) dX12_readLine_290 rfl (fun c => ?_) (fun c => ?_)
        · have h := h.1 c
          refine V_aload_n (pc := 323) dX12_readLine_323 rfl ?_
          refine V_dup (pc := 324) dX12_readLine_324 rfl ?_
          refine V_getI (pc := 325) fX12_183 sM0 rfl dX12_readLine_325 ?_
          refine V_top (v := (M13.1 0 39)) (by simp [mset, lset, upd]) ?_
          refine V_iconst (v := 1) (pc := 328) dX12_readLine_328 rfl ?_
          refine V_iadd (pc := 329) dX12_readLine_329 ?_
          refine V_putI (pc := 330) fX12_183 p12_39 sM0 rfl dX12_readLine_330 ?_
          exact V_vret dX12_readLine_333 rfl h
        · have h := h.2 c
          refine V_aload_n (pc := 293) dX12_readLine_293 rfl ?_
          refine V_callVl [] (pc := 294) kX12_word lX12_193 sM0 rfl rfl (Nat.le_of_ble_eq_true rfl) rfl (Nat.le_of_ble_eq_true rfl) dX12_readLine_294 ?_
          refine Cl.mono h ?_
          intro x14 M14 h
          refine V_ldc2 (pc := 297) dX12_readLine_297 nX12_207 ?_
          refine V_lif_ne (tgt := 323) (pc := 300) dX12_readLine_300 dX12_readLine_301 rfl (fun c => ?_) (fun c => ?_)
          · have h := h.1 c
            refine V_aload_n (pc := 323) dX12_readLine_323 rfl ?_
            refine V_dup (pc := 324) dX12_readLine_324 rfl ?_
            refine V_getI (pc := 325) fX12_183 sM0 rfl dX12_readLine_325 ?_
            refine V_iconst (v := 1) (pc := 328) dX12_readLine_328 rfl ?_
            refine V_iadd (pc := 329) dX12_readLine_329 ?_
            refine V_putI (pc := 330) fX12_183 p12_39 sM0 rfl dX12_readLine_330 ?_
            exact V_vret dX12_readLine_333 rfl h
          · have h := h.2 c
            refine V_aload_n (pc := 304) dX12_readLine_304 rfl ?_
            refine V_callVv [] (pc := 305) kX12_step lX12_176 sM0 rfl rfl (Nat.le_of_ble_eq_true rfl) rfl (Nat.le_of_ble_eq_true rfl) dX12_readLine_305 ?_
            refine Cv.mono h ?_
            intro M15 h
            refine V_aload_n (pc := 308) dX12_readLine_308 rfl ?_
            refine V_getR (pc := 309) fX12_44 sM0 rfl dX12_readLine_309 ?_
            refine V_iload_n (pc := 312) dX12_readLine_312 rfl ?_
            refine V_aload_n (pc := 313) dX12_readLine_313 rfl ?_
            refine V_iconst (v := 0) (pc := 314) dX12_readLine_314 rfl ?_
            refine V_bipush (v := 120) (pc := 315) dX12_readLine_315 rfl ?_
            refine V_ldc (pc := 317) dX12_readLine_317 nX12_144 ?_
            refine V_callVi [.int 0, .int 120, .int (-1000000)] (pc := 319) kX12_numberIn lX12_189 sM0 rfl rfl (Nat.le_of_ble_eq_true rfl) rfl (Nat.le_of_ble_eq_true rfl) dX12_readLine_319 ?_
            refine Ci.mono h ?_
            intro x16 M16 h
            refine V_iast (pc := 322) sM12 dX12_readLine_322 h.1 ?_
            have h := h.2
            refine V_aload_n (pc := 323) dX12_readLine_323 rfl ?_
            refine V_dup (pc := 324) dX12_readLine_324 rfl ?_
            refine V_getI (pc := 325) fX12_183 sM0 rfl dX12_readLine_325 ?_
            refine V_top (v := (M16.1 0 39)) (by simp [mset, lset, upd]) ?_
            refine V_iconst (v := 1) (pc := 328) dX12_readLine_328 rfl ?_
            refine V_iadd (pc := 329) dX12_readLine_329 ?_
            refine V_putI (pc := 330) fX12_183 p12_39 sM0 rfl dX12_readLine_330 ?_
            exact V_vret dX12_readLine_333 rfl h
    · have h := h.2 c
      refine V_aload_n (pc := 223) dX12_readLine_223 rfl ?_
      refine V_getI (pc := 224) fX12_166 sM0 rfl dX12_readLine_224 ?_
      refine V_if_ne (tgt := 261) (pc := 227) dX12_readLine_227 rfl (fun c => ?_) (fun c => ?_)
      · have h := h.1 c
        refine V_aload_n (pc := 261) dX12_readLine_261 rfl ?_
        refine V_aload_n (pc := 262) dX12_readLine_262 rfl ?_
        refine V_getI (pc := 263) fX12_154 sM0 rfl dX12_readLine_263 ?_
        refine V_iconst (v := 2) (pc := 266) dX12_readLine_266 rfl ?_
        refine V_icmp_ne (tgt := 274) (pc := 267) dX12_readLine_267 rfl (fun c => ?_) (fun c => ?_)
        · have h := h.1 c
          refine V_iconst (v := 0) (pc := 274) dX12_readLine_274 rfl ?_
          refine V_callVv [.int 0] (pc := 275) kX12_need lX12_179 sM0 rfl rfl (Nat.le_of_ble_eq_true rfl) rfl (Nat.le_of_ble_eq_true rfl) dX12_readLine_275 ?_
          refine Cv.mono h ?_
          intro M17 h
          refine V_aload_n (pc := 278) dX12_readLine_278 rfl ?_
          refine V_getR (pc := 279) fX12_44 sM0 rfl dX12_readLine_279 ?_
          refine V_iload_n (pc := 282) dX12_readLine_282 rfl ?_
          refine V_ldc (pc := 283) dX12_readLine_283 nX12_144 ?_
          refine V_iast (pc := 285) sM12 dX12_readLine_285 h.1 ?_
          have h := h.2
          refine V_aload_n (pc := 286) dX12_readLine_286 rfl ?_
          refine V_getI (pc := 287) fX12_166 sM0 rfl dX12_readLine_287 ?_
          refine V_top (v := (M17.1 0 36)) (by simp [mset, lset, upd]) ?_
          refine V_if_ne (tgt := 323) (pc := 290) dX12_readLine_290 rfl (fun c => ?_) (fun c => ?_)
          · have h := h.1 c
            refine V_aload_n (pc := 323) dX12_readLine_323 rfl ?_
            refine V_dup (pc := 324) dX12_readLine_324 rfl ?_
            refine V_getI (pc := 325) fX12_183 sM0 rfl dX12_readLine_325 ?_
            refine V_top (v := (M17.1 0 39)) (by simp [mset, lset, upd]) ?_
            refine V_iconst (v := 1) (pc := 328) dX12_readLine_328 rfl ?_
            refine V_iadd (pc := 329) dX12_readLine_329 ?_
            refine V_putI (pc := 330) fX12_183 p12_39 sM0 rfl dX12_readLine_330 ?_
            exact V_vret dX12_readLine_333 rfl h
          · have h := h.2 c
            refine V_aload_n (pc := 293) dX12_readLine_293 rfl ?_
            refine V_callVl [] (pc := 294) kX12_word lX12_193 sM0 rfl rfl (Nat.le_of_ble_eq_true rfl) rfl (Nat.le_of_ble_eq_true rfl) dX12_readLine_294 ?_
            refine Cl.mono h ?_
            intro x18 M18 h
            refine V_ldc2 (pc := 297) dX12_readLine_297 nX12_207 ?_
            refine V_lif_ne (tgt := 323) (pc := 300) dX12_readLine_300 dX12_readLine_301 rfl (fun c => ?_) (fun c => ?_)
            · have h := h.1 c
              refine V_aload_n (pc := 323) dX12_readLine_323 rfl ?_
              refine V_dup (pc := 324) dX12_readLine_324 rfl ?_
              refine V_getI (pc := 325) fX12_183 sM0 rfl dX12_readLine_325 ?_
              refine V_iconst (v := 1) (pc := 328) dX12_readLine_328 rfl ?_
              refine V_iadd (pc := 329) dX12_readLine_329 ?_
              refine V_putI (pc := 330) fX12_183 p12_39 sM0 rfl dX12_readLine_330 ?_
              exact V_vret dX12_readLine_333 rfl h
            · have h := h.2 c
              refine V_aload_n (pc := 304) dX12_readLine_304 rfl ?_
              refine V_callVv [] (pc := 305) kX12_step lX12_176 sM0 rfl rfl (Nat.le_of_ble_eq_true rfl) rfl (Nat.le_of_ble_eq_true rfl) dX12_readLine_305 ?_
              refine Cv.mono h ?_
              intro M19 h
              refine V_aload_n (pc := 308) dX12_readLine_308 rfl ?_
              refine V_getR (pc := 309) fX12_44 sM0 rfl dX12_readLine_309 ?_
              refine V_iload_n (pc := 312) dX12_readLine_312 rfl ?_
              refine V_aload_n (pc := 313) dX12_readLine_313 rfl ?_
              refine V_iconst (v := 0) (pc := 314) dX12_readLine_314 rfl ?_
              refine V_bipush (v := 120) (pc := 315) dX12_readLine_315 rfl ?_
              refine V_ldc (pc := 317) dX12_readLine_317 nX12_144 ?_
              refine V_callVi [.int 0, .int 120, .int (-1000000)] (pc := 319) kX12_numberIn lX12_189 sM0 rfl rfl (Nat.le_of_ble_eq_true rfl) rfl (Nat.le_of_ble_eq_true rfl) dX12_readLine_319 ?_
              refine Ci.mono h ?_
              intro x20 M20 h
              refine V_iast (pc := 322) sM12 dX12_readLine_322 h.1 ?_
              have h := h.2
              refine V_aload_n (pc := 323) dX12_readLine_323 rfl ?_
              refine V_dup (pc := 324) dX12_readLine_324 rfl ?_
              refine V_getI (pc := 325) fX12_183 sM0 rfl dX12_readLine_325 ?_
              refine V_top (v := (M20.1 0 39)) (by simp [mset, lset, upd]) ?_
              refine V_iconst (v := 1) (pc := 328) dX12_readLine_328 rfl ?_
              refine V_iadd (pc := 329) dX12_readLine_329 ?_
              refine V_putI (pc := 330) fX12_183 p12_39 sM0 rfl dX12_readLine_330 ?_
              exact V_vret dX12_readLine_333 rfl h
        · have h := h.2 c
          refine V_iconst (v := 1) (pc := 270) dX12_readLine_270 rfl ?_
          refine V_goto (tgt := 275) (pc := 271) dX12_readLine_271 rfl ?_
          refine V_callVv [.int 1] (pc := 275) kX12_need lX12_179 sM0 rfl rfl (Nat.le_of_ble_eq_true rfl) rfl (Nat.le_of_ble_eq_true rfl) dX12_readLine_275 ?_
          refine Cv.mono h ?_
          intro M21 h
          refine V_aload_n (pc := 278) dX12_readLine_278 rfl ?_
          refine V_getR (pc := 279) fX12_44 sM0 rfl dX12_readLine_279 ?_
          refine V_iload_n (pc := 282) dX12_readLine_282 rfl ?_
          refine V_ldc (pc := 283) dX12_readLine_283 nX12_144 ?_
          refine V_iast (pc := 285) sM12 dX12_readLine_285 h.1 ?_
          have h := h.2
          refine V_aload_n (pc := 286) dX12_readLine_286 rfl ?_
          refine V_getI (pc := 287) fX12_166 sM0 rfl dX12_readLine_287 ?_
          refine V_top (v := (M21.1 0 36)) (by simp [mset, lset, upd]) ?_
          refine V_if_ne (tgt := 323) (pc := 290) dX12_readLine_290 rfl (fun c => ?_) (fun c => ?_)
          · have h := h.1 c
            refine V_aload_n (pc := 323) dX12_readLine_323 rfl ?_
            refine V_dup (pc := 324) dX12_readLine_324 rfl ?_
            refine V_getI (pc := 325) fX12_183 sM0 rfl dX12_readLine_325 ?_
            refine V_top (v := (M21.1 0 39)) (by simp [mset, lset, upd]) ?_
            refine V_iconst (v := 1) (pc := 328) dX12_readLine_328 rfl ?_
            refine V_iadd (pc := 329) dX12_readLine_329 ?_
            refine V_putI (pc := 330) fX12_183 p12_39 sM0 rfl dX12_readLine_330 ?_
            exact V_vret dX12_readLine_333 rfl h
          · have h := h.2 c
            refine V_aload_n (pc := 293) dX12_readLine_293 rfl ?_
            refine V_callVl [] (pc := 294) kX12_word lX12_193 sM0 rfl rfl (Nat.le_of_ble_eq_true rfl) rfl (Nat.le_of_ble_eq_true rfl) dX12_readLine_294 ?_
            refine Cl.mono h ?_
            intro x22 M22 h
            refine V_ldc2 (pc := 297) dX12_readLine_297 nX12_207 ?_
            refine V_lif_ne (tgt := 323) (pc := 300) dX12_readLine_300 dX12_readLine_301 rfl (fun c => ?_) (fun c => ?_)
            · have h := h.1 c
              refine V_aload_n (pc := 323) dX12_readLine_323 rfl ?_
              refine V_dup (pc := 324) dX12_readLine_324 rfl ?_
              refine V_getI (pc := 325) fX12_183 sM0 rfl dX12_readLine_325 ?_
              refine V_iconst (v := 1) (pc := 328) dX12_readLine_328 rfl ?_
              refine V_iadd (pc := 329) dX12_readLine_329 ?_
              refine V_putI (pc := 330) fX12_183 p12_39 sM0 rfl dX12_readLine_330 ?_
              exact V_vret dX12_readLine_333 rfl h
            · have h := h.2 c
              refine V_aload_n (pc := 304) dX12_readLine_304 rfl ?_
              refine V_callVv [] (pc := 305) kX12_step lX12_176 sM0 rfl rfl (Nat.le_of_ble_eq_true rfl) rfl (Nat.le_of_ble_eq_true rfl) dX12_readLine_305 ?_
              refine Cv.mono h ?_
              intro M23 h
              refine V_aload_n (pc := 308) dX12_readLine_308 rfl ?_
              refine V_getR (pc := 309) fX12_44 sM0 rfl dX12_readLine_309 ?_
              refine V_iload_n (pc := 312) dX12_readLine_312 rfl ?_
              refine V_aload_n (pc := 313) dX12_readLine_313 rfl ?_
              refine V_iconst (v := 0) (pc := 314) dX12_readLine_314 rfl ?_
              refine V_bipush (v := 120) (pc := 315) dX12_readLine_315 rfl ?_
              refine V_ldc (pc := 317) dX12_readLine_317 nX12_144 ?_
              refine V_callVi [.int 0, .int 120, .int (-1000000)] (pc := 319) kX12_numberIn lX12_189 sM0 rfl rfl (Nat.le_of_ble_eq_true rfl) rfl (Nat.le_of_ble_eq_true rfl) dX12_readLine_319 ?_
              refine Ci.mono h ?_
              intro x24 M24 h
              refine V_iast (pc := 322) sM12 dX12_readLine_322 h.1 ?_
              have h := h.2
              refine V_aload_n (pc := 323) dX12_readLine_323 rfl ?_
              refine V_dup (pc := 324) dX12_readLine_324 rfl ?_
              refine V_getI (pc := 325) fX12_183 sM0 rfl dX12_readLine_325 ?_
              refine V_top (v := (M24.1 0 39)) (by simp [mset, lset, upd]) ?_
              refine V_iconst (v := 1) (pc := 328) dX12_readLine_328 rfl ?_
              refine V_iadd (pc := 329) dX12_readLine_329 ?_
              refine V_putI (pc := 330) fX12_183 p12_39 sM0 rfl dX12_readLine_330 ?_
              exact V_vret dX12_readLine_333 rfl h
      · have h := h.2 c
        refine V_aload_n (pc := 230) dX12_readLine_230 rfl ?_
        refine V_getR (pc := 231) fX12_50 sM0 rfl dX12_readLine_231 ?_
        refine V_bipush (v := 8) (pc := 234) dX12_readLine_234 rfl ?_
        refine V_iload_n (pc := 236) dX12_readLine_236 rfl ?_
        refine V_imul (pc := 237) dX12_readLine_237 ?_
        refine V_iload_n (pc := 238) dX12_readLine_238 rfl ?_
        refine V_iadd (pc := 239) dX12_readLine_239 ?_
        refine V_aload_n (pc := 240) dX12_readLine_240 rfl ?_
        refine V_getI (pc := 241) fX12_151 sM0 rfl dX12_readLine_241 ?_
        refine V_isub (pc := 244) dX12_readLine_244 ?_
        refine V_aload_n (pc := 245) dX12_readLine_245 rfl ?_
        refine V_getR (pc := 246) fX12_77 sM0 rfl dX12_readLine_246 ?_
        refine V_iload_n (pc := 249) dX12_readLine_249 rfl ?_
        refine V_iald (pc := 250) sM23 dX12_readLine_250 h.1 ?_
        have h := h.2
        refine V_bipush (v := 97) (pc := 251) dX12_readLine_251 rfl ?_
        refine V_isub (pc := 253) dX12_readLine_253 ?_
        refine V_iast (pc := 254) sM14 dX12_readLine_254 h.1 ?_
        have h := h.2
        refine V_iinc (pc := 255) dX12_readLine_255 rfl (by decide) ?_
        refine V_goto (tgt := 207) (pc := 258) dX12_readLine_258 rfl ?_
        exact V_sub h ⟨rfl, rfl, rfl, trivial⟩
theorem wp_X12_joined {G : GV} {k : Nat} {M : Mem} {q : Int64 → Mem → Prop} {v1 : Int32} (h : Ci shM G mX12_in (k + 4) [.long (Int32.toInt64 v1), .long 0, .long 2] (mset M 0 0 0) (fun x1 M1 => ((x1 ≠ 0 → Cv shM G mX12_partAll (k + 4) [.ref (G.2.1 0), .int 0, .int 0] M1 (fun M2 => ((2 ≤ v1 → V shM G mX12_joined (k + 5) 63 [(0, .ref (G.2.1 0)), (1, .int v1), (2, .int 0), (3, .int 0)] [] M2 (Ql q)) ∧ (¬ 2 ≤ v1 → ((v1 ≠ 0 → Ci shM G mX12_all (k + 4) [.ref (G.2.1 0)] M2 (fun x3 M3 => vp_in x3 4096 ∧ q (M3.2 28 (ix x3)) M3)) ∧ (v1 = 0 → Ci shM G mX12_all (k + 4) [.ref (G.2.1 0)] M2 (fun x4 M4 => vp_in x4 4096 ∧ q (Int32.toInt64 (M4.1 27 (ix x4))) M4))))))) ∧ (x1 = 0 → q (-1000001) M1)))) : Cl shM G mX12_joined (k + 5) [.ref (G.2.1 0), .int v1] M q := by
  unfold Cl
  show V _ _ _ _ _ [(0, .ref (G.2.1 0)), (1, .int v1)] _ _ _
  refine V_aload_n (pc := 0) dX12_joined_0 rfl ?_
  refine V_iconst (v := 0) (pc := 1) dX12_joined_1 rfl ?_
  refine V_putI (pc := 2) fX12_108 p12_0 sM0 rfl dX12_joined_2 ?_
  refine V_iload_n (pc := 5) dX12_joined_5 rfl ?_
  refine V_i2l (pc := 6) dX12_joined_6 ?_
  refine V_lconst (v := 0) (pc := 7) dX12_joined_7 rfl ?_
  refine V_ldc2 (pc := 8) dX12_joined_8 nX12_126 ?_
  refine V_callSi [.long (Int32.toInt64 v1), .long 0, .long 2] (pc := 11) kX12_in lX12_118 rfl (Nat.le_of_ble_eq_true rfl) rfl (Nat.le_of_ble_eq_true rfl) dX12_joined_11 ?_
  refine Ci.mono h ?_
  intro x1 M1 h
  refine V_if_ne (tgt := 21) (pc := 14) dX12_joined_14 rfl (fun c => ?_) (fun c => ?_)
  · have h := h.1 c
    refine V_aload_n (pc := 21) dX12_joined_21 rfl ?_
    refine V_iconst (v := 0) (pc := 22) dX12_joined_22 rfl ?_
    refine V_iconst (v := 0) (pc := 23) dX12_joined_23 rfl ?_
    refine V_callVv [.int 0, .int 0] (pc := 24) kX12_partAll lX12_310 sM0 rfl rfl (Nat.le_of_ble_eq_true rfl) rfl (Nat.le_of_ble_eq_true rfl) dX12_joined_24 ?_
    refine Cv.mono h ?_
    intro M2 h
    refine V_iload_n (pc := 27) dX12_joined_27 rfl ?_
    refine V_iconst (v := 2) (pc := 28) dX12_joined_28 rfl ?_
    refine V_icmp_ge (tgt := 59) (pc := 29) dX12_joined_29 rfl (fun c => ?_) (fun c => ?_)
    · have h := h.1 c
      refine V_iconst (v := 0) (pc := 59) dX12_joined_59 rfl ?_
      refine V_istore_n (pc := 60) dX12_joined_60 (by decide) ?_
      refine V_iconst (v := 0) (pc := 61) dX12_joined_61 rfl ?_
      refine V_istore_n (pc := 62) dX12_joined_62 (by decide) ?_
      exact V_sub h ⟨rfl, rfl, rfl, rfl, trivial⟩
    · have h := h.2 c
      refine V_iload_n (pc := 32) dX12_joined_32 rfl ?_
      refine V_if_ne (tgt := 49) (pc := 33) dX12_joined_33 rfl (fun c => ?_) (fun c => ?_)
      · have h := h.1 c
        refine V_aload_n (pc := 49) dX12_joined_49 rfl ?_
        refine V_getR (pc := 50) fX12_92 sM0 rfl dX12_joined_50 ?_
        refine V_aload_n (pc := 53) dX12_joined_53 rfl ?_
        refine V_callVi [] (pc := 54) kX12_all lX12_304 sM0 rfl rfl (Nat.le_of_ble_eq_true rfl) rfl (Nat.le_of_ble_eq_true rfl) dX12_joined_54 ?_
        refine Ci.mono h ?_
        intro x3 M3 h
        refine V_lald (pc := 57) sM28 dX12_joined_57 h.1 ?_
        have h := h.2
        exact V_lret dX12_joined_58 rfl h
      · have h := h.2 c
        refine V_aload_n (pc := 36) dX12_joined_36 rfl ?_
        refine V_getR (pc := 37) fX12_89 sM0 rfl dX12_joined_37 ?_
        refine V_aload_n (pc := 40) dX12_joined_40 rfl ?_
        refine V_callVi [] (pc := 41) kX12_all lX12_304 sM0 rfl rfl (Nat.le_of_ble_eq_true rfl) rfl (Nat.le_of_ble_eq_true rfl) dX12_joined_41 ?_
        refine Ci.mono h ?_
        intro x4 M4 h
        refine V_iald (pc := 44) sM27 dX12_joined_44 h.1 ?_
        have h := h.2
        refine V_i2l (pc := 45) dX12_joined_45 ?_
        refine V_goto (tgt := 58) (pc := 46) dX12_joined_46 rfl ?_
        exact V_lret dX12_joined_58 rfl h
  · have h := h.2 c
    refine V_ldc2 (pc := 17) dX12_joined_17 nX12_308 ?_
    exact V_lret dX12_joined_20 rfl h
theorem wp_X12_joined_63 {G : GV} {k : Nat} {M : Mem} {q : Int64 → Mem → Prop} {v1 : Int32} {v2 : Int32} {v3 : Int32} (h : (((M.1 0 10) ≤ v3 → q (Int32.toInt64 v2) M) ∧ (¬ (M.1 0 10) ≤ v3 → Ci shM G mX12_personOf (k + 4) [.ref (G.2.1 0), .int v3] M (fun x1 M1 => Ci shM G mX12_bits (k + 4) [.int x1] M1 (fun x2 M2 => ((x2 ≤ v2 → V shM G mX12_joined (k + 5) 63 [(0, .ref (G.2.1 0)), (1, .int v1), (2, .int v2), (3, .int (v3 + 1))] [] M2 (Ql q)) ∧ (¬ x2 ≤ v2 → V shM G mX12_joined (k + 5) 63 [(0, .ref (G.2.1 0)), (1, .int v1), (2, .int x2), (3, .int (v3 + 1))] [] M2 (Ql q)))))))) : V shM G mX12_joined (k + 5) 63 [(0, .ref (G.2.1 0)), (1, .int v1), (2, .int v2), (3, .int v3)] [] M (Ql q) := by
  refine V_iload_n (pc := 63) dX12_joined_63 rfl ?_
  refine V_aload_n (pc := 64) dX12_joined_64 rfl ?_
  refine V_getI (pc := 65) fX12_227 sM0 rfl dX12_joined_65 ?_
  refine V_icmp_ge (tgt := 100) (pc := 68) dX12_joined_68 rfl (fun c => ?_) (fun c => ?_)
  · have h := h.1 c
    refine V_iload_n (pc := 100) dX12_joined_100 rfl ?_
    refine V_i2l (pc := 101) dX12_joined_101 ?_
    exact V_lret dX12_joined_102 rfl h
  · have h := h.2 c
    refine V_aload_n (pc := 71) dX12_joined_71 rfl ?_
    refine V_iload_n (pc := 72) dX12_joined_72 rfl ?_
    refine V_callVi [.int v3] (pc := 73) kX12_personOf lX12_314 sM0 rfl rfl (Nat.le_of_ble_eq_true rfl) rfl (Nat.le_of_ble_eq_true rfl) dX12_joined_73 ?_
    refine Ci.mono h ?_
    intro x1 M1 h
    refine V_callSi [.int x1] (pc := 76) kX12_bits lX12_317 rfl (Nat.le_of_ble_eq_true rfl) rfl (Nat.le_of_ble_eq_true rfl) dX12_joined_76 ?_
    refine Ci.mono h ?_
    intro x2 M2 h
    refine V_istore (pc := 79) dX12_joined_79 (by decide) ?_
    refine V_iload (pc := 81) dX12_joined_81 rfl ?_
    refine V_iload_n (pc := 83) dX12_joined_83 rfl ?_
    refine V_icmp_le (tgt := 92) (pc := 84) dX12_joined_84 rfl (fun c => ?_) (fun c => ?_)
    · have h := h.1 c
      refine V_iload_n (pc := 92) dX12_joined_92 rfl ?_
      refine V_istore_n (pc := 93) dX12_joined_93 (by decide) ?_
      refine V_iinc (pc := 94) dX12_joined_94 rfl (by decide) ?_
      refine V_goto (tgt := 63) (pc := 97) dX12_joined_97 rfl ?_
      exact V_sub h ⟨rfl, rfl, rfl, rfl, trivial⟩
    · have h := h.2 c
      refine V_iload (pc := 87) dX12_joined_87 rfl ?_
      refine V_goto (tgt := 93) (pc := 89) dX12_joined_89 rfl ?_
      refine V_istore_n (pc := 93) dX12_joined_93 (by decide) ?_
      refine V_iinc (pc := 94) dX12_joined_94 rfl (by decide) ?_
      refine V_goto (tgt := 63) (pc := 97) dX12_joined_97 rfl ?_
      exact V_sub h ⟨rfl, rfl, rfl, rfl, trivial⟩
theorem wp_X12_person {G : GV} {k : Nat} {M : Mem} {q : Int32 → Mem → Prop} {v1 : Int32} (h : Ci shM G mX12_isLine (k + 4) [.ref (G.2.1 0), .int v1] (mset M 0 0 0) (fun x1 M1 => ((x1 ≠ 0 → Cv shM G mX12_partAll (k + 4) [.ref (G.2.1 0), .int 0, .int 0] M1 (fun M2 => Ci shM G mX12_personOf (k + 4) [.ref (G.2.1 0), .int v1] M2 (fun x3 M3 => q x3 M3))) ∧ (x1 = 0 → q (-1000001) M1)))) : Ci shM G mX12_person (k + 5) [.ref (G.2.1 0), .int v1] M q := by
  unfold Ci
  show V _ _ _ _ _ [(0, .ref (G.2.1 0)), (1, .int v1)] _ _ _
  refine V_aload_n (pc := 0) dX12_person_0 rfl ?_
  refine V_iconst (v := 0) (pc := 1) dX12_person_1 rfl ?_
  refine V_putI (pc := 2) fX12_108 p12_0 sM0 rfl dX12_person_2 ?_
  refine V_aload_n (pc := 5) dX12_person_5 rfl ?_
  refine V_iload_n (pc := 6) dX12_person_6 rfl ?_
  refine V_callVi [.int v1] (pc := 7) kX12_isLine lX12_255 sM0 rfl rfl (Nat.le_of_ble_eq_true rfl) rfl (Nat.le_of_ble_eq_true rfl) dX12_person_7 ?_
  refine Ci.mono h ?_
  intro x1 M1 h
  refine V_if_ne (tgt := 16) (pc := 10) dX12_person_10 rfl (fun c => ?_) (fun c => ?_)
  · have h := h.1 c
    refine V_aload_n (pc := 16) dX12_person_16 rfl ?_
    refine V_iconst (v := 0) (pc := 17) dX12_person_17 rfl ?_
    refine V_iconst (v := 0) (pc := 18) dX12_person_18 rfl ?_
    refine V_callVv [.int 0, .int 0] (pc := 19) kX12_partAll lX12_310 sM0 rfl rfl (Nat.le_of_ble_eq_true rfl) rfl (Nat.le_of_ble_eq_true rfl) dX12_person_19 ?_
    refine Cv.mono h ?_
    intro M2 h
    refine V_aload_n (pc := 22) dX12_person_22 rfl ?_
    refine V_iload_n (pc := 23) dX12_person_23 rfl ?_
    refine V_callVi [.int v1] (pc := 24) kX12_personOf lX12_314 sM0 rfl rfl (Nat.le_of_ble_eq_true rfl) rfl (Nat.le_of_ble_eq_true rfl) dX12_person_24 ?_
    refine Ci.mono h ?_
    intro x3 M3 h
    exact V_iret dX12_person_27 rfl h
  · have h := h.2 c
    refine V_ldc (pc := 13) dX12_person_13 nX12_128 ?_
    exact V_iret dX12_person_15 rfl h
theorem wp_X12_readPart {G : GV} {k : Nat} {M : Mem} {q : Mem → Prop} {v1 : Int64} (h : ((v1 ≠ 1651470187 → ((v1 ≠ 1818848869 → ((v1 ≠ 478660552050 → Ci shM G mX12_numberIn (k + 4) [.ref (G.2.1 0), .int 0, .int 3, .int (-1000000)] M (fun x1 M1 => vp_in (M.1 0 41) 20 ∧ Ci shM G mX12_numberIn (k + 4) [.ref (G.2.1 0), .int 1, .int 99, .int (-1000000)] (mset M1 19 (ix (M.1 0 41)) x1) (fun x2 M2 => vp_in (M1.1 0 41) 20 ∧ Ci shM G mX12_numberIn (k + 4) [.ref (G.2.1 0), .int 1, .int 9998, .int (-1000000)] (mset M2 20 (ix (M1.1 0 41)) x2) (fun x3 M3 => vp_in (M2.1 0 41) 20 ∧ vp_in (M3.1 0 41) 20 ∧ Ci shM G mX12_numberIn (k + 4) [.ref (G.2.1 0), .int (((mset M3 21 (ix (M2.1 0 41)) x3).1 21 (ix (M3.1 0 41))) + 1), .int 9999, .int (-1000000)] (mset M3 21 (ix (M2.1 0 41)) x3) (fun x4 M4 => vp_in (M3.1 0 41) 20 ∧ q (mset (mset M4 22 (ix (M3.1 0 41)) x4) 0 41 ((M4.1 0 41) + 1))))))) ∧ (v1 = 478660552050 → Ci shM G mX12_numberIn (k + 4) [.ref (G.2.1 0), .int 1, .int 9998, .int (-1000000)] M (fun x5 M5 => vp_in (M.1 0 40) 20 ∧ Ci shM G mX12_numberIn (k + 4) [.ref (G.2.1 0), .int 0, .int 3, .int (-1000000)] (mset M5 15 (ix (M.1 0 40)) x5) (fun x6 M6 => vp_in (M5.1 0 40) 20 ∧ Ci shM G mX12_numberIn (k + 4) [.ref (G.2.1 0), .int 1, .int 99, .int (-1000000)] (mset M6 16 (ix (M5.1 0 40)) x6) (fun x7 M7 => vp_in (M6.1 0 40) 20 ∧ vp_in (M7.1 0 40) 20 ∧ Ci shM G mX12_numberIn (k + 4) [.ref (G.2.1 0), .int 1, .int 99, .int ((mset M7 17 (ix (M6.1 0 40)) x7).1 17 (ix (M7.1 0 40)))] (mset M7 17 (ix (M6.1 0 40)) x7) (fun x8 M8 => vp_in (M7.1 0 40) 20 ∧ q (mset (mset M8 18 (ix (M7.1 0 40)) x8) 0 40 ((M8.1 0 40) + 1))))))))) ∧ (v1 = 1818848869 → Cv shM G mX12_readLine (k + 4) [.ref (G.2.1 0)] M (fun M9 => q M9)))) ∧ (v1 = 1651470187 → Ci shM G mX12_numberIn (k + 4) [.ref (G.2.1 0), .int 1, .int 9998, .int (-1000000)] M (fun x10 M10 => vp_in (M.1 0 38) 10 ∧ vp_in (M10.1 0 38) 10 ∧ ((((mset M10 4 (ix (M.1 0 38)) x10).1 4 (ix (M10.1 0 38))) ≤ 9 → vp_in (M10.1 0 38) 10 ∧ Ci shM G mX12_numberIn (k + 4) [.ref (G.2.1 0), .int 0, .int (((mset M10 4 (ix (M.1 0 38)) x10).1 4 (ix (M10.1 0 38))) - 1), .int (-1000000)] (mset M10 4 (ix (M.1 0 38)) x10) (fun x11 M11 => vp_in (M10.1 0 38) 10 ∧ Ci shM G mX12_numberIn (k + 4) [.ref (G.2.1 0), .int 1, .int 99, .int (-1000000)] (mset M11 5 (ix (M10.1 0 38)) x11) (fun x12 M12 => vp_in (M11.1 0 38) 10 ∧ q (mset (mset M12 6 (ix (M11.1 0 38)) x12) 0 38 ((M12.1 0 38) + 1))))) ∧ (¬ ((mset M10 4 (ix (M.1 0 38)) x10).1 4 (ix (M10.1 0 38))) ≤ 9 → Ci shM G mX12_numberIn (k + 4) [.ref (G.2.1 0), .int 0, .int 9, .int (-1000000)] (mset M10 4 (ix (M.1 0 38)) x10) (fun x13 M13 => vp_in (M10.1 0 38) 10 ∧ Ci shM G mX12_numberIn (k + 4) [.ref (G.2.1 0), .int 1, .int 99, .int (-1000000)] (mset M13 5 (ix (M10.1 0 38)) x13) (fun x14 M14 => vp_in (M13.1 0 38) 10 ∧ q (mset (mset M14 6 (ix (M13.1 0 38)) x14) 0 38 ((M14.1 0 38) + 1)))))))))) : Cv shM G mX12_readPart (k + 5) [.ref (G.2.1 0), .long v1] M q := by
  unfold Cv
  show V _ _ _ _ _ [(0, .ref (G.2.1 0)), (1, .long v1)] _ _ _
  refine V_lload_n (pc := 0) dX12_readPart_0 rfl ?_
  refine V_ldc2 (pc := 1) dX12_readPart_1 nX12_209 ?_
  refine V_lif_ne (tgt := 104) (pc := 4) dX12_readPart_4 dX12_readPart_5 rfl (fun c => ?_) (fun c => ?_)
  · have h := h.1 c
    refine V_lload_n (pc := 104) dX12_readPart_104 rfl ?_
    refine V_ldc2 (pc := 105) dX12_readPart_105 nX12_211 ?_
    refine V_lif_ne (tgt := 119) (pc := 108) dX12_readPart_108 dX12_readPart_109 rfl (fun c => ?_) (fun c => ?_)
    · have h := h.1 c
      refine V_lload_n (pc := 119) dX12_readPart_119 rfl ?_
      refine V_ldc2 (pc := 120) dX12_readPart_120 nX12_216 ?_
      refine V_lif_ne (tgt := 219) (pc := 123) dX12_readPart_123 dX12_readPart_124 rfl (fun c => ?_) (fun c => ?_)
      · have h := h.1 c
        refine V_aload_n (pc := 219) dX12_readPart_219 rfl ?_
        refine V_getR (pc := 220) fX12_65 sM0 rfl dX12_readPart_220 ?_
        refine V_aload_n (pc := 223) dX12_readPart_223 rfl ?_
        refine V_getI (pc := 224) fX12_221 sM0 rfl dX12_readPart_224 ?_
        refine V_aload_n (pc := 227) dX12_readPart_227 rfl ?_
        refine V_iconst (v := 0) (pc := 228) dX12_readPart_228 rfl ?_
        refine V_iconst (v := 3) (pc := 229) dX12_readPart_229 rfl ?_
        refine V_ldc (pc := 230) dX12_readPart_230 nX12_144 ?_
        refine V_callVi [.int 0, .int 3, .int (-1000000)] (pc := 232) kX12_numberIn lX12_189 sM0 rfl rfl (Nat.le_of_ble_eq_true rfl) rfl (Nat.le_of_ble_eq_true rfl) dX12_readPart_232 ?_
        refine Ci.mono h ?_
        intro x1 M1 h
        refine V_iast (pc := 235) sM19 dX12_readPart_235 h.1 ?_
        have h := h.2
        refine V_aload_n (pc := 236) dX12_readPart_236 rfl ?_
        refine V_getR (pc := 237) fX12_68 sM0 rfl dX12_readPart_237 ?_
        refine V_aload_n (pc := 240) dX12_readPart_240 rfl ?_
        refine V_getI (pc := 241) fX12_221 sM0 rfl dX12_readPart_241 ?_
        refine V_top (v := (M1.1 0 41)) (by simp [mset, lset, upd]) ?_
        refine V_aload_n (pc := 244) dX12_readPart_244 rfl ?_
        refine V_iconst (v := 1) (pc := 245) dX12_readPart_245 rfl ?_
        refine V_bipush (v := 99) (pc := 246) dX12_readPart_246 rfl ?_
        refine V_ldc (pc := 248) dX12_readPart_248 nX12_144 ?_
        refine V_callVi [.int 1, .int 99, .int (-1000000)] (pc := 250) kX12_numberIn lX12_189 sM0 rfl rfl (Nat.le_of_ble_eq_true rfl) rfl (Nat.le_of_ble_eq_true rfl) dX12_readPart_250 ?_
        refine Ci.mono h ?_
        intro x2 M2 h
        refine V_iast (pc := 253) sM20 dX12_readPart_253 h.1 ?_
        have h := h.2
        refine V_aload_n (pc := 254) dX12_readPart_254 rfl ?_
        refine V_getR (pc := 255) fX12_71 sM0 rfl dX12_readPart_255 ?_
        refine V_aload_n (pc := 258) dX12_readPart_258 rfl ?_
        refine V_getI (pc := 259) fX12_221 sM0 rfl dX12_readPart_259 ?_
        refine V_top (v := (M2.1 0 41)) (by simp [mset, lset, upd]) ?_
        refine V_aload_n (pc := 262) dX12_readPart_262 rfl ?_
        refine V_iconst (v := 1) (pc := 263) dX12_readPart_263 rfl ?_
        refine V_sipush (v := 9998) (pc := 264) dX12_readPart_264 rfl ?_
        refine V_ldc (pc := 267) dX12_readPart_267 nX12_144 ?_
        refine V_callVi [.int 1, .int 9998, .int (-1000000)] (pc := 269) kX12_numberIn lX12_189 sM0 rfl rfl (Nat.le_of_ble_eq_true rfl) rfl (Nat.le_of_ble_eq_true rfl) dX12_readPart_269 ?_
        refine Ci.mono h ?_
        intro x3 M3 h
        refine V_iast (pc := 272) sM21 dX12_readPart_272 h.1 ?_
        have h := h.2
        refine V_aload_n (pc := 273) dX12_readPart_273 rfl ?_
        refine V_getR (pc := 274) fX12_74 sM0 rfl dX12_readPart_274 ?_
        refine V_aload_n (pc := 277) dX12_readPart_277 rfl ?_
        refine V_getI (pc := 278) fX12_221 sM0 rfl dX12_readPart_278 ?_
        refine V_top (v := (M3.1 0 41)) (by simp [mset, lset, upd]) ?_
        refine V_aload_n (pc := 281) dX12_readPart_281 rfl ?_
        refine V_aload_n (pc := 282) dX12_readPart_282 rfl ?_
        refine V_getR (pc := 283) fX12_71 sM0 rfl dX12_readPart_283 ?_
        refine V_aload_n (pc := 286) dX12_readPart_286 rfl ?_
        refine V_getI (pc := 287) fX12_221 sM0 rfl dX12_readPart_287 ?_
        refine V_top (v := (M3.1 0 41)) (by simp [mset, lset, upd]) ?_
        refine V_iald (pc := 290) sM21 dX12_readPart_290 h.1 ?_
        have h := h.2
        refine V_iconst (v := 1) (pc := 291) dX12_readPart_291 rfl ?_
        refine V_iadd (pc := 292) dX12_readPart_292 ?_
        refine V_sipush (v := 9999) (pc := 293) dX12_readPart_293 rfl ?_
        refine V_ldc (pc := 296) dX12_readPart_296 nX12_144 ?_
        refine V_callVi [.int (((mset M3 21 (ix (M2.1 0 41)) x3).1 21 (ix (M3.1 0 41))) + 1), .int 9999, .int (-1000000)] (pc := 298) kX12_numberIn lX12_189 sM0 rfl rfl (Nat.le_of_ble_eq_true rfl) rfl (Nat.le_of_ble_eq_true rfl) dX12_readPart_298 ?_
        refine Ci.mono h ?_
        intro x4 M4 h
        refine V_iast (pc := 301) sM22 dX12_readPart_301 h.1 ?_
        have h := h.2
        refine V_aload_n (pc := 302) dX12_readPart_302 rfl ?_
        refine V_dup (pc := 303) dX12_readPart_303 rfl ?_
        refine V_getI (pc := 304) fX12_221 sM0 rfl dX12_readPart_304 ?_
        refine V_top (v := (M4.1 0 41)) (by simp [mset, lset, upd]) ?_
        refine V_iconst (v := 1) (pc := 307) dX12_readPart_307 rfl ?_
        refine V_iadd (pc := 308) dX12_readPart_308 ?_
        refine V_putI (pc := 309) fX12_221 p12_41 sM0 rfl dX12_readPart_309 ?_
        exact V_vret dX12_readPart_312 rfl h
      · have h := h.2 c
        refine V_aload_n (pc := 127) dX12_readPart_127 rfl ?_
        refine V_getR (pc := 128) fX12_53 sM0 rfl dX12_readPart_128 ?_
        refine V_aload_n (pc := 131) dX12_readPart_131 rfl ?_
        refine V_getI (pc := 132) fX12_218 sM0 rfl dX12_readPart_132 ?_
        refine V_aload_n (pc := 135) dX12_readPart_135 rfl ?_
        refine V_iconst (v := 1) (pc := 136) dX12_readPart_136 rfl ?_
        refine V_sipush (v := 9998) (pc := 137) dX12_readPart_137 rfl ?_
        refine V_ldc (pc := 140) dX12_readPart_140 nX12_144 ?_
        refine V_callVi [.int 1, .int 9998, .int (-1000000)] (pc := 142) kX12_numberIn lX12_189 sM0 rfl rfl (Nat.le_of_ble_eq_true rfl) rfl (Nat.le_of_ble_eq_true rfl) dX12_readPart_142 ?_
        refine Ci.mono h ?_
        intro x5 M5 h
        refine V_iast (pc := 145) sM15 dX12_readPart_145 h.1 ?_
        have h := h.2
        refine V_aload_n (pc := 146) dX12_readPart_146 rfl ?_
        refine V_getR (pc := 147) fX12_56 sM0 rfl dX12_readPart_147 ?_
        refine V_aload_n (pc := 150) dX12_readPart_150 rfl ?_
        refine V_getI (pc := 151) fX12_218 sM0 rfl dX12_readPart_151 ?_
        refine V_top (v := (M5.1 0 40)) (by simp [mset, lset, upd]) ?_
        refine V_aload_n (pc := 154) dX12_readPart_154 rfl ?_
        refine V_iconst (v := 0) (pc := 155) dX12_readPart_155 rfl ?_
        refine V_iconst (v := 3) (pc := 156) dX12_readPart_156 rfl ?_
        refine V_ldc (pc := 157) dX12_readPart_157 nX12_144 ?_
        refine V_callVi [.int 0, .int 3, .int (-1000000)] (pc := 159) kX12_numberIn lX12_189 sM0 rfl rfl (Nat.le_of_ble_eq_true rfl) rfl (Nat.le_of_ble_eq_true rfl) dX12_readPart_159 ?_
        refine Ci.mono h ?_
        intro x6 M6 h
        refine V_iast (pc := 162) sM16 dX12_readPart_162 h.1 ?_
        have h := h.2
        refine V_aload_n (pc := 163) dX12_readPart_163 rfl ?_
        refine V_getR (pc := 164) fX12_59 sM0 rfl dX12_readPart_164 ?_
        refine V_aload_n (pc := 167) dX12_readPart_167 rfl ?_
        refine V_getI (pc := 168) fX12_218 sM0 rfl dX12_readPart_168 ?_
        refine V_top (v := (M6.1 0 40)) (by simp [mset, lset, upd]) ?_
        refine V_aload_n (pc := 171) dX12_readPart_171 rfl ?_
        refine V_iconst (v := 1) (pc := 172) dX12_readPart_172 rfl ?_
        refine V_bipush (v := 99) (pc := 173) dX12_readPart_173 rfl ?_
        refine V_ldc (pc := 175) dX12_readPart_175 nX12_144 ?_
        refine V_callVi [.int 1, .int 99, .int (-1000000)] (pc := 177) kX12_numberIn lX12_189 sM0 rfl rfl (Nat.le_of_ble_eq_true rfl) rfl (Nat.le_of_ble_eq_true rfl) dX12_readPart_177 ?_
        refine Ci.mono h ?_
        intro x7 M7 h
        refine V_iast (pc := 180) sM17 dX12_readPart_180 h.1 ?_
        have h := h.2
        refine V_aload_n (pc := 181) dX12_readPart_181 rfl ?_
        refine V_getR (pc := 182) fX12_62 sM0 rfl dX12_readPart_182 ?_
        refine V_aload_n (pc := 185) dX12_readPart_185 rfl ?_
        refine V_getI (pc := 186) fX12_218 sM0 rfl dX12_readPart_186 ?_
        refine V_top (v := (M7.1 0 40)) (by simp [mset, lset, upd]) ?_
        refine V_aload_n (pc := 189) dX12_readPart_189 rfl ?_
        refine V_iconst (v := 1) (pc := 190) dX12_readPart_190 rfl ?_
        refine V_bipush (v := 99) (pc := 191) dX12_readPart_191 rfl ?_
        refine V_aload_n (pc := 193) dX12_readPart_193 rfl ?_
        refine V_getR (pc := 194) fX12_59 sM0 rfl dX12_readPart_194 ?_
        refine V_aload_n (pc := 197) dX12_readPart_197 rfl ?_
        refine V_getI (pc := 198) fX12_218 sM0 rfl dX12_readPart_198 ?_
        refine V_top (v := (M7.1 0 40)) (by simp [mset, lset, upd]) ?_
        refine V_iald (pc := 201) sM17 dX12_readPart_201 h.1 ?_
        have h := h.2
        refine V_callVi [.int 1, .int 99, .int ((mset M7 17 (ix (M6.1 0 40)) x7).1 17 (ix (M7.1 0 40)))] (pc := 202) kX12_numberIn lX12_189 sM0 rfl rfl (Nat.le_of_ble_eq_true rfl) rfl (Nat.le_of_ble_eq_true rfl) dX12_readPart_202 ?_
        refine Ci.mono h ?_
        intro x8 M8 h
        refine V_iast (pc := 205) sM18 dX12_readPart_205 h.1 ?_
        have h := h.2
        refine V_aload_n (pc := 206) dX12_readPart_206 rfl ?_
        refine V_dup (pc := 207) dX12_readPart_207 rfl ?_
        refine V_getI (pc := 208) fX12_218 sM0 rfl dX12_readPart_208 ?_
        refine V_top (v := (M8.1 0 40)) (by simp [mset, lset, upd]) ?_
        refine V_iconst (v := 1) (pc := 211) dX12_readPart_211 rfl ?_
        refine V_iadd (pc := 212) dX12_readPart_212 ?_
        refine V_putI (pc := 213) fX12_218 p12_40 sM0 rfl dX12_readPart_213 ?_
        refine V_goto (tgt := 312) (pc := 216) dX12_readPart_216 rfl ?_
        exact V_vret dX12_readPart_312 rfl h
    · have h := h.2 c
      refine V_aload_n (pc := 112) dX12_readPart_112 rfl ?_
      refine V_callVv [] (pc := 113) kX12_readLine lX12_213 sM0 rfl rfl (Nat.le_of_ble_eq_true rfl) rfl (Nat.le_of_ble_eq_true rfl) dX12_readPart_113 ?_
      refine Cv.mono h ?_
      intro M9 h
      refine V_goto (tgt := 312) (pc := 116) dX12_readPart_116 rfl ?_
      exact V_vret dX12_readPart_312 rfl h
  · have h := h.2 c
    refine V_aload_n (pc := 8) dX12_readPart_8 rfl ?_
    refine V_getR (pc := 9) fX12_19 sM0 rfl dX12_readPart_9 ?_
    refine V_aload_n (pc := 12) dX12_readPart_12 rfl ?_
    refine V_getI (pc := 13) fX12_186 sM0 rfl dX12_readPart_13 ?_
    refine V_aload_n (pc := 16) dX12_readPart_16 rfl ?_
    refine V_iconst (v := 1) (pc := 17) dX12_readPart_17 rfl ?_
    refine V_sipush (v := 9998) (pc := 18) dX12_readPart_18 rfl ?_
    refine V_ldc (pc := 21) dX12_readPart_21 nX12_144 ?_
    refine V_callVi [.int 1, .int 9998, .int (-1000000)] (pc := 23) kX12_numberIn lX12_189 sM0 rfl rfl (Nat.le_of_ble_eq_true rfl) rfl (Nat.le_of_ble_eq_true rfl) dX12_readPart_23 ?_
    refine Ci.mono h ?_
    intro x10 M10 h
    refine V_iast (pc := 26) sM4 dX12_readPart_26 h.1 ?_
    have h := h.2
    refine V_aload_n (pc := 27) dX12_readPart_27 rfl ?_
    refine V_getR (pc := 28) fX12_22 sM0 rfl dX12_readPart_28 ?_
    refine V_aload_n (pc := 31) dX12_readPart_31 rfl ?_
    refine V_getI (pc := 32) fX12_186 sM0 rfl dX12_readPart_32 ?_
    refine V_top (v := (M10.1 0 38)) (by simp [mset, lset, upd]) ?_
    refine V_aload_n (pc := 35) dX12_readPart_35 rfl ?_
    refine V_iconst (v := 0) (pc := 36) dX12_readPart_36 rfl ?_
    refine V_aload_n (pc := 37) dX12_readPart_37 rfl ?_
    refine V_getR (pc := 38) fX12_19 sM0 rfl dX12_readPart_38 ?_
    refine V_aload_n (pc := 41) dX12_readPart_41 rfl ?_
    refine V_getI (pc := 42) fX12_186 sM0 rfl dX12_readPart_42 ?_
    refine V_top (v := (M10.1 0 38)) (by simp [mset, lset, upd]) ?_
    refine V_iald (pc := 45) sM4 dX12_readPart_45 h.1 ?_
    have h := h.2
    refine V_bipush (v := 9) (pc := 46) dX12_readPart_46 rfl ?_
    refine V_icmp_le (tgt := 56) (pc := 48) dX12_readPart_48 rfl (fun c => ?_) (fun c => ?_)
    · have h := h.1 c
      refine V_aload_n (pc := 56) dX12_readPart_56 rfl ?_
      refine V_getR (pc := 57) fX12_19 sM0 rfl dX12_readPart_57 ?_
      refine V_aload_n (pc := 60) dX12_readPart_60 rfl ?_
      refine V_getI (pc := 61) fX12_186 sM0 rfl dX12_readPart_61 ?_
      refine V_top (v := (M10.1 0 38)) (by simp [mset, lset, upd]) ?_
      refine V_iald (pc := 64) sM4 dX12_readPart_64 h.1 ?_
      have h := h.2
      refine V_iconst (v := 1) (pc := 65) dX12_readPart_65 rfl ?_
      refine V_isub (pc := 66) dX12_readPart_66 ?_
      refine V_ldc (pc := 67) dX12_readPart_67 nX12_144 ?_
      refine V_callVi [.int 0, .int (((mset M10 4 (ix (M.1 0 38)) x10).1 4 (ix (M10.1 0 38))) - 1), .int (-1000000)] (pc := 69) kX12_numberIn lX12_189 sM0 rfl rfl (Nat.le_of_ble_eq_true rfl) rfl (Nat.le_of_ble_eq_true rfl) dX12_readPart_69 ?_
      refine Ci.mono h ?_
      intro x11 M11 h
      refine V_iast (pc := 72) sM5 dX12_readPart_72 h.1 ?_
      have h := h.2
      refine V_aload_n (pc := 73) dX12_readPart_73 rfl ?_
      refine V_getR (pc := 74) fX12_25 sM0 rfl dX12_readPart_74 ?_
      refine V_aload_n (pc := 77) dX12_readPart_77 rfl ?_
      refine V_getI (pc := 78) fX12_186 sM0 rfl dX12_readPart_78 ?_
      refine V_top (v := (M11.1 0 38)) (by simp [mset, lset, upd]) ?_
      refine V_aload_n (pc := 81) dX12_readPart_81 rfl ?_
      refine V_iconst (v := 1) (pc := 82) dX12_readPart_82 rfl ?_
      refine V_bipush (v := 99) (pc := 83) dX12_readPart_83 rfl ?_
      refine V_ldc (pc := 85) dX12_readPart_85 nX12_144 ?_
      refine V_callVi [.int 1, .int 99, .int (-1000000)] (pc := 87) kX12_numberIn lX12_189 sM0 rfl rfl (Nat.le_of_ble_eq_true rfl) rfl (Nat.le_of_ble_eq_true rfl) dX12_readPart_87 ?_
      refine Ci.mono h ?_
      intro x12 M12 h
      refine V_iast (pc := 90) sM6 dX12_readPart_90 h.1 ?_
      have h := h.2
      refine V_aload_n (pc := 91) dX12_readPart_91 rfl ?_
      refine V_dup (pc := 92) dX12_readPart_92 rfl ?_
      refine V_getI (pc := 93) fX12_186 sM0 rfl dX12_readPart_93 ?_
      refine V_top (v := (M12.1 0 38)) (by simp [mset, lset, upd]) ?_
      refine V_iconst (v := 1) (pc := 96) dX12_readPart_96 rfl ?_
      refine V_iadd (pc := 97) dX12_readPart_97 ?_
      refine V_putI (pc := 98) fX12_186 p12_38 sM0 rfl dX12_readPart_98 ?_
      refine V_goto (tgt := 312) (pc := 101) dX12_readPart_101 rfl ?_
      exact V_vret dX12_readPart_312 rfl h
    · have h := h.2 c
      refine V_bipush (v := 9) (pc := 51) dX12_readPart_51 rfl ?_
      refine V_goto (tgt := 67) (pc := 53) dX12_readPart_53 rfl ?_
      refine V_ldc (pc := 67) dX12_readPart_67 nX12_144 ?_
      refine V_callVi [.int 0, .int 9, .int (-1000000)] (pc := 69) kX12_numberIn lX12_189 sM0 rfl rfl (Nat.le_of_ble_eq_true rfl) rfl (Nat.le_of_ble_eq_true rfl) dX12_readPart_69 ?_
      refine Ci.mono h ?_
      intro x13 M13 h
      refine V_iast (pc := 72) sM5 dX12_readPart_72 h.1 ?_
      have h := h.2
      refine V_aload_n (pc := 73) dX12_readPart_73 rfl ?_
      refine V_getR (pc := 74) fX12_25 sM0 rfl dX12_readPart_74 ?_
      refine V_aload_n (pc := 77) dX12_readPart_77 rfl ?_
      refine V_getI (pc := 78) fX12_186 sM0 rfl dX12_readPart_78 ?_
      refine V_top (v := (M13.1 0 38)) (by simp [mset, lset, upd]) ?_
      refine V_aload_n (pc := 81) dX12_readPart_81 rfl ?_
      refine V_iconst (v := 1) (pc := 82) dX12_readPart_82 rfl ?_
      refine V_bipush (v := 99) (pc := 83) dX12_readPart_83 rfl ?_
      refine V_ldc (pc := 85) dX12_readPart_85 nX12_144 ?_
      refine V_callVi [.int 1, .int 99, .int (-1000000)] (pc := 87) kX12_numberIn lX12_189 sM0 rfl rfl (Nat.le_of_ble_eq_true rfl) rfl (Nat.le_of_ble_eq_true rfl) dX12_readPart_87 ?_
      refine Ci.mono h ?_
      intro x14 M14 h
      refine V_iast (pc := 90) sM6 dX12_readPart_90 h.1 ?_
      have h := h.2
      refine V_aload_n (pc := 91) dX12_readPart_91 rfl ?_
      refine V_dup (pc := 92) dX12_readPart_92 rfl ?_
      refine V_getI (pc := 93) fX12_186 sM0 rfl dX12_readPart_93 ?_
      refine V_top (v := (M14.1 0 38)) (by simp [mset, lset, upd]) ?_
      refine V_iconst (v := 1) (pc := 96) dX12_readPart_96 rfl ?_
      refine V_iadd (pc := 97) dX12_readPart_97 ?_
      refine V_putI (pc := 98) fX12_186 p12_38 sM0 rfl dX12_readPart_98 ?_
      refine V_goto (tgt := 312) (pc := 101) dX12_readPart_101 rfl ?_
      exact V_vret dX12_readPart_312 rfl h
theorem wp_X12_stay {G : GV} {k : Nat} {M : Mem} {q : Int32 → Mem → Prop} {v1 : Int32} {v2 : Int32} (h : Ci shM G mX12_isLine (k + 4) [.ref (G.2.1 0), .int v1] (mset M 0 0 0) (fun x1 M1 => ((x1 = 0 → q (-1000001) M1) ∧ (¬ x1 = 0 → Ci shM G mX12_in (k + 4) [.long (Int32.toInt64 v2), .long 0, .long 3] M1 (fun x2 M2 => ((x2 ≠ 0 → Cv shM G mX12_partAll (k + 4) [.ref (G.2.1 0), .int 0, .int 0] M2 (fun M3 => Ci shM G mX12_personOf (k + 4) [.ref (G.2.1 0), .int v1] M3 (fun x4 M4 => V shM G mX12_stay (k + 5) 51 [(0, .ref (G.2.1 0)), (1, .int v1), (2, .int v2), (3, .int x4), (4, .int (-1000000)), (5, .int (-1000000)), (6, .int 0)] [] M4 (Qi q)))) ∧ (x2 = 0 → q (-1000001) M2))))))) : Ci shM G mX12_stay (k + 5) [.ref (G.2.1 0), .int v1, .int v2] M q := by
  unfold Ci
  show V _ _ _ _ _ [(0, .ref (G.2.1 0)), (1, .int v1), (2, .int v2)] _ _ _
  refine V_aload_n (pc := 0) dX12_stay_0 rfl ?_
  refine V_iconst (v := 0) (pc := 1) dX12_stay_1 rfl ?_
  refine V_putI (pc := 2) fX12_108 p12_0 sM0 rfl dX12_stay_2 ?_
  refine V_aload_n (pc := 5) dX12_stay_5 rfl ?_
  refine V_iload_n (pc := 6) dX12_stay_6 rfl ?_
  refine V_callVi [.int v1] (pc := 7) kX12_isLine lX12_255 sM0 rfl rfl (Nat.le_of_ble_eq_true rfl) rfl (Nat.le_of_ble_eq_true rfl) dX12_stay_7 ?_
  refine Ci.mono h ?_
  intro x1 M1 h
  refine V_if_eq (tgt := 25) (pc := 10) dX12_stay_10 rfl (fun c => ?_) (fun c => ?_)
  · have h := h.1 c
    refine V_ldc (pc := 25) dX12_stay_25 nX12_128 ?_
    exact V_iret dX12_stay_27 rfl h
  · have h := h.2 c
    refine V_iload_n (pc := 13) dX12_stay_13 rfl ?_
    refine V_i2l (pc := 14) dX12_stay_14 ?_
    refine V_lconst (v := 0) (pc := 15) dX12_stay_15 rfl ?_
    refine V_ldc2 (pc := 16) dX12_stay_16 nX12_261 ?_
    refine V_callSi [.long (Int32.toInt64 v2), .long 0, .long 3] (pc := 19) kX12_in lX12_118 rfl (Nat.le_of_ble_eq_true rfl) rfl (Nat.le_of_ble_eq_true rfl) dX12_stay_19 ?_
    refine Ci.mono h ?_
    intro x2 M2 h
    refine V_if_ne (tgt := 28) (pc := 22) dX12_stay_22 rfl (fun c => ?_) (fun c => ?_)
    · have h := h.1 c
      refine V_aload_n (pc := 28) dX12_stay_28 rfl ?_
      refine V_iconst (v := 0) (pc := 29) dX12_stay_29 rfl ?_
      refine V_iconst (v := 0) (pc := 30) dX12_stay_30 rfl ?_
      refine V_callVv [.int 0, .int 0] (pc := 31) kX12_partAll lX12_310 sM0 rfl rfl (Nat.le_of_ble_eq_true rfl) rfl (Nat.le_of_ble_eq_true rfl) dX12_stay_31 ?_
      refine Cv.mono h ?_
      intro M3 h
      refine V_aload_n (pc := 34) dX12_stay_34 rfl ?_
      refine V_iload_n (pc := 35) dX12_stay_35 rfl ?_
      refine V_callVi [.int v1] (pc := 36) kX12_personOf lX12_314 sM0 rfl rfl (Nat.le_of_ble_eq_true rfl) rfl (Nat.le_of_ble_eq_true rfl) dX12_stay_36 ?_
      refine Ci.mono h ?_
      intro x4 M4 h
      refine V_istore_n (pc := 39) dX12_stay_39 (by decide) ?_
      refine V_ldc (pc := 40) dX12_stay_40 nX12_144 ?_
      refine V_istore (pc := 42) dX12_stay_42 (by decide) ?_
      refine V_ldc (pc := 44) dX12_stay_44 nX12_144 ?_
      refine V_istore (pc := 46) dX12_stay_46 (by decide) ?_
      refine V_iconst (v := 0) (pc := 48) dX12_stay_48 rfl ?_
      refine V_istore (pc := 49) dX12_stay_49 (by decide) ?_
      exact V_sub h ⟨rfl, rfl, rfl, rfl, rfl, rfl, rfl, trivial⟩
    · have h := h.2 c
      refine V_ldc (pc := 25) dX12_stay_25 nX12_128 ?_
      exact V_iret dX12_stay_27 rfl h
theorem wp_X12_stay_51 {G : GV} {k : Nat} {M : Mem} {q : Int32 → Mem → Prop} {v1 : Int32} {v2 : Int32} {v3 : Int32} {v4 : Int32} {v5 : Int32} {v6 : Int32} (h : (((M.1 0 10) ≤ v6 → ((v4 ≠ (-1000000) → V shM G mX12_stay (k + 5) 172 [(0, .ref (G.2.1 0)), (1, .int v1), (2, .int v2), (3, .int v3), (4, .int v4), (5, .int v5), (6, .int 0), (7, .int 9999), (8, .int 0)] [] M (Qi q)) ∧ (v4 = (-1000000) → q (-1000000) M))) ∧ (¬ (M.1 0 10) ≤ v6 → ((((v3 >>> (v6 &&& 31)) &&& 1) ≠ 1 → V shM G mX12_stay (k + 5) 51 [(0, .ref (G.2.1 0)), (1, .int v1), (2, .int v2), (3, .int v3), (4, .int v4), (5, .int v5), (6, .int (v6 + 1))] [] M (Qi q)) ∧ (((v3 >>> (v6 &&& 31)) &&& 1) = 1 → vp_in v6 12 ∧ (((M.1 9 (ix v6)) = 4 → V shM G mX12_stay (k + 5) 51 [(0, .ref (G.2.1 0)), (1, .int v1), (2, .int v2), (3, .int v3), (4, .int v4), (5, .int v5), (6, .int (v6 + 1))] [] M (Qi q)) ∧ (¬ (M.1 9 (ix v6)) = 4 → Ci shM G mX12_isOneDoor (k + 4) [.ref (G.2.1 0), .int v6, .int v1] M (fun x1 M1 => ((x1 = 0 → V shM G mX12_stay (k + 5) 51 [(0, .ref (G.2.1 0)), (1, .int v1), (2, .int v2), (3, .int v3), (4, .int v4), (5, .int v5), (6, .int (v6 + 1))] [] M1 (Qi q)) ∧ (¬ x1 = 0 → Ci shM G mX12_gathered (k + 4) [.ref (G.2.1 0), .int v6] M1 (fun x2 M2 => ((v4 = (-1000000) → ((v5 = (-1000000) → V shM G mX12_stay (k + 5) 51 [(0, .ref (G.2.1 0)), (1, .int v1), (2, .int v2), (3, .int v3), (4, .int x2), (5, .int x2), (6, .int (v6 + 1))] [] M2 (Qi q)) ∧ (¬ v5 = (-1000000) → ((x2 ≤ v5 → V shM G mX12_stay (k + 5) 51 [(0, .ref (G.2.1 0)), (1, .int v1), (2, .int v2), (3, .int v3), (4, .int x2), (5, .int v5), (6, .int (v6 + 1))] [] M2 (Qi q)) ∧ (¬ x2 ≤ v5 → V shM G mX12_stay (k + 5) 51 [(0, .ref (G.2.1 0)), (1, .int v1), (2, .int v2), (3, .int v3), (4, .int x2), (5, .int x2), (6, .int (v6 + 1))] [] M2 (Qi q)))))) ∧ (¬ v4 = (-1000000) → ((v4 ≤ x2 → ((v5 = (-1000000) → V shM G mX12_stay (k + 5) 51 [(0, .ref (G.2.1 0)), (1, .int v1), (2, .int v2), (3, .int v3), (4, .int v4), (5, .int x2), (6, .int (v6 + 1))] [] M2 (Qi q)) ∧ (¬ v5 = (-1000000) → ((x2 ≤ v5 → V shM G mX12_stay (k + 5) 51 [(0, .ref (G.2.1 0)), (1, .int v1), (2, .int v2), (3, .int v3), (4, .int v4), (5, .int v5), (6, .int (v6 + 1))] [] M2 (Qi q)) ∧ (¬ x2 ≤ v5 → V shM G mX12_stay (k + 5) 51 [(0, .ref (G.2.1 0)), (1, .int v1), (2, .int v2), (3, .int v3), (4, .int v4), (5, .int x2), (6, .int (v6 + 1))] [] M2 (Qi q)))))) ∧ (¬ v4 ≤ x2 → ((v5 = (-1000000) → V shM G mX12_stay (k + 5) 51 [(0, .ref (G.2.1 0)), (1, .int v1), (2, .int v2), (3, .int v3), (4, .int x2), (5, .int x2), (6, .int (v6 + 1))] [] M2 (Qi q)) ∧ (¬ v5 = (-1000000) → ((x2 ≤ v5 → V shM G mX12_stay (k + 5) 51 [(0, .ref (G.2.1 0)), (1, .int v1), (2, .int v2), (3, .int v3), (4, .int x2), (5, .int v5), (6, .int (v6 + 1))] [] M2 (Qi q)) ∧ (¬ x2 ≤ v5 → V shM G mX12_stay (k + 5) 51 [(0, .ref (G.2.1 0)), (1, .int v1), (2, .int v2), (3, .int v3), (4, .int x2), (5, .int x2), (6, .int (v6 + 1))] [] M2 (Qi q)))))))))))))))))))) : V shM G mX12_stay (k + 5) 51 [(0, .ref (G.2.1 0)), (1, .int v1), (2, .int v2), (3, .int v3), (4, .int v4), (5, .int v5), (6, .int v6)] [] M (Qi q) := by
  refine V_iload (pc := 51) dX12_stay_51 rfl ?_
  refine V_aload_n (pc := 53) dX12_stay_53 rfl ?_
  refine V_getI (pc := 54) fX12_227 sM0 rfl dX12_stay_54 ?_
  refine V_icmp_ge (tgt := 151) (pc := 57) dX12_stay_57 rfl (fun c => ?_) (fun c => ?_)
  · have h := h.1 c
    refine V_iload (pc := 151) dX12_stay_151 rfl ?_
    refine V_ldc (pc := 153) dX12_stay_153 nX12_144 ?_
    refine V_icmp_ne (tgt := 161) (pc := 155) dX12_stay_155 rfl (fun c => ?_) (fun c => ?_)
    · have h := h.1 c
      refine V_iconst (v := 0) (pc := 161) dX12_stay_161 rfl ?_
      refine V_istore (pc := 162) dX12_stay_162 (by decide) ?_
      refine V_sipush (v := 9999) (pc := 164) dX12_stay_164 rfl ?_
      refine V_istore (pc := 167) dX12_stay_167 (by decide) ?_
      refine V_iconst (v := 0) (pc := 169) dX12_stay_169 rfl ?_
      refine V_istore (pc := 170) dX12_stay_170 (by decide) ?_
      exact V_sub h ⟨rfl, rfl, rfl, rfl, rfl, rfl, rfl, rfl, rfl, trivial⟩
    · have h := h.2 c
      refine V_ldc (pc := 158) dX12_stay_158 nX12_144 ?_
      exact V_iret dX12_stay_160 rfl h
  · have h := h.2 c
    refine V_iload_n (pc := 60) dX12_stay_60 rfl ?_
    refine V_iload (pc := 61) dX12_stay_61 rfl ?_
    refine V_ishr (pc := 63) dX12_stay_63 ?_
    refine V_iconst (v := 1) (pc := 64) dX12_stay_64 rfl ?_
    refine V_iand (pc := 65) dX12_stay_65 ?_
    refine V_iconst (v := 1) (pc := 66) dX12_stay_66 rfl ?_
    refine V_icmp_ne (tgt := 145) (pc := 67) dX12_stay_67 rfl (fun c => ?_) (fun c => ?_)
    · have h := h.1 c
      refine V_iinc (pc := 145) dX12_stay_145 rfl (by decide) ?_
      refine V_goto (tgt := 51) (pc := 148) dX12_stay_148 rfl ?_
      exact V_sub h ⟨rfl, rfl, rfl, rfl, rfl, rfl, rfl, trivial⟩
    · have h := h.2 c
      refine V_aload_n (pc := 70) dX12_stay_70 rfl ?_
      refine V_getR (pc := 71) fX12_35 sM0 rfl dX12_stay_71 ?_
      refine V_iload (pc := 74) dX12_stay_74 rfl ?_
      refine V_iald (pc := 76) sM9 dX12_stay_76 h.1 ?_
      have h := h.2
      refine V_iconst (v := 4) (pc := 77) dX12_stay_77 rfl ?_
      refine V_icmp_eq (tgt := 145) (pc := 78) dX12_stay_78 rfl (fun c => ?_) (fun c => ?_)
      · have h := h.1 c
        refine V_iinc (pc := 145) dX12_stay_145 rfl (by decide) ?_
        refine V_goto (tgt := 51) (pc := 148) dX12_stay_148 rfl ?_
        exact V_sub h ⟨rfl, rfl, rfl, rfl, rfl, rfl, rfl, trivial⟩
      · have h := h.2 c
        refine V_aload_n (pc := 81) dX12_stay_81 rfl ?_
        refine V_iload (pc := 82) dX12_stay_82 rfl ?_
        refine V_iload_n (pc := 84) dX12_stay_84 rfl ?_
        refine V_callVi [.int v6, .int v1] (pc := 85) kX12_isOneDoor lX12_295 sM0 rfl rfl (Nat.le_of_ble_eq_true rfl) rfl (Nat.le_of_ble_eq_true rfl) dX12_stay_85 ?_
        refine Ci.mono h ?_
        intro x1 M1 h
        refine V_if_eq (tgt := 145) (pc := 88) dX12_stay_88 rfl (fun c => ?_) (fun c => ?_)
        · have h := h.1 c
          refine V_iinc (pc := 145) dX12_stay_145 rfl (by decide) ?_
          refine V_goto (tgt := 51) (pc := 148) dX12_stay_148 rfl ?_
          exact V_sub h ⟨rfl, rfl, rfl, rfl, rfl, rfl, rfl, trivial⟩
        · have h := h.2 c
          refine V_aload_n (pc := 91) dX12_stay_91 rfl ?_
          refine V_iload (pc := 92) dX12_stay_92 rfl ?_
          refine V_callVi [.int v6] (pc := 94) kX12_gathered lX12_246 sM0 rfl rfl (Nat.le_of_ble_eq_true rfl) rfl (Nat.le_of_ble_eq_true rfl) dX12_stay_94 ?_
          refine Ci.mono h ?_
          intro x2 M2 h
          refine V_istore (pc := 97) dX12_stay_97 (by decide) ?_
          refine V_iload (pc := 99) dX12_stay_99 rfl ?_
          refine V_ldc (pc := 101) dX12_stay_101 nX12_144 ?_
          refine V_icmp_eq (tgt := 113) (pc := 103) dX12_stay_103 rfl (fun c => ?_) (fun c => ?_)
          · have h := h.1 c
            refine V_iload (pc := 113) dX12_stay_113 rfl ?_
            refine V_goto (tgt := 120) (pc := 115) dX12_stay_115 rfl ?_
            refine V_istore (pc := 120) dX12_stay_120 (by decide) ?_
            refine V_iload (pc := 122) dX12_stay_122 rfl ?_
            refine V_ldc (pc := 124) dX12_stay_124 nX12_144 ?_
            refine V_icmp_eq (tgt := 136) (pc := 126) dX12_stay_126 rfl (fun c => ?_) (fun c => ?_)
            · have h := h.1 c
              refine V_iload (pc := 136) dX12_stay_136 rfl ?_
              refine V_goto (tgt := 143) (pc := 138) dX12_stay_138 rfl ?_
              refine V_istore (pc := 143) dX12_stay_143 (by decide) ?_
              refine V_iinc (pc := 145) dX12_stay_145 rfl (by decide) ?_
              refine V_goto (tgt := 51) (pc := 148) dX12_stay_148 rfl ?_
              exact V_sub h ⟨rfl, rfl, rfl, rfl, rfl, rfl, rfl, trivial⟩
            · have h := h.2 c
              refine V_iload (pc := 129) dX12_stay_129 rfl ?_
              refine V_iload (pc := 131) dX12_stay_131 rfl ?_
              refine V_icmp_le (tgt := 141) (pc := 133) dX12_stay_133 rfl (fun c => ?_) (fun c => ?_)
              · have h := h.1 c
                refine V_iload (pc := 141) dX12_stay_141 rfl ?_
                refine V_istore (pc := 143) dX12_stay_143 (by decide) ?_
                refine V_iinc (pc := 145) dX12_stay_145 rfl (by decide) ?_
                refine V_goto (tgt := 51) (pc := 148) dX12_stay_148 rfl ?_
                exact V_sub h ⟨rfl, rfl, rfl, rfl, rfl, rfl, rfl, trivial⟩
              · have h := h.2 c
                refine V_iload (pc := 136) dX12_stay_136 rfl ?_
                refine V_goto (tgt := 143) (pc := 138) dX12_stay_138 rfl ?_
                refine V_istore (pc := 143) dX12_stay_143 (by decide) ?_
                refine V_iinc (pc := 145) dX12_stay_145 rfl (by decide) ?_
                refine V_goto (tgt := 51) (pc := 148) dX12_stay_148 rfl ?_
                exact V_sub h ⟨rfl, rfl, rfl, rfl, rfl, rfl, rfl, trivial⟩
          · have h := h.2 c
            refine V_iload (pc := 106) dX12_stay_106 rfl ?_
            refine V_iload (pc := 108) dX12_stay_108 rfl ?_
            refine V_icmp_ge (tgt := 118) (pc := 110) dX12_stay_110 rfl (fun c => ?_) (fun c => ?_)
            · have h := h.1 c
              refine V_iload (pc := 118) dX12_stay_118 rfl ?_
              refine V_istore (pc := 120) dX12_stay_120 (by decide) ?_
              refine V_iload (pc := 122) dX12_stay_122 rfl ?_
              refine V_ldc (pc := 124) dX12_stay_124 nX12_144 ?_
              refine V_icmp_eq (tgt := 136) (pc := 126) dX12_stay_126 rfl (fun c => ?_) (fun c => ?_)
              · have h := h.1 c
                refine V_iload (pc := 136) dX12_stay_136 rfl ?_
                refine V_goto (tgt := 143) (pc := 138) dX12_stay_138 rfl ?_
                refine V_istore (pc := 143) dX12_stay_143 (by decide) ?_
                refine V_iinc (pc := 145) dX12_stay_145 rfl (by decide) ?_
                refine V_goto (tgt := 51) (pc := 148) dX12_stay_148 rfl ?_
                exact V_sub h ⟨rfl, rfl, rfl, rfl, rfl, rfl, rfl, trivial⟩
              · have h := h.2 c
                refine V_iload (pc := 129) dX12_stay_129 rfl ?_
                refine V_iload (pc := 131) dX12_stay_131 rfl ?_
                refine V_icmp_le (tgt := 141) (pc := 133) dX12_stay_133 rfl (fun c => ?_) (fun c => ?_)
                · have h := h.1 c
                  refine V_iload (pc := 141) dX12_stay_141 rfl ?_
                  refine V_istore (pc := 143) dX12_stay_143 (by decide) ?_
                  refine V_iinc (pc := 145) dX12_stay_145 rfl (by decide) ?_
                  refine V_goto (tgt := 51) (pc := 148) dX12_stay_148 rfl ?_
                  exact V_sub h ⟨rfl, rfl, rfl, rfl, rfl, rfl, rfl, trivial⟩
                · have h := h.2 c
                  refine V_iload (pc := 136) dX12_stay_136 rfl ?_
                  refine V_goto (tgt := 143) (pc := 138) dX12_stay_138 rfl ?_
                  refine V_istore (pc := 143) dX12_stay_143 (by decide) ?_
                  refine V_iinc (pc := 145) dX12_stay_145 rfl (by decide) ?_
                  refine V_goto (tgt := 51) (pc := 148) dX12_stay_148 rfl ?_
                  exact V_sub h ⟨rfl, rfl, rfl, rfl, rfl, rfl, rfl, trivial⟩
            · have h := h.2 c
              refine V_iload (pc := 113) dX12_stay_113 rfl ?_
              refine V_goto (tgt := 120) (pc := 115) dX12_stay_115 rfl ?_
              refine V_istore (pc := 120) dX12_stay_120 (by decide) ?_
              refine V_iload (pc := 122) dX12_stay_122 rfl ?_
              refine V_ldc (pc := 124) dX12_stay_124 nX12_144 ?_
              refine V_icmp_eq (tgt := 136) (pc := 126) dX12_stay_126 rfl (fun c => ?_) (fun c => ?_)
              · have h := h.1 c
                refine V_iload (pc := 136) dX12_stay_136 rfl ?_
                refine V_goto (tgt := 143) (pc := 138) dX12_stay_138 rfl ?_
                refine V_istore (pc := 143) dX12_stay_143 (by decide) ?_
                refine V_iinc (pc := 145) dX12_stay_145 rfl (by decide) ?_
                refine V_goto (tgt := 51) (pc := 148) dX12_stay_148 rfl ?_
                exact V_sub h ⟨rfl, rfl, rfl, rfl, rfl, rfl, rfl, trivial⟩
              · have h := h.2 c
                refine V_iload (pc := 129) dX12_stay_129 rfl ?_
                refine V_iload (pc := 131) dX12_stay_131 rfl ?_
                refine V_icmp_le (tgt := 141) (pc := 133) dX12_stay_133 rfl (fun c => ?_) (fun c => ?_)
                · have h := h.1 c
                  refine V_iload (pc := 141) dX12_stay_141 rfl ?_
                  refine V_istore (pc := 143) dX12_stay_143 (by decide) ?_
                  refine V_iinc (pc := 145) dX12_stay_145 rfl (by decide) ?_
                  refine V_goto (tgt := 51) (pc := 148) dX12_stay_148 rfl ?_
                  exact V_sub h ⟨rfl, rfl, rfl, rfl, rfl, rfl, rfl, trivial⟩
                · have h := h.2 c
                  refine V_iload (pc := 136) dX12_stay_136 rfl ?_
                  refine V_goto (tgt := 143) (pc := 138) dX12_stay_138 rfl ?_
                  refine V_istore (pc := 143) dX12_stay_143 (by decide) ?_
                  refine V_iinc (pc := 145) dX12_stay_145 rfl (by decide) ?_
                  refine V_goto (tgt := 51) (pc := 148) dX12_stay_148 rfl ?_
                  exact V_sub h ⟨rfl, rfl, rfl, rfl, rfl, rfl, rfl, trivial⟩
theorem wp_X12_stay_172 {G : GV} {k : Nat} {M : Mem} {q : Int32 → Mem → Prop} {v1 : Int32} {v2 : Int32} {v3 : Int32} {v4 : Int32} {v5 : Int32} {v6 : Int32} {v7 : Int32} {v8 : Int32} (h : (((M.1 0 5) ≤ v8 → ((v2 ≠ 0 → ((v2 ≠ 1 → ((v2 ≠ 2 → q v7 M) ∧ (v2 = 2 → q v6 M))) ∧ (v2 = 1 → q v5 M))) ∧ (v2 = 0 → q v4 M))) ∧ (¬ (M.1 0 5) ≤ v8 → vp_in v8 10 ∧ vp_in v8 10 ∧ ((v4 ≤ ((M.1 4 (ix v8)) - (M.1 5 (ix v8))) → ((((M.1 4 (ix v8)) - (M.1 5 (ix v8))) ≤ v5 → V shM G mX12_stay (k + 5) 172 [(0, .ref (G.2.1 0)), (1, .int v1), (2, .int v2), (3, .int v3), (4, .int v4), (5, .int v5), (6, .int v6), (7, .int v7), (8, .int (v8 + 1))] [] M (Qi q)) ∧ (¬ ((M.1 4 (ix v8)) - (M.1 5 (ix v8))) ≤ v5 → ((v7 ≤ ((M.1 4 (ix v8)) - (M.1 5 (ix v8))) → V shM G mX12_stay (k + 5) 172 [(0, .ref (G.2.1 0)), (1, .int v1), (2, .int v2), (3, .int v3), (4, .int v4), (5, .int v5), (6, .int v6), (7, .int v7), (8, .int (v8 + 1))] [] M (Qi q)) ∧ (¬ v7 ≤ ((M.1 4 (ix v8)) - (M.1 5 (ix v8))) → V shM G mX12_stay (k + 5) 172 [(0, .ref (G.2.1 0)), (1, .int v1), (2, .int v2), (3, .int v3), (4, .int v4), (5, .int v5), (6, .int v6), (7, .int ((M.1 4 (ix v8)) - (M.1 5 (ix v8)))), (8, .int (v8 + 1))] [] M (Qi q)))))) ∧ (¬ v4 ≤ ((M.1 4 (ix v8)) - (M.1 5 (ix v8))) → ((((M.1 4 (ix v8)) - (M.1 5 (ix v8))) ≤ v6 → ((((M.1 4 (ix v8)) - (M.1 5 (ix v8))) ≤ v5 → V shM G mX12_stay (k + 5) 172 [(0, .ref (G.2.1 0)), (1, .int v1), (2, .int v2), (3, .int v3), (4, .int v4), (5, .int v5), (6, .int v6), (7, .int v7), (8, .int (v8 + 1))] [] M (Qi q)) ∧ (¬ ((M.1 4 (ix v8)) - (M.1 5 (ix v8))) ≤ v5 → ((v7 ≤ ((M.1 4 (ix v8)) - (M.1 5 (ix v8))) → V shM G mX12_stay (k + 5) 172 [(0, .ref (G.2.1 0)), (1, .int v1), (2, .int v2), (3, .int v3), (4, .int v4), (5, .int v5), (6, .int v6), (7, .int v7), (8, .int (v8 + 1))] [] M (Qi q)) ∧ (¬ v7 ≤ ((M.1 4 (ix v8)) - (M.1 5 (ix v8))) → V shM G mX12_stay (k + 5) 172 [(0, .ref (G.2.1 0)), (1, .int v1), (2, .int v2), (3, .int v3), (4, .int v4), (5, .int v5), (6, .int v6), (7, .int ((M.1 4 (ix v8)) - (M.1 5 (ix v8)))), (8, .int (v8 + 1))] [] M (Qi q)))))) ∧ (¬ ((M.1 4 (ix v8)) - (M.1 5 (ix v8))) ≤ v6 → ((((M.1 4 (ix v8)) - (M.1 5 (ix v8))) ≤ v5 → V shM G mX12_stay (k + 5) 172 [(0, .ref (G.2.1 0)), (1, .int v1), (2, .int v2), (3, .int v3), (4, .int v4), (5, .int v5), (6, .int ((M.1 4 (ix v8)) - (M.1 5 (ix v8)))), (7, .int v7), (8, .int (v8 + 1))] [] M (Qi q)) ∧ (¬ ((M.1 4 (ix v8)) - (M.1 5 (ix v8))) ≤ v5 → ((v7 ≤ ((M.1 4 (ix v8)) - (M.1 5 (ix v8))) → V shM G mX12_stay (k + 5) 172 [(0, .ref (G.2.1 0)), (1, .int v1), (2, .int v2), (3, .int v3), (4, .int v4), (5, .int v5), (6, .int ((M.1 4 (ix v8)) - (M.1 5 (ix v8)))), (7, .int v7), (8, .int (v8 + 1))] [] M (Qi q)) ∧ (¬ v7 ≤ ((M.1 4 (ix v8)) - (M.1 5 (ix v8))) → V shM G mX12_stay (k + 5) 172 [(0, .ref (G.2.1 0)), (1, .int v1), (2, .int v2), (3, .int v3), (4, .int v4), (5, .int v5), (6, .int ((M.1 4 (ix v8)) - (M.1 5 (ix v8)))), (7, .int ((M.1 4 (ix v8)) - (M.1 5 (ix v8)))), (8, .int (v8 + 1))] [] M (Qi q)))))))))))) : V shM G mX12_stay (k + 5) 172 [(0, .ref (G.2.1 0)), (1, .int v1), (2, .int v2), (3, .int v3), (4, .int v4), (5, .int v5), (6, .int v6), (7, .int v7), (8, .int v8)] [] M (Qi q) := by
  refine V_iload (pc := 172) dX12_stay_172 rfl ?_
  refine V_aload_n (pc := 174) dX12_stay_174 rfl ?_
  refine V_getI (pc := 175) fX12_224 sM0 rfl dX12_stay_175 ?_
  refine V_icmp_ge (tgt := 250) (pc := 178) dX12_stay_178 rfl (fun c => ?_) (fun c => ?_)
  · have h := h.1 c
    refine V_iload_n (pc := 250) dX12_stay_250 rfl ?_
    refine V_if_ne (tgt := 259) (pc := 251) dX12_stay_251 rfl (fun c => ?_) (fun c => ?_)
    · have h := h.1 c
      refine V_iload_n (pc := 259) dX12_stay_259 rfl ?_
      refine V_iconst (v := 1) (pc := 260) dX12_stay_260 rfl ?_
      refine V_icmp_ne (tgt := 269) (pc := 261) dX12_stay_261 rfl (fun c => ?_) (fun c => ?_)
      · have h := h.1 c
        refine V_iload_n (pc := 269) dX12_stay_269 rfl ?_
        refine V_iconst (v := 2) (pc := 270) dX12_stay_270 rfl ?_
        refine V_icmp_ne (tgt := 279) (pc := 271) dX12_stay_271 rfl (fun c => ?_) (fun c => ?_)
        · have h := h.1 c
          refine V_iload (pc := 279) dX12_stay_279 rfl ?_
          exact V_iret dX12_stay_281 rfl h
        · have h := h.2 c
          refine V_iload (pc := 274) dX12_stay_274 rfl ?_
          refine V_goto (tgt := 281) (pc := 276) dX12_stay_276 rfl ?_
          exact V_iret dX12_stay_281 rfl h
      · have h := h.2 c
        refine V_iload (pc := 264) dX12_stay_264 rfl ?_
        refine V_goto (tgt := 281) (pc := 266) dX12_stay_266 rfl ?_
        exact V_iret dX12_stay_281 rfl h
    · have h := h.2 c
      refine V_iload (pc := 254) dX12_stay_254 rfl ?_
      refine V_goto (tgt := 281) (pc := 256) dX12_stay_256 rfl ?_
      exact V_iret dX12_stay_281 rfl h
  · have h := h.2 c
    refine V_aload_n (pc := 181) dX12_stay_181 rfl ?_
    refine V_getR (pc := 182) fX12_19 sM0 rfl dX12_stay_182 ?_
    refine V_iload (pc := 185) dX12_stay_185 rfl ?_
    refine V_iald (pc := 187) sM4 dX12_stay_187 h.1 ?_
    have h := h.2
    refine V_aload_n (pc := 188) dX12_stay_188 rfl ?_
    refine V_getR (pc := 189) fX12_22 sM0 rfl dX12_stay_189 ?_
    refine V_iload (pc := 192) dX12_stay_192 rfl ?_
    refine V_iald (pc := 194) sM5 dX12_stay_194 h.1 ?_
    have h := h.2
    refine V_isub (pc := 195) dX12_stay_195 ?_
    refine V_istore (pc := 196) dX12_stay_196 (by decide) ?_
    refine V_iload (pc := 198) dX12_stay_198 rfl ?_
    refine V_iload (pc := 200) dX12_stay_200 rfl ?_
    refine V_icmp_ge (tgt := 217) (pc := 202) dX12_stay_202 rfl (fun c => ?_) (fun c => ?_)
    · have h := h.1 c
      refine V_iload (pc := 217) dX12_stay_217 rfl ?_
      refine V_istore (pc := 219) dX12_stay_219 (by decide) ?_
      refine V_iload (pc := 221) dX12_stay_221 rfl ?_
      refine V_iload (pc := 223) dX12_stay_223 rfl ?_
      refine V_icmp_le (tgt := 240) (pc := 225) dX12_stay_225 rfl (fun c => ?_) (fun c => ?_)
      · have h := h.1 c
        refine V_iload (pc := 240) dX12_stay_240 rfl ?_
        refine V_istore (pc := 242) dX12_stay_242 (by decide) ?_
        refine V_iinc (pc := 244) dX12_stay_244 rfl (by decide) ?_
        refine V_goto (tgt := 172) (pc := 247) dX12_stay_247 rfl ?_
        exact V_sub h ⟨rfl, rfl, rfl, rfl, rfl, rfl, rfl, rfl, rfl, trivial⟩
      · have h := h.2 c
        refine V_iload (pc := 228) dX12_stay_228 rfl ?_
        refine V_iload (pc := 230) dX12_stay_230 rfl ?_
        refine V_icmp_ge (tgt := 240) (pc := 232) dX12_stay_232 rfl (fun c => ?_) (fun c => ?_)
        · have h := h.1 c
          refine V_iload (pc := 240) dX12_stay_240 rfl ?_
          refine V_istore (pc := 242) dX12_stay_242 (by decide) ?_
          refine V_iinc (pc := 244) dX12_stay_244 rfl (by decide) ?_
          refine V_goto (tgt := 172) (pc := 247) dX12_stay_247 rfl ?_
          exact V_sub h ⟨rfl, rfl, rfl, rfl, rfl, rfl, rfl, rfl, rfl, trivial⟩
        · have h := h.2 c
          refine V_iload (pc := 235) dX12_stay_235 rfl ?_
          refine V_goto (tgt := 242) (pc := 237) dX12_stay_237 rfl ?_
          refine V_istore (pc := 242) dX12_stay_242 (by decide) ?_
          refine V_iinc (pc := 244) dX12_stay_244 rfl (by decide) ?_
          refine V_goto (tgt := 172) (pc := 247) dX12_stay_247 rfl ?_
          exact V_sub h ⟨rfl, rfl, rfl, rfl, rfl, rfl, rfl, rfl, rfl, trivial⟩
    · have h := h.2 c
      refine V_iload (pc := 205) dX12_stay_205 rfl ?_
      refine V_iload (pc := 207) dX12_stay_207 rfl ?_
      refine V_icmp_le (tgt := 217) (pc := 209) dX12_stay_209 rfl (fun c => ?_) (fun c => ?_)
      · have h := h.1 c
        refine V_iload (pc := 217) dX12_stay_217 rfl ?_
        refine V_istore (pc := 219) dX12_stay_219 (by decide) ?_
        refine V_iload (pc := 221) dX12_stay_221 rfl ?_
        refine V_iload (pc := 223) dX12_stay_223 rfl ?_
        refine V_icmp_le (tgt := 240) (pc := 225) dX12_stay_225 rfl (fun c => ?_) (fun c => ?_)
        · have h := h.1 c
          refine V_iload (pc := 240) dX12_stay_240 rfl ?_
          refine V_istore (pc := 242) dX12_stay_242 (by decide) ?_
          refine V_iinc (pc := 244) dX12_stay_244 rfl (by decide) ?_
          refine V_goto (tgt := 172) (pc := 247) dX12_stay_247 rfl ?_
          exact V_sub h ⟨rfl, rfl, rfl, rfl, rfl, rfl, rfl, rfl, rfl, trivial⟩
        · have h := h.2 c
          refine V_iload (pc := 228) dX12_stay_228 rfl ?_
          refine V_iload (pc := 230) dX12_stay_230 rfl ?_
          refine V_icmp_ge (tgt := 240) (pc := 232) dX12_stay_232 rfl (fun c => ?_) (fun c => ?_)
          · have h := h.1 c
            refine V_iload (pc := 240) dX12_stay_240 rfl ?_
            refine V_istore (pc := 242) dX12_stay_242 (by decide) ?_
            refine V_iinc (pc := 244) dX12_stay_244 rfl (by decide) ?_
            refine V_goto (tgt := 172) (pc := 247) dX12_stay_247 rfl ?_
            exact V_sub h ⟨rfl, rfl, rfl, rfl, rfl, rfl, rfl, rfl, rfl, trivial⟩
          · have h := h.2 c
            refine V_iload (pc := 235) dX12_stay_235 rfl ?_
            refine V_goto (tgt := 242) (pc := 237) dX12_stay_237 rfl ?_
            refine V_istore (pc := 242) dX12_stay_242 (by decide) ?_
            refine V_iinc (pc := 244) dX12_stay_244 rfl (by decide) ?_
            refine V_goto (tgt := 172) (pc := 247) dX12_stay_247 rfl ?_
            exact V_sub h ⟨rfl, rfl, rfl, rfl, rfl, rfl, rfl, rfl, rfl, trivial⟩
      · have h := h.2 c
        refine V_iload (pc := 212) dX12_stay_212 rfl ?_
        refine V_goto (tgt := 219) (pc := 214) dX12_stay_214 rfl ?_
        refine V_istore (pc := 219) dX12_stay_219 (by decide) ?_
        refine V_iload (pc := 221) dX12_stay_221 rfl ?_
        refine V_iload (pc := 223) dX12_stay_223 rfl ?_
        refine V_icmp_le (tgt := 240) (pc := 225) dX12_stay_225 rfl (fun c => ?_) (fun c => ?_)
        · have h := h.1 c
          refine V_iload (pc := 240) dX12_stay_240 rfl ?_
          refine V_istore (pc := 242) dX12_stay_242 (by decide) ?_
          refine V_iinc (pc := 244) dX12_stay_244 rfl (by decide) ?_
          refine V_goto (tgt := 172) (pc := 247) dX12_stay_247 rfl ?_
          exact V_sub h ⟨rfl, rfl, rfl, rfl, rfl, rfl, rfl, rfl, rfl, trivial⟩
        · have h := h.2 c
          refine V_iload (pc := 228) dX12_stay_228 rfl ?_
          refine V_iload (pc := 230) dX12_stay_230 rfl ?_
          refine V_icmp_ge (tgt := 240) (pc := 232) dX12_stay_232 rfl (fun c => ?_) (fun c => ?_)
          · have h := h.1 c
            refine V_iload (pc := 240) dX12_stay_240 rfl ?_
            refine V_istore (pc := 242) dX12_stay_242 (by decide) ?_
            refine V_iinc (pc := 244) dX12_stay_244 rfl (by decide) ?_
            refine V_goto (tgt := 172) (pc := 247) dX12_stay_247 rfl ?_
            exact V_sub h ⟨rfl, rfl, rfl, rfl, rfl, rfl, rfl, rfl, rfl, trivial⟩
          · have h := h.2 c
            refine V_iload (pc := 235) dX12_stay_235 rfl ?_
            refine V_goto (tgt := 242) (pc := 237) dX12_stay_237 rfl ?_
            refine V_istore (pc := 242) dX12_stay_242 (by decide) ?_
            refine V_iinc (pc := 244) dX12_stay_244 rfl (by decide) ?_
            refine V_goto (tgt := 172) (pc := 247) dX12_stay_247 rfl ?_
            exact V_sub h ⟨rfl, rfl, rfl, rfl, rfl, rfl, rfl, rfl, rfl, trivial⟩
theorem wp_X12_sure {G : GV} {k : Nat} {M : Mem} {q : Int64 → Mem → Prop} {v1 : Int32} {v2 : Int32} (h : Ci shM G mX12_isLine (k + 4) [.ref (G.2.1 0), .int v1] (mset M 0 0 0) (fun x1 M1 => ((x1 = 0 → q (-1000001) M1) ∧ (¬ x1 = 0 → Ci shM G mX12_isLine (k + 4) [.ref (G.2.1 0), .int v2] M1 (fun x2 M2 => ((x2 ≠ 0 → Cv shM G mX12_partAll (k + 4) [.ref (G.2.1 0), .int 0, .int 0] M2 (fun M3 => Ci shM G mX12_all (k + 4) [.ref (G.2.1 0)] M3 (fun x4 M4 => vp_in x4 4096 ∧ ((v1 ≠ v2 → Cv shM G mX12_partAll (k + 4) [.ref (G.2.1 0), .int v1, .int v2] M4 (fun M5 => Ci shM G mX12_all (k + 4) [.ref (G.2.1 0)] M5 (fun x6 M6 => vp_in x6 4096 ∧ (((M6.1 27 (ix x6)) ≠ (M4.1 27 (ix x4)) → q 0 M6) ∧ ((M6.1 27 (ix x6)) = (M4.1 27 (ix x4)) → Ci shM G mX12_all (k + 4) [.ref (G.2.1 0)] M6 (fun x7 M7 => vp_in x7 4096 ∧ q (M7.2 28 (ix x7)) M7)))))) ∧ (v1 = v2 → Ci shM G mX12_all (k + 4) [.ref (G.2.1 0)] M4 (fun x8 M8 => vp_in x8 4096 ∧ q (M8.2 28 (ix x8)) M8)))))) ∧ (x2 = 0 → q (-1000001) M2))))))) : Cl shM G mX12_sure (k + 5) [.ref (G.2.1 0), .int v1, .int v2] M q := by
  unfold Cl
  show V _ _ _ _ _ [(0, .ref (G.2.1 0)), (1, .int v1), (2, .int v2)] _ _ _
  refine V_aload_n (pc := 0) dX12_sure_0 rfl ?_
  refine V_iconst (v := 0) (pc := 1) dX12_sure_1 rfl ?_
  refine V_putI (pc := 2) fX12_108 p12_0 sM0 rfl dX12_sure_2 ?_
  refine V_aload_n (pc := 5) dX12_sure_5 rfl ?_
  refine V_iload_n (pc := 6) dX12_sure_6 rfl ?_
  refine V_callVi [.int v1] (pc := 7) kX12_isLine lX12_255 sM0 rfl rfl (Nat.le_of_ble_eq_true rfl) rfl (Nat.le_of_ble_eq_true rfl) dX12_sure_7 ?_
  refine Ci.mono h ?_
  intro x1 M1 h
  refine V_if_eq (tgt := 21) (pc := 10) dX12_sure_10 rfl (fun c => ?_) (fun c => ?_)
  · have h := h.1 c
    refine V_ldc2 (pc := 21) dX12_sure_21 nX12_308 ?_
    exact V_lret dX12_sure_24 rfl h
  · have h := h.2 c
    refine V_aload_n (pc := 13) dX12_sure_13 rfl ?_
    refine V_iload_n (pc := 14) dX12_sure_14 rfl ?_
    refine V_callVi [.int v2] (pc := 15) kX12_isLine lX12_255 sM0 rfl rfl (Nat.le_of_ble_eq_true rfl) rfl (Nat.le_of_ble_eq_true rfl) dX12_sure_15 ?_
    refine Ci.mono h ?_
    intro x2 M2 h
    refine V_if_ne (tgt := 25) (pc := 18) dX12_sure_18 rfl (fun c => ?_) (fun c => ?_)
    · have h := h.1 c
      refine V_aload_n (pc := 25) dX12_sure_25 rfl ?_
      refine V_iconst (v := 0) (pc := 26) dX12_sure_26 rfl ?_
      refine V_iconst (v := 0) (pc := 27) dX12_sure_27 rfl ?_
      refine V_callVv [.int 0, .int 0] (pc := 28) kX12_partAll lX12_310 sM0 rfl rfl (Nat.le_of_ble_eq_true rfl) rfl (Nat.le_of_ble_eq_true rfl) dX12_sure_28 ?_
      refine Cv.mono h ?_
      intro M3 h
      refine V_aload_n (pc := 31) dX12_sure_31 rfl ?_
      refine V_getR (pc := 32) fX12_89 sM0 rfl dX12_sure_32 ?_
      refine V_aload_n (pc := 35) dX12_sure_35 rfl ?_
      refine V_callVi [] (pc := 36) kX12_all lX12_304 sM0 rfl rfl (Nat.le_of_ble_eq_true rfl) rfl (Nat.le_of_ble_eq_true rfl) dX12_sure_36 ?_
      refine Ci.mono h ?_
      intro x4 M4 h
      refine V_iald (pc := 39) sM27 dX12_sure_39 h.1 ?_
      have h := h.2
      refine V_istore_n (pc := 40) dX12_sure_40 (by decide) ?_
      refine V_iload_n (pc := 41) dX12_sure_41 rfl ?_
      refine V_iload_n (pc := 42) dX12_sure_42 rfl ?_
      refine V_icmp_ne (tgt := 56) (pc := 43) dX12_sure_43 rfl (fun c => ?_) (fun c => ?_)
      · have h := h.1 c
        refine V_aload_n (pc := 56) dX12_sure_56 rfl ?_
        refine V_iload_n (pc := 57) dX12_sure_57 rfl ?_
        refine V_iload_n (pc := 58) dX12_sure_58 rfl ?_
        refine V_callVv [.int v1, .int v2] (pc := 59) kX12_partAll lX12_310 sM0 rfl rfl (Nat.le_of_ble_eq_true rfl) rfl (Nat.le_of_ble_eq_true rfl) dX12_sure_59 ?_
        refine Cv.mono h ?_
        intro M5 h
        refine V_aload_n (pc := 62) dX12_sure_62 rfl ?_
        refine V_getR (pc := 63) fX12_89 sM0 rfl dX12_sure_63 ?_
        refine V_aload_n (pc := 66) dX12_sure_66 rfl ?_
        refine V_callVi [] (pc := 67) kX12_all lX12_304 sM0 rfl rfl (Nat.le_of_ble_eq_true rfl) rfl (Nat.le_of_ble_eq_true rfl) dX12_sure_67 ?_
        refine Ci.mono h ?_
        intro x6 M6 h
        refine V_iald (pc := 70) sM27 dX12_sure_70 h.1 ?_
        have h := h.2
        refine V_iload_n (pc := 71) dX12_sure_71 rfl ?_
        refine V_icmp_ne (tgt := 87) (pc := 72) dX12_sure_72 rfl (fun c => ?_) (fun c => ?_)
        · have h := h.1 c
          refine V_lconst (v := 0) (pc := 87) dX12_sure_87 rfl ?_
          exact V_lret dX12_sure_88 rfl h
        · have h := h.2 c
          refine V_aload_n (pc := 75) dX12_sure_75 rfl ?_
          refine V_getR (pc := 76) fX12_92 sM0 rfl dX12_sure_76 ?_
          refine V_aload_n (pc := 79) dX12_sure_79 rfl ?_
          refine V_callVi [] (pc := 80) kX12_all lX12_304 sM0 rfl rfl (Nat.le_of_ble_eq_true rfl) rfl (Nat.le_of_ble_eq_true rfl) dX12_sure_80 ?_
          refine Ci.mono h ?_
          intro x7 M7 h
          refine V_lald (pc := 83) sM28 dX12_sure_83 h.1 ?_
          have h := h.2
          refine V_goto (tgt := 88) (pc := 84) dX12_sure_84 rfl ?_
          exact V_lret dX12_sure_88 rfl h
      · have h := h.2 c
        refine V_aload_n (pc := 46) dX12_sure_46 rfl ?_
        refine V_getR (pc := 47) fX12_92 sM0 rfl dX12_sure_47 ?_
        refine V_aload_n (pc := 50) dX12_sure_50 rfl ?_
        refine V_callVi [] (pc := 51) kX12_all lX12_304 sM0 rfl rfl (Nat.le_of_ble_eq_true rfl) rfl (Nat.le_of_ble_eq_true rfl) dX12_sure_51 ?_
        refine Ci.mono h ?_
        intro x8 M8 h
        refine V_lald (pc := 54) sM28 dX12_sure_54 h.1 ?_
        have h := h.2
        exact V_lret dX12_sure_55 rfl h
    · have h := h.2 c
      refine V_ldc2 (pc := 21) dX12_sure_21 nX12_308 ?_
      exact V_lret dX12_sure_24 rfl h
theorem wp_X12_read {G : GV} {k : Nat} {M : Mem} {q : Int32 → Mem → Prop}  (h : Cv shM G mX12_step (k + 5) [.ref (G.2.1 0)] (mset (mset (mset (mset (mset (mset (mset (mset (mset M 0 0 0) 0 31 (M.1 0 29)) 0 29 0) 0 32 0) 0 36 0) 0 38 (M.1 0 5)) 0 39 (M.1 0 10)) 0 40 (M.1 0 18)) 0 41 (M.1 0 23)) (fun M1 => V shM G mX12_read (k + 6) 64 [(0, .ref (G.2.1 0))] [] M1 (Qi q))) : Ci shM G mX12_read (k + 6) [.ref (G.2.1 0)] M q := by
  unfold Ci
  show V _ _ _ _ _ [(0, .ref (G.2.1 0))] _ _ _
  refine V_aload_n (pc := 0) dX12_read_0 rfl ?_
  refine V_iconst (v := 0) (pc := 1) dX12_read_1 rfl ?_
  refine V_putI (pc := 2) fX12_108 p12_0 sM0 rfl dX12_read_2 ?_
  refine V_aload_n (pc := 5) dX12_read_5 rfl ?_
  refine V_aload_n (pc := 6) dX12_read_6 rfl ?_
  refine V_getI (pc := 7) fX12_135 sM0 rfl dX12_read_7 ?_
  refine V_top (v := (M.1 0 29)) (by simp [mset, lset, upd]) ?_
  refine V_putI (pc := 10) fX12_141 p12_31 sM0 rfl dX12_read_10 ?_
  refine V_aload_n (pc := 13) dX12_read_13 rfl ?_
  refine V_iconst (v := 0) (pc := 14) dX12_read_14 rfl ?_
  refine V_putI (pc := 15) fX12_135 p12_29 sM0 rfl dX12_read_15 ?_
  refine V_aload_n (pc := 18) dX12_read_18 rfl ?_
  refine V_iconst (v := 0) (pc := 19) dX12_read_19 rfl ?_
  refine V_putI (pc := 20) fX12_145 p12_32 sM0 rfl dX12_read_20 ?_
  refine V_aload_n (pc := 23) dX12_read_23 rfl ?_
  refine V_iconst (v := 0) (pc := 24) dX12_read_24 rfl ?_
  refine V_putI (pc := 25) fX12_166 p12_36 sM0 rfl dX12_read_25 ?_
  refine V_aload_n (pc := 28) dX12_read_28 rfl ?_
  refine V_aload_n (pc := 29) dX12_read_29 rfl ?_
  refine V_getI (pc := 30) fX12_224 sM0 rfl dX12_read_30 ?_
  refine V_top (v := (M.1 0 5)) (by simp [mset, lset, upd]) ?_
  refine V_putI (pc := 33) fX12_186 p12_38 sM0 rfl dX12_read_33 ?_
  refine V_aload_n (pc := 36) dX12_read_36 rfl ?_
  refine V_aload_n (pc := 37) dX12_read_37 rfl ?_
  refine V_getI (pc := 38) fX12_227 sM0 rfl dX12_read_38 ?_
  refine V_top (v := (M.1 0 10)) (by simp [mset, lset, upd]) ?_
  refine V_putI (pc := 41) fX12_183 p12_39 sM0 rfl dX12_read_41 ?_
  refine V_aload_n (pc := 44) dX12_read_44 rfl ?_
  refine V_aload_n (pc := 45) dX12_read_45 rfl ?_
  refine V_getI (pc := 46) fX12_230 sM0 rfl dX12_read_46 ?_
  refine V_top (v := (M.1 0 18)) (by simp [mset, lset, upd]) ?_
  refine V_putI (pc := 49) fX12_218 p12_40 sM0 rfl dX12_read_49 ?_
  refine V_aload_n (pc := 52) dX12_read_52 rfl ?_
  refine V_aload_n (pc := 53) dX12_read_53 rfl ?_
  refine V_getI (pc := 54) fX12_233 sM0 rfl dX12_read_54 ?_
  refine V_top (v := (M.1 0 23)) (by simp [mset, lset, upd]) ?_
  refine V_putI (pc := 57) fX12_221 p12_41 sM0 rfl dX12_read_57 ?_
  refine V_aload_n (pc := 60) dX12_read_60 rfl ?_
  refine V_callVv [] (pc := 61) kX12_step lX12_176 sM0 rfl rfl (Nat.le_of_ble_eq_true rfl) rfl (Nat.le_of_ble_eq_true rfl) dX12_read_61 ?_
  refine Cv.mono h ?_
  intro M1 h
  exact V_sub h ⟨rfl, trivial⟩
theorem wp_X12_read_64 {G : GV} {k : Nat} {M : Mem} {q : Int32 → Mem → Prop}  (h : (((M.1 0 36) ≠ 0 → (((M.1 0 36) ≤ 0 → V shM G mX12_read (k + 6) 265 [(0, .ref (G.2.1 0)), (1, .int (M.1 0 5))] [] M (Qi q)) ∧ (¬ (M.1 0 36) ≤ 0 → q ((-1000100) - (M.1 0 37)) (mset M 0 30 (M.1 0 36))))) ∧ ((M.1 0 36) = 0 → (((M.1 0 33) = 1 → (((M.1 0 36) ≤ 0 → V shM G mX12_read (k + 6) 265 [(0, .ref (G.2.1 0)), (1, .int (M.1 0 5))] [] M (Qi q)) ∧ (¬ (M.1 0 36) ≤ 0 → q ((-1000100) - (M.1 0 37)) (mset M 0 30 (M.1 0 36))))) ∧ (¬ (M.1 0 33) = 1 → Cl shM G mX12_word (k + 5) [.ref (G.2.1 0)] M (fun x1 M1 => ((x1 ≠ 1651470187 → V shM G mX12_read (k + 6) 101 [(0, .ref (G.2.1 0)), (1, .long x1)] [] M1 (Qi q)) ∧ (x1 = 1651470187 → (((M1.1 0 38) = 10 → V shM G mX12_read (k + 6) 152 [(0, .ref (G.2.1 0)), (1, .long x1)] [] M1 (Qi q)) ∧ (¬ (M1.1 0 38) = 10 → V shM G mX12_read (k + 6) 101 [(0, .ref (G.2.1 0)), (1, .long x1)] [] M1 (Qi q))))))))))) : V shM G mX12_read (k + 6) 64 [(0, .ref (G.2.1 0))] [] M (Qi q) := by
  refine V_aload_n (pc := 64) dX12_read_64 rfl ?_
  refine V_getI (pc := 65) fX12_166 sM0 rfl dX12_read_65 ?_
  refine V_if_ne (tgt := 237) (pc := 68) dX12_read_68 rfl (fun c => ?_) (fun c => ?_)
  · have h := h.1 c
    refine V_aload_n (pc := 237) dX12_read_237 rfl ?_
    refine V_getI (pc := 238) fX12_166 sM0 rfl dX12_read_238 ?_
    refine V_if_le (tgt := 260) (pc := 241) dX12_read_241 rfl (fun c => ?_) (fun c => ?_)
    · have h := h.1 c
      refine V_aload_n (pc := 260) dX12_read_260 rfl ?_
      refine V_getI (pc := 261) fX12_224 sM0 rfl dX12_read_261 ?_
      refine V_istore_n (pc := 264) dX12_read_264 (by decide) ?_
      exact V_sub h ⟨rfl, rfl, trivial⟩
    · have h := h.2 c
      refine V_aload_n (pc := 244) dX12_read_244 rfl ?_
      refine V_aload_n (pc := 245) dX12_read_245 rfl ?_
      refine V_getI (pc := 246) fX12_166 sM0 rfl dX12_read_246 ?_
      refine V_putI (pc := 249) fX12_242 p12_30 sM0 rfl dX12_read_249 ?_
      refine V_ldc (pc := 252) dX12_read_252 nX12_245 ?_
      refine V_aload_n (pc := 254) dX12_read_254 rfl ?_
      refine V_getI (pc := 255) fX12_169 sM0 rfl dX12_read_255 ?_
      refine V_top (v := (M.1 0 37)) (by simp [mset, lset, upd]) ?_
      refine V_isub (pc := 258) dX12_read_258 ?_
      exact V_iret dX12_read_259 rfl h
  · have h := h.2 c
    refine V_aload_n (pc := 71) dX12_read_71 rfl ?_
    refine V_getI (pc := 72) fX12_154 sM0 rfl dX12_read_72 ?_
    refine V_iconst (v := 1) (pc := 75) dX12_read_75 rfl ?_
    refine V_icmp_eq (tgt := 237) (pc := 76) dX12_read_76 rfl (fun c => ?_) (fun c => ?_)
    · have h := h.1 c
      refine V_aload_n (pc := 237) dX12_read_237 rfl ?_
      refine V_getI (pc := 238) fX12_166 sM0 rfl dX12_read_238 ?_
      refine V_if_le (tgt := 260) (pc := 241) dX12_read_241 rfl (fun c => ?_) (fun c => ?_)
      · have h := h.1 c
        refine V_aload_n (pc := 260) dX12_read_260 rfl ?_
        refine V_getI (pc := 261) fX12_224 sM0 rfl dX12_read_261 ?_
        refine V_istore_n (pc := 264) dX12_read_264 (by decide) ?_
        exact V_sub h ⟨rfl, rfl, trivial⟩
      · have h := h.2 c
        refine V_aload_n (pc := 244) dX12_read_244 rfl ?_
        refine V_aload_n (pc := 245) dX12_read_245 rfl ?_
        refine V_getI (pc := 246) fX12_166 sM0 rfl dX12_read_246 ?_
        refine V_putI (pc := 249) fX12_242 p12_30 sM0 rfl dX12_read_249 ?_
        refine V_ldc (pc := 252) dX12_read_252 nX12_245 ?_
        refine V_aload_n (pc := 254) dX12_read_254 rfl ?_
        refine V_getI (pc := 255) fX12_169 sM0 rfl dX12_read_255 ?_
        refine V_top (v := (M.1 0 37)) (by simp [mset, lset, upd]) ?_
        refine V_isub (pc := 258) dX12_read_258 ?_
        exact V_iret dX12_read_259 rfl h
    · have h := h.2 c
      refine V_aload_n (pc := 79) dX12_read_79 rfl ?_
      refine V_callVl [] (pc := 80) kX12_word lX12_193 sM0 rfl rfl (Nat.le_of_ble_eq_true rfl) rfl (Nat.le_of_ble_eq_true rfl) dX12_read_80 ?_
      refine Cl.mono h ?_
      intro x1 M1 h
      refine V_lstore_n (pc := 83) dX12_read_83 (by decide) ?_
      refine V_lload_n (pc := 84) dX12_read_84 rfl ?_
      refine V_ldc2 (pc := 85) dX12_read_85 nX12_209 ?_
      refine V_lif_ne (tgt := 101) (pc := 88) dX12_read_88 dX12_read_89 rfl (fun c => ?_) (fun c => ?_)
      · have h := h.1 c
        exact V_sub h ⟨rfl, rfl, trivial⟩
      · have h := h.2 c
        refine V_aload_n (pc := 92) dX12_read_92 rfl ?_
        refine V_getI (pc := 93) fX12_186 sM0 rfl dX12_read_93 ?_
        refine V_bipush (v := 10) (pc := 96) dX12_read_96 rfl ?_
        refine V_icmp_eq (tgt := 152) (pc := 98) dX12_read_98 rfl (fun c => ?_) (fun c => ?_)
        · have h := h.1 c
          exact V_sub h ⟨rfl, rfl, trivial⟩
        · have h := h.2 c
          exact V_sub h ⟨rfl, rfl, trivial⟩
theorem wp_X12_read_101 {G : GV} {k : Nat} {M : Mem} {q : Int32 → Mem → Prop} {v1 : Int64} (h : ((v1 ≠ 1818848869 → V shM G mX12_read (k + 6) 118 [(0, .ref (G.2.1 0)), (1, .long v1)] [] M (Qi q)) ∧ (v1 = 1818848869 → (((M.1 0 39) = 12 → V shM G mX12_read (k + 6) 152 [(0, .ref (G.2.1 0)), (1, .long v1)] [] M (Qi q)) ∧ (¬ (M.1 0 39) = 12 → V shM G mX12_read (k + 6) 118 [(0, .ref (G.2.1 0)), (1, .long v1)] [] M (Qi q)))))) : V shM G mX12_read (k + 6) 101 [(0, .ref (G.2.1 0)), (1, .long v1)] [] M (Qi q) := by
  refine V_lload_n (pc := 101) dX12_read_101 rfl ?_
  refine V_ldc2 (pc := 102) dX12_read_102 nX12_211 ?_
  refine V_lif_ne (tgt := 118) (pc := 105) dX12_read_105 dX12_read_106 rfl (fun c => ?_) (fun c => ?_)
  · have h := h.1 c
    exact V_sub h ⟨rfl, rfl, trivial⟩
  · have h := h.2 c
    refine V_aload_n (pc := 109) dX12_read_109 rfl ?_
    refine V_getI (pc := 110) fX12_183 sM0 rfl dX12_read_110 ?_
    refine V_bipush (v := 12) (pc := 113) dX12_read_113 rfl ?_
    refine V_icmp_eq (tgt := 152) (pc := 115) dX12_read_115 rfl (fun c => ?_) (fun c => ?_)
    · have h := h.1 c
      exact V_sub h ⟨rfl, rfl, trivial⟩
    · have h := h.2 c
      exact V_sub h ⟨rfl, rfl, trivial⟩
theorem wp_X12_read_118 {G : GV} {k : Nat} {M : Mem} {q : Int32 → Mem → Prop} {v1 : Int64} (h : ((v1 ≠ 478660552050 → V shM G mX12_read (k + 6) 135 [(0, .ref (G.2.1 0)), (1, .long v1)] [] M (Qi q)) ∧ (v1 = 478660552050 → (((M.1 0 40) = 20 → V shM G mX12_read (k + 6) 152 [(0, .ref (G.2.1 0)), (1, .long v1)] [] M (Qi q)) ∧ (¬ (M.1 0 40) = 20 → V shM G mX12_read (k + 6) 135 [(0, .ref (G.2.1 0)), (1, .long v1)] [] M (Qi q)))))) : V shM G mX12_read (k + 6) 118 [(0, .ref (G.2.1 0)), (1, .long v1)] [] M (Qi q) := by
  refine V_lload_n (pc := 118) dX12_read_118 rfl ?_
  refine V_ldc2 (pc := 119) dX12_read_119 nX12_216 ?_
  refine V_lif_ne (tgt := 135) (pc := 122) dX12_read_122 dX12_read_123 rfl (fun c => ?_) (fun c => ?_)
  · have h := h.1 c
    exact V_sub h ⟨rfl, rfl, trivial⟩
  · have h := h.2 c
    refine V_aload_n (pc := 126) dX12_read_126 rfl ?_
    refine V_getI (pc := 127) fX12_218 sM0 rfl dX12_read_127 ?_
    refine V_bipush (v := 20) (pc := 130) dX12_read_130 rfl ?_
    refine V_icmp_eq (tgt := 152) (pc := 132) dX12_read_132 rfl (fun c => ?_) (fun c => ?_)
    · have h := h.1 c
      exact V_sub h ⟨rfl, rfl, trivial⟩
    · have h := h.2 c
      exact V_sub h ⟨rfl, rfl, trivial⟩
theorem wp_X12_read_135 {G : GV} {k : Nat} {M : Mem} {q : Int32 → Mem → Prop} {v1 : Int64} (h : ((v1 ≠ 448546567013 → V shM G mX12_read (k + 6) 157 [(0, .ref (G.2.1 0)), (1, .long v1)] [] M (Qi q)) ∧ (v1 = 448546567013 → (((M.1 0 41) ≠ 20 → V shM G mX12_read (k + 6) 157 [(0, .ref (G.2.1 0)), (1, .long v1)] [] M (Qi q)) ∧ ((M.1 0 41) = 20 → V shM G mX12_read (k + 6) 152 [(0, .ref (G.2.1 0)), (1, .long v1)] [] M (Qi q)))))) : V shM G mX12_read (k + 6) 135 [(0, .ref (G.2.1 0)), (1, .long v1)] [] M (Qi q) := by
  refine V_lload_n (pc := 135) dX12_read_135 rfl ?_
  refine V_ldc2 (pc := 136) dX12_read_136 nX12_236 ?_
  refine V_lif_ne (tgt := 157) (pc := 139) dX12_read_139 dX12_read_140 rfl (fun c => ?_) (fun c => ?_)
  · have h := h.1 c
    exact V_sub h ⟨rfl, rfl, trivial⟩
  · have h := h.2 c
    refine V_aload_n (pc := 143) dX12_read_143 rfl ?_
    refine V_getI (pc := 144) fX12_221 sM0 rfl dX12_read_144 ?_
    refine V_bipush (v := 20) (pc := 147) dX12_read_147 rfl ?_
    refine V_icmp_ne (tgt := 157) (pc := 149) dX12_read_149 rfl (fun c => ?_) (fun c => ?_)
    · have h := h.1 c
      exact V_sub h ⟨rfl, rfl, trivial⟩
    · have h := h.2 c
      exact V_sub h ⟨rfl, rfl, trivial⟩
theorem wp_X12_read_152 {G : GV} {k : Nat} {M : Mem} {q : Int32 → Mem → Prop} {v1 : Int64} (h : Cv shM G mX12_bad (k + 5) [.ref (G.2.1 0), .int 3] M (fun M1 => V shM G mX12_read (k + 6) 157 [(0, .ref (G.2.1 0)), (1, .long v1)] [] M1 (Qi q))) : V shM G mX12_read (k + 6) 152 [(0, .ref (G.2.1 0)), (1, .long v1)] [] M (Qi q) := by
  refine V_aload_n (pc := 152) dX12_read_152 rfl ?_
  refine V_iconst (v := 3) (pc := 153) dX12_read_153 rfl ?_
  refine V_callVv [.int 3] (pc := 154) kX12_bad lX12_172 sM0 rfl rfl (Nat.le_of_ble_eq_true rfl) rfl (Nat.le_of_ble_eq_true rfl) dX12_read_154 ?_
  refine Cv.mono h ?_
  intro M1 h
  exact V_sub h ⟨rfl, rfl, trivial⟩
theorem wp_X12_read_157 {G : GV} {k : Nat} {M : Mem} {q : Int32 → Mem → Prop} {v1 : Int64} (h : ((v1 = 1651470187 → Cv shM G mX12_need (k + 5) [.ref (G.2.1 0), .int 1] M (fun M1 => (((M1.1 0 36) ≠ 0 → (((M1.1 0 36) ≠ 0 → V shM G mX12_read (k + 6) 64 [(0, .ref (G.2.1 0))] [] M1 (Qi q)) ∧ ((M1.1 0 36) = 0 → (((M1.1 0 33) ≠ 4 → Cv shM G mX12_need (k + 5) [.ref (G.2.1 0), .int 0] M1 (fun M2 => V shM G mX12_read (k + 6) 64 [(0, .ref (G.2.1 0))] [] M2 (Qi q))) ∧ ((M1.1 0 33) = 4 → Cv shM G mX12_need (k + 5) [.ref (G.2.1 0), .int 1] M1 (fun M3 => V shM G mX12_read (k + 6) 64 [(0, .ref (G.2.1 0))] [] M3 (Qi q))))))) ∧ ((M1.1 0 36) = 0 → Cv shM G mX12_readPart (k + 5) [.ref (G.2.1 0), .long v1] M1 (fun M4 => (((M4.1 0 36) ≠ 0 → V shM G mX12_read (k + 6) 64 [(0, .ref (G.2.1 0))] [] M4 (Qi q)) ∧ ((M4.1 0 36) = 0 → (((M4.1 0 33) ≠ 4 → Cv shM G mX12_need (k + 5) [.ref (G.2.1 0), .int 0] M4 (fun M5 => V shM G mX12_read (k + 6) 64 [(0, .ref (G.2.1 0))] [] M5 (Qi q))) ∧ ((M4.1 0 33) = 4 → Cv shM G mX12_need (k + 5) [.ref (G.2.1 0), .int 1] M4 (fun M6 => V shM G mX12_read (k + 6) 64 [(0, .ref (G.2.1 0))] [] M6 (Qi q))))))))))) ∧ (¬ v1 = 1651470187 → ((v1 = 1818848869 → Cv shM G mX12_need (k + 5) [.ref (G.2.1 0), .int 1] M (fun M7 => (((M7.1 0 36) ≠ 0 → (((M7.1 0 36) ≠ 0 → V shM G mX12_read (k + 6) 64 [(0, .ref (G.2.1 0))] [] M7 (Qi q)) ∧ ((M7.1 0 36) = 0 → (((M7.1 0 33) ≠ 4 → Cv shM G mX12_need (k + 5) [.ref (G.2.1 0), .int 0] M7 (fun M8 => V shM G mX12_read (k + 6) 64 [(0, .ref (G.2.1 0))] [] M8 (Qi q))) ∧ ((M7.1 0 33) = 4 → Cv shM G mX12_need (k + 5) [.ref (G.2.1 0), .int 1] M7 (fun M9 => V shM G mX12_read (k + 6) 64 [(0, .ref (G.2.1 0))] [] M9 (Qi q))))))) ∧ ((M7.1 0 36) = 0 → Cv shM G mX12_readPart (k + 5) [.ref (G.2.1 0), .long v1] M7 (fun M10 => (((M10.1 0 36) ≠ 0 → V shM G mX12_read (k + 6) 64 [(0, .ref (G.2.1 0))] [] M10 (Qi q)) ∧ ((M10.1 0 36) = 0 → (((M10.1 0 33) ≠ 4 → Cv shM G mX12_need (k + 5) [.ref (G.2.1 0), .int 0] M10 (fun M11 => V shM G mX12_read (k + 6) 64 [(0, .ref (G.2.1 0))] [] M11 (Qi q))) ∧ ((M10.1 0 33) = 4 → Cv shM G mX12_need (k + 5) [.ref (G.2.1 0), .int 1] M10 (fun M12 => V shM G mX12_read (k + 6) 64 [(0, .ref (G.2.1 0))] [] M12 (Qi q))))))))))) ∧ (¬ v1 = 1818848869 → ((v1 = 478660552050 → Cv shM G mX12_need (k + 5) [.ref (G.2.1 0), .int 1] M (fun M13 => (((M13.1 0 36) ≠ 0 → (((M13.1 0 36) ≠ 0 → V shM G mX12_read (k + 6) 64 [(0, .ref (G.2.1 0))] [] M13 (Qi q)) ∧ ((M13.1 0 36) = 0 → (((M13.1 0 33) ≠ 4 → Cv shM G mX12_need (k + 5) [.ref (G.2.1 0), .int 0] M13 (fun M14 => V shM G mX12_read (k + 6) 64 [(0, .ref (G.2.1 0))] [] M14 (Qi q))) ∧ ((M13.1 0 33) = 4 → Cv shM G mX12_need (k + 5) [.ref (G.2.1 0), .int 1] M13 (fun M15 => V shM G mX12_read (k + 6) 64 [(0, .ref (G.2.1 0))] [] M15 (Qi q))))))) ∧ ((M13.1 0 36) = 0 → Cv shM G mX12_readPart (k + 5) [.ref (G.2.1 0), .long v1] M13 (fun M16 => (((M16.1 0 36) ≠ 0 → V shM G mX12_read (k + 6) 64 [(0, .ref (G.2.1 0))] [] M16 (Qi q)) ∧ ((M16.1 0 36) = 0 → (((M16.1 0 33) ≠ 4 → Cv shM G mX12_need (k + 5) [.ref (G.2.1 0), .int 0] M16 (fun M17 => V shM G mX12_read (k + 6) 64 [(0, .ref (G.2.1 0))] [] M17 (Qi q))) ∧ ((M16.1 0 33) = 4 → Cv shM G mX12_need (k + 5) [.ref (G.2.1 0), .int 1] M16 (fun M18 => V shM G mX12_read (k + 6) 64 [(0, .ref (G.2.1 0))] [] M18 (Qi q))))))))))) ∧ (¬ v1 = 478660552050 → ((v1 ≠ 448546567013 → Cv shM G mX12_need (k + 5) [.ref (G.2.1 0), .int 0] M (fun M19 => (((M19.1 0 36) ≠ 0 → (((M19.1 0 36) ≠ 0 → V shM G mX12_read (k + 6) 64 [(0, .ref (G.2.1 0))] [] M19 (Qi q)) ∧ ((M19.1 0 36) = 0 → (((M19.1 0 33) ≠ 4 → Cv shM G mX12_need (k + 5) [.ref (G.2.1 0), .int 0] M19 (fun M20 => V shM G mX12_read (k + 6) 64 [(0, .ref (G.2.1 0))] [] M20 (Qi q))) ∧ ((M19.1 0 33) = 4 → Cv shM G mX12_need (k + 5) [.ref (G.2.1 0), .int 1] M19 (fun M21 => V shM G mX12_read (k + 6) 64 [(0, .ref (G.2.1 0))] [] M21 (Qi q))))))) ∧ ((M19.1 0 36) = 0 → Cv shM G mX12_readPart (k + 5) [.ref (G.2.1 0), .long v1] M19 (fun M22 => (((M22.1 0 36) ≠ 0 → V shM G mX12_read (k + 6) 64 [(0, .ref (G.2.1 0))] [] M22 (Qi q)) ∧ ((M22.1 0 36) = 0 → (((M22.1 0 33) ≠ 4 → Cv shM G mX12_need (k + 5) [.ref (G.2.1 0), .int 0] M22 (fun M23 => V shM G mX12_read (k + 6) 64 [(0, .ref (G.2.1 0))] [] M23 (Qi q))) ∧ ((M22.1 0 33) = 4 → Cv shM G mX12_need (k + 5) [.ref (G.2.1 0), .int 1] M22 (fun M24 => V shM G mX12_read (k + 6) 64 [(0, .ref (G.2.1 0))] [] M24 (Qi q))))))))))) ∧ (v1 = 448546567013 → Cv shM G mX12_need (k + 5) [.ref (G.2.1 0), .int 1] M (fun M25 => (((M25.1 0 36) ≠ 0 → (((M25.1 0 36) ≠ 0 → V shM G mX12_read (k + 6) 64 [(0, .ref (G.2.1 0))] [] M25 (Qi q)) ∧ ((M25.1 0 36) = 0 → (((M25.1 0 33) ≠ 4 → Cv shM G mX12_need (k + 5) [.ref (G.2.1 0), .int 0] M25 (fun M26 => V shM G mX12_read (k + 6) 64 [(0, .ref (G.2.1 0))] [] M26 (Qi q))) ∧ ((M25.1 0 33) = 4 → Cv shM G mX12_need (k + 5) [.ref (G.2.1 0), .int 1] M25 (fun M27 => V shM G mX12_read (k + 6) 64 [(0, .ref (G.2.1 0))] [] M27 (Qi q))))))) ∧ ((M25.1 0 36) = 0 → Cv shM G mX12_readPart (k + 5) [.ref (G.2.1 0), .long v1] M25 (fun M28 => (((M28.1 0 36) ≠ 0 → V shM G mX12_read (k + 6) 64 [(0, .ref (G.2.1 0))] [] M28 (Qi q)) ∧ ((M28.1 0 36) = 0 → (((M28.1 0 33) ≠ 4 → Cv shM G mX12_need (k + 5) [.ref (G.2.1 0), .int 0] M28 (fun M29 => V shM G mX12_read (k + 6) 64 [(0, .ref (G.2.1 0))] [] M29 (Qi q))) ∧ ((M28.1 0 33) = 4 → Cv shM G mX12_need (k + 5) [.ref (G.2.1 0), .int 1] M28 (fun M30 => V shM G mX12_read (k + 6) 64 [(0, .ref (G.2.1 0))] [] M30 (Qi q))))))))))))))))))) : V shM G mX12_read (k + 6) 157 [(0, .ref (G.2.1 0)), (1, .long v1)] [] M (Qi q) := by
  refine V_aload_n (pc := 157) dX12_read_157 rfl ?_
  refine V_lload_n (pc := 158) dX12_read_158 rfl ?_
  refine V_ldc2 (pc := 159) dX12_read_159 nX12_209 ?_
  refine V_lif_eq (tgt := 190) (pc := 162) dX12_read_162 dX12_read_163 rfl (fun c => ?_) (fun c => ?_)
  · have h := h.1 c
    refine V_iconst (v := 1) (pc := 190) dX12_read_190 rfl ?_
    refine V_goto (tgt := 195) (pc := 191) dX12_read_191 rfl ?_
    refine V_callVv [.int 1] (pc := 195) kX12_need lX12_179 sM0 rfl rfl (Nat.le_of_ble_eq_true rfl) rfl (Nat.le_of_ble_eq_true rfl) dX12_read_195 ?_
    refine Cv.mono h ?_
    intro M1 h
    refine V_aload_n (pc := 198) dX12_read_198 rfl ?_
    refine V_getI (pc := 199) fX12_166 sM0 rfl dX12_read_199 ?_
    refine V_if_ne (tgt := 210) (pc := 202) dX12_read_202 rfl (fun c => ?_) (fun c => ?_)
    · have h := h.1 c
      refine V_aload_n (pc := 210) dX12_read_210 rfl ?_
      refine V_getI (pc := 211) fX12_166 sM0 rfl dX12_read_211 ?_
      refine V_if_ne (tgt := 234) (pc := 214) dX12_read_214 rfl (fun c => ?_) (fun c => ?_)
      · have h := h.1 c
        refine V_goto (tgt := 64) (pc := 234) dX12_read_234 rfl ?_
        exact V_sub h ⟨rfl, trivial⟩
      · have h := h.2 c
        refine V_aload_n (pc := 217) dX12_read_217 rfl ?_
        refine V_aload_n (pc := 218) dX12_read_218 rfl ?_
        refine V_getI (pc := 219) fX12_154 sM0 rfl dX12_read_219 ?_
        refine V_iconst (v := 4) (pc := 222) dX12_read_222 rfl ?_
        refine V_icmp_ne (tgt := 230) (pc := 223) dX12_read_223 rfl (fun c => ?_) (fun c => ?_)
        · have h := h.1 c
          refine V_iconst (v := 0) (pc := 230) dX12_read_230 rfl ?_
          refine V_callVv [.int 0] (pc := 231) kX12_need lX12_179 sM0 rfl rfl (Nat.le_of_ble_eq_true rfl) rfl (Nat.le_of_ble_eq_true rfl) dX12_read_231 ?_
          refine Cv.mono h ?_
          intro M2 h
          refine V_goto (tgt := 64) (pc := 234) dX12_read_234 rfl ?_
          exact V_sub h ⟨rfl, trivial⟩
        · have h := h.2 c
          refine V_iconst (v := 1) (pc := 226) dX12_read_226 rfl ?_
          refine V_goto (tgt := 231) (pc := 227) dX12_read_227 rfl ?_
          refine V_callVv [.int 1] (pc := 231) kX12_need lX12_179 sM0 rfl rfl (Nat.le_of_ble_eq_true rfl) rfl (Nat.le_of_ble_eq_true rfl) dX12_read_231 ?_
          refine Cv.mono h ?_
          intro M3 h
          refine V_goto (tgt := 64) (pc := 234) dX12_read_234 rfl ?_
          exact V_sub h ⟨rfl, trivial⟩
    · have h := h.2 c
      refine V_aload_n (pc := 205) dX12_read_205 rfl ?_
      refine V_lload_n (pc := 206) dX12_read_206 rfl ?_
      refine V_callVv [.long v1] (pc := 207) kX12_readPart lX12_238 sM0 rfl rfl (Nat.le_of_ble_eq_true rfl) rfl (Nat.le_of_ble_eq_true rfl) dX12_read_207 ?_
      refine Cv.mono h ?_
      intro M4 h
      refine V_aload_n (pc := 210) dX12_read_210 rfl ?_
      refine V_getI (pc := 211) fX12_166 sM0 rfl dX12_read_211 ?_
      refine V_if_ne (tgt := 234) (pc := 214) dX12_read_214 rfl (fun c => ?_) (fun c => ?_)
      · have h := h.1 c
        refine V_goto (tgt := 64) (pc := 234) dX12_read_234 rfl ?_
        exact V_sub h ⟨rfl, trivial⟩
      · have h := h.2 c
        refine V_aload_n (pc := 217) dX12_read_217 rfl ?_
        refine V_aload_n (pc := 218) dX12_read_218 rfl ?_
        refine V_getI (pc := 219) fX12_154 sM0 rfl dX12_read_219 ?_
        refine V_iconst (v := 4) (pc := 222) dX12_read_222 rfl ?_
        refine V_icmp_ne (tgt := 230) (pc := 223) dX12_read_223 rfl (fun c => ?_) (fun c => ?_)
        · have h := h.1 c
          refine V_iconst (v := 0) (pc := 230) dX12_read_230 rfl ?_
          refine V_callVv [.int 0] (pc := 231) kX12_need lX12_179 sM0 rfl rfl (Nat.le_of_ble_eq_true rfl) rfl (Nat.le_of_ble_eq_true rfl) dX12_read_231 ?_
          refine Cv.mono h ?_
          intro M5 h
          refine V_goto (tgt := 64) (pc := 234) dX12_read_234 rfl ?_
          exact V_sub h ⟨rfl, trivial⟩
        · have h := h.2 c
          refine V_iconst (v := 1) (pc := 226) dX12_read_226 rfl ?_
          refine V_goto (tgt := 231) (pc := 227) dX12_read_227 rfl ?_
          refine V_callVv [.int 1] (pc := 231) kX12_need lX12_179 sM0 rfl rfl (Nat.le_of_ble_eq_true rfl) rfl (Nat.le_of_ble_eq_true rfl) dX12_read_231 ?_
          refine Cv.mono h ?_
          intro M6 h
          refine V_goto (tgt := 64) (pc := 234) dX12_read_234 rfl ?_
          exact V_sub h ⟨rfl, trivial⟩
  · have h := h.2 c
    refine V_lload_n (pc := 166) dX12_read_166 rfl ?_
    refine V_ldc2 (pc := 167) dX12_read_167 nX12_211 ?_
    refine V_lif_eq (tgt := 190) (pc := 170) dX12_read_170 dX12_read_171 rfl (fun c => ?_) (fun c => ?_)
    · have h := h.1 c
      refine V_iconst (v := 1) (pc := 190) dX12_read_190 rfl ?_
      refine V_goto (tgt := 195) (pc := 191) dX12_read_191 rfl ?_
      refine V_callVv [.int 1] (pc := 195) kX12_need lX12_179 sM0 rfl rfl (Nat.le_of_ble_eq_true rfl) rfl (Nat.le_of_ble_eq_true rfl) dX12_read_195 ?_
      refine Cv.mono h ?_
      intro M7 h
      refine V_aload_n (pc := 198) dX12_read_198 rfl ?_
      refine V_getI (pc := 199) fX12_166 sM0 rfl dX12_read_199 ?_
      refine V_if_ne (tgt := 210) (pc := 202) dX12_read_202 rfl (fun c => ?_) (fun c => ?_)
      · have h := h.1 c
        refine V_aload_n (pc := 210) dX12_read_210 rfl ?_
        refine V_getI (pc := 211) fX12_166 sM0 rfl dX12_read_211 ?_
        refine V_if_ne (tgt := 234) (pc := 214) dX12_read_214 rfl (fun c => ?_) (fun c => ?_)
        · have h := h.1 c
          refine V_goto (tgt := 64) (pc := 234) dX12_read_234 rfl ?_
          exact V_sub h ⟨rfl, trivial⟩
        · have h := h.2 c
          refine V_aload_n (pc := 217) dX12_read_217 rfl ?_
          refine V_aload_n (pc := 218) dX12_read_218 rfl ?_
          refine V_getI (pc := 219) fX12_154 sM0 rfl dX12_read_219 ?_
          refine V_iconst (v := 4) (pc := 222) dX12_read_222 rfl ?_
          refine V_icmp_ne (tgt := 230) (pc := 223) dX12_read_223 rfl (fun c => ?_) (fun c => ?_)
          · have h := h.1 c
            refine V_iconst (v := 0) (pc := 230) dX12_read_230 rfl ?_
            refine V_callVv [.int 0] (pc := 231) kX12_need lX12_179 sM0 rfl rfl (Nat.le_of_ble_eq_true rfl) rfl (Nat.le_of_ble_eq_true rfl) dX12_read_231 ?_
            refine Cv.mono h ?_
            intro M8 h
            refine V_goto (tgt := 64) (pc := 234) dX12_read_234 rfl ?_
            exact V_sub h ⟨rfl, trivial⟩
          · have h := h.2 c
            refine V_iconst (v := 1) (pc := 226) dX12_read_226 rfl ?_
            refine V_goto (tgt := 231) (pc := 227) dX12_read_227 rfl ?_
            refine V_callVv [.int 1] (pc := 231) kX12_need lX12_179 sM0 rfl rfl (Nat.le_of_ble_eq_true rfl) rfl (Nat.le_of_ble_eq_true rfl) dX12_read_231 ?_
            refine Cv.mono h ?_
            intro M9 h
            refine V_goto (tgt := 64) (pc := 234) dX12_read_234 rfl ?_
            exact V_sub h ⟨rfl, trivial⟩
      · have h := h.2 c
        refine V_aload_n (pc := 205) dX12_read_205 rfl ?_
        refine V_lload_n (pc := 206) dX12_read_206 rfl ?_
        refine V_callVv [.long v1] (pc := 207) kX12_readPart lX12_238 sM0 rfl rfl (Nat.le_of_ble_eq_true rfl) rfl (Nat.le_of_ble_eq_true rfl) dX12_read_207 ?_
        refine Cv.mono h ?_
        intro M10 h
        refine V_aload_n (pc := 210) dX12_read_210 rfl ?_
        refine V_getI (pc := 211) fX12_166 sM0 rfl dX12_read_211 ?_
        refine V_if_ne (tgt := 234) (pc := 214) dX12_read_214 rfl (fun c => ?_) (fun c => ?_)
        · have h := h.1 c
          refine V_goto (tgt := 64) (pc := 234) dX12_read_234 rfl ?_
          exact V_sub h ⟨rfl, trivial⟩
        · have h := h.2 c
          refine V_aload_n (pc := 217) dX12_read_217 rfl ?_
          refine V_aload_n (pc := 218) dX12_read_218 rfl ?_
          refine V_getI (pc := 219) fX12_154 sM0 rfl dX12_read_219 ?_
          refine V_iconst (v := 4) (pc := 222) dX12_read_222 rfl ?_
          refine V_icmp_ne (tgt := 230) (pc := 223) dX12_read_223 rfl (fun c => ?_) (fun c => ?_)
          · have h := h.1 c
            refine V_iconst (v := 0) (pc := 230) dX12_read_230 rfl ?_
            refine V_callVv [.int 0] (pc := 231) kX12_need lX12_179 sM0 rfl rfl (Nat.le_of_ble_eq_true rfl) rfl (Nat.le_of_ble_eq_true rfl) dX12_read_231 ?_
            refine Cv.mono h ?_
            intro M11 h
            refine V_goto (tgt := 64) (pc := 234) dX12_read_234 rfl ?_
            exact V_sub h ⟨rfl, trivial⟩
          · have h := h.2 c
            refine V_iconst (v := 1) (pc := 226) dX12_read_226 rfl ?_
            refine V_goto (tgt := 231) (pc := 227) dX12_read_227 rfl ?_
            refine V_callVv [.int 1] (pc := 231) kX12_need lX12_179 sM0 rfl rfl (Nat.le_of_ble_eq_true rfl) rfl (Nat.le_of_ble_eq_true rfl) dX12_read_231 ?_
            refine Cv.mono h ?_
            intro M12 h
            refine V_goto (tgt := 64) (pc := 234) dX12_read_234 rfl ?_
            exact V_sub h ⟨rfl, trivial⟩
    · have h := h.2 c
      refine V_lload_n (pc := 174) dX12_read_174 rfl ?_
      refine V_ldc2 (pc := 175) dX12_read_175 nX12_216 ?_
      refine V_lif_eq (tgt := 190) (pc := 178) dX12_read_178 dX12_read_179 rfl (fun c => ?_) (fun c => ?_)
      · have h := h.1 c
        refine V_iconst (v := 1) (pc := 190) dX12_read_190 rfl ?_
        refine V_goto (tgt := 195) (pc := 191) dX12_read_191 rfl ?_
        refine V_callVv [.int 1] (pc := 195) kX12_need lX12_179 sM0 rfl rfl (Nat.le_of_ble_eq_true rfl) rfl (Nat.le_of_ble_eq_true rfl) dX12_read_195 ?_
        refine Cv.mono h ?_
        intro M13 h
        refine V_aload_n (pc := 198) dX12_read_198 rfl ?_
        refine V_getI (pc := 199) fX12_166 sM0 rfl dX12_read_199 ?_
        refine V_if_ne (tgt := 210) (pc := 202) dX12_read_202 rfl (fun c => ?_) (fun c => ?_)
        · have h := h.1 c
          refine V_aload_n (pc := 210) dX12_read_210 rfl ?_
          refine V_getI (pc := 211) fX12_166 sM0 rfl dX12_read_211 ?_
          refine V_if_ne (tgt := 234) (pc := 214) dX12_read_214 rfl (fun c => ?_) (fun c => ?_)
          · have h := h.1 c
            refine V_goto (tgt := 64) (pc := 234) dX12_read_234 rfl ?_
            exact V_sub h ⟨rfl, trivial⟩
          · have h := h.2 c
            refine V_aload_n (pc := 217) dX12_read_217 rfl ?_
            refine V_aload_n (pc := 218) dX12_read_218 rfl ?_
            refine V_getI (pc := 219) fX12_154 sM0 rfl dX12_read_219 ?_
            refine V_iconst (v := 4) (pc := 222) dX12_read_222 rfl ?_
            refine V_icmp_ne (tgt := 230) (pc := 223) dX12_read_223 rfl (fun c => ?_) (fun c => ?_)
            · have h := h.1 c
              refine V_iconst (v := 0) (pc := 230) dX12_read_230 rfl ?_
              refine V_callVv [.int 0] (pc := 231) kX12_need lX12_179 sM0 rfl rfl (Nat.le_of_ble_eq_true rfl) rfl (Nat.le_of_ble_eq_true rfl) dX12_read_231 ?_
              refine Cv.mono h ?_
              intro M14 h
              refine V_goto (tgt := 64) (pc := 234) dX12_read_234 rfl ?_
              exact V_sub h ⟨rfl, trivial⟩
            · have h := h.2 c
              refine V_iconst (v := 1) (pc := 226) dX12_read_226 rfl ?_
              refine V_goto (tgt := 231) (pc := 227) dX12_read_227 rfl ?_
              refine V_callVv [.int 1] (pc := 231) kX12_need lX12_179 sM0 rfl rfl (Nat.le_of_ble_eq_true rfl) rfl (Nat.le_of_ble_eq_true rfl) dX12_read_231 ?_
              refine Cv.mono h ?_
              intro M15 h
              refine V_goto (tgt := 64) (pc := 234) dX12_read_234 rfl ?_
              exact V_sub h ⟨rfl, trivial⟩
        · have h := h.2 c
          refine V_aload_n (pc := 205) dX12_read_205 rfl ?_
          refine V_lload_n (pc := 206) dX12_read_206 rfl ?_
          refine V_callVv [.long v1] (pc := 207) kX12_readPart lX12_238 sM0 rfl rfl (Nat.le_of_ble_eq_true rfl) rfl (Nat.le_of_ble_eq_true rfl) dX12_read_207 ?_
          refine Cv.mono h ?_
          intro M16 h
          refine V_aload_n (pc := 210) dX12_read_210 rfl ?_
          refine V_getI (pc := 211) fX12_166 sM0 rfl dX12_read_211 ?_
          refine V_if_ne (tgt := 234) (pc := 214) dX12_read_214 rfl (fun c => ?_) (fun c => ?_)
          · have h := h.1 c
            refine V_goto (tgt := 64) (pc := 234) dX12_read_234 rfl ?_
            exact V_sub h ⟨rfl, trivial⟩
          · have h := h.2 c
            refine V_aload_n (pc := 217) dX12_read_217 rfl ?_
            refine V_aload_n (pc := 218) dX12_read_218 rfl ?_
            refine V_getI (pc := 219) fX12_154 sM0 rfl dX12_read_219 ?_
            refine V_iconst (v := 4) (pc := 222) dX12_read_222 rfl ?_
            refine V_icmp_ne (tgt := 230) (pc := 223) dX12_read_223 rfl (fun c => ?_) (fun c => ?_)
            · have h := h.1 c
              refine V_iconst (v := 0) (pc := 230) dX12_read_230 rfl ?_
              refine V_callVv [.int 0] (pc := 231) kX12_need lX12_179 sM0 rfl rfl (Nat.le_of_ble_eq_true rfl) rfl (Nat.le_of_ble_eq_true rfl) dX12_read_231 ?_
              refine Cv.mono h ?_
              intro M17 h
              refine V_goto (tgt := 64) (pc := 234) dX12_read_234 rfl ?_
              exact V_sub h ⟨rfl, trivial⟩
            · have h := h.2 c
              refine V_iconst (v := 1) (pc := 226) dX12_read_226 rfl ?_
              refine V_goto (tgt := 231) (pc := 227) dX12_read_227 rfl ?_
              refine V_callVv [.int 1] (pc := 231) kX12_need lX12_179 sM0 rfl rfl (Nat.le_of_ble_eq_true rfl) rfl (Nat.le_of_ble_eq_true rfl) dX12_read_231 ?_
              refine Cv.mono h ?_
              intro M18 h
              refine V_goto (tgt := 64) (pc := 234) dX12_read_234 rfl ?_
              exact V_sub h ⟨rfl, trivial⟩
      · have h := h.2 c
        refine V_lload_n (pc := 182) dX12_read_182 rfl ?_
        refine V_ldc2 (pc := 183) dX12_read_183 nX12_236 ?_
        refine V_lif_ne (tgt := 194) (pc := 186) dX12_read_186 dX12_read_187 rfl (fun c => ?_) (fun c => ?_)
        · have h := h.1 c
          refine V_iconst (v := 0) (pc := 194) dX12_read_194 rfl ?_
          refine V_callVv [.int 0] (pc := 195) kX12_need lX12_179 sM0 rfl rfl (Nat.le_of_ble_eq_true rfl) rfl (Nat.le_of_ble_eq_true rfl) dX12_read_195 ?_
          refine Cv.mono h ?_
          intro M19 h
          refine V_aload_n (pc := 198) dX12_read_198 rfl ?_
          refine V_getI (pc := 199) fX12_166 sM0 rfl dX12_read_199 ?_
          refine V_if_ne (tgt := 210) (pc := 202) dX12_read_202 rfl (fun c => ?_) (fun c => ?_)
          · have h := h.1 c
            refine V_aload_n (pc := 210) dX12_read_210 rfl ?_
            refine V_getI (pc := 211) fX12_166 sM0 rfl dX12_read_211 ?_
            refine V_if_ne (tgt := 234) (pc := 214) dX12_read_214 rfl (fun c => ?_) (fun c => ?_)
            · have h := h.1 c
              refine V_goto (tgt := 64) (pc := 234) dX12_read_234 rfl ?_
              exact V_sub h ⟨rfl, trivial⟩
            · have h := h.2 c
              refine V_aload_n (pc := 217) dX12_read_217 rfl ?_
              refine V_aload_n (pc := 218) dX12_read_218 rfl ?_
              refine V_getI (pc := 219) fX12_154 sM0 rfl dX12_read_219 ?_
              refine V_iconst (v := 4) (pc := 222) dX12_read_222 rfl ?_
              refine V_icmp_ne (tgt := 230) (pc := 223) dX12_read_223 rfl (fun c => ?_) (fun c => ?_)
              · have h := h.1 c
                refine V_iconst (v := 0) (pc := 230) dX12_read_230 rfl ?_
                refine V_callVv [.int 0] (pc := 231) kX12_need lX12_179 sM0 rfl rfl (Nat.le_of_ble_eq_true rfl) rfl (Nat.le_of_ble_eq_true rfl) dX12_read_231 ?_
                refine Cv.mono h ?_
                intro M20 h
                refine V_goto (tgt := 64) (pc := 234) dX12_read_234 rfl ?_
                exact V_sub h ⟨rfl, trivial⟩
              · have h := h.2 c
                refine V_iconst (v := 1) (pc := 226) dX12_read_226 rfl ?_
                refine V_goto (tgt := 231) (pc := 227) dX12_read_227 rfl ?_
                refine V_callVv [.int 1] (pc := 231) kX12_need lX12_179 sM0 rfl rfl (Nat.le_of_ble_eq_true rfl) rfl (Nat.le_of_ble_eq_true rfl) dX12_read_231 ?_
                refine Cv.mono h ?_
                intro M21 h
                refine V_goto (tgt := 64) (pc := 234) dX12_read_234 rfl ?_
                exact V_sub h ⟨rfl, trivial⟩
          · have h := h.2 c
            refine V_aload_n (pc := 205) dX12_read_205 rfl ?_
            refine V_lload_n (pc := 206) dX12_read_206 rfl ?_
            refine V_callVv [.long v1] (pc := 207) kX12_readPart lX12_238 sM0 rfl rfl (Nat.le_of_ble_eq_true rfl) rfl (Nat.le_of_ble_eq_true rfl) dX12_read_207 ?_
            refine Cv.mono h ?_
            intro M22 h
            refine V_aload_n (pc := 210) dX12_read_210 rfl ?_
            refine V_getI (pc := 211) fX12_166 sM0 rfl dX12_read_211 ?_
            refine V_if_ne (tgt := 234) (pc := 214) dX12_read_214 rfl (fun c => ?_) (fun c => ?_)
            · have h := h.1 c
              refine V_goto (tgt := 64) (pc := 234) dX12_read_234 rfl ?_
              exact V_sub h ⟨rfl, trivial⟩
            · have h := h.2 c
              refine V_aload_n (pc := 217) dX12_read_217 rfl ?_
              refine V_aload_n (pc := 218) dX12_read_218 rfl ?_
              refine V_getI (pc := 219) fX12_154 sM0 rfl dX12_read_219 ?_
              refine V_iconst (v := 4) (pc := 222) dX12_read_222 rfl ?_
              refine V_icmp_ne (tgt := 230) (pc := 223) dX12_read_223 rfl (fun c => ?_) (fun c => ?_)
              · have h := h.1 c
                refine V_iconst (v := 0) (pc := 230) dX12_read_230 rfl ?_
                refine V_callVv [.int 0] (pc := 231) kX12_need lX12_179 sM0 rfl rfl (Nat.le_of_ble_eq_true rfl) rfl (Nat.le_of_ble_eq_true rfl) dX12_read_231 ?_
                refine Cv.mono h ?_
                intro M23 h
                refine V_goto (tgt := 64) (pc := 234) dX12_read_234 rfl ?_
                exact V_sub h ⟨rfl, trivial⟩
              · have h := h.2 c
                refine V_iconst (v := 1) (pc := 226) dX12_read_226 rfl ?_
                refine V_goto (tgt := 231) (pc := 227) dX12_read_227 rfl ?_
                refine V_callVv [.int 1] (pc := 231) kX12_need lX12_179 sM0 rfl rfl (Nat.le_of_ble_eq_true rfl) rfl (Nat.le_of_ble_eq_true rfl) dX12_read_231 ?_
                refine Cv.mono h ?_
                intro M24 h
                refine V_goto (tgt := 64) (pc := 234) dX12_read_234 rfl ?_
                exact V_sub h ⟨rfl, trivial⟩
        · have h := h.2 c
          refine V_iconst (v := 1) (pc := 190) dX12_read_190 rfl ?_
          refine V_goto (tgt := 195) (pc := 191) dX12_read_191 rfl ?_
          refine V_callVv [.int 1] (pc := 195) kX12_need lX12_179 sM0 rfl rfl (Nat.le_of_ble_eq_true rfl) rfl (Nat.le_of_ble_eq_true rfl) dX12_read_195 ?_
          refine Cv.mono h ?_
          intro M25 h
          refine V_aload_n (pc := 198) dX12_read_198 rfl ?_
          refine V_getI (pc := 199) fX12_166 sM0 rfl dX12_read_199 ?_
          refine V_if_ne (tgt := 210) (pc := 202) dX12_read_202 rfl (fun c => ?_) (fun c => ?_)
          · have h := h.1 c
            refine V_aload_n (pc := 210) dX12_read_210 rfl ?_
            refine V_getI (pc := 211) fX12_166 sM0 rfl dX12_read_211 ?_
            refine V_if_ne (tgt := 234) (pc := 214) dX12_read_214 rfl (fun c => ?_) (fun c => ?_)
            · have h := h.1 c
              refine V_goto (tgt := 64) (pc := 234) dX12_read_234 rfl ?_
              exact V_sub h ⟨rfl, trivial⟩
            · have h := h.2 c
              refine V_aload_n (pc := 217) dX12_read_217 rfl ?_
              refine V_aload_n (pc := 218) dX12_read_218 rfl ?_
              refine V_getI (pc := 219) fX12_154 sM0 rfl dX12_read_219 ?_
              refine V_iconst (v := 4) (pc := 222) dX12_read_222 rfl ?_
              refine V_icmp_ne (tgt := 230) (pc := 223) dX12_read_223 rfl (fun c => ?_) (fun c => ?_)
              · have h := h.1 c
                refine V_iconst (v := 0) (pc := 230) dX12_read_230 rfl ?_
                refine V_callVv [.int 0] (pc := 231) kX12_need lX12_179 sM0 rfl rfl (Nat.le_of_ble_eq_true rfl) rfl (Nat.le_of_ble_eq_true rfl) dX12_read_231 ?_
                refine Cv.mono h ?_
                intro M26 h
                refine V_goto (tgt := 64) (pc := 234) dX12_read_234 rfl ?_
                exact V_sub h ⟨rfl, trivial⟩
              · have h := h.2 c
                refine V_iconst (v := 1) (pc := 226) dX12_read_226 rfl ?_
                refine V_goto (tgt := 231) (pc := 227) dX12_read_227 rfl ?_
                refine V_callVv [.int 1] (pc := 231) kX12_need lX12_179 sM0 rfl rfl (Nat.le_of_ble_eq_true rfl) rfl (Nat.le_of_ble_eq_true rfl) dX12_read_231 ?_
                refine Cv.mono h ?_
                intro M27 h
                refine V_goto (tgt := 64) (pc := 234) dX12_read_234 rfl ?_
                exact V_sub h ⟨rfl, trivial⟩
          · have h := h.2 c
            refine V_aload_n (pc := 205) dX12_read_205 rfl ?_
            refine V_lload_n (pc := 206) dX12_read_206 rfl ?_
            refine V_callVv [.long v1] (pc := 207) kX12_readPart lX12_238 sM0 rfl rfl (Nat.le_of_ble_eq_true rfl) rfl (Nat.le_of_ble_eq_true rfl) dX12_read_207 ?_
            refine Cv.mono h ?_
            intro M28 h
            refine V_aload_n (pc := 210) dX12_read_210 rfl ?_
            refine V_getI (pc := 211) fX12_166 sM0 rfl dX12_read_211 ?_
            refine V_if_ne (tgt := 234) (pc := 214) dX12_read_214 rfl (fun c => ?_) (fun c => ?_)
            · have h := h.1 c
              refine V_goto (tgt := 64) (pc := 234) dX12_read_234 rfl ?_
              exact V_sub h ⟨rfl, trivial⟩
            · have h := h.2 c
              refine V_aload_n (pc := 217) dX12_read_217 rfl ?_
              refine V_aload_n (pc := 218) dX12_read_218 rfl ?_
              refine V_getI (pc := 219) fX12_154 sM0 rfl dX12_read_219 ?_
              refine V_iconst (v := 4) (pc := 222) dX12_read_222 rfl ?_
              refine V_icmp_ne (tgt := 230) (pc := 223) dX12_read_223 rfl (fun c => ?_) (fun c => ?_)
              · have h := h.1 c
                refine V_iconst (v := 0) (pc := 230) dX12_read_230 rfl ?_
                refine V_callVv [.int 0] (pc := 231) kX12_need lX12_179 sM0 rfl rfl (Nat.le_of_ble_eq_true rfl) rfl (Nat.le_of_ble_eq_true rfl) dX12_read_231 ?_
                refine Cv.mono h ?_
                intro M29 h
                refine V_goto (tgt := 64) (pc := 234) dX12_read_234 rfl ?_
                exact V_sub h ⟨rfl, trivial⟩
              · have h := h.2 c
                refine V_iconst (v := 1) (pc := 226) dX12_read_226 rfl ?_
                refine V_goto (tgt := 231) (pc := 227) dX12_read_227 rfl ?_
                refine V_callVv [.int 1] (pc := 231) kX12_need lX12_179 sM0 rfl rfl (Nat.le_of_ble_eq_true rfl) rfl (Nat.le_of_ble_eq_true rfl) dX12_read_231 ?_
                refine Cv.mono h ?_
                intro M30 h
                refine V_goto (tgt := 64) (pc := 234) dX12_read_234 rfl ?_
                exact V_sub h ⟨rfl, trivial⟩
theorem wp_X12_read_265 {G : GV} {k : Nat} {M : Mem} {q : Int32 → Mem → Prop} {v1 : Int32} (h : (((M.1 0 38) ≤ v1 → q (M.1 0 39) (mset (mset (mset (mset M 0 5 (M.1 0 38)) 0 10 (M.1 0 39)) 0 18 (M.1 0 40)) 0 23 (M.1 0 41))) ∧ (¬ (M.1 0 38) ≤ v1 → vp_in v1 10 ∧ V shM G mX12_read (k + 6) 265 [(0, .ref (G.2.1 0)), (1, .int (v1 + 1))] [] (mset M 7 (ix v1) (vp_nar .boolean 0)) (Qi q)))) : V shM G mX12_read (k + 6) 265 [(0, .ref (G.2.1 0)), (1, .int v1)] [] M (Qi q) := by
  refine V_iload_n (pc := 265) dX12_read_265 rfl ?_
  refine V_aload_n (pc := 266) dX12_read_266 rfl ?_
  refine V_getI (pc := 267) fX12_186 sM0 rfl dX12_read_267 ?_
  refine V_icmp_ge (tgt := 286) (pc := 270) dX12_read_270 rfl (fun c => ?_) (fun c => ?_)
  · have h := h.1 c
    refine V_aload_n (pc := 286) dX12_read_286 rfl ?_
    refine V_aload_n (pc := 287) dX12_read_287 rfl ?_
    refine V_getI (pc := 288) fX12_186 sM0 rfl dX12_read_288 ?_
    refine V_putI (pc := 291) fX12_224 p12_5 sM0 rfl dX12_read_291 ?_
    refine V_aload_n (pc := 294) dX12_read_294 rfl ?_
    refine V_aload_n (pc := 295) dX12_read_295 rfl ?_
    refine V_getI (pc := 296) fX12_183 sM0 rfl dX12_read_296 ?_
    refine V_top (v := (M.1 0 39)) (by simp [mset, lset, upd]) ?_
    refine V_putI (pc := 299) fX12_227 p12_10 sM0 rfl dX12_read_299 ?_
    refine V_aload_n (pc := 302) dX12_read_302 rfl ?_
    refine V_aload_n (pc := 303) dX12_read_303 rfl ?_
    refine V_getI (pc := 304) fX12_218 sM0 rfl dX12_read_304 ?_
    refine V_top (v := (M.1 0 40)) (by simp [mset, lset, upd]) ?_
    refine V_putI (pc := 307) fX12_230 p12_18 sM0 rfl dX12_read_307 ?_
    refine V_aload_n (pc := 310) dX12_read_310 rfl ?_
    refine V_aload_n (pc := 311) dX12_read_311 rfl ?_
    refine V_getI (pc := 312) fX12_221 sM0 rfl dX12_read_312 ?_
    refine V_top (v := (M.1 0 41)) (by simp [mset, lset, upd]) ?_
    refine V_putI (pc := 315) fX12_233 p12_23 sM0 rfl dX12_read_315 ?_
    refine V_aload_n (pc := 318) dX12_read_318 rfl ?_
    refine V_getI (pc := 319) fX12_227 sM0 rfl dX12_read_319 ?_
    refine V_top (v := (M.1 0 39)) (by simp [mset, lset, upd]) ?_
    exact V_iret dX12_read_322 rfl h
  · have h := h.2 c
    refine V_aload_n (pc := 273) dX12_read_273 rfl ?_
    refine V_getR (pc := 274) fX12_28 sM0 rfl dX12_read_274 ?_
    refine V_iload_n (pc := 277) dX12_read_277 rfl ?_
    refine V_iconst (v := 0) (pc := 278) dX12_read_278 rfl ?_
    refine V_zast (pc := 279) sM7 dX12_read_279 h.1 ?_
    have h := h.2
    refine V_iinc (pc := 280) dX12_read_280 rfl (by decide) ?_
    refine V_goto (tgt := 265) (pc := 283) dX12_read_283 rfl ?_
    exact V_sub h ⟨rfl, rfl, trivial⟩
