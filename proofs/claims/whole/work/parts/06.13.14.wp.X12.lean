theorem wp_X12_read {G : GV} {k : Nat} {M : Mem} {q : Int32 → Mem → Prop}  (h : Cv shM G mX12_step (k + 5) [.ref (G.2.1 0)] (mset (mset (mset (mset (mset (mset (mset (mset (mset M 0 0 0) 0 31 (M.1 0 29)) 0 29 0) 0 32 0) 0 36 0) 0 38 (M.1 0 5)) 0 39 (M.1 0 10)) 0 40 (M.1 0 18)) 0 41 (M.1 0 23)) (fun M1 => V shM G mX12_read (k + 6) 64 [(0, .ref (G.2.1 0))] [] M1 (Qi q))) : Ci shM G mX12_read (k + 6) [.ref (G.2.1 0)] M q := by
  unfold Ci
  show V _ _ _ _ _ [(0, .ref (G.2.1 0))] _ _ _
  refine V_aload_n (pc := 0) dX12_read_0 rfl ?_
  refine V_iconst (v := 0) (pc := 1) dX12_read_1 rfl ?_
  refine V_putI (pc := 2) fX12_108 p12_0 sM0 rfl dX12_read_2 ?_
  refine V_aload_n (pc := 5) dX12_read_5 rfl ?_
  refine V_aload_n (pc := 6) dX12_read_6 rfl ?_
  refine V_getI (pc := 7) fX12_135 sM0 rfl dX12_read_7 ?_
  refine V_top (v := (M.1 0 29)) (by simp [mset, lset, upd]) ?_
  refine V_putI (pc := 10) fX12_141 p12_31 sM0 rfl dX12_read_10 ?_
  refine V_aload_n (pc := 13) dX12_read_13 rfl ?_
  refine V_iconst (v := 0) (pc := 14) dX12_read_14 rfl ?_
  refine V_putI (pc := 15) fX12_135 p12_29 sM0 rfl dX12_read_15 ?_
  refine V_aload_n (pc := 18) dX12_read_18 rfl ?_
  refine V_iconst (v := 0) (pc := 19) dX12_read_19 rfl ?_
  refine V_putI (pc := 20) fX12_145 p12_32 sM0 rfl dX12_read_20 ?_
  refine V_aload_n (pc := 23) dX12_read_23 rfl ?_
  refine V_iconst (v := 0) (pc := 24) dX12_read_24 rfl ?_
  refine V_putI (pc := 25) fX12_166 p12_36 sM0 rfl dX12_read_25 ?_
  refine V_aload_n (pc := 28) dX12_read_28 rfl ?_
  refine V_aload_n (pc := 29) dX12_read_29 rfl ?_
  refine V_getI (pc := 30) fX12_224 sM0 rfl dX12_read_30 ?_
  refine V_top (v := (M.1 0 5)) (by simp [mset, lset, upd]) ?_
  refine V_putI (pc := 33) fX12_186 p12_38 sM0 rfl dX12_read_33 ?_
  refine V_aload_n (pc := 36) dX12_read_36 rfl ?_
  refine V_aload_n (pc := 37) dX12_read_37 rfl ?_
  refine V_getI (pc := 38) fX12_227 sM0 rfl dX12_read_38 ?_
  refine V_top (v := (M.1 0 10)) (by simp [mset, lset, upd]) ?_
  refine V_putI (pc := 41) fX12_183 p12_39 sM0 rfl dX12_read_41 ?_
  refine V_aload_n (pc := 44) dX12_read_44 rfl ?_
  refine V_aload_n (pc := 45) dX12_read_45 rfl ?_
  refine V_getI (pc := 46) fX12_230 sM0 rfl dX12_read_46 ?_
  refine V_top (v := (M.1 0 18)) (by simp [mset, lset, upd]) ?_
  refine V_putI (pc := 49) fX12_218 p12_40 sM0 rfl dX12_read_49 ?_
  refine V_aload_n (pc := 52) dX12_read_52 rfl ?_
  refine V_aload_n (pc := 53) dX12_read_53 rfl ?_
  refine V_getI (pc := 54) fX12_233 sM0 rfl dX12_read_54 ?_
  refine V_top (v := (M.1 0 23)) (by simp [mset, lset, upd]) ?_
  refine V_putI (pc := 57) fX12_221 p12_41 sM0 rfl dX12_read_57 ?_
  refine V_aload_n (pc := 60) dX12_read_60 rfl ?_
  refine V_callVv [] (pc := 61) kX12_step lX12_176 sM0 rfl rfl (Nat.le_of_ble_eq_true rfl) rfl (Nat.le_of_ble_eq_true rfl) dX12_read_61 ?_
  refine Cv.mono h ?_
  intro M1 h
  exact V_sub h ⟨rfl, trivial⟩
theorem wp_X12_read_64 {G : GV} {k : Nat} {M : Mem} {q : Int32 → Mem → Prop}  (h : (((M.1 0 36) ≠ 0 → (((M.1 0 36) ≤ 0 → V shM G mX12_read (k + 6) 265 [(0, .ref (G.2.1 0)), (1, .int (M.1 0 5))] [] M (Qi q)) ∧ (¬ (M.1 0 36) ≤ 0 → q ((-1000100) - (M.1 0 37)) (mset M 0 30 (M.1 0 36))))) ∧ ((M.1 0 36) = 0 → (((M.1 0 33) = 1 → (((M.1 0 36) ≤ 0 → V shM G mX12_read (k + 6) 265 [(0, .ref (G.2.1 0)), (1, .int (M.1 0 5))] [] M (Qi q)) ∧ (¬ (M.1 0 36) ≤ 0 → q ((-1000100) - (M.1 0 37)) (mset M 0 30 (M.1 0 36))))) ∧ (¬ (M.1 0 33) = 1 → Cl shM G mX12_word (k + 5) [.ref (G.2.1 0)] M (fun x1 M1 => ((x1 ≠ 1651470187 → V shM G mX12_read (k + 6) 101 [(0, .ref (G.2.1 0)), (1, .long x1)] [] M1 (Qi q)) ∧ (x1 = 1651470187 → (((M1.1 0 38) = 10 → V shM G mX12_read (k + 6) 152 [(0, .ref (G.2.1 0)), (1, .long x1)] [] M1 (Qi q)) ∧ (¬ (M1.1 0 38) = 10 → V shM G mX12_read (k + 6) 101 [(0, .ref (G.2.1 0)), (1, .long x1)] [] M1 (Qi q))))))))))) : V shM G mX12_read (k + 6) 64 [(0, .ref (G.2.1 0))] [] M (Qi q) := by
  refine V_aload_n (pc := 64) dX12_read_64 rfl ?_
  refine V_getI (pc := 65) fX12_166 sM0 rfl dX12_read_65 ?_
  refine V_if_ne (tgt := 237) (pc := 68) dX12_read_68 rfl (fun c => ?_) (fun c => ?_)
  · have h := h.1 c
    refine V_aload_n (pc := 237) dX12_read_237 rfl ?_
    refine V_getI (pc := 238) fX12_166 sM0 rfl dX12_read_238 ?_
    refine V_if_le (tgt := 260) (pc := 241) dX12_read_241 rfl (fun c => ?_) (fun c => ?_)
    · have h := h.1 c
      refine V_aload_n (pc := 260) dX12_read_260 rfl ?_
      refine V_getI (pc := 261) fX12_224 sM0 rfl dX12_read_261 ?_
      refine V_istore_n (pc := 264) dX12_read_264 (by decide) ?_
      refine V_lv (lv2 := [(0, .ref (G.2.1 0)), (1, .int (M.1 0 5))]) rfl ?_
      exact V_sub h ⟨rfl, rfl, trivial⟩
    · have h := h.2 c
      refine V_aload_n (pc := 244) dX12_read_244 rfl ?_
      refine V_aload_n (pc := 245) dX12_read_245 rfl ?_
      refine V_getI (pc := 246) fX12_166 sM0 rfl dX12_read_246 ?_
      refine V_putI (pc := 249) fX12_242 p12_30 sM0 rfl dX12_read_249 ?_
      refine V_ldc (pc := 252) dX12_read_252 nX12_245 ?_
      refine V_aload_n (pc := 254) dX12_read_254 rfl ?_
      refine V_getI (pc := 255) fX12_169 sM0 rfl dX12_read_255 ?_
      refine V_top (v := (M.1 0 37)) (by simp [mset, lset, upd]) ?_
      refine V_isub (pc := 258) dX12_read_258 ?_
      exact V_iret dX12_read_259 rfl h
  · have h := h.2 c
    refine V_aload_n (pc := 71) dX12_read_71 rfl ?_
    refine V_getI (pc := 72) fX12_154 sM0 rfl dX12_read_72 ?_
    refine V_iconst (v := 1) (pc := 75) dX12_read_75 rfl ?_
    refine V_icmp_eq (tgt := 237) (pc := 76) dX12_read_76 rfl (fun c => ?_) (fun c => ?_)
    · have h := h.1 c
      refine V_aload_n (pc := 237) dX12_read_237 rfl ?_
      refine V_getI (pc := 238) fX12_166 sM0 rfl dX12_read_238 ?_
      refine V_if_le (tgt := 260) (pc := 241) dX12_read_241 rfl (fun c => ?_) (fun c => ?_)
      · have h := h.1 c
        refine V_aload_n (pc := 260) dX12_read_260 rfl ?_
        refine V_getI (pc := 261) fX12_224 sM0 rfl dX12_read_261 ?_
        refine V_istore_n (pc := 264) dX12_read_264 (by decide) ?_
        refine V_lv (lv2 := [(0, .ref (G.2.1 0)), (1, .int (M.1 0 5))]) rfl ?_
        exact V_sub h ⟨rfl, rfl, trivial⟩
      · have h := h.2 c
        refine V_aload_n (pc := 244) dX12_read_244 rfl ?_
        refine V_aload_n (pc := 245) dX12_read_245 rfl ?_
        refine V_getI (pc := 246) fX12_166 sM0 rfl dX12_read_246 ?_
        refine V_putI (pc := 249) fX12_242 p12_30 sM0 rfl dX12_read_249 ?_
        refine V_ldc (pc := 252) dX12_read_252 nX12_245 ?_
        refine V_aload_n (pc := 254) dX12_read_254 rfl ?_
        refine V_getI (pc := 255) fX12_169 sM0 rfl dX12_read_255 ?_
        refine V_top (v := (M.1 0 37)) (by simp [mset, lset, upd]) ?_
        refine V_isub (pc := 258) dX12_read_258 ?_
        exact V_iret dX12_read_259 rfl h
    · have h := h.2 c
      refine V_aload_n (pc := 79) dX12_read_79 rfl ?_
      refine V_callVl [] (pc := 80) kX12_word lX12_193 sM0 rfl rfl (Nat.le_of_ble_eq_true rfl) rfl (Nat.le_of_ble_eq_true rfl) dX12_read_80 ?_
      refine Cl.mono h ?_
      intro x1 M1 h
      refine V_lstore_n (pc := 83) dX12_read_83 (by decide) ?_
      refine V_lv (lv2 := [(0, .ref (G.2.1 0)), (1, .long x1)]) rfl ?_
      refine V_lload_n (pc := 84) dX12_read_84 rfl ?_
      refine V_ldc2 (pc := 85) dX12_read_85 nX12_209 ?_
      refine V_lif_ne (tgt := 101) (pc := 88) dX12_read_88 dX12_read_89 rfl (fun c => ?_) (fun c => ?_)
      · have h := h.1 c
        exact V_sub h ⟨rfl, rfl, trivial⟩
      · have h := h.2 c
        refine V_aload_n (pc := 92) dX12_read_92 rfl ?_
        refine V_getI (pc := 93) fX12_186 sM0 rfl dX12_read_93 ?_
        refine V_bipush (v := 10) (pc := 96) dX12_read_96 rfl ?_
        refine V_icmp_eq (tgt := 152) (pc := 98) dX12_read_98 rfl (fun c => ?_) (fun c => ?_)
        · have h := h.1 c
          exact V_sub h ⟨rfl, rfl, trivial⟩
        · have h := h.2 c
          exact V_sub h ⟨rfl, rfl, trivial⟩
theorem wp_X12_read_101 {G : GV} {k : Nat} {M : Mem} {q : Int32 → Mem → Prop} {v1 : Int64} (h : ((v1 ≠ 1818848869 → V shM G mX12_read (k + 6) 118 [(0, .ref (G.2.1 0)), (1, .long v1)] [] M (Qi q)) ∧ (v1 = 1818848869 → (((M.1 0 39) = 12 → V shM G mX12_read (k + 6) 152 [(0, .ref (G.2.1 0)), (1, .long v1)] [] M (Qi q)) ∧ (¬ (M.1 0 39) = 12 → V shM G mX12_read (k + 6) 118 [(0, .ref (G.2.1 0)), (1, .long v1)] [] M (Qi q)))))) : V shM G mX12_read (k + 6) 101 [(0, .ref (G.2.1 0)), (1, .long v1)] [] M (Qi q) := by
  refine V_lload_n (pc := 101) dX12_read_101 rfl ?_
  refine V_ldc2 (pc := 102) dX12_read_102 nX12_211 ?_
  refine V_lif_ne (tgt := 118) (pc := 105) dX12_read_105 dX12_read_106 rfl (fun c => ?_) (fun c => ?_)
  · have h := h.1 c
    exact V_sub h ⟨rfl, rfl, trivial⟩
  · have h := h.2 c
    refine V_aload_n (pc := 109) dX12_read_109 rfl ?_
    refine V_getI (pc := 110) fX12_183 sM0 rfl dX12_read_110 ?_
    refine V_bipush (v := 12) (pc := 113) dX12_read_113 rfl ?_
    refine V_icmp_eq (tgt := 152) (pc := 115) dX12_read_115 rfl (fun c => ?_) (fun c => ?_)
    · have h := h.1 c
      exact V_sub h ⟨rfl, rfl, trivial⟩
    · have h := h.2 c
      exact V_sub h ⟨rfl, rfl, trivial⟩
theorem wp_X12_read_118 {G : GV} {k : Nat} {M : Mem} {q : Int32 → Mem → Prop} {v1 : Int64} (h : ((v1 ≠ 478660552050 → V shM G mX12_read (k + 6) 135 [(0, .ref (G.2.1 0)), (1, .long v1)] [] M (Qi q)) ∧ (v1 = 478660552050 → (((M.1 0 40) = 20 → V shM G mX12_read (k + 6) 152 [(0, .ref (G.2.1 0)), (1, .long v1)] [] M (Qi q)) ∧ (¬ (M.1 0 40) = 20 → V shM G mX12_read (k + 6) 135 [(0, .ref (G.2.1 0)), (1, .long v1)] [] M (Qi q)))))) : V shM G mX12_read (k + 6) 118 [(0, .ref (G.2.1 0)), (1, .long v1)] [] M (Qi q) := by
  refine V_lload_n (pc := 118) dX12_read_118 rfl ?_
  refine V_ldc2 (pc := 119) dX12_read_119 nX12_216 ?_
  refine V_lif_ne (tgt := 135) (pc := 122) dX12_read_122 dX12_read_123 rfl (fun c => ?_) (fun c => ?_)
  · have h := h.1 c
    exact V_sub h ⟨rfl, rfl, trivial⟩
  · have h := h.2 c
    refine V_aload_n (pc := 126) dX12_read_126 rfl ?_
    refine V_getI (pc := 127) fX12_218 sM0 rfl dX12_read_127 ?_
    refine V_bipush (v := 20) (pc := 130) dX12_read_130 rfl ?_
    refine V_icmp_eq (tgt := 152) (pc := 132) dX12_read_132 rfl (fun c => ?_) (fun c => ?_)
    · have h := h.1 c
      exact V_sub h ⟨rfl, rfl, trivial⟩
    · have h := h.2 c
      exact V_sub h ⟨rfl, rfl, trivial⟩
theorem wp_X12_read_135 {G : GV} {k : Nat} {M : Mem} {q : Int32 → Mem → Prop} {v1 : Int64} (h : ((v1 ≠ 448546567013 → V shM G mX12_read (k + 6) 157 [(0, .ref (G.2.1 0)), (1, .long v1)] [] M (Qi q)) ∧ (v1 = 448546567013 → (((M.1 0 41) ≠ 20 → V shM G mX12_read (k + 6) 157 [(0, .ref (G.2.1 0)), (1, .long v1)] [] M (Qi q)) ∧ ((M.1 0 41) = 20 → V shM G mX12_read (k + 6) 152 [(0, .ref (G.2.1 0)), (1, .long v1)] [] M (Qi q)))))) : V shM G mX12_read (k + 6) 135 [(0, .ref (G.2.1 0)), (1, .long v1)] [] M (Qi q) := by
  refine V_lload_n (pc := 135) dX12_read_135 rfl ?_
  refine V_ldc2 (pc := 136) dX12_read_136 nX12_236 ?_
  refine V_lif_ne (tgt := 157) (pc := 139) dX12_read_139 dX12_read_140 rfl (fun c => ?_) (fun c => ?_)
  · have h := h.1 c
    exact V_sub h ⟨rfl, rfl, trivial⟩
  · have h := h.2 c
    refine V_aload_n (pc := 143) dX12_read_143 rfl ?_
    refine V_getI (pc := 144) fX12_221 sM0 rfl dX12_read_144 ?_
    refine V_bipush (v := 20) (pc := 147) dX12_read_147 rfl ?_
    refine V_icmp_ne (tgt := 157) (pc := 149) dX12_read_149 rfl (fun c => ?_) (fun c => ?_)
    · have h := h.1 c
      exact V_sub h ⟨rfl, rfl, trivial⟩
    · have h := h.2 c
      exact V_sub h ⟨rfl, rfl, trivial⟩
theorem wp_X12_read_152 {G : GV} {k : Nat} {M : Mem} {q : Int32 → Mem → Prop} {v1 : Int64} (h : Cv shM G mX12_bad (k + 5) [.ref (G.2.1 0), .int 3] M (fun M1 => V shM G mX12_read (k + 6) 157 [(0, .ref (G.2.1 0)), (1, .long v1)] [] M1 (Qi q))) : V shM G mX12_read (k + 6) 152 [(0, .ref (G.2.1 0)), (1, .long v1)] [] M (Qi q) := by
  refine V_aload_n (pc := 152) dX12_read_152 rfl ?_
  refine V_iconst (v := 3) (pc := 153) dX12_read_153 rfl ?_
  refine V_callVv [.int 3] (pc := 154) kX12_bad lX12_172 sM0 rfl rfl (Nat.le_of_ble_eq_true rfl) rfl (Nat.le_of_ble_eq_true rfl) dX12_read_154 ?_
  refine Cv.mono h ?_
  intro M1 h
  exact V_sub h ⟨rfl, rfl, trivial⟩
theorem wp_X12_read_157 {G : GV} {k : Nat} {M : Mem} {q : Int32 → Mem → Prop} {v1 : Int64} (h : ((v1 = 1651470187 → Cv shM G mX12_need (k + 5) [.ref (G.2.1 0), .int 1] M (fun M1 => (((M1.1 0 36) ≠ 0 → (((M1.1 0 36) ≠ 0 → V shM G mX12_read (k + 6) 64 [(0, .ref (G.2.1 0))] [] M1 (Qi q)) ∧ ((M1.1 0 36) = 0 → (((M1.1 0 33) ≠ 4 → Cv shM G mX12_need (k + 5) [.ref (G.2.1 0), .int 0] M1 (fun M2 => V shM G mX12_read (k + 6) 64 [(0, .ref (G.2.1 0))] [] M2 (Qi q))) ∧ ((M1.1 0 33) = 4 → Cv shM G mX12_need (k + 5) [.ref (G.2.1 0), .int 1] M1 (fun M3 => V shM G mX12_read (k + 6) 64 [(0, .ref (G.2.1 0))] [] M3 (Qi q))))))) ∧ ((M1.1 0 36) = 0 → Cv shM G mX12_readPart (k + 5) [.ref (G.2.1 0), .long v1] M1 (fun M4 => (((M4.1 0 36) ≠ 0 → V shM G mX12_read (k + 6) 64 [(0, .ref (G.2.1 0))] [] M4 (Qi q)) ∧ ((M4.1 0 36) = 0 → (((M4.1 0 33) ≠ 4 → Cv shM G mX12_need (k + 5) [.ref (G.2.1 0), .int 0] M4 (fun M5 => V shM G mX12_read (k + 6) 64 [(0, .ref (G.2.1 0))] [] M5 (Qi q))) ∧ ((M4.1 0 33) = 4 → Cv shM G mX12_need (k + 5) [.ref (G.2.1 0), .int 1] M4 (fun M6 => V shM G mX12_read (k + 6) 64 [(0, .ref (G.2.1 0))] [] M6 (Qi q))))))))))) ∧ (¬ v1 = 1651470187 → ((v1 = 1818848869 → Cv shM G mX12_need (k + 5) [.ref (G.2.1 0), .int 1] M (fun M7 => (((M7.1 0 36) ≠ 0 → (((M7.1 0 36) ≠ 0 → V shM G mX12_read (k + 6) 64 [(0, .ref (G.2.1 0))] [] M7 (Qi q)) ∧ ((M7.1 0 36) = 0 → (((M7.1 0 33) ≠ 4 → Cv shM G mX12_need (k + 5) [.ref (G.2.1 0), .int 0] M7 (fun M8 => V shM G mX12_read (k + 6) 64 [(0, .ref (G.2.1 0))] [] M8 (Qi q))) ∧ ((M7.1 0 33) = 4 → Cv shM G mX12_need (k + 5) [.ref (G.2.1 0), .int 1] M7 (fun M9 => V shM G mX12_read (k + 6) 64 [(0, .ref (G.2.1 0))] [] M9 (Qi q))))))) ∧ ((M7.1 0 36) = 0 → Cv shM G mX12_readPart (k + 5) [.ref (G.2.1 0), .long v1] M7 (fun M10 => (((M10.1 0 36) ≠ 0 → V shM G mX12_read (k + 6) 64 [(0, .ref (G.2.1 0))] [] M10 (Qi q)) ∧ ((M10.1 0 36) = 0 → (((M10.1 0 33) ≠ 4 → Cv shM G mX12_need (k + 5) [.ref (G.2.1 0), .int 0] M10 (fun M11 => V shM G mX12_read (k + 6) 64 [(0, .ref (G.2.1 0))] [] M11 (Qi q))) ∧ ((M10.1 0 33) = 4 → Cv shM G mX12_need (k + 5) [.ref (G.2.1 0), .int 1] M10 (fun M12 => V shM G mX12_read (k + 6) 64 [(0, .ref (G.2.1 0))] [] M12 (Qi q))))))))))) ∧ (¬ v1 = 1818848869 → ((v1 = 478660552050 → Cv shM G mX12_need (k + 5) [.ref (G.2.1 0), .int 1] M (fun M13 => (((M13.1 0 36) ≠ 0 → (((M13.1 0 36) ≠ 0 → V shM G mX12_read (k + 6) 64 [(0, .ref (G.2.1 0))] [] M13 (Qi q)) ∧ ((M13.1 0 36) = 0 → (((M13.1 0 33) ≠ 4 → Cv shM G mX12_need (k + 5) [.ref (G.2.1 0), .int 0] M13 (fun M14 => V shM G mX12_read (k + 6) 64 [(0, .ref (G.2.1 0))] [] M14 (Qi q))) ∧ ((M13.1 0 33) = 4 → Cv shM G mX12_need (k + 5) [.ref (G.2.1 0), .int 1] M13 (fun M15 => V shM G mX12_read (k + 6) 64 [(0, .ref (G.2.1 0))] [] M15 (Qi q))))))) ∧ ((M13.1 0 36) = 0 → Cv shM G mX12_readPart (k + 5) [.ref (G.2.1 0), .long v1] M13 (fun M16 => (((M16.1 0 36) ≠ 0 → V shM G mX12_read (k + 6) 64 [(0, .ref (G.2.1 0))] [] M16 (Qi q)) ∧ ((M16.1 0 36) = 0 → (((M16.1 0 33) ≠ 4 → Cv shM G mX12_need (k + 5) [.ref (G.2.1 0), .int 0] M16 (fun M17 => V shM G mX12_read (k + 6) 64 [(0, .ref (G.2.1 0))] [] M17 (Qi q))) ∧ ((M16.1 0 33) = 4 → Cv shM G mX12_need (k + 5) [.ref (G.2.1 0), .int 1] M16 (fun M18 => V shM G mX12_read (k + 6) 64 [(0, .ref (G.2.1 0))] [] M18 (Qi q))))))))))) ∧ (¬ v1 = 478660552050 → ((v1 ≠ 448546567013 → Cv shM G mX12_need (k + 5) [.ref (G.2.1 0), .int 0] M (fun M19 => (((M19.1 0 36) ≠ 0 → (((M19.1 0 36) ≠ 0 → V shM G mX12_read (k + 6) 64 [(0, .ref (G.2.1 0))] [] M19 (Qi q)) ∧ ((M19.1 0 36) = 0 → (((M19.1 0 33) ≠ 4 → Cv shM G mX12_need (k + 5) [.ref (G.2.1 0), .int 0] M19 (fun M20 => V shM G mX12_read (k + 6) 64 [(0, .ref (G.2.1 0))] [] M20 (Qi q))) ∧ ((M19.1 0 33) = 4 → Cv shM G mX12_need (k + 5) [.ref (G.2.1 0), .int 1] M19 (fun M21 => V shM G mX12_read (k + 6) 64 [(0, .ref (G.2.1 0))] [] M21 (Qi q))))))) ∧ ((M19.1 0 36) = 0 → Cv shM G mX12_readPart (k + 5) [.ref (G.2.1 0), .long v1] M19 (fun M22 => (((M22.1 0 36) ≠ 0 → V shM G mX12_read (k + 6) 64 [(0, .ref (G.2.1 0))] [] M22 (Qi q)) ∧ ((M22.1 0 36) = 0 → (((M22.1 0 33) ≠ 4 → Cv shM G mX12_need (k + 5) [.ref (G.2.1 0), .int 0] M22 (fun M23 => V shM G mX12_read (k + 6) 64 [(0, .ref (G.2.1 0))] [] M23 (Qi q))) ∧ ((M22.1 0 33) = 4 → Cv shM G mX12_need (k + 5) [.ref (G.2.1 0), .int 1] M22 (fun M24 => V shM G mX12_read (k + 6) 64 [(0, .ref (G.2.1 0))] [] M24 (Qi q))))))))))) ∧ (v1 = 448546567013 → Cv shM G mX12_need (k + 5) [.ref (G.2.1 0), .int 1] M (fun M25 => (((M25.1 0 36) ≠ 0 → (((M25.1 0 36) ≠ 0 → V shM G mX12_read (k + 6) 64 [(0, .ref (G.2.1 0))] [] M25 (Qi q)) ∧ ((M25.1 0 36) = 0 → (((M25.1 0 33) ≠ 4 → Cv shM G mX12_need (k + 5) [.ref (G.2.1 0), .int 0] M25 (fun M26 => V shM G mX12_read (k + 6) 64 [(0, .ref (G.2.1 0))] [] M26 (Qi q))) ∧ ((M25.1 0 33) = 4 → Cv shM G mX12_need (k + 5) [.ref (G.2.1 0), .int 1] M25 (fun M27 => V shM G mX12_read (k + 6) 64 [(0, .ref (G.2.1 0))] [] M27 (Qi q))))))) ∧ ((M25.1 0 36) = 0 → Cv shM G mX12_readPart (k + 5) [.ref (G.2.1 0), .long v1] M25 (fun M28 => (((M28.1 0 36) ≠ 0 → V shM G mX12_read (k + 6) 64 [(0, .ref (G.2.1 0))] [] M28 (Qi q)) ∧ ((M28.1 0 36) = 0 → (((M28.1 0 33) ≠ 4 → Cv shM G mX12_need (k + 5) [.ref (G.2.1 0), .int 0] M28 (fun M29 => V shM G mX12_read (k + 6) 64 [(0, .ref (G.2.1 0))] [] M29 (Qi q))) ∧ ((M28.1 0 33) = 4 → Cv shM G mX12_need (k + 5) [.ref (G.2.1 0), .int 1] M28 (fun M30 => V shM G mX12_read (k + 6) 64 [(0, .ref (G.2.1 0))] [] M30 (Qi q))))))))))))))))))) : V shM G mX12_read (k + 6) 157 [(0, .ref (G.2.1 0)), (1, .long v1)] [] M (Qi q) := by
  refine V_aload_n (pc := 157) dX12_read_157 rfl ?_
  refine V_lload_n (pc := 158) dX12_read_158 rfl ?_
  refine V_ldc2 (pc := 159) dX12_read_159 nX12_209 ?_
  refine V_lif_eq (tgt := 190) (pc := 162) dX12_read_162 dX12_read_163 rfl (fun c => ?_) (fun c => ?_)
  · have h := h.1 c
    refine V_iconst (v := 1) (pc := 190) dX12_read_190 rfl ?_
    refine V_goto (tgt := 195) (pc := 191) dX12_read_191 rfl ?_
    refine V_callVv [.int 1] (pc := 195) kX12_need lX12_179 sM0 rfl rfl (Nat.le_of_ble_eq_true rfl) rfl (Nat.le_of_ble_eq_true rfl) dX12_read_195 ?_
    refine Cv.mono h ?_
    intro M1 h
    refine V_aload_n (pc := 198) dX12_read_198 rfl ?_
    refine V_getI (pc := 199) fX12_166 sM0 rfl dX12_read_199 ?_
    refine V_if_ne (tgt := 210) (pc := 202) dX12_read_202 rfl (fun c => ?_) (fun c => ?_)
    · have h := h.1 c
      refine V_aload_n (pc := 210) dX12_read_210 rfl ?_
      refine V_getI (pc := 211) fX12_166 sM0 rfl dX12_read_211 ?_
      refine V_if_ne (tgt := 234) (pc := 214) dX12_read_214 rfl (fun c => ?_) (fun c => ?_)
      · have h := h.1 c
        refine V_goto (tgt := 64) (pc := 234) dX12_read_234 rfl ?_
        exact V_sub h ⟨rfl, trivial⟩
      · have h := h.2 c
        refine V_aload_n (pc := 217) dX12_read_217 rfl ?_
        refine V_aload_n (pc := 218) dX12_read_218 rfl ?_
        refine V_getI (pc := 219) fX12_154 sM0 rfl dX12_read_219 ?_
        refine V_iconst (v := 4) (pc := 222) dX12_read_222 rfl ?_
        refine V_icmp_ne (tgt := 230) (pc := 223) dX12_read_223 rfl (fun c => ?_) (fun c => ?_)
        · have h := h.1 c
          refine V_iconst (v := 0) (pc := 230) dX12_read_230 rfl ?_
          refine V_callVv [.int 0] (pc := 231) kX12_need lX12_179 sM0 rfl rfl (Nat.le_of_ble_eq_true rfl) rfl (Nat.le_of_ble_eq_true rfl) dX12_read_231 ?_
          refine Cv.mono h ?_
          intro M2 h
          refine V_goto (tgt := 64) (pc := 234) dX12_read_234 rfl ?_
          exact V_sub h ⟨rfl, trivial⟩
        · have h := h.2 c
          refine V_iconst (v := 1) (pc := 226) dX12_read_226 rfl ?_
          refine V_goto (tgt := 231) (pc := 227) dX12_read_227 rfl ?_
          refine V_callVv [.int 1] (pc := 231) kX12_need lX12_179 sM0 rfl rfl (Nat.le_of_ble_eq_true rfl) rfl (Nat.le_of_ble_eq_true rfl) dX12_read_231 ?_
          refine Cv.mono h ?_
          intro M3 h
          refine V_goto (tgt := 64) (pc := 234) dX12_read_234 rfl ?_
          exact V_sub h ⟨rfl, trivial⟩
    · have h := h.2 c
      refine V_aload_n (pc := 205) dX12_read_205 rfl ?_
      refine V_lload_n (pc := 206) dX12_read_206 rfl ?_
      refine V_callVv [.long v1] (pc := 207) kX12_readPart lX12_238 sM0 rfl rfl (Nat.le_of_ble_eq_true rfl) rfl (Nat.le_of_ble_eq_true rfl) dX12_read_207 ?_
      refine Cv.mono h ?_
      intro M4 h
      refine V_aload_n (pc := 210) dX12_read_210 rfl ?_
      refine V_getI (pc := 211) fX12_166 sM0 rfl dX12_read_211 ?_
      refine V_if_ne (tgt := 234) (pc := 214) dX12_read_214 rfl (fun c => ?_) (fun c => ?_)
      · have h := h.1 c
        refine V_goto (tgt := 64) (pc := 234) dX12_read_234 rfl ?_
        exact V_sub h ⟨rfl, trivial⟩
      · have h := h.2 c
        refine V_aload_n (pc := 217) dX12_read_217 rfl ?_
        refine V_aload_n (pc := 218) dX12_read_218 rfl ?_
        refine V_getI (pc := 219) fX12_154 sM0 rfl dX12_read_219 ?_
        refine V_iconst (v := 4) (pc := 222) dX12_read_222 rfl ?_
        refine V_icmp_ne (tgt := 230) (pc := 223) dX12_read_223 rfl (fun c => ?_) (fun c => ?_)
        · have h := h.1 c
          refine V_iconst (v := 0) (pc := 230) dX12_read_230 rfl ?_
          refine V_callVv [.int 0] (pc := 231) kX12_need lX12_179 sM0 rfl rfl (Nat.le_of_ble_eq_true rfl) rfl (Nat.le_of_ble_eq_true rfl) dX12_read_231 ?_
          refine Cv.mono h ?_
          intro M5 h
          refine V_goto (tgt := 64) (pc := 234) dX12_read_234 rfl ?_
          exact V_sub h ⟨rfl, trivial⟩
        · have h := h.2 c
          refine V_iconst (v := 1) (pc := 226) dX12_read_226 rfl ?_
          refine V_goto (tgt := 231) (pc := 227) dX12_read_227 rfl ?_
          refine V_callVv [.int 1] (pc := 231) kX12_need lX12_179 sM0 rfl rfl (Nat.le_of_ble_eq_true rfl) rfl (Nat.le_of_ble_eq_true rfl) dX12_read_231 ?_
          refine Cv.mono h ?_
          intro M6 h
          refine V_goto (tgt := 64) (pc := 234) dX12_read_234 rfl ?_
          exact V_sub h ⟨rfl, trivial⟩
  · have h := h.2 c
    refine V_lload_n (pc := 166) dX12_read_166 rfl ?_
    refine V_ldc2 (pc := 167) dX12_read_167 nX12_211 ?_
    refine V_lif_eq (tgt := 190) (pc := 170) dX12_read_170 dX12_read_171 rfl (fun c => ?_) (fun c => ?_)
    · have h := h.1 c
      refine V_iconst (v := 1) (pc := 190) dX12_read_190 rfl ?_
      refine V_goto (tgt := 195) (pc := 191) dX12_read_191 rfl ?_
      refine V_callVv [.int 1] (pc := 195) kX12_need lX12_179 sM0 rfl rfl (Nat.le_of_ble_eq_true rfl) rfl (Nat.le_of_ble_eq_true rfl) dX12_read_195 ?_
      refine Cv.mono h ?_
      intro M7 h
      refine V_aload_n (pc := 198) dX12_read_198 rfl ?_
      refine V_getI (pc := 199) fX12_166 sM0 rfl dX12_read_199 ?_
      refine V_if_ne (tgt := 210) (pc := 202) dX12_read_202 rfl (fun c => ?_) (fun c => ?_)
      · have h := h.1 c
        refine V_aload_n (pc := 210) dX12_read_210 rfl ?_
        refine V_getI (pc := 211) fX12_166 sM0 rfl dX12_read_211 ?_
        refine V_if_ne (tgt := 234) (pc := 214) dX12_read_214 rfl (fun c => ?_) (fun c => ?_)
        · have h := h.1 c
          refine V_goto (tgt := 64) (pc := 234) dX12_read_234 rfl ?_
          exact V_sub h ⟨rfl, trivial⟩
        · have h := h.2 c
          refine V_aload_n (pc := 217) dX12_read_217 rfl ?_
          refine V_aload_n (pc := 218) dX12_read_218 rfl ?_
          refine V_getI (pc := 219) fX12_154 sM0 rfl dX12_read_219 ?_
          refine V_iconst (v := 4) (pc := 222) dX12_read_222 rfl ?_
          refine V_icmp_ne (tgt := 230) (pc := 223) dX12_read_223 rfl (fun c => ?_) (fun c => ?_)
          · have h := h.1 c
            refine V_iconst (v := 0) (pc := 230) dX12_read_230 rfl ?_
            refine V_callVv [.int 0] (pc := 231) kX12_need lX12_179 sM0 rfl rfl (Nat.le_of_ble_eq_true rfl) rfl (Nat.le_of_ble_eq_true rfl) dX12_read_231 ?_
            refine Cv.mono h ?_
            intro M8 h
            refine V_goto (tgt := 64) (pc := 234) dX12_read_234 rfl ?_
            exact V_sub h ⟨rfl, trivial⟩
          · have h := h.2 c
            refine V_iconst (v := 1) (pc := 226) dX12_read_226 rfl ?_
            refine V_goto (tgt := 231) (pc := 227) dX12_read_227 rfl ?_
            refine V_callVv [.int 1] (pc := 231) kX12_need lX12_179 sM0 rfl rfl (Nat.le_of_ble_eq_true rfl) rfl (Nat.le_of_ble_eq_true rfl) dX12_read_231 ?_
            refine Cv.mono h ?_
            intro M9 h
            refine V_goto (tgt := 64) (pc := 234) dX12_read_234 rfl ?_
            exact V_sub h ⟨rfl, trivial⟩
      · have h := h.2 c
        refine V_aload_n (pc := 205) dX12_read_205 rfl ?_
        refine V_lload_n (pc := 206) dX12_read_206 rfl ?_
        refine V_callVv [.long v1] (pc := 207) kX12_readPart lX12_238 sM0 rfl rfl (Nat.le_of_ble_eq_true rfl) rfl (Nat.le_of_ble_eq_true rfl) dX12_read_207 ?_
        refine Cv.mono h ?_
        intro M10 h
        refine V_aload_n (pc := 210) dX12_read_210 rfl ?_
        refine V_getI (pc := 211) fX12_166 sM0 rfl dX12_read_211 ?_
        refine V_if_ne (tgt := 234) (pc := 214) dX12_read_214 rfl (fun c => ?_) (fun c => ?_)
        · have h := h.1 c
          refine V_goto (tgt := 64) (pc := 234) dX12_read_234 rfl ?_
          exact V_sub h ⟨rfl, trivial⟩
        · have h := h.2 c
          refine V_aload_n (pc := 217) dX12_read_217 rfl ?_
          refine V_aload_n (pc := 218) dX12_read_218 rfl ?_
          refine V_getI (pc := 219) fX12_154 sM0 rfl dX12_read_219 ?_
          refine V_iconst (v := 4) (pc := 222) dX12_read_222 rfl ?_
          refine V_icmp_ne (tgt := 230) (pc := 223) dX12_read_223 rfl (fun c => ?_) (fun c => ?_)
          · have h := h.1 c
            refine V_iconst (v := 0) (pc := 230) dX12_read_230 rfl ?_
            refine V_callVv [.int 0] (pc := 231) kX12_need lX12_179 sM0 rfl rfl (Nat.le_of_ble_eq_true rfl) rfl (Nat.le_of_ble_eq_true rfl) dX12_read_231 ?_
            refine Cv.mono h ?_
            intro M11 h
            refine V_goto (tgt := 64) (pc := 234) dX12_read_234 rfl ?_
            exact V_sub h ⟨rfl, trivial⟩
          · have h := h.2 c
            refine V_iconst (v := 1) (pc := 226) dX12_read_226 rfl ?_
            refine V_goto (tgt := 231) (pc := 227) dX12_read_227 rfl ?_
            refine V_callVv [.int 1] (pc := 231) kX12_need lX12_179 sM0 rfl rfl (Nat.le_of_ble_eq_true rfl) rfl (Nat.le_of_ble_eq_true rfl) dX12_read_231 ?_
            refine Cv.mono h ?_
            intro M12 h
            refine V_goto (tgt := 64) (pc := 234) dX12_read_234 rfl ?_
            exact V_sub h ⟨rfl, trivial⟩
    · have h := h.2 c
      refine V_lload_n (pc := 174) dX12_read_174 rfl ?_
      refine V_ldc2 (pc := 175) dX12_read_175 nX12_216 ?_
      refine V_lif_eq (tgt := 190) (pc := 178) dX12_read_178 dX12_read_179 rfl (fun c => ?_) (fun c => ?_)
      · have h := h.1 c
        refine V_iconst (v := 1) (pc := 190) dX12_read_190 rfl ?_
        refine V_goto (tgt := 195) (pc := 191) dX12_read_191 rfl ?_
        refine V_callVv [.int 1] (pc := 195) kX12_need lX12_179 sM0 rfl rfl (Nat.le_of_ble_eq_true rfl) rfl (Nat.le_of_ble_eq_true rfl) dX12_read_195 ?_
        refine Cv.mono h ?_
        intro M13 h
        refine V_aload_n (pc := 198) dX12_read_198 rfl ?_
        refine V_getI (pc := 199) fX12_166 sM0 rfl dX12_read_199 ?_
        refine V_if_ne (tgt := 210) (pc := 202) dX12_read_202 rfl (fun c => ?_) (fun c => ?_)
        · have h := h.1 c
          refine V_aload_n (pc := 210) dX12_read_210 rfl ?_
          refine V_getI (pc := 211) fX12_166 sM0 rfl dX12_read_211 ?_
          refine V_if_ne (tgt := 234) (pc := 214) dX12_read_214 rfl (fun c => ?_) (fun c => ?_)
          · have h := h.1 c
            refine V_goto (tgt := 64) (pc := 234) dX12_read_234 rfl ?_
            exact V_sub h ⟨rfl, trivial⟩
          · have h := h.2 c
            refine V_aload_n (pc := 217) dX12_read_217 rfl ?_
            refine V_aload_n (pc := 218) dX12_read_218 rfl ?_
            refine V_getI (pc := 219) fX12_154 sM0 rfl dX12_read_219 ?_
            refine V_iconst (v := 4) (pc := 222) dX12_read_222 rfl ?_
            refine V_icmp_ne (tgt := 230) (pc := 223) dX12_read_223 rfl (fun c => ?_) (fun c => ?_)
            · have h := h.1 c
              refine V_iconst (v := 0) (pc := 230) dX12_read_230 rfl ?_
              refine V_callVv [.int 0] (pc := 231) kX12_need lX12_179 sM0 rfl rfl (Nat.le_of_ble_eq_true rfl) rfl (Nat.le_of_ble_eq_true rfl) dX12_read_231 ?_
              refine Cv.mono h ?_
              intro M14 h
              refine V_goto (tgt := 64) (pc := 234) dX12_read_234 rfl ?_
              exact V_sub h ⟨rfl, trivial⟩
            · have h := h.2 c
              refine V_iconst (v := 1) (pc := 226) dX12_read_226 rfl ?_
              refine V_goto (tgt := 231) (pc := 227) dX12_read_227 rfl ?_
              refine V_callVv [.int 1] (pc := 231) kX12_need lX12_179 sM0 rfl rfl (Nat.le_of_ble_eq_true rfl) rfl (Nat.le_of_ble_eq_true rfl) dX12_read_231 ?_
              refine Cv.mono h ?_
              intro M15 h
              refine V_goto (tgt := 64) (pc := 234) dX12_read_234 rfl ?_
              exact V_sub h ⟨rfl, trivial⟩
        · have h := h.2 c
          refine V_aload_n (pc := 205) dX12_read_205 rfl ?_
          refine V_lload_n (pc := 206) dX12_read_206 rfl ?_
          refine V_callVv [.long v1] (pc := 207) kX12_readPart lX12_238 sM0 rfl rfl (Nat.le_of_ble_eq_true rfl) rfl (Nat.le_of_ble_eq_true rfl) dX12_read_207 ?_
          refine Cv.mono h ?_
          intro M16 h
          refine V_aload_n (pc := 210) dX12_read_210 rfl ?_
          refine V_getI (pc := 211) fX12_166 sM0 rfl dX12_read_211 ?_
          refine V_if_ne (tgt := 234) (pc := 214) dX12_read_214 rfl (fun c => ?_) (fun c => ?_)
          · have h := h.1 c
            refine V_goto (tgt := 64) (pc := 234) dX12_read_234 rfl ?_
            exact V_sub h ⟨rfl, trivial⟩
          · have h := h.2 c
            refine V_aload_n (pc := 217) dX12_read_217 rfl ?_
            refine V_aload_n (pc := 218) dX12_read_218 rfl ?_
            refine V_getI (pc := 219) fX12_154 sM0 rfl dX12_read_219 ?_
            refine V_iconst (v := 4) (pc := 222) dX12_read_222 rfl ?_
            refine V_icmp_ne (tgt := 230) (pc := 223) dX12_read_223 rfl (fun c => ?_) (fun c => ?_)
            · have h := h.1 c
              refine V_iconst (v := 0) (pc := 230) dX12_read_230 rfl ?_
              refine V_callVv [.int 0] (pc := 231) kX12_need lX12_179 sM0 rfl rfl (Nat.le_of_ble_eq_true rfl) rfl (Nat.le_of_ble_eq_true rfl) dX12_read_231 ?_
              refine Cv.mono h ?_
              intro M17 h
              refine V_goto (tgt := 64) (pc := 234) dX12_read_234 rfl ?_
              exact V_sub h ⟨rfl, trivial⟩
            · have h := h.2 c
              refine V_iconst (v := 1) (pc := 226) dX12_read_226 rfl ?_
              refine V_goto (tgt := 231) (pc := 227) dX12_read_227 rfl ?_
              refine V_callVv [.int 1] (pc := 231) kX12_need lX12_179 sM0 rfl rfl (Nat.le_of_ble_eq_true rfl) rfl (Nat.le_of_ble_eq_true rfl) dX12_read_231 ?_
              refine Cv.mono h ?_
              intro M18 h
              refine V_goto (tgt := 64) (pc := 234) dX12_read_234 rfl ?_
              exact V_sub h ⟨rfl, trivial⟩
      · have h := h.2 c
        refine V_lload_n (pc := 182) dX12_read_182 rfl ?_
        refine V_ldc2 (pc := 183) dX12_read_183 nX12_236 ?_
        refine V_lif_ne (tgt := 194) (pc := 186) dX12_read_186 dX12_read_187 rfl (fun c => ?_) (fun c => ?_)
        · have h := h.1 c
          refine V_iconst (v := 0) (pc := 194) dX12_read_194 rfl ?_
          refine V_callVv [.int 0] (pc := 195) kX12_need lX12_179 sM0 rfl rfl (Nat.le_of_ble_eq_true rfl) rfl (Nat.le_of_ble_eq_true rfl) dX12_read_195 ?_
          refine Cv.mono h ?_
          intro M19 h
          refine V_aload_n (pc := 198) dX12_read_198 rfl ?_
          refine V_getI (pc := 199) fX12_166 sM0 rfl dX12_read_199 ?_
          refine V_if_ne (tgt := 210) (pc := 202) dX12_read_202 rfl (fun c => ?_) (fun c => ?_)
          · have h := h.1 c
            refine V_aload_n (pc := 210) dX12_read_210 rfl ?_
            refine V_getI (pc := 211) fX12_166 sM0 rfl dX12_read_211 ?_
            refine V_if_ne (tgt := 234) (pc := 214) dX12_read_214 rfl (fun c => ?_) (fun c => ?_)
            · have h := h.1 c
              refine V_goto (tgt := 64) (pc := 234) dX12_read_234 rfl ?_
              exact V_sub h ⟨rfl, trivial⟩
            · have h := h.2 c
              refine V_aload_n (pc := 217) dX12_read_217 rfl ?_
              refine V_aload_n (pc := 218) dX12_read_218 rfl ?_
              refine V_getI (pc := 219) fX12_154 sM0 rfl dX12_read_219 ?_
              refine V_iconst (v := 4) (pc := 222) dX12_read_222 rfl ?_
              refine V_icmp_ne (tgt := 230) (pc := 223) dX12_read_223 rfl (fun c => ?_) (fun c => ?_)
              · have h := h.1 c
                refine V_iconst (v := 0) (pc := 230) dX12_read_230 rfl ?_
                refine V_callVv [.int 0] (pc := 231) kX12_need lX12_179 sM0 rfl rfl (Nat.le_of_ble_eq_true rfl) rfl (Nat.le_of_ble_eq_true rfl) dX12_read_231 ?_
                refine Cv.mono h ?_
                intro M20 h
                refine V_goto (tgt := 64) (pc := 234) dX12_read_234 rfl ?_
                exact V_sub h ⟨rfl, trivial⟩
              · have h := h.2 c
                refine V_iconst (v := 1) (pc := 226) dX12_read_226 rfl ?_
                refine V_goto (tgt := 231) (pc := 227) dX12_read_227 rfl ?_
                refine V_callVv [.int 1] (pc := 231) kX12_need lX12_179 sM0 rfl rfl (Nat.le_of_ble_eq_true rfl) rfl (Nat.le_of_ble_eq_true rfl) dX12_read_231 ?_
                refine Cv.mono h ?_
                intro M21 h
                refine V_goto (tgt := 64) (pc := 234) dX12_read_234 rfl ?_
                exact V_sub h ⟨rfl, trivial⟩
          · have h := h.2 c
            refine V_aload_n (pc := 205) dX12_read_205 rfl ?_
            refine V_lload_n (pc := 206) dX12_read_206 rfl ?_
            refine V_callVv [.long v1] (pc := 207) kX12_readPart lX12_238 sM0 rfl rfl (Nat.le_of_ble_eq_true rfl) rfl (Nat.le_of_ble_eq_true rfl) dX12_read_207 ?_
            refine Cv.mono h ?_
            intro M22 h
            refine V_aload_n (pc := 210) dX12_read_210 rfl ?_
            refine V_getI (pc := 211) fX12_166 sM0 rfl dX12_read_211 ?_
            refine V_if_ne (tgt := 234) (pc := 214) dX12_read_214 rfl (fun c => ?_) (fun c => ?_)
            · have h := h.1 c
              refine V_goto (tgt := 64) (pc := 234) dX12_read_234 rfl ?_
              exact V_sub h ⟨rfl, trivial⟩
            · have h := h.2 c
              refine V_aload_n (pc := 217) dX12_read_217 rfl ?_
              refine V_aload_n (pc := 218) dX12_read_218 rfl ?_
              refine V_getI (pc := 219) fX12_154 sM0 rfl dX12_read_219 ?_
              refine V_iconst (v := 4) (pc := 222) dX12_read_222 rfl ?_
              refine V_icmp_ne (tgt := 230) (pc := 223) dX12_read_223 rfl (fun c => ?_) (fun c => ?_)
              · have h := h.1 c
                refine V_iconst (v := 0) (pc := 230) dX12_read_230 rfl ?_
                refine V_callVv [.int 0] (pc := 231) kX12_need lX12_179 sM0 rfl rfl (Nat.le_of_ble_eq_true rfl) rfl (Nat.le_of_ble_eq_true rfl) dX12_read_231 ?_
                refine Cv.mono h ?_
                intro M23 h
                refine V_goto (tgt := 64) (pc := 234) dX12_read_234 rfl ?_
                exact V_sub h ⟨rfl, trivial⟩
              · have h := h.2 c
                refine V_iconst (v := 1) (pc := 226) dX12_read_226 rfl ?_
                refine V_goto (tgt := 231) (pc := 227) dX12_read_227 rfl ?_
                refine V_callVv [.int 1] (pc := 231) kX12_need lX12_179 sM0 rfl rfl (Nat.le_of_ble_eq_true rfl) rfl (Nat.le_of_ble_eq_true rfl) dX12_read_231 ?_
                refine Cv.mono h ?_
                intro M24 h
                refine V_goto (tgt := 64) (pc := 234) dX12_read_234 rfl ?_
                exact V_sub h ⟨rfl, trivial⟩
        · have h := h.2 c
          refine V_iconst (v := 1) (pc := 190) dX12_read_190 rfl ?_
          refine V_goto (tgt := 195) (pc := 191) dX12_read_191 rfl ?_
          refine V_callVv [.int 1] (pc := 195) kX12_need lX12_179 sM0 rfl rfl (Nat.le_of_ble_eq_true rfl) rfl (Nat.le_of_ble_eq_true rfl) dX12_read_195 ?_
          refine Cv.mono h ?_
          intro M25 h
          refine V_aload_n (pc := 198) dX12_read_198 rfl ?_
          refine V_getI (pc := 199) fX12_166 sM0 rfl dX12_read_199 ?_
          refine V_if_ne (tgt := 210) (pc := 202) dX12_read_202 rfl (fun c => ?_) (fun c => ?_)
          · have h := h.1 c
            refine V_aload_n (pc := 210) dX12_read_210 rfl ?_
            refine V_getI (pc := 211) fX12_166 sM0 rfl dX12_read_211 ?_
            refine V_if_ne (tgt := 234) (pc := 214) dX12_read_214 rfl (fun c => ?_) (fun c => ?_)
            · have h := h.1 c
              refine V_goto (tgt := 64) (pc := 234) dX12_read_234 rfl ?_
              exact V_sub h ⟨rfl, trivial⟩
            · have h := h.2 c
              refine V_aload_n (pc := 217) dX12_read_217 rfl ?_
              refine V_aload_n (pc := 218) dX12_read_218 rfl ?_
              refine V_getI (pc := 219) fX12_154 sM0 rfl dX12_read_219 ?_
              refine V_iconst (v := 4) (pc := 222) dX12_read_222 rfl ?_
              refine V_icmp_ne (tgt := 230) (pc := 223) dX12_read_223 rfl (fun c => ?_) (fun c => ?_)
              · have h := h.1 c
                refine V_iconst (v := 0) (pc := 230) dX12_read_230 rfl ?_
                refine V_callVv [.int 0] (pc := 231) kX12_need lX12_179 sM0 rfl rfl (Nat.le_of_ble_eq_true rfl) rfl (Nat.le_of_ble_eq_true rfl) dX12_read_231 ?_
                refine Cv.mono h ?_
                intro M26 h
                refine V_goto (tgt := 64) (pc := 234) dX12_read_234 rfl ?_
                exact V_sub h ⟨rfl, trivial⟩
              · have h := h.2 c
                refine V_iconst (v := 1) (pc := 226) dX12_read_226 rfl ?_
                refine V_goto (tgt := 231) (pc := 227) dX12_read_227 rfl ?_
                refine V_callVv [.int 1] (pc := 231) kX12_need lX12_179 sM0 rfl rfl (Nat.le_of_ble_eq_true rfl) rfl (Nat.le_of_ble_eq_true rfl) dX12_read_231 ?_
                refine Cv.mono h ?_
                intro M27 h
                refine V_goto (tgt := 64) (pc := 234) dX12_read_234 rfl ?_
                exact V_sub h ⟨rfl, trivial⟩
          · have h := h.2 c
            refine V_aload_n (pc := 205) dX12_read_205 rfl ?_
            refine V_lload_n (pc := 206) dX12_read_206 rfl ?_
            refine V_callVv [.long v1] (pc := 207) kX12_readPart lX12_238 sM0 rfl rfl (Nat.le_of_ble_eq_true rfl) rfl (Nat.le_of_ble_eq_true rfl) dX12_read_207 ?_
            refine Cv.mono h ?_
            intro M28 h
            refine V_aload_n (pc := 210) dX12_read_210 rfl ?_
            refine V_getI (pc := 211) fX12_166 sM0 rfl dX12_read_211 ?_
            refine V_if_ne (tgt := 234) (pc := 214) dX12_read_214 rfl (fun c => ?_) (fun c => ?_)
            · have h := h.1 c
              refine V_goto (tgt := 64) (pc := 234) dX12_read_234 rfl ?_
              exact V_sub h ⟨rfl, trivial⟩
            · have h := h.2 c
              refine V_aload_n (pc := 217) dX12_read_217 rfl ?_
              refine V_aload_n (pc := 218) dX12_read_218 rfl ?_
              refine V_getI (pc := 219) fX12_154 sM0 rfl dX12_read_219 ?_
              refine V_iconst (v := 4) (pc := 222) dX12_read_222 rfl ?_
              refine V_icmp_ne (tgt := 230) (pc := 223) dX12_read_223 rfl (fun c => ?_) (fun c => ?_)
              · have h := h.1 c
                refine V_iconst (v := 0) (pc := 230) dX12_read_230 rfl ?_
                refine V_callVv [.int 0] (pc := 231) kX12_need lX12_179 sM0 rfl rfl (Nat.le_of_ble_eq_true rfl) rfl (Nat.le_of_ble_eq_true rfl) dX12_read_231 ?_
                refine Cv.mono h ?_
                intro M29 h
                refine V_goto (tgt := 64) (pc := 234) dX12_read_234 rfl ?_
                exact V_sub h ⟨rfl, trivial⟩
              · have h := h.2 c
                refine V_iconst (v := 1) (pc := 226) dX12_read_226 rfl ?_
                refine V_goto (tgt := 231) (pc := 227) dX12_read_227 rfl ?_
                refine V_callVv [.int 1] (pc := 231) kX12_need lX12_179 sM0 rfl rfl (Nat.le_of_ble_eq_true rfl) rfl (Nat.le_of_ble_eq_true rfl) dX12_read_231 ?_
                refine Cv.mono h ?_
                intro M30 h
                refine V_goto (tgt := 64) (pc := 234) dX12_read_234 rfl ?_
                exact V_sub h ⟨rfl, trivial⟩
theorem wp_X12_read_265 {G : GV} {k : Nat} {M : Mem} {q : Int32 → Mem → Prop} {v1 : Int32} (h : (((M.1 0 38) ≤ v1 → q (M.1 0 39) (mset (mset (mset (mset M 0 5 (M.1 0 38)) 0 10 (M.1 0 39)) 0 18 (M.1 0 40)) 0 23 (M.1 0 41))) ∧ (¬ (M.1 0 38) ≤ v1 → vp_in v1 10 ∧ V shM G mX12_read (k + 6) 265 [(0, .ref (G.2.1 0)), (1, .int (v1 + 1))] [] (mset M 7 (ix v1) (vp_nar .boolean 0)) (Qi q)))) : V shM G mX12_read (k + 6) 265 [(0, .ref (G.2.1 0)), (1, .int v1)] [] M (Qi q) := by
  refine V_iload_n (pc := 265) dX12_read_265 rfl ?_
  refine V_aload_n (pc := 266) dX12_read_266 rfl ?_
  refine V_getI (pc := 267) fX12_186 sM0 rfl dX12_read_267 ?_
  refine V_icmp_ge (tgt := 286) (pc := 270) dX12_read_270 rfl (fun c => ?_) (fun c => ?_)
  · have h := h.1 c
    refine V_aload_n (pc := 286) dX12_read_286 rfl ?_
    refine V_aload_n (pc := 287) dX12_read_287 rfl ?_
    refine V_getI (pc := 288) fX12_186 sM0 rfl dX12_read_288 ?_
    refine V_putI (pc := 291) fX12_224 p12_5 sM0 rfl dX12_read_291 ?_
    refine V_aload_n (pc := 294) dX12_read_294 rfl ?_
    refine V_aload_n (pc := 295) dX12_read_295 rfl ?_
    refine V_getI (pc := 296) fX12_183 sM0 rfl dX12_read_296 ?_
    refine V_top (v := (M.1 0 39)) (by simp [mset, lset, upd]) ?_
    refine V_putI (pc := 299) fX12_227 p12_10 sM0 rfl dX12_read_299 ?_
    refine V_aload_n (pc := 302) dX12_read_302 rfl ?_
    refine V_aload_n (pc := 303) dX12_read_303 rfl ?_
    refine V_getI (pc := 304) fX12_218 sM0 rfl dX12_read_304 ?_
    refine V_top (v := (M.1 0 40)) (by simp [mset, lset, upd]) ?_
    refine V_putI (pc := 307) fX12_230 p12_18 sM0 rfl dX12_read_307 ?_
    refine V_aload_n (pc := 310) dX12_read_310 rfl ?_
    refine V_aload_n (pc := 311) dX12_read_311 rfl ?_
    refine V_getI (pc := 312) fX12_221 sM0 rfl dX12_read_312 ?_
    refine V_top (v := (M.1 0 41)) (by simp [mset, lset, upd]) ?_
    refine V_putI (pc := 315) fX12_233 p12_23 sM0 rfl dX12_read_315 ?_
    refine V_aload_n (pc := 318) dX12_read_318 rfl ?_
    refine V_getI (pc := 319) fX12_227 sM0 rfl dX12_read_319 ?_
    refine V_top (v := (M.1 0 39)) (by simp [mset, lset, upd]) ?_
    exact V_iret dX12_read_322 rfl h
  · have h := h.2 c
    refine V_aload_n (pc := 273) dX12_read_273 rfl ?_
    refine V_getR (pc := 274) fX12_28 sM0 rfl dX12_read_274 ?_
    refine V_iload_n (pc := 277) dX12_read_277 rfl ?_
    refine V_iconst (v := 0) (pc := 278) dX12_read_278 rfl ?_
    refine V_zast (pc := 279) sM7 dX12_read_279 h.1 ?_
    have h := h.2
    refine V_iinc (pc := 280) dX12_read_280 rfl (by decide) ?_
    refine V_lv (lv2 := [(0, .ref (G.2.1 0)), (1, .int (v1 + 1))]) rfl ?_
    refine V_goto (tgt := 265) (pc := 283) dX12_read_283 rfl ?_
    exact V_sub h ⟨rfl, rfl, trivial⟩
