theorem wp_X12_joined {G : GV} {k : Nat} {M : Mem} {q : Int64 → Mem → Prop} {v1 : Int32} (h : Ci shM G mX12_in (k + 4) [.long (Int32.toInt64 v1), .long 0, .long 2] (mset M 0 0 0) (fun x1 M1 => ((x1 ≠ 0 → Cv shM G mX12_partAll (k + 4) [.ref (G.2.1 0), .int 0, .int 0] M1 (fun M2 => ((2 ≤ v1 → V shM G mX12_joined (k + 5) 63 [(0, .ref (G.2.1 0)), (1, .int v1), (2, .int 0), (3, .int 0)] [] M2 (Ql q)) ∧ (¬ 2 ≤ v1 → ((v1 ≠ 0 → Ci shM G mX12_all (k + 4) [.ref (G.2.1 0)] M2 (fun x3 M3 => vp_in x3 4096 ∧ q (M3.2 28 (ix x3)) M3)) ∧ (v1 = 0 → Ci shM G mX12_all (k + 4) [.ref (G.2.1 0)] M2 (fun x4 M4 => vp_in x4 4096 ∧ q (Int32.toInt64 (M4.1 27 (ix x4))) M4))))))) ∧ (x1 = 0 → q (-1000001) M1)))) : Cl shM G mX12_joined (k + 5) [.ref (G.2.1 0), .int v1] M q := by
  unfold Cl
  show V _ _ _ _ _ [(0, .ref (G.2.1 0)), (1, .int v1)] _ _ _
  refine V_aload_n (pc := 0) dX12_joined_0 rfl ?_
  refine V_iconst (v := 0) (pc := 1) dX12_joined_1 rfl ?_
  refine V_putI (pc := 2) fX12_108 p12_0 sM0 rfl dX12_joined_2 ?_
  refine V_iload_n (pc := 5) dX12_joined_5 rfl ?_
  refine V_i2l (pc := 6) dX12_joined_6 ?_
  refine V_lconst (v := 0) (pc := 7) dX12_joined_7 rfl ?_
  refine V_ldc2 (pc := 8) dX12_joined_8 nX12_126 ?_
  refine V_callSi [.long (Int32.toInt64 v1), .long 0, .long 2] (pc := 11) kX12_in lX12_118 rfl (Nat.le_of_ble_eq_true rfl) rfl (Nat.le_of_ble_eq_true rfl) dX12_joined_11 ?_
  refine Ci.mono h ?_
  intro x1 M1 h
  refine V_if_ne (tgt := 21) (pc := 14) dX12_joined_14 rfl (fun c => ?_) (fun c => ?_)
  · have h := h.1 c
    refine V_aload_n (pc := 21) dX12_joined_21 rfl ?_
    refine V_iconst (v := 0) (pc := 22) dX12_joined_22 rfl ?_
    refine V_iconst (v := 0) (pc := 23) dX12_joined_23 rfl ?_
    refine V_callVv [.int 0, .int 0] (pc := 24) kX12_partAll lX12_310 sM0 rfl rfl (Nat.le_of_ble_eq_true rfl) rfl (Nat.le_of_ble_eq_true rfl) dX12_joined_24 ?_
    refine Cv.mono h ?_
    intro M2 h
    refine V_iload_n (pc := 27) dX12_joined_27 rfl ?_
    refine V_iconst (v := 2) (pc := 28) dX12_joined_28 rfl ?_
    refine V_icmp_ge (tgt := 59) (pc := 29) dX12_joined_29 rfl (fun c => ?_) (fun c => ?_)
    · have h := h.1 c
      refine V_iconst (v := 0) (pc := 59) dX12_joined_59 rfl ?_
      refine V_istore_n (pc := 60) dX12_joined_60 (by decide) ?_
      refine V_lv (lv2 := [(0, .ref (G.2.1 0)), (1, .int v1), (2, .int 0)]) rfl ?_
      refine V_iconst (v := 0) (pc := 61) dX12_joined_61 rfl ?_
      refine V_istore_n (pc := 62) dX12_joined_62 (by decide) ?_
      refine V_lv (lv2 := [(0, .ref (G.2.1 0)), (1, .int v1), (2, .int 0), (3, .int 0)]) rfl ?_
      exact V_sub h ⟨rfl, rfl, rfl, rfl, trivial⟩
    · have h := h.2 c
      refine V_iload_n (pc := 32) dX12_joined_32 rfl ?_
      refine V_if_ne (tgt := 49) (pc := 33) dX12_joined_33 rfl (fun c => ?_) (fun c => ?_)
      · have h := h.1 c
        refine V_aload_n (pc := 49) dX12_joined_49 rfl ?_
        refine V_getR (pc := 50) fX12_92 sM0 rfl dX12_joined_50 ?_
        refine V_aload_n (pc := 53) dX12_joined_53 rfl ?_
        refine V_callVi [] (pc := 54) kX12_all lX12_304 sM0 rfl rfl (Nat.le_of_ble_eq_true rfl) rfl (Nat.le_of_ble_eq_true rfl) dX12_joined_54 ?_
        refine Ci.mono h ?_
        intro x3 M3 h
        refine V_lald (pc := 57) sM28 dX12_joined_57 h.1 ?_
        have h := h.2
        exact V_lret dX12_joined_58 rfl h
      · have h := h.2 c
        refine V_aload_n (pc := 36) dX12_joined_36 rfl ?_
        refine V_getR (pc := 37) fX12_89 sM0 rfl dX12_joined_37 ?_
        refine V_aload_n (pc := 40) dX12_joined_40 rfl ?_
        refine V_callVi [] (pc := 41) kX12_all lX12_304 sM0 rfl rfl (Nat.le_of_ble_eq_true rfl) rfl (Nat.le_of_ble_eq_true rfl) dX12_joined_41 ?_
        refine Ci.mono h ?_
        intro x4 M4 h
        refine V_iald (pc := 44) sM27 dX12_joined_44 h.1 ?_
        have h := h.2
        refine V_i2l (pc := 45) dX12_joined_45 ?_
        refine V_goto (tgt := 58) (pc := 46) dX12_joined_46 rfl ?_
        exact V_lret dX12_joined_58 rfl h
  · have h := h.2 c
    refine V_ldc2 (pc := 17) dX12_joined_17 nX12_308 ?_
    exact V_lret dX12_joined_20 rfl h
theorem wp_X12_joined_63 {G : GV} {k : Nat} {M : Mem} {q : Int64 → Mem → Prop} {v1 : Int32} {v2 : Int32} {v3 : Int32} (h : (((M.1 0 10) ≤ v3 → q (Int32.toInt64 v2) M) ∧ (¬ (M.1 0 10) ≤ v3 → Ci shM G mX12_personOf (k + 4) [.ref (G.2.1 0), .int v3] M (fun x1 M1 => Ci shM G mX12_bits (k + 4) [.int x1] M1 (fun x2 M2 => ((x2 ≤ v2 → V shM G mX12_joined (k + 5) 63 [(0, .ref (G.2.1 0)), (1, .int v1), (2, .int v2), (3, .int (v3 + 1))] [] M2 (Ql q)) ∧ (¬ x2 ≤ v2 → V shM G mX12_joined (k + 5) 63 [(0, .ref (G.2.1 0)), (1, .int v1), (2, .int x2), (3, .int (v3 + 1))] [] M2 (Ql q)))))))) : V shM G mX12_joined (k + 5) 63 [(0, .ref (G.2.1 0)), (1, .int v1), (2, .int v2), (3, .int v3)] [] M (Ql q) := by
  refine V_iload_n (pc := 63) dX12_joined_63 rfl ?_
  refine V_aload_n (pc := 64) dX12_joined_64 rfl ?_
  refine V_getI (pc := 65) fX12_227 sM0 rfl dX12_joined_65 ?_
  refine V_icmp_ge (tgt := 100) (pc := 68) dX12_joined_68 rfl (fun c => ?_) (fun c => ?_)
  · have h := h.1 c
    refine V_iload_n (pc := 100) dX12_joined_100 rfl ?_
    refine V_i2l (pc := 101) dX12_joined_101 ?_
    exact V_lret dX12_joined_102 rfl h
  · have h := h.2 c
    refine V_aload_n (pc := 71) dX12_joined_71 rfl ?_
    refine V_iload_n (pc := 72) dX12_joined_72 rfl ?_
    refine V_callVi [.int v3] (pc := 73) kX12_personOf lX12_314 sM0 rfl rfl (Nat.le_of_ble_eq_true rfl) rfl (Nat.le_of_ble_eq_true rfl) dX12_joined_73 ?_
    refine Ci.mono h ?_
    intro x1 M1 h
    refine V_callSi [.int x1] (pc := 76) kX12_bits lX12_317 rfl (Nat.le_of_ble_eq_true rfl) rfl (Nat.le_of_ble_eq_true rfl) dX12_joined_76 ?_
    refine Ci.mono h ?_
    intro x2 M2 h
    refine V_istore (pc := 79) dX12_joined_79 (by decide) ?_
    refine V_lv (lv2 := [(0, .ref (G.2.1 0)), (1, .int v1), (2, .int v2), (3, .int v3), (4, .int x2)]) rfl ?_
    refine V_iload (pc := 81) dX12_joined_81 rfl ?_
    refine V_iload_n (pc := 83) dX12_joined_83 rfl ?_
    refine V_icmp_le (tgt := 92) (pc := 84) dX12_joined_84 rfl (fun c => ?_) (fun c => ?_)
    · have h := h.1 c
      refine V_iload_n (pc := 92) dX12_joined_92 rfl ?_
      refine V_istore_n (pc := 93) dX12_joined_93 (by decide) ?_
      refine V_lv (lv2 := [(0, .ref (G.2.1 0)), (1, .int v1), (2, .int v2), (3, .int v3), (4, .int x2)]) rfl ?_
      refine V_iinc (pc := 94) dX12_joined_94 rfl (by decide) ?_
      refine V_lv (lv2 := [(0, .ref (G.2.1 0)), (1, .int v1), (2, .int v2), (3, .int (v3 + 1)), (4, .int x2)]) rfl ?_
      refine V_goto (tgt := 63) (pc := 97) dX12_joined_97 rfl ?_
      exact V_sub h ⟨rfl, rfl, rfl, rfl, trivial⟩
    · have h := h.2 c
      refine V_iload (pc := 87) dX12_joined_87 rfl ?_
      refine V_goto (tgt := 93) (pc := 89) dX12_joined_89 rfl ?_
      refine V_istore_n (pc := 93) dX12_joined_93 (by decide) ?_
      refine V_lv (lv2 := [(0, .ref (G.2.1 0)), (1, .int v1), (2, .int x2), (3, .int v3), (4, .int x2)]) rfl ?_
      refine V_iinc (pc := 94) dX12_joined_94 rfl (by decide) ?_
      refine V_lv (lv2 := [(0, .ref (G.2.1 0)), (1, .int v1), (2, .int x2), (3, .int (v3 + 1)), (4, .int x2)]) rfl ?_
      refine V_goto (tgt := 63) (pc := 97) dX12_joined_97 rfl ?_
      exact V_sub h ⟨rfl, rfl, rfl, rfl, trivial⟩
theorem wp_X12_person {G : GV} {k : Nat} {M : Mem} {q : Int32 → Mem → Prop} {v1 : Int32} (h : Ci shM G mX12_isLine (k + 4) [.ref (G.2.1 0), .int v1] (mset M 0 0 0) (fun x1 M1 => ((x1 ≠ 0 → Cv shM G mX12_partAll (k + 4) [.ref (G.2.1 0), .int 0, .int 0] M1 (fun M2 => Ci shM G mX12_personOf (k + 4) [.ref (G.2.1 0), .int v1] M2 (fun x3 M3 => q x3 M3))) ∧ (x1 = 0 → q (-1000001) M1)))) : Ci shM G mX12_person (k + 5) [.ref (G.2.1 0), .int v1] M q := by
  unfold Ci
  show V _ _ _ _ _ [(0, .ref (G.2.1 0)), (1, .int v1)] _ _ _
  refine V_aload_n (pc := 0) dX12_person_0 rfl ?_
  refine V_iconst (v := 0) (pc := 1) dX12_person_1 rfl ?_
  refine V_putI (pc := 2) fX12_108 p12_0 sM0 rfl dX12_person_2 ?_
  refine V_aload_n (pc := 5) dX12_person_5 rfl ?_
  refine V_iload_n (pc := 6) dX12_person_6 rfl ?_
  refine V_callVi [.int v1] (pc := 7) kX12_isLine lX12_255 sM0 rfl rfl (Nat.le_of_ble_eq_true rfl) rfl (Nat.le_of_ble_eq_true rfl) dX12_person_7 ?_
  refine Ci.mono h ?_
  intro x1 M1 h
  refine V_if_ne (tgt := 16) (pc := 10) dX12_person_10 rfl (fun c => ?_) (fun c => ?_)
  · have h := h.1 c
    refine V_aload_n (pc := 16) dX12_person_16 rfl ?_
    refine V_iconst (v := 0) (pc := 17) dX12_person_17 rfl ?_
    refine V_iconst (v := 0) (pc := 18) dX12_person_18 rfl ?_
    refine V_callVv [.int 0, .int 0] (pc := 19) kX12_partAll lX12_310 sM0 rfl rfl (Nat.le_of_ble_eq_true rfl) rfl (Nat.le_of_ble_eq_true rfl) dX12_person_19 ?_
    refine Cv.mono h ?_
    intro M2 h
    refine V_aload_n (pc := 22) dX12_person_22 rfl ?_
    refine V_iload_n (pc := 23) dX12_person_23 rfl ?_
    refine V_callVi [.int v1] (pc := 24) kX12_personOf lX12_314 sM0 rfl rfl (Nat.le_of_ble_eq_true rfl) rfl (Nat.le_of_ble_eq_true rfl) dX12_person_24 ?_
    refine Ci.mono h ?_
    intro x3 M3 h
    exact V_iret dX12_person_27 rfl h
  · have h := h.2 c
    refine V_ldc (pc := 13) dX12_person_13 nX12_128 ?_
    exact V_iret dX12_person_15 rfl h
theorem wp_X12_readPart {G : GV} {k : Nat} {M : Mem} {q : Mem → Prop} {v1 : Int64} (h : ((v1 ≠ 1651470187 → ((v1 ≠ 1818848869 → ((v1 ≠ 478660552050 → Ci shM G mX12_numberIn (k + 4) [.ref (G.2.1 0), .int 0, .int 3, .int (-1000000)] M (fun x1 M1 => vp_in (M.1 0 41) 20 ∧ Ci shM G mX12_numberIn (k + 4) [.ref (G.2.1 0), .int 1, .int 99, .int (-1000000)] (mset M1 19 (ix (M.1 0 41)) x1) (fun x2 M2 => vp_in (M1.1 0 41) 20 ∧ Ci shM G mX12_numberIn (k + 4) [.ref (G.2.1 0), .int 1, .int 9998, .int (-1000000)] (mset M2 20 (ix (M1.1 0 41)) x2) (fun x3 M3 => vp_in (M2.1 0 41) 20 ∧ vp_in (M3.1 0 41) 20 ∧ Ci shM G mX12_numberIn (k + 4) [.ref (G.2.1 0), .int (((mset M3 21 (ix (M2.1 0 41)) x3).1 21 (ix (M3.1 0 41))) + 1), .int 9999, .int (-1000000)] (mset M3 21 (ix (M2.1 0 41)) x3) (fun x4 M4 => vp_in (M3.1 0 41) 20 ∧ q (mset (mset M4 22 (ix (M3.1 0 41)) x4) 0 41 ((M4.1 0 41) + 1))))))) ∧ (v1 = 478660552050 → Ci shM G mX12_numberIn (k + 4) [.ref (G.2.1 0), .int 1, .int 9998, .int (-1000000)] M (fun x5 M5 => vp_in (M.1 0 40) 20 ∧ Ci shM G mX12_numberIn (k + 4) [.ref (G.2.1 0), .int 0, .int 3, .int (-1000000)] (mset M5 15 (ix (M.1 0 40)) x5) (fun x6 M6 => vp_in (M5.1 0 40) 20 ∧ Ci shM G mX12_numberIn (k + 4) [.ref (G.2.1 0), .int 1, .int 99, .int (-1000000)] (mset M6 16 (ix (M5.1 0 40)) x6) (fun x7 M7 => vp_in (M6.1 0 40) 20 ∧ vp_in (M7.1 0 40) 20 ∧ Ci shM G mX12_numberIn (k + 4) [.ref (G.2.1 0), .int 1, .int 99, .int ((mset M7 17 (ix (M6.1 0 40)) x7).1 17 (ix (M7.1 0 40)))] (mset M7 17 (ix (M6.1 0 40)) x7) (fun x8 M8 => vp_in (M7.1 0 40) 20 ∧ q (mset (mset M8 18 (ix (M7.1 0 40)) x8) 0 40 ((M8.1 0 40) + 1))))))))) ∧ (v1 = 1818848869 → Cv shM G mX12_readLine (k + 4) [.ref (G.2.1 0)] M (fun M9 => q M9)))) ∧ (v1 = 1651470187 → Ci shM G mX12_numberIn (k + 4) [.ref (G.2.1 0), .int 1, .int 9998, .int (-1000000)] M (fun x10 M10 => vp_in (M.1 0 38) 10 ∧ vp_in (M10.1 0 38) 10 ∧ ((((mset M10 4 (ix (M.1 0 38)) x10).1 4 (ix (M10.1 0 38))) ≤ 9 → vp_in (M10.1 0 38) 10 ∧ Ci shM G mX12_numberIn (k + 4) [.ref (G.2.1 0), .int 0, .int (((mset M10 4 (ix (M.1 0 38)) x10).1 4 (ix (M10.1 0 38))) - 1), .int (-1000000)] (mset M10 4 (ix (M.1 0 38)) x10) (fun x11 M11 => vp_in (M10.1 0 38) 10 ∧ Ci shM G mX12_numberIn (k + 4) [.ref (G.2.1 0), .int 1, .int 99, .int (-1000000)] (mset M11 5 (ix (M10.1 0 38)) x11) (fun x12 M12 => vp_in (M11.1 0 38) 10 ∧ q (mset (mset M12 6 (ix (M11.1 0 38)) x12) 0 38 ((M12.1 0 38) + 1))))) ∧ (¬ ((mset M10 4 (ix (M.1 0 38)) x10).1 4 (ix (M10.1 0 38))) ≤ 9 → Ci shM G mX12_numberIn (k + 4) [.ref (G.2.1 0), .int 0, .int 9, .int (-1000000)] (mset M10 4 (ix (M.1 0 38)) x10) (fun x13 M13 => vp_in (M10.1 0 38) 10 ∧ Ci shM G mX12_numberIn (k + 4) [.ref (G.2.1 0), .int 1, .int 99, .int (-1000000)] (mset M13 5 (ix (M10.1 0 38)) x13) (fun x14 M14 => vp_in (M13.1 0 38) 10 ∧ q (mset (mset M14 6 (ix (M13.1 0 38)) x14) 0 38 ((M14.1 0 38) + 1)))))))))) : Cv shM G mX12_readPart (k + 5) [.ref (G.2.1 0), .long v1] M q := by
  unfold Cv
  show V _ _ _ _ _ [(0, .ref (G.2.1 0)), (1, .long v1)] _ _ _
  refine V_lload_n (pc := 0) dX12_readPart_0 rfl ?_
  refine V_ldc2 (pc := 1) dX12_readPart_1 nX12_209 ?_
  refine V_lif_ne (tgt := 104) (pc := 4) dX12_readPart_4 dX12_readPart_5 rfl (fun c => ?_) (fun c => ?_)
  · have h := h.1 c
    refine V_lload_n (pc := 104) dX12_readPart_104 rfl ?_
    refine V_ldc2 (pc := 105) dX12_readPart_105 nX12_211 ?_
    refine V_lif_ne (tgt := 119) (pc := 108) dX12_readPart_108 dX12_readPart_109 rfl (fun c => ?_) (fun c => ?_)
    · have h := h.1 c
      refine V_lload_n (pc := 119) dX12_readPart_119 rfl ?_
      refine V_ldc2 (pc := 120) dX12_readPart_120 nX12_216 ?_
      refine V_lif_ne (tgt := 219) (pc := 123) dX12_readPart_123 dX12_readPart_124 rfl (fun c => ?_) (fun c => ?_)
      · have h := h.1 c
        refine V_aload_n (pc := 219) dX12_readPart_219 rfl ?_
        refine V_getR (pc := 220) fX12_65 sM0 rfl dX12_readPart_220 ?_
        refine V_aload_n (pc := 223) dX12_readPart_223 rfl ?_
        refine V_getI (pc := 224) fX12_221 sM0 rfl dX12_readPart_224 ?_
        refine V_aload_n (pc := 227) dX12_readPart_227 rfl ?_
        refine V_iconst (v := 0) (pc := 228) dX12_readPart_228 rfl ?_
        refine V_iconst (v := 3) (pc := 229) dX12_readPart_229 rfl ?_
        refine V_ldc (pc := 230) dX12_readPart_230 nX12_144 ?_
        refine V_callVi [.int 0, .int 3, .int (-1000000)] (pc := 232) kX12_numberIn lX12_189 sM0 rfl rfl (Nat.le_of_ble_eq_true rfl) rfl (Nat.le_of_ble_eq_true rfl) dX12_readPart_232 ?_
        refine Ci.mono h ?_
        intro x1 M1 h
        refine V_iast (pc := 235) sM19 dX12_readPart_235 h.1 ?_
        have h := h.2
        refine V_aload_n (pc := 236) dX12_readPart_236 rfl ?_
        refine V_getR (pc := 237) fX12_68 sM0 rfl dX12_readPart_237 ?_
        refine V_aload_n (pc := 240) dX12_readPart_240 rfl ?_
        refine V_getI (pc := 241) fX12_221 sM0 rfl dX12_readPart_241 ?_
        refine V_top (v := (M1.1 0 41)) (by simp [mset, lset, upd]) ?_
        refine V_aload_n (pc := 244) dX12_readPart_244 rfl ?_
        refine V_iconst (v := 1) (pc := 245) dX12_readPart_245 rfl ?_
        refine V_bipush (v := 99) (pc := 246) dX12_readPart_246 rfl ?_
        refine V_ldc (pc := 248) dX12_readPart_248 nX12_144 ?_
        refine V_callVi [.int 1, .int 99, .int (-1000000)] (pc := 250) kX12_numberIn lX12_189 sM0 rfl rfl (Nat.le_of_ble_eq_true rfl) rfl (Nat.le_of_ble_eq_true rfl) dX12_readPart_250 ?_
        refine Ci.mono h ?_
        intro x2 M2 h
        refine V_iast (pc := 253) sM20 dX12_readPart_253 h.1 ?_
        have h := h.2
        refine V_aload_n (pc := 254) dX12_readPart_254 rfl ?_
        refine V_getR (pc := 255) fX12_71 sM0 rfl dX12_readPart_255 ?_
        refine V_aload_n (pc := 258) dX12_readPart_258 rfl ?_
        refine V_getI (pc := 259) fX12_221 sM0 rfl dX12_readPart_259 ?_
        refine V_top (v := (M2.1 0 41)) (by simp [mset, lset, upd]) ?_
        refine V_aload_n (pc := 262) dX12_readPart_262 rfl ?_
        refine V_iconst (v := 1) (pc := 263) dX12_readPart_263 rfl ?_
        refine V_sipush (v := 9998) (pc := 264) dX12_readPart_264 rfl ?_
        refine V_ldc (pc := 267) dX12_readPart_267 nX12_144 ?_
        refine V_callVi [.int 1, .int 9998, .int (-1000000)] (pc := 269) kX12_numberIn lX12_189 sM0 rfl rfl (Nat.le_of_ble_eq_true rfl) rfl (Nat.le_of_ble_eq_true rfl) dX12_readPart_269 ?_
        refine Ci.mono h ?_
        intro x3 M3 h
        refine V_iast (pc := 272) sM21 dX12_readPart_272 h.1 ?_
        have h := h.2
        refine V_aload_n (pc := 273) dX12_readPart_273 rfl ?_
        refine V_getR (pc := 274) fX12_74 sM0 rfl dX12_readPart_274 ?_
        refine V_aload_n (pc := 277) dX12_readPart_277 rfl ?_
        refine V_getI (pc := 278) fX12_221 sM0 rfl dX12_readPart_278 ?_
        refine V_top (v := (M3.1 0 41)) (by simp [mset, lset, upd]) ?_
        refine V_aload_n (pc := 281) dX12_readPart_281 rfl ?_
        refine V_aload_n (pc := 282) dX12_readPart_282 rfl ?_
        refine V_getR (pc := 283) fX12_71 sM0 rfl dX12_readPart_283 ?_
        refine V_aload_n (pc := 286) dX12_readPart_286 rfl ?_
        refine V_getI (pc := 287) fX12_221 sM0 rfl dX12_readPart_287 ?_
        refine V_top (v := (M3.1 0 41)) (by simp [mset, lset, upd]) ?_
        refine V_iald (pc := 290) sM21 dX12_readPart_290 h.1 ?_
        have h := h.2
        refine V_iconst (v := 1) (pc := 291) dX12_readPart_291 rfl ?_
        refine V_iadd (pc := 292) dX12_readPart_292 ?_
        refine V_sipush (v := 9999) (pc := 293) dX12_readPart_293 rfl ?_
        refine V_ldc (pc := 296) dX12_readPart_296 nX12_144 ?_
        refine V_callVi [.int (((mset M3 21 (ix (M2.1 0 41)) x3).1 21 (ix (M3.1 0 41))) + 1), .int 9999, .int (-1000000)] (pc := 298) kX12_numberIn lX12_189 sM0 rfl rfl (Nat.le_of_ble_eq_true rfl) rfl (Nat.le_of_ble_eq_true rfl) dX12_readPart_298 ?_
        refine Ci.mono h ?_
        intro x4 M4 h
        refine V_iast (pc := 301) sM22 dX12_readPart_301 h.1 ?_
        have h := h.2
        refine V_aload_n (pc := 302) dX12_readPart_302 rfl ?_
        refine V_dup (pc := 303) dX12_readPart_303 rfl ?_
        refine V_getI (pc := 304) fX12_221 sM0 rfl dX12_readPart_304 ?_
        refine V_top (v := (M4.1 0 41)) (by simp [mset, lset, upd]) ?_
        refine V_iconst (v := 1) (pc := 307) dX12_readPart_307 rfl ?_
        refine V_iadd (pc := 308) dX12_readPart_308 ?_
        refine V_putI (pc := 309) fX12_221 p12_41 sM0 rfl dX12_readPart_309 ?_
        exact V_vret dX12_readPart_312 rfl h
      · have h := h.2 c
        refine V_aload_n (pc := 127) dX12_readPart_127 rfl ?_
        refine V_getR (pc := 128) fX12_53 sM0 rfl dX12_readPart_128 ?_
        refine V_aload_n (pc := 131) dX12_readPart_131 rfl ?_
        refine V_getI (pc := 132) fX12_218 sM0 rfl dX12_readPart_132 ?_
        refine V_aload_n (pc := 135) dX12_readPart_135 rfl ?_
        refine V_iconst (v := 1) (pc := 136) dX12_readPart_136 rfl ?_
        refine V_sipush (v := 9998) (pc := 137) dX12_readPart_137 rfl ?_
        refine V_ldc (pc := 140) dX12_readPart_140 nX12_144 ?_
        refine V_callVi [.int 1, .int 9998, .int (-1000000)] (pc := 142) kX12_numberIn lX12_189 sM0 rfl rfl (Nat.le_of_ble_eq_true rfl) rfl (Nat.le_of_ble_eq_true rfl) dX12_readPart_142 ?_
        refine Ci.mono h ?_
        intro x5 M5 h
        refine V_iast (pc := 145) sM15 dX12_readPart_145 h.1 ?_
        have h := h.2
        refine V_aload_n (pc := 146) dX12_readPart_146 rfl ?_
        refine V_getR (pc := 147) fX12_56 sM0 rfl dX12_readPart_147 ?_
        refine V_aload_n (pc := 150) dX12_readPart_150 rfl ?_
        refine V_getI (pc := 151) fX12_218 sM0 rfl dX12_readPart_151 ?_
        refine V_top (v := (M5.1 0 40)) (by simp [mset, lset, upd]) ?_
        refine V_aload_n (pc := 154) dX12_readPart_154 rfl ?_
        refine V_iconst (v := 0) (pc := 155) dX12_readPart_155 rfl ?_
        refine V_iconst (v := 3) (pc := 156) dX12_readPart_156 rfl ?_
        refine V_ldc (pc := 157) dX12_readPart_157 nX12_144 ?_
        refine V_callVi [.int 0, .int 3, .int (-1000000)] (pc := 159) kX12_numberIn lX12_189 sM0 rfl rfl (Nat.le_of_ble_eq_true rfl) rfl (Nat.le_of_ble_eq_true rfl) dX12_readPart_159 ?_
        refine Ci.mono h ?_
        intro x6 M6 h
        refine V_iast (pc := 162) sM16 dX12_readPart_162 h.1 ?_
        have h := h.2
        refine V_aload_n (pc := 163) dX12_readPart_163 rfl ?_
        refine V_getR (pc := 164) fX12_59 sM0 rfl dX12_readPart_164 ?_
        refine V_aload_n (pc := 167) dX12_readPart_167 rfl ?_
        refine V_getI (pc := 168) fX12_218 sM0 rfl dX12_readPart_168 ?_
        refine V_top (v := (M6.1 0 40)) (by simp [mset, lset, upd]) ?_
        refine V_aload_n (pc := 171) dX12_readPart_171 rfl ?_
        refine V_iconst (v := 1) (pc := 172) dX12_readPart_172 rfl ?_
        refine V_bipush (v := 99) (pc := 173) dX12_readPart_173 rfl ?_
        refine V_ldc (pc := 175) dX12_readPart_175 nX12_144 ?_
        refine V_callVi [.int 1, .int 99, .int (-1000000)] (pc := 177) kX12_numberIn lX12_189 sM0 rfl rfl (Nat.le_of_ble_eq_true rfl) rfl (Nat.le_of_ble_eq_true rfl) dX12_readPart_177 ?_
        refine Ci.mono h ?_
        intro x7 M7 h
        refine V_iast (pc := 180) sM17 dX12_readPart_180 h.1 ?_
        have h := h.2
        refine V_aload_n (pc := 181) dX12_readPart_181 rfl ?_
        refine V_getR (pc := 182) fX12_62 sM0 rfl dX12_readPart_182 ?_
        refine V_aload_n (pc := 185) dX12_readPart_185 rfl ?_
        refine V_getI (pc := 186) fX12_218 sM0 rfl dX12_readPart_186 ?_
        refine V_top (v := (M7.1 0 40)) (by simp [mset, lset, upd]) ?_
        refine V_aload_n (pc := 189) dX12_readPart_189 rfl ?_
        refine V_iconst (v := 1) (pc := 190) dX12_readPart_190 rfl ?_
        refine V_bipush (v := 99) (pc := 191) dX12_readPart_191 rfl ?_
        refine V_aload_n (pc := 193) dX12_readPart_193 rfl ?_
        refine V_getR (pc := 194) fX12_59 sM0 rfl dX12_readPart_194 ?_
        refine V_aload_n (pc := 197) dX12_readPart_197 rfl ?_
        refine V_getI (pc := 198) fX12_218 sM0 rfl dX12_readPart_198 ?_
        refine V_top (v := (M7.1 0 40)) (by simp [mset, lset, upd]) ?_
        refine V_iald (pc := 201) sM17 dX12_readPart_201 h.1 ?_
        have h := h.2
        refine V_callVi [.int 1, .int 99, .int ((mset M7 17 (ix (M6.1 0 40)) x7).1 17 (ix (M7.1 0 40)))] (pc := 202) kX12_numberIn lX12_189 sM0 rfl rfl (Nat.le_of_ble_eq_true rfl) rfl (Nat.le_of_ble_eq_true rfl) dX12_readPart_202 ?_
        refine Ci.mono h ?_
        intro x8 M8 h
        refine V_iast (pc := 205) sM18 dX12_readPart_205 h.1 ?_
        have h := h.2
        refine V_aload_n (pc := 206) dX12_readPart_206 rfl ?_
        refine V_dup (pc := 207) dX12_readPart_207 rfl ?_
        refine V_getI (pc := 208) fX12_218 sM0 rfl dX12_readPart_208 ?_
        refine V_top (v := (M8.1 0 40)) (by simp [mset, lset, upd]) ?_
        refine V_iconst (v := 1) (pc := 211) dX12_readPart_211 rfl ?_
        refine V_iadd (pc := 212) dX12_readPart_212 ?_
        refine V_putI (pc := 213) fX12_218 p12_40 sM0 rfl dX12_readPart_213 ?_
        refine V_goto (tgt := 312) (pc := 216) dX12_readPart_216 rfl ?_
        exact V_vret dX12_readPart_312 rfl h
    · have h := h.2 c
      refine V_aload_n (pc := 112) dX12_readPart_112 rfl ?_
      refine V_callVv [] (pc := 113) kX12_readLine lX12_213 sM0 rfl rfl (Nat.le_of_ble_eq_true rfl) rfl (Nat.le_of_ble_eq_true rfl) dX12_readPart_113 ?_
      refine Cv.mono h ?_
      intro M9 h
      refine V_goto (tgt := 312) (pc := 116) dX12_readPart_116 rfl ?_
      exact V_vret dX12_readPart_312 rfl h
  · have h := h.2 c
    refine V_aload_n (pc := 8) dX12_readPart_8 rfl ?_
    refine V_getR (pc := 9) fX12_19 sM0 rfl dX12_readPart_9 ?_
    refine V_aload_n (pc := 12) dX12_readPart_12 rfl ?_
    refine V_getI (pc := 13) fX12_186 sM0 rfl dX12_readPart_13 ?_
    refine V_aload_n (pc := 16) dX12_readPart_16 rfl ?_
    refine V_iconst (v := 1) (pc := 17) dX12_readPart_17 rfl ?_
    refine V_sipush (v := 9998) (pc := 18) dX12_readPart_18 rfl ?_
    refine V_ldc (pc := 21) dX12_readPart_21 nX12_144 ?_
    refine V_callVi [.int 1, .int 9998, .int (-1000000)] (pc := 23) kX12_numberIn lX12_189 sM0 rfl rfl (Nat.le_of_ble_eq_true rfl) rfl (Nat.le_of_ble_eq_true rfl) dX12_readPart_23 ?_
    refine Ci.mono h ?_
    intro x10 M10 h
    refine V_iast (pc := 26) sM4 dX12_readPart_26 h.1 ?_
    have h := h.2
    refine V_aload_n (pc := 27) dX12_readPart_27 rfl ?_
    refine V_getR (pc := 28) fX12_22 sM0 rfl dX12_readPart_28 ?_
    refine V_aload_n (pc := 31) dX12_readPart_31 rfl ?_
    refine V_getI (pc := 32) fX12_186 sM0 rfl dX12_readPart_32 ?_
    refine V_top (v := (M10.1 0 38)) (by simp [mset, lset, upd]) ?_
    refine V_aload_n (pc := 35) dX12_readPart_35 rfl ?_
    refine V_iconst (v := 0) (pc := 36) dX12_readPart_36 rfl ?_
    refine V_aload_n (pc := 37) dX12_readPart_37 rfl ?_
    refine V_getR (pc := 38) fX12_19 sM0 rfl dX12_readPart_38 ?_
    refine V_aload_n (pc := 41) dX12_readPart_41 rfl ?_
    refine V_getI (pc := 42) fX12_186 sM0 rfl dX12_readPart_42 ?_
    refine V_top (v := (M10.1 0 38)) (by simp [mset, lset, upd]) ?_
    refine V_iald (pc := 45) sM4 dX12_readPart_45 h.1 ?_
    have h := h.2
    refine V_bipush (v := 9) (pc := 46) dX12_readPart_46 rfl ?_
    refine V_icmp_le (tgt := 56) (pc := 48) dX12_readPart_48 rfl (fun c => ?_) (fun c => ?_)
    · have h := h.1 c
      refine V_aload_n (pc := 56) dX12_readPart_56 rfl ?_
      refine V_getR (pc := 57) fX12_19 sM0 rfl dX12_readPart_57 ?_
      refine V_aload_n (pc := 60) dX12_readPart_60 rfl ?_
      refine V_getI (pc := 61) fX12_186 sM0 rfl dX12_readPart_61 ?_
      refine V_top (v := (M10.1 0 38)) (by simp [mset, lset, upd]) ?_
      refine V_iald (pc := 64) sM4 dX12_readPart_64 h.1 ?_
      have h := h.2
      refine V_iconst (v := 1) (pc := 65) dX12_readPart_65 rfl ?_
      refine V_isub (pc := 66) dX12_readPart_66 ?_
      refine V_ldc (pc := 67) dX12_readPart_67 nX12_144 ?_
      refine V_callVi [.int 0, .int (((mset M10 4 (ix (M.1 0 38)) x10).1 4 (ix (M10.1 0 38))) - 1), .int (-1000000)] (pc := 69) kX12_numberIn lX12_189 sM0 rfl rfl (Nat.le_of_ble_eq_true rfl) rfl (Nat.le_of_ble_eq_true rfl) dX12_readPart_69 ?_
      refine Ci.mono h ?_
      intro x11 M11 h
      refine V_iast (pc := 72) sM5 dX12_readPart_72 h.1 ?_
      have h := h.2
      refine V_aload_n (pc := 73) dX12_readPart_73 rfl ?_
      refine V_getR (pc := 74) fX12_25 sM0 rfl dX12_readPart_74 ?_
      refine V_aload_n (pc := 77) dX12_readPart_77 rfl ?_
      refine V_getI (pc := 78) fX12_186 sM0 rfl dX12_readPart_78 ?_
      refine V_top (v := (M11.1 0 38)) (by simp [mset, lset, upd]) ?_
      refine V_aload_n (pc := 81) dX12_readPart_81 rfl ?_
      refine V_iconst (v := 1) (pc := 82) dX12_readPart_82 rfl ?_
      refine V_bipush (v := 99) (pc := 83) dX12_readPart_83 rfl ?_
      refine V_ldc (pc := 85) dX12_readPart_85 nX12_144 ?_
      refine V_callVi [.int 1, .int 99, .int (-1000000)] (pc := 87) kX12_numberIn lX12_189 sM0 rfl rfl (Nat.le_of_ble_eq_true rfl) rfl (Nat.le_of_ble_eq_true rfl) dX12_readPart_87 ?_
      refine Ci.mono h ?_
      intro x12 M12 h
      refine V_iast (pc := 90) sM6 dX12_readPart_90 h.1 ?_
      have h := h.2
      refine V_aload_n (pc := 91) dX12_readPart_91 rfl ?_
      refine V_dup (pc := 92) dX12_readPart_92 rfl ?_
      refine V_getI (pc := 93) fX12_186 sM0 rfl dX12_readPart_93 ?_
      refine V_top (v := (M12.1 0 38)) (by simp [mset, lset, upd]) ?_
      refine V_iconst (v := 1) (pc := 96) dX12_readPart_96 rfl ?_
      refine V_iadd (pc := 97) dX12_readPart_97 ?_
      refine V_putI (pc := 98) fX12_186 p12_38 sM0 rfl dX12_readPart_98 ?_
      refine V_goto (tgt := 312) (pc := 101) dX12_readPart_101 rfl ?_
      exact V_vret dX12_readPart_312 rfl h
    · have h := h.2 c
      refine V_bipush (v := 9) (pc := 51) dX12_readPart_51 rfl ?_
      refine V_goto (tgt := 67) (pc := 53) dX12_readPart_53 rfl ?_
      refine V_ldc (pc := 67) dX12_readPart_67 nX12_144 ?_
      refine V_callVi [.int 0, .int 9, .int (-1000000)] (pc := 69) kX12_numberIn lX12_189 sM0 rfl rfl (Nat.le_of_ble_eq_true rfl) rfl (Nat.le_of_ble_eq_true rfl) dX12_readPart_69 ?_
      refine Ci.mono h ?_
      intro x13 M13 h
      refine V_iast (pc := 72) sM5 dX12_readPart_72 h.1 ?_
      have h := h.2
      refine V_aload_n (pc := 73) dX12_readPart_73 rfl ?_
      refine V_getR (pc := 74) fX12_25 sM0 rfl dX12_readPart_74 ?_
      refine V_aload_n (pc := 77) dX12_readPart_77 rfl ?_
      refine V_getI (pc := 78) fX12_186 sM0 rfl dX12_readPart_78 ?_
      refine V_top (v := (M13.1 0 38)) (by simp [mset, lset, upd]) ?_
      refine V_aload_n (pc := 81) dX12_readPart_81 rfl ?_
      refine V_iconst (v := 1) (pc := 82) dX12_readPart_82 rfl ?_
      refine V_bipush (v := 99) (pc := 83) dX12_readPart_83 rfl ?_
      refine V_ldc (pc := 85) dX12_readPart_85 nX12_144 ?_
      refine V_callVi [.int 1, .int 99, .int (-1000000)] (pc := 87) kX12_numberIn lX12_189 sM0 rfl rfl (Nat.le_of_ble_eq_true rfl) rfl (Nat.le_of_ble_eq_true rfl) dX12_readPart_87 ?_
      refine Ci.mono h ?_
      intro x14 M14 h
      refine V_iast (pc := 90) sM6 dX12_readPart_90 h.1 ?_
      have h := h.2
      refine V_aload_n (pc := 91) dX12_readPart_91 rfl ?_
      refine V_dup (pc := 92) dX12_readPart_92 rfl ?_
      refine V_getI (pc := 93) fX12_186 sM0 rfl dX12_readPart_93 ?_
      refine V_top (v := (M14.1 0 38)) (by simp [mset, lset, upd]) ?_
      refine V_iconst (v := 1) (pc := 96) dX12_readPart_96 rfl ?_
      refine V_iadd (pc := 97) dX12_readPart_97 ?_
      refine V_putI (pc := 98) fX12_186 p12_38 sM0 rfl dX12_readPart_98 ?_
      refine V_goto (tgt := 312) (pc := 101) dX12_readPart_101 rfl ?_
      exact V_vret dX12_readPart_312 rfl h
