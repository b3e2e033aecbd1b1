theorem wp_X12_numberIn {G : GV} {k : Nat} {M : Mem} {q : Int32 → Mem → Prop} {v1 : Int32} {v2 : Int32} {v3 : Int32} (h : (((M.1 0 36) ≤ 0 → V shM G mX12_numberIn (k + 3) 18 [(0, .ref (G.2.1 0)), (1, .int v1), (2, .int v2), (3, .int v3), (4, .int 0), (5, .int (M.1 0 34))] [] M (Qi q)) ∧ (¬ (M.1 0 36) ≤ 0 → q 0 M))) : Ci shM G mX12_numberIn (k + 3) [.ref (G.2.1 0), .int v1, .int v2, .int v3] M q := by
  unfold Ci
  show V _ _ _ _ _ [(0, .ref (G.2.1 0)), (1, .int v1), (2, .int v2), (3, .int v3)] _ _ _
  refine V_aload_n (pc := 0) dX12_numberIn_0 rfl ?_
  refine V_getI (pc := 1) fX12_166 sM0 rfl dX12_numberIn_1 ?_
  refine V_if_le (tgt := 9) (pc := 4) dX12_numberIn_4 rfl (fun c => ?_) (fun c => ?_)
  · have h := h.1 c
    refine V_iconst (v := 0) (pc := 9) dX12_numberIn_9 rfl ?_
    refine V_istore (pc := 10) dX12_numberIn_10 (by decide) ?_
    refine V_lv (lv2 := [(0, .ref (G.2.1 0)), (1, .int v1), (2, .int v2), (3, .int v3), (4, .int 0)]) rfl ?_
    refine V_aload_n (pc := 12) dX12_numberIn_12 rfl ?_
    refine V_getI (pc := 13) fX12_151 sM0 rfl dX12_numberIn_13 ?_
    refine V_istore (pc := 16) dX12_numberIn_16 (by decide) ?_
    refine V_lv (lv2 := [(0, .ref (G.2.1 0)), (1, .int v1), (2, .int v2), (3, .int v3), (4, .int 0), (5, .int (M.1 0 34))]) rfl ?_
    exact V_sub h ⟨rfl, rfl, rfl, rfl, rfl, rfl, trivial⟩
  · have h := h.2 c
    refine V_iconst (v := 0) (pc := 7) dX12_numberIn_7 rfl ?_
    exact V_iret dX12_numberIn_8 rfl h
theorem wp_X12_numberIn_18 {G : GV} {k : Nat} {M : Mem} {q : Int32 → Mem → Prop} {v1 : Int32} {v2 : Int32} {v3 : Int32} {v4 : Int32} {v5 : Int32} (h : (((M.1 0 35) ≤ v5 → (((M.1 0 33) ≠ 3 → (((M.1 0 33) ≠ 3 → Cv shM G mX12_need (k + 2) [.ref (G.2.1 0), .int 0] M (fun M1 => q v4 M1)) ∧ ((M.1 0 33) = 3 → Cv shM G mX12_need (k + 2) [.ref (G.2.1 0), .int 1] M (fun M2 => q v4 M2)))) ∧ ((M.1 0 33) = 3 → Ci shM G mX12_in (k + 2) [.long (Int32.toInt64 v4), .long (Int32.toInt64 v1), .long (Int32.toInt64 v2)] M (fun x3 M3 => ((x3 = 0 → Cv shM G mX12_bad (k + 2) [.ref (G.2.1 0), .int 2] M3 (fun M4 => (((M4.1 0 33) ≠ 3 → Cv shM G mX12_need (k + 2) [.ref (G.2.1 0), .int 0] M4 (fun M5 => q v4 M5)) ∧ ((M4.1 0 33) = 3 → Cv shM G mX12_need (k + 2) [.ref (G.2.1 0), .int 1] M4 (fun M6 => q v4 M6))))) ∧ (¬ x3 = 0 → ((v4 ≠ v3 → (((M3.1 0 33) ≠ 3 → Cv shM G mX12_need (k + 2) [.ref (G.2.1 0), .int 0] M3 (fun M7 => q v4 M7)) ∧ ((M3.1 0 33) = 3 → Cv shM G mX12_need (k + 2) [.ref (G.2.1 0), .int 1] M3 (fun M8 => q v4 M8)))) ∧ (v4 = v3 → Cv shM G mX12_bad (k + 2) [.ref (G.2.1 0), .int 2] M3 (fun M9 => (((M9.1 0 33) ≠ 3 → Cv shM G mX12_need (k + 2) [.ref (G.2.1 0), .int 0] M9 (fun M10 => q v4 M10)) ∧ ((M9.1 0 33) = 3 → Cv shM G mX12_need (k + 2) [.ref (G.2.1 0), .int 1] M9 (fun M11 => q v4 M11)))))))))))) ∧ (¬ (M.1 0 35) ≤ v5 → (((M.1 0 33) ≠ 3 → (((M.1 0 33) ≠ 3 → (((M.1 0 33) ≠ 3 → Cv shM G mX12_need (k + 2) [.ref (G.2.1 0), .int 0] M (fun M12 => q v4 M12)) ∧ ((M.1 0 33) = 3 → Cv shM G mX12_need (k + 2) [.ref (G.2.1 0), .int 1] M (fun M13 => q v4 M13)))) ∧ ((M.1 0 33) = 3 → Ci shM G mX12_in (k + 2) [.long (Int32.toInt64 v4), .long (Int32.toInt64 v1), .long (Int32.toInt64 v2)] M (fun x14 M14 => ((x14 = 0 → Cv shM G mX12_bad (k + 2) [.ref (G.2.1 0), .int 2] M14 (fun M15 => (((M15.1 0 33) ≠ 3 → Cv shM G mX12_need (k + 2) [.ref (G.2.1 0), .int 0] M15 (fun M16 => q v4 M16)) ∧ ((M15.1 0 33) = 3 → Cv shM G mX12_need (k + 2) [.ref (G.2.1 0), .int 1] M15 (fun M17 => q v4 M17))))) ∧ (¬ x14 = 0 → ((v4 ≠ v3 → (((M14.1 0 33) ≠ 3 → Cv shM G mX12_need (k + 2) [.ref (G.2.1 0), .int 0] M14 (fun M18 => q v4 M18)) ∧ ((M14.1 0 33) = 3 → Cv shM G mX12_need (k + 2) [.ref (G.2.1 0), .int 1] M14 (fun M19 => q v4 M19)))) ∧ (v4 = v3 → Cv shM G mX12_bad (k + 2) [.ref (G.2.1 0), .int 2] M14 (fun M20 => (((M20.1 0 33) ≠ 3 → Cv shM G mX12_need (k + 2) [.ref (G.2.1 0), .int 0] M20 (fun M21 => q v4 M21)) ∧ ((M20.1 0 33) = 3 → Cv shM G mX12_need (k + 2) [.ref (G.2.1 0), .int 1] M20 (fun M22 => q v4 M22)))))))))))) ∧ ((M.1 0 33) = 3 → vp_in v5 600 ∧ V shM G mX12_numberIn (k + 3) 18 [(0, .ref (G.2.1 0)), (1, .int v1), (2, .int v2), (3, .int v3), (4, .int (((10 * v4) + (M.1 23 (ix v5))) - 48)), (5, .int (v5 + 1))] [] M (Qi q)))))) : V shM G mX12_numberIn (k + 3) 18 [(0, .ref (G.2.1 0)), (1, .int v1), (2, .int v2), (3, .int v3), (4, .int v4), (5, .int v5)] [] M (Qi q) := by
  refine V_iload (pc := 18) dX12_numberIn_18 rfl ?_
  refine V_aload_n (pc := 20) dX12_numberIn_20 rfl ?_
  refine V_getI (pc := 21) fX12_163 sM0 rfl dX12_numberIn_21 ?_
  refine V_icmp_ge (tgt := 59) (pc := 24) dX12_numberIn_24 rfl (fun c => ?_) (fun c => ?_)
  · have h := h.1 c
    refine V_aload_n (pc := 59) dX12_numberIn_59 rfl ?_
    refine V_getI (pc := 60) fX12_154 sM0 rfl dX12_numberIn_60 ?_
    refine V_iconst (v := 3) (pc := 63) dX12_numberIn_63 rfl ?_
    refine V_icmp_ne (tgt := 91) (pc := 64) dX12_numberIn_64 rfl (fun c => ?_) (fun c => ?_)
    · have h := h.1 c
      refine V_aload_n (pc := 91) dX12_numberIn_91 rfl ?_
      refine V_aload_n (pc := 92) dX12_numberIn_92 rfl ?_
      refine V_getI (pc := 93) fX12_154 sM0 rfl dX12_numberIn_93 ?_
      refine V_iconst (v := 3) (pc := 96) dX12_numberIn_96 rfl ?_
      refine V_icmp_ne (tgt := 104) (pc := 97) dX12_numberIn_97 rfl (fun c => ?_) (fun c => ?_)
      · have h := h.1 c
        refine V_iconst (v := 0) (pc := 104) dX12_numberIn_104 rfl ?_
        refine V_callVv [.int 0] (pc := 105) kX12_need lX12_179 sM0 rfl rfl (Nat.le_of_ble_eq_true rfl) rfl (Nat.le_of_ble_eq_true rfl) dX12_numberIn_105 ?_
        refine Cv.mono h ?_
        intro M1 h
        refine V_iload (pc := 108) dX12_numberIn_108 rfl ?_
        exact V_iret dX12_numberIn_110 rfl h
      · have h := h.2 c
        refine V_iconst (v := 1) (pc := 100) dX12_numberIn_100 rfl ?_
        refine V_goto (tgt := 105) (pc := 101) dX12_numberIn_101 rfl ?_
        refine V_callVv [.int 1] (pc := 105) kX12_need lX12_179 sM0 rfl rfl (Nat.le_of_ble_eq_true rfl) rfl (Nat.le_of_ble_eq_true rfl) dX12_numberIn_105 ?_
        refine Cv.mono h ?_
        intro M2 h
        refine V_iload (pc := 108) dX12_numberIn_108 rfl ?_
        exact V_iret dX12_numberIn_110 rfl h
    · have h := h.2 c
      refine V_iload (pc := 67) dX12_numberIn_67 rfl ?_
      refine V_i2l (pc := 69) dX12_numberIn_69 ?_
      refine V_iload_n (pc := 70) dX12_numberIn_70 rfl ?_
      refine V_i2l (pc := 71) dX12_numberIn_71 ?_
      refine V_iload_n (pc := 72) dX12_numberIn_72 rfl ?_
      refine V_i2l (pc := 73) dX12_numberIn_73 ?_
      refine V_callSi [.long (Int32.toInt64 v4), .long (Int32.toInt64 v1), .long (Int32.toInt64 v2)] (pc := 74) kX12_in lX12_118 rfl (Nat.le_of_ble_eq_true rfl) rfl (Nat.le_of_ble_eq_true rfl) dX12_numberIn_74 ?_
      refine Ci.mono h ?_
      intro x3 M3 h
      refine V_if_eq (tgt := 86) (pc := 77) dX12_numberIn_77 rfl (fun c => ?_) (fun c => ?_)
      · have h := h.1 c
        refine V_aload_n (pc := 86) dX12_numberIn_86 rfl ?_
        refine V_iconst (v := 2) (pc := 87) dX12_numberIn_87 rfl ?_
        refine V_callVv [.int 2] (pc := 88) kX12_bad lX12_172 sM0 rfl rfl (Nat.le_of_ble_eq_true rfl) rfl (Nat.le_of_ble_eq_true rfl) dX12_numberIn_88 ?_
        refine Cv.mono h ?_
        intro M4 h
        refine V_aload_n (pc := 91) dX12_numberIn_91 rfl ?_
        refine V_aload_n (pc := 92) dX12_numberIn_92 rfl ?_
        refine V_getI (pc := 93) fX12_154 sM0 rfl dX12_numberIn_93 ?_
        refine V_iconst (v := 3) (pc := 96) dX12_numberIn_96 rfl ?_
        refine V_icmp_ne (tgt := 104) (pc := 97) dX12_numberIn_97 rfl (fun c => ?_) (fun c => ?_)
        · have h := h.1 c
          refine V_iconst (v := 0) (pc := 104) dX12_numberIn_104 rfl ?_
          refine V_callVv [.int 0] (pc := 105) kX12_need lX12_179 sM0 rfl rfl (Nat.le_of_ble_eq_true rfl) rfl (Nat.le_of_ble_eq_true rfl) dX12_numberIn_105 ?_
          refine Cv.mono h ?_
          intro M5 h
          refine V_iload (pc := 108) dX12_numberIn_108 rfl ?_
          exact V_iret dX12_numberIn_110 rfl h
        · have h := h.2 c
          refine V_iconst (v := 1) (pc := 100) dX12_numberIn_100 rfl ?_
          refine V_goto (tgt := 105) (pc := 101) dX12_numberIn_101 rfl ?_
          refine V_callVv [.int 1] (pc := 105) kX12_need lX12_179 sM0 rfl rfl (Nat.le_of_ble_eq_true rfl) rfl (Nat.le_of_ble_eq_true rfl) dX12_numberIn_105 ?_
          refine Cv.mono h ?_
          intro M6 h
          refine V_iload (pc := 108) dX12_numberIn_108 rfl ?_
          exact V_iret dX12_numberIn_110 rfl h
      · have h := h.2 c
        refine V_iload (pc := 80) dX12_numberIn_80 rfl ?_
        refine V_iload_n (pc := 82) dX12_numberIn_82 rfl ?_
        refine V_icmp_ne (tgt := 91) (pc := 83) dX12_numberIn_83 rfl (fun c => ?_) (fun c => ?_)
        · have h := h.1 c
          refine V_aload_n (pc := 91) dX12_numberIn_91 rfl ?_
          refine V_aload_n (pc := 92) dX12_numberIn_92 rfl ?_
          refine V_getI (pc := 93) fX12_154 sM0 rfl dX12_numberIn_93 ?_
          refine V_iconst (v := 3) (pc := 96) dX12_numberIn_96 rfl ?_
          refine V_icmp_ne (tgt := 104) (pc := 97) dX12_numberIn_97 rfl (fun c => ?_) (fun c => ?_)
          · have h := h.1 c
            refine V_iconst (v := 0) (pc := 104) dX12_numberIn_104 rfl ?_
            refine V_callVv [.int 0] (pc := 105) kX12_need lX12_179 sM0 rfl rfl (Nat.le_of_ble_eq_true rfl) rfl (Nat.le_of_ble_eq_true rfl) dX12_numberIn_105 ?_
            refine Cv.mono h ?_
            intro M7 h
            refine V_iload (pc := 108) dX12_numberIn_108 rfl ?_
            exact V_iret dX12_numberIn_110 rfl h
          · have h := h.2 c
            refine V_iconst (v := 1) (pc := 100) dX12_numberIn_100 rfl ?_
            refine V_goto (tgt := 105) (pc := 101) dX12_numberIn_101 rfl ?_
            refine V_callVv [.int 1] (pc := 105) kX12_need lX12_179 sM0 rfl rfl (Nat.le_of_ble_eq_true rfl) rfl (Nat.le_of_ble_eq_true rfl) dX12_numberIn_105 ?_
            refine Cv.mono h ?_
            intro M8 h
            refine V_iload (pc := 108) dX12_numberIn_108 rfl ?_
            exact V_iret dX12_numberIn_110 rfl h
        · have h := h.2 c
          refine V_aload_n (pc := 86) dX12_numberIn_86 rfl ?_
          refine V_iconst (v := 2) (pc := 87) dX12_numberIn_87 rfl ?_
          refine V_callVv [.int 2] (pc := 88) kX12_bad lX12_172 sM0 rfl rfl (Nat.le_of_ble_eq_true rfl) rfl (Nat.le_of_ble_eq_true rfl) dX12_numberIn_88 ?_
          refine Cv.mono h ?_
          intro M9 h
          refine V_aload_n (pc := 91) dX12_numberIn_91 rfl ?_
          refine V_aload_n (pc := 92) dX12_numberIn_92 rfl ?_
          refine V_getI (pc := 93) fX12_154 sM0 rfl dX12_numberIn_93 ?_
          refine V_iconst (v := 3) (pc := 96) dX12_numberIn_96 rfl ?_
          refine V_icmp_ne (tgt := 104) (pc := 97) dX12_numberIn_97 rfl (fun c => ?_) (fun c => ?_)
          · have h := h.1 c
            refine V_iconst (v := 0) (pc := 104) dX12_numberIn_104 rfl ?_
            refine V_callVv [.int 0] (pc := 105) kX12_need lX12_179 sM0 rfl rfl (Nat.le_of_ble_eq_true rfl) rfl (Nat.le_of_ble_eq_true rfl) dX12_numberIn_105 ?_
            refine Cv.mono h ?_
            intro M10 h
            refine V_iload (pc := 108) dX12_numberIn_108 rfl ?_
            exact V_iret dX12_numberIn_110 rfl h
          · have h := h.2 c
            refine V_iconst (v := 1) (pc := 100) dX12_numberIn_100 rfl ?_
            refine V_goto (tgt := 105) (pc := 101) dX12_numberIn_101 rfl ?_
            refine V_callVv [.int 1] (pc := 105) kX12_need lX12_179 sM0 rfl rfl (Nat.le_of_ble_eq_true rfl) rfl (Nat.le_of_ble_eq_true rfl) dX12_numberIn_105 ?_
            refine Cv.mono h ?_
            intro M11 h
            refine V_iload (pc := 108) dX12_numberIn_108 rfl ?_
            exact V_iret dX12_numberIn_110 rfl h
  · have h := h.2 c
    refine V_aload_n (pc := 27) dX12_numberIn_27 rfl ?_
    refine V_getI (pc := 28) fX12_154 sM0 rfl dX12_numberIn_28 ?_
    refine V_iconst (v := 3) (pc := 31) dX12_numberIn_31 rfl ?_
    refine V_icmp_ne (tgt := 59) (pc := 32) dX12_numberIn_32 rfl (fun c => ?_) (fun c => ?_)
    · have h := h.1 c
      refine V_aload_n (pc := 59) dX12_numberIn_59 rfl ?_
      refine V_getI (pc := 60) fX12_154 sM0 rfl dX12_numberIn_60 ?_
      refine V_iconst (v := 3) (pc := 63) dX12_numberIn_63 rfl ?_
      refine V_icmp_ne (tgt := 91) (pc := 64) dX12_numberIn_64 rfl (fun c => ?_) (fun c => ?_)
      · have h := h.1 c
        refine V_aload_n (pc := 91) dX12_numberIn_91 rfl ?_
        refine V_aload_n (pc := 92) dX12_numberIn_92 rfl ?_
        refine V_getI (pc := 93) fX12_154 sM0 rfl dX12_numberIn_93 ?_
        refine V_iconst (v := 3) (pc := 96) dX12_numberIn_96 rfl ?_
        refine V_icmp_ne (tgt := 104) (pc := 97) dX12_numberIn_97 rfl (fun c => ?_) (fun c => ?_)
        · have h := h.1 c
          refine V_iconst (v := 0) (pc := 104) dX12_numberIn_104 rfl ?_
          refine V_callVv [.int 0] (pc := 105) kX12_need lX12_179 sM0 rfl rfl (Nat.le_of_ble_eq_true rfl) rfl (Nat.le_of_ble_eq_true rfl) dX12_numberIn_105 ?_
          refine Cv.mono h ?_
          intro M12 h
          refine V_iload (pc := 108) dX12_numberIn_108 rfl ?_
          exact V_iret dX12_numberIn_110 rfl h
        · have h := h.2 c
          refine V_iconst (v := 1) (pc := 100) dX12_numberIn_100 rfl ?_
          refine V_goto (tgt := 105) (pc := 101) dX12_numberIn_101 rfl ?_
          refine V_callVv [.int 1] (pc := 105) kX12_need lX12_179 sM0 rfl rfl (Nat.le_of_ble_eq_true rfl) rfl (Nat.le_of_ble_eq_true rfl) dX12_numberIn_105 ?_
          refine Cv.mono h ?_
          intro M13 h
          refine V_iload (pc := 108) dX12_numberIn_108 rfl ?_
          exact V_iret dX12_numberIn_110 rfl h
      · have h := h.2 c
        refine V_iload (pc := 67) dX12_numberIn_67 rfl ?_
        refine V_i2l (pc := 69) dX12_numberIn_69 ?_
        refine V_iload_n (pc := 70) dX12_numberIn_70 rfl ?_
        refine V_i2l (pc := 71) dX12_numberIn_71 ?_
        refine V_iload_n (pc := 72) dX12_numberIn_72 rfl ?_
        refine V_i2l (pc := 73) dX12_numberIn_73 ?_
        refine V_callSi [.long (Int32.toInt64 v4), .long (Int32.toInt64 v1), .long (Int32.toInt64 v2)] (pc := 74) kX12_in lX12_118 rfl (Nat.le_of_ble_eq_true rfl) rfl (Nat.le_of_ble_eq_true rfl) dX12_numberIn_74 ?_
        refine Ci.mono h ?_
        intro x14 M14 h
        refine V_if_eq (tgt := 86) (pc := 77) dX12_numberIn_77 rfl (fun c => ?_) (fun c => ?_)
        · have h := h.1 c
          refine V_aload_n (pc := 86) dX12_numberIn_86 rfl ?_
          refine V_iconst (v := 2) (pc := 87) dX12_numberIn_87 rfl ?_
          refine V_callVv [.int 2] (pc := 88) kX12_bad lX12_172 sM0 rfl rfl (Nat.le_of_ble_eq_true rfl) rfl (Nat.le_of_ble_eq_true rfl) dX12_numberIn_88 ?_
          refine Cv.mono h ?_
          intro M15 h
          refine V_aload_n (pc := 91) dX12_numberIn_91 rfl ?_
          refine V_aload_n (pc := 92) dX12_numberIn_92 rfl ?_
          refine V_getI (pc := 93) fX12_154 sM0 rfl dX12_numberIn_93 ?_
          refine V_iconst (v := 3) (pc := 96) dX12_numberIn_96 rfl ?_
          refine V_icmp_ne (tgt := 104) (pc := 97) dX12_numberIn_97 rfl (fun c => ?_) (fun c => ?_)
          · have h := h.1 c
            refine V_iconst (v := 0) (pc := 104) dX12_numberIn_104 rfl ?_
            refine V_callVv [.int 0] (pc := 105) kX12_need lX12_179 sM0 rfl rfl (Nat.le_of_ble_eq_true rfl) rfl (Nat.le_of_ble_eq_true rfl) dX12_numberIn_105 ?_
            refine Cv.mono h ?_
            intro M16 h
            refine V_iload (pc := 108) dX12_numberIn_108 rfl ?_
            exact V_iret dX12_numberIn_110 rfl h
          · have h := h.2 c
            refine V_iconst (v := 1) (pc := 100) dX12_numberIn_100 rfl ?_
            refine V_goto (tgt := 105) (pc := 101) dX12_numberIn_101 rfl ?_
            refine V_callVv [.int 1] (pc := 105) kX12_need lX12_179 sM0 rfl rfl (Nat.le_of_ble_eq_true rfl) rfl (Nat.le_of_ble_eq_true rfl) dX12_numberIn_105 ?_
            refine Cv.mono h ?_
            intro M17 h
            refine V_iload (pc := 108) dX12_numberIn_108 rfl ?_
            exact V_iret dX12_numberIn_110 rfl h
        · have h := h.2 c
          refine V_iload (pc := 80) dX12_numberIn_80 rfl ?_
          refine V_iload_n (pc := 82) dX12_numberIn_82 rfl ?_
          refine V_icmp_ne (tgt := 91) (pc := 83) dX12_numberIn_83 rfl (fun c => ?_) (fun c => ?_)
          · have h := h.1 c
            refine V_aload_n (pc := 91) dX12_numberIn_91 rfl ?_
            refine V_aload_n (pc := 92) dX12_numberIn_92 rfl ?_
            refine V_getI (pc := 93) fX12_154 sM0 rfl dX12_numberIn_93 ?_
            refine V_iconst (v := 3) (pc := 96) dX12_numberIn_96 rfl ?_
            refine V_icmp_ne (tgt := 104) (pc := 97) dX12_numberIn_97 rfl (fun c => ?_) (fun c => ?_)
            · have h := h.1 c
              refine V_iconst (v := 0) (pc := 104) dX12_numberIn_104 rfl ?_
              refine V_callVv [.int 0] (pc := 105) kX12_need lX12_179 sM0 rfl rfl (Nat.le_of_ble_eq_true rfl) rfl (Nat.le_of_ble_eq_true rfl) dX12_numberIn_105 ?_
              refine Cv.mono h ?_
              intro M18 h
              refine V_iload (pc := 108) dX12_numberIn_108 rfl ?_
              exact V_iret dX12_numberIn_110 rfl h
            · have h := h.2 c
              refine V_iconst (v := 1) (pc := 100) dX12_numberIn_100 rfl ?_
              refine V_goto (tgt := 105) (pc := 101) dX12_numberIn_101 rfl ?_
              refine V_callVv [.int 1] (pc := 105) kX12_need lX12_179 sM0 rfl rfl (Nat.le_of_ble_eq_true rfl) rfl (Nat.le_of_ble_eq_true rfl) dX12_numberIn_105 ?_
              refine Cv.mono h ?_
              intro M19 h
              refine V_iload (pc := 108) dX12_numberIn_108 rfl ?_
              exact V_iret dX12_numberIn_110 rfl h
          · have h := h.2 c
            refine V_aload_n (pc := 86) dX12_numberIn_86 rfl ?_
            refine V_iconst (v := 2) (pc := 87) dX12_numberIn_87 rfl ?_
            refine V_callVv [.int 2] (pc := 88) kX12_bad lX12_172 sM0 rfl rfl (Nat.le_of_ble_eq_true rfl) rfl (Nat.le_of_ble_eq_true rfl) dX12_numberIn_88 ?_
            refine Cv.mono h ?_
            intro M20 h
            refine V_aload_n (pc := 91) dX12_numberIn_91 rfl ?_
            refine V_aload_n (pc := 92) dX12_numberIn_92 rfl ?_
            refine V_getI (pc := 93) fX12_154 sM0 rfl dX12_numberIn_93 ?_
            refine V_iconst (v := 3) (pc := 96) dX12_numberIn_96 rfl ?_
            refine V_icmp_ne (tgt := 104) (pc := 97) dX12_numberIn_97 rfl (fun c => ?_) (fun c => ?_)
            · have h := h.1 c
              refine V_iconst (v := 0) (pc := 104) dX12_numberIn_104 rfl ?_
              refine V_callVv [.int 0] (pc := 105) kX12_need lX12_179 sM0 rfl rfl (Nat.le_of_ble_eq_true rfl) rfl (Nat.le_of_ble_eq_true rfl) dX12_numberIn_105 ?_
              refine Cv.mono h ?_
              intro M21 h
              refine V_iload (pc := 108) dX12_numberIn_108 rfl ?_
              exact V_iret dX12_numberIn_110 rfl h
            · have h := h.2 c
              refine V_iconst (v := 1) (pc := 100) dX12_numberIn_100 rfl ?_
              refine V_goto (tgt := 105) (pc := 101) dX12_numberIn_101 rfl ?_
              refine V_callVv [.int 1] (pc := 105) kX12_need lX12_179 sM0 rfl rfl (Nat.le_of_ble_eq_true rfl) rfl (Nat.le_of_ble_eq_true rfl) dX12_numberIn_105 ?_
              refine Cv.mono h ?_
              intro M22 h
              refine V_iload (pc := 108) dX12_numberIn_108 rfl ?_
              exact V_iret dX12_numberIn_110 rfl h
    · have h := h.2 c
      refine V_bipush (v := 10) (pc := 35) dX12_numberIn_35 rfl ?_
      refine V_iload (pc := 37) dX12_numberIn_37 rfl ?_
      refine V_imul (pc := 39) dX12_numberIn_39 ?_
      refine V_aload_n (pc := 40) dX12_numberIn_40 rfl ?_
      refine V_getR (pc := 41) fX12_77 sM0 rfl dX12_numberIn_41 ?_
      refine V_iload (pc := 44) dX12_numberIn_44 rfl ?_
      refine V_iald (pc := 46) sM23 dX12_numberIn_46 h.1 ?_
      have h := h.2
      refine V_iadd (pc := 47) dX12_numberIn_47 ?_
      refine V_bipush (v := 48) (pc := 48) dX12_numberIn_48 rfl ?_
      refine V_isub (pc := 50) dX12_numberIn_50 ?_
      refine V_istore (pc := 51) dX12_numberIn_51 (by decide) ?_
      refine V_lv (lv2 := [(0, .ref (G.2.1 0)), (1, .int v1), (2, .int v2), (3, .int v3), (4, .int (((10 * v4) + (M.1 23 (ix v5))) - 48)), (5, .int v5)]) rfl ?_
      refine V_iinc (pc := 53) dX12_numberIn_53 rfl (by decide) ?_
      refine V_lv (lv2 := [(0, .ref (G.2.1 0)), (1, .int v1), (2, .int v2), (3, .int v3), (4, .int (((10 * v4) + (M.1 23 (ix v5))) - 48)), (5, .int (v5 + 1))]) rfl ?_
      refine V_goto (tgt := 18) (pc := 56) dX12_numberIn_56 rfl ?_
      exact V_sub h ⟨rfl, rfl, rfl, rfl, rfl, rfl, trivial⟩
theorem wp_X12_sizeOf {G : GV} {k : Nat} {M : Mem} {q : Int32 → Mem → Prop} {v1 : Int32} (h : vp_in v1 12 ∧ ((((M.1 9 (ix v1)) + 1) ≠ 5 → ((((M.1 9 (ix v1)) + 1) ≠ 2 → V shM G mX12_sizeOf (k + 3) 38 [(0, .ref (G.2.1 0)), (1, .int v1), (2, .int ((M.1 9 (ix v1)) + 1))] [] M (Qi q)) ∧ (((M.1 9 (ix v1)) + 1) = 2 → Cv shM G mX12_began (k + 2) [.ref (G.2.1 0), .int 12] M (fun M1 => V shM G mX12_sizeOf (k + 3) 38 [(0, .ref (G.2.1 0)), (1, .int v1), (2, .int ((M.1 9 (ix v1)) + 1))] [] M1 (Qi q))))) ∧ (((M.1 9 (ix v1)) + 1) = 5 → Cv shM G mX12_began (k + 2) [.ref (G.2.1 0), .int 14] M (fun M2 => Ci shM G mX12_plainSize (k + 2) [.ref (G.2.1 0), .int v1] M2 (fun x3 M3 => q (-x3) M3))))) : Ci shM G mX12_sizeOf (k + 3) [.ref (G.2.1 0), .int v1] M q := by
  unfold Ci
  show V _ _ _ _ _ [(0, .ref (G.2.1 0)), (1, .int v1)] _ _ _
  refine V_aload_n (pc := 0) dX12_sizeOf_0 rfl ?_
  refine V_getR (pc := 1) fX12_35 sM0 rfl dX12_sizeOf_1 ?_
  refine V_iload_n (pc := 4) dX12_sizeOf_4 rfl ?_
  refine V_iald (pc := 5) sM9 dX12_sizeOf_5 h.1 ?_
  have h := h.2
  refine V_iconst (v := 1) (pc := 6) dX12_sizeOf_6 rfl ?_
  refine V_iadd (pc := 7) dX12_sizeOf_7 ?_
  refine V_istore_n (pc := 8) dX12_sizeOf_8 (by decide) ?_
  refine V_lv (lv2 := [(0, .ref (G.2.1 0)), (1, .int v1), (2, .int ((M.1 9 (ix v1)) + 1))]) rfl ?_
  refine V_iload_n (pc := 9) dX12_sizeOf_9 rfl ?_
  refine V_iconst (v := 5) (pc := 10) dX12_sizeOf_10 rfl ?_
  refine V_icmp_ne (tgt := 27) (pc := 11) dX12_sizeOf_11 rfl (fun c => ?_) (fun c => ?_)
  · have h := h.1 c
    refine V_iload_n (pc := 27) dX12_sizeOf_27 rfl ?_
    refine V_iconst (v := 2) (pc := 28) dX12_sizeOf_28 rfl ?_
    refine V_icmp_ne (tgt := 38) (pc := 29) dX12_sizeOf_29 rfl (fun c => ?_) (fun c => ?_)
    · have h := h.1 c
      exact V_sub h ⟨rfl, rfl, rfl, trivial⟩
    · have h := h.2 c
      refine V_aload_n (pc := 32) dX12_sizeOf_32 rfl ?_
      refine V_bipush (v := 12) (pc := 33) dX12_sizeOf_33 rfl ?_
      refine V_callVv [.int 12] (pc := 35) kX12_began lX12_348 sM0 rfl rfl (Nat.le_of_ble_eq_true rfl) rfl (Nat.le_of_ble_eq_true rfl) dX12_sizeOf_35 ?_
      refine Cv.mono h ?_
      intro M1 h
      exact V_sub h ⟨rfl, rfl, rfl, trivial⟩
  · have h := h.2 c
    refine V_aload_n (pc := 14) dX12_sizeOf_14 rfl ?_
    refine V_bipush (v := 14) (pc := 15) dX12_sizeOf_15 rfl ?_
    refine V_callVv [.int 14] (pc := 17) kX12_began lX12_348 sM0 rfl rfl (Nat.le_of_ble_eq_true rfl) rfl (Nat.le_of_ble_eq_true rfl) dX12_sizeOf_17 ?_
    refine Cv.mono h ?_
    intro M2 h
    refine V_aload_n (pc := 20) dX12_sizeOf_20 rfl ?_
    refine V_iload_n (pc := 21) dX12_sizeOf_21 rfl ?_
    refine V_callVi [.int v1] (pc := 22) kX12_plainSize lX12_351 sM0 rfl rfl (Nat.le_of_ble_eq_true rfl) rfl (Nat.le_of_ble_eq_true rfl) dX12_sizeOf_22 ?_
    refine Ci.mono h ?_
    intro x3 M3 h
    refine V_ineg (pc := 25) dX12_sizeOf_25 ?_
    exact V_iret dX12_sizeOf_26 rfl h
theorem wp_X12_sizeOf_38 {G : GV} {k : Nat} {M : Mem} {q : Int32 → Mem → Prop} {v1 : Int32} {v2 : Int32} (h : ((v2 ≠ 3 → Ci shM G mX12_isOf (k + 2) [.int v2, .int 1] M (fun x1 M1 => ((x1 = 0 → Ci shM G mX12_plainSize (k + 2) [.ref (G.2.1 0), .int v1] M1 (fun x2 M2 => Ci shM G mX12_isOf (k + 2) [.int v2, .int 1] M2 (fun x3 M3 => ((x3 = 0 → ((v2 ≠ 2 → ((v2 ≠ 3 → q (x2 + 0) M3) ∧ (v2 = 3 → Ci shM G mX12_markOf (k + 2) [.ref (G.2.1 0), .int v1] M3 (fun x4 M4 => q ((x2 + 0) + x4) M4)))) ∧ (v2 = 2 → q (2 * (x2 + 0)) M3))) ∧ (¬ x3 = 0 → vp_in v1 12 ∧ ((v2 ≠ 2 → ((v2 ≠ 3 → q (x2 + (M3.1 11 (ix v1))) M3) ∧ (v2 = 3 → Ci shM G mX12_markOf (k + 2) [.ref (G.2.1 0), .int v1] M3 (fun x5 M5 => q ((x2 + (M3.1 11 (ix v1))) + x5) M5)))) ∧ (v2 = 2 → q (2 * (x2 + (M3.1 11 (ix v1)))) M3))))))) ∧ (¬ x1 = 0 → Cv shM G mX12_began (k + 2) [.ref (G.2.1 0), .int 11] M1 (fun M6 => Ci shM G mX12_plainSize (k + 2) [.ref (G.2.1 0), .int v1] M6 (fun x7 M7 => Ci shM G mX12_isOf (k + 2) [.int v2, .int 1] M7 (fun x8 M8 => ((x8 = 0 → ((v2 ≠ 2 → ((v2 ≠ 3 → q (x7 + 0) M8) ∧ (v2 = 3 → Ci shM G mX12_markOf (k + 2) [.ref (G.2.1 0), .int v1] M8 (fun x9 M9 => q ((x7 + 0) + x9) M9)))) ∧ (v2 = 2 → q (2 * (x7 + 0)) M8))) ∧ (¬ x8 = 0 → vp_in v1 12 ∧ ((v2 ≠ 2 → ((v2 ≠ 3 → q (x7 + (M8.1 11 (ix v1))) M8) ∧ (v2 = 3 → Ci shM G mX12_markOf (k + 2) [.ref (G.2.1 0), .int v1] M8 (fun x10 M10 => q ((x7 + (M8.1 11 (ix v1))) + x10) M10)))) ∧ (v2 = 2 → q (2 * (x7 + (M8.1 11 (ix v1)))) M8))))))))))) ∧ (v2 = 3 → Cv shM G mX12_began (k + 2) [.ref (G.2.1 0), .int 13] M (fun M11 => Ci shM G mX12_isOf (k + 2) [.int v2, .int 1] M11 (fun x12 M12 => ((x12 = 0 → Ci shM G mX12_plainSize (k + 2) [.ref (G.2.1 0), .int v1] M12 (fun x13 M13 => Ci shM G mX12_isOf (k + 2) [.int v2, .int 1] M13 (fun x14 M14 => ((x14 = 0 → ((v2 ≠ 2 → ((v2 ≠ 3 → q (x13 + 0) M14) ∧ (v2 = 3 → Ci shM G mX12_markOf (k + 2) [.ref (G.2.1 0), .int v1] M14 (fun x15 M15 => q ((x13 + 0) + x15) M15)))) ∧ (v2 = 2 → q (2 * (x13 + 0)) M14))) ∧ (¬ x14 = 0 → vp_in v1 12 ∧ ((v2 ≠ 2 → ((v2 ≠ 3 → q (x13 + (M14.1 11 (ix v1))) M14) ∧ (v2 = 3 → Ci shM G mX12_markOf (k + 2) [.ref (G.2.1 0), .int v1] M14 (fun x16 M16 => q ((x13 + (M14.1 11 (ix v1))) + x16) M16)))) ∧ (v2 = 2 → q (2 * (x13 + (M14.1 11 (ix v1)))) M14))))))) ∧ (¬ x12 = 0 → Cv shM G mX12_began (k + 2) [.ref (G.2.1 0), .int 11] M12 (fun M17 => Ci shM G mX12_plainSize (k + 2) [.ref (G.2.1 0), .int v1] M17 (fun x18 M18 => Ci shM G mX12_isOf (k + 2) [.int v2, .int 1] M18 (fun x19 M19 => ((x19 = 0 → ((v2 ≠ 2 → ((v2 ≠ 3 → q (x18 + 0) M19) ∧ (v2 = 3 → Ci shM G mX12_markOf (k + 2) [.ref (G.2.1 0), .int v1] M19 (fun x20 M20 => q ((x18 + 0) + x20) M20)))) ∧ (v2 = 2 → q (2 * (x18 + 0)) M19))) ∧ (¬ x19 = 0 → vp_in v1 12 ∧ ((v2 ≠ 2 → ((v2 ≠ 3 → q (x18 + (M19.1 11 (ix v1))) M19) ∧ (v2 = 3 → Ci shM G mX12_markOf (k + 2) [.ref (G.2.1 0), .int v1] M19 (fun x21 M21 => q ((x18 + (M19.1 11 (ix v1))) + x21) M21)))) ∧ (v2 = 2 → q (2 * (x18 + (M19.1 11 (ix v1)))) M19)))))))))))))) : V shM G mX12_sizeOf (k + 3) 38 [(0, .ref (G.2.1 0)), (1, .int v1), (2, .int v2)] [] M (Qi q) := by
  refine V_iload_n (pc := 38) dX12_sizeOf_38 rfl ?_
  refine V_iconst (v := 3) (pc := 39) dX12_sizeOf_39 rfl ?_
  refine V_icmp_ne (tgt := 49) (pc := 40) dX12_sizeOf_40 rfl (fun c => ?_) (fun c => ?_)
  · have h := h.1 c
    refine V_iload_n (pc := 49) dX12_sizeOf_49 rfl ?_
    refine V_iconst (v := 1) (pc := 50) dX12_sizeOf_50 rfl ?_
    refine V_callSi [.int v2, .int 1] (pc := 51) kX12_isOf lX12_342 rfl (Nat.le_of_ble_eq_true rfl) rfl (Nat.le_of_ble_eq_true rfl) dX12_sizeOf_51 ?_
    refine Ci.mono h ?_
    intro x1 M1 h
    refine V_if_eq (tgt := 63) (pc := 54) dX12_sizeOf_54 rfl (fun c => ?_) (fun c => ?_)
    · have h := h.1 c
      refine V_aload_n (pc := 63) dX12_sizeOf_63 rfl ?_
      refine V_iload_n (pc := 64) dX12_sizeOf_64 rfl ?_
      refine V_callVi [.int v1] (pc := 65) kX12_plainSize lX12_351 sM0 rfl rfl (Nat.le_of_ble_eq_true rfl) rfl (Nat.le_of_ble_eq_true rfl) dX12_sizeOf_65 ?_
      refine Ci.mono h ?_
      intro x2 M2 h
      refine V_iload_n (pc := 68) dX12_sizeOf_68 rfl ?_
      refine V_iconst (v := 1) (pc := 69) dX12_sizeOf_69 rfl ?_
      refine V_callSi [.int v2, .int 1] (pc := 70) kX12_isOf lX12_342 rfl (Nat.le_of_ble_eq_true rfl) rfl (Nat.le_of_ble_eq_true rfl) dX12_sizeOf_70 ?_
      refine Ci.mono h ?_
      intro x3 M3 h
      refine V_if_eq (tgt := 85) (pc := 73) dX12_sizeOf_73 rfl (fun c => ?_) (fun c => ?_)
      · have h := h.1 c
        refine V_iconst (v := 0) (pc := 85) dX12_sizeOf_85 rfl ?_
        refine V_iadd (pc := 86) dX12_sizeOf_86 ?_
        refine V_istore_n (pc := 87) dX12_sizeOf_87 (by decide) ?_
        refine V_lv (lv2 := [(0, .ref (G.2.1 0)), (1, .int v1), (2, .int v2), (3, .int (x2 + 0))]) rfl ?_
        refine V_iload_n (pc := 88) dX12_sizeOf_88 rfl ?_
        refine V_iconst (v := 2) (pc := 89) dX12_sizeOf_89 rfl ?_
        refine V_icmp_ne (tgt := 99) (pc := 90) dX12_sizeOf_90 rfl (fun c => ?_) (fun c => ?_)
        · have h := h.1 c
          refine V_iload_n (pc := 99) dX12_sizeOf_99 rfl ?_
          refine V_iconst (v := 3) (pc := 100) dX12_sizeOf_100 rfl ?_
          refine V_icmp_ne (tgt := 114) (pc := 101) dX12_sizeOf_101 rfl (fun c => ?_) (fun c => ?_)
          · have h := h.1 c
            refine V_iload_n (pc := 114) dX12_sizeOf_114 rfl ?_
            exact V_iret dX12_sizeOf_115 rfl h
          · have h := h.2 c
            refine V_iload_n (pc := 104) dX12_sizeOf_104 rfl ?_
            refine V_aload_n (pc := 105) dX12_sizeOf_105 rfl ?_
            refine V_iload_n (pc := 106) dX12_sizeOf_106 rfl ?_
            refine V_callVi [.int v1] (pc := 107) kX12_markOf lX12_354 sM0 rfl rfl (Nat.le_of_ble_eq_true rfl) rfl (Nat.le_of_ble_eq_true rfl) dX12_sizeOf_107 ?_
            refine Ci.mono h ?_
            intro x4 M4 h
            refine V_iadd (pc := 110) dX12_sizeOf_110 ?_
            refine V_goto (tgt := 115) (pc := 111) dX12_sizeOf_111 rfl ?_
            exact V_iret dX12_sizeOf_115 rfl h
        · have h := h.2 c
          refine V_iconst (v := 2) (pc := 93) dX12_sizeOf_93 rfl ?_
          refine V_iload_n (pc := 94) dX12_sizeOf_94 rfl ?_
          refine V_imul (pc := 95) dX12_sizeOf_95 ?_
          refine V_goto (tgt := 115) (pc := 96) dX12_sizeOf_96 rfl ?_
          exact V_iret dX12_sizeOf_115 rfl h
      · have h := h.2 c
        refine V_aload_n (pc := 76) dX12_sizeOf_76 rfl ?_
        refine V_getR (pc := 77) fX12_41 sM0 rfl dX12_sizeOf_77 ?_
        refine V_iload_n (pc := 80) dX12_sizeOf_80 rfl ?_
        refine V_iald (pc := 81) sM11 dX12_sizeOf_81 h.1 ?_
        have h := h.2
        refine V_goto (tgt := 86) (pc := 82) dX12_sizeOf_82 rfl ?_
        refine V_iadd (pc := 86) dX12_sizeOf_86 ?_
        refine V_istore_n (pc := 87) dX12_sizeOf_87 (by decide) ?_
        refine V_lv (lv2 := [(0, .ref (G.2.1 0)), (1, .int v1), (2, .int v2), (3, .int (x2 + (M3.1 11 (ix v1))))]) rfl ?_
        refine V_iload_n (pc := 88) dX12_sizeOf_88 rfl ?_
        refine V_iconst (v := 2) (pc := 89) dX12_sizeOf_89 rfl ?_
        refine V_icmp_ne (tgt := 99) (pc := 90) dX12_sizeOf_90 rfl (fun c => ?_) (fun c => ?_)
        · have h := h.1 c
          refine V_iload_n (pc := 99) dX12_sizeOf_99 rfl ?_
          refine V_iconst (v := 3) (pc := 100) dX12_sizeOf_100 rfl ?_
          refine V_icmp_ne (tgt := 114) (pc := 101) dX12_sizeOf_101 rfl (fun c => ?_) (fun c => ?_)
          · have h := h.1 c
            refine V_iload_n (pc := 114) dX12_sizeOf_114 rfl ?_
            exact V_iret dX12_sizeOf_115 rfl h
          · have h := h.2 c
            refine V_iload_n (pc := 104) dX12_sizeOf_104 rfl ?_
            refine V_aload_n (pc := 105) dX12_sizeOf_105 rfl ?_
            refine V_iload_n (pc := 106) dX12_sizeOf_106 rfl ?_
            refine V_callVi [.int v1] (pc := 107) kX12_markOf lX12_354 sM0 rfl rfl (Nat.le_of_ble_eq_true rfl) rfl (Nat.le_of_ble_eq_true rfl) dX12_sizeOf_107 ?_
            refine Ci.mono h ?_
            intro x5 M5 h
            refine V_iadd (pc := 110) dX12_sizeOf_110 ?_
            refine V_goto (tgt := 115) (pc := 111) dX12_sizeOf_111 rfl ?_
            exact V_iret dX12_sizeOf_115 rfl h
        · have h := h.2 c
          refine V_iconst (v := 2) (pc := 93) dX12_sizeOf_93 rfl ?_
          refine V_iload_n (pc := 94) dX12_sizeOf_94 rfl ?_
          refine V_imul (pc := 95) dX12_sizeOf_95 ?_
          refine V_goto (tgt := 115) (pc := 96) dX12_sizeOf_96 rfl ?_
          exact V_iret dX12_sizeOf_115 rfl h
    · have h := h.2 c
      refine V_aload_n (pc := 57) dX12_sizeOf_57 rfl ?_
      refine V_bipush (v := 11) (pc := 58) dX12_sizeOf_58 rfl ?_
      refine V_callVv [.int 11] (pc := 60) kX12_began lX12_348 sM0 rfl rfl (Nat.le_of_ble_eq_true rfl) rfl (Nat.le_of_ble_eq_true rfl) dX12_sizeOf_60 ?_
      refine Cv.mono h ?_
      intro M6 h
      refine V_aload_n (pc := 63) dX12_sizeOf_63 rfl ?_
      refine V_iload_n (pc := 64) dX12_sizeOf_64 rfl ?_
      refine V_callVi [.int v1] (pc := 65) kX12_plainSize lX12_351 sM0 rfl rfl (Nat.le_of_ble_eq_true rfl) rfl (Nat.le_of_ble_eq_true rfl) dX12_sizeOf_65 ?_
      refine Ci.mono h ?_
      intro x7 M7 h
      refine V_iload_n (pc := 68) dX12_sizeOf_68 rfl ?_
      refine V_iconst (v := 1) (pc := 69) dX12_sizeOf_69 rfl ?_
      refine V_callSi [.int v2, .int 1] (pc := 70) kX12_isOf lX12_342 rfl (Nat.le_of_ble_eq_true rfl) rfl (Nat.le_of_ble_eq_true rfl) dX12_sizeOf_70 ?_
      refine Ci.mono h ?_
      intro x8 M8 h
      refine V_if_eq (tgt := 85) (pc := 73) dX12_sizeOf_73 rfl (fun c => ?_) (fun c => ?_)
      · have h := h.1 c
        refine V_iconst (v := 0) (pc := 85) dX12_sizeOf_85 rfl ?_
        refine V_iadd (pc := 86) dX12_sizeOf_86 ?_
        refine V_istore_n (pc := 87) dX12_sizeOf_87 (by decide) ?_
        refine V_lv (lv2 := [(0, .ref (G.2.1 0)), (1, .int v1), (2, .int v2), (3, .int (x7 + 0))]) rfl ?_
        refine V_iload_n (pc := 88) dX12_sizeOf_88 rfl ?_
        refine V_iconst (v := 2) (pc := 89) dX12_sizeOf_89 rfl ?_
        refine V_icmp_ne (tgt := 99) (pc := 90) dX12_sizeOf_90 rfl (fun c => ?_) (fun c => ?_)
        · have h := h.1 c
          refine V_iload_n (pc := 99) dX12_sizeOf_99 rfl ?_
          refine V_iconst (v := 3) (pc := 100) dX12_sizeOf_100 rfl ?_
          refine V_icmp_ne (tgt := 114) (pc := 101) dX12_sizeOf_101 rfl (fun c => ?_) (fun c => ?_)
          · have h := h.1 c
            refine V_iload_n (pc := 114) dX12_sizeOf_114 rfl ?_
            exact V_iret dX12_sizeOf_115 rfl h
          · have h := h.2 c
            refine V_iload_n (pc := 104) dX12_sizeOf_104 rfl ?_
            refine V_aload_n (pc := 105) dX12_sizeOf_105 rfl ?_
            refine V_iload_n (pc := 106) dX12_sizeOf_106 rfl ?_
            refine V_callVi [.int v1] (pc := 107) kX12_markOf lX12_354 sM0 rfl rfl (Nat.le_of_ble_eq_true rfl) rfl (Nat.le_of_ble_eq_true rfl) dX12_sizeOf_107 ?_
            refine Ci.mono h ?_
            intro x9 M9 h
            refine V_iadd (pc := 110) dX12_sizeOf_110 ?_
            refine V_goto (tgt := 115) (pc := 111) dX12_sizeOf_111 rfl ?_
            exact V_iret dX12_sizeOf_115 rfl h
        · have h := h.2 c
          refine V_iconst (v := 2) (pc := 93) dX12_sizeOf_93 rfl ?_
          refine V_iload_n (pc := 94) dX12_sizeOf_94 rfl ?_
          refine V_imul (pc := 95) dX12_sizeOf_95 ?_
          refine V_goto (tgt := 115) (pc := 96) dX12_sizeOf_96 rfl ?_
          exact V_iret dX12_sizeOf_115 rfl h
      · have h := h.2 c
        refine V_aload_n (pc := 76) dX12_sizeOf_76 rfl ?_
        refine V_getR (pc := 77) fX12_41 sM0 rfl dX12_sizeOf_77 ?_
        refine V_iload_n (pc := 80) dX12_sizeOf_80 rfl ?_
        refine V_iald (pc := 81) sM11 dX12_sizeOf_81 h.1 ?_
        have h := h.2
        refine V_goto (tgt := 86) (pc := 82) dX12_sizeOf_82 rfl ?_
        refine V_iadd (pc := 86) dX12_sizeOf_86 ?_
        refine V_istore_n (pc := 87) dX12_sizeOf_87 (by decide) ?_
        refine V_lv (lv2 := [(0, .ref (G.2.1 0)), (1, .int v1), (2, .int v2), (3, .int (x7 + (M8.1 11 (ix v1))))]) rfl ?_
        refine V_iload_n (pc := 88) dX12_sizeOf_88 rfl ?_
        refine V_iconst (v := 2) (pc := 89) dX12_sizeOf_89 rfl ?_
        refine V_icmp_ne (tgt := 99) (pc := 90) dX12_sizeOf_90 rfl (fun c => ?_) (fun c => ?_)
        · have h := h.1 c
          refine V_iload_n (pc := 99) dX12_sizeOf_99 rfl ?_
          refine V_iconst (v := 3) (pc := 100) dX12_sizeOf_100 rfl ?_
          refine V_icmp_ne (tgt := 114) (pc := 101) dX12_sizeOf_101 rfl (fun c => ?_) (fun c => ?_)
          · have h := h.1 c
            refine V_iload_n (pc := 114) dX12_sizeOf_114 rfl ?_
            exact V_iret dX12_sizeOf_115 rfl h
          · have h := h.2 c
            refine V_iload_n (pc := 104) dX12_sizeOf_104 rfl ?_
            refine V_aload_n (pc := 105) dX12_sizeOf_105 rfl ?_
            refine V_iload_n (pc := 106) dX12_sizeOf_106 rfl ?_
            refine V_callVi [.int v1] (pc := 107) kX12_markOf lX12_354 sM0 rfl rfl (Nat.le_of_ble_eq_true rfl) rfl (Nat.le_of_ble_eq_true rfl) dX12_sizeOf_107 ?_
            refine Ci.mono h ?_
            intro x10 M10 h
            refine V_iadd (pc := 110) dX12_sizeOf_110 ?_
            refine V_goto (tgt := 115) (pc := 111) dX12_sizeOf_111 rfl ?_
            exact V_iret dX12_sizeOf_115 rfl h
        · have h := h.2 c
          refine V_iconst (v := 2) (pc := 93) dX12_sizeOf_93 rfl ?_
          refine V_iload_n (pc := 94) dX12_sizeOf_94 rfl ?_
          refine V_imul (pc := 95) dX12_sizeOf_95 ?_
          refine V_goto (tgt := 115) (pc := 96) dX12_sizeOf_96 rfl ?_
          exact V_iret dX12_sizeOf_115 rfl h
  · have h := h.2 c
    refine V_aload_n (pc := 43) dX12_sizeOf_43 rfl ?_
    refine V_bipush (v := 13) (pc := 44) dX12_sizeOf_44 rfl ?_
    refine V_callVv [.int 13] (pc := 46) kX12_began lX12_348 sM0 rfl rfl (Nat.le_of_ble_eq_true rfl) rfl (Nat.le_of_ble_eq_true rfl) dX12_sizeOf_46 ?_
    refine Cv.mono h ?_
    intro M11 h
    refine V_iload_n (pc := 49) dX12_sizeOf_49 rfl ?_
    refine V_iconst (v := 1) (pc := 50) dX12_sizeOf_50 rfl ?_
    refine V_callSi [.int v2, .int 1] (pc := 51) kX12_isOf lX12_342 rfl (Nat.le_of_ble_eq_true rfl) rfl (Nat.le_of_ble_eq_true rfl) dX12_sizeOf_51 ?_
    refine Ci.mono h ?_
    intro x12 M12 h
    refine V_if_eq (tgt := 63) (pc := 54) dX12_sizeOf_54 rfl (fun c => ?_) (fun c => ?_)
    · have h := h.1 c
      refine V_aload_n (pc := 63) dX12_sizeOf_63 rfl ?_
      refine V_iload_n (pc := 64) dX12_sizeOf_64 rfl ?_
      refine V_callVi [.int v1] (pc := 65) kX12_plainSize lX12_351 sM0 rfl rfl (Nat.le_of_ble_eq_true rfl) rfl (Nat.le_of_ble_eq_true rfl) dX12_sizeOf_65 ?_
      refine Ci.mono h ?_
      intro x13 M13 h
      refine V_iload_n (pc := 68) dX12_sizeOf_68 rfl ?_
      refine V_iconst (v := 1) (pc := 69) dX12_sizeOf_69 rfl ?_
      refine V_callSi [.int v2, .int 1] (pc := 70) kX12_isOf lX12_342 rfl (Nat.le_of_ble_eq_true rfl) rfl (Nat.le_of_ble_eq_true rfl) dX12_sizeOf_70 ?_
      refine Ci.mono h ?_
      intro x14 M14 h
      refine V_if_eq (tgt := 85) (pc := 73) dX12_sizeOf_73 rfl (fun c => ?_) (fun c => ?_)
      · have h := h.1 c
        refine V_iconst (v := 0) (pc := 85) dX12_sizeOf_85 rfl ?_
        refine V_iadd (pc := 86) dX12_sizeOf_86 ?_
        refine V_istore_n (pc := 87) dX12_sizeOf_87 (by decide) ?_
        refine V_lv (lv2 := [(0, .ref (G.2.1 0)), (1, .int v1), (2, .int v2), (3, .int (x13 + 0))]) rfl ?_
        refine V_iload_n (pc := 88) dX12_sizeOf_88 rfl ?_
        refine V_iconst (v := 2) (pc := 89) dX12_sizeOf_89 rfl ?_
        refine V_icmp_ne (tgt := 99) (pc := 90) dX12_sizeOf_90 rfl (fun c => ?_) (fun c => ?_)
        · have h := h.1 c
          refine V_iload_n (pc := 99) dX12_sizeOf_99 rfl ?_
          refine V_iconst (v := 3) (pc := 100) dX12_sizeOf_100 rfl ?_
          refine V_icmp_ne (tgt := 114) (pc := 101) dX12_sizeOf_101 rfl (fun c => ?_) (fun c => ?_)
          · have h := h.1 c
            refine V_iload_n (pc := 114) dX12_sizeOf_114 rfl ?_
            exact V_iret dX12_sizeOf_115 rfl h
          · have h := h.2 c
            refine V_iload_n (pc := 104) dX12_sizeOf_104 rfl ?_
            refine V_aload_n (pc := 105) dX12_sizeOf_105 rfl ?_
            refine V_iload_n (pc := 106) dX12_sizeOf_106 rfl ?_
            refine V_callVi [.int v1] (pc := 107) kX12_markOf lX12_354 sM0 rfl rfl (Nat.le_of_ble_eq_true rfl) rfl (Nat.le_of_ble_eq_true rfl) dX12_sizeOf_107 ?_
            refine Ci.mono h ?_
            intro x15 M15 h
            refine V_iadd (pc := 110) dX12_sizeOf_110 ?_
            refine V_goto (tgt := 115) (pc := 111) dX12_sizeOf_111 rfl ?_
            exact V_iret dX12_sizeOf_115 rfl h
        · have h := h.2 c
          refine V_iconst (v := 2) (pc := 93) dX12_sizeOf_93 rfl ?_
          refine V_iload_n (pc := 94) dX12_sizeOf_94 rfl ?_
          refine V_imul (pc := 95) dX12_sizeOf_95 ?_
          refine V_goto (tgt := 115) (pc := 96) dX12_sizeOf_96 rfl ?_
          exact V_iret dX12_sizeOf_115 rfl h
      · have h := h.2 c
        refine V_aload_n (pc := 76) dX12_sizeOf_76 rfl ?_
        refine V_getR (pc := 77) fX12_41 sM0 rfl dX12_sizeOf_77 ?_
        refine V_iload_n (pc := 80) dX12_sizeOf_80 rfl ?_
        refine V_iald (pc := 81) sM11 dX12_sizeOf_81 h.1 ?_
        have h := h.2
        refine V_goto (tgt := 86) (pc := 82) dX12_sizeOf_82 rfl ?_
        refine V_iadd (pc := 86) dX12_sizeOf_86 ?_
        refine V_istore_n (pc := 87) dX12_sizeOf_87 (by decide) ?_
        refine V_lv (lv2 := [(0, .ref (G.2.1 0)), (1, .int v1), (2, .int v2), (3, .int (x13 + (M14.1 11 (ix v1))))]) rfl ?_
        refine V_iload_n (pc := 88) dX12_sizeOf_88 rfl ?_
        refine V_iconst (v := 2) (pc := 89) dX12_sizeOf_89 rfl ?_
        refine V_icmp_ne (tgt := 99) (pc := 90) dX12_sizeOf_90 rfl (fun c => ?_) (fun c => ?_)
        · have h := h.1 c
          refine V_iload_n (pc := 99) dX12_sizeOf_99 rfl ?_
          refine V_iconst (v := 3) (pc := 100) dX12_sizeOf_100 rfl ?_
          refine V_icmp_ne (tgt := 114) (pc := 101) dX12_sizeOf_101 rfl (fun c => ?_) (fun c => ?_)
          · have h := h.1 c
            refine V_iload_n (pc := 114) dX12_sizeOf_114 rfl ?_
            exact V_iret dX12_sizeOf_115 rfl h
          · have h := h.2 c
            refine V_iload_n (pc := 104) dX12_sizeOf_104 rfl ?_
            refine V_aload_n (pc := 105) dX12_sizeOf_105 rfl ?_
            refine V_iload_n (pc := 106) dX12_sizeOf_106 rfl ?_
            refine V_callVi [.int v1] (pc := 107) kX12_markOf lX12_354 sM0 rfl rfl (Nat.le_of_ble_eq_true rfl) rfl (Nat.le_of_ble_eq_true rfl) dX12_sizeOf_107 ?_
            refine Ci.mono h ?_
            intro x16 M16 h
            refine V_iadd (pc := 110) dX12_sizeOf_110 ?_
            refine V_goto (tgt := 115) (pc := 111) dX12_sizeOf_111 rfl ?_
            exact V_iret dX12_sizeOf_115 rfl h
        · have h := h.2 c
          refine V_iconst (v := 2) (pc := 93) dX12_sizeOf_93 rfl ?_
          refine V_iload_n (pc := 94) dX12_sizeOf_94 rfl ?_
          refine V_imul (pc := 95) dX12_sizeOf_95 ?_
          refine V_goto (tgt := 115) (pc := 96) dX12_sizeOf_96 rfl ?_
          exact V_iret dX12_sizeOf_115 rfl h
    · have h := h.2 c
      refine V_aload_n (pc := 57) dX12_sizeOf_57 rfl ?_
      refine V_bipush (v := 11) (pc := 58) dX12_sizeOf_58 rfl ?_
      refine V_callVv [.int 11] (pc := 60) kX12_began lX12_348 sM0 rfl rfl (Nat.le_of_ble_eq_true rfl) rfl (Nat.le_of_ble_eq_true rfl) dX12_sizeOf_60 ?_
      refine Cv.mono h ?_
      intro M17 h
      refine V_aload_n (pc := 63) dX12_sizeOf_63 rfl ?_
      refine V_iload_n (pc := 64) dX12_sizeOf_64 rfl ?_
      refine V_callVi [.int v1] (pc := 65) kX12_plainSize lX12_351 sM0 rfl rfl (Nat.le_of_ble_eq_true rfl) rfl (Nat.le_of_ble_eq_true rfl) dX12_sizeOf_65 ?_
      refine Ci.mono h ?_
      intro x18 M18 h
      refine V_iload_n (pc := 68) dX12_sizeOf_68 rfl ?_
      refine V_iconst (v := 1) (pc := 69) dX12_sizeOf_69 rfl ?_
      refine V_callSi [.int v2, .int 1] (pc := 70) kX12_isOf lX12_342 rfl (Nat.le_of_ble_eq_true rfl) rfl (Nat.le_of_ble_eq_true rfl) dX12_sizeOf_70 ?_
      refine Ci.mono h ?_
      intro x19 M19 h
      refine V_if_eq (tgt := 85) (pc := 73) dX12_sizeOf_73 rfl (fun c => ?_) (fun c => ?_)
      · have h := h.1 c
        refine V_iconst (v := 0) (pc := 85) dX12_sizeOf_85 rfl ?_
        refine V_iadd (pc := 86) dX12_sizeOf_86 ?_
        refine V_istore_n (pc := 87) dX12_sizeOf_87 (by decide) ?_
        refine V_lv (lv2 := [(0, .ref (G.2.1 0)), (1, .int v1), (2, .int v2), (3, .int (x18 + 0))]) rfl ?_
        refine V_iload_n (pc := 88) dX12_sizeOf_88 rfl ?_
        refine V_iconst (v := 2) (pc := 89) dX12_sizeOf_89 rfl ?_
        refine V_icmp_ne (tgt := 99) (pc := 90) dX12_sizeOf_90 rfl (fun c => ?_) (fun c => ?_)
        · have h := h.1 c
          refine V_iload_n (pc := 99) dX12_sizeOf_99 rfl ?_
          refine V_iconst (v := 3) (pc := 100) dX12_sizeOf_100 rfl ?_
          refine V_icmp_ne (tgt := 114) (pc := 101) dX12_sizeOf_101 rfl (fun c => ?_) (fun c => ?_)
          · have h := h.1 c
            refine V_iload_n (pc := 114) dX12_sizeOf_114 rfl ?_
            exact V_iret dX12_sizeOf_115 rfl h
          · have h := h.2 c
            refine V_iload_n (pc := 104) dX12_sizeOf_104 rfl ?_
            refine V_aload_n (pc := 105) dX12_sizeOf_105 rfl ?_
            refine V_iload_n (pc := 106) dX12_sizeOf_106 rfl ?_
            refine V_callVi [.int v1] (pc := 107) kX12_markOf lX12_354 sM0 rfl rfl (Nat.le_of_ble_eq_true rfl) rfl (Nat.le_of_ble_eq_true rfl) dX12_sizeOf_107 ?_
            refine Ci.mono h ?_
            intro x20 M20 h
            refine V_iadd (pc := 110) dX12_sizeOf_110 ?_
            refine V_goto (tgt := 115) (pc := 111) dX12_sizeOf_111 rfl ?_
            exact V_iret dX12_sizeOf_115 rfl h
        · have h := h.2 c
          refine V_iconst (v := 2) (pc := 93) dX12_sizeOf_93 rfl ?_
          refine V_iload_n (pc := 94) dX12_sizeOf_94 rfl ?_
          refine V_imul (pc := 95) dX12_sizeOf_95 ?_
          refine V_goto (tgt := 115) (pc := 96) dX12_sizeOf_96 rfl ?_
          exact V_iret dX12_sizeOf_115 rfl h
      · have h := h.2 c
        refine V_aload_n (pc := 76) dX12_sizeOf_76 rfl ?_
        refine V_getR (pc := 77) fX12_41 sM0 rfl dX12_sizeOf_77 ?_
        refine V_iload_n (pc := 80) dX12_sizeOf_80 rfl ?_
        refine V_iald (pc := 81) sM11 dX12_sizeOf_81 h.1 ?_
        have h := h.2
        refine V_goto (tgt := 86) (pc := 82) dX12_sizeOf_82 rfl ?_
        refine V_iadd (pc := 86) dX12_sizeOf_86 ?_
        refine V_istore_n (pc := 87) dX12_sizeOf_87 (by decide) ?_
        refine V_lv (lv2 := [(0, .ref (G.2.1 0)), (1, .int v1), (2, .int v2), (3, .int (x18 + (M19.1 11 (ix v1))))]) rfl ?_
        refine V_iload_n (pc := 88) dX12_sizeOf_88 rfl ?_
        refine V_iconst (v := 2) (pc := 89) dX12_sizeOf_89 rfl ?_
        refine V_icmp_ne (tgt := 99) (pc := 90) dX12_sizeOf_90 rfl (fun c => ?_) (fun c => ?_)
        · have h := h.1 c
          refine V_iload_n (pc := 99) dX12_sizeOf_99 rfl ?_
          refine V_iconst (v := 3) (pc := 100) dX12_sizeOf_100 rfl ?_
          refine V_icmp_ne (tgt := 114) (pc := 101) dX12_sizeOf_101 rfl (fun c => ?_) (fun c => ?_)
          · have h := h.1 c
            refine V_iload_n (pc := 114) dX12_sizeOf_114 rfl ?_
            exact V_iret dX12_sizeOf_115 rfl h
          · have h := h.2 c
            refine V_iload_n (pc := 104) dX12_sizeOf_104 rfl ?_
            refine V_aload_n (pc := 105) dX12_sizeOf_105 rfl ?_
            refine V_iload_n (pc := 106) dX12_sizeOf_106 rfl ?_
            refine V_callVi [.int v1] (pc := 107) kX12_markOf lX12_354 sM0 rfl rfl (Nat.le_of_ble_eq_true rfl) rfl (Nat.le_of_ble_eq_true rfl) dX12_sizeOf_107 ?_
            refine Ci.mono h ?_
            intro x21 M21 h
            refine V_iadd (pc := 110) dX12_sizeOf_110 ?_
            refine V_goto (tgt := 115) (pc := 111) dX12_sizeOf_111 rfl ?_
            exact V_iret dX12_sizeOf_115 rfl h
        · have h := h.2 c
          refine V_iconst (v := 2) (pc := 93) dX12_sizeOf_93 rfl ?_
          refine V_iload_n (pc := 94) dX12_sizeOf_94 rfl ?_
          refine V_imul (pc := 95) dX12_sizeOf_95 ?_
          refine V_goto (tgt := 115) (pc := 96) dX12_sizeOf_96 rfl ?_
          exact V_iret dX12_sizeOf_115 rfl h
theorem wp_X12_alike {G : GV} {k : Nat} {M : Mem} {q : Int32 → Mem → Prop} {v1 : Int32} {v2 : Int32} {v3 : Int32} (h : Ci shM G mX12_isLine (k + 3) [.ref (G.2.1 0), .int v1] (mset M 0 0 0) (fun x1 M1 => ((x1 = 0 → q (-1000001) M1) ∧ (¬ x1 = 0 → Ci shM G mX12_isLine (k + 3) [.ref (G.2.1 0), .int v2] M1 (fun x2 M2 => ((x2 = 0 → q (-1000001) M2) ∧ (¬ x2 = 0 → Ci shM G mX12_in (k + 3) [.long (Int32.toInt64 v3), .long 0, .long 2] M2 (fun x3 M3 => ((x3 ≠ 0 → ((v3 ≠ 0 → ((v3 ≠ 1 → Ci shM G mX12_mayBe (k + 3) [.ref (G.2.1 0), .int v1, .int v2] M3 (fun x4 M4 => ((x4 = 0 → q 0 M4) ∧ (¬ x4 = 0 → q 1 M4)))) ∧ (v3 = 1 → Ci shM G mX12_isLike (k + 3) [.ref (G.2.1 0), .int v1, .int v2] M3 (fun x5 M5 => ((x5 = 0 → q 0 M5) ∧ (¬ x5 = 0 → q 1 M5)))))) ∧ (v3 = 0 → Ci shM G mX12_handOf (k + 3) [.ref (G.2.1 0), .int v1, .int v2] M3 (fun x6 M6 => q x6 M6)))) ∧ (x3 = 0 → q (-1000001) M3)))))))))) : Ci shM G mX12_alike (k + 4) [.ref (G.2.1 0), .int v1, .int v2, .int v3] M q := by
  unfold Ci
  show V _ _ _ _ _ [(0, .ref (G.2.1 0)), (1, .int v1), (2, .int v2), (3, .int v3)] _ _ _
  refine V_aload_n (pc := 0) dX12_alike_0 rfl ?_
  refine V_iconst (v := 0) (pc := 1) dX12_alike_1 rfl ?_
  refine V_putI (pc := 2) fX12_108 p12_0 sM0 rfl dX12_alike_2 ?_
  refine V_aload_n (pc := 5) dX12_alike_5 rfl ?_
  refine V_iload_n (pc := 6) dX12_alike_6 rfl ?_
  refine V_callVi [.int v1] (pc := 7) kX12_isLine lX12_255 sM0 rfl rfl (Nat.le_of_ble_eq_true rfl) rfl (Nat.le_of_ble_eq_true rfl) dX12_alike_7 ?_
  refine Ci.mono h ?_
  intro x1 M1 h
  refine V_if_eq (tgt := 33) (pc := 10) dX12_alike_10 rfl (fun c => ?_) (fun c => ?_)
  · have h := h.1 c
    refine V_ldc (pc := 33) dX12_alike_33 nX12_128 ?_
    exact V_iret dX12_alike_35 rfl h
  · have h := h.2 c
    refine V_aload_n (pc := 13) dX12_alike_13 rfl ?_
    refine V_iload_n (pc := 14) dX12_alike_14 rfl ?_
    refine V_callVi [.int v2] (pc := 15) kX12_isLine lX12_255 sM0 rfl rfl (Nat.le_of_ble_eq_true rfl) rfl (Nat.le_of_ble_eq_true rfl) dX12_alike_15 ?_
    refine Ci.mono h ?_
    intro x2 M2 h
    refine V_if_eq (tgt := 33) (pc := 18) dX12_alike_18 rfl (fun c => ?_) (fun c => ?_)
    · have h := h.1 c
      refine V_ldc (pc := 33) dX12_alike_33 nX12_128 ?_
      exact V_iret dX12_alike_35 rfl h
    · have h := h.2 c
      refine V_iload_n (pc := 21) dX12_alike_21 rfl ?_
      refine V_i2l (pc := 22) dX12_alike_22 ?_
      refine V_lconst (v := 0) (pc := 23) dX12_alike_23 rfl ?_
      refine V_ldc2 (pc := 24) dX12_alike_24 nX12_126 ?_
      refine V_callSi [.long (Int32.toInt64 v3), .long 0, .long 2] (pc := 27) kX12_in lX12_118 rfl (Nat.le_of_ble_eq_true rfl) rfl (Nat.le_of_ble_eq_true rfl) dX12_alike_27 ?_
      refine Ci.mono h ?_
      intro x3 M3 h
      refine V_if_ne (tgt := 36) (pc := 30) dX12_alike_30 rfl (fun c => ?_) (fun c => ?_)
      · have h := h.1 c
        refine V_iload_n (pc := 36) dX12_alike_36 rfl ?_
        refine V_if_ne (tgt := 49) (pc := 37) dX12_alike_37 rfl (fun c => ?_) (fun c => ?_)
        · have h := h.1 c
          refine V_iload_n (pc := 49) dX12_alike_49 rfl ?_
          refine V_iconst (v := 1) (pc := 50) dX12_alike_50 rfl ?_
          refine V_icmp_ne (tgt := 71) (pc := 51) dX12_alike_51 rfl (fun c => ?_) (fun c => ?_)
          · have h := h.1 c
            refine V_aload_n (pc := 71) dX12_alike_71 rfl ?_
            refine V_iload_n (pc := 72) dX12_alike_72 rfl ?_
            refine V_iload_n (pc := 73) dX12_alike_73 rfl ?_
            refine V_callVi [.int v1, .int v2] (pc := 74) kX12_mayBe lX12_298 sM0 rfl rfl (Nat.le_of_ble_eq_true rfl) rfl (Nat.le_of_ble_eq_true rfl) dX12_alike_74 ?_
            refine Ci.mono h ?_
            intro x4 M4 h
            refine V_if_eq (tgt := 84) (pc := 77) dX12_alike_77 rfl (fun c => ?_) (fun c => ?_)
            · have h := h.1 c
              refine V_iconst (v := 0) (pc := 84) dX12_alike_84 rfl ?_
              exact V_iret dX12_alike_85 rfl h
            · have h := h.2 c
              refine V_iconst (v := 1) (pc := 80) dX12_alike_80 rfl ?_
              refine V_goto (tgt := 85) (pc := 81) dX12_alike_81 rfl ?_
              exact V_iret dX12_alike_85 rfl h
          · have h := h.2 c
            refine V_aload_n (pc := 54) dX12_alike_54 rfl ?_
            refine V_iload_n (pc := 55) dX12_alike_55 rfl ?_
            refine V_iload_n (pc := 56) dX12_alike_56 rfl ?_
            refine V_callVi [.int v1, .int v2] (pc := 57) kX12_isLike lX12_286 sM0 rfl rfl (Nat.le_of_ble_eq_true rfl) rfl (Nat.le_of_ble_eq_true rfl) dX12_alike_57 ?_
            refine Ci.mono h ?_
            intro x5 M5 h
            refine V_if_eq (tgt := 67) (pc := 60) dX12_alike_60 rfl (fun c => ?_) (fun c => ?_)
            · have h := h.1 c
              refine V_iconst (v := 0) (pc := 67) dX12_alike_67 rfl ?_
              refine V_goto (tgt := 85) (pc := 68) dX12_alike_68 rfl ?_
              exact V_iret dX12_alike_85 rfl h
            · have h := h.2 c
              refine V_iconst (v := 1) (pc := 63) dX12_alike_63 rfl ?_
              refine V_goto (tgt := 85) (pc := 64) dX12_alike_64 rfl ?_
              exact V_iret dX12_alike_85 rfl h
        · have h := h.2 c
          refine V_aload_n (pc := 40) dX12_alike_40 rfl ?_
          refine V_iload_n (pc := 41) dX12_alike_41 rfl ?_
          refine V_iload_n (pc := 42) dX12_alike_42 rfl ?_
          refine V_callVi [.int v1, .int v2] (pc := 43) kX12_handOf lX12_283 sM0 rfl rfl (Nat.le_of_ble_eq_true rfl) rfl (Nat.le_of_ble_eq_true rfl) dX12_alike_43 ?_
          refine Ci.mono h ?_
          intro x6 M6 h
          refine V_goto (tgt := 85) (pc := 46) dX12_alike_46 rfl ?_
          exact V_iret dX12_alike_85 rfl h
      · have h := h.2 c
        refine V_ldc (pc := 33) dX12_alike_33 nX12_128 ?_
        exact V_iret dX12_alike_35 rfl h
theorem wp_X12_ask {G : GV} {k : Nat} {M : Mem} {q : Int32 → Mem → Prop} {v1 : Int32} {v2 : Int32} (h : Ci shM G mX12_isLine (k + 3) [.ref (G.2.1 0), .int v1] (mset M 0 0 0) (fun x1 M1 => ((x1 = 0 → q (-1000001) M1) ∧ (¬ x1 = 0 → Ci shM G mX12_in (k + 3) [.long (Int32.toInt64 v2), .long 0, .long 1] M1 (fun x2 M2 => ((x2 ≠ 0 → ((v2 ≠ 0 → Ci shM G mX12_markOf (k + 3) [.ref (G.2.1 0), .int v1] (mset M2 0 53 0) (fun x3 M3 => q x3 M3)) ∧ (v2 = 0 → Ci shM G mX12_sizeOf (k + 3) [.ref (G.2.1 0), .int v1] (mset M2 0 53 0) (fun x4 M4 => q x4 M4)))) ∧ (x2 = 0 → q (-1000001) M2))))))) : Ci shM G mX12_ask (k + 4) [.ref (G.2.1 0), .int v1, .int v2] M q := by
  unfold Ci
  show V _ _ _ _ _ [(0, .ref (G.2.1 0)), (1, .int v1), (2, .int v2)] _ _ _
  refine V_aload_n (pc := 0) dX12_ask_0 rfl ?_
  refine V_iconst (v := 0) (pc := 1) dX12_ask_1 rfl ?_
  refine V_putI (pc := 2) fX12_108 p12_0 sM0 rfl dX12_ask_2 ?_
  refine V_aload_n (pc := 5) dX12_ask_5 rfl ?_
  refine V_iload_n (pc := 6) dX12_ask_6 rfl ?_
  refine V_callVi [.int v1] (pc := 7) kX12_isLine lX12_255 sM0 rfl rfl (Nat.le_of_ble_eq_true rfl) rfl (Nat.le_of_ble_eq_true rfl) dX12_ask_7 ?_
  refine Ci.mono h ?_
  intro x1 M1 h
  refine V_if_eq (tgt := 23) (pc := 10) dX12_ask_10 rfl (fun c => ?_) (fun c => ?_)
  · have h := h.1 c
    refine V_ldc (pc := 23) dX12_ask_23 nX12_128 ?_
    exact V_iret dX12_ask_25 rfl h
  · have h := h.2 c
    refine V_iload_n (pc := 13) dX12_ask_13 rfl ?_
    refine V_i2l (pc := 14) dX12_ask_14 ?_
    refine V_lconst (v := 0) (pc := 15) dX12_ask_15 rfl ?_
    refine V_lconst (v := 1) (pc := 16) dX12_ask_16 rfl ?_
    refine V_callSi [.long (Int32.toInt64 v2), .long 0, .long 1] (pc := 17) kX12_in lX12_118 rfl (Nat.le_of_ble_eq_true rfl) rfl (Nat.le_of_ble_eq_true rfl) dX12_ask_17 ?_
    refine Ci.mono h ?_
    intro x2 M2 h
    refine V_if_ne (tgt := 26) (pc := 20) dX12_ask_20 rfl (fun c => ?_) (fun c => ?_)
    · have h := h.1 c
      refine V_aload_n (pc := 26) dX12_ask_26 rfl ?_
      refine V_iconst (v := 0) (pc := 27) dX12_ask_27 rfl ?_
      refine V_putI (pc := 28) fX12_345 p12_53 sM0 rfl dX12_ask_28 ?_
      refine V_iload_n (pc := 31) dX12_ask_31 rfl ?_
      refine V_if_ne (tgt := 43) (pc := 32) dX12_ask_32 rfl (fun c => ?_) (fun c => ?_)
      · have h := h.1 c
        refine V_aload_n (pc := 43) dX12_ask_43 rfl ?_
        refine V_iload_n (pc := 44) dX12_ask_44 rfl ?_
        refine V_callVi [.int v1] (pc := 45) kX12_markOf lX12_354 sM0 rfl rfl (Nat.le_of_ble_eq_true rfl) rfl (Nat.le_of_ble_eq_true rfl) dX12_ask_45 ?_
        refine Ci.mono h ?_
        intro x3 M3 h
        exact V_iret dX12_ask_48 rfl h
      · have h := h.2 c
        refine V_aload_n (pc := 35) dX12_ask_35 rfl ?_
        refine V_iload_n (pc := 36) dX12_ask_36 rfl ?_
        refine V_callVi [.int v1] (pc := 37) kX12_sizeOf lX12_357 sM0 rfl rfl (Nat.le_of_ble_eq_true rfl) rfl (Nat.le_of_ble_eq_true rfl) dX12_ask_37 ?_
        refine Ci.mono h ?_
        intro x4 M4 h
        refine V_goto (tgt := 48) (pc := 40) dX12_ask_40 rfl ?_
        exact V_iret dX12_ask_48 rfl h
    · have h := h.2 c
      refine V_ldc (pc := 23) dX12_ask_23 nX12_128 ?_
      exact V_iret dX12_ask_25 rfl h
