theorem wp_X12_stay {G : GV} {k : Nat} {M : Mem} {q : Int32 → Mem → Prop} {v1 : Int32} {v2 : Int32} (h : Ci shM G mX12_isLine (k + 4) [.ref (G.2.1 0), .int v1] (mset M 0 0 0) (fun x1 M1 => ((x1 = 0 → q (-1000001) M1) ∧ (¬ x1 = 0 → Ci shM G mX12_in (k + 4) [.long (Int32.toInt64 v2), .long 0, .long 3] M1 (fun x2 M2 => ((x2 ≠ 0 → Cv shM G mX12_partAll (k + 4) [.ref (G.2.1 0), .int 0, .int 0] M2 (fun M3 => Ci shM G mX12_personOf (k + 4) [.ref (G.2.1 0), .int v1] M3 (fun x4 M4 => V shM G mX12_stay (k + 5) 51 [(0, .ref (G.2.1 0)), (1, .int v1), (2, .int v2), (3, .int x4), (4, .int (-1000000)), (5, .int (-1000000)), (6, .int 0)] [] M4 (Qi q)))) ∧ (x2 = 0 → q (-1000001) M2))))))) : Ci shM G mX12_stay (k + 5) [.ref (G.2.1 0), .int v1, .int v2] M q := by
  unfold Ci
  show V _ _ _ _ _ [(0, .ref (G.2.1 0)), (1, .int v1), (2, .int v2)] _ _ _
  refine V_aload_n (pc := 0) dX12_stay_0 rfl ?_
  refine V_iconst (v := 0) (pc := 1) dX12_stay_1 rfl ?_
  refine V_putI (pc := 2) fX12_108 p12_0 sM0 rfl dX12_stay_2 ?_
  refine V_aload_n (pc := 5) dX12_stay_5 rfl ?_
  refine V_iload_n (pc := 6) dX12_stay_6 rfl ?_
  refine V_callVi [.int v1] (pc := 7) kX12_isLine lX12_255 sM0 rfl rfl (Nat.le_of_ble_eq_true rfl) rfl (Nat.le_of_ble_eq_true rfl) dX12_stay_7 ?_
  refine Ci.mono h ?_
  intro x1 M1 h
  refine V_if_eq (tgt := 25) (pc := 10) dX12_stay_10 rfl (fun c => ?_) (fun c => ?_)
  · have h := h.1 c
    refine V_ldc (pc := 25) dX12_stay_25 nX12_128 ?_
    exact V_iret dX12_stay_27 rfl h
  · have h := h.2 c
    refine V_iload_n (pc := 13) dX12_stay_13 rfl ?_
    refine V_i2l (pc := 14) dX12_stay_14 ?_
    refine V_lconst (v := 0) (pc := 15) dX12_stay_15 rfl ?_
    refine V_ldc2 (pc := 16) dX12_stay_16 nX12_261 ?_
    refine V_callSi [.long (Int32.toInt64 v2), .long 0, .long 3] (pc := 19) kX12_in lX12_118 rfl (Nat.le_of_ble_eq_true rfl) rfl (Nat.le_of_ble_eq_true rfl) dX12_stay_19 ?_
    refine Ci.mono h ?_
    intro x2 M2 h
    refine V_if_ne (tgt := 28) (pc := 22) dX12_stay_22 rfl (fun c => ?_) (fun c => ?_)
    · have h := h.1 c
      refine V_aload_n (pc := 28) dX12_stay_28 rfl ?_
      refine V_iconst (v := 0) (pc := 29) dX12_stay_29 rfl ?_
      refine V_iconst (v := 0) (pc := 30) dX12_stay_30 rfl ?_
      refine V_callVv [.int 0, .int 0] (pc := 31) kX12_partAll lX12_310 sM0 rfl rfl (Nat.le_of_ble_eq_true rfl) rfl (Nat.le_of_ble_eq_true rfl) dX12_stay_31 ?_
      refine Cv.mono h ?_
      intro M3 h
      refine V_aload_n (pc := 34) dX12_stay_34 rfl ?_
      refine V_iload_n (pc := 35) dX12_stay_35 rfl ?_
      refine V_callVi [.int v1] (pc := 36) kX12_personOf lX12_314 sM0 rfl rfl (Nat.le_of_ble_eq_true rfl) rfl (Nat.le_of_ble_eq_true rfl) dX12_stay_36 ?_
      refine Ci.mono h ?_
      intro x4 M4 h
      refine V_istore_n (pc := 39) dX12_stay_39 (by decide) ?_
      refine V_lv (lv2 := [(0, .ref (G.2.1 0)), (1, .int v1), (2, .int v2), (3, .int x4)]) rfl ?_
      refine V_ldc (pc := 40) dX12_stay_40 nX12_144 ?_
      refine V_istore (pc := 42) dX12_stay_42 (by decide) ?_
      refine V_lv (lv2 := [(0, .ref (G.2.1 0)), (1, .int v1), (2, .int v2), (3, .int x4), (4, .int (-1000000))]) rfl ?_
      refine V_ldc (pc := 44) dX12_stay_44 nX12_144 ?_
      refine V_istore (pc := 46) dX12_stay_46 (by decide) ?_
      refine V_lv (lv2 := [(0, .ref (G.2.1 0)), (1, .int v1), (2, .int v2), (3, .int x4), (4, .int (-1000000)), (5, .int (-1000000))]) rfl ?_
      refine V_iconst (v := 0) (pc := 48) dX12_stay_48 rfl ?_
      refine V_istore (pc := 49) dX12_stay_49 (by decide) ?_
      refine V_lv (lv2 := [(0, .ref (G.2.1 0)), (1, .int v1), (2, .int v2), (3, .int x4), (4, .int (-1000000)), (5, .int (-1000000)), (6, .int 0)]) rfl ?_
      exact V_sub h ⟨rfl, rfl, rfl, rfl, rfl, rfl, rfl, trivial⟩
    · have h := h.2 c
      refine V_ldc (pc := 25) dX12_stay_25 nX12_128 ?_
      exact V_iret dX12_stay_27 rfl h
theorem wp_X12_stay_51 {G : GV} {k : Nat} {M : Mem} {q : Int32 → Mem → Prop} {v1 : Int32} {v2 : Int32} {v3 : Int32} {v4 : Int32} {v5 : Int32} {v6 : Int32} (h : (((M.1 0 10) ≤ v6 → ((v4 ≠ (-1000000) → V shM G mX12_stay (k + 5) 172 [(0, .ref (G.2.1 0)), (1, .int v1), (2, .int v2), (3, .int v3), (4, .int v4), (5, .int v5), (6, .int 0), (7, .int 9999), (8, .int 0)] [] M (Qi q)) ∧ (v4 = (-1000000) → q (-1000000) M))) ∧ (¬ (M.1 0 10) ≤ v6 → ((((v3 >>> (v6 &&& 31)) &&& 1) ≠ 1 → V shM G mX12_stay (k + 5) 51 [(0, .ref (G.2.1 0)), (1, .int v1), (2, .int v2), (3, .int v3), (4, .int v4), (5, .int v5), (6, .int (v6 + 1))] [] M (Qi q)) ∧ (((v3 >>> (v6 &&& 31)) &&& 1) = 1 → vp_in v6 12 ∧ (((M.1 9 (ix v6)) = 4 → V shM G mX12_stay (k + 5) 51 [(0, .ref (G.2.1 0)), (1, .int v1), (2, .int v2), (3, .int v3), (4, .int v4), (5, .int v5), (6, .int (v6 + 1))] [] M (Qi q)) ∧ (¬ (M.1 9 (ix v6)) = 4 → Ci shM G mX12_isOneDoor (k + 4) [.ref (G.2.1 0), .int v6, .int v1] M (fun x1 M1 => ((x1 = 0 → V shM G mX12_stay (k + 5) 51 [(0, .ref (G.2.1 0)), (1, .int v1), (2, .int v2), (3, .int v3), (4, .int v4), (5, .int v5), (6, .int (v6 + 1))] [] M1 (Qi q)) ∧ (¬ x1 = 0 → Ci shM G mX12_gathered (k + 4) [.ref (G.2.1 0), .int v6] M1 (fun x2 M2 => ((v4 = (-1000000) → ((v5 = (-1000000) → V shM G mX12_stay (k + 5) 51 [(0, .ref (G.2.1 0)), (1, .int v1), (2, .int v2), (3, .int v3), (4, .int x2), (5, .int x2), (6, .int (v6 + 1))] [] M2 (Qi q)) ∧ (¬ v5 = (-1000000) → ((x2 ≤ v5 → V shM G mX12_stay (k + 5) 51 [(0, .ref (G.2.1 0)), (1, .int v1), (2, .int v2), (3, .int v3), (4, .int x2), (5, .int v5), (6, .int (v6 + 1))] [] M2 (Qi q)) ∧ (¬ x2 ≤ v5 → V shM G mX12_stay (k + 5) 51 [(0, .ref (G.2.1 0)), (1, .int v1), (2, .int v2), (3, .int v3), (4, .int x2), (5, .int x2), (6, .int (v6 + 1))] [] M2 (Qi q)))))) ∧ (¬ v4 = (-1000000) → ((v4 ≤ x2 → ((v5 = (-1000000) → V shM G mX12_stay (k + 5) 51 [(0, .ref (G.2.1 0)), (1, .int v1), (2, .int v2), (3, .int v3), (4, .int v4), (5, .int x2), (6, .int (v6 + 1))] [] M2 (Qi q)) ∧ (¬ v5 = (-1000000) → ((x2 ≤ v5 → V shM G mX12_stay (k + 5) 51 [(0, .ref (G.2.1 0)), (1, .int v1), (2, .int v2), (3, .int v3), (4, .int v4), (5, .int v5), (6, .int (v6 + 1))] [] M2 (Qi q)) ∧ (¬ x2 ≤ v5 → V shM G mX12_stay (k + 5) 51 [(0, .ref (G.2.1 0)), (1, .int v1), (2, .int v2), (3, .int v3), (4, .int v4), (5, .int x2), (6, .int (v6 + 1))] [] M2 (Qi q)))))) ∧ (¬ v4 ≤ x2 → ((v5 = (-1000000) → V shM G mX12_stay (k + 5) 51 [(0, .ref (G.2.1 0)), (1, .int v1), (2, .int v2), (3, .int v3), (4, .int x2), (5, .int x2), (6, .int (v6 + 1))] [] M2 (Qi q)) ∧ (¬ v5 = (-1000000) → ((x2 ≤ v5 → V shM G mX12_stay (k + 5) 51 [(0, .ref (G.2.1 0)), (1, .int v1), (2, .int v2), (3, .int v3), (4, .int x2), (5, .int v5), (6, .int (v6 + 1))] [] M2 (Qi q)) ∧ (¬ x2 ≤ v5 → V shM G mX12_stay (k + 5) 51 [(0, .ref (G.2.1 0)), (1, .int v1), (2, .int v2), (3, .int v3), (4, .int x2), (5, .int x2), (6, .int (v6 + 1))] [] M2 (Qi q)))))))))))))))))))) : V shM G mX12_stay (k + 5) 51 [(0, .ref (G.2.1 0)), (1, .int v1), (2, .int v2), (3, .int v3), (4, .int v4), (5, .int v5), (6, .int v6)] [] M (Qi q) := by
  refine V_iload (pc := 51) dX12_stay_51 rfl ?_
  refine V_aload_n (pc := 53) dX12_stay_53 rfl ?_
  refine V_getI (pc := 54) fX12_227 sM0 rfl dX12_stay_54 ?_
  refine V_icmp_ge (tgt := 151) (pc := 57) dX12_stay_57 rfl (fun c => ?_) (fun c => ?_)
  · have h := h.1 c
    refine V_iload (pc := 151) dX12_stay_151 rfl ?_
    refine V_ldc (pc := 153) dX12_stay_153 nX12_144 ?_
    refine V_icmp_ne (tgt := 161) (pc := 155) dX12_stay_155 rfl (fun c => ?_) (fun c => ?_)
    · have h := h.1 c
      refine V_iconst (v := 0) (pc := 161) dX12_stay_161 rfl ?_
      refine V_istore (pc := 162) dX12_stay_162 (by decide) ?_
      refine V_lv (lv2 := [(0, .ref (G.2.1 0)), (1, .int v1), (2, .int v2), (3, .int v3), (4, .int v4), (5, .int v5), (6, .int 0)]) rfl ?_
      refine V_sipush (v := 9999) (pc := 164) dX12_stay_164 rfl ?_
      refine V_istore (pc := 167) dX12_stay_167 (by decide) ?_
      refine V_lv (lv2 := [(0, .ref (G.2.1 0)), (1, .int v1), (2, .int v2), (3, .int v3), (4, .int v4), (5, .int v5), (6, .int 0), (7, .int 9999)]) rfl ?_
      refine V_iconst (v := 0) (pc := 169) dX12_stay_169 rfl ?_
      refine V_istore (pc := 170) dX12_stay_170 (by decide) ?_
      refine V_lv (lv2 := [(0, .ref (G.2.1 0)), (1, .int v1), (2, .int v2), (3, .int v3), (4, .int v4), (5, .int v5), (6, .int 0), (7, .int 9999), (8, .int 0)]) rfl ?_
      exact V_sub h ⟨rfl, rfl, rfl, rfl, rfl, rfl, rfl, rfl, rfl, trivial⟩
    · have h := h.2 c
      refine V_ldc (pc := 158) dX12_stay_158 nX12_144 ?_
      exact V_iret dX12_stay_160 rfl h
  · have h := h.2 c
    refine V_iload_n (pc := 60) dX12_stay_60 rfl ?_
    refine V_iload (pc := 61) dX12_stay_61 rfl ?_
    refine V_ishr (pc := 63) dX12_stay_63 ?_
    refine V_iconst (v := 1) (pc := 64) dX12_stay_64 rfl ?_
    refine V_iand (pc := 65) dX12_stay_65 ?_
    refine V_iconst (v := 1) (pc := 66) dX12_stay_66 rfl ?_
    refine V_icmp_ne (tgt := 145) (pc := 67) dX12_stay_67 rfl (fun c => ?_) (fun c => ?_)
    · have h := h.1 c
      refine V_iinc (pc := 145) dX12_stay_145 rfl (by decide) ?_
      refine V_lv (lv2 := [(0, .ref (G.2.1 0)), (1, .int v1), (2, .int v2), (3, .int v3), (4, .int v4), (5, .int v5), (6, .int (v6 + 1))]) rfl ?_
      refine V_goto (tgt := 51) (pc := 148) dX12_stay_148 rfl ?_
      exact V_sub h ⟨rfl, rfl, rfl, rfl, rfl, rfl, rfl, trivial⟩
    · have h := h.2 c
      refine V_aload_n (pc := 70) dX12_stay_70 rfl ?_
      refine V_getR (pc := 71) fX12_35 sM0 rfl dX12_stay_71 ?_
      refine V_iload (pc := 74) dX12_stay_74 rfl ?_
      refine V_iald (pc := 76) sM9 dX12_stay_76 h.1 ?_
      have h := h.2
      refine V_iconst (v := 4) (pc := 77) dX12_stay_77 rfl ?_
      refine V_icmp_eq (tgt := 145) (pc := 78) dX12_stay_78 rfl (fun c => ?_) (fun c => ?_)
      · have h := h.1 c
        refine V_iinc (pc := 145) dX12_stay_145 rfl (by decide) ?_
        refine V_lv (lv2 := [(0, .ref (G.2.1 0)), (1, .int v1), (2, .int v2), (3, .int v3), (4, .int v4), (5, .int v5), (6, .int (v6 + 1))]) rfl ?_
        refine V_goto (tgt := 51) (pc := 148) dX12_stay_148 rfl ?_
        exact V_sub h ⟨rfl, rfl, rfl, rfl, rfl, rfl, rfl, trivial⟩
      · have h := h.2 c
        refine V_aload_n (pc := 81) dX12_stay_81 rfl ?_
        refine V_iload (pc := 82) dX12_stay_82 rfl ?_
        refine V_iload_n (pc := 84) dX12_stay_84 rfl ?_
        refine V_callVi [.int v6, .int v1] (pc := 85) kX12_isOneDoor lX12_295 sM0 rfl rfl (Nat.le_of_ble_eq_true rfl) rfl (Nat.le_of_ble_eq_true rfl) dX12_stay_85 ?_
        refine Ci.mono h ?_
        intro x1 M1 h
        refine V_if_eq (tgt := 145) (pc := 88) dX12_stay_88 rfl (fun c => ?_) (fun c => ?_)
        · have h := h.1 c
          refine V_iinc (pc := 145) dX12_stay_145 rfl (by decide) ?_
          refine V_lv (lv2 := [(0, .ref (G.2.1 0)), (1, .int v1), (2, .int v2), (3, .int v3), (4, .int v4), (5, .int v5), (6, .int (v6 + 1))]) rfl ?_
          refine V_goto (tgt := 51) (pc := 148) dX12_stay_148 rfl ?_
          exact V_sub h ⟨rfl, rfl, rfl, rfl, rfl, rfl, rfl, trivial⟩
        · have h := h.2 c
          refine V_aload_n (pc := 91) dX12_stay_91 rfl ?_
          refine V_iload (pc := 92) dX12_stay_92 rfl ?_
          refine V_callVi [.int v6] (pc := 94) kX12_gathered lX12_246 sM0 rfl rfl (Nat.le_of_ble_eq_true rfl) rfl (Nat.le_of_ble_eq_true rfl) dX12_stay_94 ?_
          refine Ci.mono h ?_
          intro x2 M2 h
          refine V_istore (pc := 97) dX12_stay_97 (by decide) ?_
          refine V_lv (lv2 := [(0, .ref (G.2.1 0)), (1, .int v1), (2, .int v2), (3, .int v3), (4, .int v4), (5, .int v5), (6, .int v6), (7, .int x2)]) rfl ?_
          refine V_iload (pc := 99) dX12_stay_99 rfl ?_
          refine V_ldc (pc := 101) dX12_stay_101 nX12_144 ?_
          refine V_icmp_eq (tgt := 113) (pc := 103) dX12_stay_103 rfl (fun c => ?_) (fun c => ?_)
          · have h := h.1 c
            refine V_iload (pc := 113) dX12_stay_113 rfl ?_
            refine V_goto (tgt := 120) (pc := 115) dX12_stay_115 rfl ?_
            refine V_istore (pc := 120) dX12_stay_120 (by decide) ?_
            refine V_lv (lv2 := [(0, .ref (G.2.1 0)), (1, .int v1), (2, .int v2), (3, .int v3), (4, .int x2), (5, .int v5), (6, .int v6), (7, .int x2)]) rfl ?_
            refine V_iload (pc := 122) dX12_stay_122 rfl ?_
            refine V_ldc (pc := 124) dX12_stay_124 nX12_144 ?_
            refine V_icmp_eq (tgt := 136) (pc := 126) dX12_stay_126 rfl (fun c => ?_) (fun c => ?_)
            · have h := h.1 c
              refine V_iload (pc := 136) dX12_stay_136 rfl ?_
              refine V_goto (tgt := 143) (pc := 138) dX12_stay_138 rfl ?_
              refine V_istore (pc := 143) dX12_stay_143 (by decide) ?_
              refine V_lv (lv2 := [(0, .ref (G.2.1 0)), (1, .int v1), (2, .int v2), (3, .int v3), (4, .int x2), (5, .int x2), (6, .int v6), (7, .int x2)]) rfl ?_
              refine V_iinc (pc := 145) dX12_stay_145 rfl (by decide) ?_
              refine V_lv (lv2 := [(0, .ref (G.2.1 0)), (1, .int v1), (2, .int v2), (3, .int v3), (4, .int x2), (5, .int x2), (6, .int (v6 + 1)), (7, .int x2)]) rfl ?_
              refine V_goto (tgt := 51) (pc := 148) dX12_stay_148 rfl ?_
              exact V_sub h ⟨rfl, rfl, rfl, rfl, rfl, rfl, rfl, trivial⟩
            · have h := h.2 c
              refine V_iload (pc := 129) dX12_stay_129 rfl ?_
              refine V_iload (pc := 131) dX12_stay_131 rfl ?_
              refine V_icmp_le (tgt := 141) (pc := 133) dX12_stay_133 rfl (fun c => ?_) (fun c => ?_)
              · have h := h.1 c
                refine V_iload (pc := 141) dX12_stay_141 rfl ?_
                refine V_istore (pc := 143) dX12_stay_143 (by decide) ?_
                refine V_lv (lv2 := [(0, .ref (G.2.1 0)), (1, .int v1), (2, .int v2), (3, .int v3), (4, .int x2), (5, .int v5), (6, .int v6), (7, .int x2)]) rfl ?_
                refine V_iinc (pc := 145) dX12_stay_145 rfl (by decide) ?_
                refine V_lv (lv2 := [(0, .ref (G.2.1 0)), (1, .int v1), (2, .int v2), (3, .int v3), (4, .int x2), (5, .int v5), (6, .int (v6 + 1)), (7, .int x2)]) rfl ?_
                refine V_goto (tgt := 51) (pc := 148) dX12_stay_148 rfl ?_
                exact V_sub h ⟨rfl, rfl, rfl, rfl, rfl, rfl, rfl, trivial⟩
              · have h := h.2 c
                refine V_iload (pc := 136) dX12_stay_136 rfl ?_
                refine V_goto (tgt := 143) (pc := 138) dX12_stay_138 rfl ?_
                refine V_istore (pc := 143) dX12_stay_143 (by decide) ?_
                refine V_lv (lv2 := [(0, .ref (G.2.1 0)), (1, .int v1), (2, .int v2), (3, .int v3), (4, .int x2), (5, .int x2), (6, .int v6), (7, .int x2)]) rfl ?_
                refine V_iinc (pc := 145) dX12_stay_145 rfl (by decide) ?_
                refine V_lv (lv2 := [(0, .ref (G.2.1 0)), (1, .int v1), (2, .int v2), (3, .int v3), (4, .int x2), (5, .int x2), (6, .int (v6 + 1)), (7, .int x2)]) rfl ?_
                refine V_goto (tgt := 51) (pc := 148) dX12_stay_148 rfl ?_
                exact V_sub h ⟨rfl, rfl, rfl, rfl, rfl, rfl, rfl, trivial⟩
          · have h := h.2 c
            refine V_iload (pc := 106) dX12_stay_106 rfl ?_
            refine V_iload (pc := 108) dX12_stay_108 rfl ?_
            refine V_icmp_ge (tgt := 118) (pc := 110) dX12_stay_110 rfl (fun c => ?_) (fun c => ?_)
            · have h := h.1 c
              refine V_iload (pc := 118) dX12_stay_118 rfl ?_
              refine V_istore (pc := 120) dX12_stay_120 (by decide) ?_
              refine V_lv (lv2 := [(0, .ref (G.2.1 0)), (1, .int v1), (2, .int v2), (3, .int v3), (4, .int v4), (5, .int v5), (6, .int v6), (7, .int x2)]) rfl ?_
              refine V_iload (pc := 122) dX12_stay_122 rfl ?_
              refine V_ldc (pc := 124) dX12_stay_124 nX12_144 ?_
              refine V_icmp_eq (tgt := 136) (pc := 126) dX12_stay_126 rfl (fun c => ?_) (fun c => ?_)
              · have h := h.1 c
                refine V_iload (pc := 136) dX12_stay_136 rfl ?_
                refine V_goto (tgt := 143) (pc := 138) dX12_stay_138 rfl ?_
                refine V_istore (pc := 143) dX12_stay_143 (by decide) ?_
                refine V_lv (lv2 := [(0, .ref (G.2.1 0)), (1, .int v1), (2, .int v2), (3, .int v3), (4, .int v4), (5, .int x2), (6, .int v6), (7, .int x2)]) rfl ?_
                refine V_iinc (pc := 145) dX12_stay_145 rfl (by decide) ?_
                refine V_lv (lv2 := [(0, .ref (G.2.1 0)), (1, .int v1), (2, .int v2), (3, .int v3), (4, .int v4), (5, .int x2), (6, .int (v6 + 1)), (7, .int x2)]) rfl ?_
                refine V_goto (tgt := 51) (pc := 148) dX12_stay_148 rfl ?_
                exact V_sub h ⟨rfl, rfl, rfl, rfl, rfl, rfl, rfl, trivial⟩
              · have h := h.2 c
                refine V_iload (pc := 129) dX12_stay_129 rfl ?_
                refine V_iload (pc := 131) dX12_stay_131 rfl ?_
                refine V_icmp_le (tgt := 141) (pc := 133) dX12_stay_133 rfl (fun c => ?_) (fun c => ?_)
                · have h := h.1 c
                  refine V_iload (pc := 141) dX12_stay_141 rfl ?_
                  refine V_istore (pc := 143) dX12_stay_143 (by decide) ?_
                  refine V_lv (lv2 := [(0, .ref (G.2.1 0)), (1, .int v1), (2, .int v2), (3, .int v3), (4, .int v4), (5, .int v5), (6, .int v6), (7, .int x2)]) rfl ?_
                  refine V_iinc (pc := 145) dX12_stay_145 rfl (by decide) ?_
                  refine V_lv (lv2 := [(0, .ref (G.2.1 0)), (1, .int v1), (2, .int v2), (3, .int v3), (4, .int v4), (5, .int v5), (6, .int (v6 + 1)), (7, .int x2)]) rfl ?_
                  refine V_goto (tgt := 51) (pc := 148) dX12_stay_148 rfl ?_
                  exact V_sub h ⟨rfl, rfl, rfl, rfl, rfl, rfl, rfl, trivial⟩
                · have h := h.2 c
                  refine V_iload (pc := 136) dX12_stay_136 rfl ?_
                  refine V_goto (tgt := 143) (pc := 138) dX12_stay_138 rfl ?_
                  refine V_istore (pc := 143) dX12_stay_143 (by decide) ?_
                  refine V_lv (lv2 := [(0, .ref (G.2.1 0)), (1, .int v1), (2, .int v2), (3, .int v3), (4, .int v4), (5, .int x2), (6, .int v6), (7, .int x2)]) rfl ?_
                  refine V_iinc (pc := 145) dX12_stay_145 rfl (by decide) ?_
                  refine V_lv (lv2 := [(0, .ref (G.2.1 0)), (1, .int v1), (2, .int v2), (3, .int v3), (4, .int v4), (5, .int x2), (6, .int (v6 + 1)), (7, .int x2)]) rfl ?_
                  refine V_goto (tgt := 51) (pc := 148) dX12_stay_148 rfl ?_
                  exact V_sub h ⟨rfl, rfl, rfl, rfl, rfl, rfl, rfl, trivial⟩
            · have h := h.2 c
              refine V_iload (pc := 113) dX12_stay_113 rfl ?_
              refine V_goto (tgt := 120) (pc := 115) dX12_stay_115 rfl ?_
              refine V_istore (pc := 120) dX12_stay_120 (by decide) ?_
              refine V_lv (lv2 := [(0, .ref (G.2.1 0)), (1, .int v1), (2, .int v2), (3, .int v3), (4, .int x2), (5, .int v5), (6, .int v6), (7, .int x2)]) rfl ?_
              refine V_iload (pc := 122) dX12_stay_122 rfl ?_
              refine V_ldc (pc := 124) dX12_stay_124 nX12_144 ?_
              refine V_icmp_eq (tgt := 136) (pc := 126) dX12_stay_126 rfl (fun c => ?_) (fun c => ?_)
              · have h := h.1 c
                refine V_iload (pc := 136) dX12_stay_136 rfl ?_
                refine V_goto (tgt := 143) (pc := 138) dX12_stay_138 rfl ?_
                refine V_istore (pc := 143) dX12_stay_143 (by decide) ?_
                refine V_lv (lv2 := [(0, .ref (G.2.1 0)), (1, .int v1), (2, .int v2), (3, .int v3), (4, .int x2), (5, .int x2), (6, .int v6), (7, .int x2)]) rfl ?_
                refine V_iinc (pc := 145) dX12_stay_145 rfl (by decide) ?_
                refine V_lv (lv2 := [(0, .ref (G.2.1 0)), (1, .int v1), (2, .int v2), (3, .int v3), (4, .int x2), (5, .int x2), (6, .int (v6 + 1)), (7, .int x2)]) rfl ?_
                refine V_goto (tgt := 51) (pc := 148) dX12_stay_148 rfl ?_
                exact V_sub h ⟨rfl, rfl, rfl, rfl, rfl, rfl, rfl, trivial⟩
              · have h := h.2 c
                refine V_iload (pc := 129) dX12_stay_129 rfl ?_
                refine V_iload (pc := 131) dX12_stay_131 rfl ?_
                refine V_icmp_le (tgt := 141) (pc := 133) dX12_stay_133 rfl (fun c => ?_) (fun c => ?_)
                · have h := h.1 c
                  refine V_iload (pc := 141) dX12_stay_141 rfl ?_
                  refine V_istore (pc := 143) dX12_stay_143 (by decide) ?_
                  refine V_lv (lv2 := [(0, .ref (G.2.1 0)), (1, .int v1), (2, .int v2), (3, .int v3), (4, .int x2), (5, .int v5), (6, .int v6), (7, .int x2)]) rfl ?_
                  refine V_iinc (pc := 145) dX12_stay_145 rfl (by decide) ?_
                  refine V_lv (lv2 := [(0, .ref (G.2.1 0)), (1, .int v1), (2, .int v2), (3, .int v3), (4, .int x2), (5, .int v5), (6, .int (v6 + 1)), (7, .int x2)]) rfl ?_
                  refine V_goto (tgt := 51) (pc := 148) dX12_stay_148 rfl ?_
                  exact V_sub h ⟨rfl, rfl, rfl, rfl, rfl, rfl, rfl, trivial⟩
                · have h := h.2 c
                  refine V_iload (pc := 136) dX12_stay_136 rfl ?_
                  refine V_goto (tgt := 143) (pc := 138) dX12_stay_138 rfl ?_
                  refine V_istore (pc := 143) dX12_stay_143 (by decide) ?_
                  refine V_lv (lv2 := [(0, .ref (G.2.1 0)), (1, .int v1), (2, .int v2), (3, .int v3), (4, .int x2), (5, .int x2), (6, .int v6), (7, .int x2)]) rfl ?_
                  refine V_iinc (pc := 145) dX12_stay_145 rfl (by decide) ?_
                  refine V_lv (lv2 := [(0, .ref (G.2.1 0)), (1, .int v1), (2, .int v2), (3, .int v3), (4, .int x2), (5, .int x2), (6, .int (v6 + 1)), (7, .int x2)]) rfl ?_
                  refine V_goto (tgt := 51) (pc := 148) dX12_stay_148 rfl ?_
                  exact V_sub h ⟨rfl, rfl, rfl, rfl, rfl, rfl, rfl, trivial⟩
theorem wp_X12_stay_172 {G : GV} {k : Nat} {M : Mem} {q : Int32 → Mem → Prop} {v1 : Int32} {v2 : Int32} {v3 : Int32} {v4 : Int32} {v5 : Int32} {v6 : Int32} {v7 : Int32} {v8 : Int32} (h : (((M.1 0 5) ≤ v8 → ((v2 ≠ 0 → ((v2 ≠ 1 → ((v2 ≠ 2 → q v7 M) ∧ (v2 = 2 → q v6 M))) ∧ (v2 = 1 → q v5 M))) ∧ (v2 = 0 → q v4 M))) ∧ (¬ (M.1 0 5) ≤ v8 → vp_in v8 10 ∧ vp_in v8 10 ∧ ((v4 ≤ ((M.1 4 (ix v8)) - (M.1 5 (ix v8))) → ((((M.1 4 (ix v8)) - (M.1 5 (ix v8))) ≤ v5 → V shM G mX12_stay (k + 5) 172 [(0, .ref (G.2.1 0)), (1, .int v1), (2, .int v2), (3, .int v3), (4, .int v4), (5, .int v5), (6, .int v6), (7, .int v7), (8, .int (v8 + 1))] [] M (Qi q)) ∧ (¬ ((M.1 4 (ix v8)) - (M.1 5 (ix v8))) ≤ v5 → ((v7 ≤ ((M.1 4 (ix v8)) - (M.1 5 (ix v8))) → V shM G mX12_stay (k + 5) 172 [(0, .ref (G.2.1 0)), (1, .int v1), (2, .int v2), (3, .int v3), (4, .int v4), (5, .int v5), (6, .int v6), (7, .int v7), (8, .int (v8 + 1))] [] M (Qi q)) ∧ (¬ v7 ≤ ((M.1 4 (ix v8)) - (M.1 5 (ix v8))) → V shM G mX12_stay (k + 5) 172 [(0, .ref (G.2.1 0)), (1, .int v1), (2, .int v2), (3, .int v3), (4, .int v4), (5, .int v5), (6, .int v6), (7, .int ((M.1 4 (ix v8)) - (M.1 5 (ix v8)))), (8, .int (v8 + 1))] [] M (Qi q)))))) ∧ (¬ v4 ≤ ((M.1 4 (ix v8)) - (M.1 5 (ix v8))) → ((((M.1 4 (ix v8)) - (M.1 5 (ix v8))) ≤ v6 → ((((M.1 4 (ix v8)) - (M.1 5 (ix v8))) ≤ v5 → V shM G mX12_stay (k + 5) 172 [(0, .ref (G.2.1 0)), (1, .int v1), (2, .int v2), (3, .int v3), (4, .int v4), (5, .int v5), (6, .int v6), (7, .int v7), (8, .int (v8 + 1))] [] M (Qi q)) ∧ (¬ ((M.1 4 (ix v8)) - (M.1 5 (ix v8))) ≤ v5 → ((v7 ≤ ((M.1 4 (ix v8)) - (M.1 5 (ix v8))) → V shM G mX12_stay (k + 5) 172 [(0, .ref (G.2.1 0)), (1, .int v1), (2, .int v2), (3, .int v3), (4, .int v4), (5, .int v5), (6, .int v6), (7, .int v7), (8, .int (v8 + 1))] [] M (Qi q)) ∧ (¬ v7 ≤ ((M.1 4 (ix v8)) - (M.1 5 (ix v8))) → V shM G mX12_stay (k + 5) 172 [(0, .ref (G.2.1 0)), (1, .int v1), (2, .int v2), (3, .int v3), (4, .int v4), (5, .int v5), (6, .int v6), (7, .int ((M.1 4 (ix v8)) - (M.1 5 (ix v8)))), (8, .int (v8 + 1))] [] M (Qi q)))))) ∧ (¬ ((M.1 4 (ix v8)) - (M.1 5 (ix v8))) ≤ v6 → ((((M.1 4 (ix v8)) - (M.1 5 (ix v8))) ≤ v5 → V shM G mX12_stay (k + 5) 172 [(0, .ref (G.2.1 0)), (1, .int v1), (2, .int v2), (3, .int v3), (4, .int v4), (5, .int v5), (6, .int ((M.1 4 (ix v8)) - (M.1 5 (ix v8)))), (7, .int v7), (8, .int (v8 + 1))] [] M (Qi q)) ∧ (¬ ((M.1 4 (ix v8)) - (M.1 5 (ix v8))) ≤ v5 → ((v7 ≤ ((M.1 4 (ix v8)) - (M.1 5 (ix v8))) → V shM G mX12_stay (k + 5) 172 [(0, .ref (G.2.1 0)), (1, .int v1), (2, .int v2), (3, .int v3), (4, .int v4), (5, .int v5), (6, .int ((M.1 4 (ix v8)) - (M.1 5 (ix v8)))), (7, .int v7), (8, .int (v8 + 1))] [] M (Qi q)) ∧ (¬ v7 ≤ ((M.1 4 (ix v8)) - (M.1 5 (ix v8))) → V shM G mX12_stay (k + 5) 172 [(0, .ref (G.2.1 0)), (1, .int v1), (2, .int v2), (3, .int v3), (4, .int v4), (5, .int v5), (6, .int ((M.1 4 (ix v8)) - (M.1 5 (ix v8)))), (7, .int ((M.1 4 (ix v8)) - (M.1 5 (ix v8)))), (8, .int (v8 + 1))] [] M (Qi q)))))))))))) : V shM G mX12_stay (k + 5) 172 [(0, .ref (G.2.1 0)), (1, .int v1), (2, .int v2), (3, .int v3), (4, .int v4), (5, .int v5), (6, .int v6), (7, .int v7), (8, .int v8)] [] M (Qi q) := by
  refine V_iload (pc := 172) dX12_stay_172 rfl ?_
  refine V_aload_n (pc := 174) dX12_stay_174 rfl ?_
  refine V_getI (pc := 175) fX12_224 sM0 rfl dX12_stay_175 ?_
  refine V_icmp_ge (tgt := 250) (pc := 178) dX12_stay_178 rfl (fun c => ?_) (fun c => ?_)
  · have h := h.1 c
    refine V_iload_n (pc := 250) dX12_stay_250 rfl ?_
    refine V_if_ne (tgt := 259) (pc := 251) dX12_stay_251 rfl (fun c => ?_) (fun c => ?_)
    · have h := h.1 c
      refine V_iload_n (pc := 259) dX12_stay_259 rfl ?_
      refine V_iconst (v := 1) (pc := 260) dX12_stay_260 rfl ?_
      refine V_icmp_ne (tgt := 269) (pc := 261) dX12_stay_261 rfl (fun c => ?_) (fun c => ?_)
      · have h := h.1 c
        refine V_iload_n (pc := 269) dX12_stay_269 rfl ?_
        refine V_iconst (v := 2) (pc := 270) dX12_stay_270 rfl ?_
        refine V_icmp_ne (tgt := 279) (pc := 271) dX12_stay_271 rfl (fun c => ?_) (fun c => ?_)
        · have h := h.1 c
          refine V_iload (pc := 279) dX12_stay_279 rfl ?_
          exact V_iret dX12_stay_281 rfl h
        · have h := h.2 c
          refine V_iload (pc := 274) dX12_stay_274 rfl ?_
          refine V_goto (tgt := 281) (pc := 276) dX12_stay_276 rfl ?_
          exact V_iret dX12_stay_281 rfl h
      · have h := h.2 c
        refine V_iload (pc := 264) dX12_stay_264 rfl ?_
        refine V_goto (tgt := 281) (pc := 266) dX12_stay_266 rfl ?_
        exact V_iret dX12_stay_281 rfl h
    · have h := h.2 c
      refine V_iload (pc := 254) dX12_stay_254 rfl ?_
      refine V_goto (tgt := 281) (pc := 256) dX12_stay_256 rfl ?_
      exact V_iret dX12_stay_281 rfl h
  · have h := h.2 c
    refine V_aload_n (pc := 181) dX12_stay_181 rfl ?_
    refine V_getR (pc := 182) fX12_19 sM0 rfl dX12_stay_182 ?_
    refine V_iload (pc := 185) dX12_stay_185 rfl ?_
    refine V_iald (pc := 187) sM4 dX12_stay_187 h.1 ?_
    have h := h.2
    refine V_aload_n (pc := 188) dX12_stay_188 rfl ?_
    refine V_getR (pc := 189) fX12_22 sM0 rfl dX12_stay_189 ?_
    refine V_iload (pc := 192) dX12_stay_192 rfl ?_
    refine V_iald (pc := 194) sM5 dX12_stay_194 h.1 ?_
    have h := h.2
    refine V_isub (pc := 195) dX12_stay_195 ?_
    refine V_istore (pc := 196) dX12_stay_196 (by decide) ?_
    refine V_lv (lv2 := [(0, .ref (G.2.1 0)), (1, .int v1), (2, .int v2), (3, .int v3), (4, .int v4), (5, .int v5), (6, .int v6), (7, .int v7), (8, .int v8), (9, .int ((M.1 4 (ix v8)) - (M.1 5 (ix v8))))]) rfl ?_
    refine V_iload (pc := 198) dX12_stay_198 rfl ?_
    refine V_iload (pc := 200) dX12_stay_200 rfl ?_
    refine V_icmp_ge (tgt := 217) (pc := 202) dX12_stay_202 rfl (fun c => ?_) (fun c => ?_)
    · have h := h.1 c
      refine V_iload (pc := 217) dX12_stay_217 rfl ?_
      refine V_istore (pc := 219) dX12_stay_219 (by decide) ?_
      refine V_lv (lv2 := [(0, .ref (G.2.1 0)), (1, .int v1), (2, .int v2), (3, .int v3), (4, .int v4), (5, .int v5), (6, .int v6), (7, .int v7), (8, .int v8), (9, .int ((M.1 4 (ix v8)) - (M.1 5 (ix v8))))]) rfl ?_
      refine V_iload (pc := 221) dX12_stay_221 rfl ?_
      refine V_iload (pc := 223) dX12_stay_223 rfl ?_
      refine V_icmp_le (tgt := 240) (pc := 225) dX12_stay_225 rfl (fun c => ?_) (fun c => ?_)
      · have h := h.1 c
        refine V_iload (pc := 240) dX12_stay_240 rfl ?_
        refine V_istore (pc := 242) dX12_stay_242 (by decide) ?_
        refine V_lv (lv2 := [(0, .ref (G.2.1 0)), (1, .int v1), (2, .int v2), (3, .int v3), (4, .int v4), (5, .int v5), (6, .int v6), (7, .int v7), (8, .int v8), (9, .int ((M.1 4 (ix v8)) - (M.1 5 (ix v8))))]) rfl ?_
        refine V_iinc (pc := 244) dX12_stay_244 rfl (by decide) ?_
        refine V_lv (lv2 := [(0, .ref (G.2.1 0)), (1, .int v1), (2, .int v2), (3, .int v3), (4, .int v4), (5, .int v5), (6, .int v6), (7, .int v7), (8, .int (v8 + 1)), (9, .int ((M.1 4 (ix v8)) - (M.1 5 (ix v8))))]) rfl ?_
        refine V_goto (tgt := 172) (pc := 247) dX12_stay_247 rfl ?_
        exact V_sub h ⟨rfl, rfl, rfl, rfl, rfl, rfl, rfl, rfl, rfl, trivial⟩
      · have h := h.2 c
        refine V_iload (pc := 228) dX12_stay_228 rfl ?_
        refine V_iload (pc := 230) dX12_stay_230 rfl ?_
        refine V_icmp_ge (tgt := 240) (pc := 232) dX12_stay_232 rfl (fun c => ?_) (fun c => ?_)
        · have h := h.1 c
          refine V_iload (pc := 240) dX12_stay_240 rfl ?_
          refine V_istore (pc := 242) dX12_stay_242 (by decide) ?_
          refine V_lv (lv2 := [(0, .ref (G.2.1 0)), (1, .int v1), (2, .int v2), (3, .int v3), (4, .int v4), (5, .int v5), (6, .int v6), (7, .int v7), (8, .int v8), (9, .int ((M.1 4 (ix v8)) - (M.1 5 (ix v8))))]) rfl ?_
          refine V_iinc (pc := 244) dX12_stay_244 rfl (by decide) ?_
          refine V_lv (lv2 := [(0, .ref (G.2.1 0)), (1, .int v1), (2, .int v2), (3, .int v3), (4, .int v4), (5, .int v5), (6, .int v6), (7, .int v7), (8, .int (v8 + 1)), (9, .int ((M.1 4 (ix v8)) - (M.1 5 (ix v8))))]) rfl ?_
          refine V_goto (tgt := 172) (pc := 247) dX12_stay_247 rfl ?_
          exact V_sub h ⟨rfl, rfl, rfl, rfl, rfl, rfl, rfl, rfl, rfl, trivial⟩
        · have h := h.2 c
          refine V_iload (pc := 235) dX12_stay_235 rfl ?_
          refine V_goto (tgt := 242) (pc := 237) dX12_stay_237 rfl ?_
          refine V_istore (pc := 242) dX12_stay_242 (by decide) ?_
          refine V_lv (lv2 := [(0, .ref (G.2.1 0)), (1, .int v1), (2, .int v2), (3, .int v3), (4, .int v4), (5, .int v5), (6, .int v6), (7, .int ((M.1 4 (ix v8)) - (M.1 5 (ix v8)))), (8, .int v8), (9, .int ((M.1 4 (ix v8)) - (M.1 5 (ix v8))))]) rfl ?_
          refine V_iinc (pc := 244) dX12_stay_244 rfl (by decide) ?_
          refine V_lv (lv2 := [(0, .ref (G.2.1 0)), (1, .int v1), (2, .int v2), (3, .int v3), (4, .int v4), (5, .int v5), (6, .int v6), (7, .int ((M.1 4 (ix v8)) - (M.1 5 (ix v8)))), (8, .int (v8 + 1)), (9, .int ((M.1 4 (ix v8)) - (M.1 5 (ix v8))))]) rfl ?_
          refine V_goto (tgt := 172) (pc := 247) dX12_stay_247 rfl ?_
          exact V_sub h ⟨rfl, rfl, rfl, rfl, rfl, rfl, rfl, rfl, rfl, trivial⟩
    · have h := h.2 c
      refine V_iload (pc := 205) dX12_stay_205 rfl ?_
      refine V_iload (pc := 207) dX12_stay_207 rfl ?_
      refine V_icmp_le (tgt := 217) (pc := 209) dX12_stay_209 rfl (fun c => ?_) (fun c => ?_)
      · have h := h.1 c
        refine V_iload (pc := 217) dX12_stay_217 rfl ?_
        refine V_istore (pc := 219) dX12_stay_219 (by decide) ?_
        refine V_lv (lv2 := [(0, .ref (G.2.1 0)), (1, .int v1), (2, .int v2), (3, .int v3), (4, .int v4), (5, .int v5), (6, .int v6), (7, .int v7), (8, .int v8), (9, .int ((M.1 4 (ix v8)) - (M.1 5 (ix v8))))]) rfl ?_
        refine V_iload (pc := 221) dX12_stay_221 rfl ?_
        refine V_iload (pc := 223) dX12_stay_223 rfl ?_
        refine V_icmp_le (tgt := 240) (pc := 225) dX12_stay_225 rfl (fun c => ?_) (fun c => ?_)
        · have h := h.1 c
          refine V_iload (pc := 240) dX12_stay_240 rfl ?_
          refine V_istore (pc := 242) dX12_stay_242 (by decide) ?_
          refine V_lv (lv2 := [(0, .ref (G.2.1 0)), (1, .int v1), (2, .int v2), (3, .int v3), (4, .int v4), (5, .int v5), (6, .int v6), (7, .int v7), (8, .int v8), (9, .int ((M.1 4 (ix v8)) - (M.1 5 (ix v8))))]) rfl ?_
          refine V_iinc (pc := 244) dX12_stay_244 rfl (by decide) ?_
          refine V_lv (lv2 := [(0, .ref (G.2.1 0)), (1, .int v1), (2, .int v2), (3, .int v3), (4, .int v4), (5, .int v5), (6, .int v6), (7, .int v7), (8, .int (v8 + 1)), (9, .int ((M.1 4 (ix v8)) - (M.1 5 (ix v8))))]) rfl ?_
          refine V_goto (tgt := 172) (pc := 247) dX12_stay_247 rfl ?_
          exact V_sub h ⟨rfl, rfl, rfl, rfl, rfl, rfl, rfl, rfl, rfl, trivial⟩
        · have h := h.2 c
          refine V_iload (pc := 228) dX12_stay_228 rfl ?_
          refine V_iload (pc := 230) dX12_stay_230 rfl ?_
          refine V_icmp_ge (tgt := 240) (pc := 232) dX12_stay_232 rfl (fun c => ?_) (fun c => ?_)
          · have h := h.1 c
            refine V_iload (pc := 240) dX12_stay_240 rfl ?_
            refine V_istore (pc := 242) dX12_stay_242 (by decide) ?_
            refine V_lv (lv2 := [(0, .ref (G.2.1 0)), (1, .int v1), (2, .int v2), (3, .int v3), (4, .int v4), (5, .int v5), (6, .int v6), (7, .int v7), (8, .int v8), (9, .int ((M.1 4 (ix v8)) - (M.1 5 (ix v8))))]) rfl ?_
            refine V_iinc (pc := 244) dX12_stay_244 rfl (by decide) ?_
            refine V_lv (lv2 := [(0, .ref (G.2.1 0)), (1, .int v1), (2, .int v2), (3, .int v3), (4, .int v4), (5, .int v5), (6, .int v6), (7, .int v7), (8, .int (v8 + 1)), (9, .int ((M.1 4 (ix v8)) - (M.1 5 (ix v8))))]) rfl ?_
            refine V_goto (tgt := 172) (pc := 247) dX12_stay_247 rfl ?_
            exact V_sub h ⟨rfl, rfl, rfl, rfl, rfl, rfl, rfl, rfl, rfl, trivial⟩
          · have h := h.2 c
            refine V_iload (pc := 235) dX12_stay_235 rfl ?_
            refine V_goto (tgt := 242) (pc := 237) dX12_stay_237 rfl ?_
            refine V_istore (pc := 242) dX12_stay_242 (by decide) ?_
            refine V_lv (lv2 := [(0, .ref (G.2.1 0)), (1, .int v1), (2, .int v2), (3, .int v3), (4, .int v4), (5, .int v5), (6, .int v6), (7, .int ((M.1 4 (ix v8)) - (M.1 5 (ix v8)))), (8, .int v8), (9, .int ((M.1 4 (ix v8)) - (M.1 5 (ix v8))))]) rfl ?_
            refine V_iinc (pc := 244) dX12_stay_244 rfl (by decide) ?_
            refine V_lv (lv2 := [(0, .ref (G.2.1 0)), (1, .int v1), (2, .int v2), (3, .int v3), (4, .int v4), (5, .int v5), (6, .int v6), (7, .int ((M.1 4 (ix v8)) - (M.1 5 (ix v8)))), (8, .int (v8 + 1)), (9, .int ((M.1 4 (ix v8)) - (M.1 5 (ix v8))))]) rfl ?_
            refine V_goto (tgt := 172) (pc := 247) dX12_stay_247 rfl ?_
            exact V_sub h ⟨rfl, rfl, rfl, rfl, rfl, rfl, rfl, rfl, rfl, trivial⟩
      · have h := h.2 c
        refine V_iload (pc := 212) dX12_stay_212 rfl ?_
        refine V_goto (tgt := 219) (pc := 214) dX12_stay_214 rfl ?_
        refine V_istore (pc := 219) dX12_stay_219 (by decide) ?_
        refine V_lv (lv2 := [(0, .ref (G.2.1 0)), (1, .int v1), (2, .int v2), (3, .int v3), (4, .int v4), (5, .int v5), (6, .int ((M.1 4 (ix v8)) - (M.1 5 (ix v8)))), (7, .int v7), (8, .int v8), (9, .int ((M.1 4 (ix v8)) - (M.1 5 (ix v8))))]) rfl ?_
        refine V_iload (pc := 221) dX12_stay_221 rfl ?_
        refine V_iload (pc := 223) dX12_stay_223 rfl ?_
        refine V_icmp_le (tgt := 240) (pc := 225) dX12_stay_225 rfl (fun c => ?_) (fun c => ?_)
        · have h := h.1 c
          refine V_iload (pc := 240) dX12_stay_240 rfl ?_
          refine V_istore (pc := 242) dX12_stay_242 (by decide) ?_
          refine V_lv (lv2 := [(0, .ref (G.2.1 0)), (1, .int v1), (2, .int v2), (3, .int v3), (4, .int v4), (5, .int v5), (6, .int ((M.1 4 (ix v8)) - (M.1 5 (ix v8)))), (7, .int v7), (8, .int v8), (9, .int ((M.1 4 (ix v8)) - (M.1 5 (ix v8))))]) rfl ?_
          refine V_iinc (pc := 244) dX12_stay_244 rfl (by decide) ?_
          refine V_lv (lv2 := [(0, .ref (G.2.1 0)), (1, .int v1), (2, .int v2), (3, .int v3), (4, .int v4), (5, .int v5), (6, .int ((M.1 4 (ix v8)) - (M.1 5 (ix v8)))), (7, .int v7), (8, .int (v8 + 1)), (9, .int ((M.1 4 (ix v8)) - (M.1 5 (ix v8))))]) rfl ?_
          refine V_goto (tgt := 172) (pc := 247) dX12_stay_247 rfl ?_
          exact V_sub h ⟨rfl, rfl, rfl, rfl, rfl, rfl, rfl, rfl, rfl, trivial⟩
        · have h := h.2 c
          refine V_iload (pc := 228) dX12_stay_228 rfl ?_
          refine V_iload (pc := 230) dX12_stay_230 rfl ?_
          refine V_icmp_ge (tgt := 240) (pc := 232) dX12_stay_232 rfl (fun c => ?_) (fun c => ?_)
          · have h := h.1 c
            refine V_iload (pc := 240) dX12_stay_240 rfl ?_
            refine V_istore (pc := 242) dX12_stay_242 (by decide) ?_
            refine V_lv (lv2 := [(0, .ref (G.2.1 0)), (1, .int v1), (2, .int v2), (3, .int v3), (4, .int v4), (5, .int v5), (6, .int ((M.1 4 (ix v8)) - (M.1 5 (ix v8)))), (7, .int v7), (8, .int v8), (9, .int ((M.1 4 (ix v8)) - (M.1 5 (ix v8))))]) rfl ?_
            refine V_iinc (pc := 244) dX12_stay_244 rfl (by decide) ?_
            refine V_lv (lv2 := [(0, .ref (G.2.1 0)), (1, .int v1), (2, .int v2), (3, .int v3), (4, .int v4), (5, .int v5), (6, .int ((M.1 4 (ix v8)) - (M.1 5 (ix v8)))), (7, .int v7), (8, .int (v8 + 1)), (9, .int ((M.1 4 (ix v8)) - (M.1 5 (ix v8))))]) rfl ?_
            refine V_goto (tgt := 172) (pc := 247) dX12_stay_247 rfl ?_
            exact V_sub h ⟨rfl, rfl, rfl, rfl, rfl, rfl, rfl, rfl, rfl, trivial⟩
          · have h := h.2 c
            refine V_iload (pc := 235) dX12_stay_235 rfl ?_
            refine V_goto (tgt := 242) (pc := 237) dX12_stay_237 rfl ?_
            refine V_istore (pc := 242) dX12_stay_242 (by decide) ?_
            refine V_lv (lv2 := [(0, .ref (G.2.1 0)), (1, .int v1), (2, .int v2), (3, .int v3), (4, .int v4), (5, .int v5), (6, .int ((M.1 4 (ix v8)) - (M.1 5 (ix v8)))), (7, .int ((M.1 4 (ix v8)) - (M.1 5 (ix v8)))), (8, .int v8), (9, .int ((M.1 4 (ix v8)) - (M.1 5 (ix v8))))]) rfl ?_
            refine V_iinc (pc := 244) dX12_stay_244 rfl (by decide) ?_
            refine V_lv (lv2 := [(0, .ref (G.2.1 0)), (1, .int v1), (2, .int v2), (3, .int v3), (4, .int v4), (5, .int v5), (6, .int ((M.1 4 (ix v8)) - (M.1 5 (ix v8)))), (7, .int ((M.1 4 (ix v8)) - (M.1 5 (ix v8)))), (8, .int (v8 + 1)), (9, .int ((M.1 4 (ix v8)) - (M.1 5 (ix v8))))]) rfl ?_
            refine V_goto (tgt := 172) (pc := 247) dX12_stay_247 rfl ?_
            exact V_sub h ⟨rfl, rfl, rfl, rfl, rfl, rfl, rfl, rfl, rfl, trivial⟩
theorem wp_X12_sure {G : GV} {k : Nat} {M : Mem} {q : Int64 → Mem → Prop} {v1 : Int32} {v2 : Int32} (h : Ci shM G mX12_isLine (k + 4) [.ref (G.2.1 0), .int v1] (mset M 0 0 0) (fun x1 M1 => ((x1 = 0 → q (-1000001) M1) ∧ (¬ x1 = 0 → Ci shM G mX12_isLine (k + 4) [.ref (G.2.1 0), .int v2] M1 (fun x2 M2 => ((x2 ≠ 0 → Cv shM G mX12_partAll (k + 4) [.ref (G.2.1 0), .int 0, .int 0] M2 (fun M3 => Ci shM G mX12_all (k + 4) [.ref (G.2.1 0)] M3 (fun x4 M4 => vp_in x4 4096 ∧ ((v1 ≠ v2 → Cv shM G mX12_partAll (k + 4) [.ref (G.2.1 0), .int v1, .int v2] M4 (fun M5 => Ci shM G mX12_all (k + 4) [.ref (G.2.1 0)] M5 (fun x6 M6 => vp_in x6 4096 ∧ (((M6.1 27 (ix x6)) ≠ (M4.1 27 (ix x4)) → q 0 M6) ∧ ((M6.1 27 (ix x6)) = (M4.1 27 (ix x4)) → Ci shM G mX12_all (k + 4) [.ref (G.2.1 0)] M6 (fun x7 M7 => vp_in x7 4096 ∧ q (M7.2 28 (ix x7)) M7)))))) ∧ (v1 = v2 → Ci shM G mX12_all (k + 4) [.ref (G.2.1 0)] M4 (fun x8 M8 => vp_in x8 4096 ∧ q (M8.2 28 (ix x8)) M8)))))) ∧ (x2 = 0 → q (-1000001) M2))))))) : Cl shM G mX12_sure (k + 5) [.ref (G.2.1 0), .int v1, .int v2] M q := by
  unfold Cl
  show V _ _ _ _ _ [(0, .ref (G.2.1 0)), (1, .int v1), (2, .int v2)] _ _ _
  refine V_aload_n (pc := 0) dX12_sure_0 rfl ?_
  refine V_iconst (v := 0) (pc := 1) dX12_sure_1 rfl ?_
  refine V_putI (pc := 2) fX12_108 p12_0 sM0 rfl dX12_sure_2 ?_
  refine V_aload_n (pc := 5) dX12_sure_5 rfl ?_
  refine V_iload_n (pc := 6) dX12_sure_6 rfl ?_
  refine V_callVi [.int v1] (pc := 7) kX12_isLine lX12_255 sM0 rfl rfl (Nat.le_of_ble_eq_true rfl) rfl (Nat.le_of_ble_eq_true rfl) dX12_sure_7 ?_
  refine Ci.mono h ?_
  intro x1 M1 h
  refine V_if_eq (tgt := 21) (pc := 10) dX12_sure_10 rfl (fun c => ?_) (fun c => ?_)
  · have h := h.1 c
    refine V_ldc2 (pc := 21) dX12_sure_21 nX12_308 ?_
    exact V_lret dX12_sure_24 rfl h
  · have h := h.2 c
    refine V_aload_n (pc := 13) dX12_sure_13 rfl ?_
    refine V_iload_n (pc := 14) dX12_sure_14 rfl ?_
    refine V_callVi [.int v2] (pc := 15) kX12_isLine lX12_255 sM0 rfl rfl (Nat.le_of_ble_eq_true rfl) rfl (Nat.le_of_ble_eq_true rfl) dX12_sure_15 ?_
    refine Ci.mono h ?_
    intro x2 M2 h
    refine V_if_ne (tgt := 25) (pc := 18) dX12_sure_18 rfl (fun c => ?_) (fun c => ?_)
    · have h := h.1 c
      refine V_aload_n (pc := 25) dX12_sure_25 rfl ?_
      refine V_iconst (v := 0) (pc := 26) dX12_sure_26 rfl ?_
      refine V_iconst (v := 0) (pc := 27) dX12_sure_27 rfl ?_
      refine V_callVv [.int 0, .int 0] (pc := 28) kX12_partAll lX12_310 sM0 rfl rfl (Nat.le_of_ble_eq_true rfl) rfl (Nat.le_of_ble_eq_true rfl) dX12_sure_28 ?_
      refine Cv.mono h ?_
      intro M3 h
      refine V_aload_n (pc := 31) dX12_sure_31 rfl ?_
      refine V_getR (pc := 32) fX12_89 sM0 rfl dX12_sure_32 ?_
      refine V_aload_n (pc := 35) dX12_sure_35 rfl ?_
      refine V_callVi [] (pc := 36) kX12_all lX12_304 sM0 rfl rfl (Nat.le_of_ble_eq_true rfl) rfl (Nat.le_of_ble_eq_true rfl) dX12_sure_36 ?_
      refine Ci.mono h ?_
      intro x4 M4 h
      refine V_iald (pc := 39) sM27 dX12_sure_39 h.1 ?_
      have h := h.2
      refine V_istore_n (pc := 40) dX12_sure_40 (by decide) ?_
      refine V_lv (lv2 := [(0, .ref (G.2.1 0)), (1, .int v1), (2, .int v2), (3, .int (M4.1 27 (ix x4)))]) rfl ?_
      refine V_iload_n (pc := 41) dX12_sure_41 rfl ?_
      refine V_iload_n (pc := 42) dX12_sure_42 rfl ?_
      refine V_icmp_ne (tgt := 56) (pc := 43) dX12_sure_43 rfl (fun c => ?_) (fun c => ?_)
      · have h := h.1 c
        refine V_aload_n (pc := 56) dX12_sure_56 rfl ?_
        refine V_iload_n (pc := 57) dX12_sure_57 rfl ?_
        refine V_iload_n (pc := 58) dX12_sure_58 rfl ?_
        refine V_callVv [.int v1, .int v2] (pc := 59) kX12_partAll lX12_310 sM0 rfl rfl (Nat.le_of_ble_eq_true rfl) rfl (Nat.le_of_ble_eq_true rfl) dX12_sure_59 ?_
        refine Cv.mono h ?_
        intro M5 h
        refine V_aload_n (pc := 62) dX12_sure_62 rfl ?_
        refine V_getR (pc := 63) fX12_89 sM0 rfl dX12_sure_63 ?_
        refine V_aload_n (pc := 66) dX12_sure_66 rfl ?_
        refine V_callVi [] (pc := 67) kX12_all lX12_304 sM0 rfl rfl (Nat.le_of_ble_eq_true rfl) rfl (Nat.le_of_ble_eq_true rfl) dX12_sure_67 ?_
        refine Ci.mono h ?_
        intro x6 M6 h
        refine V_iald (pc := 70) sM27 dX12_sure_70 h.1 ?_
        have h := h.2
        refine V_iload_n (pc := 71) dX12_sure_71 rfl ?_
        refine V_icmp_ne (tgt := 87) (pc := 72) dX12_sure_72 rfl (fun c => ?_) (fun c => ?_)
        · have h := h.1 c
          refine V_lconst (v := 0) (pc := 87) dX12_sure_87 rfl ?_
          exact V_lret dX12_sure_88 rfl h
        · have h := h.2 c
          refine V_aload_n (pc := 75) dX12_sure_75 rfl ?_
          refine V_getR (pc := 76) fX12_92 sM0 rfl dX12_sure_76 ?_
          refine V_aload_n (pc := 79) dX12_sure_79 rfl ?_
          refine V_callVi [] (pc := 80) kX12_all lX12_304 sM0 rfl rfl (Nat.le_of_ble_eq_true rfl) rfl (Nat.le_of_ble_eq_true rfl) dX12_sure_80 ?_
          refine Ci.mono h ?_
          intro x7 M7 h
          refine V_lald (pc := 83) sM28 dX12_sure_83 h.1 ?_
          have h := h.2
          refine V_goto (tgt := 88) (pc := 84) dX12_sure_84 rfl ?_
          exact V_lret dX12_sure_88 rfl h
      · have h := h.2 c
        refine V_aload_n (pc := 46) dX12_sure_46 rfl ?_
        refine V_getR (pc := 47) fX12_92 sM0 rfl dX12_sure_47 ?_
        refine V_aload_n (pc := 50) dX12_sure_50 rfl ?_
        refine V_callVi [] (pc := 51) kX12_all lX12_304 sM0 rfl rfl (Nat.le_of_ble_eq_true rfl) rfl (Nat.le_of_ble_eq_true rfl) dX12_sure_51 ?_
        refine Ci.mono h ?_
        intro x8 M8 h
        refine V_lald (pc := 54) sM28 dX12_sure_54 h.1 ?_
        have h := h.2
        exact V_lret dX12_sure_55 rfl h
    · have h := h.2 c
      refine V_ldc2 (pc := 21) dX12_sure_21 nX12_308 ?_
      exact V_lret dX12_sure_24 rfl h
