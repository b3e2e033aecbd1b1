theorem wp_X12_markOf {G : GV} {k : Nat} {M : Mem} {q : Int32 → Mem → Prop} {v1 : Int32} (h : vp_in v1 12 ∧ ((((M.1 9 (ix v1)) + 1) ≠ 3 → V shM G mX12_markOf (k + 2) 20 [(0, .ref (G.2.1 0)), (1, .int v1), (2, .int ((M.1 9 (ix v1)) + 1))] [] M (Qi q)) ∧ (((M.1 9 (ix v1)) + 1) = 3 → Cv shM G mX12_began (k + 1) [.ref (G.2.1 0), .int 22] M (fun M1 => V shM G mX12_markOf (k + 2) 20 [(0, .ref (G.2.1 0)), (1, .int v1), (2, .int ((M.1 9 (ix v1)) + 1))] [] M1 (Qi q))))) : Ci shM G mX12_markOf (k + 2) [.ref (G.2.1 0), .int v1] M q := by
  unfold Ci
  show V _ _ _ _ _ [(0, .ref (G.2.1 0)), (1, .int v1)] _ _ _
  refine V_aload_n (pc := 0) dX12_markOf_0 rfl ?_
  refine V_getR (pc := 1) fX12_35 sM0 rfl dX12_markOf_1 ?_
  refine V_iload_n (pc := 4) dX12_markOf_4 rfl ?_
  refine V_iald (pc := 5) sM9 dX12_markOf_5 h.1 ?_
  have h := h.2
  refine V_iconst (v := 1) (pc := 6) dX12_markOf_6 rfl ?_
  refine V_iadd (pc := 7) dX12_markOf_7 ?_
  refine V_istore_n (pc := 8) dX12_markOf_8 (by decide) ?_
  refine V_lv (lv2 := [(0, .ref (G.2.1 0)), (1, .int v1), (2, .int ((M.1 9 (ix v1)) + 1))]) rfl ?_
  refine V_iload_n (pc := 9) dX12_markOf_9 rfl ?_
  refine V_iconst (v := 3) (pc := 10) dX12_markOf_10 rfl ?_
  refine V_icmp_ne (tgt := 20) (pc := 11) dX12_markOf_11 rfl (fun c => ?_) (fun c => ?_)
  · have h := h.1 c
    exact V_sub h ⟨rfl, rfl, rfl, trivial⟩
  · have h := h.2 c
    refine V_aload_n (pc := 14) dX12_markOf_14 rfl ?_
    refine V_bipush (v := 22) (pc := 15) dX12_markOf_15 rfl ?_
    refine V_callVv [.int 22] (pc := 17) kX12_began lX12_348 sM0 rfl rfl (Nat.le_of_ble_eq_true rfl) rfl (Nat.le_of_ble_eq_true rfl) dX12_markOf_17 ?_
    refine Cv.mono h ?_
    intro M1 h
    exact V_sub h ⟨rfl, rfl, rfl, trivial⟩
theorem wp_X12_markOf_20 {G : GV} {k : Nat} {M : Mem} {q : Int32 → Mem → Prop} {v1 : Int32} {v2 : Int32} (h : Ci shM G mX12_isOf (k + 1) [.int v2, .int 1] M (fun x1 M1 => ((x1 = 0 → ((v2 ≠ 4 → Cv shM G mX12_began (k + 1) [.ref (G.2.1 0), .int 20] M1 (fun M2 => Ci shM G mX12_gathered (k + 1) [.ref (G.2.1 0), .int v1] M2 (fun x3 M3 => Ci shM G mX12_isOf (k + 1) [.int v2, .int 1] M3 (fun x4 M4 => ((x4 = 0 → ((v2 ≠ 3 → ((v2 ≠ 4 → q (x3 + 0) M4) ∧ (v2 = 4 → Ci shM G mX12_plainSize (k + 1) [.ref (G.2.1 0), .int v1] M4 (fun x5 M5 => q ((x3 + 0) + x5) M5)))) ∧ (v2 = 3 → vp_in v1 12 ∧ (((M4.1 12 (ix v1)) ≠ (-1000000) → vp_in v1 12 ∧ q ((x3 + 0) + (M4.1 12 (ix v1))) M4) ∧ ((M4.1 12 (ix v1)) = (-1000000) → q ((x3 + 0) + 0) M4))))) ∧ (¬ x4 = 0 → vp_in v1 12 ∧ ((v2 ≠ 3 → ((v2 ≠ 4 → q (x3 + (M4.1 10 (ix v1))) M4) ∧ (v2 = 4 → Ci shM G mX12_plainSize (k + 1) [.ref (G.2.1 0), .int v1] M4 (fun x6 M6 => q ((x3 + (M4.1 10 (ix v1))) + x6) M6)))) ∧ (v2 = 3 → vp_in v1 12 ∧ (((M4.1 12 (ix v1)) ≠ (-1000000) → vp_in v1 12 ∧ q ((x3 + (M4.1 10 (ix v1))) + (M4.1 12 (ix v1))) M4) ∧ ((M4.1 12 (ix v1)) = (-1000000) → q ((x3 + (M4.1 10 (ix v1))) + 0) M4)))))))))) ∧ (v2 = 4 → Cv shM G mX12_began (k + 1) [.ref (G.2.1 0), .int 23] M1 (fun M7 => Cv shM G mX12_began (k + 1) [.ref (G.2.1 0), .int 20] M7 (fun M8 => Ci shM G mX12_gathered (k + 1) [.ref (G.2.1 0), .int v1] M8 (fun x9 M9 => Ci shM G mX12_isOf (k + 1) [.int v2, .int 1] M9 (fun x10 M10 => ((x10 = 0 → ((v2 ≠ 3 → ((v2 ≠ 4 → q (x9 + 0) M10) ∧ (v2 = 4 → Ci shM G mX12_plainSize (k + 1) [.ref (G.2.1 0), .int v1] M10 (fun x11 M11 => q ((x9 + 0) + x11) M11)))) ∧ (v2 = 3 → vp_in v1 12 ∧ (((M10.1 12 (ix v1)) ≠ (-1000000) → vp_in v1 12 ∧ q ((x9 + 0) + (M10.1 12 (ix v1))) M10) ∧ ((M10.1 12 (ix v1)) = (-1000000) → q ((x9 + 0) + 0) M10))))) ∧ (¬ x10 = 0 → vp_in v1 12 ∧ ((v2 ≠ 3 → ((v2 ≠ 4 → q (x9 + (M10.1 10 (ix v1))) M10) ∧ (v2 = 4 → Ci shM G mX12_plainSize (k + 1) [.ref (G.2.1 0), .int v1] M10 (fun x12 M12 => q ((x9 + (M10.1 10 (ix v1))) + x12) M12)))) ∧ (v2 = 3 → vp_in v1 12 ∧ (((M10.1 12 (ix v1)) ≠ (-1000000) → vp_in v1 12 ∧ q ((x9 + (M10.1 10 (ix v1))) + (M10.1 12 (ix v1))) M10) ∧ ((M10.1 12 (ix v1)) = (-1000000) → q ((x9 + (M10.1 10 (ix v1))) + 0) M10))))))))))))) ∧ (¬ x1 = 0 → Cv shM G mX12_began (k + 1) [.ref (G.2.1 0), .int 21] M1 (fun M13 => ((v2 ≠ 4 → Cv shM G mX12_began (k + 1) [.ref (G.2.1 0), .int 20] M13 (fun M14 => Ci shM G mX12_gathered (k + 1) [.ref (G.2.1 0), .int v1] M14 (fun x15 M15 => Ci shM G mX12_isOf (k + 1) [.int v2, .int 1] M15 (fun x16 M16 => ((x16 = 0 → ((v2 ≠ 3 → ((v2 ≠ 4 → q (x15 + 0) M16) ∧ (v2 = 4 → Ci shM G mX12_plainSize (k + 1) [.ref (G.2.1 0), .int v1] M16 (fun x17 M17 => q ((x15 + 0) + x17) M17)))) ∧ (v2 = 3 → vp_in v1 12 ∧ (((M16.1 12 (ix v1)) ≠ (-1000000) → vp_in v1 12 ∧ q ((x15 + 0) + (M16.1 12 (ix v1))) M16) ∧ ((M16.1 12 (ix v1)) = (-1000000) → q ((x15 + 0) + 0) M16))))) ∧ (¬ x16 = 0 → vp_in v1 12 ∧ ((v2 ≠ 3 → ((v2 ≠ 4 → q (x15 + (M16.1 10 (ix v1))) M16) ∧ (v2 = 4 → Ci shM G mX12_plainSize (k + 1) [.ref (G.2.1 0), .int v1] M16 (fun x18 M18 => q ((x15 + (M16.1 10 (ix v1))) + x18) M18)))) ∧ (v2 = 3 → vp_in v1 12 ∧ (((M16.1 12 (ix v1)) ≠ (-1000000) → vp_in v1 12 ∧ q ((x15 + (M16.1 10 (ix v1))) + (M16.1 12 (ix v1))) M16) ∧ ((M16.1 12 (ix v1)) = (-1000000) → q ((x15 + (M16.1 10 (ix v1))) + 0) M16)))))))))) ∧ (v2 = 4 → Cv shM G mX12_began (k + 1) [.ref (G.2.1 0), .int 23] M13 (fun M19 => Cv shM G mX12_began (k + 1) [.ref (G.2.1 0), .int 20] M19 (fun M20 => Ci shM G mX12_gathered (k + 1) [.ref (G.2.1 0), .int v1] M20 (fun x21 M21 => Ci shM G mX12_isOf (k + 1) [.int v2, .int 1] M21 (fun x22 M22 => ((x22 = 0 → ((v2 ≠ 3 → ((v2 ≠ 4 → q (x21 + 0) M22) ∧ (v2 = 4 → Ci shM G mX12_plainSize (k + 1) [.ref (G.2.1 0), .int v1] M22 (fun x23 M23 => q ((x21 + 0) + x23) M23)))) ∧ (v2 = 3 → vp_in v1 12 ∧ (((M22.1 12 (ix v1)) ≠ (-1000000) → vp_in v1 12 ∧ q ((x21 + 0) + (M22.1 12 (ix v1))) M22) ∧ ((M22.1 12 (ix v1)) = (-1000000) → q ((x21 + 0) + 0) M22))))) ∧ (¬ x22 = 0 → vp_in v1 12 ∧ ((v2 ≠ 3 → ((v2 ≠ 4 → q (x21 + (M22.1 10 (ix v1))) M22) ∧ (v2 = 4 → Ci shM G mX12_plainSize (k + 1) [.ref (G.2.1 0), .int v1] M22 (fun x24 M24 => q ((x21 + (M22.1 10 (ix v1))) + x24) M24)))) ∧ (v2 = 3 → vp_in v1 12 ∧ (((M22.1 12 (ix v1)) ≠ (-1000000) → vp_in v1 12 ∧ q ((x21 + (M22.1 10 (ix v1))) + (M22.1 12 (ix v1))) M22) ∧ ((M22.1 12 (ix v1)) = (-1000000) → q ((x21 + (M22.1 10 (ix v1))) + 0) M22))))))))))))))))) : V shM G mX12_markOf (k + 2) 20 [(0, .ref (G.2.1 0)), (1, .int v1), (2, .int v2)] [] M (Qi q) := by
  refine V_iload_n (pc := 20) dX12_markOf_20 rfl ?_
  refine V_iconst (v := 1) (pc := 21) dX12_markOf_21 rfl ?_
  refine V_callSi [.int v2, .int 1] (pc := 22) kX12_isOf lX12_342 rfl (Nat.le_of_ble_eq_true rfl) rfl (Nat.le_of_ble_eq_true rfl) dX12_markOf_22 ?_
  refine Ci.mono h ?_
  intro x1 M1 h
  refine V_if_eq (tgt := 34) (pc := 25) dX12_markOf_25 rfl (fun c => ?_) (fun c => ?_)
  · have h := h.1 c
    refine V_iload_n (pc := 34) dX12_markOf_34 rfl ?_
    refine V_iconst (v := 4) (pc := 35) dX12_markOf_35 rfl ?_
    refine V_icmp_ne (tgt := 45) (pc := 36) dX12_markOf_36 rfl (fun c => ?_) (fun c => ?_)
    · have h := h.1 c
      refine V_aload_n (pc := 45) dX12_markOf_45 rfl ?_
      refine V_bipush (v := 20) (pc := 46) dX12_markOf_46 rfl ?_
      refine V_callVv [.int 20] (pc := 48) kX12_began lX12_348 sM0 rfl rfl (Nat.le_of_ble_eq_true rfl) rfl (Nat.le_of_ble_eq_true rfl) dX12_markOf_48 ?_
      refine Cv.mono h ?_
      intro M2 h
      refine V_aload_n (pc := 51) dX12_markOf_51 rfl ?_
      refine V_iload_n (pc := 52) dX12_markOf_52 rfl ?_
      refine V_callVi [.int v1] (pc := 53) kX12_gathered lX12_246 sM0 rfl rfl (Nat.le_of_ble_eq_true rfl) rfl (Nat.le_of_ble_eq_true rfl) dX12_markOf_53 ?_
      refine Ci.mono h ?_
      intro x3 M3 h
      refine V_iload_n (pc := 56) dX12_markOf_56 rfl ?_
      refine V_iconst (v := 1) (pc := 57) dX12_markOf_57 rfl ?_
      refine V_callSi [.int v2, .int 1] (pc := 58) kX12_isOf lX12_342 rfl (Nat.le_of_ble_eq_true rfl) rfl (Nat.le_of_ble_eq_true rfl) dX12_markOf_58 ?_
      refine Ci.mono h ?_
      intro x4 M4 h
      refine V_if_eq (tgt := 73) (pc := 61) dX12_markOf_61 rfl (fun c => ?_) (fun c => ?_)
      · have h := h.1 c
        refine V_iconst (v := 0) (pc := 73) dX12_markOf_73 rfl ?_
        refine V_iadd (pc := 74) dX12_markOf_74 ?_
        refine V_istore_n (pc := 75) dX12_markOf_75 (by decide) ?_
        refine V_lv (lv2 := [(0, .ref (G.2.1 0)), (1, .int v1), (2, .int v2), (3, .int (x3 + 0))]) rfl ?_
        refine V_iload_n (pc := 76) dX12_markOf_76 rfl ?_
        refine V_iconst (v := 3) (pc := 77) dX12_markOf_77 rfl ?_
        refine V_icmp_ne (tgt := 107) (pc := 78) dX12_markOf_78 rfl (fun c => ?_) (fun c => ?_)
        · have h := h.1 c
          refine V_iload_n (pc := 107) dX12_markOf_107 rfl ?_
          refine V_iconst (v := 4) (pc := 108) dX12_markOf_108 rfl ?_
          refine V_icmp_ne (tgt := 122) (pc := 109) dX12_markOf_109 rfl (fun c => ?_) (fun c => ?_)
          · have h := h.1 c
            refine V_iload_n (pc := 122) dX12_markOf_122 rfl ?_
            exact V_iret dX12_markOf_123 rfl h
          · have h := h.2 c
            refine V_iload_n (pc := 112) dX12_markOf_112 rfl ?_
            refine V_aload_n (pc := 113) dX12_markOf_113 rfl ?_
            refine V_iload_n (pc := 114) dX12_markOf_114 rfl ?_
            refine V_callVi [.int v1] (pc := 115) kX12_plainSize lX12_351 sM0 rfl rfl (Nat.le_of_ble_eq_true rfl) rfl (Nat.le_of_ble_eq_true rfl) dX12_markOf_115 ?_
            refine Ci.mono h ?_
            intro x5 M5 h
            refine V_iadd (pc := 118) dX12_markOf_118 ?_
            refine V_goto (tgt := 123) (pc := 119) dX12_markOf_119 rfl ?_
            exact V_iret dX12_markOf_123 rfl h
        · have h := h.2 c
          refine V_iload_n (pc := 81) dX12_markOf_81 rfl ?_
          refine V_aload_n (pc := 82) dX12_markOf_82 rfl ?_
          refine V_getR (pc := 83) fX12_44 sM0 rfl dX12_markOf_83 ?_
          refine V_iload_n (pc := 86) dX12_markOf_86 rfl ?_
          refine V_iald (pc := 87) sM12 dX12_markOf_87 h.1 ?_
          have h := h.2
          refine V_ldc (pc := 88) dX12_markOf_88 nX12_144 ?_
          refine V_icmp_ne (tgt := 97) (pc := 90) dX12_markOf_90 rfl (fun c => ?_) (fun c => ?_)
          · have h := h.1 c
            refine V_aload_n (pc := 97) dX12_markOf_97 rfl ?_
            refine V_getR (pc := 98) fX12_44 sM0 rfl dX12_markOf_98 ?_
            refine V_iload_n (pc := 101) dX12_markOf_101 rfl ?_
            refine V_iald (pc := 102) sM12 dX12_markOf_102 h.1 ?_
            have h := h.2
            refine V_iadd (pc := 103) dX12_markOf_103 ?_
            refine V_goto (tgt := 123) (pc := 104) dX12_markOf_104 rfl ?_
            exact V_iret dX12_markOf_123 rfl h
          · have h := h.2 c
            refine V_iconst (v := 0) (pc := 93) dX12_markOf_93 rfl ?_
            refine V_goto (tgt := 103) (pc := 94) dX12_markOf_94 rfl ?_
            refine V_iadd (pc := 103) dX12_markOf_103 ?_
            refine V_goto (tgt := 123) (pc := 104) dX12_markOf_104 rfl ?_
            exact V_iret dX12_markOf_123 rfl h
      · have h := h.2 c
        refine V_aload_n (pc := 64) dX12_markOf_64 rfl ?_
        refine V_getR (pc := 65) fX12_38 sM0 rfl dX12_markOf_65 ?_
        refine V_iload_n (pc := 68) dX12_markOf_68 rfl ?_
        refine V_iald (pc := 69) sM10 dX12_markOf_69 h.1 ?_
        have h := h.2
        refine V_goto (tgt := 74) (pc := 70) dX12_markOf_70 rfl ?_
        refine V_iadd (pc := 74) dX12_markOf_74 ?_
        refine V_istore_n (pc := 75) dX12_markOf_75 (by decide) ?_
        refine V_lv (lv2 := [(0, .ref (G.2.1 0)), (1, .int v1), (2, .int v2), (3, .int (x3 + (M4.1 10 (ix v1))))]) rfl ?_
        refine V_iload_n (pc := 76) dX12_markOf_76 rfl ?_
        refine V_iconst (v := 3) (pc := 77) dX12_markOf_77 rfl ?_
        refine V_icmp_ne (tgt := 107) (pc := 78) dX12_markOf_78 rfl (fun c => ?_) (fun c => ?_)
        · have h := h.1 c
          refine V_iload_n (pc := 107) dX12_markOf_107 rfl ?_
          refine V_iconst (v := 4) (pc := 108) dX12_markOf_108 rfl ?_
          refine V_icmp_ne (tgt := 122) (pc := 109) dX12_markOf_109 rfl (fun c => ?_) (fun c => ?_)
          · have h := h.1 c
            refine V_iload_n (pc := 122) dX12_markOf_122 rfl ?_
            exact V_iret dX12_markOf_123 rfl h
          · have h := h.2 c
            refine V_iload_n (pc := 112) dX12_markOf_112 rfl ?_
            refine V_aload_n (pc := 113) dX12_markOf_113 rfl ?_
            refine V_iload_n (pc := 114) dX12_markOf_114 rfl ?_
            refine V_callVi [.int v1] (pc := 115) kX12_plainSize lX12_351 sM0 rfl rfl (Nat.le_of_ble_eq_true rfl) rfl (Nat.le_of_ble_eq_true rfl) dX12_markOf_115 ?_
            refine Ci.mono h ?_
            intro x6 M6 h
            refine V_iadd (pc := 118) dX12_markOf_118 ?_
            refine V_goto (tgt := 123) (pc := 119) dX12_markOf_119 rfl ?_
            exact V_iret dX12_markOf_123 rfl h
        · have h := h.2 c
          refine V_iload_n (pc := 81) dX12_markOf_81 rfl ?_
          refine V_aload_n (pc := 82) dX12_markOf_82 rfl ?_
          refine V_getR (pc := 83) fX12_44 sM0 rfl dX12_markOf_83 ?_
          refine V_iload_n (pc := 86) dX12_markOf_86 rfl ?_
          refine V_iald (pc := 87) sM12 dX12_markOf_87 h.1 ?_
          have h := h.2
          refine V_ldc (pc := 88) dX12_markOf_88 nX12_144 ?_
          refine V_icmp_ne (tgt := 97) (pc := 90) dX12_markOf_90 rfl (fun c => ?_) (fun c => ?_)
          · have h := h.1 c
            refine V_aload_n (pc := 97) dX12_markOf_97 rfl ?_
            refine V_getR (pc := 98) fX12_44 sM0 rfl dX12_markOf_98 ?_
            refine V_iload_n (pc := 101) dX12_markOf_101 rfl ?_
            refine V_iald (pc := 102) sM12 dX12_markOf_102 h.1 ?_
            have h := h.2
            refine V_iadd (pc := 103) dX12_markOf_103 ?_
            refine V_goto (tgt := 123) (pc := 104) dX12_markOf_104 rfl ?_
            exact V_iret dX12_markOf_123 rfl h
          · have h := h.2 c
            refine V_iconst (v := 0) (pc := 93) dX12_markOf_93 rfl ?_
            refine V_goto (tgt := 103) (pc := 94) dX12_markOf_94 rfl ?_
            refine V_iadd (pc := 103) dX12_markOf_103 ?_
            refine V_goto (tgt := 123) (pc := 104) dX12_markOf_104 rfl ?_
            exact V_iret dX12_markOf_123 rfl h
    · have h := h.2 c
      refine V_aload_n (pc := 39) dX12_markOf_39 rfl ?_
      refine V_bipush (v := 23) (pc := 40) dX12_markOf_40 rfl ?_
      refine V_callVv [.int 23] (pc := 42) kX12_began lX12_348 sM0 rfl rfl (Nat.le_of_ble_eq_true rfl) rfl (Nat.le_of_ble_eq_true rfl) dX12_markOf_42 ?_
      refine Cv.mono h ?_
      intro M7 h
      refine V_aload_n (pc := 45) dX12_markOf_45 rfl ?_
      refine V_bipush (v := 20) (pc := 46) dX12_markOf_46 rfl ?_
      refine V_callVv [.int 20] (pc := 48) kX12_began lX12_348 sM0 rfl rfl (Nat.le_of_ble_eq_true rfl) rfl (Nat.le_of_ble_eq_true rfl) dX12_markOf_48 ?_
      refine Cv.mono h ?_
      intro M8 h
      refine V_aload_n (pc := 51) dX12_markOf_51 rfl ?_
      refine V_iload_n (pc := 52) dX12_markOf_52 rfl ?_
      refine V_callVi [.int v1] (pc := 53) kX12_gathered lX12_246 sM0 rfl rfl (Nat.le_of_ble_eq_true rfl) rfl (Nat.le_of_ble_eq_true rfl) dX12_markOf_53 ?_
      refine Ci.mono h ?_
      intro x9 M9 h
      refine V_iload_n (pc := 56) dX12_markOf_56 rfl ?_
      refine V_iconst (v := 1) (pc := 57) dX12_markOf_57 rfl ?_
      refine V_callSi [.int v2, .int 1] (pc := 58) kX12_isOf lX12_342 rfl (Nat.le_of_ble_eq_true rfl) rfl (Nat.le_of_ble_eq_true rfl) dX12_markOf_58 ?_
      refine Ci.mono h ?_
      intro x10 M10 h
      refine V_if_eq (tgt := 73) (pc := 61) dX12_markOf_61 rfl (fun c => ?_) (fun c => ?_)
      · have h := h.1 c
        refine V_iconst (v := 0) (pc := 73) dX12_markOf_73 rfl ?_
        refine V_iadd (pc := 74) dX12_markOf_74 ?_
        refine V_istore_n (pc := 75) dX12_markOf_75 (by decide) ?_
        refine V_lv (lv2 := [(0, .ref (G.2.1 0)), (1, .int v1), (2, .int v2), (3, .int (x9 + 0))]) rfl ?_
        refine V_iload_n (pc := 76) dX12_markOf_76 rfl ?_
        refine V_iconst (v := 3) (pc := 77) dX12_markOf_77 rfl ?_
        refine V_icmp_ne (tgt := 107) (pc := 78) dX12_markOf_78 rfl (fun c => ?_) (fun c => ?_)
        · have h := h.1 c
          refine V_iload_n (pc := 107) dX12_markOf_107 rfl ?_
          refine V_iconst (v := 4) (pc := 108) dX12_markOf_108 rfl ?_
          refine V_icmp_ne (tgt := 122) (pc := 109) dX12_markOf_109 rfl (fun c => ?_) (fun c => ?_)
          · have h := h.1 c
            refine V_iload_n (pc := 122) dX12_markOf_122 rfl ?_
            exact V_iret dX12_markOf_123 rfl h
          · have h := h.2 c
            refine V_iload_n (pc := 112) dX12_markOf_112 rfl ?_
            refine V_aload_n (pc := 113) dX12_markOf_113 rfl ?_
            refine V_iload_n (pc := 114) dX12_markOf_114 rfl ?_
            refine V_callVi [.int v1] (pc := 115) kX12_plainSize lX12_351 sM0 rfl rfl (Nat.le_of_ble_eq_true rfl) rfl (Nat.le_of_ble_eq_true rfl) dX12_markOf_115 ?_
            refine Ci.mono h ?_
            intro x11 M11 h
            refine V_iadd (pc := 118) dX12_markOf_118 ?_
            refine V_goto (tgt := 123) (pc := 119) dX12_markOf_119 rfl ?_
            exact V_iret dX12_markOf_123 rfl h
        · have h := h.2 c
          refine V_iload_n (pc := 81) dX12_markOf_81 rfl ?_
          refine V_aload_n (pc := 82) dX12_markOf_82 rfl ?_
          refine V_getR (pc := 83) fX12_44 sM0 rfl dX12_markOf_83 ?_
          refine V_iload_n (pc := 86) dX12_markOf_86 rfl ?_
          refine V_iald (pc := 87) sM12 dX12_markOf_87 h.1 ?_
          have h := h.2
          refine V_ldc (pc := 88) dX12_markOf_88 nX12_144 ?_
          refine V_icmp_ne (tgt := 97) (pc := 90) dX12_markOf_90 rfl (fun c => ?_) (fun c => ?_)
          · have h := h.1 c
            refine V_aload_n (pc := 97) dX12_markOf_97 rfl ?_
            refine V_getR (pc := 98) fX12_44 sM0 rfl dX12_markOf_98 ?_
            refine V_iload_n (pc := 101) dX12_markOf_101 rfl ?_
            refine V_iald (pc := 102) sM12 dX12_markOf_102 h.1 ?_
            have h := h.2
            refine V_iadd (pc := 103) dX12_markOf_103 ?_
            refine V_goto (tgt := 123) (pc := 104) dX12_markOf_104 rfl ?_
            exact V_iret dX12_markOf_123 rfl h
          · have h := h.2 c
            refine V_iconst (v := 0) (pc := 93) dX12_markOf_93 rfl ?_
            refine V_goto (tgt := 103) (pc := 94) dX12_markOf_94 rfl ?_
            refine V_iadd (pc := 103) dX12_markOf_103 ?_
            refine V_goto (tgt := 123) (pc := 104) dX12_markOf_104 rfl ?_
            exact V_iret dX12_markOf_123 rfl h
      · have h := h.2 c
        refine V_aload_n (pc := 64) dX12_markOf_64 rfl ?_
        refine V_getR (pc := 65) fX12_38 sM0 rfl dX12_markOf_65 ?_
        refine V_iload_n (pc := 68) dX12_markOf_68 rfl ?_
        refine V_iald (pc := 69) sM10 dX12_markOf_69 h.1 ?_
        have h := h.2
        refine V_goto (tgt := 74) (pc := 70) dX12_markOf_70 rfl ?_
        refine V_iadd (pc := 74) dX12_markOf_74 ?_
        refine V_istore_n (pc := 75) dX12_markOf_75 (by decide) ?_
        refine V_lv (lv2 := [(0, .ref (G.2.1 0)), (1, .int v1), (2, .int v2), (3, .int (x9 + (M10.1 10 (ix v1))))]) rfl ?_
        refine V_iload_n (pc := 76) dX12_markOf_76 rfl ?_
        refine V_iconst (v := 3) (pc := 77) dX12_markOf_77 rfl ?_
        refine V_icmp_ne (tgt := 107) (pc := 78) dX12_markOf_78 rfl (fun c => ?_) (fun c => ?_)
        · have h := h.1 c
          refine V_iload_n (pc := 107) dX12_markOf_107 rfl ?_
          refine V_iconst (v := 4) (pc := 108) dX12_markOf_108 rfl ?_
          refine V_icmp_ne (tgt := 122) (pc := 109) dX12_markOf_109 rfl (fun c => ?_) (fun c => ?_)
          · have h := h.1 c
            refine V_iload_n (pc := 122) dX12_markOf_122 rfl ?_
            exact V_iret dX12_markOf_123 rfl h
          · have h := h.2 c
            refine V_iload_n (pc := 112) dX12_markOf_112 rfl ?_
            refine V_aload_n (pc := 113) dX12_markOf_113 rfl ?_
            refine V_iload_n (pc := 114) dX12_markOf_114 rfl ?_
            refine V_callVi [.int v1] (pc := 115) kX12_plainSize lX12_351 sM0 rfl rfl (Nat.le_of_ble_eq_true rfl) rfl (Nat.le_of_ble_eq_true rfl) dX12_markOf_115 ?_
            refine Ci.mono h ?_
            intro x12 M12 h
            refine V_iadd (pc := 118) dX12_markOf_118 ?_
            refine V_goto (tgt := 123) (pc := 119) dX12_markOf_119 rfl ?_
            exact V_iret dX12_markOf_123 rfl h
        · have h := h.2 c
          refine V_iload_n (pc := 81) dX12_markOf_81 rfl ?_
          refine V_aload_n (pc := 82) dX12_markOf_82 rfl ?_
          refine V_getR (pc := 83) fX12_44 sM0 rfl dX12_markOf_83 ?_
          refine V_iload_n (pc := 86) dX12_markOf_86 rfl ?_
          refine V_iald (pc := 87) sM12 dX12_markOf_87 h.1 ?_
          have h := h.2
          refine V_ldc (pc := 88) dX12_markOf_88 nX12_144 ?_
          refine V_icmp_ne (tgt := 97) (pc := 90) dX12_markOf_90 rfl (fun c => ?_) (fun c => ?_)
          · have h := h.1 c
            refine V_aload_n (pc := 97) dX12_markOf_97 rfl ?_
            refine V_getR (pc := 98) fX12_44 sM0 rfl dX12_markOf_98 ?_
            refine V_iload_n (pc := 101) dX12_markOf_101 rfl ?_
            refine V_iald (pc := 102) sM12 dX12_markOf_102 h.1 ?_
            have h := h.2
            refine V_iadd (pc := 103) dX12_markOf_103 ?_
            refine V_goto (tgt := 123) (pc := 104) dX12_markOf_104 rfl ?_
            exact V_iret dX12_markOf_123 rfl h
          · have h := h.2 c
            refine V_iconst (v := 0) (pc := 93) dX12_markOf_93 rfl ?_
            refine V_goto (tgt := 103) (pc := 94) dX12_markOf_94 rfl ?_
            refine V_iadd (pc := 103) dX12_markOf_103 ?_
            refine V_goto (tgt := 123) (pc := 104) dX12_markOf_104 rfl ?_
            exact V_iret dX12_markOf_123 rfl h
  · have h := h.2 c
    refine V_aload_n (pc := 28) dX12_markOf_28 rfl ?_
    refine V_bipush (v := 21) (pc := 29) dX12_markOf_29 rfl ?_
    refine V_callVv [.int 21] (pc := 31) kX12_began lX12_348 sM0 rfl rfl (Nat.le_of_ble_eq_true rfl) rfl (Nat.le_of_ble_eq_true rfl) dX12_markOf_31 ?_
    refine Cv.mono h ?_
    intro M13 h
    refine V_iload_n (pc := 34) dX12_markOf_34 rfl ?_
    refine V_iconst (v := 4) (pc := 35) dX12_markOf_35 rfl ?_
    refine V_icmp_ne (tgt := 45) (pc := 36) dX12_markOf_36 rfl (fun c => ?_) (fun c => ?_)
    · have h := h.1 c
      refine V_aload_n (pc := 45) dX12_markOf_45 rfl ?_
      refine V_bipush (v := 20) (pc := 46) dX12_markOf_46 rfl ?_
      refine V_callVv [.int 20] (pc := 48) kX12_began lX12_348 sM0 rfl rfl (Nat.le_of_ble_eq_true rfl) rfl (Nat.le_of_ble_eq_true rfl) dX12_markOf_48 ?_
      refine Cv.mono h ?_
      intro M14 h
      refine V_aload_n (pc := 51) dX12_markOf_51 rfl ?_
      refine V_iload_n (pc := 52) dX12_markOf_52 rfl ?_
      refine V_callVi [.int v1] (pc := 53) kX12_gathered lX12_246 sM0 rfl rfl (Nat.le_of_ble_eq_true rfl) rfl (Nat.le_of_ble_eq_true rfl) dX12_markOf_53 ?_
      refine Ci.mono h ?_
      intro x15 M15 h
      refine V_iload_n (pc := 56) dX12_markOf_56 rfl ?_
      refine V_iconst (v := 1) (pc := 57) dX12_markOf_57 rfl ?_
      refine V_callSi [.int v2, .int 1] (pc := 58) kX12_isOf lX12_342 rfl (Nat.le_of_ble_eq_true rfl) rfl (Nat.le_of_ble_eq_true rfl) dX12_markOf_58 ?_
      refine Ci.mono h ?_
      intro x16 M16 h
      refine V_if_eq (tgt := 73) (pc := 61) dX12_markOf_61 rfl (fun c => ?_) (fun c => ?_)
      · have h := h.1 c
        refine V_iconst (v := 0) (pc := 73) dX12_markOf_73 rfl ?_
        refine V_iadd (pc := 74) dX12_markOf_74 ?_
        refine V_istore_n (pc := 75) dX12_markOf_75 (by decide) ?_
        refine V_lv (lv2 := [(0, .ref (G.2.1 0)), (1, .int v1), (2, .int v2), (3, .int (x15 + 0))]) rfl ?_
        refine V_iload_n (pc := 76) dX12_markOf_76 rfl ?_
        refine V_iconst (v := 3) (pc := 77) dX12_markOf_77 rfl ?_
        refine V_icmp_ne (tgt := 107) (pc := 78) dX12_markOf_78 rfl (fun c => ?_) (fun c => ?_)
        · have h := h.1 c
          refine V_iload_n (pc := 107) dX12_markOf_107 rfl ?_
          refine V_iconst (v := 4) (pc := 108) dX12_markOf_108 rfl ?_
          refine V_icmp_ne (tgt := 122) (pc := 109) dX12_markOf_109 rfl (fun c => ?_) (fun c => ?_)
          · have h := h.1 c
            refine V_iload_n (pc := 122) dX12_markOf_122 rfl ?_
            exact V_iret dX12_markOf_123 rfl h
          · have h := h.2 c
            refine V_iload_n (pc := 112) dX12_markOf_112 rfl ?_
            refine V_aload_n (pc := 113) dX12_markOf_113 rfl ?_
            refine V_iload_n (pc := 114) dX12_markOf_114 rfl ?_
            refine V_callVi [.int v1] (pc := 115) kX12_plainSize lX12_351 sM0 rfl rfl (Nat.le_of_ble_eq_true rfl) rfl (Nat.le_of_ble_eq_true rfl) dX12_markOf_115 ?_
            refine Ci.mono h ?_
            intro x17 M17 h
            refine V_iadd (pc := 118) dX12_markOf_118 ?_
            refine V_goto (tgt := 123) (pc := 119) dX12_markOf_119 rfl ?_
            exact V_iret dX12_markOf_123 rfl h
        · have h := h.2 c
          refine V_iload_n (pc := 81) dX12_markOf_81 rfl ?_
          refine V_aload_n (pc := 82) dX12_markOf_82 rfl ?_
          refine V_getR (pc := 83) fX12_44 sM0 rfl dX12_markOf_83 ?_
          refine V_iload_n (pc := 86) dX12_markOf_86 rfl ?_
          refine V_iald (pc := 87) sM12 dX12_markOf_87 h.1 ?_
          have h := h.2
          refine V_ldc (pc := 88) dX12_markOf_88 nX12_144 ?_
          refine V_icmp_ne (tgt := 97) (pc := 90) dX12_markOf_90 rfl (fun c => ?_) (fun c => ?_)
          · have h := h.1 c
            refine V_aload_n (pc := 97) dX12_markOf_97 rfl ?_
            refine V_getR (pc := 98) fX12_44 sM0 rfl dX12_markOf_98 ?_
            refine V_iload_n (pc := 101) dX12_markOf_101 rfl ?_
            refine V_iald (pc := 102) sM12 dX12_markOf_102 h.1 ?_
            have h := h.2
            refine V_iadd (pc := 103) dX12_markOf_103 ?_
            refine V_goto (tgt := 123) (pc := 104) dX12_markOf_104 rfl ?_
            exact V_iret dX12_markOf_123 rfl h
          · have h := h.2 c
            refine V_iconst (v := 0) (pc := 93) dX12_markOf_93 rfl ?_
            refine V_goto (tgt := 103) (pc := 94) dX12_markOf_94 rfl ?_
            refine V_iadd (pc := 103) dX12_markOf_103 ?_
            refine V_goto (tgt := 123) (pc := 104) dX12_markOf_104 rfl ?_
            exact V_iret dX12_markOf_123 rfl h
      · have h := h.2 c
        refine V_aload_n (pc := 64) dX12_markOf_64 rfl ?_
        refine V_getR (pc := 65) fX12_38 sM0 rfl dX12_markOf_65 ?_
        refine V_iload_n (pc := 68) dX12_markOf_68 rfl ?_
        refine V_iald (pc := 69) sM10 dX12_markOf_69 h.1 ?_
        have h := h.2
        refine V_goto (tgt := 74) (pc := 70) dX12_markOf_70 rfl ?_
        refine V_iadd (pc := 74) dX12_markOf_74 ?_
        refine V_istore_n (pc := 75) dX12_markOf_75 (by decide) ?_
        refine V_lv (lv2 := [(0, .ref (G.2.1 0)), (1, .int v1), (2, .int v2), (3, .int (x15 + (M16.1 10 (ix v1))))]) rfl ?_
        refine V_iload_n (pc := 76) dX12_markOf_76 rfl ?_
        refine V_iconst (v := 3) (pc := 77) dX12_markOf_77 rfl ?_
        refine V_icmp_ne (tgt := 107) (pc := 78) dX12_markOf_78 rfl (fun c => ?_) (fun c => ?_)
        · have h := h.1 c
          refine V_iload_n (pc := 107) dX12_markOf_107 rfl ?_
          refine V_iconst (v := 4) (pc := 108) dX12_markOf_108 rfl ?_
          refine V_icmp_ne (tgt := 122) (pc := 109) dX12_markOf_109 rfl (fun c => ?_) (fun c => ?_)
          · have h := h.1 c
            refine V_iload_n (pc := 122) dX12_markOf_122 rfl ?_
            exact V_iret dX12_markOf_123 rfl h
          · have h := h.2 c
            refine V_iload_n (pc := 112) dX12_markOf_112 rfl ?_
            refine V_aload_n (pc := 113) dX12_markOf_113 rfl ?_
            refine V_iload_n (pc := 114) dX12_markOf_114 rfl ?_
            refine V_callVi [.int v1] (pc := 115) kX12_plainSize lX12_351 sM0 rfl rfl (Nat.le_of_ble_eq_true rfl) rfl (Nat.le_of_ble_eq_true rfl) dX12_markOf_115 ?_
            refine Ci.mono h ?_
            intro x18 M18 h
            refine V_iadd (pc := 118) dX12_markOf_118 ?_
            refine V_goto (tgt := 123) (pc := 119) dX12_markOf_119 rfl ?_
            exact V_iret dX12_markOf_123 rfl h
        · have h := h.2 c
          refine V_iload_n (pc := 81) dX12_markOf_81 rfl ?_
          refine V_aload_n (pc := 82) dX12_markOf_82 rfl ?_
          refine V_getR (pc := 83) fX12_44 sM0 rfl dX12_markOf_83 ?_
          refine V_iload_n (pc := 86) dX12_markOf_86 rfl ?_
          refine V_iald (pc := 87) sM12 dX12_markOf_87 h.1 ?_
          have h := h.2
          refine V_ldc (pc := 88) dX12_markOf_88 nX12_144 ?_
          refine V_icmp_ne (tgt := 97) (pc := 90) dX12_markOf_90 rfl (fun c => ?_) (fun c => ?_)
          · have h := h.1 c
            refine V_aload_n (pc := 97) dX12_markOf_97 rfl ?_
            refine V_getR (pc := 98) fX12_44 sM0 rfl dX12_markOf_98 ?_
            refine V_iload_n (pc := 101) dX12_markOf_101 rfl ?_
            refine V_iald (pc := 102) sM12 dX12_markOf_102 h.1 ?_
            have h := h.2
            refine V_iadd (pc := 103) dX12_markOf_103 ?_
            refine V_goto (tgt := 123) (pc := 104) dX12_markOf_104 rfl ?_
            exact V_iret dX12_markOf_123 rfl h
          · have h := h.2 c
            refine V_iconst (v := 0) (pc := 93) dX12_markOf_93 rfl ?_
            refine V_goto (tgt := 103) (pc := 94) dX12_markOf_94 rfl ?_
            refine V_iadd (pc := 103) dX12_markOf_103 ?_
            refine V_goto (tgt := 123) (pc := 104) dX12_markOf_104 rfl ?_
            exact V_iret dX12_markOf_123 rfl h
    · have h := h.2 c
      refine V_aload_n (pc := 39) dX12_markOf_39 rfl ?_
      refine V_bipush (v := 23) (pc := 40) dX12_markOf_40 rfl ?_
      refine V_callVv [.int 23] (pc := 42) kX12_began lX12_348 sM0 rfl rfl (Nat.le_of_ble_eq_true rfl) rfl (Nat.le_of_ble_eq_true rfl) dX12_markOf_42 ?_
      refine Cv.mono h ?_
      intro M19 h
      refine V_aload_n (pc := 45) dX12_markOf_45 rfl ?_
      refine V_bipush (v := 20) (pc := 46) dX12_markOf_46 rfl ?_
      refine V_callVv [.int 20] (pc := 48) kX12_began lX12_348 sM0 rfl rfl (Nat.le_of_ble_eq_true rfl) rfl (Nat.le_of_ble_eq_true rfl) dX12_markOf_48 ?_
      refine Cv.mono h ?_
      intro M20 h
      refine V_aload_n (pc := 51) dX12_markOf_51 rfl ?_
      refine V_iload_n (pc := 52) dX12_markOf_52 rfl ?_
      refine V_callVi [.int v1] (pc := 53) kX12_gathered lX12_246 sM0 rfl rfl (Nat.le_of_ble_eq_true rfl) rfl (Nat.le_of_ble_eq_true rfl) dX12_markOf_53 ?_
      refine Ci.mono h ?_
      intro x21 M21 h
      refine V_iload_n (pc := 56) dX12_markOf_56 rfl ?_
      refine V_iconst (v := 1) (pc := 57) dX12_markOf_57 rfl ?_
      refine V_callSi [.int v2, .int 1] (pc := 58) kX12_isOf lX12_342 rfl (Nat.le_of_ble_eq_true rfl) rfl (Nat.le_of_ble_eq_true rfl) dX12_markOf_58 ?_
      refine Ci.mono h ?_
      intro x22 M22 h
      refine V_if_eq (tgt := 73) (pc := 61) dX12_markOf_61 rfl (fun c => ?_) (fun c => ?_)
      · have h := h.1 c
        refine V_iconst (v := 0) (pc := 73) dX12_markOf_73 rfl ?_
        refine V_iadd (pc := 74) dX12_markOf_74 ?_
        refine V_istore_n (pc := 75) dX12_markOf_75 (by decide) ?_
        refine V_lv (lv2 := [(0, .ref (G.2.1 0)), (1, .int v1), (2, .int v2), (3, .int (x21 + 0))]) rfl ?_
        refine V_iload_n (pc := 76) dX12_markOf_76 rfl ?_
        refine V_iconst (v := 3) (pc := 77) dX12_markOf_77 rfl ?_
        refine V_icmp_ne (tgt := 107) (pc := 78) dX12_markOf_78 rfl (fun c => ?_) (fun c => ?_)
        · have h := h.1 c
          refine V_iload_n (pc := 107) dX12_markOf_107 rfl ?_
          refine V_iconst (v := 4) (pc := 108) dX12_markOf_108 rfl ?_
          refine V_icmp_ne (tgt := 122) (pc := 109) dX12_markOf_109 rfl (fun c => ?_) (fun c => ?_)
          · have h := h.1 c
            refine V_iload_n (pc := 122) dX12_markOf_122 rfl ?_
            exact V_iret dX12_markOf_123 rfl h
          · have h := h.2 c
            refine V_iload_n (pc := 112) dX12_markOf_112 rfl ?_
            refine V_aload_n (pc := 113) dX12_markOf_113 rfl ?_
            refine V_iload_n (pc := 114) dX12_markOf_114 rfl ?_
            refine V_callVi [.int v1] (pc := 115) kX12_plainSize lX12_351 sM0 rfl rfl (Nat.le_of_ble_eq_true rfl) rfl (Nat.le_of_ble_eq_true rfl) dX12_markOf_115 ?_
            refine Ci.mono h ?_
            intro x23 M23 h
            refine V_iadd (pc := 118) dX12_markOf_118 ?_
            refine V_goto (tgt := 123) (pc := 119) dX12_markOf_119 rfl ?_
            exact V_iret dX12_markOf_123 rfl h
        · have h := h.2 c
          refine V_iload_n (pc := 81) dX12_markOf_81 rfl ?_
          refine V_aload_n (pc := 82) dX12_markOf_82 rfl ?_
          refine V_getR (pc := 83) fX12_44 sM0 rfl dX12_markOf_83 ?_
          refine V_iload_n (pc := 86) dX12_markOf_86 rfl ?_
          refine V_iald (pc := 87) sM12 dX12_markOf_87 h.1 ?_
          have h := h.2
          refine V_ldc (pc := 88) dX12_markOf_88 nX12_144 ?_
          refine V_icmp_ne (tgt := 97) (pc := 90) dX12_markOf_90 rfl (fun c => ?_) (fun c => ?_)
          · have h := h.1 c
            refine V_aload_n (pc := 97) dX12_markOf_97 rfl ?_
            refine V_getR (pc := 98) fX12_44 sM0 rfl dX12_markOf_98 ?_
            refine V_iload_n (pc := 101) dX12_markOf_101 rfl ?_
            refine V_iald (pc := 102) sM12 dX12_markOf_102 h.1 ?_
            have h := h.2
            refine V_iadd (pc := 103) dX12_markOf_103 ?_
            refine V_goto (tgt := 123) (pc := 104) dX12_markOf_104 rfl ?_
            exact V_iret dX12_markOf_123 rfl h
          · have h := h.2 c
            refine V_iconst (v := 0) (pc := 93) dX12_markOf_93 rfl ?_
            refine V_goto (tgt := 103) (pc := 94) dX12_markOf_94 rfl ?_
            refine V_iadd (pc := 103) dX12_markOf_103 ?_
            refine V_goto (tgt := 123) (pc := 104) dX12_markOf_104 rfl ?_
            exact V_iret dX12_markOf_123 rfl h
      · have h := h.2 c
        refine V_aload_n (pc := 64) dX12_markOf_64 rfl ?_
        refine V_getR (pc := 65) fX12_38 sM0 rfl dX12_markOf_65 ?_
        refine V_iload_n (pc := 68) dX12_markOf_68 rfl ?_
        refine V_iald (pc := 69) sM10 dX12_markOf_69 h.1 ?_
        have h := h.2
        refine V_goto (tgt := 74) (pc := 70) dX12_markOf_70 rfl ?_
        refine V_iadd (pc := 74) dX12_markOf_74 ?_
        refine V_istore_n (pc := 75) dX12_markOf_75 (by decide) ?_
        refine V_lv (lv2 := [(0, .ref (G.2.1 0)), (1, .int v1), (2, .int v2), (3, .int (x21 + (M22.1 10 (ix v1))))]) rfl ?_
        refine V_iload_n (pc := 76) dX12_markOf_76 rfl ?_
        refine V_iconst (v := 3) (pc := 77) dX12_markOf_77 rfl ?_
        refine V_icmp_ne (tgt := 107) (pc := 78) dX12_markOf_78 rfl (fun c => ?_) (fun c => ?_)
        · have h := h.1 c
          refine V_iload_n (pc := 107) dX12_markOf_107 rfl ?_
          refine V_iconst (v := 4) (pc := 108) dX12_markOf_108 rfl ?_
          refine V_icmp_ne (tgt := 122) (pc := 109) dX12_markOf_109 rfl (fun c => ?_) (fun c => ?_)
          · have h := h.1 c
            refine V_iload_n (pc := 122) dX12_markOf_122 rfl ?_
            exact V_iret dX12_markOf_123 rfl h
          · have h := h.2 c
            refine V_iload_n (pc := 112) dX12_markOf_112 rfl ?_
            refine V_aload_n (pc := 113) dX12_markOf_113 rfl ?_
            refine V_iload_n (pc := 114) dX12_markOf_114 rfl ?_
            refine V_callVi [.int v1] (pc := 115) kX12_plainSize lX12_351 sM0 rfl rfl (Nat.le_of_ble_eq_true rfl) rfl (Nat.le_of_ble_eq_true rfl) dX12_markOf_115 ?_
            refine Ci.mono h ?_
            intro x24 M24 h
            refine V_iadd (pc := 118) dX12_markOf_118 ?_
            refine V_goto (tgt := 123) (pc := 119) dX12_markOf_119 rfl ?_
            exact V_iret dX12_markOf_123 rfl h
        · have h := h.2 c
          refine V_iload_n (pc := 81) dX12_markOf_81 rfl ?_
          refine V_aload_n (pc := 82) dX12_markOf_82 rfl ?_
          refine V_getR (pc := 83) fX12_44 sM0 rfl dX12_markOf_83 ?_
          refine V_iload_n (pc := 86) dX12_markOf_86 rfl ?_
          refine V_iald (pc := 87) sM12 dX12_markOf_87 h.1 ?_
          have h := h.2
          refine V_ldc (pc := 88) dX12_markOf_88 nX12_144 ?_
          refine V_icmp_ne (tgt := 97) (pc := 90) dX12_markOf_90 rfl (fun c => ?_) (fun c => ?_)
          · have h := h.1 c
            refine V_aload_n (pc := 97) dX12_markOf_97 rfl ?_
            refine V_getR (pc := 98) fX12_44 sM0 rfl dX12_markOf_98 ?_
            refine V_iload_n (pc := 101) dX12_markOf_101 rfl ?_
            refine V_iald (pc := 102) sM12 dX12_markOf_102 h.1 ?_
            have h := h.2
            refine V_iadd (pc := 103) dX12_markOf_103 ?_
            refine V_goto (tgt := 123) (pc := 104) dX12_markOf_104 rfl ?_
            exact V_iret dX12_markOf_123 rfl h
          · have h := h.2 c
            refine V_iconst (v := 0) (pc := 93) dX12_markOf_93 rfl ?_
            refine V_goto (tgt := 103) (pc := 94) dX12_markOf_94 rfl ?_
            refine V_iadd (pc := 103) dX12_markOf_103 ?_
            refine V_goto (tgt := 123) (pc := 104) dX12_markOf_104 rfl ?_
            exact V_iret dX12_markOf_123 rfl h
theorem wp_X12_need {G : GV} {k : Nat} {M : Mem} {q : Mem → Prop} {v1 : Int32} (h : ((v1 ≠ 0 → (((M.1 0 36) ≠ 0 → q M) ∧ ((M.1 0 36) = 0 → Cv shM G mX12_step (k + 1) [.ref (G.2.1 0)] M (fun M1 => q M1)))) ∧ (v1 = 0 → Cv shM G mX12_bad (k + 1) [.ref (G.2.1 0), .int 1] M (fun M2 => (((M2.1 0 36) ≠ 0 → q M2) ∧ ((M2.1 0 36) = 0 → Cv shM G mX12_step (k + 1) [.ref (G.2.1 0)] M2 (fun M3 => q M3))))))) : Cv shM G mX12_need (k + 2) [.ref (G.2.1 0), .int v1] M q := by
  unfold Cv
  show V _ _ _ _ _ [(0, .ref (G.2.1 0)), (1, .int v1)] _ _ _
  refine V_iload_n (pc := 0) dX12_need_0 rfl ?_
  refine V_if_ne (tgt := 9) (pc := 1) dX12_need_1 rfl (fun c => ?_) (fun c => ?_)
  · have h := h.1 c
    refine V_aload_n (pc := 9) dX12_need_9 rfl ?_
    refine V_getI (pc := 10) fX12_166 sM0 rfl dX12_need_10 ?_
    refine V_if_ne (tgt := 20) (pc := 13) dX12_need_13 rfl (fun c => ?_) (fun c => ?_)
    · have h := h.1 c
      exact V_vret dX12_need_20 rfl h
    · have h := h.2 c
      refine V_aload_n (pc := 16) dX12_need_16 rfl ?_
      refine V_callVv [] (pc := 17) kX12_step lX12_176 sM0 rfl rfl (Nat.le_of_ble_eq_true rfl) rfl (Nat.le_of_ble_eq_true rfl) dX12_need_17 ?_
      refine Cv.mono h ?_
      intro M1 h
      exact V_vret dX12_need_20 rfl h
  · have h := h.2 c
    refine V_aload_n (pc := 4) dX12_need_4 rfl ?_
    refine V_iconst (v := 1) (pc := 5) dX12_need_5 rfl ?_
    refine V_callVv [.int 1] (pc := 6) kX12_bad lX12_172 sM0 rfl rfl (Nat.le_of_ble_eq_true rfl) rfl (Nat.le_of_ble_eq_true rfl) dX12_need_6 ?_
    refine Cv.mono h ?_
    intro M2 h
    refine V_aload_n (pc := 9) dX12_need_9 rfl ?_
    refine V_getI (pc := 10) fX12_166 sM0 rfl dX12_need_10 ?_
    refine V_if_ne (tgt := 20) (pc := 13) dX12_need_13 rfl (fun c => ?_) (fun c => ?_)
    · have h := h.1 c
      exact V_vret dX12_need_20 rfl h
    · have h := h.2 c
      refine V_aload_n (pc := 16) dX12_need_16 rfl ?_
      refine V_callVv [] (pc := 17) kX12_step lX12_176 sM0 rfl rfl (Nat.le_of_ble_eq_true rfl) rfl (Nat.le_of_ble_eq_true rfl) dX12_need_17 ?_
      refine Cv.mono h ?_
      intro M3 h
      exact V_vret dX12_need_20 rfl h
theorem wp_X12_set {G : GV} {k : Nat} {M : Mem} {q : Int32 → Mem → Prop} {v1 : Int32} {v2 : Int32} {v3 : Int32} (h : Ci shM G mX12_isSheet (k + 1) [.int v1] (mset M 0 0 0) (fun x1 M1 => ((x1 ≠ 0 → vp_in v1 8 ∧ ((0 ≤ (M1.1 1 (ix v1)) → vp_in v1 8 ∧ Ci shM G mX12_in (k + 1) [.long (Int32.toInt64 v2), .long 0, .long (Int32.toInt64 ((M1.1 2 (ix v1)) - 1))] (mset M1 0 1 0) (fun x2 M2 => ((x2 ≠ 0 → vp_in v1 8 ∧ (((M2.1 1 (ix v1)) ≠ 0 → vp_in v1 8 ∧ (((M2.1 1 (ix v1)) ≠ 1 → vp_in ((60 * v1) + v2) 480 ∧ vp_in ((60 * v1) + v2) 480 ∧ q ((mset M2 3 (ix ((60 * v1) + v2)) v3).1 3 (ix ((60 * v1) + v2))) (mset M2 3 (ix ((60 * v1) + v2)) v3)) ∧ ((M2.1 1 (ix v1)) = 1 → vp_in ((60 * v1) + v2) 480 ∧ vp_in ((60 * v1) + v2) 480 ∧ q ((mset M2 3 (ix ((60 * v1) + v2)) ((Int32.toInt16 v3).toInt32)).1 3 (ix ((60 * v1) + v2))) (mset M2 3 (ix ((60 * v1) + v2)) ((Int32.toInt16 v3).toInt32))))) ∧ ((M2.1 1 (ix v1)) = 0 → vp_in ((60 * v1) + v2) 480 ∧ vp_in ((60 * v1) + v2) 480 ∧ q ((mset M2 3 (ix ((60 * v1) + v2)) ((Int32.toInt8 v3).toInt32)).1 3 (ix ((60 * v1) + v2))) (mset M2 3 (ix ((60 * v1) + v2)) ((Int32.toInt8 v3).toInt32))))) ∧ (x2 = 0 → Ci shM G mX12_finding (k + 1) [.ref (G.2.1 0), .int 2] M2 (fun x3 M3 => q x3 M3))))) ∧ (¬ 0 ≤ (M1.1 1 (ix v1)) → Ci shM G mX12_finding (k + 1) [.ref (G.2.1 0), .int 1] (mset M1 0 1 0) (fun x4 M4 => q x4 M4)))) ∧ (x1 = 0 → q (-1000001) M1)))) : Ci shM G mX12_set (k + 2) [.ref (G.2.1 0), .int v1, .int v2, .int v3] M q := by
  unfold Ci
  show V _ _ _ _ _ [(0, .ref (G.2.1 0)), (1, .int v1), (2, .int v2), (3, .int v3)] _ _ _
  refine V_aload_n (pc := 0) dX12_set_0 rfl ?_
  refine V_iconst (v := 0) (pc := 1) dX12_set_1 rfl ?_
  refine V_putI (pc := 2) fX12_108 p12_0 sM0 rfl dX12_set_2 ?_
  refine V_iload_n (pc := 5) dX12_set_5 rfl ?_
  refine V_callSi [.int v1] (pc := 6) kX12_isSheet lX12_122 rfl (Nat.le_of_ble_eq_true rfl) rfl (Nat.le_of_ble_eq_true rfl) dX12_set_6 ?_
  refine Ci.mono h ?_
  intro x1 M1 h
  refine V_if_ne (tgt := 15) (pc := 9) dX12_set_9 rfl (fun c => ?_) (fun c => ?_)
  · have h := h.1 c
    refine V_aload_n (pc := 15) dX12_set_15 rfl ?_
    refine V_iconst (v := 0) (pc := 16) dX12_set_16 rfl ?_
    refine V_putI (pc := 17) fX12_112 p12_1 sM0 rfl dX12_set_17 ?_
    refine V_aload_n (pc := 20) dX12_set_20 rfl ?_
    refine V_getR (pc := 21) fX12_7 sM0 rfl dX12_set_21 ?_
    refine V_iload_n (pc := 24) dX12_set_24 rfl ?_
    refine V_iald (pc := 25) sM1 dX12_set_25 h.1 ?_
    have h := h.2
    refine V_top (v := (M1.1 1 (ix v1))) (by simp [mset, lset]) ?_
    refine V_if_ge (tgt := 35) (pc := 26) dX12_set_26 rfl (fun c => ?_) (fun c => ?_)
    · have h := h.1 c
      refine V_iload_n (pc := 35) dX12_set_35 rfl ?_
      refine V_i2l (pc := 36) dX12_set_36 ?_
      refine V_lconst (v := 0) (pc := 37) dX12_set_37 rfl ?_
      refine V_aload_n (pc := 38) dX12_set_38 rfl ?_
      refine V_getR (pc := 39) fX12_13 sM0 rfl dX12_set_39 ?_
      refine V_iload_n (pc := 42) dX12_set_42 rfl ?_
      refine V_iald (pc := 43) sM2 dX12_set_43 h.1 ?_
      have h := h.2
      refine V_top (v := (M1.1 2 (ix v1))) (by simp [mset, lset]) ?_
      refine V_iconst (v := 1) (pc := 44) dX12_set_44 rfl ?_
      refine V_isub (pc := 45) dX12_set_45 ?_
      refine V_i2l (pc := 46) dX12_set_46 ?_
      refine V_callSi [.long (Int32.toInt64 v2), .long 0, .long (Int32.toInt64 ((M1.1 2 (ix v1)) - 1))] (pc := 47) kX12_in lX12_118 rfl (Nat.le_of_ble_eq_true rfl) rfl (Nat.le_of_ble_eq_true rfl) dX12_set_47 ?_
      refine Ci.mono h ?_
      intro x2 M2 h
      refine V_if_ne (tgt := 59) (pc := 50) dX12_set_50 rfl (fun c => ?_) (fun c => ?_)
      · have h := h.1 c
        refine V_aload_n (pc := 59) dX12_set_59 rfl ?_
        refine V_getR (pc := 60) fX12_16 sM0 rfl dX12_set_60 ?_
        refine V_bipush (v := 60) (pc := 63) dX12_set_63 rfl ?_
        refine V_iload_n (pc := 65) dX12_set_65 rfl ?_
        refine V_imul (pc := 66) dX12_set_66 ?_
        refine V_iload_n (pc := 67) dX12_set_67 rfl ?_
        refine V_iadd (pc := 68) dX12_set_68 ?_
        refine V_aload_n (pc := 69) dX12_set_69 rfl ?_
        refine V_getR (pc := 70) fX12_7 sM0 rfl dX12_set_70 ?_
        refine V_iload_n (pc := 73) dX12_set_73 rfl ?_
        refine V_iald (pc := 74) sM1 dX12_set_74 h.1 ?_
        have h := h.2
        refine V_if_ne (tgt := 83) (pc := 75) dX12_set_75 rfl (fun c => ?_) (fun c => ?_)
        · have h := h.1 c
          refine V_aload_n (pc := 83) dX12_set_83 rfl ?_
          refine V_getR (pc := 84) fX12_7 sM0 rfl dX12_set_84 ?_
          refine V_iload_n (pc := 87) dX12_set_87 rfl ?_
          refine V_iald (pc := 88) sM1 dX12_set_88 h.1 ?_
          have h := h.2
          refine V_iconst (v := 1) (pc := 89) dX12_set_89 rfl ?_
          refine V_icmp_ne (tgt := 98) (pc := 90) dX12_set_90 rfl (fun c => ?_) (fun c => ?_)
          · have h := h.1 c
            refine V_iload_n (pc := 98) dX12_set_98 rfl ?_
            refine V_iast (pc := 99) sM3 dX12_set_99 h.1 ?_
            have h := h.2
            refine V_aload_n (pc := 100) dX12_set_100 rfl ?_
            refine V_getR (pc := 101) fX12_16 sM0 rfl dX12_set_101 ?_
            refine V_bipush (v := 60) (pc := 104) dX12_set_104 rfl ?_
            refine V_iload_n (pc := 106) dX12_set_106 rfl ?_
            refine V_imul (pc := 107) dX12_set_107 ?_
            refine V_iload_n (pc := 108) dX12_set_108 rfl ?_
            refine V_iadd (pc := 109) dX12_set_109 ?_
            refine V_iald (pc := 110) sM3 dX12_set_110 h.1 ?_
            have h := h.2
            exact V_iret dX12_set_111 rfl h
          · have h := h.2 c
            refine V_iload_n (pc := 93) dX12_set_93 rfl ?_
            refine V_i2s (pc := 94) dX12_set_94 ?_
            refine V_goto (tgt := 99) (pc := 95) dX12_set_95 rfl ?_
            refine V_iast (pc := 99) sM3 dX12_set_99 h.1 ?_
            have h := h.2
            refine V_aload_n (pc := 100) dX12_set_100 rfl ?_
            refine V_getR (pc := 101) fX12_16 sM0 rfl dX12_set_101 ?_
            refine V_bipush (v := 60) (pc := 104) dX12_set_104 rfl ?_
            refine V_iload_n (pc := 106) dX12_set_106 rfl ?_
            refine V_imul (pc := 107) dX12_set_107 ?_
            refine V_iload_n (pc := 108) dX12_set_108 rfl ?_
            refine V_iadd (pc := 109) dX12_set_109 ?_
            refine V_iald (pc := 110) sM3 dX12_set_110 h.1 ?_
            have h := h.2
            exact V_iret dX12_set_111 rfl h
        · have h := h.2 c
          refine V_iload_n (pc := 78) dX12_set_78 rfl ?_
          refine V_i2b (pc := 79) dX12_set_79 ?_
          refine V_goto (tgt := 99) (pc := 80) dX12_set_80 rfl ?_
          refine V_iast (pc := 99) sM3 dX12_set_99 h.1 ?_
          have h := h.2
          refine V_aload_n (pc := 100) dX12_set_100 rfl ?_
          refine V_getR (pc := 101) fX12_16 sM0 rfl dX12_set_101 ?_
          refine V_bipush (v := 60) (pc := 104) dX12_set_104 rfl ?_
          refine V_iload_n (pc := 106) dX12_set_106 rfl ?_
          refine V_imul (pc := 107) dX12_set_107 ?_
          refine V_iload_n (pc := 108) dX12_set_108 rfl ?_
          refine V_iadd (pc := 109) dX12_set_109 ?_
          refine V_iald (pc := 110) sM3 dX12_set_110 h.1 ?_
          have h := h.2
          exact V_iret dX12_set_111 rfl h
      · have h := h.2 c
        refine V_aload_n (pc := 53) dX12_set_53 rfl ?_
        refine V_iconst (v := 2) (pc := 54) dX12_set_54 rfl ?_
        refine V_callVi [.int 2] (pc := 55) kX12_finding lX12_129 sM0 rfl rfl (Nat.le_of_ble_eq_true rfl) rfl (Nat.le_of_ble_eq_true rfl) dX12_set_55 ?_
        refine Ci.mono h ?_
        intro x3 M3 h
        exact V_iret dX12_set_58 rfl h
    · have h := h.2 c
      refine V_aload_n (pc := 29) dX12_set_29 rfl ?_
      refine V_iconst (v := 1) (pc := 30) dX12_set_30 rfl ?_
      refine V_callVi [.int 1] (pc := 31) kX12_finding lX12_129 sM0 rfl rfl (Nat.le_of_ble_eq_true rfl) rfl (Nat.le_of_ble_eq_true rfl) dX12_set_31 ?_
      refine Ci.mono h ?_
      intro x4 M4 h
      exact V_iret dX12_set_34 rfl h
  · have h := h.2 c
    refine V_ldc (pc := 12) dX12_set_12 nX12_128 ?_
    exact V_iret dX12_set_14 rfl h
theorem wp_X12_sheet {G : GV} {k : Nat} {M : Mem} {q : Int32 → Mem → Prop} {v1 : Int32} {v2 : Int32} {v3 : Int32} (h : Ci shM G mX12_isSheet (k + 1) [.int v1] (mset M 0 0 0) (fun x1 M1 => ((x1 = 0 → q (-1000001) M1) ∧ (¬ x1 = 0 → Ci shM G mX12_in (k + 1) [.long (Int32.toInt64 v2), .long 0, .long 2] M1 (fun x2 M2 => ((x2 = 0 → q (-1000001) M2) ∧ (¬ x2 = 0 → ((v3 ≤ 60 → ((0 ≤ v3 → vp_in v1 8 ∧ vp_in v1 8 ∧ V shM G mX12_sheet (k + 2) 65 [(0, .ref (G.2.1 0)), (1, .int v1), (2, .int v2), (3, .int v3), (4, .int 0)] [] (mset (mset (mset M2 0 1 0) 1 (ix v1) v2) 2 (ix v1) v3) (Qi q)) ∧ (¬ 0 ≤ v3 → Ci shM G mX12_finding (k + 1) [.ref (G.2.1 0), .int 4] (mset M2 0 1 0) (fun x3 M3 => q x3 M3)))) ∧ (¬ v3 ≤ 60 → q (-1000001) M2))))))))) : Ci shM G mX12_sheet (k + 2) [.ref (G.2.1 0), .int v1, .int v2, .int v3] M q := by
  unfold Ci
  show V _ _ _ _ _ [(0, .ref (G.2.1 0)), (1, .int v1), (2, .int v2), (3, .int v3)] _ _ _
  refine V_aload_n (pc := 0) dX12_sheet_0 rfl ?_
  refine V_iconst (v := 0) (pc := 1) dX12_sheet_1 rfl ?_
  refine V_putI (pc := 2) fX12_108 p12_0 sM0 rfl dX12_sheet_2 ?_
  refine V_iload_n (pc := 5) dX12_sheet_5 rfl ?_
  refine V_callSi [.int v1] (pc := 6) kX12_isSheet lX12_122 rfl (Nat.le_of_ble_eq_true rfl) rfl (Nat.le_of_ble_eq_true rfl) dX12_sheet_6 ?_
  refine Ci.mono h ?_
  intro x1 M1 h
  refine V_if_eq (tgt := 30) (pc := 9) dX12_sheet_9 rfl (fun c => ?_) (fun c => ?_)
  · have h := h.1 c
    refine V_ldc (pc := 30) dX12_sheet_30 nX12_128 ?_
    exact V_iret dX12_sheet_32 rfl h
  · have h := h.2 c
    refine V_iload_n (pc := 12) dX12_sheet_12 rfl ?_
    refine V_i2l (pc := 13) dX12_sheet_13 ?_
    refine V_lconst (v := 0) (pc := 14) dX12_sheet_14 rfl ?_
    refine V_ldc2 (pc := 15) dX12_sheet_15 nX12_126 ?_
    refine V_callSi [.long (Int32.toInt64 v2), .long 0, .long 2] (pc := 18) kX12_in lX12_118 rfl (Nat.le_of_ble_eq_true rfl) rfl (Nat.le_of_ble_eq_true rfl) dX12_sheet_18 ?_
    refine Ci.mono h ?_
    intro x2 M2 h
    refine V_if_eq (tgt := 30) (pc := 21) dX12_sheet_21 rfl (fun c => ?_) (fun c => ?_)
    · have h := h.1 c
      refine V_ldc (pc := 30) dX12_sheet_30 nX12_128 ?_
      exact V_iret dX12_sheet_32 rfl h
    · have h := h.2 c
      refine V_iload_n (pc := 24) dX12_sheet_24 rfl ?_
      refine V_bipush (v := 60) (pc := 25) dX12_sheet_25 rfl ?_
      refine V_icmp_le (tgt := 33) (pc := 27) dX12_sheet_27 rfl (fun c => ?_) (fun c => ?_)
      · have h := h.1 c
        refine V_aload_n (pc := 33) dX12_sheet_33 rfl ?_
        refine V_iconst (v := 0) (pc := 34) dX12_sheet_34 rfl ?_
        refine V_putI (pc := 35) fX12_112 p12_1 sM0 rfl dX12_sheet_35 ?_
        refine V_iload_n (pc := 38) dX12_sheet_38 rfl ?_
        refine V_if_ge (tgt := 48) (pc := 39) dX12_sheet_39 rfl (fun c => ?_) (fun c => ?_)
        · have h := h.1 c
          refine V_aload_n (pc := 48) dX12_sheet_48 rfl ?_
          refine V_getR (pc := 49) fX12_7 sM0 rfl dX12_sheet_49 ?_
          refine V_iload_n (pc := 52) dX12_sheet_52 rfl ?_
          refine V_iload_n (pc := 53) dX12_sheet_53 rfl ?_
          refine V_iast (pc := 54) sM1 dX12_sheet_54 h.1 ?_
          have h := h.2
          refine V_aload_n (pc := 55) dX12_sheet_55 rfl ?_
          refine V_getR (pc := 56) fX12_13 sM0 rfl dX12_sheet_56 ?_
          refine V_iload_n (pc := 59) dX12_sheet_59 rfl ?_
          refine V_iload_n (pc := 60) dX12_sheet_60 rfl ?_
          refine V_iast (pc := 61) sM2 dX12_sheet_61 h.1 ?_
          have h := h.2
          refine V_iconst (v := 0) (pc := 62) dX12_sheet_62 rfl ?_
          refine V_istore (pc := 63) dX12_sheet_63 (by decide) ?_
          refine V_lv (lv2 := [(0, .ref (G.2.1 0)), (1, .int v1), (2, .int v2), (3, .int v3), (4, .int 0)]) rfl ?_
          exact V_sub h ⟨rfl, rfl, rfl, rfl, rfl, trivial⟩
        · have h := h.2 c
          refine V_aload_n (pc := 42) dX12_sheet_42 rfl ?_
          refine V_iconst (v := 4) (pc := 43) dX12_sheet_43 rfl ?_
          refine V_callVi [.int 4] (pc := 44) kX12_finding lX12_129 sM0 rfl rfl (Nat.le_of_ble_eq_true rfl) rfl (Nat.le_of_ble_eq_true rfl) dX12_sheet_44 ?_
          refine Ci.mono h ?_
          intro x3 M3 h
          exact V_iret dX12_sheet_47 rfl h
      · have h := h.2 c
        refine V_ldc (pc := 30) dX12_sheet_30 nX12_128 ?_
        exact V_iret dX12_sheet_32 rfl h
theorem wp_X12_sheet_65 {G : GV} {k : Nat} {M : Mem} {q : Int32 → Mem → Prop} {v1 : Int32} {v2 : Int32} {v3 : Int32} {v4 : Int32} (h : ((60 ≤ v4 → q v3 M) ∧ (¬ 60 ≤ v4 → vp_in ((60 * v1) + v4) 480 ∧ V shM G mX12_sheet (k + 2) 65 [(0, .ref (G.2.1 0)), (1, .int v1), (2, .int v2), (3, .int v3), (4, .int (v4 + 1))] [] (mset M 3 (ix ((60 * v1) + v4)) 0) (Qi q)))) : V shM G mX12_sheet (k + 2) 65 [(0, .ref (G.2.1 0)), (1, .int v1), (2, .int v2), (3, .int v3), (4, .int v4)] [] M (Qi q) := by
  refine V_iload (pc := 65) dX12_sheet_65 rfl ?_
  refine V_bipush (v := 60) (pc := 67) dX12_sheet_67 rfl ?_
  refine V_icmp_ge (tgt := 91) (pc := 69) dX12_sheet_69 rfl (fun c => ?_) (fun c => ?_)
  · have h := h.1 c
    refine V_iload_n (pc := 91) dX12_sheet_91 rfl ?_
    exact V_iret dX12_sheet_92 rfl h
  · have h := h.2 c
    refine V_aload_n (pc := 72) dX12_sheet_72 rfl ?_
    refine V_getR (pc := 73) fX12_16 sM0 rfl dX12_sheet_73 ?_
    refine V_bipush (v := 60) (pc := 76) dX12_sheet_76 rfl ?_
    refine V_iload_n (pc := 78) dX12_sheet_78 rfl ?_
    refine V_imul (pc := 79) dX12_sheet_79 ?_
    refine V_iload (pc := 80) dX12_sheet_80 rfl ?_
    refine V_iadd (pc := 82) dX12_sheet_82 ?_
    refine V_iconst (v := 0) (pc := 83) dX12_sheet_83 rfl ?_
    refine V_iast (pc := 84) sM3 dX12_sheet_84 h.1 ?_
    have h := h.2
    refine V_iinc (pc := 85) dX12_sheet_85 rfl (by decide) ?_
    refine V_lv (lv2 := [(0, .ref (G.2.1 0)), (1, .int v1), (2, .int v2), (3, .int v3), (4, .int (v4 + 1))]) rfl ?_
    refine V_goto (tgt := 65) (pc := 88) dX12_sheet_88 rfl ?_
    exact V_sub h ⟨rfl, rfl, rfl, rfl, rfl, trivial⟩
theorem wp_X12_shown {G : GV} {k : Nat} {M : Mem} {q : Int32 → Mem → Prop} {v1 : Int32} {v2 : Int32} (h : Ci shM G mX12_isLine (k + 1) [.ref (G.2.1 0), .int v1] (mset M 0 0 0) (fun x1 M1 => ((x1 = 0 → q (-1000001) M1) ∧ (¬ x1 = 0 → Ci shM G mX12_in (k + 1) [.long (Int32.toInt64 v2), .long 0, .long 9999] M1 (fun x2 M2 => ((x2 ≠ 0 → Ci shM G mX12_gathered (k + 1) [.ref (G.2.1 0), .int v1] M2 (fun x3 M3 => vp_in v1 12 ∧ (((M3.1 9 (ix v1)) ≠ 2 → (((v2 - x3) < 72 → q 0 M3) ∧ (¬ (v2 - x3) < 72 → q 1 M3))) ∧ ((M3.1 9 (ix v1)) = 2 → (((v2 - x3) < 100 → q 0 M3) ∧ (¬ (v2 - x3) < 100 → q 1 M3)))))) ∧ (x2 = 0 → q (-1000001) M2))))))) : Ci shM G mX12_shown (k + 2) [.ref (G.2.1 0), .int v1, .int v2] M q := by
  unfold Ci
  show V _ _ _ _ _ [(0, .ref (G.2.1 0)), (1, .int v1), (2, .int v2)] _ _ _
  refine V_aload_n (pc := 0) dX12_shown_0 rfl ?_
  refine V_iconst (v := 0) (pc := 1) dX12_shown_1 rfl ?_
  refine V_putI (pc := 2) fX12_108 p12_0 sM0 rfl dX12_shown_2 ?_
  refine V_aload_n (pc := 5) dX12_shown_5 rfl ?_
  refine V_iload_n (pc := 6) dX12_shown_6 rfl ?_
  refine V_callVi [.int v1] (pc := 7) kX12_isLine lX12_255 sM0 rfl rfl (Nat.le_of_ble_eq_true rfl) rfl (Nat.le_of_ble_eq_true rfl) dX12_shown_7 ?_
  refine Ci.mono h ?_
  intro x1 M1 h
  refine V_if_eq (tgt := 25) (pc := 10) dX12_shown_10 rfl (fun c => ?_) (fun c => ?_)
  · have h := h.1 c
    refine V_ldc (pc := 25) dX12_shown_25 nX12_128 ?_
    exact V_iret dX12_shown_27 rfl h
  · have h := h.2 c
    refine V_iload_n (pc := 13) dX12_shown_13 rfl ?_
    refine V_i2l (pc := 14) dX12_shown_14 ?_
    refine V_lconst (v := 0) (pc := 15) dX12_shown_15 rfl ?_
    refine V_ldc2 (pc := 16) dX12_shown_16 nX12_265 ?_
    refine V_callSi [.long (Int32.toInt64 v2), .long 0, .long 9999] (pc := 19) kX12_in lX12_118 rfl (Nat.le_of_ble_eq_true rfl) rfl (Nat.le_of_ble_eq_true rfl) dX12_shown_19 ?_
    refine Ci.mono h ?_
    intro x2 M2 h
    refine V_if_ne (tgt := 28) (pc := 22) dX12_shown_22 rfl (fun c => ?_) (fun c => ?_)
    · have h := h.1 c
      refine V_iload_n (pc := 28) dX12_shown_28 rfl ?_
      refine V_aload_n (pc := 29) dX12_shown_29 rfl ?_
      refine V_iload_n (pc := 30) dX12_shown_30 rfl ?_
      refine V_callVi [.int v1] (pc := 31) kX12_gathered lX12_246 sM0 rfl rfl (Nat.le_of_ble_eq_true rfl) rfl (Nat.le_of_ble_eq_true rfl) dX12_shown_31 ?_
      refine Ci.mono h ?_
      intro x3 M3 h
      refine V_isub (pc := 34) dX12_shown_34 ?_
      refine V_aload_n (pc := 35) dX12_shown_35 rfl ?_
      refine V_getR (pc := 36) fX12_35 sM0 rfl dX12_shown_36 ?_
      refine V_iload_n (pc := 39) dX12_shown_39 rfl ?_
      refine V_iald (pc := 40) sM9 dX12_shown_40 h.1 ?_
      have h := h.2
      refine V_iconst (v := 2) (pc := 41) dX12_shown_41 rfl ?_
      refine V_icmp_ne (tgt := 50) (pc := 42) dX12_shown_42 rfl (fun c => ?_) (fun c => ?_)
      · have h := h.1 c
        refine V_bipush (v := 72) (pc := 50) dX12_shown_50 rfl ?_
        refine V_icmp_lt (tgt := 59) (pc := 52) dX12_shown_52 rfl (fun c => ?_) (fun c => ?_)
        · have h := h.1 c
          refine V_iconst (v := 0) (pc := 59) dX12_shown_59 rfl ?_
          exact V_iret dX12_shown_60 rfl h
        · have h := h.2 c
          refine V_iconst (v := 1) (pc := 55) dX12_shown_55 rfl ?_
          refine V_goto (tgt := 60) (pc := 56) dX12_shown_56 rfl ?_
          exact V_iret dX12_shown_60 rfl h
      · have h := h.2 c
        refine V_bipush (v := 100) (pc := 45) dX12_shown_45 rfl ?_
        refine V_goto (tgt := 52) (pc := 47) dX12_shown_47 rfl ?_
        refine V_icmp_lt (tgt := 59) (pc := 52) dX12_shown_52 rfl (fun c => ?_) (fun c => ?_)
        · have h := h.1 c
          refine V_iconst (v := 0) (pc := 59) dX12_shown_59 rfl ?_
          exact V_iret dX12_shown_60 rfl h
        · have h := h.2 c
          refine V_iconst (v := 1) (pc := 55) dX12_shown_55 rfl ?_
          refine V_goto (tgt := 60) (pc := 56) dX12_shown_56 rfl ?_
          exact V_iret dX12_shown_60 rfl h
    · have h := h.2 c
      refine V_ldc (pc := 25) dX12_shown_25 nX12_128 ?_
      exact V_iret dX12_shown_27 rfl h
theorem wp_X12_today {G : GV} {k : Nat} {M : Mem} {q : Int32 → Mem → Prop} {v1 : Int32} {v2 : Int32} {v3 : Int32} (h : Ci shM G mX12_isAddress (k + 1) [.int v1, .int v2, .int v3] (mset M 0 0 0) (fun x1 M1 => ((x1 = 0 → q (-1000001) M1) ∧ (¬ x1 = 0 → Ci shM G mX12_todayOf (k + 1) [.ref (G.2.1 0), .int v1, .int v2, .int v3] M1 (fun x2 M2 => q x2 M2))))) : Ci shM G mX12_today (k + 2) [.ref (G.2.1 0), .int v1, .int v2, .int v3] M q := by
  unfold Ci
  show V _ _ _ _ _ [(0, .ref (G.2.1 0)), (1, .int v1), (2, .int v2), (3, .int v3)] _ _ _
  refine V_aload_n (pc := 0) dX12_today_0 rfl ?_
  refine V_iconst (v := 0) (pc := 1) dX12_today_1 rfl ?_
  refine V_putI (pc := 2) fX12_108 p12_0 sM0 rfl dX12_today_2 ?_
  refine V_iload_n (pc := 5) dX12_today_5 rfl ?_
  refine V_iload_n (pc := 6) dX12_today_6 rfl ?_
  refine V_iload_n (pc := 7) dX12_today_7 rfl ?_
  refine V_callSi [.int v1, .int v2, .int v3] (pc := 8) kX12_isAddress lX12_267 rfl (Nat.le_of_ble_eq_true rfl) rfl (Nat.le_of_ble_eq_true rfl) dX12_today_8 ?_
  refine Ci.mono h ?_
  intro x1 M1 h
  refine V_if_eq (tgt := 24) (pc := 11) dX12_today_11 rfl (fun c => ?_) (fun c => ?_)
  · have h := h.1 c
    refine V_ldc (pc := 24) dX12_today_24 nX12_128 ?_
    exact V_iret dX12_today_26 rfl h
  · have h := h.2 c
    refine V_aload_n (pc := 14) dX12_today_14 rfl ?_
    refine V_iload_n (pc := 15) dX12_today_15 rfl ?_
    refine V_iload_n (pc := 16) dX12_today_16 rfl ?_
    refine V_iload_n (pc := 17) dX12_today_17 rfl ?_
    refine V_callVi [.int v1, .int v2, .int v3] (pc := 18) kX12_todayOf lX12_249 sM0 rfl rfl (Nat.le_of_ble_eq_true rfl) rfl (Nat.le_of_ble_eq_true rfl) dX12_today_18 ?_
    refine Ci.mono h ?_
    intro x2 M2 h
    refine V_goto (tgt := 26) (pc := 21) dX12_today_21 rfl ?_
    exact V_iret dX12_today_26 rfl h
