theorem wp_X12_isHomeless {G : GV} {k : Nat} {M : Mem} {q : Int32 → Mem → Prop} {v1 : Int32} (h : V shM G mX12_isHomeless (k + 2) 7 [(0, .ref (G.2.1 0)), (1, .int v1), (2, .int 0), (3, .int 0), (4, .int 0)] [] M (Qi q)) : Ci shM G mX12_isHomeless (k + 2) [.ref (G.2.1 0), .int v1] M q := by
  unfold Ci
  show V _ _ _ _ _ [(0, .ref (G.2.1 0)), (1, .int v1)] _ _ _
  refine V_iconst (v := 0) (pc := 0) dX12_isHomeless_0 rfl ?_
  refine V_istore_n (pc := 1) dX12_isHomeless_1 (by decide) ?_
  refine V_lv (lv2 := [(0, .ref (G.2.1 0)), (1, .int v1), (2, .int 0)]) rfl ?_
  refine V_iconst (v := 0) (pc := 2) dX12_isHomeless_2 rfl ?_
  refine V_istore_n (pc := 3) dX12_isHomeless_3 (by decide) ?_
  refine V_lv (lv2 := [(0, .ref (G.2.1 0)), (1, .int v1), (2, .int 0), (3, .int 0)]) rfl ?_
  refine V_iconst (v := 0) (pc := 4) dX12_isHomeless_4 rfl ?_
  refine V_istore (pc := 5) dX12_isHomeless_5 (by decide) ?_
  refine V_lv (lv2 := [(0, .ref (G.2.1 0)), (1, .int v1), (2, .int 0), (3, .int 0), (4, .int 0)]) rfl ?_
  exact V_sub h ⟨rfl, rfl, rfl, rfl, rfl, trivial⟩
theorem wp_X12_isHomeless_7 {G : GV} {k : Nat} {M : Mem} {q : Int32 → Mem → Prop} {v1 : Int32} {v2 : Int32} {v3 : Int32} {v4 : Int32} (h : (((M.1 0 23) ≤ v4 → ((v2 = 0 → q 0 M) ∧ (¬ v2 = 0 → ((v3 ≠ 0 → q 0 M) ∧ (v3 = 0 → q 1 M))))) ∧ (¬ (M.1 0 23) ≤ v4 → vp_in v4 20 ∧ vp_in v1 12 ∧ (((M.1 19 (ix v4)) ≠ (M.1 10 (ix v1)) → ((v2 ≠ 0 → ((v3 ≠ 0 → V shM G mX12_isHomeless (k + 2) 7 [(0, .ref (G.2.1 0)), (1, .int v1), (2, .int 1), (3, .int 1), (4, .int (v4 + 1))] [] M (Qi q)) ∧ (v3 = 0 → V shM G mX12_isHomeless (k + 2) 7 [(0, .ref (G.2.1 0)), (1, .int v1), (2, .int 1), (3, .int 0), (4, .int (v4 + 1))] [] M (Qi q)))) ∧ (v2 = 0 → ((v3 ≠ 0 → V shM G mX12_isHomeless (k + 2) 7 [(0, .ref (G.2.1 0)), (1, .int v1), (2, .int 0), (3, .int 1), (4, .int (v4 + 1))] [] M (Qi q)) ∧ (v3 = 0 → V shM G mX12_isHomeless (k + 2) 7 [(0, .ref (G.2.1 0)), (1, .int v1), (2, .int 0), (3, .int 0), (4, .int (v4 + 1))] [] M (Qi q)))))) ∧ ((M.1 19 (ix v4)) = (M.1 10 (ix v1)) → vp_in v4 20 ∧ Ci shM G mX12_doorOf (k + 1) [.ref (G.2.1 0), .int v1] M (fun x1 M1 => (((M.1 20 (ix v4)) ≠ x1 → ((v2 ≠ 0 → ((v3 ≠ 0 → V shM G mX12_isHomeless (k + 2) 7 [(0, .ref (G.2.1 0)), (1, .int v1), (2, .int 1), (3, .int 1), (4, .int (v4 + 1))] [] M1 (Qi q)) ∧ (v3 = 0 → V shM G mX12_isHomeless (k + 2) 7 [(0, .ref (G.2.1 0)), (1, .int v1), (2, .int 1), (3, .int 0), (4, .int (v4 + 1))] [] M1 (Qi q)))) ∧ (v2 = 0 → ((v3 ≠ 0 → V shM G mX12_isHomeless (k + 2) 7 [(0, .ref (G.2.1 0)), (1, .int v1), (2, .int 0), (3, .int 1), (4, .int (v4 + 1))] [] M1 (Qi q)) ∧ (v3 = 0 → V shM G mX12_isHomeless (k + 2) 7 [(0, .ref (G.2.1 0)), (1, .int v1), (2, .int 0), (3, .int 0), (4, .int (v4 + 1))] [] M1 (Qi q)))))) ∧ ((M.1 20 (ix v4)) = x1 → ((v2 ≠ 0 → ((v3 ≠ 0 → V shM G mX12_isHomeless (k + 2) 7 [(0, .ref (G.2.1 0)), (1, .int v1), (2, .int 1), (3, .int 1), (4, .int (v4 + 1))] [] M1 (Qi q)) ∧ (v3 = 0 → Ci shM G mX12_gathered (k + 1) [.ref (G.2.1 0), .int v1] M1 (fun x2 M2 => vp_in v4 20 ∧ vp_in v4 20 ∧ Ci shM G mX12_in (k + 1) [.long (Int32.toInt64 x2), .long (Int32.toInt64 (M2.1 21 (ix v4))), .long (Int32.toInt64 ((M2.1 22 (ix v4)) - 1))] M2 (fun x3 M3 => ((x3 = 0 → V shM G mX12_isHomeless (k + 2) 7 [(0, .ref (G.2.1 0)), (1, .int v1), (2, .int 1), (3, .int 0), (4, .int (v4 + 1))] [] M3 (Qi q)) ∧ (¬ x3 = 0 → V shM G mX12_isHomeless (k + 2) 7 [(0, .ref (G.2.1 0)), (1, .int v1), (2, .int 1), (3, .int 1), (4, .int (v4 + 1))] [] M3 (Qi q)))))))) ∧ (v2 = 0 → ((v3 ≠ 0 → V shM G mX12_isHomeless (k + 2) 7 [(0, .ref (G.2.1 0)), (1, .int v1), (2, .int 1), (3, .int 1), (4, .int (v4 + 1))] [] M1 (Qi q)) ∧ (v3 = 0 → Ci shM G mX12_gathered (k + 1) [.ref (G.2.1 0), .int v1] M1 (fun x4 M4 => vp_in v4 20 ∧ vp_in v4 20 ∧ Ci shM G mX12_in (k + 1) [.long (Int32.toInt64 x4), .long (Int32.toInt64 (M4.1 21 (ix v4))), .long (Int32.toInt64 ((M4.1 22 (ix v4)) - 1))] M4 (fun x5 M5 => ((x5 = 0 → V shM G mX12_isHomeless (k + 2) 7 [(0, .ref (G.2.1 0)), (1, .int v1), (2, .int 1), (3, .int 0), (4, .int (v4 + 1))] [] M5 (Qi q)) ∧ (¬ x5 = 0 → V shM G mX12_isHomeless (k + 2) 7 [(0, .ref (G.2.1 0)), (1, .int v1), (2, .int 1), (3, .int 1), (4, .int (v4 + 1))] [] M5 (Qi q))))))))))))))))) : V shM G mX12_isHomeless (k + 2) 7 [(0, .ref (G.2.1 0)), (1, .int v1), (2, .int v2), (3, .int v3), (4, .int v4)] [] M (Qi q) := by
  refine V_iload (pc := 7) dX12_isHomeless_7 rfl ?_
  refine V_aload_n (pc := 9) dX12_isHomeless_9 rfl ?_
  refine V_getI (pc := 10) fX12_233 sM0 rfl dX12_isHomeless_10 ?_
  refine V_icmp_ge (tgt := 120) (pc := 13) dX12_isHomeless_13 rfl (fun c => ?_) (fun c => ?_)
  · have h := h.1 c
    refine V_iload_n (pc := 120) dX12_isHomeless_120 rfl ?_
    refine V_if_eq (tgt := 132) (pc := 121) dX12_isHomeless_121 rfl (fun c => ?_) (fun c => ?_)
    · have h := h.1 c
      refine V_iconst (v := 0) (pc := 132) dX12_isHomeless_132 rfl ?_
      exact V_zret dX12_isHomeless_133 rfl (Or.inl rfl) h
    · have h := h.2 c
      refine V_iload_n (pc := 124) dX12_isHomeless_124 rfl ?_
      refine V_if_ne (tgt := 132) (pc := 125) dX12_isHomeless_125 rfl (fun c => ?_) (fun c => ?_)
      · have h := h.1 c
        refine V_iconst (v := 0) (pc := 132) dX12_isHomeless_132 rfl ?_
        exact V_zret dX12_isHomeless_133 rfl (Or.inl rfl) h
      · have h := h.2 c
        refine V_iconst (v := 1) (pc := 128) dX12_isHomeless_128 rfl ?_
        refine V_goto (tgt := 133) (pc := 129) dX12_isHomeless_129 rfl ?_
        exact V_zret dX12_isHomeless_133 rfl (Or.inr rfl) h
  · have h := h.2 c
    refine V_aload_n (pc := 16) dX12_isHomeless_16 rfl ?_
    refine V_getR (pc := 17) fX12_65 sM0 rfl dX12_isHomeless_17 ?_
    refine V_iload (pc := 20) dX12_isHomeless_20 rfl ?_
    refine V_iald (pc := 22) sM19 dX12_isHomeless_22 h.1 ?_
    have h := h.2
    refine V_aload_n (pc := 23) dX12_isHomeless_23 rfl ?_
    refine V_getR (pc := 24) fX12_38 sM0 rfl dX12_isHomeless_24 ?_
    refine V_iload_n (pc := 27) dX12_isHomeless_27 rfl ?_
    refine V_iald (pc := 28) sM10 dX12_isHomeless_28 h.1 ?_
    have h := h.2
    refine V_icmp_ne (tgt := 51) (pc := 29) dX12_isHomeless_29 rfl (fun c => ?_) (fun c => ?_)
    · have h := h.1 c
      refine V_iconst (v := 0) (pc := 51) dX12_isHomeless_51 rfl ?_
      refine V_istore (pc := 52) dX12_isHomeless_52 (by decide) ?_
      refine V_lv (lv2 := [(0, .ref (G.2.1 0)), (1, .int v1), (2, .int v2), (3, .int v3), (4, .int v4), (5, .int 0)]) rfl ?_
      refine V_iload_n (pc := 54) dX12_isHomeless_54 rfl ?_
      refine V_if_ne (tgt := 63) (pc := 55) dX12_isHomeless_55 rfl (fun c => ?_) (fun c => ?_)
      · have h := h.1 c
        refine V_iconst (v := 1) (pc := 63) dX12_isHomeless_63 rfl ?_
        refine V_goto (tgt := 68) (pc := 64) dX12_isHomeless_64 rfl ?_
        refine V_istore_n (pc := 68) dX12_isHomeless_68 (by decide) ?_
        refine V_lv (lv2 := [(0, .ref (G.2.1 0)), (1, .int v1), (2, .int 1), (3, .int v3), (4, .int v4), (5, .int 0)]) rfl ?_
        refine V_iload_n (pc := 69) dX12_isHomeless_69 rfl ?_
        refine V_if_ne (tgt := 108) (pc := 70) dX12_isHomeless_70 rfl (fun c => ?_) (fun c => ?_)
        · have h := h.1 c
          refine V_iconst (v := 1) (pc := 108) dX12_isHomeless_108 rfl ?_
          refine V_goto (tgt := 113) (pc := 109) dX12_isHomeless_109 rfl ?_
          refine V_istore_n (pc := 113) dX12_isHomeless_113 (by decide) ?_
          refine V_lv (lv2 := [(0, .ref (G.2.1 0)), (1, .int v1), (2, .int 1), (3, .int 1), (4, .int v4), (5, .int 0)]) rfl ?_
          refine V_iinc (pc := 114) dX12_isHomeless_114 rfl (by decide) ?_
          refine V_lv (lv2 := [(0, .ref (G.2.1 0)), (1, .int v1), (2, .int 1), (3, .int 1), (4, .int (v4 + 1)), (5, .int 0)]) rfl ?_
          refine V_goto (tgt := 7) (pc := 117) dX12_isHomeless_117 rfl ?_
          exact V_sub h ⟨rfl, rfl, rfl, rfl, rfl, trivial⟩
        · have h := h.2 c
          refine V_iload (pc := 73) dX12_isHomeless_73 rfl ?_
          refine V_if_eq (tgt := 112) (pc := 75) dX12_isHomeless_75 rfl (fun c => ?_) (fun c => ?_)
          · skip
            refine V_iconst (v := 0) (pc := 112) dX12_isHomeless_112 rfl ?_
            refine V_istore_n (pc := 113) dX12_isHomeless_113 (by decide) ?_
            refine V_lv (lv2 := [(0, .ref (G.2.1 0)), (1, .int v1), (2, .int 1), (3, .int 0), (4, .int v4), (5, .int 0)]) rfl ?_
            refine V_iinc (pc := 114) dX12_isHomeless_114 rfl (by decide) ?_
            refine V_lv (lv2 := [(0, .ref (G.2.1 0)), (1, .int v1), (2, .int 1), (3, .int 0), (4, .int (v4 + 1)), (5, .int 0)]) rfl ?_
            refine V_goto (tgt := 7) (pc := 117) dX12_isHomeless_117 rfl ?_
            exact V_sub h ⟨rfl, rfl, rfl, rfl, rfl, trivial⟩
          · exact absurd c (by decide)
      · have h := h.2 c
        refine V_iload (pc := 58) dX12_isHomeless_58 rfl ?_
        refine V_if_eq (tgt := 67) (pc := 60) dX12_isHomeless_60 rfl (fun c => ?_) (fun c => ?_)
        · skip
          refine V_iconst (v := 0) (pc := 67) dX12_isHomeless_67 rfl ?_
          refine V_istore_n (pc := 68) dX12_isHomeless_68 (by decide) ?_
          refine V_lv (lv2 := [(0, .ref (G.2.1 0)), (1, .int v1), (2, .int 0), (3, .int v3), (4, .int v4), (5, .int 0)]) rfl ?_
          refine V_iload_n (pc := 69) dX12_isHomeless_69 rfl ?_
          refine V_if_ne (tgt := 108) (pc := 70) dX12_isHomeless_70 rfl (fun c => ?_) (fun c => ?_)
          · have h := h.1 c
            refine V_iconst (v := 1) (pc := 108) dX12_isHomeless_108 rfl ?_
            refine V_goto (tgt := 113) (pc := 109) dX12_isHomeless_109 rfl ?_
            refine V_istore_n (pc := 113) dX12_isHomeless_113 (by decide) ?_
            refine V_lv (lv2 := [(0, .ref (G.2.1 0)), (1, .int v1), (2, .int 0), (3, .int 1), (4, .int v4), (5, .int 0)]) rfl ?_
            refine V_iinc (pc := 114) dX12_isHomeless_114 rfl (by decide) ?_
            refine V_lv (lv2 := [(0, .ref (G.2.1 0)), (1, .int v1), (2, .int 0), (3, .int 1), (4, .int (v4 + 1)), (5, .int 0)]) rfl ?_
            refine V_goto (tgt := 7) (pc := 117) dX12_isHomeless_117 rfl ?_
            exact V_sub h ⟨rfl, rfl, rfl, rfl, rfl, trivial⟩
          · have h := h.2 c
            refine V_iload (pc := 73) dX12_isHomeless_73 rfl ?_
            refine V_if_eq (tgt := 112) (pc := 75) dX12_isHomeless_75 rfl (fun c => ?_) (fun c => ?_)
            · skip
              refine V_iconst (v := 0) (pc := 112) dX12_isHomeless_112 rfl ?_
              refine V_istore_n (pc := 113) dX12_isHomeless_113 (by decide) ?_
              refine V_lv (lv2 := [(0, .ref (G.2.1 0)), (1, .int v1), (2, .int 0), (3, .int 0), (4, .int v4), (5, .int 0)]) rfl ?_
              refine V_iinc (pc := 114) dX12_isHomeless_114 rfl (by decide) ?_
              refine V_lv (lv2 := [(0, .ref (G.2.1 0)), (1, .int v1), (2, .int 0), (3, .int 0), (4, .int (v4 + 1)), (5, .int 0)]) rfl ?_
              refine V_goto (tgt := 7) (pc := 117) dX12_isHomeless_117 rfl ?_
              exact V_sub h ⟨rfl, rfl, rfl, rfl, rfl, trivial⟩
            · exact absurd c (by decide)
        · exact absurd c (by decide)
    · have h := h.2 c
      refine V_aload_n (pc := 32) dX12_isHomeless_32 rfl ?_
      refine V_getR (pc := 33) fX12_68 sM0 rfl dX12_isHomeless_33 ?_
      refine V_iload (pc := 36) dX12_isHomeless_36 rfl ?_
      refine V_iald (pc := 38) sM20 dX12_isHomeless_38 h.1 ?_
      have h := h.2
      refine V_aload_n (pc := 39) dX12_isHomeless_39 rfl ?_
      refine V_iload_n (pc := 40) dX12_isHomeless_40 rfl ?_
      refine V_callVi [.int v1] (pc := 41) kX12_doorOf lX12_252 sM0 rfl rfl (Nat.le_of_ble_eq_true rfl) rfl (Nat.le_of_ble_eq_true rfl) dX12_isHomeless_41 ?_
      refine Ci.mono h ?_
      intro x1 M1 h
      refine V_icmp_ne (tgt := 51) (pc := 44) dX12_isHomeless_44 rfl (fun c => ?_) (fun c => ?_)
      · have h := h.1 c
        refine V_iconst (v := 0) (pc := 51) dX12_isHomeless_51 rfl ?_
        refine V_istore (pc := 52) dX12_isHomeless_52 (by decide) ?_
        refine V_lv (lv2 := [(0, .ref (G.2.1 0)), (1, .int v1), (2, .int v2), (3, .int v3), (4, .int v4), (5, .int 0)]) rfl ?_
        refine V_iload_n (pc := 54) dX12_isHomeless_54 rfl ?_
        refine V_if_ne (tgt := 63) (pc := 55) dX12_isHomeless_55 rfl (fun c => ?_) (fun c => ?_)
        · have h := h.1 c
          refine V_iconst (v := 1) (pc := 63) dX12_isHomeless_63 rfl ?_
          refine V_goto (tgt := 68) (pc := 64) dX12_isHomeless_64 rfl ?_
          refine V_istore_n (pc := 68) dX12_isHomeless_68 (by decide) ?_
          refine V_lv (lv2 := [(0, .ref (G.2.1 0)), (1, .int v1), (2, .int 1), (3, .int v3), (4, .int v4), (5, .int 0)]) rfl ?_
          refine V_iload_n (pc := 69) dX12_isHomeless_69 rfl ?_
          refine V_if_ne (tgt := 108) (pc := 70) dX12_isHomeless_70 rfl (fun c => ?_) (fun c => ?_)
          · have h := h.1 c
            refine V_iconst (v := 1) (pc := 108) dX12_isHomeless_108 rfl ?_
            refine V_goto (tgt := 113) (pc := 109) dX12_isHomeless_109 rfl ?_
            refine V_istore_n (pc := 113) dX12_isHomeless_113 (by decide) ?_
            refine V_lv (lv2 := [(0, .ref (G.2.1 0)), (1, .int v1), (2, .int 1), (3, .int 1), (4, .int v4), (5, .int 0)]) rfl ?_
            refine V_iinc (pc := 114) dX12_isHomeless_114 rfl (by decide) ?_
            refine V_lv (lv2 := [(0, .ref (G.2.1 0)), (1, .int v1), (2, .int 1), (3, .int 1), (4, .int (v4 + 1)), (5, .int 0)]) rfl ?_
            refine V_goto (tgt := 7) (pc := 117) dX12_isHomeless_117 rfl ?_
            exact V_sub h ⟨rfl, rfl, rfl, rfl, rfl, trivial⟩
          · have h := h.2 c
            refine V_iload (pc := 73) dX12_isHomeless_73 rfl ?_
            refine V_if_eq (tgt := 112) (pc := 75) dX12_isHomeless_75 rfl (fun c => ?_) (fun c => ?_)
            · skip
              refine V_iconst (v := 0) (pc := 112) dX12_isHomeless_112 rfl ?_
              refine V_istore_n (pc := 113) dX12_isHomeless_113 (by decide) ?_
              refine V_lv (lv2 := [(0, .ref (G.2.1 0)), (1, .int v1), (2, .int 1), (3, .int 0), (4, .int v4), (5, .int 0)]) rfl ?_
              refine V_iinc (pc := 114) dX12_isHomeless_114 rfl (by decide) ?_
              refine V_lv (lv2 := [(0, .ref (G.2.1 0)), (1, .int v1), (2, .int 1), (3, .int 0), (4, .int (v4 + 1)), (5, .int 0)]) rfl ?_
              refine V_goto (tgt := 7) (pc := 117) dX12_isHomeless_117 rfl ?_
              exact V_sub h ⟨rfl, rfl, rfl, rfl, rfl, trivial⟩
            · exact absurd c (by decide)
        · have h := h.2 c
          refine V_iload (pc := 58) dX12_isHomeless_58 rfl ?_
          refine V_if_eq (tgt := 67) (pc := 60) dX12_isHomeless_60 rfl (fun c => ?_) (fun c => ?_)
          · skip
            refine V_iconst (v := 0) (pc := 67) dX12_isHomeless_67 rfl ?_
            refine V_istore_n (pc := 68) dX12_isHomeless_68 (by decide) ?_
            refine V_lv (lv2 := [(0, .ref (G.2.1 0)), (1, .int v1), (2, .int 0), (3, .int v3), (4, .int v4), (5, .int 0)]) rfl ?_
            refine V_iload_n (pc := 69) dX12_isHomeless_69 rfl ?_
            refine V_if_ne (tgt := 108) (pc := 70) dX12_isHomeless_70 rfl (fun c => ?_) (fun c => ?_)
            · have h := h.1 c
              refine V_iconst (v := 1) (pc := 108) dX12_isHomeless_108 rfl ?_
              refine V_goto (tgt := 113) (pc := 109) dX12_isHomeless_109 rfl ?_
              refine V_istore_n (pc := 113) dX12_isHomeless_113 (by decide) ?_
              refine V_lv (lv2 := [(0, .ref (G.2.1 0)), (1, .int v1), (2, .int 0), (3, .int 1), (4, .int v4), (5, .int 0)]) rfl ?_
              refine V_iinc (pc := 114) dX12_isHomeless_114 rfl (by decide) ?_
              refine V_lv (lv2 := [(0, .ref (G.2.1 0)), (1, .int v1), (2, .int 0), (3, .int 1), (4, .int (v4 + 1)), (5, .int 0)]) rfl ?_
              refine V_goto (tgt := 7) (pc := 117) dX12_isHomeless_117 rfl ?_
              exact V_sub h ⟨rfl, rfl, rfl, rfl, rfl, trivial⟩
            · have h := h.2 c
              refine V_iload (pc := 73) dX12_isHomeless_73 rfl ?_
              refine V_if_eq (tgt := 112) (pc := 75) dX12_isHomeless_75 rfl (fun c => ?_) (fun c => ?_)
              · skip
                refine V_iconst (v := 0) (pc := 112) dX12_isHomeless_112 rfl ?_
                refine V_istore_n (pc := 113) dX12_isHomeless_113 (by decide) ?_
                refine V_lv (lv2 := [(0, .ref (G.2.1 0)), (1, .int v1), (2, .int 0), (3, .int 0), (4, .int v4), (5, .int 0)]) rfl ?_
                refine V_iinc (pc := 114) dX12_isHomeless_114 rfl (by decide) ?_
                refine V_lv (lv2 := [(0, .ref (G.2.1 0)), (1, .int v1), (2, .int 0), (3, .int 0), (4, .int (v4 + 1)), (5, .int 0)]) rfl ?_
                refine V_goto (tgt := 7) (pc := 117) dX12_isHomeless_117 rfl ?_
                exact V_sub h ⟨rfl, rfl, rfl, rfl, rfl, trivial⟩
              · exact absurd c (by decide)
          · exact absurd c (by decide)
      · have h := h.2 c
        refine V_iconst (v := 1) (pc := 47) dX12_isHomeless_47 rfl ?_
        refine V_goto (tgt := 52) (pc := 48) dX12_isHomeless_48 rfl ?_
        refine V_istore (pc := 52) dX12_isHomeless_52 (by decide) ?_
        refine V_lv (lv2 := [(0, .ref (G.2.1 0)), (1, .int v1), (2, .int v2), (3, .int v3), (4, .int v4), (5, .int 1)]) rfl ?_
        refine V_iload_n (pc := 54) dX12_isHomeless_54 rfl ?_
        refine V_if_ne (tgt := 63) (pc := 55) dX12_isHomeless_55 rfl (fun c => ?_) (fun c => ?_)
        · have h := h.1 c
          refine V_iconst (v := 1) (pc := 63) dX12_isHomeless_63 rfl ?_
          refine V_goto (tgt := 68) (pc := 64) dX12_isHomeless_64 rfl ?_
          refine V_istore_n (pc := 68) dX12_isHomeless_68 (by decide) ?_
          refine V_lv (lv2 := [(0, .ref (G.2.1 0)), (1, .int v1), (2, .int 1), (3, .int v3), (4, .int v4), (5, .int 1)]) rfl ?_
          refine V_iload_n (pc := 69) dX12_isHomeless_69 rfl ?_
          refine V_if_ne (tgt := 108) (pc := 70) dX12_isHomeless_70 rfl (fun c => ?_) (fun c => ?_)
          · have h := h.1 c
            refine V_iconst (v := 1) (pc := 108) dX12_isHomeless_108 rfl ?_
            refine V_goto (tgt := 113) (pc := 109) dX12_isHomeless_109 rfl ?_
            refine V_istore_n (pc := 113) dX12_isHomeless_113 (by decide) ?_
            refine V_lv (lv2 := [(0, .ref (G.2.1 0)), (1, .int v1), (2, .int 1), (3, .int 1), (4, .int v4), (5, .int 1)]) rfl ?_
            refine V_iinc (pc := 114) dX12_isHomeless_114 rfl (by decide) ?_
            refine V_lv (lv2 := [(0, .ref (G.2.1 0)), (1, .int v1), (2, .int 1), (3, .int 1), (4, .int (v4 + 1)), (5, .int 1)]) rfl ?_
            refine V_goto (tgt := 7) (pc := 117) dX12_isHomeless_117 rfl ?_
            exact V_sub h ⟨rfl, rfl, rfl, rfl, rfl, trivial⟩
          · have h := h.2 c
            refine V_iload (pc := 73) dX12_isHomeless_73 rfl ?_
            refine V_if_eq (tgt := 112) (pc := 75) dX12_isHomeless_75 rfl (fun c => ?_) (fun c => ?_)
            · exact absurd c (by decide)
            · skip
              refine V_aload_n (pc := 78) dX12_isHomeless_78 rfl ?_
              refine V_iload_n (pc := 79) dX12_isHomeless_79 rfl ?_
              refine V_callVi [.int v1] (pc := 80) kX12_gathered lX12_246 sM0 rfl rfl (Nat.le_of_ble_eq_true rfl) rfl (Nat.le_of_ble_eq_true rfl) dX12_isHomeless_80 ?_
              refine Ci.mono h ?_
              intro x2 M2 h
              refine V_i2l (pc := 83) dX12_isHomeless_83 ?_
              refine V_aload_n (pc := 84) dX12_isHomeless_84 rfl ?_
              refine V_getR (pc := 85) fX12_71 sM0 rfl dX12_isHomeless_85 ?_
              refine V_iload (pc := 88) dX12_isHomeless_88 rfl ?_
              refine V_iald (pc := 90) sM21 dX12_isHomeless_90 h.1 ?_
              have h := h.2
              refine V_i2l (pc := 91) dX12_isHomeless_91 ?_
              refine V_aload_n (pc := 92) dX12_isHomeless_92 rfl ?_
              refine V_getR (pc := 93) fX12_74 sM0 rfl dX12_isHomeless_93 ?_
              refine V_iload (pc := 96) dX12_isHomeless_96 rfl ?_
              refine V_iald (pc := 98) sM22 dX12_isHomeless_98 h.1 ?_
              have h := h.2
              refine V_iconst (v := 1) (pc := 99) dX12_isHomeless_99 rfl ?_
              refine V_isub (pc := 100) dX12_isHomeless_100 ?_
              refine V_i2l (pc := 101) dX12_isHomeless_101 ?_
              refine V_callSi [.long (Int32.toInt64 x2), .long (Int32.toInt64 (M2.1 21 (ix v4))), .long (Int32.toInt64 ((M2.1 22 (ix v4)) - 1))] (pc := 102) kX12_in lX12_118 rfl (Nat.le_of_ble_eq_true rfl) rfl (Nat.le_of_ble_eq_true rfl) dX12_isHomeless_102 ?_
              refine Ci.mono h ?_
              intro x3 M3 h
              refine V_if_eq (tgt := 112) (pc := 105) dX12_isHomeless_105 rfl (fun c => ?_) (fun c => ?_)
              · have h := h.1 c
                refine V_iconst (v := 0) (pc := 112) dX12_isHomeless_112 rfl ?_
                refine V_istore_n (pc := 113) dX12_isHomeless_113 (by decide) ?_
                refine V_lv (lv2 := [(0, .ref (G.2.1 0)), (1, .int v1), (2, .int 1), (3, .int 0), (4, .int v4), (5, .int 1)]) rfl ?_
                refine V_iinc (pc := 114) dX12_isHomeless_114 rfl (by decide) ?_
                refine V_lv (lv2 := [(0, .ref (G.2.1 0)), (1, .int v1), (2, .int 1), (3, .int 0), (4, .int (v4 + 1)), (5, .int 1)]) rfl ?_
                refine V_goto (tgt := 7) (pc := 117) dX12_isHomeless_117 rfl ?_
                exact V_sub h ⟨rfl, rfl, rfl, rfl, rfl, trivial⟩
              · have h := h.2 c
                refine V_iconst (v := 1) (pc := 108) dX12_isHomeless_108 rfl ?_
                refine V_goto (tgt := 113) (pc := 109) dX12_isHomeless_109 rfl ?_
                refine V_istore_n (pc := 113) dX12_isHomeless_113 (by decide) ?_
                refine V_lv (lv2 := [(0, .ref (G.2.1 0)), (1, .int v1), (2, .int 1), (3, .int 1), (4, .int v4), (5, .int 1)]) rfl ?_
                refine V_iinc (pc := 114) dX12_isHomeless_114 rfl (by decide) ?_
                refine V_lv (lv2 := [(0, .ref (G.2.1 0)), (1, .int v1), (2, .int 1), (3, .int 1), (4, .int (v4 + 1)), (5, .int 1)]) rfl ?_
                refine V_goto (tgt := 7) (pc := 117) dX12_isHomeless_117 rfl ?_
                exact V_sub h ⟨rfl, rfl, rfl, rfl, rfl, trivial⟩
        · have h := h.2 c
          refine V_iload (pc := 58) dX12_isHomeless_58 rfl ?_
          refine V_if_eq (tgt := 67) (pc := 60) dX12_isHomeless_60 rfl (fun c => ?_) (fun c => ?_)
          · exact absurd c (by decide)
          · skip
            refine V_iconst (v := 1) (pc := 63) dX12_isHomeless_63 rfl ?_
            refine V_goto (tgt := 68) (pc := 64) dX12_isHomeless_64 rfl ?_
            refine V_istore_n (pc := 68) dX12_isHomeless_68 (by decide) ?_
            refine V_lv (lv2 := [(0, .ref (G.2.1 0)), (1, .int v1), (2, .int 1), (3, .int v3), (4, .int v4), (5, .int 1)]) rfl ?_
            refine V_iload_n (pc := 69) dX12_isHomeless_69 rfl ?_
            refine V_if_ne (tgt := 108) (pc := 70) dX12_isHomeless_70 rfl (fun c => ?_) (fun c => ?_)
            · have h := h.1 c
              refine V_iconst (v := 1) (pc := 108) dX12_isHomeless_108 rfl ?_
              refine V_goto (tgt := 113) (pc := 109) dX12_isHomeless_109 rfl ?_
              refine V_istore_n (pc := 113) dX12_isHomeless_113 (by decide) ?_
              refine V_lv (lv2 := [(0, .ref (G.2.1 0)), (1, .int v1), (2, .int 1), (3, .int 1), (4, .int v4), (5, .int 1)]) rfl ?_
              refine V_iinc (pc := 114) dX12_isHomeless_114 rfl (by decide) ?_
              refine V_lv (lv2 := [(0, .ref (G.2.1 0)), (1, .int v1), (2, .int 1), (3, .int 1), (4, .int (v4 + 1)), (5, .int 1)]) rfl ?_
              refine V_goto (tgt := 7) (pc := 117) dX12_isHomeless_117 rfl ?_
              exact V_sub h ⟨rfl, rfl, rfl, rfl, rfl, trivial⟩
            · have h := h.2 c
              refine V_iload (pc := 73) dX12_isHomeless_73 rfl ?_
              refine V_if_eq (tgt := 112) (pc := 75) dX12_isHomeless_75 rfl (fun c => ?_) (fun c => ?_)
              · exact absurd c (by decide)
              · skip
                refine V_aload_n (pc := 78) dX12_isHomeless_78 rfl ?_
                refine V_iload_n (pc := 79) dX12_isHomeless_79 rfl ?_
                refine V_callVi [.int v1] (pc := 80) kX12_gathered lX12_246 sM0 rfl rfl (Nat.le_of_ble_eq_true rfl) rfl (Nat.le_of_ble_eq_true rfl) dX12_isHomeless_80 ?_
                refine Ci.mono h ?_
                intro x4 M4 h
                refine V_i2l (pc := 83) dX12_isHomeless_83 ?_
                refine V_aload_n (pc := 84) dX12_isHomeless_84 rfl ?_
                refine V_getR (pc := 85) fX12_71 sM0 rfl dX12_isHomeless_85 ?_
                refine V_iload (pc := 88) dX12_isHomeless_88 rfl ?_
                refine V_iald (pc := 90) sM21 dX12_isHomeless_90 h.1 ?_
                have h := h.2
                refine V_i2l (pc := 91) dX12_isHomeless_91 ?_
                refine V_aload_n (pc := 92) dX12_isHomeless_92 rfl ?_
                refine V_getR (pc := 93) fX12_74 sM0 rfl dX12_isHomeless_93 ?_
                refine V_iload (pc := 96) dX12_isHomeless_96 rfl ?_
                refine V_iald (pc := 98) sM22 dX12_isHomeless_98 h.1 ?_
                have h := h.2
                refine V_iconst (v := 1) (pc := 99) dX12_isHomeless_99 rfl ?_
                refine V_isub (pc := 100) dX12_isHomeless_100 ?_
                refine V_i2l (pc := 101) dX12_isHomeless_101 ?_
                refine V_callSi [.long (Int32.toInt64 x4), .long (Int32.toInt64 (M4.1 21 (ix v4))), .long (Int32.toInt64 ((M4.1 22 (ix v4)) - 1))] (pc := 102) kX12_in lX12_118 rfl (Nat.le_of_ble_eq_true rfl) rfl (Nat.le_of_ble_eq_true rfl) dX12_isHomeless_102 ?_
                refine Ci.mono h ?_
                intro x5 M5 h
                refine V_if_eq (tgt := 112) (pc := 105) dX12_isHomeless_105 rfl (fun c => ?_) (fun c => ?_)
                · have h := h.1 c
                  refine V_iconst (v := 0) (pc := 112) dX12_isHomeless_112 rfl ?_
                  refine V_istore_n (pc := 113) dX12_isHomeless_113 (by decide) ?_
                  refine V_lv (lv2 := [(0, .ref (G.2.1 0)), (1, .int v1), (2, .int 1), (3, .int 0), (4, .int v4), (5, .int 1)]) rfl ?_
                  refine V_iinc (pc := 114) dX12_isHomeless_114 rfl (by decide) ?_
                  refine V_lv (lv2 := [(0, .ref (G.2.1 0)), (1, .int v1), (2, .int 1), (3, .int 0), (4, .int (v4 + 1)), (5, .int 1)]) rfl ?_
                  refine V_goto (tgt := 7) (pc := 117) dX12_isHomeless_117 rfl ?_
                  exact V_sub h ⟨rfl, rfl, rfl, rfl, rfl, trivial⟩
                · have h := h.2 c
                  refine V_iconst (v := 1) (pc := 108) dX12_isHomeless_108 rfl ?_
                  refine V_goto (tgt := 113) (pc := 109) dX12_isHomeless_109 rfl ?_
                  refine V_istore_n (pc := 113) dX12_isHomeless_113 (by decide) ?_
                  refine V_lv (lv2 := [(0, .ref (G.2.1 0)), (1, .int v1), (2, .int 1), (3, .int 1), (4, .int v4), (5, .int 1)]) rfl ?_
                  refine V_iinc (pc := 114) dX12_isHomeless_114 rfl (by decide) ?_
                  refine V_lv (lv2 := [(0, .ref (G.2.1 0)), (1, .int v1), (2, .int 1), (3, .int 1), (4, .int (v4 + 1)), (5, .int 1)]) rfl ?_
                  refine V_goto (tgt := 7) (pc := 117) dX12_isHomeless_117 rfl ?_
                  exact V_sub h ⟨rfl, rfl, rfl, rfl, rfl, trivial⟩
theorem wp_X12_isLike {G : GV} {k : Nat} {M : Mem} {q : Int32 → Mem → Prop} {v1 : Int32} {v2 : Int32} (h : Ci shM G mX12_earOf (k + 1) [.ref (G.2.1 0), .int v1] M (fun x1 M1 => Ci shM G mX12_earOf (k + 1) [.ref (G.2.1 0), .int v2] M1 (fun x2 M2 => ((x1 = x2 → q 1 M2) ∧ (¬ x1 = x2 → Ci shM G mX12_handOf (k + 1) [.ref (G.2.1 0), .int v1, .int v2] M2 (fun x3 M3 => ((2 ≤ x3 → q 0 M3) ∧ (¬ 2 ≤ x3 → q 1 M3)))))))) : Ci shM G mX12_isLike (k + 2) [.ref (G.2.1 0), .int v1, .int v2] M q := by
  unfold Ci
  show V _ _ _ _ _ [(0, .ref (G.2.1 0)), (1, .int v1), (2, .int v2)] _ _ _
  refine V_aload_n (pc := 0) dX12_isLike_0 rfl ?_
  refine V_iload_n (pc := 1) dX12_isLike_1 rfl ?_
  refine V_callVi [.int v1] (pc := 2) kX12_earOf lX12_276 sM0 rfl rfl (Nat.le_of_ble_eq_true rfl) rfl (Nat.le_of_ble_eq_true rfl) dX12_isLike_2 ?_
  refine Ci.mono h ?_
  intro x1 M1 h
  refine V_aload_n (pc := 5) dX12_isLike_5 rfl ?_
  refine V_iload_n (pc := 6) dX12_isLike_6 rfl ?_
  refine V_callVi [.int v2] (pc := 7) kX12_earOf lX12_276 sM0 rfl rfl (Nat.le_of_ble_eq_true rfl) rfl (Nat.le_of_ble_eq_true rfl) dX12_isLike_7 ?_
  refine Ci.mono h ?_
  intro x2 M2 h
  refine V_icmp_eq (tgt := 23) (pc := 10) dX12_isLike_10 rfl (fun c => ?_) (fun c => ?_)
  · have h := h.1 c
    refine V_iconst (v := 1) (pc := 23) dX12_isLike_23 rfl ?_
    refine V_goto (tgt := 28) (pc := 24) dX12_isLike_24 rfl ?_
    exact V_zret dX12_isLike_28 rfl (Or.inr rfl) h
  · have h := h.2 c
    refine V_aload_n (pc := 13) dX12_isLike_13 rfl ?_
    refine V_iload_n (pc := 14) dX12_isLike_14 rfl ?_
    refine V_iload_n (pc := 15) dX12_isLike_15 rfl ?_
    refine V_callVi [.int v1, .int v2] (pc := 16) kX12_handOf lX12_283 sM0 rfl rfl (Nat.le_of_ble_eq_true rfl) rfl (Nat.le_of_ble_eq_true rfl) dX12_isLike_16 ?_
    refine Ci.mono h ?_
    intro x3 M3 h
    refine V_iconst (v := 2) (pc := 19) dX12_isLike_19 rfl ?_
    refine V_icmp_ge (tgt := 27) (pc := 20) dX12_isLike_20 rfl (fun c => ?_) (fun c => ?_)
    · have h := h.1 c
      refine V_iconst (v := 0) (pc := 27) dX12_isLike_27 rfl ?_
      exact V_zret dX12_isLike_28 rfl (Or.inl rfl) h
    · have h := h.2 c
      refine V_iconst (v := 1) (pc := 23) dX12_isLike_23 rfl ?_
      refine V_goto (tgt := 28) (pc := 24) dX12_isLike_24 rfl ?_
      exact V_zret dX12_isLike_28 rfl (Or.inr rfl) h
theorem wp_X12_isOneDoor {G : GV} {k : Nat} {M : Mem} {q : Int32 → Mem → Prop} {v1 : Int32} {v2 : Int32} (h : vp_in v1 12 ∧ vp_in v2 12 ∧ (((M.1 10 (ix v1)) ≠ (M.1 10 (ix v2)) → q 0 M) ∧ ((M.1 10 (ix v1)) = (M.1 10 (ix v2)) → Ci shM G mX12_doorOf (k + 1) [.ref (G.2.1 0), .int v1] M (fun x1 M1 => Ci shM G mX12_doorOf (k + 1) [.ref (G.2.1 0), .int v2] M1 (fun x2 M2 => ((x1 ≠ x2 → q 0 M2) ∧ (x1 = x2 → q 1 M2))))))) : Ci shM G mX12_isOneDoor (k + 2) [.ref (G.2.1 0), .int v1, .int v2] M q := by
  unfold Ci
  show V _ _ _ _ _ [(0, .ref (G.2.1 0)), (1, .int v1), (2, .int v2)] _ _ _
  refine V_aload_n (pc := 0) dX12_isOneDoor_0 rfl ?_
  refine V_getR (pc := 1) fX12_38 sM0 rfl dX12_isOneDoor_1 ?_
  refine V_iload_n (pc := 4) dX12_isOneDoor_4 rfl ?_
  refine V_iald (pc := 5) sM10 dX12_isOneDoor_5 h.1 ?_
  have h := h.2
  refine V_aload_n (pc := 6) dX12_isOneDoor_6 rfl ?_
  refine V_getR (pc := 7) fX12_38 sM0 rfl dX12_isOneDoor_7 ?_
  refine V_iload_n (pc := 10) dX12_isOneDoor_10 rfl ?_
  refine V_iald (pc := 11) sM10 dX12_isOneDoor_11 h.1 ?_
  have h := h.2
  refine V_icmp_ne (tgt := 32) (pc := 12) dX12_isOneDoor_12 rfl (fun c => ?_) (fun c => ?_)
  · have h := h.1 c
    refine V_iconst (v := 0) (pc := 32) dX12_isOneDoor_32 rfl ?_
    exact V_zret dX12_isOneDoor_33 rfl (Or.inl rfl) h
  · have h := h.2 c
    refine V_aload_n (pc := 15) dX12_isOneDoor_15 rfl ?_
    refine V_iload_n (pc := 16) dX12_isOneDoor_16 rfl ?_
    refine V_callVi [.int v1] (pc := 17) kX12_doorOf lX12_252 sM0 rfl rfl (Nat.le_of_ble_eq_true rfl) rfl (Nat.le_of_ble_eq_true rfl) dX12_isOneDoor_17 ?_
    refine Ci.mono h ?_
    intro x1 M1 h
    refine V_aload_n (pc := 20) dX12_isOneDoor_20 rfl ?_
    refine V_iload_n (pc := 21) dX12_isOneDoor_21 rfl ?_
    refine V_callVi [.int v2] (pc := 22) kX12_doorOf lX12_252 sM0 rfl rfl (Nat.le_of_ble_eq_true rfl) rfl (Nat.le_of_ble_eq_true rfl) dX12_isOneDoor_22 ?_
    refine Ci.mono h ?_
    intro x2 M2 h
    refine V_icmp_ne (tgt := 32) (pc := 25) dX12_isOneDoor_25 rfl (fun c => ?_) (fun c => ?_)
    · have h := h.1 c
      refine V_iconst (v := 0) (pc := 32) dX12_isOneDoor_32 rfl ?_
      exact V_zret dX12_isOneDoor_33 rfl (Or.inl rfl) h
    · have h := h.2 c
      refine V_iconst (v := 1) (pc := 28) dX12_isOneDoor_28 rfl ?_
      refine V_goto (tgt := 33) (pc := 29) dX12_isOneDoor_29 rfl ?_
      exact V_zret dX12_isOneDoor_33 rfl (Or.inr rfl) h
theorem wp_X12_kind {G : GV} {k : Nat} {M : Mem} {q : Int32 → Mem → Prop} {v1 : Int32} (h : Ci shM G mX12_isLine (k + 1) [.ref (G.2.1 0), .int v1] (mset M 0 0 0) (fun x1 M1 => ((x1 = 0 → q (-1000001) M1) ∧ (¬ x1 = 0 → vp_in v1 12 ∧ q ((M1.1 9 (ix v1)) + 1) M1)))) : Ci shM G mX12_kind (k + 2) [.ref (G.2.1 0), .int v1] M q := by
  unfold Ci
  show V _ _ _ _ _ [(0, .ref (G.2.1 0)), (1, .int v1)] _ _ _
  refine V_aload_n (pc := 0) dX12_kind_0 rfl ?_
  refine V_iconst (v := 0) (pc := 1) dX12_kind_1 rfl ?_
  refine V_putI (pc := 2) fX12_108 p12_0 sM0 rfl dX12_kind_2 ?_
  refine V_aload_n (pc := 5) dX12_kind_5 rfl ?_
  refine V_iload_n (pc := 6) dX12_kind_6 rfl ?_
  refine V_callVi [.int v1] (pc := 7) kX12_isLine lX12_255 sM0 rfl rfl (Nat.le_of_ble_eq_true rfl) rfl (Nat.le_of_ble_eq_true rfl) dX12_kind_7 ?_
  refine Ci.mono h ?_
  intro x1 M1 h
  refine V_if_eq (tgt := 24) (pc := 10) dX12_kind_10 rfl (fun c => ?_) (fun c => ?_)
  · have h := h.1 c
    refine V_ldc (pc := 24) dX12_kind_24 nX12_128 ?_
    exact V_iret dX12_kind_26 rfl h
  · have h := h.2 c
    refine V_aload_n (pc := 13) dX12_kind_13 rfl ?_
    refine V_getR (pc := 14) fX12_35 sM0 rfl dX12_kind_14 ?_
    refine V_iload_n (pc := 17) dX12_kind_17 rfl ?_
    refine V_iald (pc := 18) sM9 dX12_kind_18 h.1 ?_
    have h := h.2
    refine V_iconst (v := 1) (pc := 19) dX12_kind_19 rfl ?_
    refine V_iadd (pc := 20) dX12_kind_20 ?_
    refine V_goto (tgt := 26) (pc := 21) dX12_kind_21 rfl ?_
    exact V_iret dX12_kind_26 rfl h
theorem wp_X12_leaf {G : GV} {k : Nat} {M : Mem} {q : Int32 → Mem → Prop} {v1 : Int32} {v2 : Int32} (h : Ci shM G mX12_isBook (k + 1) [.ref (G.2.1 0), .int v1] (mset M 0 0 0) (fun x1 M1 => ((x1 = 0 → q (-1000001) M1) ∧ (¬ x1 = 0 → Ci shM G mX12_in (k + 1) [.long (Int32.toInt64 v2), .long 0, .long 1] M1 (fun x2 M2 => ((x2 ≠ 0 → vp_in v1 10 ∧ (((M2.1 7 (ix v1)) = 0 → ((v2 ≠ 1 → vp_in v1 10 ∧ q 0 (mset M2 7 (ix v1) (vp_nar .boolean 0))) ∧ (v2 = 1 → vp_in v1 10 ∧ q 0 (mset M2 7 (ix v1) (vp_nar .boolean 1))))) ∧ (¬ (M2.1 7 (ix v1)) = 0 → ((v2 ≠ 1 → vp_in v1 10 ∧ q 1 (mset M2 7 (ix v1) (vp_nar .boolean 0))) ∧ (v2 = 1 → vp_in v1 10 ∧ q 1 (mset M2 7 (ix v1) (vp_nar .boolean 1))))))) ∧ (x2 = 0 → q (-1000001) M2))))))) : Ci shM G mX12_leaf (k + 2) [.ref (G.2.1 0), .int v1, .int v2] M q := by
  unfold Ci
  show V _ _ _ _ _ [(0, .ref (G.2.1 0)), (1, .int v1), (2, .int v2)] _ _ _
  refine V_aload_n (pc := 0) dX12_leaf_0 rfl ?_
  refine V_iconst (v := 0) (pc := 1) dX12_leaf_1 rfl ?_
  refine V_putI (pc := 2) fX12_108 p12_0 sM0 rfl dX12_leaf_2 ?_
  refine V_aload_n (pc := 5) dX12_leaf_5 rfl ?_
  refine V_iload_n (pc := 6) dX12_leaf_6 rfl ?_
  refine V_callVi [.int v1] (pc := 7) kX12_isBook lX12_337 sM0 rfl rfl (Nat.le_of_ble_eq_true rfl) rfl (Nat.le_of_ble_eq_true rfl) dX12_leaf_7 ?_
  refine Ci.mono h ?_
  intro x1 M1 h
  refine V_if_eq (tgt := 23) (pc := 10) dX12_leaf_10 rfl (fun c => ?_) (fun c => ?_)
  · have h := h.1 c
    refine V_ldc (pc := 23) dX12_leaf_23 nX12_128 ?_
    exact V_iret dX12_leaf_25 rfl h
  · have h := h.2 c
    refine V_iload_n (pc := 13) dX12_leaf_13 rfl ?_
    refine V_i2l (pc := 14) dX12_leaf_14 ?_
    refine V_lconst (v := 0) (pc := 15) dX12_leaf_15 rfl ?_
    refine V_lconst (v := 1) (pc := 16) dX12_leaf_16 rfl ?_
    refine V_callSi [.long (Int32.toInt64 v2), .long 0, .long 1] (pc := 17) kX12_in lX12_118 rfl (Nat.le_of_ble_eq_true rfl) rfl (Nat.le_of_ble_eq_true rfl) dX12_leaf_17 ?_
    refine Ci.mono h ?_
    intro x2 M2 h
    refine V_if_ne (tgt := 26) (pc := 20) dX12_leaf_20 rfl (fun c => ?_) (fun c => ?_)
    · have h := h.1 c
      refine V_aload_n (pc := 26) dX12_leaf_26 rfl ?_
      refine V_getR (pc := 27) fX12_28 sM0 rfl dX12_leaf_27 ?_
      refine V_iload_n (pc := 30) dX12_leaf_30 rfl ?_
      refine V_zald (pc := 31) sM7 dX12_leaf_31 h.1 ?_
      have h := h.2
      refine V_if_eq (tgt := 39) (pc := 32) dX12_leaf_32 rfl (fun c => ?_) (fun c => ?_)
      · have h := h.1 c
        refine V_iconst (v := 0) (pc := 39) dX12_leaf_39 rfl ?_
        refine V_istore_n (pc := 40) dX12_leaf_40 (by decide) ?_
        refine V_lv (lv2 := [(0, .ref (G.2.1 0)), (1, .int v1), (2, .int v2), (3, .int 0)]) rfl ?_
        refine V_aload_n (pc := 41) dX12_leaf_41 rfl ?_
        refine V_getR (pc := 42) fX12_28 sM0 rfl dX12_leaf_42 ?_
        refine V_iload_n (pc := 45) dX12_leaf_45 rfl ?_
        refine V_iload_n (pc := 46) dX12_leaf_46 rfl ?_
        refine V_iconst (v := 1) (pc := 47) dX12_leaf_47 rfl ?_
        refine V_icmp_ne (tgt := 55) (pc := 48) dX12_leaf_48 rfl (fun c => ?_) (fun c => ?_)
        · have h := h.1 c
          refine V_iconst (v := 0) (pc := 55) dX12_leaf_55 rfl ?_
          refine V_zast (pc := 56) sM7 dX12_leaf_56 h.1 ?_
          have h := h.2
          refine V_iload_n (pc := 57) dX12_leaf_57 rfl ?_
          exact V_iret dX12_leaf_58 rfl h
        · have h := h.2 c
          refine V_iconst (v := 1) (pc := 51) dX12_leaf_51 rfl ?_
          refine V_goto (tgt := 56) (pc := 52) dX12_leaf_52 rfl ?_
          refine V_zast (pc := 56) sM7 dX12_leaf_56 h.1 ?_
          have h := h.2
          refine V_iload_n (pc := 57) dX12_leaf_57 rfl ?_
          exact V_iret dX12_leaf_58 rfl h
      · have h := h.2 c
        refine V_iconst (v := 1) (pc := 35) dX12_leaf_35 rfl ?_
        refine V_goto (tgt := 40) (pc := 36) dX12_leaf_36 rfl ?_
        refine V_istore_n (pc := 40) dX12_leaf_40 (by decide) ?_
        refine V_lv (lv2 := [(0, .ref (G.2.1 0)), (1, .int v1), (2, .int v2), (3, .int 1)]) rfl ?_
        refine V_aload_n (pc := 41) dX12_leaf_41 rfl ?_
        refine V_getR (pc := 42) fX12_28 sM0 rfl dX12_leaf_42 ?_
        refine V_iload_n (pc := 45) dX12_leaf_45 rfl ?_
        refine V_iload_n (pc := 46) dX12_leaf_46 rfl ?_
        refine V_iconst (v := 1) (pc := 47) dX12_leaf_47 rfl ?_
        refine V_icmp_ne (tgt := 55) (pc := 48) dX12_leaf_48 rfl (fun c => ?_) (fun c => ?_)
        · have h := h.1 c
          refine V_iconst (v := 0) (pc := 55) dX12_leaf_55 rfl ?_
          refine V_zast (pc := 56) sM7 dX12_leaf_56 h.1 ?_
          have h := h.2
          refine V_iload_n (pc := 57) dX12_leaf_57 rfl ?_
          exact V_iret dX12_leaf_58 rfl h
        · have h := h.2 c
          refine V_iconst (v := 1) (pc := 51) dX12_leaf_51 rfl ?_
          refine V_goto (tgt := 56) (pc := 52) dX12_leaf_52 rfl ?_
          refine V_zast (pc := 56) sM7 dX12_leaf_56 h.1 ?_
          have h := h.2
          refine V_iload_n (pc := 57) dX12_leaf_57 rfl ?_
          exact V_iret dX12_leaf_58 rfl h
    · have h := h.2 c
      refine V_ldc (pc := 23) dX12_leaf_23 nX12_128 ?_
      exact V_iret dX12_leaf_25 rfl h
