theorem wp_X2_noneStands {G : GV} {k : Nat} {M : Mem} {q : Int32 → Mem → Prop} {v1 : Int32} {v2 : Int32} {v3 : Int32} (h : V shC G mX2_noneStands k 6 [(0, .ref (G.2.1 5)), (1, .int v1), (2, .int v2), (3, .int v3), (4, .int 0), (5, .int 0)] [] M (Qi q)) : Ci shC G mX2_noneStands k [.ref (G.2.1 5), .int v1, .int v2, .int v3] M q := by
  unfold Ci
  show V _ _ _ _ _ [(0, .ref (G.2.1 5)), (1, .int v1), (2, .int v2), (3, .int v3)] _ _ _
  refine V_iconst (v := 0) (pc := 0) dX2_noneStands_0 rfl ?_
  refine V_istore (pc := 1) dX2_noneStands_1 (by decide) ?_
  refine V_lv (lv2 := [(0, .ref (G.2.1 5)), (1, .int v1), (2, .int v2), (3, .int v3), (4, .int 0)]) rfl ?_
  refine V_iconst (v := 0) (pc := 3) dX2_noneStands_3 rfl ?_
  refine V_istore (pc := 4) dX2_noneStands_4 (by decide) ?_
  refine V_lv (lv2 := [(0, .ref (G.2.1 5)), (1, .int v1), (2, .int v2), (3, .int v3), (4, .int 0), (5, .int 0)]) rfl ?_
  exact V_sub h ⟨rfl, rfl, rfl, rfl, rfl, rfl, trivial⟩
theorem wp_X2_noneStands_6 {G : GV} {k : Nat} {M : Mem} {q : Int32 → Mem → Prop} {v1 : Int32} {v2 : Int32} {v3 : Int32} {v4 : Int32} {v5 : Int32} (h : (((M.1 5 4) ≤ v5 → (v4 = 0 ∨ v4 = 1) ∧ q v4 M) ∧ (¬ (M.1 5 4) ≤ v5 → vp_in v5 20 ∧ (((M.1 24 (ix v5)) ≠ v1 → V shC G mX2_noneStands k 6 [(0, .ref (G.2.1 5)), (1, .int v1), (2, .int v2), (3, .int v3), (4, .int v4), (5, .int (v5 + 1))] [] M (Qi q)) ∧ ((M.1 24 (ix v5)) = v1 → vp_in v5 20 ∧ (((M.1 25 (ix v5)) = v2 → vp_in v5 20 ∧ ((v3 < (M.1 26 (ix v5)) → V shC G mX2_noneStands k 6 [(0, .ref (G.2.1 5)), (1, .int v1), (2, .int v2), (3, .int v3), (4, .int 1), (5, .int (v5 + 1))] [] M (Qi q)) ∧ (¬ v3 < (M.1 26 (ix v5)) → vp_in v5 20 ∧ (((M.1 27 (ix v5)) ≤ v3 → V shC G mX2_noneStands k 6 [(0, .ref (G.2.1 5)), (1, .int v1), (2, .int v2), (3, .int v3), (4, .int 1), (5, .int (v5 + 1))] [] M (Qi q)) ∧ (¬ (M.1 27 (ix v5)) ≤ v3 → q 0 M))))) ∧ (¬ (M.1 25 (ix v5)) = v2 → V shC G mX2_noneStands k 6 [(0, .ref (G.2.1 5)), (1, .int v1), (2, .int v2), (3, .int v3), (4, .int v4), (5, .int (v5 + 1))] [] M (Qi q)))))))) : V shC G mX2_noneStands k 6 [(0, .ref (G.2.1 5)), (1, .int v1), (2, .int v2), (3, .int v3), (4, .int v4), (5, .int v5)] [] M (Qi q) := by
  refine V_iload (pc := 6) dX2_noneStands_6 rfl ?_
  refine V_aload_n (pc := 8) dX2_noneStands_8 rfl ?_
  refine V_getI (pc := 9) fX2_28 sC5 rfl dX2_noneStands_9 ?_
  refine V_icmp_ge (tgt := 73) (pc := 12) dX2_noneStands_12 rfl (fun c => ?_) (fun c => ?_)
  · have h := h.1 c
    refine V_iload (pc := 73) dX2_noneStands_73 rfl ?_
    exact V_zret dX2_noneStands_75 rfl h.1 h.2
  · have h := h.2 c
    refine V_aload_n (pc := 15) dX2_noneStands_15 rfl ?_
    refine V_getR (pc := 16) fX2_9 sC5 rfl dX2_noneStands_16 ?_
    refine V_iload (pc := 19) dX2_noneStands_19 rfl ?_
    refine V_iald (pc := 21) sC24 dX2_noneStands_21 h.1 ?_
    have h := h.2
    refine V_iload_n (pc := 22) dX2_noneStands_22 rfl ?_
    refine V_icmp_ne (tgt := 67) (pc := 23) dX2_noneStands_23 rfl (fun c => ?_) (fun c => ?_)
    · have h := h.1 c
      refine V_iinc (pc := 67) dX2_noneStands_67 rfl (by decide) ?_
      refine V_lv (lv2 := [(0, .ref (G.2.1 5)), (1, .int v1), (2, .int v2), (3, .int v3), (4, .int v4), (5, .int (v5 + 1))]) rfl ?_
      refine V_goto (tgt := 6) (pc := 70) dX2_noneStands_70 rfl ?_
      exact V_sub h ⟨rfl, rfl, rfl, rfl, rfl, rfl, trivial⟩
    · have h := h.2 c
      refine V_aload_n (pc := 26) dX2_noneStands_26 rfl ?_
      refine V_getR (pc := 27) fX2_15 sC5 rfl dX2_noneStands_27 ?_
      refine V_iload (pc := 30) dX2_noneStands_30 rfl ?_
      refine V_iald (pc := 32) sC25 dX2_noneStands_32 h.1 ?_
      have h := h.2
      refine V_iload_n (pc := 33) dX2_noneStands_33 rfl ?_
      refine V_icmp_eq (tgt := 40) (pc := 34) dX2_noneStands_34 rfl (fun c => ?_) (fun c => ?_)
      · have h := h.1 c
        refine V_aload_n (pc := 40) dX2_noneStands_40 rfl ?_
        refine V_getR (pc := 41) fX2_18 sC5 rfl dX2_noneStands_41 ?_
        refine V_iload (pc := 44) dX2_noneStands_44 rfl ?_
        refine V_iald (pc := 46) sC26 dX2_noneStands_46 h.1 ?_
        have h := h.2
        refine V_iload_n (pc := 47) dX2_noneStands_47 rfl ?_
        refine V_icmp_gt (tgt := 64) (pc := 48) dX2_noneStands_48 rfl (fun c => ?_) (fun c => ?_)
        · have h := h.1 c
          refine V_iconst (v := 1) (pc := 64) dX2_noneStands_64 rfl ?_
          refine V_istore (pc := 65) dX2_noneStands_65 (by decide) ?_
          refine V_lv (lv2 := [(0, .ref (G.2.1 5)), (1, .int v1), (2, .int v2), (3, .int v3), (4, .int 1), (5, .int v5)]) rfl ?_
          refine V_iinc (pc := 67) dX2_noneStands_67 rfl (by decide) ?_
          refine V_lv (lv2 := [(0, .ref (G.2.1 5)), (1, .int v1), (2, .int v2), (3, .int v3), (4, .int 1), (5, .int (v5 + 1))]) rfl ?_
          refine V_goto (tgt := 6) (pc := 70) dX2_noneStands_70 rfl ?_
          exact V_sub h ⟨rfl, rfl, rfl, rfl, rfl, rfl, trivial⟩
        · have h := h.2 c
          refine V_iload_n (pc := 51) dX2_noneStands_51 rfl ?_
          refine V_aload_n (pc := 52) dX2_noneStands_52 rfl ?_
          refine V_getR (pc := 53) fX2_21 sC5 rfl dX2_noneStands_53 ?_
          refine V_iload (pc := 56) dX2_noneStands_56 rfl ?_
          refine V_iald (pc := 58) sC27 dX2_noneStands_58 h.1 ?_
          have h := h.2
          refine V_icmp_ge (tgt := 64) (pc := 59) dX2_noneStands_59 rfl (fun c => ?_) (fun c => ?_)
          · have h := h.1 c
            refine V_iconst (v := 1) (pc := 64) dX2_noneStands_64 rfl ?_
            refine V_istore (pc := 65) dX2_noneStands_65 (by decide) ?_
            refine V_lv (lv2 := [(0, .ref (G.2.1 5)), (1, .int v1), (2, .int v2), (3, .int v3), (4, .int 1), (5, .int v5)]) rfl ?_
            refine V_iinc (pc := 67) dX2_noneStands_67 rfl (by decide) ?_
            refine V_lv (lv2 := [(0, .ref (G.2.1 5)), (1, .int v1), (2, .int v2), (3, .int v3), (4, .int 1), (5, .int (v5 + 1))]) rfl ?_
            refine V_goto (tgt := 6) (pc := 70) dX2_noneStands_70 rfl ?_
            exact V_sub h ⟨rfl, rfl, rfl, rfl, rfl, rfl, trivial⟩
          · have h := h.2 c
            refine V_iconst (v := 0) (pc := 62) dX2_noneStands_62 rfl ?_
            exact V_zret dX2_noneStands_63 rfl (Or.inl rfl) h
      · have h := h.2 c
        refine V_goto (tgt := 67) (pc := 37) dX2_noneStands_37 rfl ?_
        refine V_iinc (pc := 67) dX2_noneStands_67 rfl (by decide) ?_
        refine V_lv (lv2 := [(0, .ref (G.2.1 5)), (1, .int v1), (2, .int v2), (3, .int v3), (4, .int v4), (5, .int (v5 + 1))]) rfl ?_
        refine V_goto (tgt := 6) (pc := 70) dX2_noneStands_70 rfl ?_
        exact V_sub h ⟨rfl, rfl, rfl, rfl, rfl, rfl, trivial⟩
theorem wp_X2_tell {G : GV} {k : Nat} {M : Mem} {q : Mem → Prop} {v1 : Int32} {v2 : Int32} {v3 : Int32} {v4 : Int32} (h : (((M.1 5 5) < 20 → vp_in (M.1 5 5) 20 ∧ vp_in (M.1 5 5) 20 ∧ vp_in (M.1 5 5) 20 ∧ vp_in (M.1 5 5) 20 ∧ q (mset (mset (mset (mset (mset M 24 (ix (M.1 5 5)) v1) 25 (ix (M.1 5 5)) v2) 26 (ix (M.1 5 5)) v3) 27 (ix (M.1 5 5)) v4) 5 5 ((M.1 5 5) + 1))) ∧ (¬ (M.1 5 5) < 20 → q M))) : Cv shC G mX2_tell k [.ref (G.2.1 5), .int v1, .int v2, .int v3, .int v4] M q := by
  unfold Cv
  show V _ _ _ _ _ [(0, .ref (G.2.1 5)), (1, .int v1), (2, .int v2), (3, .int v3), (4, .int v4)] _ _ _
  refine V_aload_n (pc := 0) dX2_tell_0 rfl ?_
  refine V_getI (pc := 1) fX2_24 sC5 rfl dX2_tell_1 ?_
  refine V_bipush (v := 20) (pc := 4) dX2_tell_4 rfl ?_
  refine V_icmp_lt (tgt := 10) (pc := 6) dX2_tell_6 rfl (fun c => ?_) (fun c => ?_)
  · have h := h.1 c
    refine V_aload_n (pc := 10) dX2_tell_10 rfl ?_
    refine V_getR (pc := 11) fX2_9 sC5 rfl dX2_tell_11 ?_
    refine V_aload_n (pc := 14) dX2_tell_14 rfl ?_
    refine V_getI (pc := 15) fX2_24 sC5 rfl dX2_tell_15 ?_
    refine V_iload_n (pc := 18) dX2_tell_18 rfl ?_
    refine V_iast (pc := 19) sC24 dX2_tell_19 h.1 ?_
    have h := h.2
    refine V_aload_n (pc := 20) dX2_tell_20 rfl ?_
    refine V_getR (pc := 21) fX2_15 sC5 rfl dX2_tell_21 ?_
    refine V_aload_n (pc := 24) dX2_tell_24 rfl ?_
    refine V_getI (pc := 25) fX2_24 sC5 rfl dX2_tell_25 ?_
    refine V_top (v := (M.1 5 5)) (by simp [mset, lset, upd]) ?_
    refine V_iload_n (pc := 28) dX2_tell_28 rfl ?_
    refine V_iast (pc := 29) sC25 dX2_tell_29 h.1 ?_
    have h := h.2
    refine V_aload_n (pc := 30) dX2_tell_30 rfl ?_
    refine V_getR (pc := 31) fX2_18 sC5 rfl dX2_tell_31 ?_
    refine V_aload_n (pc := 34) dX2_tell_34 rfl ?_
    refine V_getI (pc := 35) fX2_24 sC5 rfl dX2_tell_35 ?_
    refine V_top (v := (M.1 5 5)) (by simp [mset, lset, upd]) ?_
    refine V_iload_n (pc := 38) dX2_tell_38 rfl ?_
    refine V_iast (pc := 39) sC26 dX2_tell_39 h.1 ?_
    have h := h.2
    refine V_aload_n (pc := 40) dX2_tell_40 rfl ?_
    refine V_getR (pc := 41) fX2_21 sC5 rfl dX2_tell_41 ?_
    refine V_aload_n (pc := 44) dX2_tell_44 rfl ?_
    refine V_getI (pc := 45) fX2_24 sC5 rfl dX2_tell_45 ?_
    refine V_top (v := (M.1 5 5)) (by simp [mset, lset, upd]) ?_
    refine V_iload (pc := 48) dX2_tell_48 rfl ?_
    refine V_iast (pc := 50) sC27 dX2_tell_50 h.1 ?_
    have h := h.2
    refine V_aload_n (pc := 51) dX2_tell_51 rfl ?_
    refine V_dup (pc := 52) dX2_tell_52 rfl ?_
    refine V_getI (pc := 53) fX2_24 sC5 rfl dX2_tell_53 ?_
    refine V_top (v := (M.1 5 5)) (by simp [mset, lset, upd]) ?_
    refine V_iconst (v := 1) (pc := 56) dX2_tell_56 rfl ?_
    refine V_iadd (pc := 57) dX2_tell_57 ?_
    refine V_putI (pc := 58) fX2_24 p2_5 sC5 rfl dX2_tell_58 ?_
    exact V_vret dX2_tell_61 rfl h
  · have h := h.2 c
    exact V_vret dX2_tell_9 rfl h
