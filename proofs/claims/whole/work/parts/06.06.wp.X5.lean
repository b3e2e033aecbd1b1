theorem wp_X5_areLike {G : GV} {k : Nat} {M : Mem} {q : Int32 → Mem → Prop} {v1 : Int32} {v2 : Int32} (h : vp_in v1 12 ∧ (((((M.1 37 (ix v1)) >>> (v2 &&& 31)) &&& 1) ≠ 1 → q 0 M) ∧ ((((M.1 37 (ix v1)) >>> (v2 &&& 31)) &&& 1) = 1 → q 1 M))) : Ci shC G mX5_areLike k [.ref (G.2.1 7), .int v1, .int v2] M q := by
  unfold Ci
  show V _ _ _ _ _ [(0, .ref (G.2.1 7)), (1, .int v1), (2, .int v2)] _ _ _
  refine V_aload_n (pc := 0) dX5_areLike_0 rfl ?_
  refine V_getR (pc := 1) fX5_18 sC7 rfl dX5_areLike_1 ?_
  refine V_iload_n (pc := 4) dX5_areLike_4 rfl ?_
  refine V_iald (pc := 5) sC37 dX5_areLike_5 h.1 ?_
  have h := h.2
  refine V_iload_n (pc := 6) dX5_areLike_6 rfl ?_
  refine V_ishr (pc := 7) dX5_areLike_7 ?_
  refine V_iconst (v := 1) (pc := 8) dX5_areLike_8 rfl ?_
  refine V_iand (pc := 9) dX5_areLike_9 ?_
  refine V_iconst (v := 1) (pc := 10) dX5_areLike_10 rfl ?_
  refine V_icmp_ne (tgt := 18) (pc := 11) dX5_areLike_11 rfl (fun c => ?_) (fun c => ?_)
  · have h := h.1 c
    refine V_iconst (v := 0) (pc := 18) dX5_areLike_18 rfl ?_
    exact V_zret dX5_areLike_19 rfl (Or.inl rfl) h
  · have h := h.2 c
    refine V_iconst (v := 1) (pc := 14) dX5_areLike_14 rfl ?_
    refine V_goto (tgt := 19) (pc := 15) dX5_areLike_15 rfl ?_
    exact V_zret dX5_areLike_19 rfl (Or.inr rfl) h
theorem wp_X5_letter {G : GV} {k : Nat} {M : Mem} {q : Int32 → Mem → Prop} {v1 : Int32} {v2 : Int32} (h : vp_in ((v1 * 8) + v2) 96 ∧ q (M.1 35 (ix ((v1 * 8) + v2))) M) : Ci shC G mX5_letter k [.ref (G.2.1 7), .int v1, .int v2] M q := by
  unfold Ci
  show V _ _ _ _ _ [(0, .ref (G.2.1 7)), (1, .int v1), (2, .int v2)] _ _ _
  refine V_aload_n (pc := 0) dX5_letter_0 rfl ?_
  refine V_getR (pc := 1) fX5_9 sC7 rfl dX5_letter_1 ?_
  refine V_iload_n (pc := 4) dX5_letter_4 rfl ?_
  refine V_bipush (v := 8) (pc := 5) dX5_letter_5 rfl ?_
  refine V_imul (pc := 7) dX5_letter_7 ?_
  refine V_iload_n (pc := 8) dX5_letter_8 rfl ?_
  refine V_iadd (pc := 9) dX5_letter_9 ?_
  refine V_iald (pc := 10) sC35 dX5_letter_10 h.1 ?_
  have h := h.2
  exact V_iret dX5_letter_11 rfl h
theorem wp_X5_hand {G : GV} {k : Nat} {M : Mem} {q : Int32 → Mem → Prop} {v1 : Int32} {v2 : Int32} (h : V shC G mX5_hand (k + 1) 2 [(0, .ref (G.2.1 7)), (1, .int v1), (2, .int v2), (3, .int 0)] [] M (Qi q)) : Ci shC G mX5_hand (k + 1) [.ref (G.2.1 7), .int v1, .int v2] M q := by
  unfold Ci
  show V _ _ _ _ _ [(0, .ref (G.2.1 7)), (1, .int v1), (2, .int v2)] _ _ _
  refine V_iconst (v := 0) (pc := 0) dX5_hand_0 rfl ?_
  refine V_istore_n (pc := 1) dX5_hand_1 (by decide) ?_
  refine V_lv (lv2 := [(0, .ref (G.2.1 7)), (1, .int v1), (2, .int v2), (3, .int 0)]) rfl ?_
  exact V_sub h ⟨rfl, rfl, rfl, rfl, trivial⟩
theorem wp_X5_hand_2 {G : GV} {k : Nat} {M : Mem} {q : Int32 → Mem → Prop} {v1 : Int32} {v2 : Int32} {v3 : Int32} (h : vp_in v2 12 ∧ (((M.1 38 (ix v2)) < v3 → V shC G mX5_hand (k + 1) 27 [(0, .ref (G.2.1 7)), (1, .int v1), (2, .int v2), (3, .int 1)] [] M (Qi q)) ∧ (¬ (M.1 38 (ix v2)) < v3 → vp_in v3 9 ∧ V shC G mX5_hand (k + 1) 2 [(0, .ref (G.2.1 7)), (1, .int v1), (2, .int v2), (3, .int (v3 + 1))] [] (mset M 36 (ix v3) v3) (Qi q)))) : V shC G mX5_hand (k + 1) 2 [(0, .ref (G.2.1 7)), (1, .int v1), (2, .int v2), (3, .int v3)] [] M (Qi q) := by
  refine V_iload_n (pc := 2) dX5_hand_2 rfl ?_
  refine V_aload_n (pc := 3) dX5_hand_3 rfl ?_
  refine V_getR (pc := 4) fX5_21 sC7 rfl dX5_hand_4 ?_
  refine V_iload_n (pc := 7) dX5_hand_7 rfl ?_
  refine V_iald (pc := 8) sC38 dX5_hand_8 h.1 ?_
  have h := h.2
  refine V_icmp_gt (tgt := 25) (pc := 9) dX5_hand_9 rfl (fun c => ?_) (fun c => ?_)
  · have h := h.1 c
    refine V_iconst (v := 1) (pc := 25) dX5_hand_25 rfl ?_
    refine V_istore_n (pc := 26) dX5_hand_26 (by decide) ?_
    refine V_lv (lv2 := [(0, .ref (G.2.1 7)), (1, .int v1), (2, .int v2), (3, .int 1)]) rfl ?_
    exact V_sub h ⟨rfl, rfl, rfl, rfl, trivial⟩
  · have h := h.2 c
    refine V_aload_n (pc := 12) dX5_hand_12 rfl ?_
    refine V_getR (pc := 13) fX5_15 sC7 rfl dX5_hand_13 ?_
    refine V_iload_n (pc := 16) dX5_hand_16 rfl ?_
    refine V_iload_n (pc := 17) dX5_hand_17 rfl ?_
    refine V_iast (pc := 18) sC36 dX5_hand_18 h.1 ?_
    have h := h.2
    refine V_iinc (pc := 19) dX5_hand_19 rfl (by decide) ?_
    refine V_lv (lv2 := [(0, .ref (G.2.1 7)), (1, .int v1), (2, .int v2), (3, .int (v3 + 1))]) rfl ?_
    refine V_goto (tgt := 2) (pc := 22) dX5_hand_22 rfl ?_
    exact V_sub h ⟨rfl, rfl, rfl, rfl, trivial⟩
theorem wp_X5_hand_27 {G : GV} {k : Nat} {M : Mem} {q : Int32 → Mem → Prop} {v1 : Int32} {v2 : Int32} {v3 : Int32} (h : vp_in v1 12 ∧ (((M.1 38 (ix v1)) < v3 → vp_in v2 12 ∧ vp_in (M.1 38 (ix v2)) 9 ∧ q (M.1 36 (ix (M.1 38 (ix v2)))) M) ∧ (¬ (M.1 38 (ix v1)) < v3 → vp_in 0 9 ∧ vp_in 0 9 ∧ V shC G mX5_hand (k + 1) 55 [(0, .ref (G.2.1 7)), (1, .int v1), (2, .int v2), (3, .int v3), (4, .int (M.1 36 (ix 0))), (5, .int 1)] [] (mset M 36 (ix 0) v3) (Qi q)))) : V shC G mX5_hand (k + 1) 27 [(0, .ref (G.2.1 7)), (1, .int v1), (2, .int v2), (3, .int v3)] [] M (Qi q) := by
  refine V_iload_n (pc := 27) dX5_hand_27 rfl ?_
  refine V_aload_n (pc := 28) dX5_hand_28 rfl ?_
  refine V_getR (pc := 29) fX5_21 sC7 rfl dX5_hand_29 ?_
  refine V_iload_n (pc := 32) dX5_hand_32 rfl ?_
  refine V_iald (pc := 33) sC38 dX5_hand_33 h.1 ?_
  have h := h.2
  refine V_icmp_gt (tgt := 150) (pc := 34) dX5_hand_34 rfl (fun c => ?_) (fun c => ?_)
  · have h := h.1 c
    refine V_aload_n (pc := 150) dX5_hand_150 rfl ?_
    refine V_getR (pc := 151) fX5_15 sC7 rfl dX5_hand_151 ?_
    refine V_aload_n (pc := 154) dX5_hand_154 rfl ?_
    refine V_getR (pc := 155) fX5_21 sC7 rfl dX5_hand_155 ?_
    refine V_iload_n (pc := 158) dX5_hand_158 rfl ?_
    refine V_iald (pc := 159) sC38 dX5_hand_159 h.1 ?_
    have h := h.2
    refine V_iald (pc := 160) sC36 dX5_hand_160 h.1 ?_
    have h := h.2
    exact V_iret dX5_hand_161 rfl h
  · have h := h.2 c
    refine V_aload_n (pc := 37) dX5_hand_37 rfl ?_
    refine V_getR (pc := 38) fX5_15 sC7 rfl dX5_hand_38 ?_
    refine V_iconst (v := 0) (pc := 41) dX5_hand_41 rfl ?_
    refine V_iald (pc := 42) sC36 dX5_hand_42 h.1 ?_
    have h := h.2
    refine V_istore (pc := 43) dX5_hand_43 (by decide) ?_
    refine V_lv (lv2 := [(0, .ref (G.2.1 7)), (1, .int v1), (2, .int v2), (3, .int v3), (4, .int (M.1 36 (ix 0)))]) rfl ?_
    refine V_aload_n (pc := 45) dX5_hand_45 rfl ?_
    refine V_getR (pc := 46) fX5_15 sC7 rfl dX5_hand_46 ?_
    refine V_iconst (v := 0) (pc := 49) dX5_hand_49 rfl ?_
    refine V_iload_n (pc := 50) dX5_hand_50 rfl ?_
    refine V_iast (pc := 51) sC36 dX5_hand_51 h.1 ?_
    have h := h.2
    refine V_iconst (v := 1) (pc := 52) dX5_hand_52 rfl ?_
    refine V_istore (pc := 53) dX5_hand_53 (by decide) ?_
    refine V_lv (lv2 := [(0, .ref (G.2.1 7)), (1, .int v1), (2, .int v2), (3, .int v3), (4, .int (M.1 36 (ix 0))), (5, .int 1)]) rfl ?_
    exact V_sub h ⟨rfl, rfl, rfl, rfl, rfl, rfl, trivial⟩
theorem wp_X5_hand_55 {G : GV} {k : Nat} {M : Mem} {q : Int32 → Mem → Prop} {v1 : Int32} {v2 : Int32} {v3 : Int32} {v4 : Int32} {v5 : Int32} (h : vp_in v2 12 ∧ (((M.1 38 (ix v2)) < v5 → V shC G mX5_hand (k + 1) 27 [(0, .ref (G.2.1 7)), (1, .int v1), (2, .int v2), (3, .int (v3 + 1))] [] M (Qi q)) ∧ (¬ (M.1 38 (ix v2)) < v5 → vp_in v5 9 ∧ Ci shC G mX5_letter k [.ref (G.2.1 7), .int v1, .int (v3 - 1)] M (fun x1 M1 => Ci shC G mX5_letter k [.ref (G.2.1 7), .int v2, .int (v5 - 1)] M1 (fun x2 M2 => ((x1 ≠ x2 → vp_in (v5 - 1) 9 ∧ vp_in v5 9 ∧ V shC G mX5_hand (k + 1) 55 [(0, .ref (G.2.1 7)), (1, .int v1), (2, .int v2), (3, .int v3), (4, .int (M.1 36 (ix v5))), (5, .int (v5 + 1))] [] (mset M2 36 (ix v5) (if ((if (M2.1 36 (ix (v5 - 1))) < (M.1 36 (ix v5)) then (M2.1 36 (ix (v5 - 1))) else (M.1 36 (ix v5))) + 1) < (v4 + 1) then ((if (M2.1 36 (ix (v5 - 1))) < (M.1 36 (ix v5)) then (M2.1 36 (ix (v5 - 1))) else (M.1 36 (ix v5))) + 1) else (v4 + 1))) (Qi q)) ∧ (x1 = x2 → vp_in (v5 - 1) 9 ∧ vp_in v5 9 ∧ V shC G mX5_hand (k + 1) 55 [(0, .ref (G.2.1 7)), (1, .int v1), (2, .int v2), (3, .int v3), (4, .int (M.1 36 (ix v5))), (5, .int (v5 + 1))] [] (mset M2 36 (ix v5) (if ((if (M2.1 36 (ix (v5 - 1))) < (M.1 36 (ix v5)) then (M2.1 36 (ix (v5 - 1))) else (M.1 36 (ix v5))) + 1) < v4 then ((if (M2.1 36 (ix (v5 - 1))) < (M.1 36 (ix v5)) then (M2.1 36 (ix (v5 - 1))) else (M.1 36 (ix v5))) + 1) else v4)) (Qi q)))))))) : V shC G mX5_hand (k + 1) 55 [(0, .ref (G.2.1 7)), (1, .int v1), (2, .int v2), (3, .int v3), (4, .int v4), (5, .int v5)] [] M (Qi q) := by
  refine V_iload (pc := 55) dX5_hand_55 rfl ?_
  refine V_aload_n (pc := 57) dX5_hand_57 rfl ?_
  refine V_getR (pc := 58) fX5_21 sC7 rfl dX5_hand_58 ?_
  refine V_iload_n (pc := 61) dX5_hand_61 rfl ?_
  refine V_iald (pc := 62) sC38 dX5_hand_62 h.1 ?_
  have h := h.2
  refine V_icmp_gt (tgt := 144) (pc := 63) dX5_hand_63 rfl (fun c => ?_) (fun c => ?_)
  · have h := h.1 c
    refine V_iinc (pc := 144) dX5_hand_144 rfl (by decide) ?_
    refine V_lv (lv2 := [(0, .ref (G.2.1 7)), (1, .int v1), (2, .int v2), (3, .int (v3 + 1)), (4, .int v4), (5, .int v5)]) rfl ?_
    refine V_goto (tgt := 27) (pc := 147) dX5_hand_147 rfl ?_
    exact V_sub h ⟨rfl, rfl, rfl, rfl, trivial⟩
  · have h := h.2 c
    refine V_aload_n (pc := 66) dX5_hand_66 rfl ?_
    refine V_getR (pc := 67) fX5_15 sC7 rfl dX5_hand_67 ?_
    refine V_iload (pc := 70) dX5_hand_70 rfl ?_
    refine V_iald (pc := 72) sC36 dX5_hand_72 h.1 ?_
    have h := h.2
    refine V_istore (pc := 73) dX5_hand_73 (by decide) ?_
    refine V_lv (lv2 := [(0, .ref (G.2.1 7)), (1, .int v1), (2, .int v2), (3, .int v3), (4, .int v4), (5, .int v5), (6, .int (M.1 36 (ix v5)))]) rfl ?_
    refine V_aload_n (pc := 75) dX5_hand_75 rfl ?_
    refine V_iload_n (pc := 76) dX5_hand_76 rfl ?_
    refine V_iload_n (pc := 77) dX5_hand_77 rfl ?_
    refine V_iconst (v := 1) (pc := 78) dX5_hand_78 rfl ?_
    refine V_isub (pc := 79) dX5_hand_79 ?_
    refine V_callVi [.int v1, .int (v3 - 1)] (pc := 80) kX5_letter lX5_48 sC7 rfl rfl (Nat.le_of_ble_eq_true rfl) rfl (Nat.le_of_ble_eq_true rfl) dX5_hand_80 ?_
    refine Ci.mono h ?_
    intro x1 M1 h
    refine V_aload_n (pc := 83) dX5_hand_83 rfl ?_
    refine V_iload_n (pc := 84) dX5_hand_84 rfl ?_
    refine V_iload (pc := 85) dX5_hand_85 rfl ?_
    refine V_iconst (v := 1) (pc := 87) dX5_hand_87 rfl ?_
    refine V_isub (pc := 88) dX5_hand_88 ?_
    refine V_callVi [.int v2, .int (v5 - 1)] (pc := 89) kX5_letter lX5_48 sC7 rfl rfl (Nat.le_of_ble_eq_true rfl) rfl (Nat.le_of_ble_eq_true rfl) dX5_hand_89 ?_
    refine Ci.mono h ?_
    intro x2 M2 h
    refine V_icmp_ne (tgt := 100) (pc := 92) dX5_hand_92 rfl (fun c => ?_) (fun c => ?_)
    · have h := h.1 c
      refine V_iload (pc := 100) dX5_hand_100 rfl ?_
      refine V_iconst (v := 1) (pc := 102) dX5_hand_102 rfl ?_
      refine V_iadd (pc := 103) dX5_hand_103 ?_
      refine V_istore (pc := 104) dX5_hand_104 (by decide) ?_
      refine V_lv (lv2 := [(0, .ref (G.2.1 7)), (1, .int v1), (2, .int v2), (3, .int v3), (4, .int v4), (5, .int v5), (6, .int (M.1 36 (ix v5))), (7, .int (v4 + 1))]) rfl ?_
      refine V_aload_n (pc := 106) dX5_hand_106 rfl ?_
      refine V_getR (pc := 107) fX5_15 sC7 rfl dX5_hand_107 ?_
      refine V_iload (pc := 110) dX5_hand_110 rfl ?_
      refine V_iload (pc := 112) dX5_hand_112 rfl ?_
      refine V_iload (pc := 114) dX5_hand_114 rfl ?_
      refine V_aload_n (pc := 116) dX5_hand_116 rfl ?_
      refine V_getR (pc := 117) fX5_15 sC7 rfl dX5_hand_117 ?_
      refine V_iload (pc := 120) dX5_hand_120 rfl ?_
      refine V_iconst (v := 1) (pc := 122) dX5_hand_122 rfl ?_
      refine V_isub (pc := 123) dX5_hand_123 ?_
      refine V_iald (pc := 124) sC36 dX5_hand_124 h.1 ?_
      have h := h.2
      refine V_mmin (pc := 125) dX5_hand_125 lX5_32 (Nat.le_of_ble_eq_true rfl) ?_
      refine V_iconst (v := 1) (pc := 128) dX5_hand_128 rfl ?_
      refine V_iadd (pc := 129) dX5_hand_129 ?_
      refine V_mmin (pc := 130) dX5_hand_130 lX5_32 (Nat.le_of_ble_eq_true rfl) ?_
      refine V_iast (pc := 133) sC36 dX5_hand_133 h.1 ?_
      have h := h.2
      refine V_iload (pc := 134) dX5_hand_134 rfl ?_
      refine V_istore (pc := 136) dX5_hand_136 (by decide) ?_
      refine V_lv (lv2 := [(0, .ref (G.2.1 7)), (1, .int v1), (2, .int v2), (3, .int v3), (4, .int (M.1 36 (ix v5))), (5, .int v5), (6, .int (M.1 36 (ix v5))), (7, .int (v4 + 1))]) rfl ?_
      refine V_iinc (pc := 138) dX5_hand_138 rfl (by decide) ?_
      refine V_lv (lv2 := [(0, .ref (G.2.1 7)), (1, .int v1), (2, .int v2), (3, .int v3), (4, .int (M.1 36 (ix v5))), (5, .int (v5 + 1)), (6, .int (M.1 36 (ix v5))), (7, .int (v4 + 1))]) rfl ?_
      refine V_goto (tgt := 55) (pc := 141) dX5_hand_141 rfl ?_
      exact V_sub h ⟨rfl, rfl, rfl, rfl, rfl, rfl, trivial⟩
    · have h := h.2 c
      refine V_iload (pc := 95) dX5_hand_95 rfl ?_
      refine V_goto (tgt := 104) (pc := 97) dX5_hand_97 rfl ?_
      refine V_istore (pc := 104) dX5_hand_104 (by decide) ?_
      refine V_lv (lv2 := [(0, .ref (G.2.1 7)), (1, .int v1), (2, .int v2), (3, .int v3), (4, .int v4), (5, .int v5), (6, .int (M.1 36 (ix v5))), (7, .int v4)]) rfl ?_
      refine V_aload_n (pc := 106) dX5_hand_106 rfl ?_
      refine V_getR (pc := 107) fX5_15 sC7 rfl dX5_hand_107 ?_
      refine V_iload (pc := 110) dX5_hand_110 rfl ?_
      refine V_iload (pc := 112) dX5_hand_112 rfl ?_
      refine V_iload (pc := 114) dX5_hand_114 rfl ?_
      refine V_aload_n (pc := 116) dX5_hand_116 rfl ?_
      refine V_getR (pc := 117) fX5_15 sC7 rfl dX5_hand_117 ?_
      refine V_iload (pc := 120) dX5_hand_120 rfl ?_
      refine V_iconst (v := 1) (pc := 122) dX5_hand_122 rfl ?_
      refine V_isub (pc := 123) dX5_hand_123 ?_
      refine V_iald (pc := 124) sC36 dX5_hand_124 h.1 ?_
      have h := h.2
      refine V_mmin (pc := 125) dX5_hand_125 lX5_32 (Nat.le_of_ble_eq_true rfl) ?_
      refine V_iconst (v := 1) (pc := 128) dX5_hand_128 rfl ?_
      refine V_iadd (pc := 129) dX5_hand_129 ?_
      refine V_mmin (pc := 130) dX5_hand_130 lX5_32 (Nat.le_of_ble_eq_true rfl) ?_
      refine V_iast (pc := 133) sC36 dX5_hand_133 h.1 ?_
      have h := h.2
      refine V_iload (pc := 134) dX5_hand_134 rfl ?_
      refine V_istore (pc := 136) dX5_hand_136 (by decide) ?_
      refine V_lv (lv2 := [(0, .ref (G.2.1 7)), (1, .int v1), (2, .int v2), (3, .int v3), (4, .int (M.1 36 (ix v5))), (5, .int v5), (6, .int (M.1 36 (ix v5))), (7, .int v4)]) rfl ?_
      refine V_iinc (pc := 138) dX5_hand_138 rfl (by decide) ?_
      refine V_lv (lv2 := [(0, .ref (G.2.1 7)), (1, .int v1), (2, .int v2), (3, .int v3), (4, .int (M.1 36 (ix v5))), (5, .int (v5 + 1)), (6, .int (M.1 36 (ix v5))), (7, .int v4)]) rfl ?_
      refine V_goto (tgt := 55) (pc := 141) dX5_hand_141 rfl ?_
      exact V_sub h ⟨rfl, rfl, rfl, rfl, rfl, rfl, trivial⟩
theorem wp_X5_tell {G : GV} {k : Nat} {M : Mem} {q : Mem → Prop} {v1 : Int32} (h : ((v1 < 0 → q M) ∧ (¬ v1 < 0 → ((v1 < 12 → Ci shC G mX10_letters k [.ref (G.2.1 2)] M (fun x1 M1 => vp_in v1 12 ∧ V shC G mX5_tell (k + 1) 28 [(0, .ref (G.2.1 7)), (1, .int v1), (2, .ref (G.2.1 2)), (3, .int 0)] [] (mset M1 38 (ix v1) (if 8 < x1 then 8 else x1)) (Qv q))) ∧ (¬ v1 < 12 → q M))))) : Cv shC G mX5_tell (k + 1) [.ref (G.2.1 7), .int v1, .ref (G.2.1 2)] M q := by
  unfold Cv
  show V _ _ _ _ _ [(0, .ref (G.2.1 7)), (1, .int v1), (2, .ref (G.2.1 2))] _ _ _
  refine V_iload_n (pc := 0) dX5_tell_0 rfl ?_
  refine V_if_lt (tgt := 10) (pc := 1) dX5_tell_1 rfl (fun c => ?_) (fun c => ?_)
  · have h := h.1 c
    exact V_vret dX5_tell_10 rfl h
  · have h := h.2 c
    refine V_iload_n (pc := 4) dX5_tell_4 rfl ?_
    refine V_bipush (v := 12) (pc := 5) dX5_tell_5 rfl ?_
    refine V_icmp_lt (tgt := 11) (pc := 7) dX5_tell_7 rfl (fun c => ?_) (fun c => ?_)
    · have h := h.1 c
      refine V_aload_n (pc := 11) dX5_tell_11 rfl ?_
      refine V_getR (pc := 12) fX5_21 sC7 rfl dX5_tell_12 ?_
      refine V_iload_n (pc := 15) dX5_tell_15 rfl ?_
      refine V_aload_n (pc := 16) dX5_tell_16 rfl ?_
      refine V_callVi [] (pc := 17) kX10_letters lX5_27 sC2 rfl rfl (Nat.le_of_ble_eq_true rfl) rfl (Nat.le_of_ble_eq_true rfl) dX5_tell_17 ?_
      refine Ci.mono h ?_
      intro x1 M1 h
      refine V_bipush (v := 8) (pc := 20) dX5_tell_20 rfl ?_
      refine V_mmin (pc := 22) dX5_tell_22 lX5_32 (Nat.le_of_ble_eq_true rfl) ?_
      refine V_iast (pc := 25) sC38 dX5_tell_25 h.1 ?_
      have h := h.2
      refine V_iconst (v := 0) (pc := 26) dX5_tell_26 rfl ?_
      refine V_istore_n (pc := 27) dX5_tell_27 (by decide) ?_
      refine V_lv (lv2 := [(0, .ref (G.2.1 7)), (1, .int v1), (2, .ref (G.2.1 2)), (3, .int 0)]) rfl ?_
      exact V_sub h ⟨rfl, rfl, rfl, rfl, trivial⟩
    · have h := h.2 c
      exact V_vret dX5_tell_10 rfl h
theorem wp_X5_tell_28 {G : GV} {k : Nat} {M : Mem} {q : Mem → Prop} {v1 : Int32} {v3 : Int32} (h : vp_in v1 12 ∧ (((M.1 38 (ix v1)) ≤ v3 → q M) ∧ (¬ (M.1 38 (ix v1)) ≤ v3 → Ci shC G mX10_letter k [.ref (G.2.1 2), .int v3] M (fun x1 M1 => vp_in ((v1 * 8) + v3) 96 ∧ V shC G mX5_tell (k + 1) 28 [(0, .ref (G.2.1 7)), (1, .int v1), (2, .ref (G.2.1 2)), (3, .int (v3 + 1))] [] (mset M1 35 (ix ((v1 * 8) + v3)) x1) (Qv q))))) : V shC G mX5_tell (k + 1) 28 [(0, .ref (G.2.1 7)), (1, .int v1), (2, .ref (G.2.1 2)), (3, .int v3)] [] M (Qv q) := by
  refine V_iload_n (pc := 28) dX5_tell_28 rfl ?_
  refine V_aload_n (pc := 29) dX5_tell_29 rfl ?_
  refine V_getR (pc := 30) fX5_21 sC7 rfl dX5_tell_30 ?_
  refine V_iload_n (pc := 33) dX5_tell_33 rfl ?_
  refine V_iald (pc := 34) sC38 dX5_tell_34 h.1 ?_
  have h := h.2
  refine V_icmp_ge (tgt := 60) (pc := 35) dX5_tell_35 rfl (fun c => ?_) (fun c => ?_)
  · have h := h.1 c
    exact V_vret dX5_tell_60 rfl h
  · have h := h.2 c
    refine V_aload_n (pc := 38) dX5_tell_38 rfl ?_
    refine V_getR (pc := 39) fX5_9 sC7 rfl dX5_tell_39 ?_
    refine V_iload_n (pc := 42) dX5_tell_42 rfl ?_
    refine V_bipush (v := 8) (pc := 43) dX5_tell_43 rfl ?_
    refine V_imul (pc := 45) dX5_tell_45 ?_
    refine V_iload_n (pc := 46) dX5_tell_46 rfl ?_
    refine V_iadd (pc := 47) dX5_tell_47 ?_
    refine V_aload_n (pc := 48) dX5_tell_48 rfl ?_
    refine V_iload_n (pc := 49) dX5_tell_49 rfl ?_
    refine V_callVi [.int v3] (pc := 50) kX10_letter lX5_38 sC2 rfl rfl (Nat.le_of_ble_eq_true rfl) rfl (Nat.le_of_ble_eq_true rfl) dX5_tell_50 ?_
    refine Ci.mono h ?_
    intro x1 M1 h
    refine V_iast (pc := 53) sC35 dX5_tell_53 h.1 ?_
    have h := h.2
    refine V_iinc (pc := 54) dX5_tell_54 rfl (by decide) ?_
    refine V_lv (lv2 := [(0, .ref (G.2.1 7)), (1, .int v1), (2, .ref (G.2.1 2)), (3, .int (v3 + 1))]) rfl ?_
    refine V_goto (tgt := 28) (pc := 57) dX5_tell_57 rfl ?_
    exact V_sub h ⟨rfl, rfl, rfl, rfl, trivial⟩
theorem wp_X5_earOf {G : GV} {k : Nat} {M : Mem} {q : Int32 → Mem → Prop} {v1 : Int32} (h : Ci shC G mX5_letter (k + 1) [.ref (G.2.1 7), .int v1, .int 0] M (fun x1 M1 => V shC G mX5_earOf (k + 2) 15 [(0, .ref (G.2.1 7)), (1, .int v1), (2, .int x1), (3, .int 0), (4, .int 0), (5, .int 1)] [] M1 (Qi q))) : Ci shC G mX5_earOf (k + 2) [.ref (G.2.1 7), .int v1] M q := by
  unfold Ci
  show V _ _ _ _ _ [(0, .ref (G.2.1 7)), (1, .int v1)] _ _ _
  refine V_aload_n (pc := 0) dX5_earOf_0 rfl ?_
  refine V_iload_n (pc := 1) dX5_earOf_1 rfl ?_
  refine V_iconst (v := 0) (pc := 2) dX5_earOf_2 rfl ?_
  refine V_callVi [.int v1, .int 0] (pc := 3) kX5_letter lX5_48 sC7 rfl rfl (Nat.le_of_ble_eq_true rfl) rfl (Nat.le_of_ble_eq_true rfl) dX5_earOf_3 ?_
  refine Ci.mono h ?_
  intro x1 M1 h
  refine V_istore_n (pc := 6) dX5_earOf_6 (by decide) ?_
  refine V_lv (lv2 := [(0, .ref (G.2.1 7)), (1, .int v1), (2, .int x1)]) rfl ?_
  refine V_iconst (v := 0) (pc := 7) dX5_earOf_7 rfl ?_
  refine V_istore_n (pc := 8) dX5_earOf_8 (by decide) ?_
  refine V_lv (lv2 := [(0, .ref (G.2.1 7)), (1, .int v1), (2, .int x1), (3, .int 0)]) rfl ?_
  refine V_iconst (v := 0) (pc := 9) dX5_earOf_9 rfl ?_
  refine V_istore (pc := 10) dX5_earOf_10 (by decide) ?_
  refine V_lv (lv2 := [(0, .ref (G.2.1 7)), (1, .int v1), (2, .int x1), (3, .int 0), (4, .int 0)]) rfl ?_
  refine V_iconst (v := 1) (pc := 12) dX5_earOf_12 rfl ?_
  refine V_istore (pc := 13) dX5_earOf_13 (by decide) ?_
  refine V_lv (lv2 := [(0, .ref (G.2.1 7)), (1, .int v1), (2, .int x1), (3, .int 0), (4, .int 0), (5, .int 1)]) rfl ?_
  exact V_sub h ⟨rfl, rfl, rfl, rfl, rfl, rfl, trivial⟩
theorem wp_X5_earOf_15 {G : GV} {k : Nat} {M : Mem} {q : Int32 → Mem → Prop} {v1 : Int32} {v2 : Int32} {v3 : Int32} {v4 : Int32} {v5 : Int32} (h : vp_in v1 12 ∧ (((M.1 38 (ix v1)) ≤ v5 → V shC G mX5_earOf (k + 2) 79 [(0, .ref (G.2.1 7)), (1, .int v1), (2, .int v2), (3, .int v3), (4, .int v4), (5, .int v5)] [] M (Qi q)) ∧ (¬ (M.1 38 (ix v1)) ≤ v5 → ((3 ≤ v3 → V shC G mX5_earOf (k + 2) 79 [(0, .ref (G.2.1 7)), (1, .int v1), (2, .int v2), (3, .int v3), (4, .int v4), (5, .int v5)] [] M (Qi q)) ∧ (¬ 3 ≤ v3 → Ci shC G mX5_letter (k + 1) [.ref (G.2.1 7), .int v1, .int v5] M (fun x1 M1 => Ci shC G mX5_codeOf (k + 1) [.int x1] M1 (fun x2 M2 => ((x2 = 0 → V shC G mX5_earOf (k + 2) 15 [(0, .ref (G.2.1 7)), (1, .int v1), (2, .int v2), (3, .int v3), (4, .int v4), (5, .int (v5 + 1))] [] M2 (Qi q)) ∧ (¬ x2 = 0 → ((x2 ≠ v4 → V shC G mX5_earOf (k + 2) 15 [(0, .ref (G.2.1 7)), (1, .int v1), (2, .int ((10 * v2) + x2)), (3, .int (v3 + 1)), (4, .int x2), (5, .int (v5 + 1))] [] M2 (Qi q)) ∧ (x2 = v4 → V shC G mX5_earOf (k + 2) 15 [(0, .ref (G.2.1 7)), (1, .int v1), (2, .int v2), (3, .int v3), (4, .int v4), (5, .int (v5 + 1))] [] M2 (Qi q)))))))))))) : V shC G mX5_earOf (k + 2) 15 [(0, .ref (G.2.1 7)), (1, .int v1), (2, .int v2), (3, .int v3), (4, .int v4), (5, .int v5)] [] M (Qi q) := by
  refine V_iload (pc := 15) dX5_earOf_15 rfl ?_
  refine V_aload_n (pc := 17) dX5_earOf_17 rfl ?_
  refine V_getR (pc := 18) fX5_21 sC7 rfl dX5_earOf_18 ?_
  refine V_iload_n (pc := 21) dX5_earOf_21 rfl ?_
  refine V_iald (pc := 22) sC38 dX5_earOf_22 h.1 ?_
  have h := h.2
  refine V_icmp_ge (tgt := 79) (pc := 23) dX5_earOf_23 rfl (fun c => ?_) (fun c => ?_)
  · have h := h.1 c
    exact V_sub h ⟨rfl, rfl, rfl, rfl, rfl, rfl, trivial⟩
  · have h := h.2 c
    refine V_iload_n (pc := 26) dX5_earOf_26 rfl ?_
    refine V_iconst (v := 3) (pc := 27) dX5_earOf_27 rfl ?_
    refine V_icmp_ge (tgt := 79) (pc := 28) dX5_earOf_28 rfl (fun c => ?_) (fun c => ?_)
    · have h := h.1 c
      exact V_sub h ⟨rfl, rfl, rfl, rfl, rfl, rfl, trivial⟩
    · have h := h.2 c
      refine V_aload_n (pc := 31) dX5_earOf_31 rfl ?_
      refine V_iload_n (pc := 32) dX5_earOf_32 rfl ?_
      refine V_iload (pc := 33) dX5_earOf_33 rfl ?_
      refine V_callVi [.int v1, .int v5] (pc := 35) kX5_letter lX5_48 sC7 rfl rfl (Nat.le_of_ble_eq_true rfl) rfl (Nat.le_of_ble_eq_true rfl) dX5_earOf_35 ?_
      refine Ci.mono h ?_
      intro x1 M1 h
      refine V_callSi [.int x1] (pc := 38) kX5_codeOf lX5_50 rfl (Nat.le_of_ble_eq_true rfl) rfl (Nat.le_of_ble_eq_true rfl) dX5_earOf_38 ?_
      refine Ci.mono h ?_
      intro x2 M2 h
      refine V_istore (pc := 41) dX5_earOf_41 (by decide) ?_
      refine V_lv (lv2 := [(0, .ref (G.2.1 7)), (1, .int v1), (2, .int v2), (3, .int v3), (4, .int v4), (5, .int v5), (6, .int x2)]) rfl ?_
      refine V_iload (pc := 43) dX5_earOf_43 rfl ?_
      refine V_if_eq (tgt := 73) (pc := 45) dX5_earOf_45 rfl (fun c => ?_) (fun c => ?_)
      · have h := h.1 c
        refine V_iinc (pc := 73) dX5_earOf_73 rfl (by decide) ?_
        refine V_lv (lv2 := [(0, .ref (G.2.1 7)), (1, .int v1), (2, .int v2), (3, .int v3), (4, .int v4), (5, .int (v5 + 1)), (6, .int x2)]) rfl ?_
        refine V_goto (tgt := 15) (pc := 76) dX5_earOf_76 rfl ?_
        exact V_sub h ⟨rfl, rfl, rfl, rfl, rfl, rfl, trivial⟩
      · have h := h.2 c
        refine V_iload (pc := 48) dX5_earOf_48 rfl ?_
        refine V_iload (pc := 50) dX5_earOf_50 rfl ?_
        refine V_icmp_ne (tgt := 58) (pc := 52) dX5_earOf_52 rfl (fun c => ?_) (fun c => ?_)
        · have h := h.1 c
          refine V_bipush (v := 10) (pc := 58) dX5_earOf_58 rfl ?_
          refine V_iload_n (pc := 60) dX5_earOf_60 rfl ?_
          refine V_imul (pc := 61) dX5_earOf_61 ?_
          refine V_iload (pc := 62) dX5_earOf_62 rfl ?_
          refine V_iadd (pc := 64) dX5_earOf_64 ?_
          refine V_istore_n (pc := 65) dX5_earOf_65 (by decide) ?_
          refine V_lv (lv2 := [(0, .ref (G.2.1 7)), (1, .int v1), (2, .int ((10 * v2) + x2)), (3, .int v3), (4, .int v4), (5, .int v5), (6, .int x2)]) rfl ?_
          refine V_iload (pc := 66) dX5_earOf_66 rfl ?_
          refine V_istore (pc := 68) dX5_earOf_68 (by decide) ?_
          refine V_lv (lv2 := [(0, .ref (G.2.1 7)), (1, .int v1), (2, .int ((10 * v2) + x2)), (3, .int v3), (4, .int x2), (5, .int v5), (6, .int x2)]) rfl ?_
          refine V_iinc (pc := 70) dX5_earOf_70 rfl (by decide) ?_
          refine V_lv (lv2 := [(0, .ref (G.2.1 7)), (1, .int v1), (2, .int ((10 * v2) + x2)), (3, .int (v3 + 1)), (4, .int x2), (5, .int v5), (6, .int x2)]) rfl ?_
          refine V_iinc (pc := 73) dX5_earOf_73 rfl (by decide) ?_
          refine V_lv (lv2 := [(0, .ref (G.2.1 7)), (1, .int v1), (2, .int ((10 * v2) + x2)), (3, .int (v3 + 1)), (4, .int x2), (5, .int (v5 + 1)), (6, .int x2)]) rfl ?_
          refine V_goto (tgt := 15) (pc := 76) dX5_earOf_76 rfl ?_
          exact V_sub h ⟨rfl, rfl, rfl, rfl, rfl, rfl, trivial⟩
        · have h := h.2 c
          refine V_goto (tgt := 73) (pc := 55) dX5_earOf_55 rfl ?_
          refine V_iinc (pc := 73) dX5_earOf_73 rfl (by decide) ?_
          refine V_lv (lv2 := [(0, .ref (G.2.1 7)), (1, .int v1), (2, .int v2), (3, .int v3), (4, .int v4), (5, .int (v5 + 1)), (6, .int x2)]) rfl ?_
          refine V_goto (tgt := 15) (pc := 76) dX5_earOf_76 rfl ?_
          exact V_sub h ⟨rfl, rfl, rfl, rfl, rfl, rfl, trivial⟩
theorem wp_X5_earOf_79 {G : GV} {k : Nat} {M : Mem} {q : Int32 → Mem → Prop} {v1 : Int32} {v2 : Int32} {v3 : Int32} {v4 : Int32} {v5 : Int32} (h : ((3 ≤ v3 → q v2 M) ∧ (¬ 3 ≤ v3 → V shC G mX5_earOf (k + 2) 79 [(0, .ref (G.2.1 7)), (1, .int v1), (2, .int (10 * v2)), (3, .int (v3 + 1)), (4, .int v4), (5, .int v5)] [] M (Qi q)))) : V shC G mX5_earOf (k + 2) 79 [(0, .ref (G.2.1 7)), (1, .int v1), (2, .int v2), (3, .int v3), (4, .int v4), (5, .int v5)] [] M (Qi q) := by
  refine V_iload_n (pc := 79) dX5_earOf_79 rfl ?_
  refine V_iconst (v := 3) (pc := 80) dX5_earOf_80 rfl ?_
  refine V_icmp_ge (tgt := 95) (pc := 81) dX5_earOf_81 rfl (fun c => ?_) (fun c => ?_)
  · have h := h.1 c
    refine V_iload_n (pc := 95) dX5_earOf_95 rfl ?_
    exact V_iret dX5_earOf_96 rfl h
  · have h := h.2 c
    refine V_bipush (v := 10) (pc := 84) dX5_earOf_84 rfl ?_
    refine V_iload_n (pc := 86) dX5_earOf_86 rfl ?_
    refine V_imul (pc := 87) dX5_earOf_87 ?_
    refine V_istore_n (pc := 88) dX5_earOf_88 (by decide) ?_
    refine V_lv (lv2 := [(0, .ref (G.2.1 7)), (1, .int v1), (2, .int (10 * v2)), (3, .int v3), (4, .int v4), (5, .int v5)]) rfl ?_
    refine V_iinc (pc := 89) dX5_earOf_89 rfl (by decide) ?_
    refine V_lv (lv2 := [(0, .ref (G.2.1 7)), (1, .int v1), (2, .int (10 * v2)), (3, .int (v3 + 1)), (4, .int v4), (5, .int v5)]) rfl ?_
    refine V_goto (tgt := 79) (pc := 92) dX5_earOf_92 rfl ?_
    exact V_sub h ⟨rfl, rfl, rfl, rfl, rfl, rfl, trivial⟩
theorem wp_X5_compare {G : GV} {k : Nat} {M : Mem} {q : Mem → Prop} {v1 : Int32} (h : Ci shC G mX5_earOf (k + 2) [.ref (G.2.1 7), .int v1] M (fun x1 M1 => vp_in v1 12 ∧ vp_in v1 12 ∧ V shC G mX5_compare (k + 3) 22 [(0, .ref (G.2.1 7)), (1, .int v1), (2, .int 0)] [] (mset (mset M1 39 (ix v1) x1) 37 (ix v1) (1 <<< (v1 &&& 31))) (Qv q))) : Cv shC G mX5_compare (k + 3) [.ref (G.2.1 7), .int v1] M q := by
  unfold Cv
  show V _ _ _ _ _ [(0, .ref (G.2.1 7)), (1, .int v1)] _ _ _
  refine V_aload_n (pc := 0) dX5_compare_0 rfl ?_
  refine V_getR (pc := 1) fX5_24 sC7 rfl dX5_compare_1 ?_
  refine V_iload_n (pc := 4) dX5_compare_4 rfl ?_
  refine V_aload_n (pc := 5) dX5_compare_5 rfl ?_
  refine V_iload_n (pc := 6) dX5_compare_6 rfl ?_
  refine V_callVi [.int v1] (pc := 7) kX5_earOf lX5_42 sC7 rfl rfl (Nat.le_of_ble_eq_true rfl) rfl (Nat.le_of_ble_eq_true rfl) dX5_compare_7 ?_
  refine Ci.mono h ?_
  intro x1 M1 h
  refine V_iast (pc := 10) sC39 dX5_compare_10 h.1 ?_
  have h := h.2
  refine V_aload_n (pc := 11) dX5_compare_11 rfl ?_
  refine V_getR (pc := 12) fX5_18 sC7 rfl dX5_compare_12 ?_
  refine V_iload_n (pc := 15) dX5_compare_15 rfl ?_
  refine V_iconst (v := 1) (pc := 16) dX5_compare_16 rfl ?_
  refine V_iload_n (pc := 17) dX5_compare_17 rfl ?_
  refine V_ishl (pc := 18) dX5_compare_18 ?_
  refine V_iast (pc := 19) sC37 dX5_compare_19 h.1 ?_
  have h := h.2
  refine V_iconst (v := 0) (pc := 20) dX5_compare_20 rfl ?_
  refine V_istore_n (pc := 21) dX5_compare_21 (by decide) ?_
  refine V_lv (lv2 := [(0, .ref (G.2.1 7)), (1, .int v1), (2, .int 0)]) rfl ?_
  exact V_sub h ⟨rfl, rfl, rfl, trivial⟩
theorem wp_X5_compare_22 {G : GV} {k : Nat} {M : Mem} {q : Mem → Prop} {v1 : Int32} {v2 : Int32} (h : ((v1 ≤ v2 → q M) ∧ (¬ v1 ≤ v2 → vp_in v2 12 ∧ vp_in v1 12 ∧ (((M.1 39 (ix v2)) = (M.1 39 (ix v1)) → vp_in v2 12 ∧ vp_in v2 12 ∧ vp_in v1 12 ∧ vp_in v1 12 ∧ V shC G mX5_compare (k + 3) 22 [(0, .ref (G.2.1 7)), (1, .int v1), (2, .int (v2 + 1))] [] (mset (mset M 37 (ix v2) ((M.1 37 (ix v2)) ||| (1 <<< (v1 &&& 31)))) 37 (ix v1) (((mset M 37 (ix v2) ((M.1 37 (ix v2)) ||| (1 <<< (v1 &&& 31)))).1 37 (ix v1)) ||| (1 <<< (v2 &&& 31)))) (Qv q)) ∧ (¬ (M.1 39 (ix v2)) = (M.1 39 (ix v1)) → Ci shC G mX5_hand (k + 2) [.ref (G.2.1 7), .int v2, .int v1] M (fun x1 M1 => ((1 < x1 → V shC G mX5_compare (k + 3) 22 [(0, .ref (G.2.1 7)), (1, .int v1), (2, .int (v2 + 1))] [] M1 (Qv q)) ∧ (¬ 1 < x1 → vp_in v2 12 ∧ vp_in v2 12 ∧ vp_in v1 12 ∧ vp_in v1 12 ∧ V shC G mX5_compare (k + 3) 22 [(0, .ref (G.2.1 7)), (1, .int v1), (2, .int (v2 + 1))] [] (mset (mset M1 37 (ix v2) ((M1.1 37 (ix v2)) ||| (1 <<< (v1 &&& 31)))) 37 (ix v1) (((mset M1 37 (ix v2) ((M1.1 37 (ix v2)) ||| (1 <<< (v1 &&& 31)))).1 37 (ix v1)) ||| (1 <<< (v2 &&& 31)))) (Qv q))))))))) : V shC G mX5_compare (k + 3) 22 [(0, .ref (G.2.1 7)), (1, .int v1), (2, .int v2)] [] M (Qv q) := by
  refine V_iload_n (pc := 22) dX5_compare_22 rfl ?_
  refine V_iload_n (pc := 23) dX5_compare_23 rfl ?_
  refine V_icmp_ge (tgt := 82) (pc := 24) dX5_compare_24 rfl (fun c => ?_) (fun c => ?_)
  · have h := h.1 c
    exact V_vret dX5_compare_82 rfl h
  · have h := h.2 c
    refine V_aload_n (pc := 27) dX5_compare_27 rfl ?_
    refine V_getR (pc := 28) fX5_24 sC7 rfl dX5_compare_28 ?_
    refine V_iload_n (pc := 31) dX5_compare_31 rfl ?_
    refine V_iald (pc := 32) sC39 dX5_compare_32 h.1 ?_
    have h := h.2
    refine V_aload_n (pc := 33) dX5_compare_33 rfl ?_
    refine V_getR (pc := 34) fX5_24 sC7 rfl dX5_compare_34 ?_
    refine V_iload_n (pc := 37) dX5_compare_37 rfl ?_
    refine V_iald (pc := 38) sC39 dX5_compare_38 h.1 ?_
    have h := h.2
    refine V_icmp_eq (tgt := 52) (pc := 39) dX5_compare_39 rfl (fun c => ?_) (fun c => ?_)
    · have h := h.1 c
      refine V_aload_n (pc := 52) dX5_compare_52 rfl ?_
      refine V_getR (pc := 53) fX5_18 sC7 rfl dX5_compare_53 ?_
      refine V_iload_n (pc := 56) dX5_compare_56 rfl ?_
      refine V_dup2 (pc := 57) dX5_compare_57 rfl rfl ?_
      refine V_iald (pc := 58) sC37 dX5_compare_58 h.1 ?_
      have h := h.2
      refine V_iconst (v := 1) (pc := 59) dX5_compare_59 rfl ?_
      refine V_iload_n (pc := 60) dX5_compare_60 rfl ?_
      refine V_ishl (pc := 61) dX5_compare_61 ?_
      refine V_ior (pc := 62) dX5_compare_62 ?_
      refine V_iast (pc := 63) sC37 dX5_compare_63 h.1 ?_
      have h := h.2
      refine V_aload_n (pc := 64) dX5_compare_64 rfl ?_
      refine V_getR (pc := 65) fX5_18 sC7 rfl dX5_compare_65 ?_
      refine V_iload_n (pc := 68) dX5_compare_68 rfl ?_
      refine V_dup2 (pc := 69) dX5_compare_69 rfl rfl ?_
      refine V_iald (pc := 70) sC37 dX5_compare_70 h.1 ?_
      have h := h.2
      refine V_iconst (v := 1) (pc := 71) dX5_compare_71 rfl ?_
      refine V_iload_n (pc := 72) dX5_compare_72 rfl ?_
      refine V_ishl (pc := 73) dX5_compare_73 ?_
      refine V_ior (pc := 74) dX5_compare_74 ?_
      refine V_iast (pc := 75) sC37 dX5_compare_75 h.1 ?_
      have h := h.2
      refine V_iinc (pc := 76) dX5_compare_76 rfl (by decide) ?_
      refine V_lv (lv2 := [(0, .ref (G.2.1 7)), (1, .int v1), (2, .int (v2 + 1))]) rfl ?_
      refine V_goto (tgt := 22) (pc := 79) dX5_compare_79 rfl ?_
      exact V_sub h ⟨rfl, rfl, rfl, trivial⟩
    · have h := h.2 c
      refine V_aload_n (pc := 42) dX5_compare_42 rfl ?_
      refine V_iload_n (pc := 43) dX5_compare_43 rfl ?_
      refine V_iload_n (pc := 44) dX5_compare_44 rfl ?_
      refine V_callVi [.int v2, .int v1] (pc := 45) kX5_hand lX5_45 sC7 rfl rfl (Nat.le_of_ble_eq_true rfl) rfl (Nat.le_of_ble_eq_true rfl) dX5_compare_45 ?_
      refine Ci.mono h ?_
      intro x1 M1 h
      refine V_iconst (v := 1) (pc := 48) dX5_compare_48 rfl ?_
      refine V_icmp_gt (tgt := 76) (pc := 49) dX5_compare_49 rfl (fun c => ?_) (fun c => ?_)
      · have h := h.1 c
        refine V_iinc (pc := 76) dX5_compare_76 rfl (by decide) ?_
        refine V_lv (lv2 := [(0, .ref (G.2.1 7)), (1, .int v1), (2, .int (v2 + 1))]) rfl ?_
        refine V_goto (tgt := 22) (pc := 79) dX5_compare_79 rfl ?_
        exact V_sub h ⟨rfl, rfl, rfl, trivial⟩
      · have h := h.2 c
        refine V_aload_n (pc := 52) dX5_compare_52 rfl ?_
        refine V_getR (pc := 53) fX5_18 sC7 rfl dX5_compare_53 ?_
        refine V_iload_n (pc := 56) dX5_compare_56 rfl ?_
        refine V_dup2 (pc := 57) dX5_compare_57 rfl rfl ?_
        refine V_iald (pc := 58) sC37 dX5_compare_58 h.1 ?_
        have h := h.2
        refine V_iconst (v := 1) (pc := 59) dX5_compare_59 rfl ?_
        refine V_iload_n (pc := 60) dX5_compare_60 rfl ?_
        refine V_ishl (pc := 61) dX5_compare_61 ?_
        refine V_ior (pc := 62) dX5_compare_62 ?_
        refine V_iast (pc := 63) sC37 dX5_compare_63 h.1 ?_
        have h := h.2
        refine V_aload_n (pc := 64) dX5_compare_64 rfl ?_
        refine V_getR (pc := 65) fX5_18 sC7 rfl dX5_compare_65 ?_
        refine V_iload_n (pc := 68) dX5_compare_68 rfl ?_
        refine V_dup2 (pc := 69) dX5_compare_69 rfl rfl ?_
        refine V_iald (pc := 70) sC37 dX5_compare_70 h.1 ?_
        have h := h.2
        refine V_iconst (v := 1) (pc := 71) dX5_compare_71 rfl ?_
        refine V_iload_n (pc := 72) dX5_compare_72 rfl ?_
        refine V_ishl (pc := 73) dX5_compare_73 ?_
        refine V_ior (pc := 74) dX5_compare_74 ?_
        refine V_iast (pc := 75) sC37 dX5_compare_75 h.1 ?_
        have h := h.2
        refine V_iinc (pc := 76) dX5_compare_76 rfl (by decide) ?_
        refine V_lv (lv2 := [(0, .ref (G.2.1 7)), (1, .int v1), (2, .int (v2 + 1))]) rfl ?_
        refine V_goto (tgt := 22) (pc := 79) dX5_compare_79 rfl ?_
        exact V_sub h ⟨rfl, rfl, rfl, trivial⟩
