theorem wp_X11_lost {G : GV} {k : Nat} {M : Mem} {q : Int32 → Mem → Prop} {v1 : Int32} {v2 : Int32} {v3 : Int32} {v4 : Int32} (h : Ci shC G mX11_noStreet (k + 3) [.ref (G.2.1 0), .int v1] M (fun x1 M1 => ((x1 ≠ 0 → q (-1000001) M1) ∧ (x1 = 0 → Ci shC G mX11_noYear (k + 3) [.ref (G.2.1 0), .int v2] M1 (fun x2 M2 => ((x2 ≠ 0 → q (-1000001) M2) ∧ (x2 = 0 → Ci shC G mX11_noYear (k + 3) [.ref (G.2.1 0), .int v3] M2 (fun x3 M3 => ((x3 ≠ 0 → q (-1000001) M3) ∧ (x3 = 0 → ((v4 < 0 → q (-1000001) M3) ∧ (¬ v4 < 0 → ((v4 ≤ 2 → Cv shC G mX4_lookAt (k + 3) [.ref (G.2.1 10), .int v1, .int v2, .int v3] M3 (fun M4 => (((v4).toInt = 0 → Ci shC G mX4_kept (k + 3) [.ref (G.2.1 10)] M4 (fun x5 M5 => q x5 M5)) ∧ ((v4).toInt = 1 → q (M4.1 10 4) M4) ∧ (([((0, 26) : Int × Int), ((1, 34) : Int × Int)].all (fun q => decide ((v4).toInt ≠ q.1)) = true) → q (M4.1 10 5) M4)))) ∧ (¬ v4 ≤ 2 → q (-1000001) M3)))))))))))))) : Ci shC G mX11_lost (k + 4) [.ref (G.2.1 0), .int v1, .int v2, .int v3, .int v4] M q := by
  unfold Ci
  show V _ _ _ _ _ [(0, .ref (G.2.1 0)), (1, .int v1), (2, .int v2), (3, .int v3), (4, .int v4)] _ _ _
  refine V_aload_n (pc := 0) dX11_lost_0 rfl ?_
  refine V_iload_n (pc := 1) dX11_lost_1 rfl ?_
  refine V_callVi [.int v1] (pc := 2) kX11_noStreet lX11_248 sC0 rfl rfl (Nat.le_of_ble_eq_true rfl) rfl (Nat.le_of_ble_eq_true rfl) dX11_lost_2 ?_
  refine Ci.mono h ?_
  intro x1 M1 h
  refine V_if_ne (tgt := 35) (pc := 5) dX11_lost_5 rfl (fun c => ?_) (fun c => ?_)
  · have h := h.1 c
    refine V_ldc (pc := 35) dX11_lost_35 nX11_91 ?_
    exact V_iret dX11_lost_37 rfl h
  · have h := h.2 c
    refine V_aload_n (pc := 8) dX11_lost_8 rfl ?_
    refine V_iload_n (pc := 9) dX11_lost_9 rfl ?_
    refine V_callVi [.int v2] (pc := 10) kX11_noYear lX11_251 sC0 rfl rfl (Nat.le_of_ble_eq_true rfl) rfl (Nat.le_of_ble_eq_true rfl) dX11_lost_10 ?_
    refine Ci.mono h ?_
    intro x2 M2 h
    refine V_if_ne (tgt := 35) (pc := 13) dX11_lost_13 rfl (fun c => ?_) (fun c => ?_)
    · have h := h.1 c
      refine V_ldc (pc := 35) dX11_lost_35 nX11_91 ?_
      exact V_iret dX11_lost_37 rfl h
    · have h := h.2 c
      refine V_aload_n (pc := 16) dX11_lost_16 rfl ?_
      refine V_iload_n (pc := 17) dX11_lost_17 rfl ?_
      refine V_callVi [.int v3] (pc := 18) kX11_noYear lX11_251 sC0 rfl rfl (Nat.le_of_ble_eq_true rfl) rfl (Nat.le_of_ble_eq_true rfl) dX11_lost_18 ?_
      refine Ci.mono h ?_
      intro x3 M3 h
      refine V_if_ne (tgt := 35) (pc := 21) dX11_lost_21 rfl (fun c => ?_) (fun c => ?_)
      · have h := h.1 c
        refine V_ldc (pc := 35) dX11_lost_35 nX11_91 ?_
        exact V_iret dX11_lost_37 rfl h
      · have h := h.2 c
        refine V_iload (pc := 24) dX11_lost_24 rfl ?_
        refine V_if_lt (tgt := 35) (pc := 26) dX11_lost_26 rfl (fun c => ?_) (fun c => ?_)
        · have h := h.1 c
          refine V_ldc (pc := 35) dX11_lost_35 nX11_91 ?_
          exact V_iret dX11_lost_37 rfl h
        · have h := h.2 c
          refine V_iload (pc := 29) dX11_lost_29 rfl ?_
          refine V_iconst (v := 2) (pc := 31) dX11_lost_31 rfl ?_
          refine V_icmp_le (tgt := 38) (pc := 32) dX11_lost_32 rfl (fun c => ?_) (fun c => ?_)
          · have h := h.1 c
            refine V_aload_n (pc := 38) dX11_lost_38 rfl ?_
            refine V_getR (pc := 39) fX11_76 sC0 rfl dX11_lost_39 ?_
            refine V_iload_n (pc := 42) dX11_lost_42 rfl ?_
            refine V_iload_n (pc := 43) dX11_lost_43 rfl ?_
            refine V_iload_n (pc := 44) dX11_lost_44 rfl ?_
            refine V_callVv [.int v1, .int v2, .int v3] (pc := 45) kX4_lookAt lX11_254 sC10 rfl rfl (Nat.le_of_ble_eq_true rfl) rfl (Nat.le_of_ble_eq_true rfl) dX11_lost_45 ?_
            refine Cv.mono h ?_
            intro M4 h
            refine V_iload (pc := 48) dX11_lost_48 rfl ?_
            refine V_lookup (tgt := 92) (pc := 50) dX11_lost_50 rfl rfl rfl ⟨fun c => ?_, fun c => ?_, trivial⟩ (fun c => ?_)
            · have h := h.1 c
              show V _ _ _ _ 76 _ _ _ _
              refine V_aload_n (pc := 76) dX11_lost_76 rfl ?_
              refine V_getR (pc := 77) fX11_76 sC0 rfl dX11_lost_77 ?_
              refine V_callVi [] (pc := 80) kX4_kept lX11_257 sC10 rfl rfl (Nat.le_of_ble_eq_true rfl) rfl (Nat.le_of_ble_eq_true rfl) dX11_lost_80 ?_
              refine Ci.mono h ?_
              intro x5 M5 h
              exact V_iret dX11_lost_83 rfl h
            · have h := h.2.1 c
              show V _ _ _ _ 84 _ _ _ _
              refine V_aload_n (pc := 84) dX11_lost_84 rfl ?_
              refine V_getR (pc := 85) fX11_76 sC0 rfl dX11_lost_85 ?_
              refine V_getI (pc := 88) fX11_260 sC10 rfl dX11_lost_88 ?_
              exact V_iret dX11_lost_91 rfl h
            · have h := h.2.2 c
              refine V_aload_n (pc := 92) dX11_lost_92 rfl ?_
              refine V_getR (pc := 93) fX11_76 sC0 rfl dX11_lost_93 ?_
              refine V_getI (pc := 96) fX11_263 sC10 rfl dX11_lost_96 ?_
              exact V_iret dX11_lost_99 rfl h
          · have h := h.2 c
            refine V_ldc (pc := 35) dX11_lost_35 nX11_91 ?_
            exact V_iret dX11_lost_37 rfl h
theorem wp_X11_keepTold {G : GV} {k : Nat} {M : Mem} {q : Mem → Prop}  (h : (((M.1 6 8) < (M.1 6 9) → Cv shC G mX6_keep (k + 4) [.ref (G.2.1 4)] (mset (mset (mset M 9 5 1) 3 3 (M.1 3 4)) 5 4 (M.1 5 5)) (fun M1 => Cv shC G mX3_keep (k + 4) [.ref (G.2.1 6), .ref (G.2.1 3), .ref (G.2.1 4)] M1 (fun M2 => q M2))) ∧ (¬ (M.1 6 8) < (M.1 6 9) → (((M.1 4 5) ≤ (M.1 4 4) → Cv shC G mX6_keep (k + 4) [.ref (G.2.1 4)] (mset (mset M 3 3 (M.1 3 4)) 5 4 (M.1 5 5)) (fun M3 => Cv shC G mX3_keep (k + 4) [.ref (G.2.1 6), .ref (G.2.1 3), .ref (G.2.1 4)] M3 (fun M4 => q M4))) ∧ (¬ (M.1 4 5) ≤ (M.1 4 4) → Cv shC G mX6_keep (k + 4) [.ref (G.2.1 4)] (mset (mset (mset M 9 5 1) 3 3 (M.1 3 4)) 5 4 (M.1 5 5)) (fun M5 => Cv shC G mX3_keep (k + 4) [.ref (G.2.1 6), .ref (G.2.1 3), .ref (G.2.1 4)] M5 (fun M6 => q M6))))))) : Cv shC G mX11_keepTold (k + 5) [.ref (G.2.1 0)] M q := by
  unfold Cv
  show V _ _ _ _ _ [(0, .ref (G.2.1 0))] _ _ _
  refine V_aload_n (pc := 0) dX11_keepTold_0 rfl ?_
  refine V_getR (pc := 1) fX11_47 sC0 rfl dX11_keepTold_1 ?_
  refine V_getI (pc := 4) fX11_151 sC6 rfl dX11_keepTold_4 ?_
  refine V_aload_n (pc := 7) dX11_keepTold_7 rfl ?_
  refine V_getR (pc := 8) fX11_47 sC0 rfl dX11_keepTold_8 ?_
  refine V_getI (pc := 11) fX11_320 sC6 rfl dX11_keepTold_11 ?_
  refine V_icmp_lt (tgt := 34) (pc := 14) dX11_keepTold_14 rfl (fun c => ?_) (fun c => ?_)
  · have h := h.1 c
    refine V_aload_n (pc := 34) dX11_keepTold_34 rfl ?_
    refine V_getR (pc := 35) fX11_69 sC0 rfl dX11_keepTold_35 ?_
    refine V_iconst (v := 1) (pc := 38) dX11_keepTold_38 rfl ?_
    refine V_putZ (pc := 39) fX11_324 p7_5 sC9 rfl (Or.inr rfl) dX11_keepTold_39 ?_
    refine V_aload_n (pc := 42) dX11_keepTold_42 rfl ?_
    refine V_getR (pc := 43) fX11_26 sC0 rfl dX11_keepTold_43 ?_
    refine V_aload_n (pc := 46) dX11_keepTold_46 rfl ?_
    refine V_getR (pc := 47) fX11_26 sC0 rfl dX11_keepTold_47 ?_
    refine V_getI (pc := 50) fX11_328 sC3 rfl dX11_keepTold_50 ?_
    refine V_top (v := (M.1 3 4)) (by simp [mset, lset, upd]) ?_
    refine V_putI (pc := 53) fX11_283 p1_3 sC3 rfl dX11_keepTold_53 ?_
    refine V_aload_n (pc := 56) dX11_keepTold_56 rfl ?_
    refine V_getR (pc := 57) fX11_40 sC0 rfl dX11_keepTold_57 ?_
    refine V_aload_n (pc := 60) dX11_keepTold_60 rfl ?_
    refine V_getR (pc := 61) fX11_40 sC0 rfl dX11_keepTold_61 ?_
    refine V_getI (pc := 64) fX11_329 sC5 rfl dX11_keepTold_64 ?_
    refine V_top (v := (M.1 5 5)) (by simp [mset, lset, upd]) ?_
    refine V_putI (pc := 67) fX11_310 p2_4 sC5 rfl dX11_keepTold_67 ?_
    refine V_aload_n (pc := 70) dX11_keepTold_70 rfl ?_
    refine V_getR (pc := 71) fX11_33 sC0 rfl dX11_keepTold_71 ?_
    refine V_callVv [] (pc := 74) kX6_keep lX11_330 sC4 rfl rfl (Nat.le_of_ble_eq_true rfl) rfl (Nat.le_of_ble_eq_true rfl) dX11_keepTold_74 ?_
    refine Cv.mono h ?_
    intro M1 h
    refine V_aload_n (pc := 77) dX11_keepTold_77 rfl ?_
    refine V_getR (pc := 78) fX11_47 sC0 rfl dX11_keepTold_78 ?_
    refine V_aload_n (pc := 81) dX11_keepTold_81 rfl ?_
    refine V_getR (pc := 82) fX11_26 sC0 rfl dX11_keepTold_82 ?_
    refine V_aload_n (pc := 85) dX11_keepTold_85 rfl ?_
    refine V_getR (pc := 86) fX11_33 sC0 rfl dX11_keepTold_86 ?_
    refine V_callVv [.ref (G.2.1 3), .ref (G.2.1 4)] (pc := 89) kX3_keep lX11_333 sC6 rfl rfl (Nat.le_of_ble_eq_true rfl) rfl (Nat.le_of_ble_eq_true rfl) dX11_keepTold_89 ?_
    refine Cv.mono h ?_
    intro M2 h
    exact V_vret dX11_keepTold_92 rfl h
  · have h := h.2 c
    refine V_aload_n (pc := 17) dX11_keepTold_17 rfl ?_
    refine V_getR (pc := 18) fX11_33 sC0 rfl dX11_keepTold_18 ?_
    refine V_getI (pc := 21) fX11_309 sC4 rfl dX11_keepTold_21 ?_
    refine V_aload_n (pc := 24) dX11_keepTold_24 rfl ?_
    refine V_getR (pc := 25) fX11_33 sC0 rfl dX11_keepTold_25 ?_
    refine V_getI (pc := 28) fX11_323 sC4 rfl dX11_keepTold_28 ?_
    refine V_icmp_ge (tgt := 42) (pc := 31) dX11_keepTold_31 rfl (fun c => ?_) (fun c => ?_)
    · have h := h.1 c
      refine V_aload_n (pc := 42) dX11_keepTold_42 rfl ?_
      refine V_getR (pc := 43) fX11_26 sC0 rfl dX11_keepTold_43 ?_
      refine V_aload_n (pc := 46) dX11_keepTold_46 rfl ?_
      refine V_getR (pc := 47) fX11_26 sC0 rfl dX11_keepTold_47 ?_
      refine V_getI (pc := 50) fX11_328 sC3 rfl dX11_keepTold_50 ?_
      refine V_putI (pc := 53) fX11_283 p1_3 sC3 rfl dX11_keepTold_53 ?_
      refine V_aload_n (pc := 56) dX11_keepTold_56 rfl ?_
      refine V_getR (pc := 57) fX11_40 sC0 rfl dX11_keepTold_57 ?_
      refine V_aload_n (pc := 60) dX11_keepTold_60 rfl ?_
      refine V_getR (pc := 61) fX11_40 sC0 rfl dX11_keepTold_61 ?_
      refine V_getI (pc := 64) fX11_329 sC5 rfl dX11_keepTold_64 ?_
      refine V_top (v := (M.1 5 5)) (by simp [mset, lset, upd]) ?_
      refine V_putI (pc := 67) fX11_310 p2_4 sC5 rfl dX11_keepTold_67 ?_
      refine V_aload_n (pc := 70) dX11_keepTold_70 rfl ?_
      refine V_getR (pc := 71) fX11_33 sC0 rfl dX11_keepTold_71 ?_
      refine V_callVv [] (pc := 74) kX6_keep lX11_330 sC4 rfl rfl (Nat.le_of_ble_eq_true rfl) rfl (Nat.le_of_ble_eq_true rfl) dX11_keepTold_74 ?_
      refine Cv.mono h ?_
      intro M3 h
      refine V_aload_n (pc := 77) dX11_keepTold_77 rfl ?_
      refine V_getR (pc := 78) fX11_47 sC0 rfl dX11_keepTold_78 ?_
      refine V_aload_n (pc := 81) dX11_keepTold_81 rfl ?_
      refine V_getR (pc := 82) fX11_26 sC0 rfl dX11_keepTold_82 ?_
      refine V_aload_n (pc := 85) dX11_keepTold_85 rfl ?_
      refine V_getR (pc := 86) fX11_33 sC0 rfl dX11_keepTold_86 ?_
      refine V_callVv [.ref (G.2.1 3), .ref (G.2.1 4)] (pc := 89) kX3_keep lX11_333 sC6 rfl rfl (Nat.le_of_ble_eq_true rfl) rfl (Nat.le_of_ble_eq_true rfl) dX11_keepTold_89 ?_
      refine Cv.mono h ?_
      intro M4 h
      exact V_vret dX11_keepTold_92 rfl h
    · have h := h.2 c
      refine V_aload_n (pc := 34) dX11_keepTold_34 rfl ?_
      refine V_getR (pc := 35) fX11_69 sC0 rfl dX11_keepTold_35 ?_
      refine V_iconst (v := 1) (pc := 38) dX11_keepTold_38 rfl ?_
      refine V_putZ (pc := 39) fX11_324 p7_5 sC9 rfl (Or.inr rfl) dX11_keepTold_39 ?_
      refine V_aload_n (pc := 42) dX11_keepTold_42 rfl ?_
      refine V_getR (pc := 43) fX11_26 sC0 rfl dX11_keepTold_43 ?_
      refine V_aload_n (pc := 46) dX11_keepTold_46 rfl ?_
      refine V_getR (pc := 47) fX11_26 sC0 rfl dX11_keepTold_47 ?_
      refine V_getI (pc := 50) fX11_328 sC3 rfl dX11_keepTold_50 ?_
      refine V_top (v := (M.1 3 4)) (by simp [mset, lset, upd]) ?_
      refine V_putI (pc := 53) fX11_283 p1_3 sC3 rfl dX11_keepTold_53 ?_
      refine V_aload_n (pc := 56) dX11_keepTold_56 rfl ?_
      refine V_getR (pc := 57) fX11_40 sC0 rfl dX11_keepTold_57 ?_
      refine V_aload_n (pc := 60) dX11_keepTold_60 rfl ?_
      refine V_getR (pc := 61) fX11_40 sC0 rfl dX11_keepTold_61 ?_
      refine V_getI (pc := 64) fX11_329 sC5 rfl dX11_keepTold_64 ?_
      refine V_top (v := (M.1 5 5)) (by simp [mset, lset, upd]) ?_
      refine V_putI (pc := 67) fX11_310 p2_4 sC5 rfl dX11_keepTold_67 ?_
      refine V_aload_n (pc := 70) dX11_keepTold_70 rfl ?_
      refine V_getR (pc := 71) fX11_33 sC0 rfl dX11_keepTold_71 ?_
      refine V_callVv [] (pc := 74) kX6_keep lX11_330 sC4 rfl rfl (Nat.le_of_ble_eq_true rfl) rfl (Nat.le_of_ble_eq_true rfl) dX11_keepTold_74 ?_
      refine Cv.mono h ?_
      intro M5 h
      refine V_aload_n (pc := 77) dX11_keepTold_77 rfl ?_
      refine V_getR (pc := 78) fX11_47 sC0 rfl dX11_keepTold_78 ?_
      refine V_aload_n (pc := 81) dX11_keepTold_81 rfl ?_
      refine V_getR (pc := 82) fX11_26 sC0 rfl dX11_keepTold_82 ?_
      refine V_aload_n (pc := 85) dX11_keepTold_85 rfl ?_
      refine V_getR (pc := 86) fX11_33 sC0 rfl dX11_keepTold_86 ?_
      refine V_callVv [.ref (G.2.1 3), .ref (G.2.1 4)] (pc := 89) kX3_keep lX11_333 sC6 rfl rfl (Nat.le_of_ble_eq_true rfl) rfl (Nat.le_of_ble_eq_true rfl) dX11_keepTold_89 ?_
      refine Cv.mono h ?_
      intro M6 h
      exact V_vret dX11_keepTold_92 rfl h
theorem wp_X11_ask {G : GV} {k : Nat} {M : Mem} {q : Int32 → Mem → Prop} {v1 : Int32} {v2 : Int32} (h : Ci shC G mX11_noLine (k + 5) [.ref (G.2.1 0), .int v1] M (fun x1 M1 => ((x1 ≠ 0 → q (-1000001) M1) ∧ (x1 = 0 → ((v2 < 0 → q (-1000001) M1) ∧ (¬ v2 < 0 → ((v2 ≤ 1 → ((v2 ≠ 0 → Ci shC G mX0_markOf (k + 5) [.ref (G.2.1 11), .int v1] (mset M1 11 2 0) (fun x2 M2 => q x2 M2)) ∧ (v2 = 0 → Ci shC G mX0_sizeOf (k + 5) [.ref (G.2.1 11), .int v1] (mset M1 11 2 0) (fun x3 M3 => q x3 M3)))) ∧ (¬ v2 ≤ 1 → q (-1000001) M1)))))))) : Ci shC G mX11_ask (k + 6) [.ref (G.2.1 0), .int v1, .int v2] M q := by
  unfold Ci
  show V _ _ _ _ _ [(0, .ref (G.2.1 0)), (1, .int v1), (2, .int v2)] _ _ _
  refine V_aload_n (pc := 0) dX11_ask_0 rfl ?_
  refine V_iload_n (pc := 1) dX11_ask_1 rfl ?_
  refine V_callVi [.int v1] (pc := 2) kX11_noLine lX11_154 sC0 rfl rfl (Nat.le_of_ble_eq_true rfl) rfl (Nat.le_of_ble_eq_true rfl) dX11_ask_2 ?_
  refine Ci.mono h ?_
  intro x1 M1 h
  refine V_if_ne (tgt := 17) (pc := 5) dX11_ask_5 rfl (fun c => ?_) (fun c => ?_)
  · have h := h.1 c
    refine V_ldc (pc := 17) dX11_ask_17 nX11_91 ?_
    exact V_iret dX11_ask_19 rfl h
  · have h := h.2 c
    refine V_iload_n (pc := 8) dX11_ask_8 rfl ?_
    refine V_if_lt (tgt := 17) (pc := 9) dX11_ask_9 rfl (fun c => ?_) (fun c => ?_)
    · have h := h.1 c
      refine V_ldc (pc := 17) dX11_ask_17 nX11_91 ?_
      exact V_iret dX11_ask_19 rfl h
    · have h := h.2 c
      refine V_iload_n (pc := 12) dX11_ask_12 rfl ?_
      refine V_iconst (v := 1) (pc := 13) dX11_ask_13 rfl ?_
      refine V_icmp_le (tgt := 20) (pc := 14) dX11_ask_14 rfl (fun c => ?_) (fun c => ?_)
      · have h := h.1 c
        refine V_aload_n (pc := 20) dX11_ask_20 rfl ?_
        refine V_getR (pc := 21) fX11_83 sC0 rfl dX11_ask_21 ?_
        refine V_iconst (v := 0) (pc := 24) dX11_ask_24 rfl ?_
        refine V_putI (pc := 25) fX11_294 p0_2 sC11 rfl dX11_ask_25 ?_
        refine V_iload_n (pc := 28) dX11_ask_28 rfl ?_
        refine V_if_ne (tgt := 43) (pc := 29) dX11_ask_29 rfl (fun c => ?_) (fun c => ?_)
        · have h := h.1 c
          refine V_aload_n (pc := 43) dX11_ask_43 rfl ?_
          refine V_getR (pc := 44) fX11_83 sC0 rfl dX11_ask_44 ?_
          refine V_iload_n (pc := 47) dX11_ask_47 rfl ?_
          refine V_callVi [.int v1] (pc := 48) kX0_markOf lX11_300 sC11 rfl rfl (Nat.le_of_ble_eq_true rfl) rfl (Nat.le_of_ble_eq_true rfl) dX11_ask_48 ?_
          refine Ci.mono h ?_
          intro x2 M2 h
          exact V_iret dX11_ask_51 rfl h
        · have h := h.2 c
          refine V_aload_n (pc := 32) dX11_ask_32 rfl ?_
          refine V_getR (pc := 33) fX11_83 sC0 rfl dX11_ask_33 ?_
          refine V_iload_n (pc := 36) dX11_ask_36 rfl ?_
          refine V_callVi [.int v1] (pc := 37) kX0_sizeOf lX11_297 sC11 rfl rfl (Nat.le_of_ble_eq_true rfl) rfl (Nat.le_of_ble_eq_true rfl) dX11_ask_37 ?_
          refine Ci.mono h ?_
          intro x3 M3 h
          refine V_goto (tgt := 51) (pc := 40) dX11_ask_40 rfl ?_
          exact V_iret dX11_ask_51 rfl h
      · have h := h.2 c
        refine V_ldc (pc := 17) dX11_ask_17 nX11_91 ?_
        exact V_iret dX11_ask_19 rfl h
theorem wp_X11_joined {G : GV} {k : Nat} {M : Mem} {q : Int64 → Mem → Prop} {v1 : Int32} (h : (((v1).toInt = 0 → Ci shC G mX7_countFewest (k + 6) [.ref (G.2.1 9)] M (fun x1 M1 => q (Int32.toInt64 x1) M1)) ∧ ((v1).toInt = 1 → Ci shC G mX7_countRivals (k + 6) [.ref (G.2.1 9)] M (fun x2 M2 => q (Int32.toInt64 x2) M2)) ∧ ((v1).toInt = 2 → Ci shC G mX7_linesOfGreatest (k + 6) [.ref (G.2.1 9)] M (fun x3 M3 => q (Int32.toInt64 x3) M3)) ∧ (((v1).toInt < 0 ∨ 2 < (v1).toInt) → q (-1000001) M))) : Cl shC G mX11_joined (k + 7) [.ref (G.2.1 0), .int v1] M q := by
  unfold Cl
  show V _ _ _ _ _ [(0, .ref (G.2.1 0)), (1, .int v1)] _ _ _
  refine V_iload_n (pc := 0) dX11_joined_0 rfl ?_
  refine V_table (tgt := 55) (pc := 1) dX11_joined_1 rfl rfl rfl ⟨fun c => ?_, fun c => ?_, fun c => ?_, trivial⟩ (fun c => ?_)
  · have h := h.1 c
    show V _ _ _ _ 28 _ _ _ _
    refine V_aload_n (pc := 28) dX11_joined_28 rfl ?_
    refine V_getR (pc := 29) fX11_69 sC0 rfl dX11_joined_29 ?_
    refine V_callVi [] (pc := 32) kX7_countFewest lX11_218 sC9 rfl rfl (Nat.le_of_ble_eq_true rfl) rfl (Nat.le_of_ble_eq_true rfl) dX11_joined_32 ?_
    refine Ci.mono h ?_
    intro x1 M1 h
    refine V_i2l (pc := 35) dX11_joined_35 ?_
    exact V_lret dX11_joined_36 rfl h
  · have h := h.2.1 c
    show V _ _ _ _ 37 _ _ _ _
    refine V_aload_n (pc := 37) dX11_joined_37 rfl ?_
    refine V_getR (pc := 38) fX11_69 sC0 rfl dX11_joined_38 ?_
    refine V_callVi [] (pc := 41) kX7_countRivals lX11_221 sC9 rfl rfl (Nat.le_of_ble_eq_true rfl) rfl (Nat.le_of_ble_eq_true rfl) dX11_joined_41 ?_
    refine Ci.mono h ?_
    intro x2 M2 h
    refine V_i2l (pc := 44) dX11_joined_44 ?_
    exact V_lret dX11_joined_45 rfl h
  · have h := h.2.2.1 c
    show V _ _ _ _ 46 _ _ _ _
    refine V_aload_n (pc := 46) dX11_joined_46 rfl ?_
    refine V_getR (pc := 47) fX11_69 sC0 rfl dX11_joined_47 ?_
    refine V_callVi [] (pc := 50) kX7_linesOfGreatest lX11_224 sC9 rfl rfl (Nat.le_of_ble_eq_true rfl) rfl (Nat.le_of_ble_eq_true rfl) dX11_joined_50 ?_
    refine Ci.mono h ?_
    intro x3 M3 h
    refine V_i2l (pc := 53) dX11_joined_53 ?_
    exact V_lret dX11_joined_54 rfl h
  · have h := h.2.2.2 c
    refine V_ldc2 (pc := 55) dX11_joined_55 nX11_227 ?_
    exact V_lret dX11_joined_58 rfl h
theorem wp_X11_person {G : GV} {k : Nat} {M : Mem} {q : Int32 → Mem → Prop} {v1 : Int32} (h : Ci shC G mX11_noLine (k + 6) [.ref (G.2.1 0), .int v1] M (fun x1 M1 => ((x1 = 0 → Ci shC G mX7_personOf (k + 6) [.ref (G.2.1 9), .int v1] M1 (fun x2 M2 => q x2 M2)) ∧ (¬ x1 = 0 → q (-1000001) M1)))) : Ci shC G mX11_person (k + 7) [.ref (G.2.1 0), .int v1] M q := by
  unfold Ci
  show V _ _ _ _ _ [(0, .ref (G.2.1 0)), (1, .int v1)] _ _ _
  refine V_aload_n (pc := 0) dX11_person_0 rfl ?_
  refine V_iload_n (pc := 1) dX11_person_1 rfl ?_
  refine V_callVi [.int v1] (pc := 2) kX11_noLine lX11_154 sC0 rfl rfl (Nat.le_of_ble_eq_true rfl) rfl (Nat.le_of_ble_eq_true rfl) dX11_person_2 ?_
  refine Ci.mono h ?_
  intro x1 M1 h
  refine V_if_eq (tgt := 13) (pc := 5) dX11_person_5 rfl (fun c => ?_) (fun c => ?_)
  · have h := h.1 c
    refine V_aload_n (pc := 13) dX11_person_13 rfl ?_
    refine V_getR (pc := 14) fX11_69 sC0 rfl dX11_person_14 ?_
    refine V_iload_n (pc := 17) dX11_person_17 rfl ?_
    refine V_callVi [.int v1] (pc := 18) kX7_personOf lX11_229 sC9 rfl rfl (Nat.le_of_ble_eq_true rfl) rfl (Nat.le_of_ble_eq_true rfl) dX11_person_18 ?_
    refine Ci.mono h ?_
    intro x2 M2 h
    exact V_iret dX11_person_21 rfl h
  · have h := h.2 c
    refine V_ldc (pc := 8) dX11_person_8 nX11_91 ?_
    refine V_goto (tgt := 21) (pc := 10) dX11_person_10 rfl ?_
    exact V_iret dX11_person_21 rfl h
theorem wp_X11_stay {G : GV} {k : Nat} {M : Mem} {q : Int32 → Mem → Prop} {v1 : Int32} {v2 : Int32} (h : Ci shC G mX11_noLine (k + 6) [.ref (G.2.1 0), .int v1] M (fun x1 M1 => ((x1 ≠ 0 → q (-1000001) M1) ∧ (x1 = 0 → ((v2 < 0 → q (-1000001) M1) ∧ (¬ v2 < 0 → ((v2 ≤ 3 → Ci shC G mX7_personOf (k + 6) [.ref (G.2.1 9), .int v1] M1 (fun x2 M2 => Ci shC G mX3_firstStanding (k + 6) [.ref (G.2.1 6), .int x2, .int v1] M2 (fun x3 M3 => ((x3 ≠ (-1000000) → (((v2).toInt = 0 → q x3 M3) ∧ ((v2).toInt = 1 → Ci shC G mX3_lastStanding (k + 6) [.ref (G.2.1 6), .int x2, .int v1] M3 (fun x4 M4 => q x4 M4)) ∧ ((v2).toInt = 2 → Ci shC G mX1_gatheredBelow (k + 6) [.ref (G.2.1 3), .int x3] M3 (fun x5 M5 => q x5 M5)) ∧ (((v2).toInt < 0 ∨ 2 < (v2).toInt) → Ci shC G mX3_lastStanding (k + 6) [.ref (G.2.1 6), .int x2, .int v1] M3 (fun x6 M6 => Ci shC G mX1_gatheredAbove (k + 6) [.ref (G.2.1 3), .int x6] M6 (fun x7 M7 => q x7 M7))))) ∧ (x3 = (-1000000) → q (-1000000) M3))))) ∧ (¬ v2 ≤ 3 → q (-1000001) M1)))))))) : Ci shC G mX11_stay (k + 7) [.ref (G.2.1 0), .int v1, .int v2] M q := by
  unfold Ci
  show V _ _ _ _ _ [(0, .ref (G.2.1 0)), (1, .int v1), (2, .int v2)] _ _ _
  refine V_aload_n (pc := 0) dX11_stay_0 rfl ?_
  refine V_iload_n (pc := 1) dX11_stay_1 rfl ?_
  refine V_callVi [.int v1] (pc := 2) kX11_noLine lX11_154 sC0 rfl rfl (Nat.le_of_ble_eq_true rfl) rfl (Nat.le_of_ble_eq_true rfl) dX11_stay_2 ?_
  refine Ci.mono h ?_
  intro x1 M1 h
  refine V_if_ne (tgt := 17) (pc := 5) dX11_stay_5 rfl (fun c => ?_) (fun c => ?_)
  · have h := h.1 c
    refine V_ldc (pc := 17) dX11_stay_17 nX11_91 ?_
    exact V_iret dX11_stay_19 rfl h
  · have h := h.2 c
    refine V_iload_n (pc := 8) dX11_stay_8 rfl ?_
    refine V_if_lt (tgt := 17) (pc := 9) dX11_stay_9 rfl (fun c => ?_) (fun c => ?_)
    · have h := h.1 c
      refine V_ldc (pc := 17) dX11_stay_17 nX11_91 ?_
      exact V_iret dX11_stay_19 rfl h
    · have h := h.2 c
      refine V_iload_n (pc := 12) dX11_stay_12 rfl ?_
      refine V_iconst (v := 3) (pc := 13) dX11_stay_13 rfl ?_
      refine V_icmp_le (tgt := 20) (pc := 14) dX11_stay_14 rfl (fun c => ?_) (fun c => ?_)
      · have h := h.1 c
        refine V_aload_n (pc := 20) dX11_stay_20 rfl ?_
        refine V_getR (pc := 21) fX11_69 sC0 rfl dX11_stay_21 ?_
        refine V_iload_n (pc := 24) dX11_stay_24 rfl ?_
        refine V_callVi [.int v1] (pc := 25) kX7_personOf lX11_229 sC9 rfl rfl (Nat.le_of_ble_eq_true rfl) rfl (Nat.le_of_ble_eq_true rfl) dX11_stay_25 ?_
        refine Ci.mono h ?_
        intro x2 M2 h
        refine V_istore_n (pc := 28) dX11_stay_28 (by decide) ?_
        refine V_lv (lv2 := [(0, .ref (G.2.1 0)), (1, .int v1), (2, .int v2), (3, .int x2)]) rfl ?_
        refine V_aload_n (pc := 29) dX11_stay_29 rfl ?_
        refine V_getR (pc := 30) fX11_47 sC0 rfl dX11_stay_30 ?_
        refine V_iload_n (pc := 33) dX11_stay_33 rfl ?_
        refine V_iload_n (pc := 34) dX11_stay_34 rfl ?_
        refine V_callVi [.int x2, .int v1] (pc := 35) kX3_firstStanding lX11_235 sC6 rfl rfl (Nat.le_of_ble_eq_true rfl) rfl (Nat.le_of_ble_eq_true rfl) dX11_stay_35 ?_
        refine Ci.mono h ?_
        intro x3 M3 h
        refine V_istore (pc := 38) dX11_stay_38 (by decide) ?_
        refine V_lv (lv2 := [(0, .ref (G.2.1 0)), (1, .int v1), (2, .int v2), (3, .int x2), (4, .int x3)]) rfl ?_
        refine V_iload (pc := 40) dX11_stay_40 rfl ?_
        refine V_ldc (pc := 42) dX11_stay_42 nX11_238 ?_
        refine V_icmp_ne (tgt := 50) (pc := 44) dX11_stay_44 rfl (fun c => ?_) (fun c => ?_)
        · have h := h.1 c
          refine V_iload_n (pc := 50) dX11_stay_50 rfl ?_
          refine V_table (tgt := 99) (pc := 51) dX11_stay_51 rfl rfl rfl ⟨fun c => ?_, fun c => ?_, fun c => ?_, trivial⟩ (fun c => ?_)
          · have h := h.1 c
            show V _ _ _ _ 76 _ _ _ _
            refine V_iload (pc := 76) dX11_stay_76 rfl ?_
            exact V_iret dX11_stay_78 rfl h
          · have h := h.2.1 c
            show V _ _ _ _ 79 _ _ _ _
            refine V_aload_n (pc := 79) dX11_stay_79 rfl ?_
            refine V_getR (pc := 80) fX11_47 sC0 rfl dX11_stay_80 ?_
            refine V_iload_n (pc := 83) dX11_stay_83 rfl ?_
            refine V_iload_n (pc := 84) dX11_stay_84 rfl ?_
            refine V_callVi [.int x2, .int v1] (pc := 85) kX3_lastStanding lX11_239 sC6 rfl rfl (Nat.le_of_ble_eq_true rfl) rfl (Nat.le_of_ble_eq_true rfl) dX11_stay_85 ?_
            refine Ci.mono h ?_
            intro x4 M4 h
            exact V_iret dX11_stay_88 rfl h
          · have h := h.2.2.1 c
            show V _ _ _ _ 89 _ _ _ _
            refine V_aload_n (pc := 89) dX11_stay_89 rfl ?_
            refine V_getR (pc := 90) fX11_26 sC0 rfl dX11_stay_90 ?_
            refine V_iload (pc := 93) dX11_stay_93 rfl ?_
            refine V_callVi [.int x3] (pc := 95) kX1_gatheredBelow lX11_242 sC3 rfl rfl (Nat.le_of_ble_eq_true rfl) rfl (Nat.le_of_ble_eq_true rfl) dX11_stay_95 ?_
            refine Ci.mono h ?_
            intro x5 M5 h
            exact V_iret dX11_stay_98 rfl h
          · have h := h.2.2.2 c
            refine V_aload_n (pc := 99) dX11_stay_99 rfl ?_
            refine V_getR (pc := 100) fX11_26 sC0 rfl dX11_stay_100 ?_
            refine V_aload_n (pc := 103) dX11_stay_103 rfl ?_
            refine V_getR (pc := 104) fX11_47 sC0 rfl dX11_stay_104 ?_
            refine V_iload_n (pc := 107) dX11_stay_107 rfl ?_
            refine V_iload_n (pc := 108) dX11_stay_108 rfl ?_
            refine V_callVi [.int x2, .int v1] (pc := 109) kX3_lastStanding lX11_239 sC6 rfl rfl (Nat.le_of_ble_eq_true rfl) rfl (Nat.le_of_ble_eq_true rfl) dX11_stay_109 ?_
            refine Ci.mono h ?_
            intro x6 M6 h
            refine V_callVi [.int x6] (pc := 112) kX1_gatheredAbove lX11_245 sC3 rfl rfl (Nat.le_of_ble_eq_true rfl) rfl (Nat.le_of_ble_eq_true rfl) dX11_stay_112 ?_
            refine Ci.mono h ?_
            intro x7 M7 h
            exact V_iret dX11_stay_115 rfl h
        · have h := h.2 c
          refine V_ldc (pc := 47) dX11_stay_47 nX11_238 ?_
          exact V_iret dX11_stay_49 rfl h
      · have h := h.2 c
        refine V_ldc (pc := 17) dX11_stay_17 nX11_91 ?_
        exact V_iret dX11_stay_19 rfl h
theorem wp_X11_sure {G : GV} {k : Nat} {M : Mem} {q : Int64 → Mem → Prop} {v1 : Int32} {v2 : Int32} (h : Ci shC G mX11_noLine (k + 6) [.ref (G.2.1 0), .int v1] M (fun x1 M1 => ((x1 ≠ 0 → q (-1000001) M1) ∧ (x1 = 0 → Ci shC G mX11_noLine (k + 6) [.ref (G.2.1 0), .int v2] M1 (fun x2 M2 => ((x2 = 0 → Ci shC G mX7_rivalsWithBoth (k + 6) [.ref (G.2.1 9), .int v1, .int v2] M2 (fun x3 M3 => q (Int32.toInt64 x3) M3)) ∧ (¬ x2 = 0 → q (-1000001) M2))))))) : Cl shC G mX11_sure (k + 7) [.ref (G.2.1 0), .int v1, .int v2] M q := by
  unfold Cl
  show V _ _ _ _ _ [(0, .ref (G.2.1 0)), (1, .int v1), (2, .int v2)] _ _ _
  refine V_aload_n (pc := 0) dX11_sure_0 rfl ?_
  refine V_iload_n (pc := 1) dX11_sure_1 rfl ?_
  refine V_callVi [.int v1] (pc := 2) kX11_noLine lX11_154 sC0 rfl rfl (Nat.le_of_ble_eq_true rfl) rfl (Nat.le_of_ble_eq_true rfl) dX11_sure_2 ?_
  refine Ci.mono h ?_
  intro x1 M1 h
  refine V_if_ne (tgt := 16) (pc := 5) dX11_sure_5 rfl (fun c => ?_) (fun c => ?_)
  · have h := h.1 c
    refine V_ldc2 (pc := 16) dX11_sure_16 nX11_227 ?_
    refine V_goto (tgt := 32) (pc := 19) dX11_sure_19 rfl ?_
    exact V_lret dX11_sure_32 rfl h
  · have h := h.2 c
    refine V_aload_n (pc := 8) dX11_sure_8 rfl ?_
    refine V_iload_n (pc := 9) dX11_sure_9 rfl ?_
    refine V_callVi [.int v2] (pc := 10) kX11_noLine lX11_154 sC0 rfl rfl (Nat.le_of_ble_eq_true rfl) rfl (Nat.le_of_ble_eq_true rfl) dX11_sure_10 ?_
    refine Ci.mono h ?_
    intro x2 M2 h
    refine V_if_eq (tgt := 22) (pc := 13) dX11_sure_13 rfl (fun c => ?_) (fun c => ?_)
    · have h := h.1 c
      refine V_aload_n (pc := 22) dX11_sure_22 rfl ?_
      refine V_getR (pc := 23) fX11_69 sC0 rfl dX11_sure_23 ?_
      refine V_iload_n (pc := 26) dX11_sure_26 rfl ?_
      refine V_iload_n (pc := 27) dX11_sure_27 rfl ?_
      refine V_callVi [.int v1, .int v2] (pc := 28) kX7_rivalsWithBoth lX11_232 sC9 rfl rfl (Nat.le_of_ble_eq_true rfl) rfl (Nat.le_of_ble_eq_true rfl) dX11_sure_28 ?_
      refine Ci.mono h ?_
      intro x3 M3 h
      refine V_i2l (pc := 31) dX11_sure_31 ?_
      exact V_lret dX11_sure_32 rfl h
    · have h := h.2 c
      refine V_ldc2 (pc := 16) dX11_sure_16 nX11_227 ?_
      refine V_goto (tgt := 32) (pc := 19) dX11_sure_19 rfl ?_
      exact V_lret dX11_sure_32 rfl h
theorem wp_X11_read {G : GV} {k : Nat} {M : Mem} {q : Int32 → Mem → Prop}  (h : Ci shC G mX8_readAll (k + 8) [.ref (G.2.1 8)] M (fun x1 M1 => ((x1 ≠ 0 → Cv shC G mX11_keepTold (k + 8) [.ref (G.2.1 0)] (mset M1 2 1 0) (fun M2 => q (M2.1 6 8) M2)) ∧ (x1 = 0 → q ((-1000100) - (M1.1 8 7)) (mset (mset M1 2 1 0) 0 11 (M1.1 8 6)))))) : Ci shC G mX11_read (k + 9) [.ref (G.2.1 0)] M q := by
  unfold Ci
  show V _ _ _ _ _ [(0, .ref (G.2.1 0))] _ _ _
  refine V_aload_n (pc := 0) dX11_read_0 rfl ?_
  refine V_getR (pc := 1) fX11_60 sC0 rfl dX11_read_1 ?_
  refine V_callVi [] (pc := 4) kX8_readAll lX11_134 sC8 rfl rfl (Nat.le_of_ble_eq_true rfl) rfl (Nat.le_of_ble_eq_true rfl) dX11_read_4 ?_
  refine Ci.mono h ?_
  intro x1 M1 h
  refine V_istore_n (pc := 7) dX11_read_7 (by decide) ?_
  refine V_lv (lv2 := [(0, .ref (G.2.1 0)), (1, .int x1)]) rfl ?_
  refine V_aload_n (pc := 8) dX11_read_8 rfl ?_
  refine V_getR (pc := 9) fX11_19 sC0 rfl dX11_read_9 ?_
  refine V_iconst (v := 0) (pc := 12) dX11_read_12 rfl ?_
  refine V_putI (pc := 13) fX11_125 p10_1 sC2 rfl dX11_read_13 ?_
  refine V_iload_n (pc := 16) dX11_read_16 rfl ?_
  refine V_if_ne (tgt := 42) (pc := 17) dX11_read_17 rfl (fun c => ?_) (fun c => ?_)
  · have h := h.1 c
    refine V_aload_n (pc := 42) dX11_read_42 rfl ?_
    refine V_callVv [] (pc := 43) kX11_keepTold lX11_148 sC0 rfl rfl (Nat.le_of_ble_eq_true rfl) rfl (Nat.le_of_ble_eq_true rfl) dX11_read_43 ?_
    refine Cv.mono h ?_
    intro M2 h
    refine V_aload_n (pc := 46) dX11_read_46 rfl ?_
    refine V_getR (pc := 47) fX11_47 sC0 rfl dX11_read_47 ?_
    refine V_getI (pc := 50) fX11_151 sC6 rfl dX11_read_50 ?_
    exact V_iret dX11_read_53 rfl h
  · have h := h.2 c
    refine V_aload_n (pc := 20) dX11_read_20 rfl ?_
    refine V_aload_n (pc := 21) dX11_read_21 rfl ?_
    refine V_getR (pc := 22) fX11_60 sC0 rfl dX11_read_22 ?_
    refine V_getI (pc := 25) fX11_138 sC8 rfl dX11_read_25 ?_
    refine V_top (v := (M1.1 8 6)) (by simp [mset, lset, upd]) ?_
    refine V_putI (pc := 28) fX11_141 p11_11 sC0 rfl dX11_read_28 ?_
    refine V_ldc (pc := 31) dX11_read_31 nX11_144 ?_
    refine V_aload_n (pc := 33) dX11_read_33 rfl ?_
    refine V_getR (pc := 34) fX11_60 sC0 rfl dX11_read_34 ?_
    refine V_getI (pc := 37) fX11_145 sC8 rfl dX11_read_37 ?_
    refine V_top (v := (M1.1 8 7)) (by simp [mset, lset, upd]) ?_
    refine V_isub (pc := 40) dX11_read_40 ?_
    exact V_iret dX11_read_41 rfl h
