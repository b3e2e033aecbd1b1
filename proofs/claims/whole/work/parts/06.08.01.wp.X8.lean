theorem wp_X8_readPart {G : GV} {k : Nat} {M : Mem} {q : Int32 → Mem → Prop}  (h : Ci shC G mX10_isWord (k + 6) [.ref (G.2.1 2), .ref (sK G 0)] M (fun x1 M1 => ((x1 = 0 → Ci shC G mX10_isWord (k + 6) [.ref (G.2.1 2), .ref (sK G 1)] M1 (fun x2 M2 => ((x2 = 0 → Ci shC G mX10_isWord (k + 6) [.ref (G.2.1 2), .ref (sK G 2)] M2 (fun x3 M3 => ((x3 = 0 → Ci shC G mX10_isWord (k + 6) [.ref (G.2.1 2), .ref (sK G 3)] M3 (fun x4 M4 => ((x4 = 0 → Ci shC G mX8_fail (k + 6) [.ref (G.2.1 8), .int 1] M4 (fun x5 M5 => (x5 = 0 ∨ x5 = 1) ∧ q x5 M5)) ∧ (¬ x4 = 0 → ((20 ≤ (M4.1 5 5) → Ci shC G mX8_beginPart (k + 6) [.ref (G.2.1 8), .int 0] M4 (fun x6 M6 => ((x6 = 0 → q 0 M6) ∧ (¬ x6 = 0 → Ci shC G mX8_readHouse (k + 6) [.ref (G.2.1 8)] M6 (fun x7 M7 => ((x7 = 0 → q 0 M7) ∧ (¬ x7 = 0 → q 1 M7))))))) ∧ (¬ 20 ≤ (M4.1 5 5) → Ci shC G mX8_beginPart (k + 6) [.ref (G.2.1 8), .int 1] M4 (fun x8 M8 => ((x8 = 0 → q 0 M8) ∧ (¬ x8 = 0 → Ci shC G mX8_readHouse (k + 6) [.ref (G.2.1 8)] M8 (fun x9 M9 => ((x9 = 0 → q 0 M9) ∧ (¬ x9 = 0 → q 1 M9)))))))))))) ∧ (¬ x3 = 0 → ((20 ≤ (M3.1 4 5) → Ci shC G mX8_beginPart (k + 6) [.ref (G.2.1 8), .int 0] M3 (fun x10 M10 => ((x10 = 0 → q 0 M10) ∧ (¬ x10 = 0 → Ci shC G mX8_readOrder (k + 6) [.ref (G.2.1 8)] M10 (fun x11 M11 => ((x11 = 0 → q 0 M11) ∧ (¬ x11 = 0 → q 1 M11))))))) ∧ (¬ 20 ≤ (M3.1 4 5) → Ci shC G mX8_beginPart (k + 6) [.ref (G.2.1 8), .int 1] M3 (fun x12 M12 => ((x12 = 0 → q 0 M12) ∧ (¬ x12 = 0 → Ci shC G mX8_readOrder (k + 6) [.ref (G.2.1 8)] M12 (fun x13 M13 => ((x13 = 0 → q 0 M13) ∧ (¬ x13 = 0 → q 1 M13)))))))))))) ∧ (¬ x2 = 0 → ((12 ≤ (M2.1 6 9) → Ci shC G mX8_beginPart (k + 6) [.ref (G.2.1 8), .int 0] M2 (fun x14 M14 => ((x14 = 0 → q 0 M14) ∧ (¬ x14 = 0 → Ci shC G mX8_readLine (k + 6) [.ref (G.2.1 8)] M14 (fun x15 M15 => ((x15 = 0 → q 0 M15) ∧ (¬ x15 = 0 → q 1 M15))))))) ∧ (¬ 12 ≤ (M2.1 6 9) → Ci shC G mX8_beginPart (k + 6) [.ref (G.2.1 8), .int 1] M2 (fun x16 M16 => ((x16 = 0 → q 0 M16) ∧ (¬ x16 = 0 → Ci shC G mX8_readLine (k + 6) [.ref (G.2.1 8)] M16 (fun x17 M17 => ((x17 = 0 → q 0 M17) ∧ (¬ x17 = 0 → q 1 M17)))))))))))) ∧ (¬ x1 = 0 → ((10 ≤ (M1.1 3 4) → Ci shC G mX8_beginPart (k + 6) [.ref (G.2.1 8), .int 0] M1 (fun x18 M18 => ((x18 = 0 → q 0 M18) ∧ (¬ x18 = 0 → Ci shC G mX8_readBook (k + 6) [.ref (G.2.1 8)] M18 (fun x19 M19 => ((x19 = 0 → q 0 M19) ∧ (¬ x19 = 0 → q 1 M19))))))) ∧ (¬ 10 ≤ (M1.1 3 4) → Ci shC G mX8_beginPart (k + 6) [.ref (G.2.1 8), .int 1] M1 (fun x20 M20 => ((x20 = 0 → q 0 M20) ∧ (¬ x20 = 0 → Ci shC G mX8_readBook (k + 6) [.ref (G.2.1 8)] M20 (fun x21 M21 => ((x21 = 0 → q 0 M21) ∧ (¬ x21 = 0 → q 1 M21)))))))))))) : Ci shC G mX8_readPart (k + 7) [.ref (G.2.1 8)] M q := by
  unfold Ci
  show V _ _ _ _ _ [(0, .ref (G.2.1 8))] _ _ _
  refine V_aload_n (pc := 0) dX8_readPart_0 rfl ?_
  refine V_getR (pc := 1) fX8_9 sC8 rfl dX8_readPart_1 ?_
  refine V_ldcS (i := 0) (pc := 4) (by decide) rfl dX8_readPart_4 ?_
  refine V_callVi [.ref (sK G 0)] (pc := 6) kX10_isWord lX8_66 sC2 rfl rfl (Nat.le_of_ble_eq_true rfl) rfl (Nat.le_of_ble_eq_true rfl) dX8_readPart_6 ?_
  refine Ci.mono h ?_
  intro x1 M1 h
  refine V_if_eq (tgt := 49) (pc := 9) dX8_readPart_9 rfl (fun c => ?_) (fun c => ?_)
  · have h := h.1 c
    refine V_aload_n (pc := 49) dX8_readPart_49 rfl ?_
    refine V_getR (pc := 50) fX8_9 sC8 rfl dX8_readPart_50 ?_
    refine V_ldcS (i := 1) (pc := 53) (by decide) rfl dX8_readPart_53 ?_
    refine V_callVi [.ref (sK G 1)] (pc := 55) kX10_isWord lX8_66 sC2 rfl rfl (Nat.le_of_ble_eq_true rfl) rfl (Nat.le_of_ble_eq_true rfl) dX8_readPart_55 ?_
    refine Ci.mono h ?_
    intro x2 M2 h
    refine V_if_eq (tgt := 98) (pc := 58) dX8_readPart_58 rfl (fun c => ?_) (fun c => ?_)
    · have h := h.1 c
      refine V_aload_n (pc := 98) dX8_readPart_98 rfl ?_
      refine V_getR (pc := 99) fX8_9 sC8 rfl dX8_readPart_99 ?_
      refine V_ldcS (i := 2) (pc := 102) (by decide) rfl dX8_readPart_102 ?_
      refine V_callVi [.ref (sK G 2)] (pc := 104) kX10_isWord lX8_66 sC2 rfl rfl (Nat.le_of_ble_eq_true rfl) rfl (Nat.le_of_ble_eq_true rfl) dX8_readPart_104 ?_
      refine Ci.mono h ?_
      intro x3 M3 h
      refine V_if_eq (tgt := 147) (pc := 107) dX8_readPart_107 rfl (fun c => ?_) (fun c => ?_)
      · have h := h.1 c
        refine V_aload_n (pc := 147) dX8_readPart_147 rfl ?_
        refine V_getR (pc := 148) fX8_9 sC8 rfl dX8_readPart_148 ?_
        refine V_ldcS (i := 3) (pc := 151) (by decide) rfl dX8_readPart_151 ?_
        refine V_callVi [.ref (sK G 3)] (pc := 153) kX10_isWord lX8_66 sC2 rfl rfl (Nat.le_of_ble_eq_true rfl) rfl (Nat.le_of_ble_eq_true rfl) dX8_readPart_153 ?_
        refine Ci.mono h ?_
        intro x4 M4 h
        refine V_if_eq (tgt := 196) (pc := 156) dX8_readPart_156 rfl (fun c => ?_) (fun c => ?_)
        · have h := h.1 c
          refine V_aload_n (pc := 196) dX8_readPart_196 rfl ?_
          refine V_iconst (v := 1) (pc := 197) dX8_readPart_197 rfl ?_
          refine V_callVi [.int 1] (pc := 198) kX8_fail lX8_92 sC8 rfl rfl (Nat.le_of_ble_eq_true rfl) rfl (Nat.le_of_ble_eq_true rfl) dX8_readPart_198 ?_
          refine Ci.mono h ?_
          intro x5 M5 h
          exact V_zret dX8_readPart_201 rfl h.1 h.2
        · have h := h.2 c
          refine V_aload_n (pc := 159) dX8_readPart_159 rfl ?_
          refine V_aload_n (pc := 160) dX8_readPart_160 rfl ?_
          refine V_getR (pc := 161) fX8_27 sC8 rfl dX8_readPart_161 ?_
          refine V_getI (pc := 164) fX8_51 sC5 rfl dX8_readPart_164 ?_
          refine V_bipush (v := 20) (pc := 167) dX8_readPart_167 rfl ?_
          refine V_icmp_ge (tgt := 176) (pc := 169) dX8_readPart_169 rfl (fun c => ?_) (fun c => ?_)
          · have h := h.1 c
            refine V_iconst (v := 0) (pc := 176) dX8_readPart_176 rfl ?_
            refine V_callVi [.int 0] (pc := 177) kX8_beginPart lX8_70 sC8 rfl rfl (Nat.le_of_ble_eq_true rfl) rfl (Nat.le_of_ble_eq_true rfl) dX8_readPart_177 ?_
            refine Ci.mono h ?_
            intro x6 M6 h
            refine V_if_eq (tgt := 194) (pc := 180) dX8_readPart_180 rfl (fun c => ?_) (fun c => ?_)
            · have h := h.1 c
              refine V_iconst (v := 0) (pc := 194) dX8_readPart_194 rfl ?_
              exact V_zret dX8_readPart_195 rfl (Or.inl rfl) h
            · have h := h.2 c
              refine V_aload_n (pc := 183) dX8_readPart_183 rfl ?_
              refine V_callVi [] (pc := 184) kX8_readHouse lX8_89 sC8 rfl rfl (Nat.le_of_ble_eq_true rfl) rfl (Nat.le_of_ble_eq_true rfl) dX8_readPart_184 ?_
              refine Ci.mono h ?_
              intro x7 M7 h
              refine V_if_eq (tgt := 194) (pc := 187) dX8_readPart_187 rfl (fun c => ?_) (fun c => ?_)
              · have h := h.1 c
                refine V_iconst (v := 0) (pc := 194) dX8_readPart_194 rfl ?_
                exact V_zret dX8_readPart_195 rfl (Or.inl rfl) h
              · have h := h.2 c
                refine V_iconst (v := 1) (pc := 190) dX8_readPart_190 rfl ?_
                refine V_goto (tgt := 195) (pc := 191) dX8_readPart_191 rfl ?_
                exact V_zret dX8_readPart_195 rfl (Or.inr rfl) h
          · have h := h.2 c
            refine V_iconst (v := 1) (pc := 172) dX8_readPart_172 rfl ?_
            refine V_goto (tgt := 177) (pc := 173) dX8_readPart_173 rfl ?_
            refine V_callVi [.int 1] (pc := 177) kX8_beginPart lX8_70 sC8 rfl rfl (Nat.le_of_ble_eq_true rfl) rfl (Nat.le_of_ble_eq_true rfl) dX8_readPart_177 ?_
            refine Ci.mono h ?_
            intro x8 M8 h
            refine V_if_eq (tgt := 194) (pc := 180) dX8_readPart_180 rfl (fun c => ?_) (fun c => ?_)
            · have h := h.1 c
              refine V_iconst (v := 0) (pc := 194) dX8_readPart_194 rfl ?_
              exact V_zret dX8_readPart_195 rfl (Or.inl rfl) h
            · have h := h.2 c
              refine V_aload_n (pc := 183) dX8_readPart_183 rfl ?_
              refine V_callVi [] (pc := 184) kX8_readHouse lX8_89 sC8 rfl rfl (Nat.le_of_ble_eq_true rfl) rfl (Nat.le_of_ble_eq_true rfl) dX8_readPart_184 ?_
              refine Ci.mono h ?_
              intro x9 M9 h
              refine V_if_eq (tgt := 194) (pc := 187) dX8_readPart_187 rfl (fun c => ?_) (fun c => ?_)
              · have h := h.1 c
                refine V_iconst (v := 0) (pc := 194) dX8_readPart_194 rfl ?_
                exact V_zret dX8_readPart_195 rfl (Or.inl rfl) h
              · have h := h.2 c
                refine V_iconst (v := 1) (pc := 190) dX8_readPart_190 rfl ?_
                refine V_goto (tgt := 195) (pc := 191) dX8_readPart_191 rfl ?_
                exact V_zret dX8_readPart_195 rfl (Or.inr rfl) h
      · have h := h.2 c
        refine V_aload_n (pc := 110) dX8_readPart_110 rfl ?_
        refine V_aload_n (pc := 111) dX8_readPart_111 rfl ?_
        refine V_getR (pc := 112) fX8_23 sC8 rfl dX8_readPart_112 ?_
        refine V_getI (pc := 115) fX8_47 sC4 rfl dX8_readPart_115 ?_
        refine V_bipush (v := 20) (pc := 118) dX8_readPart_118 rfl ?_
        refine V_icmp_ge (tgt := 127) (pc := 120) dX8_readPart_120 rfl (fun c => ?_) (fun c => ?_)
        · have h := h.1 c
          refine V_iconst (v := 0) (pc := 127) dX8_readPart_127 rfl ?_
          refine V_callVi [.int 0] (pc := 128) kX8_beginPart lX8_70 sC8 rfl rfl (Nat.le_of_ble_eq_true rfl) rfl (Nat.le_of_ble_eq_true rfl) dX8_readPart_128 ?_
          refine Ci.mono h ?_
          intro x10 M10 h
          refine V_if_eq (tgt := 145) (pc := 131) dX8_readPart_131 rfl (fun c => ?_) (fun c => ?_)
          · have h := h.1 c
            refine V_iconst (v := 0) (pc := 145) dX8_readPart_145 rfl ?_
            exact V_zret dX8_readPart_146 rfl (Or.inl rfl) h
          · have h := h.2 c
            refine V_aload_n (pc := 134) dX8_readPart_134 rfl ?_
            refine V_callVi [] (pc := 135) kX8_readOrder lX8_84 sC8 rfl rfl (Nat.le_of_ble_eq_true rfl) rfl (Nat.le_of_ble_eq_true rfl) dX8_readPart_135 ?_
            refine Ci.mono h ?_
            intro x11 M11 h
            refine V_if_eq (tgt := 145) (pc := 138) dX8_readPart_138 rfl (fun c => ?_) (fun c => ?_)
            · have h := h.1 c
              refine V_iconst (v := 0) (pc := 145) dX8_readPart_145 rfl ?_
              exact V_zret dX8_readPart_146 rfl (Or.inl rfl) h
            · have h := h.2 c
              refine V_iconst (v := 1) (pc := 141) dX8_readPart_141 rfl ?_
              refine V_goto (tgt := 146) (pc := 142) dX8_readPart_142 rfl ?_
              exact V_zret dX8_readPart_146 rfl (Or.inr rfl) h
        · have h := h.2 c
          refine V_iconst (v := 1) (pc := 123) dX8_readPart_123 rfl ?_
          refine V_goto (tgt := 128) (pc := 124) dX8_readPart_124 rfl ?_
          refine V_callVi [.int 1] (pc := 128) kX8_beginPart lX8_70 sC8 rfl rfl (Nat.le_of_ble_eq_true rfl) rfl (Nat.le_of_ble_eq_true rfl) dX8_readPart_128 ?_
          refine Ci.mono h ?_
          intro x12 M12 h
          refine V_if_eq (tgt := 145) (pc := 131) dX8_readPart_131 rfl (fun c => ?_) (fun c => ?_)
          · have h := h.1 c
            refine V_iconst (v := 0) (pc := 145) dX8_readPart_145 rfl ?_
            exact V_zret dX8_readPart_146 rfl (Or.inl rfl) h
          · have h := h.2 c
            refine V_aload_n (pc := 134) dX8_readPart_134 rfl ?_
            refine V_callVi [] (pc := 135) kX8_readOrder lX8_84 sC8 rfl rfl (Nat.le_of_ble_eq_true rfl) rfl (Nat.le_of_ble_eq_true rfl) dX8_readPart_135 ?_
            refine Ci.mono h ?_
            intro x13 M13 h
            refine V_if_eq (tgt := 145) (pc := 138) dX8_readPart_138 rfl (fun c => ?_) (fun c => ?_)
            · have h := h.1 c
              refine V_iconst (v := 0) (pc := 145) dX8_readPart_145 rfl ?_
              exact V_zret dX8_readPart_146 rfl (Or.inl rfl) h
            · have h := h.2 c
              refine V_iconst (v := 1) (pc := 141) dX8_readPart_141 rfl ?_
              refine V_goto (tgt := 146) (pc := 142) dX8_readPart_142 rfl ?_
              exact V_zret dX8_readPart_146 rfl (Or.inr rfl) h
    · have h := h.2 c
      refine V_aload_n (pc := 61) dX8_readPart_61 rfl ?_
      refine V_aload_n (pc := 62) dX8_readPart_62 rfl ?_
      refine V_getR (pc := 63) fX8_19 sC8 rfl dX8_readPart_63 ?_
      refine V_getI (pc := 66) fX8_43 sC6 rfl dX8_readPart_66 ?_
      refine V_bipush (v := 12) (pc := 69) dX8_readPart_69 rfl ?_
      refine V_icmp_ge (tgt := 78) (pc := 71) dX8_readPart_71 rfl (fun c => ?_) (fun c => ?_)
      · have h := h.1 c
        refine V_iconst (v := 0) (pc := 78) dX8_readPart_78 rfl ?_
        refine V_callVi [.int 0] (pc := 79) kX8_beginPart lX8_70 sC8 rfl rfl (Nat.le_of_ble_eq_true rfl) rfl (Nat.le_of_ble_eq_true rfl) dX8_readPart_79 ?_
        refine Ci.mono h ?_
        intro x14 M14 h
        refine V_if_eq (tgt := 96) (pc := 82) dX8_readPart_82 rfl (fun c => ?_) (fun c => ?_)
        · have h := h.1 c
          refine V_iconst (v := 0) (pc := 96) dX8_readPart_96 rfl ?_
          exact V_zret dX8_readPart_97 rfl (Or.inl rfl) h
        · have h := h.2 c
          refine V_aload_n (pc := 85) dX8_readPart_85 rfl ?_
          refine V_callVi [] (pc := 86) kX8_readLine lX8_79 sC8 rfl rfl (Nat.le_of_ble_eq_true rfl) rfl (Nat.le_of_ble_eq_true rfl) dX8_readPart_86 ?_
          refine Ci.mono h ?_
          intro x15 M15 h
          refine V_if_eq (tgt := 96) (pc := 89) dX8_readPart_89 rfl (fun c => ?_) (fun c => ?_)
          · have h := h.1 c
            refine V_iconst (v := 0) (pc := 96) dX8_readPart_96 rfl ?_
            exact V_zret dX8_readPart_97 rfl (Or.inl rfl) h
          · have h := h.2 c
            refine V_iconst (v := 1) (pc := 92) dX8_readPart_92 rfl ?_
            refine V_goto (tgt := 97) (pc := 93) dX8_readPart_93 rfl ?_
            exact V_zret dX8_readPart_97 rfl (Or.inr rfl) h
      · have h := h.2 c
        refine V_iconst (v := 1) (pc := 74) dX8_readPart_74 rfl ?_
        refine V_goto (tgt := 79) (pc := 75) dX8_readPart_75 rfl ?_
        refine V_callVi [.int 1] (pc := 79) kX8_beginPart lX8_70 sC8 rfl rfl (Nat.le_of_ble_eq_true rfl) rfl (Nat.le_of_ble_eq_true rfl) dX8_readPart_79 ?_
        refine Ci.mono h ?_
        intro x16 M16 h
        refine V_if_eq (tgt := 96) (pc := 82) dX8_readPart_82 rfl (fun c => ?_) (fun c => ?_)
        · have h := h.1 c
          refine V_iconst (v := 0) (pc := 96) dX8_readPart_96 rfl ?_
          exact V_zret dX8_readPart_97 rfl (Or.inl rfl) h
        · have h := h.2 c
          refine V_aload_n (pc := 85) dX8_readPart_85 rfl ?_
          refine V_callVi [] (pc := 86) kX8_readLine lX8_79 sC8 rfl rfl (Nat.le_of_ble_eq_true rfl) rfl (Nat.le_of_ble_eq_true rfl) dX8_readPart_86 ?_
          refine Ci.mono h ?_
          intro x17 M17 h
          refine V_if_eq (tgt := 96) (pc := 89) dX8_readPart_89 rfl (fun c => ?_) (fun c => ?_)
          · have h := h.1 c
            refine V_iconst (v := 0) (pc := 96) dX8_readPart_96 rfl ?_
            exact V_zret dX8_readPart_97 rfl (Or.inl rfl) h
          · have h := h.2 c
            refine V_iconst (v := 1) (pc := 92) dX8_readPart_92 rfl ?_
            refine V_goto (tgt := 97) (pc := 93) dX8_readPart_93 rfl ?_
            exact V_zret dX8_readPart_97 rfl (Or.inr rfl) h
  · have h := h.2 c
    refine V_aload_n (pc := 12) dX8_readPart_12 rfl ?_
    refine V_aload_n (pc := 13) dX8_readPart_13 rfl ?_
    refine V_getR (pc := 14) fX8_15 sC8 rfl dX8_readPart_14 ?_
    refine V_getI (pc := 17) fX8_37 sC3 rfl dX8_readPart_17 ?_
    refine V_bipush (v := 10) (pc := 20) dX8_readPart_20 rfl ?_
    refine V_icmp_ge (tgt := 29) (pc := 22) dX8_readPart_22 rfl (fun c => ?_) (fun c => ?_)
    · have h := h.1 c
      refine V_iconst (v := 0) (pc := 29) dX8_readPart_29 rfl ?_
      refine V_callVi [.int 0] (pc := 30) kX8_beginPart lX8_70 sC8 rfl rfl (Nat.le_of_ble_eq_true rfl) rfl (Nat.le_of_ble_eq_true rfl) dX8_readPart_30 ?_
      refine Ci.mono h ?_
      intro x18 M18 h
      refine V_if_eq (tgt := 47) (pc := 33) dX8_readPart_33 rfl (fun c => ?_) (fun c => ?_)
      · have h := h.1 c
        refine V_iconst (v := 0) (pc := 47) dX8_readPart_47 rfl ?_
        exact V_zret dX8_readPart_48 rfl (Or.inl rfl) h
      · have h := h.2 c
        refine V_aload_n (pc := 36) dX8_readPart_36 rfl ?_
        refine V_callVi [] (pc := 37) kX8_readBook lX8_74 sC8 rfl rfl (Nat.le_of_ble_eq_true rfl) rfl (Nat.le_of_ble_eq_true rfl) dX8_readPart_37 ?_
        refine Ci.mono h ?_
        intro x19 M19 h
        refine V_if_eq (tgt := 47) (pc := 40) dX8_readPart_40 rfl (fun c => ?_) (fun c => ?_)
        · have h := h.1 c
          refine V_iconst (v := 0) (pc := 47) dX8_readPart_47 rfl ?_
          exact V_zret dX8_readPart_48 rfl (Or.inl rfl) h
        · have h := h.2 c
          refine V_iconst (v := 1) (pc := 43) dX8_readPart_43 rfl ?_
          refine V_goto (tgt := 48) (pc := 44) dX8_readPart_44 rfl ?_
          exact V_zret dX8_readPart_48 rfl (Or.inr rfl) h
    · have h := h.2 c
      refine V_iconst (v := 1) (pc := 25) dX8_readPart_25 rfl ?_
      refine V_goto (tgt := 30) (pc := 26) dX8_readPart_26 rfl ?_
      refine V_callVi [.int 1] (pc := 30) kX8_beginPart lX8_70 sC8 rfl rfl (Nat.le_of_ble_eq_true rfl) rfl (Nat.le_of_ble_eq_true rfl) dX8_readPart_30 ?_
      refine Ci.mono h ?_
      intro x20 M20 h
      refine V_if_eq (tgt := 47) (pc := 33) dX8_readPart_33 rfl (fun c => ?_) (fun c => ?_)
      · have h := h.1 c
        refine V_iconst (v := 0) (pc := 47) dX8_readPart_47 rfl ?_
        exact V_zret dX8_readPart_48 rfl (Or.inl rfl) h
      · have h := h.2 c
        refine V_aload_n (pc := 36) dX8_readPart_36 rfl ?_
        refine V_callVi [] (pc := 37) kX8_readBook lX8_74 sC8 rfl rfl (Nat.le_of_ble_eq_true rfl) rfl (Nat.le_of_ble_eq_true rfl) dX8_readPart_37 ?_
        refine Ci.mono h ?_
        intro x21 M21 h
        refine V_if_eq (tgt := 47) (pc := 40) dX8_readPart_40 rfl (fun c => ?_) (fun c => ?_)
        · have h := h.1 c
          refine V_iconst (v := 0) (pc := 47) dX8_readPart_47 rfl ?_
          exact V_zret dX8_readPart_48 rfl (Or.inl rfl) h
        · have h := h.2 c
          refine V_iconst (v := 1) (pc := 43) dX8_readPart_43 rfl ?_
          refine V_goto (tgt := 48) (pc := 44) dX8_readPart_44 rfl ?_
          exact V_zret dX8_readPart_48 rfl (Or.inr rfl) h
theorem wp_X8_readAll {G : GV} {k : Nat} {M : Mem} {q : Int32 → Mem → Prop}  (h : Cv shC G mX10_rewind (k + 7) [.ref (G.2.1 2)] (mset (mset (mset (mset M 3 4 (M.1 3 3)) 6 9 (M.1 6 8)) 4 5 (M.1 4 4)) 5 5 (M.1 5 4)) (fun M1 => V shC G mX8_readAll (k + 8) 65 [(0, .ref (G.2.1 8)), (1, .int 0)] [] M1 (Qi q))) : Ci shC G mX8_readAll (k + 8) [.ref (G.2.1 8)] M q := by
  unfold Ci
  show V _ _ _ _ _ [(0, .ref (G.2.1 8))] _ _ _
  refine V_aload_n (pc := 0) dX8_readAll_0 rfl ?_
  refine V_getR (pc := 1) fX8_15 sC8 rfl dX8_readAll_1 ?_
  refine V_aload_n (pc := 4) dX8_readAll_4 rfl ?_
  refine V_getR (pc := 5) fX8_15 sC8 rfl dX8_readAll_5 ?_
  refine V_getI (pc := 8) fX8_31 sC3 rfl dX8_readAll_8 ?_
  refine V_putI (pc := 11) fX8_37 p1_4 sC3 rfl dX8_readAll_11 ?_
  refine V_aload_n (pc := 14) dX8_readAll_14 rfl ?_
  refine V_getR (pc := 15) fX8_19 sC8 rfl dX8_readAll_15 ?_
  refine V_aload_n (pc := 18) dX8_readAll_18 rfl ?_
  refine V_getR (pc := 19) fX8_19 sC8 rfl dX8_readAll_19 ?_
  refine V_getI (pc := 22) fX8_40 sC6 rfl dX8_readAll_22 ?_
  refine V_top (v := (M.1 6 8)) (by simp [mset, lset, upd]) ?_
  refine V_putI (pc := 25) fX8_43 p3_9 sC6 rfl dX8_readAll_25 ?_
  refine V_aload_n (pc := 28) dX8_readAll_28 rfl ?_
  refine V_getR (pc := 29) fX8_23 sC8 rfl dX8_readAll_29 ?_
  refine V_aload_n (pc := 32) dX8_readAll_32 rfl ?_
  refine V_getR (pc := 33) fX8_23 sC8 rfl dX8_readAll_33 ?_
  refine V_getI (pc := 36) fX8_44 sC4 rfl dX8_readAll_36 ?_
  refine V_top (v := (M.1 4 4)) (by simp [mset, lset, upd]) ?_
  refine V_putI (pc := 39) fX8_47 p6_5 sC4 rfl dX8_readAll_39 ?_
  refine V_aload_n (pc := 42) dX8_readAll_42 rfl ?_
  refine V_getR (pc := 43) fX8_27 sC8 rfl dX8_readAll_43 ?_
  refine V_aload_n (pc := 46) dX8_readAll_46 rfl ?_
  refine V_getR (pc := 47) fX8_27 sC8 rfl dX8_readAll_47 ?_
  refine V_getI (pc := 50) fX8_48 sC5 rfl dX8_readAll_50 ?_
  refine V_top (v := (M.1 5 4)) (by simp [mset, lset, upd]) ?_
  refine V_putI (pc := 53) fX8_51 p2_5 sC5 rfl dX8_readAll_53 ?_
  refine V_aload_n (pc := 56) dX8_readAll_56 rfl ?_
  refine V_getR (pc := 57) fX8_9 sC8 rfl dX8_readAll_57 ?_
  refine V_callVv [] (pc := 60) kX10_rewind lX8_52 sC2 rfl rfl (Nat.le_of_ble_eq_true rfl) rfl (Nat.le_of_ble_eq_true rfl) dX8_readAll_60 ?_
  refine Cv.mono h ?_
  intro M1 h
  refine V_iconst (v := 0) (pc := 63) dX8_readAll_63 rfl ?_
  refine V_istore_n (pc := 64) dX8_readAll_64 (by decide) ?_
  refine V_lv (lv2 := [(0, .ref (G.2.1 8)), (1, .int 0)]) rfl ?_
  exact V_sub h ⟨rfl, rfl, trivial⟩
theorem wp_X8_readAll_65 {G : GV} {k : Nat} {M : Mem} {q : Int32 → Mem → Prop} {v1 : Int32} (h : ((600 < v1 → q 1 M) ∧ (¬ 600 < v1 → (((M.1 2 2) ≠ 0 → Ci shC G mX8_readPart (k + 7) [.ref (G.2.1 8)] M (fun x1 M1 => ((x1 ≠ 0 → V shC G mX8_readAll (k + 8) 65 [(0, .ref (G.2.1 8)), (1, .int (v1 + 1))] [] M1 (Qi q)) ∧ (x1 = 0 → q 0 M1)))) ∧ ((M.1 2 2) = 0 → q 1 M))))) : V shC G mX8_readAll (k + 8) 65 [(0, .ref (G.2.1 8)), (1, .int v1)] [] M (Qi q) := by
  refine V_iload_n (pc := 65) dX8_readAll_65 rfl ?_
  refine V_sipush (v := 600) (pc := 66) dX8_readAll_66 rfl ?_
  refine V_icmp_gt (tgt := 99) (pc := 69) dX8_readAll_69 rfl (fun c => ?_) (fun c => ?_)
  · have h := h.1 c
    refine V_iconst (v := 1) (pc := 99) dX8_readAll_99 rfl ?_
    exact V_zret dX8_readAll_100 rfl (Or.inr rfl) h
  · have h := h.2 c
    refine V_aload_n (pc := 72) dX8_readAll_72 rfl ?_
    refine V_getR (pc := 73) fX8_9 sC8 rfl dX8_readAll_73 ?_
    refine V_getI (pc := 76) fX8_57 sC2 rfl dX8_readAll_76 ?_
    refine V_if_ne (tgt := 84) (pc := 79) dX8_readAll_79 rfl (fun c => ?_) (fun c => ?_)
    · have h := h.1 c
      refine V_aload_n (pc := 84) dX8_readAll_84 rfl ?_
      refine V_callVi [] (pc := 85) kX8_readPart lX8_60 sC8 rfl rfl (Nat.le_of_ble_eq_true rfl) rfl (Nat.le_of_ble_eq_true rfl) dX8_readAll_85 ?_
      refine Ci.mono h ?_
      intro x1 M1 h
      refine V_if_ne (tgt := 93) (pc := 88) dX8_readAll_88 rfl (fun c => ?_) (fun c => ?_)
      · have h := h.1 c
        refine V_iinc (pc := 93) dX8_readAll_93 rfl (by decide) ?_
        refine V_lv (lv2 := [(0, .ref (G.2.1 8)), (1, .int (v1 + 1))]) rfl ?_
        refine V_goto (tgt := 65) (pc := 96) dX8_readAll_96 rfl ?_
        exact V_sub h ⟨rfl, rfl, trivial⟩
      · have h := h.2 c
        refine V_iconst (v := 0) (pc := 91) dX8_readAll_91 rfl ?_
        exact V_zret dX8_readAll_92 rfl (Or.inl rfl) h
    · have h := h.2 c
      refine V_iconst (v := 1) (pc := 82) dX8_readAll_82 rfl ?_
      exact V_zret dX8_readAll_83 rfl (Or.inr rfl) h
