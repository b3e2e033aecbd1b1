/-! contracts of the texts' members, of codeOf, of arraycopy's caller -/
section TXT
variable {sh : List SE} {G : GV} {k : Nat} {M : Mem}
theorem c_coder {q : Int32 → Mem → Prop} {i : Nat} (hi : i < 10) (h : q 0 M) : Ci sh G mJ0_coder_7d493 k [.ref (sK G i)] M q := by
  unfold Ci
  refine V_gsCS (pc := 0) dJ0_coder_7d493_0 gJ0_38 ?_
  refine V_if_eq (tgt := 13) (pc := 3) dJ0_coder_7d493_3 rfl (fun c => absurd c (by decide)) (fun c => ?_)
  refine V_aload_n (pc := 6) dJ0_coder_7d493_6 rfl ?_
  refine V_strCoder (pc := 7) hi dJ0_coder_7d493_7 gJ0_15 ?_
  refine V_goto (tgt := 14) (pc := 10) dJ0_coder_7d493_10 rfl ?_
  exact V_nret dJ0_coder_7d493_14 rfl rfl h
theorem c_isLatin1 {q : Int32 → Mem → Prop} {i : Nat} (hi : i < 10) (h : q 1 M) : Ci sh G mJ0_isLatin1_aae02 k [.ref (sK G i)] M q := by
  unfold Ci
  refine V_gsCS (pc := 0) dJ0_isLatin1_aae02_0 gJ0_38 ?_
  refine V_if_eq (tgt := 17) (pc := 3) dJ0_isLatin1_aae02_3 rfl (fun c => absurd c (by decide)) (fun c => ?_)
  refine V_aload_n (pc := 6) dJ0_isLatin1_aae02_6 rfl ?_
  refine V_strCoder (pc := 7) hi dJ0_isLatin1_aae02_7 gJ0_15 ?_
  refine V_if_ne (tgt := 17) (pc := 10) dJ0_isLatin1_aae02_10 rfl (fun c => absurd rfl c) (fun c => ?_)
  refine V_iconst (v := 1) (pc := 13) dJ0_isLatin1_aae02_13 rfl ?_
  refine V_goto (tgt := 18) (pc := 14) dJ0_isLatin1_aae02_14 rfl ?_
  exact V_nret dJ0_isLatin1_aae02_18 rfl rfl h
theorem s_shr0 : ∀ i, i < 10 → nI (s_len.getD i 0) >>> ((0 : Int32) &&& 31) = nI (s_len.getD i 0) := by decide +kernel
theorem c_length {q : Int32 → Mem → Prop} {i : Nat} (hi : i < 10) (h : q (nI (s_len.getD i 0)) M) : Ci sh G mJ0_length_8abf5 (k + 1) [.ref (sK G i)] M q := by
  unfold Ci
  refine V_aload_n (pc := 0) dJ0_length_8abf5_0 rfl ?_
  refine V_strVal (pc := 1) hi dJ0_length_8abf5_1 gJ0_9 ?_
  refine V_strLen (pc := 4) hi dJ0_length_8abf5_4 ?_
  refine V_aload_n (pc := 5) dJ0_length_8abf5_5 rfl ?_
  refine V_invStr [] (pc := 6) (i := i) hi kJ0_coder_7d493 rfl lJ0_335 rfl (Nat.le_of_ble_eq_true rfl) rfl (Nat.le_of_ble_eq_true rfl) dJ0_length_8abf5_6 (c_coder hi ?_)
  refine V_ishr (pc := 9) dJ0_length_8abf5_9 ?_
  rw [s_shr0 i hi]
  exact V_iret dJ0_length_8abf5_10 rfl h
theorem c_check3 {q : Int32 → Mem → Prop} {a b : Int32} {v : Value} (h1 : ¬ a < 0) (h2 : a < b) (h : q a M) : Ci sh G mJ3_checkIndex_8e157 k [.int a, .int b, v] M q := by
  unfold Ci
  refine V_iload_n (pc := 0) dJ3_checkIndex_8e157_0 rfl ?_
  refine V_if_lt (tgt := 9) (pc := 1) dJ3_checkIndex_8e157_1 rfl (fun c => absurd c h1) (fun c => ?_)
  refine V_iload_n (pc := 4) dJ3_checkIndex_8e157_4 rfl ?_
  refine V_iload_n (pc := 5) dJ3_checkIndex_8e157_5 rfl ?_
  refine V_icmp_lt (tgt := 16) (pc := 6) dJ3_checkIndex_8e157_6 rfl (fun c => ?_) (fun c => absurd h2 c)
  refine V_iload_n (pc := 16) dJ3_checkIndex_8e157_16 rfl ?_
  exact V_iret dJ3_checkIndex_8e157_17 rfl h
theorem c_check0 {q : Mem → Prop} {a b : Int32} (h1 : ¬ a < 0) (h2 : a < b) (h : q M) : Cv sh G mJ0_checkIndex_df160 (k + 1) [.int a, .int b] M q := by
  unfold Cv
  refine V_iload_n (pc := 0) dJ0_checkIndex_df160_0 rfl ?_
  refine V_iload_n (pc := 1) dJ0_checkIndex_df160_1 rfl ?_
  refine V_gsF (pc := 2) dJ0_checkIndex_df160_2 gJ0_1053 ?_ (fun t => ?_)
  · refine V_callSi [.int a, .int b, .null] (pc := 5) kJ3_checkIndex_8e157 lJ0_1059 rfl (Nat.le_of_ble_eq_true rfl) rfl (Nat.le_of_ble_eq_true rfl) dJ0_checkIndex_df160_5 (c_check3 h1 h2 ?_)
    refine V_pop (pc := 8) dJ0_checkIndex_df160_8 rfl ?_
    exact V_vret dJ0_checkIndex_df160_9 rfl h
  · refine V_callSi [.int a, .int b, .ref t] (pc := 5) kJ3_checkIndex_8e157 lJ0_1059 rfl (Nat.le_of_ble_eq_true rfl) rfl (Nat.le_of_ble_eq_true rfl) dJ0_checkIndex_df160_5 (c_check3 h1 h2 ?_)
    refine V_pop (pc := 8) dJ0_checkIndex_df160_8 rfl ?_
    exact V_vret dJ0_checkIndex_df160_9 rfl h
theorem s_char : ∀ i, i < 10 → ∀ j, j < s_len.getD i 0 → (((((s_byt.getD i []).getD j 0) &&& 255).toUInt32 % 65536).toInt32 = (s_byt.getD i []).getD j 0) ∧ narrow .char (.int ((s_byt.getD i []).getD j 0)) = .int ((s_byt.getD i []).getD j 0) := by decide +kernel
theorem s_small : ∀ i, i < 10 → s_len.getD i 0 < 8 := by decide +kernel
theorem c_charAt1 {q : Int32 → Mem → Prop} {i j : Nat} (hi : i < 10) (hj : j < s_len.getD i 0) (h : q ((s_byt.getD i []).getD j 0) M) : Ci sh G mJ1_charAt_3b067 (k + 2) [.ref (sV G i), .int (nI j)] M q := by
  have h8 := s_small i hi
  have hc : ix (nI j) = j := nI_clamp (by omega)
  unfold Ci
  refine V_iload_n (pc := 0) dJ1_charAt_3b067_0 rfl ?_
  refine V_aload_n (pc := 1) dJ1_charAt_3b067_1 rfl ?_
  refine V_strLen (pc := 2) hi dJ1_charAt_3b067_2 ?_
  refine V_callSv [.int (nI j), .int (nI (s_len.getD i 0))] (pc := 3) kJ0_checkIndex_df160 lJ1_9 rfl (Nat.le_of_ble_eq_true rfl) rfl (Nat.le_of_ble_eq_true rfl) dJ1_charAt_3b067_3 (c_check0 (nI_pos (by omega)) (nI_lt hj (by omega)) ?_)
  refine V_aload_n (pc := 6) dJ1_charAt_3b067_6 rfl ?_
  refine V_iload_n (pc := 7) dJ1_charAt_3b067_7 rfl ?_
  refine V_strLd (pc := 8) hi dJ1_charAt_3b067_8 (vp_in_nI hj (by omega)) ?_
  refine V_sipush (v := 255) (pc := 9) dJ1_charAt_3b067_9 rfl ?_
  refine V_iand (pc := 12) dJ1_charAt_3b067_12 ?_
  refine V_i2c (pc := 13) dJ1_charAt_3b067_13 ?_
  rw [hc, (s_char i hi j hj).1]
  exact V_nret dJ1_charAt_3b067_14 rfl (s_char i hi j hj).2 h
theorem c_charAt {q : Int32 → Mem → Prop} {i j : Nat} (hi : i < 10) (hj : j < s_len.getD i 0) (h : q ((s_byt.getD i []).getD j 0) M) : Ci sh G mJ0_charAt_5068e (k + 3) [.ref (sK G i), .int (nI j)] M q := by
  unfold Ci
  refine V_aload_n (pc := 0) dJ0_charAt_5068e_0 rfl ?_
  refine V_invStr [] (pc := 1) (i := i) hi kJ0_isLatin1_aae02 rfl lJ0_492 rfl (Nat.le_of_ble_eq_true rfl) rfl (Nat.le_of_ble_eq_true rfl) dJ0_charAt_5068e_1 (c_isLatin1 hi ?_)
  refine V_if_eq (tgt := 16) (pc := 4) dJ0_charAt_5068e_4 rfl (fun c => absurd c (by decide)) (fun c => ?_)
  refine V_aload_n (pc := 7) dJ0_charAt_5068e_7 rfl ?_
  refine V_strVal (pc := 8) hi dJ0_charAt_5068e_8 gJ0_9 ?_
  refine V_iload_n (pc := 11) dJ0_charAt_5068e_11 rfl ?_
  refine V_callSi [.ref (sV G i), .int (nI j)] (pc := 12) kJ1_charAt_3b067 lJ0_495 rfl (Nat.le_of_ble_eq_true rfl) rfl (Nat.le_of_ble_eq_true rfl) dJ0_charAt_5068e_12 (c_charAt1 hi hj ?_)
  exact V_nret dJ0_charAt_5068e_15 rfl (s_char i hi j hj).2 h
end TXT
/-- codeOf: the code of a letter, 0 outside -/
def codeS (x : Int32) : Int32 := if x < 0 then 0 else if 26 ≤ x then 0 else codes26.getD (ix x) 0
theorem c_codeOf {sh : List SE} {G : GV} {k : Nat} {M : Mem} {q : Int32 → Mem → Prop} {x : Int32} (h : q (codeS x) M) : Ci sh G mX5_codeOf k [.int x] M q := by
  unfold Ci
  refine V_iload_n (pc := 0) dX5_codeOf_0 rfl ?_
  refine V_if_lt (tgt := 12) (pc := 1) dX5_codeOf_1 rfl (fun c => ?_) (fun c => ?_)
  · refine V_iconst (v := 0) (pc := 12) dX5_codeOf_12 rfl ?_
    refine V_goto (tgt := 21) (pc := 13) dX5_codeOf_13 rfl ?_
    refine V_iret dX5_codeOf_21 rfl ?_
    rw [codeS, if_pos c] at h; exact h
  · refine V_iload_n (pc := 4) dX5_codeOf_4 rfl ?_
    refine V_gsCodes (pc := 5) dX5_codeOf_5 gX5_53 ?_
    refine V_tlenC (pc := 8) dX5_codeOf_8 ?_
    refine V_icmp_lt (tgt := 16) (pc := 9) dX5_codeOf_9 rfl (fun c2 => ?_) (fun c2 => ?_)
    · refine V_gsCodes (pc := 16) dX5_codeOf_16 gX5_53 ?_
      refine V_iload_n (pc := 19) dX5_codeOf_19 rfl ?_
      refine V_tldC (pc := 20) dX5_codeOf_20 ?_ ?_
      · intro hc
        rcases hc with hc | hc
        · exact c hc
        · have h1 : x.toInt < 26 := by simpa using Int32.lt_iff_toInt_lt.mp c2
          have h2 : 26 ≤ x.toInt.toNat := hc
          omega
      · refine V_iret dX5_codeOf_21 rfl ?_
        rw [codeS, if_neg c, if_neg (fun c3 => absurd c2 (Int32.not_lt.mpr c3))] at h; exact h
    · refine V_iconst (v := 0) (pc := 12) dX5_codeOf_12 rfl ?_
      refine V_goto (tgt := 21) (pc := 13) dX5_codeOf_13 rfl ?_
      refine V_iret dX5_codeOf_21 rfl ?_
      rw [codeS, if_neg c, if_pos (Int32.not_lt.mp c2)] at h; exact h
theorem wp_X9_move {G : GV} {k : Nat} {M : Mem} {q : Mem → Prop} {v1 v2 v3 v4 v5 : Int32} (h1 : ¬ v1 * 60 + v2 < 0) (h2 : ¬ v3 * 60 + v4 < 0) (h3 : ¬ v5 < 0) (h4 : ix (v1 * 60 + v2) + ix v5 ≤ 480) (h5 : ix (v3 * 60 + v4) + ix v5 ≤ 480) (h : q (aset M 15 (va_cpy (M.1 15) (M.1 15) (ix (v1 * 60 + v2)) (ix (v3 * 60 + v4)) (ix v5)))) : Cv shC G mX9_move (k + 1) [.ref (G.2.1 1), .int v1, .int v2, .int v3, .int v4, .int v5] M q := by
  unfold Cv
  refine V_aload_n (pc := 0) dX9_move_0 rfl ?_
  refine V_getR (pc := 1) fX9_18 sC1 rfl dX9_move_1 ?_
  refine V_iload_n (pc := 4) dX9_move_4 rfl ?_
  refine V_bipush (v := 60) (pc := 5) dX9_move_5 rfl ?_
  refine V_imul (pc := 7) dX9_move_7 ?_
  refine V_iload_n (pc := 8) dX9_move_8 rfl ?_
  refine V_iadd (pc := 9) dX9_move_9 ?_
  refine V_aload_n (pc := 10) dX9_move_10 rfl ?_
  refine V_getR (pc := 11) fX9_18 sC1 rfl dX9_move_11 ?_
  refine V_iload_n (pc := 14) dX9_move_14 rfl ?_
  refine V_bipush (v := 60) (pc := 15) dX9_move_15 rfl ?_
  refine V_imul (pc := 17) dX9_move_17 ?_
  refine V_iload (pc := 18) dX9_move_18 rfl ?_
  refine V_iadd (pc := 20) dX9_move_20 ?_
  refine V_iload (pc := 21) dX9_move_21 rfl ?_
  refine V_copy (pc := 23) dX9_move_23 lX9_21 sC15 h1 h2 h3 h4 h5 (Nat.le_of_ble_eq_true rfl) (by decide) ?_
  exact V_vret dX9_move_26 rfl h
