section VT
variable {sh : List SE} {G : GV} {mi : MI} {k pc : Nat} {lv : List (Nat × Value)} {st : List Value} {M : Mem} {Q : Option Value → Mem → Prop}
abbrev sK (G : GV) (i : Nat) : Nat := G.2.2.2.2.1 i
abbrev sV (G : GV) (i : Nat) : Nat := G.2.2.2.2.2 i
theorem V_gsCS {idx : Nat} (hd : decode (mcode mi) pc = .ok (.getstatic idx, 3)) (hw : Cond.fieldLink (mown mi) idx "java/lang/String" "COMPACT_STRINGS" "Z" ∈ lw_g) (h : V sh G mi k (pc + 3) lv (.int 1 :: st) M Q) : V sh G mi k pc lv st M Q := fun p l e s m args below meth c H locs ls C hP hS hl => va_gets C.1 C.2.1 C.2.2.2.2.2.2.2.2.2.2.2.2.1 hS C.2.2.2.2.1 (C.2.2.2.2.2.2.1 _ hw) (fun x hx => hx) hd (h p l e s m args below meth c H locs ls C hP hS hl)
theorem V_gsF {idx : Nat} (hd : decode (mcode mi) pc = .ok (.getstatic idx, 3)) (hw : Cond.fieldLink (mown mi) idx "jdk/internal/util/Preconditions" "SIOOBE_FORMATTER" "Ljava/util/function/BiFunction;" ∈ lw_g) (h0 : V sh G mi k (pc + 3) lv (.null :: st) M Q) (h1 : ∀ t, V sh G mi k (pc + 3) lv (.ref t :: st) M Q) : V sh G mi k pc lv st M Q := by
  intro p l e s m args below meth c H locs ls C hP hS hl
  rcases C.2.2.2.2.2.2.2.2.2.2.2.2.2 with hz | ⟨t, hz⟩
  · exact va_gets C.1 C.2.1 hz hS C.2.2.2.2.1 (C.2.2.2.2.2.2.1 _ hw) (fun x hx => hx) hd (h0 p l e s m args below meth c H locs ls C hP hS hl)
  · exact va_gets C.1 C.2.1 hz hS C.2.2.2.2.1 (C.2.2.2.2.2.2.1 _ hw) (fun x hx => hx) hd (h1 t p l e s m args below meth c H locs ls C hP hS hl)
theorem V_gsCodes {idx : Nat} (hd : decode (mcode mi) pc = .ok (.getstatic idx, 3)) (hw : Cond.fieldLink (mown mi) idx RX5 "CODES" "[I" ∈ lw_g) (h : V sh G mi k (pc + 3) lv (.ref G.2.2.2.1 :: st) M Q) : V sh G mi k pc lv st M Q := fun p l e s m args below meth c H locs ls C hP hS hl => va_gets C.1 C.2.1 C.2.2.2.2.2.2.2.2.1 hS C.2.2.2.2.1 (C.2.2.2.2.2.2.1 _ hw) (fun x hx => hx) hd (h p l e s m args below meth c H locs ls C hP hS hl)
theorem V_tlenC (hd : decode (mcode mi) pc = .ok (.arraylength, 1)) (h : V sh G mi k (pc + 1) lv (.int 26 :: st) M Q) : V sh G mi k pc lv (.ref G.2.2.2.1 :: st) M Q := fun p l e s m args below meth c H locs ls C hP hS hl => va_tlen C.1 C.2.1 C.2.2.2.2.2.2.2.2.2.1 hS rfl hd (h p l e s m args below meth c H locs ls C hP hS hl)
theorem V_tldC {i : Int32} (hd : decode (mcode mi) pc = .ok (.iaload, 1)) (hin : vp_in i 26) (h : V sh G mi k (pc + 1) lv (.int (codes26.getD (ix i) 0) :: st) M Q) : V sh G mi k pc lv (.int i :: .ref G.2.2.2.1 :: st) M Q := fun p l e s m args below meth c H locs ls C hP hS hl => va_ti C.1 C.2.1 C.2.2.2.2.2.2.2.2.2.1 hS hin rfl hd (h p l e s m args below meth c H locs ls C hP hS hl)
theorem V_strCoder {i idx : Nat} (hi : i < 10) (hd : decode (mcode mi) pc = .ok (.getfield idx, 3)) (hw : Cond.fieldLink (mown mi) idx "java/lang/String" "coder" "B" ∈ lw_g) (h : V sh G mi k (pc + 3) lv (.int 0 :: st) M Q) : V sh G mi k pc lv (.ref (sK G i) :: st) M Q := fun p l e s m args below meth c H locs ls C hP hS hl => vk_getf C.1 C.2.1 (C.2.2.2.2.2.2.2.2.2.2.1.1 i hi).2.1 hS C.2.2.2.2.1 (C.2.2.2.2.2.2.1 _ hw) (fun x hx => hx) hd (h p l e s m args below meth c H locs ls C hP hS hl)
theorem V_strVal {i idx : Nat} (hi : i < 10) (hd : decode (mcode mi) pc = .ok (.getfield idx, 3)) (hw : Cond.fieldLink (mown mi) idx "java/lang/String" "value" "[B" ∈ lw_g) (h : V sh G mi k (pc + 3) lv (.ref (sV G i) :: st) M Q) : V sh G mi k pc lv (.ref (sK G i) :: st) M Q := fun p l e s m args below meth c H locs ls C hP hS hl => vk_getf C.1 C.2.1 (C.2.2.2.2.2.2.2.2.2.2.1.1 i hi).2.2.1 hS C.2.2.2.2.1 (C.2.2.2.2.2.2.1 _ hw) (fun x hx => hx) hd (h p l e s m args below meth c H locs ls C hP hS hl)
theorem V_strLen {i : Nat} (hi : i < 10) (hd : decode (mcode mi) pc = .ok (.arraylength, 1)) (h : V sh G mi k (pc + 1) lv (.int (nI (s_len.getD i 0)) :: st) M Q) : V sh G mi k pc lv (.ref (sV G i) :: st) M Q := fun p l e s m args below meth c H locs ls C hP hS hl => va_tlen C.1 C.2.1 (C.2.2.2.2.2.2.2.2.2.2.1.1 i hi).2.2.2 hS rfl hd (h p l e s m args below meth c H locs ls C hP hS hl)
theorem V_strLd {i : Nat} {j : Int32} (hi : i < 10) (hd : decode (mcode mi) pc = .ok (.baload, 1)) (hin : vp_in j (s_len.getD i 0)) (h : V sh G mi k (pc + 1) lv (.int ((s_byt.getD i []).getD (ix j) 0) :: st) M Q) : V sh G mi k pc lv (.int j :: .ref (sV G i) :: st) M Q := fun p l e s m args below meth c H locs ls C hP hS hl => va_tb C.1 C.2.1 (C.2.2.2.2.2.2.2.2.2.2.1.1 i hi).2.2.2 hS hin rfl hd (h p l e s m args below meth c H locs ls C hP hS hl)
theorem V_ldcS {i : Nat} (hi : i < 10) (hown : mown mi = RX8) (hd : decode (mcode mi) pc = .ok (.ldc (s_idx.getD i 0), 2)) (h : V sh G mi k (pc + 2) lv (.ref (sK G i) :: st) M Q) : V sh G mi k pc lv st M Q := fun p l e s m args below meth c H locs ls C hP hS hl => va_ldcS C.1 C.2.1 C.2.2.2.2.1 (by rw [hown]; exact C.2.2.2.2.2.2.2.2.2.2.2.1 i hi) hd (h p l e s m args below meth c H locs ls C hP hS hl)
theorem V_i2c {x : Int32} (hd : decode (mcode mi) pc = .ok (.i2c, 1)) (h : V sh G mi k (pc + 1) lv (.int ((x.toUInt32 % 65536).toInt32) :: st) M Q) : V sh G mi k pc lv (.int x :: st) M Q := fun p l e s m args below meth c H locs ls C hP hS hl => lv_i2c C.1 C.2.1 hd rfl (h p l e s m args below meth c H locs ls C hP hS hl)
theorem V_nret {q : Int32 → Mem → Prop} {x : Int32} {ty : FieldType} (hd : decode (mcode mi) pc = .ok (.ireturn, 1)) (hr : mi.2.2.2 = some ty) (hn : narrow ty (.int x) = .int x) (h : q x M) : V sh G mi k pc lv [.int x] M (Qi q) := fun p l e s m args below meth c H locs ls C hP hS hl => W.zret C.1 C.2.1 (C.2.2.2.1.trans hr) hn (fun t ht hW => ⟨⟨_, M, rfl, ⟨x, rfl, h⟩, by rw [ht]; exact hP⟩, hS.F ht⟩) hS.2.2 hd C.2.2.2.2.2.1
theorem V_invStr {mi' : MI} {n idx i : Nat} {stk : List Value} (As : List Value) (hi : i < 10) (hk : OKV mi' n) (hcn : mi'.1.cls = "java/lang/String") (hw : Cond.methodLink (mown mi) idx mi'.1 ∈ lw_g) (hn : As.length = n) (hlen : (lg_sl (.ref (sK G i) :: As)).length ≤ mi'.2.2.1) (hs : stk = As.reverse ++ .ref (sK G i) :: st) (hsum : (st.map fun v => v.category).sum ≤ 8) (hd : decode (mcode mi) pc = .ok (.invokevirtual idx, 3))
    (h : Ci sh G mi' k (.ref (sK G i) :: As) M (fun x M' => V sh G mi (k + 1) (pc + 3) lv (.int x :: st) M' Q)) : V sh G mi (k + 1) pc lv stk M Q := by
  intro p l e s m args below meth c H locs ls C hP hS hl
  obtain ⟨⟨k1, k2, k3, k4, k5⟩, k6, k7⟩ := hk
  refine V_goon (k := k + 1) C hS hl (va_runV (As := As) (rest := st) ⟨C.1, C.2.1, C.2.2.1, C.2.2.2.2.1, C.2.2.2.2.2.2.1⟩ (Met_of_V l k4 hlen h) (cwV (C := mi'.1.cls) n C.2.2.2.2.2.2.1 (GoodIn_g ?_) rfl rfl rfl ⟨rfl, k3⟩ ⟨Nat.le_refl _, by show 8 + (mi'.2.2.1 + 11) + 35 * k ≤ 35 * (k + 1); omega⟩) ⟨Pre.blind, ?_, fun U hU hW => ⟨rfl, by rw [hU]; exact hP, C.2.2.2.2.2.2.2.1.moved hW.alike, by rw [hU]; exact C.2.2.2.2.2.2.2.2.to hW (fun a h1 h2 => hS.2.1 a h1 h2)⟩⟩ rfl hn hl.1 hs (lv_room hsum) hd ⟨Nat.le_refl _, Nat.le_refl _⟩) (by rintro v M' ⟨x, rfl, hx⟩; exact hx)
  · intro w hw'
    rcases List.mem_append.mp hw' with hw' | hw'
    · simp only [List.mem_cons, List.not_mem_nil, or_false] at hw'
      rcases hw' with rfl | rfl | rfl | rfl <;> assumption
    · rcases List.mem_cons.mp hw' with rfl | hw'
      · exact k2
      · exact hw'
  · have := vk_recv C.2.2.2.2.2.2.2.2.2.2.1 hi hS
    rw [hcn]
    exact this
theorem w_cpy : Cond.native arraycopyName ∈ lw_g ∧ Cond.static arraycopyName ∈ lw_g ∧ Cond.initialized "java/lang/System" ∈ lw_g := by decide +kernel
theorem V_copy {idx o n : Nat} {rs : List Nat} {sp dp z : Int32} (hd : decode (mcode mi) pc = .ok (.invokestatic idx, 3)) (hw : Cond.methodLink (mown mi) idx arraycopyName ∈ lw_g) (ho : sh[o]? = some (.inl (0, .int, n, rs))) (h1 : ¬ sp < 0) (h2 : ¬ dp < 0) (h3 : ¬ z < 0) (h4 : ix sp + ix z ≤ n) (h5 : ix dp + ix z ≤ n) (hsum : (st.map fun v => v.category).sum ≤ 8) (hlo : nativeFrameWords "java/lang/System" "arraycopy" 5 ≤ 16)
    (h : V sh G mi (k + 1) (pc + 3) lv st (aset M o (va_cpy (M.1 o) (M.1 o) (ix sp) (ix dp) (ix z))) Q) : V sh G mi (k + 1) pc lv (.int z :: .int dp :: .ref (G.2.1 o) :: .int sp :: .ref (G.2.1 o) :: st) M Q := by
  intro p l e s m args below meth c H locs ls C hP hS hl
  refine va_copyi C.1 C.2.1 (C.2.2.1.trans hl.1.symm) C.2.2.2.2.1 (C.2.2.2.2.2.2.1 _ hw) (C.2.2.2.2.2.2.1 _ w_cpy.1) (C.2.2.2.2.2.2.1 _ w_cpy.2.1) (C.2.2.2.2.2.2.1 _ w_cpy.2.2) (C.2.2.2.2.2.2.2.1.at ho) hP (C.2.2.2.2.2.2.2.1.D M) hS o o 0 0 (world_get ho) (world_get ho) rfl rfl rfl h1 h2 h3 h4 h5 (fun _ _ => rfl) (Nat.le_add_left 1 k) (by show _ ≤ 35 * (k + 1); omega) hd (fun H1 locs1 hP1 _ hS1 => ?_)
  rw [world_a ho] at hP1
  exact h p l e s m args below meth c H1 locs1 ls C hP1 hS1 hl
end VT

theorem kJ0_length_8abf5 : OKV mJ0_length_8abf5 0 := ⟨⟨lw_in 104 (by decide +kernel) rfl, lw_in 601 (by decide +kernel) rfl, by decide +kernel, by decide +kernel, by decide⟩, lw_in 599 (by decide +kernel) rfl, lw_in 600 (by decide +kernel) rfl⟩
theorem kJ0_charAt_5068e : OKV mJ0_charAt_5068e 1 := ⟨⟨lw_in 104 (by decide +kernel) rfl, lw_in 615 (by decide +kernel) rfl, by decide +kernel, by decide +kernel, by decide⟩, lw_in 613 (by decide +kernel) rfl, lw_in 614 (by decide +kernel) rfl⟩
theorem kJ0_coder_7d493 : OKV mJ0_coder_7d493 0 := ⟨⟨lw_in 104 (by decide +kernel) rfl, lw_in 605 (by decide +kernel) rfl, by decide +kernel, by decide +kernel, by decide⟩, lw_in 603 (by decide +kernel) rfl, lw_in 604 (by decide +kernel) rfl⟩
theorem kJ0_isLatin1_aae02 : OKV mJ0_isLatin1_aae02 0 := ⟨⟨lw_in 104 (by decide +kernel) rfl, lw_in 619 (by decide +kernel) rfl, by decide +kernel, by decide +kernel, by decide⟩, lw_in 617 (by decide +kernel) rfl, lw_in 618 (by decide +kernel) rfl⟩
theorem kJ0_checkIndex_df160 : OKS mJ0_checkIndex_df160 2 := ⟨⟨lw_in 104 (by decide +kernel) rfl, lw_in 625 (by decide +kernel) rfl, by decide +kernel, by decide +kernel, by decide⟩, lw_in 624 (by decide +kernel) rfl⟩
theorem kJ1_charAt_3b067 : OKS mJ1_charAt_3b067 2 := ⟨⟨lw_in 105 (by decide +kernel) rfl, lw_in 622 (by decide +kernel) rfl, by decide +kernel, by decide +kernel, by decide⟩, lw_in 621 (by decide +kernel) rfl⟩
theorem kJ3_checkIndex_8e157 : OKS mJ3_checkIndex_8e157 3 := ⟨⟨lw_in 106 (by decide +kernel) rfl, lw_in 630 (by decide +kernel) rfl, by decide +kernel, by decide +kernel, by decide⟩, lw_in 629 (by decide +kernel) rfl⟩
theorem gJ0_9 : Cond.fieldLink RJ0 9 "java/lang/String" "value" "[B" ∈ lw_g := lw_in 1631 (by decide +kernel) rfl
theorem gJ0_15 : Cond.fieldLink RJ0 15 "java/lang/String" "coder" "B" ∈ lw_g := lw_in 1632 (by decide +kernel) rfl
theorem gJ0_38 : Cond.fieldLink RJ0 38 "java/lang/String" "COMPACT_STRINGS" "Z" ∈ lw_g := lw_in 606 (by decide +kernel) rfl
theorem gJ0_1053 : Cond.fieldLink RJ0 1053 "jdk/internal/util/Preconditions" "SIOOBE_FORMATTER" "Ljava/util/function/BiFunction;" ∈ lw_g := lw_in 626 (by decide +kernel) rfl
theorem gX5_53 : Cond.fieldLink RX5 53 RX5 "CODES" "[I" ∈ lw_g := lw_in 768 (by decide +kernel) rfl
theorem lJ0_335 : Cond.methodLink RJ0 335 mJ0_coder_7d493.1 ∈ lw_g := lw_in 602 (by decide +kernel) rfl
theorem lJ0_492 : Cond.methodLink RJ0 492 mJ0_isLatin1_aae02.1 ∈ lw_g := lw_in 616 (by decide +kernel) rfl
theorem lJ0_495 : Cond.methodLink RJ0 495 mJ1_charAt_3b067.1 ∈ lw_g := lw_in 620 (by decide +kernel) rfl
theorem lJ0_1059 : Cond.methodLink RJ0 1059 mJ3_checkIndex_8e157.1 ∈ lw_g := lw_in 628 (by decide +kernel) rfl
theorem lJ1_9 : Cond.methodLink RJ1 9 mJ0_checkIndex_df160.1 ∈ lw_g := lw_in 623 (by decide +kernel) rfl
theorem lX10w_9 : Cond.methodLink RX10 38 mX10_letters.1 ∈ lw_g := lw_in 594 (by decide +kernel) rfl
theorem lX10w_13 : Cond.methodLink RX10 42 mJ0_length_8abf5.1 ∈ lw_g := lw_in 598 (by decide +kernel) rfl
theorem lX10w_33 : Cond.methodLink RX10 46 mX10_letter.1 ∈ lw_g := lw_in 608 (by decide +kernel) rfl
theorem lX10w_38 : Cond.methodLink RX10 50 mJ0_charAt_5068e.1 ∈ lw_g := lw_in 612 (by decide +kernel) rfl
theorem lX9_21 : Cond.methodLink RX9 21 arraycopyName ∈ lw_g := by decide +kernel
theorem dJ0_length_8abf5_0 : decode (mcode mJ0_length_8abf5) 0 = .ok (.aload_n 0, 1) := by decide +kernel
theorem dJ0_length_8abf5_1 : decode (mcode mJ0_length_8abf5) 1 = .ok (.getfield 9, 3) := by decide +kernel
theorem dJ0_length_8abf5_4 : decode (mcode mJ0_length_8abf5) 4 = .ok (.arraylength, 1) := by decide +kernel
theorem dJ0_length_8abf5_5 : decode (mcode mJ0_length_8abf5) 5 = .ok (.aload_n 0, 1) := by decide +kernel
theorem dJ0_length_8abf5_6 : decode (mcode mJ0_length_8abf5) 6 = .ok (.invokevirtual 335, 3) := by decide +kernel
theorem dJ0_length_8abf5_9 : decode (mcode mJ0_length_8abf5) 9 = .ok (.ishr, 1) := by decide +kernel
theorem dJ0_length_8abf5_10 : decode (mcode mJ0_length_8abf5) 10 = .ok (.ireturn, 1) := by decide +kernel
theorem dJ0_charAt_5068e_0 : decode (mcode mJ0_charAt_5068e) 0 = .ok (.aload_n 0, 1) := by decide +kernel
theorem dJ0_charAt_5068e_1 : decode (mcode mJ0_charAt_5068e) 1 = .ok (.invokevirtual 492, 3) := by decide +kernel
theorem dJ0_charAt_5068e_4 : decode (mcode mJ0_charAt_5068e) 4 = .ok (.ifCond .eq 12, 3) := by decide +kernel
theorem dJ0_charAt_5068e_7 : decode (mcode mJ0_charAt_5068e) 7 = .ok (.aload_n 0, 1) := by decide +kernel
theorem dJ0_charAt_5068e_8 : decode (mcode mJ0_charAt_5068e) 8 = .ok (.getfield 9, 3) := by decide +kernel
theorem dJ0_charAt_5068e_11 : decode (mcode mJ0_charAt_5068e) 11 = .ok (.iload_n 1, 1) := by decide +kernel
theorem dJ0_charAt_5068e_12 : decode (mcode mJ0_charAt_5068e) 12 = .ok (.invokestatic 495, 3) := by decide +kernel
theorem dJ0_charAt_5068e_15 : decode (mcode mJ0_charAt_5068e) 15 = .ok (.ireturn, 1) := by decide +kernel
theorem dJ0_charAt_5068e_16 : decode (mcode mJ0_charAt_5068e) 16 = .ok (.aload_n 0, 1) := by decide +kernel
theorem dJ0_charAt_5068e_17 : decode (mcode mJ0_charAt_5068e) 17 = .ok (.getfield 9, 3) := by decide +kernel
theorem dJ0_charAt_5068e_20 : decode (mcode mJ0_charAt_5068e) 20 = .ok (.iload_n 1, 1) := by decide +kernel
theorem dJ0_charAt_5068e_21 : decode (mcode mJ0_charAt_5068e) 21 = .ok (.invokestatic 498, 3) := by decide +kernel
theorem dJ0_charAt_5068e_24 : decode (mcode mJ0_charAt_5068e) 24 = .ok (.ireturn, 1) := by decide +kernel
theorem dJ0_coder_7d493_0 : decode (mcode mJ0_coder_7d493) 0 = .ok (.getstatic 38, 3) := by decide +kernel
theorem dJ0_coder_7d493_3 : decode (mcode mJ0_coder_7d493) 3 = .ok (.ifCond .eq 10, 3) := by decide +kernel
theorem dJ0_coder_7d493_6 : decode (mcode mJ0_coder_7d493) 6 = .ok (.aload_n 0, 1) := by decide +kernel
theorem dJ0_coder_7d493_7 : decode (mcode mJ0_coder_7d493) 7 = .ok (.getfield 15, 3) := by decide +kernel
theorem dJ0_coder_7d493_10 : decode (mcode mJ0_coder_7d493) 10 = .ok (.goto 4, 3) := by decide +kernel
theorem dJ0_coder_7d493_13 : decode (mcode mJ0_coder_7d493) 13 = .ok (.iconst 1, 1) := by decide +kernel
theorem dJ0_coder_7d493_14 : decode (mcode mJ0_coder_7d493) 14 = .ok (.ireturn, 1) := by decide +kernel
theorem dJ0_isLatin1_aae02_0 : decode (mcode mJ0_isLatin1_aae02) 0 = .ok (.getstatic 38, 3) := by decide +kernel
theorem dJ0_isLatin1_aae02_3 : decode (mcode mJ0_isLatin1_aae02) 3 = .ok (.ifCond .eq 14, 3) := by decide +kernel
theorem dJ0_isLatin1_aae02_6 : decode (mcode mJ0_isLatin1_aae02) 6 = .ok (.aload_n 0, 1) := by decide +kernel
theorem dJ0_isLatin1_aae02_7 : decode (mcode mJ0_isLatin1_aae02) 7 = .ok (.getfield 15, 3) := by decide +kernel
theorem dJ0_isLatin1_aae02_10 : decode (mcode mJ0_isLatin1_aae02) 10 = .ok (.ifCond .ne 7, 3) := by decide +kernel
theorem dJ0_isLatin1_aae02_13 : decode (mcode mJ0_isLatin1_aae02) 13 = .ok (.iconst 1, 1) := by decide +kernel
theorem dJ0_isLatin1_aae02_14 : decode (mcode mJ0_isLatin1_aae02) 14 = .ok (.goto 4, 3) := by decide +kernel
theorem dJ0_isLatin1_aae02_17 : decode (mcode mJ0_isLatin1_aae02) 17 = .ok (.iconst 0, 1) := by decide +kernel
theorem dJ0_isLatin1_aae02_18 : decode (mcode mJ0_isLatin1_aae02) 18 = .ok (.ireturn, 1) := by decide +kernel
theorem dJ0_checkIndex_df160_0 : decode (mcode mJ0_checkIndex_df160) 0 = .ok (.iload_n 0, 1) := by decide +kernel
theorem dJ0_checkIndex_df160_1 : decode (mcode mJ0_checkIndex_df160) 1 = .ok (.iload_n 1, 1) := by decide +kernel
theorem dJ0_checkIndex_df160_2 : decode (mcode mJ0_checkIndex_df160) 2 = .ok (.getstatic 1053, 3) := by decide +kernel
theorem dJ0_checkIndex_df160_5 : decode (mcode mJ0_checkIndex_df160) 5 = .ok (.invokestatic 1059, 3) := by decide +kernel
theorem dJ0_checkIndex_df160_8 : decode (mcode mJ0_checkIndex_df160) 8 = .ok (.pop, 1) := by decide +kernel
theorem dJ0_checkIndex_df160_9 : decode (mcode mJ0_checkIndex_df160) 9 = .ok (.return_, 1) := by decide +kernel
theorem dJ1_charAt_3b067_0 : decode (mcode mJ1_charAt_3b067) 0 = .ok (.iload_n 1, 1) := by decide +kernel
theorem dJ1_charAt_3b067_1 : decode (mcode mJ1_charAt_3b067) 1 = .ok (.aload_n 0, 1) := by decide +kernel
theorem dJ1_charAt_3b067_2 : decode (mcode mJ1_charAt_3b067) 2 = .ok (.arraylength, 1) := by decide +kernel
theorem dJ1_charAt_3b067_3 : decode (mcode mJ1_charAt_3b067) 3 = .ok (.invokestatic 9, 3) := by decide +kernel
theorem dJ1_charAt_3b067_6 : decode (mcode mJ1_charAt_3b067) 6 = .ok (.aload_n 0, 1) := by decide +kernel
theorem dJ1_charAt_3b067_7 : decode (mcode mJ1_charAt_3b067) 7 = .ok (.iload_n 1, 1) := by decide +kernel
theorem dJ1_charAt_3b067_8 : decode (mcode mJ1_charAt_3b067) 8 = .ok (.baload, 1) := by decide +kernel
theorem dJ1_charAt_3b067_9 : decode (mcode mJ1_charAt_3b067) 9 = .ok (.sipush 255, 3) := by decide +kernel
theorem dJ1_charAt_3b067_12 : decode (mcode mJ1_charAt_3b067) 12 = .ok (.iand, 1) := by decide +kernel
theorem dJ1_charAt_3b067_13 : decode (mcode mJ1_charAt_3b067) 13 = .ok (.i2c, 1) := by decide +kernel
theorem dJ1_charAt_3b067_14 : decode (mcode mJ1_charAt_3b067) 14 = .ok (.ireturn, 1) := by decide +kernel
theorem dJ3_checkIndex_8e157_0 : decode (mcode mJ3_checkIndex_8e157) 0 = .ok (.iload_n 0, 1) := by decide +kernel
theorem dJ3_checkIndex_8e157_1 : decode (mcode mJ3_checkIndex_8e157) 1 = .ok (.ifCond .lt 8, 3) := by decide +kernel
theorem dJ3_checkIndex_8e157_4 : decode (mcode mJ3_checkIndex_8e157) 4 = .ok (.iload_n 0, 1) := by decide +kernel
theorem dJ3_checkIndex_8e157_5 : decode (mcode mJ3_checkIndex_8e157) 5 = .ok (.iload_n 1, 1) := by decide +kernel
theorem dJ3_checkIndex_8e157_6 : decode (mcode mJ3_checkIndex_8e157) 6 = .ok (.if_icmp .lt 10, 3) := by decide +kernel
theorem dJ3_checkIndex_8e157_9 : decode (mcode mJ3_checkIndex_8e157) 9 = .ok (.aload_n 2, 1) := by decide +kernel
theorem dJ3_checkIndex_8e157_10 : decode (mcode mJ3_checkIndex_8e157) 10 = .ok (.iload_n 0, 1) := by decide +kernel
theorem dJ3_checkIndex_8e157_11 : decode (mcode mJ3_checkIndex_8e157) 11 = .ok (.iload_n 1, 1) := by decide +kernel
theorem dJ3_checkIndex_8e157_12 : decode (mcode mJ3_checkIndex_8e157) 12 = .ok (.invokestatic 95, 3) := by decide +kernel
theorem dJ3_checkIndex_8e157_15 : decode (mcode mJ3_checkIndex_8e157) 15 = .ok (.athrow, 1) := by decide +kernel
theorem dJ3_checkIndex_8e157_16 : decode (mcode mJ3_checkIndex_8e157) 16 = .ok (.iload_n 0, 1) := by decide +kernel
theorem dJ3_checkIndex_8e157_17 : decode (mcode mJ3_checkIndex_8e157) 17 = .ok (.ireturn, 1) := by decide +kernel
