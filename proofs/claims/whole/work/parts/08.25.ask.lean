/-! ask -/
def bg (M : Mem) (v : Int32) : Mem := mset (mset M 11 2 ((M.1 11 2) + 1)) 47 (ix (M.1 11 2)) v
def bgM (M : Mem) (v : Int32) : Mem := mset (mset M 32 (ix (M.1 0 53)) v) 0 53 ((M.1 0 53) + 1)
theorem bg_n {M : Mem} {v : Int32} {n : Nat} (h : M.1 11 2 = nI n) : (bg M v).1 11 2 = nI (n + 1) := by
  show M.1 11 2 + 1 = nI (n + 1)
  rw [h, nI_1]
theorem bgM_n {M : Mem} {v : Int32} {n : Nat} (h : M.1 0 53 = nI n) : (bgM M v).1 0 53 = nI (n + 1) := by
  show M.1 0 53 + 1 = nI (n + 1)
  rw [h, nI_1]
theorem c_begin {G : GV} {k n : Nat} {M : Mem} {q : Mem → Prop} {v : Int32} (hn : M.1 11 2 = nI n) (h16 : n < 16) (h : q (bg M v)) : Cv shC G mX0_begin k [.ref (G.2.1 11), .int v] M q := by
  refine wp_X0_begin ⟨fun c => absurd c (by rw [hn]; exact nI_ge (b := 16) h16 (by omega)), fun _ => ⟨by rw [hn]; exact vp_in_nI h16 (by decide), h⟩⟩
theorem c_began {G : GV} {k n : Nat} {M : Mem} {q : Mem → Prop} {v : Int32} (hn : M.1 0 53 = nI n) (h16 : n < 16) (h : q (bgM M v)) : Cv shM G mX12_began k [.ref (G.2.1 0), .int v] M q := by
  refine wp_X12_began ⟨fun c => absurd c (by rw [hn]; exact nI_ge (b := 16) h16 (by omega)), fun _ => ⟨by rw [hn]; exact vp_in_nI h16 (by decide), h⟩⟩
def RRk (n : Nat) (Mc Mm : Mem) : Prop := RR Mc Mm ∧ Mc.1 11 2 = nI n ∧ Mm.1 0 53 = nI n
theorem RRk_bg {n : Nat} {Mc Mm : Mem} (h : RRk n Mc Mm) (hn : n < 16) (v : Int32) : RRk (n + 1) (bg Mc v) (bgM Mm v) := by
  obtain ⟨hR, e1, e2⟩ := h
  refine ⟨⟨hR.1, hR.2.1, hR.2.2.1, ⟨n + 1, by omega, bg_n e1, bgM_n e2, fun k hk => ?_⟩, hR.2.2.2.2.1, hR.2.2.2.2.2⟩, bg_n e1, bgM_n e2⟩
  obtain ⟨n', hn', f1, f2, f3⟩ := hR.2.2.2.1
  have : n' = n := (nI_eq (by omega) (by omega)).mp (f1.symm.trans e1)
  subst this
  show upd (Mc.1 47) (ix (Mc.1 11 2)) v k = upd (Mm.1 32) (ix (Mm.1 0 53)) v k
  rw [e1, e2, ix_nI (by omega)]
  simp only [upd]
  split
  · rfl
  · exact f3 k (by omega)
theorem RRk_0 {Mc Mm : Mem} (hR : RR Mc Mm) : RRk 0 (mset Mc 11 2 0) (mset (mset Mm 0 0 0) 0 53 0) :=
  ⟨⟨hR.1, hR.2.1, hR.2.2.1, ⟨0, by omega, rfl, rfl, fun k hk => absurd hk (Nat.not_lt_zero k)⟩, hR.2.2.2.2.1, hR.2.2.2.2.2⟩, rfl, rfl⟩
section
variable {G : GV} {k n l : Nat} {M : Mem} {q : Int32 → Mem → Prop}
theorem c_lentSize (hl : l < 12) (hn : M.1 11 2 = nI n) (h16 : n < 16) (h : q (M.1 38 l) (bg M 10)) : Ci shC G mX0_lentSize (k + 1) [.ref (G.2.1 11), .int (nI l)] M q := by
  refine wp_X0_lentSize (c_begin hn h16 ⟨vp_in_nI hl (by decide), ?_⟩)
  rw [ix_nI (show l < 2 ^ 31 by omega)]; exact h
theorem c_lentMark (hl : l < 12) (hn : M.1 11 2 = nI n) (h16 : n < 16) (h : q (M.1 33 l) (bg M 20)) : Ci shC G mX0_lentMark (k + 1) [.ref (G.2.1 11), .int (nI l)] M q := by
  refine wp_X0_lentMark (c_begin hn h16 ⟨vp_in_nI hl (by decide), ?_⟩)
  rw [ix_nI (show l < 2 ^ 31 by omega)]; exact h
theorem c_homeSize (hl : l < 12) (hn : M.1 11 2 = nI n) (h16 : n + 1 < 16) (h : q (M.1 38 l + M.1 31 l) (bg (bg M 11) 10)) : Ci shC G mX0_homeSize (k + 2) [.ref (G.2.1 11), .int (nI l)] M q := by
  refine wp_X0_homeSize (c_begin hn (by omega) (c_lentSize hl (bg_n hn) h16 ⟨vp_in_nI hl (by decide), ?_⟩))
  rw [ix_nI (show l < 2 ^ 31 by omega)]; exact h
theorem c_homeMark (hl : l < 12) (hn : M.1 11 2 = nI n) (h16 : n + 1 < 16) (h : q (M.1 33 l + M.1 30 l) (bg (bg M 21) 20)) : Ci shC G mX0_homeMark (k + 2) [.ref (G.2.1 11), .int (nI l)] M q := by
  refine wp_X0_homeMark (c_begin hn (by omega) (c_lentMark hl (bg_n hn) h16 ⟨vp_in_nI hl (by decide), ?_⟩))
  rw [ix_nI (show l < 2 ^ 31 by omega)]; exact h
def agZ (a : Int32) : Int32 := if a = -1000000 then 0 else a
theorem c_countedMark (hl : l < 12) (hn : M.1 11 2 = nI n) (h16 : n + 2 < 16) (h : q (M.1 33 l + M.1 30 l + agZ (M.1 32 l)) (bg (bg (bg M 22) 21) 20)) : Ci shC G mX0_countedMark (k + 3) [.ref (G.2.1 11), .int (nI l)] M q := by
  refine wp_X0_countedMark (c_begin hn (by omega) (c_homeMark hl (bg_n hn) h16 ⟨vp_in_nI hl (by decide), ?_⟩))
  rw [ix_nI (show l < 2 ^ 31 by omega)]
  refine ⟨fun c => ⟨vp_in_nI hl (by decide), ?_⟩, fun c => ?_⟩
  · have c' : ¬ M.1 32 l = -1000000 := c
    rw [agZ, if_neg c'] at h; exact h
  · have c' : M.1 32 l = -1000000 := c
    rw [agZ, if_pos c'] at h; exact h
theorem c_countedSize (hl : l < 12) (hn : M.1 11 2 = nI n) (h16 : n + 5 < 16) (h : q ((M.1 38 l + M.1 31 l) + (M.1 33 l + M.1 30 l + agZ (M.1 32 l))) (bg (bg (bg (bg (bg (bg M 13) 11) 10) 22) 21) 20)) : Ci shC G mX0_countedSize (k + 4) [.ref (G.2.1 11), .int (nI l)] M q :=
  wp_X0_countedSize (c_begin hn (by omega) (c_homeSize hl (bg_n hn) (by omega) (c_countedMark hl (bg_n (bg_n (bg_n hn))) (by omega) h)))
theorem c_ratedSize (hl : l < 12) (hn : M.1 11 2 = nI n) (h16 : n + 2 < 16) (h : q (2 * (M.1 38 l + M.1 31 l)) (bg (bg (bg M 12) 11) 10)) : Ci shC G mX0_ratedSize (k + 3) [.ref (G.2.1 11), .int (nI l)] M q :=
  wp_X0_ratedSize (c_begin hn (by omega) (c_homeSize hl (bg_n hn) h16 h))
theorem c_staleSize (hl : l < 12) (hn : M.1 11 2 = nI n) (h16 : n + 1 < 16) (h : q (-(M.1 38 l)) (bg (bg M 14) 10)) : Ci shC G mX0_staleSize (k + 2) [.ref (G.2.1 11), .int (nI l)] M q :=
  wp_X0_staleSize (c_begin hn (by omega) (c_lentSize hl (bg_n hn) h16 h))
theorem c_tradeMark (hl : l < 12) (hn : M.1 11 2 = nI n) (h16 : n + 2 < 16) (h : q (M.1 33 l + M.1 38 l) (bg (bg (bg M 23) 20) 10)) : Ci shC G mX0_tradeMark (k + 2) [.ref (G.2.1 11), .int (nI l)] M q :=
  wp_X0_tradeMark (c_begin hn (by omega) (c_lentMark hl (bg_n hn) (by omega) (c_lentSize hl (bg_n (bg_n hn)) (by omega) h)))
theorem c_plainSize (hl : l < 12) (hn : M.1 0 53 = nI n) (h16 : n < 16) (h : q (M.1 13 l) (bgM M 10)) : Ci shM G mX12_plainSize (k + 1) [.ref (G.2.1 0), .int (nI l)] M q := by
  refine wp_X12_plainSize (c_began hn h16 ⟨vp_in_nI hl (by decide), ?_⟩)
  rw [ix_nI (show l < 2 ^ 31 by omega)]; exact h
theorem c_isOf1 {s : Nat} (hs : s < 5) (h : q (b01 (decide (s < 3))) M) : Ci shM G mX12_isOf k [.int (nI s + 1), .int 1] M q := by
  refine c_isOf (k := 1) hs (by omega) ?_
  rw [show ofS s 1 = decide (s < 3) from by match s, hs with | 0, _ => rfl | 1, _ => rfl | 2, _ => rfl | 3, _ => rfl | 4, _ => rfl]
  exact h
theorem c_markM0 {s : Nat} (hW : WFm (kM M.1)) (hl : l < nLm M) (hn : M.1 0 53 = nI n) (h16 : n + 1 < 16) (hs : s < 2) (es : M.1 9 l = nI s) (h : q (gS (kM M.1) l + M.1 10 l) (bgM (bgM M 21) 20)) : Ci shM G mX12_markOf (k + 2) [.ref (G.2.1 0), .int (nI l)] M q := by
  have hl12 := (WF_L hW).2
  have hv := vin12 hl hl12
  have hx := ix12 hl hl12
  refine wp_X12_markOf ⟨hv, ?_⟩
  rw [hx, es]
  have n3 : nI s + 1 ≠ 3 := by match s, hs with | 0, _ => decide | 1, _ => decide
  have n4 : nI s + 1 ≠ 4 := by match s, hs with | 0, _ => decide | 1, _ => decide
  refine ⟨fun _ => wp_X12_markOf_20 (c_isOf1 (by omega) ?_), fun c => absurd c n3⟩
  rw [decide_eq_true (show s < 3 by omega)]
  refine k1 (c_began hn (by omega) ⟨fun _ => c_began (bgM_n hn) h16 (c_gathered (M := bgM (bgM M 21) 20) hW hl (c_isOf1 (by omega) ?_)), fun c => absurd c n4⟩)
  rw [decide_eq_true (show s < 3 by omega), hx]
  exact k1 ⟨hv, fun _ => ⟨fun _ => h, fun c => absurd c n4⟩, fun c => absurd c n3⟩
theorem c_markM2 (hW : WFm (kM M.1)) (hl : l < nLm M) (hn : M.1 0 53 = nI n) (h16 : n + 2 < 16) (es : M.1 9 l = nI 2) (h : q (gS (kM M.1) l + M.1 10 l + agZ (M.1 12 l)) (bgM (bgM (bgM M 22) 21) 20)) : Ci shM G mX12_markOf (k + 2) [.ref (G.2.1 0), .int (nI l)] M q := by
  have hl12 := (WF_L hW).2
  have hv := vin12 hl hl12
  have hx := ix12 hl hl12
  refine wp_X12_markOf ⟨hv, ?_⟩
  rw [hx, es]
  refine ⟨fun c => absurd rfl c, fun _ => c_began hn (by omega) (wp_X12_markOf_20 (c_isOf1 (by omega) ?_))⟩
  refine k1 (c_began (bgM_n hn) (by omega) ⟨fun _ => c_began (bgM_n (bgM_n hn)) h16 (c_gathered (M := bgM (bgM (bgM M 22) 21) 20) hW hl (c_isOf1 (by omega) ?_)), fun c => absurd c (by decide)⟩)
  rw [hx]
  refine k1 ⟨hv, fun c => absurd rfl c, fun _ => ⟨hv, fun c => ⟨hv, ?_⟩, fun c => ?_⟩⟩
  · have c' : ¬ M.1 12 l = -1000000 := c
    rw [agZ, if_neg c'] at h; exact h
  · have c' : M.1 12 l = -1000000 := c
    rw [agZ, if_pos c'] at h; exact h
theorem c_markM3 (hW : WFm (kM M.1)) (hl : l < nLm M) (hn : M.1 0 53 = nI n) (h16 : n + 2 < 16) (es : M.1 9 l = nI 3) (h : q (gS (kM M.1) l + M.1 13 l) (bgM (bgM (bgM M 23) 20) 10)) : Ci shM G mX12_markOf (k + 2) [.ref (G.2.1 0), .int (nI l)] M q := by
  have hl12 := (WF_L hW).2
  have hv := vin12 hl hl12
  have hx := ix12 hl hl12
  refine wp_X12_markOf ⟨hv, ?_⟩
  rw [hx, es]
  refine ⟨fun _ => wp_X12_markOf_20 (c_isOf1 (by omega) ?_), fun c => absurd c (by decide)⟩
  refine k0 ⟨fun c => absurd rfl c, fun _ => c_began hn (by omega) (c_began (bgM_n hn) (by omega) (c_gathered (M := bgM (bgM M 23) 20) hW hl (c_isOf1 (by omega) ?_)))⟩
  refine k0 ⟨fun _ => ⟨fun c => absurd rfl c, fun _ => c_plainSize (by omega) (bgM_n (bgM_n hn)) h16 ?_⟩, fun c => absurd c (by decide)⟩
  rw [Int32.add_zero]; exact h
theorem c_markM4 (hW : WFm (kM M.1)) (hl : l < nLm M) (hn : M.1 0 53 = nI n) (h16 : n < 16) (es : M.1 9 l = nI 4) (h : q (gS (kM M.1) l) (bgM M 20)) : Ci shM G mX12_markOf (k + 2) [.ref (G.2.1 0), .int (nI l)] M q := by
  have hl12 := (WF_L hW).2
  have hv := vin12 hl hl12
  have hx := ix12 hl hl12
  refine wp_X12_markOf ⟨hv, ?_⟩
  rw [hx, es]
  refine ⟨fun _ => wp_X12_markOf_20 (c_isOf1 (by omega) ?_), fun c => absurd c (by decide)⟩
  refine k0 ⟨fun _ => c_began hn h16 (c_gathered (M := bgM M 20) hW hl (c_isOf1 (by omega) ?_)), fun c => absurd c (by decide)⟩
  refine k0 ⟨fun _ => ⟨fun _ => ?_, fun c => absurd c (by decide)⟩, fun c => absurd c (by decide)⟩
  rw [Int32.add_zero]; exact h
end
theorem st_ask : St_ask RR := by
  intro G1 G2 Mc Mm v w hR
  obtain ⟨hW, hT⟩ := hR.2.2.2.2.1
  obtain ⟨e6, e0, hn⟩ := RR_L hR
  rcases num2 v (n := nLm Mm) (by omega) with hb | ⟨l, hl, rfl⟩
  · exact wp_X11_ask (c_noLine_bad e6 (by omega) hb (n1 (wp_X12_ask (c_isLine_bad e0 (by omega) hb (k0 ⟨rfl, RR_thrown hR⟩)))))
  have hv := vin12 hl hn
  have hx := ix12 hl hn
  have hl12 : l < 12 := by omega
  rcases num2 w (n := 2) (by omega) with hb | ⟨k, hk, rfl⟩
  · have hm : Ci shM G2 mX12_ask 4 [.ref (G2.2.1 0), .int (nI l), .int w] Mm (fun y M2 => -1000001 = y ∧ RR Mc M2) := wp_X12_ask (c_isLine_ok e0 (by omega) hl (k1 (c_in_bad (by rw [t0, l_1]; omega) (n0 ⟨rfl, RR_thrown hR⟩))))
    refine wp_X11_ask (c_noLine_ok e6 (by omega) hl (n0 ⟨fun c => hm, fun c => ⟨fun c2 => ?_, fun c2 => hm⟩⟩))
    exfalso
    have : ¬ w.toInt < 0 := fun e => c (lt0' e)
    rw [leI, i_1] at c2
    omega
  obtain ⟨s, hs, es⟩ := srt5 hW (show l < ix (kM Mm.1 0 10) from hl)
  have tl := hT.2.2.2.1 l hl
  have e9 : Mm.1 9 l = nI s := es
  have t29 : Mc.1 29 l = nI s := Eq.trans tl.2.1 es
  have t30 : Mc.1 30 l = Mm.1 10 l := tl.2.2.1
  have t31 : Mc.1 31 l = Mm.1 11 l := tl.2.2.2.1
  have t32 : Mc.1 32 l = Mm.1 12 l := tl.2.2.2.2.1
  have t33 : Mc.1 33 l = gS (kM Mm.1) l := tl.2.2.2.2.2.1
  have t38 : Mc.1 38 l = Mm.1 13 l := tl.2.2.2.2.2.2.2.1
  have hk0 : RRk 0 (mset Mc 11 2 0) (mset (mset Mm 0 0 0) 0 53 0) := RRk_0 hR
  have hmm : ∀ {q : Int32 → Mem → Prop}, (nI k ≠ 0 → Ci shM G2 mX12_markOf 3 [.ref (G2.2.1 0), .int (nI l)] (mset (mset Mm 0 0 0) 0 53 0) q) → (nI k = 0 → Ci shM G2 mX12_sizeOf 3 [.ref (G2.2.1 0), .int (nI l)] (mset (mset Mm 0 0 0) 0 53 0) q) → Ci shM G2 mX12_ask 4 [.ref (G2.2.1 0), .int (nI l), .int (nI k)] Mm q := by
    intro q h1 h2
    exact wp_X12_ask (c_isLine_ok e0 (by omega) hl (k1 (c_in_ok (by rw [t0, nI_toInt (by omega)]; omega) (by rw [l_1, nI_toInt (by omega)]; omega) (n1 ⟨h1, h2⟩))))
  have hWm : WFm (kM (mset (mset Mm 0 0 0) 0 53 0).1) := hW
  have z1 : (mset Mc 11 2 0).1 11 2 = nI 0 := rfl
  have z2 : (mset (mset Mm 0 0 0) 0 53 0).1 0 53 = nI 0 := rfl
  refine wp_X11_ask (c_noLine_ok e6 (by omega) hl (n0 ⟨fun c => absurd c (nI_pos (by omega)), fun _ => ⟨fun _ => ⟨fun c => ?_, fun c => ?_⟩, fun c => absurd (nI_le (b := 1) (by omega) (by omega)) c⟩⟩))
  · -- MARK
    refine wp_X0_markOf ⟨hv, ?_⟩
    rw [hx, show (mset Mc 11 2 0).1 29 l = nI s from t29]
    match s, hs, e9, t29 with
    | 0, _, e9, t29 =>
      refine ⟨fun _ => c_homeMark hl12 z1 (by omega) (hmm (fun _ => c_markM0 (s := 0) hWm hl z2 (by omega) (by omega) e9 ⟨?_, (RRk_bg (RRk_bg hk0 (by omega) 21) (by omega) 20).1⟩) (fun e => absurd e c)), fun d => absurd d (by decide), fun d => absurd d (by decide), fun d => absurd d (by decide), fun d => absurd d (by decide)⟩
      show Mc.1 33 l + Mc.1 30 l = gS (kM Mm.1) l + Mm.1 10 l
      rw [t33, t30]
    | 1, _, e9, t29 =>
      refine ⟨fun d => absurd d (by decide), fun _ => c_homeMark hl12 z1 (by omega) (hmm (fun _ => c_markM0 (s := 1) hWm hl z2 (by omega) (by omega) e9 ⟨?_, (RRk_bg (RRk_bg hk0 (by omega) 21) (by omega) 20).1⟩) (fun e => absurd e c)), fun d => absurd d (by decide), fun d => absurd d (by decide), fun d => absurd d (by decide)⟩
      show Mc.1 33 l + Mc.1 30 l = gS (kM Mm.1) l + Mm.1 10 l
      rw [t33, t30]
    | 2, _, e9, t29 =>
      refine ⟨fun d => absurd d (by decide), fun d => absurd d (by decide), fun _ => c_countedMark hl12 z1 (by omega) (hmm (fun _ => c_markM2 hWm hl z2 (by omega) e9 ⟨?_, (RRk_bg (RRk_bg (RRk_bg hk0 (by omega) 22) (by omega) 21) (by omega) 20).1⟩) (fun e => absurd e c)), fun d => absurd d (by decide), fun d => absurd d (by decide)⟩
      show Mc.1 33 l + Mc.1 30 l + agZ (Mc.1 32 l) = gS (kM Mm.1) l + Mm.1 10 l + agZ (Mm.1 12 l)
      rw [t33, t30, t32]
    | 3, _, e9, t29 =>
      refine ⟨fun d => absurd d (by decide), fun d => absurd d (by decide), fun d => absurd d (by decide), fun _ => c_tradeMark hl12 z1 (by omega) (hmm (fun _ => c_markM3 hWm hl z2 (by omega) e9 ⟨?_, (RRk_bg (RRk_bg (RRk_bg hk0 (by omega) 23) (by omega) 20) (by omega) 10).1⟩) (fun e => absurd e c)), fun d => absurd d (by decide)⟩
      show Mc.1 33 l + Mc.1 38 l = gS (kM Mm.1) l + Mm.1 13 l
      rw [t33, t38]
    | 4, _, e9, t29 =>
      refine ⟨fun d => absurd d (by decide), fun d => absurd d (by decide), fun d => absurd d (by decide), fun d => absurd d (by decide), fun _ => c_lentMark hl12 z1 (by omega) (hmm (fun _ => c_markM4 hWm hl z2 (by omega) e9 ⟨?_, (RRk_bg hk0 (by omega) 20).1⟩) (fun e => absurd e c))⟩
      exact t33
  · -- SIZE
    refine wp_X0_sizeOf ⟨hv, ?_⟩
    rw [hx, show (mset Mc 11 2 0).1 29 l = nI s from t29]
    match s, hs, e9, t29 with
    | 0, _, e9, t29 =>
      refine ⟨fun _ => c_homeSize hl12 z1 (by omega) (hmm (fun e => absurd c e) (fun _ => wp_X12_sizeOf ⟨hv, ?_⟩)), fun d => absurd d (by decide), fun d => absurd d (by decide), fun d => absurd d (by decide), fun d => absurd d (by decide), fun d => absurd d (by decide)⟩
      rw [hx, show (mset (mset Mm 0 0 0) 0 53 0).1 9 l = nI 0 from e9]
      refine ⟨fun _ => ⟨fun _ => wp_X12_sizeOf_38 ⟨fun _ => c_isOf1 (by omega) (k1 (c_began z2 (by omega) (c_plainSize hl12 (bgM_n z2) (by omega) (c_isOf1 (by omega) (k1 ⟨hv, fun _ => ⟨fun _ => ⟨?_, (RRk_bg (RRk_bg hk0 (by omega) 11) (by omega) 10).1⟩, fun d => absurd d (by decide)⟩, fun d => absurd d (by decide)⟩))))), fun d => absurd d (by decide)⟩, fun d => absurd d (by decide)⟩, fun d => absurd d (by decide)⟩
      rw [hx]
      show Mc.1 38 l + Mc.1 31 l = Mm.1 13 l + Mm.1 11 l
      rw [t38, t31]
    | 1, _, e9, t29 =>
      refine ⟨fun d => absurd d (by decide), fun _ => c_ratedSize hl12 z1 (by omega) (hmm (fun e => absurd c e) (fun _ => wp_X12_sizeOf ⟨hv, ?_⟩)), fun d => absurd d (by decide), fun d => absurd d (by decide), fun d => absurd d (by decide), fun d => absurd d (by decide)⟩
      rw [hx, show (mset (mset Mm 0 0 0) 0 53 0).1 9 l = nI 1 from e9]
      refine ⟨fun _ => ⟨fun d => absurd rfl d, fun _ => c_began z2 (by omega) (wp_X12_sizeOf_38 ⟨fun _ => c_isOf1 (by omega) (k1 (c_began (bgM_n z2) (by omega) (c_plainSize hl12 (bgM_n (bgM_n z2)) (by omega) (c_isOf1 (by omega) (k1 ⟨hv, fun d => absurd rfl d, fun _ => ⟨?_, (RRk_bg (RRk_bg (RRk_bg hk0 (by omega) 12) (by omega) 11) (by omega) 10).1⟩⟩))))), fun d => absurd d (by decide)⟩)⟩, fun d => absurd d (by decide)⟩
      rw [hx]
      show 2 * (Mc.1 38 l + Mc.1 31 l) = 2 * (Mm.1 13 l + Mm.1 11 l)
      rw [t38, t31]
    | 2, _, e9, t29 =>
      refine ⟨fun d => absurd d (by decide), fun d => absurd d (by decide), fun _ => c_countedSize hl12 z1 (by omega) (hmm (fun e => absurd c e) (fun _ => wp_X12_sizeOf ⟨hv, ?_⟩)), fun d => absurd d (by decide), fun d => absurd d (by decide), fun d => absurd d (by decide)⟩
      rw [hx, show (mset (mset Mm 0 0 0) 0 53 0).1 9 l = nI 2 from e9]
      refine ⟨fun _ => ⟨fun _ => wp_X12_sizeOf_38 ⟨fun d => absurd rfl d, fun _ => c_began z2 (by omega) (c_isOf1 (by omega) (k1 (c_began (bgM_n z2) (by omega) (c_plainSize hl12 (bgM_n (bgM_n z2)) (by omega) (c_isOf1 (by omega) (k1 ⟨hv, fun _ => ⟨fun d => absurd rfl d, fun _ => c_markM2 (M := bgM (bgM (bgM (mset (mset Mm 0 0 0) 0 53 0) 13) 11) 10) hW hl (bgM_n (bgM_n (bgM_n z2))) (by omega) e9 ⟨?_, (RRk_bg (RRk_bg (RRk_bg (RRk_bg (RRk_bg (RRk_bg hk0 (by omega) 13) (by omega) 11) (by omega) 10) (by omega) 22) (by omega) 21) (by omega) 20).1⟩⟩, fun d => absurd d (by decide)⟩))))))⟩, fun d => absurd d (by decide)⟩, fun d => absurd d (by decide)⟩
      rw [hx]
      show Mc.1 38 l + Mc.1 31 l + (Mc.1 33 l + Mc.1 30 l + agZ (Mc.1 32 l)) = Mm.1 13 l + Mm.1 11 l + (gS (kM Mm.1) l + Mm.1 10 l + agZ (Mm.1 12 l))
      rw [t38, t31, t33, t30, t32]
    | 3, _, e9, t29 =>
      refine ⟨fun d => absurd d (by decide), fun d => absurd d (by decide), fun d => absurd d (by decide), fun _ => c_lentSize hl12 z1 (by omega) (hmm (fun e => absurd c e) (fun _ => wp_X12_sizeOf ⟨hv, ?_⟩)), fun d => absurd d (by decide), fun d => absurd d (by decide)⟩
      rw [hx, show (mset (mset Mm 0 0 0) 0 53 0).1 9 l = nI 3 from e9]
      refine ⟨fun _ => ⟨fun _ => wp_X12_sizeOf_38 ⟨fun _ => c_isOf1 (by omega) (k0 (c_plainSize hl12 z2 (by omega) (c_isOf1 (by omega) (k0 ⟨fun _ => ⟨fun _ => ⟨?_, (RRk_bg hk0 (by omega) 10).1⟩, fun d => absurd d (by decide)⟩, fun d => absurd d (by decide)⟩)))), fun d => absurd d (by decide)⟩, fun d => absurd d (by decide)⟩, fun d => absurd d (by decide)⟩
      rw [Int32.add_zero]
      exact t38
    | 4, _, e9, t29 =>
      refine ⟨fun d => absurd d (by decide), fun d => absurd d (by decide), fun d => absurd d (by decide), fun d => absurd d (by decide), fun _ => c_staleSize hl12 z1 (by omega) (hmm (fun e => absurd c e) (fun _ => wp_X12_sizeOf ⟨hv, ?_⟩)), fun d => absurd d (by decide)⟩
      rw [hx, show (mset (mset Mm 0 0 0) 0 53 0).1 9 l = nI 4 from e9]
      refine ⟨fun d => absurd rfl d, fun _ => c_began z2 (by omega) (c_plainSize hl12 (bgM_n z2) (by omega) ⟨?_, (RRk_bg (RRk_bg hk0 (by omega) 14) (by omega) 10).1⟩)⟩
      show -(Mc.1 38 l) = -(Mm.1 13 l)
      rw [t38]
