/-! count, leaf, as -/
theorem srt5 {d : Nat → Nat → Int32} (hW : WFm d) {l : Nat} (hl : l < ix (d 0 10)) : ∃ s, s < 5 ∧ d 9 l = nI s := (hW.2.2.2.2.2.1 l hl).2.1
theorem c_isHomeC {G : GV} {k l : Nat} {M : Mem} {d : Nat → Nat → Int32} {q : Int32 → Mem → Prop} (hW : WFm d) (hT : TieC (kC M.1) d) (hl : l < ix (d 0 10)) (h : q (b01 (homS d l)) M) : Ci shC G mX3_isHome k [.ref (G.2.1 6), .int (nI l)] M q := by
  have hn : ix (d 0 10) ≤ 12 := hW.2.1.2
  have hv := vin12 hl hn
  obtain ⟨s, hs, es⟩ := srt5 hW hl
  have t29 : M.1 29 l = nI s := Eq.trans (hT.2.2.2.1 l hl).2.1 es
  refine wp_X3_isHome ⟨hv, ?_⟩
  rw [homS, es, ix_nI (by omega)] at h
  rw [ix12 hl hn, t29]
  match s, hs, h with
  | 0, _, h => exact k0 h
  | 1, _, h => exact ⟨fun c => absurd c (by decide), fun _ => ⟨hv, fun _ => h, fun c => absurd rfl c⟩⟩
  | 2, _, h => exact ⟨fun c => absurd c (by decide), fun _ => ⟨hv, fun c => absurd c (by decide), fun _ => ⟨hv, fun c => absurd rfl c, fun _ => h⟩⟩⟩
  | 3, _, h => exact ⟨fun c => absurd c (by decide), fun _ => ⟨hv, fun c => absurd c (by decide), fun _ => ⟨hv, fun _ => h, fun c => absurd c (by decide)⟩⟩⟩
  | 4, _, h => exact ⟨fun c => absurd c (by decide), fun _ => ⟨hv, fun c => absurd c (by decide), fun _ => ⟨hv, fun _ => h, fun c => absurd c (by decide)⟩⟩⟩
theorem c_isHomeM {G : GV} {k l : Nat} {M : Mem} {q : Int32 → Mem → Prop} (hW : WFm (kM M.1)) (hl : l < nLm M) (h : q (b01 (homS (kM M.1) l)) M) : Ci shM G mX12_isHome k [.ref (G.2.1 0), .int (nI l)] M q := by
  have hn := (WF_L hW).2
  obtain ⟨s, hs, es⟩ := srt5 hW (show l < ix (kM M.1 0 10) from hl)
  have e9 : M.1 9 l = nI s := es
  refine wp_X12_isHome ⟨vin12 hl hn, ?_⟩
  rw [homS, es, ix_nI (by omega)] at h
  rw [ix12 hl hn, e9]
  match s, hs, h with
  | 0, _, h => exact ⟨fun c => absurd c (by decide), fun _ => h⟩
  | 1, _, h => exact ⟨fun c => absurd c (by decide), fun _ => h⟩
  | 2, _, h => exact ⟨fun c => absurd c (by decide), fun _ => h⟩
  | 3, _, h => exact ⟨fun _ => h, fun c => absurd (by decide) c⟩
  | 4, _, h => exact ⟨fun _ => h, fun c => absurd (by decide) c⟩
theorem c_homesC {G : GV} {k : Nat} {M : Mem} {d : Nat → Nat → Int32} {q : Int32 → Mem → Prop} (hW : WFm d) (hT : TieC (kC M.1) d) (h : q (nI (cntB (homS d) (ix (d 0 10)))) M) : Ci shC G mX3_countHomes (k + 1) [.ref (G.2.1 6)] M q := by
  have hn : ix (d 0 10) ≤ 12 := hW.2.1.2
  have e6 : M.1 6 8 = nI (ix (d 0 10)) := Eq.trans hT.1.2.1 hW.2.1.1
  have loop : ∀ m i, i + m = ix (d 0 10) → V shC G mX3_countHomes (k + 1) 4 [(0, .ref (G.2.1 6)), (1, .int (nI (cntB (homS d) i))), (2, .int (nI i))] [] M (Qi q) := by
    intro m
    induction m with
    | zero =>
      intro i hi
      obtain rfl : i = ix (d 0 10) := by omega
      exact wp_X3_countHomes_4 ⟨fun _ => h, fun c => absurd (by rw [e6]; exact nI_le (Nat.le_refl _) (by omega)) c⟩
    | succ m ih =>
      intro i hi
      have l1 := ih (i + 1) (by omega)
      refine wp_X3_countHomes_4 ⟨fun c => absurd c (by rw [e6]; exact nI_ge (by omega) (by omega)), fun _ => c_isHomeC hW hT (by omega) ?_⟩
      rw [nI_1 i]
      cases hb : homS d i with
      | false => rw [cntB_f hb] at l1; exact k0 l1
      | true => rw [cntB_t hb, ← nI_1] at l1; exact k1 l1
  exact wp_X3_countHomes (loop _ 0 (Nat.zero_add _))
theorem c_homelessC {G : GV} {k : Nat} {M : Mem} {d : Nat → Nat → Int32} {q : Int32 → Mem → Prop} (hW : WFm d) (hT : TieC (kC M.1) d) (h : q (nI (cntB (hlS d) (ix (d 0 10)))) M) : Ci shC G mX11_countHomeless (k + 2) [.ref (G.2.1 0)] M q := by
  have hn : ix (d 0 10) ≤ 12 := hW.2.1.2
  have e6 : M.1 6 8 = nI (ix (d 0 10)) := Eq.trans hT.1.2.1 hW.2.1.1
  have loop : ∀ m i, i + m = ix (d 0 10) → V shC G mX11_countHomeless (k + 2) 4 [(0, .ref (G.2.1 0)), (1, .int (nI (cntB (hlS d) i))), (2, .int (nI i))] [] M (Qi q) := by
    intro m
    induction m with
    | zero =>
      intro i hi
      obtain rfl : i = ix (d 0 10) := by omega
      exact wp_X11_countHomeless_4 ⟨fun _ => h, fun c => absurd (by rw [e6]; exact nI_le (Nat.le_refl _) (by omega)) c⟩
    | succ m ih =>
      intro i hi
      have l1 := ih (i + 1) (by omega)
      refine wp_X11_countHomeless_4 ⟨fun c => absurd c (by rw [e6]; exact nI_ge (by omega) (by omega)), fun _ => c_isHomelessC hW hT (by omega) ?_⟩
      rw [nI_1 i]
      cases hb : hlS d i with
      | false => rw [cntB_f hb] at l1; exact k0 l1
      | true => rw [cntB_t hb, ← nI_1] at l1; exact k1 l1
  exact wp_X11_countHomeless (loop _ 0 (Nat.zero_add _))
theorem c_count5M {G : GV} {k : Nat} {M : Mem} {q : Int32 → Mem → Prop} (hW : WFm (kM M.1)) (h : q (nI (cntB (homS (kM M.1)) (nLm M))) M) : V shM G mX12_count (k + 3) 111 [(0, .ref (G.2.1 0)), (1, .int 5), (2, .int 0), (3, .int 0)] [] M (Qi q) := by
  obtain ⟨e0, hn⟩ := WF_L hW
  have loop : ∀ m i, i + m = nLm M → V shM G mX12_count (k + 3) 111 [(0, .ref (G.2.1 0)), (1, .int 5), (2, .int (nI (cntB (homS (kM M.1)) i))), (3, .int (nI i))] [] M (Qi q) := by
    intro m
    induction m with
    | zero =>
      intro i hi
      obtain rfl : i = nLm M := by omega
      exact wp_X12_count_111 ⟨fun _ => h, fun c => absurd (by rw [e0]; exact nI_le (Nat.le_refl _) (by omega)) c⟩
    | succ m ih =>
      intro i hi
      have l1 := ih (i + 1) (by omega)
      refine wp_X12_count_111 ⟨fun c => absurd c (by rw [e0]; exact nI_ge (by omega) (by omega)), fun _ => ⟨fun c => absurd rfl c, fun _ => c_isHomeM hW (by omega) ?_⟩⟩
      rw [nI_1 i, Int32.add_zero]
      cases hb : homS (kM M.1) i with
      | false => rw [cntB_f hb] at l1; exact k0 l1
      | true => rw [cntB_t hb, ← nI_1] at l1; exact k1 l1
  exact loop _ 0 (Nat.zero_add _)
theorem c_count6M {G : GV} {k : Nat} {M : Mem} {q : Int32 → Mem → Prop} (hW : WFm (kM M.1)) (h : q (nI (cntB (hlS (kM M.1)) (nLm M))) M) : V shM G mX12_count (k + 3) 111 [(0, .ref (G.2.1 0)), (1, .int 6), (2, .int 0), (3, .int 0)] [] M (Qi q) := by
  obtain ⟨e0, hn⟩ := WF_L hW
  have loop : ∀ m i, i + m = nLm M → V shM G mX12_count (k + 3) 111 [(0, .ref (G.2.1 0)), (1, .int 6), (2, .int (nI (cntB (hlS (kM M.1)) i))), (3, .int (nI i))] [] M (Qi q) := by
    intro m
    induction m with
    | zero =>
      intro i hi
      obtain rfl : i = nLm M := by omega
      exact wp_X12_count_111 ⟨fun _ => h, fun c => absurd (by rw [e0]; exact nI_le (Nat.le_refl _) (by omega)) c⟩
    | succ m ih =>
      intro i hi
      have l1 := ih (i + 1) (by omega)
      refine wp_X12_count_111 ⟨fun c => absurd c (by rw [e0]; exact nI_ge (by omega) (by omega)), fun _ => ⟨fun _ => c_isHomeless hW (by omega) ?_, fun c => absurd c (by decide)⟩⟩
      rw [nI_1 i, Int32.add_zero]
      cases hb : hlS (kM M.1) i with
      | false => rw [cntB_f hb] at l1; exact k0 l1
      | true => rw [cntB_t hb, ← nI_1] at l1; exact k1 l1
  exact loop _ 0 (Nat.zero_add _)
theorem c_count0M {G : GV} {k : Nat} {M : Mem} {q : Int32 → Mem → Prop} {w : Int32} (h : q (nI (cntB (fun s => decide (¬ M.1 1 s < 0)) 8)) M) : V shM G mX12_count (k + 3) 58 [(0, .ref (G.2.1 0)), (1, .int w), (2, .int 0), (3, .int 0)] [] M (Qi q) := by
  have loop : ∀ m i, i + m = 8 → V shM G mX12_count (k + 3) 58 [(0, .ref (G.2.1 0)), (1, .int w), (2, .int (nI (cntB (fun s => decide (¬ M.1 1 s < 0)) i))), (3, .int (nI i))] [] M (Qi q) := by
    intro m
    induction m with
    | zero =>
      intro i hi
      obtain rfl : i = 8 := by omega
      exact wp_X12_count_58 ⟨fun _ => h, fun c => absurd (by decide) c⟩
    | succ m ih =>
      intro i hi
      have l1 := ih (i + 1) (by omega)
      refine wp_X12_count_58 ⟨fun c => absurd c (nI_ge (b := 8) (by omega) (by omega)), fun _ => ⟨vp_in_nI (by omega) (by decide), ?_⟩⟩
      rw [nI_1 i, Int32.add_zero, ix_nI (show i < 2 ^ 31 by omega)]
      refine ⟨fun c => ?_, fun c => ?_⟩
      · rw [cntB_f (decide_eq_false (fun e => e c))] at l1; exact l1
      · rw [cntB_t (decide_eq_true c), ← nI_1] at l1; exact l1
  exact loop 8 0 (by omega)
theorem c_countLaid {G : GV} {k : Nat} {M : Mem} {q : Int32 → Mem → Prop} (h : q (nI (cntB (fun s => decide (¬ M.1 14 s = -1)) 8)) M) : Ci shC G mX9_countLaid (k + 1) [.ref (G.2.1 1)] M q := by
  have loop : ∀ m i, i + m = 8 → V shC G mX9_countLaid (k + 1) 4 [(0, .ref (G.2.1 1)), (1, .int (nI (cntB (fun s => decide (¬ M.1 14 s = -1)) i))), (2, .int (nI i))] [] M (Qi q) := by
    intro m
    induction m with
    | zero =>
      intro i hi
      obtain rfl : i = 8 := by omega
      exact wp_X9_countLaid_4 ⟨fun _ => h, fun c => absurd (by decide) c⟩
    | succ m ih =>
      intro i hi
      have l1 := ih (i + 1) (by omega)
      refine wp_X9_countLaid_4 ⟨fun c => absurd c (nI_ge (b := 8) (by omega) (by omega)), fun _ => wp_X9_isMissing ⟨vp_in_nI (by omega) (by decide), ?_⟩⟩
      rw [nI_1 i, ix_nI (show i < 2 ^ 31 by omega)]
      refine ⟨fun c => n0 ?_, fun c => n1 ?_⟩
      · rw [cntB_t (decide_eq_true c), ← nI_1] at l1; exact l1
      · rw [cntB_f (decide_eq_false (fun e => e c))] at l1; exact l1
  exact wp_X9_countLaid (loop 8 0 (by omega))
theorem st_count : St_count RR := by
  intro G1 G2 Mc Mm w hR
  obtain ⟨hW, hT⟩ := hR.2.2.2.2.1
  have hsh : cntB (fun s => decide (¬ Mc.1 14 s = -1)) 8 = cntB (fun s => decide (¬ Mm.1 1 s < 0)) 8 := by
    apply cntB_congr
    intro s hs
    rcases hR.2.1 s hs with ⟨e1, e2⟩ | ⟨n, hn, e1, e2, e3, e4, e5⟩
    · rw [e1, e2]; decide
    · rw [e2, decide_eq_true (nI_none (by omega) (by decide))]
      rcases e4 with e | e | e <;> rw [e] <;> decide
  have hM : WFm (kM (mset Mm 0 0 0).1) := hW
  have rt := RR_thrown hR
  refine wp_X11_count ⟨fun c => ?_, fun c => ?_, fun c => ?_, fun c => ?_, fun c => ?_, fun c => ?_, fun c => ?_, fun c => ?_, fun c => ?_⟩
  · refine c_countLaid (wp_X12_count ⟨fun _ => c_count0M ⟨congrArg nI hsh, rt⟩, fun e => ?_, fun e => ?_, fun e => ?_, fun e => ?_, fun e => ?_, fun e => ?_, fun e => ?_, fun e => ?_⟩) <;> exact absurd e (by omega)
  · refine wp_X12_count ⟨fun e => ?_, fun _ => ⟨hT.1.1, rt⟩, fun e => ?_, fun e => ?_, fun e => ?_, fun e => ?_, fun e => ?_, fun e => ?_, fun e => ?_⟩ <;> exact absurd e (by omega)
  · refine wp_X12_count ⟨fun e => ?_, fun e => ?_, fun _ => ⟨hT.1.2.1, rt⟩, fun e => ?_, fun e => ?_, fun e => ?_, fun e => ?_, fun e => ?_, fun e => ?_⟩ <;> exact absurd e (by omega)
  · refine wp_X12_count ⟨fun e => ?_, fun e => ?_, fun e => ?_, fun _ => ⟨hT.1.2.2.1, rt⟩, fun e => ?_, fun e => ?_, fun e => ?_, fun e => ?_, fun e => ?_⟩ <;> exact absurd e (by omega)
  · refine wp_X12_count ⟨fun e => ?_, fun e => ?_, fun e => ?_, fun e => ?_, fun _ => ⟨hT.1.2.2.2, rt⟩, fun e => ?_, fun e => ?_, fun e => ?_, fun e => ?_⟩ <;> exact absurd e (by omega)
  · have hw : w = 5 := Int32.toInt_inj.mp (by rw [c]; decide)
    subst hw
    refine c_homesC hW hT (wp_X12_count ⟨fun e => ?_, fun e => ?_, fun e => ?_, fun e => ?_, fun e => ?_, fun _ => c_count5M hM ⟨rfl, rt⟩, fun e => ?_, fun e => ?_, fun e => ?_⟩) <;> exact absurd e (by decide)
  · have hw : w = 6 := Int32.toInt_inj.mp (by rw [c]; decide)
    subst hw
    refine c_homelessC hW hT (wp_X12_count ⟨fun e => ?_, fun e => ?_, fun e => ?_, fun e => ?_, fun e => ?_, fun e => ?_, fun _ => c_count6M hM ⟨rfl, rt⟩, fun e => ?_, fun e => ?_⟩) <;> exact absurd e (by decide)
  · obtain ⟨n, hn, e1, e2, e3⟩ := hR.2.2.1
    refine wp_X12_count ⟨fun e => ?_, fun e => ?_, fun e => ?_, fun e => ?_, fun e => ?_, fun e => ?_, fun e => ?_, fun _ => ⟨e1.trans e2.symm, rt⟩, fun e => ?_⟩ <;> exact absurd e (by omega)
  · refine wp_X12_count ⟨fun e => ?_, fun e => ?_, fun e => ?_, fun e => ?_, fun e => ?_, fun e => ?_, fun e => ?_, fun e => ?_, fun _ => ⟨rfl, rt⟩⟩ <;> exact absurd e (by omega)
/-! leaf -/
theorem RR_leaf {Mc Mm : Mem} {b : Nat} {x : Int32} (hR : RR Mc Mm) (hb : b < nBm Mm) (hx : x = 0 ∨ x = 1) : RR (mset Mc 19 b x) (mset (mset Mm 0 0 0) 7 b x) := by
  obtain ⟨hW, hT⟩ := hR.2.2.2.2.1
  obtain ⟨W1, W2, W3, W4, W5, W6, W7, W8⟩ := hW
  obtain ⟨T1, T2, T3, T4, T5, T6⟩ := hT
  refine ⟨hR.1, hR.2.1, hR.2.2.1, hR.2.2.2.1, ⟨⟨W1, W2, W3, W4, fun b' hb' => ⟨(W5 b' hb').1, (W5 b' hb').2.1, ?_⟩, W6, W7, W8⟩, T1, fun b' hb' => ⟨(T2 b' hb').1, (T2 b' hb').2.1, ?_⟩, fun b' h1 h2 => ?_, T4, T5, T6⟩, hR.2.2.2.2.2⟩
  · show upd (Mm.1 7) b x b' = 0 ∨ upd (Mm.1 7) b x b' = 1
    by_cases h : b' = b
    · rw [h, upd_at]; exact hx
    · rw [upd_ne _ _ h]; exact (W5 b' hb').2.2
  · show upd (Mc.1 19) b x b' = upd (Mm.1 7) b x b'
    by_cases h : b' = b
    · rw [h, upd_at, upd_at]
    · rw [upd_ne _ _ h, upd_ne _ _ h]; exact (T2 b' hb').2.2
  · show upd (Mc.1 19) b x b' = 0
    have h1' : nBm Mm ≤ b' := h1
    rw [upd_ne _ _ (by omega)]
    exact T3 b' h1 h2
theorem nar0 : vp_nar .boolean 0 = 0 := by decide
theorem nar1 : vp_nar .boolean 1 = 1 := by decide
theorem st_leaf : St_leaf RR := by
  intro G1 G2 Mc Mm v w hR
  obtain ⟨hW, hT⟩ := hR.2.2.2.2.1
  obtain ⟨e6, e0, hn⟩ := RR_B hR
  rcases num2 v (n := nBm Mm) (by omega) with hb | ⟨b, hb, rfl⟩
  · exact wp_X11_leaf (c_noBook_bad e6 (by omega) hb (n1 (wp_X12_leaf (c_isBook_bad e0 (by omega) hb (k0 ⟨rfl, RR_thrown hR⟩)))))
  have hv := vin10 hb hn
  have hx := ix10 hb hn
  have t19 : Mc.1 19 b = Mm.1 7 b := (hT.2.1 b hb).2.2
  have hbad : (w.toInt < 0 ∨ 1 < w.toInt) → Ci shM G2 mX12_leaf 2 [.ref (G2.2.1 0), .int (nI b), .int w] Mm (fun y M2 => -1000001 = y ∧ RR Mc M2) := fun h => wp_X12_leaf (c_isBook_ok e0 (by omega) hb (k1 (c_in_bad (by rw [t0, l_1]; exact h) (n0 ⟨rfl, RR_thrown hR⟩))))
  refine wp_X11_leaf (c_noBook_ok e6 (by omega) hb (n0 ⟨fun c => hbad (Or.inl (lt0 c)), fun c => ⟨fun c2 => ⟨hv, ?_⟩, fun c2 => hbad (Or.inr ?_)⟩⟩))
  · have w0 : 0 ≤ w.toInt := by
      have : ¬ w.toInt < 0 := fun e => c (lt0' e)
      omega
    have w1 : w.toInt ≤ 1 := by rw [leI, i_1] at c2; exact c2
    rw [nar0, nar1, hx, t19]
    have go : ∀ {q : Int32 → Mem → Prop}, ((Mm.1 7 b = 0 → (w ≠ 1 → q 0 (mset (mset Mm 0 0 0) 7 b 0)) ∧ (w = 1 → q 0 (mset (mset Mm 0 0 0) 7 b 1))) ∧ (¬ Mm.1 7 b = 0 → (w ≠ 1 → q 1 (mset (mset Mm 0 0 0) 7 b 0)) ∧ (w = 1 → q 1 (mset (mset Mm 0 0 0) 7 b 1)))) → Ci shM G2 mX12_leaf 2 [.ref (G2.2.1 0), .int (nI b), .int w] Mm q := by
      intro q hq
      refine wp_X12_leaf (c_isBook_ok e0 (by omega) hb (k1 (c_in_ok (by rw [t0]; exact w0) (by rw [l_1]; exact w1) (n1 ⟨hv, ?_⟩))))
      rw [nar0, nar1, hx]
      exact ⟨fun d => ⟨fun d2 => ⟨hv, (hq.1 d).1 d2⟩, fun d2 => ⟨hv, (hq.1 d).2 d2⟩⟩, fun d => ⟨fun d2 => ⟨hv, (hq.2 d).1 d2⟩, fun d2 => ⟨hv, (hq.2 d).2 d2⟩⟩⟩
    refine ⟨fun d => ⟨fun d2 => ⟨hv, go ⟨fun _ => ⟨fun _ => ⟨rfl, RR_leaf hR hb (Or.inl rfl)⟩, fun d3 => absurd d3 d2⟩, fun d3 => absurd d d3⟩⟩, fun d2 => ⟨hv, go ⟨fun _ => ⟨fun d3 => absurd d2 d3, fun _ => ⟨rfl, RR_leaf hR hb (Or.inr rfl)⟩⟩, fun d3 => absurd d d3⟩⟩⟩, fun d => ⟨fun d2 => ⟨hv, go ⟨fun d3 => absurd d3 d, fun _ => ⟨fun _ => ⟨rfl, RR_leaf hR hb (Or.inl rfl)⟩, fun d3 => absurd d3 d2⟩⟩⟩, fun d2 => ⟨hv, go ⟨fun d3 => absurd d3 d, fun _ => ⟨fun d3 => absurd d2 d3, fun _ => ⟨rfl, RR_leaf hR hb (Or.inr rfl)⟩⟩⟩⟩⟩⟩
  · rw [leI, i_1] at c2; omega
/-! as -/
def ofS (s k : Nat) : Bool := decide (k = 0 ∨ k = s + 1 ∨ (k = 1 ∧ s < 3))
theorem l_5 : (5 : Int64).toInt = 5 := by decide
theorem i_6 : (6 : Int32).toInt = 6 := by decide
theorem c_isOf {G : GV} {kk s k : Nat} {M : Mem} {q : Int32 → Mem → Prop} (hs : s < 5) (hk : k < 6) (h : q (b01 (ofS s k)) M) : Ci shM G mX12_isOf kk [.int (nI s + 1), .int (nI k)] M q := by
  refine wp_X12_isOf ?_
  rw [nI_1]
  match s, hs, k, hk, h with
  | 0, _, 0, _, h | 0, _, 1, _, h | 0, _, 2, _, h | 0, _, 3, _, h | 0, _, 4, _, h | 0, _, 5, _, h
  | 1, _, 0, _, h | 1, _, 1, _, h | 1, _, 2, _, h | 1, _, 3, _, h | 1, _, 4, _, h | 1, _, 5, _, h
  | 2, _, 0, _, h | 2, _, 1, _, h | 2, _, 2, _, h | 2, _, 3, _, h | 2, _, 4, _, h | 2, _, 5, _, h
  | 3, _, 0, _, h | 3, _, 1, _, h | 3, _, 2, _, h | 3, _, 3, _, h | 3, _, 4, _, h | 3, _, 5, _, h
  | 4, _, 0, _, h | 4, _, 1, _, h | 4, _, 2, _, h | 4, _, 3, _, h | 4, _, 4, _, h | 4, _, 5, _, h =>
    refine ⟨fun c => ?_, fun c => ⟨fun c2 => ?_, fun c2 => ⟨fun c3 => ?_, fun c3 => ⟨fun c4 => ?_, fun c4 => ⟨fun c5 => ?_, fun c5 => ?_⟩⟩⟩⟩⟩ <;> first | exact h | (exfalso; revert c; decide) | (exfalso; revert c2; decide) | (exfalso; revert c3; decide) | (exfalso; revert c4; decide) | (exfalso; revert c5; decide)
theorem c_isOfKind {G : GV} {kk l k : Nat} {M : Mem} {d : Nat → Nat → Int32} {q : Int32 → Mem → Prop} (hW : WFm d) (hT : TieC (kC M.1) d) (hl : l < ix (d 0 10)) (hk : k < 6) (h : q (b01 (ofS (ix (d 9 l)) k)) M) : Ci shC G mX3_isOfKind (kk + 1) [.ref (G.2.1 6), .int (nI l), .int (nI k)] M q := by
  have hn : ix (d 0 10) ≤ 12 := hW.2.1.2
  have hv := vin12 hl hn
  obtain ⟨s, hs, es⟩ := srt5 hW hl
  have t29 : M.1 29 l = nI s := Eq.trans (hT.2.2.2.1 l hl).2.1 es
  rw [es, ix_nI (by omega)] at h
  refine wp_X3_isOfKind ⟨fun c => ?_, fun c => ⟨hv, ?_⟩⟩
  · have : k = 0 := (nI_eq (by omega) (by omega)).mp c
    rw [ofS, decide_eq_true (Or.inl this)] at h; exact h
  have k0' : k ≠ 0 := fun e => c (by rw [e]; rfl)
  rw [ix12 hl hn, t29, nI_1]
  refine ⟨fun c2 => ?_, fun c2 => ⟨fun c3 => ?_, fun c3 => c_isHomeC hW hT hl ?_⟩⟩
  · have : k = s + 1 := (nI_eq (by omega) (by omega)).mp c2
    rw [ofS, decide_eq_true (Or.inr (Or.inl this))] at h; exact h
  · have k1' : k ≠ 1 := fun e => c3 (by rw [e]; rfl)
    have k2' : k ≠ s + 1 := fun e => c2 (by rw [e])
    rw [ofS, decide_eq_false (by omega)] at h; exact h
  · have k1' : k = 1 := (nI_eq (by omega) (by omega)).mp c3
    have k2' : k ≠ s + 1 := fun e => c2 (by rw [e])
    rw [homS, es, ix_nI (by omega)]
    by_cases h3 : s < 3
    · rw [ofS, decide_eq_true (by omega)] at h
      rw [decide_eq_true h3]; exact k1 h
    · rw [ofS, decide_eq_false (by omega)] at h
      rw [decide_eq_false h3]; exact k0 h
theorem st_as : St_as RR := by
  intro G1 G2 Mc Mm v w hR
  obtain ⟨hW, hT⟩ := hR.2.2.2.2.1
  obtain ⟨e6, e0, hn⟩ := RR_L hR
  rcases num2 v (n := nLm Mm) (by omega) with hb | ⟨l, hl, rfl⟩
  · exact wp_X11_as (c_noLine_bad e6 (by omega) hb (n1 (wp_X12_as (c_isLine_bad e0 (by omega) hb (k0 ⟨rfl, RR_thrown hR⟩)))))
  have hv := vin12 hl hn
  have hx := ix12 hl hn
  rcases num2 w (n := 6) (by omega) with hb | ⟨k, hk, rfl⟩
  · have hm : Ci shM G2 mX12_as 2 [.ref (G2.2.1 0), .int (nI l), .int w] Mm (fun y M2 => -1000001 = y ∧ RR Mc M2) := wp_X12_as (c_isLine_ok e0 (by omega) hl (k1 (c_in_bad (by rw [t0, l_5]; omega) (n0 ⟨rfl, RR_thrown hR⟩))))
    refine wp_X11_as (c_noLine_ok e6 (by omega) hl (n0 ⟨fun c => hm, fun c => ⟨fun c2 => ?_, fun c2 => hm⟩⟩))
    exfalso
    have : ¬ w.toInt < 0 := fun e => c (lt0' e)
    rw [ltI, i_6] at c2
    omega
  obtain ⟨s, hs, es⟩ := srt5 hW (show l < ix (kM Mm.1 0 10) from hl)
  have e9 : Mm.1 9 l = nI s := es
  have hm : ∀ {q : Int32 → Mem → Prop}, (ofS s k = true → q (Mm.1 11 l) (mset (mset Mm 0 0 0) 0 1 0)) → (ofS s k = false → q (-1000010 - 3) (mset (mset (mset Mm 0 0 0) 0 1 0) 0 1 3)) → Ci shM G2 mX12_as 2 [.ref (G2.2.1 0), .int (nI l), .int (nI k)] Mm q := by
    intro q h1 h2
    refine wp_X12_as (c_isLine_ok e0 (by omega) hl (k1 (c_in_ok (by rw [t0, nI_toInt (by omega)]; omega) (by rw [l_5, nI_toInt (by omega)]; omega) (n1 ⟨hv, ?_⟩))))
    rw [hx, show (mset Mm 0 0 0).1 9 l = nI s from e9]
    refine c_isOf hs hk ?_
    cases ho : ofS s k with
    | true => exact k1 ⟨hv, h1 ho⟩
    | false => exact k0 (wp_X12_finding (h2 ho))
  refine wp_X11_as (c_noLine_ok e6 (by omega) hl (n0 ⟨fun c => absurd c (nI_pos (by omega)), fun _ => ⟨fun _ => c_isOfKind hW hT hl hk ?_, fun c => absurd (nI_lt (b := 6) hk (by omega)) c⟩⟩))
  rw [es, ix_nI (by omega)]
  cases ho : ofS s k with
  | true =>
    refine n1 ⟨hv, wp_X11_withoutFinding (hm (fun _ => ⟨?_, ⟨rfl, hR.1.2⟩, hR.2⟩) (fun e => absurd (ho.symm.trans e) (by decide)))⟩
    rw [hx]
    exact (hT.2.2.2.1 l hl).2.2.2.1
  | false => exact n0 (wp_X11_finding (hm (fun e => absurd (ho.symm.trans e) (by decide)) (fun _ => ⟨rfl, ⟨rfl, hR.1.2⟩, hR.2⟩)))
