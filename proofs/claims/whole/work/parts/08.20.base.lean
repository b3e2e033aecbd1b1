/-! lines, books, years: which numbers are told; what stays -/
theorem num2 (v : Int32) {n : Nat} (hn : n < 2 ^ 31) : (v.toInt < 0 ∨ (n : Int) ≤ v.toInt) ∨ ∃ j, j < n ∧ v = nI j := by
  rcases num_of v hn with h | ⟨_, h⟩ | h
  · exact Or.inl (Or.inl (lt0 h))
  · exact Or.inl (Or.inr h)
  · exact Or.inr h
theorem lt0' {v : Int32} (h : v.toInt < 0) : v < 0 := Int32.lt_iff_toInt_lt.mpr (by simpa using h)
theorem ltI (a b : Int32) : a < b ↔ a.toInt < b.toInt := Int32.lt_iff_toInt_lt
theorem leI (a b : Int32) : a ≤ b ↔ a.toInt ≤ b.toInt := Int32.le_iff_toInt_le
theorem inZ_in {v : Int32} {lo hi : Int} (h1 : lo ≤ v.toInt) (h2 : v.toInt ≤ hi) : inZ v lo hi = 1 := by rw [inZ, if_pos ⟨h1, h2⟩]
theorem c_in_bad {G : GV} {k : Nat} {M : Mem} {q : Int32 → Mem → Prop} {v : Int32} {lo hi : Int64} (hb : v.toInt < lo.toInt ∨ hi.toInt < v.toInt) (h : q 0 M) : Ci shM G mX12_in k [.long (Int32.toInt64 v), .long lo, .long hi] M q := c_in (by rw [inZ_out hb]; exact h)
theorem c_in_ok {G : GV} {k : Nat} {M : Mem} {q : Int32 → Mem → Prop} {v : Int32} {lo hi : Int64} (h1 : lo.toInt ≤ v.toInt) (h2 : v.toInt ≤ hi.toInt) (h : q 1 M) : Ci shM G mX12_in k [.long (Int32.toInt64 v), .long lo, .long hi] M q := c_in (by rw [inZ_in h1 h2]; exact h)
theorem c_noLine_bad {G : GV} {k n : Nat} {M : Mem} {q : Int32 → Mem → Prop} {v : Int32} (h6 : M.1 6 8 = nI n) (hn : n < 2 ^ 31) (hb : v.toInt < 0 ∨ (n : Int) ≤ v.toInt) (h : q 1 M) : Ci shC G mX11_noLine k [.ref (G.2.1 0), .int v] M q := by
  refine wp_X11_noLine ⟨fun _ => h, fun c => ⟨fun c2 => ?_, fun _ => h⟩⟩
  exfalso
  rw [h6, ltI, nI_toInt hn] at c2
  have : ¬ v.toInt < 0 := fun e => c (lt0' e)
  omega
theorem c_noLine_ok {G : GV} {k n l : Nat} {M : Mem} {q : Int32 → Mem → Prop} (h6 : M.1 6 8 = nI n) (hn : n < 2 ^ 31) (hl : l < n) (h : q 0 M) : Ci shC G mX11_noLine k [.ref (G.2.1 0), .int (nI l)] M q :=
  wp_X11_noLine ⟨fun c => absurd c (nI_pos (by omega)), fun _ => ⟨fun _ => h, fun c => absurd (by rw [h6]; exact nI_lt hl hn) c⟩⟩
theorem c_isLine_bad {G : GV} {k n : Nat} {M : Mem} {q : Int32 → Mem → Prop} {v : Int32} (h0 : M.1 0 10 = nI n) (hn : n < 2 ^ 31) (hb : v.toInt < 0 ∨ (n : Int) ≤ v.toInt) (h : q 0 M) : Ci shM G mX12_isLine (k + 1) [.ref (G.2.1 0), .int v] M q := by
  refine wp_X12_isLine (c_in ?_)
  rw [h0, hi1 hn, show inZ v (Int64.toInt 0) ((n : Int) - 1) = 0 from inZ_out (by rcases hb with hb | hb; exact Or.inl hb; exact Or.inr (by omega))]
  exact ⟨Or.inl rfl, h⟩
theorem c_isLine_ok {G : GV} {k n l : Nat} {M : Mem} {q : Int32 → Mem → Prop} (h0 : M.1 0 10 = nI n) (hn : n < 2 ^ 31) (hl : l < n) (h : q 1 M) : Ci shM G mX12_isLine (k + 1) [.ref (G.2.1 0), .int (nI l)] M q := by
  refine wp_X12_isLine (c_in ?_)
  rw [h0, hi1 hn, show inZ (nI l) (Int64.toInt 0) ((n : Int) - 1) = 1 from inZ_nI (by omega) ⟨Int.natCast_nonneg l, by omega⟩]
  exact ⟨Or.inr rfl, h⟩
theorem c_noBook_bad {G : GV} {k n : Nat} {M : Mem} {q : Int32 → Mem → Prop} {v : Int32} (h6 : M.1 3 3 = nI n) (hn : n < 2 ^ 31) (hb : v.toInt < 0 ∨ (n : Int) ≤ v.toInt) (h : q 1 M) : Ci shC G mX11_noBook k [.ref (G.2.1 0), .int v] M q := by
  refine wp_X11_noBook ⟨fun _ => h, fun c => ⟨fun c2 => ?_, fun _ => h⟩⟩
  exfalso
  rw [h6, ltI, nI_toInt hn] at c2
  have : ¬ v.toInt < 0 := fun e => c (lt0' e)
  omega
theorem c_noBook_ok {G : GV} {k n l : Nat} {M : Mem} {q : Int32 → Mem → Prop} (h6 : M.1 3 3 = nI n) (hn : n < 2 ^ 31) (hl : l < n) (h : q 0 M) : Ci shC G mX11_noBook k [.ref (G.2.1 0), .int (nI l)] M q :=
  wp_X11_noBook ⟨fun c => absurd c (nI_pos (by omega)), fun _ => ⟨fun _ => h, fun c => absurd (by rw [h6]; exact nI_lt hl hn) c⟩⟩
theorem c_isBook_bad {G : GV} {k n : Nat} {M : Mem} {q : Int32 → Mem → Prop} {v : Int32} (h0 : M.1 0 5 = nI n) (hn : n < 2 ^ 31) (hb : v.toInt < 0 ∨ (n : Int) ≤ v.toInt) (h : q 0 M) : Ci shM G mX12_isBook (k + 1) [.ref (G.2.1 0), .int v] M q := by
  refine wp_X12_isBook (c_in ?_)
  rw [h0, hi1 hn, show inZ v (Int64.toInt 0) ((n : Int) - 1) = 0 from inZ_out (by rcases hb with hb | hb; exact Or.inl hb; exact Or.inr (by omega))]
  exact ⟨Or.inl rfl, h⟩
theorem c_isBook_ok {G : GV} {k n l : Nat} {M : Mem} {q : Int32 → Mem → Prop} (h0 : M.1 0 5 = nI n) (hn : n < 2 ^ 31) (hl : l < n) (h : q 1 M) : Ci shM G mX12_isBook (k + 1) [.ref (G.2.1 0), .int (nI l)] M q := by
  refine wp_X12_isBook (c_in ?_)
  rw [h0, hi1 hn, show inZ (nI l) (Int64.toInt 0) ((n : Int) - 1) = 1 from inZ_nI (by omega) ⟨Int.natCast_nonneg l, by omega⟩]
  exact ⟨Or.inr rfl, h⟩
theorem yr2 (v : Int32) : (v.toInt < 0 ∨ 9999 < v.toInt) ∨ (0 ≤ v.toInt ∧ v.toInt ≤ 9999) := by omega
theorem t9999 : (9999 : Int64).toInt = 9999 := by decide
theorem t0 : (0 : Int64).toInt = 0 := by decide
theorem c_noYear_bad {G : GV} {k : Nat} {M : Mem} {q : Int32 → Mem → Prop} {v : Int32} (hb : v.toInt < 0 ∨ 9999 < v.toInt) (h : q 1 M) : Ci shC G mX11_noYear k [.ref (G.2.1 0), .int v] M q := by
  refine wp_X11_noYear ⟨fun _ => h, fun c => ⟨fun c2 => ?_, fun _ => h⟩⟩
  exfalso
  rw [leI, show (9999 : Int32).toInt = 9999 from by decide] at c2
  have : ¬ v.toInt < 0 := fun e => c (lt0' e)
  omega
theorem c_noYear_ok {G : GV} {k : Nat} {M : Mem} {q : Int32 → Mem → Prop} {v : Int32} (hb : 0 ≤ v.toInt ∧ v.toInt ≤ 9999) (h : q 0 M) : Ci shC G mX11_noYear k [.ref (G.2.1 0), .int v] M q := by
  refine wp_X11_noYear ⟨fun c => ?_, fun _ => ⟨fun _ => h, fun c => ?_⟩⟩
  · have := lt0 c; omega
  · rw [leI, show (9999 : Int32).toInt = 9999 from by decide] at c; omega
theorem c_inY_bad {G : GV} {k : Nat} {M : Mem} {q : Int32 → Mem → Prop} {v : Int32} (hb : v.toInt < 0 ∨ 9999 < v.toInt) (h : q 0 M) : Ci shM G mX12_in k [.long (Int32.toInt64 v), .long 0, .long 9999] M q := c_in_bad (by rw [t9999, t0]; exact hb) h
theorem c_inY_ok {G : GV} {k : Nat} {M : Mem} {q : Int32 → Mem → Prop} {v : Int32} (hb : 0 ≤ v.toInt ∧ v.toInt ≤ 9999) (h : q 1 M) : Ci shM G mX12_in k [.long (Int32.toInt64 v), .long 0, .long 9999] M q := c_in_ok (by rw [t0]; exact hb.1) (by rw [t9999]; exact hb.2) h
/-- the memories' lasting parts alone decide -/
theorem RR_same {Mc Mm M1 M2 : Mem} (hR : RR Mc Mm) (hc : kC M1.1 = kC Mc.1) (hm : kM M2.1 = kM Mm.1) (hp : RPs M1 M2) : RR M1 M2 := by
  refine ⟨?_, ?_, ?_, ?_, ?_, hp⟩
  · show RSc (kC M1.1) (kM M2.1); rw [hc, hm]; exact hR.1
  · show RSh (kC M1.1) (kM M2.1); rw [hc, hm]; exact hR.2.1
  · show RTp (kC M1.1) (kM M2.1); rw [hc, hm]; exact hR.2.2.1
  · show RAk (kC M1.1) (kM M2.1); rw [hc, hm]; exact hR.2.2.2.1
  · show WFm (kM M2.1) ∧ TieC (kC M1.1) (kM M2.1); rw [hc, hm]; exact hR.2.2.2.2.1
theorem RR_sc {Mc Mm M1 M2 : Mem} (hR : RR Mc Mm) (hc : kC M1.1 = kC Mc.1) (hm : kM M2.1 = kM Mm.1) : RR M1 M2 := by
  refine RR_same hR hc hm ?_
  show PT (kPc (kC M1.1)) (kP (kM M2.1))
  rw [hc, hm]
  exact hR.2.2.2.2.2
theorem RR_m {Mc Mm M2 : Mem} (hR : RR Mc Mm) (hm : kM M2.1 = kM Mm.1) : RR Mc M2 := RR_sc hR rfl hm
abbrev nBm (M : Mem) : Nat := ix (M.1 0 5)
abbrev nLm (M : Mem) : Nat := ix (M.1 0 10)
theorem WF_L {M : Mem} (h : WFm (kM M.1)) : M.1 0 10 = nI (nLm M) ∧ nLm M ≤ 12 := h.2.1
theorem WF_B {M : Mem} (h : WFm (kM M.1)) : M.1 0 5 = nI (nBm M) ∧ nBm M ≤ 10 := h.1
theorem RR_L {Mc Mm : Mem} (hR : RR Mc Mm) : Mc.1 6 8 = nI (nLm Mm) ∧ Mm.1 0 10 = nI (nLm Mm) ∧ nLm Mm ≤ 12 := by
  obtain ⟨hW, hT⟩ := hR.2.2.2.2.1
  have h := WF_L hW
  exact ⟨Eq.trans hT.1.2.1 h.1, h⟩
theorem RR_B {Mc Mm : Mem} (hR : RR Mc Mm) : Mc.1 3 3 = nI (nBm Mm) ∧ Mm.1 0 5 = nI (nBm Mm) ∧ nBm Mm ≤ 10 := by
  obtain ⟨hW, hT⟩ := hR.2.2.2.2.1
  have h := WF_B hW
  exact ⟨Eq.trans hT.1.1 h.1, h⟩
theorem c_gathered {G : GV} {k l : Nat} {M : Mem} {q : Int32 → Mem → Prop} (hW : WFm (kM M.1)) (hl : l < nLm M) (h : q (gS (kM M.1) l) M) : Ci shM G mX12_gathered k [.ref (G.2.1 0), .int (nI l)] M q := by
  have hn := (WF_L hW).2
  have hv : vp_in (nI l) 12 := vp_in_nI (by omega) (by decide)
  have hx : ix (nI l) = l := ix_nI (by omega)
  obtain ⟨b, hb, e⟩ := (hW.2.2.2.2.2.1 l hl).1
  have hb' : b < 10 := Nat.lt_of_lt_of_le hb hW.1.2
  have e' : M.1 8 l = nI b := e
  refine wp_X12_gathered ⟨hv, ?_, hv, ?_, ?_⟩
  · rw [hx, e']; exact vp_in_nI hb' (by decide)
  · rw [hx, e']; exact vp_in_nI hb' (by decide)
  · rw [hx]; exact h
theorem vin12 {l n : Nat} (hl : l < n) (hn : n ≤ 12) : vp_in (nI l) 12 := vp_in_nI (by omega) (by decide)
theorem vin10 {l n : Nat} (hl : l < n) (hn : n ≤ 10) : vp_in (nI l) 10 := vp_in_nI (by omega) (by decide)
theorem ix12 {l n : Nat} (hl : l < n) (hn : n ≤ 12) : ix (nI l) = l := ix_nI (by omega)
theorem ix10 {l n : Nat} (hl : l < n) (hn : n ≤ 10) : ix (nI l) = l := ix_nI (by omega)
/-! kind, shown, leaf -/
theorem st_kind : St_kind RR := by
  intro G1 G2 Mc Mm v hR
  obtain ⟨e6, e0, hn⟩ := RR_L hR
  rcases num2 v (n := nLm Mm) (by omega) with hb | ⟨l, hl, rfl⟩
  · exact wp_X11_kind (c_noLine_bad e6 (by omega) hb (k1 (wp_X12_kind (c_isLine_bad e0 (by omega) hb (k0 ⟨rfl, RR_thrown hR⟩)))))
  · have hx := ix12 hl hn
    have hv := vin12 hl hn
    refine wp_X11_kind (c_noLine_ok e6 (by omega) hl (k0 ⟨hv, wp_X12_kind (c_isLine_ok e0 (by omega) hl (k1 ⟨hv, ?_, RR_thrown hR⟩))⟩))
    show Mc.1 29 (ix (nI l)) + 1 = Mm.1 9 (ix (nI l)) + 1
    rw [hx]
    exact congrArg (· + 1) (hR.2.2.2.2.1.2.2.2.2.1 l hl).2.1
def shS (s g y : Int32) : Int32 := if s = 2 then (if y - g < 100 then 0 else 1) else (if y - g < 72 then 0 else 1)
theorem st_shown : St_shown RR := by
  intro G1 G2 Mc Mm v y hR
  obtain ⟨e6, e0, hn⟩ := RR_L hR
  rcases num2 v (n := nLm Mm) (by omega) with hb | ⟨l, hl, rfl⟩
  · exact wp_X11_shown (c_noLine_bad e6 (by omega) hb (n1 (wp_X12_shown (c_isLine_bad e0 (by omega) hb (k0 ⟨rfl, RR_thrown hR⟩)))))
  rcases yr2 y with hb | hb
  · exact wp_X11_shown (c_noLine_ok e6 (by omega) hl (n0 (c_noYear_bad hb (k1 (wp_X12_shown (c_isLine_ok e0 (by omega) hl (k1 (c_inY_bad hb (n0 ⟨rfl, RR_thrown hR⟩)))))))))
  have hx := ix12 hl hn
  have hv := vin12 hl hn
  have tl := hR.2.2.2.2.1.2.2.2.2.1 l hl
  have t29 : Mc.1 29 (ix (nI l)) = Mm.1 9 l := by rw [hx]; exact tl.2.1
  have t33 : Mc.1 33 (ix (nI l)) = gS (kM Mm.1) l := by rw [hx]; exact tl.2.2.2.2.2.1
  have hm : ∀ {q : Int32 → Mem → Prop}, q (shS (Mm.1 9 l) (gS (kM Mm.1) l) y) (mset Mm 0 0 0) → Ci shM G2 mX12_shown 2 [.ref (G2.2.1 0), .int (nI l), .int y] Mm q := by
    intro q hq
    refine wp_X12_shown (c_isLine_ok e0 (by omega) hl (k1 (c_inY_ok hb (n1 (c_gathered (M := mset Mm 0 0 0) hR.2.2.2.2.1.1 hl ⟨hv, ?_⟩)))))
    rw [hx]
    show (Mm.1 9 l ≠ 2 → (y - gS (kM Mm.1) l < 72 → q 0 (mset Mm 0 0 0)) ∧ (¬ y - gS (kM Mm.1) l < 72 → q 1 (mset Mm 0 0 0))) ∧ (Mm.1 9 l = 2 → (y - gS (kM Mm.1) l < 100 → q 0 (mset Mm 0 0 0)) ∧ (¬ y - gS (kM Mm.1) l < 100 → q 1 (mset Mm 0 0 0)))
    refine ⟨fun c => ⟨fun c2 => ?_, fun c2 => ?_⟩, fun c => ⟨fun c2 => ?_, fun c2 => ?_⟩⟩ <;> simpa [shS, c, c2] using hq
  refine wp_X11_shown (c_noLine_ok e6 (by omega) hl (n0 (c_noYear_ok hb (k0 ⟨hv, ?_⟩))))
  rw [t29, t33]
  refine ⟨fun c => ⟨hv, fun c2 => hm ⟨?_, RR_thrown hR⟩, fun c2 => hm ⟨?_, RR_thrown hR⟩⟩, fun c => ⟨hv, fun c2 => hm ⟨?_, RR_thrown hR⟩, fun c2 => hm ⟨?_, RR_thrown hR⟩⟩⟩ <;> simp [shS, c, c2]
