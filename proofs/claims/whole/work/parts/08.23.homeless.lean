/-! HOMELESS, homes; line, count -/
def hereS (d : Nat → Nat → Int32) (l h : Nat) : Bool := decide (d 19 h = d 10 l ∧ d 20 h = doorS d l)
def stdS (d : Nat → Nat → Int32) (l h : Nat) : Bool := hereS d l h && decide (d 21 h ≤ gS d l ∧ gS d l < d 22 h)
def hlS (d : Nat → Nat → Int32) (l : Nat) : Bool := anyB (hereS d l) (ix (d 0 23)) && !anyB (stdS d l) (ix (d 0 23))
theorem WF_H {d : Nat → Nat → Int32} (h : WFm d) : d 0 23 = nI (ix (d 0 23)) ∧ ix (d 0 23) ≤ 20 := h.2.2.2.1
theorem upto {p : Nat → Prop} {i : Nat} (h : ∀ j, j < i → p j) (hi : p i) : ∀ j, j < i + 1 → p j := fun j hj => by
  rcases Nat.lt_or_ge j i with h1 | h1
  · exact h j h1
  · obtain rfl : j = i := by omega
    exact hi
theorem c_noneStands {G : GV} {k n : Nat} {M : Mem} {q : Int32 → Mem → Prop} {s u y : Int32} {he st : Nat → Bool} (hn : n ≤ 20) (e5 : M.1 5 4 = nI n) (hhe : ∀ j, j < n → he j = decide (M.1 24 j = s ∧ M.1 25 j = u)) (hst : ∀ j, j < n → st j = (he j && decide (M.1 26 j ≤ y ∧ y < M.1 27 j))) (h : q (b01 (anyB he n && !anyB st n)) M) : Ci shC G mX2_noneStands k [.ref (G.2.1 5), .int s, .int u, .int y] M q := by
  have loop : ∀ m i, i + m = n → (∀ j, j < i → st j = false) → V shC G mX2_noneStands k 6 [(0, .ref (G.2.1 5)), (1, .int s), (2, .int u), (3, .int y), (4, .int (b01 (anyB he i))), (5, .int (nI i))] [] M (Qi q) := by
    intro m
    induction m with
    | zero =>
      intro i hi hno
      obtain rfl : i = n := by omega
      rw [anyB_no hno, Bool.not_false, Bool.and_true] at h
      refine wp_X2_noneStands_6 ⟨fun _ => ⟨?_, h⟩, fun c => absurd (by rw [e5]; exact nI_le (Nat.le_refl _) (by omega)) c⟩
      cases anyB he i
      · exact Or.inl rfl
      · exact Or.inr rfl
    | succ m ih =>
      intro i hi hno
      have hv : vp_in (nI i) 20 := vp_in_nI (by omega) (by decide)
      have hh := hhe i (by omega)
      have hs := hst i (by omega)
      have nxF : he i = false → V shC G mX2_noneStands k 6 [(0, .ref (G.2.1 5)), (1, .int s), (2, .int u), (3, .int y), (4, .int (b01 (anyB he i))), (5, .int (nI (i + 1)))] [] M (Qi q) := fun e => by
        have := ih (i + 1) (by omega) (upto hno (by rw [hs, e]; rfl))
        rw [anyB, e, Bool.or_false] at this
        exact this
      have nxT : he i = true → st i = false → V shC G mX2_noneStands k 6 [(0, .ref (G.2.1 5)), (1, .int s), (2, .int u), (3, .int y), (4, .int 1), (5, .int (nI (i + 1)))] [] M (Qi q) := fun e e2 => by
        have := ih (i + 1) (by omega) (upto hno e2)
        rw [anyB, e, Bool.or_true] at this
        exact this
      refine wp_X2_noneStands_6 ⟨fun c => absurd c (by rw [e5]; exact nI_ge (by omega) (by omega)), fun _ => ⟨hv, ?_⟩⟩
      rw [ix_nI (show i < 2 ^ 31 by omega), nI_1]
      refine ⟨fun c => nxF ?_, fun c => ⟨hv, fun c2 => ⟨hv, fun c3 => nxT ?_ ?_, fun c3 => ⟨hv, fun c4 => nxT ?_ ?_, fun c4 => ?_⟩⟩, fun c2 => nxF ?_⟩⟩
      · rw [hh]; exact decide_eq_false (fun e => c e.1)
      · rw [hh]; exact decide_eq_true ⟨c, c2⟩
      · rw [hs, decide_eq_false (fun e => absurd c3 (Int32.not_lt.mpr e.1)), Bool.and_false]
      · rw [hh]; exact decide_eq_true ⟨c, c2⟩
      · rw [hs, decide_eq_false (fun e => absurd e.2 (Int32.not_lt.mpr c4)), Bool.and_false]
      · have e1 : st i = true := by rw [hs, hh, decide_eq_true ⟨c, c2⟩, decide_eq_true ⟨Int32.not_lt.mp c3, Int32.not_le.mp c4⟩]; rfl
        rw [anyB_yes (show i < n by omega) e1, Bool.not_true, Bool.and_false] at h
        exact h
      · rw [hh]; exact decide_eq_false (fun e => c2 e.2)
  exact wp_X2_noneStands (loop n 0 (by omega) (fun j hj => absurd hj (Nat.not_lt_zero _)))
theorem c_isHomelessC {G : GV} {k l : Nat} {M : Mem} {d : Nat → Nat → Int32} {q : Int32 → Mem → Prop} (hW : WFm d) (hT : TieC (kC M.1) d) (hl : l < ix (d 0 10)) (h : q (b01 (hlS d l)) M) : Ci shC G mX11_isHomeless (k + 1) [.ref (G.2.1 0), .int (nI l)] M q := by
  have hn : ix (d 0 10) ≤ 12 := hW.2.1.2
  have hv := vin12 hl hn
  obtain ⟨e0, h20⟩ := WF_H hW
  have tl := hT.2.2.2.1 l hl
  have t30 : M.1 30 l = d 10 l := tl.2.2.1
  have t33 : M.1 33 l = gS d l := tl.2.2.2.2.2.1
  have t34 : M.1 34 l = doorS d l := tl.2.2.2.2.2.2.1
  refine wp_X11_isHomeless ⟨hv, hv, hv, ?_⟩
  rw [ix12 hl hn, t30, t33, t34]
  refine c_noneStands (he := hereS d l) (st := stdS d l) h20 (Eq.trans hT.1.2.2.2 e0) (fun j hj => ?_) (fun j hj => ?_) ⟨?_, h⟩
  · have tj := hT.2.2.2.2.2 j hj
    have a1 : M.1 24 j = d 19 j := tj.1
    have a2 : M.1 25 j = d 20 j := tj.2.1
    rw [a1, a2, hereS]
  · have tj := hT.2.2.2.2.2 j hj
    have a1 : M.1 26 j = d 21 j := tj.2.2.1
    have a2 : M.1 27 j = d 22 j := tj.2.2.2
    rw [a1, a2, stdS]
  · exact b01_01 _
theorem gS_nI {d : Nat → Nat → Int32} (hW : WFm d) {l : Nat} (hl : l < ix (d 0 10)) : ∃ g, 1 ≤ g ∧ g ≤ 9998 ∧ gS d l = nI g := by
  obtain ⟨b, hb, e⟩ := (hW.2.2.2.2.2.1 l hl).1
  have hb' : b < 10 := Nat.lt_of_lt_of_le hb hW.1.2
  obtain ⟨g, g1, g2, g3⟩ := (hW.2.2.2.2.1 b hb).1
  refine ⟨g, g1, g2, ?_⟩
  rw [gS, e, ix_nI (by omega)]
  exact g3
theorem c_isHomeless {G : GV} {k l : Nat} {M : Mem} {q : Int32 → Mem → Prop} (hW : WFm (kM M.1)) (hl : l < nLm M) (h : q (b01 (hlS (kM M.1) l)) M) : Ci shM G mX12_isHomeless (k + 2) [.ref (G.2.1 0), .int (nI l)] M q := by
  have hn := (WF_L hW).2
  have hv := vin12 hl hn
  have hxl := ix12 hl hn
  obtain ⟨e0, h20⟩ := WF_H hW
  obtain ⟨n, hnn⟩ : ∃ n, n = ix (kM M.1 0 23) := ⟨_, rfl⟩
  rw [hlS, ← hnn] at h
  rw [← hnn] at e0 h20
  have e23 : M.1 0 23 = nI n := e0
  obtain ⟨g, g1, g2, hg⟩ := gS_nI hW (show l < ix (kM M.1 0 10) from hl)
  have loop : ∀ m i, i + m = n → V shM G mX12_isHomeless (k + 2) 7 [(0, .ref (G.2.1 0)), (1, .int (nI l)), (2, .int (b01 (anyB (hereS (kM M.1) l) i))), (3, .int (b01 (anyB (stdS (kM M.1) l) i))), (4, .int (nI i))] [] M (Qi q) := by
    intro m
    induction m with
    | zero =>
      intro i hi
      obtain rfl : i = n := by omega
      refine wp_X12_isHomeless_7 ⟨fun _ => ?_, fun c => absurd (by rw [e23]; exact nI_le (Nat.le_refl _) (by omega)) c⟩
      cases h1 : anyB (hereS (kM M.1) l) i with
      | false => rw [h1] at h; exact k0 h
      | true =>
        rw [h1] at h
        refine k1 ?_
        cases h2 : anyB (stdS (kM M.1) l) i with
        | false => rw [h2] at h; exact n0 h
        | true => rw [h2] at h; exact n1 h
    | succ m ih =>
      intro i hi
      have hvi : vp_in (nI i) 20 := vp_in_nI (by omega) (by decide)
      have l1 := ih (i + 1) (by omega)
      rw [anyB, anyB] at l1
      refine wp_X12_isHomeless_7 ⟨fun c => absurd c (by rw [e23]; exact nI_ge (by omega) (by omega)), fun _ => ⟨hvi, hv, ?_⟩⟩
      rw [ix_nI (show i < 2 ^ 31 by omega), hxl, nI_1]
      have noh : hereS (kM M.1) l i = false → V shM G mX12_isHomeless (k + 2) 7 [(0, .ref (G.2.1 0)), (1, .int (nI l)), (2, .int (b01 (anyB (hereS (kM M.1) l) i))), (3, .int (b01 (anyB (stdS (kM M.1) l) i))), (4, .int (nI (i + 1)))] [] M (Qi q) := fun e => by
        rw [e, show stdS (kM M.1) l i = false from by rw [stdS, e]; rfl, Bool.or_false, Bool.or_false] at l1
        exact l1
      have four : V shM G mX12_isHomeless (k + 2) 7 [(0, .ref (G.2.1 0)), (1, .int (nI l)), (2, .int (b01 (anyB (hereS (kM M.1) l) i))), (3, .int (b01 (anyB (stdS (kM M.1) l) i))), (4, .int (nI (i + 1)))] [] M (Qi q) → ((b01 (anyB (hereS (kM M.1) l) i) ≠ 0 → ((b01 (anyB (stdS (kM M.1) l) i) ≠ 0 → V shM G mX12_isHomeless (k + 2) 7 [(0, .ref (G.2.1 0)), (1, .int (nI l)), (2, .int 1), (3, .int 1), (4, .int (nI (i + 1)))] [] M (Qi q)) ∧ (b01 (anyB (stdS (kM M.1) l) i) = 0 → V shM G mX12_isHomeless (k + 2) 7 [(0, .ref (G.2.1 0)), (1, .int (nI l)), (2, .int 1), (3, .int 0), (4, .int (nI (i + 1)))] [] M (Qi q)))) ∧ (b01 (anyB (hereS (kM M.1) l) i) = 0 → ((b01 (anyB (stdS (kM M.1) l) i) ≠ 0 → V shM G mX12_isHomeless (k + 2) 7 [(0, .ref (G.2.1 0)), (1, .int (nI l)), (2, .int 0), (3, .int 1), (4, .int (nI (i + 1)))] [] M (Qi q)) ∧ (b01 (anyB (stdS (kM M.1) l) i) = 0 → V shM G mX12_isHomeless (k + 2) 7 [(0, .ref (G.2.1 0)), (1, .int (nI l)), (2, .int 0), (3, .int 0), (4, .int (nI (i + 1)))] [] M (Qi q))))) := by
        intro hV
        cases h1 : anyB (hereS (kM M.1) l) i <;> cases h2 : anyB (stdS (kM M.1) l) i <;> rw [h1, h2] at hV
        · exact n0 (n0 hV)
        · exact n0 (n1 hV)
        · exact n1 (n0 hV)
        · exact n1 (n1 hV)
      refine ⟨fun c => four (noh (decide_eq_false (fun e => c e.1))), fun c => ⟨hvi, c_doorOf hW hl ⟨fun c2 => four (noh (decide_eq_false (fun e => c2 e.2))), fun c2 => ?_⟩⟩⟩
      have he : hereS (kM M.1) l i = true := decide_eq_true ⟨c, c2⟩
      rw [he, Bool.or_true] at l1
      obtain ⟨f, t, f1, f2, f3, f4⟩ := (hW.2.2.2.2.2.2.2 i (by rw [← hnn]; omega)).2.2
      have f3' : M.1 21 i = nI f := f3
      have f4' : M.1 22 i = nI t := f4
      have go : V shM G mX12_isHomeless (k + 2) 7 [(0, .ref (G.2.1 0)), (1, .int (nI l)), (2, .int (b01 true)), (3, .int (b01 (stdS (kM M.1) l i))), (4, .int (nI (i + 1)))] [] M (Qi q) → Ci shM G mX12_gathered (k + 1) [.ref (G.2.1 0), .int (nI l)] M (fun x2 M2 => vp_in (nI i) 20 ∧ vp_in (nI i) 20 ∧ Ci shM G mX12_in (k + 1) [.long (Int32.toInt64 x2), .long (Int32.toInt64 (M2.1 21 i)), .long (Int32.toInt64 ((M2.1 22 i) - 1))] M2 (fun x3 M3 => ((x3 = 0 → V shM G mX12_isHomeless (k + 2) 7 [(0, .ref (G.2.1 0)), (1, .int (nI l)), (2, .int 1), (3, .int 0), (4, .int (nI (i + 1)))] [] M3 (Qi q)) ∧ (¬ x3 = 0 → V shM G mX12_isHomeless (k + 2) 7 [(0, .ref (G.2.1 0)), (1, .int (nI l)), (2, .int 1), (3, .int 1), (4, .int (nI (i + 1)))] [] M3 (Qi q))))) := by
        intro hV
        refine c_gathered hW hl ⟨hvi, hvi, c_in ?_⟩
        rw [f3', f4', hi1 (by omega), Int32.toInt_toInt64, nI_toInt (by omega), hg]
        by_cases hin : f ≤ g ∧ g < t
        · rw [inZ_nI (by omega) (by omega)]
          rw [stdS, he, show decide (kM M.1 21 i ≤ gS (kM M.1) l ∧ gS (kM M.1) l < kM M.1 22 i) = true from decide_eq_true (by rw [hg, f3, f4, nI_leI (by omega) (by omega), nI_ltI (by omega) (by omega)]; exact hin)] at hV
          exact k1 hV
        · rw [inZ_out (by rw [nI_toInt (by omega)]; omega)]
          rw [stdS, he, show decide (kM M.1 21 i ≤ gS (kM M.1) l ∧ gS (kM M.1) l < kM M.1 22 i) = false from decide_eq_false (by rw [hg, f3, f4, nI_leI (by omega) (by omega), nI_ltI (by omega) (by omega)]; exact hin)] at hV
          exact k0 hV
      cases h2 : anyB (stdS (kM M.1) l) i with
      | true =>
        rw [h2, Bool.true_or] at l1
        exact ⟨fun _ => n1 l1, fun _ => n1 l1⟩
      | false =>
        rw [h2, Bool.false_or] at l1
        exact ⟨fun _ => n0 (go l1), fun _ => n0 (go l1)⟩
  exact wp_X12_isHomeless (loop n 0 (by omega))
def lnS (d : Nat → Nat → Int32) (l : Nat) (w : Int) : Int32 := if w = 0 then d 8 l else if w = 1 then d 9 l else if w = 2 then d 10 l else if w = 3 then d 11 l else if w = 4 then d 12 l else if w = 5 then gS d l else if w = 6 then doorS d l else if w = 7 then b01 (hlS d l) else d 13 l
theorem l_8 : (8 : Int64).toInt = 8 := by decide
theorem c_lineM {G : GV} {k l : Nat} {M : Mem} {q : Int32 → Mem → Prop} {w : Int32} (hW : WFm (kM M.1)) (hl : l < nLm M) (h1 : 0 ≤ w.toInt) (h2 : w.toInt ≤ 8) (h : q (lnS (kM M.1) l w.toInt) (mset M 0 0 0)) : Ci shM G mX12_line (k + 3) [.ref (G.2.1 0), .int (nI l), .int w] M q := by
  obtain ⟨e0, hn⟩ := WF_L hW
  have hv := vin12 hl hn
  refine wp_X12_line (c_isLine_ok e0 (by omega) hl (k1 (c_in_ok (by rw [t0]; exact h1) (by rw [l_8]; exact h2) (n1 ?_))))
  rw [ix12 hl hn]
  refine ⟨fun c => ⟨hv, ?_⟩, fun c => ⟨hv, ?_⟩, fun c => ⟨hv, ?_⟩, fun c => ⟨hv, ?_⟩, fun c => ⟨hv, ?_⟩, fun c => c_gathered (M := mset M 0 0 0) hW hl ?_, fun c => c_doorOf (M := mset M 0 0 0) hW hl ?_, fun c => c_isHomeless (M := mset M 0 0 0) hW hl ?_, fun c => ⟨hv, ?_⟩⟩
  · rw [c] at h; exact h
  · rw [c] at h; exact h
  · rw [c] at h; exact h
  · rw [c] at h; exact h
  · rw [c] at h; exact h
  · rw [c] at h; exact h
  · rw [c] at h; exact h
  · rw [c] at h
    have h' : q (b01 (hlS (kM M.1) l)) (mset M 0 0 0) := h
    rw [show kM (mset M 0 0 0).1 = kM M.1 from rfl]
    cases hb : hlS (kM M.1) l with
    | false => rw [hb] at h'; exact k0 h'
    | true => rw [hb] at h'; exact k1 h'
  · have e8 : w.toInt = 8 := by omega
    rw [e8] at h; exact h
theorem c_lineC {G : GV} {k l : Nat} {M : Mem} {d : Nat → Nat → Int32} {q : Int32 → Mem → Prop} {w : Int32} (hW : WFm d) (hT : TieC (kC M.1) d) (hl : l < ix (d 0 10)) (h1 : 0 ≤ w.toInt) (h2 : w.toInt ≤ 8) (h : q (lnS d l w.toInt) M) : Ci shC G mX11_line (k + 2) [.ref (G.2.1 0), .int (nI l), .int w] M q := by
  have hn : ix (d 0 10) ≤ 12 := hW.2.1.2
  have hv := vin12 hl hn
  have tl := hT.2.2.2.1 l hl
  have e6 : M.1 6 8 = nI (ix (d 0 10)) := Eq.trans hT.1.2.1 hW.2.1.1
  refine wp_X11_line (c_noLine_ok e6 (by omega) hl (k0 ?_))
  rw [ix12 hl hn]
  refine ⟨fun c => ⟨hv, ?_⟩, fun c => ⟨hv, ?_⟩, fun c => ⟨hv, ?_⟩, fun c => ⟨hv, ?_⟩, fun c => ⟨hv, ?_⟩, fun c => ⟨hv, ?_⟩, fun c => ⟨hv, ?_⟩, fun c => c_isHomelessC hW hT hl ?_, fun c => ⟨hv, ?_⟩, fun c => absurd c (by omega)⟩
  · rw [c] at h; rw [show M.1 28 l = d 8 l from tl.1]; exact h
  · rw [c] at h; rw [show M.1 29 l = d 9 l from tl.2.1]; exact h
  · rw [c] at h; rw [show M.1 30 l = d 10 l from tl.2.2.1]; exact h
  · rw [c] at h; rw [show M.1 31 l = d 11 l from tl.2.2.2.1]; exact h
  · rw [c] at h; rw [show M.1 32 l = d 12 l from tl.2.2.2.2.1]; exact h
  · rw [c] at h; rw [show M.1 33 l = gS d l from tl.2.2.2.2.2.1]; exact h
  · rw [c] at h; rw [show M.1 34 l = doorS d l from tl.2.2.2.2.2.2.1]; exact h
  · rw [c] at h
    have h' : q (b01 (hlS d l)) M := h
    cases hb : hlS d l with
    | false => rw [hb] at h'; exact k0 h'
    | true => rw [hb] at h'; exact k1 h'
  · rw [c] at h; rw [show M.1 38 l = d 13 l from tl.2.2.2.2.2.2.2.1]; exact h
theorem st_line : St_line RR := by
  intro G1 G2 Mc Mm v w hR
  obtain ⟨hW, hT⟩ := hR.2.2.2.2.1
  obtain ⟨e6, e0, hn⟩ := RR_L hR
  rcases num2 v (n := nLm Mm) (by omega) with hb | ⟨l, hl, rfl⟩
  · exact wp_X11_line (c_noLine_bad e6 (by omega) hb (k1 (wp_X12_line (c_isLine_bad e0 (by omega) hb (k0 ⟨rfl, RR_thrown hR⟩)))))
  by_cases hw : 0 ≤ w.toInt ∧ w.toInt ≤ 8
  · exact c_lineC hW hT hl hw.1 hw.2 (c_lineM hW hl hw.1 hw.2 ⟨rfl, RR_thrown hR⟩)
  · have hm : Ci shM G2 mX12_line 3 [.ref (G2.2.1 0), .int (nI l), .int w] Mm (fun y M2 => -1000001 = y ∧ RR Mc M2) := wp_X12_line (c_isLine_ok e0 (by omega) hl (k1 (c_in_bad (by rw [t0, l_8]; omega) (n0 ⟨rfl, RR_thrown hR⟩))))
    refine wp_X11_line (c_noLine_ok e6 (by omega) hl (k0 ⟨fun c => ?_, fun c => ?_, fun c => ?_, fun c => ?_, fun c => ?_, fun c => ?_, fun c => ?_, fun c => ?_, fun c => ?_, fun c => hm⟩)) <;> exact absurd c (by omega)
