/-! stay -/
def stP (d : Nat → Nat → Int32) (P l k : Nat) : Bool := P.testBit k && (decide (¬ d 9 k = 4) && oneS d k l)
def fiS (d : Nat → Nat → Int32) (P l : Nat) : Nat → Int32
  | 0 => -1000000
  | k + 1 => if stP d P l k = true ∧ (fiS d P l k = -1000000 ∨ ¬ fiS d P l k ≤ gS d k) then gS d k else fiS d P l k
def laS (d : Nat → Nat → Int32) (P l : Nat) : Nat → Int32
  | 0 => -1000000
  | k + 1 => if stP d P l k = true then (if laS d P l k < gS d k then gS d k else laS d P l k) else laS d P l k
def gB (d : Nat → Nat → Int32) (b : Nat) : Int32 := d 4 b - d 5 b
def bwS (d : Nat → Nat → Int32) (y : Int32) : Nat → Int32
  | 0 => 0
  | b + 1 => if ¬ y ≤ gB d b then (if bwS d y b < gB d b then gB d b else bwS d y b) else bwS d y b
def abS (d : Nat → Nat → Int32) (y : Int32) : Nat → Int32
  | 0 => 9999
  | b + 1 => if ¬ gB d b ≤ y then (if gB d b < abS d y b then gB d b else abS d y b) else abS d y b
section
variable {G : GV} {k : Nat} {M : Mem} {q : Int32 → Mem → Prop} {d : Nat → Nat → Int32}
theorem c_standsWith {P l i : Nat} (hW : WFm d) (hT : TieC (kC M.1) d) (hl : l < ix (d 0 10)) (hi : i < ix (d 0 10)) (h : q (b01 (stP d P l i)) M) : Ci shC G mX3_standsWith (k + 1) [.ref (G.2.1 6), .int (nI i), .int (nI P), .int (nI l)] M q := by
  have hn : ix (d 0 10) ≤ 12 := hW.2.1.2
  refine wp_X3_standsWith ?_
  rw [ix12 hi hn, show M.1 29 i = d 9 i from (hT.2.2.2.1 i hi).2.1]
  refine ⟨fun c => ?_, fun c => ⟨vin12 hi hn, fun c2 => ?_, fun c2 => c_atOneDoor hW hT hi hl ?_⟩⟩
  · have hb : P.testBit i = false := by
      cases e : P.testBit i with
      | false => rfl
      | true => exact absurd ((bit1 _ (by omega)).mpr (by rw [b_nI _ (by omega)]; exact e)) c
    rw [stP, hb] at h; exact h
  · rw [stP, decide_eq_false (fun e => e c2), Bool.false_and, Bool.and_false] at h; exact h
  · have hb : P.testBit i = true := by
      have := (bit1 _ (by omega)).mp c
      rw [b_nI _ (by omega)] at this; exact this
    rw [stP, hb, decide_eq_true c2] at h
    cases ho : oneS d i l with
    | false => rw [ho] at h; exact k0 h
    | true => rw [ho] at h; exact k1 h
theorem c_first {P l : Nat} (hW : WFm d) (hT : TieC (kC M.1) d) (hl : l < ix (d 0 10)) (h : q (fiS d P l (ix (d 0 10))) M) : Ci shC G mX3_firstStanding (k + 2) [.ref (G.2.1 6), .int (nI P), .int (nI l)] M q := by
  have hn : ix (d 0 10) ≤ 12 := hW.2.1.2
  have e6 : M.1 6 8 = nI (ix (d 0 10)) := Eq.trans hT.1.2.1 hW.2.1.1
  have loop : ∀ m i, i + m = ix (d 0 10) → V shC G mX3_firstStanding (k + 2) 6 [(0, .ref (G.2.1 6)), (1, .int (nI P)), (2, .int (nI l)), (3, .int (fiS d P l i)), (4, .int (nI i))] [] M (Qi q) := by
    intro m
    induction m with
    | zero =>
      intro i hi
      obtain rfl : i = ix (d 0 10) := by omega
      exact wp_X3_firstStanding_6 ⟨fun _ => h, fun c => absurd (by rw [e6]; exact nI_le (Nat.le_refl _) (by omega)) c⟩
    | succ m ih =>
      intro i hi
      have hin : i < ix (d 0 10) := by omega
      have l1 := ih (i + 1) (by omega)
      have t33 : M.1 33 i = gS d i := (hT.2.2.2.1 i hin).2.2.2.2.2.1
      refine wp_X3_firstStanding_6 ⟨fun c => absurd c (by rw [e6]; exact nI_ge hin (by omega)), fun _ => c_standsWith hW hT hl hin ?_⟩
      rw [nI_1 i, ix12 hin hn, t33]
      cases hs : stP d P l i with
      | false =>
        rw [fiS, if_neg (fun e => by rw [hs] at e; cases e.1)] at l1
        exact n0 l1
      | true =>
        refine n1 ⟨fun c => ⟨vin12 hin hn, ?_⟩, fun c => ⟨vin12 hin hn, fun c2 => ?_, fun c2 => ⟨vin12 hin hn, ?_⟩⟩⟩
        · rw [fiS, if_pos ⟨hs, Or.inl c⟩] at l1; exact l1
        · rw [fiS, if_neg (by rintro ⟨_, e | e⟩; exact c e; exact e c2)] at l1; exact l1
        · rw [fiS, if_pos ⟨hs, Or.inr c2⟩] at l1; exact l1
  exact wp_X3_firstStanding (loop _ 0 (Nat.zero_add _))
theorem c_last {P l : Nat} (hW : WFm d) (hT : TieC (kC M.1) d) (hl : l < ix (d 0 10)) (h : q (laS d P l (ix (d 0 10))) M) : Ci shC G mX3_lastStanding (k + 2) [.ref (G.2.1 6), .int (nI P), .int (nI l)] M q := by
  have hn : ix (d 0 10) ≤ 12 := hW.2.1.2
  have e6 : M.1 6 8 = nI (ix (d 0 10)) := Eq.trans hT.1.2.1 hW.2.1.1
  have loop : ∀ m i, i + m = ix (d 0 10) → V shC G mX3_lastStanding (k + 2) 6 [(0, .ref (G.2.1 6)), (1, .int (nI P)), (2, .int (nI l)), (3, .int (laS d P l i)), (4, .int (nI i))] [] M (Qi q) := by
    intro m
    induction m with
    | zero =>
      intro i hi
      obtain rfl : i = ix (d 0 10) := by omega
      exact wp_X3_lastStanding_6 ⟨fun _ => h, fun c => absurd (by rw [e6]; exact nI_le (Nat.le_refl _) (by omega)) c⟩
    | succ m ih =>
      intro i hi
      have hin : i < ix (d 0 10) := by omega
      have l1 := ih (i + 1) (by omega)
      have t33 : M.1 33 i = gS d i := (hT.2.2.2.1 i hin).2.2.2.2.2.1
      refine wp_X3_lastStanding_6 ⟨fun c => absurd c (by rw [e6]; exact nI_ge hin (by omega)), fun _ => c_standsWith hW hT hl hin ?_⟩
      rw [nI_1 i, ix12 hin hn, t33]
      cases hs : stP d P l i with
      | false =>
        rw [laS, if_neg (fun e => by rw [hs] at e; cases e)] at l1
        exact k0 l1
      | true =>
        rw [laS, if_pos hs] at l1
        exact k1 ⟨vin12 hin hn, l1⟩
  exact wp_X3_lastStanding (loop _ 0 (Nat.zero_add _))
theorem c_below {y : Int32} (hW : WFm d) (hT : TieC (kC M.1) d) (h : q (bwS d y (ix (d 0 5))) M) : Ci shC G mX1_gatheredBelow (k + 1) [.ref (G.2.1 3), .int y] M q := by
  have hn : ix (d 0 5) ≤ 10 := hW.1.2
  have e3 : M.1 3 3 = nI (ix (d 0 5)) := Eq.trans hT.1.1 hW.1.1
  have loop : ∀ m i, i + m = ix (d 0 5) → V shC G mX1_gatheredBelow (k + 1) 4 [(0, .ref (G.2.1 3)), (1, .int y), (2, .int (bwS d y i)), (3, .int (nI i))] [] M (Qi q) := by
    intro m
    induction m with
    | zero =>
      intro i hi
      obtain rfl : i = ix (d 0 5) := by omega
      exact wp_X1_gatheredBelow_4 ⟨fun _ => h, fun c => absurd (by rw [e3]; exact nI_le (Nat.le_refl _) (by omega)) c⟩
    | succ m ih =>
      intro i hi
      have hin : i < ix (d 0 5) := by omega
      have l1 := ih (i + 1) (by omega)
      have t17 : M.1 17 i = gB d i := (hT.2.1 i hin).1
      refine wp_X1_gatheredBelow_4 ⟨fun c => absurd c (by rw [e3]; exact nI_ge hin (by omega)), fun _ => ⟨vin10 hin hn, ?_⟩⟩
      rw [nI_1 i, ix10 hin hn, t17]
      refine ⟨fun c => ?_, fun c => ⟨vin10 hin hn, ?_⟩⟩
      · rw [bwS, if_neg (fun e => e c)] at l1; exact l1
      · rw [bwS, if_pos c] at l1; exact l1
  exact wp_X1_gatheredBelow (loop _ 0 (Nat.zero_add _))
theorem c_above {y : Int32} (hW : WFm d) (hT : TieC (kC M.1) d) (h : q (abS d y (ix (d 0 5))) M) : Ci shC G mX1_gatheredAbove (k + 1) [.ref (G.2.1 3), .int y] M q := by
  have hn : ix (d 0 5) ≤ 10 := hW.1.2
  have e3 : M.1 3 3 = nI (ix (d 0 5)) := Eq.trans hT.1.1 hW.1.1
  have loop : ∀ m i, i + m = ix (d 0 5) → V shC G mX1_gatheredAbove (k + 1) 6 [(0, .ref (G.2.1 3)), (1, .int y), (2, .int (abS d y i)), (3, .int (nI i))] [] M (Qi q) := by
    intro m
    induction m with
    | zero =>
      intro i hi
      obtain rfl : i = ix (d 0 5) := by omega
      exact wp_X1_gatheredAbove_6 ⟨fun _ => h, fun c => absurd (by rw [e3]; exact nI_le (Nat.le_refl _) (by omega)) c⟩
    | succ m ih =>
      intro i hi
      have hin : i < ix (d 0 5) := by omega
      have l1 := ih (i + 1) (by omega)
      have t17 : M.1 17 i = gB d i := (hT.2.1 i hin).1
      refine wp_X1_gatheredAbove_6 ⟨fun c => absurd c (by rw [e3]; exact nI_ge hin (by omega)), fun _ => ⟨vin10 hin hn, ?_⟩⟩
      rw [nI_1 i, ix10 hin hn, t17]
      refine ⟨fun c => ?_, fun c => ⟨vin10 hin hn, ?_⟩⟩
      · rw [abS, if_neg (fun e => e c)] at l1; exact l1
      · rw [abS, if_pos c] at l1; exact l1
  exact wp_X1_gatheredAbove (loop _ 0 (Nat.zero_add _))
theorem la_nI (hW : WFm d) {P l : Nat} : ∀ i, i ≤ ix (d 0 10) → laS d P l i = -1000000 ∨ ∃ g, g ≤ 9998 ∧ laS d P l i = nI g := by
  intro i
  induction i with
  | zero => intro _; exact Or.inl rfl
  | succ i ih =>
    intro hi
    rw [laS]
    obtain ⟨g, _, g2, eg⟩ := gS_nI hW (show i < ix (d 0 10) by omega)
    split
    · split
      · exact Or.inr ⟨g, g2, eg⟩
      · exact ih (by omega)
    · exact ih (by omega)
theorem c_172 {v1 v2 v3 fi la : Int32} (hW : WFm (kM M.1)) (h0 : v2 = 0 → q fi M) (h1 : v2 = 1 → q la M) (h2 : v2 = 2 → q (bwS (kM M.1) fi (nBm M)) M) (h3 : v2 ≠ 0 → v2 ≠ 1 → v2 ≠ 2 → q (abS (kM M.1) la (nBm M)) M) : V shM G mX12_stay (k + 5) 172 [(0, .ref (G.2.1 0)), (1, .int v1), (2, .int v2), (3, .int v3), (4, .int fi), (5, .int la), (6, .int 0), (7, .int 9999), (8, .int 0)] [] M (Qi q) := by
  obtain ⟨e5, hn⟩ := WF_B hW
  have loop : ∀ m i, i + m = nBm M → V shM G mX12_stay (k + 5) 172 [(0, .ref (G.2.1 0)), (1, .int v1), (2, .int v2), (3, .int v3), (4, .int fi), (5, .int la), (6, .int (bwS (kM M.1) fi i)), (7, .int (abS (kM M.1) la i)), (8, .int (nI i))] [] M (Qi q) := by
    intro m
    induction m with
    | zero =>
      intro i hi
      obtain rfl : i = nBm M := by omega
      exact wp_X12_stay_172 ⟨fun _ => ⟨fun c => ⟨fun c2 => ⟨fun c3 => h3 c c2 c3, fun c3 => h2 c3⟩, fun c2 => h1 c2⟩, fun c => h0 c⟩, fun c => absurd (by rw [e5]; exact nI_le (Nat.le_refl _) (by omega)) c⟩
    | succ m ih =>
      intro i hi
      have hin : i < nBm M := by omega
      have l1 := ih (i + 1) (by omega)
      have vi := vin10 hin hn
      refine wp_X12_stay_172 ⟨fun c => absurd c (by rw [e5]; exact nI_ge hin (by omega)), fun _ => ⟨vi, vi, ?_⟩⟩
      rw [nI_1 i, ix10 hin hn, show M.1 4 i - M.1 5 i = gB (kM M.1) i from rfl]
      refine ⟨fun c => ⟨fun c2 => ?_, fun c2 => ⟨fun c3 => ?_, fun c3 => ?_⟩⟩, fun c => ⟨fun c2 => ⟨fun c3 => ?_, fun c3 => ⟨fun c4 => ?_, fun c4 => ?_⟩⟩, fun c2 => ⟨fun c3 => ?_, fun c3 => ⟨fun c4 => ?_, fun c4 => ?_⟩⟩⟩⟩
      · rw [bwS, if_neg (fun e => e c), abS, if_neg (fun e => e c2)] at l1; exact l1
      · rw [bwS, if_neg (fun e => e c), abS, if_pos c2, if_neg (Int32.not_lt.mpr c3)] at l1; exact l1
      · rw [bwS, if_neg (fun e => e c), abS, if_pos c2, if_pos (Int32.not_le.mp c3)] at l1; exact l1
      · rw [bwS, if_pos c, if_neg (Int32.not_lt.mpr c2), abS, if_neg (fun e => e c3)] at l1; exact l1
      · rw [bwS, if_pos c, if_neg (Int32.not_lt.mpr c2), abS, if_pos c3, if_neg (Int32.not_lt.mpr c4)] at l1; exact l1
      · rw [bwS, if_pos c, if_neg (Int32.not_lt.mpr c2), abS, if_pos c3, if_pos (Int32.not_le.mp c4)] at l1; exact l1
      · rw [bwS, if_pos c, if_pos (Int32.not_le.mp c2), abS, if_neg (fun e => e c3)] at l1; exact l1
      · rw [bwS, if_pos c, if_pos (Int32.not_le.mp c2), abS, if_pos c3, if_neg (Int32.not_lt.mpr c4)] at l1; exact l1
      · rw [bwS, if_pos c, if_pos (Int32.not_le.mp c2), abS, if_pos c3, if_pos (Int32.not_le.mp c4)] at l1; exact l1
  exact loop (nBm M) 0 (Nat.zero_add _)
theorem c_51 {P l : Nat} {v2 : Int32} (hW : WFm (kM M.1)) (hl : l < nLm M) (hN : fiS (kM M.1) P l (nLm M) = -1000000 → q (-1000000) M) (hV : ¬ fiS (kM M.1) P l (nLm M) = -1000000 → V shM G mX12_stay (k + 5) 172 [(0, .ref (G.2.1 0)), (1, .int (nI l)), (2, .int v2), (3, .int (nI P)), (4, .int (fiS (kM M.1) P l (nLm M))), (5, .int (laS (kM M.1) P l (nLm M))), (6, .int 0), (7, .int 9999), (8, .int 0)] [] M (Qi q)) : V shM G mX12_stay (k + 5) 51 [(0, .ref (G.2.1 0)), (1, .int (nI l)), (2, .int v2), (3, .int (nI P)), (4, .int (-1000000)), (5, .int (-1000000)), (6, .int 0)] [] M (Qi q) := by
  obtain ⟨e0, hn⟩ := WF_L hW
  have loop : ∀ m i, i + m = nLm M → V shM G mX12_stay (k + 5) 51 [(0, .ref (G.2.1 0)), (1, .int (nI l)), (2, .int v2), (3, .int (nI P)), (4, .int (fiS (kM M.1) P l i)), (5, .int (laS (kM M.1) P l i)), (6, .int (nI i))] [] M (Qi q) := by
    intro m
    induction m with
    | zero =>
      intro i hi
      obtain rfl : i = nLm M := by omega
      exact wp_X12_stay_51 ⟨fun _ => ⟨fun c => hV c, fun c => hN c⟩, fun c => absurd (by rw [e0]; exact nI_le (Nat.le_refl _) (by omega)) c⟩
    | succ m ih =>
      intro i hi
      have hin : i < nLm M := by omega
      have l1 := ih (i + 1) (by omega)
      obtain ⟨g, _, g2, eg⟩ := gS_nI hW (show i < ix (kM M.1 0 10) from hin)
      have lan : laS (kM M.1) P l i = -1000000 → laS (kM M.1) P l i < gS (kM M.1) i := fun e => by
        rw [e, eg, ltI, nI_toInt (by omega), show (-1000000 : Int32).toInt = -1000000 from by decide]; omega
      have no : stP (kM M.1) P l i = false → V shM G mX12_stay (k + 5) 51 [(0, .ref (G.2.1 0)), (1, .int (nI l)), (2, .int v2), (3, .int (nI P)), (4, .int (fiS (kM M.1) P l i)), (5, .int (laS (kM M.1) P l i)), (6, .int (nI (i + 1)))] [] M (Qi q) := fun hs => by
        have l2 := l1
        rw [fiS, if_neg (fun e => by rw [hs] at e; cases e.1), laS, if_neg (fun e => by rw [hs] at e; cases e)] at l2
        exact l2
      refine wp_X12_stay_51 ⟨fun c => absurd c (by rw [e0]; exact nI_ge hin (by omega)), fun _ => ?_⟩
      rw [nI_1 i, ix12 hin hn]
      refine ⟨fun c => no ?_, fun c => ⟨vin12 hin hn, fun c2 => no ?_, fun c2 => c_isOneDoor hW hin hl ?_⟩⟩
      · have hb : P.testBit i = false := by
          cases e : P.testBit i with
          | false => rfl
          | true => exact absurd ((bit1 _ (by omega)).mpr (by rw [b_nI _ (by omega)]; exact e)) c
        rw [stP, hb]; rfl
      · rw [stP, decide_eq_false (show ¬ ¬ kM M.1 9 i = 4 from fun e => e c2), Bool.false_and, Bool.and_false]
      · have hb : P.testBit i = true := by
          have := (bit1 _ (by omega)).mp c
          rw [b_nI _ (by omega)] at this; exact this
        cases ho : oneS (kM M.1) i l with
        | false => exact k0 (no (by rw [stP, ho, Bool.and_false, Bool.and_false]))
        | true =>
          have hs : stP (kM M.1) P l i = true := by rw [stP, hb, ho, decide_eq_true (show ¬ kM M.1 9 i = 4 from c2)]; rfl
          rw [laS, if_pos hs] at l1
          refine k1 (c_gathered hW hin ⟨fun c3 => ⟨fun c4 => ?_, fun c4 => ⟨fun c5 => ?_, fun c5 => ?_⟩⟩, fun c3 => ⟨fun c6 => ⟨fun c4 => ?_, fun c4 => ⟨fun c5 => ?_, fun c5 => ?_⟩⟩, fun c6 => ⟨fun c4 => ?_, fun c4 => ⟨fun c5 => ?_, fun c5 => ?_⟩⟩⟩⟩)
          · rw [fiS, if_pos ⟨hs, Or.inl c3⟩, if_pos (lan c4)] at l1; exact l1
          · rw [fiS, if_pos ⟨hs, Or.inl c3⟩, if_neg (Int32.not_lt.mpr c5)] at l1; exact l1
          · rw [fiS, if_pos ⟨hs, Or.inl c3⟩, if_pos (Int32.not_le.mp c5)] at l1; exact l1
          · rw [fiS, if_neg (by rintro ⟨_, e | e⟩; exact c3 e; exact e c6), if_pos (lan c4)] at l1; exact l1
          · rw [fiS, if_neg (by rintro ⟨_, e | e⟩; exact c3 e; exact e c6), if_neg (Int32.not_lt.mpr c5)] at l1; exact l1
          · rw [fiS, if_neg (by rintro ⟨_, e | e⟩; exact c3 e; exact e c6), if_pos (Int32.not_le.mp c5)] at l1; exact l1
          · rw [fiS, if_pos ⟨hs, Or.inr c6⟩, if_pos (lan c4)] at l1; exact l1
          · rw [fiS, if_pos ⟨hs, Or.inr c6⟩, if_neg (Int32.not_lt.mpr c5)] at l1; exact l1
          · rw [fiS, if_pos ⟨hs, Or.inr c6⟩, if_pos (Int32.not_le.mp c5)] at l1; exact l1
  exact loop (nLm M) 0 (Nat.zero_add _)
end
theorem i_3 : (3 : Int32).toInt = 3 := by decide
theorem st_stay : St_stay RR := by
  intro G1 G2 Mc Mm v x hR
  obtain ⟨hW, hT⟩ := hR.2.2.2.2.1
  obtain ⟨e6, e0, hn⟩ := RR_L hR
  have h4 := pow12 hn
  rcases num2 v (n := nLm Mm) (by omega) with hb | ⟨l, hl, rfl⟩
  · exact wp_X11_stay (c_noLine_bad e6 (by omega) hb (n1 (wp_X12_stay (c_isLine_bad e0 (by omega) hb (k0 ⟨rfl, RR_thrown hR⟩)))))
  have bad : (x.toInt < 0 ∨ 3 < x.toInt) → Ci shM G2 mX12_stay 5 [.ref (G2.2.1 0), .int (nI l), .int x] Mm (fun y M2 => -1000001 = y ∧ RR Mc M2) := fun hx => wp_X12_stay (c_isLine_ok e0 (by omega) hl (k1 (c_in_bad (by rw [t0, l_3]; exact hx) (n0 ⟨rfl, RR_thrown hR⟩))))
  refine wp_X11_stay (c_noLine_ok e6 (by omega) hl (n0 ⟨fun c => bad (Or.inl (lt0 c)), fun c => ⟨fun c2 => ?_, fun c2 => bad (Or.inr (by rw [leI, i_3] at c2; omega))⟩⟩))
  have x0 : 0 ≤ x.toInt := by
    have : ¬ x.toInt < 0 := fun e => c (lt0' e)
    omega
  have x3 : x.toInt ≤ 3 := by rw [leI, i_3] at c2; exact c2
  refine wp_X7_personOf (c_renew hW hT (RR_tab hR) (fun a b cc e fw wy hTab => ⟨vin12 hl hn, ?_⟩))
  obtain ⟨P, hP⟩ : ∃ P, P = prsS (mayS (kM Mm.1)) fw l 12 (2 ^ nLm Mm - 1) := ⟨_, rfl⟩
  rw [ix12 hl hn, show (Rn Mc a b cc e).1 41 l = nI P from by rw [hP]; exact hTab.2.2 l hl]
  have hT' : TieC (kC (Rn Mc a b cc e).1) (kM Mm.1) := hT
  have hm : ∀ {q : Int32 → Mem → Prop}, (∀ M2, kM M2.1 = kM Mm.1 → (fiS (kM Mm.1) P l (nLm Mm) = -1000000 → q (-1000000) M2) ∧ (x = 0 → q (fiS (kM Mm.1) P l (nLm Mm)) M2) ∧ (x = 1 → q (laS (kM Mm.1) P l (nLm Mm)) M2) ∧ (x = 2 → q (bwS (kM Mm.1) (fiS (kM Mm.1) P l (nLm Mm)) (nBm Mm)) M2) ∧ (x ≠ 0 → x ≠ 1 → x ≠ 2 → q (abS (kM Mm.1) (laS (kM Mm.1) P l (nLm Mm)) (nBm Mm)) M2) ∨ (fiS (kM Mm.1) P l (nLm Mm) = -1000000 ∧ q (-1000000) M2)) → Ci shM G2 mX12_stay 5 [.ref (G2.2.1 0), .int (nI l), .int x] Mm q := by
    intro q hq
    refine wp_X12_stay (c_isLine_ok e0 (by omega) hl (k1 (c_in_ok (by rw [t0]; exact x0) (by rw [l_3]; exact x3) (n1 (c_partAll0 (M := mset Mm 0 0 0) hW (fun f h a' g w fw' wy' hTm => ?_))))))
    have hTm' : TbM (mayS (kM Mm.1)) 0 (2 ^ nLm Mm) fw' wy' a' g w := hTm
    refine c_personOfM (n := nLm Mm) (may := mayS (kM Mm.1)) (fw := fw') (wy := wy') hn e0 hl (fun t ht => ⟨RTm_0 (hTm' t ht).1 (by omega), (hTm' t ht).2.1, (hTm' t ht).2.2.2⟩) ?_
    rw [← prs_congr (n := nLm Mm) (fun t ht => (tabs_eq hn hTab.1 hTm' t ht).1) 12 _ (all_lt _), ← hP]
    have h5 := hq (Um (Wm (mset Mm 0 0 0) f h) a' g w) rfl
    refine c_51 (M := Um (Wm (mset Mm 0 0 0) f h) a' g w) hW hl (fun e1 => ?_) (fun e1 => c_172 (M := Um (Wm (mset Mm 0 0 0) f h) a' g w) hW (fun e2 => ?_) (fun e2 => ?_) (fun e2 => ?_) (fun e2 e3 e4 => ?_))
    · rcases h5 with h5 | h5
      · exact h5.1 e1
      · exact h5.2
    · rcases h5 with h5 | h5
      · exact h5.2.1 e2
      · exact absurd h5.1 e1
    · rcases h5 with h5 | h5
      · exact h5.2.2.1 e2
      · exact absurd h5.1 e1
    · rcases h5 with h5 | h5
      · exact h5.2.2.2.1 e2
      · exact absurd h5.1 e1
    · rcases h5 with h5 | h5
      · exact h5.2.2.2.2 e2 e3 e4
      · exact absurd h5.1 e1
  refine c_first hW hT' hl ⟨fun c5 => ⟨fun c6 => ?_, fun c6 => ?_, fun c6 => ?_, fun c6 => ?_⟩, fun c5 => ?_⟩
  · have hx : x = 0 := Int32.toInt_inj.mp (by rw [c6]; decide)
    subst hx
    exact hm (fun M2 hk => Or.inl ⟨fun e1 => absurd e1 c5, fun _ => ⟨rfl, RR_rn hR hk hTab⟩, fun e2 => absurd e2 (by decide), fun e2 => absurd e2 (by decide), fun e2 => absurd rfl e2⟩)
  · have hx : x = 1 := Int32.toInt_inj.mp (by rw [c6]; decide)
    subst hx
    exact c_last hW hT' hl (hm (fun M2 hk => Or.inl ⟨fun e1 => absurd e1 c5, fun e2 => absurd e2 (by decide), fun _ => ⟨rfl, RR_rn hR hk hTab⟩, fun e2 => absurd e2 (by decide), fun _ e2 => absurd rfl e2⟩))
  · have hx : x = 2 := Int32.toInt_inj.mp (by rw [c6]; decide)
    subst hx
    exact c_below hW hT' (hm (fun M2 hk => Or.inl ⟨fun e1 => absurd e1 c5, fun e2 => absurd e2 (by decide), fun e2 => absurd e2 (by decide), fun _ => ⟨rfl, RR_rn hR hk hTab⟩, fun _ _ e2 => absurd rfl e2⟩))
  · have hx : x = 3 := Int32.toInt_inj.mp (by rw [i_3]; omega)
    subst hx
    exact c_last hW hT' hl (c_above hW hT' (hm (fun M2 hk => Or.inl ⟨fun e1 => absurd e1 c5, fun e2 => absurd e2 (by decide), fun e2 => absurd e2 (by decide), fun e2 => absurd e2 (by decide), fun _ _ _ => ⟨rfl, RR_rn hR hk hTab⟩⟩)))
  · exact hm (fun M2 hk => Or.inr ⟨c5, rfl, RR_rn hR hk hTab⟩)
