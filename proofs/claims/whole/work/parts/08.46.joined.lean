/-! joined, person -/
theorem fnd_congr {p p' : Nat → Bool} : ∀ m i, (∀ t, i ≤ t → t < i + m → p t = p' t) → fndB p m i = fndB p' m i := by
  intro m
  induction m with
  | zero => intro i _; rfl
  | succ m ih =>
    intro i h
    rw [fndB, fndB, h i (Nat.le_refl _) (by omega), ih (i + 1) (fun t h1 h2 => h t (by omega) (by omega))]
theorem pick_congr {may : Nat → Nat → Bool} {n s : Nat} {fw fw' : Nat → Nat} (h : ∀ t, t < 2 ^ n → fw t = fw' t) (hs : s < 2 ^ n) : pickS may fw s = pickS may fw' s := fnd_congr s 0 (fun t _ _ => by
  show (okpB may 0 s t && decide (fw (dif s t) + 1 = fw s)) = (okpB may 0 s t && decide (fw' (dif s t) + 1 = fw' s))
  rw [h (dif s t) (Nat.lt_of_le_of_lt (dif_le s t) hs), h s hs])
theorem prs_congr {may : Nat → Nat → Bool} {n l : Nat} {fw fw' : Nat → Nat} (h : ∀ t, t < 2 ^ n → fw t = fw' t) : ∀ k s, s < 2 ^ n → prsS may fw l k s = prsS may fw' l k s := by
  intro k
  induction k with
  | zero => intro s _; rfl
  | succ k ih =>
    intro s hs
    rw [prsS, prsS, pick_congr h hs, ih _ (Nat.lt_of_le_of_lt (dif_le _ _) hs)]
theorem prs_lt {may : Nat → Nat → Bool} {l N : Nat} {fw : Nat → Nat} : ∀ k s, s < N → prsS may fw l k s < N := by
  intro k
  induction k with
  | zero => intro s hs; exact hs
  | succ k ih =>
    intro s hs
    rw [prsS]
    split
    · have := (fnd_spec (fun t => okpB may 0 s t && decide (fw (dif s t) + 1 = fw s)) s 0).2.1
      rw [Nat.zero_add] at this
      exact Nat.lt_of_le_of_lt this hs
    · exact ih _ (Nat.lt_of_le_of_lt (dif_le _ _) hs)
theorem tabs_eq {may : Nat → Nat → Bool} {n : Nat} {fw wy fw' wy' : Nat → Nat} {c e a g : Nat → Int32} {w : Nat → Int64} (hn : n ≤ 12) (h1 : TbE may n fw wy c e) (h2 : TbM may 0 (2 ^ n) fw' wy' a g w) : ∀ t, t < 2 ^ n → fw t = fw' t ∧ wy t = wy' t := fun t ht => RT_uniq (h1 t ht).1 (RTm_0 (h2 t ht).1 (by have := pow12 hn; omega))
def popN (P : Nat) : Nat := cntB (fun k => P.testBit k) 12
def mxS (p : Nat → Nat) : Nat → Nat
  | 0 => 0
  | i + 1 => max (mxS p i) (p i)
theorem pop_le (P : Nat) : popN P ≤ 12 := cntB_le
theorem mx_le {p : Nat → Nat} (h : ∀ i, p i ≤ 12) : ∀ n, mxS p n ≤ 12 := by
  intro n
  induction n with
  | zero => exact Nat.zero_le _
  | succ n ih => rw [mxS]; have := h n; omega
theorem mx_congr {p p' : Nat → Nat} {n : Nat} (h : ∀ i, i < n → p i = p' i) : mxS p n = mxS p' n := by
  induction n with
  | zero => rfl
  | succ n ih => rw [mxS, mxS, ih (fun i hi => h i (by omega)), h n (by omega)]
theorem c_bits {G : GV} {k P : Nat} {M : Mem} {q : Int32 → Mem → Prop} (h : q (nI (popN P)) M) : Ci shM G mX12_bits k [.int (nI P)] M q := by
  have loop : ∀ m i, i + m = 12 → V shM G mX12_bits k 4 [(0, .int (nI P)), (1, .int (nI (cntB (fun k => P.testBit k) i))), (2, .int (nI i))] [] M (Qi q) := by
    intro m
    induction m with
    | zero =>
      intro i hi
      obtain rfl : i = 12 := by omega
      exact wp_X12_bits_4 ⟨fun _ => h, fun c => absurd (by decide) c⟩
    | succ m ih =>
      intro i hi
      have l1 := ih (i + 1) (by omega)
      refine wp_X12_bits_4 ⟨fun c => absurd c (nI_ge (b := 12) (by omega) (by decide)), fun _ => ?_⟩
      rw [nI_1 i, bitv _ (by omega), b_nI _ (by omega)]
      cases hb : P.testBit i with
      | false =>
        rw [cntB_f (p := fun k => P.testBit k) (n := i) hb] at l1
        rw [if_neg (by decide), Int32.add_zero]; exact l1
      | true =>
        rw [cntB_t (p := fun k => P.testBit k) (n := i) hb, ← nI_1] at l1
        rw [if_pos rfl]; exact l1
  exact wp_X12_bits (loop 12 0 (by omega))
theorem all_lt (n : Nat) : 2 ^ n - 1 < 2 ^ n := by
  have : 0 < 2 ^ n := Nat.pow_pos (by decide)
  omega
theorem st_person : St_person RR := by
  intro G1 G2 Mc Mm v hR
  obtain ⟨hW, hT⟩ := hR.2.2.2.2.1
  obtain ⟨e6, e0, hn⟩ := RR_L hR
  rcases num2 v (n := nLm Mm) (by omega) with hb | ⟨l, hl, rfl⟩
  · exact wp_X11_person (c_noLine_bad e6 (by omega) hb (k1 (wp_X12_person (c_isLine_bad e0 (by omega) hb (n0 ⟨rfl, RR_thrown hR⟩)))))
  refine wp_X11_person (c_noLine_ok e6 (by omega) hl (k0 (wp_X7_personOf (c_renew hW hT (RR_tab hR) (fun a b c e fw wy hTab => ⟨vin12 hl hn, ?_⟩)))))
  rw [ix12 hl hn, hTab.2.2 l hl]
  refine wp_X12_person (c_isLine_ok e0 (by omega) hl (n1 (c_partAll0 (M := mset Mm 0 0 0) hW (fun f h a' g w fw' wy' hTm => ?_))))
  have h4 := pow12 hn
  have hTm' : TbM (mayS (kM Mm.1)) 0 (2 ^ nLm Mm) fw' wy' a' g w := hTm
  refine c_personOfM (n := nLm Mm) (may := mayS (kM Mm.1)) (fw := fw') (wy := wy') hn e0 hl (fun t ht => ⟨RTm_0 (hTm' t ht).1 (by omega), (hTm' t ht).2.1, (hTm' t ht).2.2.2⟩) ⟨?_, RR_rn hR rfl hTab⟩
  congr 1
  exact prs_congr (n := nLm Mm) (fun t ht => (tabs_eq hn hTab.1 hTm' t ht).1) 12 _ (all_lt _)
theorem st_joined : St_joined RR := by
  intro G1 G2 Mc Mm v hR
  obtain ⟨hW, hT⟩ := hR.2.2.2.2.1
  obtain ⟨e6, e0, hn⟩ := RR_L hR
  have h4 := pow12 hn
  have hal := all_lt (nLm Mm)
  have ha1 : 2 ^ nLm Mm - 1 + 1 = 2 ^ nLm Mm := by omega
  have vall : vp_in (nI (2 ^ nLm Mm - 1)) 4096 := vp_in_nI (by omega) (by decide)
  have xall : ix (nI (2 ^ nLm Mm - 1)) = 2 ^ nLm Mm - 1 := ix_nI (by omega)
  refine wp_X11_joined ⟨fun c0 => ?_, fun c0 => ?_, fun c0 => ?_, fun c0 => ?_⟩
  · have hv : v = 0 := Int32.toInt_inj.mp (by rw [c0]; decide)
    subst hv
    refine wp_X7_countFewest (c_renew hW hT (RR_tab hR) (fun a b c e fw wy hTab => wp_X7_all ?_))
    rw [show (Rn Mc a b c e).1 6 8 = nI (nLm Mm) from e6, all_n _ (by omega), xall, (TE_all (hTab.1 _ hal).2 ha1).1]
    refine ⟨vall, wp_X12_joined (c_in_ok (by decide) (by decide) (n1 (c_partAll0 (M := mset Mm 0 0 0) hW (fun f h a' g w fw' wy' hTm => ⟨fun c2 => absurd c2 (by decide), fun _ => ⟨fun c2 => absurd rfl c2, fun _ => wp_X12_all ?_⟩⟩))))⟩
    have hTm' : TbM (mayS (kM Mm.1)) 0 (2 ^ nLm Mm) fw' wy' a' g w := hTm
    rw [show (Um (Wm (mset Mm 0 0 0) f h) a' g w).1 0 10 = nI (nLm Mm) from e0, all_n _ (by omega), xall]
    refine ⟨vall, ?_, RR_rn hR rfl hTab⟩
    rw [Um_g, (hTm' _ hal).2.1, (tabs_eq hn hTab.1 hTm' _ hal).1]
  · have hv : v = 1 := Int32.toInt_inj.mp (by rw [c0]; decide)
    subst hv
    refine wp_X7_countRivals (c_renew hW hT (RR_tab hR) (fun a b c e fw wy hTab => wp_X7_all ?_))
    rw [show (Rn Mc a b c e).1 6 8 = nI (nLm Mm) from e6, all_n _ (by omega), xall, (TE_all (hTab.1 _ hal).2 ha1).2]
    refine ⟨vall, wp_X12_joined (c_in_ok (by decide) (by decide) (n1 (c_partAll0 (M := mset Mm 0 0 0) hW (fun f h a' g w fw' wy' hTm => ⟨fun c2 => absurd c2 (by decide), fun _ => ⟨fun _ => wp_X12_all ?_, fun c2 => absurd c2 (by decide)⟩⟩))))⟩
    have hTm' : TbM (mayS (kM Mm.1)) 0 (2 ^ nLm Mm) fw' wy' a' g w := hTm
    rw [show (Um (Wm (mset Mm 0 0 0) f h) a' g w).1 0 10 = nI (nLm Mm) from e0, all_n _ (by omega), xall]
    refine ⟨vall, ?_, RR_rn hR rfl hTab⟩
    rw [Um_w, (hTm' _ hal).2.2.1, ← (tabs_eq hn hTab.1 hTm' _ hal).2]
    exact nI_l (RT_w (hTab.1 _ hal).1 (by omega))
  · have hv : v = 2 := Int32.toInt_inj.mp (by rw [c0]; decide)
    subst hv
    refine wp_X7_linesOfGreatest (c_renew hW hT (RR_tab hR) (fun a b c e fw wy hTab => ?_))
    have e6' : (Rn Mc a b c e).1 6 8 = nI (nLm Mm) := e6
    have hpl : ∀ i, popN (prsS (mayS (kM Mm.1)) fw i 12 (2 ^ nLm Mm - 1)) ≤ 12 := fun i => pop_le _
    have cls : ∀ {q : Int32 → Mem → Prop}, q (nI (mxS (fun i => popN (prsS (mayS (kM Mm.1)) fw i 12 (2 ^ nLm Mm - 1))) (nLm Mm))) (Rn Mc a b c e) → ∀ m i, i + m = nLm Mm → V shC G1 mX7_linesOfGreatest 6 8 [(0, .ref (G1.2.1 9)), (1, .int (nI (mxS (fun i => popN (prsS (mayS (kM Mm.1)) fw i 12 (2 ^ nLm Mm - 1))) i))), (2, .int (nI i))] [] (Rn Mc a b c e) (Qi q) := by
      intro q hq m
      induction m with
      | zero =>
        intro i hi
        obtain rfl : i = nLm Mm := by omega
        exact wp_X7_linesOfGreatest_8 ⟨fun _ => hq, fun c => absurd (by rw [e6']; exact nI_le (Nat.le_refl _) (by omega)) c⟩
      | succ m ih =>
        intro i hi
        have hin : i < nLm Mm := by omega
        have l1 := ih (i + 1) (by omega)
        refine wp_X7_linesOfGreatest_8 ⟨fun c => absurd c (by rw [e6']; exact nI_ge hin (by omega)), fun _ => ⟨vin12 hin hn, c_bc ?_⟩⟩
        have hPl := prs_lt (may := mayS (kM Mm.1)) (l := i) (fw := fw) 12 _ hal
        have hm := mx_le hpl i
        have hp := hpl i
        rw [ix12 hin hn, show (Rn Mc a b c e).1 41 i = nI (prsS (mayS (kM Mm.1)) fw i 12 (2 ^ nLm Mm - 1)) from hTab.2.2 i hin, bc_eq (show prsS (mayS (kM Mm.1)) fw i 12 (2 ^ nLm Mm - 1) < 4096 from by omega), nI_1 i]
        rw [mxS] at l1
        show V shC G1 mX7_linesOfGreatest 6 8 [(0, .ref (G1.2.1 9)), (1, .int (if nI (mxS (fun i => popN (prsS (mayS (kM Mm.1)) fw i 12 (2 ^ nLm Mm - 1))) i) < nI (popN (prsS (mayS (kM Mm.1)) fw i 12 (2 ^ nLm Mm - 1))) then nI (popN (prsS (mayS (kM Mm.1)) fw i 12 (2 ^ nLm Mm - 1))) else nI (mxS (fun i => popN (prsS (mayS (kM Mm.1)) fw i 12 (2 ^ nLm Mm - 1))) i))), (2, .int (nI (i + 1)))] [] (Rn Mc a b c e) (Qi q)
        by_cases h5 : mxS (fun i => popN (prsS (mayS (kM Mm.1)) fw i 12 (2 ^ nLm Mm - 1))) i < popN (prsS (mayS (kM Mm.1)) fw i 12 (2 ^ nLm Mm - 1))
        · rw [if_pos (nI_lt h5 (by omega))]
          rw [Nat.max_eq_right (Nat.le_of_lt h5)] at l1
          exact l1
        · rw [if_neg (nI_nlt (by omega) (by omega))]
          rw [Nat.max_eq_left (by omega)] at l1
          exact l1
    refine cls ?_ (nLm Mm) 0 (Nat.zero_add _)
    refine wp_X12_joined (c_in_ok (by decide) (by decide) (n1 (c_partAll0 (M := mset Mm 0 0 0) hW (fun f h a' g w fw' wy' hTm => ⟨fun _ => ?_, fun c2 => absurd (by decide) c2⟩))))
    have hTm' : TbM (mayS (kM Mm.1)) 0 (2 ^ nLm Mm) fw' wy' a' g w := hTm
    have e0' : (Um (Wm (mset Mm 0 0 0) f h) a' g w).1 0 10 = nI (nLm Mm) := e0
    have hpl' : ∀ i, popN (prsS (mayS (kM Mm.1)) fw' i 12 (2 ^ nLm Mm - 1)) ≤ 12 := fun i => pop_le _
    have loop : ∀ m i, i + m = nLm Mm → V shM G2 mX12_joined 5 63 [(0, .ref (G2.2.1 0)), (1, .int 2), (2, .int (nI (mxS (fun i => popN (prsS (mayS (kM Mm.1)) fw' i 12 (2 ^ nLm Mm - 1))) i))), (3, .int (nI i))] [] (Um (Wm (mset Mm 0 0 0) f h) a' g w) (Ql (fun y M2 => (nI (mxS (fun i => popN (prsS (mayS (kM Mm.1)) fw i 12 (2 ^ nLm Mm - 1))) (nLm Mm))).toInt64 = y ∧ RR (Rn Mc a b c e) M2)) := by
      intro m
      induction m with
      | zero =>
        intro i hi
        obtain rfl : i = nLm Mm := by omega
        refine wp_X12_joined_63 ⟨fun _ => ⟨?_, RR_rn hR rfl hTab⟩, fun c => absurd (by rw [e0']; exact nI_le (Nat.le_refl _) (by omega)) c⟩
        rw [mx_congr (p := fun i => popN (prsS (mayS (kM Mm.1)) fw i 12 (2 ^ nLm Mm - 1))) (p' := fun i => popN (prsS (mayS (kM Mm.1)) fw' i 12 (2 ^ nLm Mm - 1))) (fun i hi => by
          show popN _ = popN _
          rw [prs_congr (n := nLm Mm) (fun t ht => (tabs_eq hn hTab.1 hTm' t ht).1) 12 _ hal])]
      | succ m ih =>
        intro i hi
        have hin : i < nLm Mm := by omega
        have l1 := ih (i + 1) (by omega)
        refine wp_X12_joined_63 ⟨fun c => absurd c (by rw [e0']; exact nI_ge hin (by omega)), fun _ => ?_⟩
        refine c_personOfM (n := nLm Mm) (may := mayS (kM Mm.1)) (fw := fw') (wy := wy') hn e0' hin (fun t ht => ⟨RTm_0 (hTm' t ht).1 (by omega), (hTm' t ht).2.1, (hTm' t ht).2.2.2⟩) (c_bits ?_)
        have hm := mx_le hpl' i
        have hp := hpl' i
        rw [nI_1 i]
        rw [mxS] at l1
        refine ⟨fun c => ?_, fun c => ?_⟩
        · rw [Nat.max_eq_left ((nI_leI (by omega) (by omega)).mp c)] at l1
          exact l1
        · rw [Nat.max_eq_right (by have : ¬ popN (prsS (mayS (kM Mm.1)) fw' i 12 (2 ^ nLm Mm - 1)) ≤ mxS (fun i => popN (prsS (mayS (kM Mm.1)) fw' i 12 (2 ^ nLm Mm - 1))) i := fun e => c (nI_le e (by omega)); omega)] at l1
          exact l1
    exact loop (nLm Mm) 0 (Nat.zero_add _)
  · exact wp_X12_joined (c_in_bad (by rw [t0, l_2]; exact c0) (n0 ⟨rfl, RR_thrown hR⟩))
