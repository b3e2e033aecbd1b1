/-! sure -/
theorem beq_sym (x y : Int32) : (x == y) = (y == x) := Bool.eq_iff_iff.mpr (by rw [beq_iff_eq, beq_iff_eq]; exact eq_comm)
theorem hand_sym (d : Nat → Nat → Int32) (a b : Nat) : handS d a b = handS d b a := by
  unfold handS
  rw [hdN_sym]
  congr 1
  funext i j
  exact beq_sym _ _
theorem like_sym (d : Nat → Nat → Int32) (a b : Nat) : likeS d a b = likeS d b a := by
  unfold likeS
  rw [hand_sym d a b]
  congr 1
  exact decide_eq_decide.mpr eq_comm
theorem one_sym (d : Nat → Nat → Int32) (a b : Nat) : oneS d a b = oneS d b a := decide_eq_decide.mpr ⟨fun h => ⟨h.1.symm, h.2.symm⟩, fun h => ⟨h.1.symm, h.2.symm⟩⟩
theorem two_sym (d : Nat → Nat → Int32) (a b : Nat) : twoS d a b = twoS d b a := by
  unfold twoS
  rw [one_sym d a b, Bool.and_comm (homS d a), show decide (gS d a = gS d b) = decide (gS d b = gS d a) from decide_eq_decide.mpr eq_comm]
theorem age_sym {d : Nat → Nat → Int32} (hW : WFm d) {a b : Nat} (ha : a < ix (d 0 10)) (hb : b < ix (d 0 10)) : ageS d a b = ageS d b a := by
  obtain ⟨g1, _, g1b, eg1⟩ := gS_nI hW ha
  obtain ⟨g2, _, g2b, eg2⟩ := gS_nI hW hb
  refine decide_eq_decide.mpr ?_
  rcases (hW.2.2.2.2.2.1 a ha).2.2.2.2.1 with e | ⟨x, hx, ex⟩
  · exact ⟨fun _ => Or.inr (Or.inl e), fun _ => Or.inl e⟩
  rcases (hW.2.2.2.2.2.1 b hb).2.2.2.2.1 with e | ⟨y, hy, ey⟩
  · exact ⟨fun _ => Or.inl e, fun _ => Or.inr (Or.inl e)⟩
  have s1 := nI_subI (a := x) (b := y) (by omega) (by omega)
  have s2 := nI_subI (a := g1) (b := g2) (by omega) (by omega)
  have s3 := nI_subI (a := y) (b := x) (by omega) (by omega)
  have s4 := nI_subI (a := g2) (b := g1) (by omega) (by omega)
  have e1 : (agD d a b).toInt = ((x : Int) - y) - ((g1 : Int) - g2) := by rw [agD, ex, ey, eg1, eg2, sub_toInt (by rw [s1, s2]; omega), s1, s2]
  have e2 : (agD d b a).toInt = ((y : Int) - x) - ((g2 : Int) - g1) := by rw [agD, ex, ey, eg1, eg2, sub_toInt (by rw [s3, s4]; omega), s3, s4]
  rw [e1, e2]
  constructor
  · rintro (h | h | h)
    · exact Or.inr (Or.inl h)
    · exact Or.inl h
    · exact Or.inr (Or.inr (by omega))
  · rintro (h | h | h)
    · exact Or.inr (Or.inl h)
    · exact Or.inl h
    · exact Or.inr (Or.inr (by omega))
theorem may_sym {d : Nat → Nat → Int32} (hW : WFm d) {a b : Nat} (ha : a < ix (d 0 10)) (hb : b < ix (d 0 10)) : mayS d a b = mayS d b a := by
  unfold mayS
  rw [like_sym d a b, age_sym hW ha hb, two_sym d a b]
theorem cnt_le_bo (may : Nat → Nat → Bool) (bo : Nat) : ∀ k s, cntP may bo k s ≤ cntP may 0 k s := by
  intro k
  induction k with
  | zero => intro s; exact Nat.le_refl _
  | succ k ih =>
    intro s
    rw [cntP, cntP]
    by_cases h0 : s = 0
    · rw [if_pos h0, if_pos h0]; exact Nat.le_refl _
    · rw [if_neg h0, if_neg h0]
      refine sumB_le (fun t ht => ?_)
      by_cases ho : okpB may bo s t = true
      · obtain ⟨a1, a2, a3, _⟩ := okp_iff.mp ho
        rw [if_pos ho, if_pos (okp_none a1 a2 a3)]
        exact ih _
      · rw [if_neg ho]; exact Nat.zero_le _
/-- what a person with both adds -/
def gQ (fw wy : Nat → Nat) (s P : Nat) : Nat := if fw (dif s P) + 1 = fw s then wy (dif s P) else 0
theorem sure_sum {may : Nat → Nat → Bool} {n bo : Nat} {fw wy : Nat → Nat} (hn : n ≤ 12) (hb : bo ≠ 0) (hbs : bo &&& (2 ^ n - 1) = bo) (hT : TbP may n fw wy) : sumB (fun P => if bthB may bo (2 ^ n - 1) P then gQ fw wy (2 ^ n - 1) P else 0) 4096 = cntP may bo (fw (2 ^ n - 1)) (2 ^ n - 1) := by
  have hal := all_lt n
  have h4 := pow12 hn
  have hs4 : 2 ^ n - 1 < 4096 := by omega
  have rs := hT _ hal
  have h0 : 2 ^ n - 1 ≠ 0 := fun e => hb (by rw [e] at hbs; rw [← hbs]; simp)
  have hp := RT_pos rs h0
  rw [show fw (2 ^ n - 1) = (fw (2 ^ n - 1) - 1) + 1 by omega, cnt_both hb _ _ hs4 hbs]
  refine sumB_congr (fun P hP => ?_)
  by_cases hB : bthB may bo (2 ^ n - 1) P = true
  · rw [if_pos hB, if_pos hB, gQ]
    have hd : dif (2 ^ n - 1) P < 2 ^ n := Nat.lt_of_le_of_lt (dif_le _ _) hal
    have rd := hT _ hd
    by_cases e : fw (dif (2 ^ n - 1) P) + 1 = fw (2 ^ n - 1)
    · rw [if_pos e, show fw (2 ^ n - 1) - 1 = fw (dif (2 ^ n - 1) P) by omega, rd.2.1]
    · rw [if_neg e]
      rcases Nat.lt_or_ge (fw (2 ^ n - 1) - 1) (fw (dif (2 ^ n - 1) P)) with h5 | h5
      · exact (rd.1 _ h5).symm
      · exfalso
        have h6 := rs.1 (fw (dif (2 ^ n - 1) P) + 1) (by omega)
        have h7 := cnt_le_bo may bo (fw (dif (2 ^ n - 1) P) + 1) (2 ^ n - 1)
        rw [h6, cnt_both hb _ _ hs4 hbs] at h7
        have h8 := sumB_ge (f := fun Q => if bthB may bo (2 ^ n - 1) Q then cntP may 0 (fw (dif (2 ^ n - 1) P)) (dif (2 ^ n - 1) Q) else 0) hP
        simp only [hB, if_true, rd.2.1] at h8
        have := rd.2.2
        omega
  · rw [if_neg hB, if_neg hB]
theorem c_rivals {G : GV} {k n P : Nat} {M : Mem} {g h : Nat → Int32} {may : Nat → Nat → Bool} {fw wy : Nat → Nat} {q : Int32 → Mem → Prop} (hn : n ≤ 12) (e6 : M.1 6 8 = nI n) (hP0 : P ≠ 0) (hPs : P < 2 ^ n) (hm : MkC may n (M.1 40)) (ht : TbE may n fw wy g h) (hq : ∀ g' h', TbE may n fw wy g' h' → q (nI (if clqB may P then gQ fw wy (2 ^ n - 1) P else 0)) (Tm M g' h')) : Ci shC G mX7_rivalsWith (k + 3) [.ref (G.2.1 9), .int (nI P)] (Tm M g h) q := by
  have hal := all_lt n
  have ha1 : 2 ^ n - 1 + 1 = 2 ^ n := by omega
  have h4 := pow12 hn
  obtain ⟨d, hde⟩ : ∃ d, d = dif (2 ^ n - 1) P := ⟨_, rfl⟩
  have hd : d < 2 ^ n := by rw [hde]; exact Nat.lt_of_le_of_lt (dif_le _ _) hal
  have rd := (ht d hd).1
  have fd := RT_le rd (by omega)
  have fa := RT_le (ht _ hal).1 (by omega)
  have vd : vp_in (nI d) 4096 := vp_in_nI (by omega) (by decide)
  obtain ⟨rr, rg, _⟩ := TbE_R hn hP0 hPs ht (rsN P) (sub_iff.mpr (fun i hi => hi))
  refine wp_X7_rivalsWith (c_isOne (M := Tm M g h) hn hP0 hPs hm rr rg ?_)
  cases hc : clqB may P with
  | false =>
    rw [hc, if_neg (by decide)] at hq
    exact n0 (hq g h ht)
  | true =>
    rw [hc, if_pos rfl, gQ, ← hde] at hq
    have fin : ∀ g h, TbE may n fw wy g h → g d = nI (fw d) → h d = nI (wy d) → Ci shC G mX7_all (k + 2) [.ref (G.2.1 9)] (Tm M g h) (fun x3 M3 => vp_in x3 4096 ∧ ((((Tm M g h).1 42 d) + 1 ≠ (M3.1 42 (ix x3)) → q 0 M3) ∧ (((Tm M g h).1 42 d) + 1 = (M3.1 42 (ix x3)) → vp_in (nI d) 4096 ∧ q (M3.1 43 d) M3))) := by
      intro g h ht gd wd
      refine wp_X7_all ?_
      rw [show (Tm M g h).1 6 8 = nI n from e6, all_n n (by omega), ix_nI (show 2 ^ n - 1 < 2 ^ 31 by omega), Tm_g, Tm_h, (TE_all (ht _ hal).2 ha1).1, gd, wd, nI_1]
      have h5 := hq g h ht
      refine ⟨vp_in_nI (by omega) (by decide), fun c => ?_, fun c => ⟨vd, ?_⟩⟩
      · rw [if_neg (fun e => c (by rw [e]))] at h5; exact h5
      · rw [if_pos ((nI_eq (by omega) (by omega)).mp c)] at h5; exact h5
    refine n1 (wp_X7_all ?_)
    rw [show (Tm M g h).1 6 8 = nI n from e6, all_n n (by omega), nx_dif, ← hde, ix_nI (show d < 2 ^ 31 by omega)]
    refine ⟨fun c => ⟨vd, ?_⟩, fun c => ⟨vd, fun c2 => ⟨vd, ?_⟩, fun c2 => ?_⟩⟩
    · have h0 : d = 0 := (nI_eq (b := 0) (by omega) (by omega)).mp c
      obtain ⟨r1, r2⟩ := TE_even (ht d hd).2 (by rw [h0, Nat.zero_testBit])
      exact fin g h ht r1 r2
    · obtain ⟨r1, r2⟩ := TE_ne (ht d hd).2 c2
      exact fin g h ht r1 r2
    · have h0 : d ≠ 0 := fun e => c (by rw [e]; rfl)
      refine c_partSet (M := Tm M g h) hn h0 hd hm (TbE_R hn h0 hd ht) (fun b e hR => ?_)
      obtain ⟨e1, e2⟩ := RT_uniq hR rd
      rw [e1, e2, Tm_42, Tm_43]
      exact ⟨vd, fin _ _ (TbE_upd ht) (upd_at _ _ _) (upd_at _ _ _)⟩
theorem or_bits {x y i : Nat} : (2 ^ x ||| 2 ^ y).testBit i = (decide (i = x) || decide (i = y)) := by
  rw [or_low, Nat.testBit_two_pow]
  congr 1
  exact decide_eq_decide.mpr eq_comm
theorem c_sureLoop {G : GV} {k n x y : Nat} {M : Mem} {g0 h0 : Nat → Int32} {may : Nat → Nat → Bool} {fw wy : Nat → Nat} {q : Int32 → Mem → Prop} (hn : n ≤ 12) (e6 : M.1 6 8 = nI n) (hx : x < n) (hy : y < n) (sym : ∀ i, i < n → ∀ j, j < n → may i j = may j i) (ht : TbE may n fw wy g0 h0) (hm : MkC may n (M.1 40)) (hxy : x ≠ y) (h : ∀ g' h', TbE may n fw wy g' h' → q (nI (cntP may (2 ^ x ||| 2 ^ y) (fw (2 ^ n - 1)) (2 ^ n - 1))) (Tm M g' h')) : vp_in (nI x) 12 ∧ vp_in (nI y) 12 ∧ Ci shC G mX7_rivalsWith (k + 5) [.ref (G.2.1 9), .int ((1 <<< (nI x &&& 31)) ||| (1 <<< (nI y &&& 31)))] (Tm M g0 h0) (fun x2 M2 => V shC G mX7_rivalsWithBoth (k + 6) 57 [(0, .ref (G.2.1 9)), (1, .int (nI x)), (2, .int (nI y)), (3, .int ((1 <<< (nI x &&& 31)) ||| (1 <<< (nI y &&& 31)))), (4, .int ((((Tm M g0 h0).1 40 (ix (nI x))) &&& ((Tm M g0 h0).1 40 (ix (nI y)))) &&& (((1 <<< (nI x &&& 31)) ||| (1 <<< (nI y &&& 31))) ^^^ (-1)))), (5, .int x2), (6, .int ((((Tm M g0 h0).1 40 (ix (nI x))) &&& ((Tm M g0 h0).1 40 (ix (nI y)))) &&& (((1 <<< (nI x &&& 31)) ||| (1 <<< (nI y &&& 31))) ^^^ (-1))))] [] M2 (Qi q)) := by
  have hal := all_lt n
  have h4 := pow12 hn
  obtain ⟨mx, mx1, mx2, mx3⟩ := msk_nat hn (hm x hx)
  obtain ⟨my, my1, my2, my3⟩ := msk_nat hn (hm y hy)
  obtain ⟨bo, hbo⟩ : ∃ bo, bo = 2 ^ x ||| 2 ^ y := ⟨_, rfl⟩
  have bb : ∀ i, bo.testBit i = (decide (i = x) || decide (i = y)) := fun i => by rw [hbo, or_bits]
  have bx : bo.testBit x = true := by rw [bb, decide_eq_true rfl]; rfl
  have hb0 : bo ≠ 0 := bit_ne0 bx
  have hbs : bo &&& (2 ^ n - 1) = bo := sub_iff.mpr (fun i hi => by
    rw [bb, Bool.or_eq_true, decide_eq_true_iff, decide_eq_true_iff] at hi
    rw [Nat.testBit_two_pow_sub_one, decide_eq_true (by omega)])
  have hbn : bo < 2 ^ n := sub_lt hbs hal
  rw [← hbo, ← sure_sum hn hb0 hbs (fun t h => (ht t h).1)] at h
  obtain ⟨ot, hot⟩ : ∃ ot, ot = dif (mx &&& my) bo := ⟨_, rfl⟩
  have hot4 : ot < 2 ^ n := by rw [hot]; exact Nat.lt_of_le_of_lt (Nat.le_trans (dif_le _ _) Nat.and_le_left) mx1
  have otb : ∀ i, ot.testBit i = true → bo.testBit i = false ∧ i < n := fun i hi => by
    rw [hot, tb_dif, Bool.and_eq_true, Nat.testBit_and, Bool.and_eq_true, mx3, Bool.and_eq_true, decide_eq_true_iff, Bool.not_eq_true'] at hi
    exact ⟨hi.2, hi.1.1.1⟩
  rw [sh_n x (by omega), sh_n y (by omega), nx_or, ← hbo, ix12 hx hn, ix12 hy hn, show (Tm M g0 h0).1 40 x = nI mx from mx2, show (Tm M g0 h0).1 40 y = nI my from my2, nx_and, nx_dif, ← hot]
  -- what a person with both has besides
  have more : ∀ P, bthB may bo (2 ^ n - 1) P = true → dif P bo &&& ot = dif P bo ∧ P = bo ||| dif P bo := by
    intro P hB
    obtain ⟨a1, a2, a3⟩ := bth_iff.mp hB
    refine ⟨sub_iff.mpr (fun i hi => ?_), ?_⟩
    · rw [tb_dif, Bool.and_eq_true, Bool.not_eq_true'] at hi
      have b1 := sub_iff.mp a1 i hi.1
      rw [Nat.testBit_two_pow_sub_one, decide_eq_true_iff] at b1
      have b2 := hi.2
      rw [bb, Bool.or_eq_false_iff, decide_eq_false_iff_not, decide_eq_false_iff_not] at b2
      have px := sub_iff.mp a2 x bx
      have py := sub_iff.mp a2 y (by rw [bb, decide_eq_true rfl, Bool.or_true])
      have m1 : may x i = true := by
        rcases Nat.lt_or_ge x i with h5 | h5
        · exact clq_iff.mp a3 x i (by omega) (by omega) h5 px hi.1
        · rw [sym x hx i b1]
          exact clq_iff.mp a3 i x (by omega) (by omega) (by omega) hi.1 px
      have m2 : may y i = true := by
        rcases Nat.lt_or_ge y i with h5 | h5
        · exact clq_iff.mp a3 y i (by omega) (by omega) h5 py hi.1
        · rw [sym y hy i b1]
          exact clq_iff.mp a3 i y (by omega) (by omega) (by omega) hi.1 py
      rw [hot, tb_dif, Nat.testBit_and, mx3, my3, decide_eq_true b1, m1, m2, hi.2]; rfl
    · apply Nat.eq_of_testBit_eq
      intro i
      rw [Nat.testBit_or, tb_dif]
      cases e : bo.testBit i with
      | true => rw [sub_iff.mp a2 i e]; rfl
      | false => simp
  have dif_or : ∀ v, v &&& ot = v → dif (bo ||| v) bo = v := by
    intro v hv
    apply Nat.eq_of_testBit_eq
    intro i
    rw [tb_dif, Nat.testBit_or]
    cases e : v.testBit i with
    | true => rw [(otb i (sub_iff.mp hv i e)).1]; rfl
    | false => cases bo.testBit i <;> rfl
  have loop : ∀ N v g h, TbE may n fw wy g h → v ≤ N → v &&& ot = v → V shC G mX7_rivalsWithBoth (k + 6) 57 [(0, .ref (G.2.1 9)), (1, .int (nI x)), (2, .int (nI y)), (3, .int (nI bo)), (4, .int (nI ot)), (5, .int (nI (sumB (fun P => if bthB may bo (2 ^ n - 1) P && (decide (P = bo) || decide (v < dif P bo)) then gQ fw wy (2 ^ n - 1) P else 0) 4096))), (6, .int (nI v))] [] (Tm M g h) (Qi q) := by
    intro N
    induction N with
    | zero | succ N ih =>
      intro v g1 h1 ht1 hv hvo
      have hvn : v < 2 ^ n := sub_lt hvo hot4
      by_cases hv0 : v = 0
      · subst hv0
        refine wp_X7_rivalsWithBoth_57 ⟨fun _ => ?_, fun c => absurd (by decide) c⟩
        rw [sumB_congr (g := fun P => if bthB may bo (2 ^ n - 1) P then gQ fw wy (2 ^ n - 1) P else 0) (fun P hP => ?_)]
        · exact h _ _ ht1
        · cases hB : bthB may bo (2 ^ n - 1) P with
          | false => rfl
          | true =>
            by_cases e : P = bo
            · rw [decide_eq_true e]; rfl
            · have : 0 < dif P bo := Nat.pos_of_ne_zero (fun e2 => e (by have := (more P hB).2; rw [e2] at this; simpa using this))
              rw [decide_eq_true this, Bool.or_true]; rfl
      first
      | exact absurd (show v = 0 by omega) hv0
      | (have b1 := below_lt (v := v) (f := ot) (by omega)
         have l1 := fun g2 h2 ht2 => ih ((v - 1) &&& ot) g2 h2 ht2 (by omega) (below_sub v ot)
         obtain ⟨P0, hP0⟩ : ∃ P0, P0 = bo ||| v := ⟨_, rfl⟩
         have hP0n : P0 < 2 ^ n := by rw [hP0]; exact Nat.or_lt_two_pow hbn hvn
         have dm : dif P0 bo = v := by rw [hP0]; exact dif_or v hvo
         have p1 : P0 &&& (2 ^ n - 1) = P0 := sub_iff.mpr (fun i hi => by
           rw [Nat.testBit_two_pow_sub_one]
           refine decide_eq_true ?_
           rcases Nat.lt_or_ge i n with h5 | h5
           · exact h5
           · rw [Nat.testBit_lt_two_pow (Nat.lt_of_lt_of_le hP0n (Nat.pow_le_pow_right (by decide) h5))] at hi; cases hi)
         have p2 : bo &&& P0 = bo := sub_iff.mpr (fun i hi => by rw [hP0, Nat.testBit_or, hi]; rfl)
         refine wp_X7_rivalsWithBoth_57 ⟨fun c => absurd c (nI_nle (by omega) (by omega)), fun _ => ?_⟩
         rw [nx_or, ← hP0, nI_s1 v (by omega), nx_and]
         refine c_rivals (k := k + 2) hn e6 (bit_ne0 (sub_iff.mp p2 x bx)) hP0n hm ht1 (fun g2 h2 ht2 => ?_)
         rw [nI_add]
         have l1 := l1 g2 h2 ht2
         have hsum : sumB (fun P => if bthB may bo (2 ^ n - 1) P && (decide (P = bo) || decide ((v - 1) &&& ot < dif P bo)) then gQ fw wy (2 ^ n - 1) P else 0) 4096 = sumB (fun P => if bthB may bo (2 ^ n - 1) P && (decide (P = bo) || decide (v < dif P bo)) then gQ fw wy (2 ^ n - 1) P else 0) 4096 + (if clqB may P0 then gQ fw wy (2 ^ n - 1) P0 else 0) := by
           refine sumB_ad (t0 := P0) (by omega) (fun P hP => ?_)
           by_cases e : P = P0
           · rw [if_pos e, e, dm, decide_eq_true b1, decide_eq_false (Nat.lt_irrefl v), decide_eq_false (fun e2 => by rw [e2, dif_self] at dm; exact hv0 dm.symm)]
             have : bthB may bo (2 ^ n - 1) P0 = clqB may P0 := by
               cases hc : clqB may P0 with
               | true => exact bth_iff.mpr ⟨p1, p2, hc⟩
               | false =>
                 cases h5 : bthB may bo (2 ^ n - 1) P0 with
                 | false => rfl
                 | true => rw [(bth_iff.mp h5).2.2] at hc; cases hc
             rw [this]
             simp
           · rw [if_neg e, Nat.add_zero]
             cases hB : bthB may bo (2 ^ n - 1) P with
             | false => rfl
             | true =>
               obtain ⟨m1, m2⟩ := more P hB
               have hne : dif P bo ≠ v := fun e2 => e (by rw [e2, ← hP0] at m2; exact m2)
               have : ((v - 1) &&& ot < dif P bo) ↔ v < dif P bo := by
                 constructor
                 · intro h5
                   rcases Nat.lt_or_ge v (dif P bo) with h6 | h6
                   · exact h6
                   · have := below v v ot _ (Nat.le_refl _) hvo m1 (by omega)
                     omega
                 · intro h5; omega
               rw [decide_eq_decide.mpr this]
         rw [hsum] at l1
         exact l1)
  refine ⟨vp_in_nI (by omega) (by decide), vp_in_nI (by omega) (by decide), c_rivals (k := k + 2) hn e6 hb0 hbn hm ht (fun g2 h2 ht2 => ?_)⟩
  have l1 := loop ot ot g2 h2 ht2 (Nat.le_refl _) (sub_iff.mpr (fun i hi => hi))
  have hsum : sumB (fun P => if bthB may bo (2 ^ n - 1) P && (decide (P = bo) || decide (ot < dif P bo)) then gQ fw wy (2 ^ n - 1) P else 0) 4096 = (if clqB may bo then gQ fw wy (2 ^ n - 1) bo else 0) := by
    rw [← sumB_one (t0 := bo) (n := 4096) (v := if clqB may bo then gQ fw wy (2 ^ n - 1) bo else 0) (by omega)]
    refine sumB_congr (fun P hP => ?_)
    by_cases e : P = bo
    · rw [if_pos e, e, decide_eq_true rfl]
      have : bthB may bo (2 ^ n - 1) bo = clqB may bo := by
        cases hc : clqB may bo with
        | true => exact bth_iff.mpr ⟨hbs, sub_iff.mpr (fun i hi => hi), hc⟩
        | false =>
          cases h5 : bthB may bo (2 ^ n - 1) bo with
          | false => rfl
          | true => rw [(bth_iff.mp h5).2.2] at hc; cases hc
      rw [this, Bool.true_or, Bool.and_true]
    · rw [if_neg e, decide_eq_false e]
      cases hB : bthB may bo (2 ^ n - 1) P with
      | false => rfl
      | true =>
        have := sub_le (more P hB).1
        rw [decide_eq_false (by omega)]; rfl
  rw [hsum] at l1
  exact l1
theorem st_sure : St_sure RR := by
  intro G1 G2 Mc Mm v w hR
  obtain ⟨hW, hT⟩ := hR.2.2.2.2.1
  obtain ⟨e6, e0, hn⟩ := RR_L hR
  have h4 := pow12 hn
  have hal := all_lt (nLm Mm)
  have ha1 : 2 ^ nLm Mm - 1 + 1 = 2 ^ nLm Mm := by omega
  have vall : vp_in (nI (2 ^ nLm Mm - 1)) 4096 := vp_in_nI (by omega) (by decide)
  have xall : ix (nI (2 ^ nLm Mm - 1)) = 2 ^ nLm Mm - 1 := ix_nI (by omega)
  rcases num2 v (n := nLm Mm) (by omega) with hb | ⟨x, hx, rfl⟩
  · exact wp_X11_sure (c_noLine_bad e6 (by omega) hb (n1 (wp_X12_sure (c_isLine_bad e0 (by omega) hb (k0 ⟨rfl, RR_thrown hR⟩)))))
  rcases num2 w (n := nLm Mm) (by omega) with hb | ⟨y, hy, rfl⟩
  · exact wp_X11_sure (c_noLine_ok e6 (by omega) hx (n0 (c_noLine_bad e6 (by omega) hb (k1 (wp_X12_sure (c_isLine_ok e0 (by omega) hx (k1 (c_isLine_bad e0 (by omega) hb (n0 ⟨rfl, RR_thrown hR⟩)))))))))
  refine wp_X11_sure (c_noLine_ok e6 (by omega) hx (n0 (c_noLine_ok e6 (by omega) hy (k0 (wp_X7_rivalsWithBoth (c_renew hW hT (RR_tab hR) (fun a b c e fw wy hTab => ?_)))))))
  have e6' : (Rn Mc a b c e).1 6 8 = nI (nLm Mm) := e6
  have hTab1 : TbE (mayS (kM Mm.1)) (nLm Mm) fw wy c e := hTab.1
  refine ⟨fun c1 => ?_, fun c1 => wp_X7_all ?_⟩
  · have hxy : x ≠ y := fun e2 => c1 (by rw [e2])
    refine c_sureLoop (M := aset (aset (mset Mc 9 5 0) 40 a) 41 b) (g0 := c) (h0 := e) hn e6 hx hy (fun i hi j hj => may_sym hW hi hj) hTab1 hTab.2.1 hxy (fun c3 e3 hTab3 => ?_)
    have hTab2 : TabC (mayS (kM Mm.1)) (ix (kM Mm.1 0 10)) (Rn Mc a b c3 e3) fw wy := ⟨hTab3, hTab.2.1, hTab.2.2⟩
    obtain ⟨bo, hbo⟩ : ∃ bo, bo = 2 ^ x ||| 2 ^ y := ⟨_, rfl⟩
    rw [← hbo]
    have ra := (hTab1 _ hal).1
    have fa := RT_le ra (by omega)
    have hcl : cntP (mayS (kM Mm.1)) bo (fw (2 ^ nLm Mm - 1)) (2 ^ nLm Mm - 1) < 2 ^ 31 := by
      have h5 := cnt_le (mayS (kM Mm.1)) bo (fw (2 ^ nLm Mm - 1)) (2 ^ nLm Mm - 1) (by omega)
      have h6 := bta_le (2 ^ nLm Mm - 1)
      omega
    refine wp_X12_sure (c_isLine_ok e0 (by omega) hx (k1 (c_isLine_ok e0 (by omega) hy (n1 (c_partAll0 (M := mset Mm 0 0 0) hW (fun f h a' g w fw' wy' hTm => wp_X12_all ?_))))))
    have hTm' : TbM (mayS (kM Mm.1)) 0 (2 ^ nLm Mm) fw' wy' a' g w := hTm
    rw [show (Um (Wm (mset Mm 0 0 0) f h) a' g w).1 0 10 = nI (nLm Mm) from e0, all_n _ (by omega), xall]
    refine ⟨vall, fun _ => c_partAll2 (M := Um (Wm (mset Mm 0 0 0) f h) a' g w) hW (by omega) (by omega) hxy (fun f2 h2 a2 g2 w2 fw2 wy2 hT2 => wp_X12_all ?_), fun c2 => absurd c2 c1⟩
    have hT2' : TbM (mayS (kM Mm.1)) bo (2 ^ nLm Mm) fw2 wy2 a2 g2 w2 := by rw [hbo]; exact hT2
    rw [show (Um (Wm (Um (Wm (mset Mm 0 0 0) f h) a' g w) f2 h2) a2 g2 w2).1 0 10 = nI (nLm Mm) from e0, all_n _ (by omega), xall, Um_g, Um_g, (hT2' _ hal).2.1, (hTm' _ hal).2.1, ← (tabs_eq hn hTab1 hTm' _ hal).1]
    have r2 := (hT2' _ hal).1
    have f2le := RTm_le r2 (by omega)
    refine ⟨vall, fun c2 => ⟨?_, RR_rn hR rfl hTab2⟩, fun c2 => wp_X12_all ?_⟩
    · have hne : fw2 (2 ^ nLm Mm - 1) ≠ fw (2 ^ nLm Mm - 1) := fun e2 => c2 (by rw [e2])
      have hz : cntP (mayS (kM Mm.1)) bo (fw (2 ^ nLm Mm - 1)) (2 ^ nLm Mm - 1) = 0 := by
        rcases r2 with r2 | ⟨_, _, r2⟩
        · rcases Nat.lt_or_ge (fw (2 ^ nLm Mm - 1)) (fw2 (2 ^ nLm Mm - 1)) with h5 | h5
          · exact r2.1 _ h5
          · exfalso
            have h6 := cnt_le_bo (mayS (kM Mm.1)) bo (fw2 (2 ^ nLm Mm - 1)) (2 ^ nLm Mm - 1)
            rw [r2.2.1, ra.1 _ (by omega)] at h6
            have := r2.2.2
            omega
        · exact r2 _
      rw [hz]
      rfl
    · have heq : fw2 (2 ^ nLm Mm - 1) = fw (2 ^ nLm Mm - 1) := (nI_eq (by omega) (by omega)).mp c2
      rw [show (Um (Wm (Um (Wm (mset Mm 0 0 0) f h) a' g w) f2 h2) a2 g2 w2).1 0 10 = nI (nLm Mm) from e0, all_n _ (by omega), xall, Um_w, (hT2' _ hal).2.2.1]
      refine ⟨vall, ?_, RR_rn hR rfl hTab2⟩
      rcases r2 with r2 | ⟨r2, _, _⟩
      · rw [← heq, r2.2.1] at hcl ⊢
        exact nI_l hcl
      · omega
  · have hxy : x = y := (nI_eq (by omega) (by omega)).mp c1
    rw [e6', all_n _ (by omega), xall, show (Rn Mc a b c e).1 43 = e from rfl, (TE_all (hTab1 _ hal).2 ha1).2]
    refine ⟨vall, wp_X12_sure (c_isLine_ok e0 (by omega) hx (k1 (c_isLine_ok e0 (by omega) hy (n1 (c_partAll0 (M := mset Mm 0 0 0) hW (fun f h a' g w fw' wy' hTm => wp_X12_all ?_))))))⟩
    have hTm' : TbM (mayS (kM Mm.1)) 0 (2 ^ nLm Mm) fw' wy' a' g w := hTm
    rw [show (Um (Wm (mset Mm 0 0 0) f h) a' g w).1 0 10 = nI (nLm Mm) from e0, all_n _ (by omega), xall]
    refine ⟨vall, fun c2 => absurd c1 c2, fun _ => wp_X12_all ?_⟩
    rw [show (Um (Wm (mset Mm 0 0 0) f h) a' g w).1 0 10 = nI (nLm Mm) from e0, all_n _ (by omega), xall]
    refine ⟨vall, ?_, RR_rn hR rfl hTab⟩
    rw [Um_w, (hTm' _ hal).2.2.1, ← (tabs_eq hn hTab1 hTm' _ hal).2]
    exact nI_l (RT_w (hTab1 _ hal).1 (by omega))
