/-! LIKE, MAY BE ONE; alike -/
theorem aset_aset {M : Mem} {o : Nat} {f g : Nat → Int32} : aset (aset M o f) o g = aset M o g := by
  simp only [aset]
  congr 1
  funext k
  by_cases h : k = o
  · simp [h]
  · simp [h]
theorem cdN_le (x : Nat) : cdN x ≤ 6 := by
  rcases Nat.lt_or_ge x 26 with h | h
  · exact (cd_nI x h).2
  · have : codes26.getD x 0 = 0 := by
      rw [List.getD, List.getElem?_eq_none (show codes26.length ≤ x from h)]; rfl
    rw [cdN, this]; decide
theorem earF_lt {x : Nat → Nat} {z : Nat} (h0 : x 0 < 26) : earF x z < 26000 := by
  obtain ⟨n1, v1, _⟩ := earR_le (fun k => cdN (x k)) (fun k => cdN_le _) (z - 1)
  unfold earF
  generalize earR (fun k => cdN (x k)) (z - 1) = r at n1 v1 ⊢
  have h1 : r.2.1 * 10 ^ (3 - r.1) < 10 ^ r.1 * 10 ^ (3 - r.1) := (Nat.mul_lt_mul_right (Nat.pow_pos (by decide))).mpr v1
  rw [← Nat.pow_add, show r.1 + (3 - r.1) = 3 by omega] at h1
  omega
theorem earN_lt {d : Nat → Nat → Int32} (hW : WFm d) {l : Nat} (hl : l < ix (d 0 10)) : earN d l < 26000 := by
  obtain ⟨z, z1, z8, e, ez, hk⟩ := WF_name hW hl
  rw [earN_F]
  exact earF_lt (hk 0 (by omega)).2
theorem sub_toInt {x y : Int32} (h : -2147483648 ≤ x.toInt - y.toInt ∧ x.toInt - y.toInt < 2147483648) : (x - y).toInt = x.toInt - y.toInt := by
  rw [Int32.toInt_sub]
  exact Int.bmod_eq_of_le (by omega) (by omega)
theorem l_m2 : (-2 : Int64).toInt = -2 := by decide
section
variable {G : GV} {k a b : Nat} {M : Mem} {q : Int32 → Mem → Prop}
theorem c_isLike (hW : WFm (kM M.1)) (ha : a < nLm M) (hb : b < nLm M) (h : ∀ f, q (b01 (likeS (kM M.1) a b)) (aset M 24 f)) : Ci shM G mX12_isLike (k + 2) [.ref (G.2.1 0), .int (nI a), .int (nI b)] M q := by
  have hn := (WF_L hW).2
  have la := earN_lt hW (show a < ix (kM M.1 0 10) from ha)
  have lb := earN_lt hW (show b < ix (kM M.1 0 10) from hb)
  obtain ⟨za, a1, a8, ea, eza, _⟩ := WF_name hW (show a < ix (kM M.1 0 10) from ha)
  obtain ⟨zb, b1, b8, eb, ezb, _⟩ := WF_name hW (show b < ix (kM M.1 0 10) from hb)
  refine wp_X12_isLike (c_ear hW ha (c_ear hW hb ⟨fun c => ?_, fun c => c_handM (by omega) (by omega) a8 b8 ea eb (fun f => ?_)⟩))
  · have hh := h (M.1 24)
    rw [aset_self, likeS, decide_eq_true ((nI_eq (by omega) (by omega)).mp c), Bool.true_or] at hh
    exact hh
  · have hh := h f
    rw [likeS, decide_eq_false (fun e => c (by rw [e])), Bool.false_or, handS, eza, ezb] at hh
    have hle := hdN_le (fun i j => M.1 14 (8 * a + i) == M.1 14 (8 * b + j)) za zb
    refine ⟨fun c2 => ?_, fun c2 => ?_⟩
    · have c2' := (nI_leI (a := 2) (by omega) (by omega)).mp c2
      rw [decide_eq_false (show ¬ hdN (fun i j => kM M.1 14 (8 * a + i) == kM M.1 14 (8 * b + j)) za zb < 2 from Nat.not_lt.mpr c2')] at hh
      exact hh
    · have c2' : ¬ 2 ≤ hdN (fun i j => M.1 14 (8 * a + i) == M.1 14 (8 * b + j)) za zb := fun e => c2 (nI_le (a := 2) e (by omega))
      rw [decide_eq_true (show hdN (fun i j => kM M.1 14 (8 * a + i) == kM M.1 14 (8 * b + j)) za zb < 2 from Nat.lt_of_not_le c2')] at hh
      exact hh
theorem c_isOneDoor (hW : WFm (kM M.1)) (ha : a < nLm M) (hb : b < nLm M) (h : q (b01 (oneS (kM M.1) a b)) M) : Ci shM G mX12_isOneDoor (k + 2) [.ref (G.2.1 0), .int (nI a), .int (nI b)] M q := by
  have hn := (WF_L hW).2
  refine wp_X12_isOneDoor ⟨vin12 ha hn, vin12 hb hn, ?_⟩
  rw [ix12 ha hn, ix12 hb hn]
  refine ⟨fun c => ?_, fun c => c_doorOf hW ha (c_doorOf hW hb ⟨fun c2 => ?_, fun c2 => ?_⟩)⟩
  · have c' : ¬ kM M.1 10 a = kM M.1 10 b := c
    rw [oneS, decide_eq_false (fun e => c' e.1)] at h; exact h
  · rw [oneS, decide_eq_false (fun e => c2 e.2)] at h; exact h
  · have c' : kM M.1 10 a = kM M.1 10 b := c
    rw [oneS, decide_eq_true ⟨c', c2⟩] at h; exact h
theorem c_mayBeM (hW : WFm (kM M.1)) (ha : a < nLm M) (hb : b < nLm M) (h : ∀ f, q (b01 (mayS (kM M.1) a b)) (aset M 24 f)) : Ci shM G mX12_mayBe (k + 3) [.ref (G.2.1 0), .int (nI a), .int (nI b)] M q := by
  have hn := (WF_L hW).2
  have va := vin12 ha hn
  have vb := vin12 hb hn
  have tl : ∀ f, q (b01 (!twoS (kM M.1) a b)) (aset M 24 f) → Ci shM G mX12_isHome (k + 2) [.ref (G.2.1 0), .int (nI a)] (aset M 24 f) (fun x2 M2 => ((x2 = 0 → q 1 M2) ∧ (¬ x2 = 0 → Ci shM G mX12_isHome (k + 2) [.ref (G.2.1 0), .int (nI b)] M2 (fun x3 M3 => ((x3 = 0 → q 1 M3) ∧ (¬ x3 = 0 → Ci shM G mX12_gathered (k + 2) [.ref (G.2.1 0), .int (nI a)] M3 (fun x4 M4 => Ci shM G mX12_gathered (k + 2) [.ref (G.2.1 0), .int (nI b)] M4 (fun x5 M5 => ((x4 ≠ x5 → q 1 M5) ∧ (x4 = x5 → Ci shM G mX12_isOneDoor (k + 2) [.ref (G.2.1 0), .int (nI a), .int (nI b)] M5 (fun x6 M6 => ((x6 = 0 → q 0 M6) ∧ (¬ x6 = 0 → q 1 M6))))))))))))) := by
    intro f ht
    have hW' : WFm (kM (aset M 24 f).1) := hW
    have ha' : a < nLm (aset M 24 f) := ha
    have hb' : b < nLm (aset M 24 f) := hb
    have hk : kM (aset M 24 f).1 = kM M.1 := rfl
    refine c_isHomeM hW' ha' ?_
    rw [hk]
    cases h1 : homS (kM M.1) a with
    | false => rw [twoS, h1] at ht; exact k0 ht
    | true =>
      refine k1 (c_isHomeM hW' hb' ?_)
      rw [hk]
      cases h2 : homS (kM M.1) b with
      | false => rw [twoS, h1, h2] at ht; exact k0 ht
      | true =>
        rw [twoS, h1, h2] at ht
        refine k1 (c_gathered hW' ha' (c_gathered hW' hb' ⟨fun c => ?_, fun c => c_isOneDoor hW' ha' hb' ?_⟩))
        · have c' : ¬ gS (kM M.1) a = gS (kM M.1) b := c
          rw [decide_eq_false c'] at ht; exact ht
        · have c' : gS (kM M.1) a = gS (kM M.1) b := c
          rw [decide_eq_true c'] at ht
          rw [hk]
          cases h3 : oneS (kM M.1) a b with
          | true => rw [h3] at ht; exact k1 ht
          | false => rw [h3] at ht; exact k0 ht
  refine wp_X12_mayBe (c_isLike hW ha hb (fun f => ?_))
  have hh := h f
  cases h1 : likeS (kM M.1) a b with
  | false => rw [mayS, h1] at hh; exact n0 hh
  | true =>
    refine n1 ⟨va, ?_⟩
    rw [ix12 ha hn, ix12 hb hn, show (aset M 24 f).1 12 = M.1 12 from rfl]
    rw [mayS, h1] at hh
    refine ⟨fun c => tl f ?_, fun c => ⟨vb, fun c2 => tl f ?_, fun c2 => ⟨va, vb, c_gathered (M := aset M 24 f) hW ha (c_gathered (M := aset M 24 f) hW hb (c_in ?_))⟩⟩⟩
    · have c' : kM M.1 12 a = -1000000 := c
      rw [ageS, decide_eq_true (Or.inl c')] at hh; exact hh
    · have c' : kM M.1 12 b = -1000000 := c2
      rw [ageS, decide_eq_true (Or.inr (Or.inl c'))] at hh; exact hh
    · show ((inZ (agD (kM M.1) a b) (Int64.toInt (-2)) (Int64.toInt 2) ≠ 0 → _) ∧ (inZ (agD (kM M.1) a b) (Int64.toInt (-2)) (Int64.toInt 2) = 0 → _))
      have e1 : ¬ kM M.1 12 a = -1000000 := c
      have e2 : ¬ kM M.1 12 b = -1000000 := c2
      by_cases h3 : -2 ≤ (agD (kM M.1) a b).toInt ∧ (agD (kM M.1) a b).toInt ≤ 2
      · rw [ageS, decide_eq_true (Or.inr (Or.inr h3))] at hh
        rw [inZ_in (by rw [l_m2]; exact h3.1) (by rw [l_2]; exact h3.2)]
        exact n1 (tl f hh)
      · rw [ageS, decide_eq_false (by rintro (e | e | e); exact e1 e; exact e2 e; exact h3 e)] at hh
        rw [inZ_out (by rw [l_m2, l_2]; omega)]
        exact n0 hh
end
section
variable {G : GV} {k a b : Nat} {M : Mem} {q : Int32 → Mem → Prop} {d : Nat → Nat → Int32}
theorem c_atOneDoor (hW : WFm d) (hT : TieC (kC M.1) d) (ha : a < ix (d 0 10)) (hb : b < ix (d 0 10)) (h : q (b01 (oneS d a b)) M) : Ci shC G mX3_atOneDoor k [.ref (G.2.1 6), .int (nI a), .int (nI b)] M q := by
  have hn : ix (d 0 10) ≤ 12 := hW.2.1.2
  have va := vin12 ha hn
  have vb := vin12 hb hn
  have ta := hT.2.2.2.1 a ha
  have tb := hT.2.2.2.1 b hb
  refine wp_X3_atOneDoor ⟨va, vb, ?_⟩
  rw [ix12 ha hn, ix12 hb hn, show M.1 30 a = d 10 a from ta.2.2.1, show M.1 30 b = d 10 b from tb.2.2.1, show M.1 34 a = doorS d a from ta.2.2.2.2.2.2.1, show M.1 34 b = doorS d b from tb.2.2.2.2.2.2.1]
  refine ⟨fun c => ?_, fun c => ⟨va, vb, fun c2 => ?_, fun c2 => ?_⟩⟩
  · rw [oneS, decide_eq_false (fun e => c e.1)] at h; exact h
  · rw [oneS, decide_eq_false (fun e => c2 e.2)] at h; exact h
  · rw [oneS, decide_eq_true ⟨c, c2⟩] at h; exact h
theorem c_areLike (hW : WFm d) (hT : TieC (kC M.1) d) (ha : a < ix (d 0 10)) (hb : b < ix (d 0 10)) (h : q (b01 (likeS d a b)) M) : Ci shC G mX5_areLike k [.ref (G.2.1 7), .int (nI a), .int (nI b)] M q := by
  have hn : ix (d 0 10) ≤ 12 := hW.2.1.2
  refine wp_X5_areLike ⟨vin12 ha hn, ?_⟩
  have e : (M.1 37 a >>> (nI b &&& 31)) &&& 1 = if decide (b < ix (d 0 10)) && likeS d a b then 1 else 0 := (hT.2.2.2.1 a ha).2.2.2.2.2.2.2.2.2.2 b (by omega)
  rw [decide_eq_true hb, Bool.true_and] at e
  rw [ix12 ha hn, e]
  cases hl : likeS d a b with
  | false => rw [hl] at h; exact ⟨fun _ => h, fun c => absurd c (by decide)⟩
  | true => rw [hl] at h; exact ⟨fun c => absurd (by decide) c, fun _ => h⟩
theorem c_agesAgree (hW : WFm d) (hT : TieC (kC M.1) d) (ha : a < ix (d 0 10)) (hb : b < ix (d 0 10)) (h : q (b01 (ageS d a b)) M) : Ci shC G mX3_agesAgree (k + 1) [.ref (G.2.1 6), .int (nI a), .int (nI b)] M q := by
  have hn : ix (d 0 10) ≤ 12 := hW.2.1.2
  have va := vin12 ha hn
  have vb := vin12 hb hn
  have ta := hT.2.2.2.1 a ha
  have tb := hT.2.2.2.1 b hb
  refine wp_X3_agesAgree ⟨va, ?_⟩
  rw [ix12 ha hn, ix12 hb hn, show M.1 32 a = d 12 a from ta.2.2.2.2.1, show M.1 32 b = d 12 b from tb.2.2.2.2.1, show M.1 33 a = gS d a from ta.2.2.2.2.2.1, show M.1 33 b = gS d b from tb.2.2.2.2.2.1]
  refine ⟨fun c => ?_, fun c => ⟨vb, fun c2 => ⟨va, vb, va, vb, ?_⟩, fun c2 => ?_⟩⟩
  · rw [ageS, decide_eq_true (Or.inl c)] at h; exact h
  · obtain ⟨g1, _, g1b, eg1⟩ := gS_nI hW ha
    obtain ⟨g2, _, g2b, eg2⟩ := gS_nI hW hb
    rcases (hW.2.2.2.2.2.1 a ha).2.2.2.2.1 with e | ⟨x, hx, ex⟩
    · exact absurd e c
    rcases (hW.2.2.2.2.2.1 b hb).2.2.2.2.1 with e | ⟨y, hy, ey⟩
    · exact absurd e c2
    have hB : -20000 ≤ (agD d a b).toInt ∧ (agD d a b).toInt ≤ 20000 := by
      have s1 := nI_subI (a := x) (b := y) (by omega) (by omega)
      have s2 := nI_subI (a := g1) (b := g2) (by omega) (by omega)
      rw [agD, ex, ey, eg1, eg2, sub_toInt (by rw [s1, s2]; omega), s1, s2]
      omega
    obtain ⟨z, hz⟩ : ∃ z, z = agD d a b := ⟨_, rfl⟩
    show ((2 < (if 0 ≤ agD d a b then agD d a b else 0 - agD d a b) → q 0 M) ∧ (¬ 2 < (if 0 ≤ agD d a b then agD d a b else 0 - agD d a b) → q 1 M))
    rw [← hz] at hB ⊢
    have hk : (2 < (if 0 ≤ z then z else 0 - z)) ↔ ¬ (-2 ≤ z.toInt ∧ z.toInt ≤ 2) := by
      by_cases h0 : 0 ≤ z
      · rw [if_pos h0, ltI, i_2]; rw [leI, i_0] at h0; omega
      · rw [if_neg h0, ltI, i_2, sub_toInt (by rw [i_0]; omega), i_0]; rw [leI, i_0] at h0; omega
    rw [hk]
    rw [ageS, ← hz] at h
    refine ⟨fun c3 => ?_, fun c3 => ?_⟩
    · rw [decide_eq_false (by rintro (e | e | e); exact c e; exact c2 e; exact c3 e)] at h; exact h
    · rw [decide_eq_true (Or.inr (Or.inr (Decidable.not_not.mp c3)))] at h; exact h
  · rw [ageS, decide_eq_true (Or.inr (Or.inl c2))] at h; exact h
theorem c_twoC (hW : WFm d) (hT : TieC (kC M.1) d) (ha : a < ix (d 0 10)) (hb : b < ix (d 0 10)) (h : q (b01 (twoS d a b)) M) : Ci shC G mX3_areTwoHomesAtOnce (k + 1) [.ref (G.2.1 6), .int (nI a), .int (nI b)] M q := by
  have hn : ix (d 0 10) ≤ 12 := hW.2.1.2
  have va := vin12 ha hn
  have vb := vin12 hb hn
  have ta := hT.2.2.2.1 a ha
  have tb := hT.2.2.2.1 b hb
  refine wp_X3_areTwoHomesAtOnce (c_isHomeC hW hT ha ?_)
  cases h1 : homS d a with
  | false => rw [twoS, h1] at h; exact k0 h
  | true =>
    refine k1 (c_isHomeC hW hT hb ?_)
    cases h2 : homS d b with
    | false => rw [twoS, h1, h2] at h; exact k0 h
    | true =>
      rw [twoS, h1, h2] at h
      refine k1 ⟨va, vb, ?_⟩
      rw [ix12 ha hn, ix12 hb hn, show M.1 33 a = gS d a from ta.2.2.2.2.2.1, show M.1 33 b = gS d b from tb.2.2.2.2.2.1]
      refine ⟨fun c => ?_, fun c => c_atOneDoor hW hT ha hb ?_⟩
      · rw [decide_eq_false c] at h; exact h
      · rw [decide_eq_true c] at h
        cases h3 : oneS d a b with
        | true => rw [h3] at h; exact n1 h
        | false => rw [h3] at h; exact n0 h
theorem c_mayBeOne (hW : WFm d) (hT : TieC (kC M.1) d) (ha : a < ix (d 0 10)) (hb : b < ix (d 0 10)) (h : q (b01 (mayS d a b)) M) : Ci shC G mX3_mayBeOne (k + 2) [.ref (G.2.1 6), .int (nI a), .int (nI b)] M q := by
  refine wp_X3_mayBeOne (c_areLike hW hT ha hb ?_)
  cases h1 : likeS d a b with
  | false => rw [mayS, h1] at h; exact k0 h
  | true =>
    refine k1 (c_agesAgree hW hT ha hb ?_)
    cases h2 : ageS d a b with
    | false => rw [mayS, h1, h2] at h; exact k0 h
    | true =>
      refine k1 (c_twoC hW hT ha hb ?_)
      rw [mayS, h1, h2] at h
      cases h3 : twoS d a b with
      | true => rw [h3] at h; exact n1 h
      | false => rw [h3] at h; exact n0 h
end
theorem st_alike : St_alike RR := by
  intro G1 G2 Mc Mm v w x hR
  obtain ⟨hW, hT⟩ := hR.2.2.2.2.1
  obtain ⟨e6, e0, hn⟩ := RR_L hR
  rcases num2 v (n := nLm Mm) (by omega) with hb | ⟨a, ha, rfl⟩
  · exact wp_X11_alike (c_noLine_bad e6 (by omega) hb (n1 (wp_X12_alike (c_isLine_bad e0 (by omega) hb (k0 ⟨rfl, RR_thrown hR⟩)))))
  rcases num2 w (n := nLm Mm) (by omega) with hb | ⟨b, hb, rfl⟩
  · exact wp_X11_alike (c_noLine_ok e6 (by omega) ha (n0 (c_noLine_bad e6 (by omega) hb (k1 (wp_X12_alike (c_isLine_ok e0 (by omega) ha (k1 (c_isLine_bad e0 (by omega) hb (k0 ⟨rfl, RR_thrown hR⟩)))))))))
  have hM : WFm (kM (mset Mm 0 0 0).1) := hW
  have ha' : a < ix (kM Mm.1 0 10) := ha
  have hb' : b < ix (kM Mm.1 0 10) := hb
  refine wp_X11_alike (c_noLine_ok e6 (by omega) ha (n0 (c_noLine_ok e6 (by omega) hb (k0 ⟨fun c => ?_, fun c => ?_, fun c => ?_, fun c => ?_⟩))))
  · have hx : x = 0 := Int32.toInt_inj.mp (by rw [c]; decide)
    subst hx
    obtain ⟨za, a1, a8, ea, eza, _⟩ := WF_name hW ha'
    obtain ⟨zb, b1, b8, eb, ezb, _⟩ := WF_name hW hb'
    have ta := hT.2.2.2.1 a ha'
    have tb := hT.2.2.2.1 b hb'
    refine c_handC (by omega) (by omega) a8 b8 (Eq.trans ta.2.2.2.2.2.2.2.1 ea) (Eq.trans tb.2.2.2.2.2.2.2.1 eb) (fun f => ?_)
    refine wp_X12_alike (c_isLine_ok e0 (by omega) ha (k1 (c_isLine_ok e0 (by omega) hb (k1 (c_in_ok (by decide) (by decide) (n1 ⟨fun e => absurd rfl e, fun _ => c_handM (M := mset Mm 0 0 0) (by omega) (by omega) a8 b8 ea eb (fun f2 => ⟨?_, RR_sc hR rfl rfl⟩)⟩))))))
    congr 1
    apply hdN_congr
    intro i j hi hj
    have la : Mc.1 35 (8 * a + i) = Mm.1 14 (8 * a + i) := ta.2.2.2.2.2.2.2.2.2.1 i (by omega)
    have lb : Mc.1 35 (8 * b + j) = Mm.1 14 (8 * b + j) := tb.2.2.2.2.2.2.2.2.2.1 j (by omega)
    rw [la, lb]
    rfl
  · have hx : x = 1 := Int32.toInt_inj.mp (by rw [c]; decide)
    subst hx
    refine c_areLike hW hT ha' hb' ?_
    have hm : ∀ {q : Int32 → Mem → Prop}, (∀ f, q (b01 (likeS (kM Mm.1) a b)) (aset (mset Mm 0 0 0) 24 f)) → Ci shM G2 mX12_alike 4 [.ref (G2.2.1 0), .int (nI a), .int (nI b), .int 1] Mm q := by
      intro q hq
      refine wp_X12_alike (c_isLine_ok e0 (by omega) ha (k1 (c_isLine_ok e0 (by omega) hb (k1 (c_in_ok (by decide) (by decide) (n1 ⟨fun _ => ⟨fun e => absurd rfl e, fun _ => c_isLike (M := mset Mm 0 0 0) hM ha hb (fun f => ?_)⟩, fun e => absurd e (by decide)⟩))))))
      have h1 := hq f
      rw [show kM (mset Mm 0 0 0).1 = kM Mm.1 from rfl]
      cases hb : likeS (kM Mm.1) a b with
      | false => rw [hb] at h1; exact k0 h1
      | true => rw [hb] at h1; exact k1 h1
    cases hl : likeS (kM Mm.1) a b with
    | false => exact k0 (hm (fun f => by rw [hl]; exact ⟨rfl, RR_sc hR rfl rfl⟩))
    | true => exact k1 (hm (fun f => by rw [hl]; exact ⟨rfl, RR_sc hR rfl rfl⟩))
  · have hx : x = 2 := Int32.toInt_inj.mp (by rw [c]; decide)
    subst hx
    refine c_mayBeOne hW hT ha' hb' ?_
    have hm : ∀ {q : Int32 → Mem → Prop}, (∀ f, q (b01 (mayS (kM Mm.1) a b)) (aset (mset Mm 0 0 0) 24 f)) → Ci shM G2 mX12_alike 4 [.ref (G2.2.1 0), .int (nI a), .int (nI b), .int 2] Mm q := by
      intro q hq
      refine wp_X12_alike (c_isLine_ok e0 (by omega) ha (k1 (c_isLine_ok e0 (by omega) hb (k1 (c_in_ok (by decide) (by decide) (n1 ⟨fun _ => ⟨fun _ => c_mayBeM (M := mset Mm 0 0 0) hM ha hb (fun f => ?_), fun e => absurd e (by decide)⟩, fun e => absurd e (by decide)⟩))))))
      have h1 := hq f
      rw [show kM (mset Mm 0 0 0).1 = kM Mm.1 from rfl]
      cases hb : mayS (kM Mm.1) a b with
      | false => rw [hb] at h1; exact k0 h1
      | true => rw [hb] at h1; exact k1 h1
    cases hl : mayS (kM Mm.1) a b with
    | false => exact k0 (hm (fun f => by rw [hl]; exact ⟨rfl, RR_sc hR rfl rfl⟩))
    | true => exact k1 (hm (fun f => by rw [hl]; exact ⟨rfl, RR_sc hR rfl rfl⟩))
  · exact wp_X12_alike (c_isLine_ok e0 (by omega) ha (k1 (c_isLine_ok e0 (by omega) hb (k1 (c_in_bad (by rw [t0, l_2]; exact c) (n0 ⟨rfl, RR_thrown hR⟩))))))
