/-! read: what stays, below the counts -/
section
variable {may may' : Nat → Nat → Bool} {n : Nat}
theorem tb_lt {s i : Nat} (hs : s < 2 ^ n) (h : s.testBit i = true) : i < n := by
  rcases Nat.lt_or_ge i n with h1 | h1
  · exact h1
  · rw [Nat.testBit_lt_two_pow (Nat.lt_of_lt_of_le hs (Nat.pow_le_pow_right (by decide) h1))] at h; cases h
theorem okp_1 (hm : ∀ a b, a < n → b < n → may a b = may' a b) {bo s t : Nat} (hs : s < 2 ^ n) (h : okpB may bo s t = true) : okpB may' bo s t = true := by
  obtain ⟨h1, h2, h3, h4⟩ := okp_iff.mp h
  refine okp_iff.mpr ⟨h1, h2, clq_iff.mpr (fun x y hx hy hxy t1 t2 => ?_), h4⟩
  rw [← hm x y (tb_lt hs (sub_iff.mp h1 x t1)) (tb_lt hs (sub_iff.mp h1 y t2))]
  exact clq_iff.mp h3 x y hx hy hxy t1 t2
theorem okp_c (hm : ∀ a b, a < n → b < n → may a b = may' a b) {bo s t : Nat} (hs : s < 2 ^ n) : okpB may bo s t = okpB may' bo s t := by
  rw [Bool.eq_iff_iff]
  exact ⟨okp_1 hm hs, okp_1 (fun a b ha hb => (hm a b ha hb).symm) hs⟩
theorem cnt_c (hm : ∀ a b, a < n → b < n → may a b = may' a b) {bo : Nat} : ∀ k s, s < 2 ^ n → cntP may bo k s = cntP may' bo k s := by
  intro k
  induction k with
  | zero => intro s _; rfl
  | succ k ih =>
    intro s hs
    rw [cntP, cntP, sumB_congr (fun t _ => ?_)]
    rw [okp_c hm hs, ih (dif s t) (Nat.lt_of_le_of_lt (dif_le s t) hs)]
theorem RT_c (hm : ∀ a b, a < n → b < n → may a b = may' a b) {bo s f w : Nat} (hs : s < 2 ^ n) (h : RT may bo s f w) : RT may' bo s f w := ⟨fun k hk => by rw [← cnt_c hm k s hs]; exact h.1 k hk, by rw [← cnt_c hm f s hs]; exact h.2.1, h.2.2⟩
theorem pick_c (hm : ∀ a b, a < n → b < n → may a b = may' a b) {fw : Nat → Nat} {s : Nat} (hs : s < 2 ^ n) : pickS may fw s = pickS may' fw s := fnd_congr _ _ (fun t _ _ => by rw [okp_c hm hs])
theorem prs_c (hm : ∀ a b, a < n → b < n → may a b = may' a b) {fw : Nat → Nat} {l : Nat} : ∀ k s, s < 2 ^ n → prsS may fw l k s = prsS may' fw l k s := by
  intro k
  induction k with
  | zero => intro s _; rfl
  | succ k ih =>
    intro s hs
    rw [prsS, prsS, pick_c hm hs, ih (dif s (pickS may' fw s)) (Nat.lt_of_le_of_lt (dif_le _ _) hs)]
end
def AG (d d' : Nat → Nat → Int32) : Prop := (∀ i, i < ix (d 0 5) → d' 4 i = d 4 i ∧ d' 5 i = d 5 i ∧ d' 6 i = d 6 i) ∧ (∀ i, i < ix (d 0 10) → d' 8 i = d 8 i ∧ d' 9 i = d 9 i ∧ d' 10 i = d 10 i ∧ d' 11 i = d 11 i ∧ d' 12 i = d 12 i ∧ d' 13 i = d 13 i) ∧ (∀ l, l < ix (d 0 10) → ∀ k, k < ix (d 13 l) → k < 8 → d' 14 (8 * l + k) = d 14 (8 * l + k)) ∧ (∀ i, i < ix (d 0 18) → d' 15 i = d 15 i ∧ d' 16 i = d 16 i ∧ d' 17 i = d 17 i ∧ d' 18 i = d 18 i) ∧ (∀ i, i < ix (d 0 23) → d' 19 i = d 19 i ∧ d' 20 i = d 20 i ∧ d' 21 i = d 21 i ∧ d' 22 i = d 22 i)
theorem fold_c {f g : Int32 → Nat → Int32} : ∀ (L : List Nat) (x : Int32), (∀ y, y ∈ L → ∀ x, f x y = g x y) → L.foldl f x = L.foldl g x := by
  intro L
  induction L with
  | nil => intro x _; rfl
  | cons a t ih =>
    intro x h
    rw [List.foldl_cons, List.foldl_cons, h a (by simp), ih _ (fun y hy => h y (List.mem_cons_of_mem _ hy))]
section
variable {d d' : Nat → Nat → Int32}
theorem gS_c (hW : WFm d) (hA : AG d d') {l : Nat} (hl : l < ix (d 0 10)) : gS d' l = gS d l := by
  obtain ⟨b, hb, eb⟩ := WF_bk hW hl
  have h10 := hW.1.2
  rw [gS, gS, (hA.2.1 l hl).1, eb, ix_nI (by omega), (hA.1 b hb).1, (hA.1 b hb).2.1]
theorem ear_c (hW : WFm d) (hA : AG d d') {l : Nat} (hl : l < ix (d 0 10)) : earN d' l = earN d l := by
  obtain ⟨z, z1, z8, _, ez, _⟩ := WF_name hW hl
  rw [earN_F, earN_F, (hA.2.1 l hl).2.2.2.2.2]
  exact earF_congr (by omega) (fun k hk => by rw [hA.2.2.1 l hl k hk (by omega)])
theorem hand_c (hW : WFm d) (hA : AG d d') {a b : Nat} (ha : a < ix (d 0 10)) (hb : b < ix (d 0 10)) : handS d' a b = handS d a b := by
  obtain ⟨za, a1, a8, _, eza, _⟩ := WF_name hW ha
  obtain ⟨zb, b1, b8, _, ezb, _⟩ := WF_name hW hb
  rw [handS, handS, (hA.2.1 a ha).2.2.2.2.2, (hA.2.1 b hb).2.2.2.2.2]
  exact hdN_congr (fun x y hx hy => by rw [hA.2.2.1 a ha x hx (by omega), hA.2.2.1 b hb y hy (by omega)])
theorem like_c (hW : WFm d) (hA : AG d d') {a b : Nat} (ha : a < ix (d 0 10)) (hb : b < ix (d 0 10)) : likeS d' a b = likeS d a b := by
  rw [likeS, likeS, ear_c hW hA ha, ear_c hW hA hb, hand_c hW hA ha hb]
theorem ordS_c (hA : AG d d') (hO : d' 0 18 = d 0 18) : ordS d' = ordS d := by
  rw [ordS, ordS, hO]
  exact srtO_congr _ (fun x hx => (hA.2.2.2.1 x hx).1)
theorem today_c (hA : AG d d') (hO : d' 0 18 = d 0 18) (s m y : Int32) : todayS d' s m y = todayS d s m y := by
  rw [todayS, todayS, ordS_c hA hO]
  refine fold_c _ _ (fun k hk x => ?_)
  obtain ⟨e1, e2, e3, e4⟩ := hA.2.2.2.1 k (mem_srtO.mp hk)
  rw [tdy, tdy, e1, e2, e3, e4]
theorem door_c (hW : WFm d) (hA : AG d d') (hO : d' 0 18 = d 0 18) {l : Nat} (hl : l < ix (d 0 10)) : doorS d' l = doorS d l := by
  rw [doorS, doorS, today_c hA hO, gS_c hW hA hl, (hA.2.1 l hl).2.2.1, (hA.2.1 l hl).2.2.2.1]
theorem may_c (hW : WFm d) (hA : AG d d') (hO : d' 0 18 = d 0 18) {a b : Nat} (ha : a < ix (d 0 10)) (hb : b < ix (d 0 10)) : mayS d' a b = mayS d a b := by
  have e1 : ageS d' a b = ageS d a b := by rw [ageS, ageS, agD, agD, gS_c hW hA ha, gS_c hW hA hb, (hA.2.1 a ha).2.2.2.2.1, (hA.2.1 b hb).2.2.2.2.1]
  have e2 : twoS d' a b = twoS d a b := by rw [twoS, twoS, homS, homS, homS, homS, oneS, oneS, gS_c hW hA ha, gS_c hW hA hb, door_c hW hA hO ha, door_c hW hA hO hb, (hA.2.1 a ha).2.1, (hA.2.1 b hb).2.1, (hA.2.1 a ha).2.2.1, (hA.2.1 b hb).2.2.1]
  rw [mayS, mayS, like_c hW hA ha hb, e1, e2]
theorem okB_c (hA : AG d d') {b : Nat} (hb : b < ix (d 0 5)) (h7 : d' 7 b = d 7 b) (h : okB d b) : okB d' b := by
  obtain ⟨e1, e2, e3⟩ := hA.1 b hb
  unfold okB
  rw [e1, e2, e3, h7]; exact h
theorem okL_c (hA : AG d d') {l : Nat} (hl : l < ix (d 0 10)) (hle : ix (d 0 5) ≤ ix (d' 0 5)) (h : okL d l) : okL d' l := by
  obtain ⟨e1, e2, e3, e4, e5, e6⟩ := hA.2.1 l hl
  obtain ⟨⟨b, h1, h1'⟩, h2, h3, h4, h5, z, z1, z8, hz, hk⟩ := h
  unfold okL
  rw [e1, e2, e3, e4, e5, e6]
  exact ⟨⟨b, by omega, h1'⟩, h2, h3, h4, h5, z, z1, z8, hz, fun k hk' => by rw [hA.2.2.1 l hl k (by rw [hz, ix_nI (by omega)]; exact hk') (by omega)]; exact hk k hk'⟩
theorem okO_c (hA : AG d d') {i : Nat} (hi : i < ix (d 0 18)) (h : okO d i) : okO d' i := by
  obtain ⟨e1, e2, e3, e4⟩ := hA.2.2.2.1 i hi
  unfold okO
  rw [e1, e2, e3, e4]; exact h
theorem okH_c (hA : AG d d') {i : Nat} (hi : i < ix (d 0 23)) (h : okH d i) : okH d' i := by
  obtain ⟨e1, e2, e3, e4⟩ := hA.2.2.2.2 i hi
  unfold okH
  rw [e1, e2, e3, e4]; exact h
theorem WF_c (hW : WFm d) (hA : AG d d') (h5 : d' 0 5 = d 0 5) (h10 : d' 0 10 = d 0 10) (h18 : d' 0 18 = d 0 18) (h23 : d' 0 23 = d 0 23) (h7 : ∀ b, b < ix (d 0 5) → d' 7 b = d 7 b) : WFm d' := by
  unfold WFm
  rw [h5, h10, h18, h23]
  exact ⟨hW.1, hW.2.1, hW.2.2.1, hW.2.2.2.1, fun b hb => okB_c hA hb (h7 b hb) (hW.2.2.2.2.1 b hb), fun l hl => okL_c hA hl (by rw [h5]; exact Nat.le_refl _) (hW.2.2.2.2.2.1 l hl), fun o ho => okO_c hA ho (hW.2.2.2.2.2.2.1 o ho), fun h hh => okH_c hA hh (hW.2.2.2.2.2.2.2 h hh)⟩
end
theorem PT_c {c c' m m' : Nat → Nat → Int32} (hW : WFm (kM m)) (hA : AG (kM m) (kM m')) (h10 : m' 0 10 = m 0 10) (h18 : m' 0 18 = m 0 18) (hc : kPc c' = kPc c) (h : PT (kPc c) (kP m)) : PT (kPc c') (kP m') := by
  rw [hc]
  rcases h with h | ⟨h0, fw, wy, h1, h2⟩
  · exact Or.inl h
  · have e10 : ix (kP m' 0 10) = ix (kP m 0 10) := congrArg ix h10
    have hm : ∀ a b, a < ix (kP m 0 10) → b < ix (kP m 0 10) → mayS (kP m) a b = mayS (kP m') a b := fun a b ha hb => by
      rw [mayS_kP, mayS_kP]; exact (may_c hW hA h18 ha hb).symm
    refine Or.inr ⟨h0, fw, wy, ?_, ?_⟩
    · rw [e10]
      intro s hs
      obtain ⟨r1, r2⟩ := h1 s hs
      exact ⟨RT_c hm hs r1, r2⟩
    · rw [e10]
      intro l hl
      obtain ⟨r1, r2⟩ := h2 l hl
      refine ⟨fun j hj => ?_, ?_⟩
      · rw [r1 j hj]
        by_cases e : j < ix (kP m 0 10)
        · rw [hm l j hl e]
        · rw [decide_eq_false e, Bool.false_and, Bool.false_and]
      · rw [r2, prs_c hm 12 _ (by have := Nat.two_pow_pos (ix (kP m 0 10)); omega)]
