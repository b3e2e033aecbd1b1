/-! the ways to part a set -/
section
variable {may : Nat → Nat → Bool} {bo s : Nat}
theorem okp_dif_lt (h0 : s ≠ 0) (h : s < 4096) {t : Nat} (ht : okpB may bo s t = true) : dif s t < s := dif_lt (low_spec h0 h).1 (okp_iff.mp ht).2.1
theorem okp_lt (h : s < 4096) {t : Nat} (ht : okpB may bo s t = true) : t < 4096 := sub_lt (okp_iff.mp ht).1 h
theorem cnt_s (h0 : s ≠ 0) (k : Nat) : cntP may bo (k + 1) s = sumB (fun t => if okpB may bo s t then cntP may bo k (dif s t) else 0) 4096 := by rw [cntP, if_neg h0]
theorem cnt_0 (h0 : s ≠ 0) : cntP may bo 0 s = 0 := by rw [cntP, if_neg h0]
theorem cnt_bound : ∀ (k j s : Nat), j ≤ 12 → s < 4096 → (∀ i, i < j → s.testBit i = false) → cntP may bo k s ≠ 0 → k + j ≤ 12 := by
  intro k
  induction k with
  | zero => intro j s hj _ _ _; omega
  | succ k ih =>
    intro j s hj hs hl hc
    have h0 : s ≠ 0 := by
      intro e
      rw [cntP, if_pos e] at hc
      exact hc rfl
    rw [cnt_s h0] at hc
    obtain ⟨t, ht, hne⟩ := sumB_ne hc
    have hok : okpB may bo s t = true := by
      cases e : okpB may bo s t with
      | true => rfl
      | false => rw [e] at hne; exact absurd rfl hne
    rw [if_pos hok] at hne
    obtain ⟨a1, a2, a3⟩ := low_spec h0 hs
    have hj2 : j ≤ lowN s := by
      rcases Nat.lt_or_ge (lowN s) j with h5 | h5
      · rw [hl _ h5] at a1; cases a1
      · exact h5
    have := ih (lowN s + 1) (dif s t) (by omega) (Nat.lt_of_le_of_lt (dif_le s t) hs) (fun i hi => ?_) hne
    · omega
    · rw [tb_dif]
      rcases Nat.lt_or_ge i (lowN s) with h5 | h5
      · rw [a3 i h5]; rfl
      · obtain rfl : i = lowN s := by omega
        rw [(okp_iff.mp hok).2.1]; simp
theorem RT_le {f w : Nat} (h : RT may bo s f w) (hs : s < 4096) : f ≤ 12 := by
  have := cnt_bound f 0 s (by omega) hs (fun i hi => absurd hi (Nat.not_lt_zero _)) (by rw [h.2.1]; have := h.2.2; omega)
  omega
theorem RT_rs {f w : Nat} (h0 : s ≠ 0) (hs : s < 4096) (h : RT may bo (rsN s) f w) : f ≤ 11 := by
  have := cnt_bound f 1 (rsN s) (by omega) (Nat.lt_trans (rs_lt h0 hs) hs) (fun i hi => ?_) (by rw [h.2.1]; have := h.2.2; omega)
  · omega
  · obtain rfl : i = 0 := by omega
    cases e : (rsN s).testBit 0 with
    | false => rfl
    | true => have := (rs_low h0 hs e).1; omega
theorem RT_uniq {f w f' w' : Nat} (h : RT may bo s f w) (h' : RT may bo s f' w') : f = f' ∧ w = w' := by
  obtain ⟨a1, a2, a3⟩ := h
  obtain ⟨b1, b2, b3⟩ := h'
  rcases Nat.lt_trichotomy f f' with h5 | h5 | h5
  · rw [b1 f h5] at a2; omega
  · subst h5; exact ⟨rfl, a2.symm.trans b2⟩
  · rw [a1 f' h5] at b2; omega
theorem RT_0 : RT may bo 0 0 1 := ⟨fun k hk => absurd hk (Nat.not_lt_zero _), by rw [cntP, if_pos rfl], by decide⟩
theorem RT_pos {f w : Nat} (h : RT may bo s f w) (h0 : s ≠ 0) : 0 < f := by
  rcases Nat.eq_zero_or_pos f with e | e
  · have := h.2.1
    rw [e, cnt_0 h0] at this
    have := h.2.2
    omega
  · exact e
theorem cnt_1 (h0 : s ≠ 0) (hs : s < 4096) : cntP may 0 1 s = if clqB may s then 1 else 0 := by
  rw [cnt_s h0]
  obtain ⟨a1, a2, a3⟩ := low_spec h0 hs
  have : ∀ t, t < 4096 → (if okpB may 0 s t then cntP may 0 0 (dif s t) else 0) = if t = s then (if clqB may s then 1 else 0) else 0 := by
    intro t ht
    by_cases e : t = s
    · subst e
      rw [if_pos rfl, dif_self]
      cases hc : clqB may t with
      | true =>
        rw [if_pos (okp_iff.mpr ⟨sub_iff.mpr (fun i hi => hi), a1, hc, fun h => h.1 (by simp)⟩), cntP, if_pos rfl]; rfl
      | false =>
        rw [if_neg (fun h => by rw [(okp_iff.mp h).2.2.1] at hc; cases hc)]; rfl
    · rw [if_neg e]
      by_cases ho : okpB may 0 s t = true
      · rw [if_pos ho]
        exact cnt_0 (fun e2 => e (dif_eq0 e2 (okp_iff.mp ho).1))
      · rw [if_neg ho]
  rw [sumB_congr this, sumB_one hs]
theorem RT_1 {f w : Nat} (h : RT may 0 s f w) (h0 : s ≠ 0) (hs : s < 4096) : f = 1 ↔ clqB may s = true := by
  have h1 := cnt_1 (may := may) h0 hs
  have hp := RT_pos h h0
  constructor
  · rintro rfl
    cases hc : clqB may s with
    | true => rfl
    | false =>
      rw [h.2.1, hc] at h1
      have := h.2.2
      simp at h1; omega
  · intro hc
    rw [hc] at h1
    rcases Nat.lt_or_ge 1 f with h5 | h5
    · rw [h.1 1 h5] at h1; simp at h1
    · omega
theorem RT_clq (h0 : s ≠ 0) (hs : s < 4096) (hc : clqB may s = true) : RT may 0 s 1 1 := by
  refine ⟨fun k hk => ?_, by rw [cnt_1 h0 hs, hc]; rfl, by decide⟩
  obtain rfl : k = 0 := by omega
  exact cnt_0 h0
/-- some of the ways: those that D names -/
def CD (may : Nat → Nat → Bool) (bo s : Nat) (D : Nat → Bool) (k : Nat) : Nat := sumB (fun t => if D t then cntP may bo k (dif s t) else 0) 4096
def InvP (may : Nat → Nat → Bool) (bo s : Nat) (D : Nat → Bool) (b c : Nat) : Prop := 0 < b ∧ (∀ k, k + 1 < b → CD may bo s D k = 0) ∧ CD may bo s D (b - 1) = c
theorem CD_add {D D' : Nat → Bool} {t0 : Nat} (ht : t0 < 4096) (h0 : D t0 = false) (h : ∀ t, t < 4096 → D' t = (D t || decide (t = t0))) (k : Nat) : CD may bo s D' k = CD may bo s D k + cntP may bo k (dif s t0) := by
  refine sumB_ad ht (fun t ht2 => ?_)
  rw [h t ht2]
  by_cases e : t = t0
  · subst e; simp [h0]
  · simp [e]
theorem CD_same {D D' : Nat → Bool} (h : ∀ t, t < 4096 → D' t = D t) (k : Nat) : CD may bo s D' k = CD may bo s D k := sumB_congr (fun t ht => by rw [h t ht])
theorem Inv_same {D D' : Nat → Bool} {b c : Nat} (h : ∀ t, t < 4096 → D' t = D t) (hI : InvP may bo s D b c) : InvP may bo s D' b c := ⟨hI.1, fun k hk => by rw [CD_same h]; exact hI.2.1 k hk, by rw [CD_same h]; exact hI.2.2⟩
theorem Inv_lt {D D' : Nat → Bool} {t0 b c f w : Nat} (ht : t0 < 4096) (h0 : D t0 = false) (h : ∀ t, t < 4096 → D' t = (D t || decide (t = t0))) (hI : InvP may bo s D b c) (hR : RT may bo (dif s t0) f w) (hlt : f + 1 < b) : InvP may bo s D' (f + 1) w := by
  refine ⟨by omega, fun k hk => ?_, ?_⟩
  · rw [CD_add ht h0 h, hI.2.1 k (by omega), hR.1 k (by omega)]
  · rw [Nat.add_sub_cancel, CD_add ht h0 h, hI.2.1 f hlt, hR.2.1]; omega
theorem Inv_eq {D D' : Nat → Bool} {t0 b c f w : Nat} (ht : t0 < 4096) (h0 : D t0 = false) (h : ∀ t, t < 4096 → D' t = (D t || decide (t = t0))) (hI : InvP may bo s D b c) (hR : RT may bo (dif s t0) f w) (he : f + 1 = b) : InvP may bo s D' b (c + w) := by
  refine ⟨hI.1, fun k hk => ?_, ?_⟩
  · rw [CD_add ht h0 h, hI.2.1 k (by omega), hR.1 k (by omega)]
  · rw [CD_add ht h0 h, hI.2.2, show b - 1 = f by omega, hR.2.1]
theorem Inv_gt {D D' : Nat → Bool} {t0 b c f w : Nat} (ht : t0 < 4096) (h0 : D t0 = false) (h : ∀ t, t < 4096 → D' t = (D t || decide (t = t0))) (hI : InvP may bo s D b c) (hR : RT may bo (dif s t0) f w) (hg : b < f + 1) : InvP may bo s D' b c := by
  have h1 := hI.1
  refine ⟨hI.1, fun k hk => ?_, ?_⟩
  · rw [CD_add ht h0 h, hI.2.1 k (by omega), hR.1 k (by omega)]
  · rw [CD_add ht h0 h, hI.2.2, hR.1 (b - 1) (by omega)]; omega
theorem Inv_RT {D : Nat → Bool} {b c : Nat} (h0 : s ≠ 0) (h : ∀ t, t < 4096 → D t = okpB may bo s t) (hI : InvP may bo s D b c) (hc : 0 < c) : RT may bo s b c := by
  have e : ∀ k, cntP may bo (k + 1) s = CD may bo s D k := fun k => by
    rw [cnt_s h0]
    exact sumB_congr (fun t ht => by rw [h t ht])
  refine ⟨fun k hk => ?_, ?_, hc⟩
  · cases k with
    | zero => exact cnt_0 h0
    | succ k => rw [e]; exact hI.2.1 k hk
  · have h1 := hI.1
    rw [show b = (b - 1) + 1 by omega, e]; exact hI.2.2
end
/-! how many ways at most -/
def prB (g : Nat → Bool → Nat) (t : Nat) : Nat → Nat
  | 0 => 1
  | m + 1 => prB g t m * g m (t.testBit m)
def prS (g : Nat → Bool → Nat) : Nat → Nat
  | 0 => 1
  | m + 1 => prS g m * (g m false + g m true)
theorem prB_congr {g : Nat → Bool → Nat} {t u m : Nat} (h : ∀ i, i < m → t.testBit i = u.testBit i) : prB g t m = prB g u m := by
  induction m with
  | zero => rfl
  | succ m ih => rw [prB, prB, ih (fun i hi => h i (by omega)), h m (by omega)]
theorem prB_sum (g : Nat → Bool → Nat) (m : Nat) : sumB (fun t => prB g t m) (2 ^ m) = prS g m := by
  induction m with
  | zero => rfl
  | succ m ih =>
    rw [Nat.pow_succ, Nat.mul_two, sumB_app]
    have e1 : sumB (fun t => prB g t (m + 1)) (2 ^ m) = g m false * prS g m := by
      rw [← ih, ← sumB_mul]
      refine sumB_congr (fun t ht => ?_)
      rw [prB, Nat.testBit_lt_two_pow ht, Nat.mul_comm]
    have e2 : sumB (fun u => prB g (2 ^ m + u) (m + 1)) (2 ^ m) = g m true * prS g m := by
      rw [← ih, ← sumB_mul]
      refine sumB_congr (fun u hu => ?_)
      rw [prB, Nat.testBit_two_pow_add_eq, Nat.testBit_lt_two_pow hu, Nat.mul_comm, prB_congr (u := u) (fun i hi => Nat.testBit_two_pow_add_gt hi u)]
      rfl
    rw [e1, e2, prS, Nat.mul_add, Nat.mul_comm, Nat.mul_comm (g m true)]
/-- 12 - i, multiplied over a set -/
def btaG (i : Nat) (b : Bool) : Nat := if b then 12 - i else 1
def bta (s : Nat) : Nat := prB btaG s 12
/-- the weight of a part t of s -/
def wtG (s i : Nat) (b : Bool) : Nat := if s.testBit i then (if b then 1 else if i = lowN s then 0 else 12 - i) else (if b then 0 else 1)
theorem wt_eq {s t : Nat} (h1 : t &&& s = t) (h2 : t.testBit (lowN s) = true) (m : Nat) : prB (wtG s) t m = prB btaG (dif s t) m := by
  induction m with
  | zero => rfl
  | succ m ih =>
    rw [prB, prB, ih]
    congr 1
    rw [tb_dif, wtG, btaG]
    cases hs : s.testBit m with
    | false =>
      have : t.testBit m = false := by
        cases e : t.testBit m with
        | false => rfl
        | true => rw [sub_iff.mp h1 m e] at hs; cases hs
      rw [this]; rfl
    | true =>
      cases ht : t.testBit m with
      | true => rfl
      | false =>
        rw [if_pos rfl, if_neg (by decide), if_neg (fun e => by rw [e, h2] at ht; cases ht)]
        rfl
theorem wt_bnd {s : Nat} (h0 : s ≠ 0) (hs : s < 4096) : ∀ m, lowN s < m → m ≤ 12 → prS (wtG s) m * (13 - m) ≤ prB btaG s m := by
  obtain ⟨a1, a2, a3⟩ := low_spec h0 hs
  intro m
  have base : ∀ m, m ≤ lowN s → prS (wtG s) m = 1 ∧ prB btaG s m = 1 := by
    intro m
    induction m with
    | zero => intro _; exact ⟨rfl, rfl⟩
    | succ m ih =>
      intro hm
      obtain ⟨i1, i2⟩ := ih (by omega)
      rw [prS, prB, i1, i2, wtG, wtG, btaG, a3 m (by omega)]
      exact ⟨rfl, rfl⟩
  induction m with
  | zero => intro h _; omega
  | succ m ih =>
    intro h1 h2
    rcases Nat.lt_or_ge (lowN s) m with h5 | h5
    · have hi := ih h5 (by omega)
      rw [prS, prB, wtG, wtG, btaG]
      cases e : s.testBit m with
      | true =>
        simp only [if_true, if_false, Bool.false_eq_true, if_neg (show ¬ m = lowN s by omega)]
        have e1 : 12 - m + 1 = 13 - m := by omega
        have e2 : 13 - (m + 1) = 12 - m := by omega
        rw [e1, e2]
        exact Nat.mul_le_mul_right _ hi
      | false =>
        simp only [if_true, if_false, Bool.false_eq_true, Nat.add_zero, Nat.mul_one]
        exact Nat.le_trans (Nat.mul_le_mul_left _ (by omega)) hi
    · obtain rfl : m = lowN s := by omega
      obtain ⟨i1, i2⟩ := base (lowN s) (Nat.le_refl _)
      rw [prS, prB, i1, i2, wtG, wtG, btaG, a1]
      simp only [if_true, if_false, Bool.false_eq_true]
      omega
theorem cnt_le (may : Nat → Nat → Bool) (bo : Nat) : ∀ k s, s < 4096 → cntP may bo k s ≤ bta s := by
  intro k
  induction k with
  | zero =>
    intro s hs
    rw [cntP]
    split
    · rename_i e
      subst e
      decide
    · exact Nat.zero_le _
  | succ k ih =>
    intro s hs
    by_cases h0 : s = 0
    · rw [cntP, if_pos h0]; exact Nat.zero_le _
    · rw [cnt_s h0]
      have h1 : sumB (fun t => if okpB may bo s t then cntP may bo k (dif s t) else 0) 4096 ≤ sumB (fun t => prB (wtG s) t 12) (2 ^ 12) := by
        refine sumB_le (fun t ht => ?_)
        by_cases ho : okpB may bo s t = true
        · rw [if_pos ho, wt_eq (okp_iff.mp ho).1 (okp_iff.mp ho).2.1]
          exact ih (dif s t) (Nat.lt_of_le_of_lt (dif_le s t) hs)
        · rw [if_neg ho]; exact Nat.zero_le _
      refine Nat.le_trans h1 ?_
      rw [prB_sum]
      have := wt_bnd h0 hs 12 (low_spec h0 hs).2.1 (Nat.le_refl _)
      rw [Nat.mul_one] at this
      exact this
theorem bta_le (s : Nat) : bta s ≤ 479001600 := by
  have h : ∀ m, m ≤ 12 → prB btaG s m ≤ prB btaG 4095 m := by
    intro m
    induction m with
    | zero => intro _; exact Nat.le_refl _
    | succ m ih =>
      intro hm
      rw [prB, prB]
      refine Nat.mul_le_mul (ih (by omega)) ?_
      rw [show (4095 : Nat) = 2 ^ 12 - 1 from rfl, Nat.testBit_two_pow_sub_one, decide_eq_true (by omega)]
      cases s.testBit m
      · show 1 ≤ 12 - m; omega
      · exact Nat.le_refl _
  exact Nat.le_trans (h 12 (Nat.le_refl _)) (by decide)
theorem RT_w {may : Nat → Nat → Bool} {bo s f w : Nat} (h : RT may bo s f w) (hs : s < 4096) : w < 2 ^ 31 := by
  have h1 := cnt_le may bo f s hs
  have h2 := bta_le s
  rw [h.2.1] at h1
  omega
/-! both in one person -/
section
variable {may : Nat → Nat → Bool}
theorem cnt_free (bo : Nat) : ∀ k s, s &&& bo = 0 → cntP may bo k s = cntP may 0 k s := by
  intro k
  induction k with
  | zero => intro s _; rfl
  | succ k ih =>
    intro s h
    rw [cntP, cntP]
    by_cases h0 : s = 0
    · rw [if_pos h0, if_pos h0]
    · rw [if_neg h0, if_neg h0]
      refine sumB_congr (fun t ht => ?_)
      have hd : dif s t &&& bo = 0 := by
        apply Nat.eq_of_testBit_eq
        intro i
        have h2 := congrArg (fun x => Nat.testBit x i) h
        simp only [Nat.testBit_and, Nat.zero_testBit] at h2
        rw [Nat.testBit_and, tb_dif, Nat.zero_testBit]
        cases hs : s.testBit i with
        | false => rfl
        | true => rw [hs, Bool.true_and] at h2; rw [h2, Bool.and_false]
      have e : okpB may bo s t = okpB may 0 s t := by
        cases h1 : okpB may 0 s t with
        | true =>
          obtain ⟨a1, a2, a3, _⟩ := okp_iff.mp h1
          exact okp_iff.mpr ⟨a1, a2, a3, fun h => h.2 hd⟩
        | false =>
          cases h2 : okpB may bo s t with
          | false => rfl
          | true =>
            obtain ⟨a1, a2, a3, _⟩ := okp_iff.mp h2
            rw [okp_iff.mpr ⟨a1, a2, a3, fun h => h.1 (by simp)⟩] at h1
            cases h1
      rw [e, ih _ hd]
/-- a person with both -/
def bthB (may : Nat → Nat → Bool) (bo s P : Nat) : Bool := decide (P &&& s = P) && decide (bo &&& P = bo) && clqB may P
theorem bth_iff {bo s P : Nat} : bthB may bo s P = true ↔ P &&& s = P ∧ bo &&& P = bo ∧ clqB may P = true := by
  simp only [bthB, Bool.and_eq_true, decide_eq_true_iff, and_assoc]
theorem and0_iff {a b : Nat} : a &&& b = 0 ↔ ∀ i, ¬ (a.testBit i = true ∧ b.testBit i = true) := by
  constructor
  · rintro h i ⟨h1, h2⟩
    have h3 := congrArg (fun x => Nat.testBit x i) h
    simp only [Nat.testBit_and, Nat.zero_testBit, h1, h2] at h3
    cases h3
  · intro h
    apply Nat.eq_of_testBit_eq
    intro i
    rw [Nat.testBit_and, Nat.zero_testBit]
    have := h i
    cases h1 : a.testBit i <;> cases h2 : b.testBit i <;> simp_all
theorem cnt_both {bo : Nat} (hb : bo ≠ 0) : ∀ k s, s < 4096 → bo &&& s = bo → cntP may bo (k + 1) s = sumB (fun P => if bthB may bo s P then cntP may 0 k (dif s P) else 0) 4096 := by
  intro k
  induction k with
  | zero =>
    intro s hs hbs
    obtain ⟨i0, hi0⟩ : ∃ i, bo.testBit i = true := by
      apply Classical.byContradiction
      intro hc
      apply hb
      apply Nat.eq_of_testBit_eq
      intro i
      rw [Nat.zero_testBit]
      cases e : bo.testBit i with
      | false => rfl
      | true => exact absurd ⟨i, e⟩ hc
    have h0 : s ≠ 0 := bit_ne0 (sub_iff.mp hbs i0 hi0)
    rw [cnt_s h0]
    refine sumB_congr (fun t ht => ?_)
    by_cases e : dif s t = 0
    · rw [e]
      have c1 : cntP may bo 0 0 = 1 := rfl
      have c2 : cntP may 0 0 0 = 1 := rfl
      rw [c1, c2]
      have : okpB may bo s t = bthB may bo s t := by
        cases h1 : bthB may bo s t with
        | true =>
          obtain ⟨a1, a2, a3⟩ := bth_iff.mp h1
          have e3 := dif_eq0 e a1
          exact okp_iff.mpr ⟨a1, by rw [e3]; exact (low_spec h0 hs).1, a3, fun h => h.2 (by rw [e]; simp)⟩
        | false =>
          cases h2 : okpB may bo s t with
          | false => rfl
          | true =>
            obtain ⟨a1, a2, a3, _⟩ := okp_iff.mp h2
            have e3 := dif_eq0 e a1
            rw [bth_iff.mpr ⟨a1, by rw [e3]; exact hbs, a3⟩] at h1
            cases h1
      rw [this]
    · rw [cnt_0 e, cnt_0 e]
      simp
  | succ k ih =>
    intro s hs hbs
    obtain ⟨i0, hi0⟩ : ∃ i, bo.testBit i = true := by
      apply Classical.byContradiction
      intro hc
      apply hb
      apply Nat.eq_of_testBit_eq
      intro i
      rw [Nat.zero_testBit]
      cases e : bo.testBit i with
      | false => rfl
      | true => exact absurd ⟨i, e⟩ hc
    have h0 : s ≠ 0 := bit_ne0 (sub_iff.mp hbs i0 hi0)
    obtain ⟨l1, l2, l3⟩ := low_spec h0 hs
    rw [cnt_s h0]
    -- the left side: the part with the least holds both, or none of them
    have L : ∀ t, t < 4096 → (if okpB may bo s t then cntP may bo (k + 1) (dif s t) else 0) = (if bthB may bo s t && t.testBit (lowN s) then cntP may 0 (k + 1) (dif s t) else 0) + sumB (fun P => if okpB may 0 s t && decide (t &&& bo = 0) && bthB may bo (dif s t) P then cntP may 0 k (dif (dif s t) P) else 0) 4096 := by
      intro t ht
      by_cases ho : okpB may bo s t = true
      · obtain ⟨a1, a2, a3, a4⟩ := okp_iff.mp ho
        rw [if_pos ho]
        by_cases hz : t &&& bo = 0
        · have n1 : bthB may bo s t = false := by
            cases e : bthB may bo s t with
            | false => rfl
            | true => exact absurd ⟨sub_iff.mp (bth_iff.mp e).2.1 i0 hi0, hi0⟩ (and0_iff.mp hz i0)
          rw [n1, Bool.false_and, if_neg (by decide), Nat.zero_add]
          have hbd : bo &&& dif s t = bo := sub_iff.mpr (fun i hi => by
            rw [tb_dif, sub_iff.mp hbs i hi]
            cases e : t.testBit i with
            | false => rfl
            | true => exact absurd ⟨e, hi⟩ (and0_iff.mp hz i))
          rw [ih (dif s t) (Nat.lt_of_le_of_lt (dif_le s t) hs) hbd]
          refine sumB_congr (fun P hP => ?_)
          rw [okp_iff.mpr ⟨a1, a2, a3, fun h => h.1 (by simp)⟩, decide_eq_true hz]
          rfl
        · have hz2 : dif s t &&& bo = 0 := Classical.byContradiction (fun e => a4 ⟨hz, e⟩)
          have hbt : bo &&& t = bo := sub_iff.mpr (fun i hi => by
            have := and0_iff.mp hz2 i
            rw [tb_dif, sub_iff.mp hbs i hi] at this
            cases e : t.testBit i with
            | true => rfl
            | false => rw [e] at this; exact absurd ⟨rfl, hi⟩ this)
          rw [bth_iff.mpr ⟨a1, hbt, a3⟩, a2, Bool.true_and, if_pos rfl, sumB_0 (fun P hP => by rw [decide_eq_false hz, Bool.and_false, Bool.false_and]; rfl), cnt_free bo _ _ hz2]
          rfl
      · rw [if_neg ho]
        have n1 : (bthB may bo s t && t.testBit (lowN s)) = false := by
          cases e : bthB may bo s t && t.testBit (lowN s) with
          | false => rfl
          | true =>
            rw [Bool.and_eq_true] at e
            obtain ⟨a1, a2, a3⟩ := bth_iff.mp e.1
            refine absurd (okp_iff.mpr ⟨a1, e.2, a3, fun h => h.2 (and0_iff.mpr (fun i hi => ?_))⟩) ho
            rw [tb_dif, sub_iff.mp a2 i hi.2] at hi
            simp at hi
        rw [n1, if_neg (by decide), Nat.zero_add]
        refine (sumB_0 (fun P hP => if_neg (fun e => ?_))).symm
        rw [Bool.and_eq_true, Bool.and_eq_true, decide_eq_true_iff] at e
        obtain ⟨a1, a2, a3, _⟩ := okp_iff.mp e.1.1
        exact ho (okp_iff.mpr ⟨a1, a2, a3, fun h => h.1 e.1.2⟩)
    rw [sumB_congr L, sumB_plus, sumB_swap]
    -- the right side: the person with both holds the least, or not
    have R : ∀ P, P < 4096 → (if bthB may bo s P then cntP may 0 (k + 1) (dif s P) else 0) = (if bthB may bo s P && P.testBit (lowN s) then cntP may 0 (k + 1) (dif s P) else 0) + sumB (fun t => if okpB may 0 s t && decide (t &&& bo = 0) && bthB may bo (dif s t) P then cntP may 0 k (dif (dif s t) P) else 0) 4096 := by
      intro P hP
      by_cases hb2 : bthB may bo s P = true
      · obtain ⟨a1, a2, a3⟩ := bth_iff.mp hb2
        rw [if_pos hb2, hb2, Bool.true_and]
        cases hl : P.testBit (lowN s) with
        | true =>
          rw [if_pos rfl, sumB_0 (fun t ht => if_neg (fun e => by
            rw [Bool.and_eq_true, Bool.and_eq_true] at e
            have q1 := (okp_iff.mp e.1.1).2.1
            have q2 := sub_iff.mp (bth_iff.mp e.2).1 _ hl
            rw [tb_dif, q1] at q2
            simp at q2))]
          rfl
        | false =>
          rw [if_neg (by decide), Nat.zero_add]
          have hd0 : (dif s P).testBit (lowN s) = true := by rw [tb_dif, l1, hl]; rfl
          have hds : dif s P < 4096 := Nat.lt_of_le_of_lt (dif_le s P) hs
          have hlow : lowN (dif s P) = lowN s := low_uniq hds hd0 (fun j hj => by rw [tb_dif, l3 j hj]; rfl)
          rw [cnt_s (bit_ne0 hd0)]
          refine sumB_congr (fun t ht => ?_)
          have e : okpB may 0 (dif s P) t = (okpB may 0 s t && decide (t &&& bo = 0) && bthB may bo (dif s t) P) := by
            cases h1 : okpB may 0 (dif s P) t with
            | true =>
              obtain ⟨c1, c2, c3, _⟩ := okp_iff.mp h1
              rw [hlow] at c2
              have d1 : ∀ i, t.testBit i = true → s.testBit i = true ∧ P.testBit i = false := fun i hi => by
                have := sub_iff.mp c1 i hi
                rw [tb_dif, Bool.and_eq_true, Bool.not_eq_true'] at this
                exact this
              have o1 : okpB may 0 s t = true := okp_iff.mpr ⟨sub_iff.mpr (fun i hi => (d1 i hi).1), c2, c3, fun h => h.1 (by simp)⟩
              have o2 : t &&& bo = 0 := and0_iff.mpr (fun i hi => by
                have q1 := (d1 i hi.1).2
                rw [sub_iff.mp a2 i hi.2] at q1; cases q1)
              have o3 : bthB may bo (dif s t) P = true := bth_iff.mpr ⟨sub_iff.mpr (fun i hi => by
                rw [tb_dif, sub_iff.mp a1 i hi]
                cases e : t.testBit i with
                | false => rfl
                | true => have q1 := (d1 i e).2; rw [hi] at q1; cases q1), a2, a3⟩
              rw [o1, decide_eq_true o2, o3]; rfl
            | false =>
              cases h2 : okpB may 0 s t && decide (t &&& bo = 0) && bthB may bo (dif s t) P with
              | false => rfl
              | true =>
                rw [Bool.and_eq_true, Bool.and_eq_true, decide_eq_true_iff] at h2
                obtain ⟨c1, c2, c3, _⟩ := okp_iff.mp h2.1.1
                have d1 := (bth_iff.mp h2.2).1
                rw [okp_iff.mpr ⟨sub_iff.mpr (fun i hi => by
                  rw [tb_dif, sub_iff.mp c1 i hi]
                  cases e : P.testBit i with
                  | false => rfl
                  | true =>
                    have q1 := sub_iff.mp d1 i e
                    rw [tb_dif, hi] at q1
                    simp at q1), by rw [hlow]; exact c2, c3, fun h => h.1 (by simp)⟩] at h1
                cases h1
          rw [e, dif_dif]
      · rw [if_neg hb2, if_neg (fun e => hb2 (by rw [Bool.and_eq_true] at e; exact e.1)), Nat.zero_add]
        refine (sumB_0 (fun t ht => if_neg (fun e => ?_))).symm
        rw [Bool.and_eq_true, Bool.and_eq_true] at e
        obtain ⟨c1, c2, c3⟩ := bth_iff.mp e.2
        exact hb2 (bth_iff.mpr ⟨sub_trans c1 (dif_sub s t), c2, c3⟩)
    rw [sumB_congr R, sumB_plus]
end
