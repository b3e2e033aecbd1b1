/-! sums; sets of lines as numbers -/
theorem sumB_congr {f g : Nat → Nat} {n : Nat} (h : ∀ t, t < n → f t = g t) : sumB f n = sumB g n := by
  induction n with
  | zero => rfl
  | succ n ih => rw [sumB, sumB, ih (fun t ht => h t (by omega)), h n (by omega)]
theorem sumB_0 {f : Nat → Nat} {n : Nat} (h : ∀ t, t < n → f t = 0) : sumB f n = 0 := by
  induction n with
  | zero => rfl
  | succ n ih => rw [sumB, ih (fun t ht => h t (by omega)), h n (by omega)]
theorem sumB_ne {f : Nat → Nat} {n : Nat} (h : sumB f n ≠ 0) : ∃ t, t < n ∧ f t ≠ 0 := by
  apply Classical.byContradiction
  intro hc
  exact h (sumB_0 (fun t ht => Classical.byContradiction (fun e => hc ⟨t, ht, e⟩)))
theorem sumB_le {f g : Nat → Nat} {n : Nat} (h : ∀ t, t < n → f t ≤ g t) : sumB f n ≤ sumB g n := by
  induction n with
  | zero => exact Nat.le_refl _
  | succ n ih =>
    have h1 := ih (fun t ht => h t (by omega))
    have h2 := h n (by omega)
    rw [sumB, sumB]; omega
theorem sumB_plus (f g : Nat → Nat) (n : Nat) : sumB (fun t => f t + g t) n = sumB f n + sumB g n := by
  induction n with
  | zero => rfl
  | succ n ih => rw [sumB, sumB, sumB, ih]; omega
theorem sumB_mul (c : Nat) (f : Nat → Nat) (n : Nat) : sumB (fun t => c * f t) n = c * sumB f n := by
  induction n with
  | zero => rfl
  | succ n ih => rw [sumB, sumB, ih, Nat.mul_add]
theorem sumB_one {n t0 v : Nat} (h : t0 < n) : sumB (fun t => if t = t0 then v else 0) n = v := by
  induction n with
  | zero => omega
  | succ n ih =>
    rw [sumB]
    rcases Nat.lt_or_ge t0 n with h1 | h1
    · rw [ih h1, if_neg (by omega)]; omega
    · obtain rfl : t0 = n := by omega
      rw [sumB_0 (fun t ht => if_neg (by omega)), if_pos rfl]; omega
theorem sumB_swap (F : Nat → Nat → Nat) (m n : Nat) : sumB (fun t => sumB (fun u => F t u) n) m = sumB (fun u => sumB (fun t => F t u) m) n := by
  induction m with
  | zero => exact (sumB_0 (fun _ _ => rfl)).symm
  | succ m ih =>
    rw [sumB, ih, ← sumB_plus]
    rfl
theorem sumB_app (f : Nat → Nat) (a b : Nat) : sumB f (a + b) = sumB f a + sumB (fun u => f (a + u)) b := by
  induction b with
  | zero => rfl
  | succ b ih => rw [← Nat.add_assoc, sumB, ih, sumB, Nat.add_assoc]
theorem sumB_ad {f f' : Nat → Nat} {n t0 v : Nat} (h0 : t0 < n) (h : ∀ t, t < n → f' t = f t + if t = t0 then v else 0) : sumB f' n = sumB f n + v := by
  rw [sumB_congr h, sumB_plus, sumB_one h0]
theorem tb_dif (s t i : Nat) : (dif s t).testBit i = (s.testBit i && !t.testBit i) := by
  rw [dif, Nat.testBit_xor, Nat.testBit_and]
  cases s.testBit i <;> cases t.testBit i <;> rfl
theorem sub_iff {t s : Nat} : t &&& s = t ↔ ∀ i, t.testBit i = true → s.testBit i = true := by
  constructor
  · intro h i hi
    have h2 := congrArg (fun x => Nat.testBit x i) h
    simp only [Nat.testBit_and, hi, Bool.true_and] at h2
    exact h2
  · intro h
    apply Nat.eq_of_testBit_eq
    intro i
    rw [Nat.testBit_and]
    cases hi : t.testBit i with
    | false => rfl
    | true => rw [h i hi]; rfl
theorem sub_le {t s : Nat} (h : t &&& s = t) : t ≤ s := by rw [← h]; exact Nat.and_le_right
theorem dif_sub (s t : Nat) : dif s t &&& s = dif s t := sub_iff.mpr (fun i hi => by rw [tb_dif, Bool.and_eq_true] at hi; exact hi.1)
theorem dif_le (s t : Nat) : dif s t ≤ s := sub_le (dif_sub s t)
theorem dif_lt {s t i : Nat} (h1 : s.testBit i = true) (h2 : t.testBit i = true) : dif s t < s := by
  rcases Nat.lt_or_ge (dif s t) s with h | h
  · exact h
  · exfalso
    have e : dif s t = s := Nat.le_antisymm (dif_le s t) h
    have := tb_dif s t i
    rw [e, h1, h2] at this
    cases this
theorem sub_trans {a b c : Nat} (h1 : a &&& b = a) (h2 : b &&& c = b) : a &&& c = a := sub_iff.mpr (fun i hi => sub_iff.mp h2 i (sub_iff.mp h1 i hi))
theorem sub_lt {t s n : Nat} (h : t &&& s = t) (hs : s < n) : t < n := Nat.lt_of_le_of_lt (sub_le h) hs
theorem dif_0 (s : Nat) : dif s 0 = s := by simp [dif]
theorem dif_self (s : Nat) : dif s s = 0 := by simp [dif]
theorem dif_eq0 {s t : Nat} (h : dif s t = 0) (h2 : t &&& s = t) : t = s := by
  apply Nat.eq_of_testBit_eq
  intro i
  have h3 := tb_dif s t i
  rw [h, Nat.zero_testBit] at h3
  cases ht : t.testBit i with
  | true => exact (sub_iff.mp h2 i ht).symm
  | false => rw [ht] at h3; cases hs : s.testBit i with
    | false => rfl
    | true => rw [hs] at h3; cases h3
theorem dif_dif (s a b : Nat) : dif (dif s a) b = dif (dif s b) a := by
  apply Nat.eq_of_testBit_eq
  intro i
  rw [tb_dif, tb_dif, tb_dif, tb_dif]
  cases s.testBit i <;> cases a.testBit i <;> cases b.testBit i <;> rfl
theorem fnd_spec (p : Nat → Bool) : ∀ m i, i ≤ fndB p m i ∧ fndB p m i ≤ i + m ∧ (∀ j, i ≤ j → j < fndB p m i → p j = false) ∧ (fndB p m i < i + m → p (fndB p m i) = true) := by
  intro m
  induction m with
  | zero =>
    intro i
    rw [fndB]
    exact ⟨Nat.le_refl _, Nat.le_refl _, fun j h1 h2 => absurd h2 (by omega), fun h => absurd h (by omega)⟩
  | succ m ih =>
    intro i
    rw [fndB]
    by_cases hp : p i = true
    · rw [if_pos hp]
      exact ⟨Nat.le_refl _, by omega, fun j h1 h2 => absurd h2 (by omega), fun _ => hp⟩
    · rw [if_neg hp]
      obtain ⟨h1, h2, h3, h4⟩ := ih (i + 1)
      refine ⟨by omega, by omega, fun j j1 j2 => ?_, fun h => h4 (by omega)⟩
      rcases Nat.lt_or_ge i j with h5 | h5
      · exact h3 j (by omega) j2
      · obtain rfl : j = i := by omega
        exact Bool.not_eq_true _ ▸ hp
theorem big_bit {s i : Nat} (h : s < 4096) (hi : 12 ≤ i) : s.testBit i = false := Nat.testBit_lt_two_pow (Nat.lt_of_lt_of_le (show s < 2 ^ 12 from h) (Nat.pow_le_pow_right (by decide) hi))
theorem bit_lt {s i : Nat} (h : s < 4096) (hi : s.testBit i = true) : i < 12 := by
  rcases Nat.lt_or_ge i 12 with h1 | h1
  · exact h1
  · rw [big_bit h h1] at hi; cases hi
theorem low_spec {s : Nat} (h0 : s ≠ 0) (h : s < 4096) : s.testBit (lowN s) = true ∧ lowN s < 12 ∧ ∀ j, j < lowN s → s.testBit j = false := by
  obtain ⟨_, h2, h3, h4⟩ := fnd_spec (fun i => s.testBit i) 12 0
  have hl : lowN s < 12 := by
    rcases Nat.lt_or_ge (lowN s) 12 with h5 | h5
    · exact h5
    · exfalso
      apply h0
      apply Nat.eq_of_testBit_eq
      intro i
      rw [Nat.zero_testBit]
      rcases Nat.lt_or_ge i 12 with h6 | h6
      · exact h3 i (Nat.zero_le _) (Nat.lt_of_lt_of_le h6 h5)
      · exact big_bit h h6
  exact ⟨h4 (by rw [Nat.zero_add]; exact hl), hl, fun j hj => h3 j (Nat.zero_le _) hj⟩
theorem bit_ne0 {s i : Nat} (h : s.testBit i = true) : s ≠ 0 := by
  rintro rfl
  rw [Nat.zero_testBit] at h; cases h
theorem low_uniq {s l : Nat} (h : s < 4096) (h1 : s.testBit l = true) (h2 : ∀ j, j < l → s.testBit j = false) : lowN s = l := by
  obtain ⟨a1, a2, a3⟩ := low_spec (bit_ne0 h1) h
  rcases Nat.lt_trichotomy (lowN s) l with h5 | h5 | h5
  · rw [h2 _ h5] at a1; cases a1
  · exact h5
  · rw [a3 _ h5] at h1; cases h1
theorem clq_iff {may : Nat → Nat → Bool} {t : Nat} : clqB may t = true ↔ ∀ x y, x < 12 → y < 12 → x < y → t.testBit x = true → t.testBit y = true → may x y = true := by
  unfold clqB
  rw [Bool.not_eq_true']
  constructor
  · intro h x y hx hy hxy t1 t2
    cases hm : may x y with
    | true => rfl
    | false =>
      exfalso
      rw [anyB_yes (p := fun x => anyB (fun y => t.testBit x && t.testBit y && decide (x < y) && !may x y) 12) hx (anyB_yes (p := fun y => t.testBit x && t.testBit y && decide (x < y) && !may x y) hy (by simp [t1, t2, hxy, hm]))] at h
      cases h
  · intro h
    apply anyB_no
    intro x hx
    apply anyB_no
    intro y hy
    cases t1 : t.testBit x with
    | false => rfl
    | true =>
      cases t2 : t.testBit y with
      | false => rfl
      | true =>
        by_cases hxy : x < y
        · rw [h x y hx hy hxy t1 t2]; simp
        · simp [hxy]
theorem clq_sub {may : Nat → Nat → Bool} {t s : Nat} (h : t &&& s = t) (hs : clqB may s = true) : clqB may t = true := clq_iff.mpr (fun x y hx hy hxy t1 t2 => clq_iff.mp hs x y hx hy hxy (sub_iff.mp h x t1) (sub_iff.mp h y t2))
/-- the rest of a set, without its least -/
def rsN (s : Nat) : Nat := dif s (2 ^ lowN s)
theorem tb_rs (s i : Nat) : (rsN s).testBit i = (s.testBit i && decide (i ≠ lowN s)) := by
  rw [rsN, tb_dif, Nat.testBit_two_pow]
  by_cases h : lowN s = i
  · subst h; simp
  · simp [h, Ne.symm h]
theorem rs_lt {s : Nat} (h0 : s ≠ 0) (h : s < 4096) : rsN s < s := dif_lt (low_spec h0 h).1 Nat.testBit_two_pow_self
theorem rs_low {s : Nat} (h0 : s ≠ 0) (h : s < 4096) {i : Nat} (hi : (rsN s).testBit i = true) : lowN s < i ∧ i < 12 ∧ s.testBit i = true := by
  rw [tb_rs, Bool.and_eq_true, decide_eq_true_iff] at hi
  obtain ⟨a1, a2, a3⟩ := low_spec h0 h
  refine ⟨?_, bit_lt h hi.1, hi.1⟩
  rcases Nat.lt_trichotomy (lowN s) i with h5 | h5 | h5
  · exact h5
  · exact absurd h5.symm hi.2
  · rw [a3 _ h5] at hi; exact absurd hi.1 (by decide)
theorem clq_rec {may : Nat → Nat → Bool} {s : Nat} (h0 : s ≠ 0) (h : s < 4096) : clqB may s = true ↔ clqB may (rsN s) = true ∧ ∀ y, (rsN s).testBit y = true → may (lowN s) y = true := by
  obtain ⟨a1, a2, a3⟩ := low_spec h0 h
  constructor
  · intro hc
    refine ⟨clq_sub (dif_sub _ _) hc, fun y hy => ?_⟩
    obtain ⟨b1, b2, b3⟩ := rs_low h0 h hy
    exact clq_iff.mp hc _ y a2 b2 b1 a1 b3
  · rintro ⟨h1, h2⟩
    refine clq_iff.mpr (fun x y hx hy hxy t1 t2 => ?_)
    by_cases e : x = lowN s
    · subst e
      refine h2 y ?_
      rw [tb_rs, t2, decide_eq_true (by omega)]; rfl
    · refine clq_iff.mp h1 x y hx hy hxy ?_ ?_
      · rw [tb_rs, t1, decide_eq_true e]; rfl
      · rw [tb_rs, t2, decide_eq_true ?_]
        · rfl
        · intro e2
          rw [a3 x (by omega)] at t1; cases t1
theorem clq_1 {may : Nat → Nat → Bool} (l : Nat) : clqB may (2 ^ l) = true := clq_iff.mpr (fun x y hx hy hxy t1 t2 => by
  rw [Nat.testBit_two_pow, decide_eq_true_iff] at t1 t2
  omega)
theorem okp_iff {may : Nat → Nat → Bool} {bo s t : Nat} : okpB may bo s t = true ↔ t &&& s = t ∧ t.testBit (lowN s) = true ∧ clqB may t = true ∧ ¬ (t &&& bo ≠ 0 ∧ dif s t &&& bo ≠ 0) := by
  simp only [okpB, Bool.and_eq_true, decide_eq_true_iff, Bool.not_eq_true', Bool.and_eq_false_iff, decide_eq_false_iff_not, and_assoc]
  constructor
  · rintro ⟨h1, h2, h3, h4⟩
    exact ⟨h1, h2, h3, fun h => by rcases h4 with h4 | h4; exact h4 h.1; exact h4 h.2⟩
  · rintro ⟨h1, h2, h3, h4⟩
    refine ⟨h1, h2, h3, ?_⟩
    by_cases h5 : t &&& bo ≠ 0
    · exact Or.inr (fun h6 => h4 ⟨h5, h6⟩)
    · exact Or.inl h5
/-- the next set below, of those within f -/
theorem below : ∀ (n v f x : Nat), v ≤ n → v &&& f = v → x &&& f = x → x < v → x ≤ (v - 1) &&& f := by
  intro n
  induction n with
  | zero => intro v f x hv _ _ hx; omega
  | succ n ih =>
    intro v f x hv h1 h2 hx
    have b1 : v / 2 &&& f / 2 = v / 2 := by rw [← Nat.and_div_two, h1]
    have b2 : x / 2 &&& f / 2 = x / 2 := by rw [← Nat.and_div_two, h2]
    have d1 : ((v - 1) &&& f) / 2 = (v - 1) / 2 &&& f / 2 := Nat.and_div_two
    have x0 : x % 2 = 1 → f % 2 = 1 := fun e => by
      have := sub_iff.mp h2 0 (by rw [Nat.testBit_zero]; exact decide_eq_true e)
      rw [Nat.testBit_zero, decide_eq_true_iff] at this
      exact this
    have m0 : (v - 1) % 2 = 1 → f % 2 = 1 → ((v - 1) &&& f) % 2 = 1 := fun e1 e2 => by
      have : ((v - 1) &&& f).testBit 0 = true := by rw [Nat.testBit_and, Nat.testBit_zero, Nat.testBit_zero, e1, e2]; rfl
      rw [Nat.testBit_zero, decide_eq_true_iff] at this
      exact this
    rcases Nat.mod_two_eq_zero_or_one v with e | e
    · have hd : (v - 1) / 2 = v / 2 - 1 := by omega
      have hy := ih (v / 2) (f / 2) (x / 2) (by omega) b1 b2 (by omega)
      rw [hd] at d1
      rw [← d1] at hy
      have e1 : (v - 1) % 2 = 1 := by omega
      rcases Nat.mod_two_eq_zero_or_one x with ex | ex
      · omega
      · have := m0 e1 (x0 ex)
        omega
    · have hd : (v - 1) / 2 = v / 2 := by omega
      rw [hd, b1] at d1
      omega
theorem below_sub (v f : Nat) : ((v - 1) &&& f) &&& f = (v - 1) &&& f := sub_iff.mpr (fun i hi => by rw [Nat.testBit_and, Bool.and_eq_true] at hi; exact hi.2)
theorem below_lt {v f : Nat} (h : 0 < v) : (v - 1) &&& f < v := Nat.lt_of_le_of_lt Nat.and_le_left (by omega)
