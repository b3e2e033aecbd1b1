/-! read: tokens -/
def spB (c : Nat) : Bool := decide (c = 32 ∨ c = 10)
def leB (c : Nat) : Bool := decide (97 ≤ c ∧ c ≤ 122)
def fiB (c : Nat) : Bool := decide (48 ≤ c ∧ c ≤ 57)
def skF (bb : Nat → Nat) (n e : Nat) : Nat := fndB (fun i => !spB (bb i)) (n - e) e
def enF (p : Nat → Bool) (bb : Nat → Nat) (n s : Nat) : Nat := fndB (fun i => !p (bb i)) (n - s) s
/-- the token that begins at s: its kind, start, end -/
def tokS (bb : Nat → Nat) (n s : Nat) : Nat × Nat × Nat := if n ≤ s then (0, s, s) else if leB (bb s) = true then (1, s, enF leB bb n s) else if fiB (bb s) = true then (if enF fiB bb n s - s ≤ 4 then 2 else 4, s, enF fiB bb n s) else (if bb s = 59 then 3 else 4, s, s + 1)
def tokF (bb : Nat → Nat) (n e : Nat) : Nat × Nat × Nat := tokS bb n (skF bb n e)
def vlF (bb : Nat → Nat) (s : Nat) : Nat → Nat
  | 0 => 0
  | m + 1 => 10 * vlF bb s m + (bb (s + m) - 48)
def valF (bb : Nat → Nat) (s e : Nat) : Nat := vlF bb s (e - s)
theorem fnd_to {p : Nat → Bool} {m i z : Nat} (h : ∀ t, i ≤ t → t < z → p t = false) (hz : z < i + m → p z = true) (h1 : i ≤ z) (h2 : z ≤ i + m) : fndB p m i = z := by
  obtain ⟨a1, a2, a3, a4⟩ := fnd_spec p m i
  rcases Nat.lt_trichotomy (fndB p m i) z with h5 | h5 | h5
  · have := a4 (by omega)
    rw [h _ a1 h5] at this; cases this
  · exact h5
  · have := a3 z h1 h5
    rw [hz (by omega)] at this; cases this
theorem sk_le {bb : Nat → Nat} {n e : Nat} (h : e ≤ n) : e ≤ skF bb n e ∧ skF bb n e ≤ n := by
  obtain ⟨a1, a2, _⟩ := fnd_spec (fun i => !spB (bb i)) (n - e) e
  exact ⟨a1, by unfold skF; omega⟩
theorem en_le {p : Nat → Bool} {bb : Nat → Nat} {n s : Nat} (h : s ≤ n) : s ≤ enF p bb n s ∧ enF p bb n s ≤ n := by
  obtain ⟨a1, a2, _⟩ := fnd_spec (fun i => !p (bb i)) (n - s) s
  exact ⟨a1, by unfold enF; omega⟩
theorem en_in {p : Nat → Bool} {bb : Nat → Nat} {n s i : Nat} (h1 : s ≤ i) (h2 : i < enF p bb n s) : p (bb i) = true := by
  have := (fnd_spec (fun i => !p (bb i)) (n - s) s).2.2.1 i h1 h2
  simpa using this
theorem tok_le {bb : Nat → Nat} {n e : Nat} (h : e ≤ n) : (tokF bb n e).2.1 ≤ (tokF bb n e).2.2 ∧ (tokF bb n e).2.2 ≤ n ∧ e ≤ (tokF bb n e).2.1 ∧ ((tokF bb n e).1 ≠ 0 → (tokF bb n e).2.1 < (tokF bb n e).2.2) := by
  obtain ⟨k1, k2⟩ := sk_le (bb := bb) h
  unfold tokF tokS
  by_cases h1 : n ≤ skF bb n e
  · rw [if_pos h1]
    exact ⟨Nat.le_refl _, k2, k1, fun h => absurd rfl h⟩
  · rw [if_neg h1]
    have hstr : ∀ p : Nat → Bool, p (bb (skF bb n e)) = true → skF bb n e < enF p bb n (skF bb n e) := by
      intro p hp
      have g1 := (en_le (p := p) (bb := bb) k2).1
      rcases Nat.lt_or_ge (skF bb n e) (enF p bb n (skF bb n e)) with h5 | h5
      · exact h5
      · have e1 : enF p bb n (skF bb n e) = skF bb n e := by omega
        have := (fnd_spec (fun i => !p (bb i)) (n - skF bb n e) (skF bb n e)).2.2.2 (by show enF p bb n (skF bb n e) < _; omega)
        have h6 : (!p (bb (enF p bb n (skF bb n e)))) = true := this
        rw [e1, hp] at h6; cases h6
    by_cases h2 : leB (bb (skF bb n e)) = true
    · rw [if_pos h2]
      exact ⟨(en_le k2).1, (en_le k2).2, k1, fun _ => hstr _ h2⟩
    · rw [if_neg h2]
      by_cases h3 : fiB (bb (skF bb n e)) = true
      · rw [if_pos h3]
        exact ⟨(en_le k2).1, (en_le k2).2, k1, fun _ => hstr _ h3⟩
      · rw [if_neg h3]
        exact ⟨Nat.le_succ _, Nat.lt_of_not_le h1, k1, fun _ => Nat.lt_succ_self _⟩
theorem tok_let {bb : Nat → Nat} {n e i : Nat} (h : (tokF bb n e).1 = 1) (h1 : (tokF bb n e).2.1 ≤ i) (h2 : i < (tokF bb n e).2.2) : leB (bb i) = true := by
  unfold tokF tokS at h h1 h2
  by_cases c1 : n ≤ skF bb n e
  · rw [if_pos c1] at h; cases h
  · rw [if_neg c1] at h h1 h2
    by_cases c2 : leB (bb (skF bb n e)) = true
    · rw [if_pos c2] at h1 h2
      exact en_in h1 h2
    · rw [if_neg c2] at h
      by_cases c3 : fiB (bb (skF bb n e)) = true
      · rw [if_pos c3] at h
        dsimp only at h
        split at h <;> omega
      · rw [if_neg c3] at h
        dsimp only at h
        split at h <;> omega
theorem tok_fig {bb : Nat → Nat} {n e : Nat} (h : (tokF bb n e).1 = 2) : (tokF bb n e).2.2 - (tokF bb n e).2.1 ≤ 4 ∧ ∀ i, (tokF bb n e).2.1 ≤ i → i < (tokF bb n e).2.2 → fiB (bb i) = true := by
  unfold tokF tokS at h ⊢
  by_cases c1 : n ≤ skF bb n e
  · rw [if_pos c1] at h; cases h
  · rw [if_neg c1] at h ⊢
    by_cases c2 : leB (bb (skF bb n e)) = true
    · rw [if_pos c2] at h; cases h
    · rw [if_neg c2] at h ⊢
      by_cases c3 : fiB (bb (skF bb n e)) = true
      · rw [if_pos c3] at h ⊢
        dsimp only at h ⊢
        refine ⟨?_, fun i h1 h2 => en_in h1 h2⟩
        split at h
        · assumption
        · omega
      · rw [if_neg c3] at h
        dsimp only at h
        split at h <;> omega
theorem vl_lt {bb : Nat → Nat} {s : Nat} : ∀ m, (∀ i, s ≤ i → i < s + m → fiB (bb i) = true) → vlF bb s m < 10 ^ m := by
  intro m
  induction m with
  | zero => intro _; exact (by decide : 0 < 10 ^ 0)
  | succ m ih =>
    intro h
    have h1 := ih (fun i a b => h i a (by omega))
    have h2 := h (s + m) (by omega) (by omega)
    rw [fiB, decide_eq_true_iff] at h2
    rw [vlF, Nat.pow_succ]
    omega
theorem val_lt {bb : Nat → Nat} {n e : Nat} (h : (tokF bb n e).1 = 2) : valF bb (tokF bb n e).2.1 (tokF bb n e).2.2 < 10000 := by
  obtain ⟨h1, h2⟩ := tok_fig h
  have h3 := vl_lt (bb := bb) (s := (tokF bb n e).2.1) ((tokF bb n e).2.2 - (tokF bb n e).2.1) (fun i a b => h2 i a (by omega))
  have h4 : 10 ^ ((tokF bb n e).2.2 - (tokF bb n e).2.1) ≤ 10 ^ 4 := Nat.pow_le_pow_right (by decide) h1
  unfold valF
  omega
/-- a byte of the class -/
def sb (b : Nat) : Int32 := (nI b).toInt8.toInt32
theorem sb_sp : ∀ b, b < 256 → (sb b = 32 ↔ b = 32) ∧ (sb b = 10 ↔ b = 10) ∧ (sb b = 59 ↔ b = 59) := by decide +kernel
theorem sb_le : ∀ b, b < 256 → ((sb b < 97 ∨ 122 < sb b) ↔ leB b = false) := by decide +kernel
theorem sb_fi : ∀ b, b < 256 → ((sb b < 48 ∨ 57 < sb b) ↔ fiB b = false) := by decide +kernel
theorem sb_pos : ∀ b, b < 256 → (leB b = true ∨ fiB b = true) → sb b = nI b := by decide +kernel
theorem nb_le : ∀ b, b < 256 → ((nI b < 97 ∨ 122 < nI b) ↔ leB b = false) := by decide +kernel
theorem nb_fi : ∀ b, b < 256 → ((nI b < 48 ∨ 57 < nI b) ↔ fiB b = false) := by decide +kernel
def TkC (_bb : Nat → Nat) (n : Nat) (f : Nat → Int32) (t : Nat × Nat × Nat) : Prop := f 1 = nI n ∧ f 2 = nI t.1 ∧ f 3 = nI t.2.1 ∧ f 4 = nI t.2.2
section
variable {G : GV} {k n : Nat} {M : Mem} {bb : Nat → Nat}
theorem c_isLetterC {q : Int32 → Mem → Prop} {b : Nat} (hb : b < 256) (h : q (b01 (leB b)) M) : Ci shC G mX10_isLetter k [.int (sb b)] M q := by
  have hs := sb_le b hb
  cases hl : leB b with
  | false =>
    rw [hl] at h
    refine wp_X10_isLetter ⟨fun _ => h, fun c => ⟨fun _ => h, fun c2 => ?_⟩⟩
    rcases hs.mpr hl with h5 | h5
    · exact absurd h5 c
    · exact absurd h5 c2
  | true =>
    rw [hl] at h hs
    refine wp_X10_isLetter ⟨fun c => ?_, fun _ => ⟨fun c => ?_, fun _ => h⟩⟩
    · exact absurd (hs.mp (Or.inl c)) (by decide)
    · exact absurd (hs.mp (Or.inr c)) (by decide)
theorem c_isFigureC {q : Int32 → Mem → Prop} {b : Nat} (hb : b < 256) (h : q (b01 (fiB b)) M) : Ci shC G mX10_isFigure k [.int (sb b)] M q := by
  have hs := sb_fi b hb
  cases hl : fiB b with
  | false =>
    rw [hl] at h
    refine wp_X10_isFigure ⟨fun _ => h, fun c => ⟨fun _ => h, fun c2 => ?_⟩⟩
    rcases hs.mpr hl with h5 | h5
    · exact absurd h5 c
    · exact absurd h5 c2
  | true =>
    rw [hl] at h hs
    refine wp_X10_isFigure ⟨fun c => ?_, fun _ => ⟨fun c => ?_, fun _ => h⟩⟩
    · exact absurd (hs.mp (Or.inl c)) (by decide)
    · exact absurd (hs.mp (Or.inr c)) (by decide)
theorem c_107 {q : Mem → Prop} {s : Nat} (hn : n ≤ 600) (hb : ∀ i, i < n → bb i < 256 ∧ M.1 16 i = sb (bb i)) (hq : ∀ f, TkC bb n f (1, s, enF leB bb n s) → q (aset M 2 f)) : ∀ m e f, e + m = n → s ≤ e → (∀ i, s ≤ i → i < e → leB (bb i) = true) → f 1 = nI n → f 2 = nI 1 → f 3 = nI s → f 4 = nI e → V shC G mX10_step (k + 2) 107 [(0, .ref (G.2.1 2))] [] (aset M 2 f) (Qv q) := by
  intro m
  induction m with
  | zero =>
    intro e f he hse hl f1 f2 f3 f4
    refine wp_X10_step_107 ⟨fun _ => hq f ⟨f1, f2, f3, ?_⟩, fun c => absurd ?_ c⟩
    · rw [f4, show enF leB bb n s = e from fnd_to (fun t a b => by rw [hl t a b]; rfl) (fun h => by omega) hse (by omega)]
    · rw [show (aset M 2 f).1 2 1 = nI n from f1, show (aset M 2 f).1 2 4 = nI e from f4]
      exact nI_le (by omega) (by omega)
  | succ m ih =>
    intro e f he hse hl f1 f2 f3 f4
    obtain ⟨b1, b2⟩ := hb e (by omega)
    refine wp_X10_step_107 ⟨fun c => absurd c ?_, fun _ => ?_⟩
    · rw [show (aset M 2 f).1 2 1 = nI n from f1, show (aset M 2 f).1 2 4 = nI e from f4]
      exact nI_ge (by omega) (by omega)
    · rw [show (aset M 2 f).1 2 4 = nI e from f4, ix_nI (by omega), show (aset M 2 f).1 16 e = sb (bb e) from b2]
      refine ⟨vp_in_nI (by omega) (by decide), c_isLetterC b1 ?_⟩
      rw [mset_aset, show (aset M 2 f).1 2 4 = nI e from f4, nI_1]
      cases hc : leB (bb e) with
      | false =>
        refine k0 (hq f ⟨f1, f2, f3, ?_⟩)
        rw [f4, show enF leB bb n s = e from fnd_to (fun t a b => by rw [hl t a b]; rfl) (fun h => by rw [hc]; rfl) hse (by omega)]
      | true =>
        refine k1 (ih (e + 1) _ (by omega) (by omega) (fun i a b => ?_) ?_ ?_ ?_ (upd_at _ _ _))
        · rcases Nat.lt_or_ge i e with h5 | h5
          · exact hl i a h5
          · obtain rfl : i = e := by omega
            exact hc
        · rw [upd_ne _ _ (by decide)]; exact f1
        · rw [upd_ne _ _ (by decide)]; exact f2
        · rw [upd_ne _ _ (by decide)]; exact f3
theorem c_number {q : Int32 → Mem → Prop} {s e : Nat} (hn : n ≤ 600) (hse : s ≤ e) (hen : e ≤ n) (hb : ∀ i, i < n → bb i < 256 ∧ M.1 16 i = sb (bb i)) (hf : ∀ i, s ≤ i → i < e → fiB (bb i) = true) (f1 : M.1 2 1 = nI n) (f3 : M.1 2 3 = nI s) (f4 : M.1 2 4 = nI e) (hq : q (nI (valF bb s e)) M) : Ci shC G mX10_number k [.ref (G.2.1 2)] M q := by
  have loop : ∀ m j, j + m = e - s → V shC G mX10_number k 7 [(0, .ref (G.2.1 2)), (1, .int (nI (vlF bb s j))), (2, .int (nI (s + j)))] [] M (Qi q) := by
    intro m
    induction m with
    | zero =>
      intro j hj
      refine wp_X10_number_7 ⟨fun _ => ?_, fun c => absurd ?_ c⟩
      · rw [valF, show e - s = j by omega] at hq; exact hq
      · rw [f4]; exact nI_le (by omega) (by omega)
    | succ m ih =>
      intro j hj
      obtain ⟨b1, b2⟩ := hb (s + j) (by omega)
      have hfi := hf (s + j) (by omega) (by omega)
      have h48 : 48 ≤ bb (s + j) := by rw [fiB, decide_eq_true_iff] at hfi; exact hfi.1
      have l1 := ih (j + 1) (by omega)
      refine wp_X10_number_7 ⟨fun c => absurd c ?_, fun _ => ⟨fun c => absurd c ?_, fun _ => ⟨vp_in_nI (by omega) (by decide), ?_⟩⟩⟩
      · rw [f4]; exact nI_ge (by omega) (by omega)
      · rw [f1]; exact nI_ge (by omega) (by omega)
      · rw [ix_nI (by omega), b2, sb_pos _ b1 (Or.inr hfi), nI_10, nI_add, nI_1, show nI (10 * vlF bb s j + bb (s + j)) - 48 = nI (10 * vlF bb s j + bb (s + j) - 48) from nI_sub (a := 10 * vlF bb s j + bb (s + j)) (b := 48) (by omega)]
        rw [vlF, show 10 * vlF bb s j + (bb (s + j) - 48) = 10 * vlF bb s j + bb (s + j) - 48 by omega] at l1
        exact l1
  refine wp_X10_number ?_
  rw [f3]
  exact loop (e - s) 0 (by omega)
theorem c_161 {q : Mem → Prop} {s : Nat} (hn : n ≤ 600) (hb : ∀ i, i < n → bb i < 256 ∧ M.1 16 i = sb (bb i)) (hq : ∀ f, TkC bb n f (if enF fiB bb n s - s ≤ 4 then 2 else 4, s, enF fiB bb n s) → q (aset M 2 f)) : ∀ m e f, e + m = n → s ≤ e → (∀ i, s ≤ i → i < e → fiB (bb i) = true) → f 1 = nI n → f 3 = nI s → f 4 = nI e → V shC G mX10_step (k + 2) 161 [(0, .ref (G.2.1 2))] [] (aset M 2 f) (Qv q) := by
  have fin : ∀ e f, e = enF fiB bb n s → s ≤ e → e ≤ n → f 1 = nI n → f 3 = nI s → f 4 = nI e → ((4 < ((aset M 2 f).1 2 4 - (aset M 2 f).1 2 3) → q (mset (aset M 2 f) 2 2 4)) ∧ (¬ 4 < ((aset M 2 f).1 2 4 - (aset M 2 f).1 2 3) → q (mset (aset M 2 f) 2 2 2))) := by
    intro e f hee hse hen f1 f3 f4
    rw [show (aset M 2 f).1 2 4 = nI e from f4, show (aset M 2 f).1 2 3 = nI s from f3, nI_sub hse, mset_aset, mset_aset]
    rw [← hee] at hq
    refine ⟨fun c => ?_, fun c => ?_⟩
    · have h4 := (nI_ltI (a := 4) (by omega) (by omega)).mp c
      rw [if_neg (by omega)] at hq
      refine hq _ ⟨?_, ?_, ?_, ?_⟩
      · rw [upd_ne _ _ (by decide)]; exact f1
      · rw [upd_at]; rfl
      · rw [upd_ne _ _ (by decide)]; exact f3
      · rw [upd_ne _ _ (by decide)]; exact f4
    · have h4 : ¬ 4 < e - s := fun e5 => c (nI_lt (a := 4) e5 (by omega))
      rw [if_pos (by omega)] at hq
      refine hq _ ⟨?_, ?_, ?_, ?_⟩
      · rw [upd_ne _ _ (by decide)]; exact f1
      · rw [upd_at]; rfl
      · rw [upd_ne _ _ (by decide)]; exact f3
      · rw [upd_ne _ _ (by decide)]; exact f4
  intro m
  induction m with
  | zero =>
    intro e f he hse hl f1 f3 f4
    refine wp_X10_step_161 ⟨fun _ => fin e f ?_ hse (by omega) f1 f3 f4, fun c => absurd ?_ c⟩
    · exact (fnd_to (fun t a b => by rw [hl t a b]; rfl) (fun h => by omega) hse (by omega)).symm
    · rw [show (aset M 2 f).1 2 1 = nI n from f1, show (aset M 2 f).1 2 4 = nI e from f4]
      exact nI_le (by omega) (by omega)
  | succ m ih =>
    intro e f he hse hl f1 f3 f4
    obtain ⟨b1, b2⟩ := hb e (by omega)
    refine wp_X10_step_161 ⟨fun c => absurd c ?_, fun _ => ?_⟩
    · rw [show (aset M 2 f).1 2 1 = nI n from f1, show (aset M 2 f).1 2 4 = nI e from f4]
      exact nI_ge (by omega) (by omega)
    · refine ⟨by rw [show (aset M 2 f).1 2 4 = nI e from f4]; exact vp_in_nI (by omega) (by decide), ?_⟩
      rw [show (aset M 2 f).1 16 (ix ((aset M 2 f).1 2 4)) = sb (bb e) from by rw [show (aset M 2 f).1 2 4 = nI e from f4, ix_nI (by omega)]; exact b2]
      refine c_isFigureC b1 ?_
      cases hc : fiB (bb e) with
      | false =>
        refine k0 (fin e f ?_ hse (by omega) f1 f3 f4)
        exact (fnd_to (fun t a b => by rw [hl t a b]; rfl) (fun h => by rw [hc]; rfl) hse (by omega)).symm
      | true =>
        refine k1 ?_
        rw [mset_aset, show (aset M 2 f).1 2 4 = nI e from f4, nI_1]
        refine ih (e + 1) _ (by omega) (by omega) (fun i a b => ?_) ?_ ?_ (upd_at _ _ _)
        · rcases Nat.lt_or_ge i e with h5 | h5
          · exact hl i a h5
          · obtain rfl : i = e := by omega
            exact hc
        · rw [upd_ne _ _ (by decide)]; exact f1
        · rw [upd_ne _ _ (by decide)]; exact f3
theorem c_stepC {q : Mem → Prop} {e : Nat} {f : Nat → Int32} (hn : n ≤ 600) (he : e ≤ n) (hb : ∀ i, i < n → bb i < 256 ∧ M.1 16 i = sb (bb i)) (f1 : f 1 = nI n) (f4 : f 4 = nI e) (hq : ∀ f, TkC bb n f (tokF bb n e) → q (aset M 2 f)) : Cv shC G mX10_step (k + 2) [.ref (G.2.1 2)] (aset M 2 f) q := by
  -- behind what is skipped
  have post : ∀ s f, s = skF bb n e → s ≤ n → f 1 = nI n → f 3 = nI s → ((((aset M 2 f).1 2 3) < ((aset M 2 f).1 2 1) → vp_in ((aset M 2 f).1 2 3) 600 ∧ Ci shC G mX10_isLetter (k + 1) [.int ((aset M 2 f).1 16 (ix ((aset M 2 f).1 2 3)))] (mset (aset M 2 f) 2 4 ((aset M 2 f).1 2 3)) (fun x1 M1 => ((x1 = 0 → vp_in (M1.1 2 3) 600 ∧ Ci shC G mX10_isFigure (k + 1) [.int (M1.1 16 (ix (M1.1 2 3)))] M1 (fun x2 M2 => ((x2 = 0 → vp_in (M2.1 2 3) 600 ∧ (((M2.1 16 (ix (M2.1 2 3))) ≠ 59 → q (mset (mset M2 2 2 4) 2 4 ((M2.1 2 3) + 1))) ∧ ((M2.1 16 (ix (M2.1 2 3))) = 59 → q (mset (mset M2 2 2 3) 2 4 ((M2.1 2 3) + 1))))) ∧ (¬ x2 = 0 → V shC G mX10_step (k + 2) 161 [(0, .ref (G.2.1 2))] [] M2 (Qv q))))) ∧ (¬ x1 = 0 → V shC G mX10_step (k + 2) 107 [(0, .ref (G.2.1 2))] [] (mset M1 2 2 1) (Qv q))))) ∧ (¬ ((aset M 2 f).1 2 3) < ((aset M 2 f).1 2 1) → q (mset (mset (aset M 2 f) 2 4 ((aset M 2 f).1 2 3)) 2 2 0))) := by
    intro s f hs hsn f1 f3
    have hq' : ∀ f, TkC bb n f (tokS bb n s) → q (aset M 2 f) := by rw [hs]; exact hq
    rw [show (aset M 2 f).1 2 3 = nI s from f3, show (aset M 2 f).1 2 1 = nI n from f1, ix_nI (by omega), mset_aset]
    refine ⟨fun c => ⟨?_, ?_⟩, fun c => ?_⟩
    · have hlt := (nI_ltI (by omega) (by omega)).mp c
      exact vp_in_nI (by omega) (by decide)
    · have hlt := (nI_ltI (by omega) (by omega)).mp c
      obtain ⟨b1, b2⟩ := hb s hlt
      rw [show (aset M 2 f).1 16 s = sb (bb s) from b2]
      have u1 : upd f 4 (nI s) 1 = nI n := by rw [upd_ne _ _ (by decide)]; exact f1
      have u3 : upd f 4 (nI s) 3 = nI s := by rw [upd_ne _ _ (by decide)]; exact f3
      have vs : vp_in (nI s) 600 := vp_in_nI (by omega) (by decide)
      refine c_isLetterC b1 ?_
      cases hl : leB (bb s) with
      | true =>
        refine k1 ?_
        rw [mset_aset]
        have ht : tokS bb n s = (1, s, enF leB bb n s) := by rw [tokS, if_neg (by omega), if_pos hl]
        rw [ht] at hq'
        refine c_107 hn hb hq' (n - s) s _ (by omega) (Nat.le_refl _) (fun i a b => by omega) ?_ ?_ ?_ ?_
        · rw [upd_ne _ _ (by decide)]; exact u1
        · rw [upd_at]; rfl
        · rw [upd_ne _ _ (by decide)]; exact u3
        · rw [upd_ne _ _ (by decide), upd_at]
      | false =>
        refine k0 ?_
        rw [show (aset M 2 (upd f 4 (nI s))).1 2 3 = nI s from u3, ix_nI (by omega), show (aset M 2 (upd f 4 (nI s))).1 16 s = sb (bb s) from b2]
        refine ⟨vs, c_isFigureC b1 ?_⟩
        cases hf : fiB (bb s) with
        | true =>
          have ht : tokS bb n s = (if enF fiB bb n s - s ≤ 4 then 2 else 4, s, enF fiB bb n s) := by rw [tokS, if_neg (by omega), if_neg (by rw [hl]; decide), if_pos hf]
          rw [ht] at hq'
          exact k1 (c_161 hn hb hq' (n - s) s _ (by omega) (Nat.le_refl _) (fun i a b => by omega) u1 u3 (upd_at _ _ _))
        | false =>
          have ht : tokS bb n s = (if bb s = 59 then 3 else 4, s, s + 1) := by rw [tokS, if_neg (by omega), if_neg (by rw [hl]; decide), if_neg (by rw [hf]; decide)]
          rw [ht] at hq'
          rw [show (aset M 2 (upd f 4 (nI s))).1 2 3 = nI s from u3, ix_nI (by omega), show (aset M 2 (upd f 4 (nI s))).1 16 s = sb (bb s) from b2, mset_aset, mset_aset, mset_aset, mset_aset, nI_1]
          have v1 : ∀ x, upd (upd (upd f 4 (nI s)) 2 x) 4 (nI (s + 1)) 1 = nI n := fun x => by rw [upd_ne _ _ (by decide), upd_ne _ _ (by decide)]; exact u1
          have v2 : ∀ x, upd (upd (upd f 4 (nI s)) 2 x) 4 (nI (s + 1)) 2 = x := fun x => by rw [upd_ne _ _ (by decide), upd_at]
          have v3 : ∀ x, upd (upd (upd f 4 (nI s)) 2 x) 4 (nI (s + 1)) 3 = nI s := fun x => by rw [upd_ne _ _ (by decide), upd_ne _ _ (by decide)]; exact u3
          refine k0 ⟨vs, fun c2 => ?_, fun c2 => ?_⟩
          · rw [if_neg (fun e5 => c2 ((sb_sp _ b1).2.2.mpr e5))] at hq'
            exact hq' _ ⟨v1 _, v2 _, v3 _, upd_at _ _ _⟩
          · rw [if_pos ((sb_sp _ b1).2.2.mp c2)] at hq'
            exact hq' _ ⟨v1 _, v2 _, v3 _, upd_at _ _ _⟩
    · have hge : n ≤ s := by
        rcases Nat.lt_or_ge s n with h5 | h5
        · exact absurd (nI_lt h5 (by omega)) c
        · exact h5
      have ht : tokS bb n s = (0, s, s) := by rw [tokS, if_pos hge]
      rw [ht] at hq'
      rw [mset_aset]
      refine hq' _ ⟨?_, ?_, ?_, ?_⟩
      · rw [upd_ne _ _ (by decide), upd_ne _ _ (by decide)]; exact f1
      · rw [upd_at]; rfl
      · rw [upd_ne _ _ (by decide), upd_ne _ _ (by decide)]; exact f3
      · rw [upd_ne _ _ (by decide), upd_at]
  have loop : ∀ m i f, i + m = n → e ≤ i → (∀ j, e ≤ j → j < i → spB (bb j) = true) → f 1 = nI n → f 3 = nI i → V shC G mX10_step (k + 2) 8 [(0, .ref (G.2.1 2))] [] (aset M 2 f) (Qv q) := by
    intro m
    induction m with
    | zero =>
      intro i f hi hei hsp f1 f3
      refine wp_X10_step_8 ⟨fun _ => post i f ?_ (by omega) f1 f3, fun c => absurd ?_ c⟩
      · exact (fnd_to (fun t a b => by rw [hsp t a b]; rfl) (fun h => by omega) hei (by omega)).symm
      · rw [show (aset M 2 f).1 2 1 = nI n from f1, show (aset M 2 f).1 2 3 = nI i from f3]
        exact nI_le (by omega) (by omega)
    | succ m ih =>
      intro i f hi hei hsp f1 f3
      obtain ⟨b1, b2⟩ := hb i (by omega)
      have vi : vp_in ((aset M 2 f).1 2 3) 600 := by rw [show (aset M 2 f).1 2 3 = nI i from f3]; exact vp_in_nI (by omega) (by decide)
      have b2' : (aset M 2 f).1 16 (ix ((aset M 2 f).1 2 3)) = sb (bb i) := by rw [show (aset M 2 f).1 2 3 = nI i from f3, ix_nI (by omega)]; exact b2
      have nx : spB (bb i) = true → V shC G mX10_step (k + 2) 8 [(0, .ref (G.2.1 2))] [] (mset (aset M 2 f) 2 3 ((aset M 2 f).1 2 3 + 1)) (Qv q) := fun hs => by
        rw [mset_aset, show (aset M 2 f).1 2 3 = nI i from f3, nI_1]
        refine ih (i + 1) _ (by omega) (by omega) (fun j a b => ?_) ?_ (upd_at _ _ _)
        · rcases Nat.lt_or_ge j i with h5 | h5
          · exact hsp j a h5
          · obtain rfl : j = i := by omega
            exact hs
        · rw [upd_ne _ _ (by decide)]; exact f1
      refine wp_X10_step_8 ⟨fun c => absurd c ?_, fun _ => ⟨vi, fun c => nx ?_, fun c => ⟨vi, fun c2 => post i f ?_ (by omega) f1 f3, fun c2 => nx ?_⟩⟩⟩
      · rw [show (aset M 2 f).1 2 1 = nI n from f1, show (aset M 2 f).1 2 3 = nI i from f3]
        exact nI_ge (by omega) (by omega)
      · rw [b2'] at c
        exact decide_eq_true (Or.inl ((sb_sp _ b1).1.mp c))
      · rw [b2'] at c c2
        refine (fnd_to (fun t a b => by rw [hsp t a b]; rfl) (fun h => ?_) hei (by omega)).symm
        have : spB (bb i) = false := decide_eq_false (by rintro (e5 | e5); exact c ((sb_sp _ b1).1.mpr e5); exact c2 ((sb_sp _ b1).2.1.mpr e5))
        rw [this]; rfl
      · rw [b2'] at c2
        exact decide_eq_true (Or.inr ((sb_sp _ b1).2.1.mp c2))
  refine wp_X10_step ?_
  rw [mset_aset, show (aset M 2 f).1 2 4 = nI e from f4]
  exact loop (n - e) e _ (by omega) (Nat.le_refl _) (fun j a b => by omega) (by rw [upd_ne _ _ (by decide)]; exact f1) (upd_at _ _ _)
end
