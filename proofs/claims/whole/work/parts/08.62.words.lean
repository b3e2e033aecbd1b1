/-! read: words -/
def pkN (g : Nat → Nat) : Nat → Nat
  | 0 => 0
  | m + 1 => 256 * pkN g m + g m
theorem pk_inj : ∀ m m' g g', (∀ j, j < m → 1 ≤ g j ∧ g j < 256) → (∀ j, j < m' → 1 ≤ g' j ∧ g' j < 256) → pkN g m = pkN g' m' → m = m' ∧ ∀ j, j < m → g j = g' j := by
  intro m
  induction m with
  | zero =>
    intro m' g g' h h' he
    cases m' with
    | zero => exact ⟨rfl, fun j hj => absurd hj (Nat.not_lt_zero _)⟩
    | succ m' =>
      have := h' m' (by omega)
      rw [pkN, pkN] at he; omega
  | succ m ih =>
    intro m' g g' h h' he
    cases m' with
    | zero =>
      have := h m (by omega)
      rw [pkN, pkN] at he; omega
    | succ m' =>
      have h1 := h m (by omega)
      have h2 := h' m' (by omega)
      rw [pkN, pkN] at he
      obtain ⟨e1, e2⟩ := ih m' g g' (fun j hj => h j (by omega)) (fun j hj => h' j (by omega)) (by omega)
      subst e1
      refine ⟨rfl, fun j hj => ?_⟩
      rcases Nat.lt_or_ge j m with h5 | h5
      · exact e2 j h5
      · obtain rfl : j = m := by omega
        omega
theorem pk_congr {g g' : Nat → Nat} {m : Nat} (h : ∀ j, j < m → g j = g' j) : pkN g m = pkN g' m := by
  induction m with
  | zero => rfl
  | succ m ih => rw [pkN, pkN, ih (fun j hj => h j (by omega)), h m (by omega)]
theorem pkN_lt {g : Nat → Nat} {m : Nat} (h : ∀ j, j < m → g j < 256) : pkN g m < 256 ^ m := by
  induction m with
  | zero => exact (by decide : 0 < 256 ^ 0)
  | succ m ih =>
    have h1 := ih (fun j hj => h j (by omega))
    have h2 := h m (by omega)
    rw [pkN, Nat.pow_succ]; omega
/-- a token's word as a number; 0: none that counts -/
def wdN (bb : Nat → Nat) (t : Nat × Nat × Nat) : Nat := if t.1 = 1 ∧ t.2.2 - t.2.1 < 8 then pkN (fun j => bb (t.2.1 + j)) (t.2.2 - t.2.1) else 0
def cW (i : Nat) : Nat := [1651470187, 1818848869, 478660552050, 448546567013, 119200164373860, 491261289828, 27988572849333604, 500135191653, 495873780837, 6383461].getD i 0
def wG (i j : Nat) : Nat := ix ((s_byt.getD i []).getD j 0)
theorem cW_pk : ∀ i, i < 10 → cW i = pkN (wG i) (s_len.getD i 0) ∧ s_len.getD i 0 < 8 ∧ cW i ≠ 0 := by decide +kernel
theorem wG_le : ∀ i, i < 10 → ∀ j, j < s_len.getD i 0 → 97 ≤ wG i j ∧ wG i j ≤ 122 ∧ (s_byt.getD i []).getD j 0 = nI (wG i j) := by decide +kernel
theorem sb_w : ∀ b, b < 256 → ∀ w, w ≤ 122 → 97 ≤ w → (sb b = nI w ↔ b = w) := by decide +kernel
section
variable {G : GV} {k n : Nat} {M : Mem} {bb : Nat → Nat}
theorem word_iff {e i : Nat} {t : Nat × Nat × Nat} (ht : t = tokF bb n e) (he : e ≤ n) (hi : i < 10) (hb : ∀ i, i < n → bb i < 256 ∧ M.1 16 i = sb (bb i)) (f2 : M.1 2 2 = nI t.1) (hk : t.1 < 5) : isWordS M t.2.1 t.2.2 i ↔ wdN bb t = cW i := by
  obtain ⟨t1, t2, t3, t4⟩ := tok_le (bb := bb) he
  rw [← ht] at t1 t2 t3 t4
  obtain ⟨c1, c2, c3⟩ := cW_pk i hi
  constructor
  · rintro ⟨h1, h2, h3⟩
    have hk1 : t.1 = 1 := (nI_eq (b := 1) (by omega) (by omega)).mp (f2.symm.trans h1)
    rw [wdN, if_pos ⟨hk1, by omega⟩, c1, h2]
    refine pk_congr (fun j hj => ?_)
    obtain ⟨w1, w2, w3⟩ := wG_le i hi j hj
    obtain ⟨b1, b2⟩ := hb (t.2.1 + j) (by omega)
    have h4 := h3 j hj
    rw [b2, w3] at h4
    exact (sb_w _ b1 _ w2 w1).mp h4
  · intro h
    have hk1 : t.1 = 1 ∧ t.2.2 - t.2.1 < 8 := by
      apply Classical.byContradiction
      intro hc
      rw [wdN, if_neg hc] at h
      exact c3 h.symm
    rw [wdN, if_pos hk1, c1] at h
    obtain ⟨p1, p2⟩ := pk_inj _ _ _ _ (fun j hj => by
      have h5 := tok_let (bb := bb) (n := n) (e := e) (i := t.2.1 + j) (by rw [← ht]; exact hk1.1) (by rw [← ht]; omega) (by rw [← ht]; omega)
      rw [leB, decide_eq_true_iff] at h5
      exact ⟨by omega, by omega⟩) (fun j hj => by have := wG_le i hi j hj; exact ⟨by omega, by omega⟩) h
    refine ⟨by rw [f2, hk1.1]; rfl, p1, fun j hj => ?_⟩
    obtain ⟨w1, w2, w3⟩ := wG_le i hi j hj
    obtain ⟨b1, b2⟩ := hb (t.2.1 + j) (by omega)
    rw [b2, w3]
    exact (sb_w _ b1 _ w2 w1).mpr (p2 j (by omega))
theorem tok_5 (bb : Nat → Nat) (n e : Nat) : (tokF bb n e).1 < 5 := by
  unfold tokF tokS
  split
  · show 0 < 5; decide
  · split
    · show 1 < 5; decide
    · split
      · show (if _ then 2 else 4) < 5; split <;> decide
      · show (if _ then 3 else 4) < 5; split <;> decide
theorem c_isW {q : Int32 → Mem → Prop} {e i : Nat} {t : Nat × Nat × Nat} (ht : t = tokF bb n e) (he : e ≤ n) (hn : n ≤ 600) (hi : i < 10) (hb : ∀ i, i < n → bb i < 256 ∧ M.1 16 i = sb (bb i)) (hT : TkC bb n (M.1 2) t) (h : q (b01 (decide (wdN bb t = cW i))) M) : Ci shC G mX10_isWord (k + 4) [.ref (G.2.1 2), .ref (sK G i)] M q := by
  obtain ⟨t1, t2, t3, t4⟩ := tok_le (bb := bb) he
  rw [← ht] at t1 t2 t3 t4
  have h5 := tok_5 bb n e
  rw [← ht] at h5
  have hw := word_iff (M := M) ht he hi hb hT.2.1 h5
  refine c_isWord hi hT.2.2.1 hT.2.2.2 hT.1 t1 t2 hn (fun hy => ?_) (fun hno => ?_)
  · rw [decide_eq_true (hw.mp hy)] at h; exact h
  · rw [decide_eq_false (fun e5 => hno (hw.mpr e5))] at h; exact h
theorem lN_bv' (n : Nat) : (lN n).toBitVec = BitVec.ofNat 64 n := rfl
theorem shl8 {v b : Nat} (hv : v < 2 ^ 55) (hb : b < 256) : (lN v <<< (Int32.toInt64 8 &&& 63)) ||| (Int32.toInt64 (nI b)) = lN (256 * v + b) := by
  rw [show (Int32.toInt64 8 &&& 63 : Int64) = 8 from by decide, nI_l (by omega)]
  apply Int64.toBitVec_inj.1
  rw [Int64.toBitVec_or, Int64.toBitVec_shiftLeft, show (8 : Int64).toBitVec.smod 64 = 8#64 from by decide, lN_bv', lN_bv', lN_bv']
  apply BitVec.eq_of_toNat_eq
  rw [BitVec.toNat_or, BitVec.shiftLeft_eq', BitVec.toNat_shiftLeft]
  simp only [BitVec.toNat_ofNat]
  rw [Nat.mod_eq_of_lt (show v < 2 ^ 64 by omega), Nat.mod_eq_of_lt (show b < 2 ^ 64 by omega), Nat.mod_eq_of_lt (show 256 * v + b < 2 ^ 64 by omega), Nat.mod_eq_of_lt (show 8 < 2 ^ 64 by decide), Nat.shiftLeft_eq, Nat.mod_eq_of_lt (show v * 2 ^ 8 < 2 ^ 64 by omega)]
  have h5 := Nat.shiftLeft_add_eq_or_of_lt (i := 8) (b := b) (by omega) v
  rw [Nat.shiftLeft_eq] at h5
  rw [← h5]
  omega
theorem c_word {q : Int64 → Mem → Prop} {f : Nat → Int32} {e : Nat} {t : Nat × Nat × Nat} (ht : t = tokF bb n e) (he : e ≤ n) (hn : n ≤ 600) (hb : ∀ i, i < n → bb i < 256 ∧ M.1 23 i = nI (bb i)) (hf : M.1 0 = f) (hT : TkM n f t) (h : q (lN (wdN bb t)) M) : Cl shM G mX12_word k [.ref (G.2.1 0)] M q := by
  obtain ⟨t1, t2, t3, t4⟩ := tok_le (bb := bb) he
  rw [← ht] at t1 t2 t3 t4
  have h5 := tok_5 bb n e
  rw [← ht] at h5
  obtain ⟨f31, f32, f33, f34, f35⟩ := hT
  have e33 : M.1 0 33 = nI (mkT t.1) := by rw [hf]; exact f33
  have e34 : M.1 0 34 = nI t.2.1 := by rw [hf]; exact f34
  have e35 : M.1 0 35 = nI t.2.2 := by rw [hf]; exact f35
  have hmk : mkT t.1 ≤ 4 := by unfold mkT; split <;> (try split) <;> (try split) <;> (try split) <;> omega
  have hk2 : (M.1 0 33 = 2) ↔ t.1 = 1 := by
    rw [e33]
    constructor
    · intro h6
      have := (nI_eq (b := 2) (by omega) (by omega)).mp h6
      unfold mkT at this
      split at this
      · omega
      · split at this
        · assumption
        · split at this
          · omega
          · split at this <;> omega
    · intro h6; rw [h6]; rfl
  refine wp_X12_word ?_
  rw [e34]
  by_cases hw : t.1 = 1 ∧ t.2.2 - t.2.1 < 8
  · rw [wdN, if_pos hw] at h
    have loop : ∀ m j, j + m = t.2.2 - t.2.1 → V shM G mX12_word k 7 [(0, .ref (G.2.1 0)), (1, .long (lN (pkN (fun j => bb (t.2.1 + j)) j))), (3, .int (nI (t.2.1 + j)))] [] M (Ql q) := by
      intro m
      induction m with
      | zero =>
        intro j hj
        obtain rfl : j = t.2.2 - t.2.1 := by omega
        exact wp_X12_word_7 ⟨fun _ => h, fun c => absurd (by rw [e35]; exact nI_le (by omega) (by omega)) c⟩
      | succ m ih =>
        intro j hj
        obtain ⟨b1, b2⟩ := hb (t.2.1 + j) (by omega)
        have hpk : pkN (fun j => bb (t.2.1 + j)) j < 2 ^ 55 := by
          have h6 := pkN_lt (g := fun j => bb (t.2.1 + j)) (m := j) (fun i hi => (hb (t.2.1 + i) (by omega)).1)
          have h7 : 256 ^ j ≤ 256 ^ 6 := Nat.pow_le_pow_right (by decide) (by omega)
          have h8 : (256 : Nat) ^ 6 = 281474976710656 := by decide
          omega
        refine wp_X12_word_7 ⟨fun c => absurd c (by rw [e35]; exact nI_ge (by omega) (by omega)), fun _ => ⟨fun c => absurd (hk2.mpr hw.1) c, fun _ => ⟨fun c => ?_, fun _ => ⟨vp_in_nI (by omega) (by decide), ?_⟩⟩⟩⟩
        · exfalso
          rw [e35, e34, nI_sub t1] at c
          have := (nI_leI (a := 8) (by omega) (by omega)).mp c
          omega
        · rw [ix_nI (by omega), b2, shl8 hpk b1, nI_1]
          exact ih (j + 1) (by omega)
    exact loop (t.2.2 - t.2.1) 0 (by omega)
  · rw [wdN, if_neg hw] at h
    refine wp_X12_word_7 ⟨fun _ => h, fun _ => ⟨fun _ => h, fun c => ⟨fun _ => h, fun c2 => ?_⟩⟩⟩
    exfalso
    refine hw ⟨hk2.mp c, ?_⟩
    rcases Nat.lt_or_ge (t.2.2 - t.2.1) 8 with h6 | h6
    · exact h6
    · exact absurd (by rw [e35, e34, nI_sub t1]; exact nI_le (a := 8) h6 (by omega)) c2
theorem wd_lt {e : Nat} {t : Nat × Nat × Nat} (ht : t = tokF bb n e) (he : e ≤ n) (hb : ∀ i, i < n → bb i < 256) : wdN bb t < 2 ^ 56 := by
  obtain ⟨t1, t2, t3, t4⟩ := tok_le (bb := bb) he
  rw [← ht] at t1 t2 t3 t4
  unfold wdN
  split
  · rename_i hw
    have h6 := pkN_lt (g := fun j => bb (t.2.1 + j)) (m := t.2.2 - t.2.1) (fun i hi => hb (t.2.1 + i) (by omega))
    have h7 : 256 ^ (t.2.2 - t.2.1) ≤ 256 ^ 7 := Nat.pow_le_pow_right (by decide) (by omega)
    have h8 : (256 : Nat) ^ 7 = 2 ^ 56 := by decide
    omega
  · exact Nat.pow_pos (by decide)
theorem lN_eq' {a b : Nat} (ha : a < 2 ^ 63) (hb : b < 2 ^ 63) : lN a = lN b ↔ a = b := by
  constructor
  · intro h
    have h1 := congrArg (fun x => x.toBitVec.toNat) h
    simp only [lN_bv', BitVec.toNat_ofNat] at h1
    omega
  · intro h; rw [h]
end
