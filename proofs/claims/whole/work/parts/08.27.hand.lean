/-! HAND -/
theorem hdN_0 (e : Nat → Nat → Bool) (j : Nat) : hdN e 0 j = j := rfl
theorem hdN_z (e : Nat → Nat → Bool) (i : Nat) : hdN e i 0 = i := by cases i <;> rfl
theorem hdN_s (e : Nat → Nat → Bool) (i j : Nat) : hdN e (i + 1) (j + 1) = min (hdN e i j + if e i j then 0 else 1) (1 + min (hdN e i (j + 1)) (hdN e (i + 1) j)) := rfl
theorem hdN_le (e : Nat → Nat → Bool) : ∀ i j, hdN e i j ≤ i + j := by
  intro i
  induction i with
  | zero => intro j; rw [hdN_0]; omega
  | succ i ih =>
    intro j
    induction j with
    | zero => rw [hdN_z]; omega
    | succ j ihj =>
      rw [hdN_s]
      have := ih (j + 1)
      omega
theorem hdN_sym (e : Nat → Nat → Bool) : ∀ i j, hdN e i j = hdN (fun a b => e b a) j i := by
  intro i
  induction i with
  | zero => intro j; rw [hdN_0, hdN_z]
  | succ i ih =>
    intro j
    induction j with
    | zero => rw [hdN_0, hdN_z]
    | succ j ihj =>
      rw [hdN_s, hdN_s, ih j, ih (j + 1), ihj, Nat.min_comm (hdN (fun a b => e b a) (j + 1) i)]
theorem hdN_congr {e e' : Nat → Nat → Bool} : ∀ {i j : Nat}, (∀ a b, a < i → b < j → e a b = e' a b) → hdN e i j = hdN e' i j := by
  intro i
  induction i with
  | zero => intro j _; rfl
  | succ i ih =>
    intro j
    induction j with
    | zero => intro _; rfl
    | succ j ihj =>
      intro h
      rw [hdN_s, hdN_s, ih (fun a b ha hb => h a b (by omega) (by omega)), ih (fun a b ha hb => h a b (by omega) (by omega)), ihj (fun a b ha hb => h a b (by omega) (by omega)), h i j (by omega) (by omega)]
theorem minI {a b : Nat} (ha : a < 2 ^ 31) (hb : b < 2 ^ 31) : (if nI a < nI b then nI a else nI b) = nI (min a b) := by
  by_cases h : a < b
  · rw [if_pos (nI_lt h hb), Nat.min_eq_left (by omega)]
  · rw [if_neg (nI_nlt (by omega) ha), Nat.min_eq_right (by omega)]
theorem c_least {G : GV} {k a b : Nat} {M : Mem} {q : Int32 → Mem → Prop} (ha : a < 2 ^ 31) (hb : b < 2 ^ 31) (h : q (nI (min a b)) M) : Ci shM G mX12_least k [.int (nI a), .int (nI b)] M q := by
  refine wp_X12_least ⟨fun c => ?_, fun c => ?_⟩
  · rw [Nat.min_eq_right ((nI_leI hb ha).mp c)] at h; exact h
  · rw [Nat.min_eq_left (by have : ¬ b ≤ a := fun e => c (nI_le e ha); omega)] at h; exact h
theorem nI_9 (v : Nat) : 9 * nI v = nI (9 * v) := by rw [show (9 : Int32) = nI 9 from rfl, nI_mul]
theorem nI_s1 (v : Nat) (h : 1 ≤ v) : nI v - 1 = nI (v - 1) := nI_sub (a := v) (b := 1) h
theorem nI_s9 (v : Nat) (h : 9 ≤ v) : nI v - 9 = nI (v - 9) := nI_sub (a := v) (b := 9) h
theorem nI_s10 (v : Nat) (h : 10 ≤ v) : nI v - 10 = nI (v - 10) := nI_sub (a := v) (b := 10) h
theorem nI_1' (v : Nat) : 1 + nI v = nI (1 + v) := nI_add 1 v
theorem c_handM {G : GV} {kk a b za zb : Nat} {M : Mem} {q : Int32 → Mem → Prop} (ha : a < 12) (hb : b < 12) (hza : za ≤ 8) (hzb : zb ≤ 8) (ea : M.1 13 a = nI za) (eb : M.1 13 b = nI zb) (h : ∀ f, q (nI (hdN (fun i j => M.1 14 (8 * a + i) == M.1 14 (8 * b + j)) za zb)) (aset M 24 f)) : Ci shM G mX12_handOf (kk + 1) [.ref (G.2.1 0), .int (nI a), .int (nI b)] M q := by
  have hva : vp_in (nI a) 12 := vp_in_nI ha (by decide)
  have hvb : vp_in (nI b) 12 := vp_in_nI hb (by decide)
  have hxa : ix (nI a) = a := ix_nI (by omega)
  have hxb : ix (nI b) = b := ix_nI (by omega)
  obtain ⟨e, he⟩ : ∃ e : Nat → Nat → Bool, e = fun i j => M.1 14 (8 * a + i) == M.1 14 (8 * b + j) := ⟨_, rfl⟩
  rw [← he] at h
  have outer : ∀ m i f, i + m = za + 1 → (∀ i' j', i' < i → j' ≤ zb → f (9 * i' + j') = nI (hdN e i' j')) → V shM G mX12_handOf (kk + 1) 2 [(0, .ref (G.2.1 0)), (1, .int (nI a)), (2, .int (nI b)), (3, .int (nI i))] [] (aset M 24 f) (Qi q) := by
    intro m
    induction m with
    | zero =>
      intro i f hi hf
      refine wp_X12_handOf_2 ⟨hva, fun _ => ⟨hva, hvb, ?_⟩, fun c => absurd ?_ c⟩
      · rw [hxa, hxb, show (aset M 24 f).1 13 a = nI za from ea, show (aset M 24 f).1 13 b = nI zb from eb, nI_9, nI_add, ix_nI (by omega)]
        refine ⟨vp_in_nI (by omega) (by decide), ?_⟩
        rw [show (aset M 24 f).1 24 (9 * za + zb) = f (9 * za + zb) from rfl, hf za zb (by omega) (by omega)]
        exact h f
      · rw [hxa, show (aset M 24 f).1 13 a = nI za from ea]
        exact nI_lt (by omega) (by omega)
    | succ m ih =>
      intro i f hi hf
      have inner : ∀ m2 j f, j + m2 = zb + 1 → (∀ i' j', i' < i → j' ≤ zb → f (9 * i' + j') = nI (hdN e i' j')) → (∀ j', j' < j → f (9 * i + j') = nI (hdN e i j')) → V shM G mX12_handOf (kk + 1) 15 [(0, .ref (G.2.1 0)), (1, .int (nI a)), (2, .int (nI b)), (3, .int (nI i)), (4, .int (nI j))] [] (aset M 24 f) (Qi q) := by
        intro m2
        induction m2 with
        | zero =>
          intro j f hj hf1 hf2
          refine wp_X12_handOf_15 ⟨hvb, fun _ => ?_, fun c => absurd ?_ c⟩
          · rw [nI_1]
            refine ih (i + 1) f (by omega) (fun i' j' h1 h2 => ?_)
            rcases Nat.lt_or_ge i' i with h3 | h3
            · exact hf1 i' j' h3 h2
            · obtain rfl : i' = i := by omega
              exact hf2 j' (by omega)
          · rw [hxb, show (aset M 24 f).1 13 b = nI zb from eb]
            exact nI_lt (by omega) (by omega)
        | succ m2 ih2 =>
          intro j f hj hf1 hf2
          -- the next cell holds the right number
          have nx : V shM G mX12_handOf (kk + 1) 15 [(0, .ref (G.2.1 0)), (1, .int (nI a)), (2, .int (nI b)), (3, .int (nI i)), (4, .int (nI (j + 1)))] [] (aset M 24 (upd f (9 * i + j) (nI (hdN e i j)))) (Qi q) := by
            refine ih2 (j + 1) _ (by omega) (fun i' j' h1 h2 => ?_) (fun j' h1 => ?_)
            · rw [upd_ne _ _ (by omega)]; exact hf1 i' j' h1 h2
            · rcases Nat.lt_or_ge j' j with h3 | h3
              · rw [upd_ne _ _ (by omega)]; exact hf2 j' h3
              · obtain rfl : j' = j := by omega
                exact upd_at _ _ _
          refine wp_X12_handOf_15 ⟨hvb, fun c => absurd c ?_, fun _ => ?_⟩
          · rw [hxb, show (aset M 24 f).1 13 b = nI zb from eb]
            exact nI_nlt (by omega) (by omega)
          rw [nI_9, nI_add, nI_add, ix_nI (by omega), mset_aset, nI_1, nI_8, nI_8, nI_add, nI_add]
          refine ⟨fun c => ⟨vp_in_nI (by omega) (by decide), ?_⟩, fun c => ⟨fun c2 => ?_, fun c2 => ⟨vp_in_nI (by omega) (by decide), ?_⟩⟩⟩
          · have hi0 : i = 0 := (nI_eq (b := 0) (by omega) (by omega)).mp c
            subst hi0
            simp only [Nat.mul_zero, Nat.zero_add, hdN_0] at nx ⊢
            exact nx
          · have hi0 : i ≠ 0 := fun e' => c (by rw [e']; rfl)
            have hj0 : j ≠ 0 := fun e' => c2 (by rw [e']; rfl)
            obtain ⟨i', rfl⟩ : ∃ i', i = i' + 1 := ⟨i - 1, by omega⟩
            obtain ⟨j', rfl⟩ : ∃ j', j = j' + 1 := ⟨j - 1, by omega⟩
            rw [nI_s1 _ (by omega), nI_s1 (8 * b + (j' + 1)) (by omega), nI_s10 _ (by omega), nI_s9 _ (by omega), nI_s1 (9 * (i' + 1) + (j' + 1)) (by omega), ix_nI (by omega), ix_nI (by omega), ix_nI (by omega), ix_nI (by omega), ix_nI (by omega)]
            have l1 := hdN_le e i' j'
            have l2 := hdN_le e i' (j' + 1)
            have l3 := hdN_le e (i' + 1) j'
            have g1 : (aset M 24 f).1 24 (9 * (i' + 1) + (j' + 1) - 10) = nI (hdN e i' j') := by
              rw [show 9 * (i' + 1) + (j' + 1) - 10 = 9 * i' + j' by omega]; exact hf1 i' j' (by omega) (by omega)
            have g2 : (aset M 24 f).1 24 (9 * (i' + 1) + (j' + 1) - 9) = nI (hdN e i' (j' + 1)) := by
              rw [show 9 * (i' + 1) + (j' + 1) - 9 = 9 * i' + (j' + 1) by omega]; exact hf1 i' (j' + 1) (by omega) (by omega)
            have g3 : (aset M 24 f).1 24 (9 * (i' + 1) + (j' + 1) - 1) = nI (hdN e (i' + 1) j') := by
              rw [show 9 * (i' + 1) + (j' + 1) - 1 = 9 * (i' + 1) + j' by omega]; exact hf2 j' (by omega)
            have a1 : (aset M 24 f).1 14 (8 * a + (i' + 1) - 1) = M.1 14 (8 * a + i') := by rw [show 8 * a + (i' + 1) - 1 = 8 * a + i' by omega]; rfl
            have a2 : (aset M 24 f).1 14 (8 * b + (j' + 1) - 1) = M.1 14 (8 * b + j') := by rw [show 8 * b + (j' + 1) - 1 = 8 * b + j' by omega]; rfl
            rw [g1, g2, g3, a1, a2]
            refine ⟨vp_in_nI (by omega) (by decide), vp_in_nI (by omega) (by decide), fun c3 => ⟨vp_in_nI (by omega) (by decide), vp_in_nI (by omega) (by decide), vp_in_nI (by omega) (by decide), c_least (by omega) (by omega) ?_⟩, fun c3 => ⟨vp_in_nI (by omega) (by decide), vp_in_nI (by omega) (by decide), vp_in_nI (by omega) (by decide), c_least (by omega) (by omega) ?_⟩⟩
            · rw [nI_1, nI_1']
              refine c_least (by omega) (by omega) ⟨vp_in_nI (by omega) (by decide), ?_⟩
              rw [mset_aset]
              have he2 : e i' j' = false := by rw [he]; simpa using c3
              rw [hdN_s, he2] at nx
              exact nx
            · rw [Int32.add_zero, nI_1']
              refine c_least (by omega) (by omega) ⟨vp_in_nI (by omega) (by decide), ?_⟩
              rw [mset_aset]
              have he2 : e i' j' = true := by rw [he]; simpa using c3
              rw [hdN_s, he2] at nx
              exact nx
          · have hj0 : j = 0 := (nI_eq (b := 0) (by omega) (by omega)).mp c2
            subst hj0
            simp only [Nat.add_zero, hdN_z] at nx ⊢
            exact nx
      refine wp_X12_handOf_2 ⟨hva, fun c => absurd c ?_, fun _ => inner (zb + 1) 0 f (by omega) hf (fun j' h1 => absurd h1 (Nat.not_lt_zero _))⟩
      rw [hxa, show (aset M 24 f).1 13 a = nI za from ea]
      exact nI_nlt (by omega) (by omega)
  have h0 := outer (za + 1) 0 (M.1 24) (by omega) (fun i' j' h1 _ => absurd h1 (Nat.not_lt_zero _))
  rw [aset_self] at h0
  exact wp_X12_handOf h0
theorem c_handC {G : GV} {kk a b za zb : Nat} {M : Mem} {q : Int32 → Mem → Prop} (ha : a < 12) (hb : b < 12) (hza : za ≤ 8) (hzb : zb ≤ 8) (ea : M.1 38 a = nI za) (eb : M.1 38 b = nI zb) (h : ∀ f, q (nI (hdN (fun i j => M.1 35 (8 * a + i) == M.1 35 (8 * b + j)) za zb)) (aset M 36 f)) : Ci shC G mX5_hand (kk + 1) [.ref (G.2.1 7), .int (nI a), .int (nI b)] M q := by
  have hva : vp_in (nI a) 12 := vp_in_nI ha (by decide)
  have hvb : vp_in (nI b) 12 := vp_in_nI hb (by decide)
  have hxa : ix (nI a) = a := ix_nI (by omega)
  have hxb : ix (nI b) = b := ix_nI (by omega)
  obtain ⟨e, he⟩ : ∃ e : Nat → Nat → Bool, e = fun i j => M.1 35 (8 * a + i) == M.1 35 (8 * b + j) := ⟨_, rfl⟩
  rw [← he] at h
  have outer : ∀ m i f, i + m = za → (∀ j', j' ≤ zb → f j' = nI (hdN e i j')) → V shC G mX5_hand (kk + 1) 27 [(0, .ref (G.2.1 7)), (1, .int (nI a)), (2, .int (nI b)), (3, .int (nI (i + 1)))] [] (aset M 36 f) (Qi q) := by
    intro m
    induction m with
    | zero =>
      intro i f hi hf
      obtain rfl : i = za := by omega
      refine wp_X5_hand_27 ⟨hva, fun _ => ⟨hvb, ?_⟩, fun c => absurd ?_ c⟩
      · rw [hxb, show (aset M 36 f).1 38 b = nI zb from eb, ix_nI (by omega), show (aset M 36 f).1 36 zb = f zb from rfl, hf zb (by omega)]
        exact ⟨vp_in_nI (by omega) (by decide), h f⟩
      · rw [hxa, show (aset M 36 f).1 38 a = nI i from ea]
        exact nI_lt (by omega) (by omega)
    | succ m ih =>
      intro i f hi hf
      have inner : ∀ m2 j f, j + m2 = zb → (∀ j', j' ≤ j → f j' = nI (hdN e (i + 1) j')) → (∀ j', j < j' → j' ≤ zb → f j' = nI (hdN e i j')) → V shC G mX5_hand (kk + 1) 55 [(0, .ref (G.2.1 7)), (1, .int (nI a)), (2, .int (nI b)), (3, .int (nI (i + 1))), (4, .int (nI (hdN e i j))), (5, .int (nI (j + 1)))] [] (aset M 36 f) (Qi q) := by
        intro m2
        induction m2 with
        | zero =>
          intro j f hj hf1 hf2
          refine wp_X5_hand_55 ⟨hvb, fun _ => ?_, fun c => absurd ?_ c⟩
          · rw [nI_1]
            exact ih (i + 1) f (by omega) (fun j' h1 => hf1 j' (by omega))
          · rw [hxb, show (aset M 36 f).1 38 b = nI zb from eb]
            exact nI_lt (by omega) (by omega)
        | succ m2 ih2 =>
          intro j f hj hf1 hf2
          have nx : V shC G mX5_hand (kk + 1) 55 [(0, .ref (G.2.1 7)), (1, .int (nI a)), (2, .int (nI b)), (3, .int (nI (i + 1))), (4, .int (nI (hdN e i (j + 1)))), (5, .int (nI (j + 1 + 1)))] [] (aset M 36 (upd f (j + 1) (nI (hdN e (i + 1) (j + 1))))) (Qi q) := by
            refine ih2 (j + 1) _ (by omega) (fun j' h1 => ?_) (fun j' h1 h2 => ?_)
            · rcases Nat.lt_or_ge j' (j + 1) with h3 | h3
              · rw [upd_ne _ _ (by omega)]; exact hf1 j' (by omega)
              · obtain rfl : j' = j + 1 := by omega
                exact upd_at _ _ _
            · rw [upd_ne _ _ (by omega)]; exact hf2 j' (by omega) h2
          have l1 := hdN_le e i j
          have l2 := hdN_le e i (j + 1)
          have l3 := hdN_le e (i + 1) j
          have g2 : (aset M 36 f).1 36 (j + 1) = nI (hdN e i (j + 1)) := hf2 (j + 1) (by omega) (by omega)
          have g3 : (aset M 36 f).1 36 j = nI (hdN e (i + 1) j) := hf1 j (by omega)
          refine wp_X5_hand_55 ⟨hvb, fun c => absurd c ?_, fun _ => ⟨vp_in_nI (by omega) (by decide), ?_⟩⟩
          · rw [hxb, show (aset M 36 f).1 38 b = nI zb from eb]
            exact nI_nlt (by omega) (by omega)
          rw [nI_s1 (i + 1) (by omega), nI_s1 (j + 1) (by omega), Nat.add_sub_cancel, Nat.add_sub_cancel]
          refine c_letterC ha (by omega) (c_letterC hb (by omega) ?_)
          rw [ix_nI (show j + 1 < 2 ^ 31 by omega), ix_nI (show j < 2 ^ 31 by omega), g2, g3, minI (by omega) (by omega), nI_1, nI_1, nI_1, minI (by omega) (by omega), minI (by omega) (by omega), mset_aset, mset_aset]
          have v1 : vp_in (nI j) 9 := vp_in_nI (by omega) (by decide)
          have v2 : vp_in (nI (j + 1)) 9 := vp_in_nI (by omega) (by decide)
          refine ⟨fun c3 => ⟨v1, v2, ?_⟩, fun c3 => ⟨v1, v2, ?_⟩⟩
          · have c3' : ¬ M.1 35 (8 * a + i) = M.1 35 (8 * b + j) := c3
            have he2 : e i j = false := by rw [he]; simpa using c3'
            have hv' : min (min (hdN e (i + 1) j) (hdN e i (j + 1)) + 1) (hdN e i j + 1) = hdN e (i + 1) (j + 1) := by
              rw [hdN_s, he2]
              simp only [Bool.false_eq_true, if_false]
              omega
            rw [hv']; exact nx
          · have c3' : M.1 35 (8 * a + i) = M.1 35 (8 * b + j) := c3
            have he2 : e i j = true := by rw [he]; simpa using c3'
            have hv' : min (min (hdN e (i + 1) j) (hdN e i (j + 1)) + 1) (hdN e i j) = hdN e (i + 1) (j + 1) := by
              rw [hdN_s, he2]
              simp only [if_true]
              omega
            rw [hv']; exact nx
      refine wp_X5_hand_27 ⟨hva, fun c => absurd c ?_, fun _ => ⟨vp_in_nI (n := 0) (by decide) (by decide), vp_in_nI (n := 0) (by decide) (by decide), ?_⟩⟩
      · rw [hxa, show (aset M 36 f).1 38 a = nI za from ea]
        exact nI_nlt (by omega) (by omega)
      · rw [show (aset M 36 f).1 36 (ix 0) = nI (hdN e i 0) from hf 0 (by omega), show ix (0 : Int32) = 0 from rfl, mset_aset]
        refine inner zb 0 _ (by omega) (fun j' h1 => ?_) (fun j' h1 h2 => ?_)
        · obtain rfl : j' = 0 := by omega
          rw [upd_at, hdN_z]
        · rw [upd_ne _ _ (by omega)]; exact hf j' h2
  have first : ∀ m j f, j + m = zb + 1 → (∀ j', j' < j → f j' = nI j') → V shC G mX5_hand (kk + 1) 2 [(0, .ref (G.2.1 7)), (1, .int (nI a)), (2, .int (nI b)), (3, .int (nI j))] [] (aset M 36 f) (Qi q) := by
    intro m
    induction m with
    | zero =>
      intro j f hj hf
      refine wp_X5_hand_2 ⟨hvb, fun _ => outer za 0 f (by omega) (fun j' h1 => by rw [hdN_0]; exact hf j' (by omega)), fun c => absurd ?_ c⟩
      rw [hxb, show (aset M 36 f).1 38 b = nI zb from eb]
      exact nI_lt (by omega) (by omega)
    | succ m ih =>
      intro j f hj hf
      refine wp_X5_hand_2 ⟨hvb, fun c => absurd c ?_, fun _ => ⟨vp_in_nI (by omega) (by decide), ?_⟩⟩
      · rw [hxb, show (aset M 36 f).1 38 b = nI zb from eb]
        exact nI_nlt (by omega) (by omega)
      · rw [ix_nI (by omega), mset_aset, nI_1]
        refine ih (j + 1) _ (by omega) (fun j' h1 => ?_)
        rcases Nat.lt_or_ge j' j with h3 | h3
        · rw [upd_ne _ _ (by omega)]; exact hf j' h3
        · obtain rfl : j' = j := by omega
          exact upd_at _ _ _
  have h0 := first (zb + 1) 0 (M.1 36) (by omega) (fun j' h1 => absurd h1 (Nat.not_lt_zero _))
  rw [aset_self] at h0
  exact wp_X5_hand h0
