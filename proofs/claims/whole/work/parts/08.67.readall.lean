/-! read: what parts keep; all parts, of the class -/
def rdW (bb : Nat → Nat) (n : Nat) : Nat → WS → RES WS
  | 0, W => .inr W
  | k + 1, W => if W.2.2.2.2.2.1 = 0 then .inr W else bnd (partW bb n W) (rdW bb n k)
theorem nx_mono {bb : Nat → Nat} {n : Nat} {t : Tok} (h : gtk bb n t) : t.2.1 ≤ (nxT bb n t).2.1 := by
  have h1 := nx_start h
  have h2 := gtk_le h
  omega
def okLn (D : Nat → Nat → Int32) (nb l : Nat) : Prop := (∃ b, b < nb ∧ D 8 l = nI b) ∧ (∃ s, s < 5 ∧ D 9 l = nI s) ∧ (∃ s, s < 4 ∧ D 10 l = nI s) ∧ (∃ n, 1 ≤ n ∧ n ≤ 99 ∧ D 11 l = nI n) ∧ (D 12 l = -1000000 ∨ ∃ a, a ≤ 120 ∧ D 12 l = nI a) ∧ ∃ z, 1 ≤ z ∧ z ≤ 8 ∧ D 13 l = nI z ∧ ∀ k, k < z → ∃ x, x < 26 ∧ D 14 (8 * l + k) = nI x
def okBn (D : Nat → Nat → Int32) (b : Nat) : Prop := (∃ g, 1 ≤ g ∧ g ≤ 9998 ∧ D 4 b - D 5 b = nI g) ∧ ∃ p, 1 ≤ p ∧ p ≤ 99 ∧ D 6 b = nI p
def WO (B : Nat × Nat × Nat × Nat) (W : WS) : Prop := (∀ i, B.1 ≤ i → i < W.2.1 → okBn W.1 i) ∧ (∀ i, B.2.1 ≤ i → i < W.2.2.1 → okLn W.1 W.2.1 i) ∧ (∀ i, B.2.2.1 ≤ i → i < W.2.2.2.1 → okO W.1 i) ∧ (∀ i, B.2.2.2 ≤ i → i < W.2.2.2.2.1 → okH W.1 i)
theorem book_ok {bb : Nat → Nat} {n : Nat} {t : Tok} {r : Nat × Nat × Nat × Tok} (ht : gtk bb n t) (h : bookT bb n t = .inr r) : gtk bb n r.2.2.2 ∧ t.2.1 ≤ r.2.2.2.2.1 ∧ (∃ g, 1 ≤ g ∧ g ≤ 9998 ∧ nI r.1 - nI r.2.1 = nI g) ∧ 1 ≤ r.2.2.1 ∧ r.2.2.1 ≤ 99 := by
  unfold bookT at h
  cases h1 : numT bb 1 9998 (-1000000) t with
  | inl e => rw [h1] at h; cases h
  | inr y =>
  rw [h1, bnd_r] at h
  cases h2 : numT bb 0 (lagH y) (-1000000) (nxT bb n t) with
  | inl e => rw [h2] at h; cases h
  | inr g =>
  rw [h2, bnd_r] at h
  cases h3 : numT bb 1 99 (-1000000) (nxT bb n (nxT bb n t)) with
  | inl e => rw [h3] at h; cases h
  | inr p =>
  rw [h3, bnd_r] at h
  cases h4 : sgT (nxT bb n (nxT bb n (nxT bb n t))) with
  | inl e => rw [h4] at h; cases h
  | inr u =>
  rw [h4, bnd_r] at h
  injection h with h
  rw [← h]
  obtain ⟨_, _, y1, y2, _⟩ := num_ok h1
  obtain ⟨_, _, g1, g2, _⟩ := num_ok h2
  obtain ⟨_, _, p1, p2, _⟩ := num_ok h3
  have m1 := nx_mono ht
  have m2 := nx_mono (gtk_nx ht)
  have m3 := nx_mono (gtk_nx (gtk_nx ht))
  have m4 := nx_mono (gtk_nx (gtk_nx (gtk_nx ht)))
  refine ⟨gtk_nx (gtk_nx (gtk_nx (gtk_nx ht))), ?_, ⟨y - g, ?_, ?_, nI_sub ?_⟩, ?_, ?_⟩
  · show t.2.1 ≤ (nxT bb n (nxT bb n (nxT bb n (nxT bb n t)))).2.1
    omega
  all_goals first | (unfold lagH at g2; split at g2 <;> omega) | (show 1 ≤ p; omega) | (show p ≤ 99; omega) | (show g ≤ y; unfold lagH at g2; split at g2 <;> omega)
theorem order_ok {bb : Nat → Nat} {n : Nat} {t : Tok} {r : Nat × Nat × Nat × Nat × Tok} (ht : gtk bb n t) (h : orderT bb n t = .inr r) : gtk bb n r.2.2.2.2 ∧ t.2.1 ≤ r.2.2.2.2.2.1 ∧ (1 ≤ r.1 ∧ r.1 ≤ 9998) ∧ r.2.1 < 4 ∧ (1 ≤ r.2.2.1 ∧ r.2.2.1 ≤ 99) ∧ (1 ≤ r.2.2.2.1 ∧ r.2.2.2.1 ≤ 99) := by
  unfold orderT at h
  cases h1 : numT bb 1 9998 (-1000000) t with
  | inl e => rw [h1] at h; cases h
  | inr y =>
  rw [h1, bnd_r] at h
  cases h2 : numT bb 0 3 (-1000000) (nxT bb n t) with
  | inl e => rw [h2] at h; cases h
  | inr s =>
  rw [h2, bnd_r] at h
  cases h3 : numT bb 1 99 (-1000000) (nxT bb n (nxT bb n t)) with
  | inl e => rw [h3] at h; cases h
  | inr o =>
  rw [h3, bnd_r] at h
  cases h4 : numT bb 1 99 (o : Int) (nxT bb n (nxT bb n (nxT bb n t))) with
  | inl e => rw [h4] at h; cases h
  | inr w =>
  rw [h4, bnd_r] at h
  cases h5 : sgT (nxT bb n (nxT bb n (nxT bb n (nxT bb n t)))) with
  | inl e => rw [h5] at h; cases h
  | inr u =>
  rw [h5, bnd_r] at h
  injection h with h
  rw [← h]
  obtain ⟨_, _, y1, y2, _⟩ := num_ok h1
  obtain ⟨_, _, s1, s2, _⟩ := num_ok h2
  obtain ⟨_, _, o1, o2, _⟩ := num_ok h3
  obtain ⟨_, _, w1, w2, _⟩ := num_ok h4
  have m1 := nx_mono ht
  have m2 := nx_mono (gtk_nx ht)
  have m3 := nx_mono (gtk_nx (gtk_nx ht))
  have m4 := nx_mono (gtk_nx (gtk_nx (gtk_nx ht)))
  have m5 := nx_mono (gtk_nx (gtk_nx (gtk_nx (gtk_nx ht))))
  refine ⟨gtk_nx (gtk_nx (gtk_nx (gtk_nx (gtk_nx ht)))), ?_, ?_, ?_, ?_, ?_⟩
  · show t.2.1 ≤ (nxT bb n (nxT bb n (nxT bb n (nxT bb n (nxT bb n t))))).2.1
    omega
  · show 1 ≤ y ∧ y ≤ 9998; omega
  · show s < 4; omega
  · show 1 ≤ o ∧ o ≤ 99; omega
  · show 1 ≤ w ∧ w ≤ 99; omega
theorem house_ok {bb : Nat → Nat} {n : Nat} {t : Tok} {r : Nat × Nat × Nat × Nat × Tok} (ht : gtk bb n t) (h : houseT bb n t = .inr r) : gtk bb n r.2.2.2.2 ∧ t.2.1 ≤ r.2.2.2.2.2.1 ∧ r.1 < 4 ∧ (1 ≤ r.2.1 ∧ r.2.1 ≤ 99) ∧ r.2.2.1 < r.2.2.2.1 ∧ r.2.2.2.1 ≤ 9999 := by
  unfold houseT at h
  cases h1 : numT bb 0 3 (-1000000) t with
  | inl e => rw [h1] at h; cases h
  | inr y =>
  rw [h1, bnd_r] at h
  cases h2 : numT bb 1 99 (-1000000) (nxT bb n t) with
  | inl e => rw [h2] at h; cases h
  | inr s =>
  rw [h2, bnd_r] at h
  cases h3 : numT bb 1 9998 (-1000000) (nxT bb n (nxT bb n t)) with
  | inl e => rw [h3] at h; cases h
  | inr o =>
  rw [h3, bnd_r] at h
  cases h4 : numT bb ((o : Int) + 1) 9999 (-1000000) (nxT bb n (nxT bb n (nxT bb n t))) with
  | inl e => rw [h4] at h; cases h
  | inr w =>
  rw [h4, bnd_r] at h
  cases h5 : sgT (nxT bb n (nxT bb n (nxT bb n (nxT bb n t)))) with
  | inl e => rw [h5] at h; cases h
  | inr u =>
  rw [h5, bnd_r] at h
  injection h with h
  rw [← h]
  obtain ⟨_, _, y1, y2, _⟩ := num_ok h1
  obtain ⟨_, _, s1, s2, _⟩ := num_ok h2
  obtain ⟨_, _, o1, o2, _⟩ := num_ok h3
  obtain ⟨_, _, w1, w2, _⟩ := num_ok h4
  have m1 := nx_mono ht
  have m2 := nx_mono (gtk_nx ht)
  have m3 := nx_mono (gtk_nx (gtk_nx ht))
  have m4 := nx_mono (gtk_nx (gtk_nx (gtk_nx ht)))
  have m5 := nx_mono (gtk_nx (gtk_nx (gtk_nx (gtk_nx ht))))
  refine ⟨gtk_nx (gtk_nx (gtk_nx (gtk_nx (gtk_nx ht)))), ?_, ?_, ?_, ?_, ?_⟩
  · show t.2.1 ≤ (nxT bb n (nxT bb n (nxT bb n (nxT bb n (nxT bb n t))))).2.1
    omega
  · show y < 4; omega
  · show 1 ≤ s ∧ s ≤ 99; omega
  · show o < w; omega
  · show w ≤ 9999; omega
theorem line_ok {bb : Nat → Nat} {n nb : Nat} {t : Tok} {r : Nat × Nat × Nat × Nat × Tok × Int32 × Tok} (ht : gtk bb n t) (h : lineT bb n nb t = .inr r) : gtk bb n r.2.2.2.2.2.2 ∧ t.2.1 ≤ r.2.2.2.2.2.2.2.1 ∧ r.1 < nb ∧ r.2.1 < 5 ∧ r.2.2.1 < 4 ∧ (1 ≤ r.2.2.2.1 ∧ r.2.2.2.1 ≤ 99) ∧ (r.2.2.2.2.2.1 = -1000000 ∨ ∃ a, a ≤ 120 ∧ r.2.2.2.2.2.1 = nI a) ∧ (1 ≤ r.2.2.2.2.1.2.2 - r.2.2.2.2.1.2.1 ∧ r.2.2.2.2.1.2.2 - r.2.2.2.2.1.2.1 ≤ 8) ∧ ∀ j, j < r.2.2.2.2.1.2.2 - r.2.2.2.2.1.2.1 → leB (bb (r.2.2.2.2.1.2.1 + j)) = true := by
  unfold lineT at h
  cases k1 : numT bb 0 ((nb : Int) - 1) (-1000000) t with
  | inl e => rw [k1] at h; cases h
  | inr b =>
  rw [k1, bnd_r] at h
  cases k2 : srtT bb (nxT bb n t) with
  | inl e => rw [k2] at h; cases h
  | inr so =>
  rw [k2, bnd_r] at h
  cases k3 : numT bb 0 3 (-1000000) (nxT bb n (nxT bb n t)) with
  | inl e => rw [k3] at h; cases h
  | inr st =>
  rw [k3, bnd_r] at h
  cases k4 : numT bb 1 99 (-1000000) (nxT bb n (nxT bb n (nxT bb n t))) with
  | inl e => rw [k4] at h; cases h
  | inr nu =>
  rw [k4, bnd_r] at h
  obtain ⟨t4, ht4⟩ : ∃ t4, t4 = nxT bb n (nxT bb n (nxT bb n (nxT bb n t))) := ⟨_, rfl⟩
  have g4 : gtk bb n t4 := by rw [ht4]; exact gtk_nx (gtk_nx (gtk_nx (gtk_nx ht)))
  have m1 := nx_mono ht
  have m2 := nx_mono (gtk_nx ht)
  have m3 := nx_mono (gtk_nx (gtk_nx ht))
  have m4 := nx_mono (gtk_nx (gtk_nx (gtk_nx ht)))
  rw [← ht4] at h m4
  cases k5 : nmT t4 with
  | inl e => rw [k5] at h; cases h
  | inr u =>
  rw [k5, bnd_r] at h
  cases k6 : ageT bb n (nxT bb n t4) with
  | inl e => rw [k6] at h; cases h
  | inr ag =>
  rw [k6, bnd_r] at h
  cases k7 : sgT ag.2 with
  | inl e => rw [k7] at h; cases h
  | inr sg =>
  rw [k7, bnd_r] at h
  injection h with h
  rw [← h]
  obtain ⟨a1, a2, a3⟩ := age_gtk (gtk_nx g4) k6
  have m5 := nx_mono g4
  have m6 := nx_mono a1
  obtain ⟨_, _, b1, b2, _⟩ := num_ok k1
  obtain ⟨_, _, s1, s2, _⟩ := num_ok k3
  obtain ⟨_, _, n1, n2, _⟩ := num_ok k4
  have hso : so < 5 := by
    unfold srtT at k2
    split at k2
    · injection k2 with k2; omega
    · split at k2
      · injection k2 with k2; omega
      · split at k2
        · injection k2 with k2; omega
        · split at k2
          · injection k2 with k2; omega
          · split at k2
            · injection k2 with k2; omega
            · cases k2
  have hnm : t4.1 = 1 ∧ ¬ 8 < t4.2.2 - t4.2.1 := by
    unfold nmT at k5
    by_cases c1 : t4.1 ≠ 1
    · rw [if_pos c1] at k5; cases k5
    · rw [if_neg c1] at k5
      by_cases c2 : 8 < t4.2.2 - t4.2.1
      · rw [if_pos c2] at k5; cases k5
      · exact ⟨Decidable.not_not.mp c1, c2⟩
  have l4 := gtk_le g4
  have p4 := l4.2.2 (by rw [hnm.1]; decide)
  refine ⟨gtk_nx a1, ?_, ?_, hso, ?_, ?_, a3, ?_, fun j hj => ?_⟩
  · show t.2.1 ≤ (nxT bb n ag.2).2.1
    omega
  · show b < nb; omega
  · show st < 4; omega
  · show 1 ≤ nu ∧ nu ≤ 99; omega
  · show 1 ≤ t4.2.2 - t4.2.1 ∧ t4.2.2 - t4.2.1 ≤ 8
    omega
  · have hj' : j < t4.2.2 - t4.2.1 := hj
    show leB (bb (t4.2.1 + j)) = true
    obtain ⟨e, he, hte⟩ := g4
    exact tok_let (bb := bb) (n := n) (e := e) (i := t4.2.1 + j) (by rw [← hte]; exact hnm.1) (by rw [← hte]; omega) (by rw [← hte]; omega)
theorem wd_k {bb : Nat → Nat} {t : Tok} {i : Nat} (hi : i < 10) (h : wdN bb t = cW i) : t.1 = 1 := by
  have := (cW_pk i hi).2.2
  unfold wdN at h
  by_cases c : t.1 = 1 ∧ t.2.2 - t.2.1 < 8
  · exact c.1
  · rw [if_neg c] at h; exact absurd h.symm this
theorem part_ok {bb : Nat → Nat} {n : Nat} {B : Nat × Nat × Nat × Nat} {W W' : WS} (hW : WB bb n B W) (hO : WO B W) (h : partW bb n W = .inr W') : WB bb n B W' ∧ WO B W' ∧ W.2.2.2.2.2.2.1 < W'.2.2.2.2.2.2.1 := by
  obtain ⟨D, nb, nl, no, nh, t⟩ := W
  obtain ⟨⟨b1, b2⟩, ⟨l1, l2⟩, ⟨o1, o2⟩, ⟨h1, h2⟩, ht⟩ := hW
  obtain ⟨p1, p2, p3, p4⟩ := hO
  dsimp only at b1 b2 l1 l2 o1 o2 h1 h2 ht p1 p2 p3 p4
  unfold partW at h
  dsimp only at h
  have hs := nx_start ht
  have hg := gtk_le ht
  have hst : ∀ {i}, i < 10 → wdN bb t = cW i → t.2.1 < (nxT bb n t).2.1 := fun hi w => by
    have := hg.2.2 (by rw [wd_k hi w]; decide)
    omega
  by_cases w : wdN bb t = cW 0
  · rw [if_pos w] at h
    by_cases hf : 10 ≤ nb
    · rw [if_pos hf] at h; cases h
    · rw [if_neg hf] at h
      cases hr : bookT bb n (nxT bb n t) with
      | inl e => rw [hr] at h; cases h
      | inr r =>
        rw [hr, bnd_r] at h
        injection h with h
        subst h
        obtain ⟨r1, r2, r3, r4, r5⟩ := book_ok (gtk_nx ht) hr
        have hlt := hst (by decide) w
        refine ⟨⟨⟨by show B.1 ≤ nb + 1; omega, by show nb + 1 ≤ 10; omega⟩, ⟨l1, l2⟩, ⟨o1, o2⟩, ⟨h1, h2⟩, r1⟩, ⟨fun i i1 i2 => ?_, fun i i1 i2 => ?_, p3, p4⟩, by show t.2.1 < r.2.2.2.2.1; omega⟩
        · show (∃ g, 1 ≤ g ∧ g ≤ 9998 ∧ upd (D 4) nb (nI r.1) i - upd (D 5) nb (nI r.2.1) i = nI g) ∧ ∃ p, 1 ≤ p ∧ p ≤ 99 ∧ upd (D 6) nb (nI r.2.2.1) i = nI p
          have i2' : i < nb + 1 := i2
          by_cases e : i = nb
          · rw [e, upd_at, upd_at, upd_at]; exact ⟨r3, r.2.2.1, r4, r5, rfl⟩
          · rw [upd_ne _ _ e, upd_ne _ _ e, upd_ne _ _ e]; exact p1 i i1 (by omega)
        · obtain ⟨⟨b, q1, q2⟩, q3⟩ := p2 i i1 i2
          exact ⟨⟨b, by show b < nb + 1; omega, q2⟩, q3⟩
  · rw [if_neg w] at h
    by_cases w2 : wdN bb t = cW 1
    · rw [if_pos w2] at h
      by_cases hf : 12 ≤ nl
      · rw [if_pos hf] at h; cases h
      · rw [if_neg hf] at h
        cases hr : lineT bb n nb (nxT bb n t) with
        | inl e => rw [hr] at h; cases h
        | inr r =>
          rw [hr, bnd_r] at h
          injection h with h
          subst h
          obtain ⟨r1, r2, r3, r4, r5, r6, r7, r8, r9⟩ := line_ok (gtk_nx ht) hr
          have hlt := hst (by decide) w2
          refine ⟨⟨⟨b1, b2⟩, ⟨by show B.2.1 ≤ nl + 1; omega, by show nl + 1 ≤ 12; omega⟩, ⟨o1, o2⟩, ⟨h1, h2⟩, r1⟩, ⟨p1, fun i i1 i2 => ?_, p3, p4⟩, by show t.2.1 < r.2.2.2.2.2.2.2.1; omega⟩
          have i2' : i < nl + 1 := i2
          show (∃ b, b < nb ∧ upd (D 8) nl (nI r.1) i = nI b) ∧ (∃ s, s < 5 ∧ upd (D 9) nl (nI r.2.1) i = nI s) ∧ (∃ s, s < 4 ∧ upd (D 10) nl (nI r.2.2.1) i = nI s) ∧ (∃ n, 1 ≤ n ∧ n ≤ 99 ∧ upd (D 11) nl (nI r.2.2.2.1) i = nI n) ∧ (upd (D 12) nl r.2.2.2.2.2.1 i = -1000000 ∨ ∃ a, a ≤ 120 ∧ upd (D 12) nl r.2.2.2.2.2.1 i = nI a) ∧ ∃ z, 1 ≤ z ∧ z ≤ 8 ∧ upd (D 13) nl (nI (r.2.2.2.2.1.2.2 - r.2.2.2.2.1.2.1)) i = nI z ∧ ∀ k, k < z → ∃ x, x < 26 ∧ nameD bb (D 14) nl r.2.2.2.2.1 (8 * i + k) = nI x
          by_cases e : i = nl
          · rw [e, upd_at, upd_at, upd_at, upd_at, upd_at, upd_at]
            refine ⟨⟨r.1, r3, rfl⟩, ⟨r.2.1, r4, rfl⟩, ⟨r.2.2.1, r5, rfl⟩, ⟨r.2.2.2.1, r6.1, r6.2, rfl⟩, r7, _, r8.1, r8.2, rfl, fun k hk => ⟨bb (r.2.2.2.2.1.2.1 + k) - 97, ?_, ?_⟩⟩
            · have := r9 k hk
              rw [leB, decide_eq_true_iff] at this
              omega
            · rw [nameD, if_pos (by omega), show 8 * nl + k - 8 * nl = k by omega]
          · rw [upd_ne _ _ e, upd_ne _ _ e, upd_ne _ _ e, upd_ne _ _ e, upd_ne _ _ e, upd_ne _ _ e]
            obtain ⟨q1, q2, q3, q4, q5, z, q6, q7, q8, q9⟩ := p2 i i1 (by omega)
            refine ⟨q1, q2, q3, q4, q5, z, q6, q7, q8, fun k hk => ?_⟩
            rw [nameD, if_neg (by omega)]
            exact q9 k hk
    · rw [if_neg w2] at h
      by_cases w3 : wdN bb t = cW 2
      · rw [if_pos w3] at h
        by_cases hf : 20 ≤ no
        · rw [if_pos hf] at h; cases h
        · rw [if_neg hf] at h
          cases hr : orderT bb n (nxT bb n t) with
          | inl e => rw [hr] at h; cases h
          | inr r =>
            rw [hr, bnd_r] at h
            injection h with h
            subst h
            obtain ⟨r1, r2, r3, r4, r5, r6⟩ := order_ok (gtk_nx ht) hr
            have hlt := hst (by decide) w3
            refine ⟨⟨⟨b1, b2⟩, ⟨l1, l2⟩, ⟨by show B.2.2.1 ≤ no + 1; omega, by show no + 1 ≤ 20; omega⟩, ⟨h1, h2⟩, r1⟩, ⟨p1, p2, fun i i1 i2 => ?_, p4⟩, by show t.2.1 < r.2.2.2.2.2.1; omega⟩
            have i2' : i < no + 1 := i2
            show (∃ y, 1 ≤ y ∧ y ≤ 9998 ∧ upd (D 15) no (nI r.1) i = nI y) ∧ (∃ s, s < 4 ∧ upd (D 16) no (nI r.2.1) i = nI s) ∧ (∃ n, 1 ≤ n ∧ n ≤ 99 ∧ upd (D 17) no (nI r.2.2.1) i = nI n) ∧ (∃ n, 1 ≤ n ∧ n ≤ 99 ∧ upd (D 18) no (nI r.2.2.2.1) i = nI n)
            by_cases e : i = no
            · rw [e, upd_at, upd_at, upd_at, upd_at]
              exact ⟨⟨_, r3.1, r3.2, rfl⟩, ⟨_, r4, rfl⟩, ⟨_, r5.1, r5.2, rfl⟩, ⟨_, r6.1, r6.2, rfl⟩⟩
            · rw [upd_ne _ _ e, upd_ne _ _ e, upd_ne _ _ e, upd_ne _ _ e]; exact p3 i i1 (by omega)
      · rw [if_neg w3] at h
        by_cases w4 : wdN bb t = cW 3
        · rw [if_pos w4] at h
          by_cases hf : 20 ≤ nh
          · rw [if_pos hf] at h; cases h
          · rw [if_neg hf] at h
            cases hr : houseT bb n (nxT bb n t) with
            | inl e => rw [hr] at h; cases h
            | inr r =>
              rw [hr, bnd_r] at h
              injection h with h
              subst h
              obtain ⟨r1, r2, r3, r4, r5, r6⟩ := house_ok (gtk_nx ht) hr
              have hlt := hst (by decide) w4
              refine ⟨⟨⟨b1, b2⟩, ⟨l1, l2⟩, ⟨o1, o2⟩, ⟨by show B.2.2.2 ≤ nh + 1; omega, by show nh + 1 ≤ 20; omega⟩, r1⟩, ⟨p1, p2, p3, fun i i1 i2 => ?_⟩, by show t.2.1 < r.2.2.2.2.2.1; omega⟩
              have i2' : i < nh + 1 := i2
              show (∃ s, s < 4 ∧ upd (D 19) nh (nI r.1) i = nI s) ∧ (∃ n, 1 ≤ n ∧ n ≤ 99 ∧ upd (D 20) nh (nI r.2.1) i = nI n) ∧ ∃ f t, f < t ∧ t ≤ 9999 ∧ upd (D 21) nh (nI r.2.2.1) i = nI f ∧ upd (D 22) nh (nI r.2.2.2.1) i = nI t
              by_cases e : i = nh
              · rw [e, upd_at, upd_at, upd_at, upd_at]
                exact ⟨⟨_, r3, rfl⟩, ⟨_, r4.1, r4.2, rfl⟩, _, _, r5, r6, rfl, rfl⟩
              · rw [upd_ne _ _ e, upd_ne _ _ e, upd_ne _ _ e, upd_ne _ _ e]; exact p4 i i1 (by omega)
        · rw [if_neg w4] at h; cases h
theorem c_readAllC {G : GV} {k n : Nat} {M0 : Mem} {bb : Nat → Nat} {B : Nat × Nat × Nat × Nat} {q : Int32 → Mem → Prop} (hn : n ≤ 600) (hb : ∀ i, i < n → bb i < 256 ∧ M0.1 16 i = sb (bb i)) : ∀ fu j F W, n < W.2.2.2.2.2.2.1 + fu → j ≤ W.2.2.2.2.2.2.1 → WB bb n B W → WO B W → RC bb n M0 B F W → elS (rdW bb n fu W) (FlB M0 B q) (fun W' => ∀ F', RC bb n M0 B F' W' → q 1 (Rp SC M0 F')) → V shC G mX8_readAll (k + 8) 65 [(0, .ref (G.2.1 8)), (1, .int (nI j))] [] (Rp SC M0 F) (Qi q) := by
  intro fu
  induction fu with
  | zero =>
    intro j F W hf hj hW hO hR h
    have h1 := gtk_le hW.2.2.2.2
    omega
  | succ fu ih =>
    intro j F W hf hj hW hO hR h
    have h1 := gtk_le hW.2.2.2.2
    have h5 : W.2.2.2.2.2.1 < 5 := by
      obtain ⟨e, he, hte⟩ := hW.2.2.2.2
      rw [hte]; exact tok_5 bb n e
    refine wp_X8_readAll_65 ⟨fun c => absurd c (nI_nlt (b := j) (a := 600) (by omega) (by decide)), fun _ => ?_⟩
    rw [show (Rp SC M0 F).1 2 2 = nI W.2.2.2.2.2.1 from hR.2.1.2.1]
    rw [rdW] at h
    by_cases hk : W.2.2.2.2.2.1 = 0
    · rw [if_pos hk] at h
      rw [hk]
      exact ⟨fun c => absurd rfl c, fun _ => h F hR⟩
    · rw [if_neg hk] at h
      refine ⟨fun _ => c_readPart hn hb hW hR ?_, fun c => absurd ((nI_eq (b := 0) (by omega) (by omega)).mp c) hk⟩
      cases hp : partW bb n W with
      | inl e => rw [hp] at h; exact fun F' a b c => n0 (h F' a b c)
      | inr W' =>
        rw [hp, bnd_r] at h
        obtain ⟨w1, w2, w3⟩ := part_ok hW hO hp
        intro F' hR'
        rw [nI_1]
        exact n1 (ih (j + 1) F' W' (by omega) (by omega) w1 w2 hR' h)
