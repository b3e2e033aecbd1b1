/-! read: what is told is kept: the lines, of the class -/
theorem bl1 {p : Nat → Bool} {i j : Nat} (hp : p i = true) : ((decide (j < i) && p j) || decide (j = i)) = (decide (j < i + 1) && p j) := by
  by_cases e : j = i
  · subst e; simp [hp]
  · have h : decide (j < i + 1) = decide (j < i) := decide_eq_decide.mpr (by omega)
    rw [h, decide_eq_false e, Bool.or_false]
theorem bl0 {p : Nat → Bool} {i j : Nat} (hp : p i = false) : (decide (j < i) && p j) = (decide (j < i + 1) && p j) := by
  by_cases e : j = i
  · subst e; simp [hp]
  · have h : decide (j < i + 1) = decide (j < i) := decide_eq_decide.mpr (by omega)
    rw [h]
theorem like_self (d : Nat → Nat → Int32) (a : Nat) : likeS d a a = true := by rw [likeS, decide_eq_true rfl, Bool.true_or]
theorem lnot {a b : Int32} (h : ¬ a < b) (h2 : a < b) : False := h h2
section
variable {G : GV} {k : Nat} {M0 : Mem} {F d : Nat → Nat → Int32} {q : Mem → Prop}
theorem c_compare {i n : Nat} (hW : WFm d) (hN : ix (d 0 10) = n) (hi : i < n) (h38 : ∀ l, l < n → F 38 l = d 13 l) (h35 : ∀ l, l < n → ∀ k, k < ix (d 13 l) → F 35 (8 * l + k) = d 14 (8 * l + k)) (h39 : ∀ l, l < i → F 39 l = nI (earN d l)) (h37 : ∀ l, l < i → ∀ j, j < 32 → bt (F 37 l) j = (decide (j < i) && likeS d l j)) (h : ∀ F', (∀ k, k ≠ 36 → k ≠ 37 → k ≠ 39 → F' k = F k) → (∀ l, l < i + 1 → F' 39 l = nI (earN d l)) → (∀ l, l < i + 1 → ∀ j, j < 32 → bt (F' 37 l) j = (decide (j < i + 1) && likeS d l j)) → q (Rp TT M0 F')) : Cv shC G mX5_compare (k + 3) [.ref (G.2.1 7), .int (nI i)] (Rp TT M0 F) q := by
  have hn : n ≤ 12 := by rw [← hN]; exact hW.2.1.2
  have vi : vp_in (nI i) 12 := vp_in_nI (by omega) (by decide)
  obtain ⟨zi, i1, i8, ei, ezi, hki⟩ := WF_name hW (show i < ix (d 0 10) by omega)
  refine wp_X5_compare (c_earOfC (x := fun k => ix (d 14 (8 * i + k))) (z := ix (d 13 i)) (by omega) (by omega) (by omega) ?_ ?_ ?_)
  · show F 38 i = _
    rw [h38 i hi, ezi]; exact ei
  · intro k' hk'
    have := hki k' (by omega)
    show F 35 (8 * i + k') = _ ∧ _
    rw [h35 i hi k' hk']; exact this
  refine ⟨vi, vi, ?_⟩
  rw [ix_nI (by omega), ← earN_F, Rp_mset rfl, Rp_mset rfl]
  obtain ⟨F1, hF1⟩ : ∃ F1, F1 = sF (sF F 39 (upd (F 39) i (nI (earN d i)))) 37 (upd (sF F 39 (upd (F 39) i (nI (earN d i))) 37) i (1 <<< (nI i &&& 31))) := ⟨_, rfl⟩
  rw [← hF1]
  have loop : ∀ m a F', a + m = i → (∀ k, k ≠ 36 → k ≠ 37 → k ≠ 39 → F' k = F k) → (∀ l, l < i + 1 → F' 39 l = nI (earN d l)) → (∀ l, l < a → ∀ j, j < 32 → bt (F' 37 l) j = (decide (j < i + 1) && likeS d l j)) → (∀ l, a ≤ l → l < i → ∀ j, j < 32 → bt (F' 37 l) j = (decide (j < i) && likeS d l j)) → (∀ j, j < 32 → bt (F' 37 i) j = ((decide (j < a) && likeS d i j) || decide (j = i))) → V shC G mX5_compare (k + 3) 22 [(0, .ref (G.2.1 7)), (1, .int (nI i)), (2, .int (nI a))] [] (Rp TT M0 F') (Qv q) := by
    intro m
    induction m with
    | zero =>
      intro a F' ha hk hE hA hB hC
      obtain rfl : a = i := by omega
      refine wp_X5_compare_22 ⟨fun _ => h F' hk hE (fun l hl j hj => ?_), fun c => absurd (nI_le (Nat.le_refl _) (by omega)) c⟩
      by_cases e : l = a
      · rw [e, hC j hj, bl1 (p := likeS d a) (like_self d a)]
      · exact hA l (by omega) j hj
    | succ m ih =>
      intro a F' ha hk hE hA hB hC
      have va : vp_in (nI a) 12 := vp_in_nI (by omega) (by decide)
      obtain ⟨za, a1, a8, ea, eza, hka⟩ := WF_name hW (show a < ix (d 0 10) by omega)
      have la := earN_lt hW (show a < ix (d 0 10) by omega)
      have li := earN_lt hW (show i < ix (d 0 10) by omega)
      refine wp_X5_compare_22 ⟨fun c => absurd c (nI_ge (by omega) (by omega)), fun _ => ⟨va, vi, ?_⟩⟩
      rw [ix_nI (show a < 2 ^ 31 by omega), ix_nI (show i < 2 ^ 31 by omega), nI_1]
      -- both are like: a bit on each side
      have yes : ∀ F2 : Nat → Nat → Int32, (∀ k, k ≠ 36 → F2 k = F' k) → likeS d a i = true → vp_in (nI a) 12 ∧ vp_in (nI a) 12 ∧ vp_in (nI i) 12 ∧ vp_in (nI i) 12 ∧ V shC G mX5_compare (k + 3) 22 [(0, .ref (G.2.1 7)), (1, .int (nI i)), (2, .int (nI (a + 1)))] [] (mset (mset (Rp TT M0 F2) 37 a (((Rp TT M0 F2).1 37 a) ||| (1 <<< (nI i &&& 31)))) 37 i (((mset (Rp TT M0 F2) 37 a (((Rp TT M0 F2).1 37 a) ||| (1 <<< (nI i &&& 31)))).1 37 i) ||| (1 <<< (nI a &&& 31)))) (Qv q) := by
        intro F2 hF2 hl
        refine ⟨va, va, vi, vi, ?_⟩
        rw [Rp_mset rfl, Rp_mset rfl, show (Rp TT M0 F2).1 37 a = F2 37 a from rfl, show (Rp TT M0 (sF F2 37 (upd (F2 37) a (F2 37 a ||| 1 <<< (nI i &&& 31))))).1 37 i = F2 37 i from upd_ne (F2 37) _ (by omega), sF_at, hF2 37 (by decide)]
        obtain ⟨F3, hF3⟩ : ∃ F3, F3 = sF (sF F2 37 (upd (F' 37) a (F' 37 a ||| 1 <<< (nI i &&& 31)))) 37 (upd (upd (F' 37) a (F' 37 a ||| 1 <<< (nI i &&& 31))) i (F' 37 i ||| 1 <<< (nI a &&& 31))) := ⟨_, rfl⟩
        rw [← hF3]
        have w : F3 37 = upd (upd (F' 37) a (F' 37 a ||| 1 <<< (nI i &&& 31))) i (F' 37 i ||| 1 <<< (nI a &&& 31)) := by rw [hF3, sF_at]
        have wk : ∀ k, k ≠ 36 → k ≠ 37 → F3 k = F' k := fun k p1 p2 => by rw [hF3, sF_ne p2, sF_ne p2, hF2 k p1]
        refine ih (a + 1) F3 (by omega) (fun k p1 p2 p3 => by rw [wk k p1 p2]; exact hk k p1 p2 p3) (fun l hl' => by rw [wk 39 (by decide) (by decide)]; exact hE l hl') (fun l hl' j hj => ?_) (fun l l1 l2 j hj => ?_) (fun j hj => ?_)
        · rw [w, upd_ne _ _ (show l ≠ i by omega)]
          by_cases e : l = a
          · rw [e, upd_at, b_or, b_1sh (show i < 32 by omega) hj, hB a (Nat.le_refl _) (by omega) j hj, bl1 (p := likeS d a) hl]
          · rw [upd_ne _ _ e]; exact hA l (by omega) j hj
        · rw [w, upd_ne _ _ (show l ≠ i by omega), upd_ne _ _ (show l ≠ a by omega)]; exact hB l (by omega) l2 j hj
        · rw [w, upd_at, b_or, b_1sh (show a < 32 by omega) hj, hC j hj, Bool.or_assoc, Bool.or_comm (decide (j = i)), ← Bool.or_assoc, bl1 (p := likeS d i) (by rw [like_sym]; exact hl)]
      refine ⟨fun c => ?_, fun c => ?_⟩
      · have hE2 : earN d a = earN d i := (nI_eq (by omega) (by omega)).mp (by rw [← hE a (by omega), ← hE i (by omega)]; exact c)
        exact yes F' (fun _ _ => rfl) (by rw [likeS, decide_eq_true hE2, Bool.true_or])
      · have hE2 : ¬ earN d a = earN d i := fun e => c (by show F' 39 a = F' 39 i; rw [hE a (by omega), hE i (by omega), e])
        have p38 : ∀ l, l < n → F' 38 l = d 13 l := fun l hl => by rw [hk 38 (by decide) (by decide) (by decide)]; exact h38 l hl
        refine c_handC (za := ix (d 13 a)) (zb := ix (d 13 i)) (by omega) (by omega) (by omega) (by omega) (by show F' 38 a = _; rw [p38 a (by omega), eza]; exact ea) (by show F' 38 i = _; rw [p38 i hi, ezi]; exact ei) (fun f => ?_)
        have hh : hdN (fun i' j' => (Rp TT M0 F').1 35 (8 * a + i') == (Rp TT M0 F').1 35 (8 * i + j')) (ix (d 13 a)) (ix (d 13 i)) = handS d a i := hdN_congr (fun x y hx hy => by
          show (F' 35 (8 * a + x) == F' 35 (8 * i + y)) = (d 14 (8 * a + x) == d 14 (8 * i + y))
          rw [hk 35 (by decide) (by decide) (by decide), h35 a (by omega) x hx, h35 i hi y hy])
        have hle := hdN_le (fun i' j' => d 14 (8 * a + i') == d 14 (8 * i + j')) (ix (d 13 a)) (ix (d 13 i))
        have hle' : handS d a i ≤ ix (d 13 a) + ix (d 13 i) := hle
        rw [hh, Rp_aset rfl]
        have hF2 : ∀ k, k ≠ 36 → sF F' 36 f k = F' k := fun k p => sF_ne p
        refine ⟨fun c2 => ?_, fun c2 => yes (sF F' 36 f) hF2 ?_⟩
        · have h1 : 1 < handS d a i := (nI_ltI (a := 1) (by decide) (by omega)).mp c2
          have hl : likeS d a i = false := by rw [likeS, decide_eq_false hE2, decide_eq_false (by omega)]; rfl
          refine ih (a + 1) (sF F' 36 f) (by omega) (fun k p1 p2 p3 => by rw [hF2 k p1]; exact hk k p1 p2 p3) (fun l hl' => by rw [hF2 39 (by decide)]; exact hE l hl') (fun l hl' j hj => ?_) (fun l l1 l2 j hj => by rw [hF2 37 (by decide)]; exact hB l (by omega) l2 j hj) (fun j hj => ?_)
          · rw [hF2 37 (by decide)]
            by_cases e : l = a
            · rw [e, hB a (Nat.le_refl _) (by omega) j hj, bl0 (p := likeS d a) hl]
            · exact hA l (by omega) j hj
          · rw [hF2 37 (by decide), hC j hj, bl0 (p := likeS d i) (by rw [like_sym]; exact hl)]
        · have h1 : ¬ 1 < handS d a i := fun e => c2 (nI_lt (a := 1) e (by omega))
          rw [likeS, decide_eq_true (show handS d a i < 2 by omega), Bool.or_true]
  have l0 := loop i 0 F1 (by omega) (fun k p1 p2 p3 => by rw [hF1, sF_ne p2, sF_ne p3]) (fun l hl => ?_) (fun l hl => absurd hl (by omega)) (fun l _ l2 j hj => ?_) (fun j hj => ?_)
  · exact l0
  · rw [hF1, sF_ne (by decide), sF_at]
    by_cases e : l = i
    · rw [e, upd_at]
    · rw [upd_ne _ _ e]; exact h39 l (by omega)
  · rw [hF1, sF_at, upd_ne _ _ (by omega), sF_ne (by decide)]; exact h37 l l2 j hj
  · rw [hF1, sF_at, upd_at, b_1sh (show i < 32 by omega) hj, decide_eq_false (show ¬ j < 0 by omega), Bool.false_and, Bool.false_or]
theorem c_keepD {n N : Nat} (hW : WFm d) (hN : ix (d 0 10) = n) (hNO : ix (d 0 18) = N) : ∀ m a F, a + m = n → F 6 8 = nI n → F 4 4 = nI N → (∀ i, i < N → rowO F d i ((ordS d).getD i 0)) → (∀ l, l < n → F 30 l = d 10 l ∧ F 31 l = d 11 l ∧ F 33 l = gS d l) → (∀ l, l < a → F 34 l = doorS d l) → (∀ F', (∀ k, k ≠ 34 → F' k = F k) → (∀ l, l < n → F' 34 l = doorS d l) → q (Rp TT M0 F')) → V shC G mX3_keep (k + 4) 60 [(0, .ref (G.2.1 6)), (1, .ref (G.2.1 3)), (2, .ref (G.2.1 4)), (3, .int (nI a))] [] (Rp TT M0 F) (Qv q) := by
  have hn : n ≤ 12 := by rw [← hN]; exact hW.2.1.2
  have hN2 : N ≤ 20 := by rw [← hNO]; exact hW.2.2.1.2
  intro m
  induction m with
  | zero =>
    intro a F ha e68 e44 hr hl h34 h
    obtain rfl : a = n := by omega
    refine wp_X3_keep_60 ?_
    rw [show (Rp TT M0 F).1 6 8 = nI a from e68]
    exact ⟨fun _ => h F (fun _ _ => rfl) h34, fun c => absurd (nI_le (Nat.le_refl _) (by omega)) c⟩
  | succ m ih =>
    intro a F ha e68 e44 hr hl h34 h
    have va : vp_in (nI a) 12 := vp_in_nI (by omega) (by decide)
    obtain ⟨r1, r2, r3⟩ := hl a (by omega)
    refine wp_X3_keep_60 ?_
    rw [show (Rp TT M0 F).1 6 8 = nI n from e68, ix_nI (show a < 2 ^ 31 by omega), show (Rp TT M0 F).1 30 a = d 10 a from r1, show (Rp TT M0 F).1 31 a = d 11 a from r2, show (Rp TT M0 F).1 33 a = gS d a from r3, nI_1]
    refine ⟨fun c => absurd c (nI_ge (by omega) (by omega)), fun _ => ⟨va, va, va, c_nTodayO (d := d) hN2 hNO e44 hr ⟨va, ?_⟩⟩⟩
    rw [Rp_mset rfl]
    refine ih (a + 1) _ (by omega) e68 e44 hr hl (fun l hl' => ?_) (fun F2 hk hd => h F2 (fun k p => by rw [hk k p, sF_ne p]) hd)
    rw [sF_at]
    by_cases e : l = a
    · rw [e, upd_at]; rfl
    · rw [upd_ne _ _ e]; exact h34 l (by omega)
theorem c_keepL {n N : Nat} (hW : WFm d) (hN : ix (d 0 10) = n) (hNO : ix (d 0 18) = N) : ∀ m i F, i + m = n → F 6 8 = nI i → F 6 9 = nI n → F 4 4 = nI N → (∀ i, i < N → rowO F d i ((ordS d).getD i 0)) → (∀ b, b < ix (d 0 5) → F 17 b = d 4 b - d 5 b) → (∀ l, l < n → F 28 l = d 8 l ∧ F 30 l = d 10 l ∧ F 31 l = d 11 l ∧ F 38 l = d 13 l ∧ ∀ k, k < ix (d 13 l) → F 35 (8 * l + k) = d 14 (8 * l + k)) → (∀ l, l < i → F 33 l = gS d l ∧ F 39 l = nI (earN d l) ∧ ∀ j, j < 32 → bt (F 37 l) j = (decide (j < i) && likeS d l j)) → (∀ F', (∀ k, k ≠ 6 → k ≠ 33 → k ≠ 34 → k ≠ 36 → k ≠ 37 → k ≠ 39 → F' k = F k) → F' 6 8 = nI n → (∀ l, l < n → F' 33 l = gS d l ∧ F' 34 l = doorS d l ∧ F' 39 l = nI (earN d l) ∧ ∀ j, j < 32 → bt (F' 37 l) j = (decide (j < n) && likeS d l j)) → q (Rp TT M0 F')) → V shC G mX3_keep (k + 4) 0 [(0, .ref (G.2.1 6)), (1, .ref (G.2.1 3)), (2, .ref (G.2.1 4))] [] (Rp TT M0 F) (Qv q) := by
  have hn : n ≤ 12 := by rw [← hN]; exact hW.2.1.2
  intro m
  induction m with
  | zero =>
    intro i F hi e68 e69 e44 hr hb hl ho h
    obtain rfl : i = n := by omega
    refine wp_X3_keep_0 ?_
    rw [show (Rp TT M0 F).1 6 8 = nI i from e68, show (Rp TT M0 F).1 6 9 = nI i from e69]
    refine ⟨fun _ => c_keepD (N := N) hW hN hNO i 0 F (by omega) e68 e44 hr (fun l hl' => ⟨(hl l hl').2.1, (hl l hl').2.2.1, (ho l hl').1⟩) (fun l hl' => absurd hl' (by omega)) (fun F' hk h34 => ?_), fun c => absurd (nI_le (Nat.le_refl _) (by omega)) c⟩
    refine h F' (fun k p1 p2 p3 p4 p5 p6 => hk k p3) (by rw [hk 6 (by decide)]; exact e68) (fun l hl' => ?_)
    obtain ⟨o1, o2, o3⟩ := ho l hl'
    rw [hk 33 (by decide), hk 39 (by decide), hk 37 (by decide)]
    exact ⟨o1, h34 l hl', o2, o3⟩
  | succ m ih =>
    intro i F hi e68 e69 e44 hr hb hl ho h
    obtain ⟨⟨b, hb1, eb⟩, _⟩ := hW.2.2.2.2.2.1 i (by omega)
    have hb10 := hW.1.2
    have vi : vp_in (nI i) 12 := vp_in_nI (by omega) (by decide)
    refine wp_X3_keep_0 ?_
    rw [show (Rp TT M0 F).1 6 8 = nI i from e68, show (Rp TT M0 F).1 6 9 = nI n from e69, ix_nI (show i < 2 ^ 31 by omega), show (Rp TT M0 F).1 28 i = nI b from (hl i (by omega)).1.trans eb, ix_nI (show b < 2 ^ 31 by omega), show (Rp TT M0 F).1 17 b = d 4 b - d 5 b from hb b hb1]
    refine ⟨fun c => absurd c (nI_ge (by omega) (by omega)), fun _ => ⟨vi, vp_in_nI (by omega) (by decide), vi, ?_⟩⟩
    rw [Rp_mset rfl]
    have hg : gS d i = d 4 b - d 5 b := by rw [gS, eb, ix_nI (show b < 2 ^ 31 by omega)]
    refine c_compare (n := n) hW hN (by omega) (fun l hl' => (hl l hl').2.2.2.1) (fun l hl' => (hl l hl').2.2.2.2) (fun l hl' => (ho l (by omega)).2.1) (fun l hl' => (ho l (by omega)).2.2) (fun F1 hk hE hL => ?_)
    have w : ∀ k, k ≠ 33 → k ≠ 36 → k ≠ 37 → k ≠ 39 → F1 k = F k := fun k p1 p2 p3 p4 => by rw [hk k p2 p3 p4, sF_ne p1]
    have w33 : F1 33 = upd (F 33) i (d 4 b - d 5 b) := by rw [hk 33 (by decide) (by decide) (by decide), sF_at]
    rw [show (Rp TT M0 F1).1 6 8 = nI i from by rw [show (Rp TT M0 F1).1 6 8 = F1 6 8 from rfl, w 6 (by decide) (by decide) (by decide) (by decide)]; exact e68, nI_1, Rp_mset rfl]
    have v : ∀ k, k ≠ 6 → sF F1 6 (upd (F1 6) 8 (nI (i + 1))) k = F1 k := fun k p => sF_ne p
    refine ih (i + 1) _ (by omega) (by rw [sF_at, upd_at]) (by rw [sF_at, upd_ne _ _ (by decide), w 6 (by decide) (by decide) (by decide) (by decide)]; exact e69) (by rw [v 4 (by decide), w 4 (by decide) (by decide) (by decide) (by decide)]; exact e44) (fun i' hi' => ?_) (fun b' hb' => ?_) (fun l hl' => ?_) (fun l hl' => ?_) (fun F2 p1 p2 p3 => h F2 (fun k q1 q2 q3 q4 q5 q6 => by rw [p1 k q1 q2 q3 q4 q5 q6, v k q1, w k q2 q4 q5 q6]) p2 p3)
    · unfold rowO
      rw [v 20 (by decide), v 21 (by decide), v 22 (by decide), v 23 (by decide), w 20 (by decide) (by decide) (by decide) (by decide), w 21 (by decide) (by decide) (by decide) (by decide), w 22 (by decide) (by decide) (by decide) (by decide), w 23 (by decide) (by decide) (by decide) (by decide)]
      exact hr i' hi'
    · rw [v 17 (by decide), w 17 (by decide) (by decide) (by decide) (by decide)]; exact hb b' hb'
    · rw [v 28 (by decide), v 30 (by decide), v 31 (by decide), v 38 (by decide), v 35 (by decide), w 28 (by decide) (by decide) (by decide) (by decide), w 30 (by decide) (by decide) (by decide) (by decide), w 31 (by decide) (by decide) (by decide) (by decide), w 38 (by decide) (by decide) (by decide) (by decide), w 35 (by decide) (by decide) (by decide) (by decide)]
      exact hl l hl'
    · rw [v 33 (by decide), v 39 (by decide), v 37 (by decide), w33]
      refine ⟨?_, hE l hl', hL l hl'⟩
      by_cases e : l = i
      · rw [e, upd_at, hg]
      · rw [upd_ne _ _ e]; exact (ho l (by omega)).1
end
