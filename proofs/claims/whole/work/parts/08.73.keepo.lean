/-! read: what is told is kept: the orders, of the class -/
def TT (_ : Nat) : Bool := true
def rowO (F d : Nat → Nat → Int32) (j p : Nat) : Prop := F 20 j = d 15 p ∧ F 21 j = d 16 p ∧ F 22 j = d 17 p ∧ F 23 j = d 18 p
def putF (F : Nat → Nat → Int32) (a : Nat) (v2 v3 v4 v5 : Int32) : Nat → Nat → Int32 := sF (sF (sF (sF F 20 (upd (F 20) a v2)) 21 (upd (F 21) a v3)) 22 (upd (F 22) a v4)) 23 (upd (F 23) a v5)
theorem put_k {F : Nat → Nat → Int32} {a k : Nat} {v2 v3 v4 v5 : Int32} (h : k < 20 ∨ 23 < k) : putF F a v2 v3 v4 v5 k = F k := by
  unfold putF
  rw [sF_ne (by omega), sF_ne (by omega), sF_ne (by omega), sF_ne (by omega)]
theorem put_ne {F : Nat → Nat → Int32} {a j : Nat} {v2 v3 v4 v5 : Int32} (h : j ≠ a) : putF F a v2 v3 v4 v5 20 j = F 20 j ∧ putF F a v2 v3 v4 v5 21 j = F 21 j ∧ putF F a v2 v3 v4 v5 22 j = F 22 j ∧ putF F a v2 v3 v4 v5 23 j = F 23 j := ⟨upd_ne (F 20) v2 h, upd_ne (F 21) v3 h, upd_ne (F 22) v4 h, upd_ne (F 23) v5 h⟩
theorem put_at {F d : Nat → Nat → Int32} {a p : Nat} : rowO (putF F a (d 15 p) (d 16 p) (d 17 p) (d 18 p)) d a p := ⟨upd_at (F 20) a _, upd_at (F 21) a _, upd_at (F 22) a _, upd_at (F 23) a _⟩
theorem put_row {F d : Nat → Nat → Int32} {a j p : Nat} {v2 v3 v4 v5 : Int32} (h : j ≠ a) (hr : rowO F d j p) : rowO (putF F a v2 v3 v4 v5) d j p := by
  obtain ⟨e1, e2, e3, e4⟩ := put_ne (F := F) (v2 := v2) (v3 := v3) (v4 := v4) (v5 := v5) h
  exact ⟨e1.trans hr.1, e2.trans hr.2.1, e3.trans hr.2.2.1, e4.trans hr.2.2.2⟩
theorem nI_am1 (a : Nat) : nI (a + 1) + (-1) = nI a := by
  rw [show nI (a + 1) + (-1) = nI (a + 1) - 1 from by rw [Int32.sub_eq_add_neg]]
  exact nI_s1 (a + 1) (by omega)
section
variable {G : GV} {k : Nat} {M0 : Mem} {F d : Nat → Nat → Int32} {q : Mem → Prop}
theorem c_put {a : Nat} {v2 v3 v4 v5 : Int32} (ha : a < 20) (h : q (Rp TT M0 (putF F a v2 v3 v4 v5))) : Cv shC G mX6_put k [.ref (G.2.1 4), .int (nI a), .int v2, .int v3, .int v4, .int v5] (Rp TT M0 F) q := by
  have vb : vp_in (nI a) 20 := vp_in_nI ha (by decide)
  refine wp_X6_put ⟨vb, vb, vb, vb, ?_⟩
  rw [ix_nI (by omega), Rp_mset rfl, Rp_mset rfl, Rp_mset rfl, Rp_mset rfl]
  exact h
theorem c_sortIn {i : Nat} (hi : i < 20) (hd : rowO F d i i) (hs : ∀ j, j < i → rowO F d j ((srtO (d 15) i).getD j 0)) (h : ∀ F', (∀ k, (k < 20 ∨ 23 < k) → F' k = F k) → (∀ j, i < j → F' 20 j = F 20 j ∧ F' 21 j = F 21 j ∧ F' 22 j = F 22 j ∧ F' 23 j = F 23 j) → (∀ j, j ≤ i → rowO F' d j ((srtO (d 15) (i + 1)).getD j 0)) → q (Rp TT M0 F')) : Cv shC G mX6_sortIn (k + 1) [.ref (G.2.1 4), .int (nI i)] (Rp TT M0 F) q := by
  have vb : vp_in (nI i) 20 := vp_in_nI hi (by decide)
  obtain ⟨L, hL⟩ : ∃ L, L = srtO (d 15) i := ⟨_, rfl⟩
  have hlen : L.length = i := by rw [hL]; exact len_srtO
  have hpw : L.Pairwise (RO (d 15)) := by rw [hL]; exact pw_srtO _ _
  rw [← hL] at hs
  refine wp_X6_sortIn ⟨vb, vb, vb, vb, ?_⟩
  rw [ix_nI (by omega), show (Rp TT M0 F).1 20 i = d 15 i from hd.1, show (Rp TT M0 F).1 21 i = d 16 i from hd.2.1, show (Rp TT M0 F).1 22 i = d 17 i from hd.2.2.1, show (Rp TT M0 F).1 23 i = d 18 i from hd.2.2.2]
  have fin : ∀ a F', a ≤ i → (∀ k, (k < 20 ∨ 23 < k) → F' k = F k) → (∀ j, i < j → F' 20 j = F 20 j ∧ F' 21 j = F 21 j ∧ F' 22 j = F 22 j ∧ F' 23 j = F 23 j) → (∀ j, j < a → rowO F' d j (L.getD j 0)) → (∀ j, a < j → j ≤ i → rowO F' d j (L.getD (j - 1) 0)) → (∀ j, a ≤ j → j < i → d 15 i < d 15 (L.getD j 0)) → (∀ j, j < a → ¬ d 15 i < d 15 (L.getD j 0)) → Cv shC G mX6_put k [.ref (G.2.1 4), .int (nI a), .int (d 15 i), .int (d 16 i), .int (d 17 i), .int (d 18 i)] (Rp TT M0 F') (fun M1 => q M1) := by
    intro a F' ha hk hg h1 h2 h3 h4
    refine c_put (by omega) (h _ (fun k c => by rw [put_k c]; exact hk k c) (fun j hj => ?_) (fun j hj => ?_))
    · obtain ⟨e1, e2, e3, e4⟩ := put_ne (F := F') (a := a) (j := j) (v2 := d 15 i) (v3 := d 16 i) (v4 := d 17 i) (v5 := d 18 i) (by omega)
      obtain ⟨g1, g2, g3, g4⟩ := hg j hj
      exact ⟨e1.trans g1, e2.trans g2, e3.trans g3, e4.trans g4⟩
    · rw [srtO, ← hL, insO_at L a (by omega) h4 (fun c => h3 a (Nat.le_refl _) (by omega)), ins_getD L a j (by omega)]
      by_cases c1 : j < a
      · rw [if_pos c1]; exact put_row (by omega) (h1 j c1)
      · rw [if_neg c1]
        by_cases c2 : j = a
        · rw [if_pos c2, c2]; exact put_at
        · rw [if_neg c2]; exact put_row c2 (h2 j (by omega) hj)
  have loop : ∀ a F', a ≤ i → (∀ k, (k < 20 ∨ 23 < k) → F' k = F k) → (∀ j, i < j → F' 20 j = F 20 j ∧ F' 21 j = F 21 j ∧ F' 22 j = F 22 j ∧ F' 23 j = F 23 j) → (∀ j, j < a → rowO F' d j (L.getD j 0)) → (∀ j, a < j → j ≤ i → rowO F' d j (L.getD (j - 1) 0)) → (∀ j, a ≤ j → j < i → d 15 i < d 15 (L.getD j 0)) → V shC G mX6_sortIn (k + 1) 33 [(0, .ref (G.2.1 4)), (1, .int (nI i)), (2, .int (d 15 i)), (3, .int (d 16 i)), (4, .int (d 17 i)), (5, .int (d 18 i)), (6, .int (nI a))] [] (Rp TT M0 F') (Qv q) := by
    intro a
    induction a with
    | zero =>
      intro F' ha hk hg h1 h2 h3
      exact wp_X6_sortIn_33 ⟨fun _ => fin 0 F' ha hk hg h1 h2 h3 (fun j hj => absurd hj (by omega)), fun c => absurd (by decide) c⟩
    | succ a ih =>
      intro F' ha hk hg h1 h2 h3
      have r := h1 a (by omega)
      have va : vp_in (nI a) 20 := vp_in_nI (by omega) (by decide)
      refine wp_X6_sortIn_33 ⟨fun c => absurd ((nI_leI (b := 0) (by omega) (by decide)).mp c) (by omega), fun _ => ?_⟩
      rw [show nI (a + 1) - 1 = nI a from nI_s1 (a + 1) (by omega), nI_am1, ix_nI (show a < 2 ^ 31 by omega), show (Rp TT M0 F').1 20 a = d 15 (L.getD a 0) from r.1, show (Rp TT M0 F').1 21 a = d 16 (L.getD a 0) from r.2.1, show (Rp TT M0 F').1 22 a = d 17 (L.getD a 0) from r.2.2.1, show (Rp TT M0 F').1 23 a = d 18 (L.getD a 0) from r.2.2.2]
      refine ⟨va, fun c => fin (a + 1) F' ha hk hg h1 h2 h3 (fun j hj => ?_), fun c => ⟨va, va, va, va, ?_⟩⟩
      · by_cases e : j = a
        · rw [e]; exact Int32.not_lt.mpr c
        · have hro := pw_get hpw (show j < a by omega) (show a < L.length by omega)
          have hc := Int32.le_iff_toInt_le.mp c
          unfold RO at hro
          intro hlt
          have := Int32.lt_iff_toInt_lt.mp hlt
          omega
      · refine c_put (by omega) (ih _ (by omega) (fun k c => by rw [put_k c]; exact hk k c) (fun j hj => ?_) (fun j hj => put_row (by omega) (h1 j (by omega))) (fun j j1 j2 => ?_) (fun j j1 j2 => ?_))
        · obtain ⟨e1, e2, e3, e4⟩ := put_ne (F := F') (a := a + 1) (j := j) (v2 := d 15 (L.getD a 0)) (v3 := d 16 (L.getD a 0)) (v4 := d 17 (L.getD a 0)) (v5 := d 18 (L.getD a 0)) (by omega)
          obtain ⟨g1, g2, g3, g4⟩ := hg j hj
          exact ⟨e1.trans g1, e2.trans g2, e3.trans g3, e4.trans g4⟩
        · by_cases e : j = a + 1
          · rw [e]; exact put_at
          · exact put_row e (h2 j (by omega) j2)
        · by_cases e : j = a
          · rw [e]; exact Int32.not_le.mp c
          · exact h3 j (by omega) j2
  exact loop i F (Nat.le_refl _) (fun _ _ => rfl) (fun _ _ => ⟨rfl, rfl, rfl, rfl⟩) hs (fun j j1 j2 => by omega) (fun j j1 j2 => by omega)
theorem c_keepO {n : Nat} (hn : n ≤ 20) : ∀ m i F, i + m = n → F 4 4 = nI i → F 4 5 = nI n → (∀ j, j < i → rowO F d j ((srtO (d 15) i).getD j 0)) → (∀ j, i ≤ j → j < n → rowO F d j j) → (∀ F', (∀ k, (k < 20 ∨ 23 < k) → k ≠ 4 → F' k = F k) → (∀ j, j ≠ 4 → F' 4 j = F 4 j) → F' 4 4 = nI n → (∀ j, j < n → rowO F' d j ((srtO (d 15) n).getD j 0)) → q (Rp TT M0 F')) → V shC G mX6_keep (k + 2) 0 [(0, .ref (G.2.1 4))] [] (Rp TT M0 F) (Qv q) := by
  intro m
  induction m with
  | zero =>
    intro i F hi e4 e5 h1 h2 h
    obtain rfl : i = n := by omega
    exact wp_X6_keep_0 ⟨fun _ => h F (fun _ _ _ => rfl) (fun _ _ => rfl) e4 h1, fun c => absurd (show (Rp TT M0 F).1 4 5 ≤ (Rp TT M0 F).1 4 4 from by rw [show (Rp TT M0 F).1 4 5 = nI i from e5, show (Rp TT M0 F).1 4 4 = nI i from e4]; exact nI_le (Nat.le_refl _) (by omega)) c⟩
  | succ m ih =>
    intro i F hi e4 e5 h1 h2 h
    refine wp_X6_keep_0 ?_
    rw [show (Rp TT M0 F).1 4 5 = nI n from e5, show (Rp TT M0 F).1 4 4 = nI i from e4]
    refine ⟨fun c => absurd c (nI_ge (by omega) (by omega)), fun _ => c_sortIn (d := d) (by omega) (h2 i (Nat.le_refl _) (by omega)) h1 (fun F1 hk hg hr => ?_)⟩
    rw [show (Rp TT M0 F1).1 4 4 = nI i from by rw [show (Rp TT M0 F1).1 4 4 = F1 4 4 from rfl, hk 4 (by omega)]; exact e4, nI_1, Rp_mset rfl]
    refine ih (i + 1) _ (by omega) (by rw [sF_at, upd_at]) (by rw [sF_at, upd_ne _ _ (by decide), hk 4 (by omega)]; exact e5) (fun j hj => hr j (by omega)) (fun j j1 j2 => ?_) (fun F2 b1 b2 b3 b4 => h F2 (fun k c1 c2 => ?_) (fun j hj => ?_) b3 b4)
    · obtain ⟨g1, g2, g3, g4⟩ := hg j (by omega)
      obtain ⟨r1, r2, r3, r4⟩ := h2 j (by omega) j2
      exact ⟨g1.trans r1, g2.trans r2, g3.trans r3, g4.trans r4⟩
    · rw [b1 k c1 c2, sF_ne c2, hk k c1]
    · rw [b2 j hj, sF_at, upd_ne _ _ hj, hk 4 (by omega)]
theorem c_nTodayO {q : Int32 → Mem → Prop} {M : Mem} {s n y : Int32} {N : Nat} (hN : N ≤ 20) (e0 : ix (d 0 18) = N) (e4 : M.1 4 4 = nI N) (hr : ∀ i, i < N → rowO M.1 d i ((ordS d).getD i 0)) (h : q (todayS d s n y) M) : Ci shC G mX6_numberToday k [.ref (G.2.1 4), .int s, .int n, .int y] M q := by
  have hlen := len_ordS d
  have loop : ∀ m i now, i + m = N → q (((ordS d).drop i).foldl (tdy d s y) now) M → V shC G mX6_numberToday k 6 [(0, .ref (G.2.1 4)), (1, .int s), (2, .int n), (3, .int y), (4, .int now), (5, .int (nI i))] [] M (Qi q) := by
    intro m
    induction m with
    | zero =>
      intro i now hi hq
      rw [List.drop_eq_nil_of_le (by omega)] at hq
      exact wp_X6_numberToday_6 ⟨fun _ => hq, fun c => absurd (by rw [e4]; exact nI_le (by omega) (by omega)) c⟩
    | succ m ih =>
      intro i now hi hq
      have hin : i < (ordS d).length := by omega
      rw [List.drop_eq_getElem_cons hin, List.foldl_cons] at hq
      have tt := hr i (by omega)
      rw [getD_get hin] at tt
      obtain ⟨t20, t21, t22, t23⟩ := tt
      have hv : vp_in (nI i) 20 := vp_in_nI (by omega) (by decide)
      refine wp_X6_numberToday_6 ⟨fun c => absurd c (by rw [e4]; exact nI_ge (by omega) (by omega)), fun _ => ⟨hv, ?_⟩⟩
      rw [ix_nI (show i < 2 ^ 31 by omega), t20, t21, t22, t23, nI_1]
      refine ⟨fun c => ih (i + 1) _ (by omega) ?_, fun c => ⟨hv, fun c2 => ih (i + 1) _ (by omega) ?_, fun c2 => ⟨hv, fun c3 => ih (i + 1) _ (by omega) ?_, fun c3 => ⟨hv, ih (i + 1) _ (by omega) ?_⟩⟩⟩⟩
      · rw [tdy, if_neg (fun h => Int32.not_lt.mpr c h.1)] at hq; exact hq
      · rw [tdy, if_neg (fun h => c2 h.2.1)] at hq; exact hq
      · rw [tdy, if_neg (fun h => c3 h.2.2)] at hq; exact hq
      · rw [tdy, if_pos ⟨Int32.not_le.mp c, c2, c3⟩] at hq; exact hq
  refine wp_X6_numberToday (loop N 0 n (by omega) ?_)
  rw [List.drop_zero]; exact h
end
/-- the sorted orders look only at the years below the count -/
theorem insO_congr {y y' : Nat → Int32} {k : Nat} : ∀ L : List Nat, (∀ x, x ∈ L → y x = y' x) → y k = y' k → insO y k L = insO y' k L := by
  intro L
  induction L with
  | nil => intro _ _; rfl
  | cons a t ih =>
    intro h hk
    rw [insO, insO, hk, h a (by simp), ih (fun x hx => h x (List.mem_cons_of_mem _ hx)) hk]
theorem srtO_congr {y y' : Nat → Int32} : ∀ n, (∀ x, x < n → y x = y' x) → srtO y n = srtO y' n := by
  intro n
  induction n with
  | zero => intro _; rfl
  | succ n ih =>
    intro h
    rw [srtO, srtO, ih (fun x hx => h x (by omega)), insO_congr _ (fun x hx => h x (by have := mem_srtO.mp hx; omega)) (h n (by omega))]
