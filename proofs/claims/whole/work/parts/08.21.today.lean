/-! TODAY -/
def RO (y : Nat → Int32) (a b : Nat) : Prop := (y a).toInt < (y b).toInt ∨ ((y a).toInt = (y b).toInt ∧ a < b)
theorem mem_insO {y : Nat → Int32} {k x : Nat} {t : List Nat} : x ∈ insO y k t ↔ x = k ∨ x ∈ t := by
  induction t with
  | nil => simp [insO]
  | cons a t ih =>
    unfold insO
    split
    · simp
    · rw [List.mem_cons, ih, List.mem_cons]
      constructor
      · rintro (h | h | h) <;> simp [h]
      · rintro (h | h | h) <;> simp [h]
theorem len_insO {y : Nat → Int32} {k : Nat} {t : List Nat} : (insO y k t).length = t.length + 1 := by
  induction t with
  | nil => simp [insO]
  | cons a t ih =>
    unfold insO
    split
    · simp
    · simp [ih]
theorem mem_srtO {y : Nat → Int32} {n x : Nat} : x ∈ srtO y n ↔ x < n := by
  induction n with
  | zero => simp [srtO]
  | succ n ih => rw [srtO, mem_insO, ih]; omega
theorem len_srtO {y : Nat → Int32} {n : Nat} : (srtO y n).length = n := by
  induction n with
  | zero => rfl
  | succ n ih => rw [srtO, len_insO, ih]
theorem pw_insO {y : Nat → Int32} {k : Nat} {t : List Nat} (ht : t.Pairwise (RO y)) (hk : ∀ x, x ∈ t → x < k) : (insO y k t).Pairwise (RO y) := by
  induction t with
  | nil => simp [insO]
  | cons a t ih =>
    rw [List.pairwise_cons] at ht
    unfold insO
    split
    · rename_i hlt
      rw [ltI] at hlt
      rw [List.pairwise_cons]
      refine ⟨fun x hx => ?_, List.pairwise_cons.mpr ht⟩
      rcases List.mem_cons.mp hx with rfl | hx
      · exact Or.inl hlt
      · have := ht.1 x hx
        unfold RO at this ⊢; omega
    · rename_i hlt
      rw [ltI] at hlt
      rw [List.pairwise_cons]
      refine ⟨fun x hx => ?_, ih ht.2 (fun x hx => hk x (List.mem_cons_of_mem _ hx))⟩
      rcases mem_insO.mp hx with rfl | hx
      · have := hk a List.mem_cons_self
        unfold RO; omega
      · exact ht.1 x hx
theorem pw_srtO (y : Nat → Int32) (n : Nat) : (srtO y n).Pairwise (RO y) := by
  induction n with
  | zero => exact List.Pairwise.nil
  | succ n ih => exact pw_insO ih (fun x hx => mem_srtO.mp hx)
theorem perm_insO {y : Nat → Int32} {k : Nat} {t : List Nat} : (insO y k t).Perm (k :: t) := by
  induction t with
  | nil => exact List.Perm.refl _
  | cons a t ih =>
    unfold insO
    split
    · exact List.Perm.refl _
    · exact (List.Perm.cons a ih).trans (List.Perm.swap k a t)
theorem perm_srtO (y : Nat → Int32) (n : Nat) : (srtO y n).Perm (List.range n) := by
  induction n with
  | zero => exact List.Perm.refl _
  | succ n ih =>
    rw [List.range_succ]
    exact perm_insO.trans ((List.Perm.cons n ih).trans (List.perm_append_singleton n (List.range n)).symm)
theorem WF_O {d : Nat → Nat → Int32} (h : WFm d) : d 0 18 = nI (ix (d 0 18)) ∧ ix (d 0 18) ≤ 20 := h.2.2.1
theorem len_ordS (d : Nat → Nat → Int32) : (ordS d).length = ix (d 0 18) := len_srtO
theorem getD_get {l : List Nat} {i : Nat} (h : i < l.length) : l.getD i 0 = l[i] := by simp [List.getD, h]
theorem c_numberToday {G : GV} {k : Nat} {M : Mem} {q : Int32 → Mem → Prop} {s n y : Int32} {d : Nat → Nat → Int32} (hW : WFm d) (hT : TieC (kC M.1) d) (h : q (todayS d s n y) M) : Ci shC G mX6_numberToday k [.ref (G.2.1 4), .int s, .int n, .int y] M q := by
  obtain ⟨e0, hn⟩ := WF_O hW
  have e4 : M.1 4 4 = nI (ix (d 0 18)) := Eq.trans hT.1.2.2.1 e0
  have hlen := len_ordS d
  have loop : ∀ m i now, i + m = ix (d 0 18) → q (((ordS d).drop i).foldl (tdy d s y) now) M → V shC G mX6_numberToday k 6 [(0, .ref (G.2.1 4)), (1, .int s), (2, .int n), (3, .int y), (4, .int now), (5, .int (nI i))] [] M (Qi q) := by
    intro m
    induction m with
    | zero =>
      intro i now hi hq
      rw [List.drop_eq_nil_of_le (by omega)] at hq
      exact wp_X6_numberToday_6 ⟨fun _ => hq, fun c => absurd (by rw [e4]; exact nI_le (by omega) (by omega)) c⟩
    | succ m ih =>
      intro i now hi hq
      have hin : i < (ordS d).length := by omega
      rw [List.drop_eq_getElem_cons hin, List.foldl_cons] at hq
      have tt := hT.2.2.2.2.1 i (by omega)
      rw [getD_get hin] at tt
      have t20 : M.1 20 i = d 15 (ordS d)[i] := tt.1
      have t21 : M.1 21 i = d 16 (ordS d)[i] := tt.2.1
      have t22 : M.1 22 i = d 17 (ordS d)[i] := tt.2.2.1
      have t23 : M.1 23 i = d 18 (ordS d)[i] := tt.2.2.2
      have hv : vp_in (nI i) 20 := vp_in_nI (by omega) (by decide)
      refine wp_X6_numberToday_6 ⟨fun c => absurd c (by rw [e4]; exact nI_ge (by omega) (by omega)), fun _ => ⟨hv, ?_⟩⟩
      rw [ix_nI (show i < 2 ^ 31 by omega), t20, t21, t22, t23, nI_1]
      refine ⟨fun c => ih (i + 1) _ (by omega) ?_, fun c => ⟨hv, fun c2 => ih (i + 1) _ (by omega) ?_, fun c2 => ⟨hv, fun c3 => ih (i + 1) _ (by omega) ?_, fun c3 => ⟨hv, ih (i + 1) _ (by omega) ?_⟩⟩⟩⟩
      · rw [tdy, if_neg (fun h => Int32.not_lt.mpr c h.1)] at hq; exact hq
      · rw [tdy, if_neg (fun h => c2 h.2.1)] at hq; exact hq
      · rw [tdy, if_neg (fun h => c3 h.2.2)] at hq; exact hq
      · rw [tdy, if_pos ⟨Int32.not_le.mp c, c2, c3⟩] at hq; exact hq
  refine wp_X6_numberToday (loop (ix (d 0 18)) 0 n (by omega) ?_)
  rw [List.drop_zero]; exact h
def tdz (d : Nat → Nat → Int32) (s now : Int32) (k : Nat) : Int32 := if d 16 k = s ∧ d 17 k = now then d 18 k else now
theorem todayS_eq (d : Nat → Nat → Int32) (s n y : Int32) : todayS d s n y = ((ordS d).filter (fun k => decide (y < d 15 k))).foldl (tdz d s) n := by
  rw [todayS, List.foldl_filter]
  congr 1
  funext now k
  by_cases h : y < d 15 k
  · simp [tdy, tdz, h]
  · simp [tdy, h]
theorem RO_asym {y : Nat → Int32} {a b : Nat} (h : RO y a b) (h2 : RO y b a) : False := by unfold RO at h h2; omega
theorem c_todayOf {G : GV} {kk : Nat} {M : Mem} {q : Int32 → Mem → Prop} {s n y : Int32} (hW : WFm (kM M.1)) (h : q (todayS (kM M.1) s n y) M) : Ci shM G mX12_todayOf kk [.ref (G.2.1 0), .int s, .int n, .int y] M q := by
  obtain ⟨e0, hn⟩ := WF_O hW
  rw [todayS_eq] at h
  obtain ⟨nO, hnO⟩ : ∃ nO, nO = ix (kM M.1 0 18) := ⟨_, rfl⟩
  rw [← hnO] at e0 hn
  have e18 : M.1 0 18 = nI nO := e0
  have hFm : ∀ k, k ∈ (ordS (kM M.1)).filter (fun k => decide (y < kM M.1 15 k)) ↔ k < nO ∧ y < M.1 15 k := by
    intro k
    rw [List.mem_filter, ordS, mem_srtO, hnO, decide_eq_true_iff]
    exact Iff.rfl
  have hFp : ((ordS (kM M.1)).filter (fun k => decide (y < kM M.1 15 k))).Pairwise (RO (M.1 15)) := List.Pairwise.filter _ (pw_srtO _ _)
  obtain ⟨FL, hFL⟩ : ∃ FL, FL = (ordS (kM M.1)).filter (fun k => decide (y < kM M.1 15 k)) := ⟨_, rfl⟩
  rw [← hFL] at h hFm hFp
  have outer : ∀ (rest done : List Nat) (now met : Int32), FL = done ++ rest → (∀ k, k < nO → bt met k = decide (k ∈ done)) → q (rest.foldl (tdz (kM M.1) s) now) M → V shM G mX12_todayOf kk 9 [(0, .ref (G.2.1 0)), (1, .int s), (2, .int n), (3, .int y), (4, .int now), (5, .int met), (6, .int 1)] [] M (Qi q) := by
    intro rest
    induction rest with
    | nil =>
      intro done now met hf hm hq
      rw [List.append_nil] at hf
      refine wp_X12_todayOf_9 (k1 ?_)
      have inner : ∀ m i, i + m = nO → V shM G mX12_todayOf kk 21 [(0, .ref (G.2.1 0)), (1, .int s), (2, .int n), (3, .int y), (4, .int now), (5, .int met), (6, .int 1), (7, .int (-1000000)), (8, .int (nI i))] [] M (Qi q) := by
        intro m
        induction m with
        | zero =>
          intro i hi
          refine wp_X12_todayOf_21 ⟨fun _ => ⟨fun _ => wp_X12_todayOf_9 (k0 hq), fun c => absurd rfl c⟩, fun c => absurd (by rw [e18]; exact nI_le (by omega) (by omega)) c⟩
        | succ m ih =>
          intro i hi
          have hv : vp_in (nI i) 20 := vp_in_nI (by omega) (by decide)
          refine wp_X12_todayOf_21 ⟨fun c => absurd c (by rw [e18]; exact nI_ge (by omega) (by omega)), fun _ => ⟨hv, ?_⟩⟩
          rw [ix_nI (show i < 2 ^ 31 by omega), nI_1]
          refine ⟨fun _ => ih (i + 1) (by omega), fun c => ⟨fun _ => ih (i + 1) (by omega), fun c2 => ?_⟩⟩
          exfalso
          rw [bit0 met (by omega), hm i (by omega), ← hf, decide_eq_false_iff_not, hFm] at c2
          exact c2 ⟨by omega, Int32.not_le.mp c⟩
      exact inner nO 0 (by omega)
    | cons a rest ih =>
      intro done now met hf hm hq
      have hnod : ∀ x, x ∈ done → x ∈ a :: rest → False := by
        intro x hx1 hx2
        rw [hf, List.pairwise_append] at hFp
        exact RO_asym (hFp.2.2 x hx1 x hx2) (hFp.2.2 x hx1 x hx2)
      have hpr : (a :: rest).Pairwise (RO (M.1 15)) := by
        rw [hf, List.pairwise_append] at hFp
        exact hFp.2.1
      have hmem : ∀ k, k ∈ a :: rest ↔ (k < nO ∧ y < M.1 15 k) ∧ bt met k = false := by
        intro k
        rw [← hFm k, hf, List.mem_append]
        constructor
        · intro hk
          refine ⟨Or.inr hk, ?_⟩
          have hk2 : k < nO := ((hFm k).mp (by rw [hf]; exact List.mem_append_right _ hk)).1
          rw [hm k hk2, decide_eq_false_iff_not]
          exact fun hd => hnod k hd hk
        · rintro ⟨hk | hk, hb⟩
          · have hk2 : k < nO := ((hFm k).mp (by rw [hf]; exact List.mem_append_left _ hk)).1
            rw [hm k hk2, decide_eq_false_iff_not] at hb
            exact absurd hk hb
          · exact hk
      have ha := ((hmem a).mp List.mem_cons_self)
      refine wp_X12_todayOf_9 (k1 ?_)
      have inner : ∀ m i v7, i + m = nO → ((v7 = -1000000 ∧ ∀ b, b ∈ a :: rest → ¬ b < i) ∨ ∃ x, v7 = nI x ∧ x ∈ a :: rest ∧ x < i ∧ ∀ b, b ∈ a :: rest → b < i → b ≠ x → RO (M.1 15) x b) → V shM G mX12_todayOf kk 21 [(0, .ref (G.2.1 0)), (1, .int s), (2, .int n), (3, .int y), (4, .int now), (5, .int met), (6, .int 1), (7, .int v7), (8, .int (nI i))] [] M (Qi q) := by
        intro m
        induction m with
        | zero =>
          intro i v7 hi hI
          have hxa : v7 = nI a := by
            rcases hI with ⟨_, hI⟩ | ⟨x, h1, h2, h3, h4⟩
            · exact absurd (show a < i by omega) (hI a List.mem_cons_self)
            · by_cases hxa : a = x
              · rw [h1, hxa]
              · exfalso
                have r1 := h4 a List.mem_cons_self (by omega) hxa
                rcases List.mem_cons.mp h2 with h5 | h5
                · exact hxa h5.symm
                · exact RO_asym r1 ((List.pairwise_cons.mp hpr).1 x h5)
          subst hxa
          have hva : vp_in (nI a) 20 := vp_in_nI (by omega) (by decide)
          have nx : ∀ now', q (rest.foldl (tdz (kM M.1) s) now') M → V shM G mX12_todayOf kk 9 [(0, .ref (G.2.1 0)), (1, .int s), (2, .int n), (3, .int y), (4, .int now'), (5, .int (met ||| (1 <<< (nI a &&& 31)))), (6, .int 1)] [] M (Qi q) := by
            intro now' hq'
            refine ih (done ++ [a]) now' _ (by rw [hf]; simp) (fun k hk => ?_) hq'
            rw [b_or, hm k hk, b_1sh (by omega) (by omega)]
            by_cases h1 : k ∈ done <;> by_cases h2 : k = a <;> simp [h1, h2]
          rw [List.foldl_cons] at hq
          refine wp_X12_todayOf_21 ⟨fun _ => ⟨fun c => absurd c (nI_none (by omega) (by decide)), fun _ => ⟨hva, ?_⟩⟩, fun c => absurd (by rw [e18]; exact nI_le (by omega) (by omega)) c⟩
          rw [ix_nI (show a < 2 ^ 31 by omega)]
          refine ⟨fun c => nx _ ?_, fun c => ⟨hva, fun c2 => nx _ ?_, fun c2 => ⟨hva, nx _ ?_⟩⟩⟩
          · rw [tdz, if_neg (fun h => c h.1)] at hq; exact hq
          · rw [tdz, if_neg (fun h => c2 h.2)] at hq; exact hq
          · rw [tdz, if_pos ⟨c, c2⟩] at hq; exact hq
        | succ m ihm =>
          intro i v7 hi hI
          have hv : vp_in (nI i) 20 := vp_in_nI (by omega) (by decide)
          refine wp_X12_todayOf_21 ⟨fun c => absurd c (by rw [e18]; exact nI_ge (by omega) (by omega)), fun _ => ⟨hv, ?_⟩⟩
          rw [ix_nI (show i < 2 ^ 31 by omega), nI_1]
          have keep : ¬ i ∈ a :: rest → V shM G mX12_todayOf kk 21 [(0, .ref (G.2.1 0)), (1, .int s), (2, .int n), (3, .int y), (4, .int now), (5, .int met), (6, .int 1), (7, .int v7), (8, .int (nI (i + 1)))] [] M (Qi q) := by
            intro hni
            refine ihm (i + 1) v7 (by omega) ?_
            rcases hI with ⟨h1, h2⟩ | ⟨x, h1, h2, h3, h4⟩
            · refine Or.inl ⟨h1, fun b hb hbi => ?_⟩
              rcases Nat.lt_or_ge b i with h5 | h5
              · exact h2 b hb h5
              · exact hni (by rw [show i = b by omega]; exact hb)
            · refine Or.inr ⟨x, h1, h2, by omega, fun b hb hbi hbx => ?_⟩
              rcases Nat.lt_or_ge b i with h5 | h5
              · exact h4 b hb h5 hbx
              · exact absurd (by rw [show i = b by omega]; exact hb) hni
          refine ⟨fun c => keep (fun hni => ?_), fun c => ⟨fun c2 => keep (fun hni => ?_), fun c2 => ?_⟩⟩
          · exact Int32.not_lt.mpr c ((hmem i).mp hni).1.2
          · exact c2 ((bit0 met (by omega)).mpr ((hmem i).mp hni).2)
          have hi_in : i ∈ a :: rest := (hmem i).mpr ⟨⟨by omega, Int32.not_le.mp c⟩, (bit0 met (by omega)).mp c2⟩
          refine ⟨fun c3 => ?_, fun c3 => ?_⟩
          · refine ihm (i + 1) (nI i) (by omega) (Or.inr ⟨i, rfl, hi_in, by omega, fun b hb hbi hbx => ?_⟩)
            rcases hI with ⟨h1, h2⟩ | ⟨x, h1, h2, h3, h4⟩
            · exact absurd (show b < i by omega) (h2 b hb)
            · exact absurd (h1.symm.trans c3) (nI_none (by have := ((hmem x).mp h2).1.1; omega) (by decide))
          · rcases hI with ⟨h1, h2⟩ | ⟨x, h1, h2, h3, h4⟩
            · exact absurd h1 c3
            subst h1
            have hx20 := ((hmem x).mp h2).1.1
            refine ⟨hv, vp_in_nI (by omega) (by decide), ?_⟩
            rw [ix_nI (show x < 2 ^ 31 by omega)]
            refine ⟨fun c4 => ihm (i + 1) _ (by omega) (Or.inr ⟨x, rfl, h2, by omega, fun b hb hbi hbx => ?_⟩), fun c4 => ihm (i + 1) _ (by omega) (Or.inr ⟨i, rfl, hi_in, by omega, fun b hb hbi hbx => ?_⟩)⟩
            · rcases Nat.lt_or_ge b i with h5 | h5
              · exact h4 b hb h5 hbx
              · obtain rfl : b = i := by omega
                rw [leI] at c4
                unfold RO; omega
            · rw [leI] at c4
              by_cases hbx2 : b = x
              · subst hbx2
                unfold RO; omega
              · have := h4 b hb (by omega) hbx2
                unfold RO at this ⊢; omega
      exact inner nO 0 (-1000000) (by omega) (Or.inl ⟨rfl, fun b _ => Nat.not_lt_zero b⟩)
  exact wp_X12_todayOf (outer FL [] n 0 rfl (fun k hk => by rw [b_0]; simp) h)
theorem c_doorOf {G : GV} {k l : Nat} {M : Mem} {q : Int32 → Mem → Prop} (hW : WFm (kM M.1)) (hl : l < nLm M) (h : q (doorS (kM M.1) l) M) : Ci shM G mX12_doorOf (k + 1) [.ref (G.2.1 0), .int (nI l)] M q := by
  have hn := (WF_L hW).2
  have hv := vin12 hl hn
  refine wp_X12_doorOf ⟨hv, hv, c_gathered hW hl (c_todayOf hW ?_)⟩
  rw [ix12 hl hn]
  exact h
theorem i_0 : (0 : Int32).toInt = 0 := by decide
theorem i_1 : (1 : Int32).toInt = 1 := by decide
theorem i_2 : (2 : Int32).toInt = 2 := by decide
theorem i_4 : (4 : Int32).toInt = 4 := by decide
theorem i_99 : (99 : Int32).toInt = 99 := by decide
theorem i_9999 : (9999 : Int32).toInt = 9999 := by decide
theorem l_1 : (1 : Int64).toInt = 1 := by decide
theorem l_2 : (2 : Int64).toInt = 2 := by decide
theorem l_3 : (3 : Int64).toInt = 3 := by decide
theorem l_99 : (99 : Int64).toInt = 99 := by decide
def adS (s n y : Int32) : Prop := (0 ≤ s.toInt ∧ s.toInt ≤ 3) ∧ (1 ≤ n.toInt ∧ n.toInt ≤ 99) ∧ (0 ≤ y.toInt ∧ y.toInt ≤ 9999)
theorem c_isPlace_ok {G : GV} {k : Nat} {M : Mem} {q : Int32 → Mem → Prop} {s n y : Int32} (hA : adS s n y) (h : q 1 M) : Ci shC G mX11_isPlace (k + 1) [.ref (G.2.1 0), .int s, .int n, .int y] M q := by
  obtain ⟨⟨a1, a2⟩, ⟨a3, a4⟩, a5, a6⟩ := hA
  refine wp_X11_isPlace (wp_X11_noStreet ⟨fun c => ?_, fun c => ⟨fun c2 => n0 ⟨fun c3 => ?_, fun c3 => ⟨fun c4 => ?_, fun c4 => c_noYear_ok ⟨a5, a6⟩ (n0 h)⟩⟩, fun c2 => ?_⟩⟩) <;> exfalso
  · rw [ltI, i_0] at c; omega
  · rw [ltI, i_1] at c3; omega
  · rw [ltI, i_99] at c4; omega
  · rw [ltI, i_4] at c2; omega
theorem c_isPlace_bad {G : GV} {k : Nat} {M : Mem} {q : Int32 → Mem → Prop} {s n y : Int32} (hA : ¬ adS s n y) (h : q 0 M) : Ci shC G mX11_isPlace (k + 1) [.ref (G.2.1 0), .int s, .int n, .int y] M q := by
  refine wp_X11_isPlace (wp_X11_noStreet ⟨fun c => n1 h, fun c => ⟨fun c2 => n0 ⟨fun c3 => h, fun c3 => ⟨fun c4 => h, fun c4 => ?_⟩⟩, fun c2 => n1 h⟩⟩)
  refine c_noYear_bad ?_ (n1 h)
  rw [ltI, i_0] at c
  rw [ltI, i_4] at c2
  rw [ltI, i_1] at c3
  rw [ltI, i_99] at c4
  unfold adS at hA
  omega
theorem c_isAddress_ok {G : GV} {k : Nat} {M : Mem} {q : Int32 → Mem → Prop} {s n y : Int32} (hA : adS s n y) (h : q 1 M) : Ci shM G mX12_isAddress (k + 1) [.int s, .int n, .int y] M q := by
  obtain ⟨⟨a1, a2⟩, ⟨a3, a4⟩, a5, a6⟩ := hA
  exact wp_X12_isAddress (c_in_ok (by rw [t0]; exact a1) (by rw [l_3]; exact a2) (k1 (c_in_ok (by rw [l_1]; exact a3) (by rw [l_99]; exact a4) (k1 (c_inY_ok ⟨a5, a6⟩ (k1 h))))))
theorem c_isAddress_bad {G : GV} {k : Nat} {M : Mem} {q : Int32 → Mem → Prop} {s n y : Int32} (hA : ¬ adS s n y) (h : q 0 M) : Ci shM G mX12_isAddress (k + 1) [.int s, .int n, .int y] M q := by
  refine wp_X12_isAddress ?_
  by_cases h1 : 0 ≤ s.toInt ∧ s.toInt ≤ 3
  · refine c_in_ok (by rw [t0]; exact h1.1) (by rw [l_3]; exact h1.2) (k1 ?_)
    by_cases h2 : 1 ≤ n.toInt ∧ n.toInt ≤ 99
    · refine c_in_ok (by rw [l_1]; exact h2.1) (by rw [l_99]; exact h2.2) (k1 (c_inY_bad ?_ (k0 h)))
      unfold adS at hA; omega
    · exact c_in_bad (by rw [l_1, l_99]; omega) (k0 h)
  · exact c_in_bad (by rw [t0, l_3]; omega) (k0 h)
theorem st_today : St_today RR := by
  intro G1 G2 Mc Mm s n y hR
  obtain ⟨hW, hT⟩ := hR.2.2.2.2.1
  by_cases hA : adS s n y
  · exact wp_X11_today (c_isPlace_ok hA (k1 (c_numberToday hW hT (wp_X12_today (c_isAddress_ok hA (k1 (c_todayOf (M := mset Mm 0 0 0) hW ⟨rfl, RR_thrown hR⟩)))))))
  · exact wp_X11_today (c_isPlace_bad hA (k0 (wp_X12_today (c_isAddress_bad hA (k0 ⟨rfl, RR_thrown hR⟩)))))
