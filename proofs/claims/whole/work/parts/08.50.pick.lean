/-! lost orders: who stood where, by numbers -/
def pkL (d : Nat → Nat → Int32) (s y : Int32) : Nat → List Nat
  | 0 => []
  | l + 1 => if d 10 l = s ∧ gS d l = y then insO (d 11) l (pkL d s y l) else pkL d s y l
theorem mem_pkL {d : Nat → Nat → Int32} {s y : Int32} {x n : Nat} : x ∈ pkL d s y n ↔ x < n ∧ d 10 x = s ∧ gS d x = y := by
  induction n with
  | zero => simp [pkL]
  | succ n ih =>
    rw [pkL]
    by_cases hc : d 10 n = s ∧ gS d n = y
    · rw [if_pos hc, mem_insO, ih]
      constructor
      · rintro (rfl | h)
        · exact ⟨by omega, hc⟩
        · exact ⟨by omega, h.2⟩
      · rintro ⟨h1, h2⟩
        rcases Nat.lt_or_ge x n with h3 | h3
        · exact Or.inr ⟨h3, h2⟩
        · exact Or.inl (by omega)
    · rw [if_neg hc, ih]
      constructor
      · rintro ⟨h1, h2⟩
        exact ⟨by omega, h2⟩
      · rintro ⟨h1, h2⟩
        refine ⟨?_, h2⟩
        rcases Nat.lt_or_ge x n with h3 | h3
        · exact h3
        · obtain rfl : x = n := by omega
          exact absurd h2 hc
theorem pw_pkL (d : Nat → Nat → Int32) (s y : Int32) (n : Nat) : (pkL d s y n).Pairwise (RO (d 11)) := by
  induction n with
  | zero => exact List.Pairwise.nil
  | succ n ih =>
    rw [pkL]
    split
    · exact pw_insO ih (fun x hx => (mem_pkL.mp hx).1)
    · exact ih
theorem len_pkL (d : Nat → Nat → Int32) (s y : Int32) (n : Nat) : (pkL d s y n).length ≤ n := by
  induction n with
  | zero => exact Nat.le_refl _
  | succ n ih =>
    rw [pkL]
    split
    · rw [len_insO]; omega
    · omega
theorem insO_at {y : Nat → Int32} {k : Nat} : ∀ (L : List Nat) (a : Nat), a ≤ L.length → (∀ j, j < a → ¬ y k < y (L.getD j 0)) → (a < L.length → y k < y (L.getD a 0)) → insO y k L = L.take a ++ k :: L.drop a := by
  intro L
  induction L with
  | nil =>
    intro a ha _ _
    obtain rfl : a = 0 := Nat.le_zero.mp ha
    rfl
  | cons x t ih =>
    intro a ha h1 h2
    cases a with
    | zero =>
      have : y k < y x := h2 (by simp)
      rw [insO, if_pos this]; rfl
    | succ a =>
      have : ¬ y k < y x := h1 0 (by omega)
      rw [insO, if_neg this, ih a (Nat.le_of_succ_le_succ ha) (fun j hj => h1 (j + 1) (by omega)) (fun h => h2 (Nat.succ_lt_succ h))]
      rfl
theorem ins_getD {k : Nat} : ∀ (L : List Nat) (a j : Nat), a ≤ L.length → (L.take a ++ k :: L.drop a).getD j 0 = if j < a then L.getD j 0 else if j = a then k else L.getD (j - 1) 0 := by
  intro L
  induction L with
  | nil =>
    intro a j ha
    obtain rfl : a = 0 := Nat.le_zero.mp ha
    cases j with
    | zero => rfl
    | succ j => rfl
  | cons x t ih =>
    intro a j ha
    cases a with
    | zero =>
      cases j with
      | zero => rfl
      | succ j => rfl
    | succ a =>
      cases j with
      | zero => rfl
      | succ j =>
        have h := ih a j (Nat.le_of_succ_le_succ ha)
        show (t.take a ++ k :: t.drop a).getD j 0 = _
        rw [h]
        by_cases h1 : j < a
        · rw [if_pos h1, if_pos (show j + 1 < a + 1 by omega)]; rfl
        · rw [if_neg h1, if_neg (show ¬ j + 1 < a + 1 by omega)]
          by_cases h2 : j = a
          · rw [if_pos h2, if_pos (show j + 1 = a + 1 by omega)]
          · rw [if_neg h2, if_neg (show ¬ j + 1 = a + 1 by omega)]
            obtain ⟨i, rfl⟩ : ∃ i, j = i + 1 := ⟨j - 1, by omega⟩
            rfl
theorem pw_get {y : Nat → Int32} {L : List Nat} (h : L.Pairwise (RO y)) {i j : Nat} (hij : i < j) (hj : j < L.length) : RO y (L.getD i 0) (L.getD j 0) := by
  rw [getD_get (show i < L.length by omega), getD_get hj]
  exact (List.pairwise_iff_getElem.mp h) i j _ _ hij
theorem get_mem {L : List Nat} {j : Nat} (h : j < L.length) : L.getD j 0 ∈ L := by
  rw [getD_get h]; exact List.getElem_mem h
/-- a row holds a list -/
def arr (f : Nat → Int32) (L : List Nat) : Prop := ∀ j, j < L.length → f j = nI (L.getD j 0)
theorem len_app (A : List Nat) (l : Nat) : (A ++ [l]).length = A.length + 1 := by simp
theorem arr_app {f : Nat → Int32} {A : List Nat} {l : Nat} (h : arr f A) : arr (upd f A.length (nI l)) (A ++ [l]) := by
  intro j hj
  rw [len_app] at hj
  rcases Nat.lt_or_ge j A.length with h1 | h1
  · rw [upd_ne _ _ (by omega), h j h1]
    congr 1
    simp only [List.getD]
    rw [List.getElem?_append_left h1]
  · have h2 : j = A.length := by omega
    rw [h2, upd_at]
    congr 1
    simp only [List.getD]
    rw [List.getElem?_append_right (Nat.le_refl _)]
    simp
theorem list_eq {R : Nat → Nat → Prop} (as : ∀ a b, R a b → R b a → False) : ∀ L1 L2 : List Nat, L1.Pairwise R → L2.Pairwise R → (∀ x, x ∈ L1 ↔ x ∈ L2) → L1 = L2 := by
  intro L1
  induction L1 with
  | nil =>
    intro L2 _ _ h
    cases L2 with
    | nil => rfl
    | cons b t => exact absurd ((h b).mpr List.mem_cons_self) (by simp)
  | cons a t1 ih =>
    intro L2 p1 p2 h
    cases L2 with
    | nil => exact absurd ((h a).mp List.mem_cons_self) (by simp)
    | cons b t2 =>
      rw [List.pairwise_cons] at p1 p2
      have hab : a = b := by
        rcases List.mem_cons.mp ((h a).mp List.mem_cons_self) with e | e
        · exact e
        · rcases List.mem_cons.mp ((h b).mpr List.mem_cons_self) with e2 | e2
          · exact e2.symm
          · exact (as a b (p1.1 b e2) (p2.1 a e)).elim
      subst hab
      congr 1
      refine ih t2 p1.2 p2.2 (fun x => ⟨fun hx => ?_, fun hx => ?_⟩)
      · rcases List.mem_cons.mp ((h x).mp (List.mem_cons_of_mem _ hx)) with e | e
        · subst e; exact (as x x (p1.1 x hx) (p1.1 x hx)).elim
        · exact e
      · rcases List.mem_cons.mp ((h x).mpr (List.mem_cons_of_mem _ hx)) with e | e
        · subst e; exact (as x x (p2.1 x hx) (p2.1 x hx)).elim
        · exact e
/-- the model's way: number by number -/
def rwL (d : Nat → Nat → Int32) (s y : Int32) (num : Nat) : Nat → List Nat
  | 0 => []
  | l + 1 => if d 10 l = s ∧ d 11 l = nI num ∧ gS d l = y then rwL d s y num l ++ [l] else rwL d s y num l
def mdL (d : Nat → Nat → Int32) (s y : Int32) (n : Nat) : Nat → List Nat
  | 0 => []
  | num + 1 => mdL d s y n num ++ rwL d s y (num + 1) n
theorem mem_rwL {d : Nat → Nat → Int32} {s y : Int32} {num x n : Nat} : x ∈ rwL d s y num n ↔ x < n ∧ d 10 x = s ∧ d 11 x = nI num ∧ gS d x = y := by
  induction n with
  | zero => simp [rwL]
  | succ n ih =>
    rw [rwL]
    by_cases hc : d 10 n = s ∧ d 11 n = nI num ∧ gS d n = y
    · rw [if_pos hc, List.mem_append, ih, List.mem_singleton]
      constructor
      · rintro (h | rfl)
        · exact ⟨by omega, h.2⟩
        · exact ⟨by omega, hc⟩
      · rintro ⟨h1, h2⟩
        rcases Nat.lt_or_ge x n with h3 | h3
        · exact Or.inl ⟨h3, h2⟩
        · exact Or.inr (by omega)
    · rw [if_neg hc, ih]
      constructor
      · rintro ⟨h1, h2⟩
        exact ⟨by omega, h2⟩
      · rintro ⟨h1, h2⟩
        refine ⟨?_, h2⟩
        rcases Nat.lt_or_ge x n with h3 | h3
        · exact h3
        · obtain rfl : x = n := by omega
          exact absurd h2 hc
theorem pw_rwL (d : Nat → Nat → Int32) (s y : Int32) (num n : Nat) : (rwL d s y num n).Pairwise (RO (d 11)) := by
  induction n with
  | zero => exact List.Pairwise.nil
  | succ n ih =>
    rw [rwL]
    split
    · rename_i hc
      rw [List.pairwise_append]
      refine ⟨ih, by simp, fun a ha b hb => ?_⟩
      rw [List.mem_singleton] at hb
      subst hb
      have h1 := mem_rwL.mp ha
      refine Or.inr ⟨by rw [h1.2.2.1, hc.2.1], h1.1⟩
    · exact ih
theorem mem_mdL {d : Nat → Nat → Int32} {s y : Int32} {num x n : Nat} : x ∈ mdL d s y n num ↔ x < n ∧ d 10 x = s ∧ gS d x = y ∧ ∃ m, 1 ≤ m ∧ m ≤ num ∧ d 11 x = nI m := by
  induction num with
  | zero =>
    constructor
    · intro h; cases h
    · rintro ⟨_, _, _, m, h1, h2, _⟩; omega
  | succ num ih =>
    rw [mdL, List.mem_append, ih, mem_rwL]
    constructor
    · rintro (⟨h1, h2, h3, m, h4, h5, h6⟩ | ⟨h1, h2, h3, h4⟩)
      · exact ⟨h1, h2, h3, m, h4, by omega, h6⟩
      · exact ⟨h1, h2, h4, num + 1, by omega, by omega, h3⟩
    · rintro ⟨h1, h2, h3, m, h4, h5, h6⟩
      rcases Nat.lt_or_ge num m with h7 | h7
      · obtain rfl : m = num + 1 := by omega
        exact Or.inr ⟨h1, h2, h6, h3⟩
      · exact Or.inl ⟨h1, h2, h3, m, h4, h7, h6⟩
theorem pw_mdL (d : Nat → Nat → Int32) (s y : Int32) (n : Nat) : ∀ num, num ≤ 99 → (mdL d s y n num).Pairwise (RO (d 11)) := by
  intro num
  induction num with
  | zero => intro _; exact List.Pairwise.nil
  | succ num ih =>
    intro hn
    rw [mdL, List.pairwise_append]
    refine ⟨ih (by omega), pw_rwL _ _ _ _ _, fun a ha b hb => ?_⟩
    obtain ⟨_, _, _, m, h4, h5, h6⟩ := mem_mdL.mp ha
    have h7 := (mem_rwL.mp hb).2.2.1
    refine Or.inl ?_
    rw [h6, h7, nI_toInt (by omega), nI_toInt (by omega)]
    omega
theorem mdL_eq {d : Nat → Nat → Int32} (hW : WFm d) (s y : Int32) : mdL d s y (ix (d 0 10)) 99 = pkL d s y (ix (d 0 10)) := by
  refine list_eq (fun a b => RO_asym) _ _ (pw_mdL d s y _ 99 (Nat.le_refl _)) (pw_pkL d s y _) (fun x => ?_)
  rw [mem_mdL, mem_pkL]
  constructor
  · rintro ⟨h1, h2, h3, _⟩
    exact ⟨h1, h2, h3⟩
  · rintro ⟨h1, h2, h3⟩
    exact ⟨h1, h2, h3, (hW.2.2.2.2.2.1 x h1).2.2.2.1⟩
theorem len_rwL (d : Nat → Nat → Int32) (s y : Int32) (num : Nat) : ∀ m l, (rwL d s y num l).length ≤ (rwL d s y num (l + m)).length := by
  intro m
  induction m with
  | zero => intro l; exact Nat.le_refl _
  | succ m ih =>
    intro l
    refine Nat.le_trans (ih l) ?_
    rw [show l + (m + 1) = (l + m) + 1 from rfl, rwL]
    split
    · simp
    · exact Nat.le_refl _
theorem len_mdL (d : Nat → Nat → Int32) (s y : Int32) (n : Nat) : ∀ m num, (mdL d s y n num).length ≤ (mdL d s y n (num + m)).length := by
  intro m
  induction m with
  | zero => intro l; exact Nat.le_refl _
  | succ m ih =>
    intro num
    refine Nat.le_trans (ih num) ?_
    rw [show num + (m + 1) = (num + m) + 1 from rfl, mdL, List.length_append]
    omega
theorem c_pick_b {G : GV} {k : Nat} {M : Mem} {q : Int32 → Mem → Prop} {d : Nat → Nat → Int32} {s y : Int32} (hW : WFm d) (hT : TieC (kC M.1) d) (h : ∀ f, arr f (pkL d s y (ix (d 0 10))) → q (nI (pkL d s y (ix (d 0 10))).length) (aset M 44 f)) : Ci shC G mX4_pick k [.ref (G.2.1 10), .ref (G.2.1 44), .int s, .int y] M q := by
  obtain ⟨n, hnn⟩ : ∃ n, n = ix (d 0 10) := ⟨_, rfl⟩
  have hn : n ≤ 12 := by rw [hnn]; exact hW.2.1.2
  have e6 : M.1 6 8 = nI n := by rw [hnn]; exact Eq.trans hT.1.2.1 hW.2.1.1
  have t30 : ∀ l, l < n → M.1 30 l = d 10 l := fun l hl => (hT.2.2.2.1 l (by omega)).2.2.1
  have t31 : ∀ l, l < n → M.1 31 l = d 11 l := fun l hl => (hT.2.2.2.1 l (by omega)).2.2.2.1
  have t33 : ∀ l, l < n → M.1 33 l = gS d l := fun l hl => (hT.2.2.2.1 l (by omega)).2.2.2.2.2.1
  rw [← hnn] at h
  have outer : ∀ m l f, l + m = n → arr f (pkL d s y l) → V shC G mX4_pick k 6 [(0, .ref (G.2.1 10)), (1, .ref (G.2.1 44)), (2, .int s), (3, .int y), (4, .int (nI (pkL d s y l).length)), (5, .int (nI l))] [] (aset M 44 f) (Qi q) := by
    intro m
    induction m with
    | zero =>
      intro l f hl hf
      obtain rfl : l = n := by omega
      exact wp_X4_pick_b_6 ⟨fun _ => h f hf, fun c => absurd (show (aset M 44 f).1 6 8 ≤ nI l from by rw [show (aset M 44 f).1 6 8 = nI l from e6]; exact nI_le (Nat.le_refl _) (by omega)) c⟩
    | succ m ih =>
      intro l f hl hf
      have hln : l < n := by omega
      have hc := len_pkL d s y l
      refine wp_X4_pick_b_6 ⟨fun c => absurd c (by rw [show (aset M 44 f).1 6 8 = nI n from e6]; exact nI_ge hln (by omega)), fun _ => ⟨vin12 hln hn, ?_⟩⟩
      rw [nI_1 l, ix12 hln hn, show (aset M 44 f).1 30 l = d 10 l from t30 l hln, show (aset M 44 f).1 33 l = gS d l from t33 l hln]
      have no : ¬ (d 10 l = s ∧ gS d l = y) → V shC G mX4_pick k 6 [(0, .ref (G.2.1 10)), (1, .ref (G.2.1 44)), (2, .int s), (3, .int y), (4, .int (nI (pkL d s y l).length)), (5, .int (nI (l + 1)))] [] (aset M 44 f) (Qi q) := fun hno => by
        have l1 := ih (l + 1) f (by omega)
        rw [pkL, if_neg hno] at l1
        exact l1 hf
      refine ⟨fun c => no (fun e => c e.1), fun c => ⟨vin12 hln hn, fun c2 => ?_, fun c2 => no (fun e => c2 e.2)⟩⟩
      have hins : pkL d s y (l + 1) = insO (d 11) l (pkL d s y l) := by rw [pkL, if_pos ⟨c, c2⟩]
      have nxt := fun f' => ih (l + 1) f' (by omega)
      rw [hins, len_insO] at nxt
      obtain ⟨L, hL⟩ : ∃ L, L = pkL d s y l := ⟨_, rfl⟩
      have pwL : L.Pairwise (RO (d 11)) := by rw [hL]; exact pw_pkL d s y l
      have memL : ∀ j, j < L.length → L.getD j 0 < l := fun j hj => by
        have := get_mem hj
        rw [hL] at this ⊢
        exact (mem_pkL.mp this).1
      rw [← hL] at hf hc nxt ⊢
      have inner : ∀ a f, a ≤ L.length → (∀ j, j < a → f j = nI (L.getD j 0)) → (∀ j, a < j → j ≤ L.length → f j = nI (L.getD (j - 1) 0)) → (∀ j, a ≤ j → j < L.length → d 11 l < d 11 (L.getD j 0)) → V shC G mX4_pick k 53 [(0, .ref (G.2.1 10)), (1, .ref (G.2.1 44)), (2, .int s), (3, .int y), (4, .int (nI L.length)), (5, .int (nI l)), (6, .int (nI a))] [] (aset M 44 f) (Qi q) := by
        have fin : ∀ a f, a ≤ L.length → (∀ j, j < a → f j = nI (L.getD j 0)) → (∀ j, a < j → j ≤ L.length → f j = nI (L.getD (j - 1) 0)) → (∀ j, a ≤ j → j < L.length → d 11 l < d 11 (L.getD j 0)) → (∀ j, j < a → ¬ d 11 l < d 11 (L.getD j 0)) → V shC G mX4_pick k 6 [(0, .ref (G.2.1 10)), (1, .ref (G.2.1 44)), (2, .int s), (3, .int y), (4, .int (nI (L.length + 1))), (5, .int (nI (l + 1)))] [] (aset M 44 (upd f a (nI l))) (Qi q) := by
          intro a f ha f1 f2 f3 f4
          refine nxt _ (fun j hj => ?_)
          rw [len_insO] at hj
          rw [insO_at L a ha f4 (fun e => f3 a (Nat.le_refl _) e), ins_getD L a j ha]
          by_cases h1 : j < a
          · rw [if_pos h1, upd_ne _ _ (by omega)]; exact f1 j h1
          · rw [if_neg h1]
            by_cases h2 : j = a
            · rw [if_pos h2, h2, upd_at]
            · rw [if_neg h2, upd_ne _ _ h2]; exact f2 j (by omega) (by omega)
        intro a
        induction a with
        | zero =>
          intro f ha f1 f2 f3
          refine wp_X4_pick_b_53 ⟨fun _ => ⟨vp_in_nI (by omega) (by decide), ?_⟩, fun c5 => absurd (by decide) c5⟩
          rw [nI_1, nI_1 l, ix_nI (by omega), mset_aset]
          exact fin 0 f ha f1 f2 f3 (fun j hj => absurd hj (Nat.not_lt_zero _))
        | succ a iha =>
          intro f ha f1 f2 f3
          have hx := memL a (by omega)
          refine wp_X4_pick_b_53 ⟨fun c5 => absurd c5 (nI_nle (by omega) (by omega)), fun _ => ?_⟩
          rw [nI_m1, nI_pred, nI_1, nI_1 l, ix_nI (show a < 2 ^ 31 by omega), ix_nI (show a + 1 < 2 ^ 31 by omega), ix12 hln hn, show (aset M 44 f).1 44 a = nI (L.getD a 0) from f1 a (by omega), ix_nI (show L.getD a 0 < 2 ^ 31 by omega), show (aset M 44 f).1 31 (L.getD a 0) = d 11 (L.getD a 0) from t31 _ (by omega), show (aset M 44 f).1 31 l = d 11 l from t31 l hln, mset_aset, mset_aset]
          refine ⟨vp_in_nI (by omega) (by decide), vp_in_nI (by omega) (by decide), vin12 hln hn, fun c5 => ⟨vp_in_nI (by omega) (by decide), fin (a + 1) f ha f1 f2 f3 (fun j hj => ?_)⟩, fun c5 => ⟨vp_in_nI (by omega) (by decide), vp_in_nI (by omega) (by decide), iha _ (by omega) (fun j hj => ?_) (fun j h1 h2 => ?_) (fun j h1 h2 => ?_)⟩⟩
          · rw [leI] at c5
            rw [ltI]
            rcases Nat.lt_or_ge j a with h1 | h1
            · have := pw_get pwL h1 (by omega)
              unfold RO at this; omega
            · obtain rfl : j = a := by omega
              omega
          · rw [upd_ne _ _ (by omega)]; exact f1 j (by omega)
          · rcases Nat.lt_or_ge (a + 1) j with h3 | h3
            · rw [upd_ne _ _ (by omega)]; exact f2 j h3 h2
            · obtain rfl : j = a + 1 := by omega
              rw [upd_at]; rfl
          · rcases Nat.lt_or_ge a j with h3 | h3
            · exact f3 j h3 h2
            · obtain rfl : j = a := by omega
              exact Int32.not_le.mp c5
      exact inner L.length f (Nat.le_refl _) hf (fun j h1 h2 => by omega) (fun j h1 h2 => by omega)
  have h0 := outer n 0 (M.1 44) (by omega) (fun j hj => absurd hj (Nat.not_lt_zero _))
  rw [aset_self] at h0
  exact wp_X4_pick_b h0
theorem c_pick_a {G : GV} {k : Nat} {M : Mem} {q : Int32 → Mem → Prop} {d : Nat → Nat → Int32} {s y : Int32} (hW : WFm d) (hT : TieC (kC M.1) d) (h : ∀ f, arr f (pkL d s y (ix (d 0 10))) → q (nI (pkL d s y (ix (d 0 10))).length) (aset M 45 f)) : Ci shC G mX4_pick k [.ref (G.2.1 10), .ref (G.2.1 45), .int s, .int y] M q := by
  obtain ⟨n, hnn⟩ : ∃ n, n = ix (d 0 10) := ⟨_, rfl⟩
  have hn : n ≤ 12 := by rw [hnn]; exact hW.2.1.2
  have e6 : M.1 6 8 = nI n := by rw [hnn]; exact Eq.trans hT.1.2.1 hW.2.1.1
  have t30 : ∀ l, l < n → M.1 30 l = d 10 l := fun l hl => (hT.2.2.2.1 l (by omega)).2.2.1
  have t31 : ∀ l, l < n → M.1 31 l = d 11 l := fun l hl => (hT.2.2.2.1 l (by omega)).2.2.2.1
  have t33 : ∀ l, l < n → M.1 33 l = gS d l := fun l hl => (hT.2.2.2.1 l (by omega)).2.2.2.2.2.1
  rw [← hnn] at h
  have outer : ∀ m l f, l + m = n → arr f (pkL d s y l) → V shC G mX4_pick k 6 [(0, .ref (G.2.1 10)), (1, .ref (G.2.1 45)), (2, .int s), (3, .int y), (4, .int (nI (pkL d s y l).length)), (5, .int (nI l))] [] (aset M 45 f) (Qi q) := by
    intro m
    induction m with
    | zero =>
      intro l f hl hf
      obtain rfl : l = n := by omega
      exact wp_X4_pick_a_6 ⟨fun _ => h f hf, fun c => absurd (show (aset M 45 f).1 6 8 ≤ nI l from by rw [show (aset M 45 f).1 6 8 = nI l from e6]; exact nI_le (Nat.le_refl _) (by omega)) c⟩
    | succ m ih =>
      intro l f hl hf
      have hln : l < n := by omega
      have hc := len_pkL d s y l
      refine wp_X4_pick_a_6 ⟨fun c => absurd c (by rw [show (aset M 45 f).1 6 8 = nI n from e6]; exact nI_ge hln (by omega)), fun _ => ⟨vin12 hln hn, ?_⟩⟩
      rw [nI_1 l, ix12 hln hn, show (aset M 45 f).1 30 l = d 10 l from t30 l hln, show (aset M 45 f).1 33 l = gS d l from t33 l hln]
      have no : ¬ (d 10 l = s ∧ gS d l = y) → V shC G mX4_pick k 6 [(0, .ref (G.2.1 10)), (1, .ref (G.2.1 45)), (2, .int s), (3, .int y), (4, .int (nI (pkL d s y l).length)), (5, .int (nI (l + 1)))] [] (aset M 45 f) (Qi q) := fun hno => by
        have l1 := ih (l + 1) f (by omega)
        rw [pkL, if_neg hno] at l1
        exact l1 hf
      refine ⟨fun c => no (fun e => c e.1), fun c => ⟨vin12 hln hn, fun c2 => ?_, fun c2 => no (fun e => c2 e.2)⟩⟩
      have hins : pkL d s y (l + 1) = insO (d 11) l (pkL d s y l) := by rw [pkL, if_pos ⟨c, c2⟩]
      have nxt := fun f' => ih (l + 1) f' (by omega)
      rw [hins, len_insO] at nxt
      obtain ⟨L, hL⟩ : ∃ L, L = pkL d s y l := ⟨_, rfl⟩
      have pwL : L.Pairwise (RO (d 11)) := by rw [hL]; exact pw_pkL d s y l
      have memL : ∀ j, j < L.length → L.getD j 0 < l := fun j hj => by
        have := get_mem hj
        rw [hL] at this ⊢
        exact (mem_pkL.mp this).1
      rw [← hL] at hf hc nxt ⊢
      have inner : ∀ a f, a ≤ L.length → (∀ j, j < a → f j = nI (L.getD j 0)) → (∀ j, a < j → j ≤ L.length → f j = nI (L.getD (j - 1) 0)) → (∀ j, a ≤ j → j < L.length → d 11 l < d 11 (L.getD j 0)) → V shC G mX4_pick k 53 [(0, .ref (G.2.1 10)), (1, .ref (G.2.1 45)), (2, .int s), (3, .int y), (4, .int (nI L.length)), (5, .int (nI l)), (6, .int (nI a))] [] (aset M 45 f) (Qi q) := by
        have fin : ∀ a f, a ≤ L.length → (∀ j, j < a → f j = nI (L.getD j 0)) → (∀ j, a < j → j ≤ L.length → f j = nI (L.getD (j - 1) 0)) → (∀ j, a ≤ j → j < L.length → d 11 l < d 11 (L.getD j 0)) → (∀ j, j < a → ¬ d 11 l < d 11 (L.getD j 0)) → V shC G mX4_pick k 6 [(0, .ref (G.2.1 10)), (1, .ref (G.2.1 45)), (2, .int s), (3, .int y), (4, .int (nI (L.length + 1))), (5, .int (nI (l + 1)))] [] (aset M 45 (upd f a (nI l))) (Qi q) := by
          intro a f ha f1 f2 f3 f4
          refine nxt _ (fun j hj => ?_)
          rw [len_insO] at hj
          rw [insO_at L a ha f4 (fun e => f3 a (Nat.le_refl _) e), ins_getD L a j ha]
          by_cases h1 : j < a
          · rw [if_pos h1, upd_ne _ _ (by omega)]; exact f1 j h1
          · rw [if_neg h1]
            by_cases h2 : j = a
            · rw [if_pos h2, h2, upd_at]
            · rw [if_neg h2, upd_ne _ _ h2]; exact f2 j (by omega) (by omega)
        intro a
        induction a with
        | zero =>
          intro f ha f1 f2 f3
          refine wp_X4_pick_a_53 ⟨fun _ => ⟨vp_in_nI (by omega) (by decide), ?_⟩, fun c5 => absurd (by decide) c5⟩
          rw [nI_1, nI_1 l, ix_nI (by omega), mset_aset]
          exact fin 0 f ha f1 f2 f3 (fun j hj => absurd hj (Nat.not_lt_zero _))
        | succ a iha =>
          intro f ha f1 f2 f3
          have hx := memL a (by omega)
          refine wp_X4_pick_a_53 ⟨fun c5 => absurd c5 (nI_nle (by omega) (by omega)), fun _ => ?_⟩
          rw [nI_m1, nI_pred, nI_1, nI_1 l, ix_nI (show a < 2 ^ 31 by omega), ix_nI (show a + 1 < 2 ^ 31 by omega), ix12 hln hn, show (aset M 45 f).1 45 a = nI (L.getD a 0) from f1 a (by omega), ix_nI (show L.getD a 0 < 2 ^ 31 by omega), show (aset M 45 f).1 31 (L.getD a 0) = d 11 (L.getD a 0) from t31 _ (by omega), show (aset M 45 f).1 31 l = d 11 l from t31 l hln, mset_aset, mset_aset]
          refine ⟨vp_in_nI (by omega) (by decide), vp_in_nI (by omega) (by decide), vin12 hln hn, fun c5 => ⟨vp_in_nI (by omega) (by decide), fin (a + 1) f ha f1 f2 f3 (fun j hj => ?_)⟩, fun c5 => ⟨vp_in_nI (by omega) (by decide), vp_in_nI (by omega) (by decide), iha _ (by omega) (fun j hj => ?_) (fun j h1 h2 => ?_) (fun j h1 h2 => ?_)⟩⟩
          · rw [leI] at c5
            rw [ltI]
            rcases Nat.lt_or_ge j a with h1 | h1
            · have := pw_get pwL h1 (by omega)
              unfold RO at this; omega
            · obtain rfl : j = a := by omega
              omega
          · rw [upd_ne _ _ (by omega)]; exact f1 j (by omega)
          · rcases Nat.lt_or_ge (a + 1) j with h3 | h3
            · rw [upd_ne _ _ (by omega)]; exact f2 j h3 h2
            · obtain rfl : j = a + 1 := by omega
              rw [upd_at]; rfl
          · rcases Nat.lt_or_ge a j with h3 | h3
            · exact f3 j h3 h2
            · obtain rfl : j = a := by omega
              exact Int32.not_le.mp c5
      exact inner L.length f (Nat.le_refl _) hf (fun j h1 h2 => by omega) (fun j h1 h2 => by omega)
  have h0 := outer n 0 (M.1 45) (by omega) (fun j hj => absurd hj (Nat.not_lt_zero _))
  rw [aset_self] at h0
  exact wp_X4_pick_a h0
theorem c_sorted_one {G : GV} {k : Nat} {M : Mem} {q : Int32 → Mem → Prop} {s y : Int32} (hW : WFm (kM M.1)) (h : ∀ f, arr f (pkL (kM M.1) s y (nLm M)) → q (nI (pkL (kM M.1) s y (nLm M)).length) (aset M 29 f)) : Ci shM G mX12_sorted (k + 1) [.ref (G.2.1 0), .int s, .int y, .ref (G.2.1 29)] M q := by
  obtain ⟨e0, hn⟩ := WF_L hW
  have hmd : mdL (kM M.1) s y (nLm M) 99 = pkL (kM M.1) s y (nLm M) := mdL_eq hW s y
  have hlen : (mdL (kM M.1) s y (nLm M) 99).length ≤ 12 := by
    rw [hmd]; exact Nat.le_trans (len_pkL _ _ _ _) hn
  rw [← hmd] at h
  have outer : ∀ m num f, num + m = 99 → arr f (mdL (kM M.1) s y (nLm M) num) → V shM G mX12_sorted (k + 1) 6 [(0, .ref (G.2.1 0)), (1, .int s), (2, .int y), (3, .ref (G.2.1 29)), (4, .int (nI (mdL (kM M.1) s y (nLm M) num).length)), (5, .int (nI (num + 1)))] [] (aset M 29 f) (Qi q) := by
    intro m
    induction m with
    | zero =>
      intro num f hm hf
      obtain rfl : num = 99 := by omega
      exact wp_X12_sorted_one_6 ⟨fun _ => h f hf, fun c => absurd (by decide) c⟩
    | succ m ih =>
      intro num f hm hf
      have inner : ∀ m2 l f, l + m2 = nLm M → arr f (mdL (kM M.1) s y (nLm M) num ++ rwL (kM M.1) s y (num + 1) l) → V shM G mX12_sorted (k + 1) 16 [(0, .ref (G.2.1 0)), (1, .int s), (2, .int y), (3, .ref (G.2.1 29)), (4, .int (nI (mdL (kM M.1) s y (nLm M) num ++ rwL (kM M.1) s y (num + 1) l).length)), (5, .int (nI (num + 1))), (6, .int (nI l))] [] (aset M 29 f) (Qi q) := by
        intro m2
        induction m2 with
        | zero =>
          intro l f hl hf
          obtain rfl : l = nLm M := by omega
          refine wp_X12_sorted_one_16 ⟨fun _ => ?_, fun c => absurd (show (aset M 29 f).1 0 10 ≤ nI (nLm M) from by rw [show (aset M 29 f).1 0 10 = nI (nLm M) from e0]; exact nI_le (Nat.le_refl _) (by omega)) c⟩
          rw [nI_1]
          exact ih (num + 1) f (by omega) hf
        | succ m2 ih2 =>
          intro l f hl hf
          have hln : l < nLm M := by omega
          have no : ¬ (kM M.1 10 l = s ∧ kM M.1 11 l = nI (num + 1) ∧ gS (kM M.1) l = y) → V shM G mX12_sorted (k + 1) 16 [(0, .ref (G.2.1 0)), (1, .int s), (2, .int y), (3, .ref (G.2.1 29)), (4, .int (nI (mdL (kM M.1) s y (nLm M) num ++ rwL (kM M.1) s y (num + 1) l).length)), (5, .int (nI (num + 1))), (6, .int (nI (l + 1)))] [] (aset M 29 f) (Qi q) := fun hno => by
            have l1 := ih2 (l + 1) f (by omega)
            rw [rwL, if_neg hno] at l1
            exact l1 hf
          refine wp_X12_sorted_one_16 ⟨fun c => absurd c (by rw [show (aset M 29 f).1 0 10 = nI (nLm M) from e0]; exact nI_ge hln (by omega)), fun _ => ⟨vin12 hln hn, ?_⟩⟩
          rw [nI_1 l, ix12 hln hn]
          refine ⟨fun c => no (fun e => c e.1), fun c => ⟨vin12 hln hn, fun c2 => no (fun e => c2 e.2.1), fun c2 => c_gathered (M := aset M 29 f) hW hln ⟨fun c3 => no (fun e => c3 e.2.2), fun c3 => ?_⟩⟩⟩
          have hyes : kM M.1 10 l = s ∧ kM M.1 11 l = nI (num + 1) ∧ gS (kM M.1) l = y := ⟨c, c2, c3⟩
          have hl1 : (mdL (kM M.1) s y (nLm M) num ++ rwL (kM M.1) s y (num + 1) (l + 1)).length ≤ 12 := by
            have h1 := len_rwL (kM M.1) s y (num + 1) (nLm M - (l + 1)) (l + 1)
            rw [show l + 1 + (nLm M - (l + 1)) = nLm M by omega] at h1
            have h2 := len_mdL (kM M.1) s y (nLm M) (99 - (num + 1)) (num + 1)
            rw [show num + 1 + (99 - (num + 1)) = 99 by omega, mdL, List.length_append] at h2
            rw [List.length_append]; omega
          have l1 := fun f => ih2 (l + 1) f (by omega)
          have happ : mdL (kM M.1) s y (nLm M) num ++ rwL (kM M.1) s y (num + 1) (l + 1) = (mdL (kM M.1) s y (nLm M) num ++ rwL (kM M.1) s y (num + 1) l) ++ [l] := by rw [rwL, if_pos hyes, List.append_assoc]
          rw [happ] at l1 hl1
          obtain ⟨A, hA⟩ : ∃ A, A = mdL (kM M.1) s y (nLm M) num ++ rwL (kM M.1) s y (num + 1) l := ⟨_, rfl⟩
          rw [← hA] at l1 hl1 hf ⊢
          rw [len_app] at l1 hl1
          refine ⟨vp_in_nI (by omega) (by decide), ?_⟩
          rw [nI_1, ix_nI (by omega), mset_aset]
          exact l1 _ (arr_app hf)
      refine wp_X12_sorted_one_6 ⟨fun c => absurd c (nI_ge (b := 100) (by omega) (by decide)), fun _ => ?_⟩
      have i0 := inner (nLm M) 0 f (by omega)
      rw [rwL, List.append_nil] at i0
      exact i0 hf
  have h0 := outer 99 0 (M.1 29) (by omega) (fun j hj => absurd hj (Nat.not_lt_zero _))
  rw [aset_self] at h0
  exact wp_X12_sorted_one h0
theorem c_sorted_other {G : GV} {k : Nat} {M : Mem} {q : Int32 → Mem → Prop} {s y : Int32} (hW : WFm (kM M.1)) (h : ∀ f, arr f (pkL (kM M.1) s y (nLm M)) → q (nI (pkL (kM M.1) s y (nLm M)).length) (aset M 30 f)) : Ci shM G mX12_sorted (k + 1) [.ref (G.2.1 0), .int s, .int y, .ref (G.2.1 30)] M q := by
  obtain ⟨e0, hn⟩ := WF_L hW
  have hmd : mdL (kM M.1) s y (nLm M) 99 = pkL (kM M.1) s y (nLm M) := mdL_eq hW s y
  have hlen : (mdL (kM M.1) s y (nLm M) 99).length ≤ 12 := by
    rw [hmd]; exact Nat.le_trans (len_pkL _ _ _ _) hn
  rw [← hmd] at h
  have outer : ∀ m num f, num + m = 99 → arr f (mdL (kM M.1) s y (nLm M) num) → V shM G mX12_sorted (k + 1) 6 [(0, .ref (G.2.1 0)), (1, .int s), (2, .int y), (3, .ref (G.2.1 30)), (4, .int (nI (mdL (kM M.1) s y (nLm M) num).length)), (5, .int (nI (num + 1)))] [] (aset M 30 f) (Qi q) := by
    intro m
    induction m with
    | zero =>
      intro num f hm hf
      obtain rfl : num = 99 := by omega
      exact wp_X12_sorted_other_6 ⟨fun _ => h f hf, fun c => absurd (by decide) c⟩
    | succ m ih =>
      intro num f hm hf
      have inner : ∀ m2 l f, l + m2 = nLm M → arr f (mdL (kM M.1) s y (nLm M) num ++ rwL (kM M.1) s y (num + 1) l) → V shM G mX12_sorted (k + 1) 16 [(0, .ref (G.2.1 0)), (1, .int s), (2, .int y), (3, .ref (G.2.1 30)), (4, .int (nI (mdL (kM M.1) s y (nLm M) num ++ rwL (kM M.1) s y (num + 1) l).length)), (5, .int (nI (num + 1))), (6, .int (nI l))] [] (aset M 30 f) (Qi q) := by
        intro m2
        induction m2 with
        | zero =>
          intro l f hl hf
          obtain rfl : l = nLm M := by omega
          refine wp_X12_sorted_other_16 ⟨fun _ => ?_, fun c => absurd (show (aset M 30 f).1 0 10 ≤ nI (nLm M) from by rw [show (aset M 30 f).1 0 10 = nI (nLm M) from e0]; exact nI_le (Nat.le_refl _) (by omega)) c⟩
          rw [nI_1]
          exact ih (num + 1) f (by omega) hf
        | succ m2 ih2 =>
          intro l f hl hf
          have hln : l < nLm M := by omega
          have no : ¬ (kM M.1 10 l = s ∧ kM M.1 11 l = nI (num + 1) ∧ gS (kM M.1) l = y) → V shM G mX12_sorted (k + 1) 16 [(0, .ref (G.2.1 0)), (1, .int s), (2, .int y), (3, .ref (G.2.1 30)), (4, .int (nI (mdL (kM M.1) s y (nLm M) num ++ rwL (kM M.1) s y (num + 1) l).length)), (5, .int (nI (num + 1))), (6, .int (nI (l + 1)))] [] (aset M 30 f) (Qi q) := fun hno => by
            have l1 := ih2 (l + 1) f (by omega)
            rw [rwL, if_neg hno] at l1
            exact l1 hf
          refine wp_X12_sorted_other_16 ⟨fun c => absurd c (by rw [show (aset M 30 f).1 0 10 = nI (nLm M) from e0]; exact nI_ge hln (by omega)), fun _ => ⟨vin12 hln hn, ?_⟩⟩
          rw [nI_1 l, ix12 hln hn]
          refine ⟨fun c => no (fun e => c e.1), fun c => ⟨vin12 hln hn, fun c2 => no (fun e => c2 e.2.1), fun c2 => c_gathered (M := aset M 30 f) hW hln ⟨fun c3 => no (fun e => c3 e.2.2), fun c3 => ?_⟩⟩⟩
          have hyes : kM M.1 10 l = s ∧ kM M.1 11 l = nI (num + 1) ∧ gS (kM M.1) l = y := ⟨c, c2, c3⟩
          have hl1 : (mdL (kM M.1) s y (nLm M) num ++ rwL (kM M.1) s y (num + 1) (l + 1)).length ≤ 12 := by
            have h1 := len_rwL (kM M.1) s y (num + 1) (nLm M - (l + 1)) (l + 1)
            rw [show l + 1 + (nLm M - (l + 1)) = nLm M by omega] at h1
            have h2 := len_mdL (kM M.1) s y (nLm M) (99 - (num + 1)) (num + 1)
            rw [show num + 1 + (99 - (num + 1)) = 99 by omega, mdL, List.length_append] at h2
            rw [List.length_append]; omega
          have l1 := fun f => ih2 (l + 1) f (by omega)
          have happ : mdL (kM M.1) s y (nLm M) num ++ rwL (kM M.1) s y (num + 1) (l + 1) = (mdL (kM M.1) s y (nLm M) num ++ rwL (kM M.1) s y (num + 1) l) ++ [l] := by rw [rwL, if_pos hyes, List.append_assoc]
          rw [happ] at l1 hl1
          obtain ⟨A, hA⟩ : ∃ A, A = mdL (kM M.1) s y (nLm M) num ++ rwL (kM M.1) s y (num + 1) l := ⟨_, rfl⟩
          rw [← hA] at l1 hl1 hf ⊢
          rw [len_app] at l1 hl1
          refine ⟨vp_in_nI (by omega) (by decide), ?_⟩
          rw [nI_1, ix_nI (by omega), mset_aset]
          exact l1 _ (arr_app hf)
      refine wp_X12_sorted_other_6 ⟨fun c => absurd c (nI_ge (b := 100) (by omega) (by decide)), fun _ => ?_⟩
      have i0 := inner (nLm M) 0 f (by omega)
      rw [rwL, List.append_nil] at i0
      exact i0 hf
  have h0 := outer 99 0 (M.1 30) (by omega) (fun j hj => absurd hj (Nat.not_lt_zero _))
  rw [aset_self] at h0
  exact wp_X12_sorted_other h0
