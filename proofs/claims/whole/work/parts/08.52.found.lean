/-! found -/
def okF (e : Nat → Nat → Bool) (p r x y b a : Nat) : Bool := e b a && decide (T e p r (b + 1) (a + 1) + 1 = T e p r x y)
/-- the first pair from x, y on -/
def isNx (e : Nat → Nat → Bool) (p r x y b a : Nat) : Prop := (x ≤ b ∧ b < p ∧ y ≤ a ∧ a < r) ∧ okF e p r x y b a = true ∧ (∀ a', y ≤ a' → a' < a → okF e p r x y b a' = false) ∧ ∀ b', x ≤ b' → b' < b → ∀ a', y ≤ a' → a' < r → okF e p r x y b' a' = false
/-- where the pairs behind the first n begin -/
def PS (e : Nat → Nat → Bool) (p r : Nat) : Nat → Nat → Nat → Prop
  | 0, x, y => x = 0 ∧ y = 0
  | n + 1, x, y => ∃ x' y' b a, PS e p r n x' y' ∧ isNx e p r x' y' b a ∧ x = b + 1 ∧ y = a + 1
theorem nx_uniq {e : Nat → Nat → Bool} {p r x y b a b' a' : Nat} (h : isNx e p r x y b a) (h' : isNx e p r x y b' a') : b = b' ∧ a = a' := by
  obtain ⟨⟨r1, r2, r3, r4⟩, o, f1, f2⟩ := h
  obtain ⟨⟨s1, s2, s3, s4⟩, o', g1, g2⟩ := h'
  have hb : b = b' := by
    rcases Nat.lt_trichotomy b b' with h5 | h5 | h5
    · rw [g2 b r1 h5 a r3 r4] at o; cases o
    · exact h5
    · rw [f2 b' s1 h5 a' s3 s4] at o'; cases o'
  subst hb
  refine ⟨rfl, ?_⟩
  rcases Nat.lt_trichotomy a a' with h5 | h5 | h5
  · rw [g1 a r3 h5] at o; cases o
  · exact h5
  · rw [f1 a' s3 h5] at o'; cases o'
theorem PS_uniq {e : Nat → Nat → Bool} {p r : Nat} : ∀ n {x y x' y' : Nat}, PS e p r n x y → PS e p r n x' y' → x = x' ∧ y = y' := by
  intro n
  induction n with
  | zero =>
    rintro x y x' y' ⟨h1, h2⟩ ⟨h3, h4⟩
    exact ⟨h1.trans h3.symm, h2.trans h4.symm⟩
  | succ n ih =>
    rintro x y x' y' ⟨u, v, b, a, h1, h2, rfl, rfl⟩ ⟨u', v', b', a', h3, h4, rfl, rfl⟩
    obtain ⟨rfl, rfl⟩ := ih h1 h3
    obtain ⟨rfl, rfl⟩ := nx_uniq h2 h4
    exact ⟨rfl, rfl⟩
theorem ex_pair {e : Nat → Nat → Bool} {p r : Nat} : ∀ m x y, (p - x) + (r - y) ≤ m → 0 < T e p r x y → ∃ b a, (x ≤ b ∧ b < p ∧ y ≤ a ∧ a < r) ∧ e b a = true ∧ T e p r (b + 1) (a + 1) + 1 = T e p r x y := by
  intro m
  induction m with
  | zero =>
    intro x y hm hT
    have : T e p r x y = 0 := by rw [T, show p - x = 0 by omega]; rfl
    omega
  | succ m ih =>
    intro x y hm hT
    have hx : x < p := by
      rcases Nat.lt_or_ge x p with h5 | h5
      · exact h5
      · have : T e p r x y = 0 := by rw [T, show p - x = 0 by omega]; rfl
        omega
    have hy : y < r := by
      rcases Nat.lt_or_ge y r with h5 | h5
      · exact h5
      · have : T e p r x y = 0 := by rw [T, show r - y = 0 by omega, prN_z]
        omega
    have hs := T_s (e := e) hx hy
    by_cases h1 : T e p r (x + 1) y = T e p r x y
    · obtain ⟨b, a, h2, h3, h4⟩ := ih (x + 1) y (by omega) (by omega)
      exact ⟨b, a, by omega, h3, h4.trans h1⟩
    · by_cases h2 : T e p r x (y + 1) = T e p r x y
      · obtain ⟨b, a, h3, h4, h5⟩ := ih x (y + 1) (by omega) (by omega)
        exact ⟨b, a, by omega, h4, h5.trans h2⟩
      · cases hb : e x y with
        | true =>
          rw [hb, if_pos rfl] at hs
          exact ⟨x, y, by omega, hb, by omega⟩
        | false =>
          rw [hb, if_neg (by decide)] at hs
          omega
theorem ex_ok {e : Nat → Nat → Bool} {p r x y : Nat} (h : 0 < T e p r x y) : ∃ b a, (x ≤ b ∧ b < p ∧ y ≤ a ∧ a < r) ∧ okF e p r x y b a = true := by
  obtain ⟨b, a, h1, h2, h3⟩ := ex_pair _ x y (Nat.le_refl _) h
  exact ⟨b, a, h1, by rw [okF, h2, decide_eq_true h3]; rfl⟩
theorem nx_T {e : Nat → Nat → Bool} {p r x y b a : Nat} (h : isNx e p r x y b a) : T e p r (b + 1) (a + 1) + 1 = T e p r x y := by
  have := h.2.1
  rw [okF, Bool.and_eq_true, decide_eq_true_iff] at this
  exact this.2
def Fm (B : Mem) (u v : Int32) : Mem := mset (mset B 10 6 u) 10 7 v
theorem Fm_Fm {B : Mem} {u v u' v' : Int32} : mset (mset (Fm B u v) 10 6 u') 10 7 v' = Fm B u' v' := by
  simp only [Fm, mset]
  congr 1
  funext k
  by_cases h1 : k = 10
  · subst h1
    simp only [if_true]
    funext j
    by_cases h2 : j = 7
    · rw [h2, upd_at, upd_at]
    · rw [upd_ne _ _ h2, upd_ne _ _ h2]
      by_cases h3 : j = 6
      · rw [h3, upd_at, upd_at]
      · rw [upd_ne _ _ h3, upd_ne _ _ h2, upd_ne _ _ h3, upd_ne _ _ h3]
  · simp [h1]
section
variable {G : GV} {k : Nat} {B : Mem} {d : Nat → Nat → Int32} {L1 L2 : List Nat} {g : Nat → Nat → Int32}
theorem c_stepTo {q : Mem → Prop} {u v : Int32} {x y : Nat} (hW : WFm d) (hT : TieC (kC B.1) d) (h44 : arr (B.1 44) L1) (h45 : arr (B.1 45) L2) (m1 : ∀ z, z ∈ L1 → z < ix (d 0 10)) (m2 : ∀ z, z ∈ L2 → z < ix (d 0 10)) (hp : L1.length ≤ 12) (hr : L2.length ≤ 12) (e4 : B.1 10 4 = nI L1.length) (e5 : B.1 10 5 = nI L2.length) (hg : ∀ b a, b ≤ L1.length → a ≤ L2.length → g b a = nI (T (liE d L1 L2) L1.length L2.length b a)) (hx : x ≤ L1.length) (hy : y ≤ L2.length) (hpos : 0 < T (liE d L1 L2) L1.length L2.length x y) (h : ∀ b a, isNx (liE d L1 L2) L1.length L2.length x y b a → q (Fm (Lk B g) (nI b) (nI a))) : Cv shC G mX4_stepToPair (k + 2) [.ref (G.2.1 10), .int (nI x), .int (nI y)] (Fm (Lk B g) u v) q := by
  obtain ⟨b0, a0, ⟨x1, x2, x3, x4⟩, hok0⟩ := ex_ok hpos
  have f4 : (Fm (Lk B g) u v).1 10 4 = nI L1.length := e4
  have f5 : (Fm (Lk B g) u v).1 10 5 = nI L2.length := e5
  have hT' : TieC (kC (Fm (Lk B g) u v).1) d := hT
  have frow : ∀ b, b < 13 → (Fm (Lk B g) u v).1 (48 + b) = g b := fun b hb => by
    rw [Fm, mset_ne (by omega), mset_ne (by omega), Lk_row hb]
  have rows : ∀ m b, b + m = L1.length → x ≤ b → (∀ b', x ≤ b' → b' < b → ∀ a', y ≤ a' → a' < L2.length → okF (liE d L1 L2) L1.length L2.length x y b' a' = false) → V shC G mX4_stepToPair (k + 2) 2 [(0, .ref (G.2.1 10)), (1, .int (nI x)), (2, .int (nI y)), (3, .int (nI b))] [] (Fm (Lk B g) u v) (Qv q) := by
    intro m
    induction m with
    | zero =>
      intro b hb hxb hno
      rw [hno b0 x1 (by omega) a0 x3 x4] at hok0; cases hok0
    | succ m ih =>
      intro b hb hxb hno
      have hbl : b < L1.length := by omega
      have row : ∀ mm a, a + mm = L2.length → y ≤ a → (∀ a', y ≤ a' → a' < a → okF (liE d L1 L2) L1.length L2.length x y b a' = false) → V shC G mX4_stepToPair (k + 2) 13 [(0, .ref (G.2.1 10)), (1, .int (nI x)), (2, .int (nI y)), (3, .int (nI b)), (4, .int (nI a))] [] (Fm (Lk B g) u v) (Qv q) := by
        intro mm
        induction mm with
        | zero =>
          intro a ha hya hna
          obtain rfl : a = L2.length := by omega
          refine wp_X4_stepToPair_13 ⟨fun _ => ?_, fun c => absurd (by rw [f5]; exact nI_le (Nat.le_refl _) (by omega)) c⟩
          rw [nI_1]
          refine ih (b + 1) (by omega) (by omega) (fun b' h5 h6 a' h7 h8 => ?_)
          rcases Nat.lt_or_ge b' b with h9 | h9
          · exact hno b' h5 h9 a' h7 h8
          · obtain rfl : b' = b := by omega
            exact hna a' h7 h8
        | succ mm ih2 =>
          intro a ha hya hna
          have hal : a < L2.length := by omega
          have t1 := T_le (e := liE d L1 L2) (r := L2.length) (b := b + 1) (a := a + 1) hp
          have t2 := T_le (e := liE d L1 L2) (r := L2.length) (b := x) (a := y) hp
          have nx : okF (liE d L1 L2) L1.length L2.length x y b a = false → V shC G mX4_stepToPair (k + 2) 13 [(0, .ref (G.2.1 10)), (1, .int (nI x)), (2, .int (nI y)), (3, .int (nI b)), (4, .int (nI (a + 1)))] [] (Fm (Lk B g) u v) (Qv q) := fun hf => ih2 (a + 1) (by omega) (by omega) (fun a' h5 h6 => by
            rcases Nat.lt_or_ge a' a with h7 | h7
            · exact hna a' h5 h7
            · obtain rfl : a' = a := by omega
              exact hf)
          refine wp_X4_stepToPair_13 ⟨fun c => absurd c (by rw [f5]; exact nI_ge hal (by omega)), fun _ => c_canPair (M := Fm (Lk B g) u v) hW hT' h44 h45 m1 m2 hp hr hbl hal ?_⟩
          rw [nI_1 a, nI_1 b, ix_nI (show b + 1 < 2 ^ 31 by omega), ix_nI (show a + 1 < 2 ^ 31 by omega), ix_nI (show x < 2 ^ 31 by omega), ix_nI (show y < 2 ^ 31 by omega), frow _ (show b + 1 < 13 by omega), frow _ (show x < 13 by omega), hg (b + 1) (a + 1) hbl hal, hg _ _ hx hy, nI_1, Fm_Fm]
          cases hl : liE d L1 L2 b a with
          | false => exact k0 (nx (by rw [okF, hl]; rfl))
          | true =>
            refine k1 ⟨vp_in_nI (by omega) (by decide), vp_in_nI (by omega) (by decide), vp_in_nI (by omega) (by decide), vp_in_nI (by omega) (by decide), fun c => nx ?_, fun c => h b a ⟨⟨hxb, hbl, hya, hal⟩, ?_, hna, hno⟩⟩
            · rw [okF, decide_eq_false (fun e => c (by rw [e])), Bool.and_false]
            · rw [okF, hl, decide_eq_true ((nI_eq (by omega) (by omega)).mp c)]; rfl
      exact wp_X4_stepToPair_2 ⟨fun c => absurd c (by rw [f4]; exact nI_ge hbl (by omega)), fun _ => row (L2.length - y) y (by omega) (Nat.le_refl _) (fun a' h5 h6 => by omega)⟩
  exact wp_X4_stepToPair (rows (L1.length - x) x (by omega) (Nat.le_refl _) (fun b' h5 h6 => by omega))
theorem c_lineOfPair {q : Int32 → Mem → Prop} {v2 : Int32} {i : Nat} (hW : WFm d) (hT : TieC (kC B.1) d) (h44 : arr (B.1 44) L1) (h45 : arr (B.1 45) L2) (m1 : ∀ z, z ∈ L1 → z < ix (d 0 10)) (m2 : ∀ z, z ∈ L2 → z < ix (d 0 10)) (hp : L1.length ≤ 12) (hr : L2.length ≤ 12) (e4 : B.1 10 4 = nI L1.length) (e5 : B.1 10 5 = nI L2.length) (hg : ∀ b a, b ≤ L1.length → a ≤ L2.length → g b a = nI (T (liE d L1 L2) L1.length L2.length b a)) (hi : i < T (liE d L1 L2) L1.length L2.length 0 0) (h : ∀ x y b a, PS (liE d L1 L2) L1.length L2.length i x y → isNx (liE d L1 L2) L1.length L2.length x y b a → ∀ u v, (v2 = 0 → q (nI (L2.getD a 0)) (Fm (Lk B g) u v)) ∧ (¬ v2 = 0 → q (nI (L1.getD b 0)) (Fm (Lk B g) u v))) : Ci shC G mX4_lineOfPair (k + 3) [.ref (G.2.1 10), .int (nI i), .int v2] (Lk B g) q := by
  have h12 := T_le (e := liE d L1 L2) (r := L2.length) (b := 0) (a := 0) hp
  have loop : ∀ m n u v x y, n + m = i + 1 → PS (liE d L1 L2) L1.length L2.length n x y → T (liE d L1 L2) L1.length L2.length x y + n = T (liE d L1 L2) L1.length L2.length 0 0 → x ≤ L1.length → y ≤ L2.length → u + 1 = nI x → v + 1 = nI y → (0 < n → ∃ x' y' b a, PS (liE d L1 L2) L1.length L2.length (n - 1) x' y' ∧ isNx (liE d L1 L2) L1.length L2.length x' y' b a ∧ u = nI b ∧ v = nI a) → V shC G mX4_lineOfPair (k + 3) 12 [(0, .ref (G.2.1 10)), (1, .int (nI i)), (2, .int v2), (3, .int (nI n))] [] (Fm (Lk B g) u v) (Qi q) := by
    intro m
    induction m with
    | zero =>
      intro n u v x y hn hps hT0 hx hy hu hv hlast
      obtain rfl : n = i + 1 := by omega
      obtain ⟨x', y', b, a, p1, p2, rfl, rfl⟩ := hlast (by omega)
      obtain ⟨r1, r2, r3, r4⟩ := p2.1
      have h5 := h x' y' b a p1 p2 (nI b) (nI a)
      refine wp_X4_lineOfPair_12 ⟨fun _ => ?_, fun c => absurd (nI_lt (by omega) (by omega)) c⟩
      rw [show (Fm (Lk B g) (nI b) (nI a)).1 10 6 = nI b from rfl, show (Fm (Lk B g) (nI b) (nI a)).1 10 7 = nI a from rfl, show (Fm (Lk B g) (nI b) (nI a)).1 10 4 = nI L1.length from e4, show (Fm (Lk B g) (nI b) (nI a)).1 10 5 = nI L2.length from e5, ix_nI (show b < 2 ^ 31 by omega), ix_nI (show a < 2 ^ 31 by omega), show (Fm (Lk B g) (nI b) (nI a)).1 44 b = nI (L1.getD b 0) from h44 b r2, show (Fm (Lk B g) (nI b) (nI a)).1 45 a = nI (L2.getD a 0) from h45 a r4]
      exact ⟨fun c => absurd c (nI_pos (by omega)), fun _ => ⟨fun c => absurd c (nI_ge r2 (by omega)), fun _ => ⟨fun c => absurd c (nI_pos (by omega)), fun _ => ⟨fun _ => ⟨fun c => ⟨vp_in_nI (by omega) (by decide), h5.1 c⟩, fun c => ⟨vp_in_nI (by omega) (by decide), h5.2 c⟩⟩, fun c => absurd (nI_lt r4 (by omega)) c⟩⟩⟩⟩
    | succ m ih =>
      intro n u v x y hn hps hT0 hx hy hu hv hlast
      refine wp_X4_lineOfPair_12 ⟨fun c => absurd c (nI_nlt (by omega) (by omega)), fun _ => ?_⟩
      rw [show (Fm (Lk B g) u v).1 10 6 = u from rfl, show (Fm (Lk B g) u v).1 10 7 = v from rfl, hu, hv, nI_1]
      refine c_stepTo hW hT h44 h45 m1 m2 hp hr e4 e5 hg hx hy (by omega) (fun b a hnx => ?_)
      obtain ⟨r1, r2, r3, r4⟩ := hnx.1
      have hTT := nx_T hnx
      exact ih (n + 1) (nI b) (nI a) (b + 1) (a + 1) (by omega) ⟨x, y, b, a, hps, hnx, rfl, rfl⟩ (by omega) (by omega) (by omega) (nI_1 b) (nI_1 a) (fun _ => ⟨x, y, b, a, hps, hnx, rfl, rfl⟩)
  exact wp_X4_lineOfPair (loop (i + 1) 0 (-1) (-1) 0 0 (by omega) ⟨rfl, rfl⟩ rfl (Nat.zero_le _) (Nat.zero_le _) (by decide) (by decide) (fun h5 => absurd h5 (by omega)))
end
theorem c_foundM {G : GV} {k i : Nat} {B : Mem} {L1 L2 : List Nat} {q : Int32 → Mem → Prop} {v1 v2 v3 w : Int32} {f hh : Nat → Int32} (hi : i < 2 ^ 31) (hW : WFm (kM B.1)) (h29 : arr (B.1 29) L1) (h30 : arr (B.1 30) L2) (m1 : ∀ z, z ∈ L1 → z < nLm B) (m2 : ∀ z, z ∈ L2 → z < nLm B) (hp : L1.length ≤ 12) (hr : L2.length ≤ 12) (e47 : B.1 0 47 = nI L1.length) (e48 : B.1 0 48 = nI L2.length) (hg : ∀ i j, i ≤ L1.length → j ≤ L2.length → hh (13 * i + j) = nI (T (liE (kM B.1) L1 L2) L1.length L2.length i j)) (hN : T (liE (kM B.1) L1 L2) L1.length L2.length 0 0 ≤ i → ∀ f, q (-1000000) (Xm B f hh)) (hY : ∀ x y b a, PS (liE (kM B.1) L1 L2) L1.length L2.length i x y → isNx (liE (kM B.1) L1 L2) L1.length L2.length x y b a → ∀ f, (w = 0 → q (nI (L1.getD b 0)) (Xm B f hh)) ∧ (w ≠ 0 → q (nI (L2.getD a 0)) (Xm B f hh))) : V shM G mX12_found (k + 4) 44 [(0, .ref (G.2.1 0)), (1, .int v1), (2, .int v2), (3, .int v3), (4, .int (nI i)), (5, .int w), (6, .int 0), (7, .int 0), (8, .int 0)] [] (Xm B f hh) (Qi q) := by
  have h12 := T_le (e := liE (kM B.1) L1 L2) (r := L2.length) (b := 0) (a := 0) hp
  have f47 : ∀ f, (Xm B f hh).1 0 47 = nI L1.length := fun f => e47
  have f48 : ∀ f, (Xm B f hh).1 0 48 = nI L2.length := fun f => e48
  have e31 : ∀ f, (Xm B f hh).1 31 = hh := fun f => rfl
  have b29 : ∀ f, (Xm B f hh).1 29 = B.1 29 := fun f => rfl
  have b30 : ∀ f, (Xm B f hh).1 30 = B.1 30 := fun f => rfl
  have loop : ∀ m n x y f, n + m = T (liE (kM B.1) L1 L2) L1.length L2.length 0 0 → n ≤ i → PS (liE (kM B.1) L1 L2) L1.length L2.length n x y → T (liE (kM B.1) L1 L2) L1.length L2.length x y = m → x ≤ L1.length → y ≤ L2.length → V shM G mX12_found (k + 4) 44 [(0, .ref (G.2.1 0)), (1, .int v1), (2, .int v2), (3, .int v3), (4, .int (nI i)), (5, .int w), (6, .int (nI x)), (7, .int (nI y)), (8, .int (nI n))] [] (Xm B f hh) (Qi q) := by
    intro m
    induction m with
    | zero =>
      intro n x y f hn hni hps hT0 hx hy
      refine wp_X12_found_44 ⟨fun c => absurd c (nI_nlt hni hi), fun _ => ?_⟩
      rw [nI_13, nI_add, ix_nI (show 13 * x + y < 2 ^ 31 by omega), e31, hg x y hx hy, hT0]
      exact ⟨vp_in_nI (by omega) (by decide), fun _ => hN (by omega) f, fun c => absurd (by decide) c⟩
    | succ m ih =>
      intro n x y f hn hni hps hT0 hx hy
      have t2 := T_le (e := liE (kM B.1) L1 L2) (r := L2.length) (b := x) (a := y) hp
      obtain ⟨b0, a0, ⟨x1, x2, x3, x4⟩, hok0⟩ := ex_ok (e := liE (kM B.1) L1 L2) (p := L1.length) (r := L2.length) (x := x) (y := y) (by omega)
      refine wp_X12_found_44 ⟨fun c => absurd c (nI_nlt hni hi), fun _ => ?_⟩
      rw [nI_13, nI_add, ix_nI (show 13 * x + y < 2 ^ 31 by omega), e31, hg x y hx hy]
      refine ⟨vp_in_nI (by omega) (by decide), fun c => ?_, fun _ => ⟨vp_in_nI (by omega) (by decide), ?_⟩⟩
      · have := (nI_leI (b := 0) (by omega) (by omega)).mp c
        omega
      -- one is found
      have fin : ∀ b a f, isNx (liE (kM B.1) L1 L2) L1.length L2.length x y b a → ((nI n ≠ nI i → V shM G mX12_found (k + 4) 44 [(0, .ref (G.2.1 0)), (1, .int v1), (2, .int v2), (3, .int v3), (4, .int (nI i)), (5, .int w), (6, .int (nI b + 1)), (7, .int (nI a + 1)), (8, .int (nI n + 1))] [] (Xm B f hh) (Qi q)) ∧ (nI n = nI i → ((w ≠ 0 → vp_in (nI a) 12 ∧ q ((Xm B f hh).1 30 (ix (nI a))) (Xm B f hh)) ∧ (w = 0 → vp_in (nI b) 12 ∧ q ((Xm B f hh).1 29 (ix (nI b))) (Xm B f hh))))) := by
        intro b a f hnx
        obtain ⟨r1, r2, r3, r4⟩ := hnx.1
        have hTT := nx_T hnx
        refine ⟨fun c => ?_, fun c => ?_⟩
        · rw [nI_1, nI_1, nI_1]
          have hne : n ≠ i := fun e => c (by rw [e])
          exact ih (n + 1) (b + 1) (a + 1) f (by omega) (by omega) ⟨x, y, b, a, hps, hnx, rfl, rfl⟩ (by omega) (by omega) (by omega)
        · have hni2 : n = i := (nI_eq (by omega) hi).mp c
          subst hni2
          have h5 := hY x y b a hps hnx f
          rw [ix_nI (show b < 2 ^ 31 by omega), ix_nI (show a < 2 ^ 31 by omega), b29, b30, h29 b r2, h30 a r4]
          exact ⟨fun c2 => ⟨vp_in_nI (by omega) (by decide), h5.2 c2⟩, fun c2 => ⟨vp_in_nI (by omega) (by decide), h5.1 c2⟩⟩
      have done94 : ∀ b a p f, isNx (liE (kM B.1) L1 L2) L1.length L2.length x y b a → V shM G mX12_found (k + 4) 94 [(0, .ref (G.2.1 0)), (1, .int v1), (2, .int v2), (3, .int v3), (4, .int (nI i)), (5, .int w), (6, .int (nI x)), (7, .int (nI y)), (8, .int (nI n)), (9, .int (nI (T (liE (kM B.1) L1 L2) L1.length L2.length x y))), (10, .int (nI b)), (11, .int (nI a)), (12, .int p)] [] (Xm B f hh) (Qi q) := by
        intro b a p f hnx
        have h5 := fin b a f hnx
        have hb := hnx.1.2.1
        exact wp_X12_found_94 ⟨fun _ => h5, fun _ => ⟨fun _ => h5, fun c => absurd c (nI_none (by omega) (by decide))⟩⟩
      have rows : ∀ mm b f, b + mm = L1.length → x ≤ b → (∀ b', x ≤ b' → b' < b → ∀ a', y ≤ a' → a' < L2.length → okF (liE (kM B.1) L1 L2) L1.length L2.length x y b' a' = false) → V shM G mX12_found (k + 4) 94 [(0, .ref (G.2.1 0)), (1, .int v1), (2, .int v2), (3, .int v3), (4, .int (nI i)), (5, .int w), (6, .int (nI x)), (7, .int (nI y)), (8, .int (nI n)), (9, .int (nI (T (liE (kM B.1) L1 L2) L1.length L2.length x y))), (10, .int (-1000000)), (11, .int (-1000000)), (12, .int (nI b))] [] (Xm B f hh) (Qi q) := by
        intro mm
        induction mm with
        | zero =>
          intro b f hb hxb hno
          rw [hno b0 x1 (by omega) a0 x3 x4] at hok0; cases hok0
        | succ mm ih2 =>
          intro b f hb hxb hno
          have hbl : b < L1.length := by omega
          have row : ∀ m3 a f, a + m3 = L2.length → y ≤ a → (∀ a', y ≤ a' → a' < a → okF (liE (kM B.1) L1 L2) L1.length L2.length x y b a' = false) → V shM G mX12_found (k + 4) 114 [(0, .ref (G.2.1 0)), (1, .int v1), (2, .int v2), (3, .int v3), (4, .int (nI i)), (5, .int w), (6, .int (nI x)), (7, .int (nI y)), (8, .int (nI n)), (9, .int (nI (T (liE (kM B.1) L1 L2) L1.length L2.length x y))), (10, .int (-1000000)), (11, .int (-1000000)), (12, .int (nI b)), (13, .int (nI a))] [] (Xm B f hh) (Qi q) := by
            intro m3
            induction m3 with
            | zero =>
              intro a f ha hya hna
              obtain rfl : a = L2.length := by omega
              refine wp_X12_found_114 ⟨fun _ => ?_, fun c => absurd (by rw [f48]; exact nI_le (Nat.le_refl _) (by omega)) c⟩
              rw [nI_1]
              refine ih2 (b + 1) f (by omega) (by omega) (fun b' h5 h6 a' h7 h8 => ?_)
              rcases Nat.lt_or_ge b' b with h9 | h9
              · exact hno b' h5 h9 a' h7 h8
              · obtain rfl : b' = b := by omega
                exact hna a' h7 h8
            | succ m3 ih3 =>
              intro a f ha hya hna
              have hal : a < L2.length := by omega
              have t1 := T_le (e := liE (kM B.1) L1 L2) (r := L2.length) (b := b + 1) (a := a + 1) hp
              have nx : okF (liE (kM B.1) L1 L2) L1.length L2.length x y b a = false → ∀ f, V shM G mX12_found (k + 4) 114 [(0, .ref (G.2.1 0)), (1, .int v1), (2, .int v2), (3, .int v3), (4, .int (nI i)), (5, .int w), (6, .int (nI x)), (7, .int (nI y)), (8, .int (nI n)), (9, .int (nI (T (liE (kM B.1) L1 L2) L1.length L2.length x y))), (10, .int (-1000000)), (11, .int (-1000000)), (12, .int (nI b)), (13, .int (nI (a + 1)))] [] (Xm B f hh) (Qi q) := fun hf f => ih3 (a + 1) f (by omega) (by omega) (fun a' h5 h6 => by
                rcases Nat.lt_or_ge a' a with h7 | h7
                · exact hna a' h5 h7
                · obtain rfl : a' = a := by omega
                  exact hf)
              refine wp_X12_found_114 ⟨fun c => absurd c (by rw [f48]; exact nI_ge hal (by omega)), fun _ => ⟨fun c => absurd rfl c, fun _ => ⟨vp_in_nI (by omega) (by decide), vp_in_nI (by omega) (by decide), ?_⟩⟩⟩
              rw [ix_nI (show b < 2 ^ 31 by omega), ix_nI (show a < 2 ^ 31 by omega), b29, b30, h29 b hbl, h30 a hal]
              refine c_isLike (M := Xm B f hh) hW (m1 _ (get_mem hbl)) (m2 _ (get_mem hal)) (fun f' => ?_)
              rw [Xm_24, show kM (Xm B f hh).1 = kM B.1 from rfl, nI_1 a, nI_13, nI_p14, nI_add, ix_nI (show 13 * b + 14 + a < 2 ^ 31 by omega), e31, show 13 * b + 14 + a = 13 * (b + 1) + (a + 1) by omega, hg (b + 1) (a + 1) hbl hal, nI_1]
              have hl : likeS (kM B.1) (L1.getD b 0) (L2.getD a 0) = liE (kM B.1) L1 L2 b a := rfl
              rw [hl]
              cases hb2 : liE (kM B.1) L1 L2 b a with
              | false => exact k0 (nx (by rw [okF, hb2]; rfl) f')
              | true =>
                refine k1 ⟨vp_in_nI (by omega) (by decide), fun c => nx ?_ f', fun c => ?_⟩
                · rw [okF, decide_eq_false (fun e => c (by rw [e])), Bool.and_false]
                · have hnx : isNx (liE (kM B.1) L1 L2) L1.length L2.length x y b a := ⟨⟨hxb, hbl, hya, hal⟩, by rw [okF, hb2, decide_eq_true ((nI_eq (by omega) (by omega)).mp c)]; rfl, hna, hno⟩
                  exact wp_X12_found_114 ⟨fun _ => done94 b a _ f' hnx, fun _ => ⟨fun _ => done94 b a _ f' hnx, fun c2 => absurd c2 (nI_none (by omega) (by decide))⟩⟩
          exact wp_X12_found_94 ⟨fun c => absurd c (by rw [f47]; exact nI_ge hbl (by omega)), fun _ => ⟨fun c => absurd rfl c, fun _ => row (L2.length - y) y f (by omega) (Nat.le_refl _) (fun a' h5 h6 => by omega)⟩⟩
      exact rows (L1.length - x) x f (by omega) (Nat.le_refl _) (fun b' h5 h6 => by omega)
  exact loop _ 0 0 0 f (Nat.zero_add _) (Nat.zero_le _) ⟨rfl, rfl⟩ rfl (Nat.zero_le _) (Nat.zero_le _)
theorem st_found : St_found RR := by
  intro G1 G2 Mc Mm s y z j x hR
  obtain ⟨hW, hT⟩ := hR.2.2.2.2.1
  by_cases hsp : spS s y z
  · have bad : (x.toInt < 0 ∨ 1 < x.toInt) → Ci shM G2 mX12_found 4 [.ref (G2.2.1 0), .int s, .int y, .int z, .int j, .int x] Mm (fun w M2 => -1000001 = w ∧ RR Mc M2) := fun hx => wp_X12_found (c_isSpan_ok hsp (k1 (c_in_bad (by rw [t0, l_1]; exact hx) (n0 ⟨rfl, RR_thrown hR⟩))))
    refine wp_X11_found (c_noStreet_ok hsp.1 (n0 (c_noYear_ok hsp.2.1 (n0 (c_noYear_ok hsp.2.2 (n0 ⟨fun c => bad (Or.inl (lt0 c)), fun c => ⟨fun c2 => ?_, fun c2 => bad (Or.inr (by rw [leI, i_1] at c2; omega))⟩⟩))))))
    have x0 : 0 ≤ x.toInt := by
      have : ¬ x.toInt < 0 := fun e => c (lt0' e)
      omega
    have x1 : x.toInt ≤ 1 := by rw [leI, i_1] at c2; exact c2
    obtain ⟨L1, hL1⟩ : ∃ L1, L1 = pkL (kM Mm.1) s y (nLm Mm) := ⟨_, rfl⟩
    obtain ⟨L2, hL2⟩ : ∃ L2, L2 = pkL (kM Mm.1) s z (nLm Mm) := ⟨_, rfl⟩
    have hn : nLm Mm ≤ 12 := (WF_L hW).2
    have hp : L1.length ≤ 12 := by rw [hL1]; exact Nat.le_trans (len_pkL _ _ _ _) hn
    have hr : L2.length ≤ 12 := by rw [hL2]; exact Nat.le_trans (len_pkL _ _ _ _) hn
    have m1 : ∀ u, u ∈ L1 → u < nLm Mm := fun u hu => by rw [hL1] at hu; exact (mem_pkL.mp hu).1
    have m2 : ∀ u, u ∈ L2 → u < nLm Mm := fun u hu => by rw [hL2] at hu; exact (mem_pkL.mp hu).1
    refine c_lookAt (L1 := L1) (L2 := L2) hW hT hL1 hL2 (fun f1 f2 g hf1 hf2 hg => ?_)
    obtain ⟨B, hB⟩ : ∃ B, B = LkB Mc f1 f2 L1.length L2.length := ⟨_, rfl⟩
    rw [← hB]
    have hTB : TieC (kC B.1) (kM Mm.1) := by rw [hB]; exact hT
    have b44 : arr (B.1 44) L1 := by rw [hB]; exact hf1
    have b45 : arr (B.1 45) L2 := by rw [hB]; exact hf2
    have e4 : B.1 10 4 = nI L1.length := by rw [hB]; rfl
    have e5 : B.1 10 5 = nI L2.length := by rw [hB]; rfl
    have kLk : kC (Lk B g).1 = kC Mc.1 := by rw [hB]; rfl
    have kFm : ∀ u v, kC (Fm (Lk B g) u v).1 = kC Mc.1 := fun u v => by rw [hB]; rfl
    have h12 := T_le (e := liE (kM Mm.1) L1 L2) (r := L2.length) (b := 0) (a := 0) hp
    refine ⟨fun c3 => ?_, fun c3 => wp_X4_kept ⟨vp_in_nI (n := 0) (by decide) (by decide), vp_in_nI (n := 0) (by decide) (by decide), ?_⟩⟩
    · -- below 0
      refine wp_X12_found (c_isSpan_ok hsp (k1 (c_in_ok (by rw [t0]; exact x0) (by rw [l_1]; exact x1) (n1 (c_match (M := mset Mm 0 0 0) (L1 := L1) (L2 := L2) hW hL1 hL2 (fun f3 f4 f hh _ _ hhh => ?_))))))
      exact wp_X12_found_44 ⟨fun _ => ⟨rfl, RR_sc hR kLk rfl⟩, fun c4 => absurd c3 c4⟩
    · obtain ⟨i, hi, rfl⟩ := nI_of c3
      rw [show ix (0 : Int32) = 0 from rfl, Lk_row (show 0 < 13 by decide), hg 0 0 (Nat.zero_le _) (Nat.zero_le _)]
      have hm : ∀ {q : Int32 → Mem → Prop}, (T (liE (kM Mm.1) L1 L2) L1.length L2.length 0 0 ≤ i → ∀ M2, kM M2.1 = kM Mm.1 → q (-1000000) M2) → (∀ u v b a, PS (liE (kM Mm.1) L1 L2) L1.length L2.length i u v → isNx (liE (kM Mm.1) L1 L2) L1.length L2.length u v b a → ∀ M2, kM M2.1 = kM Mm.1 → (x = 0 → q (nI (L1.getD b 0)) M2) ∧ (x ≠ 0 → q (nI (L2.getD a 0)) M2)) → Ci shM G2 mX12_found 4 [.ref (G2.2.1 0), .int s, .int y, .int z, .int (nI i), .int x] Mm q := by
        intro q hN hY
        refine wp_X12_found (c_isSpan_ok hsp (k1 (c_in_ok (by rw [t0]; exact x0) (by rw [l_1]; exact x1) (n1 (c_match (M := mset Mm 0 0 0) (L1 := L1) (L2 := L2) hW hL1 hL2 (fun f3 f4 f hh h3 h4 hhh => ?_))))))
        obtain ⟨B2, hB2⟩ : ∃ B2, B2 = MtB (mset Mm 0 0 0) f3 f4 L1.length L2.length := ⟨_, rfl⟩
        rw [← hB2]
        have k2 : kM B2.1 = kM Mm.1 := by rw [hB2]; rfl
        have n2 : nLm B2 = nLm Mm := by rw [hB2]; rfl
        have kX : ∀ f, kM (Xm B2 f hh).1 = kM Mm.1 := fun f => k2
        refine c_foundM (B := B2) (L1 := L1) (L2 := L2) hi (by rw [k2]; exact hW) (by rw [hB2]; exact h3) (by rw [hB2]; exact h4) (by rw [n2]; exact m1) (by rw [n2]; exact m2) hp hr (by rw [hB2]; rfl) (by rw [hB2]; rfl) (by rw [k2]; exact hhh) (by rw [k2]; exact fun h5 f' => hN h5 _ (kX f')) (by rw [k2]; exact fun u v b a h5 h6 f' => hY u v b a h5 h6 _ (kX f'))
      refine ⟨fun c4 => ⟨fun c5 => ?_, fun c5 => ?_⟩, fun c4 => ?_⟩
      · have hi2 := (nI_ltI (by omega) (by omega)).mp c4
        refine c_lineOfPair hW hTB b44 b45 m1 m2 hp hr e4 e5 hg hi2 (fun u v b a p1 p2 u' v' => ⟨fun _ => hm (fun h5 => by omega) (fun u2 v2 b2 a2 q1 q2 M2 hk => ?_), fun c6 => absurd rfl c6⟩)
        obtain ⟨rfl, rfl⟩ := PS_uniq i p1 q1
        obtain ⟨rfl, rfl⟩ := nx_uniq p2 q2
        exact ⟨fun c6 => absurd c6 c5, fun _ => ⟨rfl, RR_sc hR (kFm _ _) hk⟩⟩
      · have hi2 := (nI_ltI (by omega) (by omega)).mp c4
        refine c_lineOfPair hW hTB b44 b45 m1 m2 hp hr e4 e5 hg hi2 (fun u v b a p1 p2 u' v' => ⟨fun c6 => absurd c6 (by decide), fun _ => hm (fun h5 => by omega) (fun u2 v2 b2 a2 q1 q2 M2 hk => ?_)⟩)
        obtain ⟨rfl, rfl⟩ := PS_uniq i p1 q1
        obtain ⟨rfl, rfl⟩ := nx_uniq p2 q2
        exact ⟨fun _ => ⟨rfl, RR_sc hR (kFm _ _) hk⟩, fun c6 => absurd c5 c6⟩
      · have hi2 : T (liE (kM Mm.1) L1 L2) L1.length L2.length 0 0 ≤ i := by
          rcases Nat.lt_or_ge i (T (liE (kM Mm.1) L1 L2) L1.length L2.length 0 0) with h5 | h5
          · exact absurd (nI_lt h5 (by omega)) c4
          · exact h5
        refine hm (fun _ M2 hk => ⟨rfl, RR_sc hR kLk hk⟩) (fun u2 v2 b2 a2 q1 q2 M2 hk => ?_)
        exfalso
        -- there are no so many pairs
        have key : ∀ n u v, PS (liE (kM Mm.1) L1 L2) L1.length L2.length n u v → T (liE (kM Mm.1) L1 L2) L1.length L2.length u v + n = T (liE (kM Mm.1) L1 L2) L1.length L2.length 0 0 := by
          intro n
          induction n with
          | zero => rintro u v ⟨rfl, rfl⟩; rfl
          | succ n ih =>
            rintro u v ⟨u', v', b, a, h5, h6, rfl, rfl⟩
            have h7 := ih u' v' h5
            have h8 := nx_T h6
            omega
        have h5 := key i u2 v2 q1
        have h6 := nx_T q2
        omega
  · have bad : Ci shM G2 mX12_found 4 [.ref (G2.2.1 0), .int s, .int y, .int z, .int j, .int x] Mm (fun w M2 => -1000001 = w ∧ RR Mc M2) := wp_X12_found (c_isSpan_bad hsp (k0 ⟨rfl, RR_thrown hR⟩))
    refine wp_X11_found ?_
    rcases st4 s with h1 | h1
    · exact c_noStreet_bad h1 (n1 bad)
    refine c_noStreet_ok h1 (n0 ?_)
    rcases yr2 y with h2 | h2
    · exact c_noYear_bad h2 (n1 bad)
    refine c_noYear_ok h2 (n0 ?_)
    rcases yr2 z with h3 | h3
    · exact c_noYear_bad h3 (n1 bad)
    exact absurd ⟨h1, h2, h3⟩ hsp
