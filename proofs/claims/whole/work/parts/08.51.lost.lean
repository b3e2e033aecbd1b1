/-! the most pairs; lost -/
def prI (prev : Nat → Nat) (e : Nat → Bool) : Nat → Nat
  | 0 => 0
  | y + 1 => max (max (prev (y + 1)) (prI prev e y)) (if e y then prev y + 1 else 0)
def prN (e : Nat → Nat → Bool) (p r : Nat) : Nat → Nat → Nat
  | 0 => fun _ => 0
  | x + 1 => prI (prN e p r x) (fun y => e (p - (x + 1)) (r - (y + 1)))
def T (e : Nat → Nat → Bool) (p r b a : Nat) : Nat := prN e p r (p - b) (r - a)
theorem prN_z (e : Nat → Nat → Bool) (p r x : Nat) : prN e p r x 0 = 0 := by cases x <;> rfl
theorem prN_s (e : Nat → Nat → Bool) (p r x y : Nat) : prN e p r (x + 1) (y + 1) = max (max (prN e p r x (y + 1)) (prN e p r (x + 1) y)) (if e (p - (x + 1)) (r - (y + 1)) then prN e p r x y + 1 else 0) := rfl
theorem prN_le (e : Nat → Nat → Bool) (p r : Nat) : ∀ x y, prN e p r x y ≤ x := by
  intro x
  induction x with
  | zero => intro y; exact Nat.le_refl _
  | succ x ih =>
    intro y
    induction y with
    | zero => rw [prN_z]; exact Nat.zero_le _
    | succ y ihy =>
      rw [prN_s]
      have h1 := ih (y + 1)
      have h2 := ih y
      split <;> omega
theorem T_le {e : Nat → Nat → Bool} {p r b a : Nat} (hp : p ≤ 12) : T e p r b a ≤ 12 := by
  have := prN_le e p r (p - b) (r - a)
  unfold T; omega
theorem T_p (e : Nat → Nat → Bool) (p r a : Nat) : T e p r p a = 0 := by rw [T, Nat.sub_self]; rfl
theorem T_r (e : Nat → Nat → Bool) (p r b : Nat) : T e p r b r = 0 := by rw [T, Nat.sub_self, prN_z]
theorem T_s {e : Nat → Nat → Bool} {p r b a : Nat} (hb : b < p) (ha : a < r) : T e p r b a = max (max (T e p r (b + 1) a) (T e p r b (a + 1))) (if e b a then T e p r (b + 1) (a + 1) + 1 else 0) := by
  obtain ⟨x, hx⟩ : ∃ x, p - b = x + 1 := ⟨p - b - 1, by omega⟩
  obtain ⟨y, hy⟩ : ∃ y, r - a = y + 1 := ⟨r - a - 1, by omega⟩
  unfold T
  rw [hx, hy, show p - (b + 1) = x by omega, show r - (a + 1) = y by omega, prN_s, show p - (x + 1) = b by omega, show r - (y + 1) = a by omega]
def Lk (M : Mem) (g : Nat → Nat → Int32) : Mem := (fun k => if 48 ≤ k ∧ k < 61 then g (k - 48) else M.1 k, M.2)
theorem Lk_row {M : Mem} {g : Nat → Nat → Int32} {b : Nat} (hb : b < 13) : (Lk M g).1 (48 + b) = g b := by
  show (if 48 ≤ 48 + b ∧ 48 + b < 61 then g (48 + b - 48) else M.1 (48 + b)) = g b
  rw [if_pos (by omega), Nat.add_sub_cancel_left]
theorem Lk_set {M : Mem} {g : Nat → Nat → Int32} {b a : Nat} {x : Int32} (hb : b < 13) : mset (Lk M g) (48 + b) a x = Lk M (fun b' => if b' = b then upd (g b) a x else g b') := by
  have h0 := Lk_row (M := M) (g := g) hb
  simp only [mset, Lk]
  congr 1
  funext k
  by_cases h1 : k = 48 + b
  · subst h1
    rw [if_pos rfl, if_pos (by omega), if_pos (by omega), if_pos (by omega), Nat.add_sub_cancel_left]
  · rw [if_neg h1]
    by_cases h2 : 48 ≤ k ∧ k < 61
    · rw [if_pos h2, if_pos h2, if_neg (by omega)]
    · rw [if_neg h2, if_neg h2]
theorem Lk_self (M : Mem) : Lk M (fun b => M.1 (48 + b)) = M := by
  obtain ⟨m1, m2⟩ := M
  simp only [Lk]
  congr 1
  funext k
  by_cases h2 : 48 ≤ k ∧ k < 61
  · rw [if_pos h2, show 48 + (k - 48) = k by omega]
  · rw [if_neg h2]
theorem nI_dec (m : Nat) : nI (m + 1) + (-1) = nI m := by rw [nI_m1, nI_pred]
def liE (d : Nat → Nat → Int32) (L1 L2 : List Nat) (i j : Nat) : Bool := likeS d (L1.getD i 0) (L2.getD j 0)
theorem max_I {a b : Nat} (ha : a < 2 ^ 31) (hb : b < 2 ^ 31) : (if nI a < nI b then nI b else nI a) = nI (max a b) := by
  by_cases h : a < b
  · rw [if_pos (nI_lt h hb), Nat.max_eq_right (by omega)]
  · rw [if_neg (nI_nlt (by omega) ha), Nat.max_eq_left (by omega)]
section
variable {G : GV} {k : Nat} {M : Mem} {d : Nat → Nat → Int32} {L1 L2 : List Nat}
theorem c_canPair {q : Int32 → Mem → Prop} {b a : Nat} (hW : WFm d) (hT : TieC (kC M.1) d) (h44 : arr (M.1 44) L1) (h45 : arr (M.1 45) L2) (m1 : ∀ x, x ∈ L1 → x < ix (d 0 10)) (m2 : ∀ x, x ∈ L2 → x < ix (d 0 10)) (hp : L1.length ≤ 12) (hr : L2.length ≤ 12) (hb : b < L1.length) (ha : a < L2.length) (h : q (b01 (liE d L1 L2 b a)) M) : Ci shC G mX4_canPair (k + 1) [.ref (G.2.1 10), .int (nI b), .int (nI a)] M q := by
  refine wp_X4_canPair ⟨vp_in_nI (by omega) (by decide), vp_in_nI (by omega) (by decide), ?_⟩
  rw [ix_nI (show b < 2 ^ 31 by omega), ix_nI (show a < 2 ^ 31 by omega), h44 b hb, h45 a ha]
  exact c_areLike hW hT (m1 _ (get_mem hb)) (m2 _ (get_mem ha)) ⟨b01_01 _, h⟩
theorem c_mostFrom {q : Int32 → Mem → Prop} {b a : Nat} {g : Nat → Nat → Int32} (hW : WFm d) (hT : TieC (kC M.1) d) (h44 : arr (M.1 44) L1) (h45 : arr (M.1 45) L2) (m1 : ∀ x, x ∈ L1 → x < ix (d 0 10)) (m2 : ∀ x, x ∈ L2 → x < ix (d 0 10)) (hp : L1.length ≤ 12) (hr : L2.length ≤ 12) (e4 : M.1 10 4 = nI L1.length) (e5 : M.1 10 5 = nI L2.length) (hb : b ≤ L1.length) (ha : a ≤ L2.length) (g1 : b < L1.length → a < L2.length → g (b + 1) a = nI (T (liE d L1 L2) L1.length L2.length (b + 1) a) ∧ g b (a + 1) = nI (T (liE d L1 L2) L1.length L2.length b (a + 1)) ∧ g (b + 1) (a + 1) = nI (T (liE d L1 L2) L1.length L2.length (b + 1) (a + 1))) (h : q (nI (T (liE d L1 L2) L1.length L2.length b a)) (Lk M g)) : Ci shC G mX4_mostFrom (k + 2) [.ref (G.2.1 10), .int (nI b), .int (nI a)] (Lk M g) q := by
  refine wp_X4_mostFrom ?_
  rw [show (Lk M g).1 10 4 = nI L1.length from e4, show (Lk M g).1 10 5 = nI L2.length from e5]
  refine ⟨fun c => ?_, fun c => ⟨fun c2 => ?_, fun c2 => ?_⟩⟩
  · have : b = L1.length := (nI_eq (by omega) (by omega)).mp c
    rw [this, T_p] at h; exact h
  · have hb' : b < L1.length := Nat.lt_of_le_of_ne hb (fun e => c (by rw [e]))
    have ha' : a < L2.length := Nat.lt_of_le_of_ne ha (fun e => c2 (by rw [e]))
    obtain ⟨g2, g3, g4⟩ := g1 hb' ha'
    have t1 := T_le (e := liE d L1 L2) (r := L2.length) (b := b + 1) (a := a) hp
    have t2 := T_le (e := liE d L1 L2) (r := L2.length) (b := b) (a := a + 1) hp
    have t3 := T_le (e := liE d L1 L2) (r := L2.length) (b := b + 1) (a := a + 1) hp
    rw [T_s hb' ha'] at h
    rw [nI_1, nI_1, ix_nI (show b < 2 ^ 31 by omega), ix_nI (show a < 2 ^ 31 by omega), ix_nI (show b + 1 < 2 ^ 31 by omega), ix_nI (show a + 1 < 2 ^ 31 by omega), Lk_row (show b < 13 by omega), Lk_row (show b + 1 < 13 by omega), g2, g3, max_I (by omega) (by omega)]
    have hT' : TieC (kC (Lk M g).1) d := hT
    refine ⟨vp_in_nI (by omega) (by decide), vp_in_nI (by omega) (by decide), vp_in_nI (by omega) (by decide), vp_in_nI (by omega) (by decide), c_canPair hW hT' h44 h45 m1 m2 hp hr hb' ha' ?_⟩
    rw [Lk_row (show b + 1 < 13 by omega), g4, nI_1, max_I (by omega) (by omega)]
    cases hl : liE d L1 L2 b a with
    | false =>
      rw [hl, if_neg (by decide), Nat.max_eq_left (Nat.zero_le _)] at h
      exact k0 h
    | true =>
      rw [hl, if_pos rfl] at h
      exact k1 ⟨vp_in_nI (by omega) (by decide), vp_in_nI (by omega) (by decide), h⟩
  · have : a = L2.length := (nI_eq (by omega) (by omega)).mp c2
    rw [this, T_r] at h; exact h
def LkB (M : Mem) (f1 f2 : Nat → Int32) (p r : Nat) : Mem := mset (aset (mset (aset M 44 f1) 10 4 (nI p)) 45 f2) 10 5 (nI r)
theorem c_lookAt {q : Mem → Prop} {s y z : Int32} (hW : WFm d) (hT : TieC (kC M.1) d) (h1 : L1 = pkL d s y (ix (d 0 10))) (h2 : L2 = pkL d s z (ix (d 0 10))) (h : ∀ f1 f2 g, arr f1 L1 → arr f2 L2 → (∀ b a, b ≤ L1.length → a ≤ L2.length → g b a = nI (T (liE d L1 L2) L1.length L2.length b a)) → q (Lk (LkB M f1 f2 L1.length L2.length) g)) : Cv shC G mX4_lookAt (k + 3) [.ref (G.2.1 10), .int s, .int y, .int z] M q := by
  have hn : ix (d 0 10) ≤ 12 := hW.2.1.2
  have hp : L1.length ≤ 12 := by rw [h1]; exact Nat.le_trans (len_pkL _ _ _ _) hn
  have hr : L2.length ≤ 12 := by rw [h2]; exact Nat.le_trans (len_pkL _ _ _ _) hn
  have m1 : ∀ x, x ∈ L1 → x < ix (d 0 10) := fun x hx => by rw [h1] at hx; exact (mem_pkL.mp hx).1
  have m2 : ∀ x, x ∈ L2 → x < ix (d 0 10) := fun x hx => by rw [h2] at hx; exact (mem_pkL.mp hx).1
  refine wp_X4_lookAt (c_pick_b hW hT (fun f1 hf1 => ?_))
  rw [← h1] at hf1 ⊢
  have hT1 : TieC (kC (mset (aset M 44 f1) 10 4 (nI L1.length)).1) d := hT
  refine c_pick_a (M := mset (aset M 44 f1) 10 4 (nI L1.length)) hW hT1 (fun f2 hf2 => ?_)
  rw [← h2] at hf2 ⊢
  obtain ⟨B, hB⟩ : ∃ B, B = LkB M f1 f2 L1.length L2.length := ⟨_, rfl⟩
  have hh := fun g => h f1 f2 g hf1 hf2
  rw [← hB] at hh
  rw [show mset (aset (mset (aset M 44 f1) 10 4 (nI L1.length)) 45 f2) 10 5 (nI L2.length) = B from hB.symm, show (aset (mset (aset M 44 f1) 10 4 (nI L1.length)) 45 f2).1 10 4 = nI L1.length from rfl]
  have hTB : TieC (kC B.1) d := by rw [hB]; exact hT
  have b44 : arr (B.1 44) L1 := by rw [hB]; exact hf1
  have b45 : arr (B.1 45) L2 := by rw [hB]; exact hf2
  have e4 : B.1 10 4 = nI L1.length := by rw [hB]; rfl
  have e5 : B.1 10 5 = nI L2.length := by rw [hB]; rfl
  have rows : ∀ m g, m ≤ L1.length + 1 → (∀ b a, m ≤ b → b ≤ L1.length → a ≤ L2.length → g b a = nI (T (liE d L1 L2) L1.length L2.length b a)) → V shC G mX4_lookAt (k + 3) 34 [(0, .ref (G.2.1 10)), (1, .int s), (2, .int y), (3, .int z), (4, .int (nI m + (-1)))] [] (Lk B g) (Qv q) := by
    intro m
    induction m with
    | zero =>
      intro g hm hg
      exact wp_X4_lookAt_34 ⟨fun _ => hh g (fun b a hb ha => hg b a (Nat.zero_le _) hb ha), fun c => absurd (by decide) c⟩
    | succ m ih =>
      intro g hm hg
      rw [nI_dec]
      have row : ∀ j g, j ≤ L2.length + 1 → (∀ b a, m + 1 ≤ b → b ≤ L1.length → a ≤ L2.length → g b a = nI (T (liE d L1 L2) L1.length L2.length b a)) → (∀ a, j ≤ a → a ≤ L2.length → g m a = nI (T (liE d L1 L2) L1.length L2.length m a)) → V shC G mX4_lookAt (k + 3) 45 [(0, .ref (G.2.1 10)), (1, .int s), (2, .int y), (3, .int z), (4, .int (nI m)), (5, .int (nI j + (-1)))] [] (Lk B g) (Qv q) := by
        intro j
        induction j with
        | zero =>
          intro g hj hg1 hg2
          refine wp_X4_lookAt_45 ⟨fun _ => ih g (by omega) (fun b a h5 h6 h7 => ?_), fun c => absurd (by decide) c⟩
          rcases Nat.lt_or_ge m b with h8 | h8
          · exact hg1 b a h8 h6 h7
          · obtain rfl : b = m := by omega
            exact hg2 a (Nat.zero_le _) h7
        | succ j ihj =>
          intro g hj hg1 hg2
          rw [nI_dec]
          refine wp_X4_lookAt_45 ⟨fun c => absurd c (nI_pos (by omega)), fun _ => ⟨vp_in_nI (by omega) (by decide), c_mostFrom hW hTB b44 b45 m1 m2 hp hr e4 e5 (by omega) (by omega) (fun h5 h6 => ⟨hg1 _ _ (Nat.le_refl _) h5 (by omega), hg2 _ (Nat.le_refl _) h6, hg1 _ _ (Nat.le_refl _) h5 h6⟩) ⟨vp_in_nI (by omega) (by decide), ?_⟩⟩⟩
          rw [ix_nI (show m < 2 ^ 31 by omega), ix_nI (show j < 2 ^ 31 by omega), Lk_set (show m < 13 by omega)]
          refine ihj _ (by omega) (fun b a h5 h6 h7 => ?_) (fun a h5 h6 => ?_)
          · rw [if_neg (by omega)]; exact hg1 b a h5 h6 h7
          · rw [if_pos rfl]
            rcases Nat.lt_or_ge j a with h8 | h8
            · rw [upd_ne _ _ (by omega)]; exact hg2 a h8 h6
            · obtain rfl : a = j := by omega
              rw [upd_at]
      refine wp_X4_lookAt_34 ⟨fun c => absurd c (nI_pos (by omega)), fun _ => ?_⟩
      rw [show (Lk B g).1 10 5 = nI L2.length from e5, ← nI_dec L2.length]
      exact row (L2.length + 1) g (Nat.le_refl _) hg (fun a h5 h6 => by omega)
  have h0 := rows (L1.length + 1) (fun b => B.1 (48 + b)) (Nat.le_refl _) (fun b a h5 h6 h7 => by omega)
  rw [Lk_self, nI_dec] at h0
  exact h0
end
/-! the model's -/
def Xm (M : Mem) (f h : Nat → Int32) : Mem := aset (aset M 24 f) 31 h
theorem Xm_24 {M : Mem} {f f' h : Nat → Int32} : aset (Xm M f h) 24 f' = Xm M f' h := by
  simp only [Xm, aset]
  congr 1
  funext k
  by_cases h1 : k = 24
  · subst h1; rfl
  · simp [h1]
theorem Xm_31 {M : Mem} {f h : Nat → Int32} {j : Nat} {v : Int32} : mset (Xm M f h) 31 j v = Xm M f (upd h j v) := mset_aset
theorem Xm_self {M : Mem} : Xm M (M.1 24) (M.1 31) = M := by
  rw [Xm, aset_self]
  exact aset_self
def MtB (M : Mem) (f1 f2 : Nat → Int32) (p r : Nat) : Mem := mset (aset (mset (aset M 29 f1) 0 47 (nI p)) 30 f2) 0 48 (nI r)
theorem nI_13 (v : Nat) : 13 * nI v = nI (13 * v) := by rw [show (13 : Int32) = nI 13 from rfl, nI_mul]
theorem nI_p13 (v : Nat) : nI v + 13 = nI (v + 13) := nI_add v 13
theorem nI_p14 (v : Nat) : nI v + 14 = nI (v + 14) := nI_add v 14
theorem c_match {G : GV} {k : Nat} {M : Mem} {L1 L2 : List Nat} {q : Mem → Prop} {s y z : Int32} (hW : WFm (kM M.1)) (h1 : L1 = pkL (kM M.1) s y (nLm M)) (h2 : L2 = pkL (kM M.1) s z (nLm M)) (h : ∀ f1 f2 f hh, arr f1 L1 → arr f2 L2 → (∀ i j, i ≤ L1.length → j ≤ L2.length → hh (13 * i + j) = nI (T (liE (kM M.1) L1 L2) L1.length L2.length i j)) → q (Xm (MtB M f1 f2 L1.length L2.length) f hh)) : Cv shM G mX12_match (k + 3) [.ref (G.2.1 0), .int s, .int y, .int z] M q := by
  obtain ⟨e0, hn⟩ := WF_L hW
  have hp : L1.length ≤ 12 := by rw [h1]; exact Nat.le_trans (len_pkL _ _ _ _) hn
  have hr : L2.length ≤ 12 := by rw [h2]; exact Nat.le_trans (len_pkL _ _ _ _) hn
  have m1 : ∀ x, x ∈ L1 → x < nLm M := fun x hx => by rw [h1] at hx; exact (mem_pkL.mp hx).1
  have m2 : ∀ x, x ∈ L2 → x < nLm M := fun x hx => by rw [h2] at hx; exact (mem_pkL.mp hx).1
  refine wp_X12_match (c_sorted_one hW (fun f1 hf1 => ?_))
  rw [← h1] at hf1 ⊢
  refine c_sorted_other (M := mset (aset M 29 f1) 0 47 (nI L1.length)) hW (fun f2 hf2 => ?_)
  have hf2' : arr f2 L2 := by rw [h2]; exact hf2
  rw [show pkL (kM (mset (aset M 29 f1) 0 47 (nI L1.length)).1) s z (nLm (mset (aset M 29 f1) 0 47 (nI L1.length))) = L2 from h2.symm]
  obtain ⟨B, hB⟩ : ∃ B, B = MtB M f1 f2 L1.length L2.length := ⟨_, rfl⟩
  have hh := fun f g => h f1 f2 f g hf1 hf2'
  rw [← hB] at hh
  rw [show mset (aset (mset (aset M 29 f1) 0 47 (nI L1.length)) 30 f2) 0 48 (nI L2.length) = B from hB.symm]
  have kB : ∀ f g, kM (Xm B f g).1 = kM M.1 := fun f g => by rw [hB]; rfl
  have hWB : ∀ f g, WFm (kM (Xm B f g).1) := fun f g => by rw [kB]; exact hW
  have nB : ∀ f g, nLm (Xm B f g) = nLm M := fun f g => by rw [hB]; rfl
  have b29 : ∀ f g, (Xm B f g).1 29 = f1 := fun f g => by rw [hB]; rfl
  have b30 : ∀ f g, (Xm B f g).1 30 = f2 := fun f g => by rw [hB]; rfl
  have e47 : ∀ f g, (Xm B f g).1 0 47 = nI L1.length := fun f g => by rw [hB]; rfl
  have e48 : ∀ f g, (Xm B f g).1 0 48 = nI L2.length := fun f g => by rw [hB]; rfl
  have e31 : ∀ f g, (Xm B f g).1 31 = g := fun f g => rfl
  have rows : ∀ m f g, m ≤ L1.length → (∀ i j, m ≤ i → i ≤ L1.length → j ≤ L2.length → g (13 * i + j) = nI (T (liE (kM M.1) L1 L2) L1.length L2.length i j)) → (∀ i, i ≤ L1.length → g (13 * i + L2.length) = 0) → V shM G mX12_match (k + 3) 61 [(0, .ref (G.2.1 0)), (1, .int s), (2, .int y), (3, .int z), (4, .int (nI m + (-1)))] [] (Xm B f g) (Qv q) := by
    intro m
    induction m with
    | zero =>
      intro f g hm hg _
      exact wp_X12_match_61 ⟨fun _ => hh f g (fun i j hi hj => hg i j (Nat.zero_le _) hi hj), fun c => absurd (by decide) c⟩
    | succ m ih =>
      intro f g hm hg hz
      rw [nI_dec]
      have row : ∀ j f g, j ≤ L2.length → (∀ i j', m + 1 ≤ i → i ≤ L1.length → j' ≤ L2.length → g (13 * i + j') = nI (T (liE (kM M.1) L1 L2) L1.length L2.length i j')) → (∀ i, i ≤ L1.length → g (13 * i + L2.length) = 0) → (∀ j', j ≤ j' → j' ≤ L2.length → g (13 * m + j') = nI (T (liE (kM M.1) L1 L2) L1.length L2.length m j')) → V shM G mX12_match (k + 3) 74 [(0, .ref (G.2.1 0)), (1, .int s), (2, .int y), (3, .int z), (4, .int (nI m)), (5, .int (nI j + (-1)))] [] (Xm B f g) (Qv q) := by
        intro j
        induction j with
        | zero =>
          intro f g hj hg1 hz hg2
          refine wp_X12_match_74 ⟨fun _ => ih f g (by omega) (fun i j' h5 h6 h7 => ?_) hz, fun c => absurd (by decide) c⟩
          rcases Nat.lt_or_ge m i with h8 | h8
          · exact hg1 i j' h8 h6 h7
          · obtain rfl : i = m := by omega
            exact hg2 j' (Nat.zero_le _) h7
        | succ j ihj =>
          intro f g hj hg1 hz hg2
          rw [nI_dec]
          have hml : m < L1.length := by omega
          have hjl : j < L2.length := by omega
          have t1 := T_le (e := liE (kM M.1) L1 L2) (r := L2.length) (b := m + 1) (a := j) hp
          have t2 := T_le (e := liE (kM M.1) L1 L2) (r := L2.length) (b := m) (a := j + 1) hp
          have t3 := T_le (e := liE (kM M.1) L1 L2) (r := L2.length) (b := m + 1) (a := j + 1) hp
          have g1 : g (13 * m + 13 + j) = nI (T (liE (kM M.1) L1 L2) L1.length L2.length (m + 1) j) := by
            rw [show 13 * m + 13 + j = 13 * (m + 1) + j by omega]; exact hg1 _ _ (Nat.le_refl _) hml (by omega)
          have g2 : g (13 * m + j + 1) = nI (T (liE (kM M.1) L1 L2) L1.length L2.length m (j + 1)) := hg2 (j + 1) (Nat.le_refl _) hjl
          have g3 : g (13 * m + 14 + j) = nI (T (liE (kM M.1) L1 L2) L1.length L2.length (m + 1) (j + 1)) := by
            rw [show 13 * m + 14 + j = 13 * (m + 1) + (j + 1) by omega]; exact hg1 _ _ (Nat.le_refl _) hml hjl
          have nxt : ∀ f, V shM G mX12_match (k + 3) 74 [(0, .ref (G.2.1 0)), (1, .int s), (2, .int y), (3, .int z), (4, .int (nI m)), (5, .int (nI j + (-1)))] [] (Xm B f (upd g (13 * m + j) (nI (T (liE (kM M.1) L1 L2) L1.length L2.length m j)))) (Qv q) := by
            intro f
            refine ihj f _ (by omega) (fun i j' h5 h6 h7 => ?_) (fun i h5 => ?_) (fun j' h5 h6 => ?_)
            · rw [upd_ne _ _ (by omega)]; exact hg1 i j' h5 h6 h7
            · rw [upd_ne _ _ (by omega)]; exact hz i h5
            · rcases Nat.lt_or_ge j j' with h8 | h8
              · rw [upd_ne _ _ (by omega)]; exact hg2 j' h8 h6
              · obtain rfl : j' = j := by omega
                rw [upd_at]
          rw [T_s hml hjl] at nxt
          have va : vp_in (nI (13 * m + 13 + j)) 169 := vp_in_nI (by omega) (by decide)
          have vb : vp_in (nI (13 * m + j + 1)) 169 := vp_in_nI (by omega) (by decide)
          have vc : vp_in (nI (13 * m + 14 + j)) 169 := vp_in_nI (by omega) (by decide)
          have vd : vp_in (nI (13 * m + j)) 169 := vp_in_nI (by omega) (by decide)
          have vm : vp_in (nI m) 12 := vp_in_nI (by omega) (by decide)
          have vj : vp_in (nI j) 12 := vp_in_nI (by omega) (by decide)
          have fin : ∀ w, w = max (T (liE (kM M.1) L1 L2) L1.length L2.length (m + 1) j) (T (liE (kM M.1) L1 L2) L1.length L2.length m (j + 1)) → Ci shM G mX12_isLike (k + 2) [.ref (G.2.1 0), .int ((Xm B f g).1 29 m), .int ((Xm B f g).1 30 j)] (Xm B f g) (fun x1 M1 => ((x1 = 0 → ((nI w ≤ 0 → vp_in (nI (13 * m + j)) 169 ∧ V shM G mX12_match (k + 3) 74 [(0, .ref (G.2.1 0)), (1, .int s), (2, .int y), (3, .int z), (4, .int (nI m)), (5, .int (nI j + (-1)))] [] (mset M1 31 (13 * m + j) 0) (Qv q)) ∧ (¬ nI w ≤ 0 → vp_in (nI (13 * m + j)) 169 ∧ V shM G mX12_match (k + 3) 74 [(0, .ref (G.2.1 0)), (1, .int s), (2, .int y), (3, .int z), (4, .int (nI m)), (5, .int (nI j + (-1)))] [] (mset M1 31 (13 * m + j) (nI w)) (Qv q)))) ∧ (¬ x1 = 0 → vp_in (nI (13 * m + 14 + j)) 169 ∧ ((nI w ≤ ((M1.1 31 (13 * m + 14 + j)) + 1) → vp_in (nI (13 * m + j)) 169 ∧ V shM G mX12_match (k + 3) 74 [(0, .ref (G.2.1 0)), (1, .int s), (2, .int y), (3, .int z), (4, .int (nI m)), (5, .int (nI j + (-1)))] [] (mset M1 31 (13 * m + j) ((M1.1 31 (13 * m + 14 + j)) + 1)) (Qv q)) ∧ (¬ nI w ≤ ((M1.1 31 (13 * m + 14 + j)) + 1) → vp_in (nI (13 * m + j)) 169 ∧ V shM G mX12_match (k + 3) 74 [(0, .ref (G.2.1 0)), (1, .int s), (2, .int y), (3, .int z), (4, .int (nI m)), (5, .int (nI j + (-1)))] [] (mset M1 31 (13 * m + j) (nI w)) (Qv q)))))) := by
            intro w hw
            rw [← hw] at nxt
            rw [b29, b30, hf1 m hml, hf2' j hjl]
            refine c_isLike (M := Xm B f g) (hWB f g) (by rw [nB]; exact m1 _ (get_mem hml)) (by rw [nB]; exact m2 _ (get_mem hjl)) (fun f' => ?_)
            rw [Xm_24, kB, Xm_31, Xm_31, Xm_31, e31, g3, nI_1]
            have hl : likeS (kM M.1) (L1.getD m 0) (L2.getD j 0) = liE (kM M.1) L1 L2 m j := rfl
            rw [hl]
            cases hb : liE (kM M.1) L1 L2 m j with
            | false =>
              have n2 := nxt f'
              rw [hb, if_neg (by decide), Nat.max_eq_left (Nat.zero_le _)] at n2
              refine k0 ⟨fun c => ⟨vd, ?_⟩, fun c => ⟨vd, n2⟩⟩
              have hw0 : w = 0 := by
                have := (nI_leI (b := 0) (by omega) (by omega)).mp c
                omega
              rw [hw0] at n2
              exact n2
            | true =>
              have n2 := nxt f'
              rw [hb, if_pos rfl] at n2
              refine k1 ⟨vc, fun c => ⟨vd, ?_⟩, fun c => ⟨vd, ?_⟩⟩
              · rw [Nat.max_eq_right ((nI_leI (by omega) (by omega)).mp c)] at n2
                exact n2
              · rw [Nat.max_eq_left (by have : ¬ w ≤ T (liE (kM M.1) L1 L2) L1.length L2.length (m + 1) (j + 1) + 1 := fun e => c (nI_le e (by omega)); omega)] at n2
                exact n2
          refine wp_X12_match_74 ⟨fun c => absurd c (nI_pos (by omega)), fun _ => ?_⟩
          rw [nI_13, nI_p13, nI_p14, nI_add, nI_add, nI_add, nI_1, ix_nI (show 13 * m + 13 + j < 2 ^ 31 by omega), ix_nI (show 13 * m + j + 1 < 2 ^ 31 by omega), ix_nI (show 13 * m + 14 + j < 2 ^ 31 by omega), ix_nI (show 13 * m + j < 2 ^ 31 by omega), ix_nI (show m < 2 ^ 31 by omega), ix_nI (show j < 2 ^ 31 by omega), e31, g1, g2]
          refine ⟨va, vb, fun c => ⟨vb, vm, vj, fin _ (Nat.max_eq_right ((nI_leI (by omega) (by omega)).mp c)).symm⟩, fun c => ⟨va, vm, vj, fin _ (Nat.max_eq_left ?_).symm⟩⟩
          have : ¬ T (liE (kM M.1) L1 L2) L1.length L2.length (m + 1) j ≤ T (liE (kM M.1) L1 L2) L1.length L2.length m (j + 1) := fun e => c (nI_le e (by omega))
          omega
      refine wp_X12_match_61 ⟨fun c => absurd c (nI_pos (by omega)), fun _ => ?_⟩
      rw [e48, ← nI_m1]
      refine row L2.length f g (Nat.le_refl _) hg hz (fun j' h5 h6 => ?_)
      obtain rfl : j' = L2.length := by omega
      rw [hz m (by omega), T_r]; rfl
  have clr : ∀ m i f g, i + m = 169 → (∀ j, j < i → g j = 0) → V shM G mX12_match (k + 3) 31 [(0, .ref (G.2.1 0)), (1, .int s), (2, .int y), (3, .int z), (4, .int (nI i))] [] (Xm B f g) (Qv q) := by
    intro m
    induction m with
    | zero =>
      intro i f g hi hg
      obtain rfl : i = 169 := by omega
      refine wp_X12_match_31 ⟨fun _ => ?_, fun c => absurd (by decide) c⟩
      rw [e47, ← nI_m1]
      refine rows L1.length f g (Nat.le_refl _) (fun i j h5 h6 h7 => ?_) (fun i h5 => hg _ (by omega))
      obtain rfl : i = L1.length := by omega
      rw [hg _ (by omega), T_p]; rfl
    | succ m ih =>
      intro i f g hi hg
      refine wp_X12_match_31 ⟨fun c => absurd c (nI_ge (b := 169) (by omega) (by decide)), fun _ => ⟨vp_in_nI (by omega) (by decide), ?_⟩⟩
      rw [nI_1, ix_nI (show i < 2 ^ 31 by omega), Xm_31]
      refine ih (i + 1) f _ (by omega) (fun j hj => ?_)
      rcases Nat.lt_or_ge j i with h5 | h5
      · rw [upd_ne _ _ (by omega)]; exact hg j h5
      · obtain rfl : j = i := by omega
        rw [upd_at]
  have h0 := clr 169 0 (B.1 24) (B.1 31) (by omega) (fun j hj => absurd hj (Nat.not_lt_zero _))
  rw [Xm_self] at h0
  exact h0
theorem st4 (v : Int32) : (v.toInt < 0 ∨ 3 < v.toInt) ∨ (0 ≤ v.toInt ∧ v.toInt ≤ 3) := by omega
theorem c_noStreet_bad {G : GV} {k : Nat} {M : Mem} {q : Int32 → Mem → Prop} {v : Int32} (hb : v.toInt < 0 ∨ 3 < v.toInt) (h : q 1 M) : Ci shC G mX11_noStreet k [.ref (G.2.1 0), .int v] M q := by
  refine wp_X11_noStreet ⟨fun _ => h, fun c => ⟨fun c2 => ?_, fun _ => h⟩⟩
  exfalso
  rw [ltI, i_4] at c2
  have : ¬ v.toInt < 0 := fun e => c (lt0' e)
  omega
theorem c_noStreet_ok {G : GV} {k : Nat} {M : Mem} {q : Int32 → Mem → Prop} {v : Int32} (hb : 0 ≤ v.toInt ∧ v.toInt ≤ 3) (h : q 0 M) : Ci shC G mX11_noStreet k [.ref (G.2.1 0), .int v] M q := by
  refine wp_X11_noStreet ⟨fun c => ?_, fun _ => ⟨fun _ => h, fun c => ?_⟩⟩
  · have := lt0 c; omega
  · rw [ltI, i_4] at c; omega
def spS (s y z : Int32) : Prop := (0 ≤ s.toInt ∧ s.toInt ≤ 3) ∧ (0 ≤ y.toInt ∧ y.toInt ≤ 9999) ∧ (0 ≤ z.toInt ∧ z.toInt ≤ 9999)
theorem c_isSpan_ok {G : GV} {k : Nat} {M : Mem} {q : Int32 → Mem → Prop} {s y z : Int32} (h5 : spS s y z) (h : q 1 M) : Ci shM G mX12_isSpan (k + 1) [.int s, .int y, .int z] M q := wp_X12_isSpan (c_in_ok (by rw [t0]; exact h5.1.1) (by rw [l_3]; exact h5.1.2) (k1 (c_inY_ok h5.2.1 (k1 (c_inY_ok h5.2.2 (k1 h))))))
theorem c_isSpan_bad {G : GV} {k : Nat} {M : Mem} {q : Int32 → Mem → Prop} {s y z : Int32} (h5 : ¬ spS s y z) (h : q 0 M) : Ci shM G mX12_isSpan (k + 1) [.int s, .int y, .int z] M q := by
  refine wp_X12_isSpan ?_
  rcases st4 s with h1 | h1
  · exact c_in_bad (by rw [t0, l_3]; exact h1) (k0 h)
  refine c_in_ok (by rw [t0]; exact h1.1) (by rw [l_3]; exact h1.2) (k1 ?_)
  rcases yr2 y with h2 | h2
  · exact c_inY_bad h2 (k0 h)
  refine c_inY_ok h2 (k1 ?_)
  rcases yr2 z with h3 | h3
  · exact c_inY_bad h3 (k0 h)
  exact absurd ⟨h1, h2, h3⟩ h5
theorem st_lost : St_lost RR := by
  intro G1 G2 Mc Mm s y z x hR
  obtain ⟨hW, hT⟩ := hR.2.2.2.2.1
  by_cases hsp : spS s y z
  · have bad : (x.toInt < 0 ∨ 2 < x.toInt) → Ci shM G2 mX12_lost 4 [.ref (G2.2.1 0), .int s, .int y, .int z, .int x] Mm (fun w M2 => -1000001 = w ∧ RR Mc M2) := fun hx => wp_X12_lost (c_isSpan_ok hsp (k1 (c_in_bad (by rw [t0, l_2]; exact hx) (n0 ⟨rfl, RR_thrown hR⟩))))
    refine wp_X11_lost (c_noStreet_ok hsp.1 (n0 (c_noYear_ok hsp.2.1 (n0 (c_noYear_ok hsp.2.2 (n0 ⟨fun c => bad (Or.inl (lt0 c)), fun c => ⟨fun c2 => ?_, fun c2 => bad (Or.inr (by rw [leI, i_2] at c2; omega))⟩⟩))))))
    have x0 : 0 ≤ x.toInt := by
      have : ¬ x.toInt < 0 := fun e => c (lt0' e)
      omega
    have x2 : x.toInt ≤ 2 := by rw [leI, i_2] at c2; exact c2
    refine c_lookAt (L1 := pkL (kM Mm.1) s y (nLm Mm)) (L2 := pkL (kM Mm.1) s z (nLm Mm)) hW hT rfl rfl (fun f1 f2 g hf1 hf2 hg => ?_)
    have hm : ∀ {q : Int32 → Mem → Prop}, (∀ f3 f4 f hh, (∀ i j, i ≤ (pkL (kM Mm.1) s y (nLm Mm)).length → j ≤ (pkL (kM Mm.1) s z (nLm Mm)).length → hh (13 * i + j) = nI (T (liE (kM Mm.1) (pkL (kM Mm.1) s y (nLm Mm)) (pkL (kM Mm.1) s z (nLm Mm))) (pkL (kM Mm.1) s y (nLm Mm)).length (pkL (kM Mm.1) s z (nLm Mm)).length i j)) → ((x ≠ 0 → ((x ≠ 1 → q (nI (pkL (kM Mm.1) s z (nLm Mm)).length) (Xm (MtB (mset Mm 0 0 0) f3 f4 (pkL (kM Mm.1) s y (nLm Mm)).length (pkL (kM Mm.1) s z (nLm Mm)).length) f hh)) ∧ (x = 1 → q (nI (pkL (kM Mm.1) s y (nLm Mm)).length) (Xm (MtB (mset Mm 0 0 0) f3 f4 (pkL (kM Mm.1) s y (nLm Mm)).length (pkL (kM Mm.1) s z (nLm Mm)).length) f hh)))) ∧ (x = 0 → q (hh 0) (Xm (MtB (mset Mm 0 0 0) f3 f4 (pkL (kM Mm.1) s y (nLm Mm)).length (pkL (kM Mm.1) s z (nLm Mm)).length) f hh)))) → Ci shM G2 mX12_lost 4 [.ref (G2.2.1 0), .int s, .int y, .int z, .int x] Mm q := by
      intro q hq
      refine wp_X12_lost (c_isSpan_ok hsp (k1 (c_in_ok (by rw [t0]; exact x0) (by rw [l_2]; exact x2) (n1 (c_match (M := mset Mm 0 0 0) (L1 := pkL (kM Mm.1) s y (nLm Mm)) (L2 := pkL (kM Mm.1) s z (nLm Mm)) hW rfl rfl (fun f3 f4 f hh _ _ hhh => ?_))))))
      have h5 := hq f3 f4 f hh hhh
      exact ⟨fun c5 => ⟨fun c6 => (h5.1 c5).1 c6, fun c6 => (h5.1 c5).2 c6⟩, fun c5 => ⟨vp_in_nI (n := 0) (by decide) (by decide), h5.2 c5⟩⟩
    refine ⟨fun c5 => wp_X4_kept ⟨vp_in_nI (n := 0) (by decide) (by decide), vp_in_nI (n := 0) (by decide) (by decide), ?_⟩, fun c5 => ?_, fun c5 => ?_⟩
    · have hx : x = 0 := Int32.toInt_inj.mp (by rw [c5]; decide)
      subst hx
      refine hm (fun f3 f4 f hh hhh => ⟨fun c6 => absurd rfl c6, fun _ => ⟨?_, RR_sc hR rfl rfl⟩⟩)
      have h6 := hhh 0 0 (Nat.zero_le _) (Nat.zero_le _)
      have h7 := hg 0 0 (Nat.zero_le _) (Nat.zero_le _)
      rw [show (13 * 0 + 0 : Nat) = 0 from rfl] at h6
      rw [h6]
      show (Lk _ g).1 (48 + 0) 0 = _
      rw [Lk_row (by decide)]
      exact h7
    · have hx : x = 1 := Int32.toInt_inj.mp (by rw [c5]; decide)
      subst hx
      exact hm (fun f3 f4 f hh hhh => ⟨fun _ => ⟨fun c6 => absurd rfl c6, fun _ => ⟨rfl, RR_sc hR rfl rfl⟩⟩, fun c6 => absurd c6 (by decide)⟩)
    · have h0 : x.toInt ≠ 0 := fun e => by rw [e] at c5; exact absurd c5 (by decide)
      have h1 : x.toInt ≠ 1 := fun e => by rw [e] at c5; exact absurd c5 (by decide)
      have hx : x = 2 := Int32.toInt_inj.mp (by rw [i_2]; omega)
      subst hx
      exact hm (fun f3 f4 f hh hhh => ⟨fun _ => ⟨fun _ => ⟨rfl, RR_sc hR rfl rfl⟩, fun c6 => absurd c6 (by decide)⟩, fun c6 => absurd c6 (by decide)⟩)
  · have bad : Ci shM G2 mX12_lost 4 [.ref (G2.2.1 0), .int s, .int y, .int z, .int x] Mm (fun w M2 => -1000001 = w ∧ RR Mc M2) := wp_X12_lost (c_isSpan_bad hsp (k0 ⟨rfl, RR_thrown hR⟩))
    refine wp_X11_lost ?_
    rcases st4 s with h1 | h1
    · exact c_noStreet_bad h1 (n1 bad)
    refine c_noStreet_ok h1 (n0 ?_)
    rcases yr2 y with h2 | h2
    · exact c_noYear_bad h2 (n1 bad)
    refine c_noYear_ok h2 (n0 ?_)
    rcases yr2 z with h3 | h3
    · exact c_noYear_bad h3 (n1 bad)
    exact absurd ⟨h1, h2, h3⟩ hsp
