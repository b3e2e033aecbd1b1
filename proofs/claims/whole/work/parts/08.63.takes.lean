/-! read: numbers, sorts, ages, signs, of the class -/
def Rp (S : Nat → Bool) (M : Mem) (F : Nat → Nat → Int32) : Mem := (fun k => if S k = true then F k else M.1 k, M.2)
def sF (F : Nat → Nat → Int32) (o : Nat) (f : Nat → Int32) : Nat → Nat → Int32 := fun k => if k = o then f else F k
theorem sF_at {F : Nat → Nat → Int32} {o : Nat} {f : Nat → Int32} : sF F o f o = f := if_pos rfl
theorem sF_ne {F : Nat → Nat → Int32} {o k : Nat} {f : Nat → Int32} (h : k ≠ o) : sF F o f k = F k := if_neg h
theorem Rp_at {S : Nat → Bool} {M : Mem} {F : Nat → Nat → Int32} {o : Nat} (h : S o = true) : (Rp S M F).1 o = F o := if_pos h
theorem Rp_aset {S : Nat → Bool} {M : Mem} {F : Nat → Nat → Int32} {o : Nat} {f : Nat → Int32} (h : S o = true) : aset (Rp S M F) o f = Rp S M (sF F o f) := by
  simp only [aset, Rp]
  congr 1
  funext k
  by_cases h1 : k = o
  · subst h1; rw [if_pos rfl, if_pos h, sF_at]
  · rw [if_neg h1]
    by_cases h2 : S k = true
    · rw [if_pos h2, if_pos h2, sF_ne h1]
    · rw [if_neg h2, if_neg h2]
theorem Rp_mset {S : Nat → Bool} {M : Mem} {F : Nat → Nat → Int32} {o j : Nat} {v : Int32} (h : S o = true) : mset (Rp S M F) o j v = Rp S M (sF F o (upd (F o) j v)) := by
  rw [← aset_mset, Rp_aset h, Rp_at h]
theorem Rp_self {S : Nat → Bool} {M : Mem} : Rp S M M.1 = M := by
  obtain ⟨m1, m2⟩ := M
  simp only [Rp]
  congr 1
  funext k
  split <;> rfl
def SC (k : Nat) : Bool := [2, 3, 4, 5, 6, 8, 17, 18, 20, 21, 22, 23, 24, 25, 26, 27, 28, 29, 30, 31, 32, 35, 38].contains k
def SM (k : Nat) : Bool := [0, 4, 5, 6, 8, 9, 10, 11, 12, 13, 14, 15, 16, 17, 18, 19, 20, 21, 22].contains k
abbrev Tok : Type := Nat × Nat × Nat
abbrev RES (α : Type) : Type := (Nat × Nat) ⊕ α
def bnd {α β : Type} (r : RES α) (f : α → RES β) : RES β := match r with
  | .inl e => .inl e
  | .inr a => f a
def elS {α : Type} (r : RES α) (f : Nat → Nat → Prop) (g : α → Prop) : Prop := match r with
  | .inl e => f e.1 e.2
  | .inr a => g a
/-- a token of the text -/
def gtk (bb : Nat → Nat) (n : Nat) (t : Tok) : Prop := ∃ e, e ≤ n ∧ t = tokF bb n e
def nxT (bb : Nat → Nat) (n : Nat) (t : Tok) : Tok := tokF bb n t.2.2
theorem gtk_le {bb : Nat → Nat} {n : Nat} {t : Tok} (h : gtk bb n t) : t.2.1 ≤ t.2.2 ∧ t.2.2 ≤ n ∧ (t.1 ≠ 0 → t.2.1 < t.2.2) := by
  obtain ⟨e, he, rfl⟩ := h
  obtain ⟨h1, h2, h3, h4⟩ := tok_le (bb := bb) he
  exact ⟨h1, h2, h4⟩
theorem gtk_nx {bb : Nat → Nat} {n : Nat} {t : Tok} (h : gtk bb n t) : gtk bb n (nxT bb n t) := ⟨t.2.2, (gtk_le h).2.1, rfl⟩
theorem gtk_val {bb : Nat → Nat} {n : Nat} {t : Tok} (h : gtk bb n t) (h2 : t.1 = 2) : valF bb t.2.1 t.2.2 < 10000 := by
  obtain ⟨e, he, rfl⟩ := h
  exact val_lt h2
theorem nx_start {bb : Nat → Nat} {n : Nat} {t : Tok} (h : gtk bb n t) : t.2.2 ≤ (nxT bb n t).2.1 := (tok_le (bb := bb) (gtk_le h).2.1).2.2.1
def numT (bb : Nat → Nat) (lo hi no : Int) (t : Tok) : RES Nat := if t.1 ≠ 2 then .inl (1, t.2.1) else if (valF bb t.2.1 t.2.2 : Int) < lo ∨ hi < (valF bb t.2.1 t.2.2 : Int) ∨ (valF bb t.2.1 t.2.2 : Int) = no then .inl (2, t.2.1) else .inr (valF bb t.2.1 t.2.2)
def srtT (bb : Nat → Nat) (t : Tok) : RES Nat := if wdN bb t = cW 4 then .inr 0 else if wdN bb t = cW 5 then .inr 1 else if wdN bb t = cW 6 then .inr 2 else if wdN bb t = cW 7 then .inr 3 else if wdN bb t = cW 8 then .inr 4 else .inl (1, t.2.1)
def sgT (t : Tok) : RES Unit := if t.1 = 3 then .inr () else .inl (1, t.2.1)
def nmT (t : Tok) : RES Unit := if t.1 ≠ 1 then .inl (1, t.2.1) else if 8 < t.2.2 - t.2.1 then .inl (2, t.2.1) else .inr ()
def ageT (bb : Nat → Nat) (n : Nat) (t : Tok) : RES (Int32 × Tok) := if wdN bb t = cW 9 then bnd (numT bb 0 120 (-1000000) (nxT bb n t)) (fun v => .inr (nI v, nxT bb n (nxT bb n t))) else .inr (-1000000, t)
def eq28 (F F' : Nat → Nat → Int32) : Prop := ∀ k, k ≠ 2 → k ≠ 8 → F' k = F k
theorem eq28_refl (F : Nat → Nat → Int32) : eq28 F F := fun _ _ _ => rfl
theorem eq28_trans {F G H : Nat → Nat → Int32} (h1 : eq28 F G) (h2 : eq28 G H) : eq28 F H := fun k a b => (h2 k a b).trans (h1 k a b)
theorem eq28_s {F : Nat → Nat → Int32} {o : Nat} {f : Nat → Int32} (h : o = 2 ∨ o = 8) : eq28 F (sF F o f) := fun k a b => sF_ne (by omega)
/-- a fault is noted -/
def FlC (M0 : Mem) (F : Nat → Nat → Int32) (q : Int32 → Mem → Prop) (c p : Nat) : Prop := ∀ F', eq28 F F' → F' 8 6 = nI c → F' 8 7 = nI p → q 0 (Rp SC M0 F')
section
variable {G : GV} {k n : Nat} {M0 : Mem} {bb : Nat → Nat} {F : Nat → Nat → Int32} {t : Tok}
theorem c_fail {q : Int32 → Mem → Prop} {c : Nat} {v : Int32} (hv : v = nI c) (hT : TkC bb n (F 2) t) (h : FlC M0 F q c t.2.1) : Ci shC G mX8_fail k [.ref (G.2.1 8), .int v] (Rp SC M0 F) q := by
  refine wp_X8_fail ?_
  rw [Rp_mset rfl, Rp_mset rfl, show (Rp SC M0 F).1 2 3 = nI t.2.1 from hT.2.2.1, hv]
  refine h _ (eq28_trans (eq28_s (Or.inr rfl)) (eq28_s (Or.inr rfl))) ?_ ?_
  · rw [sF_at, sF_at, upd_ne _ _ (by decide), upd_at]
  · rw [sF_at, upd_at]
theorem c_fail2 {q : Int32 → Mem → Prop} {c : Nat} {v : Int32} (hv : v = nI c) (hT : TkC bb n (F 2) t) (h : FlC M0 F q c t.2.1) : Ci shC G mX8_fail k [.ref (G.2.1 8), .int v] (Rp SC M0 F) (fun x M1 => (x = 0 ∨ x = 1) ∧ q x M1) := c_fail hv hT (fun F' a b c => ⟨Or.inl rfl, h F' a b c⟩)
theorem c_stepR {q : Mem → Prop} (hn : n ≤ 600) (hb : ∀ i, i < n → bb i < 256 ∧ M0.1 16 i = sb (bb i)) (ht : gtk bb n t) (hT : TkC bb n (F 2) t) (hq : ∀ f, TkC bb n f (nxT bb n t) → q (Rp SC M0 (sF F 2 f))) : Cv shC G mX10_step (k + 2) [.ref (G.2.1 2)] (Rp SC M0 F) q := by
  have h5 := c_stepC (G := G) (k := k) (q := q) (M := Rp SC M0 F) (f := F 2) hn (gtk_le ht).2.1 hb hT.1 hT.2.2.2 (fun f hf => by rw [Rp_aset rfl]; exact hq f hf)
  rw [show aset (Rp SC M0 F) 2 (F 2) = Rp SC M0 F from aset_self] at h5
  exact h5
theorem c_numR {q : Int32 → Mem → Prop} (hn : n ≤ 600) (hb : ∀ i, i < n → bb i < 256 ∧ M0.1 16 i = sb (bb i)) (ht : gtk bb n t) (hT : TkC bb n (F 2) t) (hk : t.1 = 2) (h : q (nI (valF bb t.2.1 t.2.2)) (Rp SC M0 F)) : Ci shC G mX10_number k [.ref (G.2.1 2)] (Rp SC M0 F) q := by
  obtain ⟨g1, g2, g3⟩ := gtk_le ht
  have hfi : ∀ i, t.2.1 ≤ i → i < t.2.2 → fiB (bb i) = true := by
    obtain ⟨e, he, hte⟩ := ht
    rw [hte] at hk ⊢
    exact (tok_fig hk).2
  exact c_number (M := Rp SC M0 F) hn g1 g2 hb hfi hT.1 hT.2.2.1 hT.2.2.2 h
theorem c_takeNumber {q : Int32 → Mem → Prop} {lo hi : Int32} (hn : n ≤ 600) (hb : ∀ i, i < n → bb i < 256 ∧ M0.1 16 i = sb (bb i)) (ht : gtk bb n t) (hT : TkC bb n (F 2) t) (h : elS (numT bb lo.toInt hi.toInt (-1000000) t) (FlC M0 F q) (fun v => ∀ F', eq28 F F' → TkC bb n (F' 2) (nxT bb n t) → F' 8 5 = nI v → q 1 (Rp SC M0 F'))) : Ci shC G mX8_takeNumber (k + 3) [.ref (G.2.1 8), .int lo, .int hi] (Rp SC M0 F) q := by
  have h5 : t.1 < 5 := by
    obtain ⟨e, he, rfl⟩ := ht
    exact tok_5 bb n e
  refine wp_X8_takeNumber ?_
  rw [show (Rp SC M0 F).1 2 2 = nI t.1 from hT.2.1]
  by_cases hk : t.1 = 2
  · have hv := gtk_val ht hk
    rw [numT, if_neg (fun e => e hk)] at h
    refine ⟨fun _ => c_numR hn hb ht hT hk ?_, fun c => absurd (by rw [hk]; rfl) c⟩
    have hT8 : TkC bb n (sF F 8 (upd (F 8) 5 (nI (valF bb t.2.1 t.2.2))) 2) t := by rw [sF_ne (by decide)]; exact hT
    rw [Rp_mset rfl]
    refine ⟨fun c => ?_, fun c => ⟨fun c2 => ?_, fun c2 => ?_⟩⟩
    · rw [ltI, nI_toInt (by omega)] at c
      rw [if_pos (Or.inl c)] at h
      exact c_fail2 rfl hT8 (fun F' a b c => h F' (eq28_trans (eq28_s (Or.inr rfl)) a) b c)
    · rw [ltI, nI_toInt (by omega)] at c
      rw [leI, nI_toInt (by omega)] at c2
      rw [if_neg (by omega)] at h
      refine c_stepR hn hb ht (F := sF F 8 _) hT8 (fun f hf => h _ (eq28_trans (eq28_s (Or.inr rfl)) (eq28_s (Or.inl rfl))) (by rw [sF_at]; exact hf) ?_)
      rw [sF_ne (by decide), sF_at, upd_at]
    · rw [leI, nI_toInt (by omega)] at c2
      rw [if_pos (Or.inr (Or.inl (by omega)))] at h
      exact c_fail2 rfl hT8 (fun F' a b c => h F' (eq28_trans (eq28_s (Or.inr rfl)) a) b c)
  · rw [numT, if_pos hk] at h
    refine ⟨fun c => absurd ((nI_eq (b := 2) (by omega) (by omega)).mp c) hk, fun _ => c_fail2 rfl hT h⟩
theorem c_takeSign {q : Int32 → Mem → Prop} (hn : n ≤ 600) (hb : ∀ i, i < n → bb i < 256 ∧ M0.1 16 i = sb (bb i)) (ht : gtk bb n t) (hT : TkC bb n (F 2) t) (h : elS (sgT t) (FlC M0 F q) (fun _ => ∀ F', eq28 F F' → TkC bb n (F' 2) (nxT bb n t) → q 1 (Rp SC M0 F'))) : Ci shC G mX8_takeSign (k + 3) [.ref (G.2.1 8)] (Rp SC M0 F) q := by
  have h5 : t.1 < 5 := by
    obtain ⟨e, he, rfl⟩ := ht
    exact tok_5 bb n e
  refine wp_X8_takeSign ?_
  rw [show (Rp SC M0 F).1 2 2 = nI t.1 from hT.2.1]
  by_cases hk : t.1 = 3
  · rw [sgT, if_pos hk] at h
    exact ⟨fun _ => c_stepR hn hb ht hT (fun f hf => h _ (eq28_s (Or.inl rfl)) (by rw [sF_at]; exact hf)), fun c => absurd (by rw [hk]; rfl) c⟩
  · rw [sgT, if_neg hk] at h
    exact ⟨fun c => absurd ((nI_eq (b := 3) (by omega) (by omega)).mp c) hk, fun _ => c_fail2 rfl hT h⟩
theorem c_isWR {q : Int32 → Mem → Prop} {i : Nat} (hn : n ≤ 600) (hb : ∀ i, i < n → bb i < 256 ∧ M0.1 16 i = sb (bb i)) (ht : gtk bb n t) (hT : TkC bb n (F 2) t) (hi : i < 10) (h1 : wdN bb t = cW i → q 1 (Rp SC M0 F)) (h0 : ¬ wdN bb t = cW i → q 0 (Rp SC M0 F)) : Ci shC G mX10_isWord (k + 4) [.ref (G.2.1 2), .ref (sK G i)] (Rp SC M0 F) q := by
  obtain ⟨e, he, hte⟩ := ht
  refine c_isW (M := Rp SC M0 F) hte he hn hi hb hT ?_
  by_cases hw : wdN bb t = cW i
  · rw [decide_eq_true hw]; exact h1 hw
  · rw [decide_eq_false hw]; exact h0 hw
theorem c_takeSort {q : Int32 → Mem → Prop} (hn : n ≤ 600) (hb : ∀ i, i < n → bb i < 256 ∧ M0.1 16 i = sb (bb i)) (ht : gtk bb n t) (hT : TkC bb n (F 2) t) (h : elS (srtT bb t) (FlC M0 F q) (fun v => ∀ F', eq28 F F' → TkC bb n (F' 2) (nxT bb n t) → F' 8 5 = nI v → q 1 (Rp SC M0 F'))) : Ci shC G mX8_takeSort (k + 5) [.ref (G.2.1 8)] (Rp SC M0 F) q := by
  have stp : ∀ (v : Int32) (x : Nat), v = nI x → (∀ F', eq28 F F' → TkC bb n (F' 2) (nxT bb n t) → F' 8 5 = nI x → q 1 (Rp SC M0 F')) → Cv shC G mX10_step (k + 4) [.ref (G.2.1 2)] (mset (Rp SC M0 F) 8 5 v) (fun M7 => q 1 M7) := by
    intro v x hv hh
    rw [Rp_mset rfl, hv]
    refine c_stepR hn hb ht (F := sF F 8 _) (by rw [sF_ne (by decide)]; exact hT) (fun f hf => hh _ (eq28_trans (eq28_s (Or.inr rfl)) (eq28_s (Or.inl rfl))) (by rw [sF_at]; exact hf) ?_)
    rw [sF_ne (by decide), sF_at, upd_at]
  refine wp_X8_takeSort (c_isWR hn hb ht hT (by decide) (fun w => k1 ?_) (fun w => k0 (c_isWR hn hb ht hT (by decide) (fun w2 => k1 ?_) (fun w2 => k0 (c_isWR hn hb ht hT (by decide) (fun w3 => k1 ?_) (fun w3 => k0 (c_isWR hn hb ht hT (by decide) (fun w4 => k1 ?_) (fun w4 => k0 (c_isWR hn hb ht hT (by decide) (fun w5 => k1 ?_) (fun w5 => k0 ?_))))))))))
  · rw [srtT, if_pos w] at h; exact stp 0 0 rfl h
  · rw [srtT, if_neg w, if_pos w2] at h; exact stp 1 1 rfl h
  · rw [srtT, if_neg w, if_neg w2, if_pos w3] at h; exact stp 2 2 rfl h
  · rw [srtT, if_neg w, if_neg w2, if_neg w3, if_pos w4] at h; exact stp 3 3 rfl h
  · rw [srtT, if_neg w, if_neg w2, if_neg w3, if_neg w4, if_pos w5] at h; exact stp 4 4 rfl h
  · rw [srtT, if_neg w, if_neg w2, if_neg w3, if_neg w4, if_neg w5] at h
    exact c_fail2 rfl hT h
theorem c_takeAge {q : Int32 → Mem → Prop} (hn : n ≤ 600) (hb : ∀ i, i < n → bb i < 256 ∧ M0.1 16 i = sb (bb i)) (ht : gtk bb n t) (hT : TkC bb n (F 2) t) (h : elS (ageT bb n t) (FlC M0 F q) (fun r => ∀ F', eq28 F F' → TkC bb n (F' 2) r.2 → F' 8 5 = r.1 → q 1 (Rp SC M0 F'))) : Ci shC G mX8_takeAge (k + 5) [.ref (G.2.1 8)] (Rp SC M0 F) q := by
  refine wp_X8_takeAge ?_
  rw [Rp_mset rfl]
  have hT1 : TkC bb n (sF F 8 (upd (F 8) 5 (-1000000)) 2) t := by rw [sF_ne (by decide)]; exact hT
  refine c_isWR hn hb ht hT1 (by decide) (fun w => n1 ?_) (fun w => n0 ?_)
  · rw [ageT, if_pos w] at h
    refine c_stepR hn hb ht hT1 (fun f hf => ?_)
    have hE : eq28 F (sF (sF F 8 (upd (F 8) 5 (-1000000))) 2 f) := eq28_trans (eq28_s (Or.inr rfl)) (eq28_s (Or.inl rfl))
    refine c_takeNumber (t := nxT bb n t) hn hb (gtk_nx ht) (by rw [sF_at]; exact hf) ?_
    rw [show (0 : Int32).toInt = 0 from by decide, show (120 : Int32).toInt = 120 from by decide]
    cases hr : numT bb 0 120 (-1000000) (nxT bb n t) with
    | inl e =>
      rw [hr] at h
      exact fun F' a b c => ⟨Or.inl rfl, h F' (eq28_trans hE a) b c⟩
    | inr v =>
      rw [hr] at h
      exact fun F' a b c => ⟨Or.inr rfl, h F' (eq28_trans hE a) b c⟩
  · rw [ageT, if_neg w] at h
    exact h _ (eq28_s (Or.inr rfl)) hT1 (by rw [sF_at, upd_at])
end
