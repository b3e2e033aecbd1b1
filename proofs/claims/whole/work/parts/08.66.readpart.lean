/-! read: the whole text, of the class -/
abbrev WS : Type := (Nat → Nat → Int32) × Nat × Nat × Nat × Nat × Tok
def bookD (D : Nat → Nat → Int32) (nb : Nat) (r : Nat × Nat × Nat × Tok) : Nat → Nat → Int32 := sF (sF (sF D 4 (upd (D 4) nb (nI r.1))) 5 (upd (D 5) nb (nI r.2.1))) 6 (upd (D 6) nb (nI r.2.2.1))
def orderD (D : Nat → Nat → Int32) (no : Nat) (r : Nat × Nat × Nat × Nat × Tok) : Nat → Nat → Int32 := sF (sF (sF (sF D 15 (upd (D 15) no (nI r.1))) 16 (upd (D 16) no (nI r.2.1))) 17 (upd (D 17) no (nI r.2.2.1))) 18 (upd (D 18) no (nI r.2.2.2.1))
def houseD (D : Nat → Nat → Int32) (nh : Nat) (r : Nat × Nat × Nat × Nat × Tok) : Nat → Nat → Int32 := sF (sF (sF (sF D 19 (upd (D 19) nh (nI r.1))) 20 (upd (D 20) nh (nI r.2.1))) 21 (upd (D 21) nh (nI r.2.2.1))) 22 (upd (D 22) nh (nI r.2.2.2.1))
def nameD (bb : Nat → Nat) (f : Nat → Int32) (nl : Nat) (t : Tok) : Nat → Int32 := fun j => if 8 * nl ≤ j ∧ j < 8 * nl + (t.2.2 - t.2.1) then nI (bb (t.2.1 + (j - 8 * nl)) - 97) else f j
def lineD (bb : Nat → Nat) (D : Nat → Nat → Int32) (nl : Nat) (r : Nat × Nat × Nat × Nat × Tok × Int32 × Tok) : Nat → Nat → Int32 := sF (sF (sF (sF (sF (sF (sF D 8 (upd (D 8) nl (nI r.1))) 9 (upd (D 9) nl (nI r.2.1))) 10 (upd (D 10) nl (nI r.2.2.1))) 11 (upd (D 11) nl (nI r.2.2.2.1))) 12 (upd (D 12) nl r.2.2.2.2.2.1)) 13 (upd (D 13) nl (nI (r.2.2.2.2.1.2.2 - r.2.2.2.2.1.2.1)))) 14 (nameD bb (D 14) nl r.2.2.2.2.1)
/-- a part: what it tells, or its fault -/
def partW (bb : Nat → Nat) (n : Nat) (W : WS) : RES WS := if wdN bb W.2.2.2.2.2 = cW 0 then (if 10 ≤ W.2.1 then .inl (3, W.2.2.2.2.2.2.1) else bnd (bookT bb n (nxT bb n W.2.2.2.2.2)) fun r => .inr (bookD W.1 W.2.1 r, W.2.1 + 1, W.2.2.1, W.2.2.2.1, W.2.2.2.2.1, r.2.2.2)) else if wdN bb W.2.2.2.2.2 = cW 1 then (if 12 ≤ W.2.2.1 then .inl (3, W.2.2.2.2.2.2.1) else bnd (lineT bb n W.2.1 (nxT bb n W.2.2.2.2.2)) fun r => .inr (lineD bb W.1 W.2.2.1 r, W.2.1, W.2.2.1 + 1, W.2.2.2.1, W.2.2.2.2.1, r.2.2.2.2.2.2)) else if wdN bb W.2.2.2.2.2 = cW 2 then (if 20 ≤ W.2.2.2.1 then .inl (3, W.2.2.2.2.2.2.1) else bnd (orderT bb n (nxT bb n W.2.2.2.2.2)) fun r => .inr (orderD W.1 W.2.2.2.1 r, W.2.1, W.2.2.1, W.2.2.2.1 + 1, W.2.2.2.2.1, r.2.2.2.2)) else if wdN bb W.2.2.2.2.2 = cW 3 then (if 20 ≤ W.2.2.2.2.1 then .inl (3, W.2.2.2.2.2.2.1) else bnd (houseT bb n (nxT bb n W.2.2.2.2.2)) fun r => .inr (houseD W.1 W.2.2.2.2.1 r, W.2.1, W.2.2.1, W.2.2.2.1, W.2.2.2.2.1 + 1, r.2.2.2.2)) else .inl (1, W.2.2.2.2.2.2.1)
/-- what lasts of the class below the counts -/
def prC (B : Nat × Nat × Nat × Nat) (k i : Nat) : Prop := (k = 3 ∧ i = 3) ∨ (k = 4 ∧ i = 4) ∨ (k = 5 ∧ i = 4) ∨ (k = 6 ∧ i = 8) ∨ ((k = 17 ∨ k = 18) ∧ i < B.1) ∨ ((20 ≤ k ∧ k ≤ 23) ∧ i < B.2.2.1) ∨ ((24 ≤ k ∧ k ≤ 27) ∧ i < B.2.2.2) ∨ (((28 ≤ k ∧ k ≤ 32) ∨ k = 38) ∧ i < B.2.1) ∨ (k = 35 ∧ i < 8 * B.2.1)
theorem prC_28 {B : Nat × Nat × Nat × Nat} : ∀ k i, prC B k i → k ≠ 2 ∧ k ≠ 8 := fun k i h => by unfold prC at h; omega
def tlC (F D : Nat → Nat → Int32) (i : Nat) : Prop := F 28 i = D 8 i ∧ F 29 i = D 9 i ∧ F 30 i = D 10 i ∧ F 31 i = D 11 i ∧ F 32 i = D 12 i ∧ F 38 i = D 13 i ∧ ix (D 13 i) ≤ 8 ∧ ∀ j, j < ix (D 13 i) → F 35 (8 * i + j) = D 14 (8 * i + j)
def RC (bb : Nat → Nat) (n : Nat) (M0 : Mem) (B : Nat × Nat × Nat × Nat) (F : Nat → Nat → Int32) (W : WS) : Prop := eqBd (prC B) M0.1 F ∧ TkC bb n (F 2) W.2.2.2.2.2 ∧ (F 3 4 = nI W.2.1 ∧ F 6 9 = nI W.2.2.1 ∧ F 4 5 = nI W.2.2.2.1 ∧ F 5 5 = nI W.2.2.2.2.1) ∧ (∀ i, B.1 ≤ i → i < W.2.1 → F 17 i = W.1 4 i - W.1 5 i ∧ F 18 i = W.1 6 i) ∧ (∀ i, B.2.1 ≤ i → i < W.2.2.1 → tlC F W.1 i) ∧ (∀ i, B.2.2.1 ≤ i → i < W.2.2.2.1 → F 20 i = W.1 15 i ∧ F 21 i = W.1 16 i ∧ F 22 i = W.1 17 i ∧ F 23 i = W.1 18 i) ∧ (∀ i, B.2.2.2 ≤ i → i < W.2.2.2.2.1 → F 24 i = W.1 19 i ∧ F 25 i = W.1 20 i ∧ F 26 i = W.1 21 i ∧ F 27 i = W.1 22 i)
def WB (bb : Nat → Nat) (n : Nat) (B : Nat × Nat × Nat × Nat) (W : WS) : Prop := (B.1 ≤ W.2.1 ∧ W.2.1 ≤ 10) ∧ (B.2.1 ≤ W.2.2.1 ∧ W.2.2.1 ≤ 12) ∧ (B.2.2.1 ≤ W.2.2.2.1 ∧ W.2.2.2.1 ≤ 20) ∧ (B.2.2.2 ≤ W.2.2.2.2.1 ∧ W.2.2.2.2.1 ≤ 20) ∧ gtk bb n W.2.2.2.2.2
theorem RC_28 {bb : Nat → Nat} {n : Nat} {M0 : Mem} {B : Nat × Nat × Nat × Nat} {F F' : Nat → Nat → Int32} {D : Nat → Nat → Int32} {nb nl no nh : Nat} {t t' : Tok} (h : RC bb n M0 B F (D, nb, nl, no, nh, t)) (hE : eq28 F F') (hT : TkC bb n (F' 2) t') : RC bb n M0 B F' (D, nb, nl, no, nh, t') := by
  obtain ⟨a1, a2, a3, a4, a5, a6, a7⟩ := h
  have q : ∀ k, k ≠ 2 → k ≠ 8 → F' k = F k := hE
  refine ⟨eqBd_trans a1 (eqBd_28 prC_28 hE), hT, ?_, ?_, ?_, ?_, ?_⟩
  · rw [q 3 (by decide) (by decide), q 6 (by decide) (by decide), q 4 (by decide) (by decide), q 5 (by decide) (by decide)]; exact a3
  · rw [q 17 (by decide) (by decide), q 18 (by decide) (by decide)]; exact a4
  · intro i h1 h2
    unfold tlC
    rw [q 28 (by decide) (by decide), q 29 (by decide) (by decide), q 30 (by decide) (by decide), q 31 (by decide) (by decide), q 32 (by decide) (by decide), q 38 (by decide) (by decide), q 35 (by decide) (by decide)]
    exact a5 i h1 h2
  · rw [q 20 (by decide) (by decide), q 21 (by decide) (by decide), q 22 (by decide) (by decide), q 23 (by decide) (by decide)]; exact a6
  · rw [q 24 (by decide) (by decide), q 25 (by decide) (by decide), q 26 (by decide) (by decide), q 27 (by decide) (by decide)]; exact a7
theorem age_gtk {bb : Nat → Nat} {n : Nat} {t : Tok} {r : Int32 × Tok} (ht : gtk bb n t) (h : ageT bb n t = .inr r) : gtk bb n r.2 ∧ t.2.1 ≤ r.2.2.1 ∧ (r.1 = -1000000 ∨ ∃ a, a ≤ 120 ∧ r.1 = nI a) := by
  unfold ageT at h
  by_cases hw : wdN bb t = cW 9
  · rw [if_pos hw] at h
    cases h7 : numT bb 0 120 (-1000000) (nxT bb n t) with
    | inl e => rw [h7] at h; cases h
    | inr v =>
      rw [h7, bnd_r] at h
      injection h with h
      obtain ⟨_, _, _, v2, _⟩ := num_ok h7
      rw [← h]
      have s1 := nx_start ht
      have s2 := nx_start (gtk_nx ht)
      have l1 := gtk_le ht
      have l2 := gtk_le (gtk_nx ht)
      exact ⟨gtk_nx (gtk_nx ht), by show t.2.1 ≤ (nxT bb n (nxT bb n t)).2.1; omega, Or.inr ⟨v, by omega, rfl⟩⟩
  · rw [if_neg hw] at h
    injection h with h
    rw [← h]
    exact ⟨ht, Nat.le_refl _, Or.inl rfl⟩
section
variable {G : GV} {k n : Nat} {M0 : Mem} {bb : Nat → Nat} {F : Nat → Nat → Int32} {B : Nat × Nat × Nat × Nat}
def FlB (M0 : Mem) (B : Nat × Nat × Nat × Nat) (q : Int32 → Mem → Prop) (c p : Nat) : Prop := ∀ F', eqBd (prC B) M0.1 F' → F' 8 6 = nI c → F' 8 7 = nI p → q 0 (Rp SC M0 F')
theorem FlB_C {q : Int32 → Mem → Prop} {c p : Nat} (h0 : eqBd (prC B) M0.1 F) (h : FlB M0 B q c p) : FlC M0 F q c p := fun F' a b c => h F' (eqBd_trans h0 (eqBd_28 prC_28 a)) b c
theorem c_readPart {q : Int32 → Mem → Prop} {W : WS} (hn : n ≤ 600) (hb : ∀ i, i < n → bb i < 256 ∧ M0.1 16 i = sb (bb i)) (hW : WB bb n B W) (hR : RC bb n M0 B F W) (h : elS (partW bb n W) (FlB M0 B q) (fun W' => ∀ F', RC bb n M0 B F' W' → q 1 (Rp SC M0 F'))) : Ci shC G mX8_readPart (k + 7) [.ref (G.2.1 8)] (Rp SC M0 F) q := by
  obtain ⟨D, nb, nl, no, nh, t⟩ := W
  obtain ⟨⟨b1, b2⟩, ⟨l1, l2⟩, ⟨o1, o2⟩, ⟨h1', h2'⟩, ht⟩ := hW
  dsimp only at b1 b2 l1 l2 o1 o2 h1' h2' ht
  have hR' := hR
  obtain ⟨a1, a2, ⟨c34, c69, c45, c55⟩, a4, a5, a6, a7⟩ := hR'
  dsimp only at a2 c34 c69 c45 c55 a4 a5 a6 a7
  unfold partW at h
  dsimp only at h
  refine wp_X8_readPart (c_isWR (k := k + 2) hn hb ht a2 (by decide) (fun w => k1 ?_) (fun w => k0 (c_isWR (k := k + 2) hn hb ht a2 (by decide) (fun w2 => k1 ?_) (fun w2 => k0 (c_isWR (k := k + 2) hn hb ht a2 (by decide) (fun w3 => k1 ?_) (fun w3 => k0 (c_isWR (k := k + 2) hn hb ht a2 (by decide) (fun w4 => k1 ?_) (fun w4 => k0 ?_))))))))
  · -- a book
    rw [if_pos w] at h
    rw [show (Rp SC M0 F).1 3 4 = nI nb from c34]
    refine ⟨fun c => ?_, fun c => ?_⟩
    · have h10 := (nI_leI (a := 10) (by omega) (by omega)).mp c
      rw [if_pos h10] at h
      exact wp_X8_beginPart ⟨fun c => absurd rfl c, fun _ => c_fail2 rfl a2 (fun F' a b c => k0 (FlB_C a1 h F' a b c))⟩
    · have h10 : ¬ 10 ≤ nb := fun e => c (nI_le (a := 10) e (by omega))
      rw [if_neg h10] at h
      refine wp_X8_beginPart ⟨fun _ => c_stepR (k := k + 3) hn hb ht a2 (fun f hf => k1 ?_), fun c => absurd c (by decide)⟩
      have E1 : eq28 F (sF F 2 f) := eq28_s (Or.inl rfl)
      refine c_readBook (k := k + 2) (nb := nb) hn hb (gtk_nx ht) (by rw [sF_at]; exact hf) c34 (by omega) ?_
      cases hr : bookT bb n (nxT bb n t) with
      | inl e => rw [hr] at h; exact fun F' a b c => k0 (FlB_C a1 h F' (eq28_trans E1 a) b c)
      | inr r =>
        rw [hr, bnd_r] at h
        intro F1 E2 T1
        have R1 := RC_28 (t' := r.2.2.2) hR (eq28_trans E1 E2) T1
        obtain ⟨d1, d2, ⟨e34, e69, e45, e55⟩, d4, d5, d6, d7⟩ := R1
        refine k1 (h _ ⟨eqBd_trans d1 (eqBd_trans (eqBd_w (by unfold prC; omega)) (eqBd_trans (eqBd_w (by unfold prC; omega)) (eqBd_w (by unfold prC; omega)))), d2, ⟨upd_at (F1 3) 4 (nI (nb + 1)), e69, e45, e55⟩, fun i i1 i2 => ?_, fun i i1 i2 => d5 i i1 i2, fun i i1 i2 => d6 i i1 i2, fun i i1 i2 => d7 i i1 i2⟩)
        show upd (F1 17) nb (nI r.1 - nI r.2.1) i = upd (D 4) nb (nI r.1) i - upd (D 5) nb (nI r.2.1) i ∧ upd (F1 18) nb (nI r.2.2.1) i = upd (D 6) nb (nI r.2.2.1) i
        by_cases e : i = nb
        · rw [e, upd_at, upd_at, upd_at, upd_at, upd_at]; exact ⟨rfl, rfl⟩
        · rw [upd_ne _ _ e, upd_ne _ _ e, upd_ne _ _ e, upd_ne _ _ e, upd_ne _ _ e]
          exact d4 i i1 (by have : i < nb + 1 := i2; show i < nb; omega)
  · -- a line
    rw [if_neg w, if_pos w2] at h
    rw [show (Rp SC M0 F).1 6 9 = nI nl from c69]
    refine ⟨fun c => ?_, fun c => ?_⟩
    · have h10 := (nI_leI (a := 12) (by omega) (by omega)).mp c
      rw [if_pos h10] at h
      exact wp_X8_beginPart ⟨fun c => absurd rfl c, fun _ => c_fail2 rfl a2 (fun F' a b c => k0 (FlB_C a1 h F' a b c))⟩
    · have h10 : ¬ 12 ≤ nl := fun e => c (nI_le (a := 12) e (by omega))
      rw [if_neg h10] at h
      refine wp_X8_beginPart ⟨fun _ => c_stepR (k := k + 3) hn hb ht a2 (fun f hf => k1 ?_), fun c => absurd c (by decide)⟩
      have E1 : eq28 F (sF F 2 f) := eq28_s (Or.inl rfl)
      have bkL : ∀ F', eqLn nl (sF F 2 f) F' → eqBd (prC B) M0.1 F' := fun F' hL => eqBd_trans a1 (eqBd_trans (eqBd_28 prC_28 E1) (fun k i a => hL k i (prC_28 k i a).1 (prC_28 k i a).2 (fun e => by unfold prC at a; unfold lnP at e; omega) (fun e => by unfold prC at a; omega)))
      refine c_readLine (k := k) (nl := nl) (nb := nb) hn hb (gtk_nx ht) (by rw [sF_at]; exact hf) c34 b2 c69 (by omega) ?_
      cases hr : lineT bb n nb (nxT bb n t) with
      | inl e => rw [hr] at h; exact fun F' a b c => k0 (h F' (bkL F' a) b c)
      | inr r =>
        rw [hr, bnd_r] at h
        intro F1 L1 T1 v28 v29 v30 v31 v32 v38 v35
        have nm8 : r.2.2.2.2.1.2.2 - r.2.2.2.2.1.2.1 ≤ 8 := by
          unfold lineT at hr
          cases k1 : numT bb 0 ((nb : Int) - 1) (-1000000) (nxT bb n t) with
          | inl e => rw [k1] at hr; cases hr
          | inr b =>
          rw [k1, bnd_r] at hr
          cases k2 : srtT bb (nxT bb n (nxT bb n t)) with
          | inl e => rw [k2] at hr; cases hr
          | inr so =>
          rw [k2, bnd_r] at hr
          cases k3 : numT bb 0 3 (-1000000) (nxT bb n (nxT bb n (nxT bb n t))) with
          | inl e => rw [k3] at hr; cases hr
          | inr st =>
          rw [k3, bnd_r] at hr
          cases k4 : numT bb 1 99 (-1000000) (nxT bb n (nxT bb n (nxT bb n (nxT bb n t)))) with
          | inl e => rw [k4] at hr; cases hr
          | inr nu =>
          rw [k4, bnd_r] at hr
          cases k5 : nmT (nxT bb n (nxT bb n (nxT bb n (nxT bb n (nxT bb n t))))) with
          | inl e => rw [k5] at hr; cases hr
          | inr u =>
          rw [k5, bnd_r] at hr
          cases k6 : ageT bb n (nxT bb n (nxT bb n (nxT bb n (nxT bb n (nxT bb n (nxT bb n t)))))) with
          | inl e => rw [k6] at hr; cases hr
          | inr ag =>
          rw [k6, bnd_r] at hr
          cases k7 : sgT ag.2 with
          | inl e => rw [k7] at hr; cases hr
          | inr sg =>
          rw [k7, bnd_r] at hr
          injection hr with hr
          rw [← hr]
          show (nxT bb n (nxT bb n (nxT bb n (nxT bb n (nxT bb n t))))).2.2 - (nxT bb n (nxT bb n (nxT bb n (nxT bb n (nxT bb n t))))).2.1 ≤ 8
          unfold nmT at k5
          split at k5
          · cases k5
          · split at k5
            · cases k5
            · omega
        have pt : ∀ k i, k ≠ 2 → k ≠ 8 → (lnP k → i ≠ nl) → (k = 35 → i < 8 * nl ∨ 8 * nl + 8 ≤ i) → F1 k i = F k i := fun k i p1 p2 p3 p4 => by rw [L1 k i p1 p2 p3 p4, sF_ne p1]
        have np : ∀ k, ¬ lnP k → k ≠ 35 → k ≠ 2 → k ≠ 8 → ∀ i, F1 k i = F k i := fun k p1 p2 p3 p4 i => pt k i p3 p4 (fun e => absurd e p1) (fun e => absurd e p2)
        refine k1 (h _ ⟨eqBd_trans (bkL F1 L1) (eqBd_w (by unfold prC; omega)), T1, ⟨?_, upd_at (F1 6) 9 (nI (nl + 1)), ?_, ?_⟩, fun i i1 i2 => ?_, fun i i1 i2 => ?_, fun i i1 i2 => ?_, fun i i1 i2 => ?_⟩)
        · show F1 3 4 = nI nb
          rw [np 3 (by unfold lnP; omega) (by decide) (by decide) (by decide)]; exact c34
        · show F1 4 5 = nI no
          rw [np 4 (by unfold lnP; omega) (by decide) (by decide) (by decide)]; exact c45
        · show F1 5 5 = nI nh
          rw [np 5 (by unfold lnP; omega) (by decide) (by decide) (by decide)]; exact c55
        · show F1 17 i = D 4 i - D 5 i ∧ F1 18 i = D 6 i
          rw [np 17 (by unfold lnP; omega) (by decide) (by decide) (by decide), np 18 (by unfold lnP; omega) (by decide) (by decide) (by decide)]
          exact a4 i i1 i2
        · have i2' : i < nl + 1 := i2
          show F1 28 i = upd (D 8) nl (nI r.1) i ∧ F1 29 i = upd (D 9) nl (nI r.2.1) i ∧ F1 30 i = upd (D 10) nl (nI r.2.2.1) i ∧ F1 31 i = upd (D 11) nl (nI r.2.2.2.1) i ∧ F1 32 i = upd (D 12) nl r.2.2.2.2.2.1 i ∧ F1 38 i = upd (D 13) nl (nI (r.2.2.2.2.1.2.2 - r.2.2.2.2.1.2.1)) i ∧ ix (upd (D 13) nl (nI (r.2.2.2.2.1.2.2 - r.2.2.2.2.1.2.1)) i) ≤ 8 ∧ ∀ j, j < ix (upd (D 13) nl (nI (r.2.2.2.2.1.2.2 - r.2.2.2.2.1.2.1)) i) → F1 35 (8 * i + j) = nameD bb (D 14) nl r.2.2.2.2.1 (8 * i + j)
          by_cases e : i = nl
          · rw [e, upd_at, upd_at, upd_at, upd_at, upd_at, upd_at, ix_nI (by omega)]
            refine ⟨v28, v29, v30, v31, v32, v38, nm8, fun j hj => ?_⟩
            rw [v35 j hj, nameD, if_pos (by omega), show 8 * nl + j - 8 * nl = j by omega]
          · rw [upd_ne _ _ e, upd_ne _ _ e, upd_ne _ _ e, upd_ne _ _ e, upd_ne _ _ e, upd_ne _ _ e]
            have hx : ∀ k, lnP k → F1 k i = F k i := fun k hk => pt k i (by unfold lnP at hk; omega) (by unfold lnP at hk; omega) (fun _ => e) (fun e5 => by unfold lnP at hk; omega)
            rw [hx 28 (Or.inl (by decide)), hx 29 (Or.inl (by decide)), hx 30 (Or.inl (by decide)), hx 31 (Or.inl (by decide)), hx 32 (Or.inl (by decide)), hx 38 (Or.inr rfl)]
            obtain ⟨q1, q2, q3, q4, q5, q6, q7, q8⟩ := a5 i i1 (by omega)
            refine ⟨q1, q2, q3, q4, q5, q6, q7, fun j hj => ?_⟩
            rw [pt 35 (8 * i + j) (by decide) (by decide) (fun e5 => by unfold lnP at e5; omega) (fun _ => by omega), nameD, if_neg (by omega)]
            exact q8 j hj
        · show F1 20 i = D 15 i ∧ F1 21 i = D 16 i ∧ F1 22 i = D 17 i ∧ F1 23 i = D 18 i
          rw [np 20 (by unfold lnP; omega) (by decide) (by decide) (by decide), np 21 (by unfold lnP; omega) (by decide) (by decide) (by decide), np 22 (by unfold lnP; omega) (by decide) (by decide) (by decide), np 23 (by unfold lnP; omega) (by decide) (by decide) (by decide)]
          exact a6 i i1 i2
        · show F1 24 i = D 19 i ∧ F1 25 i = D 20 i ∧ F1 26 i = D 21 i ∧ F1 27 i = D 22 i
          rw [np 24 (by unfold lnP; omega) (by decide) (by decide) (by decide), np 25 (by unfold lnP; omega) (by decide) (by decide) (by decide), np 26 (by unfold lnP; omega) (by decide) (by decide) (by decide), np 27 (by unfold lnP; omega) (by decide) (by decide) (by decide)]
          exact a7 i i1 i2
  · -- an order
    rw [if_neg w, if_neg w2, if_pos w3] at h
    rw [show (Rp SC M0 F).1 4 5 = nI no from c45]
    refine ⟨fun c => ?_, fun c => ?_⟩
    · have h10 := (nI_leI (a := 20) (by omega) (by omega)).mp c
      rw [if_pos h10] at h
      exact wp_X8_beginPart ⟨fun c => absurd rfl c, fun _ => c_fail2 rfl a2 (fun F' a b c => k0 (FlB_C a1 h F' a b c))⟩
    · have h10 : ¬ 20 ≤ no := fun e => c (nI_le (a := 20) e (by omega))
      rw [if_neg h10] at h
      refine wp_X8_beginPart ⟨fun _ => c_stepR (k := k + 3) hn hb ht a2 (fun f hf => k1 ?_), fun c => absurd c (by decide)⟩
      have E1 : eq28 F (sF F 2 f) := eq28_s (Or.inl rfl)
      refine c_readOrder (k := k + 2) (no := no) hn hb (gtk_nx ht) (by rw [sF_at]; exact hf) c45 (by omega) ?_
      cases hr : orderT bb n (nxT bb n t) with
      | inl e => rw [hr] at h; exact fun F' a b c => k0 (FlB_C a1 h F' (eq28_trans E1 a) b c)
      | inr r =>
        rw [hr, bnd_r] at h
        intro F1 E2 T1
        have R1 := RC_28 (t' := r.2.2.2.2) hR (eq28_trans E1 E2) T1
        obtain ⟨d1, d2, ⟨e34, e69, e45, e55⟩, d4, d5, d6, d7⟩ := R1
        refine k1 (h _ ⟨eqBd_trans d1 (eqBd_trans (eqBd_w (by unfold prC; omega)) (eqBd_trans (eqBd_w (by unfold prC; omega)) (eqBd_trans (eqBd_w (by unfold prC; omega)) (eqBd_trans (eqBd_w (by unfold prC; omega)) (eqBd_w (by unfold prC; omega)))))), d2, ⟨e34, e69, upd_at (F1 4) 5 (nI (no + 1)), e55⟩, fun i i1 i2 => d4 i i1 i2, fun i i1 i2 => d5 i i1 i2, fun i i1 i2 => ?_, fun i i1 i2 => d7 i i1 i2⟩)
        show upd (F1 20) no (nI r.1) i = upd (D 15) no (nI r.1) i ∧ upd (F1 21) no (nI r.2.1) i = upd (D 16) no (nI r.2.1) i ∧ upd (F1 22) no (nI r.2.2.1) i = upd (D 17) no (nI r.2.2.1) i ∧ upd (F1 23) no (nI r.2.2.2.1) i = upd (D 18) no (nI r.2.2.2.1) i
        by_cases e : i = no
        · rw [e, upd_at, upd_at, upd_at, upd_at, upd_at, upd_at, upd_at, upd_at]; exact ⟨rfl, rfl, rfl, rfl⟩
        · rw [upd_ne _ _ e, upd_ne _ _ e, upd_ne _ _ e, upd_ne _ _ e, upd_ne _ _ e, upd_ne _ _ e, upd_ne _ _ e, upd_ne _ _ e]
          exact d6 i i1 (by have : i < no + 1 := i2; show i < no; omega)
  · -- a house
    rw [if_neg w, if_neg w2, if_neg w3, if_pos w4] at h
    rw [show (Rp SC M0 F).1 5 5 = nI nh from c55]
    refine ⟨fun c => ?_, fun c => ?_⟩
    · have h10 := (nI_leI (a := 20) (by omega) (by omega)).mp c
      rw [if_pos h10] at h
      exact wp_X8_beginPart ⟨fun c => absurd rfl c, fun _ => c_fail2 rfl a2 (fun F' a b c => k0 (FlB_C a1 h F' a b c))⟩
    · have h10 : ¬ 20 ≤ nh := fun e => c (nI_le (a := 20) e (by omega))
      rw [if_neg h10] at h
      refine wp_X8_beginPart ⟨fun _ => c_stepR (k := k + 3) hn hb ht a2 (fun f hf => k1 ?_), fun c => absurd c (by decide)⟩
      have E1 : eq28 F (sF F 2 f) := eq28_s (Or.inl rfl)
      refine c_readHouse (k := k + 2) (nh := nh) hn hb (gtk_nx ht) (by rw [sF_at]; exact hf) c55 (by omega) ?_
      cases hr : houseT bb n (nxT bb n t) with
      | inl e => rw [hr] at h; exact fun F' a b c => k0 (FlB_C a1 h F' (eq28_trans E1 a) b c)
      | inr r =>
        rw [hr, bnd_r] at h
        intro F1 E2 T1
        have R1 := RC_28 (t' := r.2.2.2.2) hR (eq28_trans E1 E2) T1
        obtain ⟨d1, d2, ⟨e34, e69, e45, e55⟩, d4, d5, d6, d7⟩ := R1
        refine k1 (h _ ⟨eqBd_trans d1 (eqBd_trans (eqBd_w (by unfold prC; omega)) (eqBd_trans (eqBd_w (by unfold prC; omega)) (eqBd_trans (eqBd_w (by unfold prC; omega)) (eqBd_trans (eqBd_w (by unfold prC; omega)) (eqBd_w (by unfold prC; omega)))))), d2, ⟨e34, e69, e45, upd_at (F1 5) 5 (nI (nh + 1))⟩, fun i i1 i2 => d4 i i1 i2, fun i i1 i2 => d5 i i1 i2, fun i i1 i2 => d6 i i1 i2, fun i i1 i2 => ?_⟩)
        show upd (F1 24) nh (nI r.1) i = upd (D 19) nh (nI r.1) i ∧ upd (F1 25) nh (nI r.2.1) i = upd (D 20) nh (nI r.2.1) i ∧ upd (F1 26) nh (nI r.2.2.1) i = upd (D 21) nh (nI r.2.2.1) i ∧ upd (F1 27) nh (nI r.2.2.2.1) i = upd (D 22) nh (nI r.2.2.2.1) i
        by_cases e : i = nh
        · rw [e, upd_at, upd_at, upd_at, upd_at, upd_at, upd_at, upd_at, upd_at]; exact ⟨rfl, rfl, rfl, rfl⟩
        · rw [upd_ne _ _ e, upd_ne _ _ e, upd_ne _ _ e, upd_ne _ _ e, upd_ne _ _ e, upd_ne _ _ e, upd_ne _ _ e, upd_ne _ _ e]
          exact d7 i i1 (by have : i < nh + 1 := i2; show i < nh; omega)
  · -- no such word
    rw [if_neg w, if_neg w2, if_neg w3, if_neg w4] at h
    exact c_fail2 rfl a2 (FlB_C a1 h)
end
