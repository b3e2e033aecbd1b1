/-! read: the data that a text tells; the runs of both sides -/
theorem mset_nk {M : Mem} {o j k : Nat} {v : Int32} (h : k ≠ o) : (mset M o j v).1 k = M.1 k := if_neg h
theorem Rp_of {S : Nat → Bool} {M N : Mem} (h2 : N.2 = M.2) (h : ∀ k, S k = false → N.1 k = M.1 k) : N = Rp S M N.1 := by
  refine Prod.ext ?_ h2
  funext k
  show N.1 k = if S k = true then N.1 k else M.1 k
  by_cases hk : S k = true
  · rw [if_pos hk]
  · rw [if_neg hk, h k (by cases hs : S k with | true => exact absurd hs hk | false => rfl)]
theorem part_keep {bb : Nat → Nat} {n : Nat} {B : Nat × Nat × Nat × Nat} {W W' : WS} (hW : WB bb n B W) (h : partW bb n W = .inr W') : eqBd (prM B) W.1 W'.1 := by
  obtain ⟨D, nb, nl, no, nh, t⟩ := W
  obtain ⟨⟨b1, b2⟩, ⟨l1, l2⟩, ⟨o1, o2⟩, ⟨h1', h2'⟩, ht⟩ := hW
  dsimp only at b1 b2 l1 l2 o1 o2 h1' h2' ht
  unfold partW at h
  dsimp only at h
  by_cases w : wdN bb t = cW 0
  · rw [if_pos w] at h
    by_cases c : 10 ≤ nb
    · rw [if_pos c] at h; cases h
    · rw [if_neg c] at h
      cases hr : bookT bb n (nxT bb n t) with
      | inl e => rw [hr] at h; cases h
      | inr r =>
        rw [hr, bnd_r] at h
        injection h with h
        subst h
        exact eqBd_trans (eqBd_w (o := 4) (j := nb) (v := nI r.1) (by unfold prM; omega)) (eqBd_trans (eqBd_w (o := 5) (j := nb) (v := nI r.2.1) (by unfold prM; omega)) (eqBd_w (o := 6) (j := nb) (v := nI r.2.2.1) (by unfold prM; omega)))
  · rw [if_neg w] at h
    by_cases w2 : wdN bb t = cW 1
    · rw [if_pos w2] at h
      by_cases c : 12 ≤ nl
      · rw [if_pos c] at h; cases h
      · rw [if_neg c] at h
        cases hr : lineT bb n nb (nxT bb n t) with
        | inl e => rw [hr] at h; cases h
        | inr r =>
          rw [hr, bnd_r] at h
          injection h with h
          subst h
          have e1 : eqBd (prM B) D (sF (sF (sF (sF (sF (sF D 8 (upd (D 8) nl (nI r.1))) 9 (upd (D 9) nl (nI r.2.1))) 10 (upd (D 10) nl (nI r.2.2.1))) 11 (upd (D 11) nl (nI r.2.2.2.1))) 12 (upd (D 12) nl r.2.2.2.2.2.1)) 13 (upd (D 13) nl (nI (r.2.2.2.2.1.2.2 - r.2.2.2.2.1.2.1)))) := eqBd_trans (eqBd_w (o := 8) (j := nl) (v := nI r.1) (by unfold prM; omega)) (eqBd_trans (eqBd_w (o := 9) (j := nl) (v := nI r.2.1) (by unfold prM; omega)) (eqBd_trans (eqBd_w (o := 10) (j := nl) (v := nI r.2.2.1) (by unfold prM; omega)) (eqBd_trans (eqBd_w (o := 11) (j := nl) (v := nI r.2.2.2.1) (by unfold prM; omega)) (eqBd_trans (eqBd_w (o := 12) (j := nl) (v := r.2.2.2.2.2.1) (by unfold prM; omega)) (eqBd_w (o := 13) (j := nl) (v := nI (r.2.2.2.2.1.2.2 - r.2.2.2.2.1.2.1)) (by unfold prM; omega))))))
          refine eqBd_trans e1 (fun k i a => ?_)
          show lineD bb D nl r k i = _
          unfold lineD
          by_cases hk : k = 14
          · subst hk
            rw [sF_at, nameD, if_neg (by unfold prM at a; omega)]
            rfl
          · rw [sF_ne hk]
    · rw [if_neg w2] at h
      by_cases w3 : wdN bb t = cW 2
      · rw [if_pos w3] at h
        by_cases c : 20 ≤ no
        · rw [if_pos c] at h; cases h
        · rw [if_neg c] at h
          cases hr : orderT bb n (nxT bb n t) with
          | inl e => rw [hr] at h; cases h
          | inr r =>
            rw [hr, bnd_r] at h
            injection h with h
            subst h
            exact eqBd_trans (eqBd_w (o := 15) (j := no) (v := nI r.1) (by unfold prM; omega)) (eqBd_trans (eqBd_w (o := 16) (j := no) (v := nI r.2.1) (by unfold prM; omega)) (eqBd_trans (eqBd_w (o := 17) (j := no) (v := nI r.2.2.1) (by unfold prM; omega)) (eqBd_w (o := 18) (j := no) (v := nI r.2.2.2.1) (by unfold prM; omega))))
      · rw [if_neg w3] at h
        by_cases w4 : wdN bb t = cW 3
        · rw [if_pos w4] at h
          by_cases c : 20 ≤ nh
          · rw [if_pos c] at h; cases h
          · rw [if_neg c] at h
            cases hr : houseT bb n (nxT bb n t) with
            | inl e => rw [hr] at h; cases h
            | inr r =>
              rw [hr, bnd_r] at h
              injection h with h
              subst h
              exact eqBd_trans (eqBd_w (o := 19) (j := nh) (v := nI r.1) (by unfold prM; omega)) (eqBd_trans (eqBd_w (o := 20) (j := nh) (v := nI r.2.1) (by unfold prM; omega)) (eqBd_trans (eqBd_w (o := 21) (j := nh) (v := nI r.2.2.1) (by unfold prM; omega)) (eqBd_w (o := 22) (j := nh) (v := nI r.2.2.2.1) (by unfold prM; omega))))
        · rw [if_neg w4] at h; cases h
theorem rd_keep {bb : Nat → Nat} {n : Nat} {B : Nat × Nat × Nat × Nat} : ∀ fu W W', WB bb n B W → WO B W → rdW bb n fu W = .inr W' → WB bb n B W' ∧ WO B W' ∧ eqBd (prM B) W.1 W'.1 := by
  intro fu
  induction fu with
  | zero =>
    intro W W' h1 h2 h
    rw [rdW] at h
    injection h with h
    subst h
    exact ⟨h1, h2, fun _ _ _ => rfl⟩
  | succ fu ih =>
    intro W W' h1 h2 h
    rw [rdW] at h
    by_cases hk : W.2.2.2.2.2.1 = 0
    · rw [if_pos hk] at h
      injection h with h
      subst h
      exact ⟨h1, h2, fun _ _ _ => rfl⟩
    · rw [if_neg hk] at h
      cases hp : partW bb n W with
      | inl e => rw [hp] at h; cases h
      | inr W1 =>
        rw [hp, bnd_r] at h
        obtain ⟨w1, w2, _⟩ := part_ok h1 h2 hp
        obtain ⟨x1, x2, x3⟩ := ih W1 W' w1 w2 h
        exact ⟨x1, x2, eqBd_trans (part_keep h1 hp) x3⟩
/-- the memory at the start of the model's reading -/
def stM (Mm : Mem) : Mem := mset (mset (mset (mset (mset (mset (mset (mset (mset Mm 0 0 0) 0 31 (Mm.1 0 29)) 0 29 0) 0 32 0) 0 36 0) 0 38 (Mm.1 0 5)) 0 39 (Mm.1 0 10)) 0 40 (Mm.1 0 18)) 0 41 (Mm.1 0 23)
def W0 (bb : Nat → Nat) (n : Nat) (D : Nat → Nat → Int32) (B : Nat × Nat × Nat × Nat) : WS := (D, B.1, B.2.1, B.2.2.1, B.2.2.2, tokF bb n 0)
section
variable {G : GV} {n : Nat} {Mm : Mem} {bb : Nat → Nat} {B : Nat × Nat × Nat × Nat} {D : Nat → Nat → Int32} {q : Int32 → Mem → Prop}
theorem W0_O : WO B (W0 bb n D B) := ⟨fun _ h1 h2 => absurd h1 (Nat.not_le.mpr h2), fun _ h1 h2 => absurd h1 (Nat.not_le.mpr h2), fun _ h1 h2 => absurd h1 (Nat.not_le.mpr h2), fun _ h1 h2 => absurd h1 (Nat.not_le.mpr h2)⟩
theorem W0_B (h : B.1 ≤ 10 ∧ B.2.1 ≤ 12 ∧ B.2.2.1 ≤ 20 ∧ B.2.2.2 ≤ 20) : WB bb n B (W0 bb n D B) := ⟨⟨Nat.le_refl _, h.1⟩, ⟨Nat.le_refl _, h.2.1⟩, ⟨Nat.le_refl _, h.2.2.1⟩, ⟨Nat.le_refl _, h.2.2.2⟩, ⟨0, Nat.zero_le _, rfl⟩⟩
theorem c_64_f {k : Nat} {M0 : Mem} {F : Nat → Nat → Int32} {c p : Nat} (c1 : 1 ≤ c) (c3 : c ≤ 3) (h36 : F 0 36 = nI c) (h37 : F 0 37 = nI p) (h : q ((-1000100) - nI p) (mset (Rp SM M0 F) 0 30 (nI c))) : V shM G mX12_read (k + 6) 64 [(0, .ref (G.2.1 0))] [] (Rp SM M0 F) (Qi q) := by
  have e36 : (Rp SM M0 F).1 0 36 = nI c := h36
  have e37 : (Rp SM M0 F).1 0 37 = nI p := h37
  refine wp_X12_read_64 ?_
  rw [e36, e37]
  exact ⟨fun _ => ⟨fun c5 => absurd ((nI_leI (b := 0) (by omega) (by decide)).mp c5) (by omega), fun _ => h⟩, fun c5 => absurd c5 (nz c1 c3)⟩
theorem c_runM (hn : n ≤ 600) (hb : ∀ i, i < n → bb i < 256 ∧ Mm.1 23 i = nI (bb i)) (m29 : Mm.1 0 29 = nI n) (m5 : Mm.1 0 5 = nI B.1) (m10 : Mm.1 0 10 = nI B.2.1) (m18 : Mm.1 0 18 = nI B.2.2.1) (m23 : Mm.1 0 23 = nI B.2.2.2) (hB : B.1 ≤ 10 ∧ B.2.1 ≤ 12 ∧ B.2.2.1 ≤ 20 ∧ B.2.2.2 ≤ 20) (h : elS (rdW bb n (n + 1) (W0 bb n D B)) (fun c p => ∀ F', eqBd (prM B) (stM Mm).1 F' → q ((-1000100) - nI p) (mset (Rp SM (stM Mm) F') 0 30 (nI c))) (fun W' => ∀ F', RM n (stM Mm) B F' W' → V shM G mX12_read 6 265 [(0, .ref (G.2.1 0)), (1, .int (F' 0 5))] [] (Rp SM (stM Mm) F') (Qi q))) : Ci shM G mX12_read 6 [.ref (G.2.1 0)] Mm q := by
  refine wp_X12_read (k := 0) ?_
  have hb' : ∀ i, i < n → bb i < 256 ∧ (stM Mm).1 23 i = nI (bb i) := hb
  have st : Cv shM G mX12_step (4 + 1) [.ref (G.2.1 0)] (aset (stM Mm) 0 ((stM Mm).1 0)) (fun M1 => V shM G mX12_read (0 + 6) 64 [(0, .ref (G.2.1 0))] [] M1 (Qi q)) := by
    refine c_stepM (e := 0) hn (Nat.zero_le _) hb' m29 rfl (fun f hE hf => ?_)
    have ha : aset (stM Mm) 0 f = Rp SM (stM Mm) (sF (stM Mm).1 0 f) := by
      have := Rp_aset (S := SM) (M := stM Mm) (F := (stM Mm).1) (o := 0) (f := f) rfl
      rw [Rp_self] at this
      exact this
    rw [ha]
    have hbd : eqBd (prM B) (stM Mm).1 (sF (stM Mm).1 0 f) := fun k i a => by
      by_cases hk : k = 0
      · subst hk
        rw [sF_at]
        exact hE i (by unfold prM at a; omega)
      · rw [sF_ne hk]
    refine c_readM (k := 0) (B := B) hn hb' (n + 1) _ (W0 bb n D B) (by show n < (tokF bb n 0).2.1 + (n + 1); omega) (W0_B hB) W0_O ⟨hbd, hf, ?_, ⟨?_, ?_, ?_, ?_⟩, fun i i1 i2 => absurd i1 (Nat.not_le.mpr i2), fun i i1 i2 => absurd i1 (Nat.not_le.mpr i2), fun i i1 i2 => absurd i1 (Nat.not_le.mpr i2), fun i i1 i2 => absurd i1 (Nat.not_le.mpr i2)⟩ ?_
    · rw [sF_at, hE 36 (by omega)]; rfl
    · rw [sF_at, hE 38 (by omega)]; exact m5
    · rw [sF_at, hE 39 (by omega)]; exact m10
    · rw [sF_at, hE 40 (by omega)]; exact m18
    · rw [sF_at, hE 41 (by omega)]; exact m23
    · cases hr : rdW bb n (n + 1) (W0 bb n D B) with
      | inl e =>
        rw [hr] at h
        obtain ⟨c1, c3⟩ := okZ_rd _ _ e hr
        exact fun F' a b c => c_64_f c1 c3 b c (h F' a)
      | inr W' => rw [hr] at h; exact h
  rw [show aset (stM Mm) 0 ((stM Mm).1 0) = stM Mm from aset_self] at st
  exact st
theorem c_265 {k nb : Nat} {M0 : Mem} (hnb : nb ≤ 10) : ∀ m a F, a + m = nb → F 0 38 = nI nb → (∀ F', (∀ k, k ≠ 7 → F' k = F k) → (∀ i, i < a → F' 7 i = F 7 i) → (∀ i, a ≤ i → i < nb → F' 7 i = 0) → q (F 0 39) (mset (mset (mset (mset (Rp TT M0 F') 0 5 (F 0 38)) 0 10 (F 0 39)) 0 18 (F 0 40)) 0 23 (F 0 41))) → V shM G mX12_read (k + 6) 265 [(0, .ref (G.2.1 0)), (1, .int (nI a))] [] (Rp TT M0 F) (Qi q) := by
  intro m
  induction m with
  | zero =>
    intro a F ha h38 h
    obtain rfl : a = nb := by omega
    exact wp_X12_read_265 ⟨fun _ => h F (fun _ _ => rfl) (fun _ _ => rfl) (fun i i1 i2 => by omega), fun c => absurd (show (Rp TT M0 F).1 0 38 ≤ nI a from by rw [show (Rp TT M0 F).1 0 38 = nI a from h38]; exact nI_le (Nat.le_refl _) (by omega)) c⟩
  | succ m ih =>
    intro a F ha h38 h
    refine wp_X12_read_265 ⟨fun c => absurd (show nI nb ≤ nI a from by rw [← h38]; exact c) (nI_ge (by omega) (by omega)), fun _ => ⟨vp_in_nI (by omega) (by decide), ?_⟩⟩
    rw [ix_nI (show a < 2 ^ 31 by omega), nI_1, Rp_mset rfl, show vp_nar .boolean 0 = 0 from rfl]
    refine ih (a + 1) _ (by omega) h38 (fun F' p1 p2 p3 => h F' (fun k hk => by rw [p1 k hk, sF_ne hk]) (fun i hi => by rw [p2 i (by omega), sF_at, upd_ne _ _ (by omega)]) (fun i i1 i2 => ?_))
    by_cases e : i = a
    · rw [e, p2 a (by omega), sF_at, upd_at]
    · exact p3 i (by omega) i2
end
