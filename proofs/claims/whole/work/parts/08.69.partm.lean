/-! read: books, orders, houses of the model -/
def prM (B : Nat × Nat × Nat × Nat) (k i : Nat) : Prop := (k = 0 ∧ (i < 31 ∨ 41 < i)) ∨ ((4 ≤ k ∧ k ≤ 6) ∧ i < B.1) ∨ ((8 ≤ k ∧ k ≤ 13) ∧ i < B.2.1) ∨ (k = 14 ∧ i < 8 * B.2.1) ∨ ((15 ≤ k ∧ k ≤ 18) ∧ i < B.2.2.1) ∨ ((19 ≤ k ∧ k ≤ 22) ∧ i < B.2.2.2)
theorem eqBd_0 {B : Nat × Nat × Nat × Nat} {F F' : Nat → Nat → Int32} (h : eq0 F F') : eqBd (prM B) F F' := fun k i a => by
  by_cases hk : k = 0
  · subst hk; exact h.2 i (by unfold prM at a; omega)
  · rw [h.1 k hk]
def tailQ (G : GV) (k : Nat) (q : Mem → Prop) (M4 : Mem) : Prop := (((M4.1 0 36) ≠ 0 → q M4) ∧ ((M4.1 0 36) = 0 → (((M4.1 0 33) ≠ 4 → Cv shM G mX12_need (k + 5) [.ref (G.2.1 0), .int 0] M4 (fun M5 => q M5)) ∧ ((M4.1 0 33) = 4 → Cv shM G mX12_need (k + 5) [.ref (G.2.1 0), .int 1] M4 (fun M6 => q M6)))))
def FlP (M0 : Mem) (B : Nat × Nat × Nat × Nat) (q : Mem → Prop) (c p : Nat) : Prop := ∀ F', eqBd (prM B) M0.1 F' → F' 0 36 = nI c → F' 0 37 = nI p → q (Rp SM M0 F')
theorem i_N : (-1000000 : Int32).toInt = -1000000 := by decide
section
variable {G : GV} {k n : Nat} {M0 : Mem} {bb : Nat → Nat} {F : Nat → Nat → Int32} {t : Tok} {B : Nat × Nat × Nat × Nat} {q : Mem → Prop}
theorem c_tail (hn : n ≤ 600) (hb : ∀ i, i < n → bb i < 256 ∧ M0.1 23 i = nI (bb i)) (ht : gtk bb n t) (hT : TkM n (F 0) t) (h36 : F 0 36 = 0) (hbk : eqBd (prM B) M0.1 F) (h : elS (sgT t) (FlP M0 B q) (fun _ => ∀ F', eq0 F F' → TkM n (F' 0) (nxT bb n t) → F' 0 36 = 0 → q (Rp SM M0 F'))) : tailQ G k q (Rp SM M0 F) := by
  have h5 := gtk_5 ht
  have f33 : (Rp SM M0 F).1 0 33 = nI (mkT t.1) := hT.2.2.1
  refine ⟨fun c => absurd h36 c, fun _ => ⟨fun c => ?_, fun c => ?_⟩⟩
  · have hk : ¬ t.1 = 3 := fun e => c (by rw [f33]; exact (mk_4 h5).mpr e)
    rw [sgT, if_neg hk] at h
    exact c_need0 (k := k + 3) (t := t) h36 hT.2.2.2.1 (fun F' a b c => h F' (eqBd_trans hbk (eqBd_0 a)) b c)
  · rw [f33] at c
    rw [sgT, if_pos ((mk_4 h5).mp c)] at h
    exact c_need1 (k := k + 3) hn hb ht hT h36 h
theorem c_tail_f {c p : Nat} (c1 : 1 ≤ c) (c3 : c ≤ 3) (h36 : F 0 36 = nI c) (h37 : F 0 37 = nI p) (hbk : eqBd (prM B) M0.1 F) (h : FlP M0 B q c p) : tailQ G k q (Rp SM M0 F) := ⟨fun _ => h F hbk h36 h37, fun c5 => absurd (h36.symm.trans c5) (nz c1 c3)⟩
theorem c_bookM {nb : Nat} (hn : n ≤ 600) (hb : ∀ i, i < n → bb i < 256 ∧ M0.1 23 i = nI (bb i)) (ht : gtk bb n t) (hT : TkM n (F 0) t) (h36 : F 0 36 = 0) (h38 : F 0 38 = nI nb) (hnb : nb < 10) (hB : B.1 ≤ nb) (hbk : eqBd (prM B) M0.1 F) (h : elS (bookT bb n t) (FlP M0 B q) (fun r => ∀ F1, eqBd (prM B) M0.1 F1 → TkM n (F1 0) r.2.2.2 → F1 0 36 = 0 → F1 0 38 = nI (nb + 1) → (∀ j, 38 < j → F1 0 j = F 0 j) → F1 4 = upd (F 4) nb (nI r.1) → F1 5 = upd (F 5) nb (nI r.2.1) → F1 6 = upd (F 6) nb (nI r.2.2.1) → (∀ k, k ≠ 0 → k ≠ 4 → k ≠ 5 → k ≠ 6 → F1 k = F k) → q (Rp SM M0 F1))) : Cv shM G mX12_readPart (k + 5) [.ref (G.2.1 0), .long 1651470187] (Rp SM M0 F) (tailQ G k q) := by
  have vb : vp_in (nI nb) 10 := vp_in_nI hnb (by decide)
  have xb : ix (nI nb) = nb := ix_nI (by omega)
  -- behind a fault nothing but places beyond the counts is written
  have f3 : ∀ (H : Nat → Nat → Int32) (x : Int32) {c p : Nat}, 1 ≤ c → c ≤ 3 → H 0 36 = nI c → H 0 37 = nI p → H 0 38 = nI nb → eqBd (prM B) M0.1 H → FlP M0 B q c p → tailQ G k q (mset (mset (Rp SM M0 H) 6 nb x) 0 38 (nI nb + 1)) := by
    intro H x c p c1 c3 e36 e37 e38 hk hf
    rw [Rp_mset rfl, Rp_mset rfl]
    exact c_tail_f c1 c3 (by rw [sF_at, upd_ne _ _ (by decide), sF_ne (by decide)]; exact e36) (by rw [sF_at, upd_ne _ _ (by decide), sF_ne (by decide)]; exact e37) (eqBd_trans hk (eqBd_trans (eqBd_w (by unfold prM; omega)) (eqBd_w (by unfold prM; omega)))) hf
  have f2 : ∀ (H : Nat → Nat → Int32) (x : Int32) {c p : Nat}, 1 ≤ c → c ≤ 3 → H 0 36 = nI c → H 0 37 = nI p → H 0 38 = nI nb → eqBd (prM B) M0.1 H → FlP M0 B q c p → Ci shM G mX12_numberIn (k + 4) [.ref (G.2.1 0), .int 1, .int 99, .int (-1000000)] (mset (Rp SM M0 H) 5 nb x) (fun x12 M12 => vp_in ((Rp SM M0 H).1 0 38) 10 ∧ tailQ G k q (mset (mset M12 6 (ix ((Rp SM M0 H).1 0 38)) x12) 0 38 ((M12.1 0 38) + 1))) := by
    intro H x c p c1 c3 e36 e37 e38 hk hf
    rw [Rp_mset rfl, show (Rp SM M0 H).1 0 38 = nI nb from e38, xb]
    refine c_numF (k := k + 1) (c := c) e36 c1 c3 ⟨vb, ?_⟩
    rw [show (Rp SM M0 (sF H 5 (upd (H 5) nb x))).1 0 38 = nI nb from e38]
    exact f3 (sF H 5 (upd (H 5) nb x)) 0 c1 c3 e36 e37 e38 (eqBd_trans hk (eqBd_w (by unfold prM; omega))) hf
  refine wp_X12_readPart ⟨fun c => absurd rfl c, fun _ => c_num (k := k + 1) hn hb ht hT h36 ?_⟩
  rw [i_1, i_9998, i_N, show (Rp SM M0 F).1 0 38 = nI nb from h38, xb]
  cases h1 : numT bb 1 9998 (-1000000) t with
  | inl e =>
    rw [bookT, h1] at h
    obtain ⟨c1, c3⟩ := num_c h1
    intro x F1 E1 e36 e37
    have e38 : F1 0 38 = nI nb := by rw [E1.2 38 (by omega)]; exact h38
    have hk : eqBd (prM B) M0.1 (sF F1 4 (upd (F1 4) nb x)) := eqBd_trans hbk (eqBd_trans (eqBd_0 E1) (eqBd_w (by unfold prM; omega)))
    rw [show (Rp SM M0 F1).1 0 38 = nI nb from e38, xb, Rp_mset rfl]
    exact ⟨vb, vb, fun _ => ⟨vb, c_numF (k := k + 1) e36 c1 c3 ⟨vb, f2 (sF F1 4 (upd (F1 4) nb x)) 0 c1 c3 e36 e37 e38 hk h⟩⟩, fun _ => c_numF (k := k + 1) e36 c1 c3 ⟨vb, f2 (sF F1 4 (upd (F1 4) nb x)) 0 c1 c3 e36 e37 e38 hk h⟩⟩
  | inr y =>
    rw [bookT, h1, bnd_r] at h
    obtain ⟨_, _, y1, y2, _⟩ := num_ok h1
    intro F1 E1 T1 g36
    have e38 : F1 0 38 = nI nb := by rw [E1.2 38 (by omega)]; exact h38
    rw [show (Rp SM M0 F1).1 0 38 = nI nb from e38, xb, Rp_mset rfl]
    obtain ⟨H1, hH1⟩ : ∃ H1, H1 = sF F1 4 (upd (F1 4) nb (nI y)) := ⟨_, rfl⟩
    rw [← hH1]
    have k1' : eqBd (prM B) M0.1 H1 := by rw [hH1]; exact eqBd_trans hbk (eqBd_trans (eqBd_0 E1) (eqBd_w (by unfold prM; omega)))
    have e4 : (Rp SM M0 H1).1 4 nb = nI y := by rw [hH1]; exact upd_at _ _ _
    have T1' : TkM n (H1 0) (nxT bb n t) := by rw [hH1]; exact T1
    have g36' : H1 0 36 = 0 := by rw [hH1]; exact g36
    have h38' : H1 0 38 = nI nb := by rw [hH1]; exact e38
    rw [e4]
    -- the lag and what is behind it, with the bound that the year gives
    have rest : ∀ hi : Int32, hi.toInt = lagH y → Ci shM G mX12_numberIn (k + 4) [.ref (G.2.1 0), .int 0, .int hi, .int (-1000000)] (Rp SM M0 H1) (fun x11 M11 => vp_in (nI nb) 10 ∧ Ci shM G mX12_numberIn (k + 4) [.ref (G.2.1 0), .int 1, .int 99, .int (-1000000)] (mset M11 5 nb x11) (fun x12 M12 => vp_in (M11.1 0 38) 10 ∧ tailQ G k q (mset (mset M12 6 (ix (M11.1 0 38)) x12) 0 38 ((M12.1 0 38) + 1)))) := by
      intro hi hhi
      refine c_num (k := k + 1) hn hb (gtk_nx ht) T1' g36' ?_
      rw [i_0, hhi, i_N]
      cases h2 : numT bb 0 (lagH y) (-1000000) (nxT bb n t) with
      | inl e =>
        rw [h2] at h
        obtain ⟨c1, c3⟩ := num_c h2
        intro x F2 E2 e36 e37
        exact ⟨vb, f2 F2 x c1 c3 e36 e37 (by rw [E2.2 38 (by omega)]; exact h38') (eqBd_trans k1' (eqBd_0 E2)) h⟩
      | inr g =>
        rw [h2, bnd_r] at h
        intro F2 E2 T2 j36
        have l38 : F2 0 38 = nI nb := by rw [E2.2 38 (by omega)]; exact h38'
        refine ⟨vb, ?_⟩
        rw [show (Rp SM M0 F2).1 0 38 = nI nb from l38, xb, Rp_mset rfl]
        have k2' : eqBd (prM B) M0.1 (sF F2 5 (upd (F2 5) nb (nI g))) := eqBd_trans k1' (eqBd_trans (eqBd_0 E2) (eqBd_w (by unfold prM; omega)))
        refine c_num (k := k + 1) (F := sF F2 5 (upd (F2 5) nb (nI g))) hn hb (gtk_nx (gtk_nx ht)) T2 j36 ?_
        rw [i_1, i_99, i_N]
        cases h3 : numT bb 1 99 (-1000000) (nxT bb n (nxT bb n t)) with
        | inl e =>
          rw [h3] at h
          obtain ⟨c1, c3⟩ := num_c h3
          intro x F3 E3 e36 e37
          have m38 : F3 0 38 = nI nb := by rw [E3.2 38 (by omega)]; exact l38
          rw [show (Rp SM M0 F3).1 0 38 = nI nb from m38]
          exact ⟨vb, f3 F3 x c1 c3 e36 e37 m38 (eqBd_trans k2' (eqBd_0 E3)) h⟩
        | inr p =>
          rw [h3, bnd_r] at h
          intro F3 E3 T3 m36
          have m38 : F3 0 38 = nI nb := by rw [E3.2 38 (by omega)]; exact l38
          refine ⟨vb, ?_⟩
          rw [show (Rp SM M0 F3).1 0 38 = nI nb from m38, nI_1, Rp_mset rfl, Rp_mset rfl]
          obtain ⟨H3, hH3⟩ : ∃ H3, H3 = sF (sF F3 6 (upd (F3 6) nb (nI p))) 0 (upd (sF F3 6 (upd (F3 6) nb (nI p)) 0) 38 (nI (nb + 1))) := ⟨_, rfl⟩
          rw [← hH3]
          have k3' : eqBd (prM B) M0.1 H3 := by rw [hH3]; exact eqBd_trans k2' (eqBd_trans (eqBd_0 E3) (eqBd_trans (eqBd_w (by unfold prM; omega)) (eqBd_w (by unfold prM; omega))))
          have z0 : ∀ j, j ≠ 38 → H3 0 j = F3 0 j := fun j hj => by rw [hH3]; exact upd_ne _ _ hj
          have T3' : TkM n (H3 0) (nxT bb n (nxT bb n (nxT bb n t))) := by
            unfold TkM
            rw [z0 31 (by decide), z0 32 (by decide), z0 33 (by decide), z0 34 (by decide), z0 35 (by decide)]; exact T3
          refine c_tail hn hb (gtk_nx (gtk_nx (gtk_nx ht))) T3' (by rw [z0 36 (by decide)]; exact m36) k3' ?_
          cases h4 : sgT (nxT bb n (nxT bb n (nxT bb n t))) with
          | inl e => rw [h4] at h; exact h
          | inr u =>
            rw [h4] at h
            intro F4 E4 T4 n36
            have P : ∀ k, k ≠ 0 → F4 k = H3 k := E4.1
            refine h F4 (eqBd_trans k3' (eqBd_0 E4)) T4 n36 ?_ (fun j hj => ?_) ?_ ?_ ?_ (fun k a b c d => ?_)
            · rw [E4.2 38 (by omega), hH3, sF_at, upd_at]
            · rw [E4.2 j (by omega), z0 j (by omega), E3.2 j (by omega)]
              show F2 0 j = F 0 j
              rw [E2.2 j (by omega), hH1]
              show F1 0 j = F 0 j
              exact E1.2 j (by omega)
            · rw [P 4 (by decide), hH3]
              show F3 4 = _
              rw [E3.1 4 (by decide)]
              show F2 4 = _
              rw [E2.1 4 (by decide), hH1]
              show upd (F1 4) nb (nI y) = _
              rw [E1.1 4 (by decide)]
            · rw [P 5 (by decide), hH3]
              show F3 5 = _
              rw [E3.1 5 (by decide)]
              show upd (F2 5) nb (nI g) = _
              rw [E2.1 5 (by decide), hH1]
              show upd (F1 5) nb (nI g) = _
              rw [E1.1 5 (by decide)]
            · rw [P 6 (by decide), hH3]
              show upd (F3 6) nb (nI p) = _
              rw [E3.1 6 (by decide)]
              show upd (F2 6) nb (nI p) = _
              rw [E2.1 6 (by decide), hH1]
              show upd (F1 6) nb (nI p) = _
              rw [E1.1 6 (by decide)]
            · rw [P k a, hH3, sF_ne a, sF_ne d, E3.1 k a, sF_ne c, E2.1 k a, hH1, sF_ne b, E1.1 k a]
    refine ⟨vb, vb, fun c => ⟨vb, rest _ ?_⟩, fun c => rest _ ?_⟩
    · have h9 := (nI_leI (b := 9) (by omega) (by decide)).mp c
      rw [nI_s1 y (by omega), nI_toInt (by omega), lagH, if_pos (by omega)]; omega
    · have h9 : ¬ y ≤ 9 := fun e => c (nI_le (b := 9) e (by decide))
      rw [lagH, if_neg (by omega)]; decide
theorem c_orderM {nn : Nat} (hn : n ≤ 600) (hb : ∀ i, i < n → bb i < 256 ∧ M0.1 23 i = nI (bb i)) (ht : gtk bb n t) (hT : TkM n (F 0) t) (h36 : F 0 36 = 0) (hcn : F 0 40 = nI nn) (hnn : nn < 20) (hB : B.2.2.1 ≤ nn) (hbk : eqBd (prM B) M0.1 F) (h : elS (orderT bb n t) (FlP M0 B q) (fun r => ∀ F1, eqBd (prM B) M0.1 F1 → TkM n (F1 0) r.2.2.2.2 → F1 0 36 = 0 → F1 0 40 = nI (nn + 1) → (∀ j, 37 < j → j ≠ 40 → F1 0 j = F 0 j) → F1 15 = upd (F 15) nn (nI r.1) → F1 16 = upd (F 16) nn (nI r.2.1) → F1 17 = upd (F 17) nn (nI r.2.2.1) → F1 18 = upd (F 18) nn (nI r.2.2.2.1) → (∀ k, k ≠ 0 → k ≠ 15 → k ≠ 16 → k ≠ 17 → k ≠ 18 → F1 k = F k) → q (Rp SM M0 F1))) : Cv shM G mX12_readPart (k + 5) [.ref (G.2.1 0), .long 478660552050] (Rp SM M0 F) (tailQ G k q) := by
  have vb : vp_in (nI nn) 20 := vp_in_nI hnn (by decide)
  have xb : ix (nI nn) = nn := ix_nI (by omega)
  have f4 : ∀ (H : Nat → Nat → Int32) (x : Int32) {c p : Nat}, 1 ≤ c → c ≤ 3 → H 0 36 = nI c → H 0 37 = nI p → H 0 40 = nI nn → eqBd (prM B) M0.1 H → FlP M0 B q c p → tailQ G k q (mset (mset (Rp SM M0 H) 18 nn x) 0 40 (nI nn + 1)) := by
    intro H x c p c1 c3 e36 e37 e38 hk hf
    rw [Rp_mset rfl, Rp_mset rfl]
    exact c_tail_f c1 c3 (by rw [sF_at, upd_ne _ _ (by decide), sF_ne (by decide)]; exact e36) (by rw [sF_at, upd_ne _ _ (by decide), sF_ne (by decide)]; exact e37) (eqBd_trans hk (eqBd_trans (eqBd_w (by unfold prM; omega)) (eqBd_w (by unfold prM; omega)))) hf
  have f3 : ∀ (H : Nat → Nat → Int32) (x lo hi no : Int32) {c p : Nat}, 1 ≤ c → c ≤ 3 → H 0 36 = nI c → H 0 37 = nI p → H 0 40 = nI nn → eqBd (prM B) M0.1 H → FlP M0 B q c p → Ci shM G mX12_numberIn (k + 4) [.ref (G.2.1 0), .int lo, .int hi, .int no] (mset (Rp SM M0 H) 17 nn x) (fun x8 M8 => vp_in (nI nn) 20 ∧ tailQ G k q (mset (mset M8 18 nn x8) 0 40 ((M8.1 0 40) + 1))) := by
    intro H x lo hi no c p c1 c3 e36 e37 e38 hk hf
    rw [Rp_mset rfl]
    refine c_numF (k := k + 1) (c := c) e36 c1 c3 ⟨vb, ?_⟩
    rw [show (Rp SM M0 (sF H 17 (upd (H 17) nn x))).1 0 40 = nI nn from e38]
    exact f4 (sF H 17 (upd (H 17) nn x)) 0 c1 c3 e36 e37 e38 (eqBd_trans hk (eqBd_w (by unfold prM; omega))) hf
  have f2 : ∀ (H : Nat → Nat → Int32) (x : Int32) {c p : Nat}, 1 ≤ c → c ≤ 3 → H 0 36 = nI c → H 0 37 = nI p → H 0 40 = nI nn → eqBd (prM B) M0.1 H → FlP M0 B q c p → Ci shM G mX12_numberIn (k + 4) [.ref (G.2.1 0), .int 1, .int 99, .int (-1000000)] (mset (Rp SM M0 H) 16 nn x) (fun x7 M7 => vp_in (nI nn) 20 ∧ vp_in (M7.1 0 40) 20 ∧ Ci shM G mX12_numberIn (k + 4) [.ref (G.2.1 0), .int 1, .int 99, .int ((mset M7 17 nn x7).1 17 (ix (M7.1 0 40)))] (mset M7 17 nn x7) (fun x8 M8 => vp_in (M7.1 0 40) 20 ∧ tailQ G k q (mset (mset M8 18 (ix (M7.1 0 40)) x8) 0 40 ((M8.1 0 40) + 1)))) := by
    intro H x c p c1 c3 e36 e37 e38 hk hf
    rw [Rp_mset rfl]
    refine c_numF (k := k + 1) (c := c) e36 c1 c3 ⟨vb, ?_⟩
    rw [show (Rp SM M0 (sF H 16 (upd (H 16) nn x))).1 0 40 = nI nn from e38, xb]
    exact ⟨vb, f3 (sF H 16 (upd (H 16) nn x)) 0 _ _ _ c1 c3 e36 e37 e38 (eqBd_trans hk (eqBd_w (by unfold prM; omega))) hf⟩
  have f1 : ∀ (H : Nat → Nat → Int32) (x : Int32) {c p : Nat}, 1 ≤ c → c ≤ 3 → H 0 36 = nI c → H 0 37 = nI p → H 0 40 = nI nn → eqBd (prM B) M0.1 H → FlP M0 B q c p → Ci shM G mX12_numberIn (k + 4) [.ref (G.2.1 0), .int 0, .int 3, .int (-1000000)] (mset (Rp SM M0 H) 15 nn x) (fun x6 M6 => vp_in (nI nn) 20 ∧ Ci shM G mX12_numberIn (k + 4) [.ref (G.2.1 0), .int 1, .int 99, .int (-1000000)] (mset M6 16 nn x6) (fun x7 M7 => vp_in (M6.1 0 40) 20 ∧ vp_in (M7.1 0 40) 20 ∧ Ci shM G mX12_numberIn (k + 4) [.ref (G.2.1 0), .int 1, .int 99, .int ((mset M7 17 (ix (M6.1 0 40)) x7).1 17 (ix (M7.1 0 40)))] (mset M7 17 (ix (M6.1 0 40)) x7) (fun x8 M8 => vp_in (M7.1 0 40) 20 ∧ tailQ G k q (mset (mset M8 18 (ix (M7.1 0 40)) x8) 0 40 ((M8.1 0 40) + 1))))) := by
    intro H x c p c1 c3 e36 e37 e38 hk hf
    rw [Rp_mset rfl]
    refine c_numF (k := k + 1) (c := c) e36 c1 c3 ⟨vb, ?_⟩
    rw [show (Rp SM M0 (sF H 15 (upd (H 15) nn x))).1 0 40 = nI nn from e38, xb]
    exact f2 (sF H 15 (upd (H 15) nn x)) 0 c1 c3 e36 e37 e38 (eqBd_trans hk (eqBd_w (by unfold prM; omega))) hf
  refine wp_X12_readPart ⟨fun _ => ⟨fun _ => ⟨fun c => absurd rfl c, fun _ => c_num (k := k + 1) hn hb ht hT h36 ?_⟩, fun c => absurd c (by decide)⟩, fun c => absurd c (by decide)⟩
  rw [i_1, i_9998, i_N, show (Rp SM M0 F).1 0 40 = nI nn from hcn, xb]
  cases h1 : numT bb 1 9998 (-1000000) t with
  | inl e =>
    rw [orderT, h1] at h
    obtain ⟨c1, c3⟩ := num_c h1
    intro x F1 E1 e36 e37
    have e38 : F1 0 40 = nI nn := by rw [E1.2 40 (by omega)]; exact hcn
    rw [show (Rp SM M0 F1).1 0 40 = nI nn from e38, xb]
    exact ⟨vb, f1 F1 x c1 c3 e36 e37 e38 (eqBd_trans hbk (eqBd_0 E1)) h⟩
  | inr y =>
    rw [orderT, h1, bnd_r] at h
    obtain ⟨_, _, y1, y2, _⟩ := num_ok h1
    intro F1 E1 T1 g36
    have e38 : F1 0 40 = nI nn := by rw [E1.2 40 (by omega)]; exact hcn
    rw [show (Rp SM M0 F1).1 0 40 = nI nn from e38, xb, Rp_mset rfl]
    have k1' : eqBd (prM B) M0.1 (sF F1 15 (upd (F1 15) nn (nI y))) := eqBd_trans hbk (eqBd_trans (eqBd_0 E1) (eqBd_w (by unfold prM; omega)))
    refine ⟨vb, c_num (k := k + 1) (F := sF F1 15 (upd (F1 15) nn (nI y))) hn hb (gtk_nx ht) T1 g36 ?_⟩
    rw [i_0, i_3, i_N]
    cases h2 : numT bb 0 3 (-1000000) (nxT bb n t) with
    | inl e =>
      rw [h2] at h
      obtain ⟨c1, c3⟩ := num_c h2
      intro x F2 E2 e36 e37
      have l38 : F2 0 40 = nI nn := by rw [E2.2 40 (by omega)]; exact e38
      rw [show (Rp SM M0 F2).1 0 40 = nI nn from l38, xb]
      exact ⟨vb, f2 F2 x c1 c3 e36 e37 l38 (eqBd_trans k1' (eqBd_0 E2)) h⟩
    | inr g =>
      rw [h2, bnd_r] at h
      intro F2 E2 T2 j36
      have l38 : F2 0 40 = nI nn := by rw [E2.2 40 (by omega)]; exact e38
      rw [show (Rp SM M0 F2).1 0 40 = nI nn from l38, xb, Rp_mset rfl]
      have k2' : eqBd (prM B) M0.1 (sF F2 16 (upd (F2 16) nn (nI g))) := eqBd_trans k1' (eqBd_trans (eqBd_0 E2) (eqBd_w (by unfold prM; omega)))
      refine ⟨vb, c_num (k := k + 1) (F := sF F2 16 (upd (F2 16) nn (nI g))) hn hb (gtk_nx (gtk_nx ht)) T2 j36 ?_⟩
      rw [i_1, i_99, i_N]
      cases h3 : numT bb 1 99 (-1000000) (nxT bb n (nxT bb n t)) with
      | inl e =>
        rw [h3] at h
        obtain ⟨c1, c3⟩ := num_c h3
        intro x F3 E3 e36 e37
        have m38 : F3 0 40 = nI nn := by rw [E3.2 40 (by omega)]; exact l38
        rw [show (Rp SM M0 F3).1 0 40 = nI nn from m38, xb]
        exact ⟨vb, vb, f3 F3 x _ _ _ c1 c3 e36 e37 m38 (eqBd_trans k2' (eqBd_0 E3)) h⟩
      | inr p =>
        rw [h3, bnd_r] at h
        obtain ⟨_, _, o1, o2, _⟩ := num_ok h3
        intro F3 E3 T3 m36
        have m38 : F3 0 40 = nI nn := by rw [E3.2 40 (by omega)]; exact l38
        rw [show (Rp SM M0 F3).1 0 40 = nI nn from m38, xb, Rp_mset rfl, show (Rp SM M0 (sF F3 17 (upd (F3 17) nn (nI p)))).1 17 nn = nI p from upd_at (F3 17) nn (nI p)]
        have k3' : eqBd (prM B) M0.1 (sF F3 17 (upd (F3 17) nn (nI p))) := eqBd_trans k2' (eqBd_trans (eqBd_0 E3) (eqBd_w (by unfold prM; omega)))
        refine ⟨vb, vb, c_num (k := k + 1) (F := sF F3 17 (upd (F3 17) nn (nI p))) hn hb (gtk_nx (gtk_nx (gtk_nx ht))) T3 m36 ?_⟩
        rw [i_1, i_99, nI_toInt (show p < 2 ^ 31 by omega)]
        cases h4 : numT bb 1 99 (p : Int) (nxT bb n (nxT bb n (nxT bb n t))) with
        | inl e =>
          rw [h4] at h
          obtain ⟨c1, c3⟩ := num_c h4
          intro x F4 E4 e36 e37
          have n38 : F4 0 40 = nI nn := by rw [E4.2 40 (by omega)]; exact m38
          rw [show (Rp SM M0 F4).1 0 40 = nI nn from n38]
          exact ⟨vb, f4 F4 x c1 c3 e36 e37 n38 (eqBd_trans k3' (eqBd_0 E4)) h⟩
        | inr w =>
          rw [h4, bnd_r] at h
          intro F4 E4 T4 n36
          have n38 : F4 0 40 = nI nn := by rw [E4.2 40 (by omega)]; exact m38
          refine ⟨vb, ?_⟩
          rw [show (Rp SM M0 F4).1 0 40 = nI nn from n38, nI_1, Rp_mset rfl, Rp_mset rfl]
          obtain ⟨H4, hH4⟩ : ∃ H4, H4 = sF (sF F4 18 (upd (F4 18) nn (nI w))) 0 (upd (sF F4 18 (upd (F4 18) nn (nI w)) 0) 40 (nI (nn + 1))) := ⟨_, rfl⟩
          rw [← hH4]
          have k4' : eqBd (prM B) M0.1 H4 := by rw [hH4]; exact eqBd_trans k3' (eqBd_trans (eqBd_0 E4) (eqBd_trans (eqBd_w (by unfold prM; omega)) (eqBd_w (by unfold prM; omega))))
          have z0 : ∀ j, j ≠ 40 → H4 0 j = F4 0 j := fun j hj => by rw [hH4]; exact upd_ne _ _ hj
          have T4' : TkM n (H4 0) (nxT bb n (nxT bb n (nxT bb n (nxT bb n t)))) := by
            unfold TkM
            rw [z0 31 (by decide), z0 32 (by decide), z0 33 (by decide), z0 34 (by decide), z0 35 (by decide)]; exact T4
          refine c_tail hn hb (gtk_nx (gtk_nx (gtk_nx (gtk_nx ht)))) T4' (by rw [z0 36 (by decide)]; exact n36) k4' ?_
          cases h5 : sgT (nxT bb n (nxT bb n (nxT bb n (nxT bb n t)))) with
          | inl e => rw [h5] at h; exact h
          | inr u =>
            rw [h5] at h
            intro F5 E5 T5 r36
            refine h F5 (eqBd_trans k4' (eqBd_0 E5)) T5 r36 ?_ (fun j hj hj2 => ?_) ?_ ?_ ?_ ?_ (fun k a b c d e => ?_)
            · rw [E5.2 40 (by omega), hH4, sF_at, upd_at]
            · rw [E5.2 j (by omega), z0 j hj2, E4.2 j (by omega), sF_ne (by decide), E3.2 j (by omega), sF_ne (by decide), E2.2 j (by omega), sF_ne (by decide), E1.2 j (by omega)]
            · rw [E5.1 15 (by decide), hH4, sF_ne (by decide), sF_ne (by decide), E4.1 15 (by decide), sF_ne (by decide), E3.1 15 (by decide), sF_ne (by decide), E2.1 15 (by decide), sF_at, E1.1 15 (by decide)]
            · rw [E5.1 16 (by decide), hH4, sF_ne (by decide), sF_ne (by decide), E4.1 16 (by decide), sF_ne (by decide), E3.1 16 (by decide), sF_at, E2.1 16 (by decide), sF_ne (by decide), E1.1 16 (by decide)]
            · rw [E5.1 17 (by decide), hH4, sF_ne (by decide), sF_ne (by decide), E4.1 17 (by decide), sF_at, E3.1 17 (by decide), sF_ne (by decide), E2.1 17 (by decide), sF_ne (by decide), E1.1 17 (by decide)]
            · rw [E5.1 18 (by decide), hH4, sF_ne (by decide), sF_at, E4.1 18 (by decide), sF_ne (by decide), E3.1 18 (by decide), sF_ne (by decide), E2.1 18 (by decide), sF_ne (by decide), E1.1 18 (by decide)]
            · rw [E5.1 k a, hH4, sF_ne a, sF_ne e, E4.1 k a, sF_ne d, E3.1 k a, sF_ne c, E2.1 k a, sF_ne b, E1.1 k a]
theorem c_houseM {nn : Nat} (hn : n ≤ 600) (hb : ∀ i, i < n → bb i < 256 ∧ M0.1 23 i = nI (bb i)) (ht : gtk bb n t) (hT : TkM n (F 0) t) (h36 : F 0 36 = 0) (hcn : F 0 41 = nI nn) (hnn : nn < 20) (hB : B.2.2.2 ≤ nn) (hbk : eqBd (prM B) M0.1 F) (h : elS (houseT bb n t) (FlP M0 B q) (fun r => ∀ F1, eqBd (prM B) M0.1 F1 → TkM n (F1 0) r.2.2.2.2 → F1 0 36 = 0 → F1 0 41 = nI (nn + 1) → (∀ j, 37 < j → j ≠ 41 → F1 0 j = F 0 j) → F1 19 = upd (F 19) nn (nI r.1) → F1 20 = upd (F 20) nn (nI r.2.1) → F1 21 = upd (F 21) nn (nI r.2.2.1) → F1 22 = upd (F 22) nn (nI r.2.2.2.1) → (∀ k, k ≠ 0 → k ≠ 19 → k ≠ 20 → k ≠ 21 → k ≠ 22 → F1 k = F k) → q (Rp SM M0 F1))) : Cv shM G mX12_readPart (k + 5) [.ref (G.2.1 0), .long 448546567013] (Rp SM M0 F) (tailQ G k q) := by
  have vb : vp_in (nI nn) 20 := vp_in_nI hnn (by decide)
  have xb : ix (nI nn) = nn := ix_nI (by omega)
  have f4 : ∀ (H : Nat → Nat → Int32) (x : Int32) {c p : Nat}, 1 ≤ c → c ≤ 3 → H 0 36 = nI c → H 0 37 = nI p → H 0 41 = nI nn → eqBd (prM B) M0.1 H → FlP M0 B q c p → tailQ G k q (mset (mset (Rp SM M0 H) 22 nn x) 0 41 (nI nn + 1)) := by
    intro H x c p c1 c3 e36 e37 e38 hk hf
    rw [Rp_mset rfl, Rp_mset rfl]
    exact c_tail_f c1 c3 (by rw [sF_at, upd_ne _ _ (by decide), sF_ne (by decide)]; exact e36) (by rw [sF_at, upd_ne _ _ (by decide), sF_ne (by decide)]; exact e37) (eqBd_trans hk (eqBd_trans (eqBd_w (by unfold prM; omega)) (eqBd_w (by unfold prM; omega)))) hf
  have f3 : ∀ (H : Nat → Nat → Int32) (x lo hi no : Int32) {c p : Nat}, 1 ≤ c → c ≤ 3 → H 0 36 = nI c → H 0 37 = nI p → H 0 41 = nI nn → eqBd (prM B) M0.1 H → FlP M0 B q c p → Ci shM G mX12_numberIn (k + 4) [.ref (G.2.1 0), .int lo, .int hi, .int no] (mset (Rp SM M0 H) 21 nn x) (fun x8 M8 => vp_in (nI nn) 20 ∧ tailQ G k q (mset (mset M8 22 nn x8) 0 41 ((M8.1 0 41) + 1))) := by
    intro H x lo hi no c p c1 c3 e36 e37 e38 hk hf
    rw [Rp_mset rfl]
    refine c_numF (k := k + 1) (c := c) e36 c1 c3 ⟨vb, ?_⟩
    rw [show (Rp SM M0 (sF H 21 (upd (H 21) nn x))).1 0 41 = nI nn from e38]
    exact f4 (sF H 21 (upd (H 21) nn x)) 0 c1 c3 e36 e37 e38 (eqBd_trans hk (eqBd_w (by unfold prM; omega))) hf
  have f2 : ∀ (H : Nat → Nat → Int32) (x : Int32) {c p : Nat}, 1 ≤ c → c ≤ 3 → H 0 36 = nI c → H 0 37 = nI p → H 0 41 = nI nn → eqBd (prM B) M0.1 H → FlP M0 B q c p → Ci shM G mX12_numberIn (k + 4) [.ref (G.2.1 0), .int 1, .int 9998, .int (-1000000)] (mset (Rp SM M0 H) 20 nn x) (fun x7 M7 => vp_in (nI nn) 20 ∧ vp_in (M7.1 0 41) 20 ∧ Ci shM G mX12_numberIn (k + 4) [.ref (G.2.1 0), .int ((mset M7 21 nn x7).1 21 (ix (M7.1 0 41)) + 1), .int 9999, .int (-1000000)] (mset M7 21 nn x7) (fun x8 M8 => vp_in (M7.1 0 41) 20 ∧ tailQ G k q (mset (mset M8 22 (ix (M7.1 0 41)) x8) 0 41 ((M8.1 0 41) + 1)))) := by
    intro H x c p c1 c3 e36 e37 e38 hk hf
    rw [Rp_mset rfl]
    refine c_numF (k := k + 1) (c := c) e36 c1 c3 ⟨vb, ?_⟩
    rw [show (Rp SM M0 (sF H 20 (upd (H 20) nn x))).1 0 41 = nI nn from e38, xb]
    exact ⟨vb, f3 (sF H 20 (upd (H 20) nn x)) 0 _ _ _ c1 c3 e36 e37 e38 (eqBd_trans hk (eqBd_w (by unfold prM; omega))) hf⟩
  have f1 : ∀ (H : Nat → Nat → Int32) (x : Int32) {c p : Nat}, 1 ≤ c → c ≤ 3 → H 0 36 = nI c → H 0 37 = nI p → H 0 41 = nI nn → eqBd (prM B) M0.1 H → FlP M0 B q c p → Ci shM G mX12_numberIn (k + 4) [.ref (G.2.1 0), .int 1, .int 99, .int (-1000000)] (mset (Rp SM M0 H) 19 nn x) (fun x6 M6 => vp_in (nI nn) 20 ∧ Ci shM G mX12_numberIn (k + 4) [.ref (G.2.1 0), .int 1, .int 9998, .int (-1000000)] (mset M6 20 nn x6) (fun x7 M7 => vp_in (M6.1 0 41) 20 ∧ vp_in (M7.1 0 41) 20 ∧ Ci shM G mX12_numberIn (k + 4) [.ref (G.2.1 0), .int ((mset M7 21 (ix (M6.1 0 41)) x7).1 21 (ix (M7.1 0 41)) + 1), .int 9999, .int (-1000000)] (mset M7 21 (ix (M6.1 0 41)) x7) (fun x8 M8 => vp_in (M7.1 0 41) 20 ∧ tailQ G k q (mset (mset M8 22 (ix (M7.1 0 41)) x8) 0 41 ((M8.1 0 41) + 1))))) := by
    intro H x c p c1 c3 e36 e37 e38 hk hf
    rw [Rp_mset rfl]
    refine c_numF (k := k + 1) (c := c) e36 c1 c3 ⟨vb, ?_⟩
    rw [show (Rp SM M0 (sF H 19 (upd (H 19) nn x))).1 0 41 = nI nn from e38, xb]
    exact f2 (sF H 19 (upd (H 19) nn x)) 0 c1 c3 e36 e37 e38 (eqBd_trans hk (eqBd_w (by unfold prM; omega))) hf
  refine wp_X12_readPart ⟨fun _ => ⟨fun _ => ⟨fun _ => c_num (k := k + 1) hn hb ht hT h36 ?_, fun c => absurd c (by decide)⟩, fun c => absurd c (by decide)⟩, fun c => absurd c (by decide)⟩
  rw [i_0, i_3, i_N, show (Rp SM M0 F).1 0 41 = nI nn from hcn, xb]
  cases h1 : numT bb 0 3 (-1000000) t with
  | inl e =>
    rw [houseT, h1] at h
    obtain ⟨c1, c3⟩ := num_c h1
    intro x F1 E1 e36 e37
    have e38 : F1 0 41 = nI nn := by rw [E1.2 41 (by omega)]; exact hcn
    rw [show (Rp SM M0 F1).1 0 41 = nI nn from e38, xb]
    exact ⟨vb, f1 F1 x c1 c3 e36 e37 e38 (eqBd_trans hbk (eqBd_0 E1)) h⟩
  | inr y =>
    rw [houseT, h1, bnd_r] at h
    obtain ⟨_, _, y1, y2, _⟩ := num_ok h1
    intro F1 E1 T1 g36
    have e38 : F1 0 41 = nI nn := by rw [E1.2 41 (by omega)]; exact hcn
    rw [show (Rp SM M0 F1).1 0 41 = nI nn from e38, xb, Rp_mset rfl]
    have k1' : eqBd (prM B) M0.1 (sF F1 19 (upd (F1 19) nn (nI y))) := eqBd_trans hbk (eqBd_trans (eqBd_0 E1) (eqBd_w (by unfold prM; omega)))
    refine ⟨vb, c_num (k := k + 1) (F := sF F1 19 (upd (F1 19) nn (nI y))) hn hb (gtk_nx ht) T1 g36 ?_⟩
    rw [i_1, i_99, i_N]
    cases h2 : numT bb 1 99 (-1000000) (nxT bb n t) with
    | inl e =>
      rw [h2] at h
      obtain ⟨c1, c3⟩ := num_c h2
      intro x F2 E2 e36 e37
      have l38 : F2 0 41 = nI nn := by rw [E2.2 41 (by omega)]; exact e38
      rw [show (Rp SM M0 F2).1 0 41 = nI nn from l38, xb]
      exact ⟨vb, f2 F2 x c1 c3 e36 e37 l38 (eqBd_trans k1' (eqBd_0 E2)) h⟩
    | inr g =>
      rw [h2, bnd_r] at h
      intro F2 E2 T2 j36
      have l38 : F2 0 41 = nI nn := by rw [E2.2 41 (by omega)]; exact e38
      rw [show (Rp SM M0 F2).1 0 41 = nI nn from l38, xb, Rp_mset rfl]
      have k2' : eqBd (prM B) M0.1 (sF F2 20 (upd (F2 20) nn (nI g))) := eqBd_trans k1' (eqBd_trans (eqBd_0 E2) (eqBd_w (by unfold prM; omega)))
      refine ⟨vb, c_num (k := k + 1) (F := sF F2 20 (upd (F2 20) nn (nI g))) hn hb (gtk_nx (gtk_nx ht)) T2 j36 ?_⟩
      rw [i_1, i_9998, i_N]
      cases h3 : numT bb 1 9998 (-1000000) (nxT bb n (nxT bb n t)) with
      | inl e =>
        rw [h3] at h
        obtain ⟨c1, c3⟩ := num_c h3
        intro x F3 E3 e36 e37
        have m38 : F3 0 41 = nI nn := by rw [E3.2 41 (by omega)]; exact l38
        rw [show (Rp SM M0 F3).1 0 41 = nI nn from m38, xb]
        exact ⟨vb, vb, f3 F3 x _ _ _ c1 c3 e36 e37 m38 (eqBd_trans k2' (eqBd_0 E3)) h⟩
      | inr p =>
        rw [h3, bnd_r] at h
        obtain ⟨_, _, o1, o2, _⟩ := num_ok h3
        intro F3 E3 T3 m36
        have m38 : F3 0 41 = nI nn := by rw [E3.2 41 (by omega)]; exact l38
        rw [show (Rp SM M0 F3).1 0 41 = nI nn from m38, xb, Rp_mset rfl, show (Rp SM M0 (sF F3 21 (upd (F3 21) nn (nI p)))).1 21 nn = nI p from upd_at (F3 21) nn (nI p)]
        have k3' : eqBd (prM B) M0.1 (sF F3 21 (upd (F3 21) nn (nI p))) := eqBd_trans k2' (eqBd_trans (eqBd_0 E3) (eqBd_w (by unfold prM; omega)))
        refine ⟨vb, vb, c_num (k := k + 1) (F := sF F3 21 (upd (F3 21) nn (nI p))) hn hb (gtk_nx (gtk_nx (gtk_nx ht))) T3 m36 ?_⟩
        rw [nI_1, nI_toInt (show p + 1 < 2 ^ 31 by omega), i_9999, i_N, show ((p + 1 : Nat) : Int) = (p : Int) + 1 from by omega]
        cases h4 : numT bb ((p : Int) + 1) 9999 (-1000000) (nxT bb n (nxT bb n (nxT bb n t))) with
        | inl e =>
          rw [h4] at h
          obtain ⟨c1, c3⟩ := num_c h4
          intro x F4 E4 e36 e37
          have n38 : F4 0 41 = nI nn := by rw [E4.2 41 (by omega)]; exact m38
          rw [show (Rp SM M0 F4).1 0 41 = nI nn from n38]
          exact ⟨vb, f4 F4 x c1 c3 e36 e37 n38 (eqBd_trans k3' (eqBd_0 E4)) h⟩
        | inr w =>
          rw [h4, bnd_r] at h
          intro F4 E4 T4 n36
          have n38 : F4 0 41 = nI nn := by rw [E4.2 41 (by omega)]; exact m38
          refine ⟨vb, ?_⟩
          rw [show (Rp SM M0 F4).1 0 41 = nI nn from n38, nI_1, Rp_mset rfl, Rp_mset rfl]
          obtain ⟨H4, hH4⟩ : ∃ H4, H4 = sF (sF F4 22 (upd (F4 22) nn (nI w))) 0 (upd (sF F4 22 (upd (F4 22) nn (nI w)) 0) 41 (nI (nn + 1))) := ⟨_, rfl⟩
          rw [← hH4]
          have k4' : eqBd (prM B) M0.1 H4 := by rw [hH4]; exact eqBd_trans k3' (eqBd_trans (eqBd_0 E4) (eqBd_trans (eqBd_w (by unfold prM; omega)) (eqBd_w (by unfold prM; omega))))
          have z0 : ∀ j, j ≠ 41 → H4 0 j = F4 0 j := fun j hj => by rw [hH4]; exact upd_ne _ _ hj
          have T4' : TkM n (H4 0) (nxT bb n (nxT bb n (nxT bb n (nxT bb n t)))) := by
            unfold TkM
            rw [z0 31 (by decide), z0 32 (by decide), z0 33 (by decide), z0 34 (by decide), z0 35 (by decide)]; exact T4
          refine c_tail hn hb (gtk_nx (gtk_nx (gtk_nx (gtk_nx ht)))) T4' (by rw [z0 36 (by decide)]; exact n36) k4' ?_
          cases h5 : sgT (nxT bb n (nxT bb n (nxT bb n (nxT bb n t)))) with
          | inl e => rw [h5] at h; exact h
          | inr u =>
            rw [h5] at h
            intro F5 E5 T5 r36
            refine h F5 (eqBd_trans k4' (eqBd_0 E5)) T5 r36 ?_ (fun j hj hj2 => ?_) ?_ ?_ ?_ ?_ (fun k a b c d e => ?_)
            · rw [E5.2 41 (by omega), hH4, sF_at, upd_at]
            · rw [E5.2 j (by omega), z0 j hj2, E4.2 j (by omega), sF_ne (by decide), E3.2 j (by omega), sF_ne (by decide), E2.2 j (by omega), sF_ne (by decide), E1.2 j (by omega)]
            · rw [E5.1 19 (by decide), hH4, sF_ne (by decide), sF_ne (by decide), E4.1 19 (by decide), sF_ne (by decide), E3.1 19 (by decide), sF_ne (by decide), E2.1 19 (by decide), sF_at, E1.1 19 (by decide)]
            · rw [E5.1 20 (by decide), hH4, sF_ne (by decide), sF_ne (by decide), E4.1 20 (by decide), sF_ne (by decide), E3.1 20 (by decide), sF_at, E2.1 20 (by decide), sF_ne (by decide), E1.1 20 (by decide)]
            · rw [E5.1 21 (by decide), hH4, sF_ne (by decide), sF_ne (by decide), E4.1 21 (by decide), sF_at, E3.1 21 (by decide), sF_ne (by decide), E2.1 21 (by decide), sF_ne (by decide), E1.1 21 (by decide)]
            · rw [E5.1 22 (by decide), hH4, sF_ne (by decide), sF_at, E4.1 22 (by decide), sF_ne (by decide), E3.1 22 (by decide), sF_ne (by decide), E2.1 22 (by decide), sF_ne (by decide), E1.1 22 (by decide)]
            · rw [E5.1 k a, hH4, sF_ne a, sF_ne e, E4.1 k a, sF_ne d, E3.1 k a, sF_ne c, E2.1 k a, sF_ne b, E1.1 k a]
end
