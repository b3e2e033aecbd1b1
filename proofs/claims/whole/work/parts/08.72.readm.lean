/-! read: all parts, of the model -/
def tlM (F D : Nat → Nat → Int32) (i : Nat) : Prop := F 8 i = D 8 i ∧ F 9 i = D 9 i ∧ F 10 i = D 10 i ∧ F 11 i = D 11 i ∧ F 12 i = D 12 i ∧ F 13 i = D 13 i ∧ ix (D 13 i) ≤ 8 ∧ ∀ j, j < ix (D 13 i) → F 14 (8 * i + j) = D 14 (8 * i + j)
def RM (n : Nat) (M0 : Mem) (B : Nat × Nat × Nat × Nat) (F : Nat → Nat → Int32) (W : WS) : Prop := eqBd (prM B) M0.1 F ∧ TkM n (F 0) W.2.2.2.2.2 ∧ F 0 36 = 0 ∧ (F 0 38 = nI W.2.1 ∧ F 0 39 = nI W.2.2.1 ∧ F 0 40 = nI W.2.2.2.1 ∧ F 0 41 = nI W.2.2.2.2.1) ∧ (∀ i, B.1 ≤ i → i < W.2.1 → F 4 i = W.1 4 i ∧ F 5 i = W.1 5 i ∧ F 6 i = W.1 6 i) ∧ (∀ i, B.2.1 ≤ i → i < W.2.2.1 → tlM F W.1 i) ∧ (∀ i, B.2.2.1 ≤ i → i < W.2.2.2.1 → F 15 i = W.1 15 i ∧ F 16 i = W.1 16 i ∧ F 17 i = W.1 17 i ∧ F 18 i = W.1 18 i) ∧ (∀ i, B.2.2.2 ≤ i → i < W.2.2.2.2.1 → F 19 i = W.1 19 i ∧ F 20 i = W.1 20 i ∧ F 21 i = W.1 21 i ∧ F 22 i = W.1 22 i)
theorem RM_0 {n : Nat} {M0 : Mem} {B : Nat × Nat × Nat × Nat} {F F' : Nat → Nat → Int32} {D : Nat → Nat → Int32} {nb nl no nh : Nat} {t t' : Tok} (h : RM n M0 B F (D, nb, nl, no, nh, t)) (hE : eq0 F F') (hT : TkM n (F' 0) t') (h36 : F' 0 36 = 0) : RM n M0 B F' (D, nb, nl, no, nh, t') := by
  obtain ⟨a1, a2, a3, ⟨a38, a39, a40, a41⟩, a5, a6, a7, a8⟩ := h
  have q := hE.1
  refine ⟨eqBd_trans a1 (eqBd_0 hE), hT, h36, ⟨by rw [hE.2 38 (by omega)]; exact a38, by rw [hE.2 39 (by omega)]; exact a39, by rw [hE.2 40 (by omega)]; exact a40, by rw [hE.2 41 (by omega)]; exact a41⟩, ?_, ?_, ?_, ?_⟩
  · rw [q 4 (by decide), q 5 (by decide), q 6 (by decide)]; exact a5
  · intro i h1 h2
    unfold tlM
    rw [q 8 (by decide), q 9 (by decide), q 10 (by decide), q 11 (by decide), q 12 (by decide), q 13 (by decide), q 14 (by decide)]
    exact a6 i h1 h2
  · rw [q 15 (by decide), q 16 (by decide), q 17 (by decide), q 18 (by decide)]; exact a7
  · rw [q 19 (by decide), q 20 (by decide), q 21 (by decide), q 22 (by decide)]; exact a8
theorem lw_0 : (1651470187 : Int64) = lN (cW 0) := rfl
theorem lw_1 : (1818848869 : Int64) = lN (cW 1) := rfl
theorem lw_2 : (478660552050 : Int64) = lN (cW 2) := rfl
theorem lw_3 : (448546567013 : Int64) = lN (cW 3) := rfl
section
variable {G : GV} {k n : Nat} {M0 : Mem} {bb : Nat → Nat} {F : Nat → Nat → Int32} {B : Nat × Nat × Nat × Nat} {q : Int32 → Mem → Prop}
theorem c_157_f {v1 : Int64} (h36 : ¬ F 0 36 = 0) (hQ : V shM G mX12_read (k + 6) 64 [(0, .ref (G.2.1 0))] [] (Rp SM M0 F) (Qi q)) : V shM G mX12_read (k + 6) 157 [(0, .ref (G.2.1 0)), (1, .long v1)] [] (Rp SM M0 F) (Qi q) :=
  wp_X12_read_157 ⟨fun _ => c_need_f (k := k + 3) h36 ⟨fun _ => ⟨fun _ => hQ, fun c => absurd c h36⟩, fun c => absurd c h36⟩, fun _ => ⟨fun _ => c_need_f (k := k + 3) h36 ⟨fun _ => ⟨fun _ => hQ, fun c => absurd c h36⟩, fun c => absurd c h36⟩, fun _ => ⟨fun _ => c_need_f (k := k + 3) h36 ⟨fun _ => ⟨fun _ => hQ, fun c => absurd c h36⟩, fun c => absurd c h36⟩, fun _ => ⟨fun _ => c_need_f (k := k + 3) h36 ⟨fun _ => ⟨fun _ => hQ, fun c => absurd c h36⟩, fun c => absurd c h36⟩, fun _ => c_need_f (k := k + 3) h36 ⟨fun _ => ⟨fun _ => hQ, fun c => absurd c h36⟩, fun c => absurd c h36⟩⟩⟩⟩⟩
theorem c_partM {W : WS} (hn : n ≤ 600) (hb : ∀ i, i < n → bb i < 256 ∧ M0.1 23 i = nI (bb i)) (hW : WB bb n B W) (hR : RM n M0 B F W) (hk : ¬ W.2.2.2.2.2.1 = 0) (h : elS (partW bb n W) (FlP M0 B (fun M => V shM G mX12_read (k + 6) 64 [(0, .ref (G.2.1 0))] [] M (Qi q))) (fun W' => ∀ F', RM n M0 B F' W' → V shM G mX12_read (k + 6) 64 [(0, .ref (G.2.1 0))] [] (Rp SM M0 F') (Qi q))) : V shM G mX12_read (k + 6) 64 [(0, .ref (G.2.1 0))] [] (Rp SM M0 F) (Qi q) := by
  obtain ⟨D, nb, nl, no, nh, t⟩ := W
  obtain ⟨⟨b1, b2⟩, ⟨l1, l2⟩, ⟨o1, o2⟩, ⟨h1', h2'⟩, ht⟩ := hW
  dsimp only at b1 b2 l1 l2 o1 o2 h1' h2' ht hk
  have hR' := hR
  obtain ⟨a1, hT, h36, ⟨c38, c39, c40, c41⟩, a4, a5, a6, a7⟩ := hR'
  dsimp only at hT c38 c39 c40 c41 a4 a5 a6 a7
  unfold partW at h
  dsimp only at h
  have h5 := gtk_5 ht
  have f33 : (Rp SM M0 F).1 0 33 = nI (mkT t.1) := hT.2.2.1
  obtain ⟨e, he, hte⟩ := id ht
  have hw := wd_lt hte he (fun i hi => (hb i hi).1)
  have key : ∀ i, i < 10 → (lN (wdN bb t) = lN (cW i) ↔ wdN bb t = cW i) := fun i hi => lN_eq' (by omega) (cW_lt i hi)
  have kk : ∀ i, i < 10 → ¬ wdN bb t = cW i → ¬ lN (wdN bb t) = lN (cW i) := fun i hi c e => c ((key i hi).mp e)
  -- no room
  have nr : ∀ v1 : Int64, FlP M0 B (fun M => V shM G mX12_read (k + 6) 64 [(0, .ref (G.2.1 0))] [] M (Qi q)) 3 t.2.1 → V shM G mX12_read (k + 6) 152 [(0, .ref (G.2.1 0)), (1, .long v1)] [] (Rp SM M0 F) (Qi q) := fun v1 hf => wp_X12_read_152 (c_badF (t := t) (c := 3) rfl h36 hT.2.2.2.1 (fun F' E' _ e36 e37 => c_157_f (by rw [e36]; decide) (hf F' (eqBd_trans a1 (eqBd_0 E')) e36 e37)))
  refine wp_X12_read_64 ⟨fun c => absurd h36 c, fun _ => ⟨fun c => absurd ((mk_1 h5).mp (f33.symm.trans c)) hk, fun _ => c_word (f := F 0) hte he hn hb rfl hT ?_⟩⟩
  rw [show (Rp SM M0 F).1 0 38 = nI nb from c38]
  by_cases w : wdN bb t = cW 0
  · -- a book
    rw [if_pos w] at h
    rw [w, ← lw_0]
    refine ⟨fun c => absurd rfl c, fun _ => ⟨fun c => ?_, fun c => ?_⟩⟩
    · have h10 : nb = 10 := (nI_eq (b := 10) (by omega) (by decide)).mp c
      rw [if_pos (by omega)] at h
      exact nr _ h
    · have h10 : ¬ nb = 10 := fun e => c (by rw [e]; rfl)
      rw [if_neg (by omega)] at h
      refine wp_X12_read_101 ⟨fun _ => wp_X12_read_118 ⟨fun _ => wp_X12_read_135 ⟨fun _ => wp_X12_read_157 ⟨fun _ => ?_, fun c => absurd rfl c⟩, fun c => absurd c (by decide)⟩, fun c => absurd c (by decide)⟩, fun c => absurd c (by decide)⟩
      refine c_need1 (k := k + 3) hn hb ht hT h36 (fun F0 E0 T0 e36 => ⟨fun c => absurd e36 c, fun _ => ?_⟩)
      obtain ⟨x1, x2, x3, ⟨x38, x39, x40, x41⟩, x5, x6, x7, x8⟩ := RM_0 (t' := nxT bb n t) hR E0 T0 e36
      refine c_bookM (k := k) (B := B) (nb := nb) (q := fun M => V shM G mX12_read (k + 6) 64 [(0, .ref (G.2.1 0))] [] M (Qi q)) hn hb (gtk_nx ht) T0 e36 x38 (by omega) b1 x1 ?_
      cases hr : bookT bb n (nxT bb n t) with
      | inl e => rw [hr] at h; exact h
      | inr r =>
        rw [hr, bnd_r] at h
        intro F1 B1 T1 y36 y38 yo y4 y5 y6 yk
        refine h F1 ⟨B1, T1, y36, ⟨y38, by rw [yo 39 (by decide)]; exact x39, by rw [yo 40 (by decide)]; exact x40, by rw [yo 41 (by decide)]; exact x41⟩, fun i i1 i2 => ?_, fun i i1 i2 => ?_, fun i i1 i2 => ?_, fun i i1 i2 => ?_⟩
        · show F1 4 i = upd (D 4) nb (nI r.1) i ∧ F1 5 i = upd (D 5) nb (nI r.2.1) i ∧ F1 6 i = upd (D 6) nb (nI r.2.2.1) i
          rw [y4, y5, y6]
          by_cases e : i = nb
          · rw [e, upd_at, upd_at, upd_at, upd_at, upd_at, upd_at]; exact ⟨rfl, rfl, rfl⟩
          · rw [upd_ne _ _ e, upd_ne _ _ e, upd_ne _ _ e, upd_ne _ _ e, upd_ne _ _ e, upd_ne _ _ e]
            exact x5 i i1 (by have : i < nb + 1 := i2; show i < nb; omega)
        · unfold tlM
          rw [yk 8 (by decide) (by decide) (by decide) (by decide), yk 9 (by decide) (by decide) (by decide) (by decide), yk 10 (by decide) (by decide) (by decide) (by decide), yk 11 (by decide) (by decide) (by decide) (by decide), yk 12 (by decide) (by decide) (by decide) (by decide), yk 13 (by decide) (by decide) (by decide) (by decide), yk 14 (by decide) (by decide) (by decide) (by decide)]
          exact x6 i i1 i2
        · rw [yk 15 (by decide) (by decide) (by decide) (by decide), yk 16 (by decide) (by decide) (by decide) (by decide), yk 17 (by decide) (by decide) (by decide) (by decide), yk 18 (by decide) (by decide) (by decide) (by decide)]
          exact x7 i i1 i2
        · rw [yk 19 (by decide) (by decide) (by decide) (by decide), yk 20 (by decide) (by decide) (by decide) (by decide), yk 21 (by decide) (by decide) (by decide) (by decide), yk 22 (by decide) (by decide) (by decide) (by decide)]
          exact x8 i i1 i2
  · rw [if_neg w] at h
    refine ⟨fun _ => wp_X12_read_101 ?_, fun c => absurd (show lN (wdN bb t) = lN (cW 0) from c) (kk 0 (by decide) w)⟩
    rw [show (Rp SM M0 F).1 0 39 = nI nl from c39]
    by_cases w2 : wdN bb t = cW 1
    · -- a line
      rw [if_pos w2] at h
      rw [w2, ← lw_1]
      refine ⟨fun c => absurd rfl c, fun _ => ⟨fun c => ?_, fun c => ?_⟩⟩
      · have h10 : nl = 12 := (nI_eq (b := 12) (by omega) (by decide)).mp c
        rw [if_pos (by omega)] at h
        exact nr _ h
      · have h10 : ¬ nl = 12 := fun e => c (by rw [e]; rfl)
        rw [if_neg (by omega)] at h
        refine wp_X12_read_118 ⟨fun _ => wp_X12_read_135 ⟨fun _ => wp_X12_read_157 ⟨fun c => absurd c (by decide), fun _ => ⟨fun _ => ?_, fun c => absurd rfl c⟩⟩, fun c => absurd c (by decide)⟩, fun c => absurd c (by decide)⟩
        refine c_need1 (k := k + 3) hn hb ht hT h36 (fun F0 E0 T0 e36 => ⟨fun c => absurd e36 c, fun _ => ?_⟩)
        obtain ⟨x1, x2, x3, ⟨x38, x39, x40, x41⟩, x5, x6, x7, x8⟩ := RM_0 (t' := nxT bb n t) hR E0 T0 e36
        refine c_lnM (k := k) (B := B) (nb := nb) (nl := nl) (q := fun M => V shM G mX12_read (k + 6) 64 [(0, .ref (G.2.1 0))] [] M (Qi q)) hn hb (gtk_nx ht) T0 e36 x38 b2 x39 (by omega) l1 x1 ?_
        cases hr : lineT bb n nb (nxT bb n t) with
        | inl e => rw [hr] at h; exact h
        | inr r =>
          rw [hr, bnd_r] at h
          intro F1 L1 T1 y36 y39 y8 y9 y10 y11 y12 y13 y14
          obtain ⟨_, _, _, _, _, _, _, ⟨_, nm8⟩, _⟩ := line_ok (gtk_nx ht) hr
          have z0 : ∀ j, 37 < j → j ≠ 39 → F1 0 j = F0 0 j := fun j p1 p2 => L1 0 j (fun _ => Or.inr ⟨p1, p2⟩) (fun e => by omega) (fun e => by omega)
          have np : ∀ k, k ≠ 0 → (k < 8 ∨ 14 < k) → ∀ i, F1 k i = F0 k i := fun k p1 p2 i => L1 k i (fun e => absurd e p1) (fun e => by omega) (fun e => by omega)
          refine h F1 ⟨eqBd_trans x1 (eqLm_bd l1 L1), T1, y36, ⟨by rw [z0 38 (by decide) (by decide)]; exact x38, y39, by rw [z0 40 (by decide) (by decide)]; exact x40, by rw [z0 41 (by decide) (by decide)]; exact x41⟩, fun i i1 i2 => ?_, fun i i1 i2 => ?_, fun i i1 i2 => ?_, fun i i1 i2 => ?_⟩
          · rw [np 4 (by decide) (by decide), np 5 (by decide) (by decide), np 6 (by decide) (by decide)]
            exact x5 i i1 i2
          · have i2' : i < nl + 1 := i2
            show F1 8 i = upd (D 8) nl (nI r.1) i ∧ F1 9 i = upd (D 9) nl (nI r.2.1) i ∧ F1 10 i = upd (D 10) nl (nI r.2.2.1) i ∧ F1 11 i = upd (D 11) nl (nI r.2.2.2.1) i ∧ F1 12 i = upd (D 12) nl r.2.2.2.2.2.1 i ∧ F1 13 i = upd (D 13) nl (nI (r.2.2.2.2.1.2.2 - r.2.2.2.2.1.2.1)) i ∧ ix (upd (D 13) nl (nI (r.2.2.2.2.1.2.2 - r.2.2.2.2.1.2.1)) i) ≤ 8 ∧ ∀ j, j < ix (upd (D 13) nl (nI (r.2.2.2.2.1.2.2 - r.2.2.2.2.1.2.1)) i) → F1 14 (8 * i + j) = nameD bb (D 14) nl r.2.2.2.2.1 (8 * i + j)
            by_cases e : i = nl
            · rw [e, upd_at, upd_at, upd_at, upd_at, upd_at, upd_at, ix_nI (by omega)]
              refine ⟨y8, y9, y10, y11, y12, y13, nm8, fun j hj => ?_⟩
              rw [y14 j hj, nameD, if_pos (by omega), show 8 * nl + j - 8 * nl = j by omega]
            · rw [upd_ne _ _ e, upd_ne _ _ e, upd_ne _ _ e, upd_ne _ _ e, upd_ne _ _ e, upd_ne _ _ e]
              have hx : ∀ k, 8 ≤ k ∧ k ≤ 13 → F1 k i = F0 k i := fun k hk => L1 k i (fun e0 => by omega) (fun _ => e) (fun e0 => by omega)
              rw [hx 8 (by decide), hx 9 (by decide), hx 10 (by decide), hx 11 (by decide), hx 12 (by decide), hx 13 (by decide)]
              obtain ⟨q1, q2, q3, q4, q5, q6, q7, q8⟩ := x6 i i1 (by show i < nl; omega)
              refine ⟨q1, q2, q3, q4, q5, q6, q7, fun j hj => ?_⟩
              have q7' : ix (D 13 i) ≤ 8 := q7
              rw [L1 14 (8 * i + j) (fun e0 => by omega) (fun e0 => by omega) (fun _ => by omega), nameD, if_neg (by omega)]
              exact q8 j hj
          · rw [np 15 (by decide) (by decide), np 16 (by decide) (by decide), np 17 (by decide) (by decide), np 18 (by decide) (by decide)]
            exact x7 i i1 i2
          · rw [np 19 (by decide) (by decide), np 20 (by decide) (by decide), np 21 (by decide) (by decide), np 22 (by decide) (by decide)]
            exact x8 i i1 i2
    · rw [if_neg w2] at h
      refine ⟨fun _ => wp_X12_read_118 ?_, fun c => absurd (show lN (wdN bb t) = lN (cW 1) from c) (kk 1 (by decide) w2)⟩
      rw [show (Rp SM M0 F).1 0 40 = nI no from c40]
      by_cases w3 : wdN bb t = cW 2
      · -- an order
        rw [if_pos w3] at h
        rw [w3, ← lw_2]
        refine ⟨fun c => absurd rfl c, fun _ => ⟨fun c => ?_, fun c => ?_⟩⟩
        · have h10 : no = 20 := (nI_eq (b := 20) (by omega) (by decide)).mp c
          rw [if_pos (by omega)] at h
          exact nr _ h
        · have h10 : ¬ no = 20 := fun e => c (by rw [e]; rfl)
          rw [if_neg (by omega)] at h
          refine wp_X12_read_135 ⟨fun _ => wp_X12_read_157 ⟨fun c => absurd c (by decide), fun _ => ⟨fun c => absurd c (by decide), fun _ => ⟨fun _ => ?_, fun c => absurd rfl c⟩⟩⟩, fun c => absurd c (by decide)⟩
          refine c_need1 (k := k + 3) hn hb ht hT h36 (fun F0 E0 T0 e36 => ⟨fun c => absurd e36 c, fun _ => ?_⟩)
          obtain ⟨x1, x2, x3, ⟨x38, x39, x40, x41⟩, x5, x6, x7, x8⟩ := RM_0 (t' := nxT bb n t) hR E0 T0 e36
          refine c_orderM (k := k) (B := B) (nn := no) (q := fun M => V shM G mX12_read (k + 6) 64 [(0, .ref (G.2.1 0))] [] M (Qi q)) hn hb (gtk_nx ht) T0 e36 x40 (by omega) o1 x1 ?_
          cases hr : orderT bb n (nxT bb n t) with
          | inl e => rw [hr] at h; exact h
          | inr r =>
            rw [hr, bnd_r] at h
            intro F1 B1 T1 y36 y40 yo y15 y16 y17 y18 yk
            have yk' : ∀ k, k ≠ 0 → (k < 15 ∨ 18 < k) → F1 k = F0 k := fun k p1 p2 => yk k p1 (by omega) (by omega) (by omega) (by omega)
            refine h F1 ⟨B1, T1, y36, ⟨by rw [yo 38 (by decide) (by decide)]; exact x38, by rw [yo 39 (by decide) (by decide)]; exact x39, y40, by rw [yo 41 (by decide) (by decide)]; exact x41⟩, fun i i1 i2 => ?_, fun i i1 i2 => ?_, fun i i1 i2 => ?_, fun i i1 i2 => ?_⟩
            · rw [yk' 4 (by decide) (by decide), yk' 5 (by decide) (by decide), yk' 6 (by decide) (by decide)]
              exact x5 i i1 i2
            · unfold tlM
              rw [yk' 8 (by decide) (by decide), yk' 9 (by decide) (by decide), yk' 10 (by decide) (by decide), yk' 11 (by decide) (by decide), yk' 12 (by decide) (by decide), yk' 13 (by decide) (by decide), yk' 14 (by decide) (by decide)]
              exact x6 i i1 i2
            · show F1 15 i = upd (D 15) no (nI r.1) i ∧ F1 16 i = upd (D 16) no (nI r.2.1) i ∧ F1 17 i = upd (D 17) no (nI r.2.2.1) i ∧ F1 18 i = upd (D 18) no (nI r.2.2.2.1) i
              rw [y15, y16, y17, y18]
              by_cases e : i = no
              · rw [e, upd_at, upd_at, upd_at, upd_at, upd_at, upd_at, upd_at, upd_at]; exact ⟨rfl, rfl, rfl, rfl⟩
              · rw [upd_ne _ _ e, upd_ne _ _ e, upd_ne _ _ e, upd_ne _ _ e, upd_ne _ _ e, upd_ne _ _ e, upd_ne _ _ e, upd_ne _ _ e]
                exact x7 i i1 (by have : i < no + 1 := i2; show i < no; omega)
            · rw [yk' 19 (by decide) (by decide), yk' 20 (by decide) (by decide), yk' 21 (by decide) (by decide), yk' 22 (by decide) (by decide)]
              exact x8 i i1 i2
      · rw [if_neg w3] at h
        refine ⟨fun _ => wp_X12_read_135 ?_, fun c => absurd (show lN (wdN bb t) = lN (cW 2) from c) (kk 2 (by decide) w3)⟩
        rw [show (Rp SM M0 F).1 0 41 = nI nh from c41]
        by_cases w4 : wdN bb t = cW 3
        · -- a house
          rw [if_pos w4] at h
          rw [w4, ← lw_3]
          refine ⟨fun c => absurd rfl c, fun _ => ⟨fun c => ?_, fun c => ?_⟩⟩
          · have h10 : ¬ nh = 20 := fun e => c (by rw [e]; rfl)
            rw [if_neg (by omega)] at h
            refine wp_X12_read_157 ⟨fun c => absurd c (by decide), fun _ => ⟨fun c => absurd c (by decide), fun _ => ⟨fun c => absurd c (by decide), fun _ => ⟨fun c => absurd rfl c, fun _ => ?_⟩⟩⟩⟩
            refine c_need1 (k := k + 3) hn hb ht hT h36 (fun F0 E0 T0 e36 => ⟨fun c => absurd e36 c, fun _ => ?_⟩)
            obtain ⟨x1, x2, x3, ⟨x38, x39, x40, x41⟩, x5, x6, x7, x8⟩ := RM_0 (t' := nxT bb n t) hR E0 T0 e36
            refine c_houseM (k := k) (B := B) (nn := nh) (q := fun M => V shM G mX12_read (k + 6) 64 [(0, .ref (G.2.1 0))] [] M (Qi q)) hn hb (gtk_nx ht) T0 e36 x41 (by omega) h1' x1 ?_
            cases hr : houseT bb n (nxT bb n t) with
            | inl e => rw [hr] at h; exact h
            | inr r =>
              rw [hr, bnd_r] at h
              intro F1 B1 T1 y36 y41 yo y19 y20 y21 y22 yk
              have yk' : ∀ k, k ≠ 0 → (k < 19 ∨ 22 < k) → F1 k = F0 k := fun k p1 p2 => yk k p1 (by omega) (by omega) (by omega) (by omega)
              refine h F1 ⟨B1, T1, y36, ⟨by rw [yo 38 (by decide) (by decide)]; exact x38, by rw [yo 39 (by decide) (by decide)]; exact x39, by rw [yo 40 (by decide) (by decide)]; exact x40, y41⟩, fun i i1 i2 => ?_, fun i i1 i2 => ?_, fun i i1 i2 => ?_, fun i i1 i2 => ?_⟩
              · rw [yk' 4 (by decide) (by decide), yk' 5 (by decide) (by decide), yk' 6 (by decide) (by decide)]
                exact x5 i i1 i2
              · unfold tlM
                rw [yk' 8 (by decide) (by decide), yk' 9 (by decide) (by decide), yk' 10 (by decide) (by decide), yk' 11 (by decide) (by decide), yk' 12 (by decide) (by decide), yk' 13 (by decide) (by decide), yk' 14 (by decide) (by decide)]
                exact x6 i i1 i2
              · rw [yk' 15 (by decide) (by decide), yk' 16 (by decide) (by decide), yk' 17 (by decide) (by decide), yk' 18 (by decide) (by decide)]
                exact x7 i i1 i2
              · show F1 19 i = upd (D 19) nh (nI r.1) i ∧ F1 20 i = upd (D 20) nh (nI r.2.1) i ∧ F1 21 i = upd (D 21) nh (nI r.2.2.1) i ∧ F1 22 i = upd (D 22) nh (nI r.2.2.2.1) i
                rw [y19, y20, y21, y22]
                by_cases e : i = nh
                · rw [e, upd_at, upd_at, upd_at, upd_at, upd_at, upd_at, upd_at, upd_at]; exact ⟨rfl, rfl, rfl, rfl⟩
                · rw [upd_ne _ _ e, upd_ne _ _ e, upd_ne _ _ e, upd_ne _ _ e, upd_ne _ _ e, upd_ne _ _ e, upd_ne _ _ e, upd_ne _ _ e]
                  exact x8 i i1 (by have : i < nh + 1 := i2; show i < nh; omega)
          · have h10 : nh = 20 := (nI_eq (b := 20) (by omega) (by decide)).mp c
            rw [if_pos (by omega)] at h
            exact nr _ h
        · rw [if_neg w4] at h
          have u0 := kk 0 (by decide) w
          have u1 := kk 1 (by decide) w2
          have u2 := kk 2 (by decide) w3
          have u3 := kk 3 (by decide) w4
          refine ⟨fun _ => wp_X12_read_157 ⟨fun c => absurd c u0, fun _ => ⟨fun c => absurd c u1, fun _ => ⟨fun c => absurd c u2, fun _ => ⟨fun _ => ?_, fun c => absurd c u3⟩⟩⟩⟩, fun c => absurd c u3⟩
          refine c_need0 (k := k + 3) (t := t) h36 hT.2.2.2.1 (fun F' E' e36 e37 => ?_)
          have nz1 : ¬ F' 0 36 = 0 := by rw [e36]; decide
          exact ⟨fun _ => ⟨fun _ => h F' (eqBd_trans a1 (eqBd_0 E')) e36 e37, fun c => absurd c nz1⟩, fun c => absurd c nz1⟩
theorem c_readM (hn : n ≤ 600) (hb : ∀ i, i < n → bb i < 256 ∧ M0.1 23 i = nI (bb i)) : ∀ fu F W, n < W.2.2.2.2.2.2.1 + fu → WB bb n B W → WO B W → RM n M0 B F W → elS (rdW bb n fu W) (FlP M0 B (fun M => V shM G mX12_read (k + 6) 64 [(0, .ref (G.2.1 0))] [] M (Qi q))) (fun W' => ∀ F', RM n M0 B F' W' → V shM G mX12_read (k + 6) 265 [(0, .ref (G.2.1 0)), (1, .int (F' 0 5))] [] (Rp SM M0 F') (Qi q)) → V shM G mX12_read (k + 6) 64 [(0, .ref (G.2.1 0))] [] (Rp SM M0 F) (Qi q) := by
  intro fu
  induction fu with
  | zero =>
    intro F W hf hW hO hR h
    have h1 := gtk_le hW.2.2.2.2
    omega
  | succ fu ih =>
    intro F W hf hW hO hR h
    rw [rdW] at h
    by_cases hk : W.2.2.2.2.2.1 = 0
    · rw [if_pos hk] at h
      have h36 : F 0 36 = 0 := hR.2.2.1
      have f33 : F 0 33 = 1 := by rw [hR.2.1.2.2.1, hk]; rfl
      have l0 : (Rp SM M0 F).1 0 36 ≤ 0 := by rw [show (Rp SM M0 F).1 0 36 = 0 from h36]; decide
      exact wp_X12_read_64 ⟨fun c => absurd h36 c, fun _ => ⟨fun _ => ⟨fun _ => h F hR, fun c => absurd l0 c⟩, fun c => absurd f33 c⟩⟩
    · rw [if_neg hk] at h
      refine c_partM hn hb hW hR hk ?_
      cases hp : partW bb n W with
      | inl e => rw [hp] at h; exact h
      | inr W' =>
        rw [hp, bnd_r] at h
        obtain ⟨w1, w2, w3⟩ := part_ok hW hO hp
        intro F' hR'
        exact ih F' W' (by omega) w1 w2 hR' h
end
/-- faults have a kind from 1 to 3 -/
def okZ {α : Type} (r : RES α) : Prop := ∀ e, r = .inl e → 1 ≤ e.1 ∧ e.1 ≤ 3
theorem okZ_r {α : Type} {x : α} : okZ (.inr x : RES α) := fun e h => by cases h
theorem okZ_l {α : Type} {c p : Nat} (h1 : 1 ≤ c) (h3 : c ≤ 3) : okZ (.inl (c, p) : RES α) := fun e h => by injection h with h; rw [← h]; exact ⟨h1, h3⟩
theorem okZ_b {α β : Type} {r : RES α} {f : α → RES β} (h : okZ r) (hf : ∀ x, okZ (f x)) : okZ (bnd r f) := fun e he => by
  cases hr : r with
  | inl e' => rw [hr] at he; injection he with he; rw [← he]; exact h e' hr
  | inr x => rw [hr, bnd_r] at he; exact hf x e he
theorem okZ_num {bb : Nat → Nat} {lo hi no : Int} {t : Tok} : okZ (numT bb lo hi no t) := fun e h => num_c h
theorem okZ_sg {t : Tok} : okZ (sgT t) := by unfold sgT; split; exact okZ_r; exact okZ_l (by decide) (by decide)
theorem okZ_nm {t : Tok} : okZ (nmT t) := by
  unfold nmT; split
  · exact okZ_l (by decide) (by decide)
  · split
    · exact okZ_l (by decide) (by decide)
    · exact okZ_r
theorem okZ_srt {bb : Nat → Nat} {t : Tok} : okZ (srtT bb t) := by
  unfold srtT
  split
  · exact okZ_r
  · split
    · exact okZ_r
    · split
      · exact okZ_r
      · split
        · exact okZ_r
        · split
          · exact okZ_r
          · exact okZ_l (by decide) (by decide)
theorem okZ_age {bb : Nat → Nat} {n : Nat} {t : Tok} : okZ (ageT bb n t) := by
  unfold ageT; split
  · exact okZ_b okZ_num (fun _ => okZ_r)
  · exact okZ_r
theorem okZ_part {bb : Nat → Nat} {n : Nat} {W : WS} : okZ (partW bb n W) := by
  unfold partW
  split
  · split
    · exact okZ_l (by decide) (by decide)
    · exact okZ_b (okZ_b okZ_num (fun _ => okZ_b okZ_num (fun _ => okZ_b okZ_num (fun _ => okZ_b okZ_sg (fun _ => okZ_r))))) (fun _ => okZ_r)
  · split
    · split
      · exact okZ_l (by decide) (by decide)
      · exact okZ_b (okZ_b okZ_num (fun _ => okZ_b okZ_srt (fun _ => okZ_b okZ_num (fun _ => okZ_b okZ_num (fun _ => okZ_b okZ_nm (fun _ => okZ_b okZ_age (fun _ => okZ_b okZ_sg (fun _ => okZ_r)))))))) (fun _ => okZ_r)
    · split
      · split
        · exact okZ_l (by decide) (by decide)
        · exact okZ_b (okZ_b okZ_num (fun _ => okZ_b okZ_num (fun _ => okZ_b okZ_num (fun _ => okZ_b okZ_num (fun _ => okZ_b okZ_sg (fun _ => okZ_r)))))) (fun _ => okZ_r)
      · split
        · split
          · exact okZ_l (by decide) (by decide)
          · exact okZ_b (okZ_b okZ_num (fun _ => okZ_b okZ_num (fun _ => okZ_b okZ_num (fun _ => okZ_b okZ_num (fun _ => okZ_b okZ_sg (fun _ => okZ_r)))))) (fun _ => okZ_r)
        · exact okZ_l (by decide) (by decide)
theorem okZ_rd {bb : Nat → Nat} {n : Nat} : ∀ fu W, okZ (rdW bb n fu W) := by
  intro fu
  induction fu with
  | zero => intro W; exact okZ_r
  | succ fu ih =>
    intro W
    rw [rdW]
    split
    · exact okZ_r
    · exact okZ_b okZ_part ih
