/-! read: lines of the model -/
def eqLm (nl : Nat) (F F' : Nat → Nat → Int32) : Prop := ∀ k i, (k = 0 → i < 32 ∨ (37 < i ∧ i ≠ 39)) → (8 ≤ k ∧ k ≤ 13 → i ≠ nl) → (k = 14 → i < 8 * nl ∨ 8 * nl + 8 ≤ i) → F' k i = F k i
theorem eqLm_trans {nl : Nat} {F G H : Nat → Nat → Int32} (h1 : eqLm nl F G) (h2 : eqLm nl G H) : eqLm nl F H := fun k i a b c => (h2 k i a b c).trans (h1 k i a b c)
theorem eqLm_0 {nl : Nat} {F F' : Nat → Nat → Int32} (h : eq0 F F') : eqLm nl F F' := fun k i a _ _ => by
  by_cases hk : k = 0
  · subst hk; exact h.2 i (by have := a rfl; omega)
  · rw [h.1 k hk]
theorem eqLm_w {nl o : Nat} {F : Nat → Nat → Int32} {v : Int32} (h : 8 ≤ o ∧ o ≤ 13) : eqLm nl F (sF F o (upd (F o) nl v)) := fun k i a b _ => by
  by_cases h1 : k = o
  · subst h1; rw [sF_at, upd_ne _ _ (b h)]
  · rw [sF_ne h1]
theorem eqLm_bd {nl : Nat} {B : Nat × Nat × Nat × Nat} {F F' : Nat → Nat → Int32} (hB : B.2.1 ≤ nl) (h : eqLm nl F F') : eqBd (prM B) F F' := fun k i a => h k i (by unfold prM at a; omega) (by unfold prM at a; omega) (by unfold prM at a; omega)
def ageQ (G : GV) (k : Nat) (v1 : Int32) (q : Mem → Prop) (M5 : Mem) : Prop := vp_in v1 12 ∧ (((M5.1 0 36) ≠ 0 → q (mset (mset M5 12 (ix v1) (-1000000)) 0 39 ((M5.1 0 39) + 1))) ∧ ((M5.1 0 36) = 0 → Cl shM G mX12_word (k + 3) [.ref (G.2.1 0)] (mset M5 12 (ix v1) (-1000000)) (fun x6 M6 => ((x6 ≠ 6383461 → q (mset M6 0 39 ((M6.1 0 39) + 1))) ∧ (x6 = 6383461 → Cv shM G mX12_step (k + 3) [.ref (G.2.1 0)] M6 (fun M7 => Ci shM G mX12_numberIn (k + 3) [.ref (G.2.1 0), .int 0, .int 120, .int (-1000000)] M7 (fun x8 M8 => vp_in v1 12 ∧ q (mset (mset M8 12 (ix v1) x8) 0 39 ((M8.1 0 39) + 1)))))))))
theorem i_120' : (120 : Int32).toInt = 120 := by decide
theorem lw_9 : (6383461 : Int64) = lN (cW 9) := rfl
theorem lw_4 : (119200164373860 : Int64) = lN (cW 4) := rfl
theorem lw_5 : (491261289828 : Int64) = lN (cW 5) := rfl
theorem lw_6 : (27988572849333604 : Int64) = lN (cW 6) := rfl
theorem lw_7 : (500135191653 : Int64) = lN (cW 7) := rfl
theorem lw_8 : (495873780837 : Int64) = lN (cW 8) := rfl
theorem cW_lt : ∀ i, i < 10 → cW i < 2 ^ 63 := by decide +kernel
section
variable {G : GV} {k n nl : Nat} {M0 : Mem} {bb : Nat → Nat} {H : Nat → Nat → Int32} {t : Tok} {B : Nat × Nat × Nat × Nat} {q : Mem → Prop}
theorem c_tailL (hn : n ≤ 600) (hb : ∀ i, i < n → bb i < 256 ∧ M0.1 23 i = nI (bb i)) (ht : gtk bb n t) (hT : TkM n (H 0) t) (h36 : H 0 36 = 0) (h39 : H 0 39 = nI nl) (hbk : eqBd (prM B) M0.1 H) (h : elS (sgT t) (FlP M0 B q) (fun _ => ∀ F1, eqLm nl H F1 → (∀ k, k ≠ 0 → F1 k = H k) → TkM n (F1 0) (nxT bb n t) → F1 0 36 = 0 → F1 0 39 = nI (nl + 1) → q (Rp SM M0 F1))) : tailQ G k q (mset (Rp SM M0 H) 0 39 ((Rp SM M0 H).1 0 39 + 1)) := by
  rw [show (Rp SM M0 H).1 0 39 = nI nl from h39, nI_1, Rp_mset rfl]
  obtain ⟨H1, hH1⟩ : ∃ H1, H1 = sF H 0 (upd (H 0) 39 (nI (nl + 1))) := ⟨_, rfl⟩
  rw [← hH1]
  have z0 : ∀ j, j ≠ 39 → H1 0 j = H 0 j := fun j hj => by rw [hH1, sF_at, upd_ne _ _ hj]
  have T1 : TkM n (H1 0) t := by
    unfold TkM
    rw [z0 31 (by decide), z0 32 (by decide), z0 33 (by decide), z0 34 (by decide), z0 35 (by decide)]; exact hT
  refine c_tail hn hb ht T1 (by rw [z0 36 (by decide)]; exact h36) (eqBd_trans hbk (by rw [hH1]; exact eqBd_w (by unfold prM; omega))) ?_
  cases h4 : sgT t with
  | inl e => rw [h4] at h; exact h
  | inr u =>
    rw [h4] at h
    intro F1 E1 T1 g36
    refine h F1 (eqLm_trans (fun k i a _ _ => ?_ : eqLm nl H H1) (eqLm_0 E1)) (fun k a => by rw [E1.1 k a, hH1, sF_ne a]) T1 g36 (by rw [E1.2 39 (by omega), hH1, sF_at, upd_at])
    by_cases hk : k = 0
    · subst hk; exact z0 i (by have := a rfl; omega)
    · rw [hH1, sF_ne hk]
theorem c_finF {c p : Nat} {x : Int32} (c1 : 1 ≤ c) (c3 : c ≤ 3) (h36 : H 0 36 = nI c) (h37 : H 0 37 = nI p) (h39 : H 0 39 = nI nl) (hB : B.2.1 ≤ nl) (hbk : eqBd (prM B) M0.1 H) (hf : FlP M0 B q c p) : tailQ G k q (mset (mset (Rp SM M0 H) 12 nl x) 0 39 ((Rp SM M0 H).1 0 39 + 1)) := by
  rw [show (Rp SM M0 H).1 0 39 = nI nl from h39, Rp_mset rfl, Rp_mset rfl]
  exact c_tail_f c1 c3 (by rw [sF_at, upd_ne _ _ (by decide), sF_ne (by decide)]; exact h36) (by rw [sF_at, upd_ne _ _ (by decide), sF_ne (by decide)]; exact h37) (eqBd_trans hbk (eqBd_trans (eqBd_w (by unfold prM; omega)) (eqBd_w (by unfold prM; omega)))) hf
theorem ageQ_f {c p : Nat} (c1 : 1 ≤ c) (c3 : c ≤ 3) (h36 : H 0 36 = nI c) (h37 : H 0 37 = nI p) (h39 : H 0 39 = nI nl) (hnl : nl < 12) (hB : B.2.1 ≤ nl) (hbk : eqBd (prM B) M0.1 H) (hf : FlP M0 B q c p) : ageQ G k (nI nl) (tailQ G k q) (Rp SM M0 H) := by
  refine ⟨vp_in_nI hnl (by decide), fun _ => ?_, fun c5 => absurd (h36.symm.trans c5) (nz c1 c3)⟩
  rw [ix_nI (show nl < 2 ^ 31 by omega)]
  exact c_finF c1 c3 h36 h37 h39 hB hbk hf
theorem ageQ_ok {α : Type} {X : Int32 × Tok → α} {P : α → Prop} (hn : n ≤ 600) (hb : ∀ i, i < n → bb i < 256 ∧ M0.1 23 i = nI (bb i)) (ht : gtk bb n t) (hT : TkM n (H 0) t) (h36 : H 0 36 = 0) (h39 : H 0 39 = nI nl) (hnl : nl < 12) (hB : B.2.1 ≤ nl) (hbk : eqBd (prM B) M0.1 H) (h : elS (bnd (ageT bb n t) fun r => bnd (sgT r.2) fun _ => .inr (X r)) (FlP M0 B q) P) (hP : ∀ r F1, P (X r) → eqLm nl H F1 → (∀ k, k ≠ 0 → k ≠ 12 → F1 k = H k) → F1 12 nl = r.1 → TkM n (F1 0) (nxT bb n r.2) → F1 0 36 = 0 → F1 0 39 = nI (nl + 1) → q (Rp SM M0 F1)) : ageQ G k (nI nl) (tailQ G k q) (Rp SM M0 H) := by
  have vb : vp_in (nI nl) 12 := vp_in_nI hnl (by decide)
  refine ⟨vb, fun c => absurd h36 c, fun _ => ?_⟩
  rw [ix_nI (show nl < 2 ^ 31 by omega), Rp_mset rfl]
  obtain ⟨H1, hH1⟩ : ∃ H1, H1 = sF H 12 (upd (H 12) nl (-1000000)) := ⟨_, rfl⟩
  rw [← hH1]
  have z0 : H1 0 = H 0 := by rw [hH1]; exact sF_ne (by decide)
  have L1 : eqLm nl H H1 := by rw [hH1]; exact eqLm_w (by decide)
  have T1 : TkM n (H1 0) t := by rw [z0]; exact hT
  have b1 := eqBd_trans hbk (eqLm_bd hB L1)
  have a12 : H1 12 nl = -1000000 := by rw [hH1, sF_at, upd_at]
  have p1 : ∀ k, k ≠ 12 → H1 k = H k := fun k a => by rw [hH1, sF_ne a]
  obtain ⟨e, he, hte⟩ := id ht
  have hw := wd_lt hte he (fun i hi => (hb i hi).1)
  refine c_word (f := H1 0) hte he hn hb rfl T1 ⟨fun c => ?_, fun c => ?_⟩
  · have hc : ¬ wdN bb t = cW 9 := fun e9 => c (by rw [e9, lw_9])
    rw [ageT, if_neg hc, bnd_r] at h
    replace h : elS (bnd (sgT t) fun _ => .inr (X (-1000000, t))) (FlP M0 B q) P := h
    refine c_tailL hn hb ht T1 (by rw [z0]; exact h36) (by rw [z0]; exact h39) b1 ?_
    cases h4 : sgT t with
    | inl e => rw [h4] at h; exact h
    | inr u =>
      rw [h4] at h
      intro F1 L2 p2 T2 g36 g39
      exact hP (-1000000, t) F1 h (eqLm_trans L1 L2) (fun k a b => by rw [p2 k a, p1 k b]) (by rw [p2 12 (by decide)]; exact a12) T2 g36 g39
  · have hc : wdN bb t = cW 9 := (lN_eq' (by omega) (cW_lt 9 (by decide))).mp (by rw [← lw_9]; exact c)
    rw [ageT, if_pos hc] at h
    refine c_stepRM (k := k + 2) hn hb ht T1 (fun f hE hf => ?_)
    have L2 : eqLm nl H (sF H1 0 f) := eqLm_trans L1 (eqLm_0 (eq0_s (fun j a => hE j (by omega))))
    have f39 : f 39 = nI nl := by rw [hE 39 (by omega), z0]; exact h39
    refine c_num (k := k) (F := sF H1 0 f) hn hb (gtk_nx ht) hf (by rw [sF_at, hE 36 (by omega), z0]; exact h36) ?_
    rw [i_0, i_120', i_N]
    cases h7 : numT bb 0 120 (-1000000) (nxT bb n t) with
    | inl e =>
      rw [h7] at h
      obtain ⟨c1, c3⟩ := num_c h7
      intro x F2 E2 e36 e37
      exact ⟨vb, c_finF c1 c3 e36 e37 (by rw [E2.2 39 (by omega), sF_at]; exact f39) hB (eqBd_trans hbk (eqLm_bd hB (eqLm_trans L2 (eqLm_0 E2)))) h⟩
    | inr v =>
      rw [h7, bnd_r, bnd_r] at h
      replace h : elS (bnd (sgT (nxT bb n (nxT bb n t))) fun _ => .inr (X (nI v, nxT bb n (nxT bb n t)))) (FlP M0 B q) P := h
      intro F2 E2 T2 g36
      refine ⟨vb, ?_⟩
      rw [show (Rp SM M0 F2).1 0 39 = (Rp SM M0 (sF F2 12 (upd (F2 12) nl (nI v)))).1 0 39 from rfl, Rp_mset rfl]
      have L3 : eqLm nl H (sF F2 12 (upd (F2 12) nl (nI v))) := eqLm_trans L2 (eqLm_trans (eqLm_0 E2) (eqLm_w (by decide)))
      refine c_tailL (H := sF F2 12 (upd (F2 12) nl (nI v))) hn hb (gtk_nx (gtk_nx ht)) T2 g36 (by rw [sF_ne (by decide), E2.2 39 (by omega), sF_at]; exact f39) (eqBd_trans hbk (eqLm_bd hB L3)) ?_
      cases h4 : sgT (nxT bb n (nxT bb n t)) with
      | inl e => rw [h4] at h; exact h
      | inr u =>
        rw [h4] at h
        intro F3 L4 p2 T3 j36 j39
        exact hP (nI v, nxT bb n (nxT bb n t)) F3 h (eqLm_trans L3 L4) (fun k a b => by rw [p2 k a, sF_ne b, E2.1 k a, sF_ne a, p1 k b]) (by rw [p2 12 (by decide), sF_at, upd_at]) T3 j36 j39
theorem c_207_f {c p : Nat} {v2 : Int32} (c1 : 1 ≤ c) (c3 : c ≤ 3) (h36 : H 0 36 = nI c) (h37 : H 0 37 = nI p) (h39 : H 0 39 = nI nl) (hnl : nl < 12) (hB : B.2.1 ≤ nl) (hbk : eqBd (prM B) M0.1 H) (hf : FlP M0 B q c p) : V shM G mX12_readLine (k + 4) 207 [(0, .ref (G.2.1 0)), (1, .int (nI nl)), (2, .int v2)] [] (Rp SM M0 H) (Qv (tailQ G k q)) := by
  have nf : ∀ v : Int32, Cv shM G mX12_need (k + 3) [.ref (G.2.1 0), .int v] (Rp SM M0 H) (fun M1 => ageQ G k (nI nl) (tailQ G k q) M1) := fun v => c_need_f (k := k + 1) (by rw [h36]; exact nz c1 c3) (ageQ_f c1 c3 h36 h37 h39 hnl hB hbk hf)
  exact wp_X12_readLine_207 ⟨fun _ => ⟨fun _ => nf 0, fun _ => nf 1⟩, fun _ => ⟨fun _ => ⟨fun _ => nf 0, fun _ => nf 1⟩, fun _ => ⟨fun _ => ⟨fun _ => nf 0, fun _ => nf 1⟩, fun c5 => absurd (h36.symm.trans c5) (nz c1 c3)⟩⟩⟩
theorem c_207_n {v2 : Int32} (hk : ¬ t.1 = 1) (ht : gtk bb n t) (hT : TkM n (H 0) t) (h36 : H 0 36 = 0) (h39 : H 0 39 = nI nl) (hnl : nl < 12) (hB : B.2.1 ≤ nl) (hbk : eqBd (prM B) M0.1 H) (hf : FlP M0 B q 1 t.2.1) : V shM G mX12_readLine (k + 4) 207 [(0, .ref (G.2.1 0)), (1, .int (nI nl)), (2, .int v2)] [] (Rp SM M0 H) (Qv (tailQ G k q)) := by
  have h2 : ¬ (Rp SM M0 H).1 0 33 = 2 := fun e => hk ((mk_2 (gtk_5 ht)).mp (by rw [← hT.2.2.1]; exact e))
  have nf : Cv shM G mX12_need (k + 3) [.ref (G.2.1 0), .int 0] (Rp SM M0 H) (fun M1 => ageQ G k (nI nl) (tailQ G k q) M1) := c_need0 (k := k + 1) (t := t) h36 hT.2.2.2.1 (fun F' a b c => ageQ_f (c := 1) (p := t.2.1) (by decide) (by decide) b c (by rw [a.2 39 (by omega)]; exact h39) hnl hB (eqBd_trans hbk (eqBd_0 a)) hf)
  exact wp_X12_readLine_207 ⟨fun _ => ⟨fun _ => nf, fun e => absurd e h2⟩, fun _ => ⟨fun _ => ⟨fun _ => nf, fun e => absurd e h2⟩, fun e => absurd e h2⟩⟩
theorem c_207 {α : Type} {X : Int32 × Tok → α} {P : α → Prop} (hn : n ≤ 600) (hb : ∀ i, i < n → bb i < 256 ∧ M0.1 23 i = nI (bb i)) (ht : gtk bb n t) (hk : t.1 = 1) (h8 : t.2.2 - t.2.1 ≤ 8) (hT : TkM n (H 0) t) (h36 : H 0 36 = 0) (h39 : H 0 39 = nI nl) (hnl : nl < 12) (hB : B.2.1 ≤ nl) (hbk : eqBd (prM B) M0.1 H) (h : elS (bnd (ageT bb n (nxT bb n t)) fun r => bnd (sgT r.2) fun _ => .inr (X r)) (FlP M0 B q) P) (hP : ∀ r F1, P (X r) → eqLm nl H F1 → (∀ k, k ≠ 0 → k ≠ 12 → k ≠ 14 → F1 k = H k) → F1 12 nl = r.1 → (∀ j, j < t.2.2 - t.2.1 → F1 14 (8 * nl + j) = nI (bb (t.2.1 + j) - 97)) → TkM n (F1 0) (nxT bb n r.2) → F1 0 36 = 0 → F1 0 39 = nI (nl + 1) → q (Rp SM M0 F1)) : V shM G mX12_readLine (k + 4) 207 [(0, .ref (G.2.1 0)), (1, .int (nI nl)), (2, .int (nI t.2.1))] [] (Rp SM M0 H) (Qv (tailQ G k q)) := by
  obtain ⟨g1, g2, _⟩ := gtk_le ht
  have h2 : H 0 33 = 2 := by rw [hT.2.2.1]; exact (mk_2 (gtk_5 ht)).mpr hk
  have hlet : ∀ j, j < t.2.2 - t.2.1 → leB (bb (t.2.1 + j)) = true := fun j hj => by
    obtain ⟨e, he, hte⟩ := ht
    exact tok_let (bb := bb) (n := n) (e := e) (i := t.2.1 + j) (by rw [← hte]; exact hk) (by rw [← hte]; omega) (by rw [← hte]; omega)
  have loop : ∀ m j f, j + m = t.2.2 - t.2.1 → (∀ j', j' < j → f (8 * nl + j') = nI (bb (t.2.1 + j') - 97)) → (∀ i, i < 8 * nl ∨ 8 * nl + 8 ≤ i → f i = H 14 i) → V shM G mX12_readLine (k + 4) 207 [(0, .ref (G.2.1 0)), (1, .int (nI nl)), (2, .int (nI (t.2.1 + j)))] [] (Rp SM M0 (sF H 14 f)) (Qv (tailQ G k q)) := by
    intro m
    induction m with
    | zero =>
      intro j f hj hf1 hf2
      have L1 : eqLm nl H (sF H 14 f) := fun k i _ _ c => by
        by_cases h1 : k = 14
        · subst h1; rw [sF_at]; exact hf2 i (c rfl)
        · rw [sF_ne h1]
      refine wp_X12_readLine_207 ⟨fun _ => ⟨fun e => absurd h2 e, fun _ => ?_⟩, fun c => absurd (show (Rp SM M0 (sF H 14 f)).1 0 35 ≤ nI (t.2.1 + j) from by rw [show (Rp SM M0 (sF H 14 f)).1 0 35 = nI t.2.2 from hT.2.2.2.2]; exact nI_le (by omega) (by omega)) c⟩
      refine c_need1 (k := k + 1) (F := sF H 14 f) (q := ageQ G k (nI nl) (tailQ G k q)) hn hb ht hT h36 (fun F' E' T' e36 => ?_)
      refine ageQ_ok (X := X) (P := P) hn hb (gtk_nx ht) T' e36 (by rw [E'.2 39 (by omega)]; exact h39) hnl hB (eqBd_trans hbk (eqLm_bd hB (eqLm_trans L1 (eqLm_0 E')))) h (fun r F1 hX L2 p2 a12 T2 g36 g39 => ?_)
      refine hP r F1 hX (eqLm_trans L1 (eqLm_trans (eqLm_0 E') L2)) (fun k a b c => by rw [p2 k a b, E'.1 k a, sF_ne c]) a12 (fun j' hj' => ?_) T2 g36 g39
      rw [p2 14 (by decide) (by decide), E'.1 14 (by decide), sF_at]
      exact hf1 j' (by omega)
    | succ m ih =>
      intro j f hj hf1 hf2
      obtain ⟨b1, b2⟩ := hb (t.2.1 + j) (by omega)
      have hl := hlet j (by omega)
      have h97 : 97 ≤ bb (t.2.1 + j) := by rw [leB, decide_eq_true_iff] at hl; exact hl.1
      have e34 : (Rp SM M0 (sF H 14 f)).1 0 34 = nI t.2.1 := hT.2.2.2.1
      refine wp_X12_readLine_207 ⟨fun c => absurd (show nI t.2.2 ≤ nI (t.2.1 + j) from by rw [← hT.2.2.2.2]; exact c) (nI_ge (by omega) (by omega)), fun _ => ⟨fun e => absurd h2 e, fun _ => ⟨fun e => absurd h36 e, fun _ => ?_⟩⟩⟩
      rw [e34, show (8 : Int32) * nI nl = nI (8 * nl) from nI_mul 8 nl, nI_add, nI_sub (show t.2.1 ≤ 8 * nl + (t.2.1 + j) by omega), show 8 * nl + (t.2.1 + j) - t.2.1 = 8 * nl + j by omega, ix_nI (show t.2.1 + j < 2 ^ 31 by omega), ix_nI (show 8 * nl + j < 2 ^ 31 by omega), show (Rp SM M0 (sF H 14 f)).1 23 (t.2.1 + j) = nI (bb (t.2.1 + j)) from b2, show nI (bb (t.2.1 + j)) - 97 = nI (bb (t.2.1 + j) - 97) from nI_sub (a := bb (t.2.1 + j)) (b := 97) h97, nI_1, Rp_mset rfl]
      refine ⟨vp_in_nI (by omega) (by decide), vp_in_nI (by omega) (by decide), ?_⟩
      have e2 : sF (sF H 14 f) 14 (upd (sF H 14 f 14) (8 * nl + j) (nI (bb (t.2.1 + j) - 97))) = sF H 14 (upd f (8 * nl + j) (nI (bb (t.2.1 + j) - 97))) := by
        funext k
        by_cases h1 : k = 14
        · subst h1; rw [sF_at, sF_at, sF_at]
        · rw [sF_ne h1, sF_ne h1, sF_ne h1]
      rw [e2]
      refine ih (j + 1) _ (by omega) (fun j' hj' => ?_) (fun i hi => ?_)
      · by_cases h1 : j' = j
        · subst h1; rw [upd_at]
        · rw [upd_ne _ _ (by omega)]; exact hf1 j' (by omega)
      · rw [upd_ne _ _ (by omega)]; exact hf2 i hi
  have l0 := loop (t.2.2 - t.2.1) 0 (H 14) (by omega) (fun j' hj' => absurd hj' (by omega)) (fun i _ => rfl)
  have e0 : sF H 14 (H 14) = H := by
    funext k
    by_cases h1 : k = 14
    · subst h1; rw [sF_at]
    · rw [sF_ne h1]
  rw [e0] at l0
  exact l0
end
