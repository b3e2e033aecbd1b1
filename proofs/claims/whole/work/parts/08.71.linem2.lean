/-! read: lines of the model, whole -/
section
variable {G : GV} {k n nl : Nat} {M0 : Mem} {bb : Nat → Nat} {H : Nat → Nat → Int32} {t : Tok} {B : Nat × Nat × Nat × Nat} {q : Mem → Prop}
theorem c_124_f {c p : Nat} (c1 : 1 ≤ c) (c3 : c ≤ 3) (h36 : H 0 36 = nI c) (h37 : H 0 37 = nI p) (h39 : H 0 39 = nI nl) (hnl : nl < 12) (hB : B.2.1 ≤ nl) (hbk : eqBd (prM B) M0.1 H) (hf : FlP M0 B q c p) : V shM G mX12_readLine (k + 4) 124 [(0, .ref (G.2.1 0)), (1, .int (nI nl))] [] (Rp SM M0 H) (Qv (tailQ G k q)) := by
  have vb : vp_in (nI nl) 12 := vp_in_nI hnl (by decide)
  have xb : ix (nI nl) = nl := ix_nI (by omega)
  refine wp_X12_readLine_124 ?_
  rw [xb]
  refine c_numF (k := k) h36 c1 c3 ⟨vb, ?_⟩
  rw [Rp_mset rfl]
  refine c_numF (k := k) h36 c1 c3 ⟨vb, fun _ => ⟨vb, fun _ => ?_, fun c5 => absurd (h36.symm.trans c5) (nz c1 c3)⟩, fun c5 => absurd (h36.symm.trans c5) (nz c1 c3)⟩
  rw [show (Rp SM M0 (sF H 10 (upd (H 10) nl 0))).1 0 39 = (Rp SM M0 (sF (sF H 10 (upd (H 10) nl 0)) 11 (upd (sF H 10 (upd (H 10) nl 0) 11) nl 0))).1 0 39 from rfl, Rp_mset (o := 11) rfl]
  exact c_finF c1 c3 h36 h37 h39 hB (eqBd_trans hbk (eqBd_trans (eqBd_w (by unfold prM; omega)) (eqBd_w (by unfold prM; omega)))) hf
theorem c_124 {α : Type} {X : Nat → Nat → Int32 × Tok → α} {P : α → Prop} (hn : n ≤ 600) (hb : ∀ i, i < n → bb i < 256 ∧ M0.1 23 i = nI (bb i)) (ht : gtk bb n t) (hT : TkM n (H 0) t) (h36 : H 0 36 = 0) (h39 : H 0 39 = nI nl) (hnl : nl < 12) (hB : B.2.1 ≤ nl) (hbk : eqBd (prM B) M0.1 H) (h : elS (bnd (numT bb 0 3 (-1000000) t) fun st => bnd (numT bb 1 99 (-1000000) (nxT bb n t)) fun nu => bnd (nmT (nxT bb n (nxT bb n t))) fun _ => bnd (ageT bb n (nxT bb n (nxT bb n (nxT bb n t)))) fun r => bnd (sgT r.2) fun _ => .inr (X st nu r)) (FlP M0 B q) P) (hP : ∀ st nu r F1, P (X st nu r) → eqLm nl H F1 → F1 8 = H 8 → F1 9 = H 9 → F1 10 nl = nI st → F1 11 nl = nI nu → F1 12 nl = r.1 → F1 13 nl = nI ((nxT bb n (nxT bb n t)).2.2 - (nxT bb n (nxT bb n t)).2.1) → (∀ j, j < (nxT bb n (nxT bb n t)).2.2 - (nxT bb n (nxT bb n t)).2.1 → F1 14 (8 * nl + j) = nI (bb ((nxT bb n (nxT bb n t)).2.1 + j) - 97)) → TkM n (F1 0) (nxT bb n r.2) → F1 0 36 = 0 → F1 0 39 = nI (nl + 1) → q (Rp SM M0 F1)) : V shM G mX12_readLine (k + 4) 124 [(0, .ref (G.2.1 0)), (1, .int (nI nl))] [] (Rp SM M0 H) (Qv (tailQ G k q)) := by
  have vb : vp_in (nI nl) 12 := vp_in_nI hnl (by decide)
  have xb : ix (nI nl) = nl := ix_nI (by omega)
  refine wp_X12_readLine_124 ?_
  rw [xb]
  -- behind the number: fault, or the name
  have f2 : ∀ (F2 : Nat → Nat → Int32) (x : Int32) {c p : Nat}, 1 ≤ c → c ≤ 3 → F2 0 36 = nI c → F2 0 37 = nI p → F2 0 39 = nI nl → eqBd (prM B) M0.1 F2 → FlP M0 B q c p → vp_in (nI nl) 12 ∧ tailQ G k q (mset (mset (mset (Rp SM M0 F2) 11 nl x) 12 nl (-1000000)) 0 39 (((Rp SM M0 F2).1 0 39) + 1)) := by
    intro F2 x c p c1 c3 e36 e37 e39 hk hf
    refine ⟨vb, ?_⟩
    rw [show (Rp SM M0 F2).1 0 39 = (Rp SM M0 (sF F2 11 (upd (F2 11) nl x))).1 0 39 from rfl, Rp_mset (o := 11) rfl]
    exact c_finF c1 c3 e36 e37 e39 hB (eqBd_trans hk (eqBd_w (by unfold prM; omega))) hf
  refine c_num (k := k) hn hb ht hT h36 ?_
  rw [i_0, i_3, i_N]
  cases h1 : numT bb 0 3 (-1000000) t with
  | inl e =>
    rw [h1] at h
    obtain ⟨c1, c3⟩ := num_c h1
    intro x F1 E1 e36 e37
    refine ⟨vb, ?_⟩
    rw [Rp_mset rfl]
    refine c_numF (k := k) e36 c1 c3 ⟨vb, fun _ => ⟨vb, fun _ => ?_, fun c5 => absurd (e36.symm.trans c5) (nz c1 c3)⟩, fun c5 => absurd (e36.symm.trans c5) (nz c1 c3)⟩
    exact (f2 (sF F1 10 (upd (F1 10) nl x)) 0 c1 c3 e36 e37 (by rw [sF_ne (by decide), E1.2 39 (by omega)]; exact h39) (eqBd_trans hbk (eqBd_trans (eqBd_0 E1) (eqBd_w (by unfold prM; omega)))) h).2
  | inr st =>
    rw [h1, bnd_r] at h
    intro F1 E1 T1 g36
    refine ⟨vb, ?_⟩
    rw [Rp_mset rfl]
    have L1 : eqLm nl H (sF F1 10 (upd (F1 10) nl (nI st))) := eqLm_trans (eqLm_0 E1) (eqLm_w (by decide))
    have g39 : sF F1 10 (upd (F1 10) nl (nI st)) 0 39 = nI nl := by rw [sF_ne (by decide), E1.2 39 (by omega)]; exact h39
    refine c_num (k := k) (F := sF F1 10 (upd (F1 10) nl (nI st))) hn hb (gtk_nx ht) T1 g36 ?_
    rw [i_1, i_99, i_N]
    cases h2 : numT bb 1 99 (-1000000) (nxT bb n t) with
    | inl e =>
      rw [h2] at h
      obtain ⟨c1, c3⟩ := num_c h2
      intro x F2 E2 e36 e37
      have e39 : F2 0 39 = nI nl := by rw [E2.2 39 (by omega)]; exact g39
      have hk2 := eqBd_trans hbk (eqLm_bd hB (eqLm_trans L1 (eqLm_0 E2)))
      exact ⟨vb, fun _ => ⟨vb, fun _ => (f2 F2 x c1 c3 e36 e37 e39 hk2 h).2, fun c5 => absurd (e36.symm.trans c5) (nz c1 c3)⟩, fun c5 => absurd (e36.symm.trans c5) (nz c1 c3)⟩
    | inr nu =>
      rw [h2, bnd_r] at h
      intro F2 E2 T2 j36
      obtain ⟨u, hu⟩ : ∃ u, u = nxT bb n (nxT bb n t) := ⟨_, rfl⟩
      have hgu : gtk bb n u := by rw [hu]; exact gtk_nx (gtk_nx ht)
      rw [← hu] at h hP T2
      obtain ⟨u1, u2, _⟩ := gtk_le hgu
      have j39 : F2 0 39 = nI nl := by rw [E2.2 39 (by omega)]; exact g39
      have f34 : (Rp SM M0 F2).1 0 34 = nI u.2.1 := T2.2.2.2.1
      have f35 : (Rp SM M0 F2).1 0 35 = nI u.2.2 := T2.2.2.2.2
      have f33 : (Rp SM M0 F2).1 0 33 = nI (mkT u.1) := T2.2.2.1
      have h5 := gtk_5 hgu
      rw [f34, f35, nI_sub u1, Rp_mset rfl]
      obtain ⟨H2, hH2⟩ : ∃ H2, H2 = sF F2 11 (upd (F2 11) nl (nI nu)) := ⟨_, rfl⟩
      rw [← hH2]
      have z2 : H2 0 = F2 0 := by rw [hH2]; exact sF_ne (by decide)
      have L2 : eqLm nl H H2 := by rw [hH2]; exact eqLm_trans L1 (eqLm_trans (eqLm_0 E2) (eqLm_w (by decide)))
      refine ⟨vb, fun c => absurd j36 c, fun _ => ?_⟩
      -- the state behind the size of the name
      have st3 : ∀ (H' : Nat → Nat → Int32) (v : Int32), eqLm nl H H' → eqLm nl H (sF H' 13 (upd (H' 13) nl v)) := fun H' v a => eqLm_trans a (eqLm_w (by decide))
      by_cases hk : u.1 = 1
      · have h33 : (Rp SM M0 F2).1 0 33 = 2 := by rw [f33]; exact (mk_2 h5).mpr hk
        refine ⟨fun c => absurd h33 c, fun _ => ⟨fun c => ⟨vb, ?_⟩, fun c => ?_⟩⟩
        · have h8 := (nI_leI (b := 8) (by omega) (by decide)).mp c
          rw [nmT, if_neg (fun e => e hk), if_neg (by omega), bnd_r] at h
          rw [Rp_mset rfl]
          refine c_207 (X := X st nu) (P := P) (H := sF H2 13 (upd (H2 13) nl (nI (u.2.2 - u.2.1)))) hn hb hgu hk h8 (by rw [sF_ne (by decide), z2]; exact T2) (by rw [sF_ne (by decide), z2]; exact j36) (by rw [sF_ne (by decide), z2]; exact j39) hnl hB (eqBd_trans hbk (eqLm_bd hB (st3 _ _ L2))) h (fun r F3 hX L3 p3 a12 a14 T3 l36 l39 => ?_)
          have w10 : H2 10 nl = nI st := by rw [hH2, sF_ne (by decide), E2.1 10 (by decide), sF_at, upd_at]
          have w11 : H2 11 nl = nI nu := by rw [hH2, sF_at, upd_at]
          have w8 : H2 8 = H 8 := by rw [hH2, sF_ne (by decide), E2.1 8 (by decide), sF_ne (by decide), E1.1 8 (by decide)]
          have w9 : H2 9 = H 9 := by rw [hH2, sF_ne (by decide), E2.1 9 (by decide), sF_ne (by decide), E1.1 9 (by decide)]
          refine hP st nu r F3 hX (eqLm_trans (st3 _ _ L2) L3) ?_ ?_ ?_ ?_ a12 ?_ a14 T3 l36 l39
          · rw [p3 8 (by decide) (by decide) (by decide), sF_ne (by decide)]; exact w8
          · rw [p3 9 (by decide) (by decide) (by decide), sF_ne (by decide)]; exact w9
          · rw [p3 10 (by decide) (by decide) (by decide), sF_ne (by decide)]; exact w10
          · rw [p3 11 (by decide) (by decide) (by decide), sF_ne (by decide)]; exact w11
          · rw [p3 13 (by decide) (by decide) (by decide), sF_at, upd_at]
        · have h8 : ¬ u.2.2 - u.2.1 ≤ 8 := fun e => c (nI_le (b := 8) e (by decide))
          rw [nmT, if_neg (fun e => e hk), if_pos (by omega)] at h
          refine c_badF (t := u) (c := 2) rfl (by rw [z2]; exact j36) (by rw [z2]; exact T2.2.2.2.1) (fun F3 E3 _ e36 e37 => ⟨vb, ?_⟩)
          rw [Rp_mset rfl]
          exact c_207_f (c := 2) (p := u.2.1) (by decide) (by decide) e36 e37 (by rw [sF_ne (by decide), E3.2 39 (by omega), z2]; exact j39) hnl hB (eqBd_trans hbk (eqLm_bd hB (st3 _ _ (eqLm_trans L2 (eqLm_0 E3))))) h
      · have h33 : ¬ (Rp SM M0 F2).1 0 33 = 2 := fun e => hk ((mk_2 h5).mp (by rw [← f33]; exact e))
        rw [nmT, if_pos hk] at h
        refine ⟨fun _ => ⟨vb, ?_⟩, fun e => absurd e h33⟩
        rw [Rp_mset rfl]
        exact c_207_n (t := u) hk hgu (by rw [sF_ne (by decide), z2]; exact T2) (by rw [sF_ne (by decide), z2]; exact j36) (by rw [sF_ne (by decide), z2]; exact j39) hnl hB (eqBd_trans hbk (eqLm_bd hB (st3 _ _ L2))) h
theorem c_lnM {nb : Nat} (hn : n ≤ 600) (hb : ∀ i, i < n → bb i < 256 ∧ M0.1 23 i = nI (bb i)) (ht : gtk bb n t) (hT : TkM n (H 0) t) (h36 : H 0 36 = 0) (h38 : H 0 38 = nI nb) (hnb : nb ≤ 10) (h39 : H 0 39 = nI nl) (hnl : nl < 12) (hB : B.2.1 ≤ nl) (hbk : eqBd (prM B) M0.1 H) (h : elS (lineT bb n nb t) (FlP M0 B q) (fun r => ∀ F1, eqLm nl H F1 → TkM n (F1 0) r.2.2.2.2.2.2 → F1 0 36 = 0 → F1 0 39 = nI (nl + 1) → F1 8 nl = nI r.1 → F1 9 nl = nI r.2.1 → F1 10 nl = nI r.2.2.1 → F1 11 nl = nI r.2.2.2.1 → F1 12 nl = r.2.2.2.2.2.1 → F1 13 nl = nI (r.2.2.2.2.1.2.2 - r.2.2.2.2.1.2.1) → (∀ j, j < r.2.2.2.2.1.2.2 - r.2.2.2.2.1.2.1 → F1 14 (8 * nl + j) = nI (bb (r.2.2.2.2.1.2.1 + j) - 97)) → q (Rp SM M0 F1))) : Cv shM G mX12_readPart (k + 5) [.ref (G.2.1 0), .long 1818848869] (Rp SM M0 H) (tailQ G k q) := by
  have vb : vp_in (nI nl) 12 := vp_in_nI hnl (by decide)
  have xb : ix (nI nl) = nl := ix_nI (by omega)
  refine wp_X12_readPart ⟨fun _ => ⟨fun c => absurd rfl c, fun _ => wp_X12_readLine ?_⟩, fun c => absurd c (by decide)⟩
  rw [show (Rp SM M0 H).1 0 39 = nI nl from h39, show (Rp SM M0 H).1 0 38 = nI nb from h38, xb]
  refine c_num (k := k) hn hb ht hT h36 ?_
  rw [i_0, show (nI nb - 1).toInt = (nb : Int) - 1 from nI_subI (a := nb) (b := 1) (by omega) (by omega), i_N]
  cases h1 : numT bb 0 ((nb : Int) - 1) (-1000000) t with
  | inl e =>
    rw [lineT, h1] at h
    obtain ⟨c1, c3⟩ := num_c h1
    intro x F1 E1 e36 e37
    refine ⟨vb, fun _ => ?_, fun c5 => absurd (e36.symm.trans c5) (nz c1 c3)⟩
    rw [Rp_mset rfl]
    exact c_124_f c1 c3 e36 e37 (by rw [sF_ne (by decide), E1.2 39 (by omega)]; exact h39) hnl hB (eqBd_trans hbk (eqBd_trans (eqBd_0 E1) (eqBd_w (by unfold prM; omega)))) h
  | inr b =>
    rw [lineT, h1, bnd_r] at h
    intro F1 E1 T1 g36
    refine ⟨vb, fun c => absurd g36 c, fun _ => ?_⟩
    rw [Rp_mset rfl]
    obtain ⟨H1, hH1⟩ : ∃ H1, H1 = sF F1 8 (upd (F1 8) nl (nI b)) := ⟨_, rfl⟩
    rw [← hH1]
    have z1 : H1 0 = F1 0 := by rw [hH1]; exact sF_ne (by decide)
    have T1' : TkM n (H1 0) (nxT bb n t) := by rw [z1]; exact T1
    have g36' : H1 0 36 = 0 := by rw [z1]; exact g36
    have g39' : H1 0 39 = nI nl := by rw [z1, E1.2 39 (by omega)]; exact h39
    have L1 : eqLm nl H H1 := by rw [hH1]; exact eqLm_trans (eqLm_0 E1) (eqLm_w (by decide))
    have w8 : H1 8 nl = nI b := by rw [hH1, sF_at, upd_at]
    obtain ⟨e, he, hte⟩ := id (gtk_nx ht)
    have hw := wd_lt hte he (fun i hi => (hb i hi).1)
    have key : ∀ i, i < 10 → (lN (wdN bb (nxT bb n t)) = lN (cW i) ↔ wdN bb (nxT bb n t) = cW i) := fun i hi => lN_eq' (by omega) (cW_lt i hi)
    -- a known sort: the rest
    have ok : ∀ (s : Nat) (v : Int32), v = nI s → srtT bb (nxT bb n t) = .inr s → vp_in (nI nl) 12 ∧ Cv shM G mX12_need (k + 3) [.ref (G.2.1 0), .int 1] (mset (Rp SM M0 H1) 9 nl v) (fun M4 => V shM G mX12_readLine (k + 4) 124 [(0, .ref (G.2.1 0)), (1, .int (nI nl))] [] M4 (Qv (tailQ G k q))) := by
      intro s v hv hs
      rw [hs, bnd_r] at h
      refine ⟨vb, ?_⟩
      rw [hv, Rp_mset rfl]
      have L2 : eqLm nl H (sF H1 9 (upd (H1 9) nl (nI s))) := eqLm_trans L1 (eqLm_w (by decide))
      refine c_need1 (k := k + 1) (F := sF H1 9 (upd (H1 9) nl (nI s))) hn hb (gtk_nx ht) T1' g36' (fun F2 E2 T2 j36 => ?_)
      have L3 : eqLm nl H F2 := eqLm_trans L2 (eqLm_0 E2)
      refine c_124 (X := fun st nu r => (b, s, st, nu, nxT bb n (nxT bb n (nxT bb n (nxT bb n t))), r.1, nxT bb n r.2)) (t := nxT bb n (nxT bb n t)) hn hb (gtk_nx (gtk_nx ht)) T2 j36 (by rw [E2.2 39 (by omega)]; exact g39') hnl hB (eqBd_trans hbk (eqLm_bd hB L3)) h (fun st nu r F3 hX L4 a8 a9 a10 a11 a12 a13 a14 T3 l36 l39 => ?_)
      exact hX F3 (eqLm_trans L3 L4) T3 l36 l39 (by rw [a8, E2.1 8 (by decide), sF_ne (by decide)]; exact w8) (by rw [a9, E2.1 9 (by decide), sF_at, upd_at]) a10 a11 a12 a13 a14
    refine c_word (f := H1 0) hte he hn hb rfl T1' ?_
    rw [lw_4, lw_5, lw_6, lw_7, lw_8]
    have kk : ∀ i, i < 10 → lN (wdN bb (nxT bb n t)) ≠ lN (cW i) → ¬ wdN bb (nxT bb n t) = cW i := fun i hi c e => c ((key i hi).mpr e)
    refine ⟨fun e4 => ⟨fun e5 => ⟨fun e6 => ⟨fun e7 => ⟨fun e8 => ?_, fun c => ?_⟩, fun c => ?_⟩, fun c => ?_⟩, fun c => ?_⟩, fun c => ?_⟩
    · have hs : srtT bb (nxT bb n t) = .inl (1, (nxT bb n t).2.1) := by rw [srtT, if_neg (kk 4 (by decide) e4), if_neg (kk 5 (by decide) e5), if_neg (kk 6 (by decide) e6), if_neg (kk 7 (by decide) e7), if_neg (kk 8 (by decide) e8)]
      rw [hs] at h
      refine ⟨vb, ?_⟩
      rw [Rp_mset rfl]
      refine c_need0 (k := k + 1) (t := nxT bb n t) g36' T1'.2.2.2.1 (fun F2 E2 e36 e37 => ?_)
      exact c_124_f (c := 1) (p := (nxT bb n t).2.1) (by decide) (by decide) e36 e37 (by rw [E2.2 39 (by omega)]; exact g39') hnl hB (eqBd_trans hbk (eqLm_bd hB (eqLm_trans L1 (eqLm_trans (eqLm_w (by decide)) (eqLm_0 E2))))) h
    · exact ok 4 4 rfl (by rw [srtT, if_neg (kk 4 (by decide) e4), if_neg (kk 5 (by decide) e5), if_neg (kk 6 (by decide) e6), if_neg (kk 7 (by decide) e7), if_pos ((key 8 (by decide)).mp c)])
    · exact ok 3 3 rfl (by rw [srtT, if_neg (kk 4 (by decide) e4), if_neg (kk 5 (by decide) e5), if_neg (kk 6 (by decide) e6), if_pos ((key 7 (by decide)).mp c)])
    · exact ok 2 2 rfl (by rw [srtT, if_neg (kk 4 (by decide) e4), if_neg (kk 5 (by decide) e5), if_pos ((key 6 (by decide)).mp c)])
    · exact ok 1 1 rfl (by rw [srtT, if_neg (kk 4 (by decide) e4), if_pos ((key 5 (by decide)).mp c)])
    · exact ok 0 0 rfl (by rw [srtT, if_pos ((key 4 (by decide)).mp c)])
end
