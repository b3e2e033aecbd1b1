/-! read: lines, parts, all, of the class -/
theorem nI_p9 (a : Nat) : nI a + 1 = nI (a + 1) := nI_1 a
def lnP (k : Nat) : Prop := (28 ≤ k ∧ k ≤ 32) ∨ k = 38
def eqLn (nl : Nat) (F F' : Nat → Nat → Int32) : Prop := ∀ k i, k ≠ 2 → k ≠ 8 → (lnP k → i ≠ nl) → (k = 35 → i < 8 * nl ∨ 8 * nl + 8 ≤ i) → F' k i = F k i
theorem eqLn_28 {nl : Nat} {F F' : Nat → Nat → Int32} (h : eq28 F F') : eqLn nl F F' := fun k i a b _ _ => by rw [h k a b]
theorem eqLn_trans {nl : Nat} {F G H : Nat → Nat → Int32} (h1 : eqLn nl F G) (h2 : eqLn nl G H) : eqLn nl F H := fun k i a b c d => (h2 k i a b c d).trans (h1 k i a b c d)
theorem eqLn_w {nl o : Nat} {F : Nat → Nat → Int32} {v : Int32} (h : lnP o) : eqLn nl F (sF F o (upd (F o) nl v)) := fun k i a b c d => by
  by_cases h1 : k = o
  · subst h1
    rw [sF_at, upd_ne _ _ (c h)]
  · rw [sF_ne h1]
def FlL (M0 : Mem) (nl : Nat) (F : Nat → Nat → Int32) (q : Int32 → Mem → Prop) (c p : Nat) : Prop := ∀ F', eqLn nl F F' → F' 8 6 = nI c → F' 8 7 = nI p → q 0 (Rp SC M0 F')
section
variable {G : GV} {k n : Nat} {M0 : Mem} {bb : Nat → Nat} {F : Nat → Nat → Int32} {t : Tok}
theorem c_takeName {q : Int32 → Mem → Prop} {nl : Nat} (hn : n ≤ 600) (hb : ∀ i, i < n → bb i < 256 ∧ M0.1 16 i = sb (bb i)) (ht : gtk bb n t) (hT : TkC bb n (F 2) t) (hnl : nl < 12) (h : elS (nmT t) (FlC M0 F q) (fun _ => ∀ F', eqLn nl F F' → (∀ k, k ≠ 2 → k ≠ 8 → k ≠ 35 → k ≠ 38 → F' k = F k) → TkC bb n (F' 2) (nxT bb n t) → F' 38 nl = nI (t.2.2 - t.2.1) → (∀ j, j < t.2.2 - t.2.1 → F' 35 (8 * nl + j) = nI (bb (t.2.1 + j) - 97)) → q 1 (Rp SC M0 F'))) : Ci shC G mX8_takeName (k + 3) [.ref (G.2.1 8), .int (nI nl)] (Rp SC M0 F) q := by
  have h5 : t.1 < 5 := by
    obtain ⟨e, he, rfl⟩ := ht
    exact tok_5 bb n e
  obtain ⟨g1, g2, _⟩ := gtk_le ht
  refine wp_X8_takeName ?_
  rw [show (Rp SC M0 F).1 2 2 = nI t.1 from hT.2.1]
  by_cases hk : t.1 = 1
  · rw [nmT, if_neg (fun e => e hk)] at h
    refine ⟨fun _ => wp_X10_letters ?_, fun c => absurd (by rw [hk]; rfl) c⟩
    rw [show (Rp SC M0 F).1 2 4 = nI t.2.2 from hT.2.2.2, show (Rp SC M0 F).1 2 3 = nI t.2.1 from hT.2.2.1, nI_sub g1]
    refine ⟨fun c => ?_, fun c => ?_⟩
    · have h8 := (nI_leI (b := 8) (by omega) (by omega)).mp c
      rw [if_neg (by omega)] at h
      obtain ⟨z, hz⟩ : ∃ z, z = t.2.2 - t.2.1 := ⟨_, rfl⟩
      rw [← hz] at h h8
      have hlet : ∀ j, j < z → leB (bb (t.2.1 + j)) = true := fun j hj => by
        obtain ⟨e, he, hte⟩ := ht
        have := tok_let (bb := bb) (n := n) (e := e) (i := t.2.1 + j) (by rw [← hte]; exact hk) (by rw [← hte]; omega) (by rw [← hte]; omega)
        exact this
      refine wp_X5_tell ⟨fun c2 => absurd c2 (nI_pos (by omega)), fun _ => ⟨fun _ => wp_X10_letters ⟨vp_in_nI hnl (by decide), ?_⟩, fun c2 => absurd (nI_lt (b := 12) hnl (by decide)) c2⟩⟩
      rw [show (Rp SC M0 F).1 2 4 = nI t.2.2 from hT.2.2.2, show (Rp SC M0 F).1 2 3 = nI t.2.1 from hT.2.2.1, nI_sub g1, ← hz, ix_nI (by omega), if_neg (show ¬ (8 : Int32) < nI z from nI_nlt (b := z) (a := 8) h8 (by decide)), Rp_mset rfl]
      have loop : ∀ m j f, j + m = z → (∀ j', j' < j → f (8 * nl + j') = nI (bb (t.2.1 + j') - 97)) → (∀ i, i < 8 * nl ∨ 8 * nl + 8 ≤ i → f i = F 35 i) → V shC G mX5_tell (k + 2) 28 [(0, .ref (G.2.1 7)), (1, .int (nI nl)), (2, .ref (G.2.1 2)), (3, .int (nI j))] [] (Rp SC M0 (sF (sF F 38 (upd (F 38) nl (nI z))) 35 f)) (Qv (fun M2 => Cv shC G mX10_step (k + 2) [.ref (G.2.1 2)] M2 (fun M3 => q 1 M3))) := by
        intro m
        induction m with
        | zero =>
          intro j f hj hf1 hf2
          obtain rfl : j = z := by omega
          have e38 : (Rp SC M0 (sF (sF F 38 (upd (F 38) nl (nI j))) 35 f)).1 38 nl = nI j := upd_at _ _ _
          refine wp_X5_tell_28 ⟨vp_in_nI hnl (by decide), ?_⟩
          rw [ix_nI (by omega), e38]
          refine ⟨fun _ => c_stepR hn hb ht (F := sF (sF F 38 (upd (F 38) nl (nI j))) 35 f) hT (fun f2 hf2' => ?_), fun c2 => absurd (nI_le (Nat.le_refl _) (by omega)) c2⟩
          refine h _ (fun k i a b c d => ?_) (fun k a b c d => ?_) (by rw [sF_at]; exact hf2') (upd_at _ _ _) (fun j' hj' => hf1 j' hj')
          · rw [sF_ne a]
            by_cases h1 : k = 35
            · subst h1; rw [sF_at]; exact hf2 i (d rfl)
            · rw [sF_ne h1]
              by_cases h2 : k = 38
              · subst h2; rw [sF_at, upd_ne _ _ (c (Or.inr rfl))]
              · rw [sF_ne h2]
          · rw [sF_ne a, sF_ne c, sF_ne d]
        | succ m ih =>
          intro j f hj hf1 hf2
          have e38 : (Rp SC M0 (sF (sF F 38 (upd (F 38) nl (nI z))) 35 f)).1 38 nl = nI z := upd_at _ _ _
          obtain ⟨b1, b2⟩ := hb (t.2.1 + j) (by omega)
          have hl := hlet j (by omega)
          have h97 : 97 ≤ bb (t.2.1 + j) := by rw [leB, decide_eq_true_iff] at hl; exact hl.1
          refine wp_X5_tell_28 ⟨vp_in_nI hnl (by decide), ?_⟩
          rw [ix_nI (show nl < 2 ^ 31 by omega), e38]
          refine ⟨fun c2 => absurd c2 (nI_ge (by omega) (by omega)), fun _ => wp_X10_letter ?_⟩
          rw [show (Rp SC M0 (sF (sF F 38 (upd (F 38) nl (nI z))) 35 f)).1 2 3 = nI t.2.1 from hT.2.2.1, show (Rp SC M0 (sF (sF F 38 (upd (F 38) nl (nI z))) 35 f)).1 2 1 = nI n from hT.1, nI_add, ix_nI (show t.2.1 + j < 2 ^ 31 by omega), show (Rp SC M0 (sF (sF F 38 (upd (F 38) nl (nI z))) 35 f)).1 16 (t.2.1 + j) = sb (bb (t.2.1 + j)) from b2, sb_pos _ b1 (Or.inl hl), show nI (bb (t.2.1 + j)) - 97 = nI (bb (t.2.1 + j) - 97) from nI_sub (a := bb (t.2.1 + j)) (b := 97) h97, nI_8', nI_add, nI_1, ix_nI (show 8 * nl + j < 2 ^ 31 by omega)]
          refine ⟨fun c2 => absurd c2 (nI_pos (by omega)), fun _ => ⟨fun _ => ⟨vp_in_nI (by omega) (by decide), vp_in_nI (by omega) (by decide), ?_⟩, fun c2 => absurd (nI_lt (by omega) (by omega)) c2⟩⟩
          rw [Rp_mset rfl]
          have l1 := ih (j + 1) (upd f (8 * nl + j) (nI (bb (t.2.1 + j) - 97))) (by omega) (fun j' hj' => ?_) (fun i hi => ?_)
          · have e2 : sF (sF (sF F 38 (upd (F 38) nl (nI z))) 35 f) 35 (upd (sF (sF F 38 (upd (F 38) nl (nI z))) 35 f 35) (8 * nl + j) (nI (bb (t.2.1 + j) - 97))) = sF (sF F 38 (upd (F 38) nl (nI z))) 35 (upd f (8 * nl + j) (nI (bb (t.2.1 + j) - 97))) := by
              funext k
              by_cases h1 : k = 35
              · subst h1; rw [sF_at, sF_at, sF_at]
              · rw [sF_ne h1, sF_ne h1, sF_ne h1]
            rw [e2]
            exact l1
          · rcases Nat.lt_or_ge j' j with h6 | h6
            · rw [upd_ne _ _ (by omega)]; exact hf1 j' h6
            · obtain rfl : j' = j := by omega
              exact upd_at _ _ _
          · rw [upd_ne _ _ (by omega)]; exact hf2 i hi
      have l0 := loop z 0 (F 35) (by omega) (fun j' hj' => absurd hj' (Nat.not_lt_zero _)) (fun i _ => rfl)
      have e0 : sF (sF F 38 (upd (F 38) nl (nI z))) 35 (F 35) = sF F 38 (upd (F 38) nl (nI z)) := by
        funext k
        by_cases h1 : k = 35
        · subst h1; rw [sF_at, sF_ne (by decide)]
        · rw [sF_ne h1]
      rw [e0] at l0
      exact l0
    · have h8 : ¬ t.2.2 - t.2.1 ≤ 8 := fun e => c (nI_le (b := 8) e (by decide))
      rw [if_pos (by omega)] at h
      exact c_fail2 rfl hT h
  · rw [nmT, if_pos hk] at h
    exact ⟨fun c => absurd ((nI_eq (b := 1) (by omega) (by omega)).mp c) hk, fun _ => c_fail2 rfl hT h⟩
theorem c_readLine {q : Int32 → Mem → Prop} {nl nb : Nat} (hn : n ≤ 600) (hb : ∀ i, i < n → bb i < 256 ∧ M0.1 16 i = sb (bb i)) (ht : gtk bb n t) (hT : TkC bb n (F 2) t) (h34 : F 3 4 = nI nb) (hnb : nb ≤ 10) (h69 : F 6 9 = nI nl) (hnl : nl < 12) (h : elS (lineT bb n nb t) (FlL M0 nl F q) (fun r => ∀ F', eqLn nl F F' → TkC bb n (F' 2) r.2.2.2.2.2.2 → F' 28 nl = nI r.1 → F' 29 nl = nI r.2.1 → F' 30 nl = nI r.2.2.1 → F' 31 nl = nI r.2.2.2.1 → F' 32 nl = r.2.2.2.2.2.1 → F' 38 nl = nI (r.2.2.2.2.1.2.2 - r.2.2.2.2.1.2.1) → (∀ j, j < r.2.2.2.2.1.2.2 - r.2.2.2.2.1.2.1 → F' 35 (8 * nl + j) = nI (bb (r.2.2.2.2.1.2.1 + j) - 97)) → q 1 (Rp SC M0 (sF F' 6 (upd (F' 6) 9 (nI (nl + 1))))))) : Ci shC G mX8_readLine (k + 6) [.ref (G.2.1 8)] (Rp SC M0 F) q := by
  have vl : vp_in (nI nl) 12 := vp_in_nI hnl (by decide)
  refine wp_X8_readLine ?_
  rw [show (Rp SC M0 F).1 6 9 = nI nl from h69, show (Rp SC M0 F).1 3 4 = nI nb from h34, ix_nI (show nl < 2 ^ 31 by omega)]
  refine ⟨fun c => absurd c (nI_pos (by omega)), fun _ => ⟨fun _ => c_takeNumber (k := k + 2) hn hb ht hT ?_, fun c => absurd (nI_lt (b := 12) hnl (by decide)) c⟩⟩
  rw [i_0, show (nI nb - 1).toInt = (nb : Int) - 1 from nI_subI (a := nb) (b := 1) (by omega) (by omega)]
  cases h1 : numT bb 0 ((nb : Int) - 1) (-1000000) t with
  | inl e => rw [lineT, h1] at h; exact fun F' a b c => n0 (h F' (eqLn_28 a) b c)
  | inr b =>
    rw [lineT, h1, bnd_r] at h
    intro F1 E1 T1 V1
    refine n1 ⟨vl, ?_⟩
    rw [Rp_mset rfl, show (Rp SC M0 F1).1 8 5 = nI b from V1]
    obtain ⟨H1, hH1⟩ : ∃ H1, H1 = sF F1 28 (upd (F1 28) nl (nI b)) := ⟨_, rfl⟩
    have L1 : eqLn nl F H1 := by rw [hH1]; exact eqLn_trans (eqLn_28 E1) (eqLn_w (Or.inl (by decide)))
    have T1' : TkC bb n (H1 2) (nxT bb n t) := by rw [hH1]; exact T1
    have A1 : H1 28 nl = nI b := by rw [hH1]; exact upd_at _ _ _
    rw [← hH1]
    refine c_takeSort (k := k) hn hb (gtk_nx ht) T1' ?_
    cases h2 : srtT bb (nxT bb n t) with
    | inl e => rw [h2] at h; exact fun F' a b c => n0 (h F' (eqLn_trans L1 (eqLn_28 a)) b c)
    | inr so =>
      rw [h2, bnd_r] at h
      intro F2 E2 T2 V2
      refine n1 ⟨vl, ?_⟩
      rw [Rp_mset rfl, show (Rp SC M0 F2).1 8 5 = nI so from V2]
      obtain ⟨H2, hH2⟩ : ∃ H2, H2 = sF F2 29 (upd (F2 29) nl (nI so)) := ⟨_, rfl⟩
      have L2 : eqLn nl F H2 := by rw [hH2]; exact eqLn_trans L1 (eqLn_trans (eqLn_28 E2) (eqLn_w (Or.inl (by decide))))
      have T2' : TkC bb n (H2 2) (nxT bb n (nxT bb n t)) := by rw [hH2]; exact T2
      have B1 : H2 28 nl = nI b := by rw [hH2, sF_ne (by decide), E2 28 (by decide) (by decide)]; exact A1
      have B2 : H2 29 nl = nI so := by rw [hH2]; exact upd_at _ _ _
      rw [← hH2]
      refine c_takeNumber (k := k + 2) hn hb (gtk_nx (gtk_nx ht)) T2' ?_
      rw [i_0, i_3]
      cases h3 : numT bb 0 3 (-1000000) (nxT bb n (nxT bb n t)) with
      | inl e => rw [h3] at h; exact fun F' a b c => n0 (h F' (eqLn_trans L2 (eqLn_28 a)) b c)
      | inr st =>
        rw [h3, bnd_r] at h
        intro F3 E3 T3 V3
        refine n1 ⟨vl, ?_⟩
        rw [Rp_mset rfl, show (Rp SC M0 F3).1 8 5 = nI st from V3]
        obtain ⟨H3, hH3⟩ : ∃ H3, H3 = sF F3 30 (upd (F3 30) nl (nI st)) := ⟨_, rfl⟩
        have L3 : eqLn nl F H3 := by rw [hH3]; exact eqLn_trans L2 (eqLn_trans (eqLn_28 E3) (eqLn_w (Or.inl (by decide))))
        have T3' : TkC bb n (H3 2) (nxT bb n (nxT bb n (nxT bb n t))) := by rw [hH3]; exact T3
        have C1 : H3 28 nl = nI b := by rw [hH3, sF_ne (by decide), E3 28 (by decide) (by decide)]; exact B1
        have C2 : H3 29 nl = nI so := by rw [hH3, sF_ne (by decide), E3 29 (by decide) (by decide)]; exact B2
        have C3 : H3 30 nl = nI st := by rw [hH3]; exact upd_at _ _ _
        rw [← hH3]
        refine c_takeNumber (k := k + 2) hn hb (gtk_nx (gtk_nx (gtk_nx ht))) T3' ?_
        rw [i_1, i_99]
        cases h4 : numT bb 1 99 (-1000000) (nxT bb n (nxT bb n (nxT bb n t))) with
        | inl e => rw [h4] at h; exact fun F' a b c => n0 (h F' (eqLn_trans L3 (eqLn_28 a)) b c)
        | inr nu =>
          rw [h4, bnd_r] at h
          intro F4 E4 T4 V4
          refine n1 ⟨vl, ?_⟩
          rw [Rp_mset rfl, show (Rp SC M0 F4).1 8 5 = nI nu from V4]
          obtain ⟨H4, hH4⟩ : ∃ H4, H4 = sF F4 31 (upd (F4 31) nl (nI nu)) := ⟨_, rfl⟩
          obtain ⟨t4, ht4⟩ : ∃ t4, t4 = nxT bb n (nxT bb n (nxT bb n (nxT bb n t))) := ⟨_, rfl⟩
          have g4 : gtk bb n t4 := by rw [ht4]; exact gtk_nx (gtk_nx (gtk_nx (gtk_nx ht)))
          have L4 : eqLn nl F H4 := by rw [hH4]; exact eqLn_trans L3 (eqLn_trans (eqLn_28 E4) (eqLn_w (Or.inl (by decide))))
          have T4' : TkC bb n (H4 2) t4 := by rw [hH4, ht4]; exact T4
          have D1 : H4 28 nl = nI b := by rw [hH4, sF_ne (by decide), E4 28 (by decide) (by decide)]; exact C1
          have D2 : H4 29 nl = nI so := by rw [hH4, sF_ne (by decide), E4 29 (by decide) (by decide)]; exact C2
          have D3 : H4 30 nl = nI st := by rw [hH4, sF_ne (by decide), E4 30 (by decide) (by decide)]; exact C3
          have D4 : H4 31 nl = nI nu := by rw [hH4]; exact upd_at _ _ _
          rw [← hH4]
          rw [← ht4] at h
          refine c_takeName (k := k + 2) hn hb g4 T4' hnl ?_
          cases h5 : nmT t4 with
          | inl e => rw [h5] at h; exact fun F' a b c => k0 (h F' (eqLn_trans L4 (eqLn_28 a)) b c)
          | inr u =>
            rw [h5, bnd_r] at h
            intro F5 E5 P5 T5 V5 N5
            refine k1 (c_takeAge (k := k) hn hb (gtk_nx g4) T5 ?_)
            cases h6 : ageT bb n (nxT bb n t4) with
            | inl e => rw [h6] at h; exact fun F' a b c => n0 (h F' (eqLn_trans L4 (eqLn_trans E5 (eqLn_28 a))) b c)
            | inr r =>
              rw [h6, bnd_r] at h
              have gr : gtk bb n r.2 := by
                unfold ageT at h6
                by_cases hw : wdN bb (nxT bb n t4) = cW 9
                · rw [if_pos hw] at h6
                  cases h7 : numT bb 0 120 (-1000000) (nxT bb n (nxT bb n t4)) with
                  | inl e => rw [h7] at h6; cases h6
                  | inr v => rw [h7, bnd_r] at h6; injection h6 with h6; rw [← h6]; exact gtk_nx (gtk_nx (gtk_nx g4))
                · rw [if_neg hw] at h6; injection h6 with h6; rw [← h6]; exact gtk_nx g4
              intro F6 E6 T6 V6
              refine n1 ⟨vl, ?_⟩
              rw [Rp_mset rfl, show (Rp SC M0 F6).1 8 5 = r.1 from V6]
              obtain ⟨H6, hH6⟩ : ∃ H6, H6 = sF F6 32 (upd (F6 32) nl r.1) := ⟨_, rfl⟩
              have L6 : eqLn nl F H6 := by rw [hH6]; exact eqLn_trans L4 (eqLn_trans E5 (eqLn_trans (eqLn_28 E6) (eqLn_w (Or.inl (by decide)))))
              have T6' : TkC bb n (H6 2) r.2 := by rw [hH6]; exact T6
              have P6 : ∀ k, k ≠ 2 → k ≠ 8 → k ≠ 32 → H6 k = F5 k := fun k a b c => by rw [hH6, sF_ne c, E6 k a b]
              rw [← hH6]
              refine c_takeSign (k := k + 2) hn hb gr T6' ?_
              cases h8 : sgT r.2 with
              | inl e => rw [h8] at h; exact fun F' a b c => n0 (h F' (eqLn_trans L6 (eqLn_28 a)) b c)
              | inr z =>
                rw [h8] at h
                intro F7 E7 T7
                refine n1 ?_
                have L7 : eqLn nl F F7 := eqLn_trans L6 (eqLn_28 E7)
                have Q : ∀ k, k ≠ 2 → k ≠ 8 → k ≠ 32 → F7 k = F5 k := fun k a b c => by rw [E7 k a b, P6 k a b c]
                have e69 : F7 6 9 = nI nl := by
                  rw [L7 6 9 (by decide) (by decide) (fun e => by unfold lnP at e; omega) (fun e => by omega)]; exact h69
                rw [Rp_mset rfl, show (Rp SC M0 F7).1 6 9 = nI nl from e69, nI_1]
                refine h F7 L7 T7 ?_ ?_ ?_ ?_ ?_ ?_ ?_
                · rw [Q 28 (by decide) (by decide) (by decide), P5 28 (by decide) (by decide) (by decide) (by decide)]; exact D1
                · rw [Q 29 (by decide) (by decide) (by decide), P5 29 (by decide) (by decide) (by decide) (by decide)]; exact D2
                · rw [Q 30 (by decide) (by decide) (by decide), P5 30 (by decide) (by decide) (by decide) (by decide)]; exact D3
                · rw [Q 31 (by decide) (by decide) (by decide), P5 31 (by decide) (by decide) (by decide) (by decide)]; exact D4
                · rw [E7 32 (by decide) (by decide), hH6, sF_at, upd_at]
                · rw [Q 38 (by decide) (by decide) (by decide)]; exact V5
                · rw [Q 35 (by decide) (by decide) (by decide)]; exact N5
end
