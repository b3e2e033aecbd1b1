/-! read: numbers and parts of the model -/
def eq0 (F F' : Nat → Nat → Int32) : Prop := (∀ k, k ≠ 0 → F' k = F k) ∧ ∀ j, (j < 32 ∨ 37 < j) → F' 0 j = F 0 j
theorem eq0_refl (F : Nat → Nat → Int32) : eq0 F F := ⟨fun _ _ => rfl, fun _ _ => rfl⟩
theorem eq0_trans {F G H : Nat → Nat → Int32} (h1 : eq0 F G) (h2 : eq0 G H) : eq0 F H := ⟨fun k a => (h2.1 k a).trans (h1.1 k a), fun j a => (h2.2 j a).trans (h1.2 j a)⟩
theorem eq0_s {F : Nat → Nat → Int32} {f : Nat → Int32} (h : ∀ j, (j < 32 ∨ 37 < j) → f j = F 0 j) : eq0 F (sF F 0 f) := ⟨fun k a => sF_ne a, fun j a => by rw [sF_at]; exact h j a⟩
def FlM (M0 : Mem) (F : Nat → Nat → Int32) (q : Int32 → Mem → Prop) (c p : Nat) : Prop := ∀ x F', eq0 F F' → F' 0 36 = nI c → F' 0 37 = nI p → q x (Rp SM M0 F')
theorem num_c {bb : Nat → Nat} {lo hi no : Int} {t : Tok} {e : Nat × Nat} (h : numT bb lo hi no t = .inl e) : 1 ≤ e.1 ∧ e.1 ≤ 3 := by
  unfold numT at h
  split at h
  · injection h with h; rw [← h]; show 1 ≤ 1 ∧ 1 ≤ 3; decide
  · split at h
    · injection h with h; rw [← h]; show 1 ≤ 2 ∧ 2 ≤ 3; decide
    · cases h
section
variable {G : GV} {k n : Nat} {M0 : Mem} {bb : Nat → Nat} {F : Nat → Nat → Int32} {t : Tok}
theorem c_badF {q : Mem → Prop} {c : Nat} {v : Int32} (hv : v = nI c) (h36 : F 0 36 = 0) (h34 : F 0 34 = nI t.2.1) (h : ∀ F', eq0 F F' → (∀ j, j < 36 ∨ 37 < j → F' 0 j = F 0 j) → F' 0 36 = nI c → F' 0 37 = nI t.2.1 → q (Rp SM M0 F')) : Cv shM G mX12_bad k [.ref (G.2.1 0), .int v] (Rp SM M0 F) q := by
  refine wp_X12_bad ⟨fun c5 => absurd h36 c5, fun _ => ?_⟩
  rw [Rp_mset rfl, Rp_mset rfl, show (Rp SM M0 F).1 0 34 = nI t.2.1 from h34, hv]
  refine h _ ⟨fun k a => by rw [sF_ne a, sF_ne a], fun j a => ?_⟩ (fun j a => ?_) ?_ ?_
  · rw [sF_at, sF_at, upd_ne _ _ (by omega), upd_ne _ _ (by omega)]
  · rw [sF_at, sF_at, upd_ne _ _ (by omega), upd_ne _ _ (by omega)]
  · rw [sF_at, sF_at, upd_ne _ _ (by decide), upd_at]
  · rw [sF_at, upd_at]
theorem nz {c : Nat} (h1 : 1 ≤ c) (h3 : c ≤ 3) : ¬ nI c = 0 := nI_ne0 h1 (by omega)
theorem c_need_f {q : Mem → Prop} {v : Int32} (h36 : ¬ F 0 36 = 0) (h : q (Rp SM M0 F)) : Cv shM G mX12_need (k + 2) [.ref (G.2.1 0), .int v] (Rp SM M0 F) q :=
  wp_X12_need ⟨fun _ => ⟨fun _ => h, fun c => absurd c h36⟩, fun _ => wp_X12_bad ⟨fun _ => ⟨fun _ => h, fun c => absurd c h36⟩, fun c => absurd c h36⟩⟩
theorem c_need0 {q : Mem → Prop} (h36 : F 0 36 = 0) (h34 : F 0 34 = nI t.2.1) (h : ∀ F', eq0 F F' → F' 0 36 = nI 1 → F' 0 37 = nI t.2.1 → q (Rp SM M0 F')) : Cv shM G mX12_need (k + 2) [.ref (G.2.1 0), .int 0] (Rp SM M0 F) q :=
  wp_X12_need ⟨fun c => absurd rfl c, fun _ => c_badF rfl h36 h34 (fun F' a _ b c => ⟨fun _ => h F' a b c, fun c5 => absurd (b.symm.trans c5) (by decide)⟩)⟩
theorem c_stepRM {q : Mem → Prop} (hn : n ≤ 600) (hb : ∀ i, i < n → bb i < 256 ∧ M0.1 23 i = nI (bb i)) (ht : gtk bb n t) (hT : TkM n (F 0) t) (hq : ∀ f, eqM (F 0) f → TkM n f (nxT bb n t) → q (Rp SM M0 (sF F 0 f))) : Cv shM G mX12_step (k + 1) [.ref (G.2.1 0)] (Rp SM M0 F) q := by
  have h5 := c_stepM (G := G) (k := k) (q := q) (M := Rp SM M0 F) (f := F 0) hn (gtk_le ht).2.1 hb hT.1 hT.2.1 (fun f hE hf => by rw [Rp_aset rfl]; exact hq f hE hf)
  rw [show aset (Rp SM M0 F) 0 (F 0) = Rp SM M0 F from aset_self] at h5
  exact h5
theorem c_need1 {q : Mem → Prop} (hn : n ≤ 600) (hb : ∀ i, i < n → bb i < 256 ∧ M0.1 23 i = nI (bb i)) (ht : gtk bb n t) (hT : TkM n (F 0) t) (h36 : F 0 36 = 0) (h : ∀ F', eq0 F F' → TkM n (F' 0) (nxT bb n t) → F' 0 36 = 0 → q (Rp SM M0 F')) : Cv shM G mX12_need (k + 2) [.ref (G.2.1 0), .int 1] (Rp SM M0 F) q := by
  refine wp_X12_need ⟨fun _ => ⟨fun c => absurd h36 c, fun _ => c_stepRM hn hb ht hT (fun f hE hf => ?_)⟩, fun c => absurd c (by decide)⟩
  exact h _ (eq0_s (fun j a => hE j (by omega))) (by rw [sF_at]; exact hf) (by rw [sF_at, hE 36 (by omega)]; exact h36)
theorem c_numF {q : Int32 → Mem → Prop} {lo hi no : Int32} {c : Nat} (h36 : F 0 36 = nI c) (c1 : 1 ≤ c) (c3 : c ≤ 3) (h : q 0 (Rp SM M0 F)) : Ci shM G mX12_numberIn (k + 3) [.ref (G.2.1 0), .int lo, .int hi, .int no] (Rp SM M0 F) q := by
  refine wp_X12_numberIn ⟨fun c5 => ?_, fun _ => h⟩
  rw [show (Rp SM M0 F).1 0 36 = nI c from h36] at c5
  exact absurd c5 (nI_nle (by omega) (by omega))
theorem mk_all : ∀ a, a < 5 → (nI (mkT a) = 3 ↔ a = 2) ∧ (nI (mkT a) = 4 ↔ a = 3) ∧ (nI (mkT a) = 2 ↔ a = 1) ∧ (nI (mkT a) = 1 ↔ a = 0) := by decide +kernel
theorem mk_3 {t : Tok} (h5 : t.1 < 5) : nI (mkT t.1) = 3 ↔ t.1 = 2 := (mk_all _ h5).1
theorem mk_4 {t : Tok} (h5 : t.1 < 5) : nI (mkT t.1) = 4 ↔ t.1 = 3 := (mk_all _ h5).2.1
theorem mk_2 {t : Tok} (h5 : t.1 < 5) : nI (mkT t.1) = 2 ↔ t.1 = 1 := (mk_all _ h5).2.2.1
theorem mk_1 {t : Tok} (h5 : t.1 < 5) : nI (mkT t.1) = 1 ↔ t.1 = 0 := (mk_all _ h5).2.2.2
theorem gtk_5 (h : gtk bb n t) : t.1 < 5 := by
  obtain ⟨e, he, rfl⟩ := h
  exact tok_5 bb n e
theorem c_num {q : Int32 → Mem → Prop} {lo hi no : Int32} (hn : n ≤ 600) (hb : ∀ i, i < n → bb i < 256 ∧ M0.1 23 i = nI (bb i)) (ht : gtk bb n t) (hT : TkM n (F 0) t) (h36 : F 0 36 = 0) (h : elS (numT bb lo.toInt hi.toInt no.toInt t) (FlM M0 F q) (fun v => ∀ F', eq0 F F' → TkM n (F' 0) (nxT bb n t) → F' 0 36 = 0 → q (nI v) (Rp SM M0 F'))) : Ci shM G mX12_numberIn (k + 3) [.ref (G.2.1 0), .int lo, .int hi, .int no] (Rp SM M0 F) q := by
  have h5 := gtk_5 ht
  obtain ⟨g1, g2, g3⟩ := gtk_le ht
  have f33 : (Rp SM M0 F).1 0 33 = nI (mkT t.1) := hT.2.2.1
  have f34 : (Rp SM M0 F).1 0 34 = nI t.2.1 := hT.2.2.2.1
  have f35 : (Rp SM M0 F).1 0 35 = nI t.2.2 := hT.2.2.2.2
  refine wp_X12_numberIn ⟨fun _ => ?_, fun c5 => absurd (show (Rp SM M0 F).1 0 36 ≤ 0 from by rw [show (Rp SM M0 F).1 0 36 = 0 from h36]; decide) c5⟩
  rw [f34]
  by_cases hk : t.1 = 2
  · have hv := gtk_val ht hk
    have h3 : (Rp SM M0 F).1 0 33 = 3 := by rw [f33]; exact (mk_3 h5).mpr hk
    have hfig : ∀ i, t.2.1 ≤ i → i < t.2.2 → fiB (bb i) = true := by
      obtain ⟨e, he, hte⟩ := ht
      have := (tok_fig (bb := bb) (n := n) (e := e) (by rw [← hte]; exact hk)).2
      rw [← hte] at this
      exact this
    rw [numT, if_neg (fun e => e hk)] at h
    -- the number is read
    have fin : V shM G mX12_numberIn (k + 3) 18 [(0, .ref (G.2.1 0)), (1, .int lo), (2, .int hi), (3, .int no), (4, .int (nI (valF bb t.2.1 t.2.2))), (5, .int (nI t.2.2))] [] (Rp SM M0 F) (Qi q) := by
      refine wp_X12_numberIn_18 ⟨fun _ => ⟨fun c => absurd h3 c, fun _ => c_in ?_⟩, fun c => absurd (by rw [f35]; exact nI_le (Nat.le_refl _) (by omega)) c⟩
      rw [Int32.toInt_toInt64, Int32.toInt_toInt64]
      have bad2 : FlM M0 F q 2 t.2.1 → Cv shM G mX12_bad (k + 2) [.ref (G.2.1 0), .int 2] (Rp SM M0 F) (fun M4 => (((M4.1 0 33) ≠ 3 → Cv shM G mX12_need (k + 2) [.ref (G.2.1 0), .int 0] M4 (fun M5 => q (nI (valF bb t.2.1 t.2.2)) M5)) ∧ ((M4.1 0 33) = 3 → Cv shM G mX12_need (k + 2) [.ref (G.2.1 0), .int 1] M4 (fun M6 => q (nI (valF bb t.2.1 t.2.2)) M6)))) := fun hf => c_badF (t := t) rfl h36 hT.2.2.2.1 (fun F' a _ b c => ⟨fun _ => c_need_f (by rw [b]; decide) (hf _ F' a b c), fun _ => c_need_f (by rw [b]; decide) (hf _ F' a b c)⟩)
      by_cases hin : lo.toInt ≤ (valF bb t.2.1 t.2.2 : Int) ∧ (valF bb t.2.1 t.2.2 : Int) ≤ hi.toInt
      · rw [inZ_nI (by omega) hin]
        refine k1 ⟨fun c => ⟨fun c5 => absurd h3 c5, fun _ => ?_⟩, fun c => ?_⟩
        · have hne : ¬ (valF bb t.2.1 t.2.2 : Int) = no.toInt := fun e => c (Int32.toInt_inj.mp (by rw [nI_toInt (by omega)]; exact e))
          rw [if_neg (by omega)] at h
          exact c_need1 hn hb ht hT h36 h
        · have he : (valF bb t.2.1 t.2.2 : Int) = no.toInt := by rw [← c, nI_toInt (by omega)]
          rw [if_pos (by omega)] at h
          exact bad2 h
      · rw [inZ_out (by rw [nI_toInt (by omega)]; omega)]
        rw [if_pos (by omega)] at h
        exact k0 (bad2 h)
    have loop : ∀ m j, j + m = t.2.2 - t.2.1 → V shM G mX12_numberIn (k + 3) 18 [(0, .ref (G.2.1 0)), (1, .int lo), (2, .int hi), (3, .int no), (4, .int (nI (vlF bb t.2.1 j))), (5, .int (nI (t.2.1 + j)))] [] (Rp SM M0 F) (Qi q) := by
      intro m
      induction m with
      | zero =>
        intro j hj
        have e1 : t.2.1 + j = t.2.2 := by omega
        have e2 : vlF bb t.2.1 j = valF bb t.2.1 t.2.2 := by rw [valF, show t.2.2 - t.2.1 = j by omega]
        rw [e1, e2]
        exact fin
      | succ m ih =>
        intro j hj
        obtain ⟨b1, b2⟩ := hb (t.2.1 + j) (by omega)
        have hfi := hfig (t.2.1 + j) (by omega) (by omega)
        have h48 : 48 ≤ bb (t.2.1 + j) := by rw [fiB, decide_eq_true_iff] at hfi; exact hfi.1
        refine wp_X12_numberIn_18 ⟨fun c => absurd c (by rw [f35]; exact nI_ge (by omega) (by omega)), fun _ => ⟨fun c => absurd h3 c, fun _ => ⟨vp_in_nI (by omega) (by decide), ?_⟩⟩⟩
        rw [ix_nI (by omega), show (Rp SM M0 F).1 23 (t.2.1 + j) = nI (bb (t.2.1 + j)) from b2, nI_10, nI_add, nI_1, show nI (10 * vlF bb t.2.1 j + bb (t.2.1 + j)) - 48 = nI (10 * vlF bb t.2.1 j + bb (t.2.1 + j) - 48) from nI_sub (a := 10 * vlF bb t.2.1 j + bb (t.2.1 + j)) (b := 48) (by omega), show 10 * vlF bb t.2.1 j + bb (t.2.1 + j) - 48 = vlF bb t.2.1 (j + 1) from by rw [vlF]; omega]
        exact ih (j + 1) (by omega)
    exact loop (t.2.2 - t.2.1) 0 (by omega)
  · rw [numT, if_pos hk] at h
    have h3 : ¬ (Rp SM M0 F).1 0 33 = 3 := fun e => hk ((mk_3 h5).mp (by rw [← f33]; exact e))
    have nd : Cv shM G mX12_need (k + 2) [.ref (G.2.1 0), .int 0] (Rp SM M0 F) (fun M1 => q 0 M1) := c_need0 (t := t) h36 hT.2.2.2.1 (fun F' a b c => h _ F' a b c)
    exact wp_X12_numberIn_18 ⟨fun _ => ⟨fun _ => ⟨fun _ => nd, fun c => absurd c h3⟩, fun c => absurd c h3⟩, fun _ => ⟨fun _ => ⟨fun _ => ⟨fun _ => nd, fun c => absurd c h3⟩, fun c => absurd c h3⟩, fun c => absurd c h3⟩⟩
end
