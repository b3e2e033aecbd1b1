/-! read: parts -/
theorem bnd_r {α β : Type} {a : α} {f : α → RES β} : bnd (Sum.inr a) f = f a := rfl
theorem bnd_l {α β : Type} {e : Nat × Nat} {f : α → RES β} : bnd (Sum.inl e) f = Sum.inl e := rfl
def lagH (y : Nat) : Int := if (y : Int) - 1 < 9 then (y : Int) - 1 else 9
def bookT (bb : Nat → Nat) (n : Nat) (t : Tok) : RES (Nat × Nat × Nat × Tok) := bnd (numT bb 1 9998 (-1000000) t) fun y => bnd (numT bb 0 (lagH y) (-1000000) (nxT bb n t)) fun g => bnd (numT bb 1 99 (-1000000) (nxT bb n (nxT bb n t))) fun p => bnd (sgT (nxT bb n (nxT bb n (nxT bb n t)))) fun _ => .inr (y, g, p, nxT bb n (nxT bb n (nxT bb n (nxT bb n t))))
def orderT (bb : Nat → Nat) (n : Nat) (t : Tok) : RES (Nat × Nat × Nat × Nat × Tok) := bnd (numT bb 1 9998 (-1000000) t) fun y => bnd (numT bb 0 3 (-1000000) (nxT bb n t)) fun s => bnd (numT bb 1 99 (-1000000) (nxT bb n (nxT bb n t))) fun o => bnd (numT bb 1 99 (o : Int) (nxT bb n (nxT bb n (nxT bb n t)))) fun w => bnd (sgT (nxT bb n (nxT bb n (nxT bb n (nxT bb n t))))) fun _ => .inr (y, s, o, w, nxT bb n (nxT bb n (nxT bb n (nxT bb n (nxT bb n t)))))
def houseT (bb : Nat → Nat) (n : Nat) (t : Tok) : RES (Nat × Nat × Nat × Nat × Tok) := bnd (numT bb 0 3 (-1000000) t) fun s => bnd (numT bb 1 99 (-1000000) (nxT bb n t)) fun u => bnd (numT bb 1 9998 (-1000000) (nxT bb n (nxT bb n t))) fun f => bnd (numT bb ((f : Int) + 1) 9999 (-1000000) (nxT bb n (nxT bb n (nxT bb n t)))) fun w => bnd (sgT (nxT bb n (nxT bb n (nxT bb n (nxT bb n t))))) fun _ => .inr (s, u, f, w, nxT bb n (nxT bb n (nxT bb n (nxT bb n (nxT bb n t)))))
/-- book, sort, street, number, the name's token, age, the token behind -/
def lineT (bb : Nat → Nat) (n nb : Nat) (t : Tok) : RES (Nat × Nat × Nat × Nat × Tok × Int32 × Tok) := bnd (numT bb 0 ((nb : Int) - 1) (-1000000) t) fun b => bnd (srtT bb (nxT bb n t)) fun so => bnd (numT bb 0 3 (-1000000) (nxT bb n (nxT bb n t))) fun st => bnd (numT bb 1 99 (-1000000) (nxT bb n (nxT bb n (nxT bb n t)))) fun nu => bnd (nmT (nxT bb n (nxT bb n (nxT bb n (nxT bb n t))))) fun _ => bnd (ageT bb n (nxT bb n (nxT bb n (nxT bb n (nxT bb n (nxT bb n t)))))) fun r => bnd (sgT r.2) fun _ => .inr (b, so, st, nu, nxT bb n (nxT bb n (nxT bb n (nxT bb n t))), r.1, nxT bb n r.2)
theorem num_ok {bb : Nat → Nat} {lo hi no : Int} {t : Tok} {v : Nat} (h : numT bb lo hi no t = .inr v) : t.1 = 2 ∧ v = valF bb t.2.1 t.2.2 ∧ lo ≤ v ∧ (v : Int) ≤ hi ∧ (v : Int) ≠ no := by
  unfold numT at h
  by_cases h1 : t.1 ≠ 2
  · rw [if_pos h1] at h; cases h
  · rw [if_neg h1] at h
    by_cases h2 : (valF bb t.2.1 t.2.2 : Int) < lo ∨ hi < (valF bb t.2.1 t.2.2 : Int) ∨ (valF bb t.2.1 t.2.2 : Int) = no
    · rw [if_pos h2] at h; cases h
    · rw [if_neg h2] at h
      injection h with h
      subst h
      exact ⟨Decidable.not_not.mp h1, rfl, by omega, by omega, by omega⟩
theorem lagH_I {y : Nat} (h1 : 1 ≤ y) (h2 : y < 2 ^ 30) : (if nI y - 1 < 9 then nI y - 1 else 9 : Int32).toInt = lagH y := by
  rw [nI_s1 y h1, lagH, show (9 : Int32) = nI 9 from rfl]
  by_cases h : y - 1 < 9
  · rw [if_pos (nI_lt h (by decide)), if_pos (by omega), nI_toInt (by omega)]; omega
  · rw [if_neg (nI_nlt (by omega) (by omega)), if_neg (by omega)]; decide
theorem i_9998 : (9998 : Int32).toInt = 9998 := by decide
def eqBd (A : Nat → Nat → Prop) (F F' : Nat → Nat → Int32) : Prop := ∀ k i, A k i → F' k i = F k i
theorem eqBd_refl {A : Nat → Nat → Prop} {F : Nat → Nat → Int32} : eqBd A F F := fun _ _ _ => rfl
theorem eqBd_trans {A : Nat → Nat → Prop} {F G H : Nat → Nat → Int32} (h1 : eqBd A F G) (h2 : eqBd A G H) : eqBd A F H := fun k i a => (h2 k i a).trans (h1 k i a)
theorem eqBd_w {A : Nat → Nat → Prop} {F : Nat → Nat → Int32} {o j : Nat} {v : Int32} (h : ¬ A o j) : eqBd A F (sF F o (upd (F o) j v)) := fun k i a => by
  by_cases h1 : k = o
  · subst h1
    rw [sF_at, upd_ne _ _ (fun e => h (by rw [← e]; exact a))]
  · rw [sF_ne h1]
theorem eqBd_28 {A : Nat → Nat → Prop} {F F' : Nat → Nat → Int32} (hA : ∀ k i, A k i → k ≠ 2 ∧ k ≠ 8) (h : eq28 F F') : eqBd A F F' := fun k i a => by rw [h k (hA k i a).1 (hA k i a).2]
section
variable {G : GV} {k n : Nat} {M0 : Mem} {bb : Nat → Nat} {F : Nat → Nat → Int32} {t : Tok}
theorem FlC_28 {F1 : Nat → Nat → Int32} {q : Int32 → Mem → Prop} {c p : Nat} (hE : eq28 F F1) (h : FlC M0 F q c p) : FlC M0 F1 q c p := fun F' a b c => h F' (eq28_trans hE a) b c
theorem c_readBook {q : Int32 → Mem → Prop} {nb : Nat} (hn : n ≤ 600) (hb : ∀ i, i < n → bb i < 256 ∧ M0.1 16 i = sb (bb i)) (ht : gtk bb n t) (hT : TkC bb n (F 2) t) (h34 : F 3 4 = nI nb) (hnb : nb < 10) (h : elS (bookT bb n t) (FlC M0 F q) (fun r => ∀ F1, eq28 F F1 → TkC bb n (F1 2) r.2.2.2 → q 1 (Rp SC M0 (sF (sF (sF F1 17 (upd (F1 17) nb (nI r.1 - nI r.2.1))) 18 (upd (F1 18) nb (nI r.2.2.1))) 3 (upd (F1 3) 4 (nI (nb + 1))))))) : Ci shC G mX8_readBook (k + 4) [.ref (G.2.1 8)] (Rp SC M0 F) q := by
  refine wp_X8_readBook (c_takeNumber hn hb ht hT ?_)
  rw [i_1, i_9998]
  cases h1 : numT bb 1 9998 (-1000000) t with
  | inl e => rw [bookT, h1] at h; exact fun F' a b c => n0 (h F' a b c)
  | inr y =>
    rw [bookT, h1] at h
    obtain ⟨_, _, y1, y2, _⟩ := num_ok h1
    intro F1 E1 T1 V1
    refine n1 ?_
    rw [show (Rp SC M0 F1).1 8 5 = nI y from V1]
    refine c_takeNumber hn hb (gtk_nx ht) T1 ?_
    rw [i_0, lagH_I (by omega) (by omega)]
    cases h2 : numT bb 0 (lagH y) (-1000000) (nxT bb n t) with
    | inl e => rw [bnd_r, h2] at h; exact fun F' a b c => n0 (h F' (eq28_trans E1 a) b c)
    | inr g =>
      rw [bnd_r, h2] at h
      intro F2 E2 T2 V2
      refine n1 (c_takeNumber hn hb (gtk_nx (gtk_nx ht)) T2 ?_)
      rw [i_1, i_99]
      rw [bnd_r] at h
      cases h3 : numT bb 1 99 (-1000000) (nxT bb n (nxT bb n t)) with
      | inl e => rw [h3] at h; exact fun F' a b c => n0 (h F' (eq28_trans E1 (eq28_trans E2 a)) b c)
      | inr p =>
        rw [h3, bnd_r] at h
        intro F3 E3 T3 V3
        refine n1 (c_takeSign hn hb (gtk_nx (gtk_nx (gtk_nx ht))) T3 ?_)
        cases h4 : sgT (nxT bb n (nxT bb n (nxT bb n t))) with
        | inl e => rw [h4] at h; exact fun F' a b c => n0 (h F' (eq28_trans E1 (eq28_trans E2 (eq28_trans E3 a))) b c)
        | inr u =>
          rw [h4] at h
          intro F4 E4 T4
          have E : eq28 F F4 := eq28_trans E1 (eq28_trans E2 (eq28_trans E3 E4))
          have e34 : F4 3 4 = nI nb := by rw [E 3 (by decide) (by decide)]; exact h34
          refine n1 (wp_X1_tell ?_)
          rw [show (Rp SC M0 F4).1 3 4 = nI nb from e34, ix_nI (by omega), nI_1, Rp_mset rfl, Rp_mset rfl, Rp_mset rfl, show (Rp SC M0 F2).1 8 5 = nI g from V2, show (Rp SC M0 F3).1 8 5 = nI p from V3]
          refine ⟨fun _ => ⟨vp_in_nI hnb (by decide), vp_in_nI hnb (by decide), ?_⟩, fun c => absurd (nI_lt (b := 10) hnb (by decide)) c⟩
          rw [sF_ne (F := F4) (show (18 : Nat) ≠ 17 by decide), sF_ne (show (3 : Nat) ≠ 18 by decide), sF_ne (F := F4) (show (3 : Nat) ≠ 17 by decide)]
          exact h F4 E T4
theorem c_readHouse {q : Int32 → Mem → Prop} {nh : Nat} (hn : n ≤ 600) (hb : ∀ i, i < n → bb i < 256 ∧ M0.1 16 i = sb (bb i)) (ht : gtk bb n t) (hT : TkC bb n (F 2) t) (h55 : F 5 5 = nI nh) (hnh : nh < 20) (h : elS (houseT bb n t) (FlC M0 F q) (fun r => ∀ F1, eq28 F F1 → TkC bb n (F1 2) r.2.2.2.2 → q 1 (Rp SC M0 (sF (sF (sF (sF (sF F1 24 (upd (F1 24) nh (nI r.1))) 25 (upd (F1 25) nh (nI r.2.1))) 26 (upd (F1 26) nh (nI r.2.2.1))) 27 (upd (F1 27) nh (nI r.2.2.2.1))) 5 (upd (F1 5) 5 (nI (nh + 1))))))) : Ci shC G mX8_readHouse (k + 4) [.ref (G.2.1 8)] (Rp SC M0 F) q := by
  refine wp_X8_readHouse (c_takeNumber hn hb ht hT ?_)
  rw [i_0, i_3]
  cases h1 : numT bb 0 3 (-1000000) t with
  | inl e => rw [houseT, h1] at h; exact fun F' a b c => n0 (h F' a b c)
  | inr s =>
    rw [houseT, h1, bnd_r] at h
    intro F1 E1 T1 V1
    refine n1 (c_takeNumber hn hb (gtk_nx ht) T1 ?_)
    rw [i_1, i_99]
    cases h2 : numT bb 1 99 (-1000000) (nxT bb n t) with
    | inl e => rw [h2] at h; exact fun F' a b c => n0 (h F' (eq28_trans E1 a) b c)
    | inr u =>
      rw [h2, bnd_r] at h
      intro F2 E2 T2 V2
      refine n1 (c_takeNumber hn hb (gtk_nx (gtk_nx ht)) T2 ?_)
      rw [i_1, i_9998]
      cases h3 : numT bb 1 9998 (-1000000) (nxT bb n (nxT bb n t)) with
      | inl e => rw [h3] at h; exact fun F' a b c => n0 (h F' (eq28_trans E1 (eq28_trans E2 a)) b c)
      | inr f =>
        rw [h3, bnd_r] at h
        obtain ⟨_, _, f1, f2, _⟩ := num_ok h3
        intro F3 E3 T3 V3
        refine n1 ?_
        rw [show (Rp SC M0 F3).1 8 5 = nI f from V3, nI_1]
        refine c_takeNumber hn hb (gtk_nx (gtk_nx (gtk_nx ht))) T3 ?_
        rw [nI_toInt (by omega), i_9999, show ((f + 1 : Nat) : Int) = (f : Int) + 1 from by omega]
        cases h4 : numT bb ((f : Int) + 1) 9999 (-1000000) (nxT bb n (nxT bb n (nxT bb n t))) with
        | inl e => rw [h4] at h; exact fun F' a b c => n0 (h F' (eq28_trans E1 (eq28_trans E2 (eq28_trans E3 a))) b c)
        | inr w =>
          rw [h4, bnd_r] at h
          intro F4 E4 T4 V4
          refine n1 (c_takeSign hn hb (gtk_nx (gtk_nx (gtk_nx (gtk_nx ht)))) T4 ?_)
          cases h5 : sgT (nxT bb n (nxT bb n (nxT bb n (nxT bb n t)))) with
          | inl e => rw [h5] at h; exact fun F' a b c => n0 (h F' (eq28_trans E1 (eq28_trans E2 (eq28_trans E3 (eq28_trans E4 a)))) b c)
          | inr z =>
            rw [h5] at h
            intro F5 E5 T5
            have E : eq28 F F5 := eq28_trans E1 (eq28_trans E2 (eq28_trans E3 (eq28_trans E4 E5)))
            have e55 : F5 5 5 = nI nh := by rw [E 5 (by decide) (by decide)]; exact h55
            have vh : vp_in (nI nh) 20 := vp_in_nI hnh (by decide)
            refine n1 (wp_X2_tell ?_)
            rw [show (Rp SC M0 F5).1 5 5 = nI nh from e55, ix_nI (by omega), nI_1, Rp_mset rfl, Rp_mset rfl, Rp_mset rfl, Rp_mset rfl, Rp_mset rfl, show (Rp SC M0 F1).1 8 5 = nI s from V1, show (Rp SC M0 F2).1 8 5 = nI u from V2, show (Rp SC M0 F4).1 8 5 = nI w from V4]
            refine ⟨fun _ => ⟨vh, vh, vh, vh, ?_⟩, fun c => absurd (nI_lt (b := 20) hnh (by decide)) c⟩
            exact h F5 E T5
theorem c_readOrder {q : Int32 → Mem → Prop} {no : Nat} (hn : n ≤ 600) (hb : ∀ i, i < n → bb i < 256 ∧ M0.1 16 i = sb (bb i)) (ht : gtk bb n t) (hT : TkC bb n (F 2) t) (h45 : F 4 5 = nI no) (hno : no < 20) (h : elS (orderT bb n t) (FlC M0 F q) (fun r => ∀ F1, eq28 F F1 → TkC bb n (F1 2) r.2.2.2.2 → q 1 (Rp SC M0 (sF (sF (sF (sF (sF F1 20 (upd (F1 20) no (nI r.1))) 21 (upd (F1 21) no (nI r.2.1))) 22 (upd (F1 22) no (nI r.2.2.1))) 23 (upd (F1 23) no (nI r.2.2.2.1))) 4 (upd (F1 4) 5 (nI (no + 1))))))) : Ci shC G mX8_readOrder (k + 4) [.ref (G.2.1 8)] (Rp SC M0 F) q := by
  refine wp_X8_readOrder (c_takeNumber hn hb ht hT ?_)
  rw [i_1, i_9998]
  cases h1 : numT bb 1 9998 (-1000000) t with
  | inl e => rw [orderT, h1] at h; exact fun F' a b c => n0 (h F' a b c)
  | inr y =>
    rw [orderT, h1, bnd_r] at h
    intro F1 E1 T1 V1
    refine n1 (c_takeNumber hn hb (gtk_nx ht) T1 ?_)
    rw [i_0, i_3]
    cases h2 : numT bb 0 3 (-1000000) (nxT bb n t) with
    | inl e => rw [h2] at h; exact fun F' a b c => n0 (h F' (eq28_trans E1 a) b c)
    | inr s =>
      rw [h2, bnd_r] at h
      intro F2 E2 T2 V2
      refine n1 (c_takeNumber hn hb (gtk_nx (gtk_nx ht)) T2 ?_)
      rw [i_1, i_99]
      cases h3 : numT bb 1 99 (-1000000) (nxT bb n (nxT bb n t)) with
      | inl e => rw [h3] at h; exact fun F' a b c => n0 (h F' (eq28_trans E1 (eq28_trans E2 a)) b c)
      | inr o =>
        rw [h3, bnd_r] at h
        obtain ⟨_, _, o1, o2, _⟩ := num_ok h3
        intro F3 E3 T3 V3
        have g3 := gtk_nx (gtk_nx (gtk_nx ht))
        obtain ⟨t3, ht3⟩ : ∃ t3, t3 = nxT bb n (nxT bb n (nxT bb n t)) := ⟨_, rfl⟩
        have T3' : TkC bb n (F3 2) t3 := by rw [ht3]; exact T3
        rw [← ht3] at h g3
        have h5 : t3.1 < 5 := by
          obtain ⟨e, he, hte⟩ := g3
          rw [hte]; exact tok_5 bb n e
        -- the same number told anew is refused; else it is taken
        have go : (t3.1 = 2 → valF bb t3.2.1 t3.2.2 ≠ o) → Ci shC G mX8_takeNumber (k + 3) [.ref (G.2.1 8), .int 1, .int 99] (Rp SC M0 F3) (fun x4 M4 => ((x4 ≠ 0 → Ci shC G mX8_takeSign (k + 3) [.ref (G.2.1 8)] M4 (fun x5 M5 => ((x5 ≠ 0 → Cv shC G mX6_tell (k + 3) [.ref (G.2.1 4), .int ((Rp SC M0 F1).1 8 5), .int ((Rp SC M0 F2).1 8 5), .int ((Rp SC M0 F3).1 8 5), .int (M4.1 8 5)] M5 (fun M6 => q 1 M6)) ∧ (x5 = 0 → q 0 M5)))) ∧ (x4 = 0 → q 0 M4))) := by
          intro hne
          refine c_takeNumber hn hb g3 T3' ?_
          rw [i_1, i_99]
          have hs : numT bb 1 99 (-1000000) t3 = numT bb 1 99 (o : Int) t3 := by
            unfold numT
            by_cases hk : t3.1 ≠ 2
            · rw [if_pos hk, if_pos hk]
            · rw [if_neg hk, if_neg hk]
              have hv := hne (Decidable.not_not.mp hk)
              by_cases hc : (valF bb t3.2.1 t3.2.2 : Int) < 1 ∨ 99 < (valF bb t3.2.1 t3.2.2 : Int)
              · rw [if_pos (by omega), if_pos (by omega)]
              · rw [if_neg (by omega), if_neg (by omega)]
          rw [hs]
          cases h4 : numT bb 1 99 (o : Int) t3 with
          | inl e => rw [h4] at h; exact fun F' a b c => n0 (h F' (eq28_trans E1 (eq28_trans E2 (eq28_trans E3 a))) b c)
          | inr w =>
            rw [h4, bnd_r] at h
            intro F4 E4 T4 V4
            refine n1 (c_takeSign hn hb (gtk_nx g3) T4 ?_)
            cases h5 : sgT (nxT bb n t3) with
            | inl e => rw [h5] at h; exact fun F' a b c => n0 (h F' (eq28_trans E1 (eq28_trans E2 (eq28_trans E3 (eq28_trans E4 a)))) b c)
            | inr z =>
              rw [h5] at h
              intro F5 E5 T5
              have E : eq28 F F5 := eq28_trans E1 (eq28_trans E2 (eq28_trans E3 (eq28_trans E4 E5)))
              have e45 : F5 4 5 = nI no := by rw [E 4 (by decide) (by decide)]; exact h45
              have vo : vp_in (nI no) 20 := vp_in_nI hno (by decide)
              refine n1 (wp_X6_tell ?_)
              rw [show (Rp SC M0 F5).1 4 5 = nI no from e45, show (Rp SC M0 F1).1 8 5 = nI y from V1, show (Rp SC M0 F2).1 8 5 = nI s from V2, show (Rp SC M0 F3).1 8 5 = nI o from V3, show (Rp SC M0 F4).1 8 5 = nI w from V4]
              refine ⟨fun _ => wp_X6_put ⟨vo, vo, vo, vo, ?_⟩, fun c => absurd (nI_lt (b := 20) hno (by decide)) c⟩
              rw [ix_nI (show no < 2 ^ 31 by omega), Rp_mset rfl, Rp_mset rfl, Rp_mset rfl, Rp_mset rfl, Rp_mset rfl]
              have e6 : (Rp SC M0 (sF (sF (sF (sF F5 20 (upd (F5 20) no (nI y))) 21 (upd (sF F5 20 (upd (F5 20) no (nI y)) 21) no (nI s))) 22 (upd (sF (sF F5 20 (upd (F5 20) no (nI y))) 21 (upd (sF F5 20 (upd (F5 20) no (nI y)) 21) no (nI s)) 22) no (nI o))) 23 (upd (sF (sF (sF F5 20 (upd (F5 20) no (nI y))) 21 (upd (sF F5 20 (upd (F5 20) no (nI y)) 21) no (nI s))) 22 (upd (sF (sF F5 20 (upd (F5 20) no (nI y))) 21 (upd (sF F5 20 (upd (F5 20) no (nI y)) 21) no (nI s)) 22) no (nI o)) 23) no (nI w)))).1 4 5 = nI no := e45
              rw [e6, nI_1]
              exact h F5 E T5
        refine n1 ?_
        have e22 : (Rp SC M0 F3).1 2 2 = nI t3.1 := T3'.2.1
        rw [e22]
        refine ⟨fun c => go (fun e => absurd (by rw [e]; rfl) c), fun c => ?_⟩
        have hk : t3.1 = 2 := (nI_eq (b := 2) (by omega) (by omega)).mp c
        have hv := gtk_val g3 hk
        refine c_numR hn hb g3 T3' hk ?_
        refine ⟨fun c2 => go (fun _ e => c2 ?_), fun c2 => ?_⟩
        · rw [e]; exact V3.symm
        · rw [show (Rp SC M0 F3).1 8 5 = nI o from V3] at c2
          have hvo : valF bb t3.2.1 t3.2.2 = o := (nI_eq (by omega) (by omega)).mp c2
          rw [numT, if_neg (fun e => e hk), if_pos (by omega)] at h
          exact c_fail2 rfl T3' (FlC_28 (eq28_trans E1 (eq28_trans E2 E3)) h)
end
