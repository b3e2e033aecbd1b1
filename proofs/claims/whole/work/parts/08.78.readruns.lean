/-! read: the class's run -/
section
variable {G : GV} {n : Nat} {Mc : Mem} {bb : Nat → Nat} {B : Nat × Nat × Nat × Nat} {D : Nat → Nat → Int32}
theorem c_runC {q : Int32 → Mem → Prop} (hn : n ≤ 600) (hb : ∀ i, i < n → bb i < 256 ∧ Mc.1 16 i = sb (bb i)) (c21 : Mc.1 2 1 = nI n) (c33 : Mc.1 3 3 = nI B.1) (c68 : Mc.1 6 8 = nI B.2.1) (c44 : Mc.1 4 4 = nI B.2.2.1) (c54 : Mc.1 5 4 = nI B.2.2.2) (hB : B.1 ≤ 10 ∧ B.2.1 ≤ 12 ∧ B.2.2.1 ≤ 20 ∧ B.2.2.2 ≤ 20) (h : elS (rdW bb n (n + 1) (W0 bb n D B)) (fun c p => ∀ F', eqBd (prC B) Mc.1 F' → q ((-1000100) - nI p) (mset (mset (Rp SC Mc F') 2 1 0) 0 11 (nI c))) (fun W' => ∀ F', RC bb n Mc B F' W' → Cv shC G mX11_keepTold 8 [.ref (G.2.1 0)] (mset (Rp SC Mc F') 2 1 0) (fun M2 => q (M2.1 6 8) M2))) : Ci shC G mX11_read 9 [.ref (G.2.1 0)] Mc q := by
  refine wp_X11_read (k := 0) (wp_X8_readAll (k := 0) (wp_X10_rewind (k := 5) ?_))
  obtain ⟨S0, hS0⟩ : ∃ S0, S0 = mset (mset (mset (mset (mset Mc 3 4 (Mc.1 3 3)) 6 9 (Mc.1 6 8)) 4 5 (Mc.1 4 4)) 5 5 (Mc.1 5 4)) 2 4 0 := ⟨_, rfl⟩
  rw [← hS0]
  have nk : ∀ k, k ≠ 2 → k ≠ 5 → k ≠ 4 → k ≠ 6 → k ≠ 3 → S0.1 k = Mc.1 k := fun k p1 p2 p3 p4 p5 => by rw [hS0, mset_nk p1, mset_nk p2, mset_nk p3, mset_nk p4, mset_nk p5]
  have e0 : S0 = Rp SC Mc S0.1 := Rp_of (by rw [hS0]; rfl) (fun k hk => by
    have : ∀ x, SC x = true → k ≠ x := fun x hx e => by rw [e, hx] at hk; cases hk
    exact nk k (this 2 rfl) (this 5 rfl) (this 4 rfl) (this 6 rfl) (this 3 rfl))
  have f1 : S0.1 2 1 = nI n := by rw [hS0]; exact c21
  have f4 : S0.1 2 4 = nI 0 := by rw [hS0]; rfl
  have g34 : S0.1 3 4 = nI B.1 := by rw [hS0]; exact c33
  have g69 : S0.1 6 9 = nI B.2.1 := by rw [hS0]; exact c68
  have g45 : S0.1 4 5 = nI B.2.2.1 := by rw [hS0]; exact c44
  have g55 : S0.1 5 5 = nI B.2.2.2 := by rw [hS0]; exact c54
  have hbd : eqBd (prC B) Mc.1 S0.1 := fun k i a => by
    unfold prC at a
    rcases a with ⟨rfl, rfl⟩ | ⟨rfl, rfl⟩ | ⟨rfl, rfl⟩ | ⟨rfl, rfl⟩ | a
    · rw [hS0]; rfl
    · rw [hS0]; rfl
    · rw [hS0]; rfl
    · rw [hS0]; rfl
    · rw [nk k (by omega) (by omega) (by omega) (by omega) (by omega)]
  have hb16 : ∀ i, i < n → bb i < 256 ∧ S0.1 16 i = sb (bb i) := by rw [nk 16 (by decide) (by decide) (by decide) (by decide) (by decide)]; exact hb
  have st : Cv shC G mX10_step (4 + 2) [.ref (G.2.1 2)] (aset S0 2 (S0.1 2)) (fun M1 => V shC G mX8_readAll (0 + 8) 65 [(0, .ref (G.2.1 8)), (1, .int (nI 0))] [] M1 (Qi (fun x1 M1 => ((x1 ≠ 0 → Cv shC G mX11_keepTold (0 + 8) [.ref (G.2.1 0)] (mset M1 2 1 0) (fun M2 => q (M2.1 6 8) M2)) ∧ (x1 = 0 → q ((-1000100) - (M1.1 8 7)) (mset (mset M1 2 1 0) 0 11 (M1.1 8 6))))))) := by
    refine c_stepC (k := 4) (e := 0) hn (Nat.zero_le _) hb16 f1 f4 (fun f hf => ?_)
    have ha : aset S0 2 f = Rp SC Mc (sF S0.1 2 f) := by
      have := Rp_aset (S := SC) (M := Mc) (F := S0.1) (o := 2) (f := f) rfl
      rw [← e0] at this
      exact this
    rw [ha]
    refine c_readAllC (k := 0) (B := B) hn hb (n + 1) 0 _ (W0 bb n D B) (by show n < (tokF bb n 0).2.1 + (n + 1); omega) (Nat.zero_le _) (W0_B hB) W0_O ⟨fun k i a => ?_, hf, ⟨g34, g69, g45, g55⟩, fun i i1 i2 => absurd i1 (Nat.not_le.mpr i2), fun i i1 i2 => absurd i1 (Nat.not_le.mpr i2), fun i i1 i2 => absurd i1 (Nat.not_le.mpr i2), fun i i1 i2 => absurd i1 (Nat.not_le.mpr i2)⟩ ?_
    · rw [sF_ne (prC_28 k i a).1]; exact hbd k i a
    · cases hr : rdW bb n (n + 1) (W0 bb n D B) with
      | inl e =>
        rw [hr] at h
        intro F' a b c
        refine n0 ?_
        rw [show (Rp SC Mc F').1 8 7 = nI e.2 from c, show (Rp SC Mc F').1 8 6 = nI e.1 from b]
        exact h F' a
      | inr W' =>
        rw [hr] at h
        intro F' a
        exact n1 (h F' a)
  rw [show aset S0 2 (S0.1 2) = S0 from aset_self] at st
  exact st
theorem c_kept {k nO no nL nl : Nat} {N : Mem} {d : Nat → Nat → Int32} {q : Mem → Prop} (hW : WFm d) (hO : ix (d 0 18) = no) (hL : ix (d 0 10) = nl) (oo : nO ≤ no) (ll : nL ≤ nl) (e44 : N.1 4 4 = nI nO) (e45 : N.1 4 5 = nI no) (e68 : N.1 6 8 = nI nL) (e69 : N.1 6 9 = nI nl) (ro : ∀ j, j < nO → rowO N.1 d j ((srtO (d 15) nO).getD j 0)) (rn : ∀ j, nO ≤ j → j < no → rowO N.1 d j j) (hb : ∀ b, b < ix (d 0 5) → N.1 17 b = d 4 b - d 5 b) (hl : ∀ l, l < nl → N.1 28 l = d 8 l ∧ N.1 30 l = d 10 l ∧ N.1 31 l = d 11 l ∧ N.1 38 l = d 13 l ∧ ∀ k, k < ix (d 13 l) → N.1 35 (8 * l + k) = d 14 (8 * l + k)) (ho : ∀ l, l < nL → N.1 33 l = gS d l ∧ N.1 39 l = nI (earN d l) ∧ ∀ j, j < 32 → bt (N.1 37 l) j = (decide (j < nL) && likeS d l j)) (h : ∀ K, (∀ k, (k < 20 ∨ 23 < k) → k ≠ 4 → k ≠ 6 → k ≠ 33 → k ≠ 34 → k ≠ 36 → k ≠ 37 → k ≠ 39 → K k = N.1 k) → K 4 4 = nI no → K 6 8 = nI nl → (∀ j, j < no → rowO K d j ((srtO (d 15) no).getD j 0)) → (∀ l, l < nl → K 33 l = gS d l ∧ K 34 l = doorS d l ∧ K 39 l = nI (earN d l) ∧ ∀ j, j < 32 → bt (K 37 l) j = (decide (j < nl) && likeS d l j)) → q (Rp TT N K)) : Cv shC G mX6_keep (k + 4) [.ref (G.2.1 4)] N (fun M1 => Cv shC G mX3_keep (k + 4) [.ref (G.2.1 6), .ref (G.2.1 3), .ref (G.2.1 4)] M1 (fun M2 => q M2)) := by
  have hn20 : no ≤ 20 := by rw [← hO]; exact hW.2.2.1.2
  have main : Cv shC G mX6_keep (k + 2 + 2) [.ref (G.2.1 4)] (Rp TT N N.1) (fun M1 => Cv shC G mX3_keep (k + 4) [.ref (G.2.1 6), .ref (G.2.1 3), .ref (G.2.1 4)] M1 (fun M2 => q M2)) := by
    refine wp_X6_keep (c_keepO (d := d) hn20 (no - nO) nO N.1 (by omega) e44 e45 ro rn (fun F1 k1 k4 f44 fr => wp_X3_keep ?_))
    have w : ∀ k, (k < 20 ∨ 23 < k) → k ≠ 4 → F1 k = N.1 k := k1
    refine c_keepL (d := d) (N := no) hW hL hO (nl - nL) nL F1 (by omega) (by rw [w 6 (by omega) (by decide)]; exact e68) (by rw [w 6 (by omega) (by decide)]; exact e69) f44 (fun i hi => ?_) (fun b hb' => by rw [w 17 (by omega) (by decide)]; exact hb b hb') (fun l hl' => ?_) (fun l hl' => ?_) (fun K p1 p2 p3 => h K (fun k q0 q4 q6 q33 q34 q36 q37 q39 => ?_) ?_ p2 ?_ p3)
    · have := fr i hi
      rw [ordS, hO]; exact this
    · rw [w 28 (by omega) (by decide), w 30 (by omega) (by decide), w 31 (by omega) (by decide), w 38 (by omega) (by decide), w 35 (by omega) (by decide)]
      exact hl l hl'
    · rw [w 33 (by omega) (by decide), w 39 (by omega) (by decide), w 37 (by omega) (by decide)]
      exact ho l hl'
    · rw [p1 k q6 q33 q34 q36 q37 q39]; exact w k q0 q4
    · rw [p1 4 (by decide) (by decide) (by decide) (by decide) (by decide) (by decide)]; exact f44
    · intro j hj
      unfold rowO
      rw [p1 20 (by decide) (by decide) (by decide) (by decide) (by decide) (by decide), p1 21 (by decide) (by decide) (by decide) (by decide) (by decide) (by decide), p1 22 (by decide) (by decide) (by decide) (by decide) (by decide) (by decide), p1 23 (by decide) (by decide) (by decide) (by decide) (by decide) (by decide)]
      exact fr j hj
  rw [Rp_self] at main
  exact main
end
/-- the data that a text tells -/
def dW (Mm : Mem) (nB : Nat) (W : WS) : Nat → Nat → Int32 := fun k => if k = 0 then (fun j => if j = 5 then nI W.2.1 else if j = 10 then nI W.2.2.1 else if j = 18 then nI W.2.2.2.1 else if j = 23 then nI W.2.2.2.2.1 else 0) else if k = 7 then (fun i => if i < nB then Mm.1 7 i else 0) else W.1 k
theorem dW_AG {Mm : Mem} {B : Nat × Nat × Nat × Nat} {W : WS} (hB : B = (ix (Mm.1 0 5), ix (Mm.1 0 10), ix (Mm.1 0 18), ix (Mm.1 0 23))) (hk : eqBd (prM B) Mm.1 W.1) : AG (kM Mm.1) (kM (dW Mm B.1 W)) := AG_of (F := W.1) hB (fun k i _ p => hk k i p) (fun k p1 p2 p3 => by
  show (if k = 0 then _ else if k = 7 then _ else W.1 k) = W.1 k
  rw [if_neg (by omega), if_neg p3])
theorem dW_WF {bb : Nat → Nat} {n : Nat} {Mm : Mem} {B : Nat × Nat × Nat × Nat} {W : WS} (hB : B = (ix (Mm.1 0 5), ix (Mm.1 0 10), ix (Mm.1 0 18), ix (Mm.1 0 23))) (hW : WFm (kM Mm.1)) (hWB : WB bb n B W) (hWO : WO B W) (hk : eqBd (prM B) Mm.1 W.1) : WFm (kM (dW Mm B.1 W)) := by
  have hA := dW_AG hB hk
  obtain ⟨⟨b1, b2⟩, ⟨l1, l2⟩, ⟨o1, o2⟩, ⟨h1, h2⟩, _⟩ := hWB
  obtain ⟨w1, w2, w3, w4⟩ := hWO
  have c1 : B.1 = ix (Mm.1 0 5) := by rw [hB]
  have c2 : B.2.1 = ix (Mm.1 0 10) := by rw [hB]
  have c3 : B.2.2.1 = ix (Mm.1 0 18) := by rw [hB]
  have c4 : B.2.2.2 = ix (Mm.1 0 23) := by rw [hB]
  have e5 : ix (kM (dW Mm B.1 W) 0 5) = W.2.1 := ix_nI (by omega)
  have e10 : ix (kM (dW Mm B.1 W) 0 10) = W.2.2.1 := ix_nI (by omega)
  have e18 : ix (kM (dW Mm B.1 W) 0 18) = W.2.2.2.1 := ix_nI (by omega)
  have e23 : ix (kM (dW Mm B.1 W) 0 23) = W.2.2.2.2.1 := ix_nI (by omega)
  unfold WFm
  rw [e5, e10, e18, e23]
  refine ⟨⟨rfl, b2⟩, ⟨rfl, l2⟩, ⟨rfl, o2⟩, ⟨rfl, h2⟩, fun b hb => ?_, fun l hl => ?_, fun o ho => ?_, fun x hx => ?_⟩
  · by_cases e : b < B.1
    · refine okB_c hA (show b < ix (kM Mm.1 0 5) from by rw [c1] at e; exact e) ?_ (hW.2.2.2.2.1 b (by rw [c1] at e; exact e))
      show (if b < B.1 then Mm.1 7 b else 0) = Mm.1 7 b
      rw [if_pos e]
    · obtain ⟨p1, p2⟩ := w1 b (by omega) hb
      refine ⟨p1, p2, Or.inl ?_⟩
      show (if b < B.1 then Mm.1 7 b else 0) = 0
      rw [if_neg e]
  · by_cases e : l < B.2.1
    · exact okL_c hA (show l < ix (kM Mm.1 0 10) from by rw [c2] at e; exact e) (by rw [e5]; show ix (Mm.1 0 5) ≤ W.2.1; rw [← c1]; exact b1) (hW.2.2.2.2.2.1 l (by rw [c2] at e; exact e))
    · obtain ⟨⟨b, hb, eb⟩, p2⟩ := w2 l (by omega) hl
      exact ⟨⟨b, by rw [e5]; exact hb, eb⟩, p2⟩
  · by_cases e : o < B.2.2.1
    · exact okO_c hA (show o < ix (kM Mm.1 0 18) from by rw [c3] at e; exact e) (hW.2.2.2.2.2.2.1 o (by rw [c3] at e; exact e))
    · exact w3 o (by omega) ho
  · by_cases e : x < B.2.2.2
    · exact okH_c hA (show x < ix (kM Mm.1 0 23) from by rw [c4] at e; exact e) (hW.2.2.2.2.2.2.2 x (by rw [c4] at e; exact e))
    · exact w4 x (by omega) hx
