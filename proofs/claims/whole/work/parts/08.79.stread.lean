/-! read: the step -/
theorem stM_k {Mm : Mem} {k : Nat} (h : k ≠ 0) : (stM Mm).1 k = Mm.1 k := by
  unfold stM
  rw [mset_nk h, mset_nk h, mset_nk h, mset_nk h, mset_nk h, mset_nk h, mset_nk h, mset_nk h, mset_nk h]
theorem stM_0 {Mm : Mem} {j : Nat} (h0 : j ≠ 0) (h : j < 29 ∨ j = 30 ∨ 41 < j) : (stM Mm).1 0 j = Mm.1 0 j := by
  show upd (upd (upd (upd (upd (upd (upd (upd (upd (Mm.1 0) 0 0) 31 (Mm.1 0 29)) 29 0) 32 0) 36 0) 38 (Mm.1 0 5)) 39 (Mm.1 0 10)) 40 (Mm.1 0 18)) 41 (Mm.1 0 23) j = Mm.1 0 j
  rw [upd_ne _ _ (by omega), upd_ne _ _ (by omega), upd_ne _ _ (by omega), upd_ne _ _ (by omega), upd_ne _ _ (by omega), upd_ne _ _ (by omega), upd_ne _ _ (by omega), upd_ne _ _ (by omega), upd_ne _ _ h0]
theorem bt_of {x : Int32} {j : Nat} {b : Bool} (hj : j < 32) (h : (x >>> (nI j &&& 31)) &&& 1 = if b then 1 else 0) : bt x j = b := by
  rw [bitv x hj] at h
  cases hx : bt x j <;> cases hb : b <;> rw [hx, hb] at h <;> first | rfl | exact absurd h (by decide)
theorem of_bt {x : Int32} {j : Nat} {b : Bool} (hj : j < 32) (h : bt x j = b) : (x >>> (nI j &&& 31)) &&& 1 = if b then 1 else 0 := by rw [bitv x hj, h]
/-- the model's data behind the reading are what the text tells -/
theorem mod_AG {n : Nat} {Mm Mf : Mem} {B : Nat × Nat × Nat × Nat} {W : WS} {F : Nat → Nat → Int32} (h1 : B.1 ≤ W.2.1 ∧ W.2.1 ≤ 10) (h2 : B.2.1 ≤ W.2.2.1 ∧ W.2.2.1 ≤ 12) (h3 : B.2.2.1 ≤ W.2.2.2.1 ∧ W.2.2.2.1 ≤ 20) (h4 : B.2.2.2 ≤ W.2.2.2.2.1 ∧ W.2.2.2.2.1 ≤ 20) (hk : eqBd (prM B) Mm.1 W.1) (hR : RM n (stM Mm) B F W) (hf : ∀ k, 4 ≤ k → k ≤ 22 → k ≠ 7 → Mf.1 k = F k) : AG (kM (dW Mm B.1 W)) (kM Mf.1) := by
  obtain ⟨z1, _, _, _, z5, z6, z7, z8⟩ := hR
  have lo : ∀ k i, k ≠ 0 → prM B k i → F k i = W.1 k i := fun k i p a => by rw [z1 k i a, stM_k p, hk k i a]
  have e5 : ix (kM (dW Mm B.1 W) 0 5) = W.2.1 := ix_nI (by omega)
  have e10 : ix (kM (dW Mm B.1 W) 0 10) = W.2.2.1 := ix_nI (by omega)
  have e18 : ix (kM (dW Mm B.1 W) 0 18) = W.2.2.2.1 := ix_nI (by omega)
  have e23 : ix (kM (dW Mm B.1 W) 0 23) = W.2.2.2.2.1 := ix_nI (by omega)
  unfold AG
  rw [e5, e10, e18, e23]
  refine ⟨fun i hi => ?_, fun i hi => ?_, fun i hi k hk' k8 => ?_, fun i hi => ?_, fun i hi => ?_⟩
  · show Mf.1 4 i = W.1 4 i ∧ Mf.1 5 i = W.1 5 i ∧ Mf.1 6 i = W.1 6 i
    rw [hf 4 (by decide) (by decide) (by decide), hf 5 (by decide) (by decide) (by decide), hf 6 (by decide) (by decide) (by decide)]
    by_cases e : i < B.1
    · exact ⟨lo 4 i (by decide) (by unfold prM; omega), lo 5 i (by decide) (by unfold prM; omega), lo 6 i (by decide) (by unfold prM; omega)⟩
    · exact z5 i (by omega) hi
  · show Mf.1 8 i = W.1 8 i ∧ Mf.1 9 i = W.1 9 i ∧ Mf.1 10 i = W.1 10 i ∧ Mf.1 11 i = W.1 11 i ∧ Mf.1 12 i = W.1 12 i ∧ Mf.1 13 i = W.1 13 i
    rw [hf 8 (by decide) (by decide) (by decide), hf 9 (by decide) (by decide) (by decide), hf 10 (by decide) (by decide) (by decide), hf 11 (by decide) (by decide) (by decide), hf 12 (by decide) (by decide) (by decide), hf 13 (by decide) (by decide) (by decide)]
    by_cases e : i < B.2.1
    · exact ⟨lo 8 i (by decide) (by unfold prM; omega), lo 9 i (by decide) (by unfold prM; omega), lo 10 i (by decide) (by unfold prM; omega), lo 11 i (by decide) (by unfold prM; omega), lo 12 i (by decide) (by unfold prM; omega), lo 13 i (by decide) (by unfold prM; omega)⟩
    · obtain ⟨q1, q2, q3, q4, q5, q6, _, _⟩ := z6 i (by omega) hi
      exact ⟨q1, q2, q3, q4, q5, q6⟩
  · show Mf.1 14 (8 * i + k) = W.1 14 (8 * i + k)
    rw [hf 14 (by decide) (by decide) (by decide)]
    by_cases e : i < B.2.1
    · exact lo 14 (8 * i + k) (by decide) (by unfold prM; omega)
    · exact (z6 i (by omega) hi).2.2.2.2.2.2.2 k hk'
  · show Mf.1 15 i = W.1 15 i ∧ Mf.1 16 i = W.1 16 i ∧ Mf.1 17 i = W.1 17 i ∧ Mf.1 18 i = W.1 18 i
    rw [hf 15 (by decide) (by decide) (by decide), hf 16 (by decide) (by decide) (by decide), hf 17 (by decide) (by decide) (by decide), hf 18 (by decide) (by decide) (by decide)]
    by_cases e : i < B.2.2.1
    · exact ⟨lo 15 i (by decide) (by unfold prM; omega), lo 16 i (by decide) (by unfold prM; omega), lo 17 i (by decide) (by unfold prM; omega), lo 18 i (by decide) (by unfold prM; omega)⟩
    · exact z7 i (by omega) hi
  · show Mf.1 19 i = W.1 19 i ∧ Mf.1 20 i = W.1 20 i ∧ Mf.1 21 i = W.1 21 i ∧ Mf.1 22 i = W.1 22 i
    rw [hf 19 (by decide) (by decide) (by decide), hf 20 (by decide) (by decide) (by decide), hf 21 (by decide) (by decide) (by decide), hf 22 (by decide) (by decide) (by decide)]
    by_cases e : i < B.2.2.2
    · exact ⟨lo 19 i (by decide) (by unfold prM; omega), lo 20 i (by decide) (by unfold prM; omega), lo 21 i (by decide) (by unfold prM; omega), lo 22 i (by decide) (by unfold prM; omega)⟩
    · exact z8 i (by omega) hi
theorem st_read : St_read RR := by
  intro G1 G2 Mc Mm hR
  have hR' := hR
  obtain ⟨r1, r2, ⟨n, hn, c21, m29, hbt⟩, r4, ⟨hW, hT⟩, r6⟩ := hR'
  obtain ⟨bb, hbb⟩ : ∃ bb : Nat → Nat, ∀ i, i < n → bb i < 256 ∧ Mm.1 23 i = nI (bb i) ∧ Mc.1 16 i = sb (bb i) := ⟨fun k => ix (Mm.1 23 k), fun i hi => by
    obtain ⟨b, b1, b2, b3⟩ := hbt i hi
    have e : ix (Mm.1 23 i) = b := by rw [b2, ix_nI (by omega)]
    dsimp only
    rw [e]; exact ⟨b1, b2, b3⟩⟩
  obtain ⟨B, hB⟩ : ∃ B : Nat × Nat × Nat × Nat, B = (ix (Mm.1 0 5), ix (Mm.1 0 10), ix (Mm.1 0 18), ix (Mm.1 0 23)) := ⟨_, rfl⟩
  have c1 : B.1 = ix (Mm.1 0 5) := by rw [hB]
  have c2 : B.2.1 = ix (Mm.1 0 10) := by rw [hB]
  have c3 : B.2.2.1 = ix (Mm.1 0 18) := by rw [hB]
  have c4 : B.2.2.2 = ix (Mm.1 0 23) := by rw [hB]
  have m5 : Mm.1 0 5 = nI B.1 := by rw [c1]; exact hW.1.1
  have m10 : Mm.1 0 10 = nI B.2.1 := by rw [c2]; exact hW.2.1.1
  have m18 : Mm.1 0 18 = nI B.2.2.1 := by rw [c3]; exact hW.2.2.1.1
  have m23 : Mm.1 0 23 = nI B.2.2.2 := by rw [c4]; exact hW.2.2.2.1.1
  have hBb : B.1 ≤ 10 ∧ B.2.1 ≤ 12 ∧ B.2.2.1 ≤ 20 ∧ B.2.2.2 ≤ 20 := by rw [c1, c2, c3, c4]; exact ⟨hW.1.2, hW.2.1.2, hW.2.2.1.2, hW.2.2.2.1.2⟩
  have hbM : ∀ i, i < n → bb i < 256 ∧ Mm.1 23 i = nI (bb i) := fun i hi => ⟨(hbb i hi).1, (hbb i hi).2.1⟩
  refine c_runC (D := Mm.1) (B := B) hn (fun i hi => ⟨(hbb i hi).1, (hbb i hi).2.2⟩) c21 (hT.1.1.trans m5) (hT.1.2.1.trans m10) (hT.1.2.2.1.trans m18) (hT.1.2.2.2.trans m23) hBb ?_
  cases hr : rdW bb n (n + 1) (W0 bb n Mm.1 B) with
  | inl e =>
    intro F hF
    refine c_runM (D := Mm.1) (B := B) hn hbM m29 m5 m10 m18 m23 hBb ?_
    rw [hr]
    intro F' hF'
    exact ⟨rfl, RR_fault hR hB (fun k hk => stM_k hk) (fun j p1 p2 => stM_0 p1 (by omega)) rfl hF hF'⟩
  | inr W =>
    obtain ⟨hWB, hWO, hkp⟩ := rd_keep (n + 1) _ W (W0_B hBb) W0_O hr
    replace hkp : eqBd (prM B) Mm.1 W.1 := hkp
    have hWd := dW_WF hB hW hWB hWO hkp
    have hAd := dW_AG hB hkp
    obtain ⟨⟨b1, b2⟩, ⟨l1, l2⟩, ⟨o1, o2⟩, ⟨h1, h2⟩, _⟩ := hWB
    have e5 : ix (kM (dW Mm B.1 W) 0 5) = W.2.1 := ix_nI (by omega)
    have e10 : ix (kM (dW Mm B.1 W) 0 10) = W.2.2.1 := ix_nI (by omega)
    have e18 : ix (kM (dW Mm B.1 W) 0 18) = W.2.2.2.1 := ix_nI (by omega)
    have e23 : ix (kM (dW Mm B.1 W) 0 23) = W.2.2.2.2.1 := ix_nI (by omega)
    intro F hRC
    obtain ⟨a1, _, ⟨c34, c69, c45, c55⟩, a4, a5, a6, a7⟩ := hRC
    obtain ⟨q1, q2, q3, q4, q5⟩ := CB_of a1
    obtain ⟨_, t5, _, t7, t8, t9⟩ := hT
    obtain ⟨X, hX⟩ : ∃ X, X = mset (Rp SC Mc F) 2 1 0 := ⟨_, rfl⟩
    have xs : ∀ k, k ≠ 2 → SC k = true → X.1 k = F k := fun k p1 p2 => by rw [hX, mset_nk p1, Rp_at p2]
    have xn : ∀ k, k ≠ 2 → SC k = false → X.1 k = Mc.1 k := fun k p1 p2 => by
      rw [hX, mset_nk p1]
      show (if SC k = true then F k else Mc.1 k) = Mc.1 k
      rw [if_neg (by rw [p2]; decide)]
    have x68 : X.1 6 8 = nI B.2.1 := by rw [xs 6 (by decide) rfl, a1 6 8 (by unfold prC; omega)]; exact hR.2.2.2.2.1.2.1.2.1.trans m10
    have x44 : X.1 4 4 = nI B.2.2.1 := by rw [xs 4 (by decide) rfl, a1 4 4 (by unfold prC; omega)]; exact hR.2.2.2.2.1.2.1.2.2.1.trans m18
    have x69 : X.1 6 9 = nI W.2.2.1 := by rw [xs 6 (by decide) rfl]; exact c69
    have x45 : X.1 4 5 = nI W.2.2.2.1 := by rw [xs 4 (by decide) rfl]; exact c45
    have x34 : X.1 3 4 = nI W.2.1 := by rw [xs 3 (by decide) rfl]; exact c34
    have x55 : X.1 5 5 = nI W.2.2.2.2.1 := by rw [xs 5 (by decide) rfl]; exact c55
    have key : ∀ N : Mem, (∀ k, k ≠ 9 → k ≠ 3 → k ≠ 5 → N.1 k = X.1 k) → N.1 3 3 = nI W.2.1 → N.1 5 4 = nI W.2.2.2.2.1 → (N.1 9 5 = 1 ∨ (N.1 9 5 = Mc.1 9 5 ∧ W.2.2.1 = B.2.1 ∧ W.2.2.2.1 = B.2.2.1)) → Cv shC G1 mX6_keep (3 + 4) [.ref (G1.2.1 4)] N (fun M1 => Cv shC G1 mX3_keep (3 + 4) [.ref (G1.2.1 6), .ref (G1.2.1 3), .ref (G1.2.1 4)] M1 (fun M2 => Ci shM G2 mX12_read 6 [.ref (G2.2.1 0)] Mm (fun y M3 => M2.1 6 8 = y ∧ RR M2 M3))) := by
      intro N hN n33 n54 n95
      have ns : ∀ k, k ≠ 2 → k ≠ 3 → k ≠ 5 → k ≠ 9 → SC k = true → N.1 k = F k := fun k p1 p2 p3 p4 p5 => by rw [hN k p4 p2 p3, xs k p1 p5]
      have nn : ∀ k, k ≠ 2 → k ≠ 3 → k ≠ 5 → k ≠ 9 → SC k = false → N.1 k = Mc.1 k := fun k p1 p2 p3 p4 p5 => by rw [hN k p4 p2 p3, xn k p1 p5]
      have so : srtO (kM (dW Mm B.1 W) 15) B.2.2.1 = ordS (kM Mm.1) := by
        rw [ordS, show ix (kM Mm.1 0 18) = B.2.2.1 from c3.symm]
        exact srtO_congr _ (fun x hx => (hAd.2.2.2.1 x (by show x < ix (Mm.1 0 18); omega)).1)
      have bk : ∀ b, b < W.2.1 → N.1 17 b = kM (dW Mm B.1 W) 4 b - kM (dW Mm B.1 W) 5 b ∧ N.1 18 b = kM (dW Mm B.1 W) 6 b := fun b hb => by
        rw [ns 17 (by decide) (by decide) (by decide) (by decide) rfl, ns 18 (by decide) (by decide) (by decide) (by decide) rfl]
        by_cases e : b < B.1
        · have e' : b < ix (kM Mm.1 0 5) := by show b < ix (Mm.1 0 5); omega
          obtain ⟨u1, u2, u3⟩ := hAd.1 b e'
          rw [u1, u2, u3]
          exact ⟨(q1 b e).1.trans (t5 b e').1, (q1 b e).2.trans (t5 b e').2.1⟩
        · exact a4 b (by omega) hb
      have ln : ∀ l, l < W.2.2.1 → N.1 28 l = kM (dW Mm B.1 W) 8 l ∧ N.1 29 l = kM (dW Mm B.1 W) 9 l ∧ N.1 30 l = kM (dW Mm B.1 W) 10 l ∧ N.1 31 l = kM (dW Mm B.1 W) 11 l ∧ N.1 32 l = kM (dW Mm B.1 W) 12 l ∧ N.1 38 l = kM (dW Mm B.1 W) 13 l ∧ ∀ k, k < ix (kM (dW Mm B.1 W) 13 l) → N.1 35 (8 * l + k) = kM (dW Mm B.1 W) 14 (8 * l + k) := fun l hl => by
        rw [ns 28 (by decide) (by decide) (by decide) (by decide) rfl, ns 29 (by decide) (by decide) (by decide) (by decide) rfl, ns 30 (by decide) (by decide) (by decide) (by decide) rfl, ns 31 (by decide) (by decide) (by decide) (by decide) rfl, ns 32 (by decide) (by decide) (by decide) (by decide) rfl, ns 38 (by decide) (by decide) (by decide) (by decide) rfl, ns 35 (by decide) (by decide) (by decide) (by decide) rfl]
        by_cases e : l < B.2.1
        · have e' : l < ix (kM Mm.1 0 10) := by show l < ix (Mm.1 0 10); omega
          obtain ⟨u1, u2, u3, u4, u5, _, _, u8, _, u10, _⟩ := t7 l e'
          obtain ⟨v1, v2, v3, v4, v5, v6⟩ := hAd.2.1 l e'
          obtain ⟨w1, w2, w3, w4, w5, w6⟩ := q2 l e
          obtain ⟨zz, _, z8, _, ez, _⟩ := WF_name hW e'
          rw [v1, v2, v3, v4, v5, v6]
          refine ⟨w1.trans u1, w2.trans u2, w3.trans u3, w4.trans u4, w5.trans u5, w6.trans u8, fun k hk => ?_⟩
          rw [hAd.2.2.1 l e' k hk (by omega)]
          exact (q3 (8 * l + k) (by omega)).trans (u10 k hk)
        · obtain ⟨u1, u2, u3, u4, u5, u6, _, u8⟩ := a5 l (by omega) hl
          exact ⟨u1, u2, u3, u4, u5, u6, u8⟩
      refine c_kept (k := 3) (nO := B.2.2.1) (no := W.2.2.2.1) (nL := B.2.1) (nl := W.2.2.1) (d := kM (dW Mm B.1 W)) (q := fun M2 => Ci shM G2 mX12_read 6 [.ref (G2.2.1 0)] Mm (fun y M3 => M2.1 6 8 = y ∧ RR M2 M3)) hWd e18 e10 o1 l1 (by rw [hN 4 (by decide) (by decide) (by decide)]; exact x44) (by rw [hN 4 (by decide) (by decide) (by decide)]; exact x45) (by rw [hN 6 (by decide) (by decide) (by decide)]; exact x68) (by rw [hN 6 (by decide) (by decide) (by decide)]; exact x69) (fun j hj => ?_) (fun j j1 j2 => ?_) (fun b hb => (bk b (by rw [e5] at hb; exact hb)).1) (fun l hl => ⟨(ln l hl).1, (ln l hl).2.2.1, (ln l hl).2.2.2.1, (ln l hl).2.2.2.2.2.1, (ln l hl).2.2.2.2.2.2⟩) (fun l hl => ?_) (fun K hK k44 k68 kro kln => ?_)
      · rw [so]
        have e' : j < ix (kM Mm.1 0 18) := by show j < ix (Mm.1 0 18); omega
        have hg : (ordS (kM Mm.1)).getD j 0 < ix (kM Mm.1 0 18) := mem_srtO.mp (get_mem (by rw [len_srtO]; exact e'))
        obtain ⟨u1, u2, u3, u4⟩ := t8 j e'
        obtain ⟨v1, v2, v3, v4⟩ := hAd.2.2.2.1 _ hg
        obtain ⟨w1, w2, w3, w4⟩ := q4 j hj
        unfold rowO
        rw [v1, v2, v3, v4, ns 20 (by decide) (by decide) (by decide) (by decide) rfl, ns 21 (by decide) (by decide) (by decide) (by decide) rfl, ns 22 (by decide) (by decide) (by decide) (by decide) rfl, ns 23 (by decide) (by decide) (by decide) (by decide) rfl]
        exact ⟨w1.trans u1, w2.trans u2, w3.trans u3, w4.trans u4⟩
      · unfold rowO
        rw [ns 20 (by decide) (by decide) (by decide) (by decide) rfl, ns 21 (by decide) (by decide) (by decide) (by decide) rfl, ns 22 (by decide) (by decide) (by decide) (by decide) rfl, ns 23 (by decide) (by decide) (by decide) (by decide) rfl]
        exact a6 j j1 j2
      · have e' : l < ix (kM Mm.1 0 10) := by show l < ix (Mm.1 0 10); omega
        obtain ⟨_, _, _, _, _, u6, _, _, u9, _, u11⟩ := t7 l e'
        rw [nn 33 (by decide) (by decide) (by decide) (by decide) rfl, nn 39 (by decide) (by decide) (by decide) (by decide) rfl, nn 37 (by decide) (by decide) (by decide) (by decide) rfl, gS_c hW hAd e', ear_c hW hAd e']
        refine ⟨u6, u9, fun j hj => (bt_of hj (u11 j hj)).trans ?_⟩
        rw [show ix (kM Mm.1 0 10) = B.2.1 from c2.symm]
        by_cases e : j < B.2.1
        · rw [like_c hW hAd e' (show j < ix (kM Mm.1 0 10) by show j < ix (Mm.1 0 10); omega)]
        · rw [decide_eq_false e, Bool.false_and, Bool.false_and]
      · -- the model
        show Ci shM G2 mX12_read 6 [.ref (G2.2.1 0)] Mm (fun y M3 => K 6 8 = y ∧ RR (Rp TT N K) M3)
        rw [k68]
        refine c_runM (D := Mm.1) (B := B) hn hbM m29 m5 m10 m18 m23 hBb ?_
        rw [hr]
        intro H hRM
        have hRM' := hRM
        obtain ⟨z1, z2, z3, ⟨z38, z39, z40, z41⟩, z5, z6, z7, z8⟩ := hRM'
        have h05 : H 0 5 = nI B.1 := by rw [z1 0 5 (Or.inl ⟨rfl, by decide⟩), stM_0 (by decide) (by decide)]; exact m5
        rw [h05]
        have main := c_265 (k := 0) (G := G2) (nb := W.2.1) (M0 := Rp SM (stM Mm) H) (q := fun y M3 => nI W.2.2.1 = y ∧ RR (Rp TT N K) M3) b2 (W.2.1 - B.1) B.1 (Rp SM (stM Mm) H).1 (by omega) z38 (fun J p1 p2 p3 => ?_)
        · rw [Rp_self] at main
          exact main
        refine ⟨z39.symm, ?_⟩
        have js : ∀ k, k ≠ 7 → SM k = true → J k = H k := fun k a b => by rw [p1 k a, Rp_at b]
        have jn : ∀ k, k ≠ 0 → k ≠ 7 → SM k = false → J k = Mm.1 k := fun k a0 a b => by
          rw [p1 k a]
          show (if SM k = true then H k else (stM Mm).1 k) = Mm.1 k
          rw [if_neg (by rw [b]; decide), stM_k a0]
        have w38 : (Rp SM (stM Mm) H).1 0 38 = nI W.2.1 := z38
        have w39 : (Rp SM (stM Mm) H).1 0 39 = nI W.2.2.1 := z39
        have w40 : (Rp SM (stM Mm) H).1 0 40 = nI W.2.2.2.1 := z40
        have w41 : (Rp SM (stM Mm) H).1 0 41 = nI W.2.2.2.2.1 := z41
        rw [w38, w39, w40, w41]
        obtain ⟨Mf, hMf⟩ : ∃ Mf, Mf = mset (mset (mset (mset (Rp TT (Rp SM (stM Mm) H) J) 0 5 (nI W.2.1)) 0 10 (nI W.2.2.1)) 0 18 (nI W.2.2.2.1)) 0 23 (nI W.2.2.2.2.1) := ⟨_, rfl⟩
        rw [← hMf]
        have fk : ∀ k, k ≠ 0 → Mf.1 k = J k := fun k a => by rw [hMf, mset_nk a, mset_nk a, mset_nk a, mset_nk a]; rfl
        have f0 : ∀ j, j ≠ 5 → j ≠ 10 → j ≠ 18 → j ≠ 23 → Mf.1 0 j = H 0 j := fun j a b c e => by
          rw [hMf]
          show upd (upd (upd (upd (J 0) 5 (nI W.2.1)) 10 (nI W.2.2.1)) 18 (nI W.2.2.2.1)) 23 (nI W.2.2.2.2.1) j = H 0 j
          rw [upd_ne _ _ e, upd_ne _ _ c, upd_ne _ _ b, upd_ne _ _ a, js 0 (by decide) rfl]
        have f5 : Mf.1 0 5 = nI W.2.1 := by rw [hMf]; rfl
        have f10 : Mf.1 0 10 = nI W.2.2.1 := by rw [hMf]; rfl
        have f18 : Mf.1 0 18 = nI W.2.2.2.1 := by rw [hMf]; rfl
        have f23 : Mf.1 0 23 = nI W.2.2.2.2.1 := by rw [hMf]; rfl
        have hs : ∀ k, 4 ≤ k → k ≤ 22 → k ≠ 7 → Mf.1 k = H k := fun k a b c => by
          have : ∀ k, k ≤ 22 → 4 ≤ k → k ≠ 7 → SM k = true := by decide
          rw [fk k (by omega), js k c (this k b a c)]
        have f7 : ∀ b, b < B.1 → Mf.1 7 b = Mm.1 7 b := fun b hb => by
          rw [fk 7 (by decide), p2 b hb]
          show (stM Mm).1 7 b = Mm.1 7 b
          rw [stM_k (by decide)]
        have f7' : ∀ b, B.1 ≤ b → b < W.2.1 → Mf.1 7 b = 0 := fun b hb hb2 => by rw [fk 7 (by decide), p3 b hb hb2]
        have hAm : AG (kM (dW Mm B.1 W)) (kM Mf.1) := mod_AG ⟨b1, b2⟩ ⟨l1, l2⟩ ⟨o1, o2⟩ ⟨h1, h2⟩ hkp hRM hs
        have hAo : AG (kM Mm.1) (kM Mf.1) := AG_of (F := H) hB (fun k i a0 a => by rw [z1 k i a, stM_k a0]) hs
        have g5 : kM Mf.1 0 5 = kM (dW Mm B.1 W) 0 5 := f5
        have g10 : kM Mf.1 0 10 = kM (dW Mm B.1 W) 0 10 := f10
        have g18 : kM Mf.1 0 18 = kM (dW Mm B.1 W) 0 18 := f18
        have g23 : kM Mf.1 0 23 = kM (dW Mm B.1 W) 0 23 := f23
        have hWf : WFm (kM Mf.1) := WF_c hWd hAm g5 g10 g18 g23 (fun b hb => by
          rw [e5] at hb
          show Mf.1 7 b = if b < B.1 then Mm.1 7 b else 0
          by_cases e : b < B.1
          · rw [if_pos e, f7 b e]
          · rw [if_neg e, f7' b (by omega) hb])
        have kn : ∀ k, k ≠ 2 → k ≠ 3 → k ≠ 5 → k ≠ 9 → (k < 20 ∨ 23 < k) → k ≠ 4 → k ≠ 6 → k ≠ 33 → k ≠ 34 → k ≠ 36 → k ≠ 37 → k ≠ 39 → K k = N.1 k := fun k _ _ _ _ a1 a2 a3 a4 a5 a6 a7 a8 => hK k a1 a2 a3 a4 a5 a6 a7 a8
        have kw : ∀ k, (k < 20 ∨ 23 < k) → (k ≠ 4 ∧ k ≠ 6 ∧ k ≠ 33 ∧ k ≠ 34 ∧ k ≠ 36 ∧ k ≠ 37 ∧ k ≠ 39) → K k = N.1 k := fun k a b => hK k a b.1 b.2.1 b.2.2.1 b.2.2.2.1 b.2.2.2.2.1 b.2.2.2.2.2.1 b.2.2.2.2.2.2
        refine RR_ok (nb := W.2.1) (nl := W.2.2.1) (no := W.2.2.2.1) (nh := W.2.2.2.2.1) hR (fun k a => ?_) ?_ ?_ ⟨?_, k68, k44, ?_⟩ (fun b hb => ?_) (fun l hl => ?_) (fun i hi => ?_) (fun x hx => ?_) (fun k a => ?_) ?_ ?_ ?_ ?_ ⟨f5, f10, f18, f23⟩ (fun b hb => f7 b (by omega)) (fun b hb hb2 => f7' b (by omega) hb2) ⟨by omega, b2⟩ l2 o2 h2 hWf hAo
        · have hsc : ∀ k, k = 0 ∨ k = 11 ∨ k = 13 ∨ k = 14 ∨ k = 15 ∨ k = 19 ∨ k = 40 ∨ k = 41 ∨ k = 42 ∨ k = 43 ∨ k = 47 → SC k = false := by
            intro k a
            rcases a with rfl | rfl | rfl | rfl | rfl | rfl | rfl | rfl | rfl | rfl | rfl <;> rfl
          show K k = Mc.1 k
          rw [kw k (by omega) (by omega)]
          exact nn k (by omega) (by omega) (by omega) (by omega) (hsc k a)
        · show K 2 1 = 0
          rw [kw 2 (by decide) (by decide), hN 2 (by decide) (by decide) (by decide), hX]; rfl
        · show K 9 5 = 1 ∨ (K 9 5 = Mc.1 9 5 ∧ Mf.1 0 10 = Mm.1 0 10 ∧ Mf.1 0 18 = Mm.1 0 18)
          rw [kw 9 (by decide) (by decide), f10, f18, m10, m18]
          rcases n95 with e | ⟨e, y1, y2⟩
          · exact Or.inl e
          · exact Or.inr ⟨e, by rw [y1], by rw [y2]⟩
        · show K 3 3 = _
          rw [kw 3 (by decide) (by decide)]; exact n33
        · show K 5 4 = _
          rw [kw 5 (by decide) (by decide)]; exact n54
        · show K 17 b = Mf.1 4 b - Mf.1 5 b ∧ K 18 b = Mf.1 6 b
          obtain ⟨y1, y2, y3⟩ := hAm.1 b (by rw [e5]; exact hb)
          rw [kw 17 (by decide) (by decide), kw 18 (by decide) (by decide), show Mf.1 4 b = kM (dW Mm B.1 W) 4 b from y1, show Mf.1 5 b = kM (dW Mm B.1 W) 5 b from y2, show Mf.1 6 b = kM (dW Mm B.1 W) 6 b from y3]
          exact bk b hb
        · have hl' : l < ix (kM (dW Mm B.1 W) 0 10) := by rw [e10]; exact hl
          obtain ⟨y1, y2, y3, y4, y5, y6⟩ := hAm.2.1 l hl'
          obtain ⟨s1, s2, s3, s4, s5, s6, s7⟩ := ln l hl
          obtain ⟨i1, i2, i3, i4⟩ := kln l hl
          obtain ⟨zz, _, zz8, _, ez, _⟩ := WF_name hWd hl'
          unfold tieL
          rw [y1, y2, y3, y4, y5, y6, gS_c hWd hAm hl', door_c hWd hAm g18 hl', ear_c hWd hAm hl', g10, e10]
          refine ⟨?_, ?_, ?_, ?_, ?_, i1, i2, ?_, i3, fun k hk => ?_, fun j hj => ?_⟩
          · show K 28 l = _
            rw [kw 28 (by decide) (by decide)]; exact s1
          · show K 29 l = _
            rw [kw 29 (by decide) (by decide)]; exact s2
          · show K 30 l = _
            rw [kw 30 (by decide) (by decide)]; exact s3
          · show K 31 l = _
            rw [kw 31 (by decide) (by decide)]; exact s4
          · show K 32 l = _
            rw [kw 32 (by decide) (by decide)]; exact s5
          · show K 38 l = _
            rw [kw 38 (by decide) (by decide)]; exact s6
          · show K 35 (8 * l + k) = _
            rw [kw 35 (by decide) (by decide), hAm.2.2.1 l hl' k hk (by omega)]; exact s7 k hk
          · refine of_bt hj ((i4 j hj).trans ?_)
            by_cases e : j < W.2.2.1
            · rw [like_c hWd hAm hl' (show j < ix (kM (dW Mm B.1 W) 0 10) by rw [e10]; exact e)]
            · rw [decide_eq_false e, Bool.false_and, Bool.false_and]
        · have e' : i < ix (kM (dW Mm B.1 W) 0 18) := by rw [e18]; exact hi
          have hg : (ordS (kM (dW Mm B.1 W))).getD i 0 < ix (kM (dW Mm B.1 W) 0 18) := mem_srtO.mp (get_mem (by rw [len_srtO]; exact e'))
          obtain ⟨v1, v2, v3, v4⟩ := hAm.2.2.2.1 _ hg
          rw [ordS_c hAm g18]
          unfold rowO
          rw [v1, v2, v3, v4]
          have := kro i hi
          rw [ordS, e18]
          exact this
        · show K 24 x = Mf.1 19 x ∧ K 25 x = Mf.1 20 x ∧ K 26 x = Mf.1 21 x ∧ K 27 x = Mf.1 22 x
          obtain ⟨y1, y2, y3, y4⟩ := hAm.2.2.2.2 x (by rw [e23]; exact hx)
          rw [kw 24 (by decide) (by decide), kw 25 (by decide) (by decide), kw 26 (by decide) (by decide), kw 27 (by decide) (by decide), show Mf.1 19 x = kM (dW Mm B.1 W) 19 x from y1, show Mf.1 20 x = kM (dW Mm B.1 W) 20 x from y2, show Mf.1 21 x = kM (dW Mm B.1 W) 21 x from y3, show Mf.1 22 x = kM (dW Mm B.1 W) 22 x from y4, ns 24 (by decide) (by decide) (by decide) (by decide) rfl, ns 25 (by decide) (by decide) (by decide) (by decide) rfl, ns 26 (by decide) (by decide) (by decide) (by decide) rfl, ns 27 (by decide) (by decide) (by decide) (by decide) rfl]
          by_cases e : x < B.2.2.2
          · have e' : x < ix (kM Mm.1 0 23) := by show x < ix (Mm.1 0 23); omega
            obtain ⟨u1, u2, u3, u4⟩ := hAd.2.2.2.2 x e'
            obtain ⟨w1, w2, w3, w4⟩ := q5 x e
            obtain ⟨s1, s2, s3, s4⟩ := t9 x e'
            rw [u1, u2, u3, u4]
            exact ⟨w1.trans s1, w2.trans s2, w3.trans s3, w4.trans s4⟩
          · exact a7 x (by omega) hx
        · have hsm : ∀ k, k = 1 ∨ k = 2 ∨ k = 3 ∨ k = 32 → SM k = false := by
            intro k a
            rcases a with rfl | rfl | rfl | rfl <;> rfl
          rw [fk k (by omega), jn k (by omega) (by omega) (hsm k a)]
        · rw [f0 1 (by decide) (by decide) (by decide) (by decide), z1 0 1 (Or.inl ⟨rfl, by decide⟩), stM_0 (by decide) (by decide)]
        · rw [f0 30 (by decide) (by decide) (by decide) (by decide), z1 0 30 (Or.inl ⟨rfl, by decide⟩), stM_0 (by decide) (by decide)]
        · rw [f0 53 (by decide) (by decide) (by decide) (by decide), z1 0 53 (Or.inl ⟨rfl, by decide⟩), stM_0 (by decide) (by decide)]
        · rw [f0 29 (by decide) (by decide) (by decide) (by decide), z1 0 29 (Or.inl ⟨rfl, by decide⟩)]; rfl
    rw [← hX]
    refine wp_X11_keepTold (k := 3) ?_
    rw [x68, x69, x45, x44, x34, x55]
    refine ⟨fun c => key _ (fun k p1 p2 p3 => by rw [mset_nk p3, mset_nk p2, mset_nk p1]) rfl rfl (Or.inl rfl), fun c => ⟨fun c2 => key _ (fun k p1 p2 p3 => by rw [mset_nk p3, mset_nk p2]) rfl rfl (Or.inr ⟨?_, ?_, ?_⟩), fun c2 => key _ (fun k p1 p2 p3 => by rw [mset_nk p3, mset_nk p2, mset_nk p1]) rfl rfl (Or.inl rfl)⟩⟩
    · show X.1 9 5 = Mc.1 9 5
      rw [xn 9 (by decide) rfl]
    · have : ¬ B.2.1 < W.2.2.1 := fun e => c (nI_lt e (by omega))
      omega
    · have := (nI_leI (by omega) (by omega)).mp c2
      omega
