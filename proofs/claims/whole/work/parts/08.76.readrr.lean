/-! read: the relation behind it -/
theorem AG_of {m m' F : Nat → Nat → Int32} {B : Nat × Nat × Nat × Nat} (hB : B = (ix (m 0 5), ix (m 0 10), ix (m 0 18), ix (m 0 23))) (hF : ∀ k i, k ≠ 0 → prM B k i → F k i = m k i) (hm : ∀ k, 4 ≤ k → k ≤ 22 → k ≠ 7 → m' k = F k) : AG (kM m) (kM m') := by
  subst hB
  have f : ∀ k, 4 ≤ k → k ≤ 22 → k ≠ 7 → ∀ i, prM (ix (m 0 5), ix (m 0 10), ix (m 0 18), ix (m 0 23)) k i → m' k i = m k i := fun k p1 p2 p3 i hp => by rw [hm k p1 p2 p3]; exact hF k i (by omega) hp
  refine ⟨fun i hi => ⟨?_, ?_, ?_⟩, fun i hi => ⟨?_, ?_, ?_, ?_, ?_, ?_⟩, fun i hi k hk k8 => ?_, fun i hi => ⟨?_, ?_, ?_, ?_⟩, fun i hi => ⟨?_, ?_, ?_, ?_⟩⟩
  · exact f 4 (by decide) (by decide) (by decide) i (Or.inr (Or.inl ⟨by decide, hi⟩))
  · exact f 5 (by decide) (by decide) (by decide) i (Or.inr (Or.inl ⟨by decide, hi⟩))
  · exact f 6 (by decide) (by decide) (by decide) i (Or.inr (Or.inl ⟨by decide, hi⟩))
  · exact f 8 (by decide) (by decide) (by decide) i (Or.inr (Or.inr (Or.inl ⟨by decide, hi⟩)))
  · exact f 9 (by decide) (by decide) (by decide) i (Or.inr (Or.inr (Or.inl ⟨by decide, hi⟩)))
  · exact f 10 (by decide) (by decide) (by decide) i (Or.inr (Or.inr (Or.inl ⟨by decide, hi⟩)))
  · exact f 11 (by decide) (by decide) (by decide) i (Or.inr (Or.inr (Or.inl ⟨by decide, hi⟩)))
  · exact f 12 (by decide) (by decide) (by decide) i (Or.inr (Or.inr (Or.inl ⟨by decide, hi⟩)))
  · exact f 13 (by decide) (by decide) (by decide) i (Or.inr (Or.inr (Or.inl ⟨by decide, hi⟩)))
  · exact f 14 (by decide) (by decide) (by decide) (8 * i + k) (Or.inr (Or.inr (Or.inr (Or.inl ⟨rfl, by have : i < ix (m 0 10) := hi; show 8 * i + k < 8 * ix (m 0 10); omega⟩))))
  · exact f 15 (by decide) (by decide) (by decide) i (Or.inr (Or.inr (Or.inr (Or.inr (Or.inl ⟨by decide, hi⟩)))))
  · exact f 16 (by decide) (by decide) (by decide) i (Or.inr (Or.inr (Or.inr (Or.inr (Or.inl ⟨by decide, hi⟩)))))
  · exact f 17 (by decide) (by decide) (by decide) i (Or.inr (Or.inr (Or.inr (Or.inr (Or.inl ⟨by decide, hi⟩)))))
  · exact f 18 (by decide) (by decide) (by decide) i (Or.inr (Or.inr (Or.inr (Or.inr (Or.inl ⟨by decide, hi⟩)))))
  · exact f 19 (by decide) (by decide) (by decide) i (Or.inr (Or.inr (Or.inr (Or.inr (Or.inr ⟨by decide, hi⟩)))))
  · exact f 20 (by decide) (by decide) (by decide) i (Or.inr (Or.inr (Or.inr (Or.inr (Or.inr ⟨by decide, hi⟩)))))
  · exact f 21 (by decide) (by decide) (by decide) i (Or.inr (Or.inr (Or.inr (Or.inr (Or.inr ⟨by decide, hi⟩)))))
  · exact f 22 (by decide) (by decide) (by decide) i (Or.inr (Or.inr (Or.inr (Or.inr (Or.inr ⟨by decide, hi⟩)))))
/-- what a place of the class keeps -/
def CB (B : Nat × Nat × Nat × Nat) (c c' : Nat → Nat → Int32) : Prop := (∀ i, i < B.1 → c' 17 i = c 17 i ∧ c' 18 i = c 18 i) ∧ (∀ i, i < B.2.1 → c' 28 i = c 28 i ∧ c' 29 i = c 29 i ∧ c' 30 i = c 30 i ∧ c' 31 i = c 31 i ∧ c' 32 i = c 32 i ∧ c' 38 i = c 38 i) ∧ (∀ i, i < 8 * B.2.1 → c' 35 i = c 35 i) ∧ (∀ i, i < B.2.2.1 → c' 20 i = c 20 i ∧ c' 21 i = c 21 i ∧ c' 22 i = c 22 i ∧ c' 23 i = c 23 i) ∧ (∀ i, i < B.2.2.2 → c' 24 i = c 24 i ∧ c' 25 i = c 25 i ∧ c' 26 i = c 26 i ∧ c' 27 i = c 27 i)
theorem CB_of {B : Nat × Nat × Nat × Nat} {c F : Nat → Nat → Int32} (h : eqBd (prC B) c F) : CB B c F := by
  refine ⟨fun i hi => ⟨?_, ?_⟩, fun i hi => ⟨?_, ?_, ?_, ?_, ?_, ?_⟩, fun i hi => ?_, fun i hi => ⟨?_, ?_, ?_, ?_⟩, fun i hi => ⟨?_, ?_, ?_, ?_⟩⟩ <;> exact h _ i (by unfold prC; omega)
theorem RR_fault {Mc Mm M0 : Mem} {F F' : Nat → Nat → Int32} {B : Nat × Nat × Nat × Nat} {v : Int32} (hR : RR Mc Mm) (hB : B = (ix (Mm.1 0 5), ix (Mm.1 0 10), ix (Mm.1 0 18), ix (Mm.1 0 23))) (h0 : ∀ k, k ≠ 0 → M0.1 k = Mm.1 k) (h1 : ∀ j, j ≠ 0 → (j < 29 ∨ 41 < j) → M0.1 0 j = Mm.1 0 j) (h29 : M0.1 0 29 = 0) (hC : eqBd (prC B) Mc.1 F) (hM : eqBd (prM B) M0.1 F') : RR (mset (mset (Rp SC Mc F) 2 1 0) 0 11 v) (mset (Rp SM M0 F') 0 30 v) := by
  obtain ⟨r1, r2, r3, r4, ⟨hW, hT⟩, r6⟩ := hR
  have z : ∀ j, j ≠ 0 → (j < 29 ∨ 41 < j) → F' 0 j = Mm.1 0 j := fun j p1 p2 => by rw [hM 0 j (Or.inl ⟨rfl, by omega⟩)]; exact h1 j p1 p2
  have hA : AG (kM Mm.1) (kM (mset (Rp SM M0 F') 0 30 v).1) := AG_of (F := F') hB (fun k i p1 p2 => by rw [hM k i p2, h0 k p1]) (fun k p1 p2 p3 => by
    have p0 : k ≠ 0 := by omega
    have hs : SM k = true := by
      have : ∀ k, k ≤ 22 → 4 ≤ k → k ≠ 7 → SM k = true := by decide
      exact this k p2 p1 p3
    show (if k = 0 then _ else (Rp SM M0 F').1 k) = F' k
    rw [if_neg p0, Rp_at hs])
  have e5 : kM (mset (Rp SM M0 F') 0 30 v).1 0 5 = kM Mm.1 0 5 := z 5 (by decide) (by decide)
  have e10 : kM (mset (Rp SM M0 F') 0 30 v).1 0 10 = kM Mm.1 0 10 := z 10 (by decide) (by decide)
  have e18 : kM (mset (Rp SM M0 F') 0 30 v).1 0 18 = kM Mm.1 0 18 := z 18 (by decide) (by decide)
  have e23 : kM (mset (Rp SM M0 F') 0 30 v).1 0 23 = kM Mm.1 0 23 := z 23 (by decide) (by decide)
  have m7 : ∀ b, kM (mset (Rp SM M0 F') 0 30 v).1 7 b = kM Mm.1 7 b := fun b => congrFun (h0 7 (by decide)) b
  refine ⟨⟨r1.1.trans (z 1 (by decide) (by decide)).symm, rfl⟩, ?_, ⟨0, by decide, rfl, ?_, fun k hk => absurd hk (by omega)⟩, ?_, ⟨WF_c hW hA e5 e10 e18 e23 (fun b _ => m7 b), ?_⟩, ?_⟩
  · intro s hs
    have e1 : (mset (Rp SM M0 F') 0 30 v).1 1 = Mm.1 1 := h0 1 (by decide)
    have e2 : (mset (Rp SM M0 F') 0 30 v).1 2 = Mm.1 2 := h0 2 (by decide)
    have e3 : (mset (Rp SM M0 F') 0 30 v).1 3 = Mm.1 3 := h0 3 (by decide)
    rw [e1, e2, e3]
    exact r2 s hs
  · show F' 0 29 = nI 0
    rw [hM 0 29 (Or.inl ⟨rfl, by decide⟩), h29]; rfl
  · obtain ⟨n, n1, n2, n3, n4⟩ := r4
    exact ⟨n, n1, n2, (z 53 (by decide) (by decide)).trans n3, fun k hk => (n4 k hk).trans (congrFun (h0 32 (by decide)) k).symm⟩
  · obtain ⟨⟨t1, t2, t3, t4⟩, t5, t6, t7, t8, t9⟩ := hT
    obtain ⟨q1, q2, q3, q4, q5⟩ := CB_of hC
    rw [hB] at q1 q2 q3 q4 q5
    have hc3 : F 3 3 = Mc.1 3 3 := hC 3 3 (by unfold prC; omega)
    have hc6 : F 6 8 = Mc.1 6 8 := hC 6 8 (by unfold prC; omega)
    have hc4 : F 4 4 = Mc.1 4 4 := hC 4 4 (by unfold prC; omega)
    have hc5 : F 5 4 = Mc.1 5 4 := hC 5 4 (by unfold prC; omega)
    unfold TieC
    rw [e5, e10, e18, e23, ordS_c hA e18]
    refine ⟨⟨hc3.trans t1, hc6.trans t2, hc4.trans t3, hc5.trans t4⟩, fun b hb => ?_, t6, fun l hl => ?_, fun i hi => ?_, fun i hi => ?_⟩
    · obtain ⟨u1, u2, u3⟩ := t5 b hb
      obtain ⟨a1, a2, a3⟩ := hA.1 b hb
      rw [a1, a2, a3, m7 b]
      exact ⟨(q1 b hb).1.trans u1, (q1 b hb).2.trans u2, u3⟩
    · obtain ⟨u1, u2, u3, u4, u5, u6, u7, u8, u9, u10, u11⟩ := t7 l hl
      obtain ⟨a1, a2, a3, a4, a5, a6⟩ := hA.2.1 l hl
      obtain ⟨b1, b2, b3, b4, b5, b6⟩ := q2 l hl
      obtain ⟨zz, _, z8, _, ez, _⟩ := WF_name hW hl
      unfold tieL
      rw [a1, a2, a3, a4, a5, a6, gS_c hW hA hl, door_c hW hA e18 hl, ear_c hW hA hl, e10]
      refine ⟨b1.trans u1, b2.trans u2, b3.trans u3, b4.trans u4, b5.trans u5, u6, u7, b6.trans u8, u9, fun k hk => ?_, fun j hj => ?_⟩
      · rw [hA.2.2.1 l hl k hk (by omega)]
        exact (q3 (8 * l + k) (by show 8 * l + k < 8 * ix (kM Mm.1 0 10); omega)).trans (u10 k hk)
      · refine (u11 j hj).trans ?_
        by_cases e : j < ix (kM Mm.1 0 10)
        · rw [like_c hW hA hl e]
        · rw [decide_eq_false e, Bool.false_and, Bool.false_and]
    · obtain ⟨u1, u2, u3, u4⟩ := t8 i hi
      have hg : (ordS (kM Mm.1)).getD i 0 < ix (kM Mm.1 0 18) := mem_srtO.mp (get_mem (by rw [len_srtO]; exact hi))
      obtain ⟨a1, a2, a3, a4⟩ := hA.2.2.2.1 _ hg
      obtain ⟨b1, b2, b3, b4⟩ := q4 i hi
      rw [a1, a2, a3, a4]
      exact ⟨b1.trans u1, b2.trans u2, b3.trans u3, b4.trans u4⟩
    · obtain ⟨u1, u2, u3, u4⟩ := t9 i hi
      obtain ⟨a1, a2, a3, a4⟩ := hA.2.2.2.2 i hi
      obtain ⟨b1, b2, b3, b4⟩ := q5 i hi
      rw [a1, a2, a3, a4]
      exact ⟨b1.trans u1, b2.trans u2, b3.trans u3, b4.trans u4⟩
  · exact PT_c (c := Mc.1) (m := Mm.1) hW hA e10 e18 rfl r6
theorem RR_ok {Mc Mm Mc' Mm' : Mem} {nb nl no nh : Nat} (hR : RR Mc Mm) (c0 : ∀ k, k = 0 ∨ k = 11 ∨ k = 13 ∨ k = 14 ∨ k = 15 ∨ k = 19 ∨ k = 40 ∨ k = 41 ∨ k = 42 ∨ k = 43 ∨ k = 47 → Mc'.1 k = Mc.1 k) (c21 : Mc'.1 2 1 = 0) (c95 : Mc'.1 9 5 = 1 ∨ (Mc'.1 9 5 = Mc.1 9 5 ∧ Mm'.1 0 10 = Mm.1 0 10 ∧ Mm'.1 0 18 = Mm.1 0 18)) (cc : Mc'.1 3 3 = nI nb ∧ Mc'.1 6 8 = nI nl ∧ Mc'.1 4 4 = nI no ∧ Mc'.1 5 4 = nI nh) (cb : ∀ b, b < nb → Mc'.1 17 b = Mm'.1 4 b - Mm'.1 5 b ∧ Mc'.1 18 b = Mm'.1 6 b) (cl : ∀ l, l < nl → tieL (kC Mc'.1) (kM Mm'.1) l) (co : ∀ i, i < no → rowO Mc'.1 (kM Mm'.1) i ((ordS (kM Mm'.1)).getD i 0)) (ch : ∀ h, h < nh → Mc'.1 24 h = Mm'.1 19 h ∧ Mc'.1 25 h = Mm'.1 20 h ∧ Mc'.1 26 h = Mm'.1 21 h ∧ Mc'.1 27 h = Mm'.1 22 h) (m0 : ∀ k, k = 1 ∨ k = 2 ∨ k = 3 ∨ k = 32 → Mm'.1 k = Mm.1 k) (m01 : Mm'.1 0 1 = Mm.1 0 1) (m30 : Mm'.1 0 30 = Mm.1 0 30) (m53 : Mm'.1 0 53 = Mm.1 0 53) (m29 : Mm'.1 0 29 = 0) (mc : Mm'.1 0 5 = nI nb ∧ Mm'.1 0 10 = nI nl ∧ Mm'.1 0 18 = nI no ∧ Mm'.1 0 23 = nI nh) (m7 : ∀ b, b < ix (Mm.1 0 5) → Mm'.1 7 b = Mm.1 7 b) (m7' : ∀ b, ix (Mm.1 0 5) ≤ b → b < nb → Mm'.1 7 b = 0) (hle : ix (Mm.1 0 5) ≤ nb ∧ nb ≤ 10) (hl12 : nl ≤ 12) (ho20 : no ≤ 20) (hh20 : nh ≤ 20) (hW' : WFm (kM Mm'.1)) (hA : AG (kM Mm.1) (kM Mm'.1)) : RR Mc' Mm' := by
  obtain ⟨r1, r2, r3, r4, ⟨hW, hT⟩, r6⟩ := hR
  have e5 : ix (kM Mm'.1 0 5) = nb := by rw [show kM Mm'.1 0 5 = nI nb from mc.1, ix_nI (by omega)]
  have e10 : ix (kM Mm'.1 0 10) = nl := by rw [show kM Mm'.1 0 10 = nI nl from mc.2.1, ix_nI (by omega)]
  have e18 : ix (kM Mm'.1 0 18) = no := by rw [show kM Mm'.1 0 18 = nI no from mc.2.2.1, ix_nI (by omega)]
  have e23 : ix (kM Mm'.1 0 23) = nh := by rw [show kM Mm'.1 0 23 = nI nh from mc.2.2.2, ix_nI (by omega)]
  refine ⟨⟨?_, ?_⟩, ?_, ⟨0, by decide, c21, m29, fun k hk => absurd hk (by omega)⟩, ?_, ⟨hW', ?_⟩, ?_⟩
  · rw [c0 0 (by decide), m01]; exact r1.1
  · rw [c0 0 (by decide), m30]; exact r1.2
  · intro s hs
    rw [m0 1 (by decide), m0 2 (by decide), m0 3 (by decide), c0 13 (by decide), c0 14 (by decide), c0 15 (by decide)]
    exact r2 s hs
  · obtain ⟨n, n1, n2, n3, n4⟩ := r4
    exact ⟨n, n1, by rw [c0 11 (by decide)]; exact n2, m53.trans n3, fun k hk => by rw [c0 47 (by decide), m0 32 (by decide)]; exact n4 k hk⟩
  · obtain ⟨_, t5, t6, _, _, _⟩ := hT
    have c19 : ∀ b, kC Mc'.1 19 b = kC Mc.1 19 b := fun b => congrFun (c0 19 (by decide)) b
    unfold TieC
    rw [e5, e10, e18, e23]
    refine ⟨⟨cc.1.trans mc.1.symm, cc.2.1.trans mc.2.1.symm, cc.2.2.1.trans mc.2.2.1.symm, cc.2.2.2.trans mc.2.2.2.symm⟩, fun b hb => ⟨(cb b hb).1, (cb b hb).2, ?_⟩, fun b hb hb2 => ?_, cl, co, ch⟩
    · rw [c19 b]
      by_cases e : b < ix (Mm.1 0 5)
      · exact (t5 b e).2.2.trans (m7 b e).symm
      · exact (t6 b (by show ix (Mm.1 0 5) ≤ b; omega) (by omega)).trans (m7' b (by omega) hb).symm
    · rw [c19 b]
      exact t6 b (by show ix (Mm.1 0 5) ≤ b; omega) hb2
  · rcases c95 with h | ⟨h, g1, g2⟩
    · exact Or.inl h
    · refine PT_c (c := Mc.1) (m := Mm.1) hW hA g1 g2 ?_ r6
      funext o
      unfold kPc
      rw [h, c0 40 (by decide), c0 41 (by decide), c0 42 (by decide), c0 43 (by decide)]
