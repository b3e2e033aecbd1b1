theorem nI_subI {a b : Nat} (ha : a < 2 ^ 31) (hb : b < 2 ^ 31) : (nI a - nI b).toInt = (a : Int) - b := by
  rw [Int32.toInt_sub, nI_toInt ha, nI_toInt hb]
  exact Int.bmod_eq_of_le (by omega) (by omega)
theorem st_copy : St_copy RR := by
  intro G1 G2 Mc Mm a i b j n hR
  rcases num_of a (n := 8) (by decide) with h | ⟨h, h8⟩ | ⟨s, hs, rfl⟩
  · refine wp_X11_copy (wp_X11_noSheet ⟨fun _ => n1 ?_, fun c => absurd h c⟩)
    refine wp_X12_copy (c_isSheet ?_)
    rw [inZ_out (Or.inl (lt0 h))]
    exact k0 ⟨rfl, RR_thrown hR⟩
  · refine wp_X11_copy (wp_X11_noSheet ⟨fun c => absurd c h, fun _ => ⟨fun c => ?_, fun _ => n1 ?_⟩⟩)
    · have := Int32.lt_iff_toInt_lt.mp c
      simp at this; omega
    · refine wp_X12_copy (c_isSheet ?_)
      rw [inZ_out (Or.inr (by omega))]
      exact k0 ⟨rfl, RR_thrown hR⟩
  have hxs : ix (nI s) = s := ix_nI (by omega)
  have hvs : vp_in (nI s) 8 := vp_in_nI hs (by decide)
  have inS : inZ (nI s) 0 7 = 1 := inZ_nI (by omega) (by omega)
  refine wp_X11_copy (wp_X11_noSheet ⟨fun c => absurd c (nI_pos (by omega)), fun _ => ⟨fun _ => n0 ?_, fun c => absurd (nI_lt hs (by decide)) c⟩⟩)
  rcases num_of b (n := 8) (by decide) with h | ⟨h, h8⟩ | ⟨t, ht, rfl⟩
  · refine wp_X11_noSheet ⟨fun _ => k1 ?_, fun c => absurd h c⟩
    refine wp_X12_copy (c_isSheet ?_)
    rw [inS]
    refine k1 (c_isSheet ?_)
    rw [inZ_out (Or.inl (lt0 h))]
    exact n0 ⟨rfl, RR_thrown hR⟩
  · refine wp_X11_noSheet ⟨fun c => absurd c h, fun _ => ⟨fun c => ?_, fun _ => k1 ?_⟩⟩
    · have := Int32.lt_iff_toInt_lt.mp c
      simp at this; omega
    · refine wp_X12_copy (c_isSheet ?_)
      rw [inS]
      refine k1 (c_isSheet ?_)
      rw [inZ_out (Or.inr (by omega))]
      exact n0 ⟨rfl, RR_thrown hR⟩
  have hxt : ix (nI t) = t := ix_nI (by omega)
  have hvt : vp_in (nI t) 8 := vp_in_nI ht (by decide)
  have inT : inZ (nI t) 0 7 = 1 := inZ_nI (by omega) (by omega)
  refine wp_X11_noSheet ⟨fun c => absurd c (nI_pos (by omega)), fun _ => ⟨fun _ => k0 ?_, fun c => absurd (nI_lt ht (by decide)) c⟩⟩
  have fnd : ∀ x : Int32, RR (mset Mc 0 12 x) (mset (mset (mset Mm 0 0 0) 0 1 0) 0 1 x) := fun x => ⟨⟨rfl, hR.1.2⟩, hR.2⟩
  refine wp_X9_isMissing ⟨hvs, fun c => n0 ?_, fun c => n1 ?_⟩
  rotate_left
  · rw [hxs] at c
    obtain ⟨e1, e2⟩ | ⟨n', hn', e1, e2, e3, e4, e5⟩ := hR.2.1 s hs
    · refine wp_X11_finding (wp_X12_copy (c_isSheet ?_))
      rw [inS]
      refine k1 (c_isSheet ?_)
      rw [inT]
      refine n1 ⟨hvs, fun _ => wp_X12_finding ⟨rfl, fnd 1⟩, fun c2 => absurd ?_ c2⟩
      show Mm.1 1 (ix (nI s)) < 0
      rw [hxs, e1]; decide
    · exfalso
      rw [e2] at c
      have := congrArg Int32.toInt c
      rw [nI_toInt (by omega)] at this
      simp at this
  rw [hxs] at c
  obtain ⟨s1, s2⟩ | ⟨ns, hns, s1, s2, s3, s4, s5⟩ := hR.2.1 s hs
  · exact absurd s2 c
  have s0 : ¬ Mm.1 1 (ix (nI s)) < 0 := by rw [hxs]; rcases s4 with e | e | e <;> rw [e] <;> decide
  refine wp_X9_isMissing ⟨hvt, fun d => k0 ?_, fun d => k1 ?_⟩
  rotate_left
  · rw [hxt] at d
    obtain ⟨e1, e2⟩ | ⟨n', hn', e1, e2, e3, e4, e5⟩ := hR.2.1 t ht
    · refine wp_X11_finding (wp_X12_copy (c_isSheet ?_))
      rw [inS]
      refine k1 (c_isSheet ?_)
      rw [inT]
      refine n1 ⟨hvs, fun c2 => absurd c2 s0, fun _ => ⟨hvt, fun c3 => absurd c3 ?_, fun _ => wp_X12_finding ⟨rfl, fnd 1⟩⟩⟩
      show ¬ (0 : Int32) ≤ Mm.1 1 (ix (nI t))
      rw [hxt, e1]; decide
    · exfalso
      rw [e2] at d
      have := congrArg Int32.toInt d
      rw [nI_toInt (by omega)] at this
      simp at this
  rw [hxt] at d
  obtain ⟨t1, t2⟩ | ⟨nt, hnt, t1, t2, t3, t4, t5⟩ := hR.2.1 t ht
  · exact absurd t2 d
  have t0 : (0 : Int32) ≤ Mm.1 1 (ix (nI t)) := by rw [hxt]; rcases t4 with e | e | e <;> rw [e] <;> decide
  refine wp_X9_haveOneLane ⟨hvs, hvt, fun d2 => n0 ?_, fun d2 => n1 ?_⟩
  · refine wp_X11_finding (wp_X12_copy (c_isSheet ?_))
    rw [inS]
    refine k1 (c_isSheet ?_)
    rw [inT]
    refine n1 ⟨hvs, fun c2 => absurd c2 s0, fun _ => ⟨hvt, fun _ => ⟨hvs, hvt, fun e => absurd ?_ d2, fun _ => wp_X12_finding ⟨rfl, fnd 5⟩⟩, fun c3 => absurd t0 c3⟩⟩
    have e' : Mm.1 1 (ix (nI s)) = Mm.1 1 (ix (nI t)) := e
    rw [hxs, hxt] at e' ⊢
    rw [s3, t3, e']
  have lane : (mset Mm 0 0 0).1 1 (ix (nI s)) = (mset Mm 0 0 0).1 1 (ix (nI t)) := by
    show Mm.1 1 (ix (nI s)) = Mm.1 1 (ix (nI t))
    rw [hxs, hxt] at d2 ⊢
    rw [← s3, ← t3, d2]
  have z1 : (Int32.toInt64 ((mset Mm 0 0 0).1 2 (ix (nI s)))).toInt = ns := by
    show (Int32.toInt64 (Mm.1 2 (ix (nI s)))).toInt = ns
    rw [hxs, s1, Int32.toInt_toInt64, nI_toInt (by omega)]
  have z2 : (Int32.toInt64 ((mset Mm 0 0 0).1 2 (ix (nI t)))).toInt = nt := by
    show (Int32.toInt64 (Mm.1 2 (ix (nI t)))).toInt = nt
    rw [hxt, t1, Int32.toInt_toInt64, nI_toInt (by omega)]
  have badp : (i < 0 ∨ j < 0 ∨ n < 0 ∨ (ns : Int) < i.toInt + n.toInt ∨ (nt : Int) < j.toInt + n.toInt) → Ci shC G1 mX11_finding 1 [.ref (G1.2.1 0), .int 2] Mc (fun x M1 => Ci shM G2 mX12_copy 2 [.ref (G2.2.1 0), .int (nI s), .int i, .int (nI t), .int j, .int n] Mm (fun y M2 => x = y ∧ RR M1 M2)) := fun ho => by
    refine wp_X11_finding (wp_X12_copy (k := 0) (c_isSheet ?_))
    rw [inS]
    refine k1 (c_isSheet ?_)
    rw [inT]
    refine n1 ⟨hvs, fun c2 => absurd c2 s0, fun _ => ⟨hvt, fun _ => ⟨hvs, hvt, fun _ => ⟨fun _ => wp_X12_finding ⟨rfl, fnd 2⟩, fun c1 => ⟨fun _ => wp_X12_finding ⟨rfl, fnd 2⟩, fun c2 => ⟨fun _ => wp_X12_finding ⟨rfl, fnd 2⟩, fun c3 => ⟨hvs, fun _ => wp_X12_finding ⟨rfl, fnd 2⟩, fun c4 => ⟨hvt, fun c5 => ?_, fun _ => wp_X12_finding ⟨rfl, fnd 2⟩⟩⟩⟩⟩⟩, fun e => absurd lane e⟩, fun c3 => absurd t0 c3⟩⟩
    exfalso
    rw [Int64.lt_iff_toInt_lt, toInt64_add, z1] at c4
    rw [Int64.le_iff_toInt_le, toInt64_add, z2] at c5
    rcases ho with ho | ho | ho | ho | ho
    · exact c1 ho
    · exact c2 ho
    · exact c3 ho
    · omega
    · omega
  refine wp_X9_holds ⟨fun g1 => k0 (badp (Or.inl g1)), fun g1 => ⟨fun g2 => k0 (badp (Or.inr (Or.inr (Or.inl g2)))), fun g2 => ⟨hvs, fun g3 => k0 (badp (Or.inr (Or.inr (Or.inr (Or.inl ?_))))), fun g3 => k1 ?_⟩⟩⟩
  · obtain ⟨n', hn', rfl⟩ := nI_of g2
    rw [hxs, s2] at g3
    have := Int32.lt_iff_toInt_lt.mp g3
    rw [nI_subI (by omega) hn'] at this
    rw [nI_toInt hn']
    omega
  refine wp_X9_holds ⟨fun g4 => n0 (badp (Or.inr (Or.inl g4))), fun g4 => ⟨fun g5 => absurd g5 g2, fun _ => ⟨hvt, fun g6 => n0 (badp (Or.inr (Or.inr (Or.inr (Or.inr ?_))))), fun g6 => n1 ?_⟩⟩⟩
  · obtain ⟨n', hn', rfl⟩ := nI_of g2
    rw [hxt, t2] at g6
    have := Int32.lt_iff_toInt_lt.mp g6
    rw [nI_subI (by omega) hn'] at this
    rw [nI_toInt hn']
    omega
  obtain ⟨n', hn', rfl⟩ := nI_of g2
  obtain ⟨i', hi', rfl⟩ := nI_of g1
  obtain ⟨j', hj', rfl⟩ := nI_of g4
  have q1 : i' + n' ≤ ns := by
    rw [hxs, s2] at g3
    have := Int32.le_iff_toInt_le.mp (Int32.not_lt.mp g3)
    rw [nI_subI (by omega) hn', nI_toInt hi'] at this
    omega
  have q2 : j' + n' ≤ nt := by
    rw [hxt, t2] at g6
    have := Int32.le_iff_toInt_le.mp (Int32.not_lt.mp g6)
    rw [nI_subI (by omega) hn', nI_toInt hj'] at this
    omega
  refine wp_X9_move (by rw [nI_60]; exact nI_pos (by omega)) (by rw [nI_60]; exact nI_pos (by omega)) g2 (by rw [nI_60, ix_nI (by omega), ix_nI hn']; omega) (by rw [nI_60, ix_nI (by omega), ix_nI hn']; omega) ?_
  rw [nI_60, nI_60, ix_nI (by omega), ix_nI (by omega), ix_nI hn']
  refine wp_X11_withoutFinding (wp_X12_copy (k := 0) (c_isSheet ?_))
  rw [inS]
  refine k1 (c_isSheet ?_)
  rw [inT]
  have fin : RR (mset (aset Mc 15 (va_cpy (Mc.1 15) (Mc.1 15) (60 * s + i') (60 * t + j') n')) 0 12 0) (aset (mset (mset Mm 0 0 0) 0 1 0) 3 (va_cpy (Mm.1 3) (Mm.1 3) (60 * s + i') (60 * t + j') n')) := by
    refine ⟨⟨rfl, hR.1.2⟩, fun u hu => ?_, hR.2.2⟩
    show (Mm.1 1 u = -1 ∧ Mc.1 14 u = -1) ∨ ∃ n, n ≤ 60 ∧ Mm.1 2 u = nI n ∧ Mc.1 14 u = nI n ∧ Mc.1 13 u = Mm.1 1 u ∧ (Mm.1 1 u = 0 ∨ Mm.1 1 u = 1 ∨ Mm.1 1 u = 2) ∧ ∀ x, x < n → va_cpy (Mc.1 15) (Mc.1 15) (60 * s + i') (60 * t + j') n' (60 * u + x) = va_cpy (Mm.1 3) (Mm.1 3) (60 * s + i') (60 * t + j') n' (60 * u + x)
    obtain e | ⟨m', hm', e1, e2, e3, e4, e5⟩ := hR.2.1 u hu
    · exact Or.inl e
    · refine Or.inr ⟨m', hm', e1, e2, e3, e4, fun x hx => ?_⟩
      simp only [va_cpy]
      by_cases hc : 60 * t + j' ≤ 60 * u + x ∧ 60 * u + x < 60 * t + j' + n'
      · rw [if_pos hc, if_pos hc]
        have := s5 (i' + (60 * u + x - (60 * t + j'))) (by omega)
        rw [show 60 * s + i' + (60 * u + x - (60 * t + j')) = 60 * s + (i' + (60 * u + x - (60 * t + j'))) by omega]
        exact this
      · rw [if_neg hc, if_neg hc]
        exact e5 x hx
  refine n1 ⟨hvs, fun c2 => absurd c2 s0, fun _ => ⟨hvt, fun _ => ⟨hvs, hvt, fun _ => ⟨fun c1 => absurd c1 g1, fun _ => ⟨fun c2 => absurd c2 g4, fun _ => ⟨fun c3 => absurd c3 g2, fun _ => ⟨hvs, fun c4 => ?_, fun c4 => ⟨hvt, fun c5 => ⟨fun c6 => ?_, fun c6 => ?_⟩, fun c5 => absurd ?_ c5⟩⟩⟩⟩⟩, fun e => absurd lane e⟩, fun c3 => absurd t0 c3⟩⟩
  · exfalso
    rw [Int64.lt_iff_toInt_lt, toInt64_add, z1, nI_toInt hi', nI_toInt hn'] at c4
    omega
  · exact c_copyDown hs ht (by omega) (by omega) (fun _ => (nI_ltI hi' hj').mp c6) ⟨rfl, fin⟩
  · refine c_copyUp hs ht (by omega) (by omega) (fun _ => ?_) ⟨rfl, fin⟩
    rcases Nat.lt_or_ge i' j' with hl | hl
    · exact absurd (nI_lt hl hj') c6
    · exact hl
  · rw [Int64.le_iff_toInt_le, toInt64_add, z2, nI_toInt hj', nI_toInt hn']
    omega
