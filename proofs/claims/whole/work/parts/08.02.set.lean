theorem hi1 {n : Nat} (h : n < 2 ^ 31) : (Int32.toInt64 (nI n - 1)).toInt = (n : Int) - 1 := by
  rw [Int32.toInt_toInt64, Int32.toInt_sub, nI_toInt h, show (1 : Int32).toInt = 1 from rfl]
  exact Int.bmod_eq_of_le (by omega) (by omega)
theorem st_trace : St_trace RR := by
  intro G1 G2 Mc Mm v hR
  obtain ⟨n, hn, e1, e2, e3⟩ := hR.2.2.2.1
  have hh : (Int32.toInt64 (Mm.1 0 53 - 1)).toInt = (n : Int) - 1 := by rw [e2]; exact hi1 (by omega)
  rcases num_of v (n := n) (by omega) with h | ⟨h, h8⟩ | ⟨j, hj, rfl⟩
  · refine wp_X11_trace ⟨fun _ => wp_X12_trace (c_in ?_), fun c => absurd h c⟩
    rw [show inZ v (Int64.toInt 0) _ = 0 from inZ_out (Or.inl (lt0 h))]
    exact k0 ⟨rfl, RR_thrown hR⟩
  · refine wp_X11_trace ⟨fun c => absurd c h, fun _ => ⟨fun c => ?_, fun _ => wp_X12_trace (c_in ?_)⟩⟩
    · rw [e1] at c
      have := Int32.lt_iff_toInt_lt.mp c
      rw [nI_toInt (by omega)] at this
      omega
    · rw [hh, show inZ v (Int64.toInt 0) ((n : Int) - 1) = 0 from inZ_out (Or.inr (by omega))]
      exact k0 ⟨rfl, RR_thrown hR⟩
  · refine wp_X11_trace ⟨fun c => absurd c (nI_pos (by omega)), fun _ => ⟨fun _ => ⟨vp_in_nI (by omega) (by decide), wp_X12_trace (c_in ?_)⟩, fun c => absurd (by rw [e1]; exact nI_lt hj (by omega)) c⟩⟩
    rw [hh, show inZ (nI j) (Int64.toInt 0) ((n : Int) - 1) = 1 from inZ_nI (by omega) ⟨Int.natCast_nonneg j, by omega⟩]
    refine k1 ⟨vp_in_nI (by omega) (by decide), ?_, RR_thrown hR⟩
    show Mc.1 47 (ix (nI j)) = Mm.1 32 (ix (nI j))
    rw [ix_nI (by omega)]
    exact e3 j hj
theorem RR_item {Mc Mm : Mem} (hR : RR Mc Mm) (p : Nat) (x : Int32) : RR (mset (mset Mc 15 p x) 0 12 0) (mset (mset (mset Mm 0 0 0) 0 1 0) 3 p x) := by
  refine ⟨⟨rfl, hR.1.2⟩, fun t ht => ?_, hR.2.2⟩
  show (Mm.1 1 t = -1 ∧ Mc.1 14 t = -1) ∨ ∃ n, n ≤ 60 ∧ Mm.1 2 t = nI n ∧ Mc.1 14 t = nI n ∧ Mc.1 13 t = Mm.1 1 t ∧ (Mm.1 1 t = 0 ∨ Mm.1 1 t = 1 ∨ Mm.1 1 t = 2) ∧ ∀ i, i < n → upd (Mc.1 15) p x (60 * t + i) = upd (Mm.1 3) p x (60 * t + i)
  obtain e | ⟨n, hn, e1, e2, e3, e4, e5⟩ := hR.2.1 t ht
  · exact Or.inl e
  · refine Or.inr ⟨n, hn, e1, e2, e3, e4, fun i hi => ?_⟩
    simp only [upd]
    split
    · rfl
    · exact e5 i hi
theorem st_set : St_set RR := by
  intro G1 G2 Mc Mm v w x hR
  rcases num_of v (n := 8) (by decide) with h | ⟨h, h8⟩ | ⟨s, hs, rfl⟩
  · refine wp_X11_set (wp_X11_noSheet ⟨fun _ => k1 ?_, fun c => absurd h c⟩)
    refine wp_X12_set (c_isSheet ?_)
    rw [inZ_out (Or.inl (lt0 h))]
    exact n0 ⟨rfl, RR_thrown hR⟩
  · refine wp_X11_set (wp_X11_noSheet ⟨fun c => absurd c h, fun _ => ⟨fun c => ?_, fun _ => k1 ?_⟩⟩)
    · have := Int32.lt_iff_toInt_lt.mp c
      simp at this; omega
    · refine wp_X12_set (c_isSheet ?_)
      rw [inZ_out (Or.inr (by omega))]
      exact n0 ⟨rfl, RR_thrown hR⟩
  have hx : ix (nI s) = s := ix_nI (by omega)
  have hv : vp_in (nI s) 8 := vp_in_nI hs (by decide)
  refine wp_X11_set (wp_X11_noSheet ⟨fun c => absurd c (nI_pos (by omega)), fun _ => ⟨fun _ => k0 ?_, fun c => absurd (nI_lt hs (by decide)) c⟩⟩)
  refine wp_X9_isMissing ⟨hv, fun c => k0 ?_, fun c => k1 ?_⟩
  · rw [hx] at c
    obtain ⟨e1, e2⟩ | ⟨n, hn, e1, e2, e3, e4, e5⟩ := hR.2.1 s hs
    · exact absurd e2 c
    have h0 : (0 : Int32) ≤ Mm.1 1 s := by rcases e4 with e | e | e <;> rw [e] <;> decide
    -- the model, up to its test of the place
    have m1 : ∀ {q : Int32 → Mem → Prop}, Ci shM G2 mX12_in 1 [.long (Int32.toInt64 w), .long 0, .long (Int32.toInt64 (nI n - 1))] (mset (mset Mm 0 0 0) 0 1 0) (fun x2 M2 => ((x2 ≠ 0 → vp_in (nI s) 8 ∧ (((M2.1 1 (ix (nI s))) ≠ 0 → vp_in (nI s) 8 ∧ (((M2.1 1 (ix (nI s))) ≠ 1 → vp_in ((60 * nI s) + w) 480 ∧ vp_in ((60 * nI s) + w) 480 ∧ q ((mset M2 3 (ix ((60 * nI s) + w)) x).1 3 (ix ((60 * nI s) + w))) (mset M2 3 (ix ((60 * nI s) + w)) x)) ∧ ((M2.1 1 (ix (nI s))) = 1 → vp_in ((60 * nI s) + w) 480 ∧ vp_in ((60 * nI s) + w) 480 ∧ q ((mset M2 3 (ix ((60 * nI s) + w)) ((Int32.toInt16 x).toInt32)).1 3 (ix ((60 * nI s) + w))) (mset M2 3 (ix ((60 * nI s) + w)) ((Int32.toInt16 x).toInt32))))) ∧ ((M2.1 1 (ix (nI s))) = 0 → vp_in ((60 * nI s) + w) 480 ∧ vp_in ((60 * nI s) + w) 480 ∧ q ((mset M2 3 (ix ((60 * nI s) + w)) ((Int32.toInt8 x).toInt32)).1 3 (ix ((60 * nI s) + w))) (mset M2 3 (ix ((60 * nI s) + w)) ((Int32.toInt8 x).toInt32))))) ∧ (x2 = 0 → Ci shM G2 mX12_finding 1 [.ref (G2.2.1 0), .int 2] M2 (fun x3 M3 => q x3 M3)))) → Ci shM G2 mX12_set 2 [.ref (G2.2.1 0), .int (nI s), .int w, .int x] Mm q := by
      intro q hq
      refine wp_X12_set (k := 0) (c_isSheet ?_)
      rw [inZ_nI (by omega) (by omega)]
      refine n1 ⟨hv, fun _ => ⟨hv, ?_⟩, fun c2 => absurd (by show (0 : Int32) ≤ Mm.1 1 (ix (nI s)); rw [hx]; exact h0) c2⟩
      rw [show (mset Mm 0 0 0).1 2 (ix (nI s)) = nI n from by show Mm.1 2 (ix (nI s)) = nI n; rw [hx]; exact e1]
      exact hq
    have hh : (Int32.toInt64 (nI n - 1)).toInt = (n : Int) - 1 := hi1 (by omega)
    have hq1 : (nI n - 1).toInt = (n : Int) - 1 := by rw [← Int32.toInt_toInt64]; exact hh
    have out : inZ w (Int64.toInt 0) ((n : Int) - 1) = 0 → Ci shC G1 mX11_finding 0 [.ref (G1.2.1 0), .int 2] Mc (fun a M1 => Ci shM G2 mX12_set 2 [.ref (G2.2.1 0), .int (nI s), .int w, .int x] Mm (fun y M2 => a = y ∧ RR M1 M2)) := fun ho => by
      refine wp_X11_finding (m1 (c_in ?_))
      rw [hh, ho]
      exact n0 (wp_X12_finding ⟨rfl, ⟨rfl, hR.1.2⟩, hR.2⟩)
    refine wp_X9_holds ⟨fun c1 => n0 (out (inZ_out (Or.inl (lt0 c1)))), fun c1 => ⟨fun c2 => absurd c2 (by decide), fun _ => ⟨hv, fun c2 => n0 (out (inZ_out (Or.inr ?_))), fun c2 => n1 ?_⟩⟩⟩
    · rw [hx, e2] at c2
      have := Int32.lt_iff_toInt_lt.mp c2
      omega
    · rw [hx, e2] at c2
      obtain ⟨j, hj, rfl⟩ := nI_of c1
      have hjn : j < n := by
        have := Int32.not_lt.mp c2
        have := Int32.le_iff_toInt_le.mp this
        rw [nI_toInt hj] at this
        omega
      have a1 : nI s * 60 + nI j = nI (60 * s + j) := by rw [show (60 : Int32) = nI 60 from rfl, nI_mul, nI_add, Nat.mul_comm]
      have a2 : 60 * nI s + nI j = nI (60 * s + j) := by rw [show (60 : Int32) = nI 60 from rfl, nI_mul, nI_add]
      have hp : vp_in (nI (60 * s + j)) 480 := vp_in_nI (by omega) (by decide)
      have hi : ix (nI (60 * s + j)) = 60 * s + j := ix_nI (by omega)
      have hin : inZ (nI j) (Int64.toInt 0) ((n : Int) - 1) = 1 := inZ_nI (by omega) ⟨Int.natCast_nonneg j, by omega⟩
      have fin : ∀ y : Int32, RR (mset (mset Mc 15 (60 * s + j) y) 0 12 0) (mset (mset (mset Mm 0 0 0) 0 1 0) 3 (60 * s + j) y) := fun y => RR_item hR _ y
      have rd : ∀ (M2 : Mem) (y : Int32), (mset M2 3 (60 * s + j) y).1 3 (60 * s + j) = y := fun M2 y => by simp [mset, upd]
      refine wp_X9_put ⟨hv, ?_⟩
      rw [hx, a1, hi, e3]
      refine ⟨fun d1 => ⟨hv, fun d2 => ⟨hp, wp_X11_withoutFinding (m1 (c_in ?_))⟩, fun d2 => ⟨hp, wp_X11_withoutFinding (m1 (c_in ?_))⟩⟩, fun d1 => ⟨hp, wp_X11_withoutFinding (m1 (c_in ?_))⟩⟩
      · rw [hh, hin, a2, hi, hx]
        exact n1 ⟨hv, fun _ => ⟨hv, fun _ => ⟨hp, hp, (rd _ _).symm, fin _⟩, fun d => absurd d d2⟩, fun d => absurd d d1⟩
      · rw [hh, hin, a2, hi, hx]
        exact n1 ⟨hv, fun _ => ⟨hv, fun d => absurd d2 d, fun _ => ⟨hp, hp, (rd _ _).symm, fin _⟩⟩, fun d => absurd d d1⟩
      · rw [hh, hin, a2, hi, hx]
        exact n1 ⟨hv, fun d => absurd d1 d, fun _ => ⟨hp, hp, (rd _ _).symm, fin _⟩⟩
  · rw [hx] at c
    obtain ⟨e1, e2⟩ | ⟨n, hn, e1, e2, e3, e4, e5⟩ := hR.2.1 s hs
    · refine wp_X11_finding (wp_X12_set (c_isSheet ?_))
      rw [inZ_nI (by omega) (by omega)]
      refine n1 ⟨hv, fun c2 => absurd c2 ?_, fun c2 => wp_X12_finding ⟨rfl, ⟨rfl, hR.1.2⟩, hR.2⟩⟩
      show ¬ (0 : Int32) ≤ Mm.1 1 (ix (nI s))
      rw [hx, e1]; decide
    · exfalso
      rw [e2] at c
      have := congrArg Int32.toInt c
      rw [nI_toInt (by omega)] at this
      simp at this
