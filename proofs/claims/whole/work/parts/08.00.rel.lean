/-! the relation between the two memories; its parts -/
theorem k1 {P Q : Prop} (h : Q) : ((1 : Int32) = 0 → P) ∧ (¬ (1 : Int32) = 0 → Q) := ⟨fun e => absurd e (by decide), fun _ => h⟩
theorem k0 {P Q : Prop} (h : P) : ((0 : Int32) = 0 → P) ∧ (¬ (0 : Int32) = 0 → Q) := ⟨fun _ => h, fun e => absurd rfl e⟩
theorem n1 {P Q : Prop} (h : P) : ((1 : Int32) ≠ 0 → P) ∧ ((1 : Int32) = 0 → Q) := ⟨fun _ => h, fun e => absurd e (by decide)⟩
theorem n0 {P Q : Prop} (h : Q) : ((0 : Int32) ≠ 0 → P) ∧ ((0 : Int32) = 0 → Q) := ⟨fun e => absurd rfl e, fun _ => h⟩
/-- in(v, lo, hi) of whole numbers -/
def inZ (v : Int32) (lo hi : Int) : Int32 := if lo ≤ v.toInt ∧ v.toInt ≤ hi then 1 else 0
theorem inZ_01 (v : Int32) (lo hi : Int) : inZ v lo hi = 0 ∨ inZ v lo hi = 1 := by unfold inZ; split <;> simp
theorem c_in {G : GV} {k : Nat} {M : Mem} {q : Int32 → Mem → Prop} {v : Int32} {lo hi : Int64} (h : q (inZ v lo.toInt hi.toInt) M) : Ci shM G mX12_in k [.long (Int32.toInt64 v), .long lo, .long hi] M q := by
  refine wp_X12_in ⟨fun c => ?_, fun c => ⟨fun c2 => ?_, fun c2 => ?_⟩⟩
  · rw [Int64.lt_iff_toInt_lt, Int32.toInt_toInt64] at c
    rw [inZ, if_neg (by omega)] at h; exact h
  · rw [Int64.lt_iff_toInt_lt, Int32.toInt_toInt64] at c2
    rw [inZ, if_neg (by omega)] at h; exact h
  · rw [Int64.lt_iff_toInt_lt, Int32.toInt_toInt64] at c c2
    rw [inZ, if_pos (by omega)] at h; exact h
theorem c_isSheet {G : GV} {k : Nat} {M : Mem} {q : Int32 → Mem → Prop} {v : Int32} (h : q (inZ v 0 7) M) : Ci shM G mX12_isSheet (k + 1) [.int v] M q := wp_X12_isSheet (c_in ⟨inZ_01 _ _ _, h⟩)
/-- a number of a kind: below 0, too large, or a natural one -/
theorem num_of (v : Int32) {n : Nat} (hn : n < 2 ^ 31) : (v < 0) ∨ (¬ v < 0 ∧ (n : Int) ≤ v.toInt) ∨ ∃ j, j < n ∧ v = nI j := by
  by_cases h : v < 0
  · exact Or.inl h
  · obtain ⟨j, hj, rfl⟩ := nI_of h
    rcases Nat.lt_or_ge j n with h1 | h1
    · exact Or.inr (Or.inr ⟨j, h1, rfl⟩)
    · exact Or.inr (Or.inl ⟨h, by rw [nI_toInt hj]; omega⟩)
theorem lt0 {v : Int32} (h : v < 0) : v.toInt < 0 := by simpa using Int32.lt_iff_toInt_lt.mp h
def RSc (c m : Nat → Nat → Int32) : Prop := c 0 12 = m 0 1 ∧ c 0 11 = m 0 30
def RSh (c m : Nat → Nat → Int32) : Prop := ∀ s, s < 8 → (m 1 s = -1 ∧ c 14 s = -1) ∨ ∃ n, n ≤ 60 ∧ m 2 s = nI n ∧ c 14 s = nI n ∧ c 13 s = m 1 s ∧ (m 1 s = 0 ∨ m 1 s = 1 ∨ m 1 s = 2) ∧ ∀ i, i < n → c 15 (60 * s + i) = m 3 (60 * s + i)
def RTp (c m : Nat → Nat → Int32) : Prop := ∃ n, n ≤ 600 ∧ c 2 1 = nI n ∧ m 0 29 = nI n ∧ ∀ k, k < n → ∃ b, b < 256 ∧ m 23 k = nI b ∧ c 16 k = (nI b).toInt8.toInt32
def RAk (c m : Nat → Nat → Int32) : Prop := ∃ n, n ≤ 16 ∧ c 11 2 = nI n ∧ m 0 53 = nI n ∧ ∀ k, k < n → c 47 k = m 32 k
/-- the data -/
def RDt (c m : Nat → Nat → Int32) : Prop := WFm (kM m) ∧ TieC (kC c) (kM m)
/-- the persons' tables -/
def RPs (Mc Mm : Mem) : Prop := PT (kPc Mc.1) (kP Mm.1)
def RR (Mc Mm : Mem) : Prop := RSc Mc.1 Mm.1 ∧ RSh Mc.1 Mm.1 ∧ RTp Mc.1 Mm.1 ∧ RAk Mc.1 Mm.1 ∧ RDt Mc.1 Mm.1 ∧ RPs Mc Mm
theorem RR_thrown {Mc Mm : Mem} (h : RR Mc Mm) : RR Mc (mset Mm 0 0 0) := h
theorem st_status : St_status RR := by
  intro G1 G2 Mc Mm hR
  exact wp_X11_status (wp_X12_status ⟨hR.1.1, RR_thrown hR⟩)
theorem st_fault : St_fault RR := by
  intro G1 G2 Mc Mm hR
  exact wp_X11_fault (wp_X12_fault ⟨hR.1.2, RR_thrown hR⟩)
theorem ix_nI {s : Nat} (h : s < 2 ^ 31) : ix (nI s) = s := nI_clamp h
theorem upd_at (f : Nat → Int32) (i : Nat) (x : Int32) : upd f i x i = x := by simp [upd]
theorem upd_ne (f : Nat → Int32) {i j : Nat} (x : Int32) (h : j ≠ i) : upd f i x j = f j := by simp [upd, h]
theorem inZ_out {v : Int32} {lo hi : Int} (h : v.toInt < lo ∨ hi < v.toInt) : inZ v lo hi = 0 := by rw [inZ, if_neg (by omega)]
theorem inZ_nI {j : Nat} {lo hi : Int} (hj : j < 2 ^ 31) (h : lo ≤ j ∧ (j : Int) ≤ hi) : inZ (nI j) lo hi = 1 := by rw [inZ, nI_toInt hj, if_pos h]
theorem st_drop : St_drop RR := by
  intro G1 G2 Mc Mm v hR
  rcases num_of v (n := 8) (by decide) with h | ⟨h, h8⟩ | ⟨s, hs, rfl⟩
  · refine wp_X11_drop (wp_X11_noSheet ⟨fun _ => k1 ?_, fun c => absurd h c⟩)
    refine wp_X12_drop (c_isSheet ?_)
    rw [inZ_out (Or.inl (lt0 h))]
    exact n0 ⟨rfl, RR_thrown hR⟩
  · refine wp_X11_drop (wp_X11_noSheet ⟨fun c => absurd c h, fun _ => ⟨fun c => ?_, fun _ => k1 ?_⟩⟩)
    · have := Int32.lt_iff_toInt_lt.mp c
      simp at this; omega
    · refine wp_X12_drop (c_isSheet ?_)
      rw [inZ_out (Or.inr (by omega))]
      exact n0 ⟨rfl, RR_thrown hR⟩
  · have hx : ix (nI s) = s := ix_nI (by omega)
    have hv : vp_in (nI s) 8 := vp_in_nI hs (by decide)
    refine wp_X11_drop (wp_X11_noSheet ⟨fun c => absurd c (nI_pos (by omega)), fun _ => ⟨fun _ => k0 ?_, fun c => absurd (nI_lt hs (by decide)) c⟩⟩)
    refine wp_X9_isMissing ⟨hv, fun c => k0 ?_, fun c => k1 ?_⟩
    · -- there
      rw [hx] at c
      obtain ⟨e1, e2⟩ | ⟨n, hn, e1, e2, e3, e4, e5⟩ := hR.2.1 s hs
      · exact absurd e2 c
      refine wp_X9_lose ⟨hv, hv, wp_X11_withoutFinding (wp_X12_drop (c_isSheet ?_))⟩
      rw [inZ_nI (by omega) (by omega)]
      refine n1 ⟨hv, fun c2 => ⟨hv, hv, ?_⟩, fun c2 => absurd ?_ c2⟩
      · rw [hx]
        refine ⟨e2.trans e1.symm, ⟨rfl, hR.1.2⟩, fun t ht => ?_, hR.2.2⟩
        by_cases hts : t = s
        · subst hts
          exact Or.inl ⟨upd_at _ _ _, upd_at _ _ _⟩
        · show (upd (Mm.1 1) s (-1) t = -1 ∧ upd (Mc.1 14) s (-1) t = -1) ∨ ∃ n, n ≤ 60 ∧ Mm.1 2 t = nI n ∧ upd (Mc.1 14) s (-1) t = nI n ∧ Mc.1 13 t = upd (Mm.1 1) s (-1) t ∧ (upd (Mm.1 1) s (-1) t = 0 ∨ upd (Mm.1 1) s (-1) t = 1 ∨ upd (Mm.1 1) s (-1) t = 2) ∧ ∀ i, i < n → Mc.1 15 (60 * t + i) = Mm.1 3 (60 * t + i)
          rw [upd_ne _ _ hts, upd_ne _ _ hts]
          exact hR.2.1 t ht
      · show (0 : Int32) ≤ Mm.1 1 (ix (nI s))
        rw [hx]
        rcases e4 with e | e | e <;> rw [e] <;> decide
    · -- missing
      rw [hx] at c
      obtain ⟨e1, e2⟩ | ⟨n, hn, e1, e2, e3, e4, e5⟩ := hR.2.1 s hs
      · refine wp_X11_finding (wp_X12_drop (c_isSheet ?_))
        rw [inZ_nI (by omega) (by omega)]
        refine n1 ⟨hv, fun c2 => absurd c2 ?_, fun c2 => wp_X12_finding ⟨rfl, ⟨rfl, hR.1.2⟩, hR.2⟩⟩
        show ¬ (0 : Int32) ≤ Mm.1 1 (ix (nI s))
        rw [hx, e1]; decide
      · exfalso
        rw [e2] at c
        have := congrArg Int32.toInt c
        rw [nI_toInt (by omega)] at this
        simp at this
