theorem mset_aset {M : Mem} {o j : Nat} {f : Nat → Int32} {v : Int32} : mset (aset M o f) o j v = aset M o (upd f j v) := by
  simp only [mset, aset]
  congr 1
  funext k
  by_cases h : k = o <;> simp [h]
theorem aset_self {M : Mem} {o : Nat} : aset M o (M.1 o) = M := by
  simp only [aset]
  apply Prod.ext
  · funext k
    by_cases h : k = o
    · subst h; simp
    · simp [h]
  · rfl
theorem nI_mul (a b : Nat) : nI a * nI b = nI (a * b) := (Int32.ofNat_mul a b).symm
/-- n places from a on become 0 -/
def zfill (f : Nat → Int32) (a n : Nat) : Nat → Int32 := fun j => if a ≤ j ∧ j < a + n then 0 else f j
theorem zfill_0 (f : Nat → Int32) (a : Nat) : zfill f a 0 = f := by
  funext j
  rw [zfill, if_neg (by omega)]
theorem zfill_succ (f : Nat → Int32) (a n : Nat) : upd (zfill f a n) (a + n) 0 = zfill f a (n + 1) := by
  funext j
  simp only [upd, zfill]
  by_cases h : j = a + n
  · rw [if_pos h, if_pos (by omega)]
  · rw [if_neg h]
    by_cases h2 : a ≤ j ∧ j < a + n
    · rw [if_pos h2, if_pos (by omega)]
    · rw [if_neg h2, if_neg (by omega)]
theorem zfill_in {f : Nat → Int32} {a n j : Nat} (h : a ≤ j ∧ j < a + n) : zfill f a n j = 0 := if_pos h
theorem zfill_out {f : Nat → Int32} {a n j : Nat} (h : ¬ (a ≤ j ∧ j < a + n)) : zfill f a n j = f j := if_neg h
theorem c_lay {G : GV} {k : Nat} {M : Mem} {q : Mem → Prop} {s n : Nat} {v2 : Int32} (hs : s < 8) (hn : n ≤ 60) (h : q (aset (mset (mset M 13 s v2) 14 s (nI n)) 15 (zfill (M.1 15) (60 * s) n))) : Cv shC G mX9_lay k [.ref (G.2.1 1), .int (nI s), .int v2, .int (nI n)] M q := by
  have hx : ix (nI s) = s := ix_nI (by omega)
  have hv : vp_in (nI s) 8 := vp_in_nI hs (by decide)
  refine wp_X9_lay ⟨hv, hv, ?_⟩
  rw [hx]
  obtain ⟨M0, hM0⟩ : ∃ M0, M0 = mset (mset M 13 s v2) 14 s (nI n) := ⟨_, rfl⟩
  rw [← hM0] at h ⊢
  have h15 : M0.1 15 = M.1 15 := by subst hM0; rfl
  rw [← h15] at h
  have loop : ∀ d i, i + d = n → V shC G mX9_lay k 17 [(0, .ref (G.2.1 1)), (1, .int (nI s)), (2, .int v2), (3, .int (nI n)), (4, .int (nI i))] [] (aset M0 15 (zfill (M0.1 15) (60 * s) i)) (Qv q) := by
    intro d
    induction d with
    | zero =>
      intro i hi
      obtain rfl : i = n := by omega
      exact wp_X9_lay_17 ⟨fun _ => h, fun c => absurd (nI_le (Nat.le_refl _) (by omega)) c⟩
    | succ d ih =>
      intro i hi
      have e : nI s * 60 + nI i = nI (60 * s + i) := by rw [show (60 : Int32) = nI 60 from rfl, nI_mul, nI_add, Nat.mul_comm]
      refine wp_X9_lay_17 ⟨fun c => absurd c (nI_ge (by omega) (by omega)), fun _ => ?_⟩
      rw [e, ix_nI (by omega), mset_aset, zfill_succ, nI_1]
      exact ⟨vp_in_nI (by omega) (by decide), ih (i + 1) (by omega)⟩
  have l0 := loop n 0 (by omega)
  rw [zfill_0, aset_self, nI_0] at l0
  exact l0
theorem c_sheetloop {G : GV} {k : Nat} {M : Mem} {q : Int32 → Mem → Prop} {s : Nat} {v2 v3 : Int32} (hs : s < 8) (h : q v3 (aset M 3 (zfill (M.1 3) (60 * s) 60))) : V shM G mX12_sheet (k + 2) 65 [(0, .ref (G.2.1 0)), (1, .int (nI s)), (2, .int v2), (3, .int v3), (4, .int 0)] [] M (Qi q) := by
  have loop : ∀ d i, i + d = 60 → V shM G mX12_sheet (k + 2) 65 [(0, .ref (G.2.1 0)), (1, .int (nI s)), (2, .int v2), (3, .int v3), (4, .int (nI i))] [] (aset M 3 (zfill (M.1 3) (60 * s) i)) (Qi q) := by
    intro d
    induction d with
    | zero =>
      intro i hi
      obtain rfl : i = 60 := by omega
      exact wp_X12_sheet_65 ⟨fun _ => h, fun c => absurd (nI_le (show 60 ≤ 60 by decide) (by decide)) c⟩
    | succ d ih =>
      intro i hi
      have e : 60 * nI s + nI i = nI (60 * s + i) := by rw [show (60 : Int32) = nI 60 from rfl, nI_mul, nI_add]
      refine wp_X12_sheet_65 ⟨fun c => absurd c (nI_ge (show i < 60 by omega) (by decide)), fun _ => ?_⟩
      rw [e, ix_nI (by omega), mset_aset, zfill_succ, nI_1]
      exact ⟨vp_in_nI (by omega) (by decide), ih (i + 1) (by omega)⟩
  have l0 := loop 60 0 rfl
  rw [zfill_0, aset_self, nI_0] at l0
  exact l0
theorem st_sheet : St_sheet RR := by
  intro G1 G2 Mc Mm v l n hR
  rcases num_of v (n := 8) (by decide) with h | ⟨h, h8⟩ | ⟨s, hs, rfl⟩
  · refine wp_X11_sheet (wp_X11_noSheet ⟨fun _ => n1 ?_, fun c => absurd h c⟩)
    refine wp_X12_sheet (c_isSheet ?_)
    rw [inZ_out (Or.inl (lt0 h))]
    exact k0 ⟨rfl, RR_thrown hR⟩
  · refine wp_X11_sheet (wp_X11_noSheet ⟨fun c => absurd c h, fun _ => ⟨fun c => ?_, fun _ => n1 ?_⟩⟩)
    · have := Int32.lt_iff_toInt_lt.mp c
      simp at this; omega
    · refine wp_X12_sheet (c_isSheet ?_)
      rw [inZ_out (Or.inr (by omega))]
      exact k0 ⟨rfl, RR_thrown hR⟩
  have hx : ix (nI s) = s := ix_nI (by omega)
  have hv : vp_in (nI s) 8 := vp_in_nI hs (by decide)
  refine wp_X11_sheet (wp_X11_noSheet ⟨fun c => absurd c (nI_pos (by omega)), fun _ => ⟨fun _ => n0 ?_, fun c => absurd (nI_lt hs (by decide)) c⟩⟩)
  have m1 : ∀ {q : Int32 → Mem → Prop}, Ci shM G2 mX12_in 1 [.long (Int32.toInt64 l), .long 0, .long 2] (mset Mm 0 0 0) (fun x2 M2 => ((x2 = 0 → q (-1000001) M2) ∧ (¬ x2 = 0 → ((n ≤ 60 → ((0 ≤ n → vp_in (nI s) 8 ∧ vp_in (nI s) 8 ∧ V shM G2 mX12_sheet 2 65 [(0, .ref (G2.2.1 0)), (1, .int (nI s)), (2, .int l), (3, .int n), (4, .int 0)] [] (mset (mset (mset M2 0 1 0) 1 (ix (nI s)) l) 2 (ix (nI s)) n) (Qi q)) ∧ (¬ 0 ≤ n → Ci shM G2 mX12_finding 1 [.ref (G2.2.1 0), .int 4] (mset M2 0 1 0) (fun x3 M3 => q x3 M3)))) ∧ (¬ n ≤ 60 → q (-1000001) M2))))) → Ci shM G2 mX12_sheet 2 [.ref (G2.2.1 0), .int (nI s), .int l, .int n] Mm q := by
    intro q hq
    refine wp_X12_sheet (k := 0) (c_isSheet ?_)
    rw [inZ_nI (by omega) (by omega)]
    exact k1 hq
  refine ⟨fun c => m1 (c_in ?_), fun c => ⟨fun c2 => m1 (c_in ?_), fun c2 => ⟨fun c3 => ⟨fun c4 => ?_, fun c4 => ?_⟩, fun c3 => m1 (c_in ?_)⟩⟩⟩
  · rw [show inZ l (Int64.toInt 0) (Int64.toInt 2) = 0 from inZ_out (Or.inl (lt0 c))]
    exact k0 ⟨rfl, RR_thrown hR⟩
  · have := Int32.le_iff_toInt_le.mp c2
    rw [inZ_out (Or.inr (by simp at this ⊢; omega))]
    exact k0 ⟨rfl, RR_thrown hR⟩
  · -- a sheet is laid
    obtain ⟨j, hj, rfl⟩ := nI_of (Int32.not_lt.mpr c4)
    have hj60 : j ≤ 60 := by
      have := Int32.le_iff_toInt_le.mp c3
      rw [nI_toInt hj] at this
      simp at this; omega
    obtain ⟨t, ht, rfl⟩ := nI_of c
    have ht3 : t < 3 := by
      rcases Nat.lt_or_ge t 3 with h | h
      · exact h
      · exact absurd (nI_le h (by omega)) c2
    refine c_lay hs hj60 (wp_X11_withoutFinding (m1 (c_in ?_)))
    rw [inZ_nI (by omega) (by simp; omega)]
    refine k1 ⟨fun _ => ⟨fun _ => ⟨hv, hv, c_sheetloop hs ?_⟩, fun c5 => absurd c4 c5⟩, fun c5 => absurd c3 c5⟩
    rw [hx]
    refine ⟨rfl, ⟨rfl, hR.1.2⟩, fun u hu => ?_, hR.2.2⟩
    show (upd (Mm.1 1) s (nI t) u = -1 ∧ upd (Mc.1 14) s (nI j) u = -1) ∨ ∃ n, n ≤ 60 ∧ upd (Mm.1 2) s (nI j) u = nI n ∧ upd (Mc.1 14) s (nI j) u = nI n ∧ upd (Mc.1 13) s (nI t) u = upd (Mm.1 1) s (nI t) u ∧ (upd (Mm.1 1) s (nI t) u = 0 ∨ upd (Mm.1 1) s (nI t) u = 1 ∨ upd (Mm.1 1) s (nI t) u = 2) ∧ ∀ i, i < n → zfill (Mc.1 15) (60 * s) j (60 * u + i) = zfill (Mm.1 3) (60 * s) 60 (60 * u + i)
    by_cases hus : u = s
    · subst hus
      rw [upd_at, upd_at, upd_at, upd_at]
      refine Or.inr ⟨j, hj60, rfl, rfl, rfl, ?_, fun i hi => ?_⟩
      · match t, ht3 with
        | 0, _ => exact Or.inl rfl
        | 1, _ => exact Or.inr (Or.inl rfl)
        | 2, _ => exact Or.inr (Or.inr rfl)
      · rw [zfill_in (by omega), zfill_in (by omega)]
    · rw [upd_ne _ _ hus, upd_ne _ _ hus, upd_ne _ _ hus, upd_ne _ _ hus]
      obtain e | ⟨n', hn', e1, e2, e3, e4, e5⟩ := hR.2.1 u hu
      · exact Or.inl e
      · refine Or.inr ⟨n', hn', e1, e2, e3, e4, fun i hi => ?_⟩
        rw [zfill_out (by omega), zfill_out (by omega)]
        exact e5 i hi
  · refine wp_X11_finding (m1 (c_in ?_))
    obtain ⟨t, ht, rfl⟩ := nI_of c
    have ht3 : t < 3 := by
      rcases Nat.lt_or_ge t 3 with h | h
      · exact h
      · exact absurd (nI_le h (by omega)) c2
    rw [inZ_nI (by omega) (by simp; omega)]
    exact k1 ⟨fun _ => ⟨fun c5 => absurd c5 c4, fun _ => wp_X12_finding ⟨rfl, ⟨rfl, hR.1.2⟩, hR.2⟩⟩, fun c5 => absurd c3 c5⟩
  · obtain ⟨t, ht, rfl⟩ := nI_of c
    have ht3 : t < 3 := by
      rcases Nat.lt_or_ge t 3 with h | h
      · exact h
      · exact absurd (nI_le h (by omega)) c2
    rw [inZ_nI (by omega) (by simp; omega)]
    exact k1 ⟨fun c5 => absurd c5 c3, fun _ => ⟨rfl, RR_thrown hR⟩⟩
