/-! missing -/
def cbS (d : Nat → Nat → Int32) (b : Nat) : Nat := cntB (fun x => decide (d 8 x = nI b)) (ix (d 0 10))
def fnP (d : Nat → Nat → Int32) (x b y : Nat) : Bool := decide (d 8 y = nI b) && (likeS d x y && oneS d x y)
def fnS (d : Nat → Nat → Int32) (x b : Nat) : Bool := anyB (fnP d x b) (ix (d 0 10))
def ibP (d : Nat → Nat → Int32) (a b x : Nat) : Bool := decide (d 8 x = nI a) && fnS d x b
def ibS (d : Nat → Nat → Int32) (a b : Nat) : Nat := cntB (ibP d a b) (ix (d 0 10))
section
variable {G : GV} {k : Nat} {M : Mem} {q : Int32 → Mem → Prop} {d : Nat → Nat → Int32}
theorem c_countOfBook {b : Nat} (hW : WFm d) (hT : TieC (kC M.1) d) (h : q (nI (cbS d b)) M) : Ci shC G mX3_countOfBook k [.ref (G.2.1 6), .int (nI b)] M q := by
  have hn : ix (d 0 10) ≤ 12 := hW.2.1.2
  have e6 : M.1 6 8 = nI (ix (d 0 10)) := Eq.trans hT.1.2.1 hW.2.1.1
  have loop : ∀ m i, i + m = ix (d 0 10) → V shC G mX3_countOfBook k 4 [(0, .ref (G.2.1 6)), (1, .int (nI b)), (2, .int (nI (cntB (fun x => decide (d 8 x = nI b)) i))), (3, .int (nI i))] [] M (Qi q) := by
    intro m
    induction m with
    | zero =>
      intro i hi
      obtain rfl : i = ix (d 0 10) := by omega
      exact wp_X3_countOfBook_4 ⟨fun _ => h, fun c => absurd (by rw [e6]; exact nI_le (Nat.le_refl _) (by omega)) c⟩
    | succ m ih =>
      intro i hi
      have l1 := ih (i + 1) (by omega)
      have t28 : M.1 28 i = d 8 i := (hT.2.2.2.1 i (by omega)).1
      refine wp_X3_countOfBook_4 ⟨fun c => absurd c (by rw [e6]; exact nI_ge (by omega) (by omega)), fun _ => ⟨vin12 (n := ix (d 0 10)) (by omega) hn, ?_⟩⟩
      rw [ix_nI (show i < 2 ^ 31 by omega), nI_1 i, t28]
      refine ⟨fun c => ?_, fun c => ?_⟩
      · rw [cntB_f (p := fun x => decide (d 8 x = nI b)) (n := i) (decide_eq_false c)] at l1; exact l1
      · rw [cntB_t (p := fun x => decide (d 8 x = nI b)) (n := i) (decide_eq_true c), ← nI_1] at l1; exact l1
  exact wp_X3_countOfBook (loop _ 0 (Nat.zero_add _))
theorem c_isFoundIn {x b : Nat} (hW : WFm d) (hT : TieC (kC M.1) d) (hx : x < ix (d 0 10)) (h : q (b01 (fnS d x b)) M) : Ci shC G mX3_isFoundIn (k + 1) [.ref (G.2.1 6), .int (nI x), .int (nI b)] M q := by
  have hn : ix (d 0 10) ≤ 12 := hW.2.1.2
  have e6 : M.1 6 8 = nI (ix (d 0 10)) := Eq.trans hT.1.2.1 hW.2.1.1
  have loop : ∀ m j, j + m = ix (d 0 10) → (∀ y, y < j → fnP d x b y = false) → V shC G mX3_isFoundIn (k + 1) 2 [(0, .ref (G.2.1 6)), (1, .int (nI x)), (2, .int (nI b)), (3, .int (nI j))] [] M (Qi q) := by
    intro m
    induction m with
    | zero =>
      intro j hj hno
      obtain rfl : j = ix (d 0 10) := by omega
      rw [fnS, anyB_no hno] at h
      exact wp_X3_isFoundIn_2 ⟨fun _ => h, fun c => absurd (by rw [e6]; exact nI_le (Nat.le_refl _) (by omega)) c⟩
    | succ m ih =>
      intro j hj hno
      have hjn : j < ix (d 0 10) := by omega
      have t28 : M.1 28 j = d 8 j := (hT.2.2.2.1 j hjn).1
      refine wp_X3_isFoundIn_2 ⟨fun c => absurd c (by rw [e6]; exact nI_ge (by omega) (by omega)), fun _ => ⟨vin12 hjn hn, ?_⟩⟩
      rw [ix_nI (show j < 2 ^ 31 by omega), nI_1 j, t28]
      refine ⟨fun c => ih (j + 1) (by omega) (upto hno (by rw [fnP, decide_eq_false c]; rfl)), fun c => c_areLike hW hT hx hjn ?_⟩
      cases hl : likeS d x j with
      | false => exact k0 (ih (j + 1) (by omega) (upto hno (by rw [fnP, hl, Bool.false_and, Bool.and_false])))
      | true =>
        refine k1 (c_atOneDoor hW hT hx hjn ?_)
        cases ho : oneS d x j with
        | false => exact k0 (ih (j + 1) (by omega) (upto hno (by rw [fnP, ho, Bool.and_false, Bool.and_false])))
        | true =>
          rw [fnS, anyB_yes hjn (show fnP d x b j = true from by rw [fnP, decide_eq_true c, hl, ho]; rfl)] at h
          exact k1 h
  exact wp_X3_isFoundIn (loop _ 0 (Nat.zero_add _) (fun y hy => absurd hy (Nat.not_lt_zero _)))
theorem c_countInBoth {a b : Nat} (hW : WFm d) (hT : TieC (kC M.1) d) (h : q (nI (ibS d a b)) M) : Ci shC G mX3_countInBoth (k + 2) [.ref (G.2.1 6), .int (nI a), .int (nI b)] M q := by
  have hn : ix (d 0 10) ≤ 12 := hW.2.1.2
  have e6 : M.1 6 8 = nI (ix (d 0 10)) := Eq.trans hT.1.2.1 hW.2.1.1
  have loop : ∀ m i, i + m = ix (d 0 10) → V shC G mX3_countInBoth (k + 2) 5 [(0, .ref (G.2.1 6)), (1, .int (nI a)), (2, .int (nI b)), (3, .int (nI (cntB (ibP d a b) i))), (4, .int (nI i))] [] M (Qi q) := by
    intro m
    induction m with
    | zero =>
      intro i hi
      obtain rfl : i = ix (d 0 10) := by omega
      exact wp_X3_countInBoth_5 ⟨fun _ => h, fun c => absurd (by rw [e6]; exact nI_le (Nat.le_refl _) (by omega)) c⟩
    | succ m ih =>
      intro i hi
      have l1 := ih (i + 1) (by omega)
      have hin : i < ix (d 0 10) := by omega
      have t28 : M.1 28 i = d 8 i := (hT.2.2.2.1 i hin).1
      refine wp_X3_countInBoth_5 ⟨fun c => absurd c (by rw [e6]; exact nI_ge (by omega) (by omega)), fun _ => ⟨vin12 hin hn, ?_⟩⟩
      rw [ix_nI (show i < 2 ^ 31 by omega), nI_1 i, t28]
      refine ⟨fun c => ?_, fun c => c_isFoundIn hW hT hin ?_⟩
      · rw [cntB_f (p := ibP d a b) (n := i) (by rw [ibP, decide_eq_false c]; rfl)] at l1; exact l1
      · cases hf : fnS d i b with
        | false => rw [cntB_f (p := ibP d a b) (n := i) (by rw [ibP, hf, Bool.and_false])] at l1; exact k0 l1
        | true => rw [cntB_t (p := ibP d a b) (n := i) (by rw [ibP, hf, decide_eq_true c]; rfl), ← nI_1] at l1; exact k1 l1
  exact wp_X3_countInBoth (loop _ 0 (Nat.zero_add _))
end
theorem c_missingM {G : GV} {k a b : Nat} {M : Mem} {q : Int32 → Mem → Prop} {w : Int32} (hW : WFm (kM M.1)) (h : ∀ f, ((w ≠ 2 → ((w ≠ 1 → ((nI (ibS (kM M.1) a b) ≠ 0 → ¬ nI (ibS (kM M.1) a b) = 0 ∧ q ((nI (cbS (kM M.1) a) * nI (cbS (kM M.1) b)) / nI (ibS (kM M.1) a b)) (aset M 24 f)) ∧ (nI (ibS (kM M.1) a b) = 0 → q (-1000000) (aset M 24 f)))) ∧ (w = 1 → q ((nI (cbS (kM M.1) a) + nI (cbS (kM M.1) b)) - nI (ibS (kM M.1) a b)) (aset M 24 f)))) ∧ (w = 2 → q (nI (ibS (kM M.1) a b)) (aset M 24 f)))) : V shM G mX12_missing (k + 3) 53 [(0, .ref (G.2.1 0)), (1, .int (nI a)), (2, .int (nI b)), (3, .int w), (4, .int 0), (5, .int 0), (6, .int 0), (7, .int 0)] [] M (Qi q) := by
  obtain ⟨e0, hn⟩ := WF_L hW
  have outer : ∀ m i f, i + m = nLm M → V shM G mX12_missing (k + 3) 53 [(0, .ref (G.2.1 0)), (1, .int (nI a)), (2, .int (nI b)), (3, .int w), (4, .int (nI (cntB (fun x => decide (kM M.1 8 x = nI a)) i))), (5, .int (nI (cntB (fun x => decide (kM M.1 8 x = nI b)) i))), (6, .int (nI (cntB (ibP (kM M.1) a b) i))), (7, .int (nI i))] [] (aset M 24 f) (Qi q) := by
    intro m
    induction m with
    | zero =>
      intro i f hi
      obtain rfl : i = nLm M := by omega
      exact wp_X12_missing_53 ⟨fun _ => h f, fun c => absurd (show (aset M 24 f).1 0 10 ≤ nI (nLm M) from by rw [show (aset M 24 f).1 0 10 = nI (nLm M) from e0]; exact nI_le (Nat.le_refl _) (by omega)) c⟩
    | succ m ih =>
      intro i f hi
      have hin : i < nLm M := by omega
      have hv := vin12 hin hn
      have hx := ix12 hin hn
      have out : ∀ f (v4 v5 : Int32), v4 = nI (cntB (fun x => decide (kM M.1 8 x = nI a)) (i + 1)) → v5 = nI (cntB (fun x => decide (kM M.1 8 x = nI b)) (i + 1)) → ∀ x, x = ibP (kM M.1) a b i → ((b01 x = 0 → V shM G mX12_missing (k + 3) 53 [(0, .ref (G.2.1 0)), (1, .int (nI a)), (2, .int (nI b)), (3, .int w), (4, .int v4), (5, .int v5), (6, .int (nI (cntB (ibP (kM M.1) a b) i) + 0)), (7, .int (nI i + 1))] [] (aset M 24 f) (Qi q)) ∧ (¬ b01 x = 0 → V shM G mX12_missing (k + 3) 53 [(0, .ref (G.2.1 0)), (1, .int (nI a)), (2, .int (nI b)), (3, .int w), (4, .int v4), (5, .int v5), (6, .int (nI (cntB (ibP (kM M.1) a b) i) + 1)), (7, .int (nI i + 1))] [] (aset M 24 f) (Qi q))) := by
        intro f v4 v5 h4 h5 x hxx
        have l1 := ih (i + 1) f (by omega)
        rw [← h4, ← h5] at l1
        rw [nI_1 i, Int32.add_zero, nI_1]
        cases x with
        | false => rw [cntB_f hxx.symm] at l1; exact k0 l1
        | true => rw [cntB_t hxx.symm] at l1; exact k1 l1
      have inner : ∀ m2 j f (v4 v5 : Int32), M.1 8 i = nI a → v4 = nI (cntB (fun x => decide (kM M.1 8 x = nI a)) (i + 1)) → v5 = nI (cntB (fun x => decide (kM M.1 8 x = nI b)) (i + 1)) → j + m2 = nLm M → V shM G mX12_missing (k + 3) 110 [(0, .ref (G.2.1 0)), (1, .int (nI a)), (2, .int (nI b)), (3, .int w), (4, .int v4), (5, .int v5), (6, .int (nI (cntB (ibP (kM M.1) a b) i))), (7, .int (nI i)), (8, .int (b01 (anyB (fnP (kM M.1) i b) j))), (9, .int (nI j))] [] (aset M 24 f) (Qi q) := by
        intro m2
        induction m2 with
        | zero =>
          intro j f v4 v5 hba h4 h5 hj
          obtain rfl : j = nLm M := by omega
          refine wp_X12_missing_110 ⟨fun _ => out f v4 v5 h4 h5 _ ?_, fun c => absurd (show (aset M 24 f).1 0 10 ≤ nI (nLm M) from by rw [show (aset M 24 f).1 0 10 = nI (nLm M) from e0]; exact nI_le (Nat.le_refl _) (by omega)) c⟩
          rw [ibP, decide_eq_true (show kM M.1 8 i = nI a from hba), Bool.true_and]
          rfl
        | succ m2 ih2 =>
          intro j f v4 v5 hba h4 h5 hj
          have hjn : j < nLm M := by omega
          have l1 := fun f => ih2 (j + 1) f v4 v5 hba h4 h5 (by omega)
          refine wp_X12_missing_110 ⟨fun c => absurd c (by rw [show (aset M 24 f).1 0 10 = nI (nLm M) from e0]; exact nI_ge (by omega) (by omega)), fun _ => ⟨hv, ?_⟩⟩
          rw [hx, ix12 hjn hn, nI_1 j, show (aset M 24 f).1 8 = M.1 8 from rfl]
          refine ⟨fun c => absurd hba c, fun _ => ?_⟩
          cases hA : anyB (fnP (kM M.1) i b) j with
          | true =>
            have l2 := l1 f
            rw [anyB, hA, Bool.true_or] at l2
            exact n1 l2
          | false =>
            rw [anyB, hA, Bool.false_or] at l1
            refine n0 ⟨vin12 hjn hn, fun c => ?_, fun c => c_isLike (M := aset M 24 f) hW hin hjn (fun f2 => ?_)⟩
            · have l2 := l1 f
              rw [fnP, decide_eq_false (show ¬ kM M.1 8 j = nI b from c)] at l2
              exact l2
            · rw [aset_aset, show kM (aset M 24 f).1 = kM M.1 from rfl]
              have l2 := l1 f2
              cases hl : likeS (kM M.1) i j with
              | false => rw [fnP, hl, Bool.false_and, Bool.and_false] at l2; exact k0 l2
              | true =>
                refine k1 (c_isOneDoor (M := aset M 24 f2) hW hin hjn ?_)
                rw [show kM (aset M 24 f2).1 = kM M.1 from rfl]
                rw [fnP, hl, decide_eq_true (show kM M.1 8 j = nI b from c)] at l2
                cases ho : oneS (kM M.1) i j with
                | false => rw [ho] at l2; exact k0 l2
                | true => rw [ho] at l2; exact k1 l2
      have start : ∀ v4 v5 : Int32, v4 = nI (cntB (fun x => decide (kM M.1 8 x = nI a)) (i + 1)) → v5 = nI (cntB (fun x => decide (kM M.1 8 x = nI b)) (i + 1)) → V shM G mX12_missing (k + 3) 110 [(0, .ref (G.2.1 0)), (1, .int (nI a)), (2, .int (nI b)), (3, .int w), (4, .int v4), (5, .int v5), (6, .int (nI (cntB (ibP (kM M.1) a b) i))), (7, .int (nI i)), (8, .int 0), (9, .int 0)] [] (aset M 24 f) (Qi q) := by
        intro v4 v5 h4 h5
        by_cases hba : M.1 8 i = nI a
        · exact inner (nLm M) 0 f v4 v5 hba h4 h5 (by omega)
        · have o1 := out f v4 v5 h4 h5 false (by rw [ibP, decide_eq_false (show ¬ kM M.1 8 i = nI a from hba)]; rfl)
          refine wp_X12_missing_110 ⟨fun _ => o1, fun _ => ⟨hv, ?_⟩⟩
          rw [hx, show (aset M 24 f).1 8 = M.1 8 from rfl]
          exact ⟨fun _ => o1, fun c => absurd c hba⟩
      refine wp_X12_missing_53 ⟨fun c => absurd c (by rw [show (aset M 24 f).1 0 10 = nI (nLm M) from e0]; exact nI_ge (by omega) (by omega)), fun _ => ⟨hv, ?_⟩⟩
      rw [hx, show (aset M 24 f).1 8 = M.1 8 from rfl, Int32.add_zero, Int32.add_zero, nI_1, nI_1]
      refine ⟨fun c => ⟨hv, fun c2 => start _ _ ?_ ?_, fun c2 => start _ _ ?_ ?_⟩, fun c => ⟨hv, fun c2 => start _ _ ?_ ?_, fun c2 => start _ _ ?_ ?_⟩⟩
      · rw [cntB_f (p := fun x => decide (kM M.1 8 x = nI a)) (n := i) (decide_eq_false c)]
      · rw [cntB_f (p := fun x => decide (kM M.1 8 x = nI b)) (n := i) (decide_eq_false c2)]
      · rw [cntB_f (p := fun x => decide (kM M.1 8 x = nI a)) (n := i) (decide_eq_false c)]
      · rw [cntB_t (p := fun x => decide (kM M.1 8 x = nI b)) (n := i) (decide_eq_true c2)]
      · rw [cntB_t (p := fun x => decide (kM M.1 8 x = nI a)) (n := i) (decide_eq_true c)]
      · rw [cntB_f (p := fun x => decide (kM M.1 8 x = nI b)) (n := i) (decide_eq_false c2)]
      · rw [cntB_t (p := fun x => decide (kM M.1 8 x = nI a)) (n := i) (decide_eq_true c)]
      · rw [cntB_t (p := fun x => decide (kM M.1 8 x = nI b)) (n := i) (decide_eq_true c2)]
  have h0 := outer (nLm M) 0 (M.1 24) (by omega)
  rw [aset_self] at h0
  exact h0
theorem st_missing : St_missing RR := by
  intro G1 G2 Mc Mm v w x hR
  obtain ⟨hW, hT⟩ := hR.2.2.2.2.1
  obtain ⟨e6, e0, hn⟩ := RR_B hR
  have hM : WFm (kM (mset Mm 0 0 0).1) := hW
  rcases num2 v (n := nBm Mm) (by omega) with hb | ⟨a, ha, rfl⟩
  · exact wp_X11_missing (c_noBook_bad e6 (by omega) hb (n1 (wp_X12_missing (c_isBook_bad e0 (by omega) hb (k0 ⟨rfl, RR_thrown hR⟩)))))
  rcases num2 w (n := nBm Mm) (by omega) with hb | ⟨b, hb, rfl⟩
  · exact wp_X11_missing (c_noBook_ok e6 (by omega) ha (n0 (c_noBook_bad e6 (by omega) hb (n1 (wp_X12_missing (c_isBook_ok e0 (by omega) ha (k1 (c_isBook_bad e0 (by omega) hb (k0 ⟨rfl, RR_thrown hR⟩)))))))))
  by_cases hab : nI a = nI b
  · exact wp_X11_missing (c_noBook_ok e6 (by omega) ha (n0 (c_noBook_ok e6 (by omega) hb (n0 ⟨fun _ => wp_X12_missing (c_isBook_ok e0 (by omega) ha (k1 (c_isBook_ok e0 (by omega) hb (k1 ⟨fun _ => ⟨rfl, RR_thrown hR⟩, fun c => absurd hab c⟩)))), fun c => absurd hab c⟩))))
  have bad : (x.toInt < 0 ∨ 2 < x.toInt) → Ci shM G2 mX12_missing 3 [.ref (G2.2.1 0), .int (nI a), .int (nI b), .int x] Mm (fun y M2 => -1000001 = y ∧ RR Mc M2) := fun hx => wp_X12_missing (c_isBook_ok e0 (by omega) ha (k1 (c_isBook_ok e0 (by omega) hb (k1 ⟨fun c => absurd c hab, fun _ => c_in_bad (by rw [t0, l_2]; exact hx) (n0 ⟨rfl, RR_thrown hR⟩)⟩))))
  have good : ∀ {q : Int32 → Mem → Prop}, 0 ≤ x.toInt → x.toInt ≤ 2 → (∀ f, ((x ≠ 2 → ((x ≠ 1 → ((nI (ibS (kM Mm.1) a b) ≠ 0 → ¬ nI (ibS (kM Mm.1) a b) = 0 ∧ q ((nI (cbS (kM Mm.1) a) * nI (cbS (kM Mm.1) b)) / nI (ibS (kM Mm.1) a b)) (aset (mset Mm 0 0 0) 24 f)) ∧ (nI (ibS (kM Mm.1) a b) = 0 → q (-1000000) (aset (mset Mm 0 0 0) 24 f)))) ∧ (x = 1 → q ((nI (cbS (kM Mm.1) a) + nI (cbS (kM Mm.1) b)) - nI (ibS (kM Mm.1) a b)) (aset (mset Mm 0 0 0) 24 f)))) ∧ (x = 2 → q (nI (ibS (kM Mm.1) a b)) (aset (mset Mm 0 0 0) 24 f)))) → Ci shM G2 mX12_missing 3 [.ref (G2.2.1 0), .int (nI a), .int (nI b), .int x] Mm q := by
    intro q h1 h2 hq
    exact wp_X12_missing (c_isBook_ok e0 (by omega) ha (k1 (c_isBook_ok e0 (by omega) hb (k1 ⟨fun c => absurd c hab, fun _ => c_in_ok (by rw [t0]; exact h1) (by rw [l_2]; exact h2) (n1 (c_missingM (M := mset Mm 0 0 0) hM hq))⟩))))
  refine wp_X11_missing (c_noBook_ok e6 (by omega) ha (n0 (c_noBook_ok e6 (by omega) hb (n0 ⟨fun c => absurd c hab, fun _ => ⟨fun c => bad (Or.inl (lt0 c)), fun c => ⟨fun c2 => c_countOfBook hW hT (c_countOfBook hW hT (c_countInBoth hW hT ?_)), fun c2 => bad (Or.inr ?_)⟩⟩⟩))))
  · have x0 : 0 ≤ x.toInt := by
      have : ¬ x.toInt < 0 := fun e => c (lt0' e)
      omega
    have x2 : x.toInt ≤ 2 := by rw [leI, i_2] at c2; exact c2
    refine ⟨fun c3 => ⟨fun c4 => ⟨c4, ?_⟩, fun c4 => ?_⟩, fun c3 => ?_, fun c3 => ?_⟩
    · have hx : x = 0 := Int32.toInt_inj.mp (by rw [c3]; decide)
      subst hx
      exact good x0 x2 (fun f => ⟨fun _ => ⟨fun _ => ⟨fun c5 => ⟨c5, rfl, RR_sc hR rfl rfl⟩, fun c5 => absurd c5 c4⟩, fun c5 => absurd c5 (by decide)⟩, fun c5 => absurd c5 (by decide)⟩)
    · have hx : x = 0 := Int32.toInt_inj.mp (by rw [c3]; decide)
      subst hx
      exact good x0 x2 (fun f => ⟨fun _ => ⟨fun _ => ⟨fun c5 => absurd c4 c5, fun c5 => ⟨rfl, RR_sc hR rfl rfl⟩⟩, fun c5 => absurd c5 (by decide)⟩, fun c5 => absurd c5 (by decide)⟩)
    · have hx : x = 1 := Int32.toInt_inj.mp (by rw [c3]; decide)
      subst hx
      exact good x0 x2 (fun f => ⟨fun _ => ⟨fun c5 => absurd rfl c5, fun _ => ⟨rfl, RR_sc hR rfl rfl⟩⟩, fun c5 => absurd c5 (by decide)⟩)
    · have h0 : x.toInt ≠ 0 := fun e => by rw [e] at c3; exact absurd c3 (by decide)
      have h1 : x.toInt ≠ 1 := fun e => by rw [e] at c3; exact absurd c3 (by decide)
      have hx : x = 2 := Int32.toInt_inj.mp (by rw [i_2]; omega)
      subst hx
      exact good x0 x2 (fun f => ⟨fun c5 => absurd rfl c5, fun _ => ⟨rfl, RR_sc hR rfl rfl⟩⟩)
  · rw [leI, i_2] at c2; omega
/-! next -/
def rdP (d : Nat → Nat → Int32) (x y : Nat) : Bool := decide (¬ d 7 (ix (d 8 y)) = 0) && oneS d x y
def rdS (d : Nat → Nat → Int32) (x : Nat) : Bool := anyB (rdP d x) (ix (d 0 10))
def unP (d : Nat → Nat → Int32) (b x : Nat) : Bool := decide (d 8 x = nI b) && !rdS d x
def unS (d : Nat → Nat → Int32) (b : Nat) : Nat := cntB (unP d b) (ix (d 0 10))
def wS (d : Nat → Nat → Int32) (b : Nat) : Int32 := (1000 * nI (unS d b)) / d 6 b
def nxS (d : Nat → Nat → Int32) : Nat → Int32 × Int32
  | 0 => (-1000000, 0)
  | b + 1 => if d 7 b = 0 ∧ ((nxS d b).1 = -1000000 ∨ ¬ wS d b ≤ (nxS d b).2) then (nI b, wS d b) else nxS d b
theorem WF_bk {d : Nat → Nat → Int32} (hW : WFm d) {l : Nat} (hl : l < ix (d 0 10)) : ∃ b, b < ix (d 0 5) ∧ d 8 l = nI b := (hW.2.2.2.2.2.1 l hl).1
section
variable {G : GV} {k : Nat} {M : Mem} {q : Int32 → Mem → Prop} {d : Nat → Nat → Int32}
theorem c_isDoorRead {x : Nat} (hW : WFm d) (hT : TieC (kC M.1) d) (hx : x < ix (d 0 10)) (h : q (b01 (rdS d x)) M) : Ci shC G mX3_isDoorRead (k + 1) [.ref (G.2.1 6), .int (nI x), .ref (G.2.1 3)] M q := by
  have hn : ix (d 0 10) ≤ 12 := hW.2.1.2
  have e6 : M.1 6 8 = nI (ix (d 0 10)) := Eq.trans hT.1.2.1 hW.2.1.1
  have loop : ∀ m j, j + m = ix (d 0 10) → (∀ y, y < j → rdP d x y = false) → V shC G mX3_isDoorRead (k + 1) 2 [(0, .ref (G.2.1 6)), (1, .int (nI x)), (2, .ref (G.2.1 3)), (3, .int (nI j))] [] M (Qi q) := by
    intro m
    induction m with
    | zero =>
      intro j hj hno
      obtain rfl : j = ix (d 0 10) := by omega
      rw [rdS, anyB_no hno] at h
      exact wp_X3_isDoorRead_2 ⟨fun _ => h, fun c => absurd (by rw [e6]; exact nI_le (Nat.le_refl _) (by omega)) c⟩
    | succ m ih =>
      intro j hj hno
      have hjn : j < ix (d 0 10) := by omega
      have t28 : M.1 28 j = d 8 j := (hT.2.2.2.1 j hjn).1
      obtain ⟨b, hb, eb⟩ := WF_bk hW hjn
      have hb10 : b < 10 := Nat.lt_of_lt_of_le hb hW.1.2
      have t19 : M.1 19 b = d 7 b := (hT.2.1 b hb).2.2
      refine wp_X3_isDoorRead_2 ⟨fun c => absurd c (by rw [e6]; exact nI_ge (by omega) (by omega)), fun _ => ⟨vin12 hjn hn, ?_⟩⟩
      rw [ix_nI (show j < 2 ^ 31 by omega), nI_1 j, t28, eb, ix_nI (show b < 2 ^ 31 by omega), t19]
      refine ⟨vp_in_nI hb10 (by decide), fun c => ih (j + 1) (by omega) (upto hno ?_), fun c => c_atOneDoor hW hT hx hjn ?_⟩
      · rw [rdP, eb, ix_nI (show b < 2 ^ 31 by omega), decide_eq_false (fun e => e c)]; rfl
      · cases ho : oneS d x j with
        | false => exact k0 (ih (j + 1) (by omega) (upto hno (by rw [rdP, ho, Bool.and_false])))
        | true =>
          rw [rdS, anyB_yes hjn (show rdP d x j = true from by rw [rdP, eb, ix_nI (show b < 2 ^ 31 by omega), decide_eq_true c, ho]; rfl)] at h
          exact k1 h
  exact wp_X3_isDoorRead (loop _ 0 (Nat.zero_add _) (fun y hy => absurd hy (Nat.not_lt_zero _)))
theorem c_countUnseen {b : Nat} (hW : WFm d) (hT : TieC (kC M.1) d) (h : q (nI (unS d b)) M) : Ci shC G mX3_countUnseen (k + 2) [.ref (G.2.1 6), .int (nI b), .ref (G.2.1 3)] M q := by
  have hn : ix (d 0 10) ≤ 12 := hW.2.1.2
  have e6 : M.1 6 8 = nI (ix (d 0 10)) := Eq.trans hT.1.2.1 hW.2.1.1
  have loop : ∀ m i, i + m = ix (d 0 10) → V shC G mX3_countUnseen (k + 2) 5 [(0, .ref (G.2.1 6)), (1, .int (nI b)), (2, .ref (G.2.1 3)), (3, .int (nI (cntB (unP d b) i))), (4, .int (nI i))] [] M (Qi q) := by
    intro m
    induction m with
    | zero =>
      intro i hi
      obtain rfl : i = ix (d 0 10) := by omega
      exact wp_X3_countUnseen_5 ⟨fun _ => h, fun c => absurd (by rw [e6]; exact nI_le (Nat.le_refl _) (by omega)) c⟩
    | succ m ih =>
      intro i hi
      have l1 := ih (i + 1) (by omega)
      have hin : i < ix (d 0 10) := by omega
      have t28 : M.1 28 i = d 8 i := (hT.2.2.2.1 i hin).1
      refine wp_X3_countUnseen_5 ⟨fun c => absurd c (by rw [e6]; exact nI_ge (by omega) (by omega)), fun _ => ⟨vin12 hin hn, ?_⟩⟩
      rw [ix_nI (show i < 2 ^ 31 by omega), nI_1 i, t28]
      refine ⟨fun c => ?_, fun c => c_isDoorRead hW hT hin ?_⟩
      · rw [cntB_f (p := unP d b) (n := i) (by rw [unP, decide_eq_false c]; rfl)] at l1; exact l1
      · cases hf : rdS d i with
        | true => rw [cntB_f (p := unP d b) (n := i) (by rw [unP, hf]; simp)] at l1; exact n1 l1
        | false => rw [cntB_t (p := unP d b) (n := i) (by rw [unP, hf, decide_eq_true c]; rfl), ← nI_1] at l1; exact n0 l1
  exact wp_X3_countUnseen (loop _ 0 (Nat.zero_add _))
theorem wS_nI (hW : WFm d) {b : Nat} (hb : b < ix (d 0 5)) : ∃ z, z < 2 ^ 31 ∧ wS d b = nI z := by
  obtain ⟨p, p1, p2, ep⟩ := (hW.2.2.2.2.1 b hb).2.1
  have hu : unS d b ≤ 12 := Nat.le_trans cntB_le hW.2.1.2
  refine ⟨1000 * unS d b / p, ?_, ?_⟩
  · have := Nat.div_le_self (1000 * unS d b) p
    omega
  · rw [wS, ep, nI_1000, pk_div (by omega) (by omega) (by omega)]
theorem nxS_1 (d : Nat → Nat → Int32) (b : Nat) : (nxS d b).1 = -1000000 ∨ ∃ x, x < b ∧ (nxS d b).1 = nI x := by
  induction b with
  | zero => exact Or.inl rfl
  | succ b ih =>
    rw [nxS]
    split
    · exact Or.inr ⟨b, by omega, rfl⟩
    · rcases ih with h | ⟨x, h1, h2⟩
      · exact Or.inl h
      · exact Or.inr ⟨x, by omega, h2⟩
theorem c_nextC (hW : WFm d) (hT : TieC (kC M.1) d) (h : q (nxS d (ix (d 0 5))).1 M) : Ci shC G mX11_next (k + 3) [.ref (G.2.1 0)] M q := by
  have hn : ix (d 0 5) ≤ 10 := hW.1.2
  have e3 : M.1 3 3 = nI (ix (d 0 5)) := Eq.trans hT.1.1 hW.1.1
  have loop : ∀ m b, b + m = ix (d 0 5) → V shC G mX11_next (k + 3) 7 [(0, .ref (G.2.1 0)), (1, .int (nxS d b).1), (2, .int (if (nxS d b).1 = -1000000 then -1 else (nxS d b).2)), (3, .int (nI b))] [] M (Qi q) := by
    intro m
    induction m with
    | zero =>
      intro b hb
      obtain rfl : b = ix (d 0 5) := by omega
      exact wp_X11_next_7 ⟨fun _ => h, fun c => absurd (by rw [e3]; exact nI_le (Nat.le_refl _) (by omega)) c⟩
    | succ m ih =>
      intro b hb
      have l1 := ih (b + 1) (by omega)
      have hbn : b < ix (d 0 5) := by omega
      obtain ⟨t17, t18, t19⟩ := hT.2.1 b hbn
      have t18' : M.1 18 b = d 6 b := t18
      have t19' : M.1 19 b = d 7 b := t19
      obtain ⟨p, p1, p2, ep⟩ := (hW.2.2.2.2.1 b hbn).2.1
      refine wp_X11_next_7 ⟨fun c => absurd c (by rw [e3]; exact nI_ge (by omega) (by omega)), fun _ => ⟨vin10 hbn hn, ?_⟩⟩
      rw [ix10 hbn hn, t19', nI_1 b]
      refine ⟨fun c => c_countUnseen hW hT (wp_X1_worth ⟨vin10 hbn hn, ?_⟩), fun c => ?_⟩
      · rw [ix10 hbn hn, t18']
        refine ⟨fun _ => ⟨vin10 hbn hn, by rw [ep]; exact nI_ne0 (by omega) (by omega), ?_⟩, fun c2 => absurd (by rw [ep]; exact nI_le (a := 1) p1 (by omega)) c2⟩
        have hw : nI (unS d b) * 1000 / d 6 b = wS d b := by rw [wS, Int32.mul_comm]
        rw [hw]
        obtain ⟨z, hz, ez⟩ := wS_nI hW hbn
        by_cases hf : (nxS d b).1 = -1000000
        · rw [if_pos hf]
          refine ⟨fun c2 => ?_, fun c2 => ?_⟩
          · exfalso
            rw [ez, leI, nI_toInt hz, show (-1 : Int32).toInt = -1 from by decide] at c2
            omega
          · rw [nxS, if_pos ⟨c, Or.inl hf⟩] at l1
            rw [if_neg (show ¬ nI b = -1000000 from nI_none (by omega) (by decide))] at l1
            exact l1
        · rw [if_neg hf]
          refine ⟨fun c2 => ?_, fun c2 => ?_⟩
          · rw [nxS, if_neg (by rintro ⟨_, e | e⟩; exact hf e; exact e c2), if_neg hf] at l1
            exact l1
          · rw [nxS, if_pos ⟨c, Or.inr c2⟩] at l1
            rw [if_neg (show ¬ nI b = -1000000 from nI_none (by omega) (by decide))] at l1
            exact l1
      · rw [nxS, if_neg (fun e => c e.1)] at l1
        exact l1
  exact wp_X11_next (loop _ 0 (Nat.zero_add _))
theorem c_nextM (hW : WFm (kM M.1)) (h : q (nxS (kM M.1) (nBm M)).1 M) : V shM G mX12_next (k + 3) 12 [(0, .ref (G.2.1 0)), (1, .int (-1000000)), (2, .int 0), (3, .int 0)] [] M (Qi q) := by
  obtain ⟨e0, hn⟩ := WF_L hW
  obtain ⟨e5, hn5⟩ := WF_B hW
  have outer : ∀ m b, b + m = nBm M → V shM G mX12_next (k + 3) 12 [(0, .ref (G.2.1 0)), (1, .int (nxS (kM M.1) b).1), (2, .int (nxS (kM M.1) b).2), (3, .int (nI b))] [] M (Qi q) := by
    intro m
    induction m with
    | zero =>
      intro b hb
      obtain rfl : b = nBm M := by omega
      exact wp_X12_next_12 ⟨fun _ => h, fun c => absurd (by rw [e5]; exact nI_le (Nat.le_refl _) (by omega)) c⟩
    | succ m ih =>
      intro b hb
      have l1 := ih (b + 1) (by omega)
      have hbn : b < nBm M := by omega
      obtain ⟨p, p1, p2, ep⟩ := (hW.2.2.2.2.1 b hbn).2.1
      have ep' : M.1 6 b = nI p := ep
      have mid : ∀ m2 x, x + m2 = nLm M → V shM G mX12_next (k + 3) 26 [(0, .ref (G.2.1 0)), (1, .int (nxS (kM M.1) b).1), (2, .int (nxS (kM M.1) b).2), (3, .int (nI b)), (4, .int (nI (cntB (unP (kM M.1) b) x))), (5, .int (nI x))] [] M (Qi q) := by
        intro m2
        induction m2 with
        | zero =>
          intro x hx
          obtain rfl : x = nLm M := by omega
          refine wp_X12_next_26 ⟨fun _ => ⟨vin10 hbn hn5, ?_⟩, fun c => absurd (by rw [e0]; exact nI_le (Nat.le_refl _) (by omega)) c⟩
          rw [ix10 hbn hn5]
          refine ⟨by rw [ep']; exact nI_ne0 (by omega) (by omega), vin10 hbn hn5, ?_⟩
          rw [nI_1 b]
          show (M.1 7 b ≠ 0 → _) ∧ (M.1 7 b = 0 → (((nxS (kM M.1) b).1 = -1000000 → V shM G mX12_next (k + 3) 12 [(0, .ref (G.2.1 0)), (1, .int (nI b)), (2, .int (wS (kM M.1) b)), (3, .int (nI (b + 1)))] [] M (Qi q)) ∧ (¬ (nxS (kM M.1) b).1 = -1000000 → ((wS (kM M.1) b ≤ (nxS (kM M.1) b).2 → _) ∧ (¬ wS (kM M.1) b ≤ (nxS (kM M.1) b).2 → V shM G mX12_next (k + 3) 12 [(0, .ref (G.2.1 0)), (1, .int (nI b)), (2, .int (wS (kM M.1) b)), (3, .int (nI (b + 1)))] [] M (Qi q))))))
          refine ⟨fun c => ?_, fun c => ⟨fun c2 => ?_, fun c2 => ⟨fun c3 => ?_, fun c3 => ?_⟩⟩⟩
          · rw [nxS, if_neg (fun e => c e.1)] at l1; exact l1
          · rw [nxS, if_pos ⟨c, Or.inl c2⟩] at l1; exact l1
          · rw [nxS, if_neg (by rintro ⟨_, e | e⟩; exact c2 e; exact e c3)] at l1; exact l1
          · rw [nxS, if_pos ⟨c, Or.inr c3⟩] at l1; exact l1
        | succ m2 ih2 =>
          intro x hx
          have l2 := ih2 (x + 1) (by omega)
          have hxn : x < nLm M := by omega
          have vx := vin12 hxn hn
          refine wp_X12_next_26 ⟨fun c => absurd c (by rw [e0]; exact nI_ge (by omega) (by omega)), fun _ => ?_⟩
          by_cases hba : M.1 8 x = nI b
          · have inner : ∀ m3 j, j + m3 = nLm M → V shM G mX12_next (k + 3) 41 [(0, .ref (G.2.1 0)), (1, .int (nxS (kM M.1) b).1), (2, .int (nxS (kM M.1) b).2), (3, .int (nI b)), (4, .int (nI (cntB (unP (kM M.1) b) x))), (5, .int (nI x)), (6, .int (b01 (anyB (rdP (kM M.1) x) j))), (7, .int (nI j))] [] M (Qi q) := by
              intro m3
              induction m3 with
              | zero =>
                intro j hj
                obtain rfl : j = nLm M := by omega
                refine wp_X12_next_41 ⟨fun _ => ⟨vx, ?_⟩, fun c => absurd (by rw [e0]; exact nI_le (Nat.le_refl _) (by omega)) c⟩
                rw [ix12 hxn hn, Int32.add_zero, nI_1 x, nI_1]
                refine ⟨fun c => absurd hba c, fun _ => ?_⟩
                cases hA : anyB (rdP (kM M.1) x) (nLm M) with
                | true =>
                  rw [cntB_f (p := unP (kM M.1) b) (n := x) (by rw [unP, show rdS (kM M.1) x = true from hA]; simp)] at l2
                  exact n1 l2
                | false =>
                  rw [cntB_t (p := unP (kM M.1) b) (n := x) (by rw [unP, show rdS (kM M.1) x = false from hA, decide_eq_true (show kM M.1 8 x = nI b from hba)]; rfl)] at l2
                  exact n0 l2
              | succ m3 ih3 =>
                intro j hj
                have l3 := ih3 (j + 1) (by omega)
                have hjn : j < nLm M := by omega
                obtain ⟨b2, hb2, eb2⟩ := WF_bk hW (show j < ix (kM M.1 0 10) from hjn)
                have eb2' : M.1 8 j = nI b2 := eb2
                have hb10 : b2 < 10 := Nat.lt_of_lt_of_le hb2 hW.1.2
                refine wp_X12_next_41 ⟨fun c => absurd c (by rw [e0]; exact nI_ge (by omega) (by omega)), fun _ => ⟨vx, ?_⟩⟩
                rw [ix12 hxn hn, nI_1 j, ix12 hjn hn, eb2', ix_nI (show b2 < 2 ^ 31 by omega)]
                refine ⟨fun c => absurd hba c, fun _ => ?_⟩
                cases hA : anyB (rdP (kM M.1) x) j with
                | true =>
                  rw [anyB, hA, Bool.true_or] at l3
                  exact n1 l3
                | false =>
                  rw [anyB, hA, Bool.false_or] at l3
                  refine n0 ⟨vin12 hjn hn, vp_in_nI hb10 (by decide), fun c => ?_, fun c => c_isOneDoor hW hxn hjn ?_⟩
                  · rw [rdP, eb2, ix_nI (show b2 < 2 ^ 31 by omega), decide_eq_false (show ¬ ¬ kM M.1 7 b2 = 0 from fun e => e c)] at l3
                    exact l3
                  · rw [rdP, eb2, ix_nI (show b2 < 2 ^ 31 by omega), decide_eq_true (show ¬ kM M.1 7 b2 = 0 from c)] at l3
                    cases ho : oneS (kM M.1) x j with
                    | false => rw [ho] at l3; exact k0 l3
                    | true => rw [ho] at l3; exact k1 l3
            exact inner (nLm M) 0 (by omega)
          · rw [cntB_f (p := unP (kM M.1) b) (n := x) (by rw [unP, decide_eq_false (show ¬ kM M.1 8 x = nI b from hba)]; rfl)] at l2
            refine wp_X12_next_41 ⟨fun c => ⟨vx, ?_⟩, fun c => ⟨vx, ?_⟩⟩
            · rw [ix12 hxn hn, Int32.add_zero, nI_1 x]
              exact ⟨fun _ => l2, fun c => absurd c hba⟩
            · rw [ix12 hxn hn, Int32.add_zero, nI_1 x]
              exact ⟨fun _ => ⟨vx, fun _ => l2, fun c => absurd c hba⟩, fun c => absurd c hba⟩
      refine wp_X12_next_12 ⟨fun c => absurd c (by rw [e5]; exact nI_ge (by omega) (by omega)), fun _ => mid (nLm M) 0 (by omega)⟩
  exact outer (nBm M) 0 (by omega)
end
theorem st_next : St_next RR := by
  intro G1 G2 Mc Mm hR
  obtain ⟨hW, hT⟩ := hR.2.2.2.2.1
  exact c_nextC hW hT (wp_X12_next (c_nextM (M := mset Mm 0 0 0) hW ⟨rfl, RR_thrown hR⟩))
