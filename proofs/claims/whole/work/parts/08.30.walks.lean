/-! walks -/
theorem tdy_rng {d : Nat → Nat → Int32} (hW : WFm d) {s y now : Int32} {k : Nat} (hk : k < ix (d 0 18)) (h : ∃ n, 1 ≤ n ∧ n ≤ 99 ∧ now = nI n) : ∃ n, 1 ≤ n ∧ n ≤ 99 ∧ tdy d s y now k = nI n := by
  unfold tdy
  split
  · exact (hW.2.2.2.2.2.2.1 k hk).2.2.2
  · exact h
theorem today_rng {d : Nat → Nat → Int32} (hW : WFm d) {s n y : Int32} (h : ∃ m, 1 ≤ m ∧ m ≤ 99 ∧ n = nI m) : ∃ m, 1 ≤ m ∧ m ≤ 99 ∧ todayS d s n y = nI m := by
  have : ∀ (l : List Nat), (∀ k, k ∈ l → k < ix (d 0 18)) → ∀ now, (∃ m, 1 ≤ m ∧ m ≤ 99 ∧ now = nI m) → ∃ m, 1 ≤ m ∧ m ≤ 99 ∧ l.foldl (tdy d s y) now = nI m := by
    intro l
    induction l with
    | nil => intro _ now h; exact h
    | cons a t ih => intro hl now h; exact ih (fun k hk => hl k (List.mem_cons_of_mem _ hk)) _ (tdy_rng hW (hl a List.mem_cons_self) h)
  exact this (ordS d) (fun k hk => mem_srtO.mp hk) n h
theorem nI_ofZ {x : Int32} (h : 0 ≤ x.toInt) : ∃ n : Nat, n < 2 ^ 31 ∧ x = nI n ∧ x.toInt = n := by
  obtain ⟨n, h1, rfl⟩ := nI_of (x := x) (fun e => by have := lt0 e; omega)
  exact ⟨n, h1, rfl, nI_toInt h1⟩
theorem nI_3 (v : Nat) : 3 * nI v = nI (3 * v) := by rw [show (3 : Int32) = nI 3 from rfl, nI_mul]
theorem nI_100 (v : Nat) : nI v * 100 = nI (v * 100) := by rw [show (100 : Int32) = nI 100 from rfl, nI_mul]
theorem nI_2 (v : Nat) : nI v + 2 = nI (v + 2) := nI_add v 2
theorem i_20 : (20 : Int32).toInt = 20 := by decide
theorem l_20 : (20 : Int64).toInt = 20 := by decide
def wkS (d : Nat → Nat → Int32) (it : Nat → Int32) (a : Nat) : Int32 := todayS d (it (3 * a)) (it (3 * a + 1)) (it (3 * a + 2))
def mtP (d : Nat → Nat → Int32) (it : Nat → Int32) (a b : Nat) : Bool := decide (b ≠ a) && decide (it (3 * a) = it (3 * b) ∧ wkS d it b = wkS d it a)
def mtS (d : Nat → Nat → Int32) (it : Nat → Int32) (n a : Nat) : Bool := anyB (mtP d it a) n
def okW (it : Nat → Int32) (a : Nat) : Prop := adS (it (3 * a)) (it (3 * a + 1)) (it (3 * a + 2))
def endS (d : Nat → Nat → Int32) (it : Nat → Int32) (a : Nat) : Int32 := it (3 * a) * 100 + wkS d it a
theorem end_nI {d : Nat → Nat → Int32} (hW : WFm d) {it : Nat → Int32} {a : Nat} (h : okW it a) : ∃ s r, s ≤ 3 ∧ r ≤ 99 ∧ it (3 * a) = nI s ∧ wkS d it a = nI r ∧ endS d it a = nI (s * 100 + r) := by
  obtain ⟨⟨a1, a2⟩, ⟨a3, a4⟩, a5, a6⟩ := h
  obtain ⟨s, hs, es, es'⟩ := nI_ofZ a1
  obtain ⟨n, hn, en, en'⟩ := nI_ofZ (x := it (3 * a + 1)) (by omega)
  obtain ⟨r, r1, r2, er⟩ := today_rng hW (s := it (3 * a)) (y := it (3 * a + 2)) ⟨n, by omega, by omega, en⟩
  have er' : wkS d it a = nI r := er
  exact ⟨s, r, by omega, r2, es, er', by rw [endS, er', es, nI_100, nI_add]⟩
theorem end_eq {d : Nat → Nat → Int32} (hW : WFm d) {it : Nat → Int32} {a b : Nat} (ha : okW it a) (hb : okW it b) : (endS d it b = endS d it a) ↔ (it (3 * a) = it (3 * b) ∧ wkS d it b = wkS d it a) := by
  obtain ⟨s, r, h1, h2, e1, e2, e3⟩ := end_nI hW ha
  obtain ⟨s', r', h1', h2', e1', e2', e3'⟩ := end_nI hW hb
  rw [e3, e3', e1, e1', e2, e2', nI_eq (by omega) (by omega), nI_eq (by omega) (by omega), nI_eq (by omega) (by omega)]
  omega
section
variable {G : GV} {k s : Nat} {M : Mem} {q : Int32 → Mem → Prop} {d : Nat → Nat → Int32}
theorem c_item {p : Nat} (h480 : 60 * s + p < 480) (h : q (M.1 15 (60 * s + p)) M) : Ci shC G mX9_item k [.ref (G.2.1 1), .int (nI s), .int (nI p)] M q := by
  refine wp_X9_item ?_
  rw [nI_60, ix_nI (by omega)]
  exact ⟨vp_in_nI h480 (by decide), h⟩
theorem c_walkEnd_ok {p : Nat} (hW : WFm d) (hT : TieC (kC M.1) d) (h480 : 60 * s + (p + 2) < 480) (hA : adS (M.1 15 (60 * s + p)) (M.1 15 (60 * s + (p + 1))) (M.1 15 (60 * s + (p + 2)))) (h : q (M.1 15 (60 * s + p) * 100 + todayS d (M.1 15 (60 * s + p)) (M.1 15 (60 * s + (p + 1))) (M.1 15 (60 * s + (p + 2)))) M) : Ci shC G mX11_walkEnd (k + 2) [.ref (G.2.1 0), .int (nI s), .int (nI p)] M q := by
  refine wp_X11_walkEnd (c_item (by omega) ?_)
  rw [nI_1 p, nI_2 p]
  exact c_item (by omega) (c_item (by omega) (c_isPlace_ok hA (n1 (c_numberToday hW hT h))))
theorem c_walkEnd_bad {p : Nat} (h480 : 60 * s + (p + 2) < 480) (hA : ¬ adS (M.1 15 (60 * s + p)) (M.1 15 (60 * s + (p + 1))) (M.1 15 (60 * s + (p + 2)))) (h : q (-1000001) M) : Ci shC G mX11_walkEnd (k + 2) [.ref (G.2.1 0), .int (nI s), .int (nI p)] M q := by
  refine wp_X11_walkEnd (c_item (by omega) ?_)
  rw [nI_1 p, nI_2 p]
  exact c_item (by omega) (c_item (by omega) (c_isPlace_bad hA (n0 h)))
theorem c_meetsAnother {w n : Nat} (hn : n ≤ 20) (hw : w < n) (h : q (b01 (anyB (fun o => decide (o ≠ w) && decide (M.1 12 o = M.1 12 w)) n)) M) : Ci shC G mX11_meetsAnother k [.ref (G.2.1 0), .int (nI w), .int (nI n)] M q := by
  have loop : ∀ m j, j + m = n → (∀ o, o < j → (decide (o ≠ w) && decide (M.1 12 o = M.1 12 w)) = false) → V shC G mX11_meetsAnother k 2 [(0, .ref (G.2.1 0)), (1, .int (nI w)), (2, .int (nI n)), (3, .int (nI j))] [] M (Qi q) := by
    intro m
    induction m with
    | zero =>
      intro j hj hno
      obtain rfl : j = n := by omega
      rw [anyB_no hno] at h
      exact wp_X11_meetsAnother_2 ⟨fun _ => h, fun c => absurd (nI_le (Nat.le_refl _) (by omega)) c⟩
    | succ m ih =>
      intro j hj hno
      have hjn : j < n := by omega
      refine wp_X11_meetsAnother_2 ⟨fun c => absurd c (nI_ge hjn (by omega)), fun _ => ?_⟩
      rw [nI_1 j, ix_nI (show j < 2 ^ 31 by omega), ix_nI (show w < 2 ^ 31 by omega)]
      refine ⟨fun c => ih (j + 1) (by omega) (upto hno ?_), fun c => ⟨vp_in_nI (by omega) (by decide), vp_in_nI (by omega) (by decide), fun c2 => ih (j + 1) (by omega) (upto hno ?_), fun c2 => ?_⟩⟩
      · rw [decide_eq_false (fun e => e ((nI_eq (by omega) (by omega)).mp c)), Bool.false_and]
      · rw [decide_eq_false c2, Bool.and_false]
      · rw [anyB_yes (p := fun o => decide (o ≠ w) && decide (M.1 12 o = M.1 12 w)) hjn (by show (decide (j ≠ w) && decide (M.1 12 j = M.1 12 w)) = true; rw [decide_eq_true (show j ≠ w from fun e => c (by rw [e])), decide_eq_true c2]; rfl)] at h
        exact h
  exact wp_X11_meetsAnother (loop n 0 (by omega) (fun o ho => absurd ho (Nat.not_lt_zero _)))
theorem c_countMeetings {n : Nat} (hn : n ≤ 20) (h : q (nI (cntB (fun w => anyB (fun o => decide (o ≠ w) && decide (M.1 12 o = M.1 12 w)) n) n)) M) : Ci shC G mX11_countMeetings (k + 1) [.ref (G.2.1 0), .int (nI n)] M q := by
  have loop : ∀ m i, i + m = n → V shC G mX11_countMeetings (k + 1) 4 [(0, .ref (G.2.1 0)), (1, .int (nI n)), (2, .int (nI (cntB (fun w => anyB (fun o => decide (o ≠ w) && decide (M.1 12 o = M.1 12 w)) n) i))), (3, .int (nI i))] [] M (Qi q) := by
    intro m
    induction m with
    | zero =>
      intro i hi
      obtain rfl : i = n := by omega
      exact wp_X11_countMeetings_4 ⟨fun _ => h, fun c => absurd (nI_le (Nat.le_refl _) (by omega)) c⟩
    | succ m ih =>
      intro i hi
      have l1 := ih (i + 1) (by omega)
      have hin : i < n := by omega
      refine wp_X11_countMeetings_4 ⟨fun c => absurd c (nI_ge hin (by omega)), fun _ => c_meetsAnother hn hin ?_⟩
      rw [nI_1 i, nI_1]
      cases hA : anyB (fun o => decide (o ≠ i) && decide (M.1 12 o = M.1 12 i)) n with
      | false => rw [cntB_f (p := fun w => anyB (fun o => decide (o ≠ w) && decide (M.1 12 o = M.1 12 w)) n) (n := i) hA] at l1; exact k0 l1
      | true => rw [cntB_t (p := fun w => anyB (fun o => decide (o ≠ w) && decide (M.1 12 o = M.1 12 w)) n) (n := i) hA] at l1; exact k1 l1
  exact wp_X11_countMeetings (loop n 0 (by omega))
theorem c_walksC {i n : Nat} {it : Nat → Int32} (hW : WFm d) (hT : TieC (kC M.1) d) (hs : s < 8) (hin : i + 3 * n ≤ 60) (hn : n ≤ 20) (hit : ∀ j, j < 3 * n → M.1 15 (60 * s + (i + j)) = it j) (hbad : (∃ a, a < n ∧ ¬ okW it a) → ∀ f, q (-1000001) (aset M 12 f)) (hgood : (∀ a, a < n → okW it a) → ∀ f, q (nI (cntB (mtS d it n) n)) (mset (aset M 12 f) 0 12 0)) : V shC G mX11_walks (k + 3) 63 [(0, .ref (G.2.1 0)), (1, .int (nI s)), (2, .int (nI i)), (3, .int (nI n)), (4, .int 0)] [] M (Qi q) := by
  have loop : ∀ m w f, w + m = n → (∀ a, a < w → okW it a ∧ f a = endS d it a) → V shC G mX11_walks (k + 3) 63 [(0, .ref (G.2.1 0)), (1, .int (nI s)), (2, .int (nI i)), (3, .int (nI n)), (4, .int (nI w))] [] (aset M 12 f) (Qi q) := by
    intro m
    induction m with
    | zero =>
      intro w f hw hf
      obtain rfl : w = n := by omega
      refine wp_X11_walks_63 ⟨fun _ => c_countMeetings hn (wp_X11_withoutFinding ?_), fun c => absurd (nI_le (Nat.le_refl _) (by omega)) c⟩
      have e : cntB (fun v => anyB (fun o => decide (o ≠ v) && decide ((aset M 12 f).1 12 o = (aset M 12 f).1 12 v)) w) w = cntB (mtS d it w) w := by
        apply cntB_congr
        intro a ha
        apply anyB_congr
        intro b hb
        show (decide (b ≠ a) && decide (f b = f a)) = mtP d it a b
        rw [(hf a ha).2, (hf b hb).2, mtP]
        congr 1
        exact decide_eq_decide.mpr (end_eq hW (hf a ha).1 (hf b hb).1)
      rw [e]
      exact hgood (fun a ha => (hf a ha).1) f
    | succ m ih =>
      intro w f hw hf
      refine wp_X11_walks_63 ⟨fun c => absurd c (nI_ge (by omega) (by omega)), fun _ => ?_⟩
      have j0 : (aset M 12 f).1 15 (60 * s + (i + 3 * w)) = it (3 * w) := hit (3 * w) (by omega)
      have j1 : (aset M 12 f).1 15 (60 * s + (i + 3 * w + 1)) = it (3 * w + 1) := hit (3 * w + 1) (by omega)
      have j2 : (aset M 12 f).1 15 (60 * s + (i + 3 * w + 2)) = it (3 * w + 2) := hit (3 * w + 2) (by omega)
      rw [nI_3, nI_add, nI_1 w, ix_nI (show w < 2 ^ 31 by omega)]
      by_cases hA : okW it w
      · refine c_walkEnd_ok (M := aset M 12 f) hW hT (by omega) (by rw [j0, j1, j2]; exact hA) ?_
        rw [j0, j1, j2]
        obtain ⟨u, r, u1, u2, u3, u4, u5⟩ := end_nI hW hA
        have u6 : it (3 * w) * 100 + todayS d (it (3 * w)) (it (3 * w + 1)) (it (3 * w + 2)) = nI (u * 100 + r) := u5
        rw [u6]
        refine ⟨fun _ => ⟨vp_in_nI (by omega) (by decide), ?_⟩, fun c => absurd c (nI_none (by omega) (by decide))⟩
        rw [mset_aset]
        refine ih (w + 1) _ (by omega) (fun a ha => ?_)
        rcases Nat.lt_or_ge a w with h1 | h1
        · rw [upd_ne _ _ (by omega)]; exact hf a h1
        · obtain rfl : a = w := by omega
          rw [upd_at]; exact ⟨hA, u5.symm⟩
      · exact c_walkEnd_bad (M := aset M 12 f) (by omega) (by rw [j0, j1, j2]; exact hA) ⟨fun c => absurd rfl c, fun _ => hbad ⟨w, by omega, hA⟩ f⟩
  have h0 := loop n 0 (M.1 12) (by omega) (fun a ha => absurd ha (Nat.not_lt_zero _))
  rw [aset_self] at h0
  exact h0
end
theorem c_walksM {G : GV} {k s i n : Nat} {M : Mem} {q : Int32 → Mem → Prop} {it : Nat → Int32} {v1 v2 : Int32} (hW : WFm (kM M.1)) (hs : s < 8) (hin : i + 3 * n ≤ 60) (hn : n ≤ 20) (hit : ∀ j, j < 3 * n → M.1 3 (60 * s + i + j) = it j) (hbad : (∃ a, a < n ∧ ¬ okW it a) → q (-1000001) M) (hgood : (∀ a, a < n → okW it a) → q (nI (cntB (mtS (kM M.1) it n) n)) (mset M 0 1 0)) : V shM G mX12_walks (k + 2) 81 [(0, .ref (G.2.1 0)), (1, .int v1), (2, .int v2), (3, .int (nI n)), (4, .int (nI (60 * s + i))), (5, .int 0)] [] M (Qi q) := by
  have i0 : ∀ w, w < n → M.1 3 (60 * s + i + 3 * w) = it (3 * w) := fun w hw => hit (3 * w) (by omega)
  have i1 : ∀ w, w < n → M.1 3 (60 * s + i + 3 * w + 1) = it (3 * w + 1) := fun w hw => hit (3 * w + 1) (by omega)
  have i2 : ∀ w, w < n → M.1 3 (60 * s + i + 3 * w + 2) = it (3 * w + 2) := fun w hw => hit (3 * w + 2) (by omega)
  have v0 : ∀ w, w < n → vp_in (nI (60 * s + i + 3 * w)) 480 := fun w hw => vp_in_nI (by omega) (by decide)
  have v1' : ∀ w, w < n → vp_in (nI (60 * s + i + 3 * w + 1)) 480 := fun w hw => vp_in_nI (by omega) (by decide)
  have v2' : ∀ w, w < n → vp_in (nI (60 * s + i + 3 * w + 2)) 480 := fun w hw => vp_in_nI (by omega) (by decide)
  have hW1 : WFm (kM (mset M 0 1 0).1) := hW
  have outer : (∀ a, a < n → okW it a) → ∀ m w, w + m = n → V shM G mX12_walks (k + 2) 153 [(0, .ref (G.2.1 0)), (1, .int v1), (2, .int v2), (3, .int (nI n)), (4, .int (nI (60 * s + i))), (5, .int (nI (cntB (mtS (kM M.1) it n) w))), (6, .int (nI w))] [] (mset M 0 1 0) (Qi q) := by
    intro hall m
    induction m with
    | zero =>
      intro w hw
      obtain rfl : w = n := by omega
      exact wp_X12_walks_153 ⟨fun _ => hgood hall, fun c => absurd (nI_le (Nat.le_refl _) (by omega)) c⟩
    | succ m ih =>
      intro w hw
      have hwn : w < n := by omega
      have l1 := ih (w + 1) (by omega)
      have inner : ∀ m2 b, b + m2 = n → V shM G mX12_walks (k + 2) 211 [(0, .ref (G.2.1 0)), (1, .int v1), (2, .int v2), (3, .int (nI n)), (4, .int (nI (60 * s + i))), (5, .int (nI (cntB (mtS (kM M.1) it n) w))), (6, .int (nI w)), (7, .int (b01 (anyB (mtP (kM M.1) it w) b))), (8, .int (wkS (kM M.1) it w)), (9, .int (nI b))] [] (mset M 0 1 0) (Qi q) := by
        intro m2
        induction m2 with
        | zero =>
          intro b hb
          obtain rfl : b = n := by omega
          refine wp_X12_walks_211 ⟨fun _ => ?_, fun c => absurd (nI_le (Nat.le_refl _) (by omega)) c⟩
          rw [Int32.add_zero, nI_1 w, nI_1]
          cases hA : anyB (mtP (kM M.1) it w) b with
          | false => rw [cntB_f (p := mtS (kM M.1) it b) (n := w) hA] at l1; exact k0 l1
          | true => rw [cntB_t (p := mtS (kM M.1) it b) (n := w) hA] at l1; exact k1 l1
        | succ m2 ih2 =>
          intro b hb
          have hbn : b < n := by omega
          have l2 := ih2 (b + 1) (by omega)
          refine wp_X12_walks_211 ⟨fun c => absurd c (nI_ge hbn (by omega)), fun _ => ?_⟩
          rw [nI_1 b, nI_3, nI_3, nI_add, nI_add, nI_1, nI_2, ix_nI (by omega), ix_nI (by omega), ix_nI (by omega), ix_nI (by omega), show (mset M 0 1 0).1 3 = M.1 3 from rfl, i0 w hwn, i0 b hbn, i1 b hbn, i2 b hbn]
          cases hA : anyB (mtP (kM M.1) it w) b with
          | true =>
            rw [anyB, hA, Bool.true_or] at l2
            exact n1 l2
          | false =>
            rw [anyB, hA, Bool.false_or] at l2
            refine n0 ⟨fun c => ?_, fun c => ⟨v0 w hwn, v0 b hbn, fun c2 => ?_, fun c2 => ⟨v0 b hbn, v1' b hbn, v2' b hbn, c_todayOf hW1 ⟨fun c3 => ?_, fun c3 => ?_⟩⟩⟩⟩
            · rw [mtP, decide_eq_false (show ¬ b ≠ w from fun e => e ((nI_eq (by omega) (by omega)).mp c))] at l2
              exact l2
            · rw [mtP, decide_eq_false (show ¬ (it (3 * w) = it (3 * b) ∧ wkS (kM M.1) it b = wkS (kM M.1) it w) from fun e => c2 e.1), Bool.and_false] at l2
              exact l2
            · rw [mtP, decide_eq_false (show ¬ (it (3 * w) = it (3 * b) ∧ wkS (kM M.1) it b = wkS (kM M.1) it w) from fun e => c3 e.2), Bool.and_false] at l2
              exact l2
            · rw [mtP, decide_eq_true (show b ≠ w from fun e => c (by rw [e])), decide_eq_true (show it (3 * w) = it (3 * b) ∧ wkS (kM M.1) it b = wkS (kM M.1) it w from ⟨c2, c3⟩)] at l2
              exact l2
      refine wp_X12_walks_153 ⟨fun c => absurd c (nI_ge hwn (by omega)), fun _ => ?_⟩
      rw [nI_3, nI_add, nI_1, nI_2, ix_nI (by omega), ix_nI (by omega), ix_nI (by omega), show (mset M 0 1 0).1 3 = M.1 3 from rfl, i0 w hwn, i1 w hwn, i2 w hwn]
      exact ⟨v0 w hwn, v1' w hwn, v2' w hwn, c_todayOf hW1 (inner n 0 (by omega))⟩
  have first : ∀ m w, w + m = n → (∀ a, a < w → okW it a) → V shM G mX12_walks (k + 2) 81 [(0, .ref (G.2.1 0)), (1, .int v1), (2, .int v2), (3, .int (nI n)), (4, .int (nI (60 * s + i))), (5, .int (nI w))] [] M (Qi q) := by
    intro m
    induction m with
    | zero =>
      intro w hw hf
      obtain rfl : w = n := by omega
      exact wp_X12_walks_81 ⟨fun _ => outer hf w 0 (by omega), fun c => absurd (nI_le (Nat.le_refl _) (by omega)) c⟩
    | succ m ih =>
      intro w hw hf
      have hwn : w < n := by omega
      refine wp_X12_walks_81 ⟨fun c => absurd c (nI_ge hwn (by omega)), fun _ => ?_⟩
      rw [nI_1 w, nI_3, nI_add, nI_1, nI_2, ix_nI (by omega), ix_nI (by omega), ix_nI (by omega), i0 w hwn, i1 w hwn, i2 w hwn]
      refine ⟨v0 w hwn, v1' w hwn, v2' w hwn, ?_⟩
      by_cases hA : okW it w
      · exact c_isAddress_ok hA (n1 (ih (w + 1) (by omega) (upto hf hA)))
      · exact c_isAddress_bad hA (n0 (hbad ⟨w, hwn, hA⟩))
  exact first n 0 (by omega) (fun a ha => absurd ha (Nat.not_lt_zero _))
theorem st_walks : St_walks RR := by
  intro G1 G2 Mc Mm v y x hR
  obtain ⟨hW, hT⟩ := hR.2.2.2.2.1
  rcases num_of v (n := 8) (by decide) with h | ⟨h, h8⟩ | ⟨s, hs, rfl⟩
  · refine wp_X11_walks (wp_X11_noSheet ⟨fun _ => n1 ?_, fun c => absurd h c⟩)
    refine wp_X12_walks (c_isSheet ?_)
    rw [inZ_out (Or.inl (lt0 h))]
    exact k0 ⟨rfl, RR_thrown hR⟩
  · refine wp_X11_walks (wp_X11_noSheet ⟨fun c => absurd c h, fun _ => ⟨fun c => ?_, fun _ => n1 ?_⟩⟩)
    · have := Int32.lt_iff_toInt_lt.mp c
      simp at this; omega
    · refine wp_X12_walks (c_isSheet ?_)
      rw [inZ_out (Or.inr (by omega))]
      exact k0 ⟨rfl, RR_thrown hR⟩
  have inS : inZ (nI s) 0 7 = 1 := inZ_nI (by omega) (by omega)
  have hx : ix (nI s) = s := ix_nI (by omega)
  have hv : vp_in (nI s) 8 := vp_in_nI hs (by decide)
  refine wp_X11_walks (wp_X11_noSheet ⟨fun c => absurd c (nI_pos (by omega)), fun _ => ⟨fun _ => n0 ?_, fun c => absurd (nI_lt hs (by decide)) c⟩⟩)
  have bad : (x.toInt < 1 ∨ 20 < x.toInt) → Ci shM G2 mX12_walks 2 [.ref (G2.2.1 0), .int (nI s), .int y, .int x] Mm (fun z M2 => -1000001 = z ∧ RR Mc M2) := fun hb => wp_X12_walks (c_isSheet (by rw [inS]; exact k1 (c_in_bad (by rw [l_1, l_20]; exact hb) (n0 ⟨rfl, RR_thrown hR⟩))))
  refine ⟨fun c => bad (Or.inl (by rw [ltI, i_1] at c; exact c)), fun c => ⟨fun c2 => ?_, fun c2 => bad (Or.inr (by rw [leI, i_20] at c2; omega))⟩⟩
  obtain ⟨n, ⟨n1', n20⟩, rfl⟩ : ∃ n, (1 ≤ n ∧ n ≤ 20) ∧ x = nI n := by
    rw [ltI, i_1] at c
    rw [leI, i_20] at c2
    obtain ⟨n, h1, e1, e2⟩ := nI_ofZ (x := x) (by omega)
    exact ⟨n, by omega, e1⟩
  have xin : inZ (nI n) (Int64.toInt 1) (Int64.toInt 20) = 1 := inZ_nI (by omega) (by rw [l_1, l_20]; omega)
  refine wp_X9_isMissing ⟨hv, fun c3 => k0 ?_, fun c3 => k1 ?_⟩
  · rw [hx] at c3
    obtain ⟨e1, e2⟩ | ⟨z, hz, e1, e2, e3, e4, e5⟩ := hR.2.1 s hs
    · exact absurd e2 c3
    have lane0 : (0 : Int32) ≤ Mm.1 1 s := by rcases e4 with e | e | e <;> rw [e] <;> decide
    have hm : ∀ {q : Int32 → Mem → Prop}, ((y < 0 → Ci shM G2 mX12_finding 1 [.ref (G2.2.1 0), .int 2] (mset Mm 0 0 0) (fun x3 M3 => q x3 M3)) ∧ (¬ y < 0 → ((((Int32.toInt64 y) + (Int32.toInt64 (nI (3 * n)))) ≤ (Int32.toInt64 (nI z)) → V shM G2 mX12_walks 2 81 [(0, .ref (G2.2.1 0)), (1, .int (nI s)), (2, .int y), (3, .int (nI n)), (4, .int ((60 * nI s) + y)), (5, .int 0)] [] (mset Mm 0 0 0) (Qi q)) ∧ (¬ ((Int32.toInt64 y) + (Int32.toInt64 (nI (3 * n)))) ≤ (Int32.toInt64 (nI z)) → Ci shM G2 mX12_finding 1 [.ref (G2.2.1 0), .int 2] (mset Mm 0 0 0) (fun x4 M4 => q x4 M4))))) → Ci shM G2 mX12_walks 2 [.ref (G2.2.1 0), .int (nI s), .int y, .int (nI n)] Mm q := by
      intro q hq
      refine wp_X12_walks (c_isSheet ?_)
      rw [inS]
      refine k1 (c_in ?_)
      rw [xin]
      refine n1 ⟨hv, ?_⟩
      rw [hx, nI_3, show (mset Mm 0 0 0).1 1 s = Mm.1 1 s from rfl, show (mset Mm 0 0 0).1 2 s = nI z from e1]
      exact ⟨fun _ => ⟨hq.1, fun c4 => ⟨hv, hq.2 c4⟩⟩, fun c4 => absurd lane0 c4⟩
    have fnd : ∀ M1 : Mem, M1 = mset Mc 0 12 2 → Ci shM G2 mX12_finding 1 [.ref (G2.2.1 0), .int 2] (mset Mm 0 0 0) (fun x3 M3 => (-1000010 - 2 : Int32) = x3 ∧ RR M1 M3) := by
      rintro M1 rfl
      exact wp_X12_finding ⟨rfl, ⟨rfl, hR.1.2⟩, hR.2⟩
    rw [nI_3]
    refine wp_X9_holds ⟨fun c4 => n0 (wp_X11_finding (hm ⟨fun _ => fnd _ rfl, fun c5 => absurd c4 c5⟩)), fun c4 => ⟨fun c5 => absurd c5 (nI_pos (by omega)), fun c5 => ⟨hv, ?_⟩⟩⟩
    obtain ⟨i, hi, rfl⟩ := nI_of c4
    rw [hx, e2]
    have ss := nI_subI (a := z) (b := 3 * n) (by omega) (by omega)
    have s64 : (Int32.toInt64 (nI i) + Int32.toInt64 (nI (3 * n)) ≤ Int32.toInt64 (nI z)) ↔ i + 3 * n ≤ z := by
      rw [Int64.le_iff_toInt_le, toInt64_add, nI_toInt hi, nI_toInt (by omega), Int32.toInt_toInt64, nI_toInt (by omega)]
      omega
    refine ⟨fun c6 => n0 (wp_X11_finding (hm ⟨fun c7 => absurd c7 c4, fun _ => ⟨fun c7 => ?_, fun _ => fnd _ rfl⟩⟩)), fun c6 => n1 ?_⟩
    · exfalso
      rw [s64] at c7
      rw [ltI, ss, nI_toInt hi] at c6
      omega
    · rw [ltI, ss, nI_toInt hi] at c6
      have hfit : i + 3 * n ≤ z := by omega
      refine c_walksC (it := fun j => Mm.1 3 (60 * s + i + j)) hW hT hs (by omega) n20 (fun j hj => ?_) (fun hb f => hm ⟨fun c7 => absurd c7 c4, fun _ => ⟨fun _ => ?_, fun c7 => absurd (s64.mpr hfit) c7⟩⟩) (fun hg f => hm ⟨fun c7 => absurd c7 c4, fun _ => ⟨fun _ => ?_, fun c7 => absurd (s64.mpr hfit) c7⟩⟩)
      · rw [e5 (i + j) (by omega), Nat.add_assoc]
      · rw [nI_60']
        refine c_walksM (M := mset Mm 0 0 0) (it := fun j => Mm.1 3 (60 * s + i + j)) hW hs (by omega) n20 (fun j hj => rfl) (fun _ => ⟨rfl, RR_sc hR rfl rfl⟩) (fun hg => ?_)
        obtain ⟨a, ha, hna⟩ := hb
        exact absurd (hg a ha) hna
      · rw [nI_60']
        refine c_walksM (M := mset Mm 0 0 0) (it := fun j => Mm.1 3 (60 * s + i + j)) hW hs (by omega) n20 (fun j hj => rfl) (fun hb => ?_) (fun _ => ⟨rfl, ⟨rfl, hR.1.2⟩, hR.2⟩)
        obtain ⟨a, ha, hna⟩ := hb
        exact absurd (hg a ha) hna
  · rw [hx] at c3
    obtain ⟨e1, e2⟩ | ⟨z, hz, e1, e2, e3, e4, e5⟩ := hR.2.1 s hs
    · refine wp_X11_finding (wp_X12_walks (c_isSheet ?_))
      rw [inS]
      refine k1 (c_in ?_)
      rw [xin]
      refine n1 ⟨hv, fun c4 => absurd c4 ?_, fun c4 => wp_X12_finding ⟨rfl, ⟨rfl, hR.1.2⟩, hR.2⟩⟩
      show ¬ (0 : Int32) ≤ Mm.1 1 (ix (nI s))
      rw [hx, e1]; decide
    · exact absurd (e2.symm.trans c3) (nI_none (by omega) (by decide))
