/-! quarrels -/
def keyC (c : Nat → Nat → Int32) (j i : Nat) : Bool := decide (c 20 j = c 20 i ∧ c 21 j = c 21 i ∧ c 22 j = c 22 i)
def keyM (d : Nat → Nat → Int32) (a b : Nat) : Bool := decide (d 15 a = d 15 b ∧ d 16 a = d 16 b ∧ d 17 a = d 17 b)
theorem c_quE {G : GV} {k i : Nat} {M : Mem} {q : Int32 → Mem → Prop} (hi : i < 20) (h : q (b01 (anyB (fun j => keyC M.1 j i) i)) M) : Ci shC G mX6_quarrelsWithEarlier k [.ref (G.2.1 4), .int (nI i)] M q := by
  have loop : ∀ m j, j + m = i → (∀ j', j' < j → keyC M.1 j' i = false) → V shC G mX6_quarrelsWithEarlier k 2 [(0, .ref (G.2.1 4)), (1, .int (nI i)), (2, .int (nI j))] [] M (Qi q) := by
    intro m
    induction m with
    | zero =>
      intro j hj hno
      obtain rfl : j = i := by omega
      rw [b01_f (anyB_no hno)] at h
      exact wp_X6_quarrelsWithEarlier_2 ⟨fun _ => h, fun c => absurd (nI_le (Nat.le_refl j) (by omega)) c⟩
    | succ m ih =>
      intro j hj hno
      have hvj : vp_in (nI j) 20 := vp_in_nI (by omega) (by decide)
      have hvi : vp_in (nI i) 20 := vp_in_nI (by omega) (by decide)
      have nx : keyC M.1 j i = false → V shC G mX6_quarrelsWithEarlier k 2 [(0, .ref (G.2.1 4)), (1, .int (nI i)), (2, .int (nI (j + 1)))] [] M (Qi q) := fun hk => ih (j + 1) (by omega) (fun j' hj' => by
        rcases Nat.lt_or_ge j' j with h1 | h1
        · exact hno j' h1
        · obtain rfl : j' = j := by omega
          exact hk)
      refine wp_X6_quarrelsWithEarlier_2 ⟨fun c => absurd c (nI_ge (by omega) (by omega)), fun _ => ⟨hvj, hvi, ?_⟩⟩
      rw [ix_nI (show j < 2 ^ 31 by omega), ix_nI (show i < 2 ^ 31 by omega), nI_1]
      refine ⟨fun c => nx ?_, fun c => ⟨hvj, hvi, fun c2 => nx ?_, fun c2 => ⟨hvj, hvi, fun c3 => nx ?_, fun c3 => ?_⟩⟩⟩
      · exact decide_eq_false (fun e => c e.1)
      · exact decide_eq_false (fun e => c2 e.2.1)
      · exact decide_eq_false (fun e => c3 e.2.2)
      · rw [b01_t (anyB_yes (j := j) (by omega) (decide_eq_true ⟨c, c2, c3⟩))] at h
        exact h
  exact wp_X6_quarrelsWithEarlier (loop i 0 (by omega) (fun j' h' => absurd h' (Nat.not_lt_zero _)))
theorem c_quC {G : GV} {k n : Nat} {M : Mem} {q : Int32 → Mem → Prop} (hn : n ≤ 20) (e4 : M.1 4 4 = nI n) (h : q (nI (cntB (fun i => anyB (fun j => keyC M.1 j i) i) n)) M) : Ci shC G mX6_countQuarrels (k + 1) [.ref (G.2.1 4)] M q := by
  have loop : ∀ m i, i + m = n → V shC G mX6_countQuarrels (k + 1) 4 [(0, .ref (G.2.1 4)), (1, .int (nI (cntB (fun i => anyB (fun j => keyC M.1 j i) i) i))), (2, .int (nI i))] [] M (Qi q) := by
    intro m
    induction m with
    | zero =>
      intro i hi
      obtain rfl : i = n := by omega
      exact wp_X6_countQuarrels_4 ⟨fun _ => h, fun c => absurd (by rw [e4]; exact nI_le (Nat.le_refl _) (by omega)) c⟩
    | succ m ih =>
      intro i hi
      refine wp_X6_countQuarrels_4 ⟨fun c => absurd c (by rw [e4]; exact nI_ge (by omega) (by omega)), fun _ => c_quE (by omega) ?_⟩
      have l1 := ih (i + 1) (by omega)
      rw [nI_1]
      cases hb : anyB (fun j => keyC M.1 j i) i with
      | false => rw [cntB_f (p := fun i => anyB (fun j => keyC M.1 j i) i) hb] at l1; exact k0 l1
      | true => rw [cntB_t (p := fun i => anyB (fun j => keyC M.1 j i) i) hb, ← nI_1] at l1; exact k1 l1
  refine wp_X6_countQuarrels ?_
  rcases Nat.eq_zero_or_pos n with h0 | h0
  · subst h0
    exact wp_X6_countQuarrels_4 ⟨fun _ => h, fun c => absurd (by rw [e4]; decide) c⟩
  · exact loop (n - 1) 1 (by omega)
theorem c_quM {G : GV} {k n : Nat} {M : Mem} {q : Int32 → Mem → Prop} (hn : n ≤ 20) (e18 : M.1 0 18 = nI n) (h : q (nI (cntB (fun a => anyB (fun b => keyM M.1 a b) a) n)) (mset M 0 0 0)) : Ci shM G mX12_quarrels k [.ref (G.2.1 0)] M q := by
  refine wp_X12_quarrels ?_
  obtain ⟨M0, hM0⟩ : ∃ M0, M0 = mset M 0 0 0 := ⟨_, rfl⟩
  have e18' : M0.1 0 18 = nI n := by rw [hM0]; exact e18
  have hk : ∀ a b, keyM M.1 a b = keyM M0.1 a b := fun a b => by rw [hM0]; rfl
  rw [show (fun a => anyB (fun b => keyM M.1 a b) a) = (fun a => anyB (fun b => keyM M0.1 a b) a) from by funext a; congr 1; funext b; exact hk a b] at h
  rw [← hM0] at h ⊢
  have loop : ∀ m i, i + m = n → V shM G mX12_quarrels k 9 [(0, .ref (G.2.1 0)), (1, .int (nI (cntB (fun a => anyB (fun b => keyM M0.1 a b) a) i))), (2, .int (nI i))] [] M0 (Qi q) := by
    intro m
    induction m with
    | zero =>
      intro i hi
      obtain rfl : i = n := by omega
      exact wp_X12_quarrels_9 ⟨fun _ => h, fun c => absurd (by rw [e18']; exact nI_le (Nat.le_refl _) (by omega)) c⟩
    | succ m ih =>
      intro i hi
      have l1 := ih (i + 1) (by omega)
      have inner : ∀ m2 j, j + m2 = i → V shM G mX12_quarrels k 22 [(0, .ref (G.2.1 0)), (1, .int (nI (cntB (fun a => anyB (fun b => keyM M0.1 a b) a) i))), (2, .int (nI i)), (3, .int (b01 (anyB (fun b => keyM M0.1 i b) j))), (4, .int (nI j))] [] M0 (Qi q) := by
        intro m2
        induction m2 with
        | zero =>
          intro j hj
          obtain rfl : j = i := by omega
          refine wp_X12_quarrels_22 ⟨fun _ => ?_, fun c => absurd (nI_le (Nat.le_refl _) (by omega)) c⟩
          rw [nI_1, Int32.add_zero]
          cases hb : anyB (fun b => keyM M0.1 j b) j with
          | false => rw [cntB_f (p := fun a => anyB (fun b => keyM M0.1 a b) a) hb] at l1; exact k0 l1
          | true => rw [cntB_t (p := fun a => anyB (fun b => keyM M0.1 a b) a) hb, ← nI_1] at l1; exact k1 l1
        | succ m2 ih2 =>
          intro j hj
          have hvj : vp_in (nI j) 20 := vp_in_nI (by omega) (by decide)
          have hvi : vp_in (nI i) 20 := vp_in_nI (by omega) (by decide)
          have l2 := ih2 (j + 1) (by omega)
          rw [anyB] at l2
          refine wp_X12_quarrels_22 ⟨fun c => absurd c (nI_ge (by omega) (by omega)), fun _ => ?_⟩
          rw [ix_nI (show j < 2 ^ 31 by omega), ix_nI (show i < 2 ^ 31 by omega), nI_1]
          cases hb : anyB (fun b => keyM M0.1 i b) j with
          | true => rw [hb] at l2; exact n1 l2
          | false =>
            rw [hb, Bool.false_or] at l2
            refine n0 ⟨hvi, hvj, fun c => ?_, fun c => ⟨hvi, hvj, fun c2 => ?_, fun c2 => ⟨hvi, hvj, fun c3 => ?_, fun c3 => ?_⟩⟩⟩
            · rw [show keyM M0.1 i j = false from decide_eq_false (fun e => c e.1)] at l2; exact l2
            · rw [show keyM M0.1 i j = false from decide_eq_false (fun e => c2 e.2.1)] at l2; exact l2
            · rw [show keyM M0.1 i j = false from decide_eq_false (fun e => c3 e.2.2)] at l2; exact l2
            · rw [show keyM M0.1 i j = true from decide_eq_true ⟨c, c2, c3⟩] at l2; exact l2
      exact wp_X12_quarrels_9 ⟨fun c => absurd c (by rw [e18']; exact nI_ge (by omega) (by omega)), fun _ => inner i 0 (by omega)⟩
  exact loop n 0 (by omega)
theorem qu_eq {c d : Nat → Nat → Int32} (hT : TieC c d) : cntB (fun i => anyB (fun j => keyC c j i) i) (ix (d 0 18)) = cntB (fun a => anyB (fun b => keyM d a b) a) (ix (d 0 18)) := by
  have hlen := len_ordS d
  have hpw : (ordS d).Pairwise (RO (d 15)) := pw_srtO _ _
  have step : ∀ i, i < ix (d 0 18) → anyB (fun j => keyC c j i) i = anyB (fun b => keyM d ((ordS d).getD i 0) b) ((ordS d).getD i 0) := by
    intro i hi
    have hil : i < (ordS d).length := by omega
    have ti := hT.2.2.2.2.1 i hi
    rw [Bool.eq_iff_iff, anyB_iff, anyB_iff]
    constructor
    · rintro ⟨j, hj, hk⟩
      have tj := hT.2.2.2.2.1 j (by omega)
      have hjl : j < (ordS d).length := by omega
      obtain ⟨k1, k2, k3⟩ := of_decide_eq_true hk
      rw [tj.1, ti.1] at k1
      rw [tj.2.1, ti.2.1] at k2
      rw [tj.2.2.1, ti.2.2.1] at k3
      refine ⟨(ordS d).getD j 0, ?_, decide_eq_true ⟨k1.symm, k2.symm, k3.symm⟩⟩
      have r := List.pairwise_iff_getElem.mp hpw j i hjl hil hj
      rw [getD_get hil, getD_get hjl] at *
      unfold RO at r
      rw [k1] at r
      omega
    · rintro ⟨b, hb, hk⟩
      obtain ⟨k1, k2, k3⟩ := of_decide_eq_true hk
      have hbm : b ∈ ordS d := by
        rw [ordS, mem_srtO]
        have : (ordS d).getD i 0 ∈ ordS d := by rw [getD_get hil]; exact List.getElem_mem hil
        rw [ordS, mem_srtO] at this
        rw [ordS] at hb
        omega
      obtain ⟨j, hjl, hjb⟩ := List.getElem_of_mem hbm
      have tj := hT.2.2.2.2.1 j (by omega)
      rw [getD_get hjl, hjb] at tj
      refine ⟨j, ?_, decide_eq_true ⟨by rw [tj.1, ti.1, k1], by rw [tj.2.1, ti.2.1, k2], by rw [tj.2.2.1, ti.2.2.1, k3]⟩⟩
      rcases Nat.lt_trichotomy j i with h | h | h
      · exact h
      · subst h
        rw [getD_get hil, hjb] at hb
        omega
      · have r := List.pairwise_iff_getElem.mp hpw i j hil hjl h
        rw [getD_get hil] at hb k1
        rw [hjb] at r
        unfold RO at r
        rw [k1] at r
        omega
  rw [cntB_congr step, cntB_list (fun a => anyB (fun b => keyM d a b) a) (ordS d) _ (by omega), ← hlen, List.take_length, hlen, cntB_range]
  exact (perm_srtO _ _).countP_eq _
theorem st_quarrels : St_quarrels RR := by
  intro G1 G2 Mc Mm hR
  obtain ⟨hW, hT⟩ := hR.2.2.2.2.1
  obtain ⟨e0, hn⟩ := WF_O hW
  refine wp_X11_quarrels (c_quC hn (Eq.trans hT.1.2.2.1 e0) (c_quM hn e0 ⟨congrArg nI ?_, RR_thrown hR⟩))
  exact qu_eq hT
