/-! the model's tables of persons -/
theorem updL_at (f : Nat → Int64) (i : Nat) (x : Int64) : vp_updL f i x i = x := by simp [vp_updL]
theorem updL_ne (f : Nat → Int64) {i j : Nat} (x : Int64) (h : j ≠ i) : vp_updL f i x j = f j := by simp [vp_updL, h]
theorem updL_updL (f : Nat → Int64) (i : Nat) (x y : Int64) : vp_updL (vp_updL f i x) i y = vp_updL f i y := by
  funext j
  by_cases h : j = i
  · rw [h, updL_at, updL_at]
  · rw [updL_ne _ _ h, updL_ne _ _ h, updL_ne _ _ h]
theorem updL_self (f : Nat → Int64) (i : Nat) : vp_updL f i (f i) = f := by
  funext j
  by_cases e : j = i
  · rw [e, updL_at]
  · rw [updL_ne _ _ e]
def Um (M : Mem) (a g : Nat → Int32) (w : Nat → Int64) : Mem := (fun k => if k = 26 then a else if k = 27 then g else M.1 k, fun k => if k = 28 then w else M.2 k)
section
variable {M : Mem} {a g : Nat → Int32} {w : Nat → Int64} {j : Nat}
theorem Um_26 {v : Int32} : mset (Um M a g w) 26 j v = Um M (upd a j v) g w := by
  simp only [Um, mset]
  congr 1
  funext k
  by_cases h1 : k = 26
  · subst h1; rfl
  · simp [h1]
theorem Um_27 {v : Int32} : mset (Um M a g w) 27 j v = Um M a (upd g j v) w := by
  simp only [Um, mset]
  congr 1
  funext k
  by_cases h1 : k = 27
  · subst h1; rfl
  · simp [h1]
theorem Um_28 {v : Int64} : lset (Um M a g w) 28 j v = Um M a g (vp_updL w j v) := by
  simp only [Um, lset]
  congr 1
  funext k
  by_cases h1 : k = 28
  · subst h1; rfl
  · simp [h1]
theorem Um_a : (Um M a g w).1 26 = a := rfl
theorem Um_g : (Um M a g w).1 27 = g := rfl
theorem Um_w : (Um M a g w).2 28 = w := rfl
theorem Um_self : Um M (M.1 26) (M.1 27) (M.2 28) = M := by
  obtain ⟨m1, m2⟩ := M
  simp only [Um]
  congr 1
  · funext k
    by_cases h1 : k = 26
    · subst h1; rfl
    · by_cases h2 : k = 27
      · subst h2; rfl
      · simp [h1, h2]
  · funext k
    by_cases h1 : k = 28
    · subst h1; rfl
    · simp [h1]
end
/-- the fewest and the ways, or that there is no way -/
def RTm (may : Nat → Nat → Bool) (bo s f w : Nat) : Prop := RT may bo s f w ∨ (f = 1000 ∧ w = 0 ∧ ∀ k, cntP may bo k s = 0)
theorem RTm_le {may : Nat → Nat → Bool} {bo s f w : Nat} (h : RTm may bo s f w) (hs : s < 4096) : f ≤ 1000 := by
  rcases h with h | h
  · have := RT_le h hs; omega
  · omega
def TbM (may : Nat → Nat → Bool) (bo s : Nat) (fw wy : Nat → Nat) (a g : Nat → Int32) (w : Nat → Int64) : Prop := ∀ t, t < s → RTm may bo t (fw t) (wy t) ∧ g t = nI (fw t) ∧ w t = lN (wy t) ∧ a t = b01 (clqB may t)
theorem c_lowest {G : GV} {k s : Nat} {M : Mem} {q : Int32 → Mem → Prop} (h0 : s ≠ 0) (hs : s < 4096) (h : q (nI (lowN s)) M) : Ci shM G mX12_lowest k [.int (nI s)] M q := by
  obtain ⟨l1, l2, l3⟩ := low_spec h0 hs
  have loop : ∀ m i, i + m = lowN s → V shM G mX12_lowest k 2 [(0, .int (nI s)), (1, .int (nI i))] [] M (Qi q) := by
    intro m
    induction m with
    | zero =>
      intro i hi
      obtain rfl : i = lowN s := by omega
      refine wp_X12_lowest_2 ⟨fun _ => h, fun c => ?_⟩
      rw [bit0 _ (by omega), b_nI _ (by omega), l1] at c; cases c
    | succ m ih =>
      intro i hi
      refine wp_X12_lowest_2 ⟨fun c => absurd ?_ c, fun _ => ?_⟩
      · rw [bit0 _ (by omega), b_nI _ (by omega)]; exact l3 i (by omega)
      · rw [nI_1]; exact ih (i + 1) (by omega)
  exact wp_X12_lowest (loop (lowN s) 0 (by omega))
/-- one part more -/
theorem c_253 {G : GV} {k : Nat} {M : Mem} {a g : Nat → Int32} {w : Nat → Int64} {q : Mem → Prop} {v1 v2 v3 v5 v6 v8 : Int32} {v s t b c fr wr : Nat} {cl : Bool} (hs : s < 4096) (ht : t < 4096) (hv : v < 4096) (hne : dif s t ≠ s) (ea : a t = b01 cl) (e1 : g (dif s t) = nI fr) (e2 : w (dif s t) = lN wr) (hfr : fr ≤ 1000) (e3 : g s = nI b) (hb : b ≤ 1000) (e4 : w s = lN c)
    (nx : ∀ b' c', ((cl = false ∧ b' = b ∧ c' = c) ∨ (cl = true ∧ fr + 1 < b ∧ b' = fr + 1 ∧ c' = wr) ∨ (cl = true ∧ fr + 1 = b ∧ b' = b ∧ c' = c + wr) ∨ (cl = true ∧ b < fr + 1 ∧ b' = b ∧ c' = c)) → ((nI v = 0 → V shM G mX12_partAll (k + 4) 212 [(0, .ref (G.2.1 0)), (1, .int v1), (2, .int v2), (3, .int v3), (4, .int (nI s)), (5, .int v5), (6, .int v6), (7, .int ((nI v - 1) &&& v6)), (8, .int 0)] [] (Um M a (upd g s (nI b')) (vp_updL w s (lN c'))) (Qv q)) ∧ (¬ nI v = 0 → V shM G mX12_partAll (k + 4) 212 [(0, .ref (G.2.1 0)), (1, .int v1), (2, .int v2), (3, .int v3), (4, .int (nI s)), (5, .int v5), (6, .int v6), (7, .int ((nI v - 1) &&& v6)), (8, .int 1)] [] (Um M a (upd g s (nI b')) (vp_updL w s (lN c'))) (Qv q)))) :
    V shM G mX12_partAll (k + 4) 253 [(0, .ref (G.2.1 0)), (1, .int v1), (2, .int v2), (3, .int v3), (4, .int (nI s)), (5, .int v5), (6, .int v6), (7, .int (nI v)), (8, .int v8), (9, .int (nI t)), (10, .int (nI (dif s t)))] [] (Um M a g w) (Qv q) := by
  have hd : dif s t < 4096 := Nat.lt_of_le_of_lt (dif_le s t) hs
  have vs : vp_in (nI s) 4096 := vp_in_nI hs (by decide)
  have vt : vp_in (nI t) 4096 := vp_in_nI ht (by decide)
  have vd : vp_in (nI (dif s t)) 4096 := vp_in_nI hd (by decide)
  have sg : upd g s (nI b) = g := upd_self g e3
  have sw : vp_updL w s (lN c) = w := by rw [← e4]; exact updL_self w s
  refine wp_X12_partAll_253 ⟨vt, ?_⟩
  rw [ix_nI (show s < 2 ^ 31 by omega), ix_nI (show t < 2 ^ 31 by omega), ix_nI (show dif s t < 2 ^ 31 by omega)]
  simp only [Um_28, Um_27, Um_a, Um_g, Um_w]
  rw [ea, e1, nI_1 fr, e2, e3, e4, lN_add]
  cases cl with
  | false =>
    have h5 := nx b c (Or.inl ⟨rfl, rfl, rfl⟩)
    rw [sg, sw] at h5
    exact k0 h5
  | true =>
    refine k1 ⟨vd, vs, fun c1 => ⟨vs, fun c2 => ⟨vs, vs, vs, fun _ => ⟨vs, vs, ?_⟩, fun c3 => absurd c1 c3⟩, fun c2 => ⟨vs, vd, vs, vs, fun _ => ⟨vs, vs, ?_⟩, fun c3 => absurd c1 c3⟩⟩, fun c1 => ⟨vd, vs, vs, fun c2 => absurd c2 c1, fun _ => ⟨vs, ?_⟩⟩⟩
    · have a1 := (nI_leI (by omega) (by omega)).mp c1
      have a2 : fr + 1 ≠ b := fun e => c2 (by rw [e])
      exact nx b c (Or.inr (Or.inr (Or.inr ⟨rfl, by omega, rfl, rfl⟩)))
    · have a2 : fr + 1 = b := (nI_eq (by omega) (by omega)).mp c2
      exact nx b (c + wr) (Or.inr (Or.inr (Or.inl ⟨rfl, a2, rfl, rfl⟩)))
    · have a1 : ¬ b ≤ fr + 1 := fun e => c1 (nI_le e (by omega))
      exact nx (fr + 1) wr (Or.inr (Or.inl ⟨rfl, by omega, rfl, rfl⟩))
theorem Inv_z {may : Nat → Nat → Bool} {bo s : Nat} {D D' : Nat → Bool} {t0 b c : Nat} (ht : t0 < 4096) (h0 : D t0 = false) (h : ∀ t, t < 4096 → D' t = (D t || decide (t = t0))) (hI : InvP may bo s D b c) (hz : ∀ k, cntP may bo k (dif s t0) = 0) : InvP may bo s D' b c := ⟨hI.1, fun k hk => by rw [CD_add ht h0 h, hI.2.1 k hk, hz], by rw [CD_add ht h0 h, hI.2.2, hz]; rfl⟩
/-- the masks of the model, where each may be itself -/
def MkM (may : Nat → Nat → Bool) (n : Nat) (f : Nat → Int32) : Prop := ∀ l, l < n → ∀ j, j < 32 → bt (f l) j = (decide (j < n) && (decide (l = j) || may l j))
theorem c_set {G : GV} {k n s bo : Nat} {M : Mem} {a g : Nat → Int32} {w : Nat → Int64} {may : Nat → Nat → Bool} {fw wy : Nat → Nat} {q : Mem → Prop} {v1 v2 : Int32} (hn : n ≤ 12) (e0 : M.1 0 10 = nI n) (h0 : s ≠ 0) (hs : s < 2 ^ n) (hbo : bo < 4096) (hm : MkM may n (M.1 25)) (ht : TbM may bo s fw wy a g w)
    (hq : ∀ b c, RTm may bo s b c → V shM G mX12_partAll (k + 4) 121 [(0, .ref (G.2.1 0)), (1, .int v1), (2, .int v2), (3, .int (nI bo)), (4, .int (nI (s + 1)))] [] (Um M (upd a s (b01 (clqB may s))) (upd g s (nI b)) (vp_updL w s (lN c))) (Qv q)) :
    V shM G mX12_partAll (k + 4) 121 [(0, .ref (G.2.1 0)), (1, .int v1), (2, .int v2), (3, .int (nI bo)), (4, .int (nI s))] [] (Um M a g w) (Qv q) := by
  have hs4 : s < 4096 := Nat.lt_of_lt_of_le hs (pow12 hn)
  have h4n := pow12 hn
  obtain ⟨l1, l2, l3⟩ := low_spec h0 hs4
  have hln : lowN s < n := by
    rcases Nat.lt_or_ge (lowN s) n with h5 | h5
    · exact h5
    · rw [Nat.testBit_lt_two_pow (Nat.lt_of_lt_of_le hs (Nat.pow_le_pow_right (by decide) h5))] at l1; cases l1
  have vs : vp_in (nI s) 4096 := vp_in_nI hs4 (by decide)
  obtain ⟨m, hm1, hm2, hm3⟩ := msk_nat hn (hm (lowN s) hln)
  have hr := rs_lt h0 hs4
  have hr4 : rsN s < 4096 := by omega
  obtain ⟨rt, rg, rw', ra⟩ := ht (rsN s) hr
  have more : ∀ t, okpB may bo s t = true → dif t (2 ^ lowN s) &&& rsN s = dif t (2 ^ lowN s) ∧ t = dif t (2 ^ lowN s) ||| 2 ^ lowN s := by
    intro t hok
    obtain ⟨a1, a2, a3, _⟩ := okp_iff.mp hok
    refine ⟨sub_iff.mpr (fun i hi => ?_), ?_⟩
    · rw [tb_dif, Nat.testBit_two_pow, Bool.and_eq_true, Bool.not_eq_true', decide_eq_false_iff_not] at hi
      rw [tb_rs, sub_iff.mp a1 i hi.1, decide_eq_true (Ne.symm hi.2)]; rfl
    · apply Nat.eq_of_testBit_eq
      intro i
      rw [Nat.or_comm, or_low, tb_dif, Nat.testBit_two_pow]
      by_cases e : i = lowN s
      · subst e; rw [a2]; simp
      · simp [e, Ne.symm e]
  have dif_or : ∀ v, v &&& rsN s = v → dif (v ||| 2 ^ lowN s) (2 ^ lowN s) = v := by
    intro v hv
    apply Nat.eq_of_testBit_eq
    intro i
    rw [tb_dif, Nat.or_comm, or_low, Nat.testBit_two_pow]
    by_cases e : i = lowN s
    · subst e
      have : v.testBit (lowN s) = false := by
        cases e2 : v.testBit (lowN s) with
        | false => rfl
        | true =>
          have := (rs_low h0 hs4 (sub_iff.mp hv _ e2)).1
          omega
      rw [this]; simp
    · simp [e, Ne.symm e]
  -- the end: all are done
  have fin : ∀ v7 b c, InvP may bo s (okpB may bo s) b c → (c = 0 → b = 1000) → V shM G mX12_partAll (k + 4) 212 [(0, .ref (G.2.1 0)), (1, .int v1), (2, .int v2), (3, .int (nI bo)), (4, .int (nI s)), (5, .int (nI (lowN s))), (6, .int (nI (rsN s))), (7, .int v7), (8, .int 0)] [] (Um M (upd a s (b01 (clqB may s))) (upd g s (nI b)) (vp_updL w s (lN c))) (Qv q) := by
    intro v7 b c hI hc
    refine wp_X12_partAll_212 ⟨fun _ => ?_, fun c5 => absurd rfl c5⟩
    rw [nI_1 s]
    refine hq b c ?_
    by_cases h5 : c = 0
    · refine Or.inr ⟨hc h5, h5, fun k => ?_⟩
      rcases Nat.lt_or_ge 12 k with h6 | h6
      · apply Classical.byContradiction
        intro h7
        have := cnt_bound k 0 s (by omega) hs4 (fun i hi => absurd hi (Nat.not_lt_zero _)) h7
        omega
      · cases k with
        | zero => exact cnt_0 h0
        | succ k =>
          rw [cnt_s h0]
          have := hI.2.1 k (by rw [hc h5]; omega)
          exact this
    · exact Or.inl (Inv_RT h0 (fun t _ => rfl) hI (by omega))
  have loop : ∀ N v b c, v ≤ N → v &&& rsN s = v → InvP may bo s (fun t => okpB may bo s t && decide (v < dif t (2 ^ lowN s))) b c → (c = 0 → b = 1000) → b ≤ 1000 → V shM G mX12_partAll (k + 4) 212 [(0, .ref (G.2.1 0)), (1, .int v1), (2, .int v2), (3, .int (nI bo)), (4, .int (nI s)), (5, .int (nI (lowN s))), (6, .int (nI (rsN s))), (7, .int (nI v)), (8, .int 1)] [] (Um M (upd a s (b01 (clqB may s))) (upd g s (nI b)) (vp_updL w s (lN c))) (Qv q) := by
    intro N
    induction N with
    | zero | succ N ih =>
      intro v b c hv hvf hI hc hb
      have hv4 : v < 4096 := sub_lt hvf hr4
      obtain ⟨t0, ht0⟩ : ∃ t0, t0 = v ||| 2 ^ lowN s := ⟨_, rfl⟩
      have bits0 : ∀ i, t0.testBit i = (decide (i = lowN s) || v.testBit i) := fun i => by rw [ht0, Nat.or_comm, or_low]
      have sub0 : t0 &&& s = t0 := sub_iff.mpr (fun i hi => by
        rw [bits0, Bool.or_eq_true, decide_eq_true_iff] at hi
        rcases hi with e | e
        · rw [e]; exact l1
        · exact (rs_low h0 hs4 (sub_iff.mp hvf i e)).2.2)
      have low0 : t0.testBit (lowN s) = true := by rw [bits0, decide_eq_true rfl]; rfl
      have t04 : t0 < 4096 := sub_lt sub0 hs4
      have hdl : dif s t0 < s := dif_lt l1 low0
      obtain ⟨dt, dg, dw, _⟩ := ht (dif s t0) hdl
      have dle := RTm_le dt (by omega)
      have dm : dif t0 (2 ^ lowN s) = v := by rw [ht0]; exact dif_or v hvf
      have at0 : upd a s (b01 (clqB may s)) t0 = b01 (clqB may t0) := by
        by_cases e : t0 = s
        · rw [e, upd_at]
        · rw [upd_ne _ _ e]
          exact (ht t0 (Nat.lt_of_le_of_ne (sub_le sub0) e)).2.2.2
      -- the sets that are done behind this one
      have stp : ∀ t, okpB may bo s t = true → t ≠ t0 → (((v - 1) &&& rsN s < dif t (2 ^ lowN s)) ↔ v < dif t (2 ^ lowN s)) ∨ v = 0 := by
        intro t hok e
        by_cases hv0 : v = 0
        · exact Or.inr hv0
        left
        obtain ⟨m1, m2⟩ := more t hok
        have hne : dif t (2 ^ lowN s) ≠ v := fun e2 => by
          rw [e2, ← ht0] at m2
          exact e m2
        have b1 := below_lt (v := v) (f := rsN s) (by omega)
        constructor
        · intro h5
          rcases Nat.lt_or_ge v (dif t (2 ^ lowN s)) with h6 | h6
          · exact h6
          · have := below v v (rsN s) _ (Nat.le_refl _) hvf m1 (by omega)
            omega
        · intro h5; omega
      have D0 : (okpB may bo s t0 && decide (v < dif t0 (2 ^ lowN s))) = false := by
        rw [dm, decide_eq_false (Nat.lt_irrefl v), Bool.and_false]
      -- goes on, or ends
      have nxt : ∀ b' c', (InvP may bo s (fun t => (okpB may bo s t && decide (v < dif t (2 ^ lowN s))) || (okpB may bo s t0 && decide (t = t0))) b' c') → (c' = 0 → b' = 1000) → b' ≤ 1000 → ((nI v = 0 → V shM G mX12_partAll (k + 4) 212 [(0, .ref (G.2.1 0)), (1, .int v1), (2, .int v2), (3, .int (nI bo)), (4, .int (nI s)), (5, .int (nI (lowN s))), (6, .int (nI (rsN s))), (7, .int ((nI v - 1) &&& nI (rsN s))), (8, .int 0)] [] (Um M (upd a s (b01 (clqB may s))) (upd g s (nI b')) (vp_updL w s (lN c'))) (Qv q)) ∧ (¬ nI v = 0 → V shM G mX12_partAll (k + 4) 212 [(0, .ref (G.2.1 0)), (1, .int v1), (2, .int v2), (3, .int (nI bo)), (4, .int (nI s)), (5, .int (nI (lowN s))), (6, .int (nI (rsN s))), (7, .int ((nI v - 1) &&& nI (rsN s))), (8, .int 1)] [] (Um M (upd a s (b01 (clqB may s))) (upd g s (nI b')) (vp_updL w s (lN c'))) (Qv q))) := by
        intro b' c' i1 i2 i3
        refine ⟨fun c5 => fin _ b' c' (Inv_same (fun t ht4 => ?_) i1) i2, fun c5 => ?_⟩
        · have hv0 : v = 0 := (nI_eq (b := 0) (by omega) (by omega)).mp c5
          cases hok : okpB may bo s t with
          | false =>
            rw [Bool.false_and, Bool.false_or]
            by_cases e : t = t0
            · rw [← e, hok]; rfl
            · rw [decide_eq_false e, Bool.and_false]
          | true =>
            by_cases e : t = t0
            · rw [← e, hok, decide_eq_true rfl]; simp
            · have : v < dif t (2 ^ lowN s) := by
                rw [hv0]
                refine Nat.pos_of_ne_zero (fun e2 => e ?_)
                have m2 := (more t hok).2
                rw [e2] at m2
                rw [m2, ht0, hv0]
              rw [decide_eq_true this]; simp
        · have hv0 : v ≠ 0 := fun e => c5 (by rw [e]; rfl)
          first
          | exact absurd (show v = 0 by omega) hv0
          | (rw [nI_s1 v (by omega), nx_and]
             refine ih _ b' c' (by have := below_lt (v := v) (f := rsN s) (by omega); omega) (below_sub v _) (Inv_same (fun t ht4 => ?_) i1) i2 i3
             cases hok : okpB may bo s t with
             | false =>
               rw [Bool.false_and, Bool.false_and, Bool.false_or]
               by_cases e : t = t0
               · rw [← e, hok]; rfl
               · rw [decide_eq_false e, Bool.and_false]
             | true =>
               by_cases e : t = t0
               · rw [← e, hok, decide_eq_true rfl, e, dm, decide_eq_true (below_lt (v := v) (f := rsN s) (by omega))]; simp
               · rw [decide_eq_false e, Bool.and_false, Bool.or_false, decide_eq_decide.mpr ((stp t hok e).resolve_right hv0)])
      have skip : okpB may bo s t0 = false → InvP may bo s (fun t => (okpB may bo s t && decide (v < dif t (2 ^ lowN s))) || (okpB may bo s t0 && decide (t = t0))) b c := fun hno => Inv_same (fun t ht4 => by rw [hno, Bool.false_and, Bool.or_false]) hI
      refine wp_X12_partAll_212 ⟨fun c5 => absurd c5 (by decide), fun _ => ?_⟩
      rw [sh_n (lowN s) (by omega), nx_or, ← ht0, nx_and, nx_dif, nx_and]
      have hb1 : t0 &&& bo < 4096 := Nat.lt_of_le_of_lt Nat.and_le_right hbo
      have hb2 : dif s t0 &&& bo < 4096 := Nat.lt_of_le_of_lt Nat.and_le_right hbo
      have part : ¬ (t0 &&& bo ≠ 0 ∧ dif s t0 &&& bo ≠ 0) → V shM G mX12_partAll (k + 4) 253 [(0, .ref (G.2.1 0)), (1, .int v1), (2, .int v2), (3, .int (nI bo)), (4, .int (nI s)), (5, .int (nI (lowN s))), (6, .int (nI (rsN s))), (7, .int (nI v)), (8, .int 1), (9, .int (nI t0)), (10, .int (nI (dif s t0)))] [] (Um M (upd a s (b01 (clqB may s))) (upd g s (nI b)) (vp_updL w s (lN c))) (Qv q) := by
        intro hcut
        refine c_253 (b := b) (c := c) (fr := fw (dif s t0)) (wr := wy (dif s t0)) hs4 t04 hv4 (by omega) at0 (by rw [upd_ne _ _ (by omega)]; exact dg) (by rw [updL_ne _ _ (by omega)]; exact dw) dle (upd_at _ _ _) hb (updL_at _ _ _) (fun b' c' hcase => ?_)
        rw [upd_upd, updL_updL]
        rcases hcase with ⟨h1, rfl, rfl⟩ | ⟨h1, h2, rfl, rfl⟩ | ⟨h1, h2, rfl, rfl⟩ | ⟨h1, h2, rfl, rfl⟩
        · refine nxt _ _ (skip ?_) hc hb
          cases h5 : okpB may bo s t0 with
          | false => rfl
          | true => rw [(okp_iff.mp h5).2.2.1] at h1; cases h1
        all_goals
          have hyes : okpB may bo s t0 = true := okp_iff.mpr ⟨sub0, low0, h1, hcut⟩
          have hD : ∀ t, t < 4096 → ((okpB may bo s t && decide (v < dif t (2 ^ lowN s))) || (okpB may bo s t0 && decide (t = t0))) = ((okpB may bo s t && decide (v < dif t (2 ^ lowN s))) || decide (t = t0)) := fun t _ => by rw [hyes, Bool.true_and]
        · rcases dt with dt | ⟨d1, d2, d3⟩
          · exact nxt _ _ (Inv_lt t04 D0 hD hI dt h2) (fun e => by have := dt.2.2; omega) (by omega)
          · omega
        · rcases dt with dt | ⟨d1, d2, d3⟩
          · exact nxt _ _ (Inv_eq t04 D0 hD hI dt h2) (fun e => by have := dt.2.2; omega) hb
          · omega
        · rcases dt with dt | ⟨d1, d2, d3⟩
          · exact nxt _ _ (Inv_gt t04 D0 hD hI dt h2) hc hb
          · exact nxt _ _ (Inv_z t04 D0 hD hI d3) hc hb
      refine ⟨fun c5 => part ?_, fun c5 => ⟨fun c6 => part ?_, fun c6 => ⟨vp_in_nI t04 (by decide), ?_⟩⟩⟩
      · rintro ⟨h5, _⟩
        exact h5 ((nI_eq (b := 0) (by omega) (by omega)).mp c5)
      · rintro ⟨_, h5⟩
        exact h5 ((nI_eq (b := 0) (by omega) (by omega)).mp c6)
      · have hno : okpB may bo s t0 = false := by
          cases h5 : okpB may bo s t0 with
          | false => rfl
          | true => exact absurd ⟨fun e => c5 (by rw [e]; rfl), fun e => c6 (by rw [e]; rfl)⟩ (okp_iff.mp h5).2.2.2
        have h5 := nxt b c (skip hno) hc hb
        exact ⟨fun _ => h5, fun _ => h5⟩
  have start : V shM G mX12_partAll (k + 4) 212 [(0, .ref (G.2.1 0)), (1, .int v1), (2, .int v2), (3, .int (nI bo)), (4, .int (nI s)), (5, .int (nI (lowN s))), (6, .int (nI (rsN s))), (7, .int (nI (rsN s))), (8, .int 1)] [] (Um M (upd a s (b01 (clqB may s))) (upd g s (nI 1000)) (vp_updL w s (lN 0))) (Qv q) := by
    refine loop (rsN s) (rsN s) 1000 0 (Nat.le_refl _) (sub_iff.mpr (fun i hi => hi)) ?_ (fun _ => rfl) (Nat.le_refl _)
    have hI0 : InvP may bo s (fun _ => false) 1000 0 := ⟨by decide, fun k _ => sumB_0 (fun t _ => rfl), sumB_0 (fun t _ => rfl)⟩
    refine Inv_same (fun t ht4 => ?_) hI0
    cases hok : okpB may bo s t with
    | false => rfl
    | true =>
      have := sub_le (more t hok).1
      rw [decide_eq_false (by omega)]; rfl
  have hrm : dif (rsN s) m = 0 ↔ ∀ y, (rsN s).testBit y = true → may (lowN s) y = true := by
    rw [dif_0iff, sub_iff]
    constructor
    · intro h y hy
      have h5 := h y hy
      have h6 := (rs_low h0 hs4 hy).1
      rw [hm3, Bool.and_eq_true, Bool.or_eq_true, decide_eq_true_iff, decide_eq_true_iff] at h5
      rcases h5.2 with e | e
      · omega
      · exact e
    · intro h y hy
      obtain ⟨b3, b4, b1⟩ := rs_low h0 hs4 hy
      have b5 : y < n := by
        rcases Nat.lt_or_ge y n with h5 | h5
        · exact h5
        · rw [Nat.testBit_lt_two_pow (Nat.lt_of_lt_of_le hs (Nat.pow_le_pow_right (by decide) h5))] at b1; cases b1
      rw [hm3, decide_eq_true b5, h y hy]; simp
  refine wp_X12_partAll_121 ⟨fun c5 => ?_, fun _ => c_lowest h0 hs4 ?_⟩
  · exfalso
    rw [show (Um M a g w).1 0 10 = nI n from e0, sh_n n (by omega)] at c5
    exact nI_ge hs (by omega) c5
  · rw [sh_n (lowN s) (by omega), nx_dif, show dif s (2 ^ lowN s) = rsN s from rfl, ix_nI (show s < 2 ^ 31 by omega), ix_nI (show rsN s < 2 ^ 31 by omega), ix_nI (show lowN s < 2 ^ 31 by omega), show (Um M a g w).1 25 (lowN s) = nI m from hm2, nx_dif, Um_26, Um_26, Um_27, Um_27, Um_28, Um_28, Um_a, ra, nar0, nar1]
    have hd4 : dif (rsN s) m < 4096 := Nat.lt_of_le_of_lt (dif_le _ _) hr4
    have cf : clqB may s = false → V shM G mX12_partAll (k + 4) 212 [(0, .ref (G.2.1 0)), (1, .int v1), (2, .int v2), (3, .int (nI bo)), (4, .int (nI s)), (5, .int (nI (lowN s))), (6, .int (nI (rsN s))), (7, .int (nI (rsN s))), (8, .int 1)] [] (Um M (upd a s 0) (upd g s 1000) (vp_updL w s 0)) (Qv q) := fun e => by
      have h5 := start
      rw [e] at h5
      exact h5
    refine ⟨vp_in_nI hr4 (by decide), fun c5 => ⟨vs, vs, vs, cf ?_⟩, fun c5 => ⟨vp_in_nI l2 (by decide), fun c6 => ⟨vs, vs, vs, cf ?_⟩, fun c6 => ⟨vs, vs, vs, ?_⟩⟩⟩
    · cases e : clqB may s with
      | false => rfl
      | true =>
        rw [((clq_rec h0 hs4).mp e).1] at c5
        exact absurd c5 (by decide)
    · cases e : clqB may s with
      | false => rfl
      | true => exact absurd (by rw [hrm.mpr ((clq_rec h0 hs4).mp e).2]; rfl) c6
    · have e1 : clqB may (rsN s) = true := by
        cases e : clqB may (rsN s) with
        | true => rfl
        | false => rw [e] at c5; exact absurd rfl c5
      have e2 : clqB may s = true := (clq_rec h0 hs4).mpr ⟨e1, hrm.mp ((nI_eq (b := 0) (by omega) (by omega)).mp c6)⟩
      have h5 := start
      rw [e2] at h5
      exact h5
