/-! the class's tables of persons -/
def bcE (v0 : Int32) : Int32 := ((((((((v0 - (((Int32.toUInt32 v0 >>> (Int32.toUInt32 1 &&& Int32.toUInt32 31)).toInt32) &&& 1431655765)) &&& 858993459) + (((Int32.toUInt32 (v0 - (((Int32.toUInt32 v0 >>> (Int32.toUInt32 1 &&& Int32.toUInt32 31)).toInt32) &&& 1431655765)) >>> (Int32.toUInt32 2 &&& Int32.toUInt32 31)).toInt32) &&& 858993459)) + ((Int32.toUInt32 (((v0 - (((Int32.toUInt32 v0 >>> (Int32.toUInt32 1 &&& Int32.toUInt32 31)).toInt32) &&& 1431655765)) &&& 858993459) + (((Int32.toUInt32 (v0 - (((Int32.toUInt32 v0 >>> (Int32.toUInt32 1 &&& Int32.toUInt32 31)).toInt32) &&& 1431655765)) >>> (Int32.toUInt32 2 &&& Int32.toUInt32 31)).toInt32) &&& 858993459)) >>> (Int32.toUInt32 4 &&& Int32.toUInt32 31)).toInt32)) &&& 252645135) + ((Int32.toUInt32 (((((v0 - (((Int32.toUInt32 v0 >>> (Int32.toUInt32 1 &&& Int32.toUInt32 31)).toInt32) &&& 1431655765)) &&& 858993459) + (((Int32.toUInt32 (v0 - (((Int32.toUInt32 v0 >>> (Int32.toUInt32 1 &&& Int32.toUInt32 31)).toInt32) &&& 1431655765)) >>> (Int32.toUInt32 2 &&& Int32.toUInt32 31)).toInt32) &&& 858993459)) + ((Int32.toUInt32 (((v0 - (((Int32.toUInt32 v0 >>> (Int32.toUInt32 1 &&& Int32.toUInt32 31)).toInt32) &&& 1431655765)) &&& 858993459) + (((Int32.toUInt32 (v0 - (((Int32.toUInt32 v0 >>> (Int32.toUInt32 1 &&& Int32.toUInt32 31)).toInt32) &&& 1431655765)) >>> (Int32.toUInt32 2 &&& Int32.toUInt32 31)).toInt32) &&& 858993459)) >>> (Int32.toUInt32 4 &&& Int32.toUInt32 31)).toInt32)) &&& 252645135) >>> (Int32.toUInt32 8 &&& Int32.toUInt32 31)).toInt32)) + ((Int32.toUInt32 ((((((v0 - (((Int32.toUInt32 v0 >>> (Int32.toUInt32 1 &&& Int32.toUInt32 31)).toInt32) &&& 1431655765)) &&& 858993459) + (((Int32.toUInt32 (v0 - (((Int32.toUInt32 v0 >>> (Int32.toUInt32 1 &&& Int32.toUInt32 31)).toInt32) &&& 1431655765)) >>> (Int32.toUInt32 2 &&& Int32.toUInt32 31)).toInt32) &&& 858993459)) + ((Int32.toUInt32 (((v0 - (((Int32.toUInt32 v0 >>> (Int32.toUInt32 1 &&& Int32.toUInt32 31)).toInt32) &&& 1431655765)) &&& 858993459) + (((Int32.toUInt32 (v0 - (((Int32.toUInt32 v0 >>> (Int32.toUInt32 1 &&& Int32.toUInt32 31)).toInt32) &&& 1431655765)) >>> (Int32.toUInt32 2 &&& Int32.toUInt32 31)).toInt32) &&& 858993459)) >>> (Int32.toUInt32 4 &&& Int32.toUInt32 31)).toInt32)) &&& 252645135) + ((Int32.toUInt32 (((((v0 - (((Int32.toUInt32 v0 >>> (Int32.toUInt32 1 &&& Int32.toUInt32 31)).toInt32) &&& 1431655765)) &&& 858993459) + (((Int32.toUInt32 (v0 - (((Int32.toUInt32 v0 >>> (Int32.toUInt32 1 &&& Int32.toUInt32 31)).toInt32) &&& 1431655765)) >>> (Int32.toUInt32 2 &&& Int32.toUInt32 31)).toInt32) &&& 858993459)) + ((Int32.toUInt32 (((v0 - (((Int32.toUInt32 v0 >>> (Int32.toUInt32 1 &&& Int32.toUInt32 31)).toInt32) &&& 1431655765)) &&& 858993459) + (((Int32.toUInt32 (v0 - (((Int32.toUInt32 v0 >>> (Int32.toUInt32 1 &&& Int32.toUInt32 31)).toInt32) &&& 1431655765)) >>> (Int32.toUInt32 2 &&& Int32.toUInt32 31)).toInt32) &&& 858993459)) >>> (Int32.toUInt32 4 &&& Int32.toUInt32 31)).toInt32)) &&& 252645135) >>> (Int32.toUInt32 8 &&& Int32.toUInt32 31)).toInt32)) >>> (Int32.toUInt32 16 &&& Int32.toUInt32 31)).toInt32)) &&& 63)
theorem c_bc {G : GV} {k : Nat} {M : Mem} {q : Int32 → Mem → Prop} {v0 : Int32} (h : q (bcE v0) M) : Ci shC G mJ6_bitCount_0f7a4 k [.int v0] M q := wp_J6_bitCount_0f7a4 h
theorem bc_low : ∀ l, l < 12 → bcE (nI (2 ^ l) - 1) = nI l := by decide +kernel
theorem bc_64 : ∀ a, a < 64 → ∀ b, b < 64 → bcE (nI (64 * a + b)) = nI (cntB (fun k => (64 * a + b).testBit k) 12) := by decide +kernel
theorem bc_eq {s : Nat} (hs : s < 4096) : bcE (nI s) = nI (cntB (fun k => s.testBit k) 12) := by
  have := bc_64 (s / 64) (by omega) (s % 64) (by omega)
  rw [show 64 * (s / 64) + s % 64 = s by omega] at this
  exact this
theorem nx_dif (s t : Nat) : nI s &&& (nI t ^^^ (-1)) = nI (dif s t) := by
  apply b_ext
  intro i hi
  rw [b_and, b_inv _ hi, b_nI _ hi, b_nI _ hi, b_nI _ hi, tb_dif]
theorem all_n : ∀ n, n < 13 → (1 <<< (nI n &&& 31)) - 1 = nI (2 ^ n - 1) := by decide +kernel
theorem sh_n : ∀ n, n < 13 → (1 : Int32) <<< (nI n &&& 31) = nI (2 ^ n) := by decide +kernel
theorem low_64 : ∀ a, a < 64 → ∀ b, b < 64 → 64 * a + b ≠ 0 → nI (64 * a + b) &&& (-(nI (64 * a + b))) = nI (2 ^ lowN (64 * a + b)) := by decide +kernel
theorem low_and {s : Nat} (h0 : s ≠ 0) (hs : s < 4096) : nI s &&& (-(nI s)) = nI (2 ^ lowN s) := by
  have := low_64 (s / 64) (by omega) (s % 64) (by omega)
  rw [show 64 * (s / 64) + s % 64 = s by omega] at this
  exact this h0
theorem nar_b : ∀ x, x < 20 → vp_nar .byte ((Int32.toInt8 (nI x)).toInt32) = nI x := by decide +kernel
theorem nar_13 : vp_nar .byte 13 = nI 13 := by decide
theorem nar_1 : vp_nar .byte 1 = nI 1 := by decide
theorem nar_0 : vp_nar .byte 0 = nI 0 := by decide
theorem pow12 {n : Nat} (h : n ≤ 12) : 2 ^ n ≤ 4096 := Nat.pow_le_pow_right (n := 2) (by decide) h
theorem upd_upd (f : Nat → Int32) (i : Nat) (x y : Int32) : upd (upd f i x) i y = upd f i y := by
  funext j
  by_cases h : j = i
  · rw [h, upd_at, upd_at]
  · rw [upd_ne _ _ h, upd_ne _ _ h, upd_ne _ _ h]
theorem upd_self (f : Nat → Int32) {i : Nat} {x : Int32} (h : f i = x) : upd f i x = f := by
  funext j
  by_cases e : j = i
  · rw [e, upd_at, h]
  · rw [upd_ne _ _ e]
/-- a mask as a number -/
theorem msk_nat {x : Int32} {n : Nat} {p : Nat → Bool} (hn : n ≤ 12) (h : ∀ j, j < 32 → bt x j = (decide (j < n) && p j)) : ∃ m, m < 2 ^ n ∧ x = nI m ∧ ∀ j, m.testBit j = (decide (j < n) && p j) := by
  have hb : ∀ j, x.toBitVec.toNat.testBit j = (decide (j < n) && p j) := by
    intro j
    rcases Nat.lt_or_ge j 32 with h1 | h1
    · exact h j h1
    · have : bt x j = false := b_big h1
      rw [show x.toBitVec.toNat.testBit j = bt x j from rfl, this, decide_eq_false (by omega)]; rfl
  refine ⟨x.toBitVec.toNat, Nat.lt_pow_two_of_testBit _ (fun i hi => by rw [hb, decide_eq_false (by omega)]; rfl), ?_, hb⟩
  apply b_ext
  intro i hi
  rw [b_nI _ hi]
  rfl
def Tm (M : Mem) (g h : Nat → Int32) : Mem := aset (aset M 42 g) 43 h
theorem Tm_42 {M : Mem} {g h : Nat → Int32} {j : Nat} {v : Int32} : mset (Tm M g h) 42 j v = Tm M (upd g j v) h := by
  simp only [Tm, aset, mset]
  congr 1
  funext k
  by_cases h1 : k = 42
  · subst h1; rfl
  · by_cases h2 : k = 43
    · subst h2; rfl
    · simp [h1, h2]
theorem Tm_43 {M : Mem} {g h : Nat → Int32} {j : Nat} {v : Int32} : mset (Tm M g h) 43 j v = Tm M g (upd h j v) := mset_aset
theorem Tm_g {M : Mem} {g h : Nat → Int32} : (Tm M g h).1 42 = g := rfl
theorem Tm_h {M : Mem} {g h : Nat → Int32} : (Tm M g h).1 43 = h := rfl
theorem c_addP {G : GV} {k : Nat} {M : Mem} {g h : Nat → Int32} {s t b fr wr : Nat} {q : Mem → Prop} (hs : s < 4096) (ht : t < 4096) (hne : dif s t ≠ s) (e1 : g (dif s t) = nI fr) (e2 : h (dif s t) = nI wr) (hfr : fr ≤ 12) (e3 : g s = nI b) (hb : b ≤ 13) (h0 : g t ≠ 1 → q (Tm M g h)) (h1 : g t = 1 → fr + 1 < b → q (Tm M (upd g s (nI (fr + 1))) (upd h s (nI wr)))) (h2 : g t = 1 → fr + 1 = b → q (Tm M g (upd h s (h s + nI wr)))) (h3 : g t = 1 → b < fr + 1 → q (Tm M g h)) : Cv shC G mX7_addPartings k [.ref (G.2.1 9), .int (nI s), .int (nI t)] (Tm M g h) q := by
  have hd : dif s t < 4096 := Nat.lt_of_le_of_lt (dif_le s t) hs
  have vs : vp_in (nI s) 4096 := vp_in_nI hs (by decide)
  have vt : vp_in (nI t) 4096 := vp_in_nI ht (by decide)
  have vd : vp_in (nI (dif s t)) 4096 := vp_in_nI hd (by decide)
  refine wp_X7_addPartings ?_
  rw [nx_dif, ix_nI (show s < 2 ^ 31 by omega), ix_nI (show t < 2 ^ 31 by omega), ix_nI (show dif s t < 2 ^ 31 by omega)]
  simp only [Tm_42, Tm_43, Tm_g, Tm_h]
  rw [e1, nI_1 fr, nar_b (fr + 1) (by omega), upd_at, upd_at, upd_upd, upd_ne h (0 : Int32) hne, Int32.zero_add, e2]
  refine ⟨vt, fun c => ⟨vd, vs, fun c2 => ⟨vs, fun c3 => ?_, fun c3 => ⟨vs, vd, vs, h2 c ?_⟩⟩, fun c2 => ⟨vs, vs, vs, fun c3 => absurd rfl c3, fun _ => ⟨vs, vd, vs, h1 c ?_⟩⟩⟩, fun c => h0 c⟩
  · rw [e3] at c2 c3
    refine h3 c ?_
    have a1 := (nI_leI (by omega) (by omega)).mp c2
    have a2 : fr + 1 ≠ b := fun e => c3 (by rw [e])
    omega
  · rw [e3] at c3
    exact (nI_eq (by omega) (by omega)).mp c3
  · rw [e3] at c2
    have a1 : ¬ b ≤ fr + 1 := fun e => c2 (nI_le e (by omega))
    omega
/-- the masks of who may be one -/
def MkC (may : Nat → Nat → Bool) (n : Nat) (f : Nat → Int32) : Prop := ∀ l, l < n → ∀ j, j < 32 → bt (f l) j = (decide (j < n) && may l j)
/-- the tables below s -/
def TbC (may : Nat → Nat → Bool) (s : Nat) (fw wy : Nat → Nat) (g h : Nat → Int32) : Prop := ∀ t, t < s → RT may 0 t (fw t) (wy t) ∧ g t = nI (fw t) ∧ h t = nI (wy t)
theorem or_low {l v : Nat} {i : Nat} : (2 ^ l ||| v).testBit i = (decide (i = l) || v.testBit i) := by
  rw [Nat.testBit_or, Nat.testBit_two_pow]
  by_cases h : l = i
  · subst h; simp
  · simp [h, Ne.symm h]
theorem c_partSet {G : GV} {k n s : Nat} {M : Mem} {g h : Nat → Int32} {may : Nat → Nat → Bool} {fw wy : Nat → Nat} {q : Mem → Prop} (hn : n ≤ 12) (h0 : s ≠ 0) (hs : s < 2 ^ n) (hm : MkC may n (M.1 40)) (ht : TbC may s fw wy g h) (hq : ∀ b c, RT may 0 s b c → q (Tm M (upd g s (nI b)) (upd h s (nI c)))) : Cv shC G mX7_partSet (k + 1) [.ref (G.2.1 9), .int (nI s)] (Tm M g h) q := by
  have hs4 : s < 4096 := Nat.lt_of_lt_of_le hs (pow12 hn)
  obtain ⟨l1, l2, l3⟩ := low_spec h0 hs4
  have hln : lowN s < n := by
    rcases Nat.lt_or_ge (lowN s) n with h5 | h5
    · exact h5
    · rw [Nat.testBit_lt_two_pow (Nat.lt_of_lt_of_le hs (Nat.pow_le_pow_right (by decide) h5))] at l1; cases l1
  have vs : vp_in (nI s) 4096 := vp_in_nI hs4 (by decide)
  obtain ⟨m, hm1, hm2, hm3⟩ := msk_nat hn (hm (lowN s) hln)
  have hr := rs_lt h0 hs4
  have hr4 : rsN s < 4096 := by omega
  obtain ⟨rt, rg, rh⟩ := ht (rsN s) hr
  have hfr := RT_rs h0 hs4 rt
  obtain ⟨f, hf⟩ : ∃ f, f = rsN s &&& m := ⟨_, rfl⟩
  have hfr2 : f &&& rsN s = f := by rw [hf]; exact sub_iff.mpr (fun i hi => by rw [Nat.testBit_and, Bool.and_eq_true] at hi; exact hi.1)
  have hf4 : f < 4096 := sub_lt hfr2 hr4
  -- parts of a person with the least
  have more : ∀ t, okpB may 0 s t = true → dif t (2 ^ lowN s) &&& f = dif t (2 ^ lowN s) ∧ t = 2 ^ lowN s ||| dif t (2 ^ lowN s) := by
    intro t hok
    obtain ⟨a1, a2, a3, _⟩ := okp_iff.mp hok
    refine ⟨sub_iff.mpr (fun i hi => ?_), ?_⟩
    · rw [tb_dif, Nat.testBit_two_pow, Bool.and_eq_true, Bool.not_eq_true', decide_eq_false_iff_not] at hi
      have b1 := sub_iff.mp a1 i hi.1
      have b2 : (rsN s).testBit i = true := by rw [tb_rs, b1, decide_eq_true (Ne.symm hi.2)]; rfl
      obtain ⟨b3, b4, _⟩ := rs_low h0 hs4 b2
      have b5 : i < n := by
        rcases Nat.lt_or_ge i n with h5 | h5
        · exact h5
        · rw [Nat.testBit_lt_two_pow (Nat.lt_of_lt_of_le hs (Nat.pow_le_pow_right (by decide) h5))] at b1; cases b1
      rw [hf, Nat.testBit_and, b2, hm3, decide_eq_true b5, clq_iff.mp a3 _ i l2 b4 b3 a2 hi.1]
      rfl
    · apply Nat.eq_of_testBit_eq
      intro i
      rw [or_low, tb_dif, Nat.testBit_two_pow]
      by_cases e : i = lowN s
      · subst e; rw [a2]; simp
      · simp [e, Ne.symm e]
  have dif_or : ∀ v, v &&& f = v → dif (2 ^ lowN s ||| v) (2 ^ lowN s) = v := by
    intro v hv
    apply Nat.eq_of_testBit_eq
    intro i
    rw [tb_dif, or_low, Nat.testBit_two_pow]
    by_cases e : i = lowN s
    · subst e
      have : v.testBit (lowN s) = false := by
        cases e2 : v.testBit (lowN s) with
        | false => rfl
        | true =>
          have := (rs_low h0 hs4 (sub_iff.mp hfr2 _ (sub_iff.mp hv _ e2))).1
          omega
      rw [this]; simp
    · simp [e, Ne.symm e]
  have loop : clqB may s = false → ∀ N v b c, v ≤ N → v &&& f = v → InvP may 0 s (fun t => okpB may 0 s t && (decide (t = 2 ^ lowN s) || decide (v < dif t (2 ^ lowN s)))) b c → 0 < c → 2 ≤ b → b ≤ 13 → V shC G mX7_partSet (k + 1) 75 [(0, .ref (G.2.1 9)), (1, .int (nI s)), (2, .int (nI (2 ^ lowN s))), (3, .int (nI (rsN s))), (4, .int (nI f)), (5, .int (nI v))] [] (Tm M (upd g s (nI b)) (upd h s (nI c))) (Qv q) := by
    intro hnc N
    induction N with
    | zero =>
      intro v b c hv hvf hI hc hb2 hb
      obtain rfl : v = 0 := by omega
      refine wp_X7_partSet_75 ⟨fun _ => hq b c (Inv_RT h0 (fun t ht4 => ?_) hI hc), fun cc => absurd (by decide) cc⟩
      cases hok : okpB may 0 s t with
      | false => rfl
      | true =>
        rw [Bool.true_and]
        by_cases e : t = 2 ^ lowN s
        · rw [decide_eq_true e]; rfl
        · have : 0 < dif t (2 ^ lowN s) := Nat.pos_of_ne_zero (fun e2 => e (by have := (more t hok).2; rw [e2] at this; simpa using this))
          rw [decide_eq_true this, Bool.or_true]
    | succ N ih =>
      intro v b c hv hvf hI hc hb2 hb
      by_cases hv0 : v = 0
      · exact ih v b c (by omega) hvf hI hc hb2 hb
      have hv4 : v < 4096 := sub_lt hvf hf4
      refine wp_X7_partSet_75 ⟨fun cc => absurd cc (nI_nle (by omega) (by omega)), fun _ => ?_⟩
      rw [nx_or, nI_s1 v (by omega), nx_and]
      obtain ⟨t0, ht0⟩ : ∃ t0, t0 = 2 ^ lowN s ||| v := ⟨_, rfl⟩
      rw [← ht0]
      have bits0 : ∀ i, t0.testBit i = (decide (i = lowN s) || v.testBit i) := fun i => by rw [ht0, or_low]
      have sub0 : t0 &&& s = t0 := sub_iff.mpr (fun i hi => by
        rw [bits0, Bool.or_eq_true, decide_eq_true_iff] at hi
        rcases hi with e | e
        · rw [e]; exact l1
        · exact (rs_low h0 hs4 (sub_iff.mp hfr2 i (sub_iff.mp hvf i e))).2.2)
      have low0 : t0.testBit (lowN s) = true := by rw [bits0, decide_eq_true rfl]; rfl
      have t04 : t0 < 4096 := sub_lt sub0 hs4
      have hdl : dif s t0 < s := dif_lt l1 low0
      obtain ⟨dt, dg, dh⟩ := ht (dif s t0) hdl
      have dle := RT_le dt (by omega)
      have dm : dif t0 (2 ^ lowN s) = v := by rw [ht0]; exact dif_or v hvf
      -- the sets that are done behind this one
      have same : okpB may 0 s t0 = false → ∀ t, t < 4096 → (okpB may 0 s t && (decide (t = 2 ^ lowN s) || decide ((v - 1) &&& f < dif t (2 ^ lowN s)))) = (okpB may 0 s t && (decide (t = 2 ^ lowN s) || decide (v < dif t (2 ^ lowN s)))) := by
        intro hno t ht4
        cases hok : okpB may 0 s t with
        | false => rfl
        | true =>
          obtain ⟨m1, m2⟩ := more t hok
          have hne : dif t (2 ^ lowN s) ≠ v := fun e => by
            rw [e] at m2
            rw [m2, ← ht0, hno] at hok; cases hok
          have : ((v - 1) &&& f < dif t (2 ^ lowN s)) ↔ v < dif t (2 ^ lowN s) := by
            have b1 := below_lt (v := v) (f := f) (by omega)
            constructor
            · intro h5
              rcases Nat.lt_or_ge v (dif t (2 ^ lowN s)) with h6 | h6
              · exact h6
              · have := below v v f _ (Nat.le_refl _) hvf m1 (by omega)
                omega
            · intro h5; omega
          rw [decide_eq_decide.mpr this]
      have adds : okpB may 0 s t0 = true → ∀ t, t < 4096 → (okpB may 0 s t && (decide (t = 2 ^ lowN s) || decide ((v - 1) &&& f < dif t (2 ^ lowN s)))) = ((okpB may 0 s t && (decide (t = 2 ^ lowN s) || decide (v < dif t (2 ^ lowN s)))) || decide (t = t0)) := by
        intro hyes t ht4
        by_cases e : t = t0
        · rw [e, hyes, dm, decide_eq_true (below_lt (v := v) (f := f) (by omega))]
          simp
        · rw [decide_eq_false e, Bool.or_false]
          cases hok : okpB may 0 s t with
          | false => rfl
          | true =>
            obtain ⟨m1, m2⟩ := more t hok
            have hne : dif t (2 ^ lowN s) ≠ v := fun e2 => by
              rw [e2, ← ht0] at m2
              exact e m2
            have : ((v - 1) &&& f < dif t (2 ^ lowN s)) ↔ v < dif t (2 ^ lowN s) := by
              have b1 := below_lt (v := v) (f := f) (by omega)
              constructor
              · intro h5
                rcases Nat.lt_or_ge v (dif t (2 ^ lowN s)) with h6 | h6
                · exact h6
                · have := below v v f _ (Nat.le_refl _) hvf m1 (by omega)
                  omega
              · intro h5; omega
            rw [decide_eq_decide.mpr this]
      have D0 : (okpB may 0 s t0 && (decide (t0 = 2 ^ lowN s) || decide (v < dif t0 (2 ^ lowN s)))) = false := by
        rw [dm, decide_eq_false (Nat.lt_irrefl v), decide_eq_false (fun e => ?_)]
        · simp
        · rw [e, dif_self] at dm
          exact hv0 dm.symm
      have nxt : ∀ b' c', InvP may 0 s (fun t => okpB may 0 s t && (decide (t = 2 ^ lowN s) || decide ((v - 1) &&& f < dif t (2 ^ lowN s)))) b' c' → 0 < c' → 2 ≤ b' → b' ≤ 13 → V shC G mX7_partSet (k + 1) 75 [(0, .ref (G.2.1 9)), (1, .int (nI s)), (2, .int (nI (2 ^ lowN s))), (3, .int (nI (rsN s))), (4, .int (nI f)), (5, .int (nI ((v - 1) &&& f)))] [] (Tm M (upd g s (nI b')) (upd h s (nI c'))) (Qv q) := fun b' c' i1 i2 i3 i4 => ih _ b' c' (by have := below_lt (v := v) (f := f) (by omega); omega) (below_sub v f) i1 i2 i3 i4
      have gt0 : upd g s (nI b) t0 = 1 ↔ okpB may 0 s t0 = true := by
        by_cases e : t0 = s
        · rw [e, upd_at]
          constructor
          · intro h5
            have := (nI_eq (b := 1) (by omega) (by omega)).mp h5
            omega
          · intro h5
            rw [(okp_iff.mp h5).2.2.1] at hnc; cases hnc
        · have hlt : t0 < s := Nat.lt_of_le_of_ne (sub_le sub0) e
          obtain ⟨tt, tg, _⟩ := ht t0 hlt
          have tle := RT_le tt t04
          rw [upd_ne _ _ e, tg]
          constructor
          · intro h5
            have h6 := (nI_eq (b := 1) (by omega) (by omega)).mp h5
            exact okp_iff.mpr ⟨sub0, low0, (RT_1 tt (bit_ne0 low0) t04).mp h6, fun h => h.1 (by simp)⟩
          · intro h5
            rw [(RT_1 tt (bit_ne0 low0) t04).mpr (okp_iff.mp h5).2.2.1]
            rfl
      have hdd : dif s t0 ≠ 0 ∨ okpB may 0 s t0 = false := by
        by_cases e : dif s t0 = 0
        · right
          cases h5 : okpB may 0 s t0 with
          | false => rfl
          | true =>
            rw [dif_eq0 e sub0] at h5
            rw [(okp_iff.mp h5).2.2.1] at hnc; cases hnc
        · exact Or.inl e
      refine c_addP (b := b) hs4 t04 (by omega) (by rw [upd_ne _ _ (by omega)]; exact dg) (by rw [upd_ne _ _ (by omega)]; exact dh) dle (upd_at _ _ _) hb (fun c5 => ?_) (fun c5 c6 => ?_) (fun c5 c6 => ?_) (fun c5 c6 => ?_)
      · have hno : okpB may 0 s t0 = false := by
          cases h5 : okpB may 0 s t0 with
          | false => rfl
          | true => exact absurd (gt0.mpr h5) c5
        exact nxt b c (Inv_same (same hno) hI) hc hb2 hb
      · have hyes := gt0.mp c5
        have hd0 : dif s t0 ≠ 0 := hdd.resolve_right (by rw [hyes]; decide)
        have := RT_pos dt hd0
        have h7 := nxt _ _ (Inv_lt t04 D0 (adds hyes) hI dt c6) dt.2.2 (by omega) (by omega)
        rw [upd_upd, upd_upd]
        exact h7
      · have hyes := gt0.mp c5
        have h7 := nxt _ _ (Inv_eq t04 D0 (adds hyes) hI dt c6) (by omega) hb2 hb
        rw [upd_upd, upd_at, nI_add]
        exact h7
      · have hyes := gt0.mp c5
        exact nxt _ _ (Inv_gt t04 D0 (adds hyes) hI dt c6) hc hb2 hb
  have clq2 : (f = rsN s ∧ fw (rsN s) ≤ 1) ↔ clqB may s = true := by
    rw [clq_rec h0 hs4]
    constructor
    · rintro ⟨e1, e2⟩
      refine ⟨?_, fun y hy => ?_⟩
      · by_cases e : rsN s = 0
        · rw [e]; exact clq_iff.mpr (fun x y _ _ _ t1 _ => by rw [Nat.zero_testBit] at t1; cases t1)
        · have := RT_pos rt e
          exact (RT_1 rt e hr4).mp (by omega)
      · rw [← e1, hf, Nat.testBit_and, Bool.and_eq_true, hm3, Bool.and_eq_true] at hy
        exact hy.2.2
    · rintro ⟨e1, e2⟩
      refine ⟨?_, ?_⟩
      · rw [hf]
        refine sub_iff.mpr (fun i hi => ?_)
        obtain ⟨b3, b4, b1⟩ := rs_low h0 hs4 hi
        have b5 : i < n := by
          rcases Nat.lt_or_ge i n with h5 | h5
          · exact h5
          · rw [Nat.testBit_lt_two_pow (Nat.lt_of_lt_of_le hs (Nat.pow_le_pow_right (by decide) h5))] at b1; cases b1
        rw [hm3, decide_eq_true b5, e2 i hi]; rfl
      · by_cases e : rsN s = 0
        · rw [e] at rt ⊢
          have := (RT_uniq rt RT_0).1
          omega
        · have := (RT_1 rt e hr4).mpr e1
          omega
  have main : clqB may s = false → vp_in (nI s) 4096 ∧ Cv shC G mX7_addPartings k [.ref (G.2.1 9), .int (nI s), .int (nI (2 ^ lowN s))] (mset (Tm M g h) 42 s (vp_nar .byte 13)) (fun M2 => V shC G mX7_partSet (k + 1) 75 [(0, .ref (G.2.1 9)), (1, .int (nI s)), (2, .int (nI (2 ^ lowN s))), (3, .int (nI (rsN s))), (4, .int (nI f)), (5, .int (nI f))] [] M2 (Qv q)) := by
    intro hnc
    have hls : 2 ^ lowN s ≠ s := fun e => by
      have := clq_1 (may := may) (lowN s)
      rw [e, hnc] at this; cases this
    have hsub : 2 ^ lowN s &&& s = 2 ^ lowN s := sub_iff.mpr (fun i hi => by
      rw [Nat.testBit_two_pow, decide_eq_true_iff] at hi
      rw [← hi]; exact l1)
    have hlt : 2 ^ lowN s < s := Nat.lt_of_le_of_ne (sub_le hsub) hls
    obtain ⟨tt, tg, _⟩ := ht (2 ^ lowN s) hlt
    have hr0 : rsN s ≠ 0 := fun e => hls (dif_eq0 e hsub)
    have hrp := RT_pos rt hr0
    have t1 := (RT_1 tt (bit_ne0 Nat.testBit_two_pow_self) (by omega)).mpr (clq_1 (lowN s))
    have g1 : upd g s (nI 13) (2 ^ lowN s) = 1 := by rw [upd_ne _ _ hls, tg, t1]; rfl
    have ok1 : okpB may 0 s (2 ^ lowN s) = true := okp_iff.mpr ⟨hsub, Nat.testBit_two_pow_self, clq_1 _, fun h => h.1 (by simp)⟩
    rw [nar_13, Tm_42]
    refine ⟨vs, c_addP (b := 13) (fr := fw (rsN s)) (wr := wy (rsN s)) hs4 (by omega) (show dif s (2 ^ lowN s) ≠ s from Nat.ne_of_lt hr) (show upd g s (nI 13) (rsN s) = nI (fw (rsN s)) from by rw [upd_ne _ _ (Nat.ne_of_lt hr)]; exact rg) rh (by omega) (upd_at _ _ _) (by omega) (fun c5 => absurd g1 c5) (fun c5 c6 => ?_) (fun c5 c6 => absurd c6 (by omega)) (fun c5 c6 => absurd c6 (by omega))⟩
    rw [upd_upd]
    refine loop hnc f f _ _ (Nat.le_refl _) (sub_iff.mpr (fun i hi => hi)) ?_ rt.2.2 (by omega) (by omega)
    have hI0 : InvP may 0 s (fun _ => false) 14 0 := ⟨by decide, fun k _ => sumB_0 (fun t _ => rfl), sumB_0 (fun t _ => rfl)⟩
    refine Inv_lt (t0 := 2 ^ lowN s) (D := fun _ => false) (by omega) rfl (fun t ht4 => ?_) hI0 rt (by omega)
    rw [Bool.false_or]
    by_cases e : t = 2 ^ lowN s
    · rw [e, ok1, decide_eq_true rfl]; rfl
    · rw [decide_eq_false e]
      cases hok : okpB may 0 s t with
      | false => rfl
      | true =>
        have := sub_le (more t hok).1
        rw [decide_eq_false (by omega)]; rfl
  refine wp_X7_partSet ?_
  rw [low_and h0 hs4, nx_dif, show dif s (2 ^ lowN s) = rsN s from rfl, ix_nI (show s < 2 ^ 31 by omega), ix_nI (show rsN s < 2 ^ 31 by omega)]
  refine c_bc ?_
  rw [bc_low _ l2, ix_nI (show lowN s < 2 ^ 31 by omega), show (Tm M g h).1 40 (lowN s) = nI m from hm2, nx_and, ← hf, Tm_g, rg]
  refine ⟨vp_in_nI l2 (by decide), fun c => main ?_, fun c => ⟨vp_in_nI hr4 (by decide), fun c2 => main ?_, fun c2 => ⟨vs, vs, ?_⟩⟩⟩
  · cases e : clqB may s with
    | false => rfl
    | true => exact absurd (by rw [(clq2.mpr e).1]) c
  · cases e : clqB may s with
    | false => rfl
    | true =>
      have h5 := (clq2.mpr e).2
      have h6 := (nI_ltI (a := 1) (by omega) (by omega)).mp c2
      omega
  · have e1 : f = rsN s := (nI_eq (by omega) (by omega)).mp c
    have e2 : ¬ 1 < fw (rsN s) := fun e => c2 (nI_lt (a := 1) e (by omega))
    have hc := clq2.mp ⟨e1, by omega⟩
    rw [Tm_42, Tm_43, nar_1]
    exact hq 1 1 (RT_clq h0 hs4 hc)
