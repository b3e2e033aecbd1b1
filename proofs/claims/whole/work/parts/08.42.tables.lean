/-! the class's tables of persons -/
def bcE (v0 : Int32) : Int32 := ((((((((v0 - (((Int32.toUInt32 v0 >>> (Int32.toUInt32 1 &&& Int32.toUInt32 31)).toInt32) &&& 1431655765)) &&& 858993459) + (((Int32.toUInt32 (v0 - (((Int32.toUInt32 v0 >>> (Int32.toUInt32 1 &&& Int32.toUInt32 31)).toInt32) &&& 1431655765)) >>> (Int32.toUInt32 2 &&& Int32.toUInt32 31)).toInt32) &&& 858993459)) + ((Int32.toUInt32 (((v0 - (((Int32.toUInt32 v0 >>> (Int32.toUInt32 1 &&& Int32.toUInt32 31)).toInt32) &&& 1431655765)) &&& 858993459) + (((Int32.toUInt32 (v0 - (((Int32.toUInt32 v0 >>> (Int32.toUInt32 1 &&& Int32.toUInt32 31)).toInt32) &&& 1431655765)) >>> (Int32.toUInt32 2 &&& Int32.toUInt32 31)).toInt32) &&& 858993459)) >>> (Int32.toUInt32 4 &&& Int32.toUInt32 31)).toInt32)) &&& 252645135) + ((Int32.toUInt32 (((((v0 - (((Int32.toUInt32 v0 >>> (Int32.toUInt32 1 &&& Int32.toUInt32 31)).toInt32) &&& 1431655765)) &&& 858993459) + (((Int32.toUInt32 (v0 - (((Int32.toUInt32 v0 >>> (Int32.toUInt32 1 &&& Int32.toUInt32 31)).toInt32) &&& 1431655765)) >>> (Int32.toUInt32 2 &&& Int32.toUInt32 31)).toInt32) &&& 858993459)) + ((Int32.toUInt32 (((v0 - (((Int32.toUInt32 v0 >>> (Int32.toUInt32 1 &&& Int32.toUInt32 31)).toInt32) &&& 1431655765)) &&& 858993459) + (((Int32.toUInt32 (v0 - (((Int32.toUInt32 v0 >>> (Int32.toUInt32 1 &&& Int32.toUInt32 31)).toInt32) &&& 1431655765)) >>> (Int32.toUInt32 2 &&& Int32.toUInt32 31)).toInt32) &&& 858993459)) >>> (Int32.toUInt32 4 &&& Int32.toUInt32 31)).toInt32)) &&& 252645135) >>> (Int32.toUInt32 8 &&& Int32.toUInt32 31)).toInt32)) + ((Int32.toUInt32 ((((((v0 - (((Int32.toUInt32 v0 >>> (Int32.toUInt32 1 &&& Int32.toUInt32 31)).toInt32) &&& 1431655765)) &&& 858993459) + (((Int32.toUInt32 (v0 - (((Int32.toUInt32 v0 >>> (Int32.toUInt32 1 &&& Int32.toUInt32 31)).toInt32) &&& 1431655765)) >>> (Int32.toUInt32 2 &&& Int32.toUInt32 31)).toInt32) &&& 858993459)) + ((Int32.toUInt32 (((v0 - (((Int32.toUInt32 v0 >>> (Int32.toUInt32 1 &&& Int32.toUInt32 31)).toInt32) &&& 1431655765)) &&& 858993459) + (((Int32.toUInt32 (v0 - (((Int32.toUInt32 v0 >>> (Int32.toUInt32 1 &&& Int32.toUInt32 31)).toInt32) &&& 1431655765)) >>> (Int32.toUInt32 2 &&& Int32.toUInt32 31)).toInt32) &&& 858993459)) >>> (Int32.toUInt32 4 &&& Int32.toUInt32 31)).toInt32)) &&& 252645135) + ((Int32.toUInt32 (((((v0 - (((Int32.toUInt32 v0 >>> (Int32.toUInt32 1 &&& Int32.toUInt32 31)).toInt32) &&& 1431655765)) &&& 858993459) + (((Int32.toUInt32 (v0 - (((Int32.toUInt32 v0 >>> (Int32.toUInt32 1 &&& Int32.toUInt32 31)).toInt32) &&& 1431655765)) >>> (Int32.toUInt32 2 &&& Int32.toUInt32 31)).toInt32) &&& 858993459)) + ((Int32.toUInt32 (((v0 - (((Int32.toUInt32 v0 >>> (Int32.toUInt32 1 &&& Int32.toUInt32 31)).toInt32) &&& 1431655765)) &&& 858993459) + (((Int32.toUInt32 (v0 - (((Int32.toUInt32 v0 >>> (Int32.toUInt32 1 &&& Int32.toUInt32 31)).toInt32) &&& 1431655765)) >>> (Int32.toUInt32 2 &&& Int32.toUInt32 31)).toInt32) &&& 858993459)) >>> (Int32.toUInt32 4 &&& Int32.toUInt32 31)).toInt32)) &&& 252645135) >>> (Int32.toUInt32 8 &&& Int32.toUInt32 31)).toInt32)) >>> (Int32.toUInt32 16 &&& Int32.toUInt32 31)).toInt32)) &&& 63)
theorem c_bc {G : GV} {k : Nat} {M : Mem} {q : Int32 → Mem → Prop} {v0 : Int32} (h : q (bcE v0) M) : Ci shC G mJ6_bitCount_0f7a4 k [.int v0] M q := wp_J6_bitCount_0f7a4 h
theorem bc_low : ∀ l, l < 12 → bcE (nI (2 ^ l) - 1) = nI l := by decide +kernel
theorem bc_64 : ∀ a, a < 64 → ∀ b, b < 64 → bcE (nI (64 * a + b)) = nI (cntB (fun k => (64 * a + b).testBit k) 12) := by decide +kernel
theorem bc_eq {s : Nat} (hs : s < 4096) : bcE (nI s) = nI (cntB (fun k => s.testBit k) 12) := by
  have := bc_64 (s / 64) (by omega) (s % 64) (by omega)
  rw [show 64 * (s / 64) + s % 64 = s by omega] at this
  exact this
theorem nx_dif (s t : Nat) : nI s &&& (nI t ^^^ (-1)) = nI (dif s t) := by
  apply b_ext
  intro i hi
  rw [b_and, b_inv _ hi, b_nI _ hi, b_nI _ hi, b_nI _ hi, tb_dif]
theorem all_n : ∀ n, n < 13 → (1 <<< (nI n &&& 31)) - 1 = nI (2 ^ n - 1) := by decide +kernel
theorem sh_n : ∀ n, n < 13 → (1 : Int32) <<< (nI n &&& 31) = nI (2 ^ n) := by decide +kernel
theorem low_64 : ∀ a, a < 64 → ∀ b, b < 64 → 64 * a + b ≠ 0 → nI (64 * a + b) &&& (-(nI (64 * a + b))) = nI (2 ^ lowN (64 * a + b)) := by decide +kernel
theorem low_and {s : Nat} (h0 : s ≠ 0) (hs : s < 4096) : nI s &&& (-(nI s)) = nI (2 ^ lowN s) := by
  have := low_64 (s / 64) (by omega) (s % 64) (by omega)
  rw [show 64 * (s / 64) + s % 64 = s by omega] at this
  exact this h0
theorem nar_b : ∀ x, x < 20 → vp_nar .byte ((Int32.toInt8 (nI x)).toInt32) = nI x := by decide +kernel
theorem nar_13 : vp_nar .byte 13 = nI 13 := by decide
theorem nar_1 : vp_nar .byte 1 = nI 1 := by decide
theorem nar_0 : vp_nar .byte 0 = nI 0 := by decide
theorem pow12 {n : Nat} (h : n ≤ 12) : 2 ^ n ≤ 4096 := Nat.pow_le_pow_right (n := 2) (by decide) h
theorem upd_upd (f : Nat → Int32) (i : Nat) (x y : Int32) : upd (upd f i x) i y = upd f i y := by
  funext j
  by_cases h : j = i
  · rw [h, upd_at, upd_at]
  · rw [upd_ne _ _ h, upd_ne _ _ h, upd_ne _ _ h]
theorem upd_self (f : Nat → Int32) {i : Nat} {x : Int32} (h : f i = x) : upd f i x = f := by
  funext j
  by_cases e : j = i
  · rw [e, upd_at, h]
  · rw [upd_ne _ _ e]
/-- a mask as a number -/
theorem msk_nat {x : Int32} {n : Nat} {p : Nat → Bool} (hn : n ≤ 12) (h : ∀ j, j < 32 → bt x j = (decide (j < n) && p j)) : ∃ m, m < 2 ^ n ∧ x = nI m ∧ ∀ j, m.testBit j = (decide (j < n) && p j) := by
  have hb : ∀ j, x.toBitVec.toNat.testBit j = (decide (j < n) && p j) := by
    intro j
    rcases Nat.lt_or_ge j 32 with h1 | h1
    · exact h j h1
    · have : bt x j = false := b_big h1
      rw [show x.toBitVec.toNat.testBit j = bt x j from rfl, this, decide_eq_false (by omega)]; rfl
  refine ⟨x.toBitVec.toNat, Nat.lt_pow_two_of_testBit _ (fun i hi => by rw [hb, decide_eq_false (by omega)]; rfl), ?_, hb⟩
  apply b_ext
  intro i hi
  rw [b_nI _ hi]
  rfl
def Tm (M : Mem) (g h : Nat → Int32) : Mem := aset (aset M 42 g) 43 h
theorem Tm_42 {M : Mem} {g h : Nat → Int32} {j : Nat} {v : Int32} : mset (Tm M g h) 42 j v = Tm M (upd g j v) h := by
  simp only [Tm, aset, mset]
  congr 1
  funext k
  by_cases h1 : k = 42
  · subst h1; rfl
  · by_cases h2 : k = 43
    · subst h2; rfl
    · simp [h1, h2]
theorem Tm_43 {M : Mem} {g h : Nat → Int32} {j : Nat} {v : Int32} : mset (Tm M g h) 43 j v = Tm M g (upd h j v) := mset_aset
theorem Tm_g {M : Mem} {g h : Nat → Int32} : (Tm M g h).1 42 = g := rfl
theorem Tm_h {M : Mem} {g h : Nat → Int32} : (Tm M g h).1 43 = h := rfl
/-- the masks of who may be one -/
def MkC (may : Nat → Nat → Bool) (n : Nat) (f : Nat → Int32) : Prop := ∀ l, l < n → ∀ j, j < 32 → bt (f l) j = (decide (j < n) && may l j)
/-- the rows of the parts of a set without its least -/
def TbR (may : Nat → Nat → Bool) (s : Nat) (fw wy : Nat → Nat) (g h : Nat → Int32) : Prop := ∀ t, t &&& rsN s = t → RT may 0 t (fw t) (wy t) ∧ g t = nI (fw t) ∧ h t = nI (wy t)
theorem or_low {l v : Nat} {i : Nat} : (2 ^ l ||| v).testBit i = (decide (i = l) || v.testBit i) := by
  rw [Nat.testBit_or, Nat.testBit_two_pow]
  by_cases h : l = i
  · subst h; simp
  · simp [h, Ne.symm h]
theorem in_n {n s i : Nat} (hs : s < 2 ^ n) (hi : s.testBit i = true) : i < n := by
  rcases Nat.lt_or_ge i n with h5 | h5
  · exact h5
  · rw [Nat.testBit_lt_two_pow (Nat.lt_of_lt_of_le hs (Nat.pow_le_pow_right (by decide) h5))] at hi; cases hi
theorem c_friends {G : GV} {k n l : Nat} {M : Mem} {q : Int32 → Mem → Prop} (hn : n ≤ 12) (hl : l < n) (h : q (M.1 40 l) M) : Ci shC G mX7_friendsOf (k + 1) [.ref (G.2.1 9), .int (nI (2 ^ l))] M q := by
  refine wp_X7_friendsOf (c_bc ?_)
  rw [bc_low l (by omega)]
  refine ⟨fun c => absurd c (nI_ge (b := 12) (by omega) (by decide)), fun _ => ⟨vp_in_nI (by omega) (by decide), ?_⟩⟩
  rw [ix_nI (by omega)]
  exact h
theorem clq_m {may : Nat → Nat → Bool} {n s m f w : Nat} (hn : n ≤ 12) (h0 : s ≠ 0) (hs : s < 2 ^ n) (hm : ∀ j, m.testBit j = (decide (j < n) && may (lowN s) j)) (rt : RT may 0 (rsN s) f w) : (rsN s &&& m = rsN s ∧ f ≤ 1) ↔ clqB may s = true := by
  have hs4 : s < 4096 := Nat.lt_of_lt_of_le hs (pow12 hn)
  have hr4 : rsN s < 4096 := Nat.lt_trans (rs_lt h0 hs4) hs4
  rw [clq_rec h0 hs4]
  constructor
  · rintro ⟨e1, e2⟩
    refine ⟨?_, fun y hy => ?_⟩
    · by_cases e : rsN s = 0
      · rw [e]; exact clq_iff.mpr (fun x y _ _ _ t1 _ => by rw [Nat.zero_testBit] at t1; cases t1)
      · have := RT_pos rt e
        exact (RT_1 rt e hr4).mp (by omega)
    · rw [← e1, Nat.testBit_and, Bool.and_eq_true, hm, Bool.and_eq_true] at hy
      exact hy.2.2
  · rintro ⟨e1, e2⟩
    refine ⟨sub_iff.mpr (fun i hi => ?_), ?_⟩
    · rw [hm, decide_eq_true (in_n hs (rs_low h0 hs4 hi).2.2), e2 i hi]; rfl
    · by_cases e : rsN s = 0
      · rw [e] at rt
        have := (RT_uniq rt RT_0).1
        omega
      · have := (RT_1 rt e hr4).mpr e1
        omega
theorem c_isOne {G : GV} {k n s f w : Nat} {M : Mem} {may : Nat → Nat → Bool} {q : Int32 → Mem → Prop} (hn : n ≤ 12) (h0 : s ≠ 0) (hs : s < 2 ^ n) (hm : MkC may n (M.1 40)) (rt : RT may 0 (rsN s) f w) (rg : M.1 42 (rsN s) = nI f) (h : q (b01 (clqB may s)) M) : Ci shC G mX7_isOne (k + 2) [.ref (G.2.1 9), .int (nI s)] M q := by
  have hs4 : s < 4096 := Nat.lt_of_lt_of_le hs (pow12 hn)
  have hln := in_n hs (low_spec h0 hs4).1
  have hr := rs_lt h0 hs4
  have hf := RT_rs h0 hs4 rt
  obtain ⟨m, hm1, hm2, hm3⟩ := msk_nat hn (hm (lowN s) hln)
  have hc := clq_m hn h0 hs hm3 rt
  have hd := dif_le (rsN s) m
  refine wp_X7_isOne ?_
  rw [low_and h0 hs4, nx_dif, show dif s (2 ^ lowN s) = rsN s from rfl]
  refine c_friends hn hln ?_
  rw [hm2, nx_dif, ix_nI (show rsN s < 2 ^ 31 by omega), rg]
  refine ⟨fun c => ?_, fun c => ⟨vp_in_nI (by omega) (by decide), fun c2 => ?_, fun c2 => ?_⟩⟩
  · cases e : clqB may s with
    | false => rw [e] at h; exact h
    | true =>
      refine absurd ?_ c
      have : dif (rsN s) m = 0 := by
        apply Nat.eq_of_testBit_eq
        intro i
        rw [tb_dif, Nat.zero_testBit]
        cases e2 : (rsN s).testBit i with
        | false => rfl
        | true => rw [sub_iff.mp (hc.mpr e).1 i e2]; rfl
      rw [this]; rfl
  · cases e : clqB may s with
    | false => rw [e] at h; exact h
    | true =>
      have h5 := (hc.mpr e).2
      have h6 := (nI_ltI (a := 1) (by omega) (by omega)).mp c2
      omega
  · have e0 : dif (rsN s) m = 0 := (nI_eq (b := 0) (by omega) (by omega)).mp c
    have e1 : rsN s &&& m = rsN s := sub_iff.mpr (fun i hi => by
      have := tb_dif (rsN s) m i
      rw [e0, Nat.zero_testBit, hi] at this
      cases e : m.testBit i with
      | true => rfl
      | false => rw [e] at this; cases this)
    have e2 : ¬ 1 < f := fun e => c2 (nI_lt (a := 1) e (by omega))
    rw [hc.mp ⟨e1, by omega⟩] at h
    exact h
theorem c_partSet {G : GV} {k n s : Nat} {M : Mem} {may : Nat → Nat → Bool} {fw wy : Nat → Nat} {q : Mem → Prop} (hn : n ≤ 12) (h0 : s ≠ 0) (hs : s < 2 ^ n) (hm : MkC may n (M.1 40)) (ht : TbR may s fw wy (M.1 42) (M.1 43)) (hq : ∀ b c, RT may 0 s b c → q (mset (mset M 42 s (nI b)) 43 s (nI c))) : Cv shC G mX7_partSet (k + 2) [.ref (G.2.1 9), .int (nI s)] M q := by
  have hs4 : s < 4096 := Nat.lt_of_lt_of_le hs (pow12 hn)
  obtain ⟨l1, l2, l3⟩ := low_spec h0 hs4
  have hln : lowN s < n := in_n hs l1
  have vs : vp_in (nI s) 4096 := vp_in_nI hs4 (by decide)
  obtain ⟨m, hm1, hm2, hm3⟩ := msk_nat hn (hm (lowN s) hln)
  have hr := rs_lt h0 hs4
  have hr4 : rsN s < 4096 := by omega
  have vr : vp_in (nI (rsN s)) 4096 := vp_in_nI hr4 (by decide)
  obtain ⟨rt, rg, rh⟩ := ht (rsN s) (sub_iff.mpr (fun i hi => hi))
  have hfr := RT_rs h0 hs4 rt
  obtain ⟨f, hf⟩ : ∃ f, f = rsN s &&& m := ⟨_, rfl⟩
  have hfr2 : f &&& rsN s = f := by rw [hf]; exact sub_iff.mpr (fun i hi => by rw [Nat.testBit_and, Bool.and_eq_true] at hi; exact hi.1)
  have hf4 : f < 4096 := sub_lt hfr2 hr4
  have clq2 := clq_m hn h0 hs hm3 rt
  rw [← hf] at clq2
  -- parts of a person with the least
  have more : ∀ t, okpB may 0 s t = true → dif t (2 ^ lowN s) &&& f = dif t (2 ^ lowN s) ∧ t = 2 ^ lowN s ||| dif t (2 ^ lowN s) := by
    intro t hok
    obtain ⟨a1, a2, a3, _⟩ := okp_iff.mp hok
    refine ⟨sub_iff.mpr (fun i hi => ?_), ?_⟩
    · rw [tb_dif, Nat.testBit_two_pow, Bool.and_eq_true, Bool.not_eq_true', decide_eq_false_iff_not] at hi
      have b1 := sub_iff.mp a1 i hi.1
      have b2 : (rsN s).testBit i = true := by rw [tb_rs, b1, decide_eq_true (Ne.symm hi.2)]; rfl
      obtain ⟨b3, b4, _⟩ := rs_low h0 hs4 b2
      rw [hf, Nat.testBit_and, b2, hm3, decide_eq_true (in_n hs b1), clq_iff.mp a3 _ i l2 b4 b3 a2 hi.1]
      rfl
    · apply Nat.eq_of_testBit_eq
      intro i
      rw [or_low, tb_dif, Nat.testBit_two_pow]
      by_cases e : i = lowN s
      · subst e; rw [a2]; simp
      · simp [e, Ne.symm e]
  have dif_or : ∀ v, v &&& f = v → dif (2 ^ lowN s ||| v) (2 ^ lowN s) = v := by
    intro v hv
    apply Nat.eq_of_testBit_eq
    intro i
    rw [tb_dif, or_low, Nat.testBit_two_pow]
    by_cases e : i = lowN s
    · subst e
      have : v.testBit (lowN s) = false := by
        cases e2 : v.testBit (lowN s) with
        | false => rfl
        | true =>
          have := (rs_low h0 hs4 (sub_iff.mp hfr2 _ (sub_iff.mp hv _ e2))).1
          omega
      rw [this]; simp
    · simp [e, Ne.symm e]
  have loop : ∀ N v b c, v ≤ N → v &&& f = v → InvP may 0 s (fun t => okpB may 0 s t && (decide (t = 2 ^ lowN s) || decide (v < dif t (2 ^ lowN s)))) b c → 0 < c → b ≤ 13 → V shC G mX7_partSet (k + 2) 92 [(0, .ref (G.2.1 9)), (1, .int (nI s)), (2, .int (nI (2 ^ lowN s))), (3, .int (nI (rsN s))), (4, .int (nI f)), (5, .int 0), (6, .int (nI b)), (7, .int (nI c)), (8, .int (nI v))] [] M (Qv q) := by
    intro N
    induction N with
    | zero =>
      intro v b c hv hvf hI hc hb
      obtain rfl : v = 0 := by omega
      refine wp_X7_partSet_92 ⟨fun _ => ⟨vs, vs, ?_⟩, fun cc => absurd (by decide) cc⟩
      rw [ix_nI (show s < 2 ^ 31 by omega), nar_b b (by omega)]
      refine hq b c (Inv_RT h0 (fun t ht4 => ?_) hI hc)
      cases hok : okpB may 0 s t with
      | false => rfl
      | true =>
        rw [Bool.true_and]
        by_cases e : t = 2 ^ lowN s
        · rw [decide_eq_true e]; rfl
        · have : 0 < dif t (2 ^ lowN s) := Nat.pos_of_ne_zero (fun e2 => e (by have := (more t hok).2; rw [e2] at this; simpa using this))
          rw [decide_eq_true this, Bool.or_true]
    | succ N ih =>
      intro v b c hv hvf hI hc hb
      by_cases hv0 : v = 0
      · exact ih v b c (by omega) hvf hI hc hb
      have hv4 : v < 4096 := sub_lt hvf hf4
      have hvr : v &&& rsN s = v := sub_trans hvf hfr2
      obtain ⟨t0, ht0⟩ : ∃ t0, t0 = 2 ^ lowN s ||| v := ⟨_, rfl⟩
      have bits0 : ∀ i, t0.testBit i = (decide (i = lowN s) || v.testBit i) := fun i => by rw [ht0, or_low]
      have sub0 : t0 &&& s = t0 := sub_iff.mpr (fun i hi => by
        rw [bits0, Bool.or_eq_true, decide_eq_true_iff] at hi
        rcases hi with e | e
        · rw [e]; exact l1
        · exact (rs_low h0 hs4 (sub_iff.mp hvr i e)).2.2)
      have low0 : t0.testBit (lowN s) = true := by rw [bits0, decide_eq_true rfl]; rfl
      have t04 : t0 < 4096 := sub_lt sub0 hs4
      have hdl : dif s t0 < s := dif_lt l1 low0
      have hd0 : dif (rsN s) v = dif s t0 := by
        apply Nat.eq_of_testBit_eq
        intro i
        rw [tb_dif, tb_dif, tb_rs, bits0]
        by_cases e : i = lowN s
        · rw [decide_eq_true e, decide_eq_false (show ¬ (i ≠ lowN s) from fun h => h e)]; simp
        · rw [decide_eq_false e, decide_eq_true (show i ≠ lowN s from e)]; simp
      have hds : dif s t0 &&& rsN s = dif s t0 := by rw [← hd0]; exact dif_sub _ _
      obtain ⟨dt, dg, dh⟩ := ht (dif s t0) hds
      obtain ⟨vt, vg, _⟩ := ht v hvr
      have dle := RT_le dt (by omega)
      have vle := RT_le vt hv4
      have dm : dif t0 (2 ^ lowN s) = v := by rw [ht0]; exact dif_or v hvf
      have lt0 : lowN t0 = lowN s := low_uniq t04 low0 (fun j hj => by
        rw [bits0, decide_eq_false (by omega), Bool.false_or]
        cases e : v.testBit j with
        | false => rfl
        | true =>
          have := (rs_low h0 hs4 (sub_iff.mp hvr j e)).1
          omega)
      have hyes : okpB may 0 s t0 = true ↔ fw v ≤ 1 := by
        have h1 := RT_1 vt hv0 hv4
        have h2 := RT_pos vt hv0
        have h3 := clq_rec (may := may) (bit_ne0 low0) t04
        rw [rsN, lt0, dm] at h3
        constructor
        · intro h5
          have := h1.mpr (h3.mp (okp_iff.mp h5).2.2.1).1
          omega
        · intro h5
          refine okp_iff.mpr ⟨sub0, low0, h3.mpr ⟨h1.mp (by omega), fun y hy => ?_⟩, fun h => h.1 (by simp)⟩
          have h6 := sub_iff.mp hvf y hy
          rw [hf, Nat.testBit_and, Bool.and_eq_true, hm3, Bool.and_eq_true] at h6
          exact h6.2.2
      -- the sets that are done behind this one
      have same : okpB may 0 s t0 = false → ∀ t, t < 4096 → (okpB may 0 s t && (decide (t = 2 ^ lowN s) || decide ((v - 1) &&& f < dif t (2 ^ lowN s)))) = (okpB may 0 s t && (decide (t = 2 ^ lowN s) || decide (v < dif t (2 ^ lowN s)))) := by
        intro hno t ht4
        cases hok : okpB may 0 s t with
        | false => rfl
        | true =>
          obtain ⟨m1, m2⟩ := more t hok
          have hne : dif t (2 ^ lowN s) ≠ v := fun e => by
            rw [e] at m2
            rw [m2, ← ht0, hno] at hok; cases hok
          have : ((v - 1) &&& f < dif t (2 ^ lowN s)) ↔ v < dif t (2 ^ lowN s) := by
            have b1 := below_lt (v := v) (f := f) (by omega)
            constructor
            · intro h5
              rcases Nat.lt_or_ge v (dif t (2 ^ lowN s)) with h6 | h6
              · exact h6
              · have := below v v f _ (Nat.le_refl _) hvf m1 (by omega)
                omega
            · intro h5; omega
          rw [decide_eq_decide.mpr this]
      have adds : okpB may 0 s t0 = true → ∀ t, t < 4096 → (okpB may 0 s t && (decide (t = 2 ^ lowN s) || decide ((v - 1) &&& f < dif t (2 ^ lowN s)))) = ((okpB may 0 s t && (decide (t = 2 ^ lowN s) || decide (v < dif t (2 ^ lowN s)))) || decide (t = t0)) := by
        intro hyes t ht4
        by_cases e : t = t0
        · rw [e, hyes, dm, decide_eq_true (below_lt (v := v) (f := f) (by omega))]
          simp
        · rw [decide_eq_false e, Bool.or_false]
          cases hok : okpB may 0 s t with
          | false => rfl
          | true =>
            obtain ⟨m1, m2⟩ := more t hok
            have hne : dif t (2 ^ lowN s) ≠ v := fun e2 => by
              rw [e2, ← ht0] at m2
              exact e m2
            have : ((v - 1) &&& f < dif t (2 ^ lowN s)) ↔ v < dif t (2 ^ lowN s) := by
              have b1 := below_lt (v := v) (f := f) (by omega)
              constructor
              · intro h5
                rcases Nat.lt_or_ge v (dif t (2 ^ lowN s)) with h6 | h6
                · exact h6
                · have := below v v f _ (Nat.le_refl _) hvf m1 (by omega)
                  omega
              · intro h5; omega
            rw [decide_eq_decide.mpr this]
      have D0 : (okpB may 0 s t0 && (decide (t0 = 2 ^ lowN s) || decide (v < dif t0 (2 ^ lowN s)))) = false := by
        rw [dm, decide_eq_false (Nat.lt_irrefl v), decide_eq_false (fun e => ?_)]
        · simp
        · rw [e, dif_self] at dm
          exact hv0 dm.symm
      have nxt : ∀ b' c', InvP may 0 s (fun t => okpB may 0 s t && (decide (t = 2 ^ lowN s) || decide ((v - 1) &&& f < dif t (2 ^ lowN s)))) b' c' → 0 < c' → b' ≤ 13 → V shC G mX7_partSet (k + 2) 92 [(0, .ref (G.2.1 9)), (1, .int (nI s)), (2, .int (nI (2 ^ lowN s))), (3, .int (nI (rsN s))), (4, .int (nI f)), (5, .int 0), (6, .int (nI b')), (7, .int (nI c')), (8, .int (nI ((v - 1) &&& f)))] [] M (Qv q) := fun b' c' i1 i2 i4 => ih _ b' c' (by have := below_lt (v := v) (f := f) (by omega); omega) (below_sub v f) i1 i2 i4
      have vv : vp_in (nI v) 4096 := vp_in_nI hv4 (by decide)
      have vd : vp_in (nI (dif s t0)) 4096 := vp_in_nI (by omega) (by decide)
      refine wp_X7_partSet_92 ⟨fun cc => absurd cc (nI_nle (by omega) (by omega)), fun _ => ?_⟩
      rw [nx_dif, hd0, nI_s1 v (by omega), nx_and, ix_nI (show v < 2 ^ 31 by omega), ix_nI (show dif s t0 < 2 ^ 31 by omega), vg, dg, dh, nI_1, Int32.zero_add, nI_add]
      refine ⟨vv, fun c5 => ?_, fun c5 => ?_⟩
      · have hy := hyes.mpr ((nI_leI (b := 1) (by omega) (by omega)).mp c5)
        refine ⟨vd, fun c6 => ⟨vd, fun c7 => ?_, fun c7 => ⟨vd, ?_⟩⟩, fun c6 => ⟨vd, vd, fun c7 => absurd rfl c7, fun _ => ⟨vd, ?_⟩⟩⟩
        · have a1 := (nI_leI (by omega) (by omega)).mp c6
          have a2 : fw (dif s t0) + 1 ≠ b := fun e => c7 (by rw [e])
          exact nxt _ _ (Inv_gt t04 D0 (adds hy) hI dt (by omega)) hc hb
        · have a1 := (nI_eq (by omega) (by omega)).mp c7
          exact nxt _ _ (Inv_eq t04 D0 (adds hy) hI dt a1) (by omega) hb
        · have a1 : ¬ b ≤ fw (dif s t0) + 1 := fun e => c6 (nI_le e (by omega))
          exact nxt _ _ (Inv_lt t04 D0 (adds hy) hI dt (by omega)) dt.2.2 (by omega)
      · have hno : okpB may 0 s t0 = false := by
          cases h5 : okpB may 0 s t0 with
          | false => rfl
          | true => exact absurd (nI_le (b := 1) (hyes.mp h5) (by omega)) c5
        exact nxt b c (Inv_same (same hno) hI) hc hb
  have hsub : 2 ^ lowN s &&& s = 2 ^ lowN s := sub_iff.mpr (fun i hi => by
    rw [Nat.testBit_two_pow, decide_eq_true_iff] at hi
    rw [← hi]; exact l1)
  have hls := sub_le hsub
  have main : V shC G mX7_partSet (k + 2) 92 [(0, .ref (G.2.1 9)), (1, .int (nI s)), (2, .int (nI (2 ^ lowN s))), (3, .int (nI (rsN s))), (4, .int (nI f)), (5, .int 0), (6, .int (nI (fw (rsN s) + 1))), (7, .int (nI (wy (rsN s)))), (8, .int (nI f))] [] M (Qv q) := by
    have ok1 : okpB may 0 s (2 ^ lowN s) = true := okp_iff.mpr ⟨hsub, Nat.testBit_two_pow_self, clq_1 _, fun h => h.1 (by simp)⟩
    refine loop f f _ _ (Nat.le_refl _) (sub_iff.mpr (fun i hi => hi)) ?_ rt.2.2 (by omega)
    have hI0 : InvP may 0 s (fun _ => false) 14 0 := ⟨by decide, fun k _ => sumB_0 (fun t _ => rfl), sumB_0 (fun t _ => rfl)⟩
    refine Inv_lt (t0 := 2 ^ lowN s) (D := fun _ => false) (by omega) rfl (fun t ht4 => ?_) hI0 rt (by omega)
    rw [Bool.false_or]
    by_cases e : t = 2 ^ lowN s
    · rw [e, ok1, decide_eq_true rfl]; rfl
    · rw [decide_eq_false e]
      cases hok : okpB may 0 s t with
      | false => rfl
      | true =>
        have := sub_le (more t hok).1
        rw [decide_eq_false (by omega)]; rfl
  refine wp_X7_partSet ?_
  rw [low_and h0 hs4, nx_dif, show dif s (2 ^ lowN s) = rsN s from rfl]
  refine c_friends hn hln ?_
  rw [hm2, nx_and, ← hf, ix_nI (show rsN s < 2 ^ 31 by omega), rg, rh, nI_1]
  refine ⟨fun _ => ⟨vr, vr, main⟩, fun c => ⟨vr, fun _ => ⟨vr, vr, main⟩, fun c2 => ?_⟩⟩
  have e1 : f = rsN s := (nI_eq (by omega) (by omega)).mp c
  have e2 : ¬ 1 < fw (rsN s) := fun e => c2 (nI_lt (a := 1) e (by omega))
  refine wp_X7_partSet_92 ⟨fun _ => ⟨vs, vs, ?_⟩, fun cc => absurd (by decide) cc⟩
  rw [ix_nI (show s < 2 ^ 31 by omega), show vp_nar .byte ((Int32.toInt8 1).toInt32) = nI 1 from nar_b 1 (by decide)]
  exact hq 1 1 (RT_clq h0 hs4 (clq2.mp ⟨e1, by omega⟩))
