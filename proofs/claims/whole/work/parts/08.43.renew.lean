/-! who is picked first; the class's tables renewed -/
theorem sumB_ge {f : Nat → Nat} {n t : Nat} (h : t < n) : f t ≤ sumB f n := by
  induction n with
  | zero => omega
  | succ n ih =>
    rw [sumB]
    rcases Nat.lt_or_ge t n with h1 | h1
    · have := ih h1; omega
    · obtain rfl : t = n := by omega
      omega
theorem fnd_none {p : Nat → Bool} {m : Nat} (h : ∀ t, t < m → p t = false) : fndB p m 0 = m := by
  obtain ⟨h1, h2, h3, h4⟩ := fnd_spec p m 0
  rcases Nat.lt_or_ge (fndB p m 0) m with h5 | h5
  · have := h4 (by omega)
    rw [h _ h5] at this; cases this
  · omega
theorem fnd_at {p : Nat → Bool} {m x : Nat} (h : ∀ t, t < x → p t = false) (hx : p x = true) (hm : x < m) : fndB p m 0 = x := by
  obtain ⟨h1, h2, h3, h4⟩ := fnd_spec p m 0
  rcases Nat.lt_trichotomy (fndB p m 0) x with h5 | h5 | h5
  · have := h4 (by omega)
    rw [h _ h5] at this; cases this
  · exact h5
  · have := h3 x (by omega) h5
    rw [hx] at this; cases this
theorem okp_none {may : Nat → Nat → Bool} {s t : Nat} (h1 : t &&& s = t) (h2 : t.testBit (lowN s) = true) (h3 : clqB may t = true) : okpB may 0 s t = true := okp_iff.mpr ⟨h1, h2, h3, fun h => h.1 (by simp)⟩
/-- the right tables below 2 ^ n -/
def TbP (may : Nat → Nat → Bool) (n : Nat) (fw wy : Nat → Nat) : Prop := ∀ t, t < 2 ^ n → RT may 0 t (fw t) (wy t)
theorem pick_ok {may : Nat → Nat → Bool} {n s : Nat} {fw wy : Nat → Nat} (hn : n ≤ 12) (h0 : s ≠ 0) (hs : s < 2 ^ n) (hT : TbP may n fw wy) : okpB may 0 s (pickS may fw s) = true ∧ fw (dif s (pickS may fw s)) + 1 = fw s := by
  have hs4 : s < 4096 := Nat.lt_of_lt_of_le hs (pow12 hn)
  have rs := hT s hs
  have hp := RT_pos rs h0
  have hc : cntP may 0 (fw s - 1 + 1) s ≠ 0 := by
    rw [show fw s - 1 + 1 = fw s by omega, rs.2.1]
    have := rs.2.2; omega
  rw [cnt_s h0] at hc
  obtain ⟨t, ht, hne⟩ := sumB_ne hc
  have hok : okpB may 0 s t = true := by
    cases e : okpB may 0 s t with
    | true => rfl
    | false => rw [e] at hne; exact absurd rfl hne
  rw [if_pos hok] at hne
  have hdl := okp_dif_lt h0 hs4 hok
  have rd := hT (dif s t) (by omega)
  have h1 : fw (dif s t) + 1 = fw s := by
    rcases Nat.lt_trichotomy (fw (dif s t) + 1) (fw s) with h5 | h5 | h5
    · exfalso
      have h6 := rs.1 (fw (dif s t) + 1) h5
      rw [cnt_s h0] at h6
      have h7 := sumB_ge (f := fun t => if okpB may 0 s t then cntP may 0 (fw (dif s t)) (dif s t) else 0) ht
      have h8 : sumB (fun u => if okpB may 0 s u then cntP may 0 (fw (dif s t)) (dif s u) else 0) 4096 ≠ 0 := by
        have h9 := sumB_ge (f := fun u => if okpB may 0 s u then cntP may 0 (fw (dif s t)) (dif s u) else 0) ht
        simp only [hok, if_true, rd.2.1] at h9
        have := rd.2.2
        omega
      exact h8 h6
    · exact h5
    · exact absurd (rd.1 (fw s - 1) (by omega)) hne
  have pt : (fun t => okpB may 0 s t && decide (fw (dif s t) + 1 = fw s)) t = true := by
    show (okpB may 0 s t && decide (fw (dif s t) + 1 = fw s)) = true
    rw [hok, decide_eq_true h1]; rfl
  have hts : t ≤ s := sub_le (okp_iff.mp hok).1
  have hp2 : (fun t => okpB may 0 s t && decide (fw (dif s t) + 1 = fw s)) (pickS may fw s) = true := by
    obtain ⟨a1, a2, a3, a4⟩ := fnd_spec (fun t => okpB may 0 s t && decide (fw (dif s t) + 1 = fw s)) s 0
    rcases Nat.lt_or_ge (pickS may fw s) s with h5 | h5
    · exact a4 (by rw [Nat.zero_add]; exact h5)
    · have e : pickS may fw s = s := Nat.le_antisymm (by rw [Nat.zero_add] at a2; exact a2) h5
      rcases Nat.lt_or_ge t s with h6 | h6
      · have := a3 t (Nat.zero_le _) (show t < pickS may fw s by omega)
        exact absurd (pt.symm.trans this) (by decide)
      · obtain rfl : t = s := by omega
        rw [e]; exact pt
  have hp3 : (okpB may 0 s (pickS may fw s) && decide (fw (dif s (pickS may fw s)) + 1 = fw s)) = true := hp2
  rw [Bool.and_eq_true, decide_eq_true_iff] at hp3
  exact hp3
theorem and_pow {x l : Nat} : x &&& 2 ^ l = 0 ↔ x.testBit l = false := by
  rw [and0_iff]
  constructor
  · intro h
    cases e : x.testBit l with
    | false => rfl
    | true => exact absurd ⟨e, Nat.testBit_two_pow_self⟩ (h l)
  · rintro h i ⟨h1, h2⟩
    rw [Nat.testBit_two_pow, decide_eq_true_iff] at h2
    subst h2
    rw [h] at h1; cases h1
theorem dif_0iff {x s : Nat} : dif x s = 0 ↔ x &&& s = x := by
  constructor
  · intro h
    refine sub_iff.mpr (fun i hi => ?_)
    have := tb_dif x s i
    rw [h, Nat.zero_testBit, hi] at this
    cases e : s.testBit i with
    | true => rfl
    | false => rw [e] at this; cases this
  · intro h
    apply Nat.eq_of_testBit_eq
    intro i
    rw [tb_dif, Nat.zero_testBit]
    cases e : x.testBit i with
    | false => rfl
    | true => rw [sub_iff.mp h i e]; rfl
theorem cnt_exC {may : Nat → Nat → Bool} : ∀ N s, s < N → s < 4096 → ∃ k, cntP may 0 k s ≠ 0 := by
  intro N
  induction N with
  | zero => intro s h; omega
  | succ N ih =>
    intro s hN hs
    by_cases h0 : s = 0
    · refine ⟨0, ?_⟩
      rw [cntP, if_pos h0]
      decide
    · have hr := rs_lt h0 hs
      obtain ⟨l1, l2, l3⟩ := low_spec h0 hs
      obtain ⟨k, hk⟩ := ih (rsN s) (by omega) (by omega)
      refine ⟨k + 1, fun e => hk ?_⟩
      rw [cnt_s h0] at e
      have hsub : 2 ^ lowN s &&& s = 2 ^ lowN s := sub_iff.mpr (fun i hi => by
        rw [Nat.testBit_two_pow, decide_eq_true_iff] at hi
        rw [← hi]; exact l1)
      have hok : okpB may 0 s (2 ^ lowN s) = true := okp_none hsub Nat.testBit_two_pow_self (clq_1 _)
      have h5 := sumB_ge (f := fun t => if okpB may 0 s t then cntP may 0 k (dif s t) else 0) (sub_lt hsub hs)
      rw [e] at h5
      simp only [hok, if_true] at h5
      exact Nat.le_zero.mp h5
theorem least_ex {p : Nat → Nat} (h : ∃ k, p k ≠ 0) : ∃ k, p k ≠ 0 ∧ ∀ j, j < k → p j = 0 := by
  obtain ⟨k, hk⟩ := h
  have go : ∀ N k, k < N → p k ≠ 0 → ∃ k, p k ≠ 0 ∧ ∀ j, j < k → p j = 0 := by
    intro N
    induction N with
    | zero => intro k h; omega
    | succ N ih =>
      intro k hN hk
      by_cases h : ∃ j, j < k ∧ p j ≠ 0
      · obtain ⟨j, hj, hp⟩ := h
        exact ih j (by omega) hp
      · exact ⟨k, hk, fun j hj => Classical.byContradiction (fun e => h ⟨j, hj, e⟩)⟩
  exact go (k + 1) k (Nat.lt_succ_self k) hk
/-- each set can be parted -/
theorem RT_ex (may : Nat → Nat → Bool) : ∃ fw wy : Nat → Nat, ∀ s, s < 4096 → RT may 0 s (fw s) (wy s) := by
  have h : ∀ s : Nat, ∃ f : Nat, s < 4096 → RT may 0 s f (cntP may 0 f s) := fun s => by
    by_cases hs : s < 4096
    · obtain ⟨k, h1, h2⟩ := least_ex (cnt_exC (may := may) (s + 1) s (by omega) hs)
      exact ⟨k, fun _ => ⟨h2, rfl, Nat.pos_of_ne_zero h1⟩⟩
    · exact ⟨0, fun h => absurd h hs⟩
  obtain ⟨fw, hf⟩ := Classical.axiomOfChoice h
  exact ⟨fw, fun s => cntP may 0 (fw s) s, hf⟩
/-- the class's tables -/
def TbE (may : Nat → Nat → Bool) (n : Nat) (fw wy : Nat → Nat) (g h : Nat → Int32) : Prop := ∀ t, t < 2 ^ n → RT may 0 t (fw t) (wy t) ∧ TE n t (fw t) (wy t) (g t) (h t)
theorem TE_even {n s f w : Nat} {x y : Int32} (h : TE n s f w x y) (hs : s.testBit 0 = false) : x = nI f ∧ y = nI w := by
  rcases h with h | h
  · exact h
  · rw [hs] at h; cases h.1
theorem TE_all {n s f w : Nat} {x y : Int32} (h : TE n s f w x y) (hs : s + 1 = 2 ^ n) : x = nI f ∧ y = nI w := by
  rcases h with h | h
  · exact h
  · exact absurd hs h.2.1
theorem TE_ne {n s f w : Nat} {x y : Int32} (h : TE n s f w x y) (hx : x ≠ 0) : x = nI f ∧ y = nI w := by
  rcases h with h | h
  · exact h
  · exact absurd h.2.2 hx
theorem rs_0 {s : Nat} (h0 : s ≠ 0) (h : s < 4096) : (rsN s).testBit 0 = false := by
  cases e : (rsN s).testBit 0 with
  | false => rfl
  | true => have := (rs_low h0 h e).1; omega
theorem sub_0 {t r : Nat} (h : t &&& r = t) (hr : r.testBit 0 = false) : t.testBit 0 = false := by
  cases e : t.testBit 0 with
  | false => rfl
  | true => rw [sub_iff.mp h 0 e] at hr; cases hr
theorem dif_ev {s x : Nat} (hs : s < 4096) (hx : x.testBit (lowN s) = true) : (dif s x).testBit 0 = false := by
  rw [tb_dif]
  cases e : s.testBit 0 with
  | false => rfl
  | true =>
    have : lowN s = 0 := low_uniq hs e (fun j hj => absurd hj (Nat.not_lt_zero _))
    rw [this] at hx
    rw [hx]; rfl
theorem TbE_R {may : Nat → Nat → Bool} {n s : Nat} {fw wy : Nat → Nat} {g h : Nat → Int32} (hn : n ≤ 12) (h0 : s ≠ 0) (hs : s < 2 ^ n) (ht : TbE may n fw wy g h) : TbR may s fw wy g h := fun t hts => by
  have hs4 : s < 4096 := Nat.lt_of_lt_of_le hs (pow12 hn)
  have hr := rs_lt h0 hs4
  have h5 := ht t (Nat.lt_of_le_of_lt (sub_le hts) (by omega))
  exact ⟨h5.1, TE_even h5.2 (sub_0 hts (rs_0 h0 hs4))⟩
theorem TbE_upd {may : Nat → Nat → Bool} {n d : Nat} {fw wy : Nat → Nat} {g h : Nat → Int32} (ht : TbE may n fw wy g h) : TbE may n fw wy (upd g d (nI (fw d))) (upd h d (nI (wy d))) := fun t ht2 => by
  refine ⟨(ht t ht2).1, ?_⟩
  by_cases e : t = d
  · rw [e]
    exact Or.inl ⟨upd_at _ _ _, upd_at _ _ _⟩
  · rw [upd_ne _ _ e, upd_ne _ _ e]
    exact (ht t ht2).2
theorem c_leastP {G : GV} {k n s : Nat} {M : Mem} {may : Nat → Nat → Bool} {fw wy : Nat → Nat} {q : Int32 → Mem → Prop} (hn : n ≤ 12) (h0 : s ≠ 0) (hs : s < 2 ^ n) (hk : s.testBit 0 = false ∨ s + 1 = 2 ^ n) (hm : MkC may n (M.1 40)) (ht : TbE may n fw wy (M.1 42) (M.1 43)) (hq : q (nI (pickS may fw s)) M) : Ci shC G mX7_leastPerson (k + 3) [.ref (G.2.1 9), .int (nI s)] M q := by
  have hs4 : s < 4096 := Nat.lt_of_lt_of_le hs (pow12 hn)
  obtain ⟨l1, l2, l3⟩ := low_spec h0 hs4
  have vs : vp_in (nI s) 4096 := vp_in_nI hs4 (by decide)
  have hls : 2 ^ lowN s ≤ s := by
    rcases Nat.lt_or_ge s (2 ^ lowN s) with h5 | h5
    · rw [Nat.testBit_lt_two_pow h5] at l1; cases l1
    · exact h5
  have fs := RT_le (ht s hs).1 hs4
  have gs : M.1 42 s = nI (fw s) := by
    rcases hk with h5 | h5
    · exact (TE_even (ht s hs).2 h5).1
    · exact (TE_all (ht s hs).2 h5).1
  have loop : ∀ m x, x + m = s → 2 ^ lowN s ≤ x → (∀ t, t < x → (okpB may 0 s t && decide (fw (dif s t) + 1 = fw s)) = false) → V shC G mX7_leastPerson (k + 3) 7 [(0, .ref (G.2.1 9)), (1, .int (nI s)), (2, .int (nI (2 ^ lowN s))), (3, .int (nI x))] [] M (Qi q) := by
    intro m
    induction m with
    | zero =>
      intro x hx hlx hno
      obtain rfl : x = s := by omega
      rw [show pickS may fw x = x from fnd_none hno] at hq
      exact wp_X7_leastPerson_7 ⟨fun _ => hq, fun c => absurd (nI_le (Nat.le_refl _) (by omega)) c⟩
    | succ m ih =>
      intro x hx hlx hno
      have hxs : x < s := by omega
      have nx : (okpB may 0 s x && decide (fw (dif s x) + 1 = fw s)) = false → V shC G mX7_leastPerson (k + 3) 7 [(0, .ref (G.2.1 9)), (1, .int (nI s)), (2, .int (nI (2 ^ lowN s))), (3, .int (nI (x + 1)))] [] M (Qi q) := fun e => ih (x + 1) (by omega) (by omega) (upto hno e)
      have hdx : dif s x ≤ s := dif_le s x
      have rd := (ht (dif s x) (by omega)).1
      have fd := RT_le rd (by omega)
      refine wp_X7_leastPerson_7 ⟨fun c => absurd c (nI_ge hxs (by omega)), fun _ => ?_⟩
      rw [nx_and, nx_dif, nx_dif, nI_1 x, ix_nI (show dif s x < 2 ^ 31 by omega), ix_nI (show s < 2 ^ 31 by omega), gs]
      have hand : x &&& 2 ^ lowN s ≤ x := Nat.and_le_left
      have hdx2 : dif x s ≤ x := dif_le x s
      refine ⟨fun c => nx ?_, fun c => ?_⟩
      · have h5 : x &&& 2 ^ lowN s = 0 := (nI_eq (b := 0) (by omega) (by omega)).mp c
        rw [and_pow] at h5
        cases e : okpB may 0 s x with
        | false => rfl
        | true => rw [(okp_iff.mp e).2.1] at h5; cases h5
      · have b1 : x.testBit (lowN s) = true := by
          cases e : x.testBit (lowN s) with
          | true => rfl
          | false => exact absurd (by rw [and_pow.mpr e]; rfl) c
        have gd := (TE_even (ht (dif s x) (by omega)).2 (dif_ev hs4 b1)).1
        have hx0 := bit_ne0 b1
        obtain ⟨rr, rg, _⟩ := TbE_R hn hx0 (show x < 2 ^ n by omega) ht (rsN x) (sub_iff.mpr (fun i hi => hi))
        rw [gd, nI_1]
        refine ⟨fun c2 => ⟨vp_in_nI (by omega) (by decide), vs, fun c4 => nx ?_, fun c4 => c_isOne hn hx0 (by omega) hm rr rg ?_⟩, fun c2 => nx ?_⟩
        · rw [decide_eq_false (fun e => c4 (by rw [e])), Bool.and_false]
        · cases hc : clqB may x with
          | false =>
            refine k0 (nx ?_)
            cases e : okpB may 0 s x with
            | false => rfl
            | true => rw [(okp_iff.mp e).2.2.1] at hc; cases hc
          | true =>
            refine k1 ?_
            have b2 : x &&& s = x := dif_0iff.mp ((nI_eq (b := 0) (by omega) (by omega)).mp c2)
            have b4 : fw (dif s x) + 1 = fw s := (nI_eq (by omega) (by omega)).mp c4
            have hok := okp_none b2 b1 hc
            rw [show pickS may fw s = x from fnd_at hno (by show (okpB may 0 s x && decide (fw (dif s x) + 1 = fw s)) = true; rw [hok, decide_eq_true b4]; rfl) hxs] at hq
            exact hq
        · cases e : okpB may 0 s x with
          | false => rfl
          | true => exact absurd (by rw [dif_0iff.mpr (okp_iff.mp e).1]; rfl) c2
  refine wp_X7_leastPerson ?_
  rw [low_and h0 hs4]
  refine loop (s - 2 ^ lowN s) (2 ^ lowN s) (by omega) (Nat.le_refl _) (fun t htl => ?_)
  cases e : okpB may 0 s t with
  | false => rfl
  | true =>
    have := (okp_iff.mp e).2.1
    rw [Nat.testBit_lt_two_pow htl] at this; cases this
theorem c_pickFirst {G : GV} {k n : Nat} {M : Mem} {may : Nat → Nat → Bool} {fw wy : Nat → Nat} {q : Mem → Prop} (hn : n ≤ 12) (e6 : M.1 6 8 = nI n) (hm : MkC may n (M.1 40)) (ht : TbE may n fw wy (M.1 42) (M.1 43)) (hq : ∀ f, (∀ l, l < n → f l = nI (prsS may fw l 12 (2 ^ n - 1))) → q (aset M 41 f)) : Cv shC G mX7_pickFirst (k + 4) [.ref (G.2.1 9)] M q := by
  have hP : TbP may n fw wy := fun t h => (ht t h).1
  have h2n : 0 < 2 ^ n := Nat.pow_pos (by decide)
  have h4n := pow12 hn
  have outer : ∀ m j s f, j + m = 12 → s < 2 ^ n → (s.testBit 0 = false ∨ s + 1 = 2 ^ n) → (∀ i, i < j → s.testBit i = false) → (∀ l, l < n → (s.testBit l = true → prsS may fw l (12 - j) s = prsS may fw l 12 (2 ^ n - 1)) ∧ (s.testBit l = false → f l = nI (prsS may fw l 12 (2 ^ n - 1)))) → V shC G mX7_pickFirst (k + 4) 7 [(0, .ref (G.2.1 9)), (1, .int (nI s)), (2, .int (nI j))] [] (aset M 41 f) (Qv q) := by
    intro m
    induction m with
    | zero =>
      intro j s f hj hs hk hlow hI
      obtain rfl : j = 12 := by omega
      refine wp_X7_pickFirst_7 ⟨fun _ => hq f (fun l hl => (hI l hl).2 (hlow l (by omega))), fun c => absurd (by decide) c⟩
    | succ m ih =>
      intro j s f hj hs hk hlow hI
      refine wp_X7_pickFirst_7 ⟨fun c => absurd c (nI_ge (b := 12) (by omega) (by decide)), fun _ => ⟨fun c => ?_, fun c => ?_⟩⟩
      · have h0 : s = 0 := (nI_eq (b := 0) (by omega) (by omega)).mp c
        refine hq f (fun l hl => (hI l hl).2 ?_)
        rw [h0, Nat.zero_testBit]
      · have h0 : s ≠ 0 := fun e => c (by rw [e]; rfl)
        have hs4 : s < 4096 := by omega
        obtain ⟨l1, l2, l3⟩ := low_spec h0 hs4
        obtain ⟨po, pf⟩ := pick_ok hn h0 hs hP
        obtain ⟨p1, p2, p3, _⟩ := okp_iff.mp po
        refine c_leastP (M := aset M 41 f) hn h0 hs hk hm ht ?_
        obtain ⟨P, hPe⟩ : ∃ P, P = pickS may fw s := ⟨_, rfl⟩
        rw [← hPe] at p1 p2 ⊢
        have hPs : P < 2 ^ n := sub_lt p1 hs
        have hdl : dif s P < s := dif_lt l1 p2
        have inner : ∀ m2 i f2, i + m2 = n → (∀ l, l < n → f2 l = if l < i ∧ P.testBit l = true then nI P else f l) → V shC G mX7_pickFirst (k + 4) 26 [(0, .ref (G.2.1 9)), (1, .int (nI s)), (2, .int (nI j)), (3, .int (nI P)), (4, .int (nI i))] [] (aset M 41 f2) (Qv q) := by
          intro m2
          induction m2 with
          | zero =>
            intro i f2 hi hf2
            obtain rfl : i = n := by omega
            refine wp_X7_pickFirst_26 ⟨fun _ => ?_, fun c => absurd (show (aset M 41 f2).1 6 8 ≤ nI i from by rw [show (aset M 41 f2).1 6 8 = nI i from e6]; exact nI_le (Nat.le_refl _) (by omega)) c⟩
            rw [nx_dif, nI_1 j]
            refine ih (j + 1) (dif s P) f2 (by omega) (by omega) (Or.inl (dif_ev hs4 p2)) (fun a ha => ?_) (fun l hl => ⟨fun hb => ?_, fun hb => ?_⟩)
            · rw [tb_dif]
              rcases Nat.lt_or_ge a j with h5 | h5
              · rw [hlow a h5]; rfl
              · obtain rfl : a = j := by omega
                cases e : s.testBit a with
                | false => rfl
                | true =>
                  have : lowN s = a := low_uniq hs4 e hlow
                  rw [← this, p2]; simp
            · rw [tb_dif, Bool.and_eq_true, Bool.not_eq_true'] at hb
              have h5 := (hI l hl).1 hb.1
              rw [show 12 - j = (12 - (j + 1)) + 1 by omega, prsS, ← hPe, if_neg (by rw [hb.2]; decide)] at h5
              exact h5
            · rw [hf2 l hl]
              by_cases hPl : P.testBit l = true
              · rw [if_pos ⟨hl, hPl⟩]
                have h5 := (hI l hl).1 (sub_iff.mp p1 l hPl)
                rw [show 12 - j = (12 - (j + 1)) + 1 by omega, prsS, ← hPe, if_pos hPl] at h5
                rw [h5]
              · rw [if_neg (fun e => hPl e.2)]
                refine (hI l hl).2 ?_
                rw [tb_dif] at hb
                cases e : s.testBit l with
                | false => rfl
                | true =>
                  rw [e, Bool.true_and, Bool.not_eq_false'] at hb
                  exact absurd hb hPl
          | succ m2 ih2 =>
            intro i f2 hi hf2
            have hin : i < n := by omega
            refine wp_X7_pickFirst_26 ⟨fun c => absurd c (by rw [show (aset M 41 f2).1 6 8 = nI n from e6]; exact nI_ge hin (by omega)), fun _ => ?_⟩
            rw [nI_1 i, ix_nI (show i < 2 ^ 31 by omega), mset_aset]
            refine ⟨fun c => ih2 (i + 1) f2 (by omega) (fun l hl => ?_), fun c => ⟨vp_in_nI (by omega) (by decide), ih2 (i + 1) _ (by omega) (fun l hl => ?_)⟩⟩
            · have hb : P.testBit i = false := by
                cases e : P.testBit i with
                | false => rfl
                | true => exact absurd ((bit1 _ (by omega)).mpr (by rw [b_nI _ (by omega)]; exact e)) c
              rw [hf2 l hl]
              by_cases e : l = i
              · subst e
                rw [if_neg (fun h => by omega), if_neg (fun h => by rw [hb] at h; cases h.2)]
              · by_cases h5 : l < i ∧ P.testBit l = true
                · rw [if_pos h5, if_pos ⟨by omega, h5.2⟩]
                · rw [if_neg h5, if_neg (fun h => h5 ⟨by omega, h.2⟩)]
            · have hb : P.testBit i = true := by
                have := (bit1 _ (by omega)).mp c
                rw [b_nI _ (by omega)] at this; exact this
              by_cases e : l = i
              · subst e
                rw [upd_at, if_pos ⟨by omega, hb⟩]
              · rw [upd_ne _ _ e, hf2 l hl]
                by_cases h5 : l < i ∧ P.testBit l = true
                · rw [if_pos h5, if_pos ⟨by omega, h5.2⟩]
                · rw [if_neg h5, if_neg (fun h => h5 ⟨by omega, h.2⟩)]
        exact inner n 0 f (by omega) (fun l hl => by rw [if_neg (fun h => by omega)])
  refine wp_X7_pickFirst (wp_X7_all ?_)
  rw [e6, all_n n (by omega)]
  have h5 := outer 12 0 (2 ^ n - 1) (M.1 41) (by omega) (by omega) (Or.inr (by omega)) (fun i hi => absurd hi (Nat.not_lt_zero _)) (fun l hl => ⟨fun _ => rfl, fun hb => by rw [Nat.testBit_two_pow_sub_one, decide_eq_true hl] at hb; cases hb⟩)
  rw [aset_self] at h5
  exact h5
theorem c_findWho {G : GV} {k : Nat} {M : Mem} {d : Nat → Nat → Int32} {q : Mem → Prop} (hW : WFm d) (hT : TieC (kC M.1) d) (hq : ∀ f, MkC (mayS d) (ix (d 0 10)) f → q (aset M 40 f)) : Cv shC G mX7_findWhoMayBeOne (k + 3) [.ref (G.2.1 9)] M q := by
  obtain ⟨n, hnn⟩ : ∃ n, n = ix (d 0 10) := ⟨_, rfl⟩
  have hn : n ≤ 12 := by rw [hnn]; exact hW.2.1.2
  have e6 : M.1 6 8 = nI n := by rw [hnn]; exact Eq.trans hT.1.2.1 hW.2.1.1
  rw [← hnn] at hq
  have outer : ∀ m i f, i + m = n → (∀ l, l < i → ∀ j, j < 32 → bt (f l) j = (decide (j < n) && mayS d l j)) → V shC G mX7_findWhoMayBeOne (k + 3) 2 [(0, .ref (G.2.1 9)), (1, .int (nI i))] [] (aset M 40 f) (Qv q) := by
    intro m
    induction m with
    | zero =>
      intro i f hi hf
      obtain rfl : i = n := by omega
      exact wp_X7_findWhoMayBeOne_2 ⟨fun _ => hq f hf, fun c => absurd (show (aset M 40 f).1 6 8 ≤ nI i from by rw [show (aset M 40 f).1 6 8 = nI i from e6]; exact nI_le (Nat.le_refl _) (by omega)) c⟩
    | succ m ih =>
      intro i f hi hf
      have hin : i < n := by omega
      have inner : ∀ m2 j f, j + m2 = n → (∀ l, l < i → ∀ j, j < 32 → bt (f l) j = (decide (j < n) && mayS d l j)) → (∀ b, b < 32 → bt (f i) b = (decide (b < j) && mayS d i b)) → V shC G mX7_findWhoMayBeOne (k + 3) 22 [(0, .ref (G.2.1 9)), (1, .int (nI i)), (2, .int (nI j))] [] (aset M 40 f) (Qv q) := by
        intro m2
        induction m2 with
        | zero =>
          intro j f hj hf1 hf2
          obtain rfl : j = n := by omega
          refine wp_X7_findWhoMayBeOne_22 ⟨fun _ => ?_, fun c => absurd (show (aset M 40 f).1 6 8 ≤ nI j from by rw [show (aset M 40 f).1 6 8 = nI j from e6]; exact nI_le (Nat.le_refl _) (by omega)) c⟩
          rw [nI_1 i]
          exact ih (i + 1) f (by omega) (upto hf1 hf2)
        | succ m2 ih2 =>
          intro j f hj hf1 hf2
          have hjn : j < n := by omega
          have hT' : TieC (kC (aset M 40 f).1) d := hT
          refine wp_X7_findWhoMayBeOne_22 ⟨fun c => absurd c (by rw [show (aset M 40 f).1 6 8 = nI n from e6]; exact nI_ge hjn (by omega)), fun _ => c_mayBeOne hW hT' (by omega) (by omega) ?_⟩
          rw [nI_1 j, ix_nI (show i < 2 ^ 31 by omega), mset_aset, show (aset M 40 f).1 40 = f from rfl]
          cases hb : mayS d i j with
          | false =>
            refine k0 (ih2 (j + 1) f (by omega) hf1 (fun b hb32 => ?_))
            rw [hf2 b hb32]
            by_cases e : b = j
            · subst e; rw [hb]; simp
            · have : (b < j) ↔ (b < j + 1) := by omega
              rw [decide_eq_decide.mpr this]
          | true =>
            refine k1 ⟨vp_in_nI (by omega) (by decide), vp_in_nI (by omega) (by decide), ih2 (j + 1) _ (by omega) (fun l hl b hb32 => ?_) (fun b hb32 => ?_)⟩
            · rw [upd_ne _ _ (by omega)]; exact hf1 l hl b hb32
            · rw [upd_at, b_or, hf2 b hb32, b_1sh (by omega) hb32]
              by_cases e : b = j
              · subst e; rw [hb]; simp
              · have : (b < j) ↔ (b < j + 1) := by omega
                rw [decide_eq_decide.mpr this, decide_eq_false e, Bool.or_false]
      refine wp_X7_findWhoMayBeOne_2 ⟨fun c => absurd c (by rw [show (aset M 40 f).1 6 8 = nI n from e6]; exact nI_ge hin (by omega)), fun _ => ⟨vp_in_nI (by omega) (by decide), ?_⟩⟩
      rw [ix_nI (show i < 2 ^ 31 by omega), mset_aset]
      refine inner n 0 _ (by omega) (fun l hl b hb32 => ?_) (fun b hb32 => ?_)
      · rw [upd_ne _ _ (by omega)]; exact hf l hl b hb32
      · rw [upd_at, b_0]; simp
  have h0 := outer n 0 (M.1 40) (by omega) (fun l hl => absurd hl (Nat.not_lt_zero _))
  rw [aset_self] at h0
  exact wp_X7_findWhoMayBeOne h0
def TabC (may : Nat → Nat → Bool) (n : Nat) (M : Mem) (fw wy : Nat → Nat) : Prop := TbE may n fw wy (M.1 42) (M.1 43) ∧ MkC may n (M.1 40) ∧ ∀ l, l < n → M.1 41 l = nI (prsS may fw l 12 (2 ^ n - 1))
def Rn (M : Mem) (a b c e : Nat → Int32) : Mem := Tm (aset (aset (mset M 9 5 0) 40 a) 41 b) c e
theorem Tm_self (B : Mem) : Tm B (B.1 42) (B.1 43) = B := by
  rw [Tm, aset_self]
  exact aset_self
theorem Tm_41 {M : Mem} {g h f : Nat → Int32} : aset (Tm M g h) 41 f = Tm (aset M 41 f) g h := by
  simp only [Tm, aset]
  congr 1
  funext k
  by_cases h1 : k = 41
  · subst h1; rfl
  · by_cases h2 : k = 42
    · subst h2; rfl
    · by_cases h3 : k = 43
      · subst h3; rfl
      · simp [h1, h2, h3]
theorem odd_n (s : Nat) : nI s &&& 1 = nI (s % 2) := by
  rw [show (1 : Int32) = nI 1 from rfl, nx_and, Nat.and_one_is_mod]
theorem c_renew {G : GV} {k : Nat} {M : Mem} {d : Nat → Nat → Int32} {q : Mem → Prop} (hW : WFm d) (hT : TieC (kC M.1) d) (hP : M.1 9 5 = 1 ∨ (M.1 9 5 = 0 ∧ ∃ fw wy, TabC (mayS d) (ix (d 0 10)) M fw wy)) (hq : ∀ a b c e fw wy, TabC (mayS d) (ix (d 0 10)) (Rn M a b c e) fw wy → q (Rn M a b c e)) : Cv shC G mX7_renew (k + 5) [.ref (G.2.1 9)] M q := by
  obtain ⟨n, hnn⟩ : ∃ n, n = ix (d 0 10) := ⟨_, rfl⟩
  have hn : n ≤ 12 := by rw [hnn]; exact hW.2.1.2
  have e6 : M.1 6 8 = nI n := by rw [hnn]; exact Eq.trans hT.1.2.1 hW.2.1.1
  have h2n : 0 < 2 ^ n := Nat.pow_pos (by decide)
  have h4n := pow12 hn
  refine wp_X7_renew ⟨fun c => ?_, fun c => ?_⟩
  · have hT' : TieC (kC (mset M 9 5 0).1) d := hT
    refine c_findWho (k := k + 1) hW hT' (fun f hf => ⟨vp_in_nI (n := 0) (by decide) (by decide), vp_in_nI (n := 0) (by decide) (by decide), wp_X7_all ?_⟩)
    rw [← hnn] at hf hq
    obtain ⟨B, hB⟩ : ∃ B, B = aset (mset M 9 5 0) 40 f := ⟨_, rfl⟩
    have eB6 : ∀ g h, (Tm B g h).1 6 8 = nI n := fun g h => by rw [hB]; exact e6
    have eB40 : B.1 40 = f := by rw [hB]; rfl
    rw [← hB]
    obtain ⟨fw, wy, hRT⟩ := RT_ex (mayS d)
    have fin : ∀ g h, (∀ t, t < 2 ^ n → TE n t (fw t) (wy t) (g t) (h t)) → Cv shC G mX7_pickFirst (k + 4) [.ref (G.2.1 9)] (Tm B g h) (fun M1 => q M1) := by
      intro g h hI
      have hx : TbE (mayS d) n fw wy g h := fun t ht => ⟨hRT t (by omega), hI t ht⟩
      refine c_pickFirst (M := Tm B g h) hn (eB6 g h) (show MkC (mayS d) n (B.1 40) by rw [eB40]; exact hf) hx (fun f41 h41 => ?_)
      have h5 := hq f f41 g h fw wy
      rw [show Rn M f f41 g h = aset (Tm B g h) 41 f41 from by rw [Tm_41, hB]; rfl] at h5
      exact h5 ⟨hx, show MkC (mayS d) n (B.1 40) by rw [eB40]; exact hf, h41⟩
    have row : ∀ s g h, s ≠ 0 → s < 2 ^ n → (∀ t, t < s → TE n t (fw t) (wy t) (g t) (h t)) → TbR (mayS d) s fw wy (upd g s (nI 0)) h := by
      intro s g h h0 hs hI t hts
      have hs4 : s < 4096 := by omega
      have hr := rs_lt h0 hs4
      have hle := sub_le hts
      rw [upd_ne _ _ (by omega)]
      exact ⟨hRT t (by omega), TE_even (hI t (by omega)) (sub_0 hts (rs_0 h0 hs4))⟩
    have part : ∀ s g h (Q : Mem → Prop), s ≠ 0 → s < 2 ^ n → TbR (mayS d) s fw wy g h → Q (Tm B (upd g s (nI (fw s))) (upd h s (nI (wy s)))) → Cv shC G mX7_partSet (k + 4) [.ref (G.2.1 9), .int (nI s)] (Tm B g h) Q := by
      intro s g h Q h0 hs hR hQ
      refine c_partSet (k := k + 2) (M := Tm B g h) hn h0 hs (show MkC (mayS d) n (B.1 40) by rw [eB40]; exact hf) hR (fun b c hR2 => ?_)
      obtain ⟨e1, e2⟩ := RT_uniq hR2 (hRT s (by omega))
      rw [e1, e2, Tm_42, Tm_43]
      exact hQ
    have put : ∀ s g h, s < 2 ^ n → (∀ t, t < s → TE n t (fw t) (wy t) (g t) (h t)) → ∀ t, t < s + 1 → TE n t (fw t) (wy t) (upd g s (nI (fw s)) t) (upd h s (nI (wy s)) t) := by
      intro s g h hs hI t ht
      by_cases e : t = s
      · rw [e, upd_at, upd_at]
        exact Or.inl ⟨rfl, rfl⟩
      · rw [upd_ne _ _ e, upd_ne _ _ e]
        exact hI t (by omega)
    have loop : ∀ m s g h, s + m = 2 ^ n - 1 → 0 < s → (∀ t, t < s → TE n t (fw t) (wy t) (g t) (h t)) → V shC G mX7_renew (k + 5) 38 [(0, .ref (G.2.1 9)), (1, .int (nI (2 ^ n - 1))), (2, .int (nI s))] [] (Tm B g h) (Qv q) := by
      intro m
      induction m with
      | zero =>
        intro s g h hs h0 hI
        obtain rfl : s = 2 ^ n - 1 := by omega
        refine wp_X7_renew_38 ⟨fun _ => ⟨fun c => absurd c (nI_nle (by omega) (by omega)), fun _ => ?_⟩, fun c => absurd (nI_le (Nat.le_refl _) (by omega)) c⟩
        have hr0 : TbR (mayS d) (2 ^ n - 1) fw wy g h := by
          intro t hts
          have h5 := row (2 ^ n - 1) g h (by omega) (by omega) hI t hts
          have hr := rs_lt (show 2 ^ n - 1 ≠ 0 by omega) (by omega)
          have hle := sub_le hts
          rw [upd_ne _ _ (by omega)] at h5
          exact h5
        refine part _ g h _ (by omega) (by omega) hr0 (fin _ _ (fun t ht => ?_))
        exact put (2 ^ n - 1) g h (by omega) hI t (by omega)
      | succ m ih =>
        intro s g h hs h0 hI
        refine wp_X7_renew_38 ⟨fun c => absurd c (nI_ge (by omega) (by omega)), fun _ => ⟨vp_in_nI (by omega) (by decide), ?_⟩⟩
        rw [nar_0, ix_nI (show s < 2 ^ 31 by omega), Tm_42, odd_n, nI_1]
        refine ⟨fun c => ih (s + 1) _ _ (by omega) (by omega) (fun t ht => ?_), fun c => part s _ _ _ (by omega) (by omega) (row s g h (by omega) (by omega) hI) (ih (s + 1) _ _ (by omega) (by omega) ?_)⟩
        · by_cases e : t = s
          · rw [e, upd_at]
            refine Or.inr ⟨?_, by omega, rfl⟩
            rw [Nat.testBit_zero]
            refine decide_eq_true ?_
            rcases Nat.mod_two_eq_zero_or_one s with e2 | e2
            · rw [e2] at c; exact absurd rfl c
            · exact e2
          · rw [upd_ne _ _ e]
            exact hI t (by omega)
        · refine put s _ h (by omega) (fun t ht => ?_)
          rw [upd_ne _ _ (by omega)]
          exact hI t ht
    rw [show ix (0 : Int32) = 0 from rfl, nar_0]
    have e1 : mset (mset B 42 0 (nI 0)) 43 0 1 = Tm B (upd (B.1 42) 0 (nI 0)) (upd (B.1 43) 0 1) := by
      rw [← Tm_43, ← Tm_42, Tm_self]
    rw [e1, eB6, all_n n (by omega)]
    obtain ⟨z1, z2⟩ := RT_uniq (hRT 0 (by omega)) RT_0
    have i0 : ∀ t, t < 1 → TE n t (fw t) (wy t) (upd (B.1 42) 0 (nI 0) t) (upd (B.1 43) 0 1 t) := by
      intro t ht
      obtain rfl : t = 0 := by omega
      rw [upd_at, upd_at, z1, z2]
      exact Or.inl ⟨rfl, rfl⟩
    rcases Nat.lt_or_ge 1 (2 ^ n) with h5 | h5
    · exact loop (2 ^ n - 1 - 1) 1 _ _ (by omega) (by omega) i0
    · have e0 : 2 ^ n - 1 = 0 := by omega
      rw [e0]
      exact wp_X7_renew_38 ⟨fun _ => ⟨fun _ => fin _ _ (fun t ht => i0 t (by omega)), fun c => absurd (by decide) c⟩, fun c => absurd (by decide) c⟩
  · rcases hP with h | ⟨_, fw, wy, hx⟩
    · rw [h] at c; exact absurd c (by decide)
    · have e1 : mset M 9 5 0 = M := by
        rw [← aset_mset, upd_self _ c, aset_self]
      have e2 : Rn M (M.1 40) (M.1 41) (M.1 42) (M.1 43) = M := by
        rw [Rn, e1, aset_self (M := M) (o := 40), aset_self (M := M) (o := 41), Tm_self]
      have h5 := hq (M.1 40) (M.1 41) (M.1 42) (M.1 43) fw wy
      rw [e2] at h5
      exact h5 hx
theorem PT_tab {M : Mem} {d : Nat → Nat → Int32} (h : PT (kPc M.1) d) : M.1 9 5 = 1 ∨ (M.1 9 5 = 0 ∧ ∃ fw wy, TabC (mayS d) (ix (d 0 10)) M fw wy) := by
  rcases h with h | ⟨h, fw, wy, h1, h2⟩
  · exact Or.inl h
  · exact Or.inr ⟨h, fw, wy, fun t ht => h1 t ht, fun l hl => (h2 l hl).1, fun l hl => (h2 l hl).2⟩
theorem PT_rn {M : Mem} {d : Nat → Nat → Int32} {a b c e : Nat → Int32} {fw wy : Nat → Nat} (h : TabC (mayS d) (ix (d 0 10)) (Rn M a b c e) fw wy) : PT (kPc (Rn M a b c e).1) d := Or.inr ⟨rfl, fw, wy, fun s hs => h.1 s hs, fun l hl => ⟨h.2.1 l hl, h.2.2 l hl⟩⟩
theorem RR_tab {Mc Mm : Mem} (hR : RR Mc Mm) : Mc.1 9 5 = 1 ∨ (Mc.1 9 5 = 0 ∧ ∃ fw wy, TabC (mayS (kM Mm.1)) (ix (kM Mm.1 0 10)) Mc fw wy) := by
  have h := PT_tab hR.2.2.2.2.2
  rw [mayS_kP] at h
  exact h
theorem RR_rn {Mc Mm M2 : Mem} {a b c e : Nat → Int32} {fw wy : Nat → Nat} (hR : RR Mc Mm) (hm : kM M2.1 = kM Mm.1) (h : TabC (mayS (kM Mm.1)) (ix (kM Mm.1 0 10)) (Rn Mc a b c e) fw wy) : RR (Rn Mc a b c e) M2 := by
  have h2 : RR (Rn Mc a b c e) Mm := by
    refine ⟨hR.1, hR.2.1, hR.2.2.1, hR.2.2.2.1, hR.2.2.2.2.1, PT_rn (fw := fw) (wy := wy) ?_⟩
    rw [mayS_kP]
    exact h
  exact RR_sc h2 rfl hm
