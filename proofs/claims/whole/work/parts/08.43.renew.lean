/-! who is picked first; the class's tables renewed -/
theorem sumB_ge {f : Nat → Nat} {n t : Nat} (h : t < n) : f t ≤ sumB f n := by
  induction n with
  | zero => omega
  | succ n ih =>
    rw [sumB]
    rcases Nat.lt_or_ge t n with h1 | h1
    · have := ih h1; omega
    · obtain rfl : t = n := by omega
      omega
theorem fnd_none {p : Nat → Bool} {m : Nat} (h : ∀ t, t < m → p t = false) : fndB p m 0 = m := by
  obtain ⟨h1, h2, h3, h4⟩ := fnd_spec p m 0
  rcases Nat.lt_or_ge (fndB p m 0) m with h5 | h5
  · have := h4 (by omega)
    rw [h _ h5] at this; cases this
  · omega
theorem fnd_at {p : Nat → Bool} {m x : Nat} (h : ∀ t, t < x → p t = false) (hx : p x = true) (hm : x < m) : fndB p m 0 = x := by
  obtain ⟨h1, h2, h3, h4⟩ := fnd_spec p m 0
  rcases Nat.lt_trichotomy (fndB p m 0) x with h5 | h5 | h5
  · have := h4 (by omega)
    rw [h _ h5] at this; cases this
  · exact h5
  · have := h3 x (by omega) h5
    rw [hx] at this; cases this
theorem okp_none {may : Nat → Nat → Bool} {s t : Nat} (h1 : t &&& s = t) (h2 : t.testBit (lowN s) = true) (h3 : clqB may t = true) : okpB may 0 s t = true := okp_iff.mpr ⟨h1, h2, h3, fun h => h.1 (by simp)⟩
/-- the right tables below 2 ^ n -/
def TbP (may : Nat → Nat → Bool) (n : Nat) (fw wy : Nat → Nat) : Prop := ∀ t, t < 2 ^ n → RT may 0 t (fw t) (wy t)
theorem pick_ok {may : Nat → Nat → Bool} {n s : Nat} {fw wy : Nat → Nat} (hn : n ≤ 12) (h0 : s ≠ 0) (hs : s < 2 ^ n) (hT : TbP may n fw wy) : okpB may 0 s (pickS may fw s) = true ∧ fw (dif s (pickS may fw s)) + 1 = fw s := by
  have hs4 : s < 4096 := Nat.lt_of_lt_of_le hs (pow12 hn)
  have rs := hT s hs
  have hp := RT_pos rs h0
  have hc : cntP may 0 (fw s - 1 + 1) s ≠ 0 := by
    rw [show fw s - 1 + 1 = fw s by omega, rs.2.1]
    have := rs.2.2; omega
  rw [cnt_s h0] at hc
  obtain ⟨t, ht, hne⟩ := sumB_ne hc
  have hok : okpB may 0 s t = true := by
    cases e : okpB may 0 s t with
    | true => rfl
    | false => rw [e] at hne; exact absurd rfl hne
  rw [if_pos hok] at hne
  have hdl := okp_dif_lt h0 hs4 hok
  have rd := hT (dif s t) (by omega)
  have h1 : fw (dif s t) + 1 = fw s := by
    rcases Nat.lt_trichotomy (fw (dif s t) + 1) (fw s) with h5 | h5 | h5
    · exfalso
      have h6 := rs.1 (fw (dif s t) + 1) h5
      rw [cnt_s h0] at h6
      have h7 := sumB_ge (f := fun t => if okpB may 0 s t then cntP may 0 (fw (dif s t)) (dif s t) else 0) ht
      have h8 : sumB (fun u => if okpB may 0 s u then cntP may 0 (fw (dif s t)) (dif s u) else 0) 4096 ≠ 0 := by
        have h9 := sumB_ge (f := fun u => if okpB may 0 s u then cntP may 0 (fw (dif s t)) (dif s u) else 0) ht
        simp only [hok, if_true, rd.2.1] at h9
        have := rd.2.2
        omega
      exact h8 h6
    · exact h5
    · exact absurd (rd.1 (fw s - 1) (by omega)) hne
  have pt : (fun t => okpB may 0 s t && decide (fw (dif s t) + 1 = fw s)) t = true := by
    show (okpB may 0 s t && decide (fw (dif s t) + 1 = fw s)) = true
    rw [hok, decide_eq_true h1]; rfl
  have hts : t ≤ s := sub_le (okp_iff.mp hok).1
  have hp2 : (fun t => okpB may 0 s t && decide (fw (dif s t) + 1 = fw s)) (pickS may fw s) = true := by
    obtain ⟨a1, a2, a3, a4⟩ := fnd_spec (fun t => okpB may 0 s t && decide (fw (dif s t) + 1 = fw s)) s 0
    rcases Nat.lt_or_ge (pickS may fw s) s with h5 | h5
    · exact a4 (by rw [Nat.zero_add]; exact h5)
    · have e : pickS may fw s = s := Nat.le_antisymm (by rw [Nat.zero_add] at a2; exact a2) h5
      rcases Nat.lt_or_ge t s with h6 | h6
      · have := a3 t (Nat.zero_le _) (show t < pickS may fw s by omega)
        exact absurd (pt.symm.trans this) (by decide)
      · obtain rfl : t = s := by omega
        rw [e]; exact pt
  have hp3 : (okpB may 0 s (pickS may fw s) && decide (fw (dif s (pickS may fw s)) + 1 = fw s)) = true := hp2
  rw [Bool.and_eq_true, decide_eq_true_iff] at hp3
  exact hp3
theorem and_pow {x l : Nat} : x &&& 2 ^ l = 0 ↔ x.testBit l = false := by
  rw [and0_iff]
  constructor
  · intro h
    cases e : x.testBit l with
    | false => rfl
    | true => exact absurd ⟨e, Nat.testBit_two_pow_self⟩ (h l)
  · rintro h i ⟨h1, h2⟩
    rw [Nat.testBit_two_pow, decide_eq_true_iff] at h2
    subst h2
    rw [h] at h1; cases h1
theorem dif_0iff {x s : Nat} : dif x s = 0 ↔ x &&& s = x := by
  constructor
  · intro h
    refine sub_iff.mpr (fun i hi => ?_)
    have := tb_dif x s i
    rw [h, Nat.zero_testBit, hi] at this
    cases e : s.testBit i with
    | true => rfl
    | false => rw [e] at this; cases this
  · intro h
    apply Nat.eq_of_testBit_eq
    intro i
    rw [tb_dif, Nat.zero_testBit]
    cases e : x.testBit i with
    | false => rfl
    | true => rw [sub_iff.mp h i e]; rfl
theorem c_leastP {G : GV} {k n s : Nat} {M : Mem} {may : Nat → Nat → Bool} {fw wy : Nat → Nat} {q : Int32 → Mem → Prop} (hn : n ≤ 12) (h0 : s ≠ 0) (hs : s < 2 ^ n) (ht : TbC may (2 ^ n) fw wy (M.1 42) (M.1 43)) (hq : q (nI (pickS may fw s)) M) : Ci shC G mX7_leastPerson k [.ref (G.2.1 9), .int (nI s)] M q := by
  have hs4 : s < 4096 := Nat.lt_of_lt_of_le hs (pow12 hn)
  obtain ⟨l1, l2, l3⟩ := low_spec h0 hs4
  have vs : vp_in (nI s) 4096 := vp_in_nI hs4 (by decide)
  have hls : 2 ^ lowN s ≤ s := by
    rcases Nat.lt_or_ge s (2 ^ lowN s) with h5 | h5
    · rw [Nat.testBit_lt_two_pow h5] at l1; cases l1
    · exact h5
  have fs := RT_le (ht s hs).1 hs4
  have loop : ∀ m x, x + m = s → 2 ^ lowN s ≤ x → (∀ t, t < x → (okpB may 0 s t && decide (fw (dif s t) + 1 = fw s)) = false) → V shC G mX7_leastPerson k 7 [(0, .ref (G.2.1 9)), (1, .int (nI s)), (2, .int (nI (2 ^ lowN s))), (3, .int (nI x))] [] M (Qi q) := by
    intro m
    induction m with
    | zero =>
      intro x hx hlx hno
      obtain rfl : x = s := by omega
      rw [show pickS may fw x = x from fnd_none hno] at hq
      exact wp_X7_leastPerson_7 ⟨fun _ => hq, fun c => absurd (nI_le (Nat.le_refl _) (by omega)) c⟩
    | succ m ih =>
      intro x hx hlx hno
      have hxs : x < s := by omega
      have nx : (okpB may 0 s x && decide (fw (dif s x) + 1 = fw s)) = false → V shC G mX7_leastPerson k 7 [(0, .ref (G.2.1 9)), (1, .int (nI s)), (2, .int (nI (2 ^ lowN s))), (3, .int (nI (x + 1)))] [] M (Qi q) := fun e => ih (x + 1) (by omega) (by omega) (upto hno e)
      obtain ⟨rx, gx, _⟩ := ht x (by omega)
      have hdx : dif s x ≤ s := dif_le s x
      obtain ⟨rd, gd, _⟩ := ht (dif s x) (by omega)
      have fx := RT_le rx (by omega)
      have fd := RT_le rd (by omega)
      refine wp_X7_leastPerson_7 ⟨fun c => absurd c (nI_ge hxs (by omega)), fun _ => ?_⟩
      rw [nx_and, nx_dif, nx_dif, nI_1 x, ix_nI (show x < 2 ^ 31 by omega), ix_nI (show dif s x < 2 ^ 31 by omega), ix_nI (show s < 2 ^ 31 by omega), gx, gd, (ht s hs).2.1, nI_1]
      have hand : x &&& 2 ^ lowN s ≤ x := Nat.and_le_left
      have hdx2 : dif x s ≤ x := dif_le x s
      refine ⟨fun c => nx ?_, fun c => ⟨fun c2 => nx ?_, fun c2 => ⟨vp_in_nI (by omega) (by decide), fun c3 => nx ?_, fun c3 => ⟨vp_in_nI (by omega) (by decide), vs, fun c4 => nx ?_, fun c4 => ?_⟩⟩⟩⟩
      · have h5 : x &&& 2 ^ lowN s = 0 := (nI_eq (b := 0) (by omega) (by omega)).mp c
        rw [and_pow] at h5
        cases e : okpB may 0 s x with
        | false => rfl
        | true => rw [(okp_iff.mp e).2.1] at h5; cases h5
      · cases e : okpB may 0 s x with
        | false => rfl
        | true => exact absurd (by rw [dif_0iff.mpr (okp_iff.mp e).1]; rfl) c2
      · cases e : okpB may 0 s x with
        | false => rfl
        | true =>
          refine absurd ?_ c3
          rw [(RT_1 rx (bit_ne0 (okp_iff.mp e).2.1) (by omega)).mpr (okp_iff.mp e).2.2.1]
          rfl
      · rw [decide_eq_false (fun e => c4 (by rw [e])), Bool.and_false]
      · have b1 : x.testBit (lowN s) = true := by
          cases e : x.testBit (lowN s) with
          | true => rfl
          | false => exact absurd (by rw [and_pow.mpr e]; rfl) c
        have b2 : x &&& s = x := dif_0iff.mp ((nI_eq (b := 0) (by omega) (by omega)).mp c2)
        have b3 : fw x = 1 := (nI_eq (b := 1) (by omega) (by omega)).mp c3
        have b4 : fw (dif s x) + 1 = fw s := (nI_eq (by omega) (by omega)).mp c4
        have hok := okp_none b2 b1 ((RT_1 rx (bit_ne0 b1) (by omega)).mp b3)
        rw [show pickS may fw s = x from fnd_at hno (by show (okpB may 0 s x && decide (fw (dif s x) + 1 = fw s)) = true; rw [hok, decide_eq_true b4]; rfl) hxs] at hq
        exact hq
  refine wp_X7_leastPerson ?_
  rw [low_and h0 hs4]
  refine loop (s - 2 ^ lowN s) (2 ^ lowN s) (by omega) (Nat.le_refl _) (fun t htl => ?_)
  cases e : okpB may 0 s t with
  | false => rfl
  | true =>
    have := (okp_iff.mp e).2.1
    rw [Nat.testBit_lt_two_pow htl] at this; cases this
theorem c_pickFirst {G : GV} {k n : Nat} {M : Mem} {may : Nat → Nat → Bool} {fw wy : Nat → Nat} {q : Mem → Prop} (hn : n ≤ 12) (e6 : M.1 6 8 = nI n) (ht : TbC may (2 ^ n) fw wy (M.1 42) (M.1 43)) (hq : ∀ f, (∀ l, l < n → f l = nI (prsS may fw l 12 (2 ^ n - 1))) → q (aset M 41 f)) : Cv shC G mX7_pickFirst (k + 1) [.ref (G.2.1 9)] M q := by
  have hP : TbP may n fw wy := fun t h => (ht t h).1
  have h2n : 0 < 2 ^ n := Nat.pow_pos (by decide)
  have h4n := pow12 hn
  have outer : ∀ m j s f, j + m = 12 → s < 2 ^ n → (∀ i, i < j → s.testBit i = false) → (∀ l, l < n → (s.testBit l = true → prsS may fw l (12 - j) s = prsS may fw l 12 (2 ^ n - 1)) ∧ (s.testBit l = false → f l = nI (prsS may fw l 12 (2 ^ n - 1)))) → V shC G mX7_pickFirst (k + 1) 7 [(0, .ref (G.2.1 9)), (1, .int (nI s)), (2, .int (nI j))] [] (aset M 41 f) (Qv q) := by
    intro m
    induction m with
    | zero =>
      intro j s f hj hs hlow hI
      obtain rfl : j = 12 := by omega
      refine wp_X7_pickFirst_7 ⟨fun _ => hq f (fun l hl => (hI l hl).2 (hlow l (by omega))), fun c => absurd (by decide) c⟩
    | succ m ih =>
      intro j s f hj hs hlow hI
      refine wp_X7_pickFirst_7 ⟨fun c => absurd c (nI_ge (b := 12) (by omega) (by decide)), fun _ => ⟨fun c => ?_, fun c => ?_⟩⟩
      · have h0 : s = 0 := (nI_eq (b := 0) (by omega) (by omega)).mp c
        refine hq f (fun l hl => (hI l hl).2 ?_)
        rw [h0, Nat.zero_testBit]
      · have h0 : s ≠ 0 := fun e => c (by rw [e]; rfl)
        have hs4 : s < 4096 := by omega
        obtain ⟨l1, l2, l3⟩ := low_spec h0 hs4
        obtain ⟨po, pf⟩ := pick_ok hn h0 hs hP
        obtain ⟨p1, p2, p3, _⟩ := okp_iff.mp po
        refine c_leastP (M := aset M 41 f) hn h0 hs ht ?_
        obtain ⟨P, hPe⟩ : ∃ P, P = pickS may fw s := ⟨_, rfl⟩
        rw [← hPe] at p1 p2 ⊢
        have hPs : P < 2 ^ n := sub_lt p1 hs
        have hdl : dif s P < s := dif_lt l1 p2
        have inner : ∀ m2 i f2, i + m2 = n → (∀ l, l < n → f2 l = if l < i ∧ P.testBit l = true then nI P else f l) → V shC G mX7_pickFirst (k + 1) 26 [(0, .ref (G.2.1 9)), (1, .int (nI s)), (2, .int (nI j)), (3, .int (nI P)), (4, .int (nI i))] [] (aset M 41 f2) (Qv q) := by
          intro m2
          induction m2 with
          | zero =>
            intro i f2 hi hf2
            obtain rfl : i = n := by omega
            refine wp_X7_pickFirst_26 ⟨fun _ => ?_, fun c => absurd (show (aset M 41 f2).1 6 8 ≤ nI i from by rw [show (aset M 41 f2).1 6 8 = nI i from e6]; exact nI_le (Nat.le_refl _) (by omega)) c⟩
            rw [nx_dif, nI_1 j]
            refine ih (j + 1) (dif s P) f2 (by omega) (by omega) (fun a ha => ?_) (fun l hl => ⟨fun hb => ?_, fun hb => ?_⟩)
            · rw [tb_dif]
              rcases Nat.lt_or_ge a j with h5 | h5
              · rw [hlow a h5]; rfl
              · obtain rfl : a = j := by omega
                cases e : s.testBit a with
                | false => rfl
                | true =>
                  have : lowN s = a := low_uniq hs4 e hlow
                  rw [← this, p2]; simp
            · rw [tb_dif, Bool.and_eq_true, Bool.not_eq_true'] at hb
              have h5 := (hI l hl).1 hb.1
              rw [show 12 - j = (12 - (j + 1)) + 1 by omega, prsS, ← hPe, if_neg (by rw [hb.2]; decide)] at h5
              exact h5
            · rw [hf2 l hl]
              by_cases hPl : P.testBit l = true
              · rw [if_pos ⟨hl, hPl⟩]
                have h5 := (hI l hl).1 (sub_iff.mp p1 l hPl)
                rw [show 12 - j = (12 - (j + 1)) + 1 by omega, prsS, ← hPe, if_pos hPl] at h5
                rw [h5]
              · rw [if_neg (fun e => hPl e.2)]
                refine (hI l hl).2 ?_
                rw [tb_dif] at hb
                cases e : s.testBit l with
                | false => rfl
                | true =>
                  rw [e, Bool.true_and, Bool.not_eq_false'] at hb
                  exact absurd hb hPl
          | succ m2 ih2 =>
            intro i f2 hi hf2
            have hin : i < n := by omega
            refine wp_X7_pickFirst_26 ⟨fun c => absurd c (by rw [show (aset M 41 f2).1 6 8 = nI n from e6]; exact nI_ge hin (by omega)), fun _ => ?_⟩
            rw [nI_1 i, ix_nI (show i < 2 ^ 31 by omega), mset_aset]
            refine ⟨fun c => ih2 (i + 1) f2 (by omega) (fun l hl => ?_), fun c => ⟨vp_in_nI (by omega) (by decide), ih2 (i + 1) _ (by omega) (fun l hl => ?_)⟩⟩
            · have hb : P.testBit i = false := by
                cases e : P.testBit i with
                | false => rfl
                | true => exact absurd ((bit1 _ (by omega)).mpr (by rw [b_nI _ (by omega)]; exact e)) c
              rw [hf2 l hl]
              by_cases e : l = i
              · subst e
                rw [if_neg (fun h => by omega), if_neg (fun h => by rw [hb] at h; cases h.2)]
              · by_cases h5 : l < i ∧ P.testBit l = true
                · rw [if_pos h5, if_pos ⟨by omega, h5.2⟩]
                · rw [if_neg h5, if_neg (fun h => h5 ⟨by omega, h.2⟩)]
            · have hb : P.testBit i = true := by
                have := (bit1 _ (by omega)).mp c
                rw [b_nI _ (by omega)] at this; exact this
              by_cases e : l = i
              · subst e
                rw [upd_at, if_pos ⟨by omega, hb⟩]
              · rw [upd_ne _ _ e, hf2 l hl]
                by_cases h5 : l < i ∧ P.testBit l = true
                · rw [if_pos h5, if_pos ⟨by omega, h5.2⟩]
                · rw [if_neg h5, if_neg (fun h => h5 ⟨by omega, h.2⟩)]
        exact inner n 0 f (by omega) (fun l hl => by rw [if_neg (fun h => by omega)])
  refine wp_X7_pickFirst (wp_X7_all ?_)
  rw [e6, all_n n (by omega)]
  have h5 := outer 12 0 (2 ^ n - 1) (M.1 41) (by omega) (by omega) (fun i hi => absurd hi (Nat.not_lt_zero _)) (fun l hl => ⟨fun _ => rfl, fun hb => by rw [Nat.testBit_two_pow_sub_one, decide_eq_true hl] at hb; cases hb⟩)
  rw [aset_self] at h5
  exact h5
theorem c_findWho {G : GV} {k : Nat} {M : Mem} {d : Nat → Nat → Int32} {q : Mem → Prop} (hW : WFm d) (hT : TieC (kC M.1) d) (hq : ∀ f, MkC (mayS d) (ix (d 0 10)) f → q (aset M 40 f)) : Cv shC G mX7_findWhoMayBeOne (k + 3) [.ref (G.2.1 9)] M q := by
  obtain ⟨n, hnn⟩ : ∃ n, n = ix (d 0 10) := ⟨_, rfl⟩
  have hn : n ≤ 12 := by rw [hnn]; exact hW.2.1.2
  have e6 : M.1 6 8 = nI n := by rw [hnn]; exact Eq.trans hT.1.2.1 hW.2.1.1
  rw [← hnn] at hq
  have outer : ∀ m i f, i + m = n → (∀ l, l < i → ∀ j, j < 32 → bt (f l) j = (decide (j < n) && mayS d l j)) → V shC G mX7_findWhoMayBeOne (k + 3) 2 [(0, .ref (G.2.1 9)), (1, .int (nI i))] [] (aset M 40 f) (Qv q) := by
    intro m
    induction m with
    | zero =>
      intro i f hi hf
      obtain rfl : i = n := by omega
      exact wp_X7_findWhoMayBeOne_2 ⟨fun _ => hq f hf, fun c => absurd (show (aset M 40 f).1 6 8 ≤ nI i from by rw [show (aset M 40 f).1 6 8 = nI i from e6]; exact nI_le (Nat.le_refl _) (by omega)) c⟩
    | succ m ih =>
      intro i f hi hf
      have hin : i < n := by omega
      have inner : ∀ m2 j f, j + m2 = n → (∀ l, l < i → ∀ j, j < 32 → bt (f l) j = (decide (j < n) && mayS d l j)) → (∀ b, b < 32 → bt (f i) b = (decide (b < j) && mayS d i b)) → V shC G mX7_findWhoMayBeOne (k + 3) 22 [(0, .ref (G.2.1 9)), (1, .int (nI i)), (2, .int (nI j))] [] (aset M 40 f) (Qv q) := by
        intro m2
        induction m2 with
        | zero =>
          intro j f hj hf1 hf2
          obtain rfl : j = n := by omega
          refine wp_X7_findWhoMayBeOne_22 ⟨fun _ => ?_, fun c => absurd (show (aset M 40 f).1 6 8 ≤ nI j from by rw [show (aset M 40 f).1 6 8 = nI j from e6]; exact nI_le (Nat.le_refl _) (by omega)) c⟩
          rw [nI_1 i]
          exact ih (i + 1) f (by omega) (upto hf1 hf2)
        | succ m2 ih2 =>
          intro j f hj hf1 hf2
          have hjn : j < n := by omega
          have hT' : TieC (kC (aset M 40 f).1) d := hT
          refine wp_X7_findWhoMayBeOne_22 ⟨fun c => absurd c (by rw [show (aset M 40 f).1 6 8 = nI n from e6]; exact nI_ge hjn (by omega)), fun _ => c_mayBeOne hW hT' (by omega) (by omega) ?_⟩
          rw [nI_1 j, ix_nI (show i < 2 ^ 31 by omega), mset_aset, show (aset M 40 f).1 40 = f from rfl]
          cases hb : mayS d i j with
          | false =>
            refine k0 (ih2 (j + 1) f (by omega) hf1 (fun b hb32 => ?_))
            rw [hf2 b hb32]
            by_cases e : b = j
            · subst e; rw [hb]; simp
            · have : (b < j) ↔ (b < j + 1) := by omega
              rw [decide_eq_decide.mpr this]
          | true =>
            refine k1 ⟨vp_in_nI (by omega) (by decide), vp_in_nI (by omega) (by decide), ih2 (j + 1) _ (by omega) (fun l hl b hb32 => ?_) (fun b hb32 => ?_)⟩
            · rw [upd_ne _ _ (by omega)]; exact hf1 l hl b hb32
            · rw [upd_at, b_or, hf2 b hb32, b_1sh (by omega) hb32]
              by_cases e : b = j
              · subst e; rw [hb]; simp
              · have : (b < j) ↔ (b < j + 1) := by omega
                rw [decide_eq_decide.mpr this, decide_eq_false e, Bool.or_false]
      refine wp_X7_findWhoMayBeOne_2 ⟨fun c => absurd c (by rw [show (aset M 40 f).1 6 8 = nI n from e6]; exact nI_ge hin (by omega)), fun _ => ⟨vp_in_nI (by omega) (by decide), ?_⟩⟩
      rw [ix_nI (show i < 2 ^ 31 by omega), mset_aset]
      refine inner n 0 _ (by omega) (fun l hl b hb32 => ?_) (fun b hb32 => ?_)
      · rw [upd_ne _ _ (by omega)]; exact hf l hl b hb32
      · rw [upd_at, b_0]; simp
  have h0 := outer n 0 (M.1 40) (by omega) (fun l hl => absurd hl (Nat.not_lt_zero _))
  rw [aset_self] at h0
  exact wp_X7_findWhoMayBeOne h0
def TabC (may : Nat → Nat → Bool) (n : Nat) (M : Mem) (fw wy : Nat → Nat) : Prop := TbC may (2 ^ n) fw wy (M.1 42) (M.1 43) ∧ MkC may n (M.1 40) ∧ ∀ l, l < n → M.1 41 l = nI (prsS may fw l 12 (2 ^ n - 1))
def Rn (M : Mem) (a b c e : Nat → Int32) : Mem := aset (Tm (aset (mset M 9 5 0) 40 a) c e) 41 b
theorem Tm_self (B : Mem) : Tm B (B.1 42) (B.1 43) = B := by
  rw [Tm, aset_self]
  exact aset_self
theorem c_renew {G : GV} {k : Nat} {M : Mem} {d : Nat → Nat → Int32} {q : Mem → Prop} (hW : WFm d) (hT : TieC (kC M.1) d) (hP : M.1 9 5 = 1 ∨ (M.1 9 5 = 0 ∧ ∃ fw wy, TabC (mayS d) (ix (d 0 10)) M fw wy)) (hq : ∀ a b c e fw wy, TabC (mayS d) (ix (d 0 10)) (Rn M a b c e) fw wy → q (Rn M a b c e)) : Cv shC G mX7_renew (k + 4) [.ref (G.2.1 9)] M q := by
  obtain ⟨n, hnn⟩ : ∃ n, n = ix (d 0 10) := ⟨_, rfl⟩
  have hn : n ≤ 12 := by rw [hnn]; exact hW.2.1.2
  have e6 : M.1 6 8 = nI n := by rw [hnn]; exact Eq.trans hT.1.2.1 hW.2.1.1
  have h2n : 0 < 2 ^ n := Nat.pow_pos (by decide)
  have h4n := pow12 hn
  refine wp_X7_renew ⟨fun c => ?_, fun c => ?_⟩
  · have hT' : TieC (kC (mset M 9 5 0).1) d := hT
    refine c_findWho hW hT' (fun f hf => ⟨vp_in_nI (n := 0) (by decide) (by decide), vp_in_nI (n := 0) (by decide) (by decide), ?_⟩)
    rw [← hnn] at hf hq
    obtain ⟨B, hB⟩ : ∃ B, B = aset (mset M 9 5 0) 40 f := ⟨_, rfl⟩
    have eB6 : ∀ g h, (Tm B g h).1 6 8 = nI n := fun g h => by rw [hB]; exact e6
    have eB40 : B.1 40 = f := by rw [hB]; rfl
    rw [← hB]
    have loop : ∀ m s g h, s + m = 2 ^ n → 0 < s → (∃ fw wy, TbC (mayS d) s fw wy g h) → V shC G mX7_renew (k + 4) 33 [(0, .ref (G.2.1 9)), (1, .int (nI s))] [] (Tm B g h) (Qv q) := by
      intro m
      induction m with
      | zero =>
        intro s g h hs h0 hx
        obtain ⟨fw, wy, hx⟩ := hx
        obtain rfl : s = 2 ^ n := by omega
        refine wp_X7_renew_33 (wp_X7_all ?_)
        rw [eB6, all_n n (by omega)]
        refine ⟨fun _ => c_pickFirst (k := k + 2) (M := Tm B g h) hn (eB6 g h) hx (fun f41 h41 => ?_), fun c => absurd (nI_lt (by omega) (by omega)) c⟩
        have h5 := hq f f41 g h fw wy
        rw [show Rn M f f41 g h = aset (Tm B g h) 41 f41 from by rw [hB]; rfl] at h5
        exact h5 ⟨hx, by rw [show (aset (Tm B g h) 41 f41).1 40 = f from eB40]; exact hf, h41⟩
      | succ m ih =>
        intro s g h hs h0 hx
        obtain ⟨fw, wy, hx⟩ := hx
        refine wp_X7_renew_33 (wp_X7_all ?_)
        rw [eB6, all_n n (by omega)]
        refine ⟨fun c => absurd c (nI_nlt (by omega) (by omega)), fun _ => ?_⟩
        refine c_partSet (k := k + 2) hn (by omega) (by omega) (by rw [eB40]; exact hf) hx (fun b c hR => ?_)
        rw [nI_1 s]
        refine ih (s + 1) _ _ (by omega) (by omega) ⟨fun t => if t = s then b else fw t, fun t => if t = s then c else wy t, fun t ht => ?_⟩
        show RT (mayS d) 0 t (if t = s then b else fw t) (if t = s then c else wy t) ∧ upd g s (nI b) t = nI (if t = s then b else fw t) ∧ upd h s (nI c) t = nI (if t = s then c else wy t)
        by_cases e : t = s
        · subst e
          rw [if_pos rfl, if_pos rfl, upd_at, upd_at]
          exact ⟨hR, rfl, rfl⟩
        · rw [if_neg e, if_neg e, upd_ne _ _ e, upd_ne _ _ e]
          exact hx t (by omega)
    rw [show ix (0 : Int32) = 0 from rfl, nar_0]
    have e1 : mset (mset B 42 0 (nI 0)) 43 0 1 = Tm B (upd (B.1 42) 0 (nI 0)) (upd (B.1 43) 0 1) := by
      rw [← Tm_43, ← Tm_42, Tm_self]
    rw [e1]
    refine loop (2 ^ n - 1) 1 _ _ (by omega) (by omega) ⟨fun _ => 0, fun _ => 1, fun t ht => ?_⟩
    obtain rfl : t = 0 := by omega
    exact ⟨RT_0, upd_at _ _ _, upd_at _ _ _⟩
  · rcases hP with h | ⟨_, fw, wy, hx⟩
    · rw [h] at c; exact absurd c (by decide)
    · have e1 : mset M 9 5 0 = M := by
        rw [← aset_mset, upd_self _ c, aset_self]
      have e2 : Rn M (M.1 40) (M.1 41) (M.1 42) (M.1 43) = M := by
        rw [Rn, e1, aset_self (M := M) (o := 40), Tm_self, aset_self]
      have h5 := hq (M.1 40) (M.1 41) (M.1 42) (M.1 43) fw wy
      rw [e2] at h5
      exact h5 hx
theorem PT_tab {M : Mem} {d : Nat → Nat → Int32} (h : PT (kPc M.1) d) : M.1 9 5 = 1 ∨ (M.1 9 5 = 0 ∧ ∃ fw wy, TabC (mayS d) (ix (d 0 10)) M fw wy) := by
  rcases h with h | ⟨h, fw, wy, h1, h2⟩
  · exact Or.inl h
  · exact Or.inr ⟨h, fw, wy, fun t ht => h1 t ht, fun l hl => (h2 l hl).1, fun l hl => (h2 l hl).2⟩
theorem PT_rn {M : Mem} {d : Nat → Nat → Int32} {a b c e : Nat → Int32} {fw wy : Nat → Nat} (h : TabC (mayS d) (ix (d 0 10)) (Rn M a b c e) fw wy) : PT (kPc (Rn M a b c e).1) d := Or.inr ⟨rfl, fw, wy, fun s hs => h.1 s hs, fun l hl => ⟨h.2.1 l hl, h.2.2 l hl⟩⟩
theorem RR_tab {Mc Mm : Mem} (hR : RR Mc Mm) : Mc.1 9 5 = 1 ∨ (Mc.1 9 5 = 0 ∧ ∃ fw wy, TabC (mayS (kM Mm.1)) (ix (kM Mm.1 0 10)) Mc fw wy) := by
  have h := PT_tab hR.2.2.2.2.2
  rw [mayS_kP] at h
  exact h
theorem RR_rn {Mc Mm M2 : Mem} {a b c e : Nat → Int32} {fw wy : Nat → Nat} (hR : RR Mc Mm) (hm : kM M2.1 = kM Mm.1) (h : TabC (mayS (kM Mm.1)) (ix (kM Mm.1 0 10)) (Rn Mc a b c e) fw wy) : RR (Rn Mc a b c e) M2 := by
  have h2 : RR (Rn Mc a b c e) Mm := by
    refine ⟨hR.1, hR.2.1, hR.2.2.1, hR.2.2.2.1, hR.2.2.2.2.1, PT_rn (fw := fw) (wy := wy) ?_⟩
    rw [mayS_kP]
    exact h
  exact RR_sc h2 rfl hm
