/-! the model's partAll, personOf -/
def Wm (M : Mem) (f h : Nat → Int32) : Mem := aset (aset M 24 f) 25 h
theorem Wm_24 {M : Mem} {f f' h : Nat → Int32} : aset (Wm M f h) 24 f' = Wm M f' h := by
  simp only [Wm, aset]
  congr 1
  funext k
  by_cases h1 : k = 24
  · subst h1; rfl
  · simp [h1]
theorem Wm_25 {M : Mem} {f h : Nat → Int32} {j : Nat} {v : Int32} : mset (Wm M f h) 25 j v = Wm M f (upd h j v) := mset_aset
theorem Wm_self {M : Mem} : Wm M (M.1 24) (M.1 25) = M := by
  rw [Wm, aset_self]
  exact aset_self
theorem cnt_ex (may : Nat → Nat → Bool) : ∀ N s, s ≤ N → s < 4096 → ∃ k, cntP may 0 k s ≠ 0 := by
  intro N
  induction N with
  | zero =>
    intro s hs _
    obtain rfl : s = 0 := by omega
    exact ⟨0, by rw [cntP, if_pos rfl]; decide⟩
  | succ N ih =>
    intro s hs h4
    by_cases h0 : s = 0
    · exact ⟨0, by rw [cntP, if_pos h0]; decide⟩
    · have hr := rs_lt h0 h4
      obtain ⟨l1, l2, l3⟩ := low_spec h0 h4
      obtain ⟨k, hk⟩ := ih (rsN s) (by omega) (by omega)
      refine ⟨k + 1, ?_⟩
      rw [cnt_s h0]
      have hsub : 2 ^ lowN s &&& s = 2 ^ lowN s := sub_iff.mpr (fun i hi => by
        rw [Nat.testBit_two_pow, decide_eq_true_iff] at hi
        rw [← hi]; exact l1)
      have ok1 : okpB may 0 s (2 ^ lowN s) = true := okp_none hsub Nat.testBit_two_pow_self (clq_1 _)
      have h5 := sumB_ge (f := fun t => if okpB may 0 s t then cntP may 0 k (dif s t) else 0) (n := 4096) (sub_lt hsub h4)
      simp only [ok1, if_true] at h5
      have h6 : cntP may 0 k (dif s (2 ^ lowN s)) ≠ 0 := hk
      omega
theorem RTm_0 {may : Nat → Nat → Bool} {s f w : Nat} (h : RTm may 0 s f w) (hs : s < 4096) : RT may 0 s f w := by
  rcases h with h | ⟨_, _, h⟩
  · exact h
  · obtain ⟨k, hk⟩ := cnt_ex may s s (Nat.le_refl _) hs
    exact absurd (h k) hk
theorem c_partAll {G : GV} {k bo : Nat} {M : Mem} {q : Mem → Prop} {v1 v2 : Int32} (hW : WFm (kM M.1)) (hbo : bo < 4096) (hq : ∀ f h a g w fw wy, TbM (mayS (kM M.1)) bo (2 ^ nLm M) fw wy a g w → q (Um (Wm M f h) a g w)) : V shM G mX12_partAll (k + 4) 20 [(0, .ref (G.2.1 0)), (1, .int v1), (2, .int v2), (3, .int (nI bo)), (4, .int 0)] [] M (Qv q) := by
  obtain ⟨e0, hn⟩ := WF_L hW
  obtain ⟨n, hnn⟩ : ∃ n, n = nLm M := ⟨_, rfl⟩
  rw [← hnn] at e0 hn hq
  have h2n : 0 < 2 ^ n := Nat.pow_pos (by decide)
  have h4n := pow12 hn
  -- the sets
  have sets : ∀ f h, MkM (mayS (kM M.1)) n h → ∀ m s a g w, s + m = 2 ^ n → 0 < s → (∃ fw wy, TbM (mayS (kM M.1)) bo s fw wy a g w) → V shM G mX12_partAll (k + 4) 121 [(0, .ref (G.2.1 0)), (1, .int v1), (2, .int v2), (3, .int (nI bo)), (4, .int (nI s))] [] (Um (Wm M f h) a g w) (Qv q) := by
    intro f h hM m
    induction m with
    | zero =>
      intro s a g w hs h0 hx
      obtain ⟨fw, wy, hx⟩ := hx
      obtain rfl : s = 2 ^ n := by omega
      refine wp_X12_partAll_121 ⟨fun _ => hq f h a g w fw wy hx, fun c => absurd ?_ c⟩
      rw [show (Um (Wm M f h) a g w).1 0 10 = nI n from e0, sh_n n (by omega)]
      exact nI_le (Nat.le_refl _) (by omega)
    | succ m ih =>
      intro s a g w hs h0 hx
      obtain ⟨fw, wy, hx⟩ := hx
      refine c_set (M := Wm M f h) hn e0 (by omega) (by omega) hbo hM hx (fun b c hR => ?_)
      refine ih (s + 1) _ _ _ (by omega) (by omega) ⟨fun t => if t = s then b else fw t, fun t => if t = s then c else wy t, fun t ht => ?_⟩
      show RTm (mayS (kM M.1)) bo t (if t = s then b else fw t) (if t = s then c else wy t) ∧ upd g s (nI b) t = nI (if t = s then b else fw t) ∧ vp_updL w s (lN c) t = lN (if t = s then c else wy t) ∧ upd a s (b01 (clqB (mayS (kM M.1)) s)) t = b01 (clqB (mayS (kM M.1)) t)
      by_cases e : t = s
      · subst e
        rw [if_pos rfl, if_pos rfl, upd_at, updL_at, upd_at]
        exact ⟨hR, rfl, rfl, rfl⟩
      · rw [if_neg e, if_neg e, upd_ne _ _ e, updL_ne _ _ e, upd_ne _ _ e]
        exact hx t (by omega)
  have outer : ∀ m i f h, i + m = n → (∀ l, l < i → ∀ j, j < 32 → bt (h l) j = (decide (j < n) && (decide (l = j) || mayS (kM M.1) l j))) → V shM G mX12_partAll (k + 4) 20 [(0, .ref (G.2.1 0)), (1, .int v1), (2, .int v2), (3, .int (nI bo)), (4, .int (nI i))] [] (Wm M f h) (Qv q) := by
    intro m
    induction m with
    | zero =>
      intro i f h hi hh
      obtain rfl : i = n := by omega
      refine wp_X12_partAll_20 ⟨fun _ => ⟨vp_in_nI (n := 0) (by decide) (by decide), vp_in_nI (n := 0) (by decide) (by decide), vp_in_nI (n := 0) (by decide) (by decide), ?_⟩, fun c => absurd (show (Wm M f h).1 0 10 ≤ nI i from by rw [show (Wm M f h).1 0 10 = nI i from e0]; exact nI_le (Nat.le_refl _) (by omega)) c⟩
      rw [show ix (0 : Int32) = 0 from rfl, nar1]
      have e1 : lset (mset (mset (Wm M f h) 26 0 1) 27 0 0) 28 0 1 = Um (Wm M f h) (upd ((Wm M f h).1 26) 0 1) (upd ((Wm M f h).1 27) 0 0) (vp_updL ((Wm M f h).2 28) 0 1) := by
        rw [← Um_28, ← Um_27, ← Um_26, Um_self]
      rw [e1]
      refine sets f h hh (2 ^ i - 1) 1 _ _ _ (by omega) (by omega) ⟨fun _ => 0, fun _ => 1, fun t ht => ?_⟩
      obtain rfl : t = 0 := by omega
      rw [upd_at, upd_at, updL_at]
      refine ⟨Or.inl RT_0, rfl, rfl, ?_⟩
      rw [clq_iff.mpr (fun x y _ _ _ t1 _ => by rw [Nat.zero_testBit] at t1; cases t1)]
      rfl
    | succ m ih =>
      intro i f h hi hh
      have hin : i < n := by omega
      have vi : vp_in (nI i) 12 := vp_in_nI (by omega) (by decide)
      have inner : ∀ m2 j f h, j + m2 = n → (∀ l, l < i → ∀ j, j < 32 → bt (h l) j = (decide (j < n) && (decide (l = j) || mayS (kM M.1) l j))) → (∀ b, b < 32 → bt (h i) b = (decide (b < j) && (decide (i = b) || mayS (kM M.1) i b))) → V shM G mX12_partAll (k + 4) 40 [(0, .ref (G.2.1 0)), (1, .int v1), (2, .int v2), (3, .int (nI bo)), (4, .int (nI i)), (5, .int (nI j))] [] (Wm M f h) (Qv q) := by
        intro m2
        induction m2 with
        | zero =>
          intro j f h hj hh1 hh2
          obtain rfl : j = n := by omega
          refine wp_X12_partAll_40 ⟨fun _ => ?_, fun c => absurd (show (Wm M f h).1 0 10 ≤ nI j from by rw [show (Wm M f h).1 0 10 = nI j from e0]; exact nI_le (Nat.le_refl _) (by omega)) c⟩
          rw [nI_1 i]
          exact ih (i + 1) f h (by omega) (upto hh1 hh2)
        | succ m2 ih2 =>
          intro j f h hj hh1 hh2
          have hjn : j < n := by omega
          have yes : (decide (i = j) || mayS (kM M.1) i j) = true → ∀ f, V shM G mX12_partAll (k + 4) 40 [(0, .ref (G.2.1 0)), (1, .int v1), (2, .int v2), (3, .int (nI bo)), (4, .int (nI i)), (5, .int (nI (j + 1)))] [] (Wm M f (upd h i (h i ||| (1 <<< (nI j &&& 31))))) (Qv q) := by
            intro hy f
            refine ih2 (j + 1) f _ (by omega) (fun l hl b hb32 => ?_) (fun b hb32 => ?_)
            · rw [upd_ne _ _ (by omega)]; exact hh1 l hl b hb32
            · rw [upd_at, b_or, hh2 b hb32, b_1sh (by omega) hb32]
              by_cases e : b = j
              · subst e; rw [hy]; simp
              · have : (b < j) ↔ (b < j + 1) := by omega
                rw [decide_eq_decide.mpr this, decide_eq_false e, Bool.or_false]
          refine wp_X12_partAll_40 ⟨fun c => absurd c (by rw [show (Wm M f h).1 0 10 = nI n from e0]; exact nI_ge hjn (by omega)), fun _ => ⟨vi, ?_⟩⟩
          rw [nI_1 j, ix_nI (show i < 2 ^ 31 by omega), show (Wm M f h).1 25 = h from rfl, Wm_25]
          refine ⟨fun c => ⟨vi, yes ?_ f⟩, fun c => c_mayBeM (M := Wm M f h) hW (show i < nLm M by omega) (show j < nLm M by omega) (fun f2 => ?_)⟩
          · rw [decide_eq_true ((nI_eq (by omega) (by omega)).mp c)]; rfl
          · have hij : i ≠ j := fun e => c (by rw [e])
            rw [Wm_24, Wm_25, Wm_25, show kM (Wm M f h).1 = kM M.1 from rfl]
            cases hb : mayS (kM M.1) i j with
            | true => exact k1 ⟨vi, yes (by rw [hb, Bool.or_true]) f2⟩
            | false =>
              refine k0 ⟨vi, ih2 (j + 1) f2 _ (by omega) (fun l hl b hb32 => ?_) (fun b hb32 => ?_)⟩
              · rw [upd_ne _ _ (by omega)]; exact hh1 l hl b hb32
              · rw [upd_at, b_or, b_0, Bool.or_false, hh2 b hb32]
                by_cases e : b = j
                · subst e; rw [hb, decide_eq_false hij]; simp
                · have : (b < j) ↔ (b < j + 1) := by omega
                  rw [decide_eq_decide.mpr this]
      refine wp_X12_partAll_20 ⟨fun c => absurd c (by rw [show (Wm M f h).1 0 10 = nI n from e0]; exact nI_ge hin (by omega)), fun _ => ⟨vi, ?_⟩⟩
      rw [ix_nI (show i < 2 ^ 31 by omega), Wm_25]
      refine inner n 0 f _ (by omega) (fun l hl b hb32 => ?_) (fun b hb32 => ?_)
      · rw [upd_ne _ _ (by omega)]; exact hh l hl b hb32
      · rw [upd_at, b_0]; simp
  have h0 := outer n 0 (M.1 24) (M.1 25) (by omega) (fun l hl => absurd hl (Nat.not_lt_zero _))
  rw [Wm_self] at h0
  exact h0
theorem c_partAll0 {G : GV} {k : Nat} {M : Mem} {q : Mem → Prop} {v : Int32} (hW : WFm (kM M.1)) (hq : ∀ f h a g w fw wy, TbM (mayS (kM M.1)) 0 (2 ^ nLm M) fw wy a g w → q (Um (Wm M f h) a g w)) : Cv shM G mX12_partAll (k + 4) [.ref (G.2.1 0), .int v, .int v] M q := wp_X12_partAll ⟨fun c => absurd rfl c, fun _ => c_partAll (bo := 0) hW (by decide) hq⟩
theorem pow_lt12 {x : Nat} (h : x < 12) : 2 ^ x < 4096 := Nat.pow_lt_pow_right (a := 2) (n := 12) (by decide) h
theorem c_partAll2 {G : GV} {k x y : Nat} {M : Mem} {q : Mem → Prop} (hW : WFm (kM M.1)) (hx : x < 12) (hy : y < 12) (hxy : x ≠ y) (hq : ∀ f h a g w fw wy, TbM (mayS (kM M.1)) (2 ^ x ||| 2 ^ y) (2 ^ nLm M) fw wy a g w → q (Um (Wm M f h) a g w)) : Cv shM G mX12_partAll (k + 4) [.ref (G.2.1 0), .int (nI x), .int (nI y)] M q := by
  refine wp_X12_partAll ⟨fun _ => ?_, fun c => absurd ((nI_eq (by omega) (by omega)).mp c) hxy⟩
  rw [sh_n x (by omega), sh_n y (by omega), nx_or]
  exact c_partAll hW (Nat.or_lt_two_pow (n := 12) (pow_lt12 hx) (pow_lt12 hy)) hq
theorem c_personOfM {G : GV} {k n l : Nat} {M : Mem} {may : Nat → Nat → Bool} {fw wy : Nat → Nat} {q : Int32 → Mem → Prop} (hn : n ≤ 12) (e0 : M.1 0 10 = nI n) (hl : l < n) (ht : ∀ t, t < 2 ^ n → RT may 0 t (fw t) (wy t) ∧ M.1 27 t = nI (fw t) ∧ M.1 26 t = b01 (clqB may t)) (hq : q (nI (prsS may fw l 12 (2 ^ n - 1))) M) : Ci shM G mX12_personOf (k + 1) [.ref (G.2.1 0), .int (nI l)] M q := by
  have hP : TbP may n fw wy := fun t h => (ht t h).1
  have h2n : 0 < 2 ^ n := Nat.pow_pos (by decide)
  have h4n := pow12 hn
  have outer : ∀ m j s, j + m = 12 → s < 2 ^ n → s.testBit l = true → (∀ i, i < j → s.testBit i = false) → prsS may fw l m s = prsS may fw l 12 (2 ^ n - 1) → V shM G mX12_personOf (k + 1) 5 [(0, .ref (G.2.1 0)), (1, .int (nI l)), (2, .int (nI s))] [] M (Qi q) := by
    intro m
    induction m with
    | zero =>
      intro j s hj hs hsl hlow _
      rw [hlow l (by omega)] at hsl; cases hsl
    | succ m ih =>
      intro j s hj hs hsl hlow hR
      have h0 : s ≠ 0 := bit_ne0 hsl
      have hs4 : s < 4096 := by omega
      obtain ⟨l1, l2, l3⟩ := low_spec h0 hs4
      obtain ⟨po, pf⟩ := pick_ok hn h0 hs hP
      obtain ⟨p1, p2, p3, _⟩ := okp_iff.mp po
      have fs := RT_le (ht s hs).1 hs4
      obtain ⟨P, hPe⟩ : ∃ P, P = pickS may fw s := ⟨_, rfl⟩
      have inner : ∀ N v best, v ≤ N → v &&& s = v → best < 4096 → ((okpB may 0 s best && decide (fw (dif s best) + 1 = fw s)) = true ∨ best = s) → (∀ t, v < t → (okpB may 0 s t && decide (fw (dif s t) + 1 = fw s)) = true → best ≤ t) → V shM G mX12_personOf (k + 1) 16 [(0, .ref (G.2.1 0)), (1, .int (nI l)), (2, .int (nI s)), (3, .int (nI (lowN s))), (4, .int (nI best)), (5, .int (nI v))] [] M (Qi q) := by
        have done : ∀ best, best < 4096 → ((okpB may 0 s best && decide (fw (dif s best) + 1 = fw s)) = true ∨ best = s) → (∀ t, 0 < t → (okpB may 0 s t && decide (fw (dif s t) + 1 = fw s)) = true → best ≤ t) → best = P := by
          intro best hb4 hb hle
          have pp : (okpB may 0 s P && decide (fw (dif s P) + 1 = fw s)) = true := by rw [hPe, po, decide_eq_true pf]; rfl
          have h5 : best ≤ P := hle P (Nat.pos_of_ne_zero (by rw [hPe]; exact bit_ne0 p2)) pp
          have h6 : P ≤ best := by
            rcases hb with hb | hb
            · rcases Nat.lt_or_ge best P with h7 | h7
              · have := (fnd_spec (fun t => okpB may 0 s t && decide (fw (dif s t) + 1 = fw s)) s 0).2.2.1 best (Nat.zero_le _) (by rw [hPe] at h7; exact h7)
                exact absurd (hb.symm.trans this) (by decide)
              · exact h7
            · rw [hb, hPe]; exact sub_le p1
          omega
        intro N
        induction N with
        | zero | succ N ihN =>
          intro v best hv hvs hb4 hb hle
          have hv4 : v < 4096 := sub_lt hvs hs4
          by_cases hv0 : v = 0
          · subst hv0
            have e := done best hb4 hb hle
            have hPs : P < 2 ^ n := by rw [hPe]; exact sub_lt p1 hs
            refine wp_X12_personOf_16 ⟨fun _ => ⟨fun c => ?_, fun c => ?_⟩, fun c => absurd (by decide) c⟩
            · have hbl : P.testBit l = false := by
                cases h5 : P.testBit l with
                | false => rfl
                | true => exact absurd ((bit1 _ (by omega)).mpr (by rw [b_nI _ (by omega), e]; exact h5)) c
              rw [nx_dif, e]
              rw [prsS, ← hPe, if_neg (by rw [hbl]; decide)] at hR
              have hdl : dif s P < s := dif_lt l1 (by rw [hPe]; exact p2)
              refine ih (j + 1) (dif s P) (by omega) (by omega) (by rw [tb_dif, hsl, hbl]; rfl) (fun a ha => ?_) hR
              rw [tb_dif]
              rcases Nat.lt_or_ge a j with h5 | h5
              · rw [hlow a h5]; rfl
              · obtain rfl : a = j := by omega
                cases h6 : s.testBit a with
                | false => rfl
                | true =>
                  have : lowN s = a := low_uniq hs4 h6 hlow
                  rw [← this, hPe, p2]; simp
            · have hbl : P.testBit l = true := by
                have := (bit1 _ (by omega)).mp c
                rw [b_nI _ (by omega), e] at this; exact this
              rw [prsS, ← hPe, if_pos hbl] at hR
              rw [e, hR]
              exact hq
          first
          | exact absurd (show v = 0 by omega) hv0
          | (obtain ⟨rv, gv, av⟩ := ht v (Nat.lt_of_le_of_lt (sub_le hvs) hs)
             have hdv : dif s v ≤ s := dif_le s v
             obtain ⟨rd, gd, _⟩ := ht (dif s v) (by omega)
             have fd := RT_le rd (by omega)
             have b1 := below_lt (v := v) (f := s) (by omega)
             have keep : (okpB may 0 s v && decide (fw (dif s v) + 1 = fw s)) = false → V shM G mX12_personOf (k + 1) 16 [(0, .ref (G.2.1 0)), (1, .int (nI l)), (2, .int (nI s)), (3, .int (nI (lowN s))), (4, .int (nI best)), (5, .int (nI ((v - 1) &&& s)))] [] M (Qi q) := by
               intro hno
               refine ihN _ best (by omega) (below_sub v s) hb4 hb (fun t ht1 ht2 => ?_)
               rcases Nat.lt_trichotomy t v with h5 | h5 | h5
               · exfalso
                 have h6 := ht2
                 rw [Bool.and_eq_true] at h6
                 have := below v v s t (Nat.le_refl _) hvs (okp_iff.mp h6.1).1 h5
                 omega
               · rw [h5, hno] at ht2; cases ht2
               · exact hle t h5 ht2
             refine wp_X12_personOf_16 ⟨fun c => absurd c (nI_nle (by omega) (by omega)), fun _ => ?_⟩
             rw [nI_s1 v (by omega), nx_and, nx_dif, ix_nI (show v < 2 ^ 31 by omega), ix_nI (show dif s v < 2 ^ 31 by omega), ix_nI (show s < 2 ^ 31 by omega), av, gd, (ht s hs).2.1, nI_1]
             refine ⟨fun c => keep ?_, fun c => ⟨vp_in_nI (by omega) (by decide), fun c2 => keep ?_, fun c2 => ⟨vp_in_nI (by omega) (by decide), vp_in_nI (by omega) (by decide), fun c3 => keep ?_, fun c3 => ?_⟩⟩⟩
             · cases h5 : okpB may 0 s v with
               | false => rfl
               | true => exact absurd ((bit1 _ (by omega)).mpr (by rw [b_nI _ (by omega)]; exact (okp_iff.mp h5).2.1)) c
             · cases h5 : okpB may 0 s v with
               | false => rfl
               | true =>
                 rw [(okp_iff.mp h5).2.2.1] at c2
                 exact absurd c2 (by decide)
             · rw [decide_eq_false (fun e => c3 (by rw [e])), Bool.and_false]
             · have b2 : v.testBit (lowN s) = true := by
                 have := (bit1 _ (by omega)).mp c
                 rw [b_nI _ (by omega)] at this; exact this
               have b3 : clqB may v = true := by
                 cases h5 : clqB may v with
                 | true => rfl
                 | false => rw [h5] at c2; exact absurd rfl c2
               have b4 : fw (dif s v) + 1 = fw s := (nI_eq (by omega) (by omega)).mp c3
               have hyes : (okpB may 0 s v && decide (fw (dif s v) + 1 = fw s)) = true := by rw [okp_none hvs b2 b3, decide_eq_true b4]; rfl
               refine ihN _ v (by omega) (below_sub v s) hv4 (Or.inl hyes) (fun t ht1 ht2 => ?_)
               rcases Nat.lt_or_ge t v with h5 | h5
               · exfalso
                 have h6 := ht2
                 rw [Bool.and_eq_true] at h6
                 have := below v v s t (Nat.le_refl _) hvs (okp_iff.mp h6.1).1 h5
                 omega
               · exact h5)
      refine wp_X12_personOf_5 (c_lowest h0 hs4 (inner s s s (Nat.le_refl _) (sub_iff.mpr (fun i hi => hi)) hs4 (Or.inr rfl) (fun t ht1 ht2 => ?_)))
      omega
  refine wp_X12_personOf (wp_X12_all ?_)
  rw [e0, all_n n (by omega)]
  exact outer 12 0 (2 ^ n - 1) (by omega) (by omega) (by rw [Nat.testBit_two_pow_sub_one, decide_eq_true hl]) (fun i hi => absurd hi (Nat.not_lt_zero _)) rfl
