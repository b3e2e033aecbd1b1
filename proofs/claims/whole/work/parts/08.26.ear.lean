/-! EAR -/
theorem cd_nI : ∀ x, x < 26 → codes26.getD x 0 = nI (cdN x) ∧ cdN x ≤ 6 := by decide +kernel
def earF (x : Nat → Nat) (z : Nat) : Nat := 1000 * x 0 + (earR (fun k => cdN (x k)) (z - 1)).2.1 * 10 ^ (3 - (earR (fun k => cdN (x k)) (z - 1)).1)
theorem earN_F (d : Nat → Nat → Int32) (l : Nat) : earN d l = earF (fun k => ix (d 14 (8 * l + k))) (ix (d 13 l)) := rfl
theorem earR_congr {f g : Nat → Nat} {m : Nat} (h : ∀ k, 1 ≤ k → k ≤ m → f k = g k) : earR f m = earR g m := by
  induction m with
  | zero => rfl
  | succ m ih => rw [earR, earR, ih (fun k h1 h2 => h k h1 (by omega)), h (m + 1) (by omega) (by omega)]
theorem earF_congr {x y : Nat → Nat} {z : Nat} (hz : 1 ≤ z) (h : ∀ k, k < z → x k = y k) : earF x z = earF y z := by
  unfold earF
  rw [h 0 (by omega), earR_congr (f := fun k => cdN (x k)) (g := fun k => cdN (y k)) (m := z - 1) (fun k h1 h2 => by show cdN (x k) = cdN (y k); rw [h k (by omega)])]
theorem earR_le (f : Nat → Nat) (hf : ∀ k, f k ≤ 6) (m : Nat) : (earR f m).1 ≤ 3 ∧ (earR f m).2.1 < 10 ^ (earR f m).1 ∧ (earR f m).2.2 ≤ 6 := by
  induction m with
  | zero => exact ⟨Nat.zero_le _, (by decide : 0 < 10 ^ 0), Nat.zero_le _⟩
  | succ m ih =>
    rw [earR]
    split
    · exact ih
    · rename_i h
      have := hf (m + 1)
      refine ⟨by show (earR f m).1 + 1 ≤ 3; omega, ?_, this⟩
      show 10 * (earR f m).2.1 + f (m + 1) < 10 ^ ((earR f m).1 + 1)
      rw [Nat.pow_succ]
      omega
theorem earR_stop {f : Nat → Nat} {k : Nat} (h : 3 ≤ (earR f k).1) : ∀ m, earR f (k + m) = earR f k := by
  intro m
  induction m with
  | zero => rfl
  | succ m ih =>
    rw [show k + (m + 1) = (k + m) + 1 from rfl, earR, ih, if_pos (Or.inr (Or.inr h))]
theorem nI_10 (v : Nat) : 10 * nI v = nI (10 * v) := by rw [show (10 : Int32) = nI 10 from rfl, nI_mul]
theorem nI_10' (v : Nat) : nI v * 10 = nI (v * 10) := by rw [show (10 : Int32) = nI 10 from rfl, nI_mul]
theorem nI_1000 (v : Nat) : 1000 * nI v = nI (1000 * v) := by rw [show (1000 : Int32) = nI 1000 from rfl, nI_mul]
theorem nI_8 (v : Nat) : 8 * nI v = nI (8 * v) := by rw [show (8 : Int32) = nI 8 from rfl, nI_mul]
theorem nI_8' (v : Nat) : nI v * 8 = nI (8 * v) := by rw [show (8 : Int32) = nI 8 from rfl, nI_mul, Nat.mul_comm]
section
variable {G : GV} {kk l : Nat} {M : Mem} {q : Int32 → Mem → Prop}
theorem padM {x0 : Nat} {v4 v5 : Int32} (hl : l < 12) (e0 : M.1 14 (8 * l) = nI x0) : ∀ m n v, n + m = 3 → q (nI (1000 * x0 + v * 10 ^ m)) M → V shM G mX12_earOf (kk + 1) 76 [(0, .ref (G.2.1 0)), (1, .int (nI l)), (2, .int (nI v)), (3, .int (nI n)), (4, .int v4), (5, .int v5)] [] M (Qi q) := by
  intro m
  induction m with
  | zero =>
    intro n v hn hq
    obtain rfl : n = 3 := by omega
    refine wp_X12_earOf_76 ⟨fun _ => ?_, fun c => absurd (by decide) c⟩
    rw [nI_8, ix_nI (by omega), e0, nI_1000, nI_add]
    rw [Nat.pow_zero, Nat.mul_one] at hq
    exact ⟨vp_in_nI (by omega) (by decide), hq⟩
  | succ m ih =>
    intro n v hn hq
    refine wp_X12_earOf_76 ⟨fun c => absurd c (nI_ge (b := 3) (by omega) (by omega)), fun _ => ?_⟩
    rw [nI_10', nI_1]
    refine ih (n + 1) (v * 10) (by omega) ?_
    rw [Nat.mul_assoc, show 10 * 10 ^ m = 10 ^ (m + 1) from by rw [Nat.pow_succ, Nat.mul_comm]]
    exact hq
theorem c_earOfM {x : Nat → Nat} {z : Nat} (hl : l < 12) (hz1 : 1 ≤ z) (hz8 : z ≤ 8) (e13 : M.1 13 l = nI z) (e14 : ∀ k, k < z → M.1 14 (8 * l + k) = nI (x k) ∧ x k < 26) (h : q (nI (earF x z)) M) : Ci shM G mX12_earOf (kk + 1) [.ref (G.2.1 0), .int (nI l)] M q := by
  have hv : vp_in (nI l) 12 := vp_in_nI hl (by decide)
  have hx : ix (nI l) = l := ix_nI (by omega)
  obtain ⟨f, hf⟩ : ∃ f : Nat → Nat, f = fun k => if k < z then cdN (x k) else 0 := ⟨_, rfl⟩
  have hf6 : ∀ k, f k ≤ 6 := fun k => by
    rw [hf]
    show (if k < z then cdN (x k) else 0) ≤ 6
    split
    · rename_i hk; exact (cd_nI _ (e14 k hk).2).2
    · omega
  have hfk : ∀ k, k < z → f k = cdN (x k) := fun k hk => by rw [hf]; exact if_pos hk
  have hE : earF x z = 1000 * x 0 + (earR f (z - 1)).2.1 * 10 ^ (3 - (earR f (z - 1)).1) := by
    rw [earF, earR_congr (f := fun k => cdN (x k)) (g := f) (m := z - 1) (fun k h1 h2 => (hfk k (by omega)).symm)]
  have loop : ∀ m k la, k + 1 + m = z → ((earR f k).1 < 3 → la = (earR f k).2.2) → la ≤ 6 → V shM G mX12_earOf (kk + 1) 10 [(0, .ref (G.2.1 0)), (1, .int (nI l)), (2, .int (nI (earR f k).2.1)), (3, .int (nI (earR f k).1)), (4, .int (nI la)), (5, .int (nI (k + 1)))] [] M (Qi q) := by
    intro m
    induction m with
    | zero =>
      intro k la hk hla h6
      obtain ⟨b1, b2, b3⟩ := earR_le f hf6 k
      refine wp_X12_earOf_10 ⟨hv, fun _ => ?_, fun c => absurd (by rw [hx, e13]; exact nI_le (by omega) (by omega)) c⟩
      refine padM hl (by have := (e14 0 (by omega)).1; rw [Nat.add_zero] at this; exact this) (3 - (earR f k).1) _ _ (by omega) ?_
      rw [hE, show z - 1 = k by omega] at h
      exact h
    | succ m ih =>
      intro k la hk hla h6
      obtain ⟨b1, b2, b3⟩ := earR_le f hf6 k
      have hxk := e14 (k + 1) (by omega)
      have hc := cd_nI _ hxk.2
      have hfk1 := hfk (k + 1) (by omega)
      refine wp_X12_earOf_10 ⟨hv, fun c => absurd c (by rw [hx, e13]; exact nI_ge (by omega) (by omega)), fun _ => ?_⟩
      rw [nI_8, nI_add, ix_nI (by omega), hxk.1]
      refine ⟨vp_in_nI (by omega) (by decide), c_codeOfM hxk.2 ?_⟩
      rw [hc.1, nI_1 (k + 1), ← hfk1]
      rw [← hfk1] at hc
      have l1 := ih (k + 1)
      by_cases c0 : f (k + 1) = 0
      · rw [earR, if_pos (Or.inl c0)] at l1
        rw [c0]
        exact ⟨fun _ => l1 la (by omega) hla h6, fun c => absurd (by decide) c⟩
      · refine ⟨fun c => absurd c (nI_nle (by omega) (by omega)), fun _ => ⟨fun c => ?_, fun c => ⟨fun c2 => ?_, fun c2 => ?_⟩⟩⟩
        · have c' : f (k + 1) = la := (nI_eq (by omega) (by omega)).mp c
          have hs : earR f (k + 1) = earR f k := by
            rw [earR]
            by_cases h3 : 3 ≤ (earR f k).1
            · exact if_pos (Or.inr (Or.inr h3))
            · exact if_pos (Or.inr (Or.inl (by rw [c', hla (by omega)])))
          rw [hs] at l1
          exact l1 (f (k + 1)) (by omega) (by rw [c']; exact hla) hc.2
        · have h3 : 3 ≤ (earR f k).1 := (nI_leI (a := 3) (by omega) (by omega)).mp c2
          have hs : earR f (k + 1) = earR f k := by rw [earR]; exact if_pos (Or.inr (Or.inr h3))
          rw [hs] at l1
          exact l1 (f (k + 1)) (by omega) (fun h => absurd h (by omega)) hc.2
        · have h3 : ¬ 3 ≤ (earR f k).1 := fun e => c2 (nI_le (a := 3) e (by omega))
          have hs : earR f (k + 1) = ((earR f k).1 + 1, 10 * (earR f k).2.1 + f (k + 1), f (k + 1)) := by
            rw [earR]
            refine if_neg ?_
            rintro (h | h | h)
            · exact c0 h
            · exact c (by rw [h, hla (by omega)])
            · exact h3 h
          rw [hs] at l1
          rw [nI_10, nI_add, nI_1]
          exact l1 (f (k + 1)) (by omega) (fun _ => rfl) hc.2
  exact wp_X12_earOf (loop (z - 1) 0 0 (by omega) (fun _ => rfl) (by omega))
theorem padC {v1 v4 v5 : Int32} : ∀ m n v, n + m = 3 → q (nI (v * 10 ^ m)) M → V shC G mX5_earOf (kk + 2) 79 [(0, .ref (G.2.1 7)), (1, .int v1), (2, .int (nI v)), (3, .int (nI n)), (4, .int v4), (5, .int v5)] [] M (Qi q) := by
  intro m
  induction m with
  | zero =>
    intro n v hn hq
    obtain rfl : n = 3 := by omega
    rw [Nat.pow_zero, Nat.mul_one] at hq
    exact wp_X5_earOf_79 ⟨fun _ => hq, fun c => absurd (by decide) c⟩
  | succ m ih =>
    intro n v hn hq
    refine wp_X5_earOf_79 ⟨fun c => absurd c (nI_ge (b := 3) (by omega) (by omega)), fun _ => ?_⟩
    rw [nI_10, nI_1]
    refine ih (n + 1) (10 * v) (by omega) ?_
    rw [Nat.mul_comm 10 v, Nat.mul_assoc, show 10 * 10 ^ m = 10 ^ (m + 1) from by rw [Nat.pow_succ, Nat.mul_comm]]
    exact hq
theorem ear_pad {n v x0 : Nat} (hn : n ≤ 3) : (x0 * 10 ^ n + v) * 10 ^ (3 - n) = 1000 * x0 + v * 10 ^ (3 - n) := by
  match n, hn with
  | 0, _ => simp; omega
  | 1, _ => simp; omega
  | 2, _ => simp; omega
  | 3, _ => simp; omega
theorem c_letterC {j : Nat} (hl : l < 12) (hj : j < 8) (h : q (M.1 35 (8 * l + j)) M) : Ci shC G mX5_letter kk [.ref (G.2.1 7), .int (nI l), .int (nI j)] M q := by
  refine wp_X5_letter ?_
  rw [nI_8', nI_add, ix_nI (by omega)]
  exact ⟨vp_in_nI (by omega) (by decide), h⟩
theorem c_earOfC {x : Nat → Nat} {z : Nat} (hl : l < 12) (hz1 : 1 ≤ z) (hz8 : z ≤ 8) (e13 : M.1 38 l = nI z) (e14 : ∀ k, k < z → M.1 35 (8 * l + k) = nI (x k) ∧ x k < 26) (h : q (nI (earF x z)) M) : Ci shC G mX5_earOf (kk + 2) [.ref (G.2.1 7), .int (nI l)] M q := by
  have hv : vp_in (nI l) 12 := vp_in_nI hl (by decide)
  have hx : ix (nI l) = l := ix_nI (by omega)
  obtain ⟨f, hf⟩ : ∃ f : Nat → Nat, f = fun k => if k < z then cdN (x k) else 0 := ⟨_, rfl⟩
  have hf6 : ∀ k, f k ≤ 6 := fun k => by
    rw [hf]
    show (if k < z then cdN (x k) else 0) ≤ 6
    split
    · rename_i hk; exact (cd_nI _ (e14 k hk).2).2
    · omega
  have hfk : ∀ k, k < z → f k = cdN (x k) := fun k hk => by rw [hf]; exact if_pos hk
  have hE : earF x z = 1000 * x 0 + (earR f (z - 1)).2.1 * 10 ^ (3 - (earR f (z - 1)).1) := by
    rw [earF, earR_congr (f := fun k => cdN (x k)) (g := f) (m := z - 1) (fun k h1 h2 => (hfk k (by omega)).symm)]
  have fin : ∀ k v4 v5, earR f k = earR f (z - 1) → V shC G mX5_earOf (kk + 2) 79 [(0, .ref (G.2.1 7)), (1, .int (nI l)), (2, .int (nI (x 0 * 10 ^ (earR f k).1 + (earR f k).2.1))), (3, .int (nI (earR f k).1)), (4, .int v4), (5, .int v5)] [] M (Qi q) := by
    intro k v4 v5 hk
    obtain ⟨b1, b2, b3⟩ := earR_le f hf6 k
    refine padC (3 - (earR f k).1) _ _ (by omega) ?_
    rw [ear_pad b1, hk, ← hE]
    exact h
  have loop : ∀ m k, k + 1 + m = z → V shC G mX5_earOf (kk + 2) 15 [(0, .ref (G.2.1 7)), (1, .int (nI l)), (2, .int (nI (x 0 * 10 ^ (earR f k).1 + (earR f k).2.1))), (3, .int (nI (earR f k).1)), (4, .int (nI (earR f k).2.2)), (5, .int (nI (k + 1)))] [] M (Qi q) := by
    intro m
    induction m with
    | zero =>
      intro k hk
      refine wp_X5_earOf_15 ⟨hv, fun _ => fin k _ _ (by rw [show z - 1 = k by omega]), fun c => absurd (by rw [hx, e13]; exact nI_le (by omega) (by omega)) c⟩
    | succ m ih =>
      intro k hk
      obtain ⟨b1, b2, b3⟩ := earR_le f hf6 k
      have hxk := e14 (k + 1) (by omega)
      have hc := cd_nI _ hxk.2
      have hfk1 := hfk (k + 1) (by omega)
      refine wp_X5_earOf_15 ⟨hv, fun c => absurd c (by rw [hx, e13]; exact nI_ge (by omega) (by omega)), fun _ => ⟨fun c => ?_, fun c => ?_⟩⟩
      · have h3 : 3 ≤ (earR f k).1 := (nI_leI (a := 3) (by omega) (by omega)).mp c
        refine fin k _ _ ?_
        rw [show z - 1 = k + (z - 1 - k) by omega, earR_stop h3]
      · have h3 : ¬ 3 ≤ (earR f k).1 := fun e => c (nI_le (a := 3) e (by omega))
        refine c_letterC hl (by omega) ?_
        rw [hxk.1]
        refine c_codeOf ?_
        rw [codeS_nI _ hxk.2, hc.1, nI_1 (k + 1), ← hfk1]
        rw [← hfk1] at hc
        have l1 := ih (k + 1) (by omega)
        by_cases c0 : f (k + 1) = 0
        · rw [earR, if_pos (Or.inl c0)] at l1
          rw [c0]
          exact k0 l1
        · refine ⟨fun c => absurd c (nI_ne0 (by omega) (by omega)), fun _ => ⟨fun c2 => ?_, fun c2 => ?_⟩⟩
          · have hs : earR f (k + 1) = ((earR f k).1 + 1, 10 * (earR f k).2.1 + f (k + 1), f (k + 1)) := by
              rw [earR]
              refine if_neg ?_
              rintro (h | h | h)
              · exact c0 h
              · exact c2 (by rw [h])
              · exact h3 h
            rw [hs] at l1
            rw [nI_10, nI_add, nI_1]
            have e10 : 10 * (x 0 * 10 ^ (earR f k).1 + (earR f k).2.1) + f (k + 1) = x 0 * 10 ^ ((earR f k).1 + 1) + (10 * (earR f k).2.1 + f (k + 1)) := by
              rw [Nat.pow_succ, Nat.mul_add, Nat.add_assoc, ← Nat.mul_assoc (x 0), Nat.mul_comm 10 (x 0 * _)]
            rw [e10]
            exact l1
          · have c' : f (k + 1) = (earR f k).2.2 := (nI_eq (by omega) (by omega)).mp c2
            rw [earR, if_pos (Or.inr (Or.inl c'))] at l1
            exact l1
  have h0 := loop (z - 1) 0 (by omega)
  refine wp_X5_earOf (c_letterC (j := 0) hl (by omega) ?_)
  rw [(e14 0 (by omega)).1]
  have : x 0 * 10 ^ (earR f 0).1 + (earR f 0).2.1 = x 0 := by show x 0 * 10 ^ 0 + 0 = x 0; simp
  rw [this] at h0
  exact h0
end
/-- letters of a line -/
theorem WF_name {d : Nat → Nat → Int32} (hW : WFm d) {l : Nat} (hl : l < ix (d 0 10)) : ∃ z, 1 ≤ z ∧ z ≤ 8 ∧ d 13 l = nI z ∧ ix (d 13 l) = z ∧ ∀ k, k < z → d 14 (8 * l + k) = nI (ix (d 14 (8 * l + k))) ∧ ix (d 14 (8 * l + k)) < 26 := by
  obtain ⟨z, z1, z8, e, h⟩ := (hW.2.2.2.2.2.1 l hl).2.2.2.2.2
  refine ⟨z, z1, z8, e, by rw [e, ix_nI (by omega)], fun k hk => ?_⟩
  obtain ⟨x, hx, ex⟩ := h k hk
  rw [ex, ix_nI (by omega)]
  exact ⟨rfl, hx⟩
theorem c_ear {G : GV} {kk l : Nat} {M : Mem} {q : Int32 → Mem → Prop} (hW : WFm (kM M.1)) (hl : l < nLm M) (h : q (nI (earN (kM M.1) l)) M) : Ci shM G mX12_earOf (kk + 1) [.ref (G.2.1 0), .int (nI l)] M q := by
  have hn := (WF_L hW).2
  obtain ⟨z, z1, z8, e, ez, hk⟩ := WF_name hW (show l < ix (kM M.1 0 10) from hl)
  rw [earN_F, ez] at h
  exact c_earOfM (by omega) z1 z8 e hk h
theorem st_ear : St_ear RR := by
  intro G1 G2 Mc Mm v hR
  obtain ⟨hW, hT⟩ := hR.2.2.2.2.1
  obtain ⟨e6, e0, hn⟩ := RR_L hR
  rcases num2 v (n := nLm Mm) (by omega) with hb | ⟨l, hl, rfl⟩
  · exact wp_X11_ear (c_noLine_bad e6 (by omega) hb (k1 (wp_X12_ear (c_isLine_bad e0 (by omega) hb (k0 ⟨rfl, RR_thrown hR⟩)))))
  · refine wp_X11_ear (c_noLine_ok e6 (by omega) hl (k0 ⟨vin12 hl hn, wp_X12_ear (c_isLine_ok e0 (by omega) hl (k1 (c_ear (M := mset Mm 0 0 0) hW hl ⟨?_, RR_thrown hR⟩)))⟩))
    rw [ix12 hl hn]
    exact (hT.2.2.2.1 l hl).2.2.2.2.2.2.2.2.1
