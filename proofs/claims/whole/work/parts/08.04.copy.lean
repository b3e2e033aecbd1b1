theorem nI_60 (s i : Nat) : nI s * 60 + nI i = nI (60 * s + i) := by rw [show (60 : Int32) = nI 60 from rfl, nI_mul, nI_add, Nat.mul_comm]
theorem nI_60' (s i : Nat) : 60 * nI s + nI i = nI (60 * s + i) := by rw [show (60 : Int32) = nI 60 from rfl, nI_mul, nI_add]
theorem c_copyUp {G : GV} {kk : Nat} {M : Mem} {q : Int32 → Mem → Prop} {s t i j n : Nat} (hs : s < 8) (ht : t < 8) (hi : i + n ≤ 60) (hj : j + n ≤ 60) (hst : s = t → j ≤ i) (h : q (nI n) (aset M 3 (va_cpy (M.1 3) (M.1 3) (60 * s + i) (60 * t + j) n))) : V shM G mX12_copy (kk + 2) 143 [(0, .ref (G.2.1 0)), (1, .int (nI s)), (2, .int (nI i)), (3, .int (nI t)), (4, .int (nI j)), (5, .int (nI n)), (6, .int 1), (7, .int 0)] [] M (Qi q) := by
  have loop : ∀ d k, k + d = n → V shM G mX12_copy (kk + 2) 143 [(0, .ref (G.2.1 0)), (1, .int (nI s)), (2, .int (nI i)), (3, .int (nI t)), (4, .int (nI j)), (5, .int (nI n)), (6, .int 1), (7, .int (nI k))] [] (aset M 3 (va_cpy (M.1 3) (M.1 3) (60 * s + i) (60 * t + j) k)) (Qi q) := by
    intro d
    induction d with
    | zero =>
      intro k hk
      obtain rfl : k = n := by omega
      exact wp_X12_copy_143 ⟨fun _ => h, fun c => absurd (nI_le (Nat.le_refl _) (by omega)) c⟩
    | succ d ih =>
      intro k hk
      refine wp_X12_copy_143 ⟨fun c => absurd c (nI_ge (by omega) (by omega)), fun _ => k1 ?_⟩
      rw [nI_60', nI_60', nI_add, nI_add, ix_nI (by omega), ix_nI (by omega), aset_eq, mset_aset, nI_1]
      refine ⟨vp_in_nI (by omega) (by decide), vp_in_nI (by omega) (by decide), ?_⟩
      have e : upd (va_cpy (M.1 3) (M.1 3) (60 * s + i) (60 * t + j) k) (60 * t + j + k) (va_cpy (M.1 3) (M.1 3) (60 * s + i) (60 * t + j) k (60 * s + i + k)) = va_cpy (M.1 3) (M.1 3) (60 * s + i) (60 * t + j) (k + 1) := by
        have e0 : va_cpy (M.1 3) (M.1 3) (60 * s + i) (60 * t + j) k (60 * s + i + k) = M.1 3 (60 * s + i + k) := by
          rw [va_cpy, if_neg]
          intro hc
          by_cases hst' : s = t
          · have := hst hst'; omega
          · omega
        rw [e0]
        funext p
        simp only [upd, va_cpy]
        by_cases h1 : p = 60 * t + j + k
        · rw [if_pos h1, if_pos (by omega)]
          exact congrArg (M.1 3) (by omega)
        · rw [if_neg h1]
          by_cases h2 : 60 * t + j ≤ p ∧ p < 60 * t + j + k
          · rw [if_pos h2, if_pos (by omega)]
          · rw [if_neg h2, if_neg (by omega)]
      rw [e]
      exact ih (k + 1) (by omega)
  have l0 := loop n 0 (by omega)
  have e0 : va_cpy (M.1 3) (M.1 3) (60 * s + i) (60 * t + j) 0 = M.1 3 := by
    funext p
    rw [va_cpy, if_neg (by omega)]
  rw [e0, aset_self, nI_0] at l0
  exact l0
/-- the same from behind -/
def dcpy (f : Nat → Int32) (sp dp n k : Nat) : Nat → Int32 := fun p => if dp + (n - k) ≤ p ∧ p < dp + n then f (sp + (p - dp)) else f p
theorem c_copyDown {G : GV} {kk : Nat} {M : Mem} {q : Int32 → Mem → Prop} {s t i j n : Nat} (hs : s < 8) (ht : t < 8) (hi : i + n ≤ 60) (hj : j + n ≤ 60) (hst : s = t → i < j) (h : q (nI n) (aset M 3 (va_cpy (M.1 3) (M.1 3) (60 * s + i) (60 * t + j) n))) : V shM G mX12_copy (kk + 2) 143 [(0, .ref (G.2.1 0)), (1, .int (nI s)), (2, .int (nI i)), (3, .int (nI t)), (4, .int (nI j)), (5, .int (nI n)), (6, .int 0), (7, .int 0)] [] M (Qi q) := by
  have loop : ∀ d k, k + d = n → V shM G mX12_copy (kk + 2) 143 [(0, .ref (G.2.1 0)), (1, .int (nI s)), (2, .int (nI i)), (3, .int (nI t)), (4, .int (nI j)), (5, .int (nI n)), (6, .int 0), (7, .int (nI k))] [] (aset M 3 (dcpy (M.1 3) (60 * s + i) (60 * t + j) n k)) (Qi q) := by
    intro d
    induction d with
    | zero =>
      intro k hk
      obtain rfl : k = n := by omega
      have e : dcpy (M.1 3) (60 * s + i) (60 * t + j) k k = va_cpy (M.1 3) (M.1 3) (60 * s + i) (60 * t + j) k := by
        funext p
        simp only [dcpy, va_cpy, Nat.sub_self, Nat.add_zero]
      rw [e]
      exact wp_X12_copy_143 ⟨fun _ => h, fun c => absurd (nI_le (Nat.le_refl _) (by omega)) c⟩
    | succ d ih =>
      intro k hk
      refine wp_X12_copy_143 ⟨fun c => absurd c (nI_ge (by omega) (by omega)), fun _ => k0 ?_⟩
      have ek : (nI n - 1) - nI k = nI (n - 1 - k) := by rw [show (1 : Int32) = nI 1 from rfl, nI_sub (by omega), nI_sub (by omega)]
      rw [ek, nI_60', nI_60', nI_add, nI_add, ix_nI (by omega), ix_nI (by omega), aset_eq, mset_aset, nI_1]
      refine ⟨vp_in_nI (by omega) (by decide), vp_in_nI (by omega) (by decide), ?_⟩
      have e : upd (dcpy (M.1 3) (60 * s + i) (60 * t + j) n k) (60 * t + j + (n - 1 - k)) (dcpy (M.1 3) (60 * s + i) (60 * t + j) n k (60 * s + i + (n - 1 - k))) = dcpy (M.1 3) (60 * s + i) (60 * t + j) n (k + 1) := by
        have e0 : dcpy (M.1 3) (60 * s + i) (60 * t + j) n k (60 * s + i + (n - 1 - k)) = M.1 3 (60 * s + i + (n - 1 - k)) := by
          rw [dcpy, if_neg]
          intro hc
          by_cases hst' : s = t
          · have := hst hst'; omega
          · omega
        rw [e0]
        funext p
        simp only [upd, dcpy]
        by_cases h1 : p = 60 * t + j + (n - 1 - k)
        · rw [if_pos h1, if_pos (by omega)]
          exact congrArg (M.1 3) (by omega)
        · rw [if_neg h1]
          by_cases h2 : 60 * t + j + (n - k) ≤ p ∧ p < 60 * t + j + n
          · rw [if_pos h2, if_pos (by omega)]
          · rw [if_neg h2, if_neg (by omega)]
      rw [e]
      exact ih (k + 1) (by omega)
  have l0 := loop n 0 (by omega)
  have e0 : dcpy (M.1 3) (60 * s + i) (60 * t + j) n 0 = M.1 3 := by
    funext p
    rw [dcpy, if_neg (by omega)]
  rw [e0, aset_self, nI_0] at l0
  exact l0
theorem fb_r (x : Int32) : -2147483648 ≤ x.toInt ∧ x.toInt < 2147483648 := ⟨Int32.le_toInt x, Int32.toInt_lt x⟩
theorem toInt64_add (x y : Int32) : (Int32.toInt64 x + Int32.toInt64 y).toInt = x.toInt + y.toInt := by
  have h1 := fb_r x
  have h2 := fb_r y
  rw [Int64.toInt_add, Int32.toInt_toInt64, Int32.toInt_toInt64]
  exact Int.bmod_eq_of_le (by omega) (by omega)
