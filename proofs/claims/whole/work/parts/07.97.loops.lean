/-! counting and asking whether there is one, below a bound -/
def anyB (p : Nat → Bool) : Nat → Bool
  | 0 => false
  | n + 1 => anyB p n || p n
def cntB (p : Nat → Bool) : Nat → Nat
  | 0 => 0
  | n + 1 => cntB p n + if p n then 1 else 0
theorem anyB_iff {p : Nat → Bool} {n : Nat} : anyB p n = true ↔ ∃ j, j < n ∧ p j = true := by
  induction n with
  | zero => simp [anyB]
  | succ n ih =>
    rw [anyB, Bool.or_eq_true, ih]
    constructor
    · rintro (⟨j, h1, h2⟩ | h)
      · exact ⟨j, by omega, h2⟩
      · exact ⟨n, by omega, h⟩
    · rintro ⟨j, h1, h2⟩
      rcases Nat.lt_or_ge j n with h | h
      · exact Or.inl ⟨j, h, h2⟩
      · obtain rfl : j = n := by omega
        exact Or.inr h2
theorem anyB_no {p : Nat → Bool} {n : Nat} (h : ∀ j, j < n → p j = false) : anyB p n = false := by
  cases hc : anyB p n with
  | false => rfl
  | true =>
    obtain ⟨j, h1, h2⟩ := anyB_iff.mp hc
    rw [h j h1] at h2; cases h2
theorem anyB_yes {p : Nat → Bool} {n j : Nat} (hj : j < n) (h : p j = true) : anyB p n = true := anyB_iff.mpr ⟨j, hj, h⟩
theorem anyB_congr {p p' : Nat → Bool} {n : Nat} (h : ∀ j, j < n → p j = p' j) : anyB p n = anyB p' n := by
  induction n with
  | zero => rfl
  | succ n ih => rw [anyB, anyB, ih (fun j hj => h j (by omega)), h n (by omega)]
theorem cntB_congr {p p' : Nat → Bool} {n : Nat} (h : ∀ j, j < n → p j = p' j) : cntB p n = cntB p' n := by
  induction n with
  | zero => rfl
  | succ n ih => rw [cntB, cntB, ih (fun j hj => h j (by omega)), h n (by omega)]
theorem cntB_le {p : Nat → Bool} {n : Nat} : cntB p n ≤ n := by
  induction n with
  | zero => exact Nat.le_refl _
  | succ n ih => rw [cntB]; split <;> omega
theorem cntB_t {p : Nat → Bool} {n : Nat} (h : p n = true) : cntB p (n + 1) = cntB p n + 1 := by rw [cntB, if_pos h]
theorem cntB_f {p : Nat → Bool} {n : Nat} (h : p n = false) : cntB p (n + 1) = cntB p n := by rw [cntB, h]; rfl
theorem cntB_range (p : Nat → Bool) (n : Nat) : cntB p n = (List.range n).countP p := by
  induction n with
  | zero => rfl
  | succ n ih => rw [List.range_succ, List.countP_append, cntB, ih]; simp [List.countP_cons]
theorem cntB_list (p : Nat → Bool) (l : List Nat) : ∀ i, i ≤ l.length → cntB (fun i => p (l.getD i 0)) i = (l.take i).countP p := by
  intro i
  induction i with
  | zero => intro _; rfl
  | succ i ih =>
    intro h
    rw [cntB, ih (by omega), List.take_succ_eq_append_getElem (by omega), List.countP_append]
    simp [List.countP_cons, List.getD, show i < l.length by omega]
def b01 (b : Bool) : Int32 := if b then 1 else 0
theorem b01_t {b : Bool} (h : b = true) : b01 b = 1 := by rw [h]; rfl
theorem b01_f {b : Bool} (h : b = false) : b01 b = 0 := by rw [h]; rfl
theorem b01_01 (b : Bool) : b01 b = 0 ∨ b01 b = 1 := by cases b; exact Or.inl rfl; exact Or.inr rfl
