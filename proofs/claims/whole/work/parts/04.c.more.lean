section VM
variable {sh : List SE} {G : GV} {mi : MI} {k pc : Nat} {lv : List (Nat × Value)} {st : List Value} {M : Mem} {Q : Option Value → Mem → Prop}
theorem w_max : Cond.static Lib.Math.max.name ∈ lw_g ∧ Cond.initialized "java/lang/Math" ∈ lw_g ∧ Cond.code Lib.Math.max.name Lib.Math.max.code 2 (some .int) ∈ lw_g := by decide +kernel
theorem w_min : Cond.static Lib.Math.min.name ∈ lw_g ∧ Cond.initialized "java/lang/Math" ∈ lw_g ∧ Cond.code Lib.Math.min.name Lib.Math.min.code 2 (some .int) ∈ lw_g := by decide +kernel
theorem w_abs : Cond.static Lib.Math.abs.name ∈ lw_g ∧ Cond.initialized "java/lang/Math" ∈ lw_g ∧ Cond.code Lib.Math.abs.name Lib.Math.abs.code 1 (some .int) ∈ lw_g := by decide +kernel
theorem V_mmax {idx : Nat} {x y : Int32} (hd : decode (mcode mi) pc = .ok (.invokestatic idx, 3)) (hw : Cond.methodLink (mown mi) idx Lib.Math.max.name ∈ lw_g) (hsum : (st.map fun v => v.category).sum ≤ 8) (h : V sh G mi (k + 1) (pc + 3) lv (.int (if x < y then y else x) :: st) M Q) : V sh G mi (k + 1) pc lv (.int y :: .int x :: st) M Q := fun p l e s m args below meth c H locs ls C hP hS hl => va_mmax C.1 C.2.1 (C.2.2.1.trans hl.1.symm) C.2.2.2.2.1 (C.2.2.2.2.2.2.1 _ hw) (C.2.2.2.2.2.2.1 _ w_max.1) (C.2.2.2.2.2.2.1 _ w_max.2.1) (C.2.2.2.2.2.2.1 _ w_max.2.2) (Nat.le_add_left 1 k) (by show _ ≤ 35 * (k + 1); omega) (Nat.le_refl _) (Nat.le_refl _) hd (h p l e s m args below meth c H locs ls C hP hS hl)
theorem V_mmin {idx : Nat} {x y : Int32} (hd : decode (mcode mi) pc = .ok (.invokestatic idx, 3)) (hw : Cond.methodLink (mown mi) idx Lib.Math.min.name ∈ lw_g) (hsum : (st.map fun v => v.category).sum ≤ 8) (h : V sh G mi (k + 1) (pc + 3) lv (.int (if y < x then y else x) :: st) M Q) : V sh G mi (k + 1) pc lv (.int y :: .int x :: st) M Q := fun p l e s m args below meth c H locs ls C hP hS hl => va_mmin C.1 C.2.1 (C.2.2.1.trans hl.1.symm) C.2.2.2.2.1 (C.2.2.2.2.2.2.1 _ hw) (C.2.2.2.2.2.2.1 _ w_min.1) (C.2.2.2.2.2.2.1 _ w_min.2.1) (C.2.2.2.2.2.2.1 _ w_min.2.2) (Nat.le_add_left 1 k) (by show _ ≤ 35 * (k + 1); omega) (Nat.le_refl _) (Nat.le_refl _) hd (h p l e s m args below meth c H locs ls C hP hS hl)
theorem V_mabs {idx : Nat} {x : Int32} (hd : decode (mcode mi) pc = .ok (.invokestatic idx, 3)) (hw : Cond.methodLink (mown mi) idx Lib.Math.abs.name ∈ lw_g) (hsum : (st.map fun v => v.category).sum ≤ 8) (h : V sh G mi (k + 1) (pc + 3) lv (.int (if 0 ≤ x then x else 0 - x) :: st) M Q) : V sh G mi (k + 1) pc lv (.int x :: st) M Q := fun p l e s m args below meth c H locs ls C hP hS hl => va_mabs C.1 C.2.1 (C.2.2.1.trans hl.1.symm) C.2.2.2.2.1 (C.2.2.2.2.2.2.1 _ hw) (C.2.2.2.2.2.2.1 _ w_abs.1) (C.2.2.2.2.2.2.1 _ w_abs.2.1) (C.2.2.2.2.2.2.1 _ w_abs.2.2) (Nat.le_add_left 1 k) (by show _ ≤ 35 * (k + 1); omega) (Nat.le_refl _) (Nat.le_refl _) hd (h p l e s m args below meth c H locs ls C hP hS hl)
theorem V_lv {lv2 : List (Nat × Value)} (hv : lv = lv2) (h : V sh G mi k pc lv2 st M Q) : V sh G mi k pc lv st M Q := by rw [hv]; exact h
theorem V_top {x v : Int32} (hv : x = v) (h : V sh G mi k pc lv (.int v :: st) M Q) : V sh G mi k pc lv (.int x :: st) M Q := by rw [hv]; exact h
theorem V_topL {x v : Int64} (hv : x = v) (h : V sh G mi k pc lv (.long v :: st) M Q) : V sh G mi k pc lv (.long x :: st) M Q := by rw [hv]; exact h
/-- the rows of LostOrder's table -/
theorem row_get {i : Int32} (h : vp_in i 13) : ([48, 49, 50, 51, 52, 53, 54, 55, 56, 57, 58, 59, 60] : List Nat)[ix i]? = some (48 + ix i) := by
  have h1 : ix i < 13 := Nat.not_le.mp fun q => h (Or.inr q)
  generalize ix i = n at h1
  match n, h1 with
  | 0, _ => rfl | 1, _ => rfl | 2, _ => rfl | 3, _ => rfl | 4, _ => rfl | 5, _ => rfl | 6, _ => rfl | 7, _ => rfl | 8, _ => rfl | 9, _ => rfl | 10, _ => rfl | 11, _ => rfl | 12, _ => rfl
theorem row_sh {i : Int32} (h : vp_in i 13) : shC[48 + ix i]? = some (.inl (0, .int, 13, [])) := by
  have h1 : ix i < 13 := Nat.not_le.mp fun q => h (Or.inr q)
  generalize ix i = n at h1
  match n, h1 with
  | 0, _ => rfl | 1, _ => rfl | 2, _ => rfl | 3, _ => rfl | 4, _ => rfl | 5, _ => rfl | 6, _ => rfl | 7, _ => rfl | 8, _ => rfl | 9, _ => rfl | 10, _ => rfl | 11, _ => rfl | 12, _ => rfl
end VM
