/-! read: the model's tokens -/
def mkT (kd : Nat) : Nat := if kd = 0 then 1 else if kd = 1 then 2 else if kd = 2 then 3 else if kd = 3 then 4 else 0
def TkM (n : Nat) (f : Nat → Int32) (t : Nat × Nat × Nat) : Prop := f 31 = nI n ∧ f 32 = nI t.2.2 ∧ f 33 = nI (mkT t.1) ∧ f 34 = nI t.2.1 ∧ f 35 = nI t.2.2
/-- all but the token's fields is the same -/
def eqM (f f' : Nat → Int32) : Prop := ∀ j, (j < 32 ∨ 35 < j) → f' j = f j
theorem eqM_upd {f f' : Nat → Int32} {i : Nat} {x : Int32} (h : eqM f f') (h1 : 32 ≤ i) (h2 : i ≤ 35) : eqM f (upd f' i x) := fun j hj => by
  rw [upd_ne _ _ (by omega)]; exact h j hj
theorem eqM_refl (f : Nat → Int32) : eqM f f := fun _ _ => rfl
theorem eqM_trans {f g h : Nat → Int32} (h1 : eqM f g) (h2 : eqM g h) : eqM f h := fun j hj => (h2 j hj).trans (h1 j hj)
section
variable {G : GV} {k n : Nat} {M : Mem} {bb : Nat → Nat}
theorem c_byteAt {q : Int32 → Mem → Prop} {f : Nat → Int32} {i : Nat} (hn : n ≤ 600) (hi : i ≤ n) (hb : ∀ i, i < n → bb i < 256 ∧ M.1 23 i = nI (bb i)) (f31 : f 31 = nI n) (h : q (if i < n then nI (bb i) else -1000000) (aset M 0 f)) : Ci shM G mX12_byteAt k [.ref (G.2.1 0), .int (nI i)] (aset M 0 f) q := by
  refine wp_X12_byteAt ⟨fun c => ?_, fun c => ?_⟩
  · rw [show (aset M 0 f).1 0 31 = nI n from f31] at c
    have := (nI_leI (by omega) (by omega)).mp c
    rw [if_neg (by omega)] at h; exact h
  · rw [show (aset M 0 f).1 0 31 = nI n from f31] at c
    have hlt : i < n := by
      rcases Nat.lt_or_ge i n with h5 | h5
      · exact h5
      · exact absurd (nI_le h5 (by omega)) c
    rw [if_pos hlt] at h
    rw [ix_nI (by omega), show (aset M 0 f).1 23 i = nI (bb i) from (hb i hlt).2]
    exact ⟨vp_in_nI (by omega) (by decide), h⟩
theorem c_isLetX {q : Int32 → Mem → Prop} {i : Nat} (hb : i < n → bb i < 256) (h : q (b01 (decide (i < n) && leB (bb i))) M) : Ci shM G mX12_isLetter k [.int (if i < n then nI (bb i) else -1000000)] M q := by
  by_cases hi : i < n
  · rw [if_pos hi]
    rw [decide_eq_true hi, Bool.true_and] at h
    have hs := nb_le _ (hb hi)
    cases hl : leB (bb i) with
    | false =>
      rw [hl] at h
      refine wp_X12_isLetter ⟨fun _ => h, fun c => ⟨fun _ => h, fun c2 => ?_⟩⟩
      rcases hs.mpr hl with h5 | h5
      · exact absurd h5 c
      · exact absurd h5 c2
    | true =>
      rw [hl] at h hs
      refine wp_X12_isLetter ⟨fun c => ?_, fun _ => ⟨fun c => ?_, fun _ => h⟩⟩
      · exact absurd (hs.mp (Or.inl c)) (by decide)
      · exact absurd (hs.mp (Or.inr c)) (by decide)
  · rw [if_neg hi]
    rw [decide_eq_false hi] at h
    exact wp_X12_isLetter ⟨fun _ => h, fun c => absurd (by decide) c⟩
theorem c_isFigX {q : Int32 → Mem → Prop} {i : Nat} (hb : i < n → bb i < 256) (h : q (b01 (decide (i < n) && fiB (bb i))) M) : Ci shM G mX12_isFigure k [.int (if i < n then nI (bb i) else -1000000)] M q := by
  by_cases hi : i < n
  · rw [if_pos hi]
    rw [decide_eq_true hi, Bool.true_and] at h
    have hs := nb_fi _ (hb hi)
    cases hl : fiB (bb i) with
    | false =>
      rw [hl] at h
      refine wp_X12_isFigure ⟨fun _ => h, fun c => ⟨fun _ => h, fun c2 => ?_⟩⟩
      rcases hs.mpr hl with h5 | h5
      · exact absurd h5 c
      · exact absurd h5 c2
    | true =>
      rw [hl] at h hs
      refine wp_X12_isFigure ⟨fun c => ?_, fun _ => ⟨fun c => ?_, fun _ => h⟩⟩
      · exact absurd (hs.mp (Or.inl c)) (by decide)
      · exact absurd (hs.mp (Or.inr c)) (by decide)
  · rw [if_neg hi]
    rw [decide_eq_false hi] at h
    exact wp_X12_isFigure ⟨fun _ => h, fun c => absurd (by decide) c⟩
theorem c_77 {q : Mem → Prop} {f0 : Nat → Int32} {s : Nat} {v : Int32} (hn : n ≤ 600) (hb : ∀ i, i < n → bb i < 256 ∧ M.1 23 i = nI (bb i)) (hq : ∀ f', eqM f0 f' → TkM n f' (1, s, enF leB bb n s) → q (aset M 0 f')) : ∀ m e f, e + m = n → s ≤ e → (∀ i, s ≤ i → i < e → leB (bb i) = true) → eqM f0 f → f 31 = nI n → f 32 = nI e → f 34 = nI s → V shM G mX12_step (k + 1) 77 [(0, .ref (G.2.1 0)), (1, .int v)] [] (aset M 0 f) (Qv q) := by
  intro m
  induction m with
  | zero | succ m ih =>
    intro e f he hse hl hE f31 f32 f34
    refine wp_X12_step_77 ?_
    rw [show (aset M 0 f).1 0 32 = nI e from f32]
    refine c_byteAt (bb := bb) hn (by omega) hb f31 (c_isLetX (fun h => (hb e h).1) ?_)
    rw [mset_aset, mset_aset, mset_aset, show (aset M 0 f).1 0 32 = nI e from f32, nI_1]
    have fin : (decide (e < n) && leB (bb e)) = false → q (aset M 0 (upd (upd f 33 2) 35 (nI e))) := fun hf => by
      have hen : enF leB bb n s = e := fnd_to (fun t a b => by rw [hl t a b]; rfl) (fun h => by rw [decide_eq_true (show e < n by omega), Bool.true_and] at hf; rw [hf]; rfl) hse (by omega)
      rw [hen] at hq
      refine hq _ (eqM_upd (eqM_upd hE (by omega) (by omega)) (by omega) (by omega)) ⟨?_, ?_, ?_, ?_, upd_at _ _ _⟩
      · rw [upd_ne _ _ (by decide), upd_ne _ _ (by decide)]; exact f31
      · rw [upd_ne _ _ (by decide), upd_ne _ _ (by decide)]; exact f32
      · rw [upd_ne _ _ (by decide), upd_at]; rfl
      · rw [upd_ne _ _ (by decide), upd_ne _ _ (by decide)]; exact f34
    cases hc : decide (e < n) && leB (bb e) with
    | false => exact k0 (fin hc)
    | true =>
      rw [Bool.and_eq_true, decide_eq_true_iff] at hc
      first
      | omega
      | (refine k1 (ih (e + 1) _ (by omega) (by omega) (fun i a b => ?_) (eqM_upd hE (by omega) (by omega)) ?_ (upd_at _ _ _) ?_)
         · rcases Nat.lt_or_ge i e with h5 | h5
           · exact hl i a h5
           · obtain rfl : i = e := by omega
             exact hc.2
         · rw [upd_ne _ _ (by decide)]; exact f31
         · rw [upd_ne _ _ (by decide)]; exact f34)
theorem c_119 {q : Mem → Prop} {f0 : Nat → Int32} {s : Nat} {v : Int32} (hn : n ≤ 600) (hb : ∀ i, i < n → bb i < 256 ∧ M.1 23 i = nI (bb i)) (hq : ∀ f', eqM f0 f' → TkM n f' (if enF fiB bb n s - s ≤ 4 then 2 else 4, s, enF fiB bb n s) → q (aset M 0 f')) : ∀ m e f, e + m = n → s ≤ e → (∀ i, s ≤ i → i < e → fiB (bb i) = true) → eqM f0 f → f 31 = nI n → f 32 = nI e → f 34 = nI s → V shM G mX12_step (k + 1) 119 [(0, .ref (G.2.1 0)), (1, .int v)] [] (aset M 0 f) (Qv q) := by
  intro m
  induction m with
  | zero | succ m ih =>
    intro e f he hse hl hE f31 f32 f34
    refine wp_X12_step_119 ?_
    rw [show (aset M 0 f).1 0 32 = nI e from f32]
    refine c_byteAt (bb := bb) hn (by omega) hb f31 (c_isFigX (fun h => (hb e h).1) ?_)
    rw [mset_aset, mset_aset, mset_aset, mset_aset, mset_aset, show (aset M 0 f).1 0 32 = nI e from f32, show (aset M 0 f).1 0 34 = nI s from f34, nI_sub hse, nI_1]
    have fin : (decide (e < n) && fiB (bb e)) = false → ((nI (e - s) ≤ 4 → q (aset M 0 (upd (upd f 33 3) 35 (nI e)))) ∧ (¬ nI (e - s) ≤ 4 → q (aset M 0 (upd (upd f 33 0) 35 (nI e))))) := fun hf => by
      have hen : enF fiB bb n s = e := fnd_to (fun t a b => by rw [hl t a b]; rfl) (fun h => by rw [decide_eq_true (show e < n by omega), Bool.true_and] at hf; rw [hf]; rfl) hse (by omega)
      rw [hen] at hq
      refine ⟨fun c => ?_, fun c => ?_⟩
      · have h4 := (nI_leI (b := 4) (by omega) (by omega)).mp c
        rw [if_pos h4] at hq
        refine hq _ (eqM_upd (eqM_upd hE (by omega) (by omega)) (by omega) (by omega)) ⟨?_, ?_, ?_, ?_, upd_at _ _ _⟩
        · rw [upd_ne _ _ (by decide), upd_ne _ _ (by decide)]; exact f31
        · rw [upd_ne _ _ (by decide), upd_ne _ _ (by decide)]; exact f32
        · rw [upd_ne _ _ (by decide), upd_at]; rfl
        · rw [upd_ne _ _ (by decide), upd_ne _ _ (by decide)]; exact f34
      · have h4 : ¬ e - s ≤ 4 := fun e5 => c (nI_le (b := 4) e5 (by omega))
        rw [if_neg h4] at hq
        refine hq _ (eqM_upd (eqM_upd hE (by omega) (by omega)) (by omega) (by omega)) ⟨?_, ?_, ?_, ?_, upd_at _ _ _⟩
        · rw [upd_ne _ _ (by decide), upd_ne _ _ (by decide)]; exact f31
        · rw [upd_ne _ _ (by decide), upd_ne _ _ (by decide)]; exact f32
        · rw [upd_ne _ _ (by decide), upd_at]; rfl
        · rw [upd_ne _ _ (by decide), upd_ne _ _ (by decide)]; exact f34
    cases hc : decide (e < n) && fiB (bb e) with
    | false => exact k0 (fin hc)
    | true =>
      rw [Bool.and_eq_true, decide_eq_true_iff] at hc
      first
      | omega
      | (refine k1 (ih (e + 1) _ (by omega) (by omega) (fun i a b => ?_) (eqM_upd hE (by omega) (by omega)) ?_ (upd_at _ _ _) ?_)
         · rcases Nat.lt_or_ge i e with h5 | h5
           · exact hl i a h5
           · obtain rfl : i = e := by omega
             exact hc.2
         · rw [upd_ne _ _ (by decide)]; exact f31
         · rw [upd_ne _ _ (by decide)]; exact f34)
theorem nb_32 : ∀ b, b < 256 → (nI b = 32 ↔ b = 32) ∧ (nI b = 10 ↔ b = 10) ∧ (nI b = 59 ↔ b = 59) ∧ ¬ nI b = -1000000 := by decide +kernel
theorem c_stepM {q : Mem → Prop} {e : Nat} {f : Nat → Int32} (hn : n ≤ 600) (he : e ≤ n) (hb : ∀ i, i < n → bb i < 256 ∧ M.1 23 i = nI (bb i)) (f31 : f 31 = nI n) (f32 : f 32 = nI e) (hq : ∀ f', eqM f f' → TkM n f' (tokF bb n e) → q (aset M 0 f')) : Cv shM G mX12_step (k + 1) [.ref (G.2.1 0)] (aset M 0 f) q := by
  have loop : ∀ m i g, i + m = n → e ≤ i → (∀ j, e ≤ j → j < i → spB (bb j) = true) → eqM f g → g 31 = nI n → g 32 = nI i → V shM G mX12_step (k + 1) 0 [(0, .ref (G.2.1 0))] [] (aset M 0 g) (Qv q) := by
    intro m
    induction m with
    | zero | succ m ih =>
      intro i g hi hei hsp hE g31 g32
      refine wp_X12_step_0 ?_
      rw [show (aset M 0 g).1 0 32 = nI i from g32]
      refine c_byteAt (bb := bb) hn (by omega) hb g31 ?_
      rw [show (aset M 0 g).1 0 32 = nI i from g32, mset_aset, nI_1]
      by_cases hin : i < n
      · first
        | omega
        | (have nx : spB (bb i) = true → V shM G mX12_step (k + 1) 0 [(0, .ref (G.2.1 0))] [] (aset M 0 (upd g 32 (nI (i + 1)))) (Qv q) := fun hs => by
             refine ih (i + 1) _ (by omega) (by omega) (fun j a b => ?_) (eqM_upd hE (by omega) (by omega)) ?_ (upd_at _ _ _)
             · rcases Nat.lt_or_ge j i with h5 | h5
               · exact hsp j a h5
               · obtain rfl : j = i := by omega
                 exact hs
             · rw [upd_ne _ _ (by decide)]; exact g31
           obtain ⟨b1, b2⟩ := hb i hin
           obtain ⟨n32, n10, n59, nN⟩ := nb_32 _ b1
           rw [if_pos hin]
           refine ⟨fun c => nx (decide_eq_true (Or.inl (n32.mp c))), fun c => c_byteAt (bb := bb) hn (by omega) hb g31 ?_⟩
           rw [if_pos hin, show (aset M 0 g).1 0 32 = nI i from g32, mset_aset, mset_aset, nI_1]
           refine ⟨fun c2 => ?_, fun c2 => nx (decide_eq_true (Or.inr (n10.mp c2)))⟩
           have hs : spB (bb i) = false := decide_eq_false (by rintro (e5 | e5); exact c (n32.mpr e5); exact c2 (n10.mpr e5))
           have hsk : skF bb n e = i := fnd_to (fun t a b => by rw [hsp t a b]; rfl) (fun h => by rw [hs]; rfl) hei (by omega)
           have g31' : upd g 34 (nI i) 31 = nI n := by rw [upd_ne _ _ (by decide)]; exact g31
           have g32' : upd g 34 (nI i) 32 = nI i := by rw [upd_ne _ _ (by decide)]; exact g32
           have hE' : eqM f (upd g 34 (nI i)) := eqM_upd hE (by omega) (by omega)
           refine c_byteAt (bb := bb) hn (by omega) hb g31' ?_
           refine ⟨fun c3 => c_isLetX (n := n) (bb := bb) (fun h => (hb i h).1) ?_, fun c3 => ?_⟩
           · rw [decide_eq_true hin, Bool.true_and]
             cases hl : leB (bb i) with
             | true =>
               have ht : tokF bb n e = (1, i, enF leB bb n i) := by rw [tokF, hsk, tokS, if_neg (by omega), if_pos hl]
               rw [ht] at hq
               exact k1 (c_77 hn hb hq (n - i) i _ (by omega) (Nat.le_refl _) (fun j a b => by omega) hE' g31' g32' (upd_at _ _ _))
             | false =>
               refine k0 (c_isFigX (n := n) (bb := bb) (fun h => (hb i h).1) ?_)
               rw [decide_eq_true hin, Bool.true_and]
               cases hf : fiB (bb i) with
               | true =>
                 have ht : tokF bb n e = (if enF fiB bb n i - i ≤ 4 then 2 else 4, i, enF fiB bb n i) := by rw [tokF, hsk, tokS, if_neg (by omega), if_neg (by rw [hl]; decide), if_pos hf]
                 rw [ht] at hq
                 exact k1 (c_119 hn hb hq (n - i) i _ (by omega) (Nat.le_refl _) (fun j a b => by omega) hE' g31' g32' (upd_at _ _ _))
               | false =>
                 have ht : tokF bb n e = (if bb i = 59 then 3 else 4, i, i + 1) := by rw [tokF, hsk, tokS, if_neg (by omega), if_neg (by rw [hl]; decide), if_neg (by rw [hf]; decide)]
                 rw [ht] at hq
                 rw [show (aset M 0 (upd g 34 (nI i))).1 0 32 = nI i from g32', mset_aset, mset_aset, mset_aset, mset_aset, mset_aset, nI_1, if_pos hin]
                 have hE3 : ∀ x, eqM f (upd (upd (upd (upd g 34 (nI i)) 32 (nI (i + 1))) 33 x) 35 (nI (i + 1))) := fun x => eqM_upd (eqM_upd (eqM_upd hE' (by omega) (by omega)) (by omega) (by omega)) (by omega) (by omega)
                 have w31 : ∀ x, upd (upd (upd (upd g 34 (nI i)) 32 (nI (i + 1))) 33 x) 35 (nI (i + 1)) 31 = nI n := fun x => by rw [upd_ne _ _ (by decide), upd_ne _ _ (by decide), upd_ne _ _ (by decide)]; exact g31'
                 have w32 : ∀ x, upd (upd (upd (upd g 34 (nI i)) 32 (nI (i + 1))) 33 x) 35 (nI (i + 1)) 32 = nI (i + 1) := fun x => by rw [upd_ne _ _ (by decide), upd_ne _ _ (by decide), upd_at]
                 have w33 : ∀ x, upd (upd (upd (upd g 34 (nI i)) 32 (nI (i + 1))) 33 x) 35 (nI (i + 1)) 33 = x := fun x => by rw [upd_ne _ _ (by decide), upd_at]
                 have w34 : ∀ x, upd (upd (upd (upd g 34 (nI i)) 32 (nI (i + 1))) 33 x) 35 (nI (i + 1)) 34 = nI i := fun x => by rw [upd_ne _ _ (by decide), upd_ne _ _ (by decide), upd_ne _ _ (by decide), upd_at]
                 refine k0 ⟨fun c4 => ?_, fun c4 => ?_⟩
                 · rw [if_neg (fun e5 => c4 (n59.mpr e5))] at hq
                   exact hq _ (hE3 _) ⟨w31 _, w32 _, w33 _, w34 _, upd_at _ _ _⟩
                 · rw [if_pos (n59.mp c4)] at hq
                   exact hq _ (hE3 _) ⟨w31 _, w32 _, w33 _, w34 _, upd_at _ _ _⟩
           · rw [if_pos hin] at c3
             exact absurd c3 nN)
      · rw [if_neg hin]
        have hin2 : i = n := by omega
        refine ⟨fun c => absurd c (by decide), fun _ => c_byteAt (bb := bb) hn (by omega) hb g31 ?_⟩
        rw [if_neg hin, show (aset M 0 g).1 0 32 = nI i from g32, mset_aset]
        refine ⟨fun _ => ?_, fun c => absurd c (by decide)⟩
        have hsk : skF bb n e = i := fnd_to (fun t a b => by rw [hsp t a b]; rfl) (fun h => by omega) hei (by omega)
        have ht : tokF bb n e = (0, i, i) := by rw [tokF, hsk, tokS, if_pos (by omega)]
        rw [ht] at hq
        refine c_byteAt (bb := bb) hn (by omega) hb (by rw [upd_ne _ _ (by decide)]; exact g31) ?_
        rw [if_neg hin, show (aset M 0 (upd g 34 (nI i))).1 0 32 = nI i from by show upd g 34 (nI i) 32 = nI i; rw [upd_ne _ _ (by decide)]; exact g32, mset_aset, mset_aset]
        refine ⟨fun c => absurd rfl c, fun _ => hq _ (eqM_upd (eqM_upd (eqM_upd hE (by omega) (by omega)) (by omega) (by omega)) (by omega) (by omega)) ⟨?_, ?_, ?_, ?_, upd_at _ _ _⟩⟩
        · rw [upd_ne _ _ (by decide), upd_ne _ _ (by decide), upd_ne _ _ (by decide)]; exact g31
        · rw [upd_ne _ _ (by decide), upd_ne _ _ (by decide), upd_ne _ _ (by decide)]; exact g32
        · rw [upd_ne _ _ (by decide), upd_at]; rfl
        · rw [upd_ne _ _ (by decide), upd_ne _ _ (by decide), upd_at]
  exact wp_X12_step (loop (n - e) e f (by omega) (Nat.le_refl _) (fun j a b => by omega) (eqM_refl f) f31 f32)
end
