theorem bv_byte (B : BitVec 64) (n : Nat) (hn : n + 8 ≤ 64) : (B >>> n).setWidth 8 = ((B.sshiftRight n) &&& 255#64).setWidth 8 := by
  have h255 : ∀ i, i < 8 → (255#64).getLsbD i = true := by decide
  apply BitVec.eq_of_getLsbD_eq
  intro i hi
  rw [BitVec.getLsbD_setWidth, BitVec.getLsbD_setWidth, BitVec.getLsbD_and, h255 i hi, BitVec.getLsbD_ushiftRight, BitVec.getLsbD_sshiftRight]
  simp [show n + i < 64 by omega, show i < 64 by omega, show ¬ 64 ≤ i by omega]
theorem smod64 : ∀ s, s < 57 → ((BitVec.ofNat 64 s).smod 64#64).toNat = s := by decide +kernel
theorem feed_byte (w : Int64) (k : Nat) (hk : k < 8) : (Int32.toInt8 (Int64.toInt32 ((Int64.toUInt64 w >>> ((Int32.toInt64 (8 * nI k)).toUInt64 &&& Int64.toUInt64 63)).toInt64))) = Int32.toInt8 (Int64.toInt32 ((w >>> (Int32.toInt64 (8 * nI k) &&& 63)) &&& 255)) := by
  have key : ∀ (s : Nat) (u : UInt64) (t : Int64), s + 8 ≤ 64 → u.toBitVec = BitVec.ofNat 64 s → t.toBitVec = BitVec.ofNat 64 s → Int32.toInt8 (Int64.toInt32 ((Int64.toUInt64 w >>> u).toInt64)) = Int32.toInt8 (Int64.toInt32 ((w >>> t) &&& 255)) := by
    intro s u t hs hu ht
    apply Int8.toBitVec_inj.mp
    have := bv_byte w.toBitVec s hs
    have hsm : (BitVec.ofNat 64 s).toNat = s := by simp; omega
    simp [hu, ht, BitVec.signExtend_eq_setWidth_of_le] at this ⊢
    rw [Nat.mod_eq_of_lt (by omega), smod64 s (by omega)]
    exact this
  match k, hk with
  | 0, _ => exact key 0 _ _ (by decide) (by decide +kernel) (by decide +kernel)
  | 1, _ => exact key 8 _ _ (by decide) (by decide +kernel) (by decide +kernel)
  | 2, _ => exact key 16 _ _ (by decide) (by decide +kernel) (by decide +kernel)
  | 3, _ => exact key 24 _ _ (by decide) (by decide +kernel) (by decide +kernel)
  | 4, _ => exact key 32 _ _ (by decide) (by decide +kernel) (by decide +kernel)
  | 5, _ => exact key 40 _ _ (by decide) (by decide +kernel) (by decide +kernel)
  | 6, _ => exact key 48 _ _ (by decide) (by decide +kernel) (by decide +kernel)
  | 7, _ => exact key 56 _ _ (by decide) (by decide +kernel) (by decide +kernel)
theorem and255 (x : Int64) : ∃ b, b < 256 ∧ Int64.toInt32 (x &&& 255) = nI b := by
  refine ⟨(x.toBitVec &&& 255#64).toNat, ?_, ?_⟩
  · rw [BitVec.toNat_and]
    exact Nat.lt_of_le_of_lt Nat.and_le_right (by decide)
  · apply Int32.toBitVec_inj.mp
    apply BitVec.eq_of_toNat_eq
    simp [nI, BitVec.signExtend_eq_setWidth_of_le]
/-- bytes of a word, the highest first, put behind n0 others; i are still to come -/
def ffill (f g : Nat → Int32) (n0 n i : Nat) : Nat → Int32 := fun p => if n0 ≤ p ∧ p < n0 + (n - i) then g (n - 1 - (p - n0)) else f p
theorem ffill_0 (f g : Nat → Int32) (n0 n : Nat) : ffill f g n0 n n = f := by
  funext p
  rw [ffill, if_neg (by omega)]
theorem ffill_step (f g : Nat → Int32) {n0 n i : Nat} (h : i < n) : upd (ffill f g n0 n (i + 1)) (n0 + (n - (i + 1))) (g i) = ffill f g n0 n i := by
  funext p
  simp only [upd, ffill]
  by_cases h1 : p = n0 + (n - (i + 1))
  · rw [if_pos h1, if_pos (by omega)]
    congr 1; omega
  · rw [if_neg h1]
    by_cases h2 : n0 ≤ p ∧ p < n0 + (n - (i + 1))
    · rw [if_pos h2, if_pos (by omega)]
    · rw [if_neg h2, if_neg (by omega)]
theorem upd_twice (f : Nat → Int32) (i : Nat) (x y : Int32) : upd (upd f i x) i y = upd f i y := by
  funext j
  simp only [upd]
  split <;> rfl
theorem mem_step {M : Mem} {o p j : Nat} {f : Nat → Int32} {a a' v : Int32} (hop : o ≠ 16) : mset (mset (aset (mset M o j a) 16 f) o j a') 16 p v = aset (mset M o j a') 16 (upd f p v) := by
  simp only [mset, aset]
  congr 1
  funext k
  by_cases h1 : k = 16
  · subst h1
    have : ¬ 16 = o := fun h => hop h.symm
    simp [this]
  · by_cases h2 : k = o
    · subst h2
      simp [h1, upd_twice]
    · simp [h1, h2]
theorem mem_stepM {M : Mem} {p j : Nat} {f : Nat → Int32} {a a' v : Int32} : mset (mset (aset (mset M 0 j a) 23 f) 23 p v) 0 j a' = aset (mset M 0 j a') 23 (upd f p v) := by
  simp only [mset, aset]
  congr 1
  funext k
  by_cases h1 : k = 23
  · subst h1
    simp
  · by_cases h2 : k = 0
    · subst h2
      simp [upd_twice]
    · simp [h1, h2]
theorem aset_mset0 {M : Mem} {o j : Nat} {a : Int32} {p : Nat} (h : M.1 o j = a) (hp : p ≠ o) : aset (mset M o j a) p (M.1 p) = M := by
  apply Prod.ext
  · funext k
    simp only [aset, mset]
    by_cases h1 : k = p
    · subst h1; simp
    · by_cases h2 : k = o
      · subst h2
        rw [if_neg h1, if_pos rfl]
        funext i
        simp only [upd]
        split
        · rename_i hi; rw [hi, h]
        · rfl
      · simp [h1, h2]
  · rfl
/-- the two bytes -/
def cB (w : Int64) (k : Nat) : Int32 := vp_nar .byte ((Int32.toInt8 (Int64.toInt32 ((Int64.toUInt64 w >>> ((Int32.toInt64 (8 * nI k)).toUInt64 &&& Int64.toUInt64 63)).toInt64))).toInt32)
def mB (w : Int64) (k : Nat) : Int32 := Int64.toInt32 ((w >>> (Int32.toInt64 (8 * nI k) &&& 63)) &&& 255)
theorem nar8 (x : Int8) : vp_nar .byte x.toInt32 = x.toInt32 := by
  have : x.toInt32.toInt8 = x := by simp
  show (match narrow .byte (.int x.toInt32) with | .int y => y | _ => 0) = x.toInt32
  simp [narrow, this]
theorem cB_mB (w : Int64) {k : Nat} (hk : k < 8) : ∃ b, b < 256 ∧ mB w k = nI b ∧ cB w k = (nI b).toInt8.toInt32 := by
  obtain ⟨b, hb, e⟩ := and255 (w >>> (Int32.toInt64 (8 * nI k) &&& 63))
  refine ⟨b, hb, e, ?_⟩
  rw [cB, nar8, feed_byte w k hk, e]
theorem nI_m1 (k : Nat) : nI k + (-1) = nI k - 1 := by rw [Int32.sub_eq_add_neg]
theorem c_feedC {G : GV} {k : Nat} {M : Mem} {q : Int32 → Mem → Prop} {w : Int64} {v3 : Int32} {n0 n : Nat} (hn : n ≤ 8) (h0 : n0 + n ≤ 600) (hM : M.1 2 1 = nI n0) (h : q (nI (n0 + n)) (aset (mset M 2 1 (nI (n0 + n))) 16 (ffill (M.1 16) (cB w) n0 n 0))) : V shC G mX11_feed (k + 1) 37 [(0, .ref (G.2.1 0)), (1, .long w), (3, .int v3), (4, .int (nI n - 1))] [] M (Qi q) := by
  have loop : ∀ i, i ≤ n → V shC G mX11_feed (k + 1) 37 [(0, .ref (G.2.1 0)), (1, .long w), (3, .int v3), (4, .int (nI i - 1))] [] (aset (mset M 2 1 (nI (n0 + (n - i)))) 16 (ffill (M.1 16) (cB w) n0 n i)) (Qi q) := by
    intro i
    induction i with
    | zero =>
      intro _
      exact wp_X11_feed_37 ⟨fun _ => h, fun c => absurd (by decide) c⟩
    | succ i ih =>
      intro hi
      rw [nI_pred]
      refine wp_X11_feed_37 ⟨fun c => absurd c (nI_pos (by omega)), fun _ => ?_⟩
      have e1 : (aset (mset M 2 1 (nI (n0 + (n - (i + 1))))) 16 (ffill (M.1 16) (cB w) n0 n (i + 1))).1 2 1 = nI (n0 + (n - (i + 1))) := rfl
      refine wp_X10_add ⟨fun c => ?_, fun _ => ?_⟩
      · rw [e1] at c
        exact absurd c (nI_ge (show n0 + (n - (i + 1)) < 600 by omega) (by decide))
      · rw [e1]
        refine ⟨vp_in_nI (by omega) (by decide), ?_⟩
        rw [ix_nI (by omega), mem_step (by decide), nI_1, nI_m1, show n0 + (n - (i + 1)) + 1 = n0 + (n - i) by omega]
        have := ih (by omega)
        rw [← ffill_step (M.1 16) (cB w) (n0 := n0) (show i < n by omega)] at this
        exact this
  have l0 := loop n (Nat.le_refl _)
  rw [ffill_0, show n0 + (n - n) = n0 by omega, aset_mset0 hM (by decide)] at l0
  exact l0
theorem c_feedM {G : GV} {k : Nat} {M : Mem} {q : Int32 → Mem → Prop} {w : Int64} {v3 : Int32} {n0 n : Nat} (hn : n ≤ 8) (h0 : n0 + n ≤ 600) (hM : M.1 0 29 = nI n0) (h : q (nI (n0 + n)) (aset (mset M 0 29 (nI (n0 + n))) 23 (ffill (M.1 23) (mB w) n0 n 0))) : V shM G mX12_feed (k + 1) 40 [(0, .ref (G.2.1 0)), (1, .long w), (3, .int v3), (4, .int (nI n - 1))] [] M (Qi q) := by
  have loop : ∀ i, i ≤ n → V shM G mX12_feed (k + 1) 40 [(0, .ref (G.2.1 0)), (1, .long w), (3, .int v3), (4, .int (nI i - 1))] [] (aset (mset M 0 29 (nI (n0 + (n - i)))) 23 (ffill (M.1 23) (mB w) n0 n i)) (Qi q) := by
    intro i
    induction i with
    | zero =>
      intro _
      exact wp_X12_feed_40 ⟨fun _ => h, fun c => absurd (by decide) c⟩
    | succ i ih =>
      intro hi
      rw [nI_pred]
      refine wp_X12_feed_40 ⟨fun c => absurd c (nI_pos (by omega)), fun _ => ?_⟩
      have e1 : (aset (mset M 0 29 (nI (n0 + (n - (i + 1))))) 23 (ffill (M.1 23) (mB w) n0 n (i + 1))).1 0 29 = nI (n0 + (n - (i + 1))) := rfl
      rw [e1]
      refine ⟨vp_in_nI (by omega) (by decide), ?_⟩
      rw [ix_nI (by omega), mem_stepM, nI_1, nI_m1, show n0 + (n - (i + 1)) + 1 = n0 + (n - i) by omega]
      have := ih (by omega)
      rw [← ffill_step (M.1 23) (mB w) (n0 := n0) (show i < n by omega)] at this
      exact this
  have l0 := loop n (Nat.le_refl _)
  rw [ffill_0, show n0 + (n - n) = n0 by omega, aset_mset0 hM (by decide)] at l0
  exact l0
theorem st_feed : St_feed RR := by
  intro G1 G2 Mc Mm w v hR
  obtain ⟨n0, hn0, e1, e2, e3⟩ := hR.2.2.1
  have bad : (v.toInt < 1 ∨ 8 < v.toInt) → Ci shM G2 mX12_feed 1 [.ref (G2.2.1 0), .long w, .int v] Mm (fun y M2 => (-1000001 : Int32) = y ∧ RR Mc M2) := fun ho => by
    refine wp_X12_feed (k := 0) (c_in ?_)
    rw [show inZ v (Int64.toInt 1) (Int64.toInt 8) = 0 from inZ_out ho]
    exact ⟨fun e => absurd rfl e, fun _ => ⟨rfl, RR_thrown hR⟩⟩
  refine wp_X11_feed ⟨fun c => bad (Or.inl ?_), fun c => ⟨fun c2 => ?_, fun c2 => bad (Or.inr ?_)⟩⟩
  · have := Int32.lt_iff_toInt_lt.mp c
    simpa using this
  · have hlo : 1 ≤ v.toInt := by
      have := Int32.le_iff_toInt_le.mp (Int32.not_lt.mp c)
      simpa using this
    have hhi : v.toInt ≤ 8 := by
      have := Int32.le_iff_toInt_le.mp c2
      simpa using this
    obtain ⟨n, hn, rfl⟩ := nI_of (x := v) (fun h => by have := lt0 h; omega)
    rw [nI_toInt hn] at hlo hhi
    have hin : inZ (nI n) (Int64.toInt 1) (Int64.toInt 8) = 1 := inZ_nI hn (by constructor <;> (simp; omega))
    rw [e1, nI_add]
    refine ⟨fun c3 => ?_, fun c3 => ?_⟩
    · have h600 : n0 + n ≤ 600 := (nI_leI (by omega) (by decide)).mp c3
      refine c_feedC (n := n) (n0 := n0) (by omega) h600 e1 (wp_X12_feed (k := 0) (c_in ?_))
      rw [hin]
      refine n1 ⟨fun _ => ?_, fun c4 => absurd ?_ c4⟩
      · refine c_feedM (n := n) (n0 := n0) (by omega) h600 e2 ⟨rfl, hR.1, hR.2.1, ⟨n0 + n, h600, rfl, rfl, fun p hp => ?_⟩, hR.2.2.2⟩
        show ∃ b, b < 256 ∧ ffill (Mm.1 23) (mB w) n0 n 0 p = nI b ∧ ffill (Mc.1 16) (cB w) n0 n 0 p = (nI b).toInt8.toInt32
        by_cases h1 : n0 ≤ p
        · rw [ffill, ffill, if_pos (by omega), if_pos (by omega)]
          exact cB_mB w (by omega)
        · rw [ffill, ffill, if_neg (by omega), if_neg (by omega)]
          exact e3 p (by omega)
      · show (Mm.1 0 29) + nI n ≤ 600
        rw [e2, nI_add]
        exact c3
    · refine wp_X12_feed (k := 0) (c_in ?_)
      rw [hin]
      refine n1 ⟨fun c4 => absurd ?_ c3, fun _ => ⟨rfl, RR_thrown hR⟩⟩
      have c4' : (Mm.1 0 29) + nI n ≤ 600 := c4
      rw [e2, nI_add] at c4'
      exact c4'
  · have : ¬ v.toInt ≤ 8 := fun h => c2 (Int32.le_iff_toInt_le.mpr (by simpa using h))
    omega
