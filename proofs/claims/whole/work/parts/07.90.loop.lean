theorem law_sub6 {L : Nat} (h : L < 2 ^ 20) : (nI L - 6).toInt = (L : Int) - 6 := by
  rw [Int32.toInt_sub, nI_toInt (by omega), show (6 : Int32).toInt = 6 from rfl]
  exact Int.bmod_eq_of_le (by omega) (by omega)
def St_sheet (RR : Mem → Mem → Prop) : Prop := ∀ (G1 G2 : GV) (Mc Mm : Mem) (a1 : Int32) (a2 : Int32) (a3 : Int32), RR Mc Mm → Ci shC G1 mX11_sheet 1 [.ref (G1.2.1 0), .int a1, .int a2, .int a3] Mc (fun x M1 => Ci shM G2 mX12_sheet 2 [.ref (G2.2.1 0), .int a1, .int a2, .int a3] Mm (fun y M2 => x = y ∧ RR M1 M2))
def St_set (RR : Mem → Mem → Prop) : Prop := ∀ (G1 G2 : GV) (Mc Mm : Mem) (a1 : Int32) (a2 : Int32) (a3 : Int32), RR Mc Mm → Ci shC G1 mX11_set 1 [.ref (G1.2.1 0), .int a1, .int a2, .int a3] Mc (fun x M1 => Ci shM G2 mX12_set 2 [.ref (G2.2.1 0), .int a1, .int a2, .int a3] Mm (fun y M2 => x = y ∧ RR M1 M2))
def St_copy (RR : Mem → Mem → Prop) : Prop := ∀ (G1 G2 : GV) (Mc Mm : Mem) (a1 : Int32) (a2 : Int32) (a3 : Int32) (a4 : Int32) (a5 : Int32), RR Mc Mm → Ci shC G1 mX11_copy 2 [.ref (G1.2.1 0), .int a1, .int a2, .int a3, .int a4, .int a5] Mc (fun x M1 => Ci shM G2 mX12_copy 2 [.ref (G2.2.1 0), .int a1, .int a2, .int a3, .int a4, .int a5] Mm (fun y M2 => x = y ∧ RR M1 M2))
def St_drop (RR : Mem → Mem → Prop) : Prop := ∀ (G1 G2 : GV) (Mc Mm : Mem) (a1 : Int32), RR Mc Mm → Ci shC G1 mX11_drop 1 [.ref (G1.2.1 0), .int a1] Mc (fun x M1 => Ci shM G2 mX12_drop 2 [.ref (G2.2.1 0), .int a1] Mm (fun y M2 => x = y ∧ RR M1 M2))
def St_feed (RR : Mem → Mem → Prop) : Prop := ∀ (G1 G2 : GV) (Mc Mm : Mem) (a1 : Int64) (a2 : Int32), RR Mc Mm → Ci shC G1 mX11_feed 1 [.ref (G1.2.1 0), .long a1, .int a2] Mc (fun x M1 => Ci shM G2 mX12_feed 1 [.ref (G2.2.1 0), .long a1, .int a2] Mm (fun y M2 => x = y ∧ RR M1 M2))
def St_read (RR : Mem → Mem → Prop) : Prop := ∀ (G1 G2 : GV) (Mc Mm : Mem) , RR Mc Mm → Ci shC G1 mX11_read 9 [.ref (G1.2.1 0)] Mc (fun x M1 => Ci shM G2 mX12_read 6 [.ref (G2.2.1 0)] Mm (fun y M2 => x = y ∧ RR M1 M2))
def St_fault (RR : Mem → Mem → Prop) : Prop := ∀ (G1 G2 : GV) (Mc Mm : Mem) , RR Mc Mm → Ci shC G1 mX11_fault 0 [.ref (G1.2.1 0)] Mc (fun x M1 => Ci shM G2 mX12_fault 0 [.ref (G2.2.1 0)] Mm (fun y M2 => x = y ∧ RR M1 M2))
def St_line (RR : Mem → Mem → Prop) : Prop := ∀ (G1 G2 : GV) (Mc Mm : Mem) (a1 : Int32) (a2 : Int32), RR Mc Mm → Ci shC G1 mX11_line 2 [.ref (G1.2.1 0), .int a1, .int a2] Mc (fun x M1 => Ci shM G2 mX12_line 3 [.ref (G2.2.1 0), .int a1, .int a2] Mm (fun y M2 => x = y ∧ RR M1 M2))
def St_ear (RR : Mem → Mem → Prop) : Prop := ∀ (G1 G2 : GV) (Mc Mm : Mem) (a1 : Int32), RR Mc Mm → Ci shC G1 mX11_ear 1 [.ref (G1.2.1 0), .int a1] Mc (fun x M1 => Ci shM G2 mX12_ear 2 [.ref (G2.2.1 0), .int a1] Mm (fun y M2 => x = y ∧ RR M1 M2))
def St_alike (RR : Mem → Mem → Prop) : Prop := ∀ (G1 G2 : GV) (Mc Mm : Mem) (a1 : Int32) (a2 : Int32) (a3 : Int32), RR Mc Mm → Ci shC G1 mX11_alike 3 [.ref (G1.2.1 0), .int a1, .int a2, .int a3] Mc (fun x M1 => Ci shM G2 mX12_alike 4 [.ref (G2.2.1 0), .int a1, .int a2, .int a3] Mm (fun y M2 => x = y ∧ RR M1 M2))
def St_today (RR : Mem → Mem → Prop) : Prop := ∀ (G1 G2 : GV) (Mc Mm : Mem) (a1 : Int32) (a2 : Int32) (a3 : Int32), RR Mc Mm → Ci shC G1 mX11_today 2 [.ref (G1.2.1 0), .int a1, .int a2, .int a3] Mc (fun x M1 => Ci shM G2 mX12_today 2 [.ref (G2.2.1 0), .int a1, .int a2, .int a3] Mm (fun y M2 => x = y ∧ RR M1 M2))
def St_quarrels (RR : Mem → Mem → Prop) : Prop := ∀ (G1 G2 : GV) (Mc Mm : Mem) , RR Mc Mm → Ci shC G1 mX11_quarrels 2 [.ref (G1.2.1 0)] Mc (fun x M1 => Ci shM G2 mX12_quarrels 0 [.ref (G2.2.1 0)] Mm (fun y M2 => x = y ∧ RR M1 M2))
def St_walks (RR : Mem → Mem → Prop) : Prop := ∀ (G1 G2 : GV) (Mc Mm : Mem) (a1 : Int32) (a2 : Int32) (a3 : Int32), RR Mc Mm → Ci shC G1 mX11_walks 3 [.ref (G1.2.1 0), .int a1, .int a2, .int a3] Mc (fun x M1 => Ci shM G2 mX12_walks 2 [.ref (G2.2.1 0), .int a1, .int a2, .int a3] Mm (fun y M2 => x = y ∧ RR M1 M2))
def St_joined (RR : Mem → Mem → Prop) : Prop := ∀ (G1 G2 : GV) (Mc Mm : Mem) (a1 : Int32), RR Mc Mm → Cl shC G1 mX11_joined 7 [.ref (G1.2.1 0), .int a1] Mc (fun x M1 => Cl shM G2 mX12_joined 5 [.ref (G2.2.1 0), .int a1] Mm (fun y M2 => x = y ∧ RR M1 M2))
def St_person (RR : Mem → Mem → Prop) : Prop := ∀ (G1 G2 : GV) (Mc Mm : Mem) (a1 : Int32), RR Mc Mm → Ci shC G1 mX11_person 7 [.ref (G1.2.1 0), .int a1] Mc (fun x M1 => Ci shM G2 mX12_person 5 [.ref (G2.2.1 0), .int a1] Mm (fun y M2 => x = y ∧ RR M1 M2))
def St_sure (RR : Mem → Mem → Prop) : Prop := ∀ (G1 G2 : GV) (Mc Mm : Mem) (a1 : Int32) (a2 : Int32), RR Mc Mm → Cl shC G1 mX11_sure 7 [.ref (G1.2.1 0), .int a1, .int a2] Mc (fun x M1 => Cl shM G2 mX12_sure 5 [.ref (G2.2.1 0), .int a1, .int a2] Mm (fun y M2 => x = y ∧ RR M1 M2))
def St_stay (RR : Mem → Mem → Prop) : Prop := ∀ (G1 G2 : GV) (Mc Mm : Mem) (a1 : Int32) (a2 : Int32), RR Mc Mm → Ci shC G1 mX11_stay 7 [.ref (G1.2.1 0), .int a1, .int a2] Mc (fun x M1 => Ci shM G2 mX12_stay 5 [.ref (G2.2.1 0), .int a1, .int a2] Mm (fun y M2 => x = y ∧ RR M1 M2))
def St_lost (RR : Mem → Mem → Prop) : Prop := ∀ (G1 G2 : GV) (Mc Mm : Mem) (a1 : Int32) (a2 : Int32) (a3 : Int32) (a4 : Int32), RR Mc Mm → Ci shC G1 mX11_lost 4 [.ref (G1.2.1 0), .int a1, .int a2, .int a3, .int a4] Mc (fun x M1 => Ci shM G2 mX12_lost 4 [.ref (G2.2.1 0), .int a1, .int a2, .int a3, .int a4] Mm (fun y M2 => x = y ∧ RR M1 M2))
def St_found (RR : Mem → Mem → Prop) : Prop := ∀ (G1 G2 : GV) (Mc Mm : Mem) (a1 : Int32) (a2 : Int32) (a3 : Int32) (a4 : Int32) (a5 : Int32), RR Mc Mm → Ci shC G1 mX11_found 4 [.ref (G1.2.1 0), .int a1, .int a2, .int a3, .int a4, .int a5] Mc (fun x M1 => Ci shM G2 mX12_found 4 [.ref (G2.2.1 0), .int a1, .int a2, .int a3, .int a4, .int a5] Mm (fun y M2 => x = y ∧ RR M1 M2))
def St_missing (RR : Mem → Mem → Prop) : Prop := ∀ (G1 G2 : GV) (Mc Mm : Mem) (a1 : Int32) (a2 : Int32) (a3 : Int32), RR Mc Mm → Ci shC G1 mX11_missing 3 [.ref (G1.2.1 0), .int a1, .int a2, .int a3] Mc (fun x M1 => Ci shM G2 mX12_missing 3 [.ref (G2.2.1 0), .int a1, .int a2, .int a3] Mm (fun y M2 => x = y ∧ RR M1 M2))
def St_shown (RR : Mem → Mem → Prop) : Prop := ∀ (G1 G2 : GV) (Mc Mm : Mem) (a1 : Int32) (a2 : Int32), RR Mc Mm → Ci shC G1 mX11_shown 1 [.ref (G1.2.1 0), .int a1, .int a2] Mc (fun x M1 => Ci shM G2 mX12_shown 2 [.ref (G2.2.1 0), .int a1, .int a2] Mm (fun y M2 => x = y ∧ RR M1 M2))
def St_leaf (RR : Mem → Mem → Prop) : Prop := ∀ (G1 G2 : GV) (Mc Mm : Mem) (a1 : Int32) (a2 : Int32), RR Mc Mm → Ci shC G1 mX11_leaf 1 [.ref (G1.2.1 0), .int a1, .int a2] Mc (fun x M1 => Ci shM G2 mX12_leaf 2 [.ref (G2.2.1 0), .int a1, .int a2] Mm (fun y M2 => x = y ∧ RR M1 M2))
def St_next (RR : Mem → Mem → Prop) : Prop := ∀ (G1 G2 : GV) (Mc Mm : Mem) , RR Mc Mm → Ci shC G1 mX11_next 3 [.ref (G1.2.1 0)] Mc (fun x M1 => Ci shM G2 mX12_next 3 [.ref (G2.2.1 0)] Mm (fun y M2 => x = y ∧ RR M1 M2))
def St_kind (RR : Mem → Mem → Prop) : Prop := ∀ (G1 G2 : GV) (Mc Mm : Mem) (a1 : Int32), RR Mc Mm → Ci shC G1 mX11_kind 1 [.ref (G1.2.1 0), .int a1] Mc (fun x M1 => Ci shM G2 mX12_kind 2 [.ref (G2.2.1 0), .int a1] Mm (fun y M2 => x = y ∧ RR M1 M2))
def St_as (RR : Mem → Mem → Prop) : Prop := ∀ (G1 G2 : GV) (Mc Mm : Mem) (a1 : Int32) (a2 : Int32), RR Mc Mm → Ci shC G1 mX11_as 2 [.ref (G1.2.1 0), .int a1, .int a2] Mc (fun x M1 => Ci shM G2 mX12_as 2 [.ref (G2.2.1 0), .int a1, .int a2] Mm (fun y M2 => x = y ∧ RR M1 M2))
def St_ask (RR : Mem → Mem → Prop) : Prop := ∀ (G1 G2 : GV) (Mc Mm : Mem) (a1 : Int32) (a2 : Int32), RR Mc Mm → Ci shC G1 mX11_ask 6 [.ref (G1.2.1 0), .int a1, .int a2] Mc (fun x M1 => Ci shM G2 mX12_ask 4 [.ref (G2.2.1 0), .int a1, .int a2] Mm (fun y M2 => x = y ∧ RR M1 M2))
def St_trace (RR : Mem → Mem → Prop) : Prop := ∀ (G1 G2 : GV) (Mc Mm : Mem) (a1 : Int32), RR Mc Mm → Ci shC G1 mX11_trace 0 [.ref (G1.2.1 0), .int a1] Mc (fun x M1 => Ci shM G2 mX12_trace 1 [.ref (G2.2.1 0), .int a1] Mm (fun y M2 => x = y ∧ RR M1 M2))
def St_count (RR : Mem → Mem → Prop) : Prop := ∀ (G1 G2 : GV) (Mc Mm : Mem) (a1 : Int32), RR Mc Mm → Ci shC G1 mX11_count 3 [.ref (G1.2.1 0), .int a1] Mc (fun x M1 => Ci shM G2 mX12_count 3 [.ref (G2.2.1 0), .int a1] Mm (fun y M2 => x = y ∧ RR M1 M2))
def St_status (RR : Mem → Mem → Prop) : Prop := ∀ (G1 G2 : GV) (Mc Mm : Mem) , RR Mc Mm → Ci shC G1 mX11_status 0 [.ref (G1.2.1 0)] Mc (fun x M1 => Ci shM G2 mX12_status 0 [.ref (G2.2.1 0)] Mm (fun y M2 => x = y ∧ RR M1 M2))
theorem law_loop {RR : Mem → Mem → Prop} (s_sheet : St_sheet RR) (s_set : St_set RR) (s_copy : St_copy RR) (s_drop : St_drop RR) (s_feed : St_feed RR) (s_read : St_read RR) (s_fault : St_fault RR) (s_line : St_line RR) (s_ear : St_ear RR) (s_alike : St_alike RR) (s_today : St_today RR) (s_quarrels : St_quarrels RR) (s_walks : St_walks RR) (s_joined : St_joined RR) (s_person : St_person RR) (s_sure : St_sure RR) (s_stay : St_stay RR) (s_lost : St_lost RR) (s_found : St_found RR) (s_missing : St_missing RR) (s_shown : St_shown RR) (s_leaf : St_leaf RR) (s_next : St_next RR) (s_kind : St_kind RR) (s_as : St_as RR) (s_ask : St_ask RR) (s_trace : St_trace RR) (s_count : St_count RR) (s_status : St_status RR) {G1 G2 : GV} {b L : Nat} {xs : Nat → Int32} (hL : L ≤ 3072) : ∀ (n j : Nat), L < j + n → j ≤ L + 6 → ∀ Mc Mm, RR Mc Mm → VL G1 G2 b L xs 94 24155 18 [(0, .ref b), (1, .ref (G1.2.1 0)), (2, .ref (G2.2.1 0)), (3, .int (nI j))] [] Mc Mm := by
  intro n
  induction n with
  | zero =>
    intro j h1 h2 Mc Mm hR
    refine wpL (by decide) (by decide) ⟨fun _ => trivial, fun c => absurd ?_ c⟩
    rw [Int32.lt_iff_toInt_lt, nI_toInt (by omega), law_sub6 (by omega)]
    omega
  | succ n ih =>
    intro j h1 h2 Mc Mm hR
    refine wpL (by decide) (by decide) ⟨fun _ => trivial, fun c => ?_⟩
    have hj : j + 6 ≤ L := by
      rw [Int32.lt_iff_toInt_lt, nI_toInt (by omega), law_sub6 (by omega)] at c
      omega
    have v0 : vp_in (nI j) L := vp_in_nI (by omega) (by omega)
    have v1 : vp_in (nI j + 1) L := by rw [nI_1]; exact vp_in_nI (by omega) (by omega)
    have v2 : vp_in (nI j + 2) L := by rw [show (2 : Int32) = nI 2 from rfl, nI_add]; exact vp_in_nI (by omega) (by omega)
    have v3 : vp_in (nI j + 3) L := by rw [show (3 : Int32) = nI 3 from rfl, nI_add]; exact vp_in_nI (by omega) (by omega)
    have v4 : vp_in (nI j + 4) L := by rw [show (4 : Int32) = nI 4 from rfl, nI_add]; exact vp_in_nI (by omega) (by omega)
    have v5 : vp_in (nI j + 5) L := by rw [show (5 : Int32) = nI 5 from rfl, nI_add]; exact vp_in_nI (by omega) (by omega)
    have go : ∀ M1 M2, RR M1 M2 → VL G1 G2 b L xs 94 24155 18 [(0, .ref b), (1, .ref (G1.2.1 0)), (2, .ref (G2.2.1 0)), (3, .int (nI j + 6))] [] M1 M2 := fun M1 M2 h => by
      rw [show (6 : Int32) = nI 6 from rfl, nI_add]
      exact ih (j + 6) (by omega) (by omega) M1 M2 h
    refine ⟨v0, ?_⟩
    exact ⟨fun _ => ⟨v1, v2, v3, Ci.mono (s_sheet G1 G2 Mc Mm _ _ _ hR) (fun x M1 h => ⟨v1, v2, v3, Ci.mono h (fun y M2 g => ⟨g.1, go M1 M2 g.2⟩)⟩)⟩,
      fun _ => ⟨v1, v2, v3, Ci.mono (s_set G1 G2 Mc Mm _ _ _ hR) (fun x M1 h => ⟨v1, v2, v3, Ci.mono h (fun y M2 g => ⟨g.1, go M1 M2 g.2⟩)⟩)⟩,
      fun _ => ⟨v1, v2, v3, v4, v5, Ci.mono (s_copy G1 G2 Mc Mm _ _ _ _ _ hR) (fun x M1 h => ⟨v1, v2, v3, v4, v5, Ci.mono h (fun y M2 g => ⟨g.1, go M1 M2 g.2⟩)⟩)⟩,
      fun _ => ⟨v1, Ci.mono (s_drop G1 G2 Mc Mm _ hR) (fun x M1 h => ⟨v1, Ci.mono h (fun y M2 g => ⟨g.1, go M1 M2 g.2⟩)⟩)⟩,
      fun _ => ⟨v1, v2, v3, Ci.mono (s_feed G1 G2 Mc Mm _ _ hR) (fun x M1 h => ⟨v1, v2, v3, Ci.mono h (fun y M2 g => ⟨g.1, go M1 M2 g.2⟩)⟩)⟩,
      fun _ => Ci.mono (s_read G1 G2 Mc Mm  hR) (fun x M1 h => Ci.mono h (fun y M2 g => ⟨g.1, go M1 M2 g.2⟩)),
      fun _ => Ci.mono (s_fault G1 G2 Mc Mm  hR) (fun x M1 h => Ci.mono h (fun y M2 g => ⟨g.1, go M1 M2 g.2⟩)),
      fun _ => ⟨v1, v2, Ci.mono (s_line G1 G2 Mc Mm _ _ hR) (fun x M1 h => ⟨v1, v2, Ci.mono h (fun y M2 g => ⟨g.1, go M1 M2 g.2⟩)⟩)⟩,
      fun _ => ⟨v1, Ci.mono (s_ear G1 G2 Mc Mm _ hR) (fun x M1 h => ⟨v1, Ci.mono h (fun y M2 g => ⟨g.1, go M1 M2 g.2⟩)⟩)⟩,
      fun _ => ⟨v1, v2, v3, Ci.mono (s_alike G1 G2 Mc Mm _ _ _ hR) (fun x M1 h => ⟨v1, v2, v3, Ci.mono h (fun y M2 g => ⟨g.1, go M1 M2 g.2⟩)⟩)⟩,
      fun _ => ⟨v1, v2, v3, Ci.mono (s_today G1 G2 Mc Mm _ _ _ hR) (fun x M1 h => ⟨v1, v2, v3, Ci.mono h (fun y M2 g => ⟨g.1, go M1 M2 g.2⟩)⟩)⟩,
      fun _ => Ci.mono (s_quarrels G1 G2 Mc Mm  hR) (fun x M1 h => Ci.mono h (fun y M2 g => ⟨g.1, go M1 M2 g.2⟩)),
      fun _ => ⟨v1, v2, v3, Ci.mono (s_walks G1 G2 Mc Mm _ _ _ hR) (fun x M1 h => ⟨v1, v2, v3, Ci.mono h (fun y M2 g => ⟨g.1, go M1 M2 g.2⟩)⟩)⟩,
      fun _ => ⟨v1, Cl.mono (s_joined G1 G2 Mc Mm _ hR) (fun x M1 h => ⟨v1, Cl.mono h (fun y M2 g => ⟨g.1, go M1 M2 g.2⟩)⟩)⟩,
      fun _ => ⟨v1, Ci.mono (s_person G1 G2 Mc Mm _ hR) (fun x M1 h => ⟨v1, Ci.mono h (fun y M2 g => ⟨g.1, go M1 M2 g.2⟩)⟩)⟩,
      fun _ => ⟨v1, v2, Cl.mono (s_sure G1 G2 Mc Mm _ _ hR) (fun x M1 h => ⟨v1, v2, Cl.mono h (fun y M2 g => ⟨g.1, go M1 M2 g.2⟩)⟩)⟩,
      fun _ => ⟨v1, v2, Ci.mono (s_stay G1 G2 Mc Mm _ _ hR) (fun x M1 h => ⟨v1, v2, Ci.mono h (fun y M2 g => ⟨g.1, go M1 M2 g.2⟩)⟩)⟩,
      fun _ => ⟨v1, v2, v3, v4, Ci.mono (s_lost G1 G2 Mc Mm _ _ _ _ hR) (fun x M1 h => ⟨v1, v2, v3, v4, Ci.mono h (fun y M2 g => ⟨g.1, go M1 M2 g.2⟩)⟩)⟩,
      fun _ => ⟨v1, v2, v3, v4, v5, Ci.mono (s_found G1 G2 Mc Mm _ _ _ _ _ hR) (fun x M1 h => ⟨v1, v2, v3, v4, v5, Ci.mono h (fun y M2 g => ⟨g.1, go M1 M2 g.2⟩)⟩)⟩,
      fun _ => ⟨v1, v2, v3, Ci.mono (s_missing G1 G2 Mc Mm _ _ _ hR) (fun x M1 h => ⟨v1, v2, v3, Ci.mono h (fun y M2 g => ⟨g.1, go M1 M2 g.2⟩)⟩)⟩,
      fun _ => ⟨v1, v2, Ci.mono (s_shown G1 G2 Mc Mm _ _ hR) (fun x M1 h => ⟨v1, v2, Ci.mono h (fun y M2 g => ⟨g.1, go M1 M2 g.2⟩)⟩)⟩,
      fun _ => ⟨v1, v2, Ci.mono (s_leaf G1 G2 Mc Mm _ _ hR) (fun x M1 h => ⟨v1, v2, Ci.mono h (fun y M2 g => ⟨g.1, go M1 M2 g.2⟩)⟩)⟩,
      fun _ => Ci.mono (s_next G1 G2 Mc Mm  hR) (fun x M1 h => Ci.mono h (fun y M2 g => ⟨g.1, go M1 M2 g.2⟩)),
      fun _ => ⟨v1, Ci.mono (s_kind G1 G2 Mc Mm _ hR) (fun x M1 h => ⟨v1, Ci.mono h (fun y M2 g => ⟨g.1, go M1 M2 g.2⟩)⟩)⟩,
      fun _ => ⟨v1, v2, Ci.mono (s_as G1 G2 Mc Mm _ _ hR) (fun x M1 h => ⟨v1, v2, Ci.mono h (fun y M2 g => ⟨g.1, go M1 M2 g.2⟩)⟩)⟩,
      fun _ => ⟨v1, v2, Ci.mono (s_ask G1 G2 Mc Mm _ _ hR) (fun x M1 h => ⟨v1, v2, Ci.mono h (fun y M2 g => ⟨g.1, go M1 M2 g.2⟩)⟩)⟩,
      fun _ => ⟨v1, Ci.mono (s_trace G1 G2 Mc Mm _ hR) (fun x M1 h => ⟨v1, Ci.mono h (fun y M2 g => ⟨g.1, go M1 M2 g.2⟩)⟩)⟩,
      fun _ => ⟨v1, Ci.mono (s_count G1 G2 Mc Mm _ hR) (fun x M1 h => ⟨v1, Ci.mono h (fun y M2 g => ⟨g.1, go M1 M2 g.2⟩)⟩)⟩,
      fun _ => Ci.mono (s_status G1 G2 Mc Mm  hR) (fun x M1 h => Ci.mono h (fun y M2 g => ⟨g.1, go M1 M2 g.2⟩)),
      fun _ => go Mc Mm hR⟩
theorem law_all {RR : Mem → Mem → Prop} (r0 : RR McI MmI) (s_sheet : St_sheet RR) (s_set : St_set RR) (s_copy : St_copy RR) (s_drop : St_drop RR) (s_feed : St_feed RR) (s_read : St_read RR) (s_fault : St_fault RR) (s_line : St_line RR) (s_ear : St_ear RR) (s_alike : St_alike RR) (s_today : St_today RR) (s_quarrels : St_quarrels RR) (s_walks : St_walks RR) (s_joined : St_joined RR) (s_person : St_person RR) (s_sure : St_sure RR) (s_stay : St_stay RR) (s_lost : St_lost RR) (s_found : St_found RR) (s_missing : St_missing RR) (s_shown : St_shown RR) (s_leaf : St_leaf RR) (s_next : St_next RR) (s_kind : St_kind RR) (s_as : St_as RR) (s_ask : St_ask RR) (s_trace : St_trace RR) (s_count : St_count RR) (s_status : St_status RR) {p : Program} {e : Env} {s : State} {m : MethodId} {below : List Frame} {meth : Method} {c : Code} (l : Launch) {b L : Nat} {xs : Nat → Int32} (hL : L ≤ 3072) (C0 : lw_At p s m meth c b L xs) : W p l e room_1 s m #[Value.ref b] below meth c s.heap [] 0 0 (lw_Z below #[Value.ref b] s) (entryFrame m ([Value.ref b] : List Value).toArray 4) :=
  start_loop l hL C0 (fun G1 G2 => by
    have h := law_loop (G1 := G1) (G2 := G2) (b := b) (L := L) (xs := xs) s_sheet s_set s_copy s_drop s_feed s_read s_fault s_line s_ear s_alike s_today s_quarrels s_walks s_joined s_person s_sure s_stay s_lost s_found s_missing s_shown s_leaf s_next s_kind s_as s_ask s_trace s_count s_status hL (L + 1) 0 (by omega) (by omega) McI MmI r0
    rw [nI_0] at h
    exact h)
