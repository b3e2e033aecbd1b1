/-- isWord: the token is a word, of that length, of those letters -/
def isWordS (M : Mem) (st en i : Nat) : Prop := M.1 2 2 = 1 ∧ en - st = s_len.getD i 0 ∧ ∀ j, j < s_len.getD i 0 → M.1 16 (st + j) = (s_byt.getD i []).getD j 0
theorem nI_sub {a b : Nat} (h : b ≤ a) : nI a - nI b = nI (a - b) := by
  have e : nI a = nI (a - b) + nI b := by rw [nI_add]; congr 1; omega
  rw [e, Int32.add_sub_cancel]
theorem c_isWord {G : GV} {k : Nat} {M : Mem} {q : Int32 → Mem → Prop} {i st en ln : Nat} (hi : i < 10) (h3 : M.1 2 3 = nI st) (h4 : M.1 2 4 = nI en) (h1 : M.1 2 1 = nI ln) (hse : st ≤ en) (hel : en ≤ ln) (hln : ln ≤ 600) (hy : isWordS M st en i → q 1 M) (hn : ¬ isWordS M st en i → q 0 M) : Ci shC G mX10_isWord (k + 4) [.ref (G.2.1 2), .ref (sK G i)] M q := by
  have h8 := s_small i hi
  have hll : (M.1 2 4) - (M.1 2 3) = nI (en - st) := by rw [h3, h4, nI_sub hse]
  unfold Ci
  refine V_aload_n (pc := 0) dX10_isWord_0 rfl ?_
  refine V_getI (pc := 1) fX10_28 sC2 rfl dX10_isWord_1 ?_
  refine V_iconst (v := 1) (pc := 4) dX10_isWord_4 rfl ?_
  refine V_icmp_ne (tgt := 19) (pc := 5) dX10_isWord_5 rfl (fun c => ?_) (fun c => ?_)
  · refine V_iconst (v := 0) (pc := 19) dX10_isWord_19 rfl ?_
    exact V_zret dX10_isWord_20 rfl (Or.inl rfl) (hn (fun h => c h.1))
  refine V_aload_n (pc := 8) dX10_isWord_8 rfl ?_
  refine V_callVi [] (pc := 9) kX10_letters lX10w_9 sC2 rfl rfl (Nat.le_of_ble_eq_true rfl) rfl (Nat.le_of_ble_eq_true rfl) dX10_isWord_9 (wp_X10_letters ?_)
  refine V_aload_n (pc := 12) dX10_isWord_12 rfl ?_
  refine V_invStr [] (pc := 13) (i := i) hi kJ0_length_8abf5 rfl lX10w_13 rfl (Nat.le_of_ble_eq_true rfl) rfl (Nat.le_of_ble_eq_true rfl) dX10_isWord_13 (c_length hi ?_)
  rw [hll]
  refine V_icmp_eq (tgt := 21) (pc := 16) dX10_isWord_16 rfl (fun c2 => ?_) (fun c2 => ?_)
  · have hlen : en - st = s_len.getD i 0 := (nI_eq (by omega) (by omega)).mp c2
    refine V_iconst (v := 0) (pc := 21) dX10_isWord_21 rfl ?_
    refine V_istore_n (pc := 22) dX10_isWord_22 (by decide) ?_
    have loop : ∀ n j, j + n = s_len.getD i 0 → (∀ j', j' < j → M.1 16 (st + j') = (s_byt.getD i []).getD j' 0) → V shC G mX10_isWord (k + 4) 23 [(0, .ref (G.2.1 2)), (1, .ref (sK G i)), (2, .int (nI j))] [] M (Qi q) := by
      intro n
      induction n with
      | zero =>
        intro j hj hp
        refine V_iload_n (pc := 23) dX10_isWord_23 rfl ?_
        refine V_aload_n (pc := 24) dX10_isWord_24 rfl ?_
        refine V_invStr [] (pc := 25) (i := i) hi kJ0_length_8abf5 rfl lX10w_13 rfl (Nat.le_of_ble_eq_true rfl) rfl (Nat.le_of_ble_eq_true rfl) dX10_isWord_25 (c_length hi ?_)
        refine V_icmp_ge (tgt := 55) (pc := 28) dX10_isWord_28 rfl (fun c3 => ?_) (fun c3 => absurd (nI_le (by omega) (by omega)) c3)
        refine V_iconst (v := 1) (pc := 55) dX10_isWord_55 rfl ?_
        exact V_zret dX10_isWord_56 rfl (Or.inr rfl) (hy ⟨c, hlen, fun j' hj' => hp j' (by omega)⟩)
      | succ n ih =>
        intro j hj hp
        refine V_iload_n (pc := 23) dX10_isWord_23 rfl ?_
        refine V_aload_n (pc := 24) dX10_isWord_24 rfl ?_
        refine V_invStr [] (pc := 25) (i := i) hi kJ0_length_8abf5 rfl lX10w_13 rfl (Nat.le_of_ble_eq_true rfl) rfl (Nat.le_of_ble_eq_true rfl) dX10_isWord_25 (c_length hi ?_)
        refine V_icmp_ge (tgt := 55) (pc := 28) dX10_isWord_28 rfl (fun c3 => absurd c3 (nI_ge (by omega) (by omega))) (fun c3 => ?_)
        refine V_aload_n (pc := 31) dX10_isWord_31 rfl ?_
        refine V_iload_n (pc := 32) dX10_isWord_32 rfl ?_
        have hat : (M.1 2 3) + nI j = nI (st + j) := by rw [h3, nI_add]
        refine V_callVi [.int (nI j)] (pc := 33) kX10_letter lX10w_33 sC2 rfl rfl (Nat.le_of_ble_eq_true rfl) rfl (Nat.le_of_ble_eq_true rfl) dX10_isWord_33 (wp_X10_letter ?_)
        rw [hat]
        refine ⟨fun c4 => absurd c4 (nI_pos (by omega)), fun _ => ⟨fun _ => ⟨vp_in_nI (by omega) (by omega), ?_⟩, fun c4 => absurd (by rw [h1]; exact nI_lt (by omega) (by omega)) c4⟩⟩
        rw [show ix (nI (st + j)) = st + j from nI_clamp (by omega)]
        refine V_aload_n (pc := 36) dX10_isWord_36 rfl ?_
        refine V_iload_n (pc := 37) dX10_isWord_37 rfl ?_
        refine V_invStr [.int (nI j)] (pc := 38) (i := i) hi kJ0_charAt_5068e rfl lX10w_38 rfl (Nat.le_of_ble_eq_true rfl) rfl (Nat.le_of_ble_eq_true rfl) dX10_isWord_38 (c_charAt hi (by omega) ?_)
        refine V_bipush (v := 97) (pc := 41) dX10_isWord_41 rfl ?_
        refine V_isub (pc := 43) dX10_isWord_43 ?_
        refine V_icmp_eq (tgt := 49) (pc := 44) dX10_isWord_44 rfl (fun c5 => ?_) (fun c5 => ?_)
        · refine V_iinc (pc := 49) dX10_isWord_49 rfl (by decide) ?_
          refine V_goto (tgt := 23) (pc := 52) dX10_isWord_52 rfl ?_
          refine V_lv (lv2 := [(0, .ref (G.2.1 2)), (1, .ref (sK G i)), (2, .int (nI (j + 1)))]) (by rw [← nI_1]; rfl) ?_
          exact ih (j + 1) (by omega) (fun j' hj' => by
            rcases Nat.lt_or_ge j' j with h | h
            · exact hp j' h
            · have e : j' = j := by omega
              subst e
              have := congrArg (· + (97 : Int32)) c5
              simpa [Int32.sub_add_cancel] using this)
        · refine V_iconst (v := 0) (pc := 47) dX10_isWord_47 rfl ?_
          refine V_zret dX10_isWord_48 rfl (Or.inl rfl) (hn (fun h => c5 ?_))
          rw [h.2.2 j (by omega)]
    have l0 := loop (s_len.getD i 0) 0 (by omega) (fun j' hj' => absurd hj' (Nat.not_lt_zero _))
    rw [nI_0] at l0
    exact l0
  · refine V_iconst (v := 0) (pc := 19) dX10_isWord_19 rfl ?_
    exact V_zret dX10_isWord_20 rfl (Or.inl rfl) (hn (fun h => c2 (by rw [h.2.1])))
