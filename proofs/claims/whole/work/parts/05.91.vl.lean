/-! the law's own judgement: both systems' cells, the script -/
def CL (G1 G2 : GV) (b L : Nat) (xs : Nat → Int32) (p : Program) (s : State) (m : MethodId) (meth : Method) (c : Code) : Prop :=
  p.tables.exec = Jvm.exec ∧ c.code = code ∧ c.maxLocals = 4 ∧ meth.sig.returnType = ret ∧ s.vm.findClass R_law = some m.cls ∧ meth.locks = false ∧ (∀ w ∈ lw_g, w.before #[Value.ref b] s = true) ∧ KK shC G1 s ∧ KK shM G2 s ∧ EX G1 (SA shC G1) s s.heap ∧ EX G2 (SA shM G2) s s.heap ∧ va_X b L xs s s.heap ∧ b < s.heap.size ∧ (∀ q, SA shC G1 q → s.heap.size ≤ q) ∧ (∀ q, SA shM G2 q → s.heap.size ≤ q) ∧ ∀ q, SA shC G1 q → ¬ SA shM G2 q
def VL (G1 G2 : GV) (b L : Nat) (xs : Nat → Int32) (cn sn pc : Nat) (lv : List (Nat × Value)) (st : List Value) (Mc Mm : Mem) : Prop :=
  ∀ (p : Program) (l : Launch) (e : Env) (s : State) (m : MethodId) (below : List Frame) (meth : Method) (c : Code) (H : Heap) (locs : List Loc) (ls : Array Slot), CL G1 G2 b L xs p s m meth c → va_P G1.1 cls (world shC G1 Mc) H → va_P G2.1 cls (world shM G2 Mm) H → va_S (fun q : Nat => s.heap.size ≤ q) s.heap H locs → lv_has ls 4 lv → W p l e room_1 s m #[Value.ref b] below meth c H locs cn sn (lw_Z below #[Value.ref b] s) (F0 m pc ls st)
section VLR
variable {G1 G2 : GV} {b L : Nat} {xs : Nat → Int32} {cn sn pc : Nat} {lv : List (Nat × Value)} {st : List Value} {Mc Mm : Mem}
theorem VL_lv {lv2 : List (Nat × Value)} (hv : lv = lv2) (h : VL G1 G2 b L xs cn sn pc lv2 st Mc Mm) : VL G1 G2 b L xs cn sn pc lv st Mc Mm := by rw [hv]; exact h
theorem VL_sub {lv' : List (Nat × Value)} (h : VL G1 G2 b L xs cn sn pc lv' st Mc Mm) (hs : lvsub lv lv') : VL G1 G2 b L xs cn sn pc lv st Mc Mm := fun p l e s m below meth c H locs ls C hP hP2 hS hl => h p l e s m below meth c H locs ls C hP hP2 hS (lv_fewer hl (lvsub_mem hs))
theorem VL_iadd {x y : Int32} (hd : decode code pc = .ok (.iadd, 1))  (h : VL G1 G2 b L xs cn sn (pc + 1) (lv) (.int (x + y) :: st) Mc Mm) : VL G1 G2 b L xs cn sn (pc) (lv) (.int y :: .int x :: st) Mc Mm := fun p l e s m below meth c H locs ls C hP hP2 hS hl => lv_iadd C.1 C.2.1 hd (h p l e s m below meth c H locs ls C hP hP2 hS hl)
theorem VL_isub {x y : Int32} (hd : decode code pc = .ok (.isub, 1))  (h : VL G1 G2 b L xs cn sn (pc + 1) (lv) (.int (x - y) :: st) Mc Mm) : VL G1 G2 b L xs cn sn (pc) (lv) (.int y :: .int x :: st) Mc Mm := fun p l e s m below meth c H locs ls C hP hP2 hS hl => lv_isub C.1 C.2.1 hd (h p l e s m below meth c H locs ls C hP hP2 hS hl)
theorem VL_iand {x y : Int32} (hd : decode code pc = .ok (.iand, 1))  (h : VL G1 G2 b L xs cn sn (pc + 1) (lv) (.int (x &&& y) :: st) Mc Mm) : VL G1 G2 b L xs cn sn (pc) (lv) (.int y :: .int x :: st) Mc Mm := fun p l e s m below meth c H locs ls C hP hP2 hS hl => lv_iand C.1 C.2.1 hd (h p l e s m below meth c H locs ls C hP hP2 hS hl)
theorem VL_land {x y : Int64} (hd : decode code pc = .ok (.land, 1))  (h : VL G1 G2 b L xs cn sn (pc + 1) (lv) (.long (x &&& y) :: st) Mc Mm) : VL G1 G2 b L xs cn sn (pc) (lv) (.long y :: .long x :: st) Mc Mm := fun p l e s m below meth c H locs ls C hP hP2 hS hl => lv_land C.1 C.2.1 hd (h p l e s m below meth c H locs ls C hP hP2 hS hl)
theorem VL_lor {x y : Int64} (hd : decode code pc = .ok (.lor, 1))  (h : VL G1 G2 b L xs cn sn (pc + 1) (lv) (.long (x ||| y) :: st) Mc Mm) : VL G1 G2 b L xs cn sn (pc) (lv) (.long y :: .long x :: st) Mc Mm := fun p l e s m below meth c H locs ls C hP hP2 hS hl => lv_lor C.1 C.2.1 hd (h p l e s m below meth c H locs ls C hP hP2 hS hl)
theorem VL_lshl {x : Int64} {y : Int32} (hd : decode code pc = .ok (.lshl, 1))  (h : VL G1 G2 b L xs cn sn (pc + 1) (lv) (.long (x <<< (y.toInt64 &&& 63)) :: st) Mc Mm) : VL G1 G2 b L xs cn sn (pc) (lv) (.int y :: .long x :: st) Mc Mm := fun p l e s m below meth c H locs ls C hP hP2 hS hl => lv_lshl C.1 C.2.1 hd rfl (h p l e s m below meth c H locs ls C hP hP2 hS hl)
theorem VL_lcmp {x y : Int64} (hd : decode code pc = .ok (.lcmp, 1))  (h : VL G1 G2 b L xs cn sn (pc + 1) (lv) (.int (lg_cmp x y) :: st) Mc Mm) : VL G1 G2 b L xs cn sn (pc) (lv) (.long y :: .long x :: st) Mc Mm := fun p l e s m below meth c H locs ls C hP hP2 hS hl => W.lcmp C.1 C.2.1 hd (h p l e s m below meth c H locs ls C hP hP2 hS hl)
theorem VL_i2l {x : Int32} (hd : decode code pc = .ok (.i2l, 1))  (h : VL G1 G2 b L xs cn sn (pc + 1) (lv) (.long x.toInt64 :: st) Mc Mm) : VL G1 G2 b L xs cn sn (pc) (lv) (.int x :: st) Mc Mm := fun p l e s m below meth c H locs ls C hP hP2 hS hl => lv_i2l C.1 C.2.1 hd rfl (h p l e s m below meth c H locs ls C hP hP2 hS hl)
theorem VL_iconst {n : Int} {v : Int32} (hd : decode code pc = .ok (.iconst n, 1)) (hv : Int32.ofInt n = v) (h : VL G1 G2 b L xs cn sn (pc + 1) (lv) (.int v :: st) Mc Mm) : VL G1 G2 b L xs cn sn (pc) (lv) (st) Mc Mm := fun p l e s m below meth c H locs ls C hP hP2 hS hl => lv_iconst C.1 C.2.1 hd hv (h p l e s m below meth c H locs ls C hP hP2 hS hl)
theorem VL_bipush {n : Int} {v : Int32} (hd : decode code pc = .ok (.bipush n, 2)) (hv : (Int8.ofInt n).toInt32 = v) (h : VL G1 G2 b L xs cn sn (pc + 2) (lv) (.int v :: st) Mc Mm) : VL G1 G2 b L xs cn sn (pc) (lv) (st) Mc Mm := fun p l e s m below meth c H locs ls C hP hP2 hS hl => lv_bipush C.1 C.2.1 hd hv (h p l e s m below meth c H locs ls C hP hP2 hS hl)
theorem VL_ldc2 {i : Nat} {v : Int64} (hd : decode code pc = .ok (.ldc2_w i, 3)) (hw : Cond.constantLong R_law i v ∈ lw_g) (h : VL G1 G2 b L xs cn sn (pc + 3) (lv) (.long v :: st) Mc Mm) : VL G1 G2 b L xs cn sn (pc) (lv) (st) Mc Mm := fun p l e s m below meth c H locs ls C hP hP2 hS hl => lv_ldc2 C.1 C.2.1 C.2.2.2.2.1 (C.2.2.2.2.2.2.1 _ hw) hd (h p l e s m below meth c H locs ls C hP hP2 hS hl)
theorem VL_iload_n {i : Fin 4} {x : Int32} (hd : decode code pc = .ok (.iload_n i, 1)) (hg : lvget lv i = some (.int x)) (h : VL G1 G2 b L xs cn sn (pc + 1) (lv) (.int x :: st) Mc Mm) : VL G1 G2 b L xs cn sn (pc) (lv) (st) Mc Mm := fun p l e s m below meth c H locs ls C hP hP2 hS hl => lv_iload_n C.1 C.2.1 hd rfl (lv_of_get hl hg) (h p l e s m below meth c H locs ls C hP hP2 hS hl)
theorem VL_aload_n {i : Fin 4} {a : Nat} (hd : decode code pc = .ok (.aload_n i, 1)) (hg : lvget lv i = some (.ref a)) (h : VL G1 G2 b L xs cn sn (pc + 1) (lv) (.ref a :: st) Mc Mm) : VL G1 G2 b L xs cn sn (pc) (lv) (st) Mc Mm := fun p l e s m below meth c H locs ls C hP hP2 hS hl => lv_aload_n C.1 C.2.1 hd rfl (lv_of_get hl hg) (h p l e s m below meth c H locs ls C hP hP2 hS hl)
theorem VL_slen  (hd : decode code pc = .ok (.arraylength, 1))  (h : VL G1 G2 b L xs cn sn (pc + 1) (lv) (.int (nI L) :: st) Mc Mm) : VL G1 G2 b L xs cn sn (pc) (lv) (.ref b :: st) Mc Mm := fun p l e s m below meth c H locs ls C hP hP2 hS hl => va_slen C.1 C.2.1 C.2.2.2.2.2.2.2.2.2.2.2.1 C.2.2.2.2.2.2.2.2.2.2.2.2.1 (Nat.not_le.mpr C.2.2.2.2.2.2.2.2.2.2.2.2.1) hS hd (h p l e s m below meth c H locs ls C hP hP2 hS hl)
theorem VL_sld {i : Int32} (hd : decode code pc = .ok (.iaload, 1)) (hin : vp_in i L) (h : VL G1 G2 b L xs cn sn (pc + 1) (lv) (.int (xs (ix i)) :: st) Mc Mm) : VL G1 G2 b L xs cn sn (pc) (lv) (.int i :: .ref b :: st) Mc Mm := fun p l e s m below meth c H locs ls C hP hP2 hS hl => va_sld C.1 C.2.1 C.2.2.2.2.2.2.2.2.2.2.2.1 C.2.2.2.2.2.2.2.2.2.2.2.2.1 (Nat.not_le.mpr C.2.2.2.2.2.2.2.2.2.2.2.2.1) hS hin hd (h p l e s m below meth c H locs ls C hP hP2 hS hl)
theorem VL_iinc {i : Nat} {n : Int} {x : Int32} (hd : decode code pc = .ok (.iinc i n, 3)) (hg : lvget lv i = some (.int x)) (hn : i < 4) (h : VL G1 G2 b L xs cn sn (pc + 3) (lvset lv i (.int (x + Int32.ofInt n))) (st) Mc Mm) : VL G1 G2 b L xs cn sn (pc) (lv) (st) Mc Mm := by
  intro p l e s m below meth c H locs ls C hP hP2 hS hl
  obtain ⟨j, hj⟩ := List.getElem?_of_mem (lvget_mem hg)
  exact lv_iinc C.1 C.2.1 hd hl hj rfl hn rfl (fun ls' hl' => h p l e s m below meth c H locs ls' C hP hP2 hS (lv_fewer hl' (fun _ hq => lvins_mem hq)))
theorem VL_goto {off : Int} {tgt : Nat} (hd : decode code pc = .ok (.goto off, 3)) (ht : (pc : Int) + off = (tgt : Int)) (h : VL G1 G2 b L xs cn sn (tgt) (lv) (st) Mc Mm) : VL G1 G2 b L xs cn sn (pc) (lv) (st) Mc Mm := fun p l e s m below meth c H locs ls C hP hP2 hS hl => lv_goto C.1 C.2.1 hd ht (h p l e s m below meth c H locs ls C hP hP2 hS hl)
theorem VL_icmp_eq {x y : Int32} {off : Int} {tgt : Nat} (hd : decode code pc = .ok (.if_icmp .eq off, 3)) (ht : (pc : Int) + off = (tgt : Int)) (kt : x = y → VL G1 G2 b L xs cn sn (tgt) (lv) (st) Mc Mm) (kf : ¬ (x = y) → VL G1 G2 b L xs cn sn (pc + 3) (lv) (st) Mc Mm) : VL G1 G2 b L xs cn sn (pc) (lv) (.int y :: .int x :: st) Mc Mm := fun p l e s m below meth c H locs ls C hP hP2 hS hl => lv_icmp_eq C.1 C.2.1 hd ht (fun h => kt h p l e s m below meth c H locs ls C hP hP2 hS hl) (fun h => kf h p l e s m below meth c H locs ls C hP hP2 hS hl)
theorem VL_icmp_gt {x y : Int32} {off : Int} {tgt : Nat} (hd : decode code pc = .ok (.if_icmp .gt off, 3)) (ht : (pc : Int) + off = (tgt : Int)) (kt : y < x → VL G1 G2 b L xs cn sn (tgt) (lv) (st) Mc Mm) (kf : ¬ (y < x) → VL G1 G2 b L xs cn sn (pc + 3) (lv) (st) Mc Mm) : VL G1 G2 b L xs cn sn (pc) (lv) (.int y :: .int x :: st) Mc Mm := fun p l e s m below meth c H locs ls C hP hP2 hS hl => lv_icmp_gt C.1 C.2.1 hd ht (fun h => kt h p l e s m below meth c H locs ls C hP hP2 hS hl) (fun h => kf h p l e s m below meth c H locs ls C hP hP2 hS hl)
theorem VL_lif_eq {x y : Int64} {off : Int} {tgt : Nat} (hd : decode code pc = .ok (.lcmp, 1)) (hd2 : decode code (pc + 1) = .ok (.ifCond .eq off, 3)) (ht : ((pc + 1 : Nat) : Int) + off = (tgt : Int)) (kt : x = y → VL G1 G2 b L xs cn sn (tgt) (lv) (st) Mc Mm) (kf : ¬ x = y → VL G1 G2 b L xs cn sn (pc + 4) (lv) (st) Mc Mm) : VL G1 G2 b L xs cn sn (pc) (lv) (.long y :: .long x :: st) Mc Mm := VL_lcmp hd (fun p l e s m below meth c H locs ls C hP hP2 hS hl => lv_if_eq C.1 C.2.1 hd2 ht (fun h => kt ((lg_cmp_eq x y).mp h) p l e s m below meth c H locs ls C hP hP2 hS hl) (fun h => kf (fun g => h ((lg_cmp_eq x y).mpr g)) p l e s m below meth c H locs ls C hP hP2 hS hl))
theorem VL_table {x : Int32} {dflt lo hi : Int} {offs : Array Int} {len tgt : Nat} (hd : decode code pc = .ok (.tableswitch dflt lo hi offs, len)) (hn : hi - lo + 1 = (offs.toList.length : Int)) (hpos : offs.toList.all (fun o => decide (0 ≤ (pc : Int) + o)) = true) (ht : (pc : Int) + dflt = (tgt : Int))
    (hin : TabP (fun t => VL G1 G2 b L xs cn sn (t) (lv) (st) Mc Mm) x.toInt pc offs.toList lo) (hout : (x.toInt < lo ∨ hi < x.toInt) → VL G1 G2 b L xs cn sn (tgt) (lv) (st) Mc Mm) : VL G1 G2 b L xs cn sn (pc) (lv) (.int x :: st) Mc Mm := by
  intro p l e s m below meth c H locs ls C hP hP2 hS hl
  by_cases h : x.toInt < lo ∨ hi < x.toInt
  · exact lv_tableOut C.1 C.2.1 hd h ht (hout h p l e s m below meth c H locs ls C hP hP2 hS hl)
  · have h1 : ¬ x.toInt < lo := fun q => h (Or.inl q)
    have h2 : ¬ hi < x.toInt := fun q => h (Or.inr q)
    have hlt : (x.toInt - lo).toNat < offs.toList.length := by omega
    have hg : offs.toList[(x.toInt - lo).toNat]? = some (offs.toList[(x.toInt - lo).toNat]) := List.getElem?_eq_getElem hlt
    have hV := TabP.get hin hg (by omega)
    have h0 := List.all_eq_true.mp hpos _ (List.getElem_mem hlt)
    simp only [decide_eq_true_eq] at h0
    exact lv_tableIn C.1 C.2.1 hd h1 h2 (by rw [← Array.getElem?_toList]; exact hg) (Int.toNat_of_nonneg h0).symm (hV p l e s m below meth c H locs ls C hP hP2 hS hl)
theorem VL_end (hd : decode code pc = .ok (.ireturn, 1)) (hcn : cn ≤ 600000) (hsn : sn ≤ 7302250) : VL G1 G2 b L xs cn sn (pc) (lv) ([.int 1]) Mc Mm := by
  intro p l e s m below meth c H locs ls C hP hP2 hS hl
  refine va_forget hS.2.2 (W.widen hcn hsn ?_)
  exact lw_ret C.1 C.2.1 C.2.2.2.1 C.2.2.2.2.2.1 hd
theorem kept_world {sh sh' : List SE} {G G' : GV} {M : Mem} {H H1 : Heap} (h : va_P G'.1 cls (world sh' G' M) H) (hap : ∀ q, SA sh G q → ¬ SA sh' G' q) (hk : ∀ q : Nat, q < H.size → ¬ SA sh G q → H1[q]? = H[q]?) : va_P G'.1 cls (world sh' G' M) H1 := by
  intro j q hq
  have h1 := h j q hq
  refine h1.kept (hk q.1 h1.lt (fun hs => hap q.1 hs ?_))
  obtain ⟨e, g1, rfl⟩ := world_inv hq
  exact ⟨j, (List.getElem?_eq_some_iff.mp g1).1, rfl⟩
theorem VL_invC {mi' : MI} {n idx k : Nat} {stk As : List Value} {Q' : Option Value → Mem → Prop} (hk : OKV mi' n) (hkl : k ≤ 12) (hw : Cond.methodLink R_law idx mi'.1 ∈ lw_g) (hc : mi'.1.cls = RX11) (hn : As.length = n) (hlen : (lg_sl (.ref (G1.2.1 0) :: As)).length ≤ mi'.2.2.1) (hs : stk = As.reverse ++ .ref (G1.2.1 0) :: st) (hsum : (st.map fun v => v.category).sum ≤ 8) (hd : decode code pc = .ok (.invokevirtual idx, 3)) (hcn : cn ≤ 600000) (hsn : sn ≤ 7302250)
    (h : V shC G1 mi' k 0 (lv_args 0 (.ref (G1.2.1 0) :: As)) [] Mc Q') (kk : ∀ v M', Q' v M' → VL G1 G2 b L xs cn sn (pc + 3) lv (v.toList ++ st) M' Mm) : VL G1 G2 b L xs cn sn (pc) (lv) (stk) Mc Mm := by
  intro p l e s m below meth c H locs ls C hP hP2 hS hl
  obtain ⟨⟨k1, k2, k3, k4, k5⟩, k6, k7⟩ := hk
  have hr := va_runV (p := p) (l := l) (e := e) (R := room_1) (below := below) (meth := meth) (locs := locs) (cells := cn) (slots := sn) (g := F0 m pc ls stk) (As := As) (rest := st) (H := H) (cc := code) (nL := 4) (own := R_law) ⟨C.1, C.2.1, C.2.2.1, C.2.2.2.2.1, C.2.2.2.2.2.2.1⟩ (Met_of_V l k4 hlen h) (cwV (C := mi'.1.cls) n C.2.2.2.2.2.2.1 (GoodIn_g (by
      intro w hw'
      rcases List.mem_append.mp hw' with hw' | hw'
      · simp only [List.mem_cons, List.not_mem_nil, or_false] at hw'
        rcases hw' with rfl | rfl | rfl | rfl <;> assumption
      · rcases List.mem_cons.mp hw' with rfl | hw'
        · exact k2
        · exact hw')) rfl rfl rfl ⟨rfl, k3⟩ ⟨by show k + 1 ≤ 13; omega, by show 8 + (mi'.2.2.1 + 11) + 35 * k ≤ 464; omega⟩) ⟨Pre.blind, by
        have := va_recv C.2.2.2.2.2.2.2.1.va hP (ci := 11) rfl (world_get sC0)
        rw [hc]
        exact this, fun U hU hW => ⟨rfl, by rw [hU]; exact hP, C.2.2.2.2.2.2.2.1.moved hW.alike, by rw [hU]; exact C.2.2.2.2.2.2.2.2.2.1.to hW (fun a h1 _ => hS.2.1 a h1 (Nat.not_le.mpr h1))⟩⟩ rfl hn hl.1 hs (lv_room hsum) hd ⟨hcn, hsn⟩
  intro T hT X
  obtain ⟨v, st₀, t, T', Lc, h0, X', hL, e1, e2, ⟨⟨v', M', hv, hq, hP'⟩, hz, hk'⟩, stp⟩ := hr T hT X
  cases hv
  rw [h0] at hz hk'
  rw [← e1] at hP' hk' hz
  have hS' : va_S (fun q : Nat => s.heap.size ≤ q) s.heap T'.heap (locs ++ Lc) := ⟨Nat.le_trans hS.1 hz, fun q h1 h2 => by rw [hk' q (Nat.lt_of_lt_of_le h1 hS.1) (fun hq => h2 (C.2.2.2.2.2.2.2.2.2.2.2.2.2.1 q hq))]; exact hS.2.1 q h1 h2, fun q hq => by
      rcases List.mem_append.mp hq with h | h
      · exact hS.2.2 q h
      · exact C.2.2.2.2.2.2.2.2.2.2.2.2.2.1 _ (hL q h)⟩
  obtain ⟨t2, a1, b1⟩ := kk v M' hq p l e s m below meth c T'.heap (locs ++ Lc) ls C hP' (kept_world hP2 C.2.2.2.2.2.2.2.2.2.2.2.2.2.2.2 hk') hS' hl T' rfl X'
  exact ⟨t2, stp t2 a1, b1⟩
theorem VL_callCi {mi' : MI} {n idx k : Nat} {stk : List Value} (As : List Value) (hk : OKV mi' n) (hkl : k ≤ 12) (hw : Cond.methodLink R_law idx mi'.1 ∈ lw_g) (hc : mi'.1.cls = RX11) (hn : As.length = n) (hlen : (lg_sl (.ref (G1.2.1 0) :: As)).length ≤ mi'.2.2.1) (hs : stk = As.reverse ++ .ref (G1.2.1 0) :: st) (hsum : (st.map fun v => v.category).sum ≤ 8) (hd : decode code pc = .ok (.invokevirtual idx, 3)) (hcn : cn ≤ 600000) (hsn : sn ≤ 7302250) (h : Ci shC G1 mi' k (.ref (G1.2.1 0) :: As) Mc (fun x M' => VL G1 G2 b L xs cn sn (pc + 3) lv (.int x :: st) M' Mm)) : VL G1 G2 b L xs cn sn (pc) (lv) (stk) Mc Mm := VL_invC hk hkl hw hc hn hlen hs hsum hd hcn hsn h (by rintro v M' ⟨x, rfl, hx⟩; exact hx)
theorem VL_callCl {mi' : MI} {n idx k : Nat} {stk : List Value} (As : List Value) (hk : OKV mi' n) (hkl : k ≤ 12) (hw : Cond.methodLink R_law idx mi'.1 ∈ lw_g) (hc : mi'.1.cls = RX11) (hn : As.length = n) (hlen : (lg_sl (.ref (G1.2.1 0) :: As)).length ≤ mi'.2.2.1) (hs : stk = As.reverse ++ .ref (G1.2.1 0) :: st) (hsum : (st.map fun v => v.category).sum ≤ 8) (hd : decode code pc = .ok (.invokevirtual idx, 3)) (hcn : cn ≤ 600000) (hsn : sn ≤ 7302250) (h : Cl shC G1 mi' k (.ref (G1.2.1 0) :: As) Mc (fun x M' => VL G1 G2 b L xs cn sn (pc + 3) lv (.long x :: st) M' Mm)) : VL G1 G2 b L xs cn sn (pc) (lv) (stk) Mc Mm := VL_invC hk hkl hw hc hn hlen hs hsum hd hcn hsn h (by rintro v M' ⟨x, rfl, hx⟩; exact hx)
theorem VL_invM {mi' : MI} {n idx k : Nat} {stk As : List Value} {Q' : Option Value → Mem → Prop} (hk : OKV mi' n) (hkl : k ≤ 12) (hw : Cond.methodLink R_law idx mi'.1 ∈ lw_g) (hc : mi'.1.cls = RX12) (hn : As.length = n) (hlen : (lg_sl (.ref (G2.2.1 0) :: As)).length ≤ mi'.2.2.1) (hs : stk = As.reverse ++ .ref (G2.2.1 0) :: st) (hsum : (st.map fun v => v.category).sum ≤ 8) (hd : decode code pc = .ok (.invokevirtual idx, 3)) (hcn : cn ≤ 600000) (hsn : sn ≤ 7302250)
    (h : V shM G2 mi' k 0 (lv_args 0 (.ref (G2.2.1 0) :: As)) [] Mm Q') (kk : ∀ v M', Q' v M' → VL G1 G2 b L xs cn sn (pc + 3) lv (v.toList ++ st) Mc M') : VL G1 G2 b L xs cn sn (pc) (lv) (stk) Mc Mm := by
  intro p l e s m below meth c H locs ls C hP hP2 hS hl
  obtain ⟨⟨k1, k2, k3, k4, k5⟩, k6, k7⟩ := hk
  have hr := va_runV (p := p) (l := l) (e := e) (R := room_1) (below := below) (meth := meth) (locs := locs) (cells := cn) (slots := sn) (g := F0 m pc ls stk) (As := As) (rest := st) (H := H) (cc := code) (nL := 4) (own := R_law) ⟨C.1, C.2.1, C.2.2.1, C.2.2.2.2.1, C.2.2.2.2.2.2.1⟩ (Met_of_V l k4 hlen h) (cwV (C := mi'.1.cls) n C.2.2.2.2.2.2.1 (GoodIn_g (by
      intro w hw'
      rcases List.mem_append.mp hw' with hw' | hw'
      · simp only [List.mem_cons, List.not_mem_nil, or_false] at hw'
        rcases hw' with rfl | rfl | rfl | rfl <;> assumption
      · rcases List.mem_cons.mp hw' with rfl | hw'
        · exact k2
        · exact hw')) rfl rfl rfl ⟨rfl, k3⟩ ⟨by show k + 1 ≤ 13; omega, by show 8 + (mi'.2.2.1 + 11) + 35 * k ≤ 464; omega⟩) ⟨Pre.blind, by
        have := va_recv C.2.2.2.2.2.2.2.2.1.va hP2 (ci := 12) rfl (world_get sM0)
        rw [hc]
        exact this, fun U hU hW => ⟨rfl, by rw [hU]; exact hP2, C.2.2.2.2.2.2.2.2.1.moved hW.alike, by rw [hU]; exact C.2.2.2.2.2.2.2.2.2.2.1.to hW (fun a h1 _ => hS.2.1 a h1 (Nat.not_le.mpr h1))⟩⟩ rfl hn hl.1 hs (lv_room hsum) hd ⟨hcn, hsn⟩
  intro T hT X
  obtain ⟨v, st₀, t, T', Lc, h0, X', hL, e1, e2, ⟨⟨v', M', hv, hq, hP'⟩, hz, hk'⟩, stp⟩ := hr T hT X
  cases hv
  rw [h0] at hz hk'
  rw [← e1] at hP' hk' hz
  have hS' : va_S (fun q : Nat => s.heap.size ≤ q) s.heap T'.heap (locs ++ Lc) := ⟨Nat.le_trans hS.1 hz, fun q h1 h2 => by rw [hk' q (Nat.lt_of_lt_of_le h1 hS.1) (fun hq => h2 (C.2.2.2.2.2.2.2.2.2.2.2.2.2.2.1 q hq))]; exact hS.2.1 q h1 h2, fun q hq => by
      rcases List.mem_append.mp hq with h | h
      · exact hS.2.2 q h
      · exact C.2.2.2.2.2.2.2.2.2.2.2.2.2.2.1 _ (hL q h)⟩
  obtain ⟨t2, a1, b1⟩ := kk v M' hq p l e s m below meth c T'.heap (locs ++ Lc) ls C (kept_world hP (fun q h1 h2 => C.2.2.2.2.2.2.2.2.2.2.2.2.2.2.2 q h2 h1) hk') hP' hS' hl T' rfl X'
  exact ⟨t2, stp t2 a1, b1⟩
theorem VL_callMi {mi' : MI} {n idx k : Nat} {stk : List Value} (As : List Value) (hk : OKV mi' n) (hkl : k ≤ 12) (hw : Cond.methodLink R_law idx mi'.1 ∈ lw_g) (hc : mi'.1.cls = RX12) (hn : As.length = n) (hlen : (lg_sl (.ref (G2.2.1 0) :: As)).length ≤ mi'.2.2.1) (hs : stk = As.reverse ++ .ref (G2.2.1 0) :: st) (hsum : (st.map fun v => v.category).sum ≤ 8) (hd : decode code pc = .ok (.invokevirtual idx, 3)) (hcn : cn ≤ 600000) (hsn : sn ≤ 7302250) (h : Ci shM G2 mi' k (.ref (G2.2.1 0) :: As) Mm (fun x M' => VL G1 G2 b L xs cn sn (pc + 3) lv (.int x :: st) Mc M')) : VL G1 G2 b L xs cn sn (pc) (lv) (stk) Mc Mm := VL_invM hk hkl hw hc hn hlen hs hsum hd hcn hsn h (by rintro v M' ⟨x, rfl, hx⟩; exact hx)
theorem VL_callMl {mi' : MI} {n idx k : Nat} {stk : List Value} (As : List Value) (hk : OKV mi' n) (hkl : k ≤ 12) (hw : Cond.methodLink R_law idx mi'.1 ∈ lw_g) (hc : mi'.1.cls = RX12) (hn : As.length = n) (hlen : (lg_sl (.ref (G2.2.1 0) :: As)).length ≤ mi'.2.2.1) (hs : stk = As.reverse ++ .ref (G2.2.1 0) :: st) (hsum : (st.map fun v => v.category).sum ≤ 8) (hd : decode code pc = .ok (.invokevirtual idx, 3)) (hcn : cn ≤ 600000) (hsn : sn ≤ 7302250) (h : Cl shM G2 mi' k (.ref (G2.2.1 0) :: As) Mm (fun x M' => VL G1 G2 b L xs cn sn (pc + 3) lv (.long x :: st) Mc M')) : VL G1 G2 b L xs cn sn (pc) (lv) (stk) Mc Mm := VL_invM hk hkl hw hc hn hlen hs hsum hd hcn hsn h (by rintro v M' ⟨x, rfl, hx⟩; exact hx)
end VLR
