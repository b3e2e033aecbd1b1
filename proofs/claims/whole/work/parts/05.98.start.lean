theorem clL_7 : Cond.classLink RL 7 RX11 ∈ lw_g := lw_in 110 (by decide +kernel) rfl
theorem clL_10 : Cond.classLink RL 10 RX12 ∈ lw_g := lw_in 1165 (by decide +kernel) rfl
theorem isX11 : Cond.instantiable RX11 13 ∈ lw_g := lw_in 111 (by decide +kernel) rfl
theorem iiX11 : Cond.initialized RX11 ∈ lw_g := lw_in 90 (by decide +kernel) rfl
theorem isX12 : Cond.instantiable RX12 54 ∈ lw_g := lw_in 1166 (by decide +kernel) rfl
theorem iiX12 : Cond.initialized RX12 ∈ lw_g := lw_in 102 (by decide +kernel) rfl
theorem imX11_init : Cond.instanceMethod mX11_init.1 ∈ lw_g := lw_in 113 (by decide +kernel) rfl
theorem imX12_init : Cond.instanceMethod mX12_init.1 ∈ lw_g := lw_in 1168 (by decide +kernel) rfl
theorem liL_9 : Cond.methodLink RL 9 mX11_init.1 ∈ lw_g := lw_in 112 (by decide +kernel) rfl
theorem liL_12 : Cond.methodLink RL 12 mX12_init.1 ∈ lw_g := lw_in 1167 (by decide +kernel) rfl
/-! the law from its entry to its loop -/
abbrev flatN : List Cond := flatC (Jvm.Cond.and given_1 narrow_1)
theorem m_codes : ∀ j, j < 26 → Cond.eq (.elem (.static RX5 "CODES" "[I") (.int (Int32.ofNat j))) (.int (codes26.getD j 0)) ∈ flatN := by decide +kernel
theorem m_s1 : ∀ i, i < 10 → Cond.exactly (.string RX8 (s_idx.getD i 0)) "java/lang/String" ∈ flatN := by decide +kernel
theorem m_s2 : ∀ i, i < 10 → Cond.eq (.field (.string RX8 (s_idx.getD i 0)) "java/lang/String" "coder" "B") (.int 0) ∈ flatN := by decide +kernel
theorem m_s3 : ∀ i, i < 10 → Cond.arrayOf (.field (.string RX8 (s_idx.getD i 0)) "java/lang/String" "value" "[B") .byte ∈ flatN := by decide +kernel
theorem m_s4 : ∀ i, i < 10 → Cond.eq (.length (.field (.string RX8 (s_idx.getD i 0)) "java/lang/String" "value" "[B")) (.int (Int32.ofNat (s_len.getD i 0))) ∈ flatN := by decide +kernel
theorem m_s5 : ∀ i, i < 10 → ∀ j, j < s_len.getD i 0 → Cond.eq (.elem (.field (.string RX8 (s_idx.getD i 0)) "java/lang/String" "value" "[B") (.int (Int32.ofNat j))) (.int ((s_byt.getD i []).getD j 0)) ∈ flatN := by decide +kernel
theorem m_s6 : ∀ i, i < 10 → ∀ j, j < 10 → i ≠ j → Cond.not (Cond.eq (.string RX8 (s_idx.getD i 0)) (.string RX8 (s_idx.getD j 0))) ∈ flatN ∨ Cond.not (Cond.eq (.string RX8 (s_idx.getD j 0)) (.string RX8 (s_idx.getD i 0))) ∈ flatN := by decide +kernel
theorem m_sr : ∀ i, i < 10 → Cond.stringRef RX8 (s_idx.getD i 0) (s_txt.getD i "") ∈ lw_tbl := by decide +kernel
theorem m_ls : Cond.laysStatic RX5 "CODES" "[I" ∈ lw_tbl ∧ Cond.initialized RX5 ∈ lw_tbl ∧ Cond.laysStatic "java/lang/String" "COMPACT_STRINGS" "Z" ∈ lw_tbl ∧ Cond.initialized "java/lang/String" ∈ lw_tbl ∧ Cond.laysStatic "jdk/internal/util/Preconditions" "SIOOBE_FORMATTER" "Ljava/util/function/BiFunction;" ∈ lw_tbl ∧ Cond.initialized "jdk/internal/util/Preconditions" ∈ lw_tbl := by decide +kernel
theorem m_n : Cond.arrayOf (.static RX5 "CODES" "[I") .int ∈ flatN ∧ Cond.eq (.length (.static RX5 "CODES" "[I")) (.int 26) ∈ flatN ∧ Cond.eq (.static "java/lang/String" "COMPACT_STRINGS" "Z") (.int 1) ∈ flatN ∧ Cond.isRef (.static "jdk/internal/util/Preconditions" "SIOOBE_FORMATTER" "Ljava/util/function/BiFunction;") ∈ flatN := by decide +kernel
theorem m_nest : ∀ w ∈ NWs, w ∈ lw_tbl := by decide +kernel
theorem m_over : Cond.arrayOver (.array .int) ∈ lw_tbl := by decide +kernel
theorem ex_start {s : State} {args : Array Value} {A : Nat → Prop} (hts : ∀ w ∈ lw_tbl, w.before args s = true) (hgv : (Jvm.Cond.and given_1 narrow_1).before args s = true) (hA : ∀ a : Nat, a < s.heap.size → ¬ A a) : ∃ (tC : Nat) (adK adV : Nat → Nat), ∀ (D : va_G) (ad : Nat → Nat) (cA : Nat → ClassId), EX (D, ad, cA, tC, adK, adV) A s s.heap := by
  have hs := flat_of_before _ hgv
  obtain ⟨t, ht, hT⟩ := va_Tof (tm := .static RX5 "CODES" "[I") (ty := .int) (N := 26) (f := fun j => .int (codes26.getD j 0)) (A := A) (by decide) (hs _ m_n.1) (va_eqt (hs _ m_n.2.1)) (fun j hj => va_eqt (hs _ (m_codes j hj))) hA
  obtain ⟨adK, adV, hS, hE⟩ := vk_Sof (args := args) (N := 10) (tm := fun i => .string RX8 (s_idx.getD i 0)) (len := s_len) (byt := s_byt) (A := A) (by decide) (fun i hi => hs _ (m_s1 i hi)) (fun i hi => hs _ (m_s2 i hi)) (fun i hi => hs _ (m_s3 i hi)) (fun i hi => hs _ (m_s4 i hi)) (fun i hi j hj => hs _ (m_s5 i hi j hj)) (fun i j hi hj hne => (m_s6 i hi j hj hne).elim (fun h => Or.inl (hs _ h)) (fun h => Or.inr (hs _ h))) hA
  exact ⟨t, adK, adV, fun D ad cA => ⟨va_Zref (hts _ m_ls.1) (hts _ m_ls.2.1) ht hA, hT, hS, fun i hi => vk_R.of (hts _ (m_sr i hi)) (hE i hi), va_Zof (hts _ m_ls.2.2.1) (hts _ m_ls.2.2.2.1) (va_eqi (hs _ m_n.2.2.1)) hA, va_Zqof (hts _ m_ls.2.2.2.2.1) (hts _ m_ls.2.2.2.2.2) (hs _ m_n.2.2.2) hA⟩⟩
def mapIx {α β : Type} (f : Nat → α → β) : Nat → List α → List β
  | _, [] => []
  | k, a :: t => f k a :: mapIx f (k + 1) t
theorem mapIx_eq {α β : Type} (f : Nat → α → β) : ∀ (l : List α) (k : Nat), l.mapIdx (fun i => f (k + i)) = mapIx f k l
  | [], _ => by simp [mapIx]
  | a :: t, k => by
    rw [List.mapIdx_cons, mapIx, ← mapIx_eq f t (k + 1)]
    simp only [Nat.add_zero]
    congr 1
    congr 1
    funext i
    rw [Nat.add_assoc, Nat.add_comm 1 i]
theorem ce_obj {G : GV} {M : Mem} {k ci : Nat} {fs : List (Option Nat)} : ce G M k (.inr (ci, fs)) = .inr (ci, mapIx (fun j f => fv G M k j f) 0 fs) := by
  rw [← mapIx_eq]
  simp only [ce, Nat.zero_add]
/-- the cells of a layout, found in a list of cells by places -/
def Lays (sh : List SE) (G : GV) (M : Mem) (ws : va_W) (pm : Nat → Nat) : Prop := ∀ (k : Nat) (e : SE), sh[k]? = some e → ws[pm k]? = some (G.2.1 k, ce G M k e)
theorem Lays.P {sh : List SE} {G : GV} {M : Mem} {ws : va_W} {pm : Nat → Nat} {H : Heap} (h : Lays sh G M ws pm) (hP : va_P G.1 cls ws H) : va_P G.1 cls (world sh G M) H := fun k q hq => by
  obtain ⟨e, h1, rfl⟩ := world_inv hq
  exact hP _ _ (h k e h1)
theorem Lays.D {sh : List SE} {G : GV} {M : Mem} {ws : va_W} {pm : Nat → Nat} {A : Nat → Prop} (h : Lays sh G M ws pm) (hD : va_D A ws) (hi : ∀ i, i < sh.length → ∀ j, j < sh.length → pm i = pm j → i = j) : va_D A (world sh G M) := by
  refine ⟨fun i j p q hp hq e => ?_, fun k q hq => ?_⟩
  · obtain ⟨e1, h1, rfl⟩ := world_inv hp
    obtain ⟨e2, h2, rfl⟩ := world_inv hq
    exact hi i (List.getElem?_eq_some_iff.mp h1).1 j (List.getElem?_eq_some_iff.mp h2).1 (hD.1 _ _ _ _ (h i e1 h1) (h j e2 h2) e)
  · obtain ⟨e1, h1, rfl⟩ := world_inv hq
    exact hD.2 _ _ (h k e1 h1)
theorem Lays.apart {sh sh' : List SE} {G G' : GV} {M M' : Mem} {ws : va_W} {pm pm' : Nat → Nat} {A : Nat → Prop} (h : Lays sh G M ws pm) (h' : Lays sh' G' M' ws pm') (hD : va_D A ws) (hne : ∀ i, i < sh.length → ∀ j, j < sh'.length → pm i ≠ pm' j) {q : Nat} (hq : SA sh G q) : ¬ SA sh' G' q := by
  rintro ⟨j, hj, e⟩
  obtain ⟨i, hi, rfl⟩ := hq
  exact hne i hi j hj (hD.1 _ _ _ _ (h i _ (List.getElem?_eq_getElem hi)) (h' j _ (List.getElem?_eq_getElem hj)) e)
theorem KK_of {sh : List SE} {G : GV} {s : State} {A : Nat → Prop} {M : Mem} {tys : List (ClassId × FieldType)} (hK : va_K G.1 cls tys s) (hD : va_D A (world sh G M)) (ht : ∀ (k kd : Nat) (ty : FieldType) (n : Nat) (rs : List Nat), sh[k]? = some (.inl (kd, ty, n, rs)) → ∃ i : Nat, tys[i]? = some (G.2.2.1 k, ty)) : KK sh G s :=
  ⟨hK.1, fun k kd ty n rs h => by obtain ⟨i, hi⟩ := ht k kd ty n rs h; exact hK.2 i _ hi, fun i j hi hj e => hD.1 i j _ _ (world_get (List.getElem?_eq_getElem hi)) (world_get (List.getElem?_eq_getElem hj)) e⟩
theorem SA_in {sh : List SE} {G : GV} {A : Nat → Prop} {M : Mem} (hD : va_D A (world sh G M)) {q : Nat} (h : SA sh G q) : A q := by
  obtain ⟨k, hk, rfl⟩ := h
  exact hD.2 k _ (world_get (List.getElem?_eq_getElem hk))
theorem SA_apart {sh sh' : List SE} {G G' : GV} {A : Nat → Prop} {M M' : Mem} (hD : va_D A (world sh G M ++ world sh' G' M')) {q : Nat} (h : SA sh G q) : ¬ SA sh' G' q := by
  rintro ⟨j, hj, e⟩
  obtain ⟨i, hi, rfl⟩ := h
  have hl : (world sh G M).length = sh.length := by simp [world]
  have h1 : (world sh G M ++ world sh' G' M')[i]? = some (G.2.1 i, ce G M i sh[i]) := by rw [List.getElem?_append_left (by omega)]; exact world_get (List.getElem?_eq_getElem hi)
  have h2 : (world sh G M ++ world sh' G' M')[sh.length + j]? = some (G'.2.1 j, ce G' M' j sh'[j]) := by rw [List.getElem?_append_right (by omega), hl, Nat.add_sub_cancel_left]; exact world_get (List.getElem?_eq_getElem hj)
  have := hD.1 _ _ _ _ h1 h2 e
  omega

def McI : Mem := (fun k => if k = 14 then (fun j => if j < 8 then -1 else 0) else if k = 9 then (fun j => if j = 5 then 1 else 0) else (fun _ => 0), fun _ _ => 0)
def MmI : Mem := (fun k => if k = 1 then (upd (upd (upd (upd (upd (upd (upd (upd (fun _ => 0) (Int32.toNatClampNeg 0) (-1)) (Int32.toNatClampNeg 1) (-1)) (Int32.toNatClampNeg 2) (-1)) (Int32.toNatClampNeg 3) (-1)) (Int32.toNatClampNeg 4) (-1)) (Int32.toNatClampNeg 5) (-1)) (Int32.toNatClampNeg 6) (-1)) (Int32.toNatClampNeg 7) (-1)) else (fun _ => 0), fun _ _ => 0)
set_option maxRecDepth 100000 in
set_option maxHeartbeats 20000000 in
theorem start_loop {p : Program} {e : Env} {s : State} {m : MethodId} {below : List Frame} {meth : Method} {c : Code} (l : Launch) {b L : Nat} {xs : Nat → Int32} (hL : L ≤ 3072) (C0 : lw_At p s m meth c b L xs) (hloop : ∀ G1 G2 : GV, VL G1 G2 b L xs 94 24155 18 [(0, .ref b), (1, .ref (G1.2.1 0)), (2, .ref (G2.2.1 0)), (3, .int 0)] [] McI MmI) : W p l e room_1 s m #[Value.ref b] below meth c s.heap [] 0 0 (lw_Z below #[Value.ref b] s) (entryFrame m ([Value.ref b] : List Value).toArray 4) := by
  obtain ⟨hx, hb, hr, hml, hown, hts, hX, hbl, hlocks, hgv⟩ := id C0
  have hg := lw_gs hts
  obtain ⟨cc0, ci0, hk0⟩ := u_known (C := RX0) (T := TX0) (N := 3) (n := 3) hg inX0 (hg _ isX0)
  obtain ⟨cc1, ci1, hk1⟩ := u_known (C := RX1) (T := TX1) (N := 5) (n := 5) hg inX1 (hg _ isX1)
  obtain ⟨cc2, ci2, hk2⟩ := u_known (C := RX2) (T := TX2) (N := 6) (n := 6) hg inX2 (hg _ isX2)
  obtain ⟨cc3, ci3, hk3⟩ := u_known (C := RX3) (T := TX3) (N := 10) (n := 10) hg inX3 (hg _ isX3)
  obtain ⟨cc4, ci4, hk4⟩ := u_known (C := RX4) (T := TX4) (N := 8) (n := 8) hg inX4 (hg _ isX4)
  obtain ⟨cc5, ci5, hk5⟩ := u_known (C := RX5) (T := TX5) (N := 5) (n := 5) hg inX5 (hg _ isX5)
  obtain ⟨cc6, ci6, hk6⟩ := u_known (C := RX6) (T := TX6) (N := 6) (n := 6) hg inX6 (hg _ isX6)
  obtain ⟨cc7, ci7, hk7⟩ := u_known (C := RX7) (T := TX7) (N := 6) (n := 6) hg inX7 (hg _ isX7)
  obtain ⟨cc8, ci8, hk8⟩ := u_known (C := RX8) (T := TX8) (N := 8) (n := 8) hg inX8 (hg _ isX8)
  obtain ⟨cc9, ci9, hk9⟩ := u_known (C := RX9) (T := TX9) (N := 3) (n := 3) hg inX9 (hg _ isX9)
  obtain ⟨cc10, ci10, hk10⟩ := u_known (C := RX10) (T := TX10) (N := 5) (n := 5) hg inX10 (hg _ isX10)
  obtain ⟨cc11, ci11, hk11⟩ := u_known (C := RX11) (T := TX11) (N := 13) (n := 13) hg inX11 (hg _ isX11)
  obtain ⟨cc12, ci12, hk12⟩ := u_known (C := RX12) (T := TX12) (N := 54) (n := 54) hg inX12 (hg _ isX12)
  obtain ⟨D, hKc⟩ : ∃ D : va_G, ∀ (k : Nat) (q : vw_C), cls[k]? = some q → u_Kn s q.1 q.2.1 q.2.2 (D.1 k) (D.2 k) := by
    refine ⟨(fun k => match k with | 0 => cc0 | 1 => cc1 | 2 => cc2 | 3 => cc3 | 4 => cc4 | 5 => cc5 | 6 => cc6 | 7 => cc7 | 8 => cc8 | 9 => cc9 | 10 => cc10 | 11 => cc11 | _ => cc12, fun k => match k with | 0 => ci0 | 1 => ci1 | 2 => ci2 | 3 => ci3 | 4 => ci4 | 5 => ci5 | 6 => ci6 | 7 => ci7 | 8 => ci8 | 9 => ci9 | 10 => ci10 | 11 => ci11 | _ => ci12), ?_⟩
    intro k q hq
    match k, hq with
    | 0, hq => cases hq; exact hk0
    | 1, hq => cases hq; exact hk1
    | 2, hq => cases hq; exact hk2
    | 3, hq => cases hq; exact hk3
    | 4, hq => cases hq; exact hk4
    | 5, hq => cases hq; exact hk5
    | 6, hq => cases hq; exact hk6
    | 7, hq => cases hq; exact hk7
    | 8, hq => cases hq; exact hk8
    | 9, hq => cases hq; exact hk9
    | 10, hq => cases hq; exact hk10
    | 11, hq => cases hq; exact hk11
    | 12, hq => cases hq; exact hk12
    | k + 13, hq => simp [cls] at hq
  have hK : va_K D cls [] s := ⟨hKc, fun k q h => by simp at h⟩
  have hP : va_P D cls [] s.heap := fun k q h => by simp at h
  have hD : va_D (fun q : Nat => s.heap.size ≤ q) [] := ⟨fun i j p q h => by simp at h, fun k q h => by simp at h⟩
  have hN : NW s := ⟨fun w hw => va_Nw.of (by
      simp only [NWs, List.mem_cons, List.not_mem_nil, or_false] at hw
      rcases hw with rfl | rfl | rfl | rfl | rfl | rfl <;> rfl) (hts w (m_nest w hw)), hts _ m_over⟩
  rw [lg_entry_eq]
  have key : VN D (⟨RL, meth.name, "([I)Z"⟩, code, 4, some .boolean) room_1 (fun q : Nat => s.heap.size ≤ q) 0 0 0 (lv_args 0 [.ref b]) [] [] [] (fun below args s' t => (s' = s ∧ args = #[Value.ref b]) → lw_Z below #[Value.ref b] s t) := by
    refine VN_new (ci := 11) (fs := [.null, .null, .null, .null, .null, .null, .null, .null, .null, .null, .null, .int 0, .int 0]) (ty := tyX11) (pc := 0) dL_0 clL_7 isX11 iiX11 inX11 tyX11_ok rfl (by decide +kernel) (Nat.le_of_ble_eq_true rfl) (Nat.le_of_ble_eq_true rfl) ?_
    intro a0
    refine VN_dup (pc := 3) dL_3 rfl ?_
    refine VN_call (As := []) (wr := []) [] (j := 0) (pc := 4) dL_4 okX11_init imX11_init liL_9 rfl rfl rfl rfl rfl (by decide) rfl rfl (Nat.le_of_ble_eq_true rfl) (Nat.le_of_ble_eq_true rfl) (Nat.le_of_ble_eq_true rfl) (Nat.le_of_ble_eq_true rfl) (Nat.le_of_ble_eq_true rfl) (cX11_init_ok D a0) ?_
    rintro w1 t1 ⟨q1, q2, c2, q3, c3, q4, c4, q5, q6, c6, q7, q8, c8, q9, c9, q10, c10, q11, q12, c12, q13, c13, q14, c14, q15, c15, q16, q17, c17, q18, c18, q19, c19, q20, c20, q21, q22, c22, q23, c23, q24, c24, q25, c25, q26, c26, q27, c27, q28, c28, q29, q30, c30, q31, c31, q32, c32, q33, c33, q34, c34, q35, c35, q36, q37, q38, c38, q39, c39, q40, c40, q41, c41, q42, q43, c43, q44, c44, q45, c45, r45, q46, q47, c47, rfl, rfl⟩
    refine VN_ws (ws2 := [(a0, .inr (11, [.ref q1, .ref q5, .ref q7, .ref q11, .ref q16, .ref q21, .ref q36, .ref q37, .ref q42, .ref q46, .ref q35, .int 0, .int 0])), (q1, .inr (9, [.ref q2, .ref q3, .ref q4])), (q2, .inl (c2, 8, .inl (fun _ => 0))), (q3, .inl (c3, 8, .inl (fun j => if j < 8 then -1 else 0))), (q4, .inl (c4, 480, .inl (fun _ => 0))), (q5, .inr (10, [.ref q6, .int 0, .int 0, .int 0, .int 0])), (q6, .inl (c6, 600, .inl (fun _ => 0))), (q7, .inr (1, [.ref q8, .ref q9, .ref q10, .int 0, .int 0])), (q8, .inl (c8, 10, .inl (fun _ => 0))), (q9, .inl (c9, 10, .inl (fun _ => 0))), (q10, .inl (c10, 10, .inl (fun _ => 0))), (q11, .inr (6, [.ref q12, .ref q13, .ref q14, .ref q15, .int 0, .int 0])), (q12, .inl (c12, 20, .inl (fun _ => 0))), (q13, .inl (c13, 20, .inl (fun _ => 0))), (q14, .inl (c14, 20, .inl (fun _ => 0))), (q15, .inl (c15, 20, .inl (fun _ => 0))), (q16, .inr (2, [.ref q17, .ref q18, .ref q19, .ref q20, .int 0, .int 0])), (q17, .inl (c17, 20, .inl (fun _ => 0))), (q18, .inl (c18, 20, .inl (fun _ => 0))), (q19, .inl (c19, 20, .inl (fun _ => 0))), (q20, .inl (c20, 20, .inl (fun _ => 0))), (q21, .inr (3, [.ref q22, .ref q23, .ref q24, .ref q25, .ref q26, .ref q27, .ref q28, .ref q29, .int 0, .int 0])), (q22, .inl (c22, 12, .inl (fun _ => 0))), (q23, .inl (c23, 12, .inl (fun _ => 0))), (q24, .inl (c24, 12, .inl (fun _ => 0))), (q25, .inl (c25, 12, .inl (fun _ => 0))), (q26, .inl (c26, 12, .inl (fun _ => 0))), (q27, .inl (c27, 12, .inl (fun _ => 0))), (q28, .inl (c28, 12, .inl (fun _ => 0))), (q29, .inr (5, [.ref q30, .ref q31, .ref q32, .ref q33, .ref q34])), (q30, .inl (c30, 96, .inl (fun _ => 0))), (q31, .inl (c31, 9, .inl (fun _ => 0))), (q32, .inl (c32, 12, .inl (fun _ => 0))), (q33, .inl (c33, 12, .inl (fun _ => 0))), (q34, .inl (c34, 12, .inl (fun _ => 0))), (q35, .inl (c35, 20, .inl (fun _ => 0))), (q36, .inr (8, [.ref q5, .ref q7, .ref q21, .ref q11, .ref q16, .int 0, .int 0, .int 0])), (q37, .inr (7, [.ref q21, .ref q38, .ref q39, .ref q40, .ref q41, .int 1])), (q38, .inl (c38, 12, .inl (fun _ => 0))), (q39, .inl (c39, 12, .inl (fun _ => 0))), (q40, .inl (c40, 4096, .inl (fun _ => 0))), (q41, .inl (c41, 4096, .inl (fun _ => 0))), (q42, .inr (4, [.ref q21, .ref q43, .ref q44, .ref q45, .int 0, .int 0, .int 0, .int 0])), (q43, .inl (c43, 12, .inl (fun _ => 0))), (q44, .inl (c44, 12, .inl (fun _ => 0))), (q45, .inl (c45, 13, .inr (.inr (.inr (.inr (fun i => if i < 13 then some (r45 i) else none)))))), ((r45 0), .inl (c43, 13, .inl (fun _ => 0))), ((r45 1), .inl (c43, 13, .inl (fun _ => 0))), ((r45 2), .inl (c43, 13, .inl (fun _ => 0))), ((r45 3), .inl (c43, 13, .inl (fun _ => 0))), ((r45 4), .inl (c43, 13, .inl (fun _ => 0))), ((r45 5), .inl (c43, 13, .inl (fun _ => 0))), ((r45 6), .inl (c43, 13, .inl (fun _ => 0))), ((r45 7), .inl (c43, 13, .inl (fun _ => 0))), ((r45 8), .inl (c43, 13, .inl (fun _ => 0))), ((r45 9), .inl (c43, 13, .inl (fun _ => 0))), ((r45 10), .inl (c43, 13, .inl (fun _ => 0))), ((r45 11), .inl (c43, 13, .inl (fun _ => 0))), ((r45 12), .inl (c43, 13, .inl (fun _ => 0))), (q46, .inr (0, [.ref q21, .ref q47, .int 0])), (q47, .inl (c47, 16, .inl (fun _ => 0)))]) (tys2 := [(c2, .int), (c3, .int), (c4, .int), (c6, .byte), (c8, .int), (c9, .int), (c10, .boolean), (c12, .int), (c13, .int), (c14, .int), (c15, .int), (c17, .int), (c18, .int), (c19, .int), (c20, .int), (c22, .int), (c23, .int), (c24, .int), (c25, .int), (c26, .int), (c27, .int), (c28, .int), (c30, .int), (c31, .int), (c32, .int), (c33, .int), (c34, .int), (c35, .int), (c38, .int), (c39, .int), (c40, .byte), (c41, .int), (c43, .int), (c44, .int), (c45, .array .int), (c47, .int)]) rfl rfl ?_
    refine VN_astore_n (pc := 7) dL_7 (show 1 < 4 by decide) ?_
    refine VN_new (ci := 12) (fs := [.int 0, .int 0, .null, .null, .null, .int 0, .null, .null, .null, .null, .int 0, .null, .null, .null, .null, .null, .null, .null, .int 0, .null, .null, .null, .null, .int 0, .null, .null, .null, .null, .null, .int 0, .int 0, .int 0, .int 0, .int 0, .int 0, .int 0, .int 0, .int 0, .int 0, .int 0, .int 0, .int 0, .null, .null, .null, .null, .null, .int 0, .int 0, .null, .null, .null, .null, .int 0]) (ty := tyX12) (pc := 8) dL_8 clL_10 isX12 iiX12 inX12 tyX12_ok rfl (by decide +kernel) (Nat.le_of_ble_eq_true rfl) (Nat.le_of_ble_eq_true rfl) ?_
    intro b0
    refine VN_dup (pc := 11) dL_11 rfl ?_
    refine VN_call (As := []) (wr := [(a0, .inr (11, [.ref q1, .ref q5, .ref q7, .ref q11, .ref q16, .ref q21, .ref q36, .ref q37, .ref q42, .ref q46, .ref q35, .int 0, .int 0])), (q1, .inr (9, [.ref q2, .ref q3, .ref q4])), (q2, .inl (c2, 8, .inl (fun _ => 0))), (q3, .inl (c3, 8, .inl (fun j => if j < 8 then -1 else 0))), (q4, .inl (c4, 480, .inl (fun _ => 0))), (q5, .inr (10, [.ref q6, .int 0, .int 0, .int 0, .int 0])), (q6, .inl (c6, 600, .inl (fun _ => 0))), (q7, .inr (1, [.ref q8, .ref q9, .ref q10, .int 0, .int 0])), (q8, .inl (c8, 10, .inl (fun _ => 0))), (q9, .inl (c9, 10, .inl (fun _ => 0))), (q10, .inl (c10, 10, .inl (fun _ => 0))), (q11, .inr (6, [.ref q12, .ref q13, .ref q14, .ref q15, .int 0, .int 0])), (q12, .inl (c12, 20, .inl (fun _ => 0))), (q13, .inl (c13, 20, .inl (fun _ => 0))), (q14, .inl (c14, 20, .inl (fun _ => 0))), (q15, .inl (c15, 20, .inl (fun _ => 0))), (q16, .inr (2, [.ref q17, .ref q18, .ref q19, .ref q20, .int 0, .int 0])), (q17, .inl (c17, 20, .inl (fun _ => 0))), (q18, .inl (c18, 20, .inl (fun _ => 0))), (q19, .inl (c19, 20, .inl (fun _ => 0))), (q20, .inl (c20, 20, .inl (fun _ => 0))), (q21, .inr (3, [.ref q22, .ref q23, .ref q24, .ref q25, .ref q26, .ref q27, .ref q28, .ref q29, .int 0, .int 0])), (q22, .inl (c22, 12, .inl (fun _ => 0))), (q23, .inl (c23, 12, .inl (fun _ => 0))), (q24, .inl (c24, 12, .inl (fun _ => 0))), (q25, .inl (c25, 12, .inl (fun _ => 0))), (q26, .inl (c26, 12, .inl (fun _ => 0))), (q27, .inl (c27, 12, .inl (fun _ => 0))), (q28, .inl (c28, 12, .inl (fun _ => 0))), (q29, .inr (5, [.ref q30, .ref q31, .ref q32, .ref q33, .ref q34])), (q30, .inl (c30, 96, .inl (fun _ => 0))), (q31, .inl (c31, 9, .inl (fun _ => 0))), (q32, .inl (c32, 12, .inl (fun _ => 0))), (q33, .inl (c33, 12, .inl (fun _ => 0))), (q34, .inl (c34, 12, .inl (fun _ => 0))), (q35, .inl (c35, 20, .inl (fun _ => 0))), (q36, .inr (8, [.ref q5, .ref q7, .ref q21, .ref q11, .ref q16, .int 0, .int 0, .int 0])), (q37, .inr (7, [.ref q21, .ref q38, .ref q39, .ref q40, .ref q41, .int 1])), (q38, .inl (c38, 12, .inl (fun _ => 0))), (q39, .inl (c39, 12, .inl (fun _ => 0))), (q40, .inl (c40, 4096, .inl (fun _ => 0))), (q41, .inl (c41, 4096, .inl (fun _ => 0))), (q42, .inr (4, [.ref q21, .ref q43, .ref q44, .ref q45, .int 0, .int 0, .int 0, .int 0])), (q43, .inl (c43, 12, .inl (fun _ => 0))), (q44, .inl (c44, 12, .inl (fun _ => 0))), (q45, .inl (c45, 13, .inr (.inr (.inr (.inr (fun i => if i < 13 then some (r45 i) else none)))))), ((r45 0), .inl (c43, 13, .inl (fun _ => 0))), ((r45 1), .inl (c43, 13, .inl (fun _ => 0))), ((r45 2), .inl (c43, 13, .inl (fun _ => 0))), ((r45 3), .inl (c43, 13, .inl (fun _ => 0))), ((r45 4), .inl (c43, 13, .inl (fun _ => 0))), ((r45 5), .inl (c43, 13, .inl (fun _ => 0))), ((r45 6), .inl (c43, 13, .inl (fun _ => 0))), ((r45 7), .inl (c43, 13, .inl (fun _ => 0))), ((r45 8), .inl (c43, 13, .inl (fun _ => 0))), ((r45 9), .inl (c43, 13, .inl (fun _ => 0))), ((r45 10), .inl (c43, 13, .inl (fun _ => 0))), ((r45 11), .inl (c43, 13, .inl (fun _ => 0))), ((r45 12), .inl (c43, 13, .inl (fun _ => 0))), (q46, .inr (0, [.ref q21, .ref q47, .int 0])), (q47, .inl (c47, 16, .inl (fun _ => 0)))]) [0, 1, 2, 3, 4, 5, 6, 7, 8, 9, 10, 11, 12, 13, 14, 15, 16, 17, 18, 19, 20, 21, 22, 23, 24, 25, 26, 27, 28, 29, 30, 31, 32, 33, 34, 35, 36, 37, 38, 39, 40, 41, 42, 43, 44, 45, 46, 47, 48, 49, 50, 51, 52, 53, 54, 55, 56, 57, 58, 59, 60] (j := 61) (pc := 12) dL_12 okX12_init imX12_init liL_12 rfl rfl rfl rfl rfl (by decide) rfl rfl (Nat.le_of_ble_eq_true rfl) (Nat.le_of_ble_eq_true rfl) (Nat.le_of_ble_eq_true rfl) (Nat.le_of_ble_eq_true rfl) (Nat.le_of_ble_eq_true rfl) (cX12_init_ok D b0) ?_
    rintro w1 t1 ⟨u1, d1, u2, d2, u3, d3, u4, d4, u5, d5, u6, d6, u7, d7, u8, d8, u9, d9, u10, d10, u11, d11, u12, d12, u13, d13, u14, d14, u15, d15, u16, d16, u17, d17, u18, d18, u19, d19, u20, d20, u21, d21, u22, d22, u23, d23, u24, d24, u25, d25, u26, d26, u27, d27, u28, d28, u29, d29, u30, d30, u31, d31, u32, d32, rfl, rfl⟩
    refine VN_ws (ws2 := [(a0, .inr (11, [.ref q1, .ref q5, .ref q7, .ref q11, .ref q16, .ref q21, .ref q36, .ref q37, .ref q42, .ref q46, .ref q35, .int 0, .int 0])), (q1, .inr (9, [.ref q2, .ref q3, .ref q4])), (q2, .inl (c2, 8, .inl (fun _ => 0))), (q3, .inl (c3, 8, .inl (fun j => if j < 8 then -1 else 0))), (q4, .inl (c4, 480, .inl (fun _ => 0))), (q5, .inr (10, [.ref q6, .int 0, .int 0, .int 0, .int 0])), (q6, .inl (c6, 600, .inl (fun _ => 0))), (q7, .inr (1, [.ref q8, .ref q9, .ref q10, .int 0, .int 0])), (q8, .inl (c8, 10, .inl (fun _ => 0))), (q9, .inl (c9, 10, .inl (fun _ => 0))), (q10, .inl (c10, 10, .inl (fun _ => 0))), (q11, .inr (6, [.ref q12, .ref q13, .ref q14, .ref q15, .int 0, .int 0])), (q12, .inl (c12, 20, .inl (fun _ => 0))), (q13, .inl (c13, 20, .inl (fun _ => 0))), (q14, .inl (c14, 20, .inl (fun _ => 0))), (q15, .inl (c15, 20, .inl (fun _ => 0))), (q16, .inr (2, [.ref q17, .ref q18, .ref q19, .ref q20, .int 0, .int 0])), (q17, .inl (c17, 20, .inl (fun _ => 0))), (q18, .inl (c18, 20, .inl (fun _ => 0))), (q19, .inl (c19, 20, .inl (fun _ => 0))), (q20, .inl (c20, 20, .inl (fun _ => 0))), (q21, .inr (3, [.ref q22, .ref q23, .ref q24, .ref q25, .ref q26, .ref q27, .ref q28, .ref q29, .int 0, .int 0])), (q22, .inl (c22, 12, .inl (fun _ => 0))), (q23, .inl (c23, 12, .inl (fun _ => 0))), (q24, .inl (c24, 12, .inl (fun _ => 0))), (q25, .inl (c25, 12, .inl (fun _ => 0))), (q26, .inl (c26, 12, .inl (fun _ => 0))), (q27, .inl (c27, 12, .inl (fun _ => 0))), (q28, .inl (c28, 12, .inl (fun _ => 0))), (q29, .inr (5, [.ref q30, .ref q31, .ref q32, .ref q33, .ref q34])), (q30, .inl (c30, 96, .inl (fun _ => 0))), (q31, .inl (c31, 9, .inl (fun _ => 0))), (q32, .inl (c32, 12, .inl (fun _ => 0))), (q33, .inl (c33, 12, .inl (fun _ => 0))), (q34, .inl (c34, 12, .inl (fun _ => 0))), (q35, .inl (c35, 20, .inl (fun _ => 0))), (q36, .inr (8, [.ref q5, .ref q7, .ref q21, .ref q11, .ref q16, .int 0, .int 0, .int 0])), (q37, .inr (7, [.ref q21, .ref q38, .ref q39, .ref q40, .ref q41, .int 1])), (q38, .inl (c38, 12, .inl (fun _ => 0))), (q39, .inl (c39, 12, .inl (fun _ => 0))), (q40, .inl (c40, 4096, .inl (fun _ => 0))), (q41, .inl (c41, 4096, .inl (fun _ => 0))), (q42, .inr (4, [.ref q21, .ref q43, .ref q44, .ref q45, .int 0, .int 0, .int 0, .int 0])), (q43, .inl (c43, 12, .inl (fun _ => 0))), (q44, .inl (c44, 12, .inl (fun _ => 0))), (q45, .inl (c45, 13, .inr (.inr (.inr (.inr (fun i => if i < 13 then some (r45 i) else none)))))), ((r45 0), .inl (c43, 13, .inl (fun _ => 0))), ((r45 1), .inl (c43, 13, .inl (fun _ => 0))), ((r45 2), .inl (c43, 13, .inl (fun _ => 0))), ((r45 3), .inl (c43, 13, .inl (fun _ => 0))), ((r45 4), .inl (c43, 13, .inl (fun _ => 0))), ((r45 5), .inl (c43, 13, .inl (fun _ => 0))), ((r45 6), .inl (c43, 13, .inl (fun _ => 0))), ((r45 7), .inl (c43, 13, .inl (fun _ => 0))), ((r45 8), .inl (c43, 13, .inl (fun _ => 0))), ((r45 9), .inl (c43, 13, .inl (fun _ => 0))), ((r45 10), .inl (c43, 13, .inl (fun _ => 0))), ((r45 11), .inl (c43, 13, .inl (fun _ => 0))), ((r45 12), .inl (c43, 13, .inl (fun _ => 0))), (q46, .inr (0, [.ref q21, .ref q47, .int 0])), (q47, .inl (c47, 16, .inl (fun _ => 0))), (b0, .inr (12, [.int 0, .int 0, .ref u1, .ref u2, .ref u3, .int 0, .ref u4, .ref u5, .ref u6, .ref u7, .int 0, .ref u8, .ref u9, .ref u10, .ref u11, .ref u12, .ref u13, .ref u14, .int 0, .ref u15, .ref u16, .ref u17, .ref u18, .int 0, .ref u19, .ref u20, .ref u21, .ref u22, .ref u23, .int 0, .int 0, .int 0, .int 0, .int 0, .int 0, .int 0, .int 0, .int 0, .int 0, .int 0, .int 0, .int 0, .ref u24, .ref u25, .ref u26, .ref u27, .ref u28, .int 0, .int 0, .ref u29, .ref u30, .ref u31, .ref u32, .int 0])), (u1, .inl (d1, 8, .inl (upd (upd (upd (upd (upd (upd (upd (upd (fun _ => 0) (Int32.toNatClampNeg 0) (-1)) (Int32.toNatClampNeg 1) (-1)) (Int32.toNatClampNeg 2) (-1)) (Int32.toNatClampNeg 3) (-1)) (Int32.toNatClampNeg 4) (-1)) (Int32.toNatClampNeg 5) (-1)) (Int32.toNatClampNeg 6) (-1)) (Int32.toNatClampNeg 7) (-1)))), (u2, .inl (d2, 8, .inl (fun _ => 0))), (u3, .inl (d3, 480, .inl (fun _ => 0))), (u4, .inl (d4, 10, .inl (fun _ => 0))), (u5, .inl (d5, 10, .inl (fun _ => 0))), (u6, .inl (d6, 10, .inl (fun _ => 0))), (u7, .inl (d7, 10, .inl (fun _ => 0))), (u8, .inl (d8, 12, .inl (fun _ => 0))), (u9, .inl (d9, 12, .inl (fun _ => 0))), (u10, .inl (d10, 12, .inl (fun _ => 0))), (u11, .inl (d11, 12, .inl (fun _ => 0))), (u12, .inl (d12, 12, .inl (fun _ => 0))), (u13, .inl (d13, 12, .inl (fun _ => 0))), (u14, .inl (d14, 96, .inl (fun _ => 0))), (u15, .inl (d15, 20, .inl (fun _ => 0))), (u16, .inl (d16, 20, .inl (fun _ => 0))), (u17, .inl (d17, 20, .inl (fun _ => 0))), (u18, .inl (d18, 20, .inl (fun _ => 0))), (u19, .inl (d19, 20, .inl (fun _ => 0))), (u20, .inl (d20, 20, .inl (fun _ => 0))), (u21, .inl (d21, 20, .inl (fun _ => 0))), (u22, .inl (d22, 20, .inl (fun _ => 0))), (u23, .inl (d23, 600, .inl (fun _ => 0))), (u24, .inl (d24, 81, .inl (fun _ => 0))), (u25, .inl (d25, 12, .inl (fun _ => 0))), (u26, .inl (d26, 4096, .inl (fun _ => 0))), (u27, .inl (d27, 4096, .inl (fun _ => 0))), (u28, .inl (d28, 4096, .inr (.inl (fun _ => 0)))), (u29, .inl (d29, 12, .inl (fun _ => 0))), (u30, .inl (d30, 12, .inl (fun _ => 0))), (u31, .inl (d31, 169, .inl (fun _ => 0))), (u32, .inl (d32, 16, .inl (fun _ => 0)))]) (tys2 := [(c2, .int), (c3, .int), (c4, .int), (c6, .byte), (c8, .int), (c9, .int), (c10, .boolean), (c12, .int), (c13, .int), (c14, .int), (c15, .int), (c17, .int), (c18, .int), (c19, .int), (c20, .int), (c22, .int), (c23, .int), (c24, .int), (c25, .int), (c26, .int), (c27, .int), (c28, .int), (c30, .int), (c31, .int), (c32, .int), (c33, .int), (c34, .int), (c35, .int), (c38, .int), (c39, .int), (c40, .byte), (c41, .int), (c43, .int), (c44, .int), (c45, .array .int), (c47, .int), (d1, .int), (d2, .int), (d3, .int), (d4, .int), (d5, .int), (d6, .int), (d7, .boolean), (d8, .int), (d9, .int), (d10, .int), (d11, .int), (d12, .int), (d13, .int), (d14, .int), (d15, .int), (d16, .int), (d17, .int), (d18, .int), (d19, .int), (d20, .int), (d21, .int), (d22, .int), (d23, .int), (d24, .int), (d25, .int), (d26, .boolean), (d27, .int), (d28, .long), (d29, .int), (d30, .int), (d31, .int), (d32, .int)]) rfl rfl ?_
    refine VN_astore_n (pc := 15) dL_15 (show 2 < 4 by decide) ?_
    refine VN_iconst (v := 0) (pc := 16) dL_16 rfl ?_
    refine VN_istore_n (pc := 17) dL_17 (show 3 < 4 by decide) ?_
    refine VN_lv (lv2 := [(0, .ref b), (1, .ref a0), (2, .ref b0), (3, .int 0)]) rfl ?_
    intro p l e s' m args below meth' c H locs ls jC jK jP jD jS jl
    by_cases hPq : s' = s ∧ args = #[Value.ref b]
    · obtain ⟨rfl, rfl⟩ := hPq
      obtain ⟨adC, hadC⟩ : ∃ f : Nat → Nat, f = fun k => ([a0, q1, q5, q7, q11, q16, q21, q29, q36, q37, q42, q46, q35, q2, q3, q4, q6, q8, q9, q10, q12, q13, q14, q15, q17, q18, q19, q20, q22, q23, q24, q25, q26, q27, q28, q30, q31, q32, q33, q34, q38, q39, q40, q41, q43, q44, q45, q47, (r45 0), (r45 1), (r45 2), (r45 3), (r45 4), (r45 5), (r45 6), (r45 7), (r45 8), (r45 9), (r45 10), (r45 11), (r45 12)] : List Nat).getD k 0 := ⟨_, rfl⟩
      obtain ⟨adM, hadM⟩ : ∃ f : Nat → Nat, f = fun k => ([b0, u1, u2, u3, u4, u5, u6, u7, u8, u9, u10, u11, u12, u13, u14, u15, u16, u17, u18, u19, u20, u21, u22, u23, u24, u25, u26, u27, u28, u29, u30, u31, u32] : List Nat).getD k 0 := ⟨_, rfl⟩
      obtain ⟨cAC, hcAC⟩ : ∃ f : Nat → ClassId, f = fun k => ([0, 0, 0, 0, 0, 0, 0, 0, 0, 0, 0, 0, c35, c2, c3, c4, c6, c8, c9, c10, c12, c13, c14, c15, c17, c18, c19, c20, c22, c23, c24, c25, c26, c27, c28, c30, c31, c32, c33, c34, c38, c39, c40, c41, c43, c44, c45, c47, c43, c43, c43, c43, c43, c43, c43, c43, c43, c43, c43, c43, c43] : List ClassId).getD k 0 := ⟨_, rfl⟩
      obtain ⟨cAM, hcAM⟩ : ∃ f : Nat → ClassId, f = fun k => ([0, d1, d2, d3, d4, d5, d6, d7, d8, d9, d10, d11, d12, d13, d14, d15, d16, d17, d18, d19, d20, d21, d22, d23, d24, d25, d26, d27, d28, d29, d30, d31, d32] : List ClassId).getD k 0 := ⟨_, rfl⟩
      have hm : (fun j => (([48, 49, 50, 51, 52, 53, 54, 55, 56, 57, 58, 59, 60] : List Nat)[j]?).map (fun k => ([a0, q1, q5, q7, q11, q16, q21, q29, q36, q37, q42, q46, q35, q2, q3, q4, q6, q8, q9, q10, q12, q13, q14, q15, q17, q18, q19, q20, q22, q23, q24, q25, q26, q27, q28, q30, q31, q32, q33, q34, q38, q39, q40, q41, q43, q44, q45, q47, (r45 0), (r45 1), (r45 2), (r45 3), (r45 4), (r45 5), (r45 6), (r45 7), (r45 8), (r45 9), (r45 10), (r45 11), (r45 12)] : List Nat).getD k 0)) = fun i => if i < 13 then some (r45 i) else none := by
        funext i
        by_cases hi : i < 13
        · rw [if_pos hi]
          match i, hi with
          | 0, _ => rfl | 1, _ => rfl | 2, _ => rfl | 3, _ => rfl | 4, _ => rfl | 5, _ => rfl | 6, _ => rfl | 7, _ => rfl | 8, _ => rfl | 9, _ => rfl | 10, _ => rfl | 11, _ => rfl | 12, _ => rfl
        · rw [if_neg hi, List.getElem?_eq_none (by show 13 ≤ i; omega)]; rfl
      obtain ⟨tC1, adK1, adV1, hE1⟩ := ex_start (s := s') (A := fun q : Nat => s'.heap.size ≤ q) hts hgv (fun a h1 => Nat.not_le.mpr h1)
      obtain ⟨G1, hG1⟩ : ∃ G : GV, G = (D, adC, cAC, tC1, adK1, adV1) := ⟨_, rfl⟩
      obtain ⟨G2, hG2⟩ : ∃ G : GV, G = (D, adM, cAM, tC1, adK1, adV1) := ⟨_, rfl⟩
      have l1 : Lays shC G1 McI [(a0, .inr (11, [.ref q1, .ref q5, .ref q7, .ref q11, .ref q16, .ref q21, .ref q36, .ref q37, .ref q42, .ref q46, .ref q35, .int 0, .int 0])), (q1, .inr (9, [.ref q2, .ref q3, .ref q4])), (q2, .inl (c2, 8, .inl (fun _ => 0))), (q3, .inl (c3, 8, .inl (fun j => if j < 8 then -1 else 0))), (q4, .inl (c4, 480, .inl (fun _ => 0))), (q5, .inr (10, [.ref q6, .int 0, .int 0, .int 0, .int 0])), (q6, .inl (c6, 600, .inl (fun _ => 0))), (q7, .inr (1, [.ref q8, .ref q9, .ref q10, .int 0, .int 0])), (q8, .inl (c8, 10, .inl (fun _ => 0))), (q9, .inl (c9, 10, .inl (fun _ => 0))), (q10, .inl (c10, 10, .inl (fun _ => 0))), (q11, .inr (6, [.ref q12, .ref q13, .ref q14, .ref q15, .int 0, .int 0])), (q12, .inl (c12, 20, .inl (fun _ => 0))), (q13, .inl (c13, 20, .inl (fun _ => 0))), (q14, .inl (c14, 20, .inl (fun _ => 0))), (q15, .inl (c15, 20, .inl (fun _ => 0))), (q16, .inr (2, [.ref q17, .ref q18, .ref q19, .ref q20, .int 0, .int 0])), (q17, .inl (c17, 20, .inl (fun _ => 0))), (q18, .inl (c18, 20, .inl (fun _ => 0))), (q19, .inl (c19, 20, .inl (fun _ => 0))), (q20, .inl (c20, 20, .inl (fun _ => 0))), (q21, .inr (3, [.ref q22, .ref q23, .ref q24, .ref q25, .ref q26, .ref q27, .ref q28, .ref q29, .int 0, .int 0])), (q22, .inl (c22, 12, .inl (fun _ => 0))), (q23, .inl (c23, 12, .inl (fun _ => 0))), (q24, .inl (c24, 12, .inl (fun _ => 0))), (q25, .inl (c25, 12, .inl (fun _ => 0))), (q26, .inl (c26, 12, .inl (fun _ => 0))), (q27, .inl (c27, 12, .inl (fun _ => 0))), (q28, .inl (c28, 12, .inl (fun _ => 0))), (q29, .inr (5, [.ref q30, .ref q31, .ref q32, .ref q33, .ref q34])), (q30, .inl (c30, 96, .inl (fun _ => 0))), (q31, .inl (c31, 9, .inl (fun _ => 0))), (q32, .inl (c32, 12, .inl (fun _ => 0))), (q33, .inl (c33, 12, .inl (fun _ => 0))), (q34, .inl (c34, 12, .inl (fun _ => 0))), (q35, .inl (c35, 20, .inl (fun _ => 0))), (q36, .inr (8, [.ref q5, .ref q7, .ref q21, .ref q11, .ref q16, .int 0, .int 0, .int 0])), (q37, .inr (7, [.ref q21, .ref q38, .ref q39, .ref q40, .ref q41, .int 1])), (q38, .inl (c38, 12, .inl (fun _ => 0))), (q39, .inl (c39, 12, .inl (fun _ => 0))), (q40, .inl (c40, 4096, .inl (fun _ => 0))), (q41, .inl (c41, 4096, .inl (fun _ => 0))), (q42, .inr (4, [.ref q21, .ref q43, .ref q44, .ref q45, .int 0, .int 0, .int 0, .int 0])), (q43, .inl (c43, 12, .inl (fun _ => 0))), (q44, .inl (c44, 12, .inl (fun _ => 0))), (q45, .inl (c45, 13, .inr (.inr (.inr (.inr (fun i => if i < 13 then some (r45 i) else none)))))), ((r45 0), .inl (c43, 13, .inl (fun _ => 0))), ((r45 1), .inl (c43, 13, .inl (fun _ => 0))), ((r45 2), .inl (c43, 13, .inl (fun _ => 0))), ((r45 3), .inl (c43, 13, .inl (fun _ => 0))), ((r45 4), .inl (c43, 13, .inl (fun _ => 0))), ((r45 5), .inl (c43, 13, .inl (fun _ => 0))), ((r45 6), .inl (c43, 13, .inl (fun _ => 0))), ((r45 7), .inl (c43, 13, .inl (fun _ => 0))), ((r45 8), .inl (c43, 13, .inl (fun _ => 0))), ((r45 9), .inl (c43, 13, .inl (fun _ => 0))), ((r45 10), .inl (c43, 13, .inl (fun _ => 0))), ((r45 11), .inl (c43, 13, .inl (fun _ => 0))), ((r45 12), .inl (c43, 13, .inl (fun _ => 0))), (q46, .inr (0, [.ref q21, .ref q47, .int 0])), (q47, .inl (c47, 16, .inl (fun _ => 0))), (b0, .inr (12, [.int 0, .int 0, .ref u1, .ref u2, .ref u3, .int 0, .ref u4, .ref u5, .ref u6, .ref u7, .int 0, .ref u8, .ref u9, .ref u10, .ref u11, .ref u12, .ref u13, .ref u14, .int 0, .ref u15, .ref u16, .ref u17, .ref u18, .int 0, .ref u19, .ref u20, .ref u21, .ref u22, .ref u23, .int 0, .int 0, .int 0, .int 0, .int 0, .int 0, .int 0, .int 0, .int 0, .int 0, .int 0, .int 0, .int 0, .ref u24, .ref u25, .ref u26, .ref u27, .ref u28, .int 0, .int 0, .ref u29, .ref u30, .ref u31, .ref u32, .int 0])), (u1, .inl (d1, 8, .inl (upd (upd (upd (upd (upd (upd (upd (upd (fun _ => 0) (Int32.toNatClampNeg 0) (-1)) (Int32.toNatClampNeg 1) (-1)) (Int32.toNatClampNeg 2) (-1)) (Int32.toNatClampNeg 3) (-1)) (Int32.toNatClampNeg 4) (-1)) (Int32.toNatClampNeg 5) (-1)) (Int32.toNatClampNeg 6) (-1)) (Int32.toNatClampNeg 7) (-1)))), (u2, .inl (d2, 8, .inl (fun _ => 0))), (u3, .inl (d3, 480, .inl (fun _ => 0))), (u4, .inl (d4, 10, .inl (fun _ => 0))), (u5, .inl (d5, 10, .inl (fun _ => 0))), (u6, .inl (d6, 10, .inl (fun _ => 0))), (u7, .inl (d7, 10, .inl (fun _ => 0))), (u8, .inl (d8, 12, .inl (fun _ => 0))), (u9, .inl (d9, 12, .inl (fun _ => 0))), (u10, .inl (d10, 12, .inl (fun _ => 0))), (u11, .inl (d11, 12, .inl (fun _ => 0))), (u12, .inl (d12, 12, .inl (fun _ => 0))), (u13, .inl (d13, 12, .inl (fun _ => 0))), (u14, .inl (d14, 96, .inl (fun _ => 0))), (u15, .inl (d15, 20, .inl (fun _ => 0))), (u16, .inl (d16, 20, .inl (fun _ => 0))), (u17, .inl (d17, 20, .inl (fun _ => 0))), (u18, .inl (d18, 20, .inl (fun _ => 0))), (u19, .inl (d19, 20, .inl (fun _ => 0))), (u20, .inl (d20, 20, .inl (fun _ => 0))), (u21, .inl (d21, 20, .inl (fun _ => 0))), (u22, .inl (d22, 20, .inl (fun _ => 0))), (u23, .inl (d23, 600, .inl (fun _ => 0))), (u24, .inl (d24, 81, .inl (fun _ => 0))), (u25, .inl (d25, 12, .inl (fun _ => 0))), (u26, .inl (d26, 4096, .inl (fun _ => 0))), (u27, .inl (d27, 4096, .inl (fun _ => 0))), (u28, .inl (d28, 4096, .inr (.inl (fun _ => 0)))), (u29, .inl (d29, 12, .inl (fun _ => 0))), (u30, .inl (d30, 12, .inl (fun _ => 0))), (u31, .inl (d31, 169, .inl (fun _ => 0))), (u32, .inl (d32, 16, .inl (fun _ => 0)))] (fun k => ([0, 1, 5, 7, 11, 16, 21, 29, 36, 37, 42, 59, 35, 2, 3, 4, 6, 8, 9, 10, 12, 13, 14, 15, 17, 18, 19, 20, 22, 23, 24, 25, 26, 27, 28, 30, 31, 32, 33, 34, 38, 39, 40, 41, 43, 44, 45, 60, 46, 47, 48, 49, 50, 51, 52, 53, 54, 55, 56, 57, 58] : List Nat).getD k 0) := by
        subst hG1 hadC hcAC
        intro k e h
        exact match k, h with
        | 0, h => by cases (sC0.symm.trans h); rw [ce_obj]; rfl
        | 1, h => by cases (sC1.symm.trans h); rw [ce_obj]; rfl
        | 2, h => by cases (sC2.symm.trans h); rw [ce_obj]; rfl
        | 3, h => by cases (sC3.symm.trans h); rw [ce_obj]; rfl
        | 4, h => by cases (sC4.symm.trans h); rw [ce_obj]; rfl
        | 5, h => by cases (sC5.symm.trans h); rw [ce_obj]; rfl
        | 6, h => by cases (sC6.symm.trans h); rw [ce_obj]; rfl
        | 7, h => by cases (sC7.symm.trans h); rw [ce_obj]; rfl
        | 8, h => by cases (sC8.symm.trans h); rw [ce_obj]; rfl
        | 9, h => by cases (sC9.symm.trans h); rw [ce_obj]; rfl
        | 10, h => by cases (sC10.symm.trans h); rw [ce_obj]; rfl
        | 11, h => by cases (sC11.symm.trans h); rw [ce_obj]; rfl
        | 12, h => by cases (sC12.symm.trans h); rfl
        | 13, h => by cases (sC13.symm.trans h); rfl
        | 14, h => by cases (sC14.symm.trans h); rfl
        | 15, h => by cases (sC15.symm.trans h); rfl
        | 16, h => by cases (sC16.symm.trans h); rfl
        | 17, h => by cases (sC17.symm.trans h); rfl
        | 18, h => by cases (sC18.symm.trans h); rfl
        | 19, h => by cases (sC19.symm.trans h); rfl
        | 20, h => by cases (sC20.symm.trans h); rfl
        | 21, h => by cases (sC21.symm.trans h); rfl
        | 22, h => by cases (sC22.symm.trans h); rfl
        | 23, h => by cases (sC23.symm.trans h); rfl
        | 24, h => by cases (sC24.symm.trans h); rfl
        | 25, h => by cases (sC25.symm.trans h); rfl
        | 26, h => by cases (sC26.symm.trans h); rfl
        | 27, h => by cases (sC27.symm.trans h); rfl
        | 28, h => by cases (sC28.symm.trans h); rfl
        | 29, h => by cases (sC29.symm.trans h); rfl
        | 30, h => by cases (sC30.symm.trans h); rfl
        | 31, h => by cases (sC31.symm.trans h); rfl
        | 32, h => by cases (sC32.symm.trans h); rfl
        | 33, h => by cases (sC33.symm.trans h); rfl
        | 34, h => by cases (sC34.symm.trans h); rfl
        | 35, h => by cases (sC35.symm.trans h); rfl
        | 36, h => by cases (sC36.symm.trans h); rfl
        | 37, h => by cases (sC37.symm.trans h); rfl
        | 38, h => by cases (sC38.symm.trans h); rfl
        | 39, h => by cases (sC39.symm.trans h); rfl
        | 40, h => by cases (sC40.symm.trans h); rfl
        | 41, h => by cases (sC41.symm.trans h); rfl
        | 42, h => by cases (sC42.symm.trans h); rfl
        | 43, h => by cases (sC43.symm.trans h); rfl
        | 44, h => by cases (sC44.symm.trans h); rfl
        | 45, h => by cases (sC45.symm.trans h); rfl
        | 46, h => by cases (sC46.symm.trans h); exact congrArg (fun f => some (q45, (.inl (c45, 13, .inr (.inr (.inr (.inr f)))) : va_E))) hm.symm
        | 47, h => by cases (sC47.symm.trans h); rfl
        | 48, h => by cases (sC48.symm.trans h); rfl
        | 49, h => by cases (sC49.symm.trans h); rfl
        | 50, h => by cases (sC50.symm.trans h); rfl
        | 51, h => by cases (sC51.symm.trans h); rfl
        | 52, h => by cases (sC52.symm.trans h); rfl
        | 53, h => by cases (sC53.symm.trans h); rfl
        | 54, h => by cases (sC54.symm.trans h); rfl
        | 55, h => by cases (sC55.symm.trans h); rfl
        | 56, h => by cases (sC56.symm.trans h); rfl
        | 57, h => by cases (sC57.symm.trans h); rfl
        | 58, h => by cases (sC58.symm.trans h); rfl
        | 59, h => by cases (sC59.symm.trans h); rfl
        | 60, h => by cases (sC60.symm.trans h); rfl
        | k + 61, h => by rw [List.getElem?_eq_none (show shC.length ≤ k + 61 from Nat.le_add_left _ _)] at h; cases h
      have l2 : Lays shM G2 MmI [(a0, .inr (11, [.ref q1, .ref q5, .ref q7, .ref q11, .ref q16, .ref q21, .ref q36, .ref q37, .ref q42, .ref q46, .ref q35, .int 0, .int 0])), (q1, .inr (9, [.ref q2, .ref q3, .ref q4])), (q2, .inl (c2, 8, .inl (fun _ => 0))), (q3, .inl (c3, 8, .inl (fun j => if j < 8 then -1 else 0))), (q4, .inl (c4, 480, .inl (fun _ => 0))), (q5, .inr (10, [.ref q6, .int 0, .int 0, .int 0, .int 0])), (q6, .inl (c6, 600, .inl (fun _ => 0))), (q7, .inr (1, [.ref q8, .ref q9, .ref q10, .int 0, .int 0])), (q8, .inl (c8, 10, .inl (fun _ => 0))), (q9, .inl (c9, 10, .inl (fun _ => 0))), (q10, .inl (c10, 10, .inl (fun _ => 0))), (q11, .inr (6, [.ref q12, .ref q13, .ref q14, .ref q15, .int 0, .int 0])), (q12, .inl (c12, 20, .inl (fun _ => 0))), (q13, .inl (c13, 20, .inl (fun _ => 0))), (q14, .inl (c14, 20, .inl (fun _ => 0))), (q15, .inl (c15, 20, .inl (fun _ => 0))), (q16, .inr (2, [.ref q17, .ref q18, .ref q19, .ref q20, .int 0, .int 0])), (q17, .inl (c17, 20, .inl (fun _ => 0))), (q18, .inl (c18, 20, .inl (fun _ => 0))), (q19, .inl (c19, 20, .inl (fun _ => 0))), (q20, .inl (c20, 20, .inl (fun _ => 0))), (q21, .inr (3, [.ref q22, .ref q23, .ref q24, .ref q25, .ref q26, .ref q27, .ref q28, .ref q29, .int 0, .int 0])), (q22, .inl (c22, 12, .inl (fun _ => 0))), (q23, .inl (c23, 12, .inl (fun _ => 0))), (q24, .inl (c24, 12, .inl (fun _ => 0))), (q25, .inl (c25, 12, .inl (fun _ => 0))), (q26, .inl (c26, 12, .inl (fun _ => 0))), (q27, .inl (c27, 12, .inl (fun _ => 0))), (q28, .inl (c28, 12, .inl (fun _ => 0))), (q29, .inr (5, [.ref q30, .ref q31, .ref q32, .ref q33, .ref q34])), (q30, .inl (c30, 96, .inl (fun _ => 0))), (q31, .inl (c31, 9, .inl (fun _ => 0))), (q32, .inl (c32, 12, .inl (fun _ => 0))), (q33, .inl (c33, 12, .inl (fun _ => 0))), (q34, .inl (c34, 12, .inl (fun _ => 0))), (q35, .inl (c35, 20, .inl (fun _ => 0))), (q36, .inr (8, [.ref q5, .ref q7, .ref q21, .ref q11, .ref q16, .int 0, .int 0, .int 0])), (q37, .inr (7, [.ref q21, .ref q38, .ref q39, .ref q40, .ref q41, .int 1])), (q38, .inl (c38, 12, .inl (fun _ => 0))), (q39, .inl (c39, 12, .inl (fun _ => 0))), (q40, .inl (c40, 4096, .inl (fun _ => 0))), (q41, .inl (c41, 4096, .inl (fun _ => 0))), (q42, .inr (4, [.ref q21, .ref q43, .ref q44, .ref q45, .int 0, .int 0, .int 0, .int 0])), (q43, .inl (c43, 12, .inl (fun _ => 0))), (q44, .inl (c44, 12, .inl (fun _ => 0))), (q45, .inl (c45, 13, .inr (.inr (.inr (.inr (fun i => if i < 13 then some (r45 i) else none)))))), ((r45 0), .inl (c43, 13, .inl (fun _ => 0))), ((r45 1), .inl (c43, 13, .inl (fun _ => 0))), ((r45 2), .inl (c43, 13, .inl (fun _ => 0))), ((r45 3), .inl (c43, 13, .inl (fun _ => 0))), ((r45 4), .inl (c43, 13, .inl (fun _ => 0))), ((r45 5), .inl (c43, 13, .inl (fun _ => 0))), ((r45 6), .inl (c43, 13, .inl (fun _ => 0))), ((r45 7), .inl (c43, 13, .inl (fun _ => 0))), ((r45 8), .inl (c43, 13, .inl (fun _ => 0))), ((r45 9), .inl (c43, 13, .inl (fun _ => 0))), ((r45 10), .inl (c43, 13, .inl (fun _ => 0))), ((r45 11), .inl (c43, 13, .inl (fun _ => 0))), ((r45 12), .inl (c43, 13, .inl (fun _ => 0))), (q46, .inr (0, [.ref q21, .ref q47, .int 0])), (q47, .inl (c47, 16, .inl (fun _ => 0))), (b0, .inr (12, [.int 0, .int 0, .ref u1, .ref u2, .ref u3, .int 0, .ref u4, .ref u5, .ref u6, .ref u7, .int 0, .ref u8, .ref u9, .ref u10, .ref u11, .ref u12, .ref u13, .ref u14, .int 0, .ref u15, .ref u16, .ref u17, .ref u18, .int 0, .ref u19, .ref u20, .ref u21, .ref u22, .ref u23, .int 0, .int 0, .int 0, .int 0, .int 0, .int 0, .int 0, .int 0, .int 0, .int 0, .int 0, .int 0, .int 0, .ref u24, .ref u25, .ref u26, .ref u27, .ref u28, .int 0, .int 0, .ref u29, .ref u30, .ref u31, .ref u32, .int 0])), (u1, .inl (d1, 8, .inl (upd (upd (upd (upd (upd (upd (upd (upd (fun _ => 0) (Int32.toNatClampNeg 0) (-1)) (Int32.toNatClampNeg 1) (-1)) (Int32.toNatClampNeg 2) (-1)) (Int32.toNatClampNeg 3) (-1)) (Int32.toNatClampNeg 4) (-1)) (Int32.toNatClampNeg 5) (-1)) (Int32.toNatClampNeg 6) (-1)) (Int32.toNatClampNeg 7) (-1)))), (u2, .inl (d2, 8, .inl (fun _ => 0))), (u3, .inl (d3, 480, .inl (fun _ => 0))), (u4, .inl (d4, 10, .inl (fun _ => 0))), (u5, .inl (d5, 10, .inl (fun _ => 0))), (u6, .inl (d6, 10, .inl (fun _ => 0))), (u7, .inl (d7, 10, .inl (fun _ => 0))), (u8, .inl (d8, 12, .inl (fun _ => 0))), (u9, .inl (d9, 12, .inl (fun _ => 0))), (u10, .inl (d10, 12, .inl (fun _ => 0))), (u11, .inl (d11, 12, .inl (fun _ => 0))), (u12, .inl (d12, 12, .inl (fun _ => 0))), (u13, .inl (d13, 12, .inl (fun _ => 0))), (u14, .inl (d14, 96, .inl (fun _ => 0))), (u15, .inl (d15, 20, .inl (fun _ => 0))), (u16, .inl (d16, 20, .inl (fun _ => 0))), (u17, .inl (d17, 20, .inl (fun _ => 0))), (u18, .inl (d18, 20, .inl (fun _ => 0))), (u19, .inl (d19, 20, .inl (fun _ => 0))), (u20, .inl (d20, 20, .inl (fun _ => 0))), (u21, .inl (d21, 20, .inl (fun _ => 0))), (u22, .inl (d22, 20, .inl (fun _ => 0))), (u23, .inl (d23, 600, .inl (fun _ => 0))), (u24, .inl (d24, 81, .inl (fun _ => 0))), (u25, .inl (d25, 12, .inl (fun _ => 0))), (u26, .inl (d26, 4096, .inl (fun _ => 0))), (u27, .inl (d27, 4096, .inl (fun _ => 0))), (u28, .inl (d28, 4096, .inr (.inl (fun _ => 0)))), (u29, .inl (d29, 12, .inl (fun _ => 0))), (u30, .inl (d30, 12, .inl (fun _ => 0))), (u31, .inl (d31, 169, .inl (fun _ => 0))), (u32, .inl (d32, 16, .inl (fun _ => 0)))] (fun k => ([61, 62, 63, 64, 65, 66, 67, 68, 69, 70, 71, 72, 73, 74, 75, 76, 77, 78, 79, 80, 81, 82, 83, 84, 85, 86, 87, 88, 89, 90, 91, 92, 93] : List Nat).getD k 0) := by
        subst hG2 hadM hcAM
        intro k e h
        exact match k, h with
        | 0, h => by cases (sM0.symm.trans h); rw [ce_obj]; rfl
        | 1, h => by cases (sM1.symm.trans h); rfl
        | 2, h => by cases (sM2.symm.trans h); rfl
        | 3, h => by cases (sM3.symm.trans h); rfl
        | 4, h => by cases (sM4.symm.trans h); rfl
        | 5, h => by cases (sM5.symm.trans h); rfl
        | 6, h => by cases (sM6.symm.trans h); rfl
        | 7, h => by cases (sM7.symm.trans h); rfl
        | 8, h => by cases (sM8.symm.trans h); rfl
        | 9, h => by cases (sM9.symm.trans h); rfl
        | 10, h => by cases (sM10.symm.trans h); rfl
        | 11, h => by cases (sM11.symm.trans h); rfl
        | 12, h => by cases (sM12.symm.trans h); rfl
        | 13, h => by cases (sM13.symm.trans h); rfl
        | 14, h => by cases (sM14.symm.trans h); rfl
        | 15, h => by cases (sM15.symm.trans h); rfl
        | 16, h => by cases (sM16.symm.trans h); rfl
        | 17, h => by cases (sM17.symm.trans h); rfl
        | 18, h => by cases (sM18.symm.trans h); rfl
        | 19, h => by cases (sM19.symm.trans h); rfl
        | 20, h => by cases (sM20.symm.trans h); rfl
        | 21, h => by cases (sM21.symm.trans h); rfl
        | 22, h => by cases (sM22.symm.trans h); rfl
        | 23, h => by cases (sM23.symm.trans h); rfl
        | 24, h => by cases (sM24.symm.trans h); rfl
        | 25, h => by cases (sM25.symm.trans h); rfl
        | 26, h => by cases (sM26.symm.trans h); rfl
        | 27, h => by cases (sM27.symm.trans h); rfl
        | 28, h => by cases (sM28.symm.trans h); rfl
        | 29, h => by cases (sM29.symm.trans h); rfl
        | 30, h => by cases (sM30.symm.trans h); rfl
        | 31, h => by cases (sM31.symm.trans h); rfl
        | 32, h => by cases (sM32.symm.trans h); rfl
        | k + 33, h => by rw [List.getElem?_eq_none (show shM.length ≤ k + 33 from Nat.le_add_left _ _)] at h; cases h
      have hP1 : va_P G1.1 cls (world shC G1 McI) H := l1.P (by subst hG1; exact jP)
      have hP2 : va_P G2.1 cls (world shM G2 MmI) H := l2.P (by subst hG2; exact jP)
      have hD1 : va_D (fun q : Nat => s'.heap.size ≤ q) (world shC G1 McI) := l1.D jD (by decide +kernel)
      have hD2 : va_D (fun q : Nat => s'.heap.size ≤ q) (world shM G2 MmI) := l2.D jD (by decide +kernel)
      have hK1 : KK shC G1 s' := by
        refine KK_of (tys := [(c2, .int), (c3, .int), (c4, .int), (c6, .byte), (c8, .int), (c9, .int), (c10, .boolean), (c12, .int), (c13, .int), (c14, .int), (c15, .int), (c17, .int), (c18, .int), (c19, .int), (c20, .int), (c22, .int), (c23, .int), (c24, .int), (c25, .int), (c26, .int), (c27, .int), (c28, .int), (c30, .int), (c31, .int), (c32, .int), (c33, .int), (c34, .int), (c35, .int), (c38, .int), (c39, .int), (c40, .byte), (c41, .int), (c43, .int), (c44, .int), (c45, .array .int), (c47, .int), (d1, .int), (d2, .int), (d3, .int), (d4, .int), (d5, .int), (d6, .int), (d7, .boolean), (d8, .int), (d9, .int), (d10, .int), (d11, .int), (d12, .int), (d13, .int), (d14, .int), (d15, .int), (d16, .int), (d17, .int), (d18, .int), (d19, .int), (d20, .int), (d21, .int), (d22, .int), (d23, .int), (d24, .int), (d25, .int), (d26, .boolean), (d27, .int), (d28, .long), (d29, .int), (d30, .int), (d31, .int), (d32, .int)]) (by subst hG1; exact jK) hD1 ?_
        intro k kd ty n rs h
        subst hG1 hcAC
        exact match k, h with
        | 0, h => by cases (sC0.symm.trans h)
        | 1, h => by cases (sC1.symm.trans h)
        | 2, h => by cases (sC2.symm.trans h)
        | 3, h => by cases (sC3.symm.trans h)
        | 4, h => by cases (sC4.symm.trans h)
        | 5, h => by cases (sC5.symm.trans h)
        | 6, h => by cases (sC6.symm.trans h)
        | 7, h => by cases (sC7.symm.trans h)
        | 8, h => by cases (sC8.symm.trans h)
        | 9, h => by cases (sC9.symm.trans h)
        | 10, h => by cases (sC10.symm.trans h)
        | 11, h => by cases (sC11.symm.trans h)
        | 12, h => by cases (sC12.symm.trans h); exact ⟨27, rfl⟩
        | 13, h => by cases (sC13.symm.trans h); exact ⟨0, rfl⟩
        | 14, h => by cases (sC14.symm.trans h); exact ⟨1, rfl⟩
        | 15, h => by cases (sC15.symm.trans h); exact ⟨2, rfl⟩
        | 16, h => by cases (sC16.symm.trans h); exact ⟨3, rfl⟩
        | 17, h => by cases (sC17.symm.trans h); exact ⟨4, rfl⟩
        | 18, h => by cases (sC18.symm.trans h); exact ⟨5, rfl⟩
        | 19, h => by cases (sC19.symm.trans h); exact ⟨6, rfl⟩
        | 20, h => by cases (sC20.symm.trans h); exact ⟨7, rfl⟩
        | 21, h => by cases (sC21.symm.trans h); exact ⟨8, rfl⟩
        | 22, h => by cases (sC22.symm.trans h); exact ⟨9, rfl⟩
        | 23, h => by cases (sC23.symm.trans h); exact ⟨10, rfl⟩
        | 24, h => by cases (sC24.symm.trans h); exact ⟨11, rfl⟩
        | 25, h => by cases (sC25.symm.trans h); exact ⟨12, rfl⟩
        | 26, h => by cases (sC26.symm.trans h); exact ⟨13, rfl⟩
        | 27, h => by cases (sC27.symm.trans h); exact ⟨14, rfl⟩
        | 28, h => by cases (sC28.symm.trans h); exact ⟨15, rfl⟩
        | 29, h => by cases (sC29.symm.trans h); exact ⟨16, rfl⟩
        | 30, h => by cases (sC30.symm.trans h); exact ⟨17, rfl⟩
        | 31, h => by cases (sC31.symm.trans h); exact ⟨18, rfl⟩
        | 32, h => by cases (sC32.symm.trans h); exact ⟨19, rfl⟩
        | 33, h => by cases (sC33.symm.trans h); exact ⟨20, rfl⟩
        | 34, h => by cases (sC34.symm.trans h); exact ⟨21, rfl⟩
        | 35, h => by cases (sC35.symm.trans h); exact ⟨22, rfl⟩
        | 36, h => by cases (sC36.symm.trans h); exact ⟨23, rfl⟩
        | 37, h => by cases (sC37.symm.trans h); exact ⟨24, rfl⟩
        | 38, h => by cases (sC38.symm.trans h); exact ⟨25, rfl⟩
        | 39, h => by cases (sC39.symm.trans h); exact ⟨26, rfl⟩
        | 40, h => by cases (sC40.symm.trans h); exact ⟨28, rfl⟩
        | 41, h => by cases (sC41.symm.trans h); exact ⟨29, rfl⟩
        | 42, h => by cases (sC42.symm.trans h); exact ⟨30, rfl⟩
        | 43, h => by cases (sC43.symm.trans h); exact ⟨31, rfl⟩
        | 44, h => by cases (sC44.symm.trans h); exact ⟨32, rfl⟩
        | 45, h => by cases (sC45.symm.trans h); exact ⟨33, rfl⟩
        | 46, h => by cases (sC46.symm.trans h); exact ⟨34, rfl⟩
        | 47, h => by cases (sC47.symm.trans h); exact ⟨35, rfl⟩
        | 48, h => by cases (sC48.symm.trans h); exact ⟨32, rfl⟩
        | 49, h => by cases (sC49.symm.trans h); exact ⟨32, rfl⟩
        | 50, h => by cases (sC50.symm.trans h); exact ⟨32, rfl⟩
        | 51, h => by cases (sC51.symm.trans h); exact ⟨32, rfl⟩
        | 52, h => by cases (sC52.symm.trans h); exact ⟨32, rfl⟩
        | 53, h => by cases (sC53.symm.trans h); exact ⟨32, rfl⟩
        | 54, h => by cases (sC54.symm.trans h); exact ⟨32, rfl⟩
        | 55, h => by cases (sC55.symm.trans h); exact ⟨32, rfl⟩
        | 56, h => by cases (sC56.symm.trans h); exact ⟨32, rfl⟩
        | 57, h => by cases (sC57.symm.trans h); exact ⟨32, rfl⟩
        | 58, h => by cases (sC58.symm.trans h); exact ⟨32, rfl⟩
        | 59, h => by cases (sC59.symm.trans h); exact ⟨32, rfl⟩
        | 60, h => by cases (sC60.symm.trans h); exact ⟨32, rfl⟩
        | k + 61, h => by rw [List.getElem?_eq_none (show shC.length ≤ k + 61 from Nat.le_add_left _ _)] at h; cases h
      have hK2 : KK shM G2 s' := by
        refine KK_of (tys := [(c2, .int), (c3, .int), (c4, .int), (c6, .byte), (c8, .int), (c9, .int), (c10, .boolean), (c12, .int), (c13, .int), (c14, .int), (c15, .int), (c17, .int), (c18, .int), (c19, .int), (c20, .int), (c22, .int), (c23, .int), (c24, .int), (c25, .int), (c26, .int), (c27, .int), (c28, .int), (c30, .int), (c31, .int), (c32, .int), (c33, .int), (c34, .int), (c35, .int), (c38, .int), (c39, .int), (c40, .byte), (c41, .int), (c43, .int), (c44, .int), (c45, .array .int), (c47, .int), (d1, .int), (d2, .int), (d3, .int), (d4, .int), (d5, .int), (d6, .int), (d7, .boolean), (d8, .int), (d9, .int), (d10, .int), (d11, .int), (d12, .int), (d13, .int), (d14, .int), (d15, .int), (d16, .int), (d17, .int), (d18, .int), (d19, .int), (d20, .int), (d21, .int), (d22, .int), (d23, .int), (d24, .int), (d25, .int), (d26, .boolean), (d27, .int), (d28, .long), (d29, .int), (d30, .int), (d31, .int), (d32, .int)]) (by subst hG2; exact jK) hD2 ?_
        intro k kd ty n rs h
        subst hG2 hcAM
        exact match k, h with
        | 0, h => by cases (sM0.symm.trans h)
        | 1, h => by cases (sM1.symm.trans h); exact ⟨36, rfl⟩
        | 2, h => by cases (sM2.symm.trans h); exact ⟨37, rfl⟩
        | 3, h => by cases (sM3.symm.trans h); exact ⟨38, rfl⟩
        | 4, h => by cases (sM4.symm.trans h); exact ⟨39, rfl⟩
        | 5, h => by cases (sM5.symm.trans h); exact ⟨40, rfl⟩
        | 6, h => by cases (sM6.symm.trans h); exact ⟨41, rfl⟩
        | 7, h => by cases (sM7.symm.trans h); exact ⟨42, rfl⟩
        | 8, h => by cases (sM8.symm.trans h); exact ⟨43, rfl⟩
        | 9, h => by cases (sM9.symm.trans h); exact ⟨44, rfl⟩
        | 10, h => by cases (sM10.symm.trans h); exact ⟨45, rfl⟩
        | 11, h => by cases (sM11.symm.trans h); exact ⟨46, rfl⟩
        | 12, h => by cases (sM12.symm.trans h); exact ⟨47, rfl⟩
        | 13, h => by cases (sM13.symm.trans h); exact ⟨48, rfl⟩
        | 14, h => by cases (sM14.symm.trans h); exact ⟨49, rfl⟩
        | 15, h => by cases (sM15.symm.trans h); exact ⟨50, rfl⟩
        | 16, h => by cases (sM16.symm.trans h); exact ⟨51, rfl⟩
        | 17, h => by cases (sM17.symm.trans h); exact ⟨52, rfl⟩
        | 18, h => by cases (sM18.symm.trans h); exact ⟨53, rfl⟩
        | 19, h => by cases (sM19.symm.trans h); exact ⟨54, rfl⟩
        | 20, h => by cases (sM20.symm.trans h); exact ⟨55, rfl⟩
        | 21, h => by cases (sM21.symm.trans h); exact ⟨56, rfl⟩
        | 22, h => by cases (sM22.symm.trans h); exact ⟨57, rfl⟩
        | 23, h => by cases (sM23.symm.trans h); exact ⟨58, rfl⟩
        | 24, h => by cases (sM24.symm.trans h); exact ⟨59, rfl⟩
        | 25, h => by cases (sM25.symm.trans h); exact ⟨60, rfl⟩
        | 26, h => by cases (sM26.symm.trans h); exact ⟨61, rfl⟩
        | 27, h => by cases (sM27.symm.trans h); exact ⟨62, rfl⟩
        | 28, h => by cases (sM28.symm.trans h); exact ⟨63, rfl⟩
        | 29, h => by cases (sM29.symm.trans h); exact ⟨64, rfl⟩
        | 30, h => by cases (sM30.symm.trans h); exact ⟨65, rfl⟩
        | 31, h => by cases (sM31.symm.trans h); exact ⟨66, rfl⟩
        | 32, h => by cases (sM32.symm.trans h); exact ⟨67, rfl⟩
        | k + 33, h => by rw [List.getElem?_eq_none (show shM.length ≤ k + 33 from Nat.le_add_left _ _)] at h; cases h
      have a1 : G1.2.1 0 = a0 := by subst hG1 hadC; rfl
      have a2 : G2.2.1 0 = b0 := by subst hG2 hadM; rfl
      have hlv : lv_has ls 4 [(0, .ref b), (1, .ref (G1.2.1 0)), (2, .ref (G2.2.1 0)), (3, .int 0)] := by rw [a1, a2]; exact jl
      have hW := hloop G1 G2 p l e s' m below meth' c H locs ls ⟨jC.1, jC.2.1, jC.2.2.1, jC.2.2.2.1, jC.2.2.2.2.1, jC.2.2.2.2.2.1, jC.2.2.2.2.2.2.1, hK1, hK2, by subst hG1; exact (hE1 _ _ _).narrow (fun q hq => SA_in hD1 hq), by subst hG2; exact (hE1 _ _ _).narrow (fun q hq => SA_in hD2 hq), hX, hbl, fun q hq => SA_in hD1 hq, fun q hq => SA_in hD2 hq, fun q hq => l1.apart l2 jD (by decide +kernel) hq⟩ hP1 hP2 jS hlv
      intro T hT X
      obtain ⟨t, g1, g2⟩ := hW T hT X
      exact ⟨t, g1, fun _ => g2⟩
    · intro T hT X
      exact ⟨_, Steps.refl _, fun h => absurd h hPq⟩
  have hW := key p l e s m #[Value.ref b] below meth c s.heap [] _ ⟨hx, hb, hml, hr, hown, hlocks, hg, rfl, fun q hq => hq, hN⟩ hK hP hD va_S.rf (lv_entry [.ref b] (n := 4) (Nat.le_of_ble_eq_true rfl))
  intro T hT X
  obtain ⟨t, g1, g2⟩ := hW T hT X
  exact ⟨t, g1, g2 ⟨rfl, rfl⟩⟩
