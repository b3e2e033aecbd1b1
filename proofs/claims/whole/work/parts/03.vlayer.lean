/-! ===== the judgement V: a machine at a pc with locals and stack, over a memory M laid out by sh ===== -/
def lw_g : List Cond := lw_tbl.filter goodWord
theorem lw_in {w : Cond} (i : Nat) (h : lw_tbl[i]? = some w) (hg : goodWord w = true) : w ∈ lw_g := List.mem_filter.mpr ⟨List.mem_of_getElem? h, hg⟩
theorem lw_gs {args : Array Value} {s : State} (h : ∀ w ∈ lw_tbl, w.before args s = true) : ∀ w ∈ lw_g, w.before args s = true := fun w hw => h w (List.mem_filter.mp hw).1
/-- a cell's shape: an array (0 whole numbers, 1 longs, 2 references; its type; its length; its references' places), or an object (its class; its fields: none a whole number, some the place of a cell) -/
abbrev SE : Type := (Nat × FieldType × Nat × List Nat) ⊕ (Nat × List (Option Nat))
abbrev Mem : Type := (Nat → Nat → Int32) × (Nat → Nat → Int64)
abbrev GV : Type := va_G × (Nat → Nat) × (Nat → ClassId) × Nat × (Nat → Nat) × (Nat → Nat)
abbrev MI : Type := MethodName × ByteArray × Nat × Option FieldType
def mcode (mi : MI) : ByteArray := mi.2.1
def mown (mi : MI) : String := mi.1.cls
def fv (G : GV) (M : Mem) (k j : Nat) (f : Option Nat) : Value := match f with
  | none => .int (M.1 k j)
  | some r => .ref (G.2.1 r)
def ce (G : GV) (M : Mem) (k : Nat) (e : SE) : va_E := match e with
  | .inl (0, _, n, _) => .inl (G.2.2.1 k, n, .inl (M.1 k))
  | .inl (1, _, n, _) => .inl (G.2.2.1 k, n, .inr (.inl (M.2 k)))
  | .inl (_, _, n, rs) => .inl (G.2.2.1 k, n, .inr (.inr (.inr (.inr (fun j => (rs[j]?).map G.2.1)))))
  | .inr (ci, fs) => .inr (ci, fs.mapIdx (fun j f => fv G M k j f))
def world (sh : List SE) (G : GV) (M : Mem) : va_W := sh.mapIdx (fun k e => (G.2.1 k, ce G M k e))
theorem world_get {sh : List SE} {G : GV} {M : Mem} {k : Nat} {e : SE} (h : sh[k]? = some e) : (world sh G M)[k]? = some (G.2.1 k, ce G M k e) := by simp [world, h]
theorem world_inv {sh : List SE} {G : GV} {M : Mem} {k : Nat} {q : Nat × va_E} (h : (world sh G M)[k]? = some q) : ∃ e, sh[k]? = some e ∧ q = (G.2.1 k, ce G M k e) := by
  simp only [world, List.getElem?_mapIdx, Option.map_eq_some_iff] at h
  obtain ⟨e, h1, h2⟩ := h
  exact ⟨e, h1, h2.symm⟩
/-- the cells of the layout -/
def SA (sh : List SE) (G : GV) : Nat → Prop := fun q => ∃ k, k < sh.length ∧ q = G.2.1 k
def mset (M : Mem) (o j : Nat) (v : Int32) : Mem := (fun k => if k = o then upd (M.1 k) j v else M.1 k, M.2)
def lset (M : Mem) (o j : Nat) (v : Int64) : Mem := (M.1, fun k => if k = o then vp_updL (M.2 k) j v else M.2 k)
def aset (M : Mem) (o : Nat) (f : Nat → Int32) : Mem := (fun k => if k = o then f else M.1 k, M.2)
abbrev ix (i : Int32) : Nat := i.toNatClampNeg
theorem mset_ne {M : Mem} {o j k : Nat} {v : Int32} (h : k ≠ o) : (mset M o j v).1 k = M.1 k := by simp [mset, h]
theorem mset_eq {M : Mem} {o j : Nat} {v : Int32} : (mset M o j v).1 o = upd (M.1 o) j v := by simp [mset]
theorem aset_ne {M : Mem} {o k : Nat} {f : Nat → Int32} (h : k ≠ o) : (aset M o f).1 k = M.1 k := by simp [aset, h]
theorem aset_eq {M : Mem} {o : Nat} {f : Nat → Int32} : (aset M o f).1 o = f := by simp [aset]
theorem ce_same {G : GV} {M M' : Mem} {k : Nat} (h1 : M'.1 k = M.1 k) (h2 : M'.2 k = M.2 k) (e : SE) : ce G M' k e = ce G M k e := by
  rcases e with ⟨n, ty, z, rs⟩ | ⟨ci, fs⟩
  · rcases n with _ | _ | n
    · simp only [ce, h1]
    · simp only [ce, h2]
    · simp only [ce]
  · simp only [ce]
    congr 2
    apply List.ext_getElem?
    intro i
    simp only [List.getElem?_mapIdx]
    cases fs[i]? with
    | none => rfl
    | some f => cases f <;> simp [fv, h1]
theorem world_set {sh : List SE} {G : GV} {M M' : Mem} {o : Nat} {e : SE} (h : sh[o]? = some e) (h1 : ∀ k, k ≠ o → M'.1 k = M.1 k) (h2 : ∀ k, k ≠ o → M'.2 k = M.2 k) : (world sh G M).set o (G.2.1 o, ce G M' o e) = world sh G M' := by
  apply List.ext_getElem?
  intro i
  have hl : o < sh.length := (List.getElem?_eq_some_iff.mp h).1
  by_cases hi : i = o
  · subst hi
    rw [world_get h, List.getElem?_set_self (by simpa [world] using hl)]
  · rw [List.getElem?_set_ne (Ne.symm hi)]
    simp only [world, List.getElem?_mapIdx]
    cases hs : sh[i]? with
    | none => rfl
    | some e' => simp only [Option.map_some]; rw [ce_same (h1 i hi) (h2 i hi)]
theorem world_f {sh : List SE} {G : GV} {M : Mem} {o j ci : Nat} {fs : List (Option Nat)} {v : Int32} (h : sh[o]? = some (.inr (ci, fs))) (hj : fs[j]? = some none) : (world sh G M).set o (G.2.1 o, .inr (ci, (fs.mapIdx (fun j f => fv G M o j f)).set j (.int v))) = world sh G (mset M o j v) := by
  rw [← world_set (M := M) (M' := mset M o j v) h (fun k hk => mset_ne hk) (fun _ _ => rfl)]
  congr 2
  simp only [ce]
  congr 2
  apply List.ext_getElem?
  intro i
  have hl : j < fs.length := (List.getElem?_eq_some_iff.mp hj).1
  by_cases hi : i = j
  · subst hi
    rw [List.getElem?_set_self (by simpa using hl)]
    simp [List.getElem?_mapIdx, hj, fv, mset_eq, upd]
  · rw [List.getElem?_set_ne (Ne.symm hi)]
    simp only [List.getElem?_mapIdx]
    cases hf : fs[i]? with
    | none => rfl
    | some f => cases f with
      | none => simp [fv, mset_eq, upd, hi]
      | some r => simp [fv]
theorem world_a {sh : List SE} {G : GV} {M : Mem} {o n : Nat} {ty : FieldType} {rs : List Nat} {f : Nat → Int32} (h : sh[o]? = some (.inl (0, ty, n, rs))) : (world sh G M).set o (G.2.1 o, .inl (G.2.2.1 o, n, .inl f)) = world sh G (aset M o f) := by
  rw [← world_set (M := M) (M' := aset M o f) h (fun k hk => aset_ne hk) (fun _ _ => rfl)]
  simp only [ce, aset_eq]
theorem aset_mset {M : Mem} {o j : Nat} {v : Int32} : aset M o (upd (M.1 o) j v) = mset M o j v := by
  simp only [aset, mset]
  congr 1
  funext k
  by_cases h : k = o
  · subst h; simp
  · simp [h]
theorem world_l {sh : List SE} {G : GV} {M : Mem} {o n j : Nat} {ty : FieldType} {rs : List Nat} {v : Int64} (h : sh[o]? = some (.inl (1, ty, n, rs))) : (world sh G M).set o (G.2.1 o, .inl (G.2.2.1 o, n, .inr (.inl (vp_updL (M.2 o) j v)))) = world sh G (lset M o j v) := by
  rw [← world_set (M := M) (M' := lset M o j v) h (fun _ _ => rfl) (fun k hk => by simp [lset, hk])]
  simp [ce, lset]
abbrev cls : List vw_C := [(RX0, TX0, 3), (RX1, TX1, 5), (RX2, TX2, 6), (RX3, TX3, 10), (RX4, TX4, 8), (RX5, TX5, 5), (RX6, TX6, 6), (RX7, TX7, 6), (RX8, TX8, 8), (RX9, TX9, 3), (RX10, TX10, 5), (RX11, TX11, 13), (RX12, TX12, 54)]
def KK (sh : List SE) (G : GV) (U : State) : Prop := (∀ (c : Nat) (q : vw_C), cls[c]? = some q → u_Kn U q.1 q.2.1 q.2.2 (G.1.1 c) (G.1.2 c)) ∧ (∀ (k kd : Nat) (ty : FieldType) (n : Nat) (rs : List Nat), sh[k]? = some (.inl (kd, ty, n, rs)) → ArrOfT U (G.2.2.1 k) ty ∧ va_RA U (G.2.2.1 k) ty) ∧ ∀ i j : Nat, i < sh.length → j < sh.length → G.2.1 i = G.2.1 j → i = j
theorem KK.moved {sh : List SE} {G : GV} {u U : State} (hvm : u.vm.Alike U.vm) (h : KK sh G u) : KK sh G U := ⟨fun c q hq => u_Kn_moved hvm (h.1 c q hq), fun k kd ty n rs hk => ⟨arrOfT_moved hvm (h.2.1 k kd ty n rs hk).1, (h.2.1 k kd ty n rs hk).2.moved hvm⟩, h.2.2⟩
theorem KK.va {sh : List SE} {G : GV} {U : State} (h : KK sh G U) : va_K G.1 cls [] U := ⟨h.1, fun k q hq => by simp at hq⟩
theorem KK.at {sh : List SE} {G : GV} {U : State} (h : KK sh G U) {k kd : Nat} {ty : FieldType} {n : Nat} {rs : List Nat} (hk : sh[k]? = some (.inl (kd, ty, n, rs))) : va_K G.1 cls [(G.2.2.1 k, ty)] U := ⟨h.1, fun i q hq => by
  cases i with
  | zero => simp at hq; subst hq; exact h.2.1 k kd ty n rs hk
  | succ i => simp at hq⟩
theorem KK.D {sh : List SE} {G : GV} {U : State} (h : KK sh G U) (M : Mem) : va_D (SA sh G) (world sh G M) := by
  refine ⟨fun i j p q hp hq hpq => ?_, fun k q hq => ?_⟩
  · obtain ⟨e1, a1, rfl⟩ := world_inv hp
    obtain ⟨e2, a2, rfl⟩ := world_inv hq
    exact h.2.2 i j (List.getElem?_eq_some_iff.mp a1).1 (List.getElem?_eq_some_iff.mp a2).1 hpq
  · obtain ⟨e1, a1, rfl⟩ := world_inv hq
    exact ⟨k, (List.getElem?_eq_some_iff.mp a1).1, rfl⟩
/-- what lies outside the layout and is never written: the table of codes, the texts -/
def s_len : List Nat := [4, 4, 5, 5, 6, 5, 7, 5, 5, 3]
def s_byt : List (List Int32) := [[98, 111, 111, 107], [108, 105, 110, 101], [111, 114, 100, 101, 114], [104, 111, 117, 115, 101], [108, 105, 115, 116, 101, 100], [114, 97, 116, 101, 100], [99, 111, 117, 110, 116, 101, 100], [116, 114, 97, 100, 101], [115, 116, 97, 108, 101], [97, 103, 101]]
def s_txt : List String := ["book", "line", "order", "house", "listed", "rated", "counted", "trade", "stale", "age"]
def s_idx : List Nat := [64, 77, 82, 87, 150, 152, 154, 156, 158, 173]
def codes26 : List Int32 := [0, 1, 2, 3, 0, 1, 2, 0, 0, 2, 2, 4, 5, 5, 0, 1, 2, 6, 2, 3, 0, 1, 0, 2, 0, 2]
def EX (G : GV) (A : Nat → Prop) (U : State) (H : Heap) : Prop :=
  va_Z RX5 "CODES" "[I" (.ref G.2.2.2.1) A U H ∧ va_T .int G.2.2.2.1 26 (fun j => .int (codes26.getD j 0)) A U H ∧ vk_S 10 s_len s_byt G.2.2.2.2.1 G.2.2.2.2.2 A U H ∧ (∀ i : Nat, i < 10 → vk_R RX8 (s_idx.getD i 0) (s_txt.getD i "") (G.2.2.2.2.1 i) U) ∧ va_Z "java/lang/String" "COMPACT_STRINGS" "Z" (.int 1) A U H ∧ va_Zq "jdk/internal/util/Preconditions" "SIOOBE_FORMATTER" "Ljava/util/function/BiFunction;" A U H
theorem EX.to {G : GV} {A : Nat → Prop} {u U : State} {H H1 : Heap} (h : EX G A u H) (hW : u.WarmedH U.vm) (hq : ∀ a : Nat, a < H.size → ¬ A a → H1[a]? = H[a]?) : EX G A U H1 :=
  ⟨(h.1.kept hq).moved hW.alike, (h.2.1.kept hq).moved hW.alike, (h.2.2.1.kept hq).moved hW.alike, fun i hi => (h.2.2.2.1 i hi).warm hW, (h.2.2.2.2.1.kept hq).moved hW.alike, (h.2.2.2.2.2.kept hq).moved hW.alike⟩
theorem EX.narrow {G : GV} {A B : Nat → Prop} {U : State} {H : Heap} (h : EX G A U H) (hAB : ∀ q, B q → A q) : EX G B U H :=
  ⟨h.1.narrow hAB, h.2.1.narrow hAB, h.2.2.1.narrow hAB, h.2.2.2.1, h.2.2.2.2.1.narrow hAB, h.2.2.2.2.2.narrow hAB⟩
abbrev Rk (k : Nat) : Room := { frames := k, cells := 0, slots := 0, locals := 35 * k }
/-- what a method's own frame stands on -/
def CX (sh : List SE) (G : GV) (mi : MI) (p : Program) (s : State) (m : MethodId) (args : Array Value) (meth : Method) (c : Code) : Prop :=
  p.tables.exec = Jvm.exec ∧ c.code = mcode mi ∧ c.maxLocals = mi.2.2.1 ∧ meth.sig.returnType = mi.2.2.2 ∧ s.vm.findClass (mown mi) = some m.cls ∧ meth.locks = false ∧ (∀ w ∈ lw_g, w.before args s = true) ∧ KK sh G s ∧ EX G (SA sh G) s s.heap
def QQ (sh : List SE) (G : GV) (Q : Option Value → Mem → Prop) : Array Value → State → Outcome → State → Prop := fun _ st oc t => (∃ (v : Option Value) (M' : Mem), oc = .returned v ∧ Q v M' ∧ va_P G.1 cls (world sh G M') t.heap) ∧ va_F (SA sh G) st t
def V (sh : List SE) (G : GV) (mi : MI) (k pc : Nat) (lv : List (Nat × Value)) (st : List Value) (M : Mem) (Q : Option Value → Mem → Prop) : Prop :=
  ∀ (p : Program) (l : Launch) (e : Env) (s : State) (m : MethodId) (args : Array Value) (below : List Frame) (meth : Method) (c : Code) (H : Heap) (locs : List Loc) (ls : Array Slot), CX sh G mi p s m args meth c → va_P G.1 cls (world sh G M) H → va_S (SA sh G) s.heap H locs → lv_has ls mi.2.2.1 lv → W p l e (Rk k) s m args below meth c H locs 0 0 (MQ below (QQ sh G Q) args s 0 0 (SA sh G)) (F0 m pc ls st)
/-- locals, by number, in order -/
def lvget (lv : List (Nat × Value)) (i : Nat) : Option Value := match lv with
  | [] => none
  | q :: t => if q.1 = i then some q.2 else lvget t i
def lvins (i : Nat) (v : Value) (lv : List (Nat × Value)) : List (Nat × Value) := match lv with
  | [] => [(i, v)]
  | q :: t => if i < q.1 then (i, v) :: q :: t else q :: lvins i v t
def lvset (lv : List (Nat × Value)) (i : Nat) (v : Value) : List (Nat × Value) := lvins i v (lv.filter (fun q => !(q.1 == i) && !(q.1 + 1 == i && q.2.category == 2)))
def lvsetL (lv : List (Nat × Value)) (i : Nat) (v : Value) : List (Nat × Value) := lvins i v (lv.filter (fun q => !(q.1 == i) && (!(q.1 == i + 1) && !(q.1 + 1 == i && q.2.category == 2))))
theorem lvget_mem {lv : List (Nat × Value)} {i : Nat} {v : Value} (h : lvget lv i = some v) : (i, v) ∈ lv := by
  induction lv with
  | nil => cases h
  | cons q t ih =>
    unfold lvget at h
    split at h
    · rename_i hq
      obtain ⟨a, b⟩ := q
      cases h; cases hq
      exact List.mem_cons_self
    · exact List.mem_cons_of_mem _ (ih h)
theorem lvins_mem {lv : List (Nat × Value)} {i : Nat} {v : Value} {q : Nat × Value} (h : q ∈ lvins i v lv) : q ∈ (i, v) :: lv := by
  induction lv with
  | nil => exact h
  | cons a t ih =>
    unfold lvins at h
    split at h
    · exact h
    · rcases List.mem_cons.mp h with h | h
      · rw [h]; exact List.mem_cons_of_mem _ List.mem_cons_self
      · rcases List.mem_cons.mp (ih h) with h | h
        · rw [h]; exact List.mem_cons_self
        · exact List.mem_cons_of_mem _ (List.mem_cons_of_mem _ h)
theorem lv_fewer {ls : Array Slot} {nL : Nat} {l l' : List (Nat × Value)} (h : lv_has ls nL l) (hs : ∀ q ∈ l', q ∈ l) : lv_has ls nL l' := ⟨h.1, h.2.1, fun q hq => h.2.2 q (hs q hq)⟩
theorem lv_of_get {ls : Array Slot} {nL : Nat} {l : List (Nat × Value)} (h : lv_has ls nL l) {i : Nat} {v : Value} (hk : lvget l i = some v) : ls[i]? = some (.val v) := h.2.2 (i, v) (lvget_mem hk)
def lvsub (lv : List (Nat × Value)) : List (Nat × Value) → Prop
  | [] => True
  | q :: t => lvget lv q.1 = some q.2 ∧ lvsub lv t
theorem lvsub_mem {lv lv' : List (Nat × Value)} (h : lvsub lv lv') : ∀ q ∈ lv', q ∈ lv := by
  induction lv' with
  | nil => intro q hq; cases hq
  | cons a t ih =>
    intro q hq
    rcases List.mem_cons.mp hq with rfl | hq
    · exact lvget_mem h.1
    · exact ih h.2 q hq
section VR
variable {sh : List SE} {G : GV} {mi : MI} {k pc : Nat} {lv : List (Nat × Value)} {st : List Value} {M : Mem} {Q : Option Value → Mem → Prop}
theorem V_mono {Q' : Option Value → Mem → Prop} (h : V sh G mi k pc lv st M Q') (hq : ∀ v M', Q' v M' → Q v M') : V sh G mi k pc lv st M Q := by
  intro p l e s m args below meth c H locs ls C hP hS hl T hT X
  obtain ⟨t, a, o, h1, h2, h3, h4⟩ := h p l e s m args below meth c H locs ls C hP hS hl T hT X
  refine ⟨t, a, o, h1, h2, ?_, h4⟩
  obtain ⟨⟨v, M', g1, g2, g3⟩, g4⟩ := h3
  exact ⟨⟨v, M', g1, hq v M' g2, g3⟩, g4⟩
theorem V_sub {lv' : List (Nat × Value)} (h : V sh G mi k pc lv' st M Q) (hs : lvsub lv lv') : V sh G mi k pc lv st M Q := fun p l e s m args below meth c H locs ls C hP hS hl => h p l e s m args below meth c H locs ls C hP hS (lv_fewer hl (lvsub_mem hs))

theorem V_iadd {x y : Int32} (hd : decode (mcode mi) pc = .ok (.iadd, 1))  (h : V sh G mi k (pc + 1) lv (.int (x + y) :: st) M Q) : V sh G mi k pc lv (.int y :: .int x :: st) M Q := fun p l e s m args below meth c H locs ls C hP hS hl => lv_iadd C.1 C.2.1 hd (h p l e s m args below meth c H locs ls C hP hS hl)
theorem V_isub {x y : Int32} (hd : decode (mcode mi) pc = .ok (.isub, 1))  (h : V sh G mi k (pc + 1) lv (.int (x - y) :: st) M Q) : V sh G mi k pc lv (.int y :: .int x :: st) M Q := fun p l e s m args below meth c H locs ls C hP hS hl => lv_isub C.1 C.2.1 hd (h p l e s m args below meth c H locs ls C hP hS hl)
theorem V_imul {x y : Int32} (hd : decode (mcode mi) pc = .ok (.imul, 1))  (h : V sh G mi k (pc + 1) lv (.int (x * y) :: st) M Q) : V sh G mi k pc lv (.int y :: .int x :: st) M Q := fun p l e s m args below meth c H locs ls C hP hS hl => lv_imul C.1 C.2.1 hd (h p l e s m args below meth c H locs ls C hP hS hl)
theorem V_iand {x y : Int32} (hd : decode (mcode mi) pc = .ok (.iand, 1))  (h : V sh G mi k (pc + 1) lv (.int (x &&& y) :: st) M Q) : V sh G mi k pc lv (.int y :: .int x :: st) M Q := fun p l e s m args below meth c H locs ls C hP hS hl => lv_iand C.1 C.2.1 hd (h p l e s m args below meth c H locs ls C hP hS hl)
theorem V_ior {x y : Int32} (hd : decode (mcode mi) pc = .ok (.ior, 1))  (h : V sh G mi k (pc + 1) lv (.int (x ||| y) :: st) M Q) : V sh G mi k pc lv (.int y :: .int x :: st) M Q := fun p l e s m args below meth c H locs ls C hP hS hl => lv_ior C.1 C.2.1 hd (h p l e s m args below meth c H locs ls C hP hS hl)
theorem V_ixor {x y : Int32} (hd : decode (mcode mi) pc = .ok (.ixor, 1))  (h : V sh G mi k (pc + 1) lv (.int (x ^^^ y) :: st) M Q) : V sh G mi k pc lv (.int y :: .int x :: st) M Q := fun p l e s m args below meth c H locs ls C hP hS hl => lv_ixor C.1 C.2.1 hd (h p l e s m args below meth c H locs ls C hP hS hl)
theorem V_ishl {x y : Int32} (hd : decode (mcode mi) pc = .ok (.ishl, 1))  (h : V sh G mi k (pc + 1) lv (.int (x <<< (y &&& 31)) :: st) M Q) : V sh G mi k pc lv (.int y :: .int x :: st) M Q := fun p l e s m args below meth c H locs ls C hP hS hl => lv_ishl C.1 C.2.1 hd (h p l e s m args below meth c H locs ls C hP hS hl)
theorem V_ishr {x y : Int32} (hd : decode (mcode mi) pc = .ok (.ishr, 1))  (h : V sh G mi k (pc + 1) lv (.int (x >>> (y &&& 31)) :: st) M Q) : V sh G mi k pc lv (.int y :: .int x :: st) M Q := fun p l e s m args below meth c H locs ls C hP hS hl => lv_ishr C.1 C.2.1 hd (h p l e s m args below meth c H locs ls C hP hS hl)
theorem V_iushr {x y : Int32} (hd : decode (mcode mi) pc = .ok (.iushr, 1))  (h : V sh G mi k (pc + 1) lv (.int ((x.toUInt32 >>> (y.toUInt32 &&& Int32.toUInt32 31)).toInt32) :: st) M Q) : V sh G mi k pc lv (.int y :: .int x :: st) M Q := fun p l e s m args below meth c H locs ls C hP hS hl => lv_iushr C.1 C.2.1 hd rfl (h p l e s m args below meth c H locs ls C hP hS hl)
theorem V_idiv {x y : Int32} (hd : decode (mcode mi) pc = .ok (.idiv, 1)) (h0 : ¬ y = 0) (h : V sh G mi k (pc + 1) lv (.int (x / y) :: st) M Q) : V sh G mi k pc lv (.int y :: .int x :: st) M Q := fun p l e s m args below meth c H locs ls C hP hS hl => lv_idiv C.1 C.2.1 hd h0 (h p l e s m args below meth c H locs ls C hP hS hl)
theorem V_ineg {x : Int32} (hd : decode (mcode mi) pc = .ok (.ineg, 1))  (h : V sh G mi k (pc + 1) lv (.int (-x) :: st) M Q) : V sh G mi k pc lv (.int x :: st) M Q := fun p l e s m args below meth c H locs ls C hP hS hl => lv_ineg C.1 C.2.1 hd (h p l e s m args below meth c H locs ls C hP hS hl)
theorem V_ladd {x y : Int64} (hd : decode (mcode mi) pc = .ok (.ladd, 1))  (h : V sh G mi k (pc + 1) lv (.long (x + y) :: st) M Q) : V sh G mi k pc lv (.long y :: .long x :: st) M Q := fun p l e s m args below meth c H locs ls C hP hS hl => lv_ladd C.1 C.2.1 hd (h p l e s m args below meth c H locs ls C hP hS hl)
theorem V_land {x y : Int64} (hd : decode (mcode mi) pc = .ok (.land, 1))  (h : V sh G mi k (pc + 1) lv (.long (x &&& y) :: st) M Q) : V sh G mi k pc lv (.long y :: .long x :: st) M Q := fun p l e s m args below meth c H locs ls C hP hS hl => lv_land C.1 C.2.1 hd (h p l e s m args below meth c H locs ls C hP hS hl)
theorem V_lor {x y : Int64} (hd : decode (mcode mi) pc = .ok (.lor, 1))  (h : V sh G mi k (pc + 1) lv (.long (x ||| y) :: st) M Q) : V sh G mi k pc lv (.long y :: .long x :: st) M Q := fun p l e s m args below meth c H locs ls C hP hS hl => lv_lor C.1 C.2.1 hd (h p l e s m args below meth c H locs ls C hP hS hl)
theorem V_lshl {x : Int64} {y : Int32} (hd : decode (mcode mi) pc = .ok (.lshl, 1))  (h : V sh G mi k (pc + 1) lv (.long (x <<< (y.toInt64 &&& 63)) :: st) M Q) : V sh G mi k pc lv (.int y :: .long x :: st) M Q := fun p l e s m args below meth c H locs ls C hP hS hl => lv_lshl C.1 C.2.1 hd rfl (h p l e s m args below meth c H locs ls C hP hS hl)
theorem V_lshr {x : Int64} {y : Int32} (hd : decode (mcode mi) pc = .ok (.lshr, 1))  (h : V sh G mi k (pc + 1) lv (.long (x >>> (y.toInt64 &&& 63)) :: st) M Q) : V sh G mi k pc lv (.int y :: .long x :: st) M Q := fun p l e s m args below meth c H locs ls C hP hS hl => lv_lshr C.1 C.2.1 hd rfl (h p l e s m args below meth c H locs ls C hP hS hl)
theorem V_lushr {x : Int64} {y : Int32} (hd : decode (mcode mi) pc = .ok (.lushr, 1))  (h : V sh G mi k (pc + 1) lv (.long ((x.toUInt64 >>> (y.toInt64.toUInt64 &&& Int64.toUInt64 63)).toInt64) :: st) M Q) : V sh G mi k pc lv (.int y :: .long x :: st) M Q := fun p l e s m args below meth c H locs ls C hP hS hl => lv_lushr C.1 C.2.1 hd rfl (h p l e s m args below meth c H locs ls C hP hS hl)
theorem V_lcmp {x y : Int64} (hd : decode (mcode mi) pc = .ok (.lcmp, 1))  (h : V sh G mi k (pc + 1) lv (.int (lg_cmp x y) :: st) M Q) : V sh G mi k pc lv (.long y :: .long x :: st) M Q := fun p l e s m args below meth c H locs ls C hP hS hl => W.lcmp C.1 C.2.1 hd (h p l e s m args below meth c H locs ls C hP hS hl)
theorem V_i2l {x : Int32} (hd : decode (mcode mi) pc = .ok (.i2l, 1))  (h : V sh G mi k (pc + 1) lv (.long x.toInt64 :: st) M Q) : V sh G mi k pc lv (.int x :: st) M Q := fun p l e s m args below meth c H locs ls C hP hS hl => lv_i2l C.1 C.2.1 hd rfl (h p l e s m args below meth c H locs ls C hP hS hl)
theorem V_l2i {x : Int64} (hd : decode (mcode mi) pc = .ok (.l2i, 1))  (h : V sh G mi k (pc + 1) lv (.int x.toInt32 :: st) M Q) : V sh G mi k pc lv (.long x :: st) M Q := fun p l e s m args below meth c H locs ls C hP hS hl => lv_l2i C.1 C.2.1 hd rfl (h p l e s m args below meth c H locs ls C hP hS hl)
theorem V_i2b {x : Int32} (hd : decode (mcode mi) pc = .ok (.i2b, 1))  (h : V sh G mi k (pc + 1) lv (.int x.toInt8.toInt32 :: st) M Q) : V sh G mi k pc lv (.int x :: st) M Q := fun p l e s m args below meth c H locs ls C hP hS hl => lv_i2b C.1 C.2.1 hd rfl (h p l e s m args below meth c H locs ls C hP hS hl)
theorem V_i2s {x : Int32} (hd : decode (mcode mi) pc = .ok (.i2s, 1))  (h : V sh G mi k (pc + 1) lv (.int x.toInt16.toInt32 :: st) M Q) : V sh G mi k pc lv (.int x :: st) M Q := fun p l e s m args below meth c H locs ls C hP hS hl => lv_i2s C.1 C.2.1 hd rfl (h p l e s m args below meth c H locs ls C hP hS hl)
theorem V_iconst {n : Int} {v : Int32} (hd : decode (mcode mi) pc = .ok (.iconst n, 1)) (hv : Int32.ofInt n = v) (h : V sh G mi k (pc + 1) lv (.int v :: st) M Q) : V sh G mi k pc lv (st) M Q := fun p l e s m args below meth c H locs ls C hP hS hl => lv_iconst C.1 C.2.1 hd hv (h p l e s m args below meth c H locs ls C hP hS hl)
theorem V_bipush {n : Int} {v : Int32} (hd : decode (mcode mi) pc = .ok (.bipush n, 2)) (hv : (Int8.ofInt n).toInt32 = v) (h : V sh G mi k (pc + 2) lv (.int v :: st) M Q) : V sh G mi k pc lv (st) M Q := fun p l e s m args below meth c H locs ls C hP hS hl => lv_bipush C.1 C.2.1 hd hv (h p l e s m args below meth c H locs ls C hP hS hl)
theorem V_sipush {n : Int} {v : Int32} (hd : decode (mcode mi) pc = .ok (.sipush n, 3)) (hv : (Int16.ofInt n).toInt32 = v) (h : V sh G mi k (pc + 3) lv (.int v :: st) M Q) : V sh G mi k pc lv (st) M Q := fun p l e s m args below meth c H locs ls C hP hS hl => lv_sipush C.1 C.2.1 hd hv (h p l e s m args below meth c H locs ls C hP hS hl)
theorem V_lconst {n : Fin 2} {v : Int64} (hd : decode (mcode mi) pc = .ok (.lconst n, 1)) (hv : Int64.ofNat (n : Nat) = v) (h : V sh G mi k (pc + 1) lv (.long v :: st) M Q) : V sh G mi k pc lv (st) M Q := fun p l e s m args below meth c H locs ls C hP hS hl => lv_lconst C.1 C.2.1 hd hv (h p l e s m args below meth c H locs ls C hP hS hl)
theorem V_ldc {i : Nat} {v : Int32} (hd : decode (mcode mi) pc = .ok (.ldc i, 2)) (hw : Cond.constant (mown mi) i v ∈ lw_g) (h : V sh G mi k (pc + 2) lv (.int v :: st) M Q) : V sh G mi k pc lv (st) M Q := fun p l e s m args below meth c H locs ls C hP hS hl => lv_ldc C.1 C.2.1 C.2.2.2.2.1 (C.2.2.2.2.2.2.1 _ hw) hd (h p l e s m args below meth c H locs ls C hP hS hl)
theorem V_ldcw {i : Nat} {v : Int32} (hd : decode (mcode mi) pc = .ok (.ldc_w i, 3)) (hw : Cond.constant (mown mi) i v ∈ lw_g) (h : V sh G mi k (pc + 3) lv (.int v :: st) M Q) : V sh G mi k pc lv (st) M Q := fun p l e s m args below meth c H locs ls C hP hS hl => lv_ldcw C.1 C.2.1 C.2.2.2.2.1 (C.2.2.2.2.2.2.1 _ hw) hd (h p l e s m args below meth c H locs ls C hP hS hl)
theorem V_ldc2 {i : Nat} {v : Int64} (hd : decode (mcode mi) pc = .ok (.ldc2_w i, 3)) (hw : Cond.constantLong (mown mi) i v ∈ lw_g) (h : V sh G mi k (pc + 3) lv (.long v :: st) M Q) : V sh G mi k pc lv (st) M Q := fun p l e s m args below meth c H locs ls C hP hS hl => lv_ldc2 C.1 C.2.1 C.2.2.2.2.1 (C.2.2.2.2.2.2.1 _ hw) hd (h p l e s m args below meth c H locs ls C hP hS hl)
theorem V_iload {i : Nat} {x : Int32} (hd : decode (mcode mi) pc = .ok (.iload i, 2)) (hg : lvget lv i = some (.int x)) (h : V sh G mi k (pc + 2) lv (.int x :: st) M Q) : V sh G mi k pc lv (st) M Q := fun p l e s m args below meth c H locs ls C hP hS hl => lv_iload C.1 C.2.1 hd (lv_of_get hl hg) (h p l e s m args below meth c H locs ls C hP hS hl)
theorem V_iload_n {i : Fin 4} {x : Int32} (hd : decode (mcode mi) pc = .ok (.iload_n i, 1)) (hg : lvget lv i = some (.int x)) (h : V sh G mi k (pc + 1) lv (.int x :: st) M Q) : V sh G mi k pc lv (st) M Q := fun p l e s m args below meth c H locs ls C hP hS hl => lv_iload_n C.1 C.2.1 hd rfl (lv_of_get hl hg) (h p l e s m args below meth c H locs ls C hP hS hl)
theorem V_lload {i : Nat} {x : Int64} (hd : decode (mcode mi) pc = .ok (.lload i, 2)) (hg : lvget lv i = some (.long x)) (h : V sh G mi k (pc + 2) lv (.long x :: st) M Q) : V sh G mi k pc lv (st) M Q := fun p l e s m args below meth c H locs ls C hP hS hl => lv_lload C.1 C.2.1 hd (lv_of_get hl hg) (h p l e s m args below meth c H locs ls C hP hS hl)
theorem V_lload_n {i : Fin 4} {x : Int64} (hd : decode (mcode mi) pc = .ok (.lload_n i, 1)) (hg : lvget lv i = some (.long x)) (h : V sh G mi k (pc + 1) lv (.long x :: st) M Q) : V sh G mi k pc lv (st) M Q := fun p l e s m args below meth c H locs ls C hP hS hl => lv_lload_n C.1 C.2.1 hd rfl (lv_of_get hl hg) (h p l e s m args below meth c H locs ls C hP hS hl)
theorem V_aload {i a : Nat} (hd : decode (mcode mi) pc = .ok (.aload i, 2)) (hg : lvget lv i = some (.ref a)) (h : V sh G mi k (pc + 2) lv (.ref a :: st) M Q) : V sh G mi k pc lv (st) M Q := fun p l e s m args below meth c H locs ls C hP hS hl => lv_aload C.1 C.2.1 hd (lv_of_get hl hg) (h p l e s m args below meth c H locs ls C hP hS hl)
theorem V_aload_n {i : Fin 4} {a : Nat} (hd : decode (mcode mi) pc = .ok (.aload_n i, 1)) (hg : lvget lv i = some (.ref a)) (h : V sh G mi k (pc + 1) lv (.ref a :: st) M Q) : V sh G mi k pc lv (st) M Q := fun p l e s m args below meth c H locs ls C hP hS hl => lv_aload_n C.1 C.2.1 hd rfl (lv_of_get hl hg) (h p l e s m args below meth c H locs ls C hP hS hl)
theorem V_istore {i : Nat} {x : Int32} (hd : decode (mcode mi) pc = .ok (.istore i, 2)) (hn : i < mi.2.2.1) (h : V sh G mi k (pc + 2) (lvset lv i (.int x)) st M Q) : V sh G mi k pc lv (.int x :: st) M Q := fun p l e s m args below meth c H locs ls C hP hS hl => lv_istore C.1 C.2.1 hd hl hn rfl (fun ls' hl' => h p l e s m args below meth c H locs ls' C hP hS (lv_fewer hl' (fun _ hq => lvins_mem hq)))
theorem V_istore_n {i : Fin 4} {x : Int32} (hd : decode (mcode mi) pc = .ok (.istore_n i, 1)) (hn : (i : Nat) < mi.2.2.1) (h : V sh G mi k (pc + 1) (lvset lv i (.int x)) st M Q) : V sh G mi k pc lv (.int x :: st) M Q := fun p l e s m args below meth c H locs ls C hP hS hl => lv_istore_n C.1 C.2.1 hd rfl hl hn rfl (fun ls' hl' => h p l e s m args below meth c H locs ls' C hP hS (lv_fewer hl' (fun _ hq => lvins_mem hq)))
theorem V_lstore {i : Nat} {x : Int64} (hd : decode (mcode mi) pc = .ok (.lstore i, 2)) (hn : i + 1 < mi.2.2.1) (h : V sh G mi k (pc + 2) (lvsetL lv i (.long x)) st M Q) : V sh G mi k pc lv (.long x :: st) M Q := fun p l e s m args below meth c H locs ls C hP hS hl => lv_lstore C.1 C.2.1 hd hl hn rfl (fun ls' hl' => h p l e s m args below meth c H locs ls' C hP hS (lv_fewer hl' (fun _ hq => lvins_mem hq)))
theorem V_lstore_n {i : Fin 4} {x : Int64} (hd : decode (mcode mi) pc = .ok (.lstore_n i, 1)) (hn : (i : Nat) + 1 < mi.2.2.1) (h : V sh G mi k (pc + 1) (lvsetL lv i (.long x)) st M Q) : V sh G mi k pc lv (.long x :: st) M Q := fun p l e s m args below meth c H locs ls C hP hS hl => lv_lstore_n C.1 C.2.1 hd rfl hl hn rfl (fun ls' hl' => h p l e s m args below meth c H locs ls' C hP hS (lv_fewer hl' (fun _ hq => lvins_mem hq)))
theorem V_iinc {i : Nat} {n : Int} {x : Int32} (hd : decode (mcode mi) pc = .ok (.iinc i n, 3)) (hg : lvget lv i = some (.int x)) (hn : i < mi.2.2.1) (h : V sh G mi k (pc + 3) (lvset lv i (.int (x + Int32.ofInt n))) st M Q) : V sh G mi k pc lv st M Q := by
  intro p l e s m args below meth c H locs ls C hP hS hl
  obtain ⟨j, hj⟩ := List.getElem?_of_mem (lvget_mem hg)
  exact lv_iinc C.1 C.2.1 hd hl hj rfl hn rfl (fun ls' hl' => h p l e s m args below meth c H locs ls' C hP hS (lv_fewer hl' (fun _ hq => lvins_mem hq)))
theorem V_dup {va : Value} (hd : decode (mcode mi) pc = .ok (.dup, 1)) (hv : va.category = 1) (h : V sh G mi k (pc + 1) lv (va :: va :: st) M Q) : V sh G mi k pc lv (va :: st) M Q := fun p l e s m args below meth c H locs ls C hP hS hl => lv_dup C.1 C.2.1 hd hv (h p l e s m args below meth c H locs ls C hP hS hl)
theorem V_pop {va : Value} (hd : decode (mcode mi) pc = .ok (.pop, 1)) (hv : va.category = 1) (h : V sh G mi k (pc + 1) lv (st) M Q) : V sh G mi k pc lv (va :: st) M Q := fun p l e s m args below meth c H locs ls C hP hS hl => lv_pop C.1 C.2.1 hd hv (h p l e s m args below meth c H locs ls C hP hS hl)
theorem V_dup_x1 {va vb : Value} (hd : decode (mcode mi) pc = .ok (.dup_x1, 1)) (hv : va.category = 1) (hu : vb.category = 1) (h : V sh G mi k (pc + 1) lv (va :: vb :: va :: st) M Q) : V sh G mi k pc lv (va :: vb :: st) M Q := fun p l e s m args below meth c H locs ls C hP hS hl => lv_dup_x1 C.1 C.2.1 hd hv hu (h p l e s m args below meth c H locs ls C hP hS hl)
theorem V_dup2 {va vb : Value} (hd : decode (mcode mi) pc = .ok (.dup2, 1)) (hv : va.category = 1) (hu : vb.category = 1) (h : V sh G mi k (pc + 1) lv (va :: vb :: va :: vb :: st) M Q) : V sh G mi k pc lv (va :: vb :: st) M Q := fun p l e s m args below meth c H locs ls C hP hS hl => lv_dup2_11 C.1 C.2.1 hd hv hu (h p l e s m args below meth c H locs ls C hP hS hl)
theorem V_if_eq {x : Int32} {off : Int} {tgt : Nat} (hd : decode (mcode mi) pc = .ok (.ifCond .eq off, 3)) (ht : (pc : Int) + off = (tgt : Int)) (kt : x = 0 → V sh G mi k tgt lv st M Q) (kf : ¬ (x = 0) → V sh G mi k (pc + 3) lv st M Q) : V sh G mi k pc lv (.int x :: st) M Q := fun p l e s m args below meth c H locs ls C hP hS hl => lv_if_eq C.1 C.2.1 hd ht (fun h => kt h p l e s m args below meth c H locs ls C hP hS hl) (fun h => kf h p l e s m args below meth c H locs ls C hP hS hl)
theorem V_if_ne {x : Int32} {off : Int} {tgt : Nat} (hd : decode (mcode mi) pc = .ok (.ifCond .ne off, 3)) (ht : (pc : Int) + off = (tgt : Int)) (kt : x ≠ 0 → V sh G mi k tgt lv st M Q) (kf : x = 0 → V sh G mi k (pc + 3) lv st M Q) : V sh G mi k pc lv (.int x :: st) M Q := fun p l e s m args below meth c H locs ls C hP hS hl => lv_if_ne C.1 C.2.1 hd ht (fun h => kt h p l e s m args below meth c H locs ls C hP hS hl) (fun h => kf h p l e s m args below meth c H locs ls C hP hS hl)
theorem V_if_lt {x : Int32} {off : Int} {tgt : Nat} (hd : decode (mcode mi) pc = .ok (.ifCond .lt off, 3)) (ht : (pc : Int) + off = (tgt : Int)) (kt : x < 0 → V sh G mi k tgt lv st M Q) (kf : ¬ (x < 0) → V sh G mi k (pc + 3) lv st M Q) : V sh G mi k pc lv (.int x :: st) M Q := fun p l e s m args below meth c H locs ls C hP hS hl => lv_if_lt C.1 C.2.1 hd ht (fun h => kt h p l e s m args below meth c H locs ls C hP hS hl) (fun h => kf h p l e s m args below meth c H locs ls C hP hS hl)
theorem V_if_ge {x : Int32} {off : Int} {tgt : Nat} (hd : decode (mcode mi) pc = .ok (.ifCond .ge off, 3)) (ht : (pc : Int) + off = (tgt : Int)) (kt : 0 ≤ x → V sh G mi k tgt lv st M Q) (kf : ¬ (0 ≤ x) → V sh G mi k (pc + 3) lv st M Q) : V sh G mi k pc lv (.int x :: st) M Q := fun p l e s m args below meth c H locs ls C hP hS hl => lv_if_ge C.1 C.2.1 hd ht (fun h => kt h p l e s m args below meth c H locs ls C hP hS hl) (fun h => kf h p l e s m args below meth c H locs ls C hP hS hl)
theorem V_if_gt {x : Int32} {off : Int} {tgt : Nat} (hd : decode (mcode mi) pc = .ok (.ifCond .gt off, 3)) (ht : (pc : Int) + off = (tgt : Int)) (kt : 0 < x → V sh G mi k tgt lv st M Q) (kf : ¬ (0 < x) → V sh G mi k (pc + 3) lv st M Q) : V sh G mi k pc lv (.int x :: st) M Q := fun p l e s m args below meth c H locs ls C hP hS hl => lv_if_gt C.1 C.2.1 hd ht (fun h => kt h p l e s m args below meth c H locs ls C hP hS hl) (fun h => kf h p l e s m args below meth c H locs ls C hP hS hl)
theorem V_if_le {x : Int32} {off : Int} {tgt : Nat} (hd : decode (mcode mi) pc = .ok (.ifCond .le off, 3)) (ht : (pc : Int) + off = (tgt : Int)) (kt : x ≤ 0 → V sh G mi k tgt lv st M Q) (kf : ¬ (x ≤ 0) → V sh G mi k (pc + 3) lv st M Q) : V sh G mi k pc lv (.int x :: st) M Q := fun p l e s m args below meth c H locs ls C hP hS hl => lv_if_le C.1 C.2.1 hd ht (fun h => kt h p l e s m args below meth c H locs ls C hP hS hl) (fun h => kf h p l e s m args below meth c H locs ls C hP hS hl)
theorem V_icmp_eq {x y : Int32} {off : Int} {tgt : Nat} (hd : decode (mcode mi) pc = .ok (.if_icmp .eq off, 3)) (ht : (pc : Int) + off = (tgt : Int)) (kt : x = y → V sh G mi k tgt lv st M Q) (kf : ¬ (x = y) → V sh G mi k (pc + 3) lv st M Q) : V sh G mi k pc lv (.int y :: .int x :: st) M Q := fun p l e s m args below meth c H locs ls C hP hS hl => lv_icmp_eq C.1 C.2.1 hd ht (fun h => kt h p l e s m args below meth c H locs ls C hP hS hl) (fun h => kf h p l e s m args below meth c H locs ls C hP hS hl)
theorem V_icmp_ne {x y : Int32} {off : Int} {tgt : Nat} (hd : decode (mcode mi) pc = .ok (.if_icmp .ne off, 3)) (ht : (pc : Int) + off = (tgt : Int)) (kt : x ≠ y → V sh G mi k tgt lv st M Q) (kf : x = y → V sh G mi k (pc + 3) lv st M Q) : V sh G mi k pc lv (.int y :: .int x :: st) M Q := fun p l e s m args below meth c H locs ls C hP hS hl => lv_icmp_ne C.1 C.2.1 hd ht (fun h => kt h p l e s m args below meth c H locs ls C hP hS hl) (fun h => kf h p l e s m args below meth c H locs ls C hP hS hl)
theorem V_icmp_lt {x y : Int32} {off : Int} {tgt : Nat} (hd : decode (mcode mi) pc = .ok (.if_icmp .lt off, 3)) (ht : (pc : Int) + off = (tgt : Int)) (kt : x < y → V sh G mi k tgt lv st M Q) (kf : ¬ (x < y) → V sh G mi k (pc + 3) lv st M Q) : V sh G mi k pc lv (.int y :: .int x :: st) M Q := fun p l e s m args below meth c H locs ls C hP hS hl => lv_icmp_lt C.1 C.2.1 hd ht (fun h => kt h p l e s m args below meth c H locs ls C hP hS hl) (fun h => kf h p l e s m args below meth c H locs ls C hP hS hl)
theorem V_icmp_ge {x y : Int32} {off : Int} {tgt : Nat} (hd : decode (mcode mi) pc = .ok (.if_icmp .ge off, 3)) (ht : (pc : Int) + off = (tgt : Int)) (kt : y ≤ x → V sh G mi k tgt lv st M Q) (kf : ¬ (y ≤ x) → V sh G mi k (pc + 3) lv st M Q) : V sh G mi k pc lv (.int y :: .int x :: st) M Q := fun p l e s m args below meth c H locs ls C hP hS hl => lv_icmp_ge C.1 C.2.1 hd ht (fun h => kt h p l e s m args below meth c H locs ls C hP hS hl) (fun h => kf h p l e s m args below meth c H locs ls C hP hS hl)
theorem V_icmp_gt {x y : Int32} {off : Int} {tgt : Nat} (hd : decode (mcode mi) pc = .ok (.if_icmp .gt off, 3)) (ht : (pc : Int) + off = (tgt : Int)) (kt : y < x → V sh G mi k tgt lv st M Q) (kf : ¬ (y < x) → V sh G mi k (pc + 3) lv st M Q) : V sh G mi k pc lv (.int y :: .int x :: st) M Q := fun p l e s m args below meth c H locs ls C hP hS hl => lv_icmp_gt C.1 C.2.1 hd ht (fun h => kt h p l e s m args below meth c H locs ls C hP hS hl) (fun h => kf h p l e s m args below meth c H locs ls C hP hS hl)
theorem V_icmp_le {x y : Int32} {off : Int} {tgt : Nat} (hd : decode (mcode mi) pc = .ok (.if_icmp .le off, 3)) (ht : (pc : Int) + off = (tgt : Int)) (kt : x ≤ y → V sh G mi k tgt lv st M Q) (kf : ¬ (x ≤ y) → V sh G mi k (pc + 3) lv st M Q) : V sh G mi k pc lv (.int y :: .int x :: st) M Q := fun p l e s m args below meth c H locs ls C hP hS hl => lv_icmp_le C.1 C.2.1 hd ht (fun h => kt h p l e s m args below meth c H locs ls C hP hS hl) (fun h => kf h p l e s m args below meth c H locs ls C hP hS hl)
theorem V_lif_eq {x y : Int64} {off : Int} {tgt : Nat} (hd : decode (mcode mi) pc = .ok (.lcmp, 1)) (hd2 : decode (mcode mi) (pc + 1) = .ok (.ifCond .eq off, 3)) (ht : ((pc + 1 : Nat) : Int) + off = (tgt : Int)) (kt : x = y → V sh G mi k tgt lv st M Q) (kf : ¬ (x = y) → V sh G mi k (pc + 4) lv st M Q) : V sh G mi k pc lv (.long y :: .long x :: st) M Q := V_lcmp hd (V_if_eq hd2 ht (fun h => kt ((lg_cmp_eq x y).mp h)) (fun h => kf (fun g => h ((lg_cmp_eq x y).mpr g))))
theorem V_lif_ne {x y : Int64} {off : Int} {tgt : Nat} (hd : decode (mcode mi) pc = .ok (.lcmp, 1)) (hd2 : decode (mcode mi) (pc + 1) = .ok (.ifCond .ne off, 3)) (ht : ((pc + 1 : Nat) : Int) + off = (tgt : Int)) (kt : x ≠ y → V sh G mi k tgt lv st M Q) (kf : x = y → V sh G mi k (pc + 4) lv st M Q) : V sh G mi k pc lv (.long y :: .long x :: st) M Q := V_lcmp hd (V_if_ne hd2 ht (fun h => kt (fun g => h ((lg_cmp_eq x y).mpr g))) (fun h => kf ((lg_cmp_eq x y).mp h)))
theorem V_lif_lt {x y : Int64} {off : Int} {tgt : Nat} (hd : decode (mcode mi) pc = .ok (.lcmp, 1)) (hd2 : decode (mcode mi) (pc + 1) = .ok (.ifCond .lt off, 3)) (ht : ((pc + 1 : Nat) : Int) + off = (tgt : Int)) (kt : x < y → V sh G mi k tgt lv st M Q) (kf : ¬ (x < y) → V sh G mi k (pc + 4) lv st M Q) : V sh G mi k pc lv (.long y :: .long x :: st) M Q := V_lcmp hd (V_if_lt hd2 ht (fun h => kt ((lg_cmp_lt x y).mp h)) (fun h => kf (fun g => h ((lg_cmp_lt x y).mpr g))))
theorem V_lif_ge {x y : Int64} {off : Int} {tgt : Nat} (hd : decode (mcode mi) pc = .ok (.lcmp, 1)) (hd2 : decode (mcode mi) (pc + 1) = .ok (.ifCond .ge off, 3)) (ht : ((pc + 1 : Nat) : Int) + off = (tgt : Int)) (kt : y ≤ x → V sh G mi k tgt lv st M Q) (kf : ¬ (y ≤ x) → V sh G mi k (pc + 4) lv st M Q) : V sh G mi k pc lv (.long y :: .long x :: st) M Q := V_lcmp hd (V_if_ge hd2 ht (fun h => kt ((lg_cmp_ge x y).mp h)) (fun h => kf (fun g => h ((lg_cmp_ge x y).mpr g))))
theorem V_lif_gt {x y : Int64} {off : Int} {tgt : Nat} (hd : decode (mcode mi) pc = .ok (.lcmp, 1)) (hd2 : decode (mcode mi) (pc + 1) = .ok (.ifCond .gt off, 3)) (ht : ((pc + 1 : Nat) : Int) + off = (tgt : Int)) (kt : y < x → V sh G mi k tgt lv st M Q) (kf : ¬ (y < x) → V sh G mi k (pc + 4) lv st M Q) : V sh G mi k pc lv (.long y :: .long x :: st) M Q := V_lcmp hd (V_if_gt hd2 ht (fun h => kt ((lg_cmp_gt x y).mp h)) (fun h => kf (fun g => h ((lg_cmp_gt x y).mpr g))))
theorem V_lif_le {x y : Int64} {off : Int} {tgt : Nat} (hd : decode (mcode mi) pc = .ok (.lcmp, 1)) (hd2 : decode (mcode mi) (pc + 1) = .ok (.ifCond .le off, 3)) (ht : ((pc + 1 : Nat) : Int) + off = (tgt : Int)) (kt : x ≤ y → V sh G mi k tgt lv st M Q) (kf : ¬ (x ≤ y) → V sh G mi k (pc + 4) lv st M Q) : V sh G mi k pc lv (.long y :: .long x :: st) M Q := V_lcmp hd (V_if_le hd2 ht (fun h => kt ((lg_cmp_le x y).mp h)) (fun h => kf (fun g => h ((lg_cmp_le x y).mpr g))))
theorem V_goto {off : Int} {tgt : Nat} (hd : decode (mcode mi) pc = .ok (.goto off, 3)) (ht : (pc : Int) + off = (tgt : Int)) (h : V sh G mi k tgt lv st M Q) : V sh G mi k pc lv st M Q := fun p l e s m args below meth c H locs ls C hP hS hl => lv_goto C.1 C.2.1 hd ht (h p l e s m args below meth c H locs ls C hP hS hl)
/-- a switch: one goal a case, then what is outside -/
def TabP (P : Nat → Prop) (x : Int) (pc : Nat) : List Int → Int → Prop
  | [], _ => True
  | off :: t, j => (x = j → P (Int.toNat ((pc : Int) + off))) ∧ TabP P x pc t (j + 1)
theorem TabP.get {P : Nat → Prop} {x : Int} {pc : Nat} : ∀ {l : List Int} {j : Int} {i : Nat} {off : Int}, TabP P x pc l j → l[i]? = some off → x = j + i → P (Int.toNat ((pc : Int) + off))
  | [], j, i, off, _, h, _ => by simp at h
  | a :: t, j, 0, off, hp, h, hx => by
    simp at h; subst h
    exact hp.1 (by simpa using hx)
  | a :: t, j, i + 1, off, hp, h, hx => TabP.get hp.2 (by simpa using h) (by rw [hx]; push_cast; omega)
theorem V_table {x : Int32} {dflt lo hi : Int} {offs : Array Int} {len tgt : Nat} (hd : decode (mcode mi) pc = .ok (.tableswitch dflt lo hi offs, len)) (hn : hi - lo + 1 = (offs.toList.length : Int)) (hpos : offs.toList.all (fun o => decide (0 ≤ (pc : Int) + o)) = true) (ht : (pc : Int) + dflt = (tgt : Int))
    (hin : TabP (fun t => V sh G mi k t lv st M Q) x.toInt pc offs.toList lo) (hout : (x.toInt < lo ∨ hi < x.toInt) → V sh G mi k tgt lv st M Q) : V sh G mi k pc lv (.int x :: st) M Q := by
  intro p l e s m args below meth c H locs ls C hP hS hl
  by_cases h : x.toInt < lo ∨ hi < x.toInt
  · exact lv_tableOut C.1 C.2.1 hd h ht (hout h p l e s m args below meth c H locs ls C hP hS hl)
  · have h1 : ¬ x.toInt < lo := fun q => h (Or.inl q)
    have h2 : ¬ hi < x.toInt := fun q => h (Or.inr q)
    have hlt : (x.toInt - lo).toNat < offs.toList.length := by omega
    have hg : offs.toList[(x.toInt - lo).toNat]? = some (offs.toList[(x.toInt - lo).toNat]) := List.getElem?_eq_getElem hlt
    have hV := TabP.get hin hg (by omega)
    have h0 := List.all_eq_true.mp hpos _ (List.getElem_mem hlt)
    simp only [decide_eq_true_eq] at h0
    exact lv_tableIn C.1 C.2.1 hd h1 h2 (by rw [← Array.getElem?_toList]; exact hg) (Int.toNat_of_nonneg h0).symm (hV p l e s m args below meth c H locs ls C hP hS hl)
def LookP (P : Nat → Prop) (x : Int) (pc : Nat) : List (Int × Int) → Prop
  | [] => True
  | q :: t => (x = q.1 → P (Int.toNat ((pc : Int) + q.2))) ∧ LookP P x pc t
theorem V_lookup {x : Int32} {dflt : Int} {ps : Array (Int × Int)} {len tgt : Nat} (hd : decode (mcode mi) pc = .ok (.lookupswitch dflt ps, len)) (hp : (ps.toList.zip (ps.toList.drop 1)).all (fun (a, next) => a.1 < next.1) = true) (hpos : ps.toList.all (fun o => decide (0 ≤ (pc : Int) + o.2)) = true) (ht : (pc : Int) + dflt = (tgt : Int))
    (hin : LookP (fun t => V sh G mi k t lv st M Q) x.toInt pc ps.toList) (hout : ps.toList.all (fun q => decide (x.toInt ≠ q.1)) = true → V sh G mi k tgt lv st M Q) : V sh G mi k pc lv (.int x :: st) M Q := by
  intro p l e s m args below meth c H locs ls C hP hS hl
  have key : ∀ L : List (Int × Int), LookP (fun t => V sh G mi k t lv st M Q) x.toInt pc L → (L.all (fun o => decide (0 ≤ (pc : Int) + o.2)) = true) → (L.all (fun q => decide (x.toInt ≠ q.1)) = true → V sh G mi k tgt lv st M Q) → ∃ t : Nat, (pc : Int) + Op.lookupswitch.offset L dflt x.toInt = (t : Int) ∧ V sh G mi k t lv st M Q := by
    intro L
    induction L with
    | nil => intro _ _ h3; exact ⟨tgt, ht, h3 rfl⟩
    | cons q t ih =>
      intro h1 h2 h3
      simp only [List.all_cons, Bool.and_eq_true, decide_eq_true_eq] at h2
      by_cases hq : x.toInt = q.1
      · refine ⟨_, ?_, h1.1 hq⟩
        simp only [Op.lookupswitch.offset, hq]
        simp
        omega
      · obtain ⟨t', h4, h5⟩ := ih h1.2 h2.2 (fun h => h3 (by simp only [List.all_cons, Bool.and_eq_true, decide_eq_true_eq]; exact ⟨hq, h⟩))
        refine ⟨t', ?_, h5⟩
        have hq' : ¬ q.1 = x.toInt := fun h => hq h.symm
        simp only [Op.lookupswitch.offset] at h4 ⊢
        simp [hq', hq] at h4 ⊢
        exact h4
  obtain ⟨t, h1, h2⟩ := key _ hin hpos hout
  exact lv_lookup C.1 C.2.1 hd hp rfl h1 (h2 p l e s m args below meth c H locs ls C hP hS hl)


def Qi (q : Int32 → Mem → Prop) : Option Value → Mem → Prop := fun v M => ∃ x, v = some (.int x) ∧ q x M
def Ql (q : Int64 → Mem → Prop) : Option Value → Mem → Prop := fun v M => ∃ x, v = some (.long x) ∧ q x M
def Qv (q : Mem → Prop) : Option Value → Mem → Prop := fun v M => v = none ∧ q M
def Ci (sh : List SE) (G : GV) (mi : MI) (k : Nat) (av : List Value) (M : Mem) (q : Int32 → Mem → Prop) : Prop := V sh G mi k 0 (lv_args 0 av) [] M (Qi q)
def Cl (sh : List SE) (G : GV) (mi : MI) (k : Nat) (av : List Value) (M : Mem) (q : Int64 → Mem → Prop) : Prop := V sh G mi k 0 (lv_args 0 av) [] M (Ql q)
def Cv (sh : List SE) (G : GV) (mi : MI) (k : Nat) (av : List Value) (M : Mem) (q : Mem → Prop) : Prop := V sh G mi k 0 (lv_args 0 av) [] M (Qv q)
theorem Ci.mono {av : List Value} {q q' : Int32 → Mem → Prop} (h : Ci sh G mi k av M q') (hq : ∀ x M', q' x M' → q x M') : Ci sh G mi k av M q := V_mono h (fun v M' ⟨x, e, hx⟩ => ⟨x, e, hq x M' hx⟩)
theorem Cl.mono {av : List Value} {q q' : Int64 → Mem → Prop} (h : Cl sh G mi k av M q') (hq : ∀ x M', q' x M' → q x M') : Cl sh G mi k av M q := V_mono h (fun v M' ⟨x, e, hx⟩ => ⟨x, e, hq x M' hx⟩)
theorem Cv.mono {av : List Value} {q q' : Mem → Prop} (h : Cv sh G mi k av M q') (hq : ∀ M', q' M' → q M') : Cv sh G mi k av M q := V_mono h (fun v M' ⟨e, hx⟩ => ⟨e, hq M' hx⟩)
theorem V_iret {q : Int32 → Mem → Prop} {x : Int32} (hd : decode (mcode mi) pc = .ok (.ireturn, 1)) (hr : mi.2.2.2 = some .int) (h : q x M) : V sh G mi k pc lv [.int x] M (Qi q) := fun p l e s m args below meth c H locs ls C hP hS hl => W.iret C.1 C.2.1 (C.2.2.2.1.trans hr) (fun t ht hW => ⟨⟨_, M, rfl, ⟨x, rfl, h⟩, by rw [ht]; exact hP⟩, hS.F ht⟩) hS.2.2 hd C.2.2.2.2.2.1
theorem V_zret {q : Int32 → Mem → Prop} {x : Int32} (hd : decode (mcode mi) pc = .ok (.ireturn, 1)) (hr : mi.2.2.2 = some .boolean) (hn : x = 0 ∨ x = 1) (h : q x M) : V sh G mi k pc lv [.int x] M (Qi q) := fun p l e s m args below meth c H locs ls C hP hS hl => W.zret C.1 C.2.1 (C.2.2.2.1.trans hr) (by rcases hn with rfl | rfl <;> rfl) (fun t ht hW => ⟨⟨_, M, rfl, ⟨x, rfl, h⟩, by rw [ht]; exact hP⟩, hS.F ht⟩) hS.2.2 hd C.2.2.2.2.2.1
theorem V_lret {q : Int64 → Mem → Prop} {x : Int64} (hd : decode (mcode mi) pc = .ok (.lreturn, 1)) (hr : mi.2.2.2 = some .long) (h : q x M) : V sh G mi k pc lv [.long x] M (Ql q) := fun p l e s m args below meth c H locs ls C hP hS hl => W.lret C.1 C.2.1 (C.2.2.2.1.trans hr) (fun t ht hW => ⟨⟨_, M, rfl, ⟨x, rfl, h⟩, by rw [ht]; exact hP⟩, hS.F ht⟩) hS.2.2 hd C.2.2.2.2.2.1
theorem V_vret {q : Mem → Prop} (hd : decode (mcode mi) pc = .ok (.return_, 1)) (hr : mi.2.2.2 = none) (h : q M) : V sh G mi k pc lv [] M (Qv q) := fun p l e s m args below meth c H locs ls C hP hS hl => W.vret C.1 C.2.1 (C.2.2.2.1.trans hr) (fun t ht hW => ⟨⟨_, M, rfl, ⟨rfl, h⟩, by rw [ht]; exact hP⟩, hS.F ht⟩) hS.2.2 hd C.2.2.2.2.2.1
/-- a field's link: the pool entry idx of the class own is field j of class ci -/
def FL (own : String) (idx ci j : Nat) : Prop := ∃ (C : String) (T : u_T) (N : Nat), cls[ci]? = some (C, T, N) ∧ j < N ∧ (∀ w ∈ u_ws C T N, w ∈ lw_g) ∧ Cond.fieldLink own idx (T j).1 (T j).2.1 (T j).2.2.1 ∈ lw_g
/-- and what a store wants of its class -/
def PL (ci j : Nat) (ty : FieldType) : Prop := ∃ (C : String) (T : u_T) (N : Nat) (ty0 : Nat → FieldType), cls[ci]? = some (C, T, N) ∧ (∀ k, k < N → parseFieldDescriptor (T k).2.2.1 = some (ty0 k)) ∧ (∀ a, a < N → ∀ b, b < N → a ≠ b → (T a).2.1 ≠ (T b).2.1) ∧ (T j).2.2.2 = false ∧ ty0 j = ty
theorem V_get {o ci j idx : Nat} {fs : List (Option Nat)} {f : Option Nat} (hf : FL (mown mi) idx ci j) (ho : sh[o]? = some (.inr (ci, fs))) (hj : fs[j]? = some f) (hd : decode (mcode mi) pc = .ok (.getfield idx, 3)) (h : V sh G mi k (pc + 3) lv (fv G M o j f :: st) M Q) : V sh G mi k pc lv (.ref (G.2.1 o) :: st) M Q := by
  intro p l e s m args below meth c H locs ls C hP hS hl
  obtain ⟨Cn, T, N, h1, h2, h3, h4⟩ := hf
  exact va_get C.1 C.2.1 C.2.2.2.2.2.2.1 h3 C.2.2.2.2.1 C.2.2.2.2.2.2.2.1.va hP o (world_get ho) h1 j h2 (C.2.2.2.2.2.2.1 _ h4) (fun x hx => hx) (v := fv G M o j f) (by simp [hj]) hd (h p l e s m args below meth c H locs ls C hP hS hl)
theorem V_getI {o ci j idx : Nat} {fs : List (Option Nat)} (hf : FL (mown mi) idx ci j) (ho : sh[o]? = some (.inr (ci, fs))) (hj : fs[j]? = some none) (hd : decode (mcode mi) pc = .ok (.getfield idx, 3)) (h : V sh G mi k (pc + 3) lv (.int (M.1 o j) :: st) M Q) : V sh G mi k pc lv (.ref (G.2.1 o) :: st) M Q := V_get hf ho hj hd h
theorem V_getR {o ci j idx r : Nat} {fs : List (Option Nat)} (hf : FL (mown mi) idx ci j) (ho : sh[o]? = some (.inr (ci, fs))) (hj : fs[j]? = some (some r)) (hd : decode (mcode mi) pc = .ok (.getfield idx, 3)) (h : V sh G mi k (pc + 3) lv (.ref (G.2.1 r) :: st) M Q) : V sh G mi k pc lv (.ref (G.2.1 o) :: st) M Q := V_get hf ho hj hd h
theorem V_putT {o ci j idx : Nat} {fs : List (Option Nat)} {x : Int32} {ty : FieldType} (hf : FL (mown mi) idx ci j) (hp : PL ci j ty) (ho : sh[o]? = some (.inr (ci, fs))) (hj : fs[j]? = some none) (hn : narrow ty (.int x) = .int x) (hfit : fits ty (.int x) = true) (hd : decode (mcode mi) pc = .ok (.putfield idx, 3)) (h : V sh G mi k (pc + 3) lv st (mset M o j x) Q) : V sh G mi k pc lv (.int x :: .ref (G.2.1 o) :: st) M Q := by
  intro p l e s m args below meth c H locs ls C hP hS hl
  obtain ⟨Cn, T, N, h1, h2, h3, h4⟩ := hf
  obtain ⟨Cn', T', N', ty0, g1, g2, g3, g4, g5⟩ := hp
  obtain ⟨rfl, rfl, rfl⟩ : Cn = Cn' ∧ T = T' ∧ N = N' := by
    have := h1.symm.trans g1
    simpa using this
  refine va_put C.1 C.2.1 C.2.2.2.2.2.2.1 h3 ty0 g2 g3 C.2.2.2.2.1 C.2.2.2.2.2.2.2.1.va hP (C.2.2.2.2.2.2.2.1.D M) hS o (world_get ho) h1 j h2 (C.2.2.2.2.2.2.1 _ h4) (fun x hx => hx) g4 (by rw [g2 j h2, g5]) hn hfit (by simpa using (List.getElem?_eq_some_iff.mp hj).1) hd (fun H1 locs1 hP1 _ hS1 => ?_)
  rw [world_f ho hj] at hP1
  exact h p l e s m args below meth c H1 locs1 ls C hP1 hS1 hl
theorem V_putI {o ci j idx : Nat} {fs : List (Option Nat)} {x : Int32} (hf : FL (mown mi) idx ci j) (hp : PL ci j .int) (ho : sh[o]? = some (.inr (ci, fs))) (hj : fs[j]? = some none) (hd : decode (mcode mi) pc = .ok (.putfield idx, 3)) (h : V sh G mi k (pc + 3) lv st (mset M o j x) Q) : V sh G mi k pc lv (.int x :: .ref (G.2.1 o) :: st) M Q := V_putT hf hp ho hj rfl rfl hd h
theorem V_putZ {o ci j idx : Nat} {fs : List (Option Nat)} {x : Int32} (hf : FL (mown mi) idx ci j) (hp : PL ci j .boolean) (ho : sh[o]? = some (.inr (ci, fs))) (hj : fs[j]? = some none) (hn : x = 0 ∨ x = 1) (hd : decode (mcode mi) pc = .ok (.putfield idx, 3)) (h : V sh G mi k (pc + 3) lv st (mset M o j x) Q) : V sh G mi k pc lv (.int x :: .ref (G.2.1 o) :: st) M Q := V_putT hf hp ho hj (by rcases hn with rfl | rfl <;> rfl) (by rcases hn with rfl | rfl <;> rfl) hd h

theorem V_iald {o n : Nat} {rs : List Nat} {i : Int32} (ho : sh[o]? = some (.inl (0, .int, n, rs))) (hd : decode (mcode mi) pc = .ok (.iaload, 1)) (hin : vp_in i n) (h : V sh G mi k (pc + 1) lv (.int (M.1 o (ix i)) :: st) M Q) : V sh G mi k pc lv (.int i :: .ref (G.2.1 o) :: st) M Q := fun p l e s m args below meth c H locs ls C hP hS hl => va_iald C.1 C.2.1 (C.2.2.2.2.2.2.2.1.at ho) hP o 0 (world_get ho) rfl hin hd (h p l e s m args below meth c H locs ls C hP hS hl)
theorem V_bald {o n : Nat} {rs : List Nat} {i : Int32} (ho : sh[o]? = some (.inl (0, .byte, n, rs))) (hd : decode (mcode mi) pc = .ok (.baload, 1)) (hin : vp_in i n) (h : V sh G mi k (pc + 1) lv (.int (M.1 o (ix i)) :: st) M Q) : V sh G mi k pc lv (.int i :: .ref (G.2.1 o) :: st) M Q := fun p l e s m args below meth c H locs ls C hP hS hl => va_bald C.1 C.2.1 (C.2.2.2.2.2.2.2.1.at ho) hP o 0 (world_get ho) rfl hin hd (h p l e s m args below meth c H locs ls C hP hS hl)
theorem V_zald {o n : Nat} {rs : List Nat} {i : Int32} (ho : sh[o]? = some (.inl (0, .boolean, n, rs))) (hd : decode (mcode mi) pc = .ok (.baload, 1)) (hin : vp_in i n) (h : V sh G mi k (pc + 1) lv (.int (M.1 o (ix i)) :: st) M Q) : V sh G mi k pc lv (.int i :: .ref (G.2.1 o) :: st) M Q := fun p l e s m args below meth c H locs ls C hP hS hl => va_zald C.1 C.2.1 (C.2.2.2.2.2.2.2.1.at ho) hP o 0 (world_get ho) rfl hin hd (h p l e s m args below meth c H locs ls C hP hS hl)
theorem V_lald {o n : Nat} {rs : List Nat} {i : Int32} (ho : sh[o]? = some (.inl (1, .long, n, rs))) (hd : decode (mcode mi) pc = .ok (.laload, 1)) (hin : vp_in i n) (h : V sh G mi k (pc + 1) lv (.long (M.2 o (ix i)) :: st) M Q) : V sh G mi k pc lv (.int i :: .ref (G.2.1 o) :: st) M Q := fun p l e s m args below meth c H locs ls C hP hS hl => va_lald C.1 C.2.1 (C.2.2.2.2.2.2.2.1.at ho) hP o 0 (world_get ho) rfl hin hd (h p l e s m args below meth c H locs ls C hP hS hl)
theorem V_iast {o n : Nat} {rs : List Nat} {i x : Int32} (ho : sh[o]? = some (.inl (0, .int, n, rs))) (hd : decode (mcode mi) pc = .ok (.iastore, 1)) (hin : vp_in i n) (h : V sh G mi k (pc + 1) lv st (mset M o (ix i) (x)) Q) : V sh G mi k pc lv (.int x :: .int i :: .ref (G.2.1 o) :: st) M Q := fun p l e s m args below meth c H locs ls C hP hS hl => va_iast C.1 C.2.1 (C.2.2.2.2.2.2.2.1.at ho) hP (C.2.2.2.2.2.2.2.1.D M) hS o 0 (world_get ho) rfl hin hd (fun H1 locs1 hP1 _ hS1 => by rw [world_a ho, aset_mset] at hP1; exact h p l e s m args below meth c H1 locs1 ls C hP1 hS1 hl)
theorem V_bast {o n : Nat} {rs : List Nat} {i x : Int32} (ho : sh[o]? = some (.inl (0, .byte, n, rs))) (hd : decode (mcode mi) pc = .ok (.bastore, 1)) (hin : vp_in i n) (h : V sh G mi k (pc + 1) lv st (mset M o (ix i) (vp_nar .byte x)) Q) : V sh G mi k pc lv (.int x :: .int i :: .ref (G.2.1 o) :: st) M Q := fun p l e s m args below meth c H locs ls C hP hS hl => va_bast C.1 C.2.1 (C.2.2.2.2.2.2.2.1.at ho) hP (C.2.2.2.2.2.2.2.1.D M) hS o 0 (world_get ho) rfl hin hd (fun H1 locs1 hP1 _ hS1 => by rw [world_a ho, aset_mset] at hP1; exact h p l e s m args below meth c H1 locs1 ls C hP1 hS1 hl)
theorem V_zast {o n : Nat} {rs : List Nat} {i x : Int32} (ho : sh[o]? = some (.inl (0, .boolean, n, rs))) (hd : decode (mcode mi) pc = .ok (.bastore, 1)) (hin : vp_in i n) (h : V sh G mi k (pc + 1) lv st (mset M o (ix i) (vp_nar .boolean x)) Q) : V sh G mi k pc lv (.int x :: .int i :: .ref (G.2.1 o) :: st) M Q := fun p l e s m args below meth c H locs ls C hP hS hl => va_zast C.1 C.2.1 (C.2.2.2.2.2.2.2.1.at ho) hP (C.2.2.2.2.2.2.2.1.D M) hS o 0 (world_get ho) rfl hin hd (fun H1 locs1 hP1 _ hS1 => by rw [world_a ho, aset_mset] at hP1; exact h p l e s m args below meth c H1 locs1 ls C hP1 hS1 hl)
theorem V_last {o n : Nat} {rs : List Nat} {i : Int32} {x : Int64} (ho : sh[o]? = some (.inl (1, .long, n, rs))) (hd : decode (mcode mi) pc = .ok (.lastore, 1)) (hin : vp_in i n) (h : V sh G mi k (pc + 1) lv st (lset M o (ix i) x) Q) : V sh G mi k pc lv (.long x :: .int i :: .ref (G.2.1 o) :: st) M Q := fun p l e s m args below meth c H locs ls C hP hS hl => va_last C.1 C.2.1 (C.2.2.2.2.2.2.2.1.at ho) hP (C.2.2.2.2.2.2.2.1.D M) hS o 0 (world_get ho) rfl hin hd (fun H1 locs1 hP1 _ hS1 => by rw [world_l ho] at hP1; exact h p l e s m args below meth c H1 locs1 ls C hP1 hS1 hl)

theorem V_aald {o n r : Nat} {ty : FieldType} {rs : List Nat} {i : Int32} (ho : sh[o]? = some (.inl (2, ty, n, rs))) (hty : refKind ty = true) (hr : rs[ix i]? = some r) (hd : decode (mcode mi) pc = .ok (.aaload, 1)) (hin : vp_in i n) (h : V sh G mi k (pc + 1) lv (.ref (G.2.1 r) :: st) M Q) : V sh G mi k pc lv (.int i :: .ref (G.2.1 o) :: st) M Q := by
  intro p l e s m args below meth c H locs ls C hP hS hl
  have hlt : i.toNatClampNeg < n := Nat.not_le.mp fun q => hin (Or.inr q)
  have hE : va_rf (((fun j => (rs[j]?).map G.2.1) : Nat → Option Nat) i.toNatClampNeg) = .ref (G.2.1 r) := by
    show va_rf ((rs[ix i]?).map G.2.1) = _
    rw [hr]; rfl
  refine W.aald (v := .ref (G.2.1 r)) (ty := ty) C.1 C.2.1 (hP o _ (world_get ho)) (((C.2.2.2.2.2.2.2.1.at ho).2 0 _ rfl).1 n (fun j => va_rf ((rs[j]?).map G.2.1))) hty (fun q => by cases q) (by show ¬ (i < 0 ∨ (arrV _ _ _).slots.size ≤ _); rw [arrV_size]; exact hin) (by show (arrV _ _ _).slots[_]? = _; rw [arrV_read _ _ hlt]; rw [← hE]) rfl rfl hd (h p l e s m args below meth c H locs ls C hP hS hl)
theorem V_alen {o kd n : Nat} {ty : FieldType} {rs : List Nat} (ho : sh[o]? = some (.inl (kd, ty, n, rs))) (hd : decode (mcode mi) pc = .ok (.arraylength, 1)) (h : V sh G mi k (pc + 1) lv (.int (Int32.ofNat n) :: st) M Q) : V sh G mi k pc lv (.ref (G.2.1 o) :: st) M Q := by
  intro p l e s m args below meth c H locs ls C hP hS hl
  have hg := world_get (G := G) (M := M) ho
  have hK := C.2.2.2.2.2.2.2.1.at ho
  rcases kd with _ | _ | kd
  · exact va_alen C.1 C.2.1 hK hP o 0 hg rfl rfl hd (h p l e s m args below meth c H locs ls C hP hS hl)
  · exact va_alen C.1 C.2.1 hK hP o 0 hg rfl rfl hd (h p l e s m args below meth c H locs ls C hP hS hl)
  · exact va_alen C.1 C.2.1 hK hP o 0 hg rfl rfl hd (h p l e s m args below meth c H locs ls C hP hS hl)
/-! calls -/
def Pre (sh : List SE) (G : GV) (M : Mem) (av : List Value) : Array Value → State → Prop := fun a U => a = av.toArray ∧ va_P G.1 cls (world sh G M) U.heap ∧ KK sh G U ∧ EX G (SA sh G) U U.heap
theorem Pre.blind {av : List Value} : FrameBlind (Pre sh G M av) := fun a U g mk h => ⟨h.1, h.2.1, KK.moved (u := U) (U := U.calling g mk a) (Vm.Alike.refl U.vm) h.2.2.1, EX.to (u := U) (U := U.calling g mk a) h.2.2.2 (State.WarmedH.refl U) (fun _ _ _ => rfl)⟩
abbrev mws (mi : MI) : List Cond := Cond.code mi.1 (mcode mi) mi.2.2.1 mi.2.2.2 :: lw_g
theorem Met_of_V {av : List Value} (l : Launch) (hy : plainName mi.1.cls = true) (hlen : (lg_sl av).length ≤ mi.2.2.1) (h : V sh G mi k 0 (lv_args 0 av) [] M Q) : Met l mi.1 (mws mi) (Rk k) (Pre sh G M av) (QQ sh G Q) 0 0 (SA sh G) := by
  refine Met.ofW (cc := mcode mi) (maxL := mi.2.2.1) (ret := mi.2.2.2) hy rfl ?_
  intro p e s m args below meth c s₁ B hml hv
  obtain ⟨rfl, hP, hK, hE⟩ := hv
  have hts := atoms_spec (ws := mws mi) B.pre
  rw [lg_entry_eq]
  exact h p l e s m _ below meth c s.heap [] _ ⟨B.exec, B.bytes, hml, B.returns, findClass_of_methodNamed B.named, B.notSynchronized, fun w hw => hts w (List.mem_cons_of_mem _ hw), hK, hE⟩ hP va_S.rf (lv_entry av hlen)
def OKm (mi : MI) (n : Nat) : Prop := Cond.initialized mi.1.cls ∈ lw_g ∧ Cond.code mi.1 (mcode mi) mi.2.2.1 mi.2.2.2 ∈ lw_g ∧ (mi.1.cls ≠ "java/lang/invoke/MethodHandle" ∧ mi.1.cls ≠ "java/lang/invoke/VarHandle" ∧ (parseMethodDescriptor mi.1.desc).map (fun d => d.parameters.length) = some n) ∧ plainName mi.1.cls = true ∧ mi.2.2.1 ≤ 16
def OKV (mi : MI) (n : Nat) : Prop := OKm mi n ∧ Cond.instanceMethod mi.1 ∈ lw_g ∧ Cond.selects mi.1.cls mi.1 mi.1 ∈ lw_g
def OKS (mi : MI) (n : Nat) : Prop := OKm mi n ∧ Cond.static mi.1 ∈ lw_g
theorem lw_g_good : ∀ w ∈ lw_g, goodWord w = true := fun w hw => (List.mem_filter.mp hw).2
theorem GoodIn_g {ws : List Cond} (h : ∀ w ∈ ws, w ∈ lw_g) : GoodIn lw_g ws := fun w hw => ⟨h w hw, good_of_word (lw_g_good w (h w hw))⟩
theorem V_goon {p : Program} {l : Launch} {e : Env} {s : State} {m : MethodId} {args : Array Value} {below : List Frame} {meth : Method} {c : Code} {H : Heap} {locs : List Loc} {ls : Array Slot} {stk : List Value} {Q' : Option Value → Mem → Prop} {a : Array Value} (C : CX sh G mi p s m args meth c) (hS : va_S (SA sh G) s.heap H locs) (hl : lv_has ls mi.2.2.1 lv)
    (hr : va_Run p l e (Rk k) s m args below meth c H locs 0 0 0 0 (F0 m pc ls stk) st (QQ sh G Q' a) (SA sh G)) (kk : ∀ v M', Q' v M' → V sh G mi k (pc + 3) lv (v.toList ++ st) M' Q) : W p l e (Rk k) s m args below meth c H locs 0 0 (MQ below (QQ sh G Q) args s 0 0 (SA sh G)) (F0 m pc ls stk) := by
  intro T hT X
  obtain ⟨v, st₀, t, T', L, h0, X', hL, e1, e2, ⟨⟨v', M', hv, hq, hP'⟩, hz, hk⟩, stp⟩ := hr T hT X
  cases hv
  rw [h0] at hz hk
  rw [← e1] at hP'
  obtain ⟨t2, a1, b1⟩ := kk v M' hq p l e s m args below meth c T'.heap (locs ++ L) ls C hP' ⟨Nat.le_trans hS.1 (by rw [e1]; exact hz), fun q h1 h2 => by rw [e1, hk q (Nat.lt_of_lt_of_le h1 hS.1) h2]; exact hS.2.1 q h1 h2, fun q hq => by
      rcases List.mem_append.mp hq with h | h
      · exact hS.2.2 q h
      · exact hL q h⟩ hl T' rfl X'
  exact ⟨t2, stp t2 a1, b1⟩
theorem V_invV {mi' : MI} {n idx o ci : Nat} {fs : List (Option Nat)} {stk As : List Value} {Q' : Option Value → Mem → Prop} (hk : OKV mi' n) (hw : Cond.methodLink (mown mi) idx mi'.1 ∈ lw_g) (ho : sh[o]? = some (.inr (ci, fs))) (hc : (cls[ci]?).map (fun q => q.1) = some mi'.1.cls) (hn : As.length = n) (hlen : (lg_sl (.ref (G.2.1 o) :: As)).length ≤ mi'.2.2.1) (hs : stk = As.reverse ++ .ref (G.2.1 o) :: st) (hsum : (st.map fun v => v.category).sum ≤ 8) (hd : decode (mcode mi) pc = .ok (.invokevirtual idx, 3))
    (h : V sh G mi' k 0 (lv_args 0 (.ref (G.2.1 o) :: As)) [] M Q') (kk : ∀ v M', Q' v M' → V sh G mi (k + 1) (pc + 3) lv (v.toList ++ st) M' Q) : V sh G mi (k + 1) pc lv stk M Q := by
  intro p l e s m args below meth c H locs ls C hP hS hl
  obtain ⟨⟨k1, k2, k3, k4, k5⟩, k6, k7⟩ := hk
  obtain ⟨q, hq, hqc⟩ := Option.map_eq_some_iff.mp hc
  refine V_goon (k := k + 1) C hS hl (va_runV (As := As) (rest := st) ⟨C.1, C.2.1, C.2.2.1, C.2.2.2.2.1, C.2.2.2.2.2.2.1⟩ (Met_of_V l k4 hlen h) (cwV (C := mi'.1.cls) n C.2.2.2.2.2.2.1 (GoodIn_g ?_) rfl rfl rfl ⟨rfl, k3⟩ ⟨Nat.le_refl _, by show 8 + (mi'.2.2.1 + 11) + 35 * k ≤ 35 * (k + 1); omega⟩) ⟨Pre.blind, ?_, fun U hU hW => ⟨rfl, by rw [hU]; exact hP, C.2.2.2.2.2.2.2.1.moved hW.alike, by rw [hU]; exact C.2.2.2.2.2.2.2.2.to hW (fun a h1 h2 => hS.2.1 a h1 h2)⟩⟩ rfl hn hl.1 hs (lv_room hsum) hd ⟨Nat.le_refl _, Nat.le_refl _⟩) kk
  · intro w hw'
    rcases List.mem_append.mp hw' with hw' | hw'
    · simp only [List.mem_cons, List.not_mem_nil, or_false] at hw'
      rcases hw' with rfl | rfl | rfl | rfl <;> assumption
    · rcases List.mem_cons.mp hw' with rfl | hw'
      · exact k2
      · exact hw'
  · have := va_recv C.2.2.2.2.2.2.2.1.va hP hq (world_get ho)
    rw [hqc] at this
    exact this
theorem V_invS {mi' : MI} {n idx : Nat} {stk As : List Value} {Q' : Option Value → Mem → Prop} (hk : OKS mi' n) (hw : Cond.methodLink (mown mi) idx mi'.1 ∈ lw_g) (hn : As.length = n) (hlen : (lg_sl As).length ≤ mi'.2.2.1) (hs : stk = As.reverse ++ st) (hsum : (st.map fun v => v.category).sum ≤ 8) (hd : decode (mcode mi) pc = .ok (.invokestatic idx, 3))
    (h : V sh G mi' k 0 (lv_args 0 As) [] M Q') (kk : ∀ v M', Q' v M' → V sh G mi (k + 1) (pc + 3) lv (v.toList ++ st) M' Q) : V sh G mi (k + 1) pc lv stk M Q := by
  intro p l e s m args below meth c H locs ls C hP hS hl
  obtain ⟨⟨k1, k2, k3, k4, k5⟩, k6⟩ := hk
  refine V_goon (k := k + 1) C hS hl (va_runS (As := As) (rest := st) ⟨C.1, C.2.1, C.2.2.1, C.2.2.2.2.1, C.2.2.2.2.2.2.1⟩ (Met_of_V l k4 hlen h) (va_cwS n C.2.2.2.2.2.2.1 (GoodIn_g ?_) rfl rfl rfl k3 ⟨Nat.le_refl _, by show 8 + (mi'.2.2.1 + 11) + 35 * k ≤ 35 * (k + 1); omega⟩) ⟨Pre.blind, fun U hU hW => ⟨rfl, by rw [hU]; exact hP, C.2.2.2.2.2.2.2.1.moved hW.alike, by rw [hU]; exact C.2.2.2.2.2.2.2.2.to hW (fun a h1 h2 => hS.2.1 a h1 h2)⟩⟩ rfl hn hl.1 hs (lv_room hsum) hd ⟨Nat.le_refl _, Nat.le_refl _⟩) kk
  intro w hw'
  rcases List.mem_append.mp hw' with hw' | hw'
  · simp only [List.mem_cons, List.not_mem_nil, or_false] at hw'
    rcases hw' with rfl | rfl | rfl <;> assumption
  · rcases List.mem_cons.mp hw' with rfl | hw'
    · exact k2
    · exact hw'

theorem V_callVi {mi' : MI} {n idx o ci : Nat} {fs : List (Option Nat)} {stk : List Value} (As : List Value) (hk : OKV mi' n) (hw : Cond.methodLink (mown mi) idx mi'.1 ∈ lw_g) (ho : sh[o]? = some (.inr (ci, fs))) (hc : (cls[ci]?).map (fun q => q.1) = some mi'.1.cls) (hn : As.length = n) (hlen : (lg_sl (.ref (G.2.1 o) :: As)).length ≤ mi'.2.2.1) (hs : stk = As.reverse ++ .ref (G.2.1 o) :: st) (hsum : (st.map fun v => v.category).sum ≤ 8) (hd : decode (mcode mi) pc = .ok (.invokevirtual idx, 3)) (h : Ci sh G mi' k (.ref (G.2.1 o) :: As) M (fun x M' => V sh G mi (k + 1) (pc + 3) lv (.int x :: st) M' Q)) : V sh G mi (k + 1) pc lv stk M Q := V_invV hk hw ho hc hn hlen hs hsum hd h (by rintro v M' ⟨x, rfl, hx⟩; exact hx)
theorem V_callSi {mi' : MI} {n idx : Nat} {stk : List Value} (As : List Value) (hk : OKS mi' n) (hw : Cond.methodLink (mown mi) idx mi'.1 ∈ lw_g) (hn : As.length = n) (hlen : (lg_sl As).length ≤ mi'.2.2.1) (hs : stk = As.reverse ++ st) (hsum : (st.map fun v => v.category).sum ≤ 8) (hd : decode (mcode mi) pc = .ok (.invokestatic idx, 3)) (h : Ci sh G mi' k As M (fun x M' => V sh G mi (k + 1) (pc + 3) lv (.int x :: st) M' Q)) : V sh G mi (k + 1) pc lv stk M Q := V_invS hk hw hn hlen hs hsum hd h (by rintro v M' ⟨x, rfl, hx⟩; exact hx)
theorem V_callVl {mi' : MI} {n idx o ci : Nat} {fs : List (Option Nat)} {stk : List Value} (As : List Value) (hk : OKV mi' n) (hw : Cond.methodLink (mown mi) idx mi'.1 ∈ lw_g) (ho : sh[o]? = some (.inr (ci, fs))) (hc : (cls[ci]?).map (fun q => q.1) = some mi'.1.cls) (hn : As.length = n) (hlen : (lg_sl (.ref (G.2.1 o) :: As)).length ≤ mi'.2.2.1) (hs : stk = As.reverse ++ .ref (G.2.1 o) :: st) (hsum : (st.map fun v => v.category).sum ≤ 8) (hd : decode (mcode mi) pc = .ok (.invokevirtual idx, 3)) (h : Cl sh G mi' k (.ref (G.2.1 o) :: As) M (fun x M' => V sh G mi (k + 1) (pc + 3) lv (.long x :: st) M' Q)) : V sh G mi (k + 1) pc lv stk M Q := V_invV hk hw ho hc hn hlen hs hsum hd h (by rintro v M' ⟨x, rfl, hx⟩; exact hx)
theorem V_callSl {mi' : MI} {n idx : Nat} {stk : List Value} (As : List Value) (hk : OKS mi' n) (hw : Cond.methodLink (mown mi) idx mi'.1 ∈ lw_g) (hn : As.length = n) (hlen : (lg_sl As).length ≤ mi'.2.2.1) (hs : stk = As.reverse ++ st) (hsum : (st.map fun v => v.category).sum ≤ 8) (hd : decode (mcode mi) pc = .ok (.invokestatic idx, 3)) (h : Cl sh G mi' k As M (fun x M' => V sh G mi (k + 1) (pc + 3) lv (.long x :: st) M' Q)) : V sh G mi (k + 1) pc lv stk M Q := V_invS hk hw hn hlen hs hsum hd h (by rintro v M' ⟨x, rfl, hx⟩; exact hx)
theorem V_callVv {mi' : MI} {n idx o ci : Nat} {fs : List (Option Nat)} {stk : List Value} (As : List Value) (hk : OKV mi' n) (hw : Cond.methodLink (mown mi) idx mi'.1 ∈ lw_g) (ho : sh[o]? = some (.inr (ci, fs))) (hc : (cls[ci]?).map (fun q => q.1) = some mi'.1.cls) (hn : As.length = n) (hlen : (lg_sl (.ref (G.2.1 o) :: As)).length ≤ mi'.2.2.1) (hs : stk = As.reverse ++ .ref (G.2.1 o) :: st) (hsum : (st.map fun v => v.category).sum ≤ 8) (hd : decode (mcode mi) pc = .ok (.invokevirtual idx, 3)) (h : Cv sh G mi' k (.ref (G.2.1 o) :: As) M (fun M' => V sh G mi (k + 1) (pc + 3) lv (st) M' Q)) : V sh G mi (k + 1) pc lv stk M Q := V_invV hk hw ho hc hn hlen hs hsum hd h (by rintro v M' ⟨rfl, hx⟩; exact hx)
theorem V_callSv {mi' : MI} {n idx : Nat} {stk : List Value} (As : List Value) (hk : OKS mi' n) (hw : Cond.methodLink (mown mi) idx mi'.1 ∈ lw_g) (hn : As.length = n) (hlen : (lg_sl As).length ≤ mi'.2.2.1) (hs : stk = As.reverse ++ st) (hsum : (st.map fun v => v.category).sum ≤ 8) (hd : decode (mcode mi) pc = .ok (.invokestatic idx, 3)) (h : Cv sh G mi' k As M (fun M' => V sh G mi (k + 1) (pc + 3) lv (st) M' Q)) : V sh G mi (k + 1) pc lv stk M Q := V_invS hk hw hn hlen hs hsum hd h (by rintro v M' ⟨rfl, hx⟩; exact hx)
end VR
