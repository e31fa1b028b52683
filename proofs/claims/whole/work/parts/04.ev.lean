theorem i2l_of {x : Int} (hx : Ir x) : (Int32.ofInt x).toInt64 = Int64.ofInt x := Int32.toInt64_ofInt hx.1 hx.2
theorem dv_rng32 {x y : Int} (hx : Ir x) (hm : y ≠ -1) : Ir (x.tdiv y) := by
  have h := Int.natAbs_tdiv_le_natAbs x y
  by_cases h1 : x = -2147483648
  · by_cases h2 : y = 0
    · subst h2; simp [Ir]
    · by_cases h3 : y = 1
      · subst h3; simpa using hx
      · have h4 : (x.tdiv y).natAbs ≤ 1073741824 := by
          rw [Int.natAbs_tdiv]
          have h5 : 2 ≤ y.natAbs := by omega
          have h6 : x.natAbs = 2147483648 := by omega
          rw [h6]
          exact Nat.le_trans (Nat.div_le_div_left h5 (by decide)) (by decide)
        exact ⟨by omega, by omega⟩
  · exact ⟨by omega, by omega⟩
theorem dv_rng64 {x y : Int} (hx : Jr x) (hm : y ≠ -1) : Jr (x.tdiv y) := by
  have h := Int.natAbs_tdiv_le_natAbs x y
  by_cases h1 : x = -9223372036854775808
  · by_cases h2 : y = 0
    · subst h2; simp [Jr]
    · by_cases h3 : y = 1
      · subst h3; simpa using hx
      · have h4 : (x.tdiv y).natAbs ≤ 4611686018427387904 := by
          rw [Int.natAbs_tdiv]
          have h5 : 2 ≤ y.natAbs := by omega
          have h6 : x.natAbs = 9223372036854775808 := by omega
          rw [h6]
          exact Nat.le_trans (Nat.div_le_div_left h5 (by decide)) (by decide)
        exact ⟨by omega, by omega⟩
  · exact ⟨by omega, by omega⟩
/-! THE JUDGEMENT -/
def WS : List Cond := lw_tbl.filter goodWord
theorem WS_in {w : Cond} (k : Nat) (h : lw_tbl[k]? = some w) (hg : goodWord w = true) : w ∈ WS := List.mem_filter.mpr ⟨List.mem_of_getElem? h, hg⟩
theorem WS_good {w : Cond} (h : w ∈ WS) : (w.onTables && w.keeps) = true ∨ ∃ ty, w = .arrayClass ty := good_of_word (List.mem_filter.mp h).2
theorem WS_tbl {w : Cond} (h : w ∈ WS) : w ∈ lw_tbl := (List.mem_filter.mp h).1
def nstM : List (String × Nat × MethodName × String) := [("SaidByTimes", 17, yX8_init, "SaidByTimes"), ("SaidByTimes", 24, yX9_init, "SaidByTimes"), ("SaidByTimes", 40, yX7_init, "SaidByTimes"), ("SaidByTimes$Speech", 11, yX9_init, "SaidByTimes"), ("SaidByTimes", 51, yX3_init, "SaidByTimes"), ("SaidByTimes", 58, yX2_init, "SaidByTimes"), ("SaidByTimes$Judge", 17, yX3_init, "SaidByTimes"), ("SaidByTimes", 65, yX4_init, "SaidByTimes"), ("SaidByTimes", 72, yX1_init, "SaidByTimes"), ("SaidByTimes", 79, yX0_init, "SaidByTimes"), ("SaidByTimes", 84, yX6_init, "SaidByTimes"), ("SaidByTimes$Row", 30, yX10_store, "SaidByTimes"), ("SaidByTimes$Row", 26, yX10_at, "SaidByTimes"), ("SaidByTimes$Tongue", 60, yX10_at, "SaidByTimes"), ("SaidByTimes$Tongue", 46, yX10_store, "SaidByTimes"), ("SaidByTimes$Parts", 35, yX10_store, "SaidByTimes"), ("SaidByTimes$Parts", 59, yX10_at, "SaidByTimes"), ("SaidByTimes$Dealing", 38, yX10_store, "SaidByTimes"), ("SaidByTimes$Dealing", 70, yX10_at, "SaidByTimes"), ("SaidByTimes$Asking", 56, yX10_at, "SaidByTimes"), ("SaidByTimes$Asking", 60, yX10_wider, "SaidByTimes"), ("SaidByTimes$Asking", 78, yX10_store, "SaidByTimes")]
def nstF : List (String × Nat × String × String × String × String) := [("SaidByTimes$Asking", 43, "SaidByTimes", "SIZE_BODIES", "[I", "SaidByTimes"), ("SaidByTimes$Asking", 46, "SaidByTimes", "MARK_BODIES", "[I", "SaidByTimes")]

/-- static fields: class, name, descriptor, value -/
def stZ : List (String × String × String × AV) := [("SaidByTimes", "WIDER", "[I", vr 1001), ("SaidByTimes", "SIZE_BODIES", "[I", vr 1002), ("SaidByTimes", "MARK_BODIES", "[I", vr 1003), ("SaidByTimes", "UNITS", "[J", vr 1004), ("java/lang/String", "COMPACT_STRINGS", "Z", vi 1)]
/-- what the arrays outside hold -/
def xI (o : Nat) (i : Int) : Int := match o with
  | 1001 => ([-1, 0, 1, 0, 3, 1] : List Int).getD i.toNat 0
  | 1002 => ([10, 11, 12, 13, 0, 14] : List Int).getD i.toNat 0
  | 1003 => ([20, 21, 23, 24, 22, 0] : List Int).getD i.toNat 0
  | 1009 => ([116, 104, 105, 110, 103] : List Int).getD i.toNat 0
  | 1010 => ([114, 117, 108, 101] : List Int).getD i.toNat 0
  | 1011 => ([112, 97, 105, 114] : List Int).getD i.toNat 0
  | 1012 => ([111, 114] : List Int).getD i.toNat 0
  | _ => 0
def xL (i : Int) : Int := ([1, 10, 100, 1000, 10000, 100000, 1000000, 10000000, 100000000, 1000000000, 10000000000, 100000000000, 1000000000000, 10000000000000, 100000000000000, 1000000000000000] : List Int).getD i.toNat 0
def xln (o : Nat) : Nat := match o with
  | 1001 => 6 | 1002 => 6 | 1003 => 6 | 1004 => 16 | 1009 => 5 | 1010 => 4 | 1011 => 4 | 1012 => 2 | _ => 0
theorem xI_r (o : Nat) (i : Int) : Ir (xI o i) := by
  have h : ∀ (l : List Int), (∀ z ∈ l, Ir z) → ∀ k, Ir (l.getD k 0) := by
    intro l hl k
    rw [List.getD_eq_getElem?_getD]
    cases hk : l[k]? with
    | none => exact ⟨by decide, by decide⟩
    | some z => exact hl z (List.mem_of_getElem? hk)
  unfold xI
  split <;> first | exact h _ (by decide) _ | exact ⟨by decide, by decide⟩
theorem xL_r (i : Int) : Jr (xL i) := by
  have h : ∀ (l : List Int), (∀ z ∈ l, Jr z) → ∀ k, Jr (l.getD k 0) := by
    intro l hl k
    rw [List.getD_eq_getElem?_getD]
    cases hk : l[k]? with
    | none => exact ⟨by decide, by decide⟩
    | some z => exact hl z (List.mem_of_getElem? hk)
  unfold xL
  exact h _ (by decide) _
def rdI (E : En) (I : MI) (o : Nat) (i : Int) : Int := if o < 1000 then I o i else if o = 1000 then (Exs E i.toNat).toInt else xI o i
def rdL (L : MI) (o : Nat) (i : Int) : Int := if o < 1000 then L o i else xL i
/-- the kind and the length of an array -/
def arr (E : En) (g : Geo) (o : Nat) : Option (Nat × Nat) := if o < 1000 then (match g.1[o]? with
  | some (.inr q) => some q
  | _ => none) else match o with
  | 1000 => some (0, EN E) | 1001 => some (0, 6) | 1002 => some (0, 6) | 1003 => some (0, 6) | 1004 => some (3, 16) | 1009 => some (1, 5) | 1010 => some (1, 4) | 1011 => some (1, 4) | 1012 => some (1, 2) | _ => none
abbrev xty (o : Nat) : FieldType := match o with
  | 1004 => .long | 1009 => .byte | 1010 => .byte | 1011 => .byte | 1012 => .byte | _ => .int
abbrev xvl (o : Nat) (j : Nat) : Value := if o = 1004 then .long (Int64.ofInt (xL j)) else .int (Int32.ofInt (xI o j))
def Xt (E : En) (U : State) (H : Heap) : Prop :=
  EB E ≤ H.size ∧ (va_X (EX E 0) (EN E) (Exs E) U H ∧ EX E 0 < EB E) ∧
  (∀ q ∈ stZ, va_Z q.1 q.2.1 q.2.2.1 (cv E q.2.2.2) (EF E) U H) ∧
  (∀ o ∈ ([1001, 1002, 1003, 1004, 1009, 1010, 1011, 1012] : List Nat), va_T (xty o) (EX E (o - 1000)) (xln o) (xvl o) (EF E) U H) ∧
  (∀ o ∈ ([1005, 1006, 1007, 1008] : List Nat), va_O "java/lang/String" (EX E (o - 1000)) (EF E) U H ∧ va_OF "java/lang/String" "coder" "B" (.int 0) (EX E (o - 1000)) (EF E) U H ∧ va_OF "java/lang/String" "value" "[B" (.ref (EX E (o - 996))) (EX E (o - 1000)) (EF E) U H) ∧
  (∀ q ∈ ([(34, "thing", 5), (47, "rule", 6), (52, "pair", 7), (71, "or", 8)] : List (Nat × String × Nat)), vk_R "SaidByTimes$Reader" q.1 q.2.1 (EX E q.2.2) U) ∧
  (va_Z "jdk/internal/util/Preconditions" "SIOOBE_FORMATTER" "Ljava/util/function/BiFunction;" .null (EF E) U H ∨ va_Z "jdk/internal/util/Preconditions" "SIOOBE_FORMATTER" "Ljava/util/function/BiFunction;" (.ref (EX E 13)) (EF E) U H) ∧
  (∀ q ∈ nstM, va_Nw (.methodLinkNest q.1 q.2.1 q.2.2.1 q.2.2.2) U) ∧
  (∀ q ∈ nstF, va_Nw (.fieldLinkNest q.1 q.2.1 q.2.2.1 q.2.2.2.1 q.2.2.2.2.1 q.2.2.2.2.2) U) ∧
  EN E ≤ 3072 ∧ (va_AO "SaidByTimes$Row" U ∧ va_AO "SaidByTimes$Speech" U)
theorem Xt.warm {E : En} {u U : State} {H : Heap} (hW : u.WarmedH U.vm) (h : Xt E u H) : Xt E U H := by
  obtain ⟨h1, ⟨h2, h3⟩, h4, h5, h6, h7, h8, h9, h10, h11, h12⟩ := h
  have hv := hW.alike
  exact ⟨h1, ⟨h2.moved hv, h3⟩, fun q hq => (h4 q hq).moved hv, fun o ho => (h5 o ho).moved hv, fun o ho => ⟨va_O.moved hv (h6 o ho).1, va_OF.moved hv (h6 o ho).2.1, va_OF.moved hv (h6 o ho).2.2⟩, fun q hq => (h7 q hq).warm hW, h8.imp (·.moved hv) (·.moved hv), fun q hq => (h9 q hq).warmM hW, fun q hq => (h10 q hq).warmF hW, h11, h12.1.moved hv, h12.2.moved hv⟩
theorem Xt.same {E : En} {u U : State} {H : Heap} (hv : U.vm = u.vm) (h : Xt E u H) : Xt E U H := by
  obtain ⟨h1, ⟨h2, h3⟩, h4, h5, h6, h7, h8, h9, h10, h11, h12⟩ := h
  have ha : u.vm.Alike U.vm := by rw [hv]; exact Vm.Alike.refl _
  exact ⟨h1, ⟨h2.moved ha, h3⟩, fun q hq => (h4 q hq).moved ha, fun o ho => (h5 o ho).moved ha, fun o ho => ⟨va_O.moved ha (h6 o ho).1, va_OF.moved ha (h6 o ho).2.1, va_OF.moved ha (h6 o ho).2.2⟩, fun q hq => (h7 q hq).same hv, h8.imp (·.moved ha) (·.moved ha), fun q hq => va_Nw.same rfl hv.symm (h9 q hq), fun q hq => va_Nw.same rfl hv.symm (h10 q hq), h11, h12.1.moved ha, h12.2.moved ha⟩
theorem Xt.kept {E : En} {U : State} {H H1 : Heap} (h : Xt E U H) (hz : H.size ≤ H1.size) (hq : ∀ a : Nat, a < H.size → ¬ EF E a → H1[a]? = H[a]?) : Xt E U H1 := by
  obtain ⟨h1, ⟨h2, h3⟩, h4, h5, h6, h7, h8, h9, h10, h11, h12⟩ := h
  exact ⟨Nat.le_trans h1 hz, ⟨h2.kept (hq _ (Nat.lt_of_lt_of_le h3 h1) (Nat.not_le.mpr h3)), h3⟩, fun q hm => (h4 q hm).kept hq, fun o ho => (h5 o ho).kept hq, fun o ho => ⟨(h6 o ho).1.kept hq, (h6 o ho).2.1.kept hq, (h6 o ho).2.2.kept hq⟩, h7, h8.imp (·.kept hq) (·.kept hq), h9, h10, h11, h12⟩
def Cx (μ : Mu) (p : Program) (s : State) (m : MethodId) (args : Array Value) (meth : Method) (c : Code) : Prop :=
  p.tables.exec = Jvm.exec ∧ c.code = μ.2.1 ∧ c.maxLocals = μ.2.2.1 ∧ s.vm.findClass μ.1.cls = some m.cls ∧ (∀ w ∈ WS, w.before args s = true) ∧ meth.sig.returnType = μ.2.2.2.1 ∧ meth.locks = false ∧ (μ.1.name = "<init>" → meth.name = "<init>")
def RmOk (d : Nat) (μ : Mu) (R : Room) : Prop := d ≤ R.frames ∧ 40 * d ≤ R.locals ∧ μ.2.2.2.2.1 ≤ R.cells ∧ μ.2.2.2.2.2 ≤ R.slots
def Ev (E : En) (d : Nat) (μ : Mu) (pc : Nat) (al st : List AV) (κ : Kp) (I L : MI) (Z : Zt) : Prop :=
  ∀ (R : Room) (p : Program) (e : Env) (s : State) (m : MethodId) (args : Array Value) (below : List Frame) (meth : Method) (c : Code) (H : Heap) (locs : List Loc) (ls : Array Slot),
    RmOk d μ R → Cx μ p s m args meth c → Xt E s s.heap → Wd E κ.1 I L s H → va_S (EF E) s.heap H locs → Lr E μ.2.2.1 ls al →
    W p (El E) e R s m args below meth c H locs κ.2.1 κ.2.2 (Z below args s) (F0 m pc ls (st.map (cv E)))
def rmd (d : Nat) (mc ms : Nat) : Room := { frames := d, cells := mc, slots := ms, locals := 40 * d }
def QcE (E : En) (Q : Option AV → Geo → MI → MI → Prop) : Array Value → State → Outcome → State → Prop := fun _ st o t =>
  (∃ (r : Option AV) (g : Geo) (I L : MI), o = .returned (r.map (cv E)) ∧ Wd E g I L t t.heap ∧ Q r g I L) ∧ va_F (EF E) st t
def PcE (E : En) (as : List AV) (g : Geo) (I L : MI) : Array Value → State → Prop := fun v U => v = (as.map (cv E)).toArray ∧ Xt E U U.heap ∧ Wd E g I L U U.heap
abbrev wsM (μ : Mu) : List Cond := Cond.code μ.1 μ.2.1 μ.2.2.1 μ.2.2.2.1 :: WS
/-- a method's contract -/
def CM (E : En) (d : Nat) (μ : Mu) (as : List AV) (g : Geo) (I L : MI) (Q : Option AV → Geo → MI → MI → Prop) : Prop :=
  Met (El E) μ.1 (wsM μ) (rmd d μ.2.2.2.2.1 μ.2.2.2.2.2) (PcE E as g I L) (QcE E Q) μ.2.2.2.2.1 μ.2.2.2.2.2 (EF E)
def ZQ (E : En) (μ : Mu) (Q : Option AV → Geo → MI → MI → Prop) : Zt := fun below args s => MQ below (QcE E Q) args s μ.2.2.2.2.1 μ.2.2.2.2.2 (EF E)
theorem Wd.vm {E : En} {g : Geo} {I L : MI} {u U : State} {H : Heap} (hv : u.vm.Alike U.vm) (h : Wd E g I L u H) : Wd E g I L U H := ⟨h.1, h.2.1, h.2.2.1, h.2.2.2.1.moved hv, h.2.2.2.2⟩
theorem wld_get {E : En} {g : Geo} {I L : MI} {o : Nat} {s : Shp} (h : g.1[o]? = some s) : (wld E g I L)[o]? = some (EB E + o, ent E g I L o s) := by
  unfold wld
  rw [List.getElem?_mapIdx, h]
  rfl
theorem wld_of {E : En} {g : Geo} {I L : MI} {o : Nat} {q : Nat × va_E} (h : (wld E g I L)[o]? = some q) : ∃ s, g.1[o]? = some s ∧ q = (EB E + o, ent E g I L o s) := by
  unfold wld at h
  rw [List.getElem?_mapIdx] at h
  cases hs : g.1[o]? with
  | none => rw [hs] at h; cases h
  | some s => rw [hs] at h; exact ⟨s, rfl, (Option.some.inj h).symm⟩
theorem wld_D {E : En} {g : Geo} {I L : MI} : va_D (EF E) (wld E g I L) := by
  refine ⟨fun i j p q hi hj e => ?_, fun k q hk => ?_⟩
  · obtain ⟨s, -, rfl⟩ := wld_of hi
    obtain ⟨t, -, rfl⟩ := wld_of hj
    simpa using e
  · obtain ⟨s, -, rfl⟩ := wld_of hk
    exact Nat.le_add_right _ _
theorem PcE_blind {E : En} {as : List AV} {g : Geo} {I L : MI} : FrameBlind (PcE E as g I L) := fun a U G mk h => ⟨h.1, Xt.same (u := U) rfl h.2.1, Wd.vm (u := U) (Vm.Alike.refl U.vm) h.2.2⟩
theorem wsM_good {μ : Mu} (hc : Cond.code μ.1 μ.2.1 μ.2.2.1 μ.2.2.2.1 ∈ WS) : GoodIn WS (wsM μ) := by
  intro w hw
  rcases List.mem_cons.mp hw with rfl | h
  · exact ⟨hc, WS_good hc⟩
  · exact ⟨h, WS_good h⟩
set_option maxHeartbeats 1000000 in
/-- the body proves the contract -/
theorem CM_of {E : En} {d : Nat} {μ : Mu} {as al : List AV} {g : Geo} {I L : MI} {Q : Option AV → Geo → MI → MI → Prop} (hy : plainName μ.1.cls = true) (hn : (alOf as).length ≤ μ.2.2.1) (ha : alOf as ++ List.replicate (μ.2.2.1 - (alOf as).length) vu = al)
    (h : Ev E d μ 0 al [] (g, 0, 0) I L (ZQ E μ Q)) : CM E d μ as g I L Q := by
  refine Met.ofW (cc := μ.2.1) (maxL := μ.2.2.1) (ret := μ.2.2.2.1) (ws' := WS) hy rfl ?_
  intro p e s m args below meth c s₁ B hml hP
  obtain ⟨rfl, hX, hW⟩ := hP
  have hts : ∀ w ∈ wsM μ, w.before (as.map (cv E)).toArray s = true := atoms_spec (ws := wsM μ) B.pre
  have hown : s.vm.findClass μ.1.cls = some m.cls := findClass_of_methodNamed B.named
  rw [lg_entry_eq]
  exact h _ p e s m _ below meth c s.heap [] _ ⟨Nat.le_refl _, Nat.le_refl _, Nat.le_refl _, Nat.le_refl _⟩ ⟨B.exec, B.bytes, hml, hown, fun w hw => hts w (List.mem_cons_of_mem _ hw), B.returns, B.notSynchronized, fun hi => by rw [(name_of_methodNamed B.named B.method).1]; exact hi⟩ hX hW va_S.rf (Lr.entry hn ha)
theorem Ev.weak {E : En} {d : Nat} {μ : Mu} {pc : Nat} {al al' st : List AV} {κ : Kp} {I L : MI} {Z : Zt} (hl : al'.length = al.length) (hw : ∀ (i : Nat) (v : AV), al'[i]? = some v → isu v = false → al[i]? = some v) (k : Ev E d μ pc al' st κ I L Z) : Ev E d μ pc al st κ I L Z := by
  intro R p e s m args below meth c H locs ls hR hC hX hW hS hL
  exact k R p e s m args below meth c H locs ls hR hC hX hW hS (hL.weak hl hw)

theorem E_iconst {E : En} {d : Nat} {μ : Mu} {pc : Nat} {al st : List AV} {κ : Kp} {I L : MI} {Z : Zt} {n : Int} {v : Int} (hd : decode μ.2.1 pc = .ok (.iconst n, 1)) (hv : n = v := by rfl) (k : Ev E d μ (pc + 1) al (vi v :: st) κ I L Z) : Ev E d μ pc al st κ I L Z := by
  intro R p e s m args below meth c H locs ls hR hC hX hW hS hL
  subst hv
  exact lv_iconst hC.1 hC.2.1 hd rfl (k R p e s m args below meth c H locs ls hR hC hX hW hS hL)
theorem E_bipush {E : En} {d : Nat} {μ : Mu} {pc : Nat} {al st : List AV} {κ : Kp} {I L : MI} {Z : Zt} {n : Int} {v : Int} (hd : decode μ.2.1 pc = .ok (.bipush n, 2)) (hv : (Int8.ofInt n).toInt32 = Int32.ofInt v := by rfl) (k : Ev E d μ (pc + 2) al (vi v :: st) κ I L Z) : Ev E d μ pc al st κ I L Z := by
  intro R p e s m args below meth c H locs ls hR hC hX hW hS hL
  exact lv_bipush hC.1 hC.2.1 hd hv (k R p e s m args below meth c H locs ls hR hC hX hW hS hL)
theorem E_sipush {E : En} {d : Nat} {μ : Mu} {pc : Nat} {al st : List AV} {κ : Kp} {I L : MI} {Z : Zt} {n : Int} {v : Int} (hd : decode μ.2.1 pc = .ok (.sipush n, 3)) (hv : (Int16.ofInt n).toInt32 = Int32.ofInt v := by rfl) (k : Ev E d μ (pc + 3) al (vi v :: st) κ I L Z) : Ev E d μ pc al st κ I L Z := by
  intro R p e s m args below meth c H locs ls hR hC hX hW hS hL
  exact lv_sipush hC.1 hC.2.1 hd hv (k R p e s m args below meth c H locs ls hR hC hX hW hS hL)
theorem E_lconst {E : En} {d : Nat} {μ : Mu} {pc : Nat} {al st : List AV} {κ : Kp} {I L : MI} {Z : Zt} {n : Fin 2} {v : Int} (hd : decode μ.2.1 pc = .ok (.lconst n, 1)) (hv : Int64.ofNat (n : Nat) = Int64.ofInt v := by rfl) (k : Ev E d μ (pc + 1) al (vl v :: st) κ I L Z) : Ev E d μ pc al st κ I L Z := by
  intro R p e s m args below meth c H locs ls hR hC hX hW hS hL
  exact lv_lconst hC.1 hC.2.1 hd hv (k R p e s m args below meth c H locs ls hR hC hX hW hS hL)
theorem E_ldc {E : En} {d : Nat} {μ : Mu} {pc : Nat} {al st : List AV} {κ : Kp} {I L : MI} {Z : Zt} {n : Nat} {v : Int} (hd : decode μ.2.1 pc = .ok (.ldc n, 2)) (hw : Cond.constant μ.1.cls n (Int32.ofInt v) ∈ WS) (k : Ev E d μ (pc + 2) al (vi v :: st) κ I L Z) : Ev E d μ pc al st κ I L Z := by
  intro R p e s m args below meth c H locs ls hR hC hX hW hS hL
  exact lv_ldc hC.1 hC.2.1 hC.2.2.2.1 (hC.2.2.2.2.1 _ hw) hd (k R p e s m args below meth c H locs ls hR hC hX hW hS hL)
theorem E_ldc2 {E : En} {d : Nat} {μ : Mu} {pc : Nat} {al st : List AV} {κ : Kp} {I L : MI} {Z : Zt} {n : Nat} {v : Int} (hd : decode μ.2.1 pc = .ok (.ldc2_w n, 3)) (hw : Cond.constantLong μ.1.cls n (Int64.ofInt v) ∈ WS) (k : Ev E d μ (pc + 3) al (vl v :: st) κ I L Z) : Ev E d μ pc al st κ I L Z := by
  intro R p e s m args below meth c H locs ls hR hC hX hW hS hL
  exact lv_ldc2 hC.1 hC.2.1 hC.2.2.2.1 (hC.2.2.2.2.1 _ hw) hd (k R p e s m args below meth c H locs ls hR hC hX hW hS hL)
theorem E_ldcS {E : En} {d : Nat} {μ : Mu} {pc : Nat} {al st : List AV} {κ : Kp} {I L : MI} {Z : Zt} {n j : Nat} {tx : String} (hd : decode μ.2.1 pc = .ok (.ldc n, 2)) (hy : μ.1.cls = "SaidByTimes$Reader") (hw : (n, tx, j) ∈ ([(34, "thing", 5), (47, "rule", 6), (52, "pair", 7), (71, "or", 8)] : List (Nat × String × Nat))) (k : Ev E d μ (pc + 2) al (vr (1000 + j) :: st) κ I L Z) : Ev E d μ pc al st κ I L Z := by
  intro R p e s m args below meth c H locs ls hR hC hX hW hS hL
  have h1 := hX.2.2.2.2.2.1 (n, tx, j) hw
  have h2 : F0 m (pc + 2) ls ((vr (1000 + j) :: st).map (cv E)) = F0 m (pc + 2) ls (.ref (EX E j) :: st.map (cv E)) := by
    show F0 m (pc + 2) ls (.ref (adr E (1000 + j)) :: st.map (cv E)) = _
    unfold adr
    rw [if_neg (by omega), show 1000 + j - 1000 = j by omega]
  have hk := (k R p e s m args below meth c H locs ls hR hC hX hW hS hL)
  rw [h2] at hk
  exact va_ldcS hC.1 hC.2.1 (own := "SaidByTimes$Reader") (hy ▸ hC.2.2.2.1) h1 hd hk
theorem E_iload_n {E : En} {d : Nat} {μ : Mu} {pc : Nat} {al st : List AV} {κ : Kp} {I L : MI} {Z : Zt} {j : Fin 4} {x : Int} (hd : decode μ.2.1 pc = .ok (.iload_n j, 1)) (hl : al[(j : Nat)]? = some (vi x) := by rfl) (k : Ev E d μ (pc + 1) al (vi x :: st) κ I L Z) : Ev E d μ pc al st κ I L Z := by
  intro R p e s m args below meth c H locs ls hR hC hX hW hS hL
  exact lv_iload_n hC.1 hC.2.1 hd rfl (hL.get hl rfl) (k R p e s m args below meth c H locs ls hR hC hX hW hS hL)
theorem E_iload {E : En} {d : Nat} {μ : Mu} {pc : Nat} {al st : List AV} {κ : Kp} {I L : MI} {Z : Zt} {j : Nat} {x : Int} (hd : decode μ.2.1 pc = .ok (.iload j, 2)) (hl : al[j]? = some (vi x) := by rfl) (k : Ev E d μ (pc + 2) al (vi x :: st) κ I L Z) : Ev E d μ pc al st κ I L Z := by
  intro R p e s m args below meth c H locs ls hR hC hX hW hS hL
  exact lv_iload hC.1 hC.2.1 hd (hL.get hl rfl) (k R p e s m args below meth c H locs ls hR hC hX hW hS hL)
theorem E_lload_n {E : En} {d : Nat} {μ : Mu} {pc : Nat} {al st : List AV} {κ : Kp} {I L : MI} {Z : Zt} {j : Fin 4} {x : Int} (hd : decode μ.2.1 pc = .ok (.lload_n j, 1)) (hl : al[(j : Nat)]? = some (vl x) := by rfl) (k : Ev E d μ (pc + 1) al (vl x :: st) κ I L Z) : Ev E d μ pc al st κ I L Z := by
  intro R p e s m args below meth c H locs ls hR hC hX hW hS hL
  exact lv_lload_n hC.1 hC.2.1 hd rfl (hL.get hl rfl) (k R p e s m args below meth c H locs ls hR hC hX hW hS hL)
theorem E_lload {E : En} {d : Nat} {μ : Mu} {pc : Nat} {al st : List AV} {κ : Kp} {I L : MI} {Z : Zt} {j : Nat} {x : Int} (hd : decode μ.2.1 pc = .ok (.lload j, 2)) (hl : al[j]? = some (vl x) := by rfl) (k : Ev E d μ (pc + 2) al (vl x :: st) κ I L Z) : Ev E d μ pc al st κ I L Z := by
  intro R p e s m args below meth c H locs ls hR hC hX hW hS hL
  exact lv_lload hC.1 hC.2.1 hd (hL.get hl rfl) (k R p e s m args below meth c H locs ls hR hC hX hW hS hL)
theorem E_aload_n {E : En} {d : Nat} {μ : Mu} {pc : Nat} {al st : List AV} {κ : Kp} {I L : MI} {Z : Zt} {j : Fin 4} {x : Nat} (hd : decode μ.2.1 pc = .ok (.aload_n j, 1)) (hl : al[(j : Nat)]? = some (vr x) := by rfl) (k : Ev E d μ (pc + 1) al (vr x :: st) κ I L Z) : Ev E d μ pc al st κ I L Z := by
  intro R p e s m args below meth c H locs ls hR hC hX hW hS hL
  exact lv_aload_n hC.1 hC.2.1 hd rfl (hL.get hl rfl) (k R p e s m args below meth c H locs ls hR hC hX hW hS hL)
theorem E_aload {E : En} {d : Nat} {μ : Mu} {pc : Nat} {al st : List AV} {κ : Kp} {I L : MI} {Z : Zt} {j : Nat} {x : Nat} (hd : decode μ.2.1 pc = .ok (.aload j, 2)) (hl : al[j]? = some (vr x) := by rfl) (k : Ev E d μ (pc + 2) al (vr x :: st) κ I L Z) : Ev E d μ pc al st κ I L Z := by
  intro R p e s m args below meth c H locs ls hR hC hX hW hS hL
  exact lv_aload hC.1 hC.2.1 hd (hL.get hl rfl) (k R p e s m args below meth c H locs ls hR hC hX hW hS hL)
theorem E_istore_n {E : En} {d : Nat} {μ : Mu} {pc : Nat} {al st : List AV} {κ : Kp} {I L : MI} {Z : Zt} {j : Fin 4} {al' : List AV} {x : Int} (hd : decode μ.2.1 pc = .ok (.istore_n j, 1)) (hs : s1 al (j : Nat) (vi x) = al' := by rfl) (hi : (j : Nat) < al.length := by simp) (k : Ev E d μ (pc + 1) al' st κ I L Z) : Ev E d μ pc al (vi x :: st) κ I L Z := by
  intro R p e s m args below meth c H locs ls hR hC hX hW hS hL
  exact lv_istore_n hC.1 hC.2.1 hd rfl hL.1 (hL.2 ▸ hi) rfl (fun ls' h' => k R p e s m args below meth c H locs ls' hR hC hX hW hS (Lr.st1 hL.2 hs h'))
theorem E_istore {E : En} {d : Nat} {μ : Mu} {pc : Nat} {al st : List AV} {κ : Kp} {I L : MI} {Z : Zt} {j : Nat} {al' : List AV} {x : Int} (hd : decode μ.2.1 pc = .ok (.istore j, 2)) (hs : s1 al j (vi x) = al' := by rfl) (hi : j < al.length := by simp) (k : Ev E d μ (pc + 2) al' st κ I L Z) : Ev E d μ pc al (vi x :: st) κ I L Z := by
  intro R p e s m args below meth c H locs ls hR hC hX hW hS hL
  exact lv_istore hC.1 hC.2.1 hd hL.1 (hL.2 ▸ hi) rfl (fun ls' h' => k R p e s m args below meth c H locs ls' hR hC hX hW hS (Lr.st1 hL.2 hs h'))
theorem E_lstore_n {E : En} {d : Nat} {μ : Mu} {pc : Nat} {al st : List AV} {κ : Kp} {I L : MI} {Z : Zt} {j : Fin 4} {al' : List AV} {x : Int} (hd : decode μ.2.1 pc = .ok (.lstore_n j, 1)) (hs : s2 al (j : Nat) (vl x) = al' := by rfl) (hi : (j : Nat) + 1 < al.length := by simp) (k : Ev E d μ (pc + 1) al' st κ I L Z) : Ev E d μ pc al (vl x :: st) κ I L Z := by
  intro R p e s m args below meth c H locs ls hR hC hX hW hS hL
  exact lv_lstore_n hC.1 hC.2.1 hd rfl hL.1 (hL.2 ▸ hi) rfl (fun ls' h' => k R p e s m args below meth c H locs ls' hR hC hX hW hS (Lr.st2 hL.2 hs h'))
theorem E_lstore {E : En} {d : Nat} {μ : Mu} {pc : Nat} {al st : List AV} {κ : Kp} {I L : MI} {Z : Zt} {j : Nat} {al' : List AV} {x : Int} (hd : decode μ.2.1 pc = .ok (.lstore j, 2)) (hs : s2 al j (vl x) = al' := by rfl) (hi : j + 1 < al.length := by simp) (k : Ev E d μ (pc + 2) al' st κ I L Z) : Ev E d μ pc al (vl x :: st) κ I L Z := by
  intro R p e s m args below meth c H locs ls hR hC hX hW hS hL
  exact lv_lstore hC.1 hC.2.1 hd hL.1 (hL.2 ▸ hi) rfl (fun ls' h' => k R p e s m args below meth c H locs ls' hR hC hX hW hS (Lr.st2 hL.2 hs h'))
theorem E_astore_n {E : En} {d : Nat} {μ : Mu} {pc : Nat} {al st : List AV} {κ : Kp} {I L : MI} {Z : Zt} {j : Fin 4} {al' : List AV} {x : Nat} (hd : decode μ.2.1 pc = .ok (.astore_n j, 1)) (hs : s1 al (j : Nat) (vr x) = al' := by rfl) (hi : (j : Nat) < al.length := by simp) (k : Ev E d μ (pc + 1) al' st κ I L Z) : Ev E d μ pc al (vr x :: st) κ I L Z := by
  intro R p e s m args below meth c H locs ls hR hC hX hW hS hL
  exact lv_astore_n hC.1 hC.2.1 hd rfl hL.1 (hL.2 ▸ hi) rfl (fun ls' h' => k R p e s m args below meth c H locs ls' hR hC hX hW hS (Lr.st1 hL.2 hs h'))
theorem E_astore {E : En} {d : Nat} {μ : Mu} {pc : Nat} {al st : List AV} {κ : Kp} {I L : MI} {Z : Zt} {j : Nat} {al' : List AV} {x : Nat} (hd : decode μ.2.1 pc = .ok (.astore j, 2)) (hs : s1 al j (vr x) = al' := by rfl) (hi : j < al.length := by simp) (k : Ev E d μ (pc + 2) al' st κ I L Z) : Ev E d μ pc al (vr x :: st) κ I L Z := by
  intro R p e s m args below meth c H locs ls hR hC hX hW hS hL
  exact lv_astore hC.1 hC.2.1 hd hL.1 (hL.2 ▸ hi) rfl (fun ls' h' => k R p e s m args below meth c H locs ls' hR hC hX hW hS (Lr.st1 hL.2 hs h'))
theorem E_iadd {E : En} {d : Nat} {μ : Mu} {pc : Nat} {al st : List AV} {κ : Kp} {I L : MI} {Z : Zt} {x y : Int} (hd : decode μ.2.1 pc = .ok (.iadd, 1)) (k : Ev E d μ (pc + 1) al (vi (x + y) :: st) κ I L Z) : Ev E d μ pc al (vi y :: vi x :: st) κ I L Z := by
  intro R p e s m args below meth c H locs ls hR hC hX hW hS hL
  refine lv_iadd hC.1 hC.2.1 hd ?_
  rw [← Int32.ofInt_add]
  exact k R p e s m args below meth c H locs ls hR hC hX hW hS hL
theorem E_ladd {E : En} {d : Nat} {μ : Mu} {pc : Nat} {al st : List AV} {κ : Kp} {I L : MI} {Z : Zt} {x y : Int} (hd : decode μ.2.1 pc = .ok (.ladd, 1)) (k : Ev E d μ (pc + 1) al (vl (x + y) :: st) κ I L Z) : Ev E d μ pc al (vl y :: vl x :: st) κ I L Z := by
  intro R p e s m args below meth c H locs ls hR hC hX hW hS hL
  refine lv_ladd hC.1 hC.2.1 hd ?_
  rw [← Int64.ofInt_add]
  exact k R p e s m args below meth c H locs ls hR hC hX hW hS hL
theorem E_isub {E : En} {d : Nat} {μ : Mu} {pc : Nat} {al st : List AV} {κ : Kp} {I L : MI} {Z : Zt} {x y : Int} (hd : decode μ.2.1 pc = .ok (.isub, 1)) (k : Ev E d μ (pc + 1) al (vi (x - y) :: st) κ I L Z) : Ev E d μ pc al (vi y :: vi x :: st) κ I L Z := by
  intro R p e s m args below meth c H locs ls hR hC hX hW hS hL
  refine lv_isub hC.1 hC.2.1 hd ?_
  rw [← Int32.ofInt_sub]
  exact k R p e s m args below meth c H locs ls hR hC hX hW hS hL
theorem E_lsub {E : En} {d : Nat} {μ : Mu} {pc : Nat} {al st : List AV} {κ : Kp} {I L : MI} {Z : Zt} {x y : Int} (hd : decode μ.2.1 pc = .ok (.lsub, 1)) (k : Ev E d μ (pc + 1) al (vl (x - y) :: st) κ I L Z) : Ev E d μ pc al (vl y :: vl x :: st) κ I L Z := by
  intro R p e s m args below meth c H locs ls hR hC hX hW hS hL
  refine lv_lsub hC.1 hC.2.1 hd ?_
  rw [← Int64.ofInt_sub]
  exact k R p e s m args below meth c H locs ls hR hC hX hW hS hL
theorem E_imul {E : En} {d : Nat} {μ : Mu} {pc : Nat} {al st : List AV} {κ : Kp} {I L : MI} {Z : Zt} {x y : Int} (hd : decode μ.2.1 pc = .ok (.imul, 1)) (k : Ev E d μ (pc + 1) al (vi (x * y) :: st) κ I L Z) : Ev E d μ pc al (vi y :: vi x :: st) κ I L Z := by
  intro R p e s m args below meth c H locs ls hR hC hX hW hS hL
  refine lv_imul hC.1 hC.2.1 hd ?_
  rw [← Int32.ofInt_mul]
  exact k R p e s m args below meth c H locs ls hR hC hX hW hS hL
theorem E_lmul {E : En} {d : Nat} {μ : Mu} {pc : Nat} {al st : List AV} {κ : Kp} {I L : MI} {Z : Zt} {x y : Int} (hd : decode μ.2.1 pc = .ok (.lmul, 1)) (k : Ev E d μ (pc + 1) al (vl (x * y) :: st) κ I L Z) : Ev E d μ pc al (vl y :: vl x :: st) κ I L Z := by
  intro R p e s m args below meth c H locs ls hR hC hX hW hS hL
  refine lv_lmul hC.1 hC.2.1 hd ?_
  rw [← Int64.ofInt_mul]
  exact k R p e s m args below meth c H locs ls hR hC hX hW hS hL
theorem E_ineg {E : En} {d : Nat} {μ : Mu} {pc : Nat} {al st : List AV} {κ : Kp} {I L : MI} {Z : Zt} {x : Int} (hd : decode μ.2.1 pc = .ok (.ineg, 1)) (k : Ev E d μ (pc + 1) al (vi (-x) :: st) κ I L Z) : Ev E d μ pc al (vi x :: st) κ I L Z := by
  intro R p e s m args below meth c H locs ls hR hC hX hW hS hL
  refine lv_ineg hC.1 hC.2.1 hd ?_
  rw [← Int32.ofInt_neg]
  exact k R p e s m args below meth c H locs ls hR hC hX hW hS hL
theorem E_lneg {E : En} {d : Nat} {μ : Mu} {pc : Nat} {al st : List AV} {κ : Kp} {I L : MI} {Z : Zt} {x : Int} (hd : decode μ.2.1 pc = .ok (.lneg, 1)) (k : Ev E d μ (pc + 1) al (vl (-x) :: st) κ I L Z) : Ev E d μ pc al (vl x :: st) κ I L Z := by
  intro R p e s m args below meth c H locs ls hR hC hX hW hS hL
  refine lv_lneg hC.1 hC.2.1 hd ?_
  rw [← Int64.ofInt_neg]
  exact k R p e s m args below meth c H locs ls hR hC hX hW hS hL
theorem E_idiv {E : En} {d : Nat} {μ : Mu} {pc : Nat} {al st : List AV} {κ : Kp} {I L : MI} {Z : Zt} {x y : Int} (hd : decode μ.2.1 pc = .ok (.idiv, 1)) (hx : Ir x) (hy : Ir y) (h0 : y ≠ 0) (hm : y ≠ -1) (k : Ev E d μ (pc + 1) al (vi (x.tdiv y) :: st) κ I L Z) : Ev E d μ pc al (vi y :: vi x :: st) κ I L Z := by
  intro R p e s m args below meth c H locs ls hR hC hX hW hS hL
  have hz : ¬ Int32.ofInt y = 0 := fun q => h0 (by
    have := congrArg Int32.toInt q
    rw [oi_toInt hy] at this
    exact this)
  have e9 : Int32.ofInt x / Int32.ofInt y = Int32.ofInt (x.tdiv y) := by
    rw [← Int32.toInt_inj, Int32.toInt_div_of_ne_right _ _ (fun q => hm (by have := congrArg Int32.toInt q; rw [oi_toInt hy] at this; exact this)), oi_toInt hx, oi_toInt hy, oi_toInt (dv_rng32 hx hm)]
  refine lv_idiv hC.1 hC.2.1 hd hz ?_
  rw [e9]
  exact k R p e s m args below meth c H locs ls hR hC hX hW hS hL
theorem E_irem {E : En} {d : Nat} {μ : Mu} {pc : Nat} {al st : List AV} {κ : Kp} {I L : MI} {Z : Zt} {x y : Int} (hd : decode μ.2.1 pc = .ok (.irem, 1)) (hx : Ir x) (hy : Ir y) (h0 : y ≠ 0) (hm : y ≠ -1) (k : Ev E d μ (pc + 1) al (vi (x.tmod y) :: st) κ I L Z) : Ev E d μ pc al (vi y :: vi x :: st) κ I L Z := by
  intro R p e s m args below meth c H locs ls hR hC hX hW hS hL
  have hz : ¬ Int32.ofInt y = 0 := fun q => h0 (by
    have := congrArg Int32.toInt q
    rw [oi_toInt hy] at this
    exact this)
  have e9 : Int32.ofInt x / Int32.ofInt y = Int32.ofInt (x.tdiv y) := by
    rw [← Int32.toInt_inj, Int32.toInt_div_of_ne_right _ _ (fun q => hm (by have := congrArg Int32.toInt q; rw [oi_toInt hy] at this; exact this)), oi_toInt hx, oi_toInt hy, oi_toInt (dv_rng32 hx hm)]
  refine lv_irem hC.1 hC.2.1 hd hz ?_
  rw [e9, ← Int32.ofInt_mul, ← Int32.ofInt_sub, show x - x.tdiv y * y = x.tmod y by rw [Int.tmod_def, Int.mul_comm]]
  exact k R p e s m args below meth c H locs ls hR hC hX hW hS hL
theorem E_ldiv {E : En} {d : Nat} {μ : Mu} {pc : Nat} {al st : List AV} {κ : Kp} {I L : MI} {Z : Zt} {x y : Int} (hd : decode μ.2.1 pc = .ok (.ldiv, 1)) (hx : Jr x) (hy : Jr y) (h0 : y ≠ 0) (hm : y ≠ -1) (k : Ev E d μ (pc + 1) al (vl (x.tdiv y) :: st) κ I L Z) : Ev E d μ pc al (vl y :: vl x :: st) κ I L Z := by
  intro R p e s m args below meth c H locs ls hR hC hX hW hS hL
  have hz : ¬ Int64.ofInt y = 0 := fun q => h0 (by
    have := congrArg Int64.toInt q
    rw [ol_toInt hy] at this
    exact this)
  have e9 : Int64.ofInt x / Int64.ofInt y = Int64.ofInt (x.tdiv y) := by
    rw [← Int64.toInt_inj, Int64.toInt_div_of_ne_right _ _ (fun q => hm (by have := congrArg Int64.toInt q; rw [ol_toInt hy] at this; exact this)), ol_toInt hx, ol_toInt hy, ol_toInt (dv_rng64 hx hm)]
  refine lv_ldiv hC.1 hC.2.1 hd hz ?_
  rw [e9]
  exact k R p e s m args below meth c H locs ls hR hC hX hW hS hL
theorem E_lrem {E : En} {d : Nat} {μ : Mu} {pc : Nat} {al st : List AV} {κ : Kp} {I L : MI} {Z : Zt} {x y : Int} (hd : decode μ.2.1 pc = .ok (.lrem, 1)) (hx : Jr x) (hy : Jr y) (h0 : y ≠ 0) (hm : y ≠ -1) (k : Ev E d μ (pc + 1) al (vl (x.tmod y) :: st) κ I L Z) : Ev E d μ pc al (vl y :: vl x :: st) κ I L Z := by
  intro R p e s m args below meth c H locs ls hR hC hX hW hS hL
  have hz : ¬ Int64.ofInt y = 0 := fun q => h0 (by
    have := congrArg Int64.toInt q
    rw [ol_toInt hy] at this
    exact this)
  have e9 : Int64.ofInt x / Int64.ofInt y = Int64.ofInt (x.tdiv y) := by
    rw [← Int64.toInt_inj, Int64.toInt_div_of_ne_right _ _ (fun q => hm (by have := congrArg Int64.toInt q; rw [ol_toInt hy] at this; exact this)), ol_toInt hx, ol_toInt hy, ol_toInt (dv_rng64 hx hm)]
  refine lv_lrem hC.1 hC.2.1 hd hz ?_
  rw [e9, ← Int64.ofInt_mul, ← Int64.ofInt_sub, show x - x.tdiv y * y = x.tmod y by rw [Int.tmod_def, Int.mul_comm]]
  exact k R p e s m args below meth c H locs ls hR hC hX hW hS hL
theorem E_iand {E : En} {d : Nat} {μ : Mu} {pc : Nat} {al st : List AV} {κ : Kp} {I L : MI} {Z : Zt} {x y z : Int} (hd : decode μ.2.1 pc = .ok (.iand, 1)) (hz : Int32.ofInt x &&& Int32.ofInt y = Int32.ofInt z) (k : Ev E d μ (pc + 1) al (vi z :: st) κ I L Z) : Ev E d μ pc al (vi y :: vi x :: st) κ I L Z := by
  intro R p e s m args below meth c H locs ls hR hC hX hW hS hL
  refine lv_iand hC.1 hC.2.1 hd ?_
  rw [hz]
  exact k R p e s m args below meth c H locs ls hR hC hX hW hS hL
theorem E_land {E : En} {d : Nat} {μ : Mu} {pc : Nat} {al st : List AV} {κ : Kp} {I L : MI} {Z : Zt} {x y z : Int} (hd : decode μ.2.1 pc = .ok (.land, 1)) (hz : Int64.ofInt x &&& Int64.ofInt y = Int64.ofInt z) (k : Ev E d μ (pc + 1) al (vl z :: st) κ I L Z) : Ev E d μ pc al (vl y :: vl x :: st) κ I L Z := by
  intro R p e s m args below meth c H locs ls hR hC hX hW hS hL
  refine lv_land hC.1 hC.2.1 hd ?_
  rw [hz]
  exact k R p e s m args below meth c H locs ls hR hC hX hW hS hL
theorem E_ior {E : En} {d : Nat} {μ : Mu} {pc : Nat} {al st : List AV} {κ : Kp} {I L : MI} {Z : Zt} {x y z : Int} (hd : decode μ.2.1 pc = .ok (.ior, 1)) (hz : Int32.ofInt x ||| Int32.ofInt y = Int32.ofInt z) (k : Ev E d μ (pc + 1) al (vi z :: st) κ I L Z) : Ev E d μ pc al (vi y :: vi x :: st) κ I L Z := by
  intro R p e s m args below meth c H locs ls hR hC hX hW hS hL
  refine lv_ior hC.1 hC.2.1 hd ?_
  rw [hz]
  exact k R p e s m args below meth c H locs ls hR hC hX hW hS hL
theorem E_lor {E : En} {d : Nat} {μ : Mu} {pc : Nat} {al st : List AV} {κ : Kp} {I L : MI} {Z : Zt} {x y z : Int} (hd : decode μ.2.1 pc = .ok (.lor, 1)) (hz : Int64.ofInt x ||| Int64.ofInt y = Int64.ofInt z) (k : Ev E d μ (pc + 1) al (vl z :: st) κ I L Z) : Ev E d μ pc al (vl y :: vl x :: st) κ I L Z := by
  intro R p e s m args below meth c H locs ls hR hC hX hW hS hL
  refine lv_lor hC.1 hC.2.1 hd ?_
  rw [hz]
  exact k R p e s m args below meth c H locs ls hR hC hX hW hS hL
theorem E_ixor {E : En} {d : Nat} {μ : Mu} {pc : Nat} {al st : List AV} {κ : Kp} {I L : MI} {Z : Zt} {x y z : Int} (hd : decode μ.2.1 pc = .ok (.ixor, 1)) (hz : Int32.ofInt x ^^^ Int32.ofInt y = Int32.ofInt z) (k : Ev E d μ (pc + 1) al (vi z :: st) κ I L Z) : Ev E d μ pc al (vi y :: vi x :: st) κ I L Z := by
  intro R p e s m args below meth c H locs ls hR hC hX hW hS hL
  refine lv_ixor hC.1 hC.2.1 hd ?_
  rw [hz]
  exact k R p e s m args below meth c H locs ls hR hC hX hW hS hL
theorem E_lxor {E : En} {d : Nat} {μ : Mu} {pc : Nat} {al st : List AV} {κ : Kp} {I L : MI} {Z : Zt} {x y z : Int} (hd : decode μ.2.1 pc = .ok (.lxor, 1)) (hz : Int64.ofInt x ^^^ Int64.ofInt y = Int64.ofInt z) (k : Ev E d μ (pc + 1) al (vl z :: st) κ I L Z) : Ev E d μ pc al (vl y :: vl x :: st) κ I L Z := by
  intro R p e s m args below meth c H locs ls hR hC hX hW hS hL
  refine lv_lxor hC.1 hC.2.1 hd ?_
  rw [hz]
  exact k R p e s m args below meth c H locs ls hR hC hX hW hS hL
theorem E_i2l {E : En} {d : Nat} {μ : Mu} {pc : Nat} {al st : List AV} {κ : Kp} {I L : MI} {Z : Zt} {x : Int} (hd : decode μ.2.1 pc = .ok (.i2l, 1)) (hx : Ir x) (k : Ev E d μ (pc + 1) al (vl x :: st) κ I L Z) : Ev E d μ pc al (vi x :: st) κ I L Z := by
  intro R p e s m args below meth c H locs ls hR hC hX hW hS hL
  exact lv_i2l hC.1 hC.2.1 hd (i2l_of hx) (k R p e s m args below meth c H locs ls hR hC hX hW hS hL)
theorem E_l2i {E : En} {d : Nat} {μ : Mu} {pc : Nat} {al st : List AV} {κ : Kp} {I L : MI} {Z : Zt} {x : Int} (hd : decode μ.2.1 pc = .ok (.l2i, 1)) (k : Ev E d μ (pc + 1) al (vi x :: st) κ I L Z) : Ev E d μ pc al (vl x :: st) κ I L Z := by
  intro R p e s m args below meth c H locs ls hR hC hX hW hS hL
  exact lv_l2i hC.1 hC.2.1 hd Int64.toInt32_ofInt (k R p e s m args below meth c H locs ls hR hC hX hW hS hL)
theorem E_i2b {E : En} {d : Nat} {μ : Mu} {pc : Nat} {al st : List AV} {κ : Kp} {I L : MI} {Z : Zt} {x z : Int} (hd : decode μ.2.1 pc = .ok (.i2b, 1)) (hz : (Int32.ofInt x).toInt8.toInt32 = Int32.ofInt z) (k : Ev E d μ (pc + 1) al (vi z :: st) κ I L Z) : Ev E d μ pc al (vi x :: st) κ I L Z := by
  intro R p e s m args below meth c H locs ls hR hC hX hW hS hL
  exact lv_i2b hC.1 hC.2.1 hd hz (k R p e s m args below meth c H locs ls hR hC hX hW hS hL)
theorem E_i2s {E : En} {d : Nat} {μ : Mu} {pc : Nat} {al st : List AV} {κ : Kp} {I L : MI} {Z : Zt} {x z : Int} (hd : decode μ.2.1 pc = .ok (.i2s, 1)) (hz : (Int32.ofInt x).toInt16.toInt32 = Int32.ofInt z) (k : Ev E d μ (pc + 1) al (vi z :: st) κ I L Z) : Ev E d μ pc al (vi x :: st) κ I L Z := by
  intro R p e s m args below meth c H locs ls hR hC hX hW hS hL
  exact lv_i2s hC.1 hC.2.1 hd hz (k R p e s m args below meth c H locs ls hR hC hX hW hS hL)
theorem E_lcmp {E : En} {d : Nat} {μ : Mu} {pc : Nat} {al st : List AV} {κ : Kp} {I L : MI} {Z : Zt} {x y : Int} (hd : decode μ.2.1 pc = .ok (.lcmp, 1)) (hx : Jr x) (hy : Jr y) (k : Ev E d μ (pc + 1) al (vi (cm3 x y) :: st) κ I L Z) : Ev E d μ pc al (vl y :: vl x :: st) κ I L Z := by
  intro R p e s m args below meth c H locs ls hR hC hX hW hS hL
  refine W.lcmp hC.1 hC.2.1 hd ?_
  rw [cm3_lg hx hy]
  exact k R p e s m args below meth c H locs ls hR hC hX hW hS hL
theorem E_dup {E : En} {d : Nat} {μ : Mu} {pc : Nat} {al st : List AV} {κ : Kp} {I L : MI} {Z : Zt} {v : AV} (hd : decode μ.2.1 pc = .ok (.dup, 1)) (hv : (cv E v).category = 1 := by rfl) (k : Ev E d μ (pc + 1) al (v :: v :: st) κ I L Z) : Ev E d μ pc al (v :: st) κ I L Z := by
  intro R p e s m args below meth c H locs ls hR hC hX hW hS hL
  exact lv_dup hC.1 hC.2.1 hd hv (k R p e s m args below meth c H locs ls hR hC hX hW hS hL)
theorem E_goto {E : En} {d : Nat} {μ : Mu} {pc : Nat} {al st : List AV} {κ : Kp} {I L : MI} {Z : Zt} {off : Int} {tgt : Nat} (hd : decode μ.2.1 pc = .ok (.goto off, 3)) (ht : (pc : Int) + off = (tgt : Int) := by decide) (k : Ev E d μ tgt al st κ I L Z) : Ev E d μ pc al st κ I L Z := by
  intro R p e s m args below meth c H locs ls hR hC hX hW hS hL
  exact lv_goto hC.1 hC.2.1 hd ht (k R p e s m args below meth c H locs ls hR hC hX hW hS hL)
theorem E_icmp_eq {E : En} {d : Nat} {μ : Mu} {pc : Nat} {al st : List AV} {κ : Kp} {I L : MI} {Z : Zt} {x y : Int} {off : Int} {tgt : Nat} (hd : decode μ.2.1 pc = .ok (.if_icmp .eq off, 3)) (hx : Ir x) (hy : Ir y) (kt : x = y → Ev E d μ tgt al st κ I L Z) (kf : ¬ x = y → Ev E d μ (pc + 3) al st κ I L Z) (ht : (pc : Int) + off = (tgt : Int) := by decide) : Ev E d μ pc al (vi y :: vi x :: st) κ I L Z := by
  intro R p e s m args below meth c H locs ls hR hC hX hW hS hL
  exact lv_icmp_eq hC.1 hC.2.1 hd ht (fun q => kt ((oi_eq hx hy).mp q) R p e s m args below meth c H locs ls hR hC hX hW hS hL) (fun q => kf (fun z => q ((oi_eq hx hy).mpr z)) R p e s m args below meth c H locs ls hR hC hX hW hS hL)
theorem E_icmp_ne {E : En} {d : Nat} {μ : Mu} {pc : Nat} {al st : List AV} {κ : Kp} {I L : MI} {Z : Zt} {x y : Int} {off : Int} {tgt : Nat} (hd : decode μ.2.1 pc = .ok (.if_icmp .ne off, 3)) (hx : Ir x) (hy : Ir y) (kt : ¬ x = y → Ev E d μ tgt al st κ I L Z) (kf : x = y → Ev E d μ (pc + 3) al st κ I L Z) (ht : (pc : Int) + off = (tgt : Int) := by decide) : Ev E d μ pc al (vi y :: vi x :: st) κ I L Z := by
  intro R p e s m args below meth c H locs ls hR hC hX hW hS hL
  exact lv_icmp_ne hC.1 hC.2.1 hd ht (fun q => kt (fun z => q ((oi_eq hx hy).mpr z)) R p e s m args below meth c H locs ls hR hC hX hW hS hL) (fun q => kf ((oi_eq hx hy).mp (by first | exact q | exact Decidable.not_not.mp q)) R p e s m args below meth c H locs ls hR hC hX hW hS hL)
theorem E_icmp_lt {E : En} {d : Nat} {μ : Mu} {pc : Nat} {al st : List AV} {κ : Kp} {I L : MI} {Z : Zt} {x y : Int} {off : Int} {tgt : Nat} (hd : decode μ.2.1 pc = .ok (.if_icmp .lt off, 3)) (hx : Ir x) (hy : Ir y) (kt : x < y → Ev E d μ tgt al st κ I L Z) (kf : y ≤ x → Ev E d μ (pc + 3) al st κ I L Z) (ht : (pc : Int) + off = (tgt : Int) := by decide) : Ev E d μ pc al (vi y :: vi x :: st) κ I L Z := by
  intro R p e s m args below meth c H locs ls hR hC hX hW hS hL
  exact lv_icmp_lt hC.1 hC.2.1 hd ht (fun q => kt ((oi_lt hx hy).mp q) R p e s m args below meth c H locs ls hR hC hX hW hS hL) (fun q => kf (by have := mt (oi_lt hx hy).mpr q; omega) R p e s m args below meth c H locs ls hR hC hX hW hS hL)
theorem E_icmp_ge {E : En} {d : Nat} {μ : Mu} {pc : Nat} {al st : List AV} {κ : Kp} {I L : MI} {Z : Zt} {x y : Int} {off : Int} {tgt : Nat} (hd : decode μ.2.1 pc = .ok (.if_icmp .ge off, 3)) (hx : Ir x) (hy : Ir y) (kt : y ≤ x → Ev E d μ tgt al st κ I L Z) (kf : x < y → Ev E d μ (pc + 3) al st κ I L Z) (ht : (pc : Int) + off = (tgt : Int) := by decide) : Ev E d μ pc al (vi y :: vi x :: st) κ I L Z := by
  intro R p e s m args below meth c H locs ls hR hC hX hW hS hL
  exact lv_icmp_ge hC.1 hC.2.1 hd ht (fun q => kt ((oi_le hy hx).mp q) R p e s m args below meth c H locs ls hR hC hX hW hS hL) (fun q => kf (by have := mt (oi_le hy hx).mpr q; omega) R p e s m args below meth c H locs ls hR hC hX hW hS hL)
theorem E_icmp_gt {E : En} {d : Nat} {μ : Mu} {pc : Nat} {al st : List AV} {κ : Kp} {I L : MI} {Z : Zt} {x y : Int} {off : Int} {tgt : Nat} (hd : decode μ.2.1 pc = .ok (.if_icmp .gt off, 3)) (hx : Ir x) (hy : Ir y) (kt : y < x → Ev E d μ tgt al st κ I L Z) (kf : x ≤ y → Ev E d μ (pc + 3) al st κ I L Z) (ht : (pc : Int) + off = (tgt : Int) := by decide) : Ev E d μ pc al (vi y :: vi x :: st) κ I L Z := by
  intro R p e s m args below meth c H locs ls hR hC hX hW hS hL
  exact lv_icmp_gt hC.1 hC.2.1 hd ht (fun q => kt ((oi_lt hy hx).mp q) R p e s m args below meth c H locs ls hR hC hX hW hS hL) (fun q => kf (by have := mt (oi_lt hy hx).mpr q; omega) R p e s m args below meth c H locs ls hR hC hX hW hS hL)
theorem E_icmp_le {E : En} {d : Nat} {μ : Mu} {pc : Nat} {al st : List AV} {κ : Kp} {I L : MI} {Z : Zt} {x y : Int} {off : Int} {tgt : Nat} (hd : decode μ.2.1 pc = .ok (.if_icmp .le off, 3)) (hx : Ir x) (hy : Ir y) (kt : x ≤ y → Ev E d μ tgt al st κ I L Z) (kf : y < x → Ev E d μ (pc + 3) al st κ I L Z) (ht : (pc : Int) + off = (tgt : Int) := by decide) : Ev E d μ pc al (vi y :: vi x :: st) κ I L Z := by
  intro R p e s m args below meth c H locs ls hR hC hX hW hS hL
  exact lv_icmp_le hC.1 hC.2.1 hd ht (fun q => kt ((oi_le hx hy).mp q) R p e s m args below meth c H locs ls hR hC hX hW hS hL) (fun q => kf (by have := mt (oi_le hx hy).mpr q; omega) R p e s m args below meth c H locs ls hR hC hX hW hS hL)
theorem r0 : Ir 0 := ⟨by decide, by decide⟩
theorem E_if_eq {E : En} {d : Nat} {μ : Mu} {pc : Nat} {al st : List AV} {κ : Kp} {I L : MI} {Z : Zt} {x : Int} {off : Int} {tgt : Nat} (hd : decode μ.2.1 pc = .ok (.ifCond .eq off, 3)) (hx : Ir x) (kt : x = 0 → Ev E d μ tgt al st κ I L Z) (kf : ¬ x = 0 → Ev E d μ (pc + 3) al st κ I L Z) (ht : (pc : Int) + off = (tgt : Int) := by decide) : Ev E d μ pc al (vi x :: st) κ I L Z := by
  intro R p e s m args below meth c H locs ls hR hC hX hW hS hL
  exact lv_if_eq hC.1 hC.2.1 hd ht (fun q => kt ((oi_eq hx r0).mp q) R p e s m args below meth c H locs ls hR hC hX hW hS hL) (fun q => kf (fun z => q ((oi_eq hx r0).mpr z)) R p e s m args below meth c H locs ls hR hC hX hW hS hL)
theorem E_if_ne {E : En} {d : Nat} {μ : Mu} {pc : Nat} {al st : List AV} {κ : Kp} {I L : MI} {Z : Zt} {x : Int} {off : Int} {tgt : Nat} (hd : decode μ.2.1 pc = .ok (.ifCond .ne off, 3)) (hx : Ir x) (kt : ¬ x = 0 → Ev E d μ tgt al st κ I L Z) (kf : x = 0 → Ev E d μ (pc + 3) al st κ I L Z) (ht : (pc : Int) + off = (tgt : Int) := by decide) : Ev E d μ pc al (vi x :: st) κ I L Z := by
  intro R p e s m args below meth c H locs ls hR hC hX hW hS hL
  exact lv_if_ne hC.1 hC.2.1 hd ht (fun q => kt (fun z => q ((oi_eq hx r0).mpr z)) R p e s m args below meth c H locs ls hR hC hX hW hS hL) (fun q => kf ((oi_eq hx r0).mp (by first | exact q | exact Decidable.not_not.mp q)) R p e s m args below meth c H locs ls hR hC hX hW hS hL)
theorem E_if_lt {E : En} {d : Nat} {μ : Mu} {pc : Nat} {al st : List AV} {κ : Kp} {I L : MI} {Z : Zt} {x : Int} {off : Int} {tgt : Nat} (hd : decode μ.2.1 pc = .ok (.ifCond .lt off, 3)) (hx : Ir x) (kt : x < 0 → Ev E d μ tgt al st κ I L Z) (kf : 0 ≤ x → Ev E d μ (pc + 3) al st κ I L Z) (ht : (pc : Int) + off = (tgt : Int) := by decide) : Ev E d μ pc al (vi x :: st) κ I L Z := by
  intro R p e s m args below meth c H locs ls hR hC hX hW hS hL
  exact lv_if_lt hC.1 hC.2.1 hd ht (fun q => kt ((oi_lt hx r0).mp q) R p e s m args below meth c H locs ls hR hC hX hW hS hL) (fun q => kf (by have := mt (oi_lt hx r0).mpr q; omega) R p e s m args below meth c H locs ls hR hC hX hW hS hL)
theorem E_if_ge {E : En} {d : Nat} {μ : Mu} {pc : Nat} {al st : List AV} {κ : Kp} {I L : MI} {Z : Zt} {x : Int} {off : Int} {tgt : Nat} (hd : decode μ.2.1 pc = .ok (.ifCond .ge off, 3)) (hx : Ir x) (kt : 0 ≤ x → Ev E d μ tgt al st κ I L Z) (kf : x < 0 → Ev E d μ (pc + 3) al st κ I L Z) (ht : (pc : Int) + off = (tgt : Int) := by decide) : Ev E d μ pc al (vi x :: st) κ I L Z := by
  intro R p e s m args below meth c H locs ls hR hC hX hW hS hL
  exact lv_if_ge hC.1 hC.2.1 hd ht (fun q => kt ((oi_le r0 hx).mp q) R p e s m args below meth c H locs ls hR hC hX hW hS hL) (fun q => kf (by have := mt (oi_le r0 hx).mpr q; omega) R p e s m args below meth c H locs ls hR hC hX hW hS hL)
theorem E_if_gt {E : En} {d : Nat} {μ : Mu} {pc : Nat} {al st : List AV} {κ : Kp} {I L : MI} {Z : Zt} {x : Int} {off : Int} {tgt : Nat} (hd : decode μ.2.1 pc = .ok (.ifCond .gt off, 3)) (hx : Ir x) (kt : 0 < x → Ev E d μ tgt al st κ I L Z) (kf : x ≤ 0 → Ev E d μ (pc + 3) al st κ I L Z) (ht : (pc : Int) + off = (tgt : Int) := by decide) : Ev E d μ pc al (vi x :: st) κ I L Z := by
  intro R p e s m args below meth c H locs ls hR hC hX hW hS hL
  exact lv_if_gt hC.1 hC.2.1 hd ht (fun q => kt ((oi_lt r0 hx).mp q) R p e s m args below meth c H locs ls hR hC hX hW hS hL) (fun q => kf (by have := mt (oi_lt r0 hx).mpr q; omega) R p e s m args below meth c H locs ls hR hC hX hW hS hL)
theorem E_if_le {E : En} {d : Nat} {μ : Mu} {pc : Nat} {al st : List AV} {κ : Kp} {I L : MI} {Z : Zt} {x : Int} {off : Int} {tgt : Nat} (hd : decode μ.2.1 pc = .ok (.ifCond .le off, 3)) (hx : Ir x) (kt : x ≤ 0 → Ev E d μ tgt al st κ I L Z) (kf : 0 < x → Ev E d μ (pc + 3) al st κ I L Z) (ht : (pc : Int) + off = (tgt : Int) := by decide) : Ev E d μ pc al (vi x :: st) κ I L Z := by
  intro R p e s m args below meth c H locs ls hR hC hX hW hS hL
  exact lv_if_le hC.1 hC.2.1 hd ht (fun q => kt ((oi_le hx r0).mp q) R p e s m args below meth c H locs ls hR hC hX hW hS hL) (fun q => kf (by have := mt (oi_le hx r0).mpr q; omega) R p e s m args below meth c H locs ls hR hC hX hW hS hL)
theorem cm3_r (x y : Int) : Ir (cm3 x y) := by unfold cm3; split <;> (try split) <;> exact ⟨by decide, by decide⟩
theorem E_lcmp_eq {E : En} {d : Nat} {μ : Mu} {pc : Nat} {al st : List AV} {κ : Kp} {I L : MI} {Z : Zt} {x y : Int} {off : Int} {tgt : Nat} (hd : decode μ.2.1 pc = .ok (.lcmp, 1)) (hd2 : decode μ.2.1 (pc + 1) = .ok (.ifCond .eq off, 3)) (hx : Jr x) (hy : Jr y) (kt : x = y → Ev E d μ tgt al st κ I L Z) (kf : ¬ x = y → Ev E d μ (pc + 4) al st κ I L Z) (ht : (pc : Int) + 1 + off = (tgt : Int) := by decide) : Ev E d μ pc al (vl y :: vl x :: st) κ I L Z :=
  E_lcmp hd hx hy (E_if_eq hd2 (cm3_r x y) (fun h => kt (by unfold cm3 at h; split at h <;> (try split at h) <;> omega)) (fun h => kf (by unfold cm3 at h; split at h <;> (try split at h) <;> omega)) (by simpa using ht))
theorem E_lcmp_ne {E : En} {d : Nat} {μ : Mu} {pc : Nat} {al st : List AV} {κ : Kp} {I L : MI} {Z : Zt} {x y : Int} {off : Int} {tgt : Nat} (hd : decode μ.2.1 pc = .ok (.lcmp, 1)) (hd2 : decode μ.2.1 (pc + 1) = .ok (.ifCond .ne off, 3)) (hx : Jr x) (hy : Jr y) (kt : ¬ x = y → Ev E d μ tgt al st κ I L Z) (kf : x = y → Ev E d μ (pc + 4) al st κ I L Z) (ht : (pc : Int) + 1 + off = (tgt : Int) := by decide) : Ev E d μ pc al (vl y :: vl x :: st) κ I L Z :=
  E_lcmp hd hx hy (E_if_ne hd2 (cm3_r x y) (fun h => kt (by unfold cm3 at h; split at h <;> (try split at h) <;> omega)) (fun h => kf (by unfold cm3 at h; split at h <;> (try split at h) <;> omega)) (by simpa using ht))
theorem E_lcmp_lt {E : En} {d : Nat} {μ : Mu} {pc : Nat} {al st : List AV} {κ : Kp} {I L : MI} {Z : Zt} {x y : Int} {off : Int} {tgt : Nat} (hd : decode μ.2.1 pc = .ok (.lcmp, 1)) (hd2 : decode μ.2.1 (pc + 1) = .ok (.ifCond .lt off, 3)) (hx : Jr x) (hy : Jr y) (kt : x < y → Ev E d μ tgt al st κ I L Z) (kf : y ≤ x → Ev E d μ (pc + 4) al st κ I L Z) (ht : (pc : Int) + 1 + off = (tgt : Int) := by decide) : Ev E d μ pc al (vl y :: vl x :: st) κ I L Z :=
  E_lcmp hd hx hy (E_if_lt hd2 (cm3_r x y) (fun h => kt (by unfold cm3 at h; split at h <;> (try split at h) <;> omega)) (fun h => kf (by unfold cm3 at h; split at h <;> (try split at h) <;> omega)) (by simpa using ht))
theorem E_lcmp_ge {E : En} {d : Nat} {μ : Mu} {pc : Nat} {al st : List AV} {κ : Kp} {I L : MI} {Z : Zt} {x y : Int} {off : Int} {tgt : Nat} (hd : decode μ.2.1 pc = .ok (.lcmp, 1)) (hd2 : decode μ.2.1 (pc + 1) = .ok (.ifCond .ge off, 3)) (hx : Jr x) (hy : Jr y) (kt : y ≤ x → Ev E d μ tgt al st κ I L Z) (kf : x < y → Ev E d μ (pc + 4) al st κ I L Z) (ht : (pc : Int) + 1 + off = (tgt : Int) := by decide) : Ev E d μ pc al (vl y :: vl x :: st) κ I L Z :=
  E_lcmp hd hx hy (E_if_ge hd2 (cm3_r x y) (fun h => kt (by unfold cm3 at h; split at h <;> (try split at h) <;> omega)) (fun h => kf (by unfold cm3 at h; split at h <;> (try split at h) <;> omega)) (by simpa using ht))
theorem E_lcmp_gt {E : En} {d : Nat} {μ : Mu} {pc : Nat} {al st : List AV} {κ : Kp} {I L : MI} {Z : Zt} {x y : Int} {off : Int} {tgt : Nat} (hd : decode μ.2.1 pc = .ok (.lcmp, 1)) (hd2 : decode μ.2.1 (pc + 1) = .ok (.ifCond .gt off, 3)) (hx : Jr x) (hy : Jr y) (kt : y < x → Ev E d μ tgt al st κ I L Z) (kf : x ≤ y → Ev E d μ (pc + 4) al st κ I L Z) (ht : (pc : Int) + 1 + off = (tgt : Int) := by decide) : Ev E d μ pc al (vl y :: vl x :: st) κ I L Z :=
  E_lcmp hd hx hy (E_if_gt hd2 (cm3_r x y) (fun h => kt (by unfold cm3 at h; split at h <;> (try split at h) <;> omega)) (fun h => kf (by unfold cm3 at h; split at h <;> (try split at h) <;> omega)) (by simpa using ht))
theorem E_lcmp_le {E : En} {d : Nat} {μ : Mu} {pc : Nat} {al st : List AV} {κ : Kp} {I L : MI} {Z : Zt} {x y : Int} {off : Int} {tgt : Nat} (hd : decode μ.2.1 pc = .ok (.lcmp, 1)) (hd2 : decode μ.2.1 (pc + 1) = .ok (.ifCond .le off, 3)) (hx : Jr x) (hy : Jr y) (kt : x ≤ y → Ev E d μ tgt al st κ I L Z) (kf : y < x → Ev E d μ (pc + 4) al st κ I L Z) (ht : (pc : Int) + 1 + off = (tgt : Int) := by decide) : Ev E d μ pc al (vl y :: vl x :: st) κ I L Z :=
  E_lcmp hd hx hy (E_if_le hd2 (cm3_r x y) (fun h => kt (by unfold cm3 at h; split at h <;> (try split at h) <;> omega)) (fun h => kf (by unfold cm3 at h; split at h <;> (try split at h) <;> omega)) (by simpa using ht))
