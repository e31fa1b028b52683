/-! OWN LAYER: values by whole numbers, memory by two functions (object, place), one judgement Ev over any machine state that holds them. -/
abbrev AV : Type := Int ⊕ (Int ⊕ (Nat ⊕ (Unit ⊕ Unit)))
abbrev vi (z : Int) : AV := .inl z
abbrev vl (z : Int) : AV := .inr (.inl z)
abbrev vr (o : Nat) : AV := .inr (.inr (.inl o))
abbrev vn : AV := .inr (.inr (.inr (.inl ())))
abbrev vu : AV := .inr (.inr (.inr (.inr ())))
/-- launch, first address, classes and slots, array classes, addresses of what lies outside, the script's length and ints -/
abbrev En : Type := Launch × Nat × va_G × (Nat → ClassId) × (Nat → Nat) × Nat × (Nat → Int32)
abbrev El (E : En) : Launch := E.1
abbrev EB (E : En) : Nat := E.2.1
abbrev ED (E : En) : va_G := E.2.2.1
abbrev EA (E : En) : Nat → ClassId := E.2.2.2.1
abbrev EX (E : En) : Nat → Nat := E.2.2.2.2.1
abbrev EN (E : En) : Nat := E.2.2.2.2.2.1
abbrev Exs (E : En) : Nat → Int32 := E.2.2.2.2.2.2
abbrev EF (E : En) : Nat → Prop := fun q => EB E ≤ q
abbrev MI : Type := Nat → Int → Int
abbrev Shp : Type := Nat ⊕ (Nat × Nat)
/-- the shapes of the objects, the references in them -/
abbrev Geo : Type := List Shp × (Nat → Int → Option Nat)
abbrev Kp : Type := Geo × Nat × Nat
abbrev Mu : Type := MethodName × ByteArray × Nat × Option FieldType × Nat × Nat
abbrev Zt : Type := List Frame → Array Value → State → State → Prop
def adr (E : En) (o : Nat) : Nat := if o < 1000 then EB E + o else EX E (o - 1000)
def cv (E : En) : AV → Value
  | .inl z => .int (Int32.ofInt z)
  | .inr (.inl z) => .long (Int64.ofInt z)
  | .inr (.inr (.inl o)) => .ref (adr E o)
  | .inr (.inr (.inr (.inl _))) => .null
  | .inr (.inr (.inr (.inr _))) => .float 0
def isu : AV → Bool
  | .inr (.inr (.inr (.inr _))) => true
  | _ => false
def up2 (f : Nat → Int → Int) (o : Nat) (k z : Int) : Nat → Int → Int := fun o' k' => if o' = o ∧ k' = k then z else f o' k'
def upR (f : Nat → Int → Option Nat) (o : Nat) (k : Int) (z : Option Nat) : Nat → Int → Option Nat := fun o' k' => if o' = o ∧ k' = k then z else f o' k'
abbrev vwK : List vw_C := [(RX0, TX0, 6), (RX1, TX1, 7), (RX2, TX2, 2), (RX3, TX3, 4), (RX4, TX4, 3), (RX5, TX5, 8), (RX6, TX6, 4), (RX7, TX7, 2), (RX8, TX8, 2), (RX9, TX9, 11), (RX10, TX10, 13), (RX11, TX11, 30)]
def ncl : Nat → Nat
  | 0 => 6 | 1 => 7 | 2 => 2 | 3 => 4 | 4 => 3 | 5 => 8 | 6 => 4 | 7 => 2 | 8 => 2 | 9 => 11 | 10 => 13 | 11 => 30 | _ => 0
def fty : Nat → Nat → FieldType
  | 0 => tyX0 | 1 => tyX1 | 2 => tyX2 | 3 => tyX3 | 4 => tyX4 | 5 => tyX5 | 6 => tyX6 | 7 => tyX7 | 8 => tyX8 | 9 => tyX9 | 10 => tyX10 | _ => tyX11
def fTX : Nat → u_T
  | 0 => TX0 | 1 => TX1 | 2 => TX2 | 3 => TX3 | 4 => TX4 | 5 => TX5 | 6 => TX6 | 7 => TX7 | 8 => TX8 | 9 => TX9 | 10 => TX10 | _ => TX11
def fRX : Nat → String
  | 0 => RX0 | 1 => RX1 | 2 => RX2 | 3 => RX3 | 4 => RX4 | 5 => RX5 | 6 => RX6 | 7 => RX7 | 8 => RX8 | 9 => RX9 | 10 => RX10 | _ => RX11
/-- how a field's value lies: 0 int, 1 long, 2 reference -/
def fkd : FieldType → Nat
  | .long => 1
  | .object _ => 2
  | .array _ => 2
  | .float => 3
  | .double => 4
  | _ => 0
def fvl (E : En) (g : Geo) (I L : MI) (o k : Nat) (ty : FieldType) : Value := match fkd ty with
  | 1 => .long (Int64.ofInt (L o k))
  | 2 => va_rf ((g.2 o k).map (adr E))
  | 3 => .float 0
  | 4 => .double 0
  | _ => .int (Int32.ofInt (I o k))
/-- kinds of arrays: 0 int, 1 byte, 2 boolean, 3 long, 4 rows, 5 speeches -/
def arf (E : En) (g : Geo) (I L : MI) (o kd : Nat) : (Nat → Int32) ⊕ (Nat → Int64) ⊕ (Nat → UInt32) ⊕ (Nat → UInt64) ⊕ (Nat → Option Nat) := match kd with
  | 0 => .inl (fun i => Int32.ofInt (I o i))
  | 1 => .inl (fun i => Int32.ofInt (I o i))
  | 2 => .inl (fun i => Int32.ofInt (I o i))
  | 3 => .inr (.inl (fun i => Int64.ofInt (L o i)))
  | _ => .inr (.inr (.inr (.inr (fun i => (g.2 o i).map (adr E)))))
def flds (E : En) (g : Geo) (I L : MI) (o ci : Nat) : List Value := (List.range (ncl ci)).map fun k => fvl E g I L o k (fty ci k)
def ent (E : En) (g : Geo) (I L : MI) (o : Nat) (s : Shp) : va_E := match s with
  | .inl ci => .inr (ci, flds E g I L o ci)
  | .inr q => .inl (EA E q.1, q.2, arf E g I L o q.1)
def wld (E : En) (g : Geo) (I L : MI) : va_W := g.1.mapIdx fun o s => (EB E + o, ent E g I L o s)
def aty : Nat → FieldType
  | 0 => .int | 1 => .byte | 2 => .boolean | 3 => .long | 4 => .object "SaidByTimes$Row" | _ => .object "SaidByTimes$Speech"
abbrev tysE (E : En) : List (ClassId × FieldType) := [(EA E 0, .int), (EA E 1, .byte), (EA E 2, .boolean), (EA E 3, .long), (EA E 4, .object "SaidByTimes$Row"), (EA E 5, .object "SaidByTimes$Speech")]
abbrev Ir (z : Int) : Prop := -2147483648 ≤ z ∧ z ≤ 2147483647
abbrev Jr (z : Int) : Prop := -9223372036854775808 ≤ z ∧ z ≤ 9223372036854775807
def MOK (I L : MI) : Prop := (∀ o k, Ir (I o k)) ∧ ∀ o k, Jr (L o k)
def Wd (E : En) (g : Geo) (I L : MI) (U : State) (H : Heap) : Prop :=
  va_P (ED E) vwK (wld E g I L) H ∧ H.size = EB E + g.1.length ∧ g.1.length ≤ 1000 ∧ va_K (ED E) vwK (tysE E) U ∧ MOK I L
def lvl (E : En) (al : List AV) : List (Nat × Value) := (List.range al.length).filterMap fun i => match al[i]? with
  | some v => if isu v = true then none else some (i, cv E v)
  | none => none
def Lr (E : En) (nL : Nat) (ls : Array Slot) (al : List AV) : Prop := lv_has ls nL (lvl E al) ∧ al.length = nL
theorem lvl_in {E : En} {al : List AV} {i : Nat} {v : AV} (h : al[i]? = some v) (hu : isu v = false) : (i, cv E v) ∈ lvl E al := by
  refine List.mem_filterMap.mpr ⟨i, List.mem_range.mpr (List.getElem?_eq_some_iff.mp h).1, ?_⟩
  rw [h]
  simp [hu]
theorem lvl_of {E : En} {al : List AV} {q : Nat × Value} (h : q ∈ lvl E al) : ∃ v, al[q.1]? = some v ∧ isu v = false ∧ q.2 = cv E v := by
  obtain ⟨i, -, hi⟩ := List.mem_filterMap.mp h
  cases ha : al[i]? with
  | none => rw [ha] at hi; cases hi
  | some v =>
    rw [ha] at hi
    cases hu : isu v with
    | true => simp [hu] at hi
    | false =>
      simp [hu] at hi
      subst hi
      exact ⟨v, ha, hu, rfl⟩
theorem Lr.get {E : En} {nL : Nat} {ls : Array Slot} {al : List AV} (h : Lr E nL ls al) {i : Nat} {v : AV} (ha : al[i]? = some v) (hu : isu v = false) : ls[i]? = some (.val (cv E v)) := h.1.2.2 (i, cv E v) (lvl_in ha hu)
theorem Lr.of {E : En} {nL : Nat} {ls : Array Slot} {al : List AV} {l : List (Nat × Value)} (h : lv_has ls nL l) (hn : al.length = nL) (ha : ∀ (i : Nat) (v : AV), al[i]? = some v → isu v = false → (i, cv E v) ∈ l) : Lr E nL ls al :=
  ⟨⟨h.1, h.2.1, fun q hq => by
    obtain ⟨v, h1, h2, h3⟩ := lvl_of hq
    have h4 := h.2.2 _ (ha q.1 v h1 h2)
    rw [h3]
    exact h4⟩, hn⟩
/-- storing: what stood one place ahead is forgotten if it was, or may have been, wide -/
def s1 (al : List AV) (i : Nat) (v : AV) : List AV := match i with
  | 0 => al.set 0 v
  | j + 1 => (match al[j]? with
    | some (.inr (.inl _)) => al.set j vu
    | _ => al).set (j + 1) v
def s2 (al : List AV) (i : Nat) (v : AV) : List AV := (s1 al i v).set (i + 1) vu
theorem cat_cv {E : En} {v : AV} (h : (cv E v).category = 2) : ∃ z, v = vl z := by
  match v with
  | .inl z => exact absurd h (by simp [cv, Value.category])
  | .inr (.inl z) => exact ⟨z, rfl⟩
  | .inr (.inr (.inl o)) => exact absurd h (by simp [cv, Value.category])
  | .inr (.inr (.inr (.inl u))) => exact absurd h (by simp [cv, Value.category])
  | .inr (.inr (.inr (.inr u))) => exact absurd h (by simp [cv, Value.category])
theorem s1_len (al : List AV) (i : Nat) (v : AV) : (s1 al i v).length = al.length := by
  unfold s1
  split
  · simp
  · split <;> simp
theorem s2_len (al : List AV) (i : Nat) (v : AV) : (s2 al i v).length = al.length := by
  unfold s2
  rw [List.length_set, s1_len]
theorem s1_get {al : List AV} {i : Nat} {v : AV} {k : Nat} {w : AV} (h : (s1 al i v)[k]? = some w) (hu : isu w = false) : (k = i ∧ w = v) ∨ (k ≠ i ∧ al[k]? = some w ∧ ∀ z, k + 1 = i → w ≠ vl z) := by
  unfold s1 at h
  split at h
  · rw [List.getElem?_set] at h
    split at h
    next e =>
      split at h
      · cases h; exact .inl ⟨e.symm, rfl⟩
      · cases h
    next e => exact .inr ⟨fun q => e q.symm, h, fun z q => by omega⟩
  next j =>
    split at h
    next z0 hz =>
      rw [List.getElem?_set] at h
      split at h
      next e =>
        split at h
        · cases h; exact .inl ⟨e.symm, rfl⟩
        · cases h
      next e =>
        rw [List.getElem?_set] at h
        split at h
        next e2 =>
          split at h
          · cases h; cases hu
          · cases h
        next e2 => exact .inr ⟨fun q => e q.symm, h, fun z q => by omega⟩
    next hz =>
      rw [List.getElem?_set] at h
      split at h
      next e =>
        split at h
        · cases h; exact .inl ⟨e.symm, rfl⟩
        · cases h
      next e =>
        refine .inr ⟨fun q => e q.symm, h, fun z q hw => ?_⟩
        have hk : k = j := by omega
        subst hk
        subst hw
        exact hz z h
theorem s2_get {al : List AV} {i : Nat} {v : AV} {k : Nat} {w : AV} (h : (s2 al i v)[k]? = some w) (hu : isu w = false) : (k = i ∧ w = v) ∨ (k ≠ i ∧ k ≠ i + 1 ∧ al[k]? = some w ∧ ∀ z, k + 1 = i → w ≠ vl z) := by
  unfold s2 at h
  rw [List.getElem?_set] at h
  split at h
  next e =>
    split at h
    · cases h; cases hu
    · cases h
  next e =>
    rcases s1_get h hu with h1 | ⟨h1, h2, h3⟩
    · exact .inl h1
    · exact .inr ⟨h1, fun q => e q.symm, h2, h3⟩
theorem Lr.st1 {E : En} {nL : Nat} {ls : Array Slot} {al al' : List AV} {i : Nat} {v : AV} (hn : al.length = nL) (hs : s1 al i v = al')
    (h : lv_has ls nL ((i, cv E v) :: (lvl E al).filter (fun q => !(q.1 == i) && !(q.1 + 1 == i && q.2.category == 2)))) : Lr E nL ls al' := by
  subst hs
  refine Lr.of h (by rw [s1_len]; exact hn) fun k w hk hu => ?_
  rcases s1_get hk hu with ⟨rfl, rfl⟩ | ⟨h1, h2, h3⟩
  · exact List.mem_cons_self
  · refine List.mem_cons_of_mem _ (List.mem_filter.mpr ⟨lvl_in h2 hu, ?_⟩)
    have c1 : ((k == i) = false) := by simpa using h1
    have c2 : ((k + 1 == i && (cv E w).category == 2) = false) := by
      by_cases e : k + 1 = i
      · have : ¬ (cv E w).category = 2 := fun q => by
          obtain ⟨z, hz⟩ := cat_cv q
          exact h3 z e hz
        simp [this]
      · simp [e]
    simp [c1, c2]
theorem Lr.st2 {E : En} {nL : Nat} {ls : Array Slot} {al al' : List AV} {i : Nat} {v : AV} (hn : al.length = nL) (hs : s2 al i v = al')
    (h : lv_has ls nL ((i, cv E v) :: (lvl E al).filter (fun q => !(q.1 == i) && (!(q.1 == i + 1) && !(q.1 + 1 == i && q.2.category == 2))))) : Lr E nL ls al' := by
  subst hs
  refine Lr.of h (by rw [s2_len]; exact hn) fun k w hk hu => ?_
  rcases s2_get hk hu with ⟨rfl, rfl⟩ | ⟨h1, h0, h2, h3⟩
  · exact List.mem_cons_self
  · refine List.mem_cons_of_mem _ (List.mem_filter.mpr ⟨lvl_in h2 hu, ?_⟩)
    have c1 : ((k == i) = false) := by simpa using h1
    have c0 : ((k == i + 1) = false) := by simpa using h0
    have c2 : ((k + 1 == i && (cv E w).category == 2) = false) := by
      by_cases e : k + 1 = i
      · have : ¬ (cv E w).category = 2 := fun q => by
          obtain ⟨z, hz⟩ := cat_cv q
          exact h3 z e hz
        simp [this]
      · simp [e]
    simp [c1, c2, c0]
/-- places that nobody will read again are forgotten -/
theorem Lr.weak {E : En} {nL : Nat} {ls : Array Slot} {al al' : List AV} (h : Lr E nL ls al) (hl : al'.length = al.length) (hw : ∀ (i : Nat) (v : AV), al'[i]? = some v → isu v = false → al[i]? = some v) : Lr E nL ls al' :=
  Lr.of h.1 (hl.trans h.2) fun i v hi hu => lvl_in (hw i v hi hu) hu
/-! entry -/
def alOf : List AV → List AV
  | [] => []
  | .inr (.inl z) :: r => vl z :: vu :: alOf r
  | v :: r => v :: alOf r
theorem lv_args_in {E : En} : ∀ (as : List AV) (j i : Nat) (v : AV), (alOf as)[i]? = some v → isu v = false → (j + i, cv E v) ∈ lv_args j (as.map (cv E)) := by
  intro as
  induction as with
  | nil => intro j i v h; simp [alOf] at h
  | cons a r ih =>
    intro j i v h hu
    by_cases hw : ∃ z, a = vl z
    · obtain ⟨z, rfl⟩ := hw
      show (j + i, cv E v) ∈ (j, cv E (vl z)) :: lv_args (j + 2) (r.map (cv E))
      have h' : (vl z :: vu :: alOf r)[i]? = some v := h
      match i, h' with
      | 0, h' => cases h'; exact List.mem_cons_self
      | 1, h' => cases h'; cases hu
      | i + 2, h' =>
        have := ih (j + 2) i v (by simpa using h') hu
        rw [show j + (i + 2) = j + 2 + i by omega]
        exact List.mem_cons_of_mem _ this
    · have e1 : alOf (a :: r) = a :: alOf r := by
        match a, hw with
        | .inl z, _ => rfl
        | .inr (.inl z), hw => exact absurd ⟨z, rfl⟩ hw
        | .inr (.inr q), _ => rfl
      have e2 : lv_args j ((a :: r).map (cv E)) = (j, cv E a) :: lv_args (j + 1) (r.map (cv E)) := by
        show (j, cv E a) :: lv_args (if (cv E a).category = 2 then j + 2 else j + 1) (r.map (cv E)) = _
        rw [if_neg (fun q => hw (cat_cv q))]
      rw [e1] at h
      rw [e2]
      match i, h with
      | 0, h => cases h; exact List.mem_cons_self
      | i + 1, h =>
        have := ih (j + 1) i v (by simpa using h) hu
        rw [show j + (i + 1) = j + 1 + i by omega]
        exact List.mem_cons_of_mem _ this
theorem lg_sl_len {E : En} : ∀ as : List AV, (lg_sl (as.map (cv E))).length = (alOf as).length := by
  intro as
  induction as with
  | nil => rfl
  | cons a r ih =>
    match a with
    | .inl z => simpa [lg_sl, alOf, cv, Value.category] using ih
    | .inr (.inl z) => simpa [lg_sl, alOf, cv, Value.category] using ih
    | .inr (.inr (.inl o)) => simpa [lg_sl, alOf, cv, Value.category] using ih
    | .inr (.inr (.inr (.inl u))) => simpa [lg_sl, alOf, cv, Value.category] using ih
    | .inr (.inr (.inr (.inr u))) => simpa [lg_sl, alOf, cv, Value.category] using ih
theorem Lr.entry {E : En} {as al : List AV} {n : Nat} (h : (alOf as).length ≤ n) (ha : alOf as ++ List.replicate (n - (alOf as).length) vu = al) : Lr E n ((lg_sl (as.map (cv E)) ++ List.replicate (n - (lg_sl (as.map (cv E))).length) Slot.unset).toArray) al := by
  subst ha
  refine Lr.of (lv_entry (as.map (cv E)) (by rw [lg_sl_len]; exact h)) (by simp; omega) fun i v hi hu => ?_
  have := lv_args_in (E := E) as 0 i v ?_ hu
  · simpa using this
  · rw [List.getElem?_append] at hi
    split at hi
    · exact hi
    · rw [List.getElem?_replicate] at hi
      split at hi
      · cases hi; cases hu
      · cases hi
/-! numbers -/
theorem oi_eq {a b : Int} (ha : Ir a) (hb : Ir b) : Int32.ofInt a = Int32.ofInt b ↔ a = b := by
  rw [← Int32.toInt_inj, Int32.toInt_ofInt_of_le (by omega) (by omega), Int32.toInt_ofInt_of_le (by omega) (by omega)]
theorem oi_le {a b : Int} (ha : Ir a) (hb : Ir b) : Int32.ofInt a ≤ Int32.ofInt b ↔ a ≤ b := by
  rw [Int32.le_iff_toInt_le, Int32.toInt_ofInt_of_le (by omega) (by omega), Int32.toInt_ofInt_of_le (by omega) (by omega)]
theorem oi_lt {a b : Int} (ha : Ir a) (hb : Ir b) : Int32.ofInt a < Int32.ofInt b ↔ a < b := by
  rw [Int32.lt_iff_toInt_lt, Int32.toInt_ofInt_of_le (by omega) (by omega), Int32.toInt_ofInt_of_le (by omega) (by omega)]
theorem oi_toInt {a : Int} (ha : Ir a) : (Int32.ofInt a).toInt = a := Int32.toInt_ofInt_of_le (by omega) (by omega)
theorem ol_toInt {a : Int} (ha : Jr a) : (Int64.ofInt a).toInt = a := Int64.toInt_ofInt_of_le (by omega) (by omega)
theorem oi_nat {a : Int} (ha : Ir a) : (Int32.ofInt a).toNatClampNeg = a.toNat := by
  show (Int32.ofInt a).toInt.toNat = a.toNat
  rw [oi_toInt ha]
theorem oi_in {a : Int} {n : Nat} (h0 : 0 ≤ a) (h1 : a < n) (ha : Ir a) : vp_in (Int32.ofInt a) n := by
  intro h
  rcases h with h | h
  · have : Int32.ofInt a < Int32.ofInt 0 := h
    rw [oi_lt ha ⟨by omega, by omega⟩] at this
    omega
  · rw [oi_nat ha] at h
    omega
/-- lcmp's answer -/
def cm3 (a b : Int) : Int := if b < a then 1 else if a = b then 0 else -1
theorem cm3_lg {a b : Int} (ha : Jr a) (hb : Jr b) : lg_cmp (Int64.ofInt a) (Int64.ofInt b) = Int32.ofInt (cm3 a b) := by
  have e1 : (Int64.ofInt a > Int64.ofInt b) ↔ b < a := by
    rw [gt_iff_lt, Int64.lt_iff_toInt_lt, ol_toInt ha, ol_toInt hb]
  have e2 : (Int64.ofInt a = Int64.ofInt b) ↔ a = b := by
    rw [← Int64.toInt_inj, ol_toInt ha, ol_toInt hb]
  unfold lg_cmp cm3
  by_cases h1 : b < a
  · rw [if_pos (e1.mpr h1), if_pos h1]; rfl
  · rw [if_neg (fun q => h1 (e1.mp q)), if_neg h1]
    by_cases h2 : a = b
    · rw [if_pos (e2.mpr h2), if_pos h2]; rfl
    · rw [if_neg (fun q => h2 (e2.mp q)), if_neg h2]; rfl
