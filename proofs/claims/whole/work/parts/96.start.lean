/-! THE LAW FROM ITS ENTRY: what the machine gives at the start -/
theorem wB_all {ci : Nat} (h : ci < 12) : Cond.instantiable (fRX ci) (ncl ci) ∈ WS := match ci, h with
  | 0, _ => wB_0 | 1, _ => wB_1 | 2, _ => wB_2 | 3, _ => wB_3 | 4, _ => wB_4 | 5, _ => wB_5 | 6, _ => wB_6 | 7, _ => wB_7 | 8, _ => wB_8 | 9, _ => wB_9 | 10, _ => wB_10 | 11, _ => wB_11
  | n + 12, h => by omega
theorem va_Tcg {ty : FieldType} {t N : Nat} {f g : Nat → Value} {A : Nat → Prop} {U : State} {H : Heap} (h : va_T ty t N f A U H) (e : ∀ j, j < N → f j = g j) : va_T ty t N g A U H := by
  obtain ⟨cell, h1, h2, h3, h4, h5, h6, h7⟩ := h
  exact ⟨cell, h1, h2, h3, h4, h5, fun j hj => by rw [← e j hj]; exact h6 j hj, h7⟩
abbrev NRW : Cond := Jvm.Cond.and given_1 narrow_1
/-- the kinds and their arrays -/
theorem st_K {s : State} {b : Nat} (hWS : ∀ w ∈ WS, w.before #[Value.ref b] s = true) (hAO1 : (Cond.arrayOver (.object "SaidByTimes$Row")).before #[Value.ref b] s = true) (hAO2 : (Cond.arrayOver (.object "SaidByTimes$Speech")).before #[Value.ref b] s = true) :
    ∃ (D : va_G) (A : Nat → ClassId), va_K D vwK [(A 0, .int), (A 1, .byte), (A 2, .boolean), (A 3, .long), (A 4, .object "SaidByTimes$Row"), (A 5, .object "SaidByTimes$Speech")] s := by
  have h0 : ∀ ci : Nat, ∃ q : ClassId × (Nat → Nat), ci < 12 → u_Kn s (fRX ci) (fTX ci) (ncl ci) q.1 q.2 := fun ci => by
    by_cases h : ci < 12
    · obtain ⟨cC, iS, hK⟩ := u_known hWS (inW h) (hWS _ (wB_all h))
      exact ⟨(cC, iS), fun _ => hK⟩
    · exact ⟨(0, fun _ => 0), fun q => absurd q h⟩
  obtain ⟨D, hD⟩ := Classical.axiomOfChoice h0
  have ha : ∀ ty : FieldType, (∀ C, ty ≠ .object C) → (Cond.arrayClass ty).before #[Value.ref b] s = true → ∃ cA : ClassId, ArrOfT s cA ty ∧ va_RA s cA ty := fun ty hty h => by
    obtain ⟨cA, k, comp, h1, h2, h3⟩ := Cond.arrayClass_spec h
    refine ⟨cA, fun n z => ⟨fun q e => (by cases e), k, h2, comp, h3⟩, ?_⟩
    cases ty with
    | object C => exact absurd rfl (hty C)
    | _ => exact h1
  have ho : ∀ C : String, (Cond.arrayOver (.object C)).before #[Value.ref b] s = true → ∃ cA : ClassId, ArrOfT s cA (.object C) ∧ va_RA s cA (.object C) := fun C h => by
    obtain ⟨comp, cA, k, h1, -, h2, h3, h4⟩ := Cond.arrayOver_spec h
    exact ⟨cA, fun n z => ⟨fun q e => (by cases e), k, h2, comp, h3⟩, k, comp, h2, h3, h1, h4⟩
  obtain ⟨a0, p0⟩ := ha .int (fun C h => by cases h) (hWS _ wA_int)
  obtain ⟨a1, p1⟩ := ha .byte (fun C h => by cases h) (hWS _ wA_byte)
  obtain ⟨a2, p2⟩ := ha .boolean (fun C h => by cases h) (hWS _ wA_boolean)
  obtain ⟨a3, p3⟩ := ha .long (fun C h => by cases h) (hWS _ wA_long)
  obtain ⟨a4, p4⟩ := ho _ hAO1
  obtain ⟨a5, p5⟩ := ho _ hAO2
  refine ⟨(fun k => (D k).1, fun k => (D k).2), fun k => match k with | 0 => a0 | 1 => a1 | 2 => a2 | 3 => a3 | 4 => a4 | _ => a5, fun c q hq => ?_, fun k q hq => ?_⟩
  · have hc : c < 12 := (List.getElem?_eq_some_iff.mp hq).1
    cases (vwK_at hc).symm.trans hq
    exact hD c hc
  · match k, hq with
    | 0, hq => cases hq; exact p0
    | 1, hq => cases hq; exact p1
    | 2, hq => cases hq; exact p2
    | 3, hq => cases hq; exact p3
    | 4, hq => cases hq; exact p4
    | 5, hq => cases hq; exact p5
    | k + 6, hq => simp at hq
abbrev tmW : Term := .static "SaidByTimes" "WIDER" "[I"
abbrev tmS : Term := .static "SaidByTimes" "SIZE_BODIES" "[I"
abbrev tmM : Term := .static "SaidByTimes" "MARK_BODIES" "[I"
abbrev tmU : Term := .static "SaidByTimes" "UNITS" "[J"
theorem el_W : ∀ j, j < 6 → Cond.eq (.elem tmW (.int (Int32.ofNat j))) (.int (Int32.ofInt (xI 1001 (j : Int)))) ∈ flatC NRW := by decide +kernel
theorem el_S : ∀ j, j < 6 → Cond.eq (.elem tmS (.int (Int32.ofNat j))) (.int (Int32.ofInt (xI 1002 (j : Int)))) ∈ flatC NRW := by decide +kernel
theorem el_M : ∀ j, j < 6 → Cond.eq (.elem tmM (.int (Int32.ofNat j))) (.int (Int32.ofInt (xI 1003 (j : Int)))) ∈ flatC NRW := by decide +kernel
theorem el_U : ∀ j, j < 16 → Cond.eq (.elem tmU (.int (Int32.ofNat j))) (.long (Int64.ofInt (xL (j : Int)))) ∈ flatC NRW := by decide +kernel
def tmX (i : Nat) : Term := .string "SaidByTimes$Reader" (([34, 47, 52, 71] : List Nat).getD i 0)
abbrev lnX : List Nat := [5, 4, 4, 2]
abbrev byX : List (List Int32) := [[116, 104, 105, 110, 103], [114, 117, 108, 101], [112, 97, 105, 114], [111, 114]]
theorem sx_1 : ∀ i, i < 4 → Cond.exactly (tmX i) "java/lang/String" ∈ flatC NRW := by decide +kernel
theorem sx_2 : ∀ i, i < 4 → Cond.eq (.field (tmX i) "java/lang/String" "coder" "B") (.int 0) ∈ flatC NRW := by decide +kernel
theorem sx_3 : ∀ i, i < 4 → Cond.arrayOf (.field (tmX i) "java/lang/String" "value" "[B") .byte ∈ flatC NRW := by decide +kernel
theorem sx_4 : ∀ i, i < 4 → Cond.eq (.length (.field (tmX i) "java/lang/String" "value" "[B")) (.int (Int32.ofNat (lnX.getD i 0))) ∈ flatC NRW := by decide +kernel
theorem sx_5 : ∀ i, i < 4 → ∀ j, j < lnX.getD i 0 → Cond.eq (.elem (.field (tmX i) "java/lang/String" "value" "[B") (.int (Int32.ofNat j))) (.int ((byX.getD i []).getD j 0)) ∈ flatC NRW := by decide +kernel
theorem sx_6 : ∀ i, i < 4 → ∀ j, j < 4 → i ≠ j → Cond.not (Cond.eq (tmX i) (tmX j)) ∈ flatC NRW ∨ Cond.not (Cond.eq (tmX j) (tmX i)) ∈ flatC NRW := by decide +kernel
theorem ns_M : ∀ q ∈ nstM, Cond.methodLinkNest q.1 q.2.1 q.2.2.1 q.2.2.2 ∈ lw_tbl := by decide +kernel
theorem ns_F : ∀ q ∈ nstF, Cond.fieldLinkNest q.1 q.2.1 q.2.2.1 q.2.2.2.1 q.2.2.2.2.1 q.2.2.2.2.2 ∈ lw_tbl := by decide +kernel
