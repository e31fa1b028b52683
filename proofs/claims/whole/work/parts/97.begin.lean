theorem t_1 : Cond.arrayOver (.object "SaidByTimes$Row") ∈ lw_tbl := by decide +kernel
theorem t_2 : Cond.arrayOver (.object "SaidByTimes$Speech") ∈ lw_tbl := by decide +kernel
theorem t_3 : ∀ q ∈ ([("WIDER", "[I"), ("SIZE_BODIES", "[I"), ("MARK_BODIES", "[I"), ("UNITS", "[J")] : List (String × String)), Cond.laysStatic "SaidByTimes" q.1 q.2 ∈ lw_tbl := by decide +kernel
theorem t_4 : Cond.laysStatic "java/lang/String" "COMPACT_STRINGS" "Z" ∈ lw_tbl := by decide +kernel
theorem t_5 : Cond.laysStatic "jdk/internal/util/Preconditions" "SIOOBE_FORMATTER" "Ljava/util/function/BiFunction;" ∈ lw_tbl := by decide +kernel
theorem t_6 : ∀ C ∈ (["SaidByTimes", "java/lang/String", "jdk/internal/util/Preconditions"] : List String), Cond.initialized C ∈ lw_tbl := by decide +kernel
theorem t_7 : ∀ q ∈ ([(34, "thing"), (47, "rule"), (52, "pair"), (71, "or")] : List (Nat × String)), Cond.stringRef "SaidByTimes$Reader" q.1 q.2 ∈ lw_tbl := by decide +kernel
theorem n_1 : Cond.isRef (.static "jdk/internal/util/Preconditions" "SIOOBE_FORMATTER" "Ljava/util/function/BiFunction;") ∈ flatC NRW := by decide +kernel
theorem n_2 : Cond.eq (.static "java/lang/String" "COMPACT_STRINGS" "Z") (.int 1) ∈ flatC NRW := by decide +kernel
theorem n_3 : ∀ t ∈ ([tmW, tmS, tmM] : List Term), Cond.arrayOf t .int ∈ flatC NRW ∧ Cond.eq (.length t) (.int (Int32.ofNat 6)) ∈ flatC NRW := by decide +kernel
theorem n_4 : Cond.arrayOf tmU .long ∈ flatC NRW ∧ Cond.eq (.length tmU) (.int (Int32.ofNat 16)) ∈ flatC NRW := by decide +kernel
theorem by_x : ∀ i, i < 4 → ∀ j, j < lnX.getD i 0 → (byX.getD i []).getD j 0 = Int32.ofInt (xI (1009 + i) (j : Int)) := by decide +kernel
/-- where the things outside lie -/
def exF (b t1 t2 t3 t4 : Nat) (aK aV : Nat → Nat) (t13 : Nat) (k : Nat) : Nat := match k with
  | 0 => b | 1 => t1 | 2 => t2 | 3 => t3 | 4 => t4 | 5 => aK 0 | 6 => aK 1 | 7 => aK 2 | 8 => aK 3 | 9 => aV 0 | 10 => aV 1 | 11 => aV 2 | 12 => aV 3 | _ => t13
set_option maxHeartbeats 4000000 in
theorem st_X {s : State} {b N : Nat} {xs : Nat → Int32} (hN : N ≤ 3072) (hts : ∀ w ∈ lw_tbl, w.before #[Value.ref b] s = true) (hX : va_X b N xs s s.heap) (hb : b < s.heap.size) (hgv : (Jvm.Cond.and given_1 narrow_1).before #[Value.ref b] s = true) (l : Launch) (D : va_G) (A : Nat → ClassId) :
    ∃ X : Nat → Nat, X 0 = b ∧ Xt (l, s.heap.size, D, A, X, N, xs) s s.heap := by
  have hq := flat_of_before _ hgv
  have hA : ∀ a : Nat, a < s.heap.size → ¬ (fun q : Nat => s.heap.size ≤ q) a := fun a h1 h2 => absurd h1 (Nat.not_lt.mpr h2)
  have i1 := hts _ (t_6 "SaidByTimes" (by decide))
  have hT3 : ∀ {t : Term} {w : Nat → Int32}, Cond.arrayOf t .int ∈ flatC NRW ∧ Cond.eq (.length t) (.int (Int32.ofNat 6)) ∈ flatC NRW → (∀ j, j < 6 → Cond.eq (.elem t (.int (Int32.ofNat j))) (.int (w j)) ∈ flatC NRW) → ∃ a : Nat, t.eval #[Value.ref b] s none [] s = some (.ref a) ∧ va_T .int a 6 (fun j => .int (w j)) (fun q : Nat => s.heap.size ≤ q) s s.heap := fun hn he =>
    va_Tof (by decide) (hq _ hn.1) (va_eqt (hq _ hn.2)) (fun j hj => va_eqt (hq _ (he j hj))) hA
  obtain ⟨a1, v1, T1⟩ := hT3 (n_3 tmW (by simp)) el_W
  obtain ⟨a2, v2, T2⟩ := hT3 (n_3 tmS (by simp)) el_S
  obtain ⟨a3, v3, T3⟩ := hT3 (n_3 tmM (by simp)) el_M
  obtain ⟨a4, v4, T4⟩ : ∃ a : Nat, tmU.eval #[Value.ref b] s none [] s = some (.ref a) ∧ va_T .long a 16 (fun j => .long (Int64.ofInt (xL (j : Int)))) (fun q : Nat => s.heap.size ≤ q) s s.heap :=
    va_Tof (by decide) (hq _ n_4.1) (va_eqt (hq _ n_4.2)) (fun j hj => va_eqtl (hq _ (el_U j hj))) hA
  obtain ⟨aK, aV, hS, hE⟩ := vk_Sof (args := #[Value.ref b]) (s := s) (N := 4) (tm := tmX) (len := lnX) (byt := byX) (A := fun q : Nat => s.heap.size ≤ q) (by decide) (fun i hi => hq _ (sx_1 i hi)) (fun i hi => hq _ (sx_2 i hi)) (fun i hi => hq _ (sx_3 i hi)) (fun i hi => hq _ (sx_4 i hi)) (fun i hi j hj => hq _ (sx_5 i hi j hj)) (fun i j hi hj hij => (sx_6 i hi j hj hij).imp (hq _) (hq _)) hA
  obtain ⟨a13, hZ⟩ : ∃ a : Nat, va_Z "jdk/internal/util/Preconditions" "SIOOBE_FORMATTER" "Ljava/util/function/BiFunction;" .null (fun q : Nat => s.heap.size ≤ q) s s.heap ∨ va_Z "jdk/internal/util/Preconditions" "SIOOBE_FORMATTER" "Ljava/util/function/BiFunction;" (.ref a) (fun q : Nat => s.heap.size ≤ q) s s.heap := by
    rcases va_Zqof (hts _ t_5) (hts _ (t_6 "jdk/internal/util/Preconditions" (by decide))) (hq _ n_1) hA with h | ⟨t, h⟩
    · exact ⟨0, .inl h⟩
    · exact ⟨t, .inr h⟩
  have z1 := va_Zof (hts _ (t_3 ("WIDER", "[I") (by decide))) i1 v1 hA
  have z2 := va_Zof (hts _ (t_3 ("SIZE_BODIES", "[I") (by decide))) i1 v2 hA
  have z3 := va_Zof (hts _ (t_3 ("MARK_BODIES", "[I") (by decide))) i1 v3 hA
  have z4 := va_Zof (hts _ (t_3 ("UNITS", "[J") (by decide))) i1 v4 hA
  have z5 := va_Zof (hts _ t_4) (hts _ (t_6 "java/lang/String" (by decide))) (va_eqt (hq _ n_2)) hA
  have hB : ∀ i, i < 4 → va_T .byte (aV i) (lnX.getD i 0) (fun j => .int (Int32.ofInt (xI (1009 + i) (j : Int)))) (fun q : Nat => s.heap.size ≤ q) s s.heap := fun i hi => va_Tcg (hS.1 i hi).2.2.2 (fun j hj => by rw [by_x i hi j hj])
  refine ⟨exF b a1 a2 a3 a4 aK aV a13, rfl, Nat.le_refl _, ⟨hX, hb⟩, ?_, ?_, ?_, ?_, hZ, fun q h => va_Nw.of rfl (hts _ (ns_M q h)), fun q h => va_Nw.of rfl (hts _ (ns_F q h)), hN, va_AO.of (hts _ t_1), va_AO.of (hts _ t_2)⟩
  · exact List.forall_mem_cons.mpr ⟨z1, List.forall_mem_cons.mpr ⟨z2, List.forall_mem_cons.mpr ⟨z3, List.forall_mem_cons.mpr ⟨z4, List.forall_mem_cons.mpr ⟨z5, fun q h => by cases h⟩⟩⟩⟩⟩
  · exact List.forall_mem_cons.mpr ⟨T1, List.forall_mem_cons.mpr ⟨T2, List.forall_mem_cons.mpr ⟨T3, List.forall_mem_cons.mpr ⟨T4, List.forall_mem_cons.mpr ⟨hB 0 (by decide), List.forall_mem_cons.mpr ⟨hB 1 (by decide), List.forall_mem_cons.mpr ⟨hB 2 (by decide), List.forall_mem_cons.mpr ⟨hB 3 (by decide), fun q h => by cases h⟩⟩⟩⟩⟩⟩⟩⟩
  · have f : ∀ i (hi : i < 4), va_O "java/lang/String" (aK i) (fun q : Nat => s.heap.size ≤ q) s s.heap ∧ va_OF "java/lang/String" "coder" "B" (.int 0) (aK i) (fun q : Nat => s.heap.size ≤ q) s s.heap ∧ va_OF "java/lang/String" "value" "[B" (.ref (aV i)) (aK i) (fun q : Nat => s.heap.size ≤ q) s s.heap := fun i hi => ⟨(hS.1 i hi).1, (hS.1 i hi).2.1, (hS.1 i hi).2.2.1⟩
    exact List.forall_mem_cons.mpr ⟨f 0 (by decide), List.forall_mem_cons.mpr ⟨f 1 (by decide), List.forall_mem_cons.mpr ⟨f 2 (by decide), List.forall_mem_cons.mpr ⟨f 3 (by decide), fun q h => by cases h⟩⟩⟩⟩
  · exact List.forall_mem_cons.mpr ⟨vk_R.of (hts _ (t_7 (34, "thing") (by decide))) (hE 0 (by decide)), List.forall_mem_cons.mpr ⟨vk_R.of (hts _ (t_7 (47, "rule") (by decide))) (hE 1 (by decide)), List.forall_mem_cons.mpr ⟨vk_R.of (hts _ (t_7 (52, "pair") (by decide))) (hE 2 (by decide)), List.forall_mem_cons.mpr ⟨vk_R.of (hts _ (t_7 (71, "or") (by decide))) (hE 3 (by decide)), fun q h => by cases h⟩⟩⟩⟩
