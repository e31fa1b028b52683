
/-! BOTH SIDES: rows -/
theorem Inv_R {I L J : MI} (h : Inv I L) (f : ∀ o, o ≠ 0 → o ≠ 78 → ¬ (40 ≤ o ∧ o ≤ 55) → ¬ (79 ≤ o ∧ o ≤ 81) → ∀ k, J o k = I o k) (f0 : J 0 11 = I 0 11) (f78 : ∀ k, k ≠ 0 → k ≠ 1 → J 78 k = I 78 k) (hr : IvR J) (hu : J 78 1 = J 0 12) : Inv J L := by
  obtain ⟨h1, h2, h3, h4, h5, h6, h7, h8, h9, h10⟩ := h
  have u : ∀ o, (o = 2 ∨ o = 3 ∨ (15 ≤ o ∧ o ≤ 39) ∨ (57 ≤ o ∧ o ≤ 76) ∨ (82 ≤ o)) → ∀ k, J o k = I o k := fun o ho k => f o (by omega) (by omega) (by omega) (by omega) k
  exact ⟨TR_f ⟨fun o o1 o2 k => u o (by omega) k, u 82 (by omega), f78 7 (by decide) (by decide)⟩ h1, hr, IvP_f (fun o ho k => u o (by omega) k) (f78 10 (by decide) (by decide)) h3, h4, JOK_f h5 (fun o o1 o2 k => u o (by omega) k) (u 29 (by omega)), by rw [f78 11 (by decide) (by decide), f0]; exact h6, hu, IvC_f (fun o ho k => u o (by omega) k) (u 38 (by omega) 1) (f78 29 (by decide) (by decide)) h8, IvM_f (fun o ho k => u o (by omega) k) (fun o ho k => rfl) (f78 7 (by decide) (by decide)) h9, IvM_f (fun o ho k => u o (by omega) k) (fun o ho k => rfl) (f78 7 (by decide) (by decide)) h10⟩
theorem CK_st (I : MI) (c : Int) : CK (up2 I 0 12 c) (up2 I 0 12 c) := CK_r _
theorem RK_u3 (I : MI) (a c : Int) : RK (up2 I 78 1 c) (up2 (up2 (up2 I 78 0 0) 78 1 a) 78 1 c) := by
  rw [up2_up]
  exact RK_ths I c
/-- a finding that both tell, nothing else changed -/
theorem Inv_fd {I L : MI} (h : Inv I L) (a c : Int) : Inv (up2 (up2 (up2 (up2 I 0 12 c) 78 0 0) 78 1 a) 78 1 c) L :=
  Inv_rs h (CK_r _) (CKL_r L) (JOK_f h.2.2.2.2.1 (fun o o1 o2 k => up2_ne (.inl (by omega))) (fun k => up2_ne (.inl (by decide)))) (RK_u3 _ a c) (RKL_r L)
theorem Inv_fd2 {I L : MI} (h : Inv I L) (c : Int) : Inv (up2 (up2 (up2 I 0 12 c) 78 0 0) 78 1 c) L := by
  have := Inv_fd h c c
  rw [up2_up] at this
  exact this
theorem Inv_no {I L : MI} (h : Inv I L) : Inv (up2 I 78 0 0) L := Inv_ro h (CK_r I) (CKL_r L) h.2.2.2.2.1 (RK_th I 0) (RKL_r L)
theorem sp_row {I L I1 L1 I2 L2 : MI} {r l n z z' : Int} (h : Inv I L) (c : RowQ I L r l n z I1 L1) (q : rRowQ I1 L1 r l n z' I2 L2) : z = z' ∧ Inv I2 L2 := by
  obtain ⟨rfl, c⟩ := c
  obtain ⟨rfl, q⟩ := q
  rcases c with ⟨c1, rfl, rfl⟩ | ⟨c1, c2, rfl, rfl⟩ | ⟨c1, c2, c3, rfl, rfl⟩
  · rcases q with ⟨q1, rfl, rfl⟩ | ⟨q1, q2, rfl, rfl⟩ | ⟨q1, q2, q3, rfl, rfl⟩
    · exact ⟨rfl, Inv_no h⟩
    · omega
    · omega
  · rcases q with ⟨q1, rfl, rfl⟩ | ⟨q1, q2, rfl, rfl⟩ | ⟨q1, q2, q3, rfl, rfl⟩
    · omega
    · exact ⟨rfl, Inv_fd h 0 4⟩
    · omega
  · rcases q with ⟨q1, rfl, rfl⟩ | ⟨q1, q2, rfl, rfl⟩ | ⟨q1, q2, q3, rfl, rfl⟩
    · omega
    · omega
    · refine ⟨rfl, ?_⟩
      have ef : ∀ (A : MI) (o : Nat) (k : Int), (o ≠ 81 ∨ k < 40 * r ∨ 40 * r + 40 ≤ k) → flO A 81 (40 * r) 40 0 o k = A o k := fun A o k hk => by unfold flO; rw [if_neg (by omega)]
      have eb : ∀ (o : Nat) (k : Int), o ≠ 40 + 2 * r.toNat → (o ≠ 40 + 2 * r.toNat + 1) → rowB I (40 + 2 * r.toNat) l z' o k = I o k := fun o k o1 o2 => by
        unfold rowB flI
        rw [if_neg (fun q => o2 q.1), up2_ne (.inl o1), up2_ne (.inl o1), up2_ne (.inl o1)]
      have rr : 40 + 2 * r.toNat ≤ 54 := by omega
      refine Inv_R h (fun o o1 o2 o3 o4 k => ?_) ?_ (fun k k0 k1 => ?_) ?_ ?_
      · rw [ef _ o k (.inl (by omega)), up2_ne (.inl (by omega)), up2_ne (.inl (by omega)), up2_ne (.inl o2), up2_ne (.inl o2), up2_ne (.inl o1), eb o k (by omega) (by omega)]
      · rw [ef _ _ _ (.inl (by decide)), up2_ne (.inl (by decide)), up2_ne (.inl (by decide)), up2_ne (.inl (by decide)), up2_ne (.inl (by decide)), up2_ne (.inr (by decide)), eb _ _ (by omega) (by omega)]
      · rw [ef _ _ _ (.inl (by decide)), up2_ne (.inl (by decide)), up2_ne (.inl (by decide)), up2_ne (.inr k1), up2_ne (.inr k0), up2_ne (.inl (by decide)), eb _ _ (by omega) (by omega)]
      · intro r' r0 r1
        have hq := h.2.1 r' r0 r1
        have g79 : ∀ k, k ≠ r → flO (up2 (up2 (up2 (up2 (up2 (rowB I (40 + 2 * r.toNat) l z') 0 12 0) 78 0 0) 78 1 0) 79 r l) 80 r z') 81 (40 * r) 40 0 79 k = I 79 k := fun k hk => by
          rw [ef _ _ _ (.inl (by decide)), up2_ne (.inl (by decide)), up2_ne (.inr hk), up2_ne (.inl (by decide)), up2_ne (.inl (by decide)), up2_ne (.inl (by decide)), eb _ _ (by omega) (by omega)]
        have g80 : ∀ k, k ≠ r → flO (up2 (up2 (up2 (up2 (up2 (rowB I (40 + 2 * r.toNat) l z') 0 12 0) 78 0 0) 78 1 0) 79 r l) 80 r z') 81 (40 * r) 40 0 80 k = I 80 k := fun k hk => by
          rw [ef _ _ _ (.inl (by decide)), up2_ne (.inr hk), up2_ne (.inl (by decide)), up2_ne (.inl (by decide)), up2_ne (.inl (by decide)), up2_ne (.inl (by decide)), eb _ _ (by omega) (by omega)]
        have glo : ∀ (o : Nat) (k : Int), 40 ≤ o → o ≤ 55 → flO (up2 (up2 (up2 (up2 (up2 (rowB I (40 + 2 * r.toNat) l z') 0 12 0) 78 0 0) 78 1 0) 79 r l) 80 r z') 81 (40 * r) 40 0 o k = rowB I (40 + 2 * r.toNat) l z' o k := fun o k o1 o2 => by
          rw [ef _ _ _ (.inl (by omega)), up2_ne (.inl (by omega)), up2_ne (.inl (by omega)), up2_ne (.inl (by omega)), up2_ne (.inl (by omega)), up2_ne (.inl (by omega))]
        rw [glo (40 + 2 * r'.toNat) 0 (by omega) (by omega), glo (40 + 2 * r'.toNat) 1 (by omega) (by omega), glo (40 + 2 * r'.toNat) 2 (by omega) (by omega)]
        by_cases e : r' = r
        · subst e
          have v0 : rowB I (40 + 2 * r'.toNat) l z' (40 + 2 * r'.toNat) 0 = 1 := by
            unfold rowB flI
            rw [if_neg (fun q => by omega), up2_ne (.inr (by decide)), up2_ne (.inr (by decide)), up2_eq]
          have v1 : rowB I (40 + 2 * r'.toNat) l z' (40 + 2 * r'.toNat) 1 = l := by
            unfold rowB flI
            rw [if_neg (fun q => by omega), up2_ne (.inr (by decide)), up2_eq]
          have v2 : rowB I (40 + 2 * r'.toNat) l z' (40 + 2 * r'.toNat) 2 = z' := by
            unfold rowB flI
            rw [if_neg (fun q => by omega), up2_eq]
          have w79 : flO (up2 (up2 (up2 (up2 (up2 (rowB I (40 + 2 * r'.toNat) l z') 0 12 0) 78 0 0) 78 1 0) 79 r' l) 80 r' z') 81 (40 * r') 40 0 79 r' = l := by
            rw [ef _ _ _ (.inl (by decide)), up2_ne (.inl (by decide)), up2_eq]
          have w80 : flO (up2 (up2 (up2 (up2 (up2 (rowB I (40 + 2 * r'.toNat) l z') 0 12 0) 78 0 0) 78 1 0) 79 r' l) 80 r' z') 81 (40 * r') 40 0 80 r' = z' := by
            rw [ef _ _ _ (.inl (by decide)), up2_eq]
          rw [v0, v1, v2, w79, w80]
          refine ⟨.inr ⟨by decide, rfl, by omega, by omega⟩, rfl, by omega, fun i i0 i1 => ?_⟩
          rw [glo (40 + 2 * r'.toNat + 1) i (by omega) (by omega)]
          have a1 : flO (up2 (up2 (up2 (up2 (up2 (rowB I (40 + 2 * r'.toNat) l z') 0 12 0) 78 0 0) 78 1 0) 79 r' l) 80 r' z') 81 (40 * r') 40 0 81 (40 * r' + i) = 0 := by unfold flO; rw [if_pos (by omega)]
          have a2 : rowB I (40 + 2 * r'.toNat) l z' (40 + 2 * r'.toNat + 1) i = 0 := by unfold rowB flI; rw [if_pos ⟨rfl, i0, by omega⟩]
          rw [a1, a2]
        · have ne : r'.toNat ≠ r.toNat := by omega
          rw [eb (40 + 2 * r'.toNat) 0 (by omega) (by omega), eb (40 + 2 * r'.toNat) 1 (by omega) (by omega), eb (40 + 2 * r'.toNat) 2 (by omega) (by omega), g79 r' e, g80 r' e]
          refine ⟨hq.1, hq.2.1, hq.2.2.1, fun i i0 i1 => ?_⟩
          rw [glo (40 + 2 * r'.toNat + 1) i (by omega) (by omega), eb (40 + 2 * r'.toNat + 1) i (by omega) (by omega), ← hq.2.2.2 i i0 i1, ef _ _ _ (.inr (by omega)), up2_ne (.inl (by decide)), up2_ne (.inl (by decide)), up2_ne (.inl (by decide)), up2_ne (.inl (by decide)), up2_ne (.inl (by decide)), eb _ _ (by omega) (by omega)]
      · rw [ef _ _ _ (.inl (by decide)), up2_ne (.inl (by decide)), up2_ne (.inl (by decide)), up2_eq, ef _ _ _ (.inl (by decide)), up2_ne (.inl (by decide)), up2_ne (.inl (by decide)), up2_ne (.inl (by decide)), up2_ne (.inl (by decide)), up2_eq]
theorem sp_drop {I L I1 L1 I2 L2 : MI} {r z z' : Int} (h : Inv I L) (c : DrpQ I L r z I1 L1) (q : rDrpQ I1 L1 r z' I2 L2) : z = z' ∧ Inv I2 L2 := by
  obtain ⟨rfl, c⟩ := c
  obtain ⟨rfl, q⟩ := q
  have e : ∀ o, 78 ≤ o → ∀ k, I1 o k = I o k := by
    intro o ho k
    rcases c with ⟨c1, rfl, rfl⟩ | ⟨c1, c2, rfl, rfl⟩ | ⟨c1, c2, rfl, rfl⟩
    · rfl
    · rw [up2_ne (.inl (by omega))]
    · rw [up2_ne (.inl (by omega)), up2_ne (.inl (by omega))]
  have hr : 0 ≤ r ∧ r < 8 → (((I (40 + 2 * r.toNat) 0 = 0 ∧ I 79 r < 0) ∨ (I (40 + 2 * r.toNat) 0 ≠ 0 ∧ I 79 r = I (40 + 2 * r.toNat) 1 ∧ 0 ≤ I 79 r ∧ I 79 r ≤ 2)) ∧ I 80 r = I (40 + 2 * r.toNat) 2) := fun x => ⟨(h.2.1 r x.1 x.2).1, (h.2.1 r x.1 x.2).2.1⟩
  rw [e 79 (by decide), e 80 (by decide)] at q
  rcases c with ⟨c1, rfl, rfl⟩ | ⟨c1, c2, rfl, rfl⟩ | ⟨c1, c2, rfl, rfl⟩
  · rcases q with ⟨q1, rfl, rfl⟩ | ⟨q1, q2, rfl, rfl⟩ | ⟨q1, q2, rfl, rfl⟩
    · exact ⟨rfl, Inv_no h⟩
    · omega
    · omega
  · rcases q with ⟨q1, rfl, rfl⟩ | ⟨q1, q2, rfl, rfl⟩ | ⟨q1, q2, rfl, rfl⟩
    · omega
    · exact ⟨rfl, Inv_fd h 0 1⟩
    · have := hr c1; omega
  · rcases q with ⟨q1, rfl, rfl⟩ | ⟨q1, q2, rfl, rfl⟩ | ⟨q1, q2, rfl, rfl⟩
    · omega
    · have := hr c1; omega
    · refine ⟨(hr c1).2.symm, ?_⟩
      have rr : 40 + 2 * r.toNat ≤ 54 := by omega
      refine Inv_R h (fun o o1 o2 o3 o4 k => ?_) ?_ (fun k k0 k1 => ?_) ?_ ?_
      · rw [up2_ne (.inl (by omega)), up2_ne (.inl o2), up2_ne (.inl o2), up2_ne (.inl o1), up2_ne (.inl (by omega))]
      · rw [up2_ne (.inl (by decide)), up2_ne (.inl (by decide)), up2_ne (.inl (by decide)), up2_ne (.inr (by decide)), up2_ne (.inl (by omega))]
      · rw [up2_ne (.inl (by decide)), up2_ne (.inr k1), up2_ne (.inr k0), up2_ne (.inl (by decide)), up2_ne (.inl (by omega))]
      · intro r' r0 r1
        have hq := h.2.1 r' r0 r1
        have g : ∀ (o : Nat) (k : Int), o ≠ 0 → o ≠ 78 → (o ≠ 79 ∨ k ≠ r) → (o ≠ 40 + 2 * r.toNat ∨ k ≠ 0) → up2 (up2 (up2 (up2 (up2 I (40 + 2 * r.toNat) 0 0) 0 12 0) 78 0 0) 78 1 0) 79 r (-1) o k = I o k := fun o k a b c d => by
          rw [up2_ne c, up2_ne (.inl b), up2_ne (.inl b), up2_ne (.inl a), up2_ne d]
        rw [g (40 + 2 * r'.toNat) 1 (by omega) (by omega) (.inl (by omega)) (.inr (by decide)), g (40 + 2 * r'.toNat) 2 (by omega) (by omega) (.inl (by omega)) (.inr (by decide)), g 80 r' (by decide) (by decide) (.inl (by decide)) (.inl (by omega))]
        refine ⟨?_, hq.2.1, hq.2.2.1, fun i i0 i1 => ?_⟩
        · by_cases e : r' = r
          · subst e
            refine .inl ⟨?_, ?_⟩
            · rw [up2_ne (.inl (by omega)), up2_ne (.inl (by omega)), up2_ne (.inl (by omega)), up2_ne (.inl (by omega)), up2_eq]
            · rw [up2_eq]; decide
          · rw [g (40 + 2 * r'.toNat) 0 (by omega) (by omega) (.inl (by omega)) (.inl (by omega)), g 79 r' (by decide) (by decide) (.inr e) (.inl (by omega))]
            exact hq.1
        · rw [g 81 _ (by decide) (by decide) (.inl (by decide)) (.inl (by omega)), g (40 + 2 * r'.toNat + 1) i (by omega) (by omega) (.inl (by omega)) (.inl (by omega))]
          exact hq.2.2.2 i i0 i1
      · rw [up2_ne (.inl (by decide)), up2_eq, up2_ne (.inl (by decide)), up2_ne (.inl (by decide)), up2_ne (.inl (by decide)), up2_eq]
