
/-! BOTH SIDES: set, copy -/
theorem IvR_it {I J : MI} (h : IvR I) (f : ∀ r : Int, 0 ≤ r → r < 8 → ∀ k, J (40 + 2 * r.toNat) k = I (40 + 2 * r.toNat) k) (f79 : ∀ k, J 79 k = I 79 k) (f80 : ∀ k, J 80 k = I 80 k) (it : ∀ r i : Int, 0 ≤ r → r < 8 → 0 ≤ i → i < 40 → J 81 (40 * r + i) = J (40 + 2 * r.toNat + 1) i) : IvR J := fun r r0 r1 => by
  have q := h r r0 r1
  rw [f r r0 r1, f r r0 r1, f r r0 r1, f79, f80]
  exact ⟨q.1, q.2.1, q.2.2.1, fun i i0 i1 => it r i r0 r1 i0 i1⟩
theorem IvR_i {I : MI} (h : IvR I) {r i : Int} (r0 : 0 ≤ r) (r1 : r < 8) (i0 : 0 ≤ i) (i1 : i < 40) : I 81 (40 * r + i) = I (40 + 2 * r.toNat + 1) i := (h r r0 r1).2.2.2 i i0 i1
theorem sp_set {I L I1 L1 I2 L2 : MI} {r i v z z' : Int} (h : Inv I L) (c : SetQ I L r i v z I1 L1) (q : rSetQ I1 L1 r i v z' I2 L2) : z = z' ∧ Inv I2 L2 := by
  obtain ⟨rfl, c⟩ := c
  obtain ⟨rfl, q⟩ := q
  have e : ∀ o, 78 ≤ o → ∀ k, I1 o k = I o k := by
    intro o ho k
    rcases c with ⟨c1, rfl, rfl⟩ | ⟨c1, c2, rfl, rfl⟩ | ⟨c1, c2, c3, rfl, rfl⟩ | ⟨c1, c2, c3, rfl, rfl⟩
    · rfl
    · rw [up2_ne (.inl (by omega))]
    · rw [up2_ne (.inl (by omega))]
    · rw [up2_ne (.inl (by omega)), up2_ne (.inl (by omega))]
  have hr : 0 ≤ r ∧ r < 8 → (((I (40 + 2 * r.toNat) 0 = 0 ∧ I 79 r < 0) ∨ (I (40 + 2 * r.toNat) 0 ≠ 0 ∧ I 79 r = I (40 + 2 * r.toNat) 1 ∧ 0 ≤ I 79 r ∧ I 79 r ≤ 2)) ∧ I 80 r = I (40 + 2 * r.toNat) 2 ∧ I 80 r ≤ 40) := fun x => ⟨(h.2.1 r x.1 x.2).1, (h.2.1 r x.1 x.2).2.1, (h.2.1 r x.1 x.2).2.2.1.2⟩
  rw [e 79 (by decide), e 80 (by decide)] at q
  rcases c with ⟨c1, rfl, rfl⟩ | ⟨c1, c2, rfl, rfl⟩ | ⟨c1, c2, c3, rfl, rfl⟩ | ⟨c1, c2, c3, hz, hI⟩
  · rcases q with ⟨q1, rfl, rfl⟩ | ⟨q1, q2, rfl, rfl⟩ | ⟨q1, q2, q3, rfl, rfl⟩ | ⟨q1, q2, q3, rfl, rfl⟩
    · exact ⟨rfl, Inv_no h⟩
    · omega
    · omega
    · omega
  · have := hr c1
    rcases q with ⟨q1, rfl, rfl⟩ | ⟨q1, q2, rfl, rfl⟩ | ⟨q1, q2, q3, rfl, rfl⟩ | ⟨q1, q2, q3, rfl, rfl⟩
    · omega
    · exact ⟨rfl, Inv_fd h 0 1⟩
    · omega
    · omega
  · have := hr c1
    rcases q with ⟨q1, rfl, rfl⟩ | ⟨q1, q2, rfl, rfl⟩ | ⟨q1, q2, q3, rfl, rfl⟩ | ⟨q1, q2, q3, rfl, rfl⟩
    · omega
    · omega
    · exact ⟨rfl, Inv_fd h 0 2⟩
    · omega
  · have hrr := hr c1
    rcases q with ⟨q1, rfl, rfl⟩ | ⟨q1, q2, rfl, rfl⟩ | ⟨q1, q2, q3, rfl, rfl⟩ | ⟨q1, q2, q3, hz2, hI2⟩
    · omega
    · omega
    · omega
    · have el : I 79 r = I (40 + 2 * r.toNat) 1 := by omega
      rw [el, ← hz] at hz2 hI2
      subst hI
      subst hI2
      rw [← hz]
      have rr : 40 + 2 * r.toNat ≤ 54 := by omega
      refine ⟨hz2.symm, ?_⟩
      have g : ∀ (o : Nat) (k : Int), o ≠ 0 → o ≠ 78 → o ≠ 81 → (o ≠ 40 + 2 * r.toNat + 1) → up2 (up2 (up2 (up2 (up2 I (40 + 2 * r.toNat + 1) i z) 0 12 0) 78 0 0) 78 1 0) 81 (40 * r + i) z o k = I o k := fun o k a b c d => by
        rw [up2_ne (.inl c), up2_ne (.inl b), up2_ne (.inl b), up2_ne (.inl a), up2_ne (.inl d)]
      refine Inv_R h (fun o o1 o2 o3 o4 k => g o k o1 o2 (by omega) (by omega)) ?_ (fun k k0 k1 => ?_) ?_ ?_
      · rw [up2_ne (.inl (by decide)), up2_ne (.inl (by decide)), up2_ne (.inl (by decide)), up2_ne (.inr (by decide)), up2_ne (.inl (by omega))]
      · rw [up2_ne (.inl (by decide)), up2_ne (.inr k1), up2_ne (.inr k0), up2_ne (.inl (by decide)), up2_ne (.inl (by omega))]
      · refine IvR_it h.2.1 (fun r' r0 r1 k => g _ k (by omega) (by omega) (by omega) (by omega)) (fun k => g _ k (by decide) (by decide) (by decide) (by omega)) (fun k => g _ k (by decide) (by decide) (by decide) (by omega)) (fun r' i' r0 r1 i0 i1 => ?_)
        have old := IvR_i h.2.1 r0 r1 i0 i1
        by_cases e1 : r' = r ∧ i' = i
        · obtain ⟨rfl, rfl⟩ := e1
          rw [up2_eq, up2_ne (.inl (by omega)), up2_ne (.inl (by omega)), up2_ne (.inl (by omega)), up2_ne (.inl (by omega)), up2_eq]
        · rw [up2_ne (.inr (by omega)), up2_ne (.inl (by decide)), up2_ne (.inl (by decide)), up2_ne (.inl (by decide)), up2_ne (.inl (by omega)), up2_ne (.inl (by omega)), up2_ne (.inl (by omega)), up2_ne (.inl (by omega)), up2_ne (.inl (by omega)), old]
          by_cases e2 : r' = r
          · subst e2
            rw [up2_ne (.inr (fun z => e1 ⟨rfl, z⟩))]
          · rw [up2_ne (.inl (by omega))]
      · rw [up2_ne (.inl (by decide)), up2_eq, up2_ne (.inl (by decide)), up2_ne (.inl (by decide)), up2_ne (.inl (by decide)), up2_eq]
theorem sp_copy {I L I1 L1 I2 L2 : MI} {a i b j n z z' : Int} (h : Inv I L) (c : CpyQ I L a i b j n z I1 L1) (q : rCpyQ I1 L1 a i b j n z' I2 L2) : z = z' ∧ Inv I2 L2 := by
  obtain ⟨rfl, c⟩ := c
  obtain ⟨rfl, q⟩ := q
  have e : ∀ o, 78 ≤ o → ∀ k, I1 o k = I o k := by
    intro o ho k
    rcases c with ⟨c1, rfl, rfl⟩ | ⟨c1, c2, rfl, rfl⟩ | ⟨c1, c2, c3, rfl, rfl⟩ | ⟨c1, c2, c3, c4, rfl, rfl⟩ | ⟨c1, c2, c3, c4, rfl, rfl⟩
    · rfl
    · rw [up2_ne (.inl (by omega))]
    · rw [up2_ne (.inl (by omega))]
    · rw [up2_ne (.inl (by omega))]
    · rw [up2_ne (.inl (by omega)), cpI_n (.inl (by omega))]
  have hr := fun (r : Int) (x : 0 ≤ r ∧ r < 8) => (show (((I (40 + 2 * r.toNat) 0 = 0 ∧ I 79 r < 0) ∨ (I (40 + 2 * r.toNat) 0 ≠ 0 ∧ I 79 r = I (40 + 2 * r.toNat) 1 ∧ 0 ≤ I 79 r ∧ I 79 r ≤ 2)) ∧ I 80 r = I (40 + 2 * r.toNat) 2 ∧ I 80 r ≤ 40) from ⟨(h.2.1 r x.1 x.2).1, (h.2.1 r x.1 x.2).2.1, (h.2.1 r x.1 x.2).2.2.1.2⟩)
  rw [e 79 (by decide), e 79 (by decide), e 80 (by decide), e 80 (by decide)] at q
  rcases c with ⟨c1, rfl, rfl⟩ | ⟨c1, c2, rfl, rfl⟩ | ⟨c1, c2, c3, rfl, rfl⟩ | ⟨c1, c2, c3, c4, rfl, rfl⟩ | ⟨c1, c2, c3, c4, hz, hI⟩
  · rcases q with ⟨q1, rfl, rfl⟩ | ⟨q1, q2, rfl, rfl⟩ | ⟨q1, q2, q3, rfl, rfl⟩ | ⟨q1, q2, q3, q4, rfl, rfl⟩ | ⟨q1, q2, q3, q4, rfl, rfl⟩
    · exact ⟨rfl, Inv_no h⟩
    all_goals omega
  · have x1 := hr a c1.1
    have x2 := hr b c1.2
    rcases q with ⟨q1, rfl, rfl⟩ | ⟨q1, q2, rfl, rfl⟩ | ⟨q1, q2, q3, rfl, rfl⟩ | ⟨q1, q2, q3, q4, rfl, rfl⟩ | ⟨q1, q2, q3, q4, rfl, rfl⟩
    · omega
    · exact ⟨rfl, Inv_fd h 0 1⟩
    all_goals omega
  · have x1 := hr a c1.1
    have x2 := hr b c1.2
    rcases q with ⟨q1, rfl, rfl⟩ | ⟨q1, q2, rfl, rfl⟩ | ⟨q1, q2, q3, rfl, rfl⟩ | ⟨q1, q2, q3, q4, rfl, rfl⟩ | ⟨q1, q2, q3, q4, rfl, rfl⟩
    · omega
    · omega
    · exact ⟨rfl, Inv_fd h 0 5⟩
    all_goals omega
  · have x1 := hr a c1.1
    have x2 := hr b c1.2
    rcases q with ⟨q1, rfl, rfl⟩ | ⟨q1, q2, rfl, rfl⟩ | ⟨q1, q2, q3, rfl, rfl⟩ | ⟨q1, q2, q3, q4, rfl, rfl⟩ | ⟨q1, q2, q3, q4, rfl, rfl⟩
    · omega
    · omega
    · omega
    · exact ⟨rfl, Inv_fd h 0 2⟩
    · omega
  · have x1 := hr a c1.1
    have x2 := hr b c1.2
    rcases q with ⟨q1, rfl, rfl⟩ | ⟨q1, q2, rfl, rfl⟩ | ⟨q1, q2, q3, rfl, rfl⟩ | ⟨q1, q2, q3, q4, rfl, rfl⟩ | ⟨q1, q2, q3, q4, rfl, hI2⟩
    · omega
    · omega
    · omega
    · omega
    · subst hI
      subst hI2
      refine ⟨hz, ?_⟩
      have ra : 40 + 2 * a.toNat ≤ 54 := by omega
      have rb : 40 + 2 * b.toNat ≤ 54 := by omega
      have w : ∀ (o : Nat) (k : Int), o ≠ 0 → o ≠ 78 → up2 (up2 (up2 (cpI I (40 + 2 * a.toNat + 1) i (40 + 2 * b.toNat + 1) j z') 0 12 0) 78 0 0) 78 1 0 o k = cpI I (40 + 2 * a.toNat + 1) i (40 + 2 * b.toNat + 1) j z' o k := fun o k x y => by
        rw [up2_ne (.inl y), up2_ne (.inl y), up2_ne (.inl x)]
      have g : ∀ (o : Nat) (k : Int), o ≠ 0 → o ≠ 78 → o ≠ 81 → o ≠ 40 + 2 * b.toNat + 1 → cpR (up2 (up2 (up2 (cpI I (40 + 2 * a.toNat + 1) i (40 + 2 * b.toNat + 1) j z') 0 12 0) 78 0 0) 78 1 0) (40 * a + i) (40 * b + j) (40 * b + j) (40 * b + j + z') o k = I o k := fun o k x y u v => by
        rw [cpR_n (.inl u), w o k x y, cpI_n (.inl v)]
      refine Inv_R h (fun o o1 o2 o3 o4 k => g o k o1 o2 (by omega) (by omega)) ?_ (fun k k0 k1 => ?_) ?_ ?_
      · rw [cpR_n (.inl (by decide)), up2_ne (.inl (by decide)), up2_ne (.inl (by decide)), up2_ne (.inr (by decide)), cpI_n (.inl (by omega))]
      · rw [cpR_n (.inl (by decide)), up2_ne (.inr k1), up2_ne (.inr k0), up2_ne (.inl (by decide)), cpI_n (.inl (by omega))]
      · refine IvR_it h.2.1 (fun r' r0 r1 k => g _ k (by omega) (by omega) (by omega) (by omega)) (fun k => g _ k (by decide) (by decide) (by decide) (by omega)) (fun k => g _ k (by decide) (by decide) (by decide) (by omega)) (fun r' i' r0 r1 i0 i1 => ?_)
        have old := IvR_i h.2.1 r0 r1 i0 i1
        rw [cpR_n (o := 40 + 2 * r'.toNat + 1) (.inl (by omega)), w _ _ (by omega) (by omega)]
        by_cases e1 : r' = b ∧ j ≤ i' ∧ i' < j + z'
        · obtain ⟨rfl, e2⟩ := e1
          have src := IvR_i (r := a) (i := i + (i' - j)) h.2.1 (by omega) (by omega) (by omega) (by omega)
          rw [cpI_i e2, ← src]
          unfold cpR
          rw [if_pos ⟨rfl, by omega, by omega⟩, w _ _ (by decide) (by decide), cpI_n (.inl (by omega))]
          congr 1
          omega
        · rw [cpR_n (.inr (by omega)), w _ _ (by decide) (by decide), cpI_n (.inl (by omega)), old]
          by_cases e2 : r' = b
          · subst e2
            rw [cpI_n (.inr (by omega))]
          · rw [cpI_n (.inl (by omega))]
      · rw [cpR_n (.inl (by decide)), up2_eq, cpR_n (.inl (by decide)), up2_ne (.inl (by decide)), up2_ne (.inl (by decide)), up2_eq]
