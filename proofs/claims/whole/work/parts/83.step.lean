
/-! BOTH SIDES: the tape, slots, sayings -/
theorem Inv_P {I L J : MI} (h : Inv I L) (f : ∀ o, o ≠ 2 → o ≠ 3 → o ≠ 85 → o ≠ 78 → ∀ k, J o k = I o k) (f78 : ∀ k, k ≠ 0 → k ≠ 10 → J 78 k = I 78 k) (hp : IvP J) : Inv J L := by
  obtain ⟨h1, h2, h3, h4, h5, h6, h7, h8, h9, h10⟩ := h
  have u : ∀ o, (o ≠ 2 ∧ o ≠ 3 ∧ o ≠ 85 ∧ o ≠ 78) → ∀ k, J o k = I o k := fun o ho k => f o ho.1 ho.2.1 ho.2.2.1 ho.2.2.2 k
  exact ⟨TR_f ⟨fun o o1 o2 k => u o (by omega) k, u 82 (by omega), f78 7 (by decide) (by decide)⟩ h1, IvR_f (fun o ho k => u o (by omega) k) h2, hp, h4, JOK_f h5 (fun o o1 o2 k => u o (by omega) k) (u 29 (by omega)), by rw [f78 11 (by decide) (by decide), u 0 (by omega)]; exact h6, by rw [f78 1 (by decide) (by decide), u 0 (by omega)]; exact h7, IvC_f (fun o ho k => u o (by omega) k) (u 38 (by omega) 1) (f78 29 (by decide) (by decide)) h8, IvM_f (fun o ho k => u o (by omega) k) (fun o ho k => rfl) (f78 7 (by decide) (by decide)) h9, IvM_f (fun o ho k => u o (by omega) k) (fun o ho k => rfl) (f78 7 (by decide) (by decide)) h10⟩
theorem sp_feed {I L I1 L1 I2 L2 : MI} {w n z z' : Int} (h : Inv I L) (c : FedQ I L w n z I1 L1) (q : rFedQ I1 L1 w n z' I2 L2) : z = z' ∧ Inv I2 L2 := by
  obtain ⟨rfl, c⟩ := c
  obtain ⟨rfl, q⟩ := q
  have hp := h.2.2.1
  have e : ∀ o, 78 ≤ o → ∀ k, I1 o k = I o k := by
    intro o ho k
    rcases c with ⟨c1, rfl, rfl⟩ | ⟨c1, c2, rfl, rfl⟩ | ⟨c1, c2, c3, c4, c5, -⟩
    · rfl
    · rfl
    · exact c5 o (by omega) (by omega) k
  have e10 : I1 78 10 = I 2 0 := (e 78 (by decide) 10).trans hp.1
  rw [e10] at q
  rcases c with ⟨c1, rfl, rfl⟩ | ⟨c1, c2, rfl, rfl⟩ | ⟨c1, c2, c3, c4, c5, c6, c7⟩
  · rcases q with ⟨q1, rfl, rfl⟩ | ⟨q1, q2, rfl, rfl⟩ | ⟨q1, q2, q3, q4, q5, q6, q7⟩
    · exact ⟨rfl, Inv_no h⟩
    · omega
    · omega
  · rcases q with ⟨q1, rfl, rfl⟩ | ⟨q1, q2, rfl, rfl⟩ | ⟨q1, q2, q3, q4, q5, q6, q7⟩
    · omega
    · exact ⟨rfl, Inv_no h⟩
    · omega
  · rcases q with ⟨q1, rfl, rfl⟩ | ⟨q1, q2, rfl, rfl⟩ | ⟨q1, q2, q3, q4, q5, q6, q7⟩
    · omega
    · omega
    · refine ⟨by omega, Inv_P h (fun o o1 o2 o3 o4 k => by rw [q5 o k (.inl o4) o3, c5 o o1 o2]) (fun k k0 k1 => by rw [q5 78 k (.inr ⟨k1, k0⟩) (by decide), c5 78 (by decide) (by decide)]) ?_⟩
      have l2 : ∀ k, I2 2 k = I1 2 k := fun k => q5 2 k (.inl (by decide)) (by decide)
      have l3 : ∀ k, I2 3 k = I1 3 k := fun k => q5 3 k (.inl (by decide)) (by decide)
      refine ⟨by rw [q4, l2, c4], by have := hp.2.1; rw [l2, c4]; omega, fun k k0 k1 => ?_⟩
      rw [l2, c4] at k1
      rw [l3]
      by_cases ek : k < I 2 0
      · rw [q6 k k0 ek, c6 k k0 ek, e 85 (by decide)]
        exact hp.2.2 k k0 ek
      · have a1 := q7 (k - I 2 0) (by omega) (by omega)
        have a2 := c7 (k - I 2 0) (by omega) (by omega)
        rw [show I 2 0 + (k - I 2 0) = k by omega] at a1 a2
        rw [a1, a2]
theorem Inv_S {I L J M : MI} (h : Inv I L) (f : ∀ o, o ≠ 0 → o ≠ 78 → ∀ k, J o k = I o k) (f0 : J 0 11 = I 0 11) (f78 : ∀ k, k ≠ 0 → k ≠ 1 → J 78 k = I 78 k) (hu : J 78 1 = J 0 12) (hs : IvS M) (g : ∀ o, o ≠ 24 → o ≠ 84 → ∀ k, M o k = L o k) : Inv J M := by
  obtain ⟨h1, h2, h3, h4, h5, h6, h7, h8, h9, h10⟩ := h
  have u : ∀ o, (o ≠ 0 ∧ o ≠ 78) → ∀ k, J o k = I o k := fun o ho k => f o ho.1 ho.2 k
  exact ⟨TR_f ⟨fun o o1 o2 k => u o (by omega) k, u 82 (by omega), f78 7 (by decide) (by decide)⟩ h1, IvR_f (fun o ho k => u o (by omega) k) h2, IvP_f (fun o ho k => u o (by omega) k) (f78 10 (by decide) (by decide)) h3, hs, JOK_f h5 (fun o o1 o2 k => u o (by omega) k) (u 29 (by omega)), by rw [f78 11 (by decide) (by decide), f0]; exact h6, hu, IvC_f (fun o ho k => u o (by omega) k) (u 38 (by omega) 1) (f78 29 (by decide) (by decide)) h8, IvM_f (fun o ho k => u o (by omega) k) (fun o ho k => g o (by omega) (by omega) k) (f78 7 (by decide) (by decide)) h9, IvM_f (fun o ho k => u o (by omega) k) (fun o ho k => g o (by omega) (by omega) k) (f78 7 (by decide) (by decide)) h10⟩
theorem IvS_u {L : MI} (h : IvS L) {k v : Int} (hv : 0 ≤ v ∧ v ≤ 1000000000000000) : IvS (up2 (up2 L 24 k v) 84 k v) := fun q q0 q1 => by
  have old := h q q0 q1
  by_cases e : q = k
  · subst e
    rw [up2_eq, up2_ne (.inl (by decide)), up2_eq]
    exact ⟨rfl, hv⟩
  · rw [up2_ne (.inr e), up2_ne (.inl (by decide)), up2_ne (.inl (by decide)), up2_ne (.inr e)]
    exact old
theorem sp_put {I L I1 L1 I2 L2 : MI} {k v z z' : Int} (h : Inv I L) (c : PutQ I L k v z I1 L1) (q : rPutQ I1 L1 k v z' I2 L2) : z = z' ∧ Inv I2 L2 := by
  obtain ⟨rfl, c⟩ := c
  obtain ⟨rfl, q⟩ := q
  rcases c with ⟨c1, rfl, rfl⟩ | ⟨c1, rfl, rfl⟩
  · rcases q with ⟨q1, rfl, rfl⟩ | ⟨q1, rfl, rfl⟩
    · exact ⟨rfl, Inv_no h⟩
    · exact absurd q1 c1
  · rcases q with ⟨q1, rfl, rfl⟩ | ⟨q1, rfl, rfl⟩
    · exact absurd c1 q1
    · refine ⟨rfl, Inv_S h (fun o o1 o2 k => up2_ne (.inl o2)) (up2_ne (.inl (by decide))) (fun k k0 k1 => up2_ne (.inr k0)) ?_ (IvS_u h.2.2.2.1 (by omega)) (fun o o1 o2 k => by rw [up2_ne (.inl o2), up2_ne (.inl o1)])⟩
      rw [up2_ne (.inr (by decide)), up2_ne (.inl (by decide))]
      exact h.2.2.2.2.2.2.1
theorem mdP_c {N M : Nat → Int} : ∀ {n : Nat}, (∀ q, q < n → N q = M q) → mdP N n = mdP M n := by
  intro n
  induction n with
  | zero => intro _; rfl
  | succ n ih =>
    intro h
    unfold mdP
    rw [ih (fun q hq => h q (by omega)), h n (by omega)]
theorem mdF_c {N M : Nat → Int} {n : Nat} (h : ∀ q, q < n → N q = M q) : mdF N n = mdF M n := by
  unfold mdF
  have e : (∃ k, k < n ∧ N k = 0) ↔ (∃ k, k < n ∧ M k = 0) := ⟨fun ⟨k, k1, k2⟩ => ⟨k, k1, by rw [← h k k1]; exact k2⟩, fun ⟨k, k1, k2⟩ => ⟨k, k1, by rw [h k k1]; exact k2⟩⟩
  rw [propext e, mdP_c h]
theorem mdP_b2 {N : Nat → Int} (h : ∀ q, 0 ≤ N q) : ∀ n : Nat, 0 ≤ mdP N n ∧ mdP N n ≤ 1000000000000000 := by
  intro n
  induction n with
  | zero => show (0 : Int) ≤ 1 ∧ (1 : Int) ≤ 1000000000000000; decide
  | succ n ih => exact tmI_b ih.1 (h n)
theorem numI_same {I J : MI} {t : Nat} (h : TSame I J t) (v : Int) : numI J t v = numI I t v := by
  unfold numI
  rw [fstI_same h, othI_same h]
theorem sp_say {I L I1 L1 I2 L2 : MI} {k r i n z z' : Int} (h : Inv I L) (c : SayQ I L k r i n z I1 L1) (q : rSayQ I1 L1 k r i n z' I2 L2) : z = z' ∧ Inv I2 L2 := by
  have hj := h.2.2.2.2.1
  have e : (∀ o, o ≠ 0 → ∀ k, I1 o k = I o k) := by
    intro o ho k
    rcases c with ⟨c1, -, rfl, -⟩ | ⟨c1, c2, -, rfl, -⟩ | ⟨c1, c2, c3, -, rfl, -⟩ | ⟨c1, c2, c3, c4, ⟨c5, rfl, -⟩ | ⟨c5, rfl, -⟩⟩
    · rfl
    · rw [up2_ne (.inl ho)]
    · rw [up2_ne (.inl ho)]
    · rfl
    · rw [up2_ne (.inl ho)]
  have jst : ∀ c : Int, JOK (up2 I 0 12 c) 15 := fun c => JOK_f hj (fun o o1 o2 k => up2_ne (.inl (by omega))) (fun k => up2_ne (.inl (by decide)))
  have ts : TSame I I1 15 := fun o o1 o2 k => e o (by omega) k
  have hr : 0 ≤ r ∧ r < 8 → (((I (40 + 2 * r.toNat) 0 = 0 ∧ I 79 r < 0) ∨ (I (40 + 2 * r.toNat) 0 ≠ 0 ∧ I 79 r = I (40 + 2 * r.toNat) 1 ∧ 0 ≤ I 79 r ∧ I 79 r ≤ 2)) ∧ I 80 r = I (40 + 2 * r.toNat) 2 ∧ I 80 r ≤ 40) := fun x => ⟨(h.2.1 r x.1 x.2).1, (h.2.1 r x.1 x.2).2.1, (h.2.1 r x.1 x.2).2.2.1.2⟩
  have em : (0 ≤ r ∧ r < 8) → 0 ≤ i → 0 ≤ n → i + n ≤ 40 → mdF (fun q => numI I1 15 (I1 81 (40 * r + i + (q : Int)))) n.toNat = mdF (itN I (40 + 2 * r.toNat) i) n.toNat := fun x i0 n0 i1 => mdF_c fun q hq => by
    rw [numI_same ts, e 81 (by decide)]
    have it := IvR_i (i := i + q) h.2.1 x.1 x.2 (by omega) (by omega)
    rw [show 40 * r + i + (q : Int) = 40 * r + (i + q) by omega, it]
    unfold itN
    rw [atI_in (by omega)]
  unfold rSayQ at q
  rw [e 79 (by decide), e 80 (by decide)] at q
  rcases c with ⟨c1, rfl, rfl, rfl⟩ | ⟨c1, c2, rfl, rfl, rfl⟩ | ⟨c1, c2, c3, rfl, rfl, rfl⟩ | ⟨c1, c2, c3, c4, c5⟩
  · rcases q with ⟨q1, rfl, q3, rfl⟩ | ⟨q1, q2, rfl, q3, rfl⟩ | ⟨q1, q2, q3, rfl, q4, rfl⟩ | ⟨q1, q2, q3, q4, q5⟩
    · exact ⟨rfl, Inv_ro h (CK_r _) (CKL_r _) hj q3 (RKL_r _)⟩
    all_goals omega
  · have x1 := hr c1.2.1
    rcases q with ⟨q1, rfl, q3, rfl⟩ | ⟨q1, q2, rfl, q3, rfl⟩ | ⟨q1, q2, q3, rfl, q4, rfl⟩ | ⟨q1, q2, q3, q4, q5⟩
    · omega
    · exact ⟨rfl, Inv_rs h (CK_r _) (CKL_r _) (jst 1) q3 (RKL_r _)⟩
    all_goals omega
  · have x1 := hr c1.2.1
    rcases q with ⟨q1, rfl, q3, rfl⟩ | ⟨q1, q2, rfl, q3, rfl⟩ | ⟨q1, q2, q3, rfl, q4, rfl⟩ | ⟨q1, q2, q3, q4, q5⟩
    · omega
    · omega
    · exact ⟨rfl, Inv_rs h (CK_r _) (CKL_r _) (jst 2) q4 (RKL_r _)⟩
    · omega
  · have x1 := hr c1.2.1
    rcases q with ⟨q1, rfl, q3, rfl⟩ | ⟨q1, q2, rfl, q3, rfl⟩ | ⟨q1, q2, q3, rfl, q4, rfl⟩ | ⟨q1, q2, q3, q4, q5⟩
    · omega
    · omega
    · omega
    · rw [em c1.2.1 c3.1 c1.2.2.1 (by omega), ← c4] at q4
      subst q4
      refine ⟨rfl, ?_⟩
      rcases c5 with ⟨c5, rfl, rfl⟩ | ⟨c5, rfl, rfl⟩
      · rcases q5 with ⟨q5, q6, rfl⟩ | ⟨q5, q6, rfl⟩
        · exact Inv_ro h (CK_r _) (CKL_r _) hj q6 (RKL_r _)
        · omega
      · rcases q5 with ⟨q5, q6, rfl⟩ | ⟨q5, q6, rfl⟩
        · omega
        · have bz : z' ≤ 1000000000000000 := by
            rw [c4]
            unfold mdF
            split
            · decide
            · split
              · decide
              · exact (mdP_b2 (N := itN I (40 + 2 * r.toNat) i) (fun q => (numI_b h.1.1 _).1) n.toNat).2
          have h2 := Inv_rs (I2 := I2) (L2 := L) h (CK_r (up2 I 0 12 0)) (CKL_r L) (jst 0) q6 (RKL_r L)
          exact Inv_S h2 (fun o _ _ k => rfl) rfl (fun k _ _ => rfl) h2.2.2.2.2.2.2.1 (IvS_u (k := k) h2.2.2.2.1 ⟨by omega, bz⟩) (fun o o1 o2 k => by rw [up2_ne (.inl o2), up2_ne (.inl o1)])
