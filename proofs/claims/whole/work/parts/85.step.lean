
/-! BOTH SIDES: of two, heard, plus, secret, dealt -/
theorem HFr_ck {I L I' L' : MI} (h : HFr I L I' L') : CK I I' ∧ CKL L L' ∧ JOK I' 15 ∧ TSame I I' 15 ∧ (∀ o, 78 ≤ o → ∀ k, L' o k = L o k) := by
  obtain ⟨f1, f2, hj⟩ := h
  exact ⟨⟨fun o o1 o2 o3 k => f1 o (by omega) (by omega) (by omega) (by omega) k, f1 0 (by decide) (by decide) (by decide) (by decide) 11, f1 0 (by decide) (by decide) (by decide) (by decide) 12, f1 38 (by decide) (by decide) (by decide) (by decide) 1⟩, fun o o1 k => f2 o (by omega) (by omega) k, hj, fun o o1 o2 k => f1 o (by omega) (by omega) (by omega) (by omega) k, fun o o1 k => f2 o (by omega) (by omega) k⟩
theorem sp_heard {I L I1 L1 I2 L2 : MI} {k i z z' : Int} (h : Inv I L) (c : HeaQ I L k i z I1 L1) (q : rHrdQ I1 L1 k i z' I2 L2) : z = z' ∧ Inv I2 L2 := by
  have hj := h.2.2.2.2.1
  obtain ⟨rk, rl, q⟩ := q
  rcases c with ⟨c1, rfl, rfl, rfl⟩ | ⟨c1, c2, rfl, rfl, rfl⟩ | ⟨c1, c2, c3, c4⟩
  · refine ⟨?_, Inv_ro h (CK_r _) (CKL_r _) hj rk rl⟩
    rcases q with ⟨q1, rfl⟩ | ⟨q1, q2⟩ | ⟨q1, q2⟩
    · rfl
    · exact absurd q1 c1
    · exact absurd q1 c1
  · have e := sl_e h (L1 := L1) (fun o _ k => rfl) c1.1
    refine ⟨?_, Inv_ro h (CK_r _) (CKL_r _) hj rk rl⟩
    rcases q with ⟨q1, rfl⟩ | ⟨q1, q2, rfl⟩ | ⟨q1, q2, q3⟩
    · exact absurd c1 q1
    · rfl
    · omega
  · obtain ⟨k1, k2, k3, ts, k5⟩ := HFr_ck c3
    refine ⟨?_, Inv_ro h k1 k2 k3 rk rl⟩
    have e := sl_e h k5 c1.1
    rw [e, GoodV_same ts] at q
    rcases q with ⟨q1, rfl⟩ | ⟨q1, q2, rfl⟩ | ⟨q1, q2, q3⟩
    · exact absurd c1 q1
    · omega
    · rw [c4, q3]
      rfl
theorem sp_plus {I L I1 L1 I2 L2 : MI} {n i z z' : Int} (h : Inv I L) (c : PluQ I L n i z I1 L1) (q : rPluQ I1 L1 n i z' I2 L2) : z = z' ∧ Inv I2 L2 := by
  have hj := h.2.2.2.2.1
  obtain ⟨rk, rl, q⟩ := q
  rcases c with ⟨c1, rfl, rfl, rfl⟩ | ⟨c0, c1, rfl, rfl, rfl⟩ | ⟨c0, c1, c3, c4⟩
  · refine ⟨?_, Inv_ro h (CK_r _) (CKL_r _) hj rk rl⟩
    rcases q with ⟨q1, rfl⟩ | ⟨q1, q2⟩ | ⟨q1, q2⟩
    · rfl
    · exact absurd c1 q1
    · exact absurd c1 q1
  · refine ⟨?_, Inv_ro h (CK_r _) (CKL_r _) hj rk rl⟩
    rcases q with ⟨q1, rfl⟩ | ⟨q0, q1, rfl⟩ | ⟨q0, q1, q3⟩
    · exact absurd q1 c0
    · rfl
    · exact absurd q1 c1
  · obtain ⟨k1, k2, k3, ts, k5⟩ := HFr_ck c3
    refine ⟨?_, Inv_ro h k1 k2 k3 rk rl⟩
    rw [GoodV_same ts, ts 15 (by decide) (by decide) 0] at q
    rcases q with ⟨q1, rfl⟩ | ⟨q0, q1, rfl⟩ | ⟨q0, q1, q3⟩
    · exact absurd q1 c0
    · exact absurd c1 q1
    · rw [c4, q3]
      rfl
theorem sp_both {I L : MI} {a b w : Int} (h : Inv I L) : botF L a b w = rbotF L a b w ∧ Inv (up2 I 78 0 0) L := by
  refine ⟨?_, Inv_no h⟩
  unfold botF rbotF
  by_cases q : ¬ ((0 ≤ a ∧ a < 8) ∧ (0 ≤ b ∧ b < 8) ∧ 0 ≤ w ∧ w ≤ 2)
  · rw [if_pos q, if_pos q]
  · have ea := h.2.2.2.1 a (by omega) (by omega)
    have eb := h.2.2.2.1 b (by omega) (by omega)
    rw [if_neg q, if_neg q, ea.1, eb.1]
theorem knI_c {S T : Int → Int} {v : Int} {n : Nat} : ∀ {m : Nat}, (∀ k : Nat, k < m → S k = T k) → knI S v n m = knI T v n m := by
  intro m
  induction m with
  | zero => intro _; rfl
  | succ m ih =>
    intro h
    unfold knI
    rw [ih (fun k hk => h k (by omega)), h m (by omega)]
theorem scN_c {A v : Int} {S T : Int → Int} (h : ∀ k : Nat, k < 8 → S k = T k) : ∀ x : Nat, scN A v S x = scN A v T x := by
  intro x
  induction x with
  | zero => rfl
  | succ x ih =>
    unfold scN
    rw [ih, knI_c h]
theorem sp_secret {I L : MI} {s o : Int} (h : Inv I L) : secF L s o = rsecF L s o ∧ Inv (up2 I 78 0 0) L := by
  refine ⟨?_, Inv_no h⟩
  unfold secF rsecF
  by_cases q : ¬ ((0 ≤ s ∧ s < 8) ∧ 0 ≤ o ∧ o < 256)
  · rw [if_pos q, if_pos q]
  · have es := h.2.2.2.1 s (by omega) (by omega)
    obtain ⟨o, rfl⟩ := Int.eq_ofNat_of_zero_le (show 0 ≤ o by omega)
    have am := ask_may (L := L) (s := s) (o := o) (by omega) (by omega) (fun k hk => by have := h.2.2.2.1 k (by omega) (by omega); omega)
    have sc : ∀ x, scN (mayN L s o 8 : Nat) (L 24 s) (L 24) x = scN (mayN L s o 8 : Nat) (L 24 s) (L 84) x := scN_c fun k hk => (h.2.2.2.1 k (by omega) (by omega)).1.symm
    rw [if_neg q, if_neg q, es.1, am, Int.toNat_natCast, sc]
/-- dealings agree however the best one began -/
def AcE (n : Nat) (a b : Int × (Nat → Int)) : Prop := a.1 = b.1 ∧ (a.1 ≠ 0 → ∀ t : Nat, t < n → a.2 t = b.2 t)
theorem AcE_u {n : Nat} {a b : Int × (Nat → Int)} (h : AcE n a b) (s : Int) (g : Nat → Nat) : AcE n (upA n a s g) (upA n b s g) := by
  unfold upA
  rw [← h.1]
  split
  next q =>
    refine ⟨rfl, fun _ t ht => ?_⟩
    show (if t < n then (g t : Int) else a.2 t) = (if t < n then (g t : Int) else b.2 t)
    rw [if_pos ht, if_pos ht]
  next q => exact h
theorem AcE_d {n m : Nat} {D : Nat → Nat → Int} {P : Nat → Int} : ∀ (r set : Nat) (g : Nat → Nat) (a b : Int × (Nat → Int)), AcE n a b → AcE n (dfA n m D P r set g a) (dfA n m D P r set g b) := by
  intro r
  induction r with
  | zero =>
    intro set g a b h
    show AcE n (lfA n m D P set g a) (lfA n m D P set g b)
    unfold lfA
    split
    · exact AcE_u h _ _
    · exact h
  | succ r ih =>
    intro set g a b h
    rw [← fdA_n, ← fdA_n]
    have key : ∀ j : Nat, AcE n (fdA n m D P r set g a j) (fdA n m D P r set g b j) := by
      intro j
      induction j with
      | zero => exact h
      | succ j ihj => rw [fdA_s, fdA_s]; exact ih _ _ _ _ ihj
    exact key n
theorem dlZ_c {n : Nat} {a b : Int × (Nat → Int)} {t : Int} (h : AcE n a b) (ht : -1 ≤ t ∧ t < n) : dlZ a t = dlZ b t := by
  unfold dlZ
  rw [← h.1]
  by_cases q : a.1 = 0
  · rw [if_pos q, if_pos q]
  · rw [if_neg q, if_neg q]
    by_cases q2 : t = -1
    · rw [if_pos q2, if_pos q2]
    · rw [if_neg q2, if_neg q2]
      exact h.2 q t.toNat (by omega)
theorem prI_D {D C : Nat → Nat → Int} {P R : Nat → Int} {g : Nat → Nat} {n q : Nat} (hg : ∀ t, g t < n) : ∀ {t : Nat}, (∀ i, i < t → D q i = C q i) → (∀ j, j < n → P j = R j) → prI D P g q t = prI C R g q t := by
  intro t
  induction t with
  | zero => intro _ _; rfl
  | succ t ih =>
    intro h hp
    unfold prI
    rw [ih (fun i hi => h i (by omega)) hp, h t (by omega), hp (g t) (hg t)]
theorem toI_D {n : Nat} {D C : Nat → Nat → Int} {P R : Nat → Int} {g : Nat → Nat} (hg : ∀ t, g t < n) : ∀ {m : Nat}, (∀ q t, q < m → t < n → D q t = C q t) → (∀ j, j < n → P j = R j) → toI n m D P g = toI n m C R g := by
  intro m h hp
  have e : ∀ q, q < m → prI D P g q n = prI C R g q n := fun q hq => prI_D hg (fun i hi => h q i hq hi) hp
  have e1 : ∀ k, k ≤ m → okI n D P g k = okI n C R g k := by
    intro k
    induction k with
    | zero => intro _; rfl
    | succ k ih =>
      intro hk
      unfold okI
      rw [ih (by omega), e k (by omega)]
  have e2 : ∀ k, k ≤ m → suI n D P g k = suI n C R g k := by
    intro k
    induction k with
    | zero => intro _; rfl
    | succ k ih =>
      intro hk
      unfold suI
      rw [ih (by omega), e k (by omega)]
  unfold toI
  rw [e1 m (Nat.le_refl m), e2 m (Nat.le_refl m)]
theorem dfA_D {n m : Nat} {D C : Nat → Nat → Int} {P R : Nat → Int} (h : ∀ q t, q < m → t < n → D q t = C q t) (hp : ∀ j, j < n → P j = R j) : ∀ (r set : Nat) (g : Nat → Nat) (a : Int × (Nat → Int)), (∀ t, g t < n) → dfA n m D P r set g a = dfA n m C R r set g a := by
  intro r
  induction r with
  | zero =>
    intro set g a hg
    show lfA n m D P set g a = lfA n m C R set g a
    unfold lfA
    rw [toI_D hg h hp]
  | succ r ih =>
    intro set g a hg
    rw [← fdA_n, ← fdA_n]
    have key : ∀ j : Nat, j ≤ n → fdA n m D P r set g a j = fdA n m C R r set g a j := by
      intro j
      induction j with
      | zero => intro _; rfl
      | succ j ihj =>
        intro hj
        rw [fdA_s, fdA_s, ihj (by omega)]
        refine ih _ _ _ fun t => ?_
        unfold upG
        split
        · omega
        · exact hg t
    exact key n (Nat.le_refl n)
theorem sp_dealt {I L I1 L1 I2 L2 : MI} {r n m t z z' : Int} (h : Inv I L) (c : DltQ I L r n m t z I1 L1) (q : rDltQ I1 L1 r n m t z' I2 L2) : z = z' ∧ Inv I2 L2 := by
  have hj := h.2.2.2.2.1
  obtain ⟨rl, q⟩ := q
  have hr := fun (x : 0 ≤ r ∧ r < 8) => (show (((I (40 + 2 * r.toNat) 0 = 0 ∧ I 79 r < 0) ∨ (I (40 + 2 * r.toNat) 0 ≠ 0 ∧ I 79 r = I (40 + 2 * r.toNat) 1 ∧ 0 ≤ I 79 r ∧ I 79 r ≤ 2)) ∧ I 80 r = I (40 + 2 * r.toNat) 2 ∧ I 80 r ≤ 40) from ⟨(h.2.1 r x.1 x.2).1, (h.2.1 r x.1 x.2).2.1, (h.2.1 r x.1 x.2).2.2.1.2⟩)
  have nmb : (2 ≤ n ∧ n ≤ 6) → (1 ≤ m ∧ m ≤ 4) → (((n.toNat * m.toNat : Nat) : Int) = n * m) := fun a b => by
    rw [Int.natCast_mul, Int.toNat_of_nonneg (by omega), Int.toNat_of_nonneg (by omega)]
  rcases c with ⟨c1, rfl, rfl, rfl⟩ | ⟨c1, c⟩
  · rcases q with ⟨q1, rfl, rk⟩ | ⟨q1, q⟩
    · exact ⟨rfl, Inv_ro h (CK_r _) (CKL_r _) hj rk rl⟩
    · exact absurd q1 c1
  · have x := hr c1.1
    have nm := nmb c1.2.1 c1.2.2.2.1
    rcases c with ⟨c2, rfl, rfl, rfl⟩ | ⟨c2, c3, rfl, rfl, rfl⟩ | ⟨c2, c3, c4, rfl, f1, rfl⟩ | ⟨c2, c3, c4, ⟨a2, c5⟩, f1, f2, f3, f4⟩
    · have e : ∀ o, o ≠ 0 → ∀ k, up2 I 0 12 1 o k = I o k := fun o ho k => up2_ne (.inl ho)
      rw [e 15 (by decide), e 79 (by decide), e 80 (by decide)] at q
      rcases q with ⟨q1, rfl, rk⟩ | ⟨q1, ⟨q2, rfl, rk⟩ | ⟨q2, q3, rfl, rk⟩ | ⟨q2, q3, q4, rfl, rk⟩ | ⟨q2, q3, q4, q5, rk⟩⟩
      · exact absurd c1 q1
      · exact ⟨rfl, Inv_rs h (CK_r _) (CKL_r _) (JOK_s hj) rk rl⟩
      all_goals omega
    · have e : ∀ o, o ≠ 0 → ∀ k, up2 I 0 12 2 o k = I o k := fun o ho k => up2_ne (.inl ho)
      rw [e 15 (by decide), e 79 (by decide), e 80 (by decide)] at q
      rcases q with ⟨q1, rfl, rk⟩ | ⟨q1, ⟨q2, rfl, rk⟩ | ⟨q2, q3, rfl, rk⟩ | ⟨q2, q3, q4, rfl, rk⟩ | ⟨q2, q3, q4, q5, rk⟩⟩
      · exact absurd c1 q1
      · omega
      · exact ⟨rfl, Inv_rs h (CK_r _) (CKL_r _) (JOK_s hj) rk rl⟩
      all_goals omega
    · have ck : CK I I1 := ⟨fun o o1 o2 o3 k => f1 o (by omega) (by omega) k, f1 0 (by decide) (by decide) 11, f1 0 (by decide) (by decide) 12, f1 38 (by decide) (by decide) 1⟩
      have j1 : JOK I1 15 := JOK_f hj (fun o o1 o2 k => f1 o (by omega) (by omega) k) (f1 29 (by decide) (by decide))
      rw [f1 15 (by decide) (by decide), f1 79 (by decide) (by decide), f1 80 (by decide) (by decide)] at q
      rcases q with ⟨q1, rfl, rk⟩ | ⟨q1, ⟨q2, rfl, rk⟩ | ⟨q2, q3, rfl, rk⟩ | ⟨q2, q3, q4, rfl, rk⟩ | ⟨q2, q3, q4, q5, rk⟩⟩
      · exact absurd c1 q1
      · omega
      · omega
      · exact ⟨rfl, Inv_ro h ck (CKL_r _) j1 rk rl⟩
      · exfalso
        obtain ⟨i, i1, i2⟩ := c4
        have := q4 i i1
        rw [f1 81 (by decide) (by decide), IvR_i h.2.1 c1.1.1 c1.1.2 (by omega) (by omega)] at this
        exact i2 this
    · have fr : ∀ o, o ≠ 0 → o ≠ 33 → o ≠ 34 → o ≠ 35 → o ≠ 37 → ∀ k, I1 o k = I o k := f1
      have ck : CK (up2 I 0 12 0) I1 := ⟨fun o o1 o2 o3 k => by rw [up2_ne (.inl o1)]; exact f1 o o1 (by omega) (by omega) (by omega) (by omega) k, by rw [up2_ne (.inr (by decide))]; exact f3 11 (by decide), by rw [up2_eq]; exact f2, by rw [up2_ne (.inl (by decide))]; exact f1 38 (by decide) (by decide) (by decide) (by decide) (by decide) 1⟩
      have ts : TSame I I1 15 := fun o o1 o2 k => f1 o (by omega) (by omega) (by omega) (by omega) (by omega) k
      have j1 : JOK I1 15 := JOK_f hj ts (f1 29 (by decide) (by decide) (by decide) (by decide) (by decide))
      have cl : CKL L L1 := fun o o1 k => f4 o (by omega) (by omega) k
      have e79 := f1 79 (by decide) (by decide) (by decide) (by decide) (by decide)
      have e80 := f1 80 (by decide) (by decide) (by decide) (by decide) (by decide)
      have e81 := f1 81 (by decide) (by decide) (by decide) (by decide) (by decide)
      rw [ts 15 (by decide) (by decide), e79, e80] at q
      rcases q with ⟨q1, rfl, rk⟩ | ⟨q1, ⟨q2, rfl, rk⟩ | ⟨q2, q3, rfl, rk⟩ | ⟨q2, q3, q4, rfl, rk⟩ | ⟨q2, q3, q4, ⟨a3, q5⟩, rk⟩⟩
      · exact absurd c1 q1
      · omega
      · omega
      · exfalso
        obtain ⟨i, i1, i2⟩ := q4
        rw [e81, IvR_i h.2.1 c1.1.1 c1.1.2 (by omega) (by omega)] at i2
        exact i2 (c4 i i1)
      · refine ⟨?_, Inv_rs h ck cl j1 rk rl⟩
        have eD : ∀ q t : Nat, q < m.toNat → t < n.toNat → rdD I1 r n.toNat q t = dlD I (40 + 2 * r.toNat) n.toNat q t := fun q t hq ht => by
          have lt : q * n.toNat + t < n.toNat * m.toNat := by
            have h1 : (q + 1) * n.toNat ≤ m.toNat * n.toNat := Nat.mul_le_mul_right n.toNat (by omega)
            rw [Nat.add_mul, Nat.one_mul, Nat.mul_comm m.toNat] at h1
            omega
          show I1 81 (40 * r + ((q * n.toNat + t : Nat) : Int)) = I (40 + 2 * r.toNat + 1) ((q * n.toNat + t : Nat) : Int)
          generalize q * n.toNat + t = y at *
          rw [e81, IvR_i h.2.1 c1.1.1 c1.1.2 (by omega) (by omega)]
        have eP : ∀ j : Nat, j < n.toNat → dlP I1 j = dlP I j := fun j _ => by show fstI I1 15 j = fstI I 15 j; rw [fstI_same ts]
        rw [dfA_D (n := n.toNat) (m := m.toNat) eD eP n.toNat 0 (fun _ => 0) _ (fun t => by omega)] at q5
        rw [c5, q5]
        exact dlZ_c (n := n.toNat) (AcE_d _ _ _ _ _ ⟨rfl, fun z => absurd rfl z⟩) (by omega)
