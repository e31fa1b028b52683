
/-! BOTH SIDES: what stands between the class's cells and the reference's -/
def IvR (I : MI) : Prop := ∀ r : Int, 0 ≤ r → r < 8 → ((I (40 + 2 * r.toNat) 0 = 0 ∧ I 79 r < 0) ∨ (I (40 + 2 * r.toNat) 0 ≠ 0 ∧ I 79 r = I (40 + 2 * r.toNat) 1 ∧ 0 ≤ I 79 r ∧ I 79 r ≤ 2)) ∧ I 80 r = I (40 + 2 * r.toNat) 2 ∧ (0 ≤ I 80 r ∧ I 80 r ≤ 40) ∧ ∀ i, 0 ≤ i → i < 40 → I 81 (40 * r + i) = I (40 + 2 * r.toNat + 1) i
def IvP (I : MI) : Prop := I 78 10 = I 2 0 ∧ (0 ≤ I 2 0 ∧ I 2 0 ≤ 400) ∧ ∀ k, 0 ≤ k → k < I 2 0 → I 85 k = I 3 k % 256
def IvS (L : MI) : Prop := ∀ k, 0 ≤ k → k < 8 → L 84 k = L 24 k ∧ 0 ≤ L 24 k ∧ L 24 k ≤ 1000000000000000
def IvC (I : MI) : Prop := I 78 29 = I 38 1 ∧ (0 ≤ I 38 1 ∧ I 38 1 ≤ 16) ∧ ∀ j, 0 ≤ j → j < I 38 1 → I 93 j = I 39 j
def IvM (I L : MI) (k : Int) (s : Nat) : Prop := (I 90 k = 0 ∧ I (s + 1) 0 = 0 ∧ TB I (s + 1)) ∨ ((I 90 k ≠ 0 ∧ I 78 7 = 1) ∧ 1 ≤ I (s + 1) 0 ∧ WfT I (s + 1) ∧ TR2 I I (s + 1) 91 (65 * k) ∧ ∀ q, 0 ≤ q → q < 8 → L 92 (8 * k + q) = L (s + 10) q ∧ 0 ≤ L (s + 10) q ∧ L (s + 10) q ≤ 1000000000000000)
def Inv (I L : MI) : Prop := TRq I ∧ IvR I ∧ IvP I ∧ IvS L ∧ JOK I 15 ∧ I 78 11 = I 0 11 ∧ I 78 1 = I 0 12 ∧ IvC I ∧ IvM I L 0 56 ∧ IvM I L 1 67
theorem IvR_f {I J : MI} (f : ∀ o, (40 ≤ o ∧ o ≤ 55) ∨ (79 ≤ o ∧ o ≤ 81) → ∀ k, J o k = I o k) (h : IvR I) : IvR J := by
  intro r r0 r1
  have q := h r r0 r1
  have e0 := f (40 + 2 * r.toNat) (.inl ⟨by omega, by omega⟩)
  have e1 := f (40 + 2 * r.toNat + 1) (.inl ⟨by omega, by omega⟩)
  have e79 := f 79 (.inr (by decide))
  have e80 := f 80 (.inr (by decide))
  have e81 := f 81 (.inr (by decide))
  simpa only [e0, e1, e79, e80, e81] using q
theorem IvP_f {I J : MI} (f : ∀ o, o = 2 ∨ o = 3 ∨ o = 85 → ∀ k, J o k = I o k) (f2 : J 78 10 = I 78 10) (h : IvP I) : IvP J := by
  unfold IvP at *
  simpa only [f 2 (.inl rfl), f 3 (.inr (.inl rfl)), f 85 (.inr (.inr rfl)), f2] using h
theorem IvS_f {L M : MI} (f : ∀ o, o = 24 ∨ o = 84 → ∀ k, M o k = L o k) (h : IvS L) : IvS M := by
  unfold IvS at *
  simpa only [f 24 (.inl rfl), f 84 (.inr rfl)] using h
theorem IvC_f {I J : MI} (f : ∀ o, o = 39 ∨ o = 93 → ∀ k, J o k = I o k) (f1 : J 38 1 = I 38 1) (f2 : J 78 29 = I 78 29) (h : IvC I) : IvC J := by
  unfold IvC at *
  simpa only [f 39 (.inl rfl), f 93 (.inr rfl), f1, f2] using h
theorem TR2_f {I J D C : MI} {t a : Nat} {b : Int} (f : ∀ k, J a k = I a k) (g : ∀ o, t ≤ o → o ≤ t + 8 → ∀ k, C o k = D o k) (h : TR2 I D t a b) : TR2 J C t a b := by
  unfold TR2 at *
  simpa only [f, g t (by omega) (by omega), g (t + 1) (by omega) (by omega), g (t + 2) (by omega) (by omega), g (t + 3) (by omega) (by omega), g (t + 4) (by omega) (by omega), g (t + 5) (by omega) (by omega), g (t + 6) (by omega) (by omega), g (t + 7) (by omega) (by omega), g (t + 8) (by omega) (by omega)] using h
theorem IvM_f {I J L M : MI} {k : Int} {s : Nat} (f : ∀ o, o = 90 ∨ o = 91 ∨ (s + 1 ≤ o ∧ o ≤ s + 9) → ∀ j, J o j = I o j) (g : ∀ o, o = 92 ∨ o = s + 10 → ∀ j, M o j = L o j) (f7 : J 78 7 = I 78 7) (h : IvM I L k s) : IvM J M k s := by
  have ts : TSame I J (s + 1) := fun o o1 o2 j => f o (.inr (.inr ⟨o1, o2⟩)) j
  rcases h with ⟨h1, h2, h3⟩ | ⟨h1, h2, h3, h4, h5⟩
  · exact .inl ⟨by rw [f 90 (.inl rfl)]; exact h1, by rw [f (s + 1) (.inr (.inr ⟨by omega, by omega⟩))]; exact h2, TB_same ts h3⟩
  · refine .inr ⟨by rw [f 90 (.inl rfl), f7]; exact h1, by rw [f (s + 1) (.inr (.inr ⟨by omega, by omega⟩))]; exact h2, WfT_same ts h3, TR2_f (f 91 (.inr (.inl rfl))) ts h4, fun q q0 q1 => ?_⟩
    rw [g 92 (.inl rfl), g (s + 10) (.inr rfl)]
    exact h5 q q0 q1
/-- the cells that last -/
def PSm (I J : MI) : Prop := (∀ o, (o = 2 ∨ o = 3 ∨ (15 ≤ o ∧ o ≤ 23) ∨ (39 ≤ o ∧ o ≤ 55) ∨ (57 ≤ o ∧ o ≤ 65) ∨ (68 ≤ o ∧ o ≤ 76) ∨ (79 ≤ o ∧ o ≤ 82) ∨ o = 85 ∨ (90 ≤ o ∧ o ≤ 93)) → ∀ k, J o k = I o k) ∧ (J 0 11 = I 0 11 ∧ J 0 12 = I 0 12 ∧ J 38 1 = I 38 1) ∧ (J 78 1 = I 78 1 ∧ J 78 7 = I 78 7 ∧ J 78 10 = I 78 10 ∧ J 78 11 = I 78 11 ∧ J 78 29 = I 78 29)
def PSl (L M : MI) : Prop := ∀ o, (o = 24 ∨ o = 66 ∨ o = 77 ∨ o = 84 ∨ o = 92) → ∀ k, M o k = L o k
theorem Inv_same {I L J M : MI} (h : Inv I L) (f : PSm I J) (g : PSl L M) (hj : JOK J 15) : Inv J M := by
  obtain ⟨h1, h2, h3, h4, -, h6, h7, h8, h9, h10⟩ := h
  obtain ⟨f1, ⟨a1, a2, a3⟩, b1, b2, b3, b4, b5⟩ := f
  refine ⟨TR_f ⟨fun o o1 o2 k => f1 o (by omega) k, f1 82 (by decide), b2⟩ h1, IvR_f (fun o ho k => f1 o (by omega) k) h2, IvP_f (fun o ho k => f1 o (by omega) k) b3 h3, IvS_f (fun o ho k => g o (by omega) k) h4, hj, by rw [a1, b4]; exact h6, by rw [a2, b1]; exact h7, IvC_f (fun o ho k => f1 o (by omega) k) a3 b5 h8, IvM_f (fun o ho k => f1 o (by omega) k) (fun o ho k => g o (by omega) k) b2 h9, IvM_f (fun o ho k => f1 o (by omega) k) (fun o ho k => g o (by omega) k) b2 h10⟩
/-- what a class's call that only tells leaves alone -/
def CK (I J : MI) : Prop := (∀ o, o ≠ 0 → ¬ (4 ≤ o ∧ o ≤ 13) → ¬ (26 ≤ o ∧ o ≤ 38) → ∀ k, J o k = I o k) ∧ J 0 11 = I 0 11 ∧ J 0 12 = I 0 12 ∧ J 38 1 = I 38 1
def CKL (L M : MI) : Prop := ∀ o, ¬ (26 ≤ o ∧ o ≤ 38) → ∀ k, M o k = L o k
theorem CK_r (I : MI) : CK I I := ⟨fun o _ _ _ k => rfl, rfl, rfl, rfl⟩
theorem CKL_r (L : MI) : CKL L L := fun o _ k => rfl
theorem Inv_ro {I L I1 L1 I2 L2 : MI} (h : Inv I L) (c : CK I I1) (cl : CKL L L1) (hj : JOK I1 15) (r : RK I1 I2) (rl : RKL L1 L2) : Inv I2 L2 := by
  obtain ⟨c1, c2, c3, c4⟩ := c
  obtain ⟨r1, r2⟩ := r
  have lo : ∀ o, o ≠ 78 → ¬ (83 ≤ o ∧ o ≤ 89) → o ≠ 0 → ¬ (4 ≤ o ∧ o ≤ 13) → ¬ (26 ≤ o ∧ o ≤ 38) → ∀ k, I2 o k = I o k := fun o a1 a2 a3 a4 a5 k => by
    rw [r1 o a1 (by omega) (by omega) (by omega) (by omega) (by omega), c1 o a3 a4 a5]
  refine Inv_same h ⟨fun o ho k => ?_, ⟨?_, ?_, ?_⟩, ?_, ?_, ?_, ?_, ?_⟩ (fun o ho k => by rw [rl o (by omega), cl o (by omega)]) (fun n n1 n2 => ?_)
  · by_cases e : o = 85
    · subst e
      rw [r1 85 (by decide) (by decide) (by decide) (by decide) (by decide) (by decide), c1 85 (by decide) (by decide) (by decide)]
    · exact lo o (by omega) (by omega) (by omega) (by omega) (by omega) k
  · rw [r1 0 (by decide) (by decide) (by decide) (by decide) (by decide) (by decide), c2]
  · rw [r1 0 (by decide) (by decide) (by decide) (by decide) (by decide) (by decide), c3]
  · rw [r1 38 (by decide) (by decide) (by decide) (by decide) (by decide) (by decide), c4]
  · rw [r2 1 (by decide), c1 78 (by decide) (by decide) (by decide)]
  · rw [r2 7 (by decide), c1 78 (by decide) (by decide) (by decide)]
  · rw [r2 10 (by decide), c1 78 (by decide) (by decide) (by decide)]
  · rw [r2 11 (by decide), c1 78 (by decide) (by decide) (by decide)]
  · rw [r2 29 (by decide), c1 78 (by decide) (by decide) (by decide)]
  · have := hj n n1 n2
    have ts : TSame I1 I2 15 := fun o o1 o2 k => r1 o (by omega) (by omega) (by omega) (by omega) (by omega) (by omega) k
    rw [GoodP_same ts, r1 29 (by decide) (by decide) (by decide) (by decide) (by decide) (by decide)]
    exact this
theorem JOK_f {I J : MI} (h : JOK I 15) (s : TSame I J 15) (e : ∀ k, J 29 k = I 29 k) : JOK J 15 := fun n n1 n2 => by
  rw [GoodP_same s, e]
  exact h n n1 n2
/-- both tell the same finding -/
theorem Inv_st {I L : MI} (h : Inv I L) (c : Int) : Inv (up2 (up2 I 0 12 c) 78 1 c) L := by
  obtain ⟨h1, h2, h3, h4, h5, h6, h7, h8, h9, h10⟩ := h
  have u : ∀ {o : Nat} {k : Int}, o ≠ 0 → o ≠ 78 → up2 (up2 I 0 12 c) 78 1 c o k = I o k := fun a b => by rw [up2_ne (.inl b), up2_ne (.inl a)]
  have u78 : ∀ {k : Int}, k ≠ 1 → up2 (up2 I 0 12 c) 78 1 c 78 k = I 78 k := fun a => by rw [up2_ne (.inr a), up2_ne (.inl (by decide))]
  refine ⟨TR_f ⟨fun o o1 o2 k => u (by omega) (by omega), fun k => u (by decide) (by decide), u78 (by decide)⟩ h1, IvR_f (fun o ho k => u (by omega) (by omega)) h2, IvP_f (fun o ho k => u (by omega) (by omega)) (u78 (by decide)) h3, h4, JOK_f h5 (fun o o1 o2 k => u (by omega) (by omega)) (fun k => u (by decide) (by decide)), ?_, ?_, IvC_f (fun o ho k => u (by omega) (by omega)) (u (by decide) (by decide)) (u78 (by decide)) h8, IvM_f (fun o ho k => u (by omega) (by omega)) (fun o ho k => rfl) (u78 (by decide)) h9, IvM_f (fun o ho k => u (by omega) (by omega)) (fun o ho k => rfl) (u78 (by decide)) h10⟩
  · rw [u78 (by decide), up2_ne (.inl (by decide)), up2_ne (.inr (by decide))]; exact h6
  · rw [up2_eq, up2_ne (.inl (by decide)), up2_eq]
theorem Inv_rs {I L I1 L1 I2 L2 : MI} {c : Int} (h : Inv I L) (k : CK (up2 I 0 12 c) I1) (cl : CKL L L1) (hj : JOK I1 15) (r : RK (up2 I1 78 1 c) I2) (rl : RKL L1 L2) : Inv I2 L2 := by
  have h2 := Inv_st h c
  refine Inv_ro (I1 := up2 I1 78 1 c) h2 ⟨fun o a1 a2 a3 j => ?_, ?_, ?_, ?_⟩ cl (JOK_f hj (fun o o1 o2 j => up2_ne (.inl (by omega))) (fun j => up2_ne (.inl (by decide)))) r rl
  · by_cases e : o = 78
    · subst e
      by_cases e2 : j = 1
      · subst e2; rw [up2_eq, up2_eq]
      · rw [up2_ne (.inr e2), up2_ne (.inr e2)]; exact k.1 78 (by decide) (by decide) (by decide) j
    · rw [up2_ne (.inl e), up2_ne (.inl e)]; exact k.1 o a1 a2 a3 j
  · rw [up2_ne (.inl (by decide)), up2_ne (.inl (by decide))]; exact k.2.1
  · rw [up2_ne (.inl (by decide)), up2_ne (.inl (by decide))]; exact k.2.2.1
  · rw [up2_ne (.inl (by decide)), up2_ne (.inl (by decide))]; exact k.2.2.2
/-- what the calls' contracts ask for -/
theorem Inv_Sl {I L : MI} (h : Inv I L) : SlB L ∧ SlR L := ⟨fun k k0 k1 => (h.2.2.2.1 k k0 k1).2, fun k k0 k1 => by have := h.2.2.2.1 k k0 k1; omega⟩
theorem Inv_sz {I L : MI} (h : Inv I L) : (∀ q : Int, 0 ≤ q → q < 8 → 0 ≤ I (40 + 2 * q.toNat) 2 ∧ I (40 + 2 * q.toNat) 2 ≤ 40) ∧ ∀ q : Int, 0 ≤ q → q < 8 → 0 ≤ I 80 q ∧ I 80 q ≤ 40 := ⟨fun q q0 q1 => by have := h.2.1 q q0 q1; omega, fun q q0 q1 => (h.2.1 q q0 q1).2.2.1⟩
