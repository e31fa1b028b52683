
/-! BOTH SIDES: ask, what is counted -/
theorem lt_l : ∀ (l : List Int) (J : MI) (c : Int), J 38 1 = c → 0 ≤ c → c + l.length ≤ 16 → (l.foldl ltI J) 38 1 = c + l.length ∧ (∀ j, j < c → (l.foldl ltI J) 39 j = J 39 j) ∧ (∀ j : Nat, j < l.length → (l.foldl ltI J) 39 (c + j) = l.getD j 0) ∧ ∀ o k, o ≠ 39 → (o ≠ 38 ∨ k ≠ 1) → (l.foldl ltI J) o k = J o k := by
  intro l
  induction l with
  | nil => intro J c h1 h2 h3; exact ⟨by show J 38 1 = c + 0; omega, fun j _ => rfl, fun j hj => absurd hj (Nat.not_lt_zero j), fun o k _ _ => rfl⟩
  | cons x l ih =>
    intro J c h1 h2 h3
    have hl : ((x :: l).length : Int) = l.length + 1 := by simp
    rw [hl] at h3
    have e : ltI J x = up2 (up2 J 39 c x) 38 1 (c + 1) := by unfold ltI; rw [h1, if_pos (by omega)]
    have hi := ih (ltI J x) (c + 1) (by rw [e, up2_eq]) (by omega) (by omega)
    show (l.foldl ltI (ltI J x)) 38 1 = _ ∧ _
    refine ⟨by rw [hi.1, hl]; omega, fun j hj => ?_, fun j hj => ?_, fun o k o1 o2 => ?_⟩
    · show (l.foldl ltI (ltI J x)) 39 j = _
      rw [hi.2.1 j (by omega), e, up2_ne (.inl (by decide)), up2_ne (.inr (by omega))]
    · show (l.foldl ltI (ltI J x)) 39 (c + j) = _
      cases j with
      | zero =>
        rw [show c + ((0 : Nat) : Int) = c by omega, hi.2.1 c (by omega), e, up2_ne (.inl (by decide)), up2_eq]
        rfl
      | succ j =>
        have := hi.2.2.1 j (by simpa using hj)
        rw [show c + ((j + 1 : Nat) : Int) = c + 1 + j by omega, this]
        rfl
    · show (l.foldl ltI (ltI J x)) o k = _
      rw [hi.2.2.2 o k o1 o2, e, up2_ne o2, up2_ne (.inl o1)]
theorem rlt_l : ∀ (l : List Int) (J : MI) (c : Int), J 78 29 = c → 0 ≤ c → c + l.length ≤ 16 → (l.foldl rlt J) 78 29 = c + l.length ∧ (∀ j, j < c → (l.foldl rlt J) 93 j = J 93 j) ∧ (∀ j : Nat, j < l.length → (l.foldl rlt J) 93 (c + j) = l.getD j 0) ∧ ∀ o k, o ≠ 93 → (o ≠ 78 ∨ k ≠ 29) → (l.foldl rlt J) o k = J o k := by
  intro l
  induction l with
  | nil => intro J c h1 h2 h3; exact ⟨by show J 78 29 = c + 0; omega, fun j _ => rfl, fun j hj => absurd hj (Nat.not_lt_zero j), fun o k _ _ => rfl⟩
  | cons x l ih =>
    intro J c h1 h2 h3
    have hl : ((x :: l).length : Int) = l.length + 1 := by simp
    rw [hl] at h3
    have e : rlt J x = up2 (up2 J 93 c x) 78 29 (c + 1) := by unfold rlt; rw [h1, if_pos (by omega)]
    have hi := ih (rlt J x) (c + 1) (by rw [e, up2_eq]) (by omega) (by omega)
    show (l.foldl rlt (rlt J x)) 78 29 = _ ∧ _
    refine ⟨by rw [hi.1, hl]; omega, fun j hj => ?_, fun j hj => ?_, fun o k o1 o2 => ?_⟩
    · show (l.foldl rlt (rlt J x)) 93 j = _
      rw [hi.2.1 j (by omega), e, up2_ne (.inl (by decide)), up2_ne (.inr (by omega))]
    · show (l.foldl rlt (rlt J x)) 93 (c + j) = _
      cases j with
      | zero =>
        rw [show c + ((0 : Nat) : Int) = c by omega, hi.2.1 c (by omega), e, up2_ne (.inl (by decide)), up2_eq]
        rfl
      | succ j =>
        have := hi.2.2.1 j (by simpa using hj)
        rw [show c + ((j + 1 : Nat) : Int) = c + 1 + j by omega, this]
        rfl
    · show (l.foldl rlt (rlt J x)) o k = _
      rw [hi.2.2.2 o k o1 o2, e, up2_ne o2, up2_ne (.inl o1)]
theorem askL_n (w k : Int) : (askL w k).length ≤ 6 := by
  unfold askL
  (repeat' split) <;> decide
theorem Inv_C {I L J M : MI} (h : Inv I L) (f : ∀ o, o ≠ 39 → o ≠ 93 → o ≠ 86 → o ≠ 78 → ¬ (26 ≤ o ∧ o ≤ 38) → ∀ k, J o k = I o k) (f29 : ∀ k, J 29 k = I 29 k) (f78 : ∀ k, k ≠ 0 → k ≠ 29 → J 78 k = I 78 k) (hc : IvC J) (g : ∀ o, o ≠ 26 → o ≠ 38 → o ≠ 78 → ∀ k, M o k = L o k) : Inv J M := by
  obtain ⟨h1, h2, h3, h4, h5, h6, h7, h8, h9, h10⟩ := h
  have u : ∀ o, (o ≠ 39 ∧ o ≠ 93 ∧ o ≠ 86 ∧ o ≠ 78 ∧ ¬ (26 ≤ o ∧ o ≤ 38)) → ∀ k, J o k = I o k := fun o ho k => f o ho.1 ho.2.1 ho.2.2.1 ho.2.2.2.1 ho.2.2.2.2 k
  have ts : TSame I J 15 := fun o o1 o2 k => u o (by omega) k
  exact ⟨TR_f ⟨ts, u 82 (by omega), f78 7 (by decide) (by decide)⟩ h1, IvR_f (fun o ho k => u o (by omega) k) h2, IvP_f (fun o ho k => u o (by omega) k) (f78 10 (by decide) (by decide)) h3, IvS_f (fun o ho k => g o (by omega) (by omega) (by omega) k) h4, JOK_f h5 ts f29, by rw [f78 11 (by decide) (by decide), u 0 (by omega)]; exact h6, by rw [f78 1 (by decide) (by decide), u 0 (by omega)]; exact h7, hc, IvM_f (fun o ho k => u o (by omega) k) (fun o ho k => g o (by omega) (by omega) (by omega) k) (f78 7 (by decide) (by decide)) h9, IvM_f (fun o ho k => u o (by omega) k) (fun o ho k => g o (by omega) (by omega) (by omega) k) (f78 7 (by decide) (by decide)) h10⟩
theorem sp_ask {I L I1 L1 I2 L2 : MI} {k w z z' : Int} (h : Inv I L) (c : AskQ I L k w z I1 L1) (q : rAskQ I1 L1 k w z' I2 L2) : z = z' ∧ Inv I2 L2 := by
  have hj := h.2.2.2.2.1
  obtain ⟨rl, q⟩ := q
  rcases c with ⟨c1, rfl, rfl, rfl⟩ | ⟨c1, c2, rfl, rfl, rfl⟩ | ⟨c1, c2, J, M, K, c3, c4, c5, c6, c7⟩
  · rcases q with ⟨q1, rfl, rk⟩ | ⟨q1, q2⟩ | ⟨q1, q2⟩
    · exact ⟨rfl, Inv_ro h (CK_r _) (CKL_r _) hj rk rl⟩
    · exact absurd q1 c1
    · exact absurd q1 c1
  · have e := sl_e h (L1 := L1) (fun o _ k => rfl) c1.1
    rcases q with ⟨q1, rfl, rk⟩ | ⟨q1, q2, rfl, rk⟩ | ⟨q1, q2, q3⟩
    · exact absurd c1 q1
    · exact ⟨rfl, Inv_ro h (CK_r _) (CKL_r _) hj rk rl⟩
    · omega
  · obtain ⟨k1, k2, k3, ts, k5⟩ := Tk_ck c3 hj
    have len := askL_n w K
    have a := lt_l (askL w K) (up2 (up2 (up2 (up2 J 38 1 0) 38 2 k) 38 4 (J 26 2)) 38 5 K) 0 (by rw [up2_ne (.inr (by decide)), up2_ne (.inr (by decide)), up2_ne (.inr (by decide)), up2_eq]) (by decide) (by omega)
    rw [← c6] at a
    have lo : ∀ o, o ≠ 38 → o ≠ 39 → ∀ j, I1 o j = J o j := fun o o1 o2 j => by
      rw [a.2.2.2 o j o2 (.inl o1), up2_ne (.inl o1), up2_ne (.inl o1), up2_ne (.inl o1), up2_ne (.inl o1)]
    have ts1 : TSame I I1 15 := fun o o1 o2 j => by rw [lo o (by omega) (by omega)]; exact ts o o1 o2 j
    have k6 : ∀ o, 78 ≤ o → ∀ j, L1 o j = L o j := fun o o1 j => by rw [c7, up2_ne (.inl (by omega))]; exact k5 o o1 j
    have e := sl_e h k6 c1.1
    rw [e, fstI_same ts1, othI_same ts1] at q
    rcases q with ⟨q1, rfl, rk⟩ | ⟨q1, q2, rfl, rk⟩ | ⟨q1, q2, R, K', q3, q4, q5, q6, q7, q8⟩
    · exact absurd c1 q1
    · omega
    · have eK : K' = K := by rw [c4]; exact Tk_told c3 ((TldQ_same ts1).mp q3)
      subst eK
      refine ⟨by rw [c5, q4, c3.2.2.2.1], ?_⟩
      have b := rlt_l (askL w K') R 0 q6 (by decide) (by omega)
      rw [← q5] at b
      have hi : ∀ o, o ≠ 78 → o ≠ 86 → o ≠ 93 → ∀ j, I2 o j = I1 o j := fun o o1 o2 o3 j => by
        rw [b.2.2.2 o j o3 (.inl o1)]; exact q7 o o1 o2 j
      refine Inv_C h (fun o o1 o2 o3 o4 o5 j => ?_) (fun j => ?_) (fun j j0 j1 => ?_) ?_ (fun o o1 o2 o3 j => ?_)
      · rw [hi o o4 o3 o2, lo o (by omega) o1]; exact c3.1 o (by omega) (by omega) j
      · rw [hi 29 (by decide) (by decide) (by decide), lo 29 (by decide) (by decide)]; exact c3.1 29 (by decide) (by decide) j
      · rw [b.2.2.2 78 j (by decide) (.inr j1), q8 j j0 j1, lo 78 (by decide) (by decide)]; exact c3.1 78 (by decide) (by decide) j
      · refine ⟨?_, ?_, fun j j0 j1 => ?_⟩
        · rw [b.1, hi 38 (by decide) (by decide) (by decide), a.1]
        · rw [hi 38 (by decide) (by decide) (by decide), a.1]; omega
        · rw [hi 38 (by decide) (by decide) (by decide), a.1] at j1
          rw [hi 39 (by decide) (by decide) (by decide)]
          have x := a.2.2.1 j.toNat (by omega)
          have y := b.2.2.1 j.toNat (by omega)
          rw [show (0 : Int) + (j.toNat : Int) = j by omega] at x y
          rw [x, y]
      · rw [rl o o3, c7, up2_ne (.inl o2)]; exact c3.2.1 o o1 j
theorem rows_e {I : MI} (h : IvR I) : ∀ k : Nat, k ≤ 8 → rtN I k = rRwN I k := by
  intro k
  induction k with
  | zero => intro _; rfl
  | succ k ih =>
    intro hk
    have x := (h k (by omega) (by omega)).1
    unfold rtN rRwN
    rw [ih (by omega)]
    rcases x with ⟨a, b⟩ | ⟨a, b, c, d⟩
    · rw [if_pos a, if_neg (by omega)]
    · rw [if_neg a, if_pos c]
theorem slots_e {L : MI} (h : IvS L) : ((bcN (hbN L 24 8) : Nat) : Int) = rSlN L 8 := by
  have b : ∀ i : Nat, i < 8 → ∃ y : Nat, y ≤ 1 ∧ (if L 24 (i : Int) = 0 then 0 else 2 ^ i) = y * 2 ^ i ∧ (if 0 < L 84 (i : Int) then (1 : Int) else 0) = y := fun i hi => by
    have x := h i (by omega) (by omega)
    by_cases q : L 24 (i : Int) = 0
    · exact ⟨0, by decide, by rw [if_pos q, Nat.zero_mul], by rw [if_neg (by omega)]; rfl⟩
    · exact ⟨1, by decide, by rw [if_neg q, Nat.one_mul], by rw [if_pos (by omega)]; rfl⟩
  obtain ⟨y0, l0, a0, c0⟩ := b 0 (by decide)
  obtain ⟨y1, l1, a1, c1⟩ := b 1 (by decide)
  obtain ⟨y2, l2, a2, c2⟩ := b 2 (by decide)
  obtain ⟨y3, l3, a3, c3⟩ := b 3 (by decide)
  obtain ⟨y4, l4, a4, c4⟩ := b 4 (by decide)
  obtain ⟨y5, l5, a5, c5⟩ := b 5 (by decide)
  obtain ⟨y6, l6, a6, c6⟩ := b 6 (by decide)
  obtain ⟨y7, l7, a7, c7⟩ := b 7 (by decide)
  simp only [hbN, rSlN]
  rw [a0, a1, a2, a3, a4, a5, a6, a7, c0, c1, c2, c3, c4, c5, c6, c7]
  have d : ∀ y0 y1 y2 y3 y4 y5 y6 y7 : Fin 2, bcN (0 + y0.val * 2 ^ 0 + y1.val * 2 ^ 1 + y2.val * 2 ^ 2 + y3.val * 2 ^ 3 + y4.val * 2 ^ 4 + y5.val * 2 ^ 5 + y6.val * 2 ^ 6 + y7.val * 2 ^ 7) = y0.val + y1.val + y2.val + y3.val + y4.val + y5.val + y6.val + y7.val := by decide +kernel
  have e : bcN (0 + y0 * 2 ^ 0 + y1 * 2 ^ 1 + y2 * 2 ^ 2 + y3 * 2 ^ 3 + y4 * 2 ^ 4 + y5 * 2 ^ 5 + y6 * 2 ^ 6 + y7 * 2 ^ 7) = y0 + y1 + y2 + y3 + y4 + y5 + y6 + y7 := d ⟨y0, by omega⟩ ⟨y1, by omega⟩ ⟨y2, by omega⟩ ⟨y3, by omega⟩ ⟨y4, by omega⟩ ⟨y5, by omega⟩ ⟨y6, by omega⟩ ⟨y7, by omega⟩
  rw [e]
  omega
theorem sp_count {I L : MI} {w : Int} (h : Inv I L) : cntF I L w = rCntF I L w ∧ Inv (up2 I 78 0 0) L := by
  refine ⟨?_, Inv_no h⟩
  have n := TR_n h.1
  unfold cntF rCntF
  rw [rows_e h.2.1 8 (Nat.le_refl 8), slots_e h.2.2.2.1, n.1, n.2.1, n.2.2, h.2.2.1.1]
theorem sp_said {I L : MI} {k : Int} (h : Inv I L) : (if 0 ≤ k ∧ k < 8 then (if L 24 k = 0 then (-1000000 : Int) else L 24 k) else -9000000000000000001) = (if 0 ≤ k ∧ k < 8 then (if L 84 k = 0 then -1000000 else L 84 k) else -9000000000000000001) ∧ Inv (up2 I 78 0 0) L := by
  refine ⟨?_, Inv_no h⟩
  by_cases q : 0 ≤ k ∧ k < 8
  · rw [if_pos q, if_pos q, (h.2.2.2.1 k q.1 q.2).1]
  · rw [if_neg q, if_neg q]
theorem sp_trace {I L : MI} {i : Int} (h : Inv I L) : (if 0 ≤ i ∧ i < I 38 1 then I 39 i else (-1000000 : Int)) = (if 0 ≤ i ∧ i < I 78 29 then I 93 i else -1000000) ∧ Inv (up2 I 78 0 0) L := by
  refine ⟨?_, Inv_no h⟩
  have c := h.2.2.2.2.2.2.2.1
  by_cases q : 0 ≤ i ∧ i < I 38 1
  · rw [if_pos q, if_pos (by rw [c.1]; exact q), c.2.2 i q.1 q.2]
  · rw [if_neg q, if_neg (by rw [c.1]; exact q)]
