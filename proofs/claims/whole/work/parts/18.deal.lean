
/-! DEALT, in numbers: dealings in their order; what is too long, or no dealing, changes nothing -/
theorem tdiv_le {a b : Int} (ha : 0 < a) (hb : 0 < b) : ¬ a > (1000000000000000 : Int).tdiv b ↔ a * b ≤ 1000000000000000 := by
  rw [Int.tdiv_eq_ediv_of_nonneg (by decide), gt_iff_lt, Int.not_lt, Int.le_ediv_iff_mul_le hb]
def tmI (a b : Int) : Int := if a = 0 ∨ b = 0 ∨ a > (1000000000000000 : Int).tdiv b then 0 else a * b
theorem tmI_pos {a b : Int} (ha : 0 < a) (hb : 0 < b) : tmI a b = if a * b ≤ 1000000000000000 then a * b else 0 := by
  unfold tmI
  have h := tdiv_le ha hb
  by_cases q : a * b ≤ 1000000000000000
  · rw [if_pos q, if_neg]
    intro h2
    rcases h2 with h2 | h2 | h2
    · omega
    · omega
    · exact h.mpr q h2
  · rw [if_neg q, if_pos]
    refine .inr (.inr ?_)
    apply Classical.byContradiction
    intro h2
    exact q (h.mp h2)
theorem tmI_0 (b : Int) : tmI 0 b = 0 := if_pos (.inl rfl)
def pwI (x p : Int) : Nat → Int
  | 0 => x
  | c + 1 => tmI (pwI x p c) p
theorem pwI_0 (p : Int) : ∀ c, pwI 0 p c = 0 := by
  intro c
  induction c with
  | zero => rfl
  | succ c ih => unfold pwI; rw [ih]; exact tmI_0 p
theorem mul_big {a b : Int} (ha : 0 < a) (hb : 0 < b) : a ≤ a * b := by
  have := Int.mul_le_mul_of_nonneg_left (show 1 ≤ b by omega) (show 0 ≤ a by omega)
  rwa [Int.mul_one] at this
theorem pwI_b {x p : Int} (hx : 0 ≤ x ∧ x ≤ 1000000000000000) (hp : 0 < p) : ∀ c, 0 ≤ pwI x p c ∧ pwI x p c ≤ 1000000000000000 := by
  intro c
  induction c with
  | zero => exact hx
  | succ c ih =>
    unfold pwI
    by_cases h0 : pwI x p c = 0
    · rw [h0, tmI_0]; decide
    · have hpos : 0 < pwI x p c := by omega
      rw [tmI_pos hpos hp]
      have := mul_big hpos hp
      split
      · omega
      · decide
section DL
variable (n m : Nat) (D : Nat → Nat → Int) (P : Nat → Int)
def prI (g : Nat → Nat) (q : Nat) : Nat → Int
  | 0 => 1
  | t + 1 => pwI (prI g q t) (P (g t)) (D q t).toNat
def okI (g : Nat → Nat) : Nat → Bool
  | 0 => true
  | q + 1 => okI g q && decide (prI D P g q n ≠ 0)
def suI (g : Nat → Nat) : Nat → Int
  | 0 => 0
  | q + 1 => suI g q + prI D P g q n
def toI (g : Nat → Nat) : Int := if okI n D P g m = true then suI n D P g m else 0
def upA (a : Int × (Nat → Int)) (s : Int) (g : Nat → Nat) : Int × (Nat → Int) := if 0 < s ∧ (a.1 = 0 ∨ s < a.1) then (s, fun t => if t < n then (g t : Int) else a.2 t) else a
def lfA (set : Nat) (g : Nat → Nat) (a : Int × (Nat → Int)) : Int × (Nat → Int) := if set = 2 ^ n - 1 then upA n a (toI n m D P g) g else a
def upG (g : Nat → Nat) (k j : Nat) : Nat → Nat := fun t => if t = k then j else g t
def dfA : Nat → Nat → (Nat → Nat) → Int × (Nat → Int) → Int × (Nat → Int)
  | 0, set, g, a => lfA n m D P set g a
  | r + 1, set, g, a => (List.range n).foldl (fun a j => dfA r (set ||| 2 ^ j) (upG g (n - (r + 1)) j) a) a
/-- the first j branches -/
def fdA (r set : Nat) (g : Nat → Nat) (a : Int × (Nat → Int)) (j : Nat) : Int × (Nat → Int) := (List.range j).foldl (fun a j => dfA n m D P r (set ||| 2 ^ j) (upG g (n - (r + 1)) j) a) a
end DL
theorem fdA_s {n m : Nat} {D : Nat → Nat → Int} {P : Nat → Int} {r set : Nat} {g : Nat → Nat} {a : Int × (Nat → Int)} {j : Nat} : fdA n m D P r set g a (j + 1) = dfA n m D P r (set ||| 2 ^ j) (upG g (n - (r + 1)) j) (fdA n m D P r set g a j) := by
  unfold fdA
  rw [List.range_succ, List.foldl_append]
  rfl
theorem fdA_n {n m : Nat} {D : Nat → Nat → Int} {P : Nat → Int} {r set : Nat} {g : Nat → Nat} {a : Int × (Nat → Int)} : fdA n m D P r set g a n = dfA n m D P (r + 1) set g a := rfl
/-- how many of the first six bits -/
def pcN (s : Nat) : Nat := s % 2 + s / 2 % 2 + s / 4 % 2 + s / 8 % 2 + s / 16 % 2 + s / 32 % 2
theorem pcN_or {s j : Nat} (hs : s < 64) (hj : j < 6) : s ||| 2 ^ j < 64 ∧ (s / 2 ^ j % 2 = 0 → pcN (s ||| 2 ^ j) = pcN s + 1) ∧ (s / 2 ^ j % 2 ≠ 0 → pcN (s ||| 2 ^ j) = pcN s) := by
  have : ∀ s : Fin 64, ∀ j : Fin 6, s.val ||| 2 ^ j.val < 64 ∧ (s.val / 2 ^ j.val % 2 = 0 → pcN (s.val ||| 2 ^ j.val) = pcN s.val + 1) ∧ (s.val / 2 ^ j.val % 2 ≠ 0 → pcN (s.val ||| 2 ^ j.val) = pcN s.val) := by decide +kernel
  exact this ⟨s, hs⟩ ⟨j, hj⟩
theorem pcN_lt {n s j : Nat} (hn : n ≤ 6) (hs : s < 2 ^ n) (hj : j < n) : s ||| 2 ^ j < 2 ^ n := Nat.or_lt_two_pow hs (Nat.pow_lt_pow_right (by decide) hj)
theorem pcN_all {n s : Nat} (hn : n ≤ 6) (hs : s < 2 ^ n) : pcN s = n ↔ s = 2 ^ n - 1 := by
  have : ∀ n : Fin 7, ∀ s : Fin 64, s.val < 2 ^ n.val → (pcN s.val = n.val ↔ s.val = 2 ^ n.val - 1) := by decide +kernel
  have h64 : s < 64 := Nat.lt_of_lt_of_le hs (Nat.pow_le_pow_right (n := 2) (by decide) hn)
  exact this ⟨n, by omega⟩ ⟨s, h64⟩ hs
section NE
variable {n m : Nat} {D : Nat → Nat → Int} {P : Nat → Int}
/-- too few bits: no dealing below -/
theorem dfA_few (hn : n ≤ 6) : ∀ (r set : Nat) (g : Nat → Nat) (a : Int × (Nat → Int)), set < 2 ^ n → pcN set + r < n → dfA n m D P r set g a = a := by
  intro r
  induction r with
  | zero =>
    intro set g a hs hp
    show lfA n m D P set g a = a
    unfold lfA
    rw [if_neg]
    intro h
    have := (pcN_all hn hs).mpr h
    omega
  | succ r ih =>
    intro set g a hs hp
    show fdA n m D P r set g a n = a
    have : ∀ j, j ≤ n → fdA n m D P r set g a j = a := by
      intro j
      induction j with
      | zero => intro _; rfl
      | succ j ihj =>
        intro hj
        rw [fdA_s, ihj (by omega)]
        have h64 : set < 64 := Nat.lt_of_lt_of_le hs (Nat.pow_le_pow_right (n := 2) (by decide) hn)
        have h6 := pcN_or h64 (show j < 6 by omega)
        refine ih _ _ _ (pcN_lt hn hs (by omega)) ?_
        by_cases hb : set / 2 ^ j % 2 = 0
        · have := h6.2.1 hb; omega
        · have := h6.2.2 hb; omega
    exact this n (Nat.le_refl _)
theorem prI_c {g g' : Nat → Nat} {q : Nat} : ∀ {t : Nat}, (∀ i, i < t → g i = g' i) → prI D P g q t = prI D P g' q t := by
  intro t
  induction t with
  | zero => intro _; rfl
  | succ t ih =>
    intro h
    unfold prI
    rw [ih (fun i hi => h i (by omega)), h t (by omega)]
theorem prI_z {g : Nat → Nat} {q t : Nat} (h : prI D P g q t = 0) : ∀ t', t ≤ t' → prI D P g q t' = 0 := by
  intro t'
  induction t' with
  | zero => intro h2; have : t = 0 := by omega
            subst this; exact h
  | succ t' ih =>
    intro h2
    by_cases e : t = t' + 1
    · subst e; exact h
    · unfold prI
      rw [ih (by omega), pwI_0]
theorem okI_z {g : Nat → Nat} {q : Nat} (h : prI D P g q n = 0) : ∀ {m : Nat}, q < m → okI n D P g m = false := by
  intro m
  induction m with
  | zero => intro h2; omega
  | succ m ih =>
    intro h2
    unfold okI
    by_cases e : q = m
    · subst e; simp [h]
    · rw [ih (by omega)]; rfl
/-- one saying too long: nothing below changes anything -/
theorem dfA_long {q t : Nat} (hq : q < m) : ∀ (r set : Nat) (g : Nat → Nat) (a : Int × (Nat → Int)), t + r ≤ n → prI D P g q t = 0 → dfA n m D P r set g a = a := by
  intro r
  induction r with
  | zero =>
    intro set g a ht hp
    show lfA n m D P set g a = a
    unfold lfA
    split
    · have hz := okI_z (n := n) (prI_z hp n (by omega)) hq
      unfold upA toI
      rw [hz]
      simp
    · rfl
  | succ r ih =>
    intro set g a ht hp
    show fdA n m D P r set g a n = a
    have : ∀ j, j ≤ n → fdA n m D P r set g a j = a := by
      intro j
      induction j with
      | zero => intro _; rfl
      | succ j ihj =>
        intro hj
        rw [fdA_s, ihj (by omega)]
        refine ih _ _ _ (by omega) ?_
        rw [prI_c (g' := g)]
        · exact hp
        · intro i hi
          unfold upG
          rw [if_neg (by omega)]
    exact this n (Nat.le_refl _)
end NE
