
/-! SAME, in numbers: the ways counted from either end -/
def sR (f : Nat → Int) : Nat → Int
  | 0 => 0
  | n + 1 => sR f n + f n
theorem sR_c {f g : Nat → Int} : ∀ {n : Nat}, (∀ j, j < n → f j = g j) → sR f n = sR g n := by
  intro n
  induction n with
  | zero => intro _; rfl
  | succ n ih =>
    intro h
    show sR f n + f n = sR g n + g n
    rw [ih (fun j hj => h j (by omega)), h n (by omega)]
theorem sR_add (f g : Nat → Int) : ∀ n : Nat, sR (fun j => f j + g j) n = sR f n + sR g n := by
  intro n
  induction n with
  | zero => rfl
  | succ n ih =>
    show sR (fun j => f j + g j) n + (f n + g n) = sR f n + f n + (sR g n + g n)
    rw [ih]
    omega
theorem sR_0 : ∀ n : Nat, sR (fun _ => 0) n = 0 := by
  intro n
  induction n with
  | zero => rfl
  | succ n ih => show sR (fun _ => 0) n + 0 = 0; rw [ih]; rfl
theorem sR_sw (f : Nat → Nat → Int) (m : Nat) : ∀ n : Nat, sR (fun i => sR (f i) m) n = sR (fun j => sR (fun i => f i j) n) m := by
  intro n
  induction n with
  | zero => exact (sR_0 m).symm
  | succ n ih =>
    show sR (fun i => sR (f i) m) n + sR (f n) m = sR (fun j => sR (fun i => f i j) n + f n j) m
    rw [ih, sR_add]
theorem sR_h (f : Nat → Int) : ∀ n : Nat, sR f (n + 1) = f 0 + sR (fun j => f (j + 1)) n := by
  intro n
  induction n with
  | zero => show (0 : Int) + f 0 = f 0 + 0; omega
  | succ n ih =>
    show sR f (n + 1) + f (n + 1) = f 0 + (sR (fun j => f (j + 1)) n + f (n + 1))
    rw [ih]
    omega
theorem sR_rev (f : Nat → Int) : ∀ c : Nat, sR (fun j => f (c - j)) (c + 1) = sR f (c + 1) := by
  intro c
  induction c with
  | zero => rfl
  | succ c ih =>
    rw [sR_h]
    show f (c + 1) + sR (fun j => f (c + 1 - (j + 1))) (c + 1) = sR f (c + 1) + f (c + 1)
    have e : (fun j => f (c + 1 - (j + 1))) = fun j => f (c - j) := by
      funext j
      congr 1
      omega
    rw [e, ih]
    omega
theorem sR_t {f : Nat → Int} {a : Nat} : ∀ d : Nat, (∀ i, a ≤ i → i < a + d → f i = 0) → sR f (a + d) = sR f a := by
  intro d
  induction d with
  | zero => intro _; rfl
  | succ d ih =>
    intro h
    show sR f (a + d) + f (a + d) = sR f a
    rw [ih (fun i i0 i1 => h i i0 (by omega)), h (a + d) (by omega) (by omega)]
    omega
section WW
variable (N : Nat → Nat) (A : Nat → Nat → Int)
def cU : Nat → Nat → Int → Int
  | 0, _, m => if m ≤ 1000000000000000 then 1 else 0
  | k + 1, a, m => sR (fun j => cU k (a + 1) (m * A a j)) (N a)
def cD : Nat → Int → Int
  | 0, m => if m ≤ 1000000000000000 then 1 else 0
  | k + 1, m => sR (fun j => cD k (m * A k j)) (N k)
end WW
theorem cU_e {N : Nat → Nat} {A : Nat → Nat → Int} : ∀ (k a : Nat) (m : Int), cU N A (k + 1) a m = sR (fun j => cU N A k a (m * A (a + k) j)) (N (a + k)) := by
  intro k
  induction k with
  | zero => intro a m; rfl
  | succ k ih =>
    intro a m
    show sR (fun j => cU N A (k + 1) (a + 1) (m * A a j)) (N a) = sR (fun i => sR (fun j => cU N A k (a + 1) (m * A (a + (k + 1)) i * A a j)) (N a)) (N (a + (k + 1)))
    rw [← sR_sw]
    refine sR_c fun j _ => ?_
    rw [ih (a + 1)]
    rw [show a + 1 + k = a + (k + 1) by omega]
    refine sR_c fun i _ => ?_
    rw [Int.mul_right_comm]
theorem cU_D {N : Nat → Nat} {A : Nat → Nat → Int} : ∀ (k : Nat) (m : Int), cU N A k 0 m = cD N A k m := by
  intro k
  induction k with
  | zero => intro m; rfl
  | succ k ih =>
    intro m
    rw [cU_e, Nat.zero_add]
    exact sR_c fun j _ => ih _
theorem cD_c {N : Nat → Nat} {A B : Nat → Nat → Int} : ∀ (n : Nat), (∀ t, t < n → (∀ j, j < N t → A t j = B t j) ∨ (1 ≤ N t ∧ ∀ j, j < N t → A t j = B t (N t - 1 - j))) → ∀ m : Int, cD N A n m = cD N B n m := by
  intro n
  induction n with
  | zero => intro _ m; rfl
  | succ n ih =>
    intro h m
    have hi := ih (fun t ht => h t (by omega))
    show sR (fun j => cD N A n (m * A n j)) (N n) = sR (fun j => cD N B n (m * B n j)) (N n)
    rcases h n (by omega) with h1 | ⟨h0, h1⟩
    · exact sR_c fun j hj => by rw [h1 j hj, hi]
    · have e := sR_rev (fun j => cD N B n (m * B n j)) (N n - 1)
      rw [show N n - 1 + 1 = N n by omega] at e
      rw [← e]
      exact sR_c fun j hj => by rw [h1 j hj, hi]
theorem cD_N {N M : Nat → Nat} {A : Nat → Nat → Int} : ∀ (n : Nat), (∀ t, t < n → N t = M t) → ∀ m : Int, cD N A n m = cD M A n m := by
  intro n
  induction n with
  | zero => intro _ m; rfl
  | succ n ih =>
    intro h m
    have hi := ih (fun t ht => h t (by omega))
    show sR (fun j => cD N A n (m * A n j)) (N n) = sR (fun j => cD M A n (m * A n j)) (M n)
    rw [h n (by omega)]
    exact sR_c fun j hj => hi _
/-- the factor of a thing that takes its second number j times of c -/
def pAj (F G : Int) (c j : Nat) : Int := G ^ j * F ^ (c - j)
theorem pw1 {x : Int} (h : 1 ≤ x) : ∀ k : Nat, 1 ≤ x ^ k := by
  intro k
  induction k with
  | zero => rw [Int.pow_zero]; decide
  | succ k ih =>
    rw [Int.pow_succ]
    have := Int.mul_le_mul_of_nonneg_left h (show 0 ≤ x ^ k by omega)
    omega
theorem pAj_s {F G : Int} {c j : Nat} (hj : j < c) : pAj F G c j = G ^ j * F ^ (c - (j + 1)) * F ∧ pAj F G c (j + 1) = G ^ j * F ^ (c - (j + 1)) * G := by
  unfold pAj
  obtain ⟨d, rfl⟩ : ∃ d, c = j + 1 + d := ⟨c - (j + 1), by omega⟩
  rw [show j + 1 + d - j = d + 1 by omega, show j + 1 + d - (j + 1) = d by omega, Int.pow_succ F, Int.pow_succ G]
  refine ⟨by rw [Int.mul_assoc], ?_⟩
  rw [Int.mul_assoc, Int.mul_assoc, Int.mul_comm G]
theorem pAj_1 {F G : Int} (hF : 1 ≤ F) (hG : 1 ≤ G) (c j : Nat) : 1 ≤ pAj F G c j := by
  have h1 := pw1 hG j
  have h2 := pw1 hF (c - j)
  have := Int.mul_le_mul_of_nonneg_left h2 (show 0 ≤ G ^ j by omega)
  unfold pAj
  omega
theorem pAj_m {F G : Int} (hF : 1 ≤ F) (hG : F ≤ G) {c i : Nat} : ∀ d : Nat, i + d ≤ c → pAj F G c i ≤ pAj F G c (i + d) := by
  intro d
  induction d with
  | zero => intro _; exact Int.le_refl _
  | succ d ih =>
    intro h
    have h1 := ih (by omega)
    have h2 := pAj_s (F := F) (G := G) (c := c) (j := i + d) (by omega)
    have h3 : 0 ≤ G ^ (i + d) * F ^ (c - (i + d + 1)) := Int.mul_nonneg (by have := pw1 (show 1 ≤ G by omega) (i + d); omega) (by have := pw1 hF (c - (i + d + 1)); omega)
    have h4 := Int.mul_le_mul_of_nonneg_left hG h3
    show _ ≤ pAj F G c (i + d + 1)
    omega
/-- the least of the last r things -/
def lsR (F : Nat → Int) (c : Nat → Nat) (n : Nat) : Nat → Int
  | 0 => 1
  | r + 1 => F (n - (r + 1)) ^ c (n - (r + 1)) * lsR F c n r
theorem pwM_pw (x p : Int) : ∀ k : Nat, pwM x p k = x * p ^ k := by
  intro k
  induction k with
  | zero => show x = x * p ^ 0; rw [Int.pow_zero, Int.mul_one]
  | succ k ih => show pwM x p k * p = x * p ^ (k + 1); rw [ih, Int.pow_succ, Int.mul_assoc]
theorem lsR_P {F : Nat → Int} {c : Nat → Nat} {n : Nat} : ∀ r, r ≤ n → lsP F c (n - r) * lsR F c n r = lsP F c n := by
  intro r
  induction r with
  | zero => intro _; show lsP F c n * 1 = _; rw [Int.mul_one]
  | succ r ih =>
    intro h
    rw [← ih (by omega)]
    have e : n - r = (n - (r + 1)) + 1 := by omega
    rw [e]
    show lsP F c (n - (r + 1)) * (F (n - (r + 1)) ^ c (n - (r + 1)) * lsR F c n r) = pwM (lsP F c (n - (r + 1))) (F (n - (r + 1))) (c (n - (r + 1))) * lsR F c n r
    rw [pwM_pw, Int.mul_assoc]
theorem lsR_1 {F : Nat → Int} {c : Nat → Nat} {n : Nat} (h : ∀ t, t < n → 1 ≤ F t) : ∀ r, r ≤ n → 1 ≤ lsR F c n r := by
  intro r
  induction r with
  | zero => intro _; exact Int.le_refl _
  | succ r ih =>
    intro hr
    have h1 := ih (by omega)
    have h2 := pw1 (h (n - (r + 1)) (by omega)) (c (n - (r + 1)))
    have h3 := Int.mul_le_mul_of_nonneg_left h1 (show 0 ≤ F (n - (r + 1)) ^ c (n - (r + 1)) by omega)
    show 1 ≤ F (n - (r + 1)) ^ c (n - (r + 1)) * lsR F c n r
    omega
section CC
variable {F G : Nat → Int} {c : Nat → Nat} {n : Nat}
def nOp (F G : Nat → Int) (c : Nat → Nat) (t : Nat) : Nat := if F t = G t ∨ F t = 0 then 1 else c t + 1
theorem cU_z (hF : ∀ t, t < n → 1 ≤ F t ∧ F t ≤ G t) : ∀ r, r ≤ n → ∀ p : Int, 1 ≤ p → 1000000000000000 < p * lsR F c n r → cU (nOp F G c) (fun t => pAj (F t) (G t) (c t)) r (n - r) p = 0 := by
  intro r
  induction r with
  | zero =>
    intro _ p hp h
    have h2 : 1000000000000000 < p * 1 := h
    show (if p ≤ 1000000000000000 then (1 : Int) else 0) = 0
    rw [if_neg (by omega)]
  | succ r ih =>
    intro hr p hp h
    have hf := hF (n - (r + 1)) (by omega)
    have l1 := lsR_1 (F := F) (c := c) (n := n) (fun t ht => (hF t ht).1) r (by omega)
    show sR (fun j => cU _ _ r (n - (r + 1) + 1) (p * pAj (F (n - (r + 1))) (G (n - (r + 1))) (c (n - (r + 1))) j)) _ = 0
    rw [show n - (r + 1) + 1 = n - r by omega, ← sR_0 (nOp F G c (n - (r + 1)))]
    refine sR_c fun j hj => ?_
    have hjc : j ≤ c (n - (r + 1)) := by
      unfold nOp at hj
      split at hj <;> omega
    have a1 := pAj_1 (F := F (n - (r + 1))) (G := G (n - (r + 1))) hf.1 (by omega) (c (n - (r + 1))) j
    have a2 := pAj_m hf.1 hf.2 (c := c (n - (r + 1))) (i := 0) j (by omega)
    rw [Nat.zero_add] at a2
    have a0 : pAj (F (n - (r + 1))) (G (n - (r + 1))) (c (n - (r + 1))) 0 = F (n - (r + 1)) ^ c (n - (r + 1)) := by
      unfold pAj
      rw [Int.pow_zero, Int.one_mul, Nat.sub_zero]
    have a3 : p * lsR F c n (r + 1) = p * pAj (F (n - (r + 1))) (G (n - (r + 1))) (c (n - (r + 1))) 0 * lsR F c n r := by
      rw [a0, Int.mul_assoc]
      rfl
    have a4 := Int.mul_le_mul_of_nonneg_left a2 (show 0 ≤ p by omega)
    have a5 := Int.mul_le_mul_of_nonneg_right a4 (show 0 ≤ lsR F c n r by omega)
    have a6 := Int.mul_le_mul_of_nonneg_left a1 (show 0 ≤ p by omega)
    exact ih (by omega) _ (by omega) (by omega)
theorem wy_cU (hF : ∀ t, t < n → 1 ≤ F t ∧ F t ≤ G t) : ∀ r, r ≤ n → ∀ p : Int, 1 ≤ p → p * lsR F c n r ≤ 1000000000000000 → wyF F G c n r (p * lsR F c n r) = cU (nOp F G c) (fun t => pAj (F t) (G t) (c t)) r (n - r) p := by
  intro r
  induction r with
  | zero =>
    intro _ p hp h
    have h2 : p * 1 ≤ 1000000000000000 := h
    show (1 : Int) = if p ≤ 1000000000000000 then (1 : Int) else 0
    rw [if_pos (by omega)]
  | succ r ih =>
    intro hr p hp h
    have hf := hF (n - (r + 1)) (by omega)
    have l1 := lsR_1 (F := F) (c := c) (n := n) (fun t ht => (hF t ht).1) r (by omega)
    have el : lsR F c n (r + 1) = F (n - (r + 1)) ^ c (n - (r + 1)) * lsR F c n r := rfl
    have ew : ∀ m, wyF F G c n (r + 1) m = if F (n - (r + 1)) = G (n - (r + 1)) ∨ F (n - (r + 1)) = 0 then wyF F G c n r m else wlp (wyF F G c n r) (F (n - (r + 1))) (G (n - (r + 1))) (c (n - (r + 1))) m (wyF F G c n r m) := fun m => rfl
    have eu : cU (nOp F G c) (fun t => pAj (F t) (G t) (c t)) (r + 1) (n - (r + 1)) p = sR (fun j => cU (nOp F G c) (fun t => pAj (F t) (G t) (c t)) r (n - (r + 1) + 1) (p * pAj (F (n - (r + 1))) (G (n - (r + 1))) (c (n - (r + 1))) j)) (nOp F G c (n - (r + 1))) := rfl
    have ez := cU_z (F := F) (G := G) (c := c) hF r (by omega)
    have hi := ih (by omega)
    rw [ew, eu, show n - (r + 1) + 1 = n - r by omega]
    rw [el] at h ⊢
    unfold nOp
    generalize hN : (fun t => if F t = G t ∨ F t = 0 then 1 else c t + 1) = NN at *
    generalize n - (r + 1) = t at *
    have a0 : pAj (F t) (G t) (c t) 0 = F t ^ c t := by
      unfold pAj
      rw [Int.pow_zero, Int.one_mul, Nat.sub_zero]
    by_cases q : F t = G t ∨ F t = 0
    · rw [if_pos q, if_pos q]
      show _ = (0 : Int) + cU NN (fun t => pAj (F t) (G t) (c t)) r (n - r) (p * pAj (F t) (G t) (c t) 0)
      rw [a0, Int.zero_add, ← Int.mul_assoc]
      have p1 := pw1 hf.1 (c t)
      have p2 := Int.mul_le_mul_of_nonneg_left p1 (show 0 ≤ p by omega)
      rw [← Int.mul_assoc] at h
      have := hi (p * F t ^ c t) (by omega) h
      unfold nOp at this
      rw [hN] at this
      exact this
    · rw [if_neg q, if_neg q]
      have key : ∀ (k j : Nat) (w : Int), j + k = c t → p * pAj (F t) (G t) (c t) j * lsR F c n r ≤ 1000000000000000 → w = sR (fun j => cU (nOp F G c) (fun t => pAj (F t) (G t) (c t)) r (n - r) (p * pAj (F t) (G t) (c t) j)) (j + 1) → wlp (wyF F G c n r) (F t) (G t) k (p * pAj (F t) (G t) (c t) j * lsR F c n r) w = sR (fun j => cU (nOp F G c) (fun t => pAj (F t) (G t) (c t)) r (n - r) (p * pAj (F t) (G t) (c t) j)) (c t + 1) := by
        intro k
        induction k with
        | zero =>
          intro j w h1 h2 h3
          have : j = c t := by omega
          subst this
          exact h3
        | succ k ihk =>
          intro j w h1 h2 h3
          have ps := pAj_s (F := F t) (G := G t) (c := c t) (j := j) (by omega)
          have em : (p * pAj (F t) (G t) (c t) j * lsR F c n r).tdiv (F t) * G t = p * pAj (F t) (G t) (c t) (j + 1) * lsR F c n r := by
            rw [ps.1, ps.2]
            generalize G t ^ j * F t ^ (c t - (j + 1)) = X
            have : p * (X * F t) * lsR F c n r = p * X * lsR F c n r * F t := by
              rw [← Int.mul_assoc p, Int.mul_right_comm]
            rw [this, Int.mul_tdiv_cancel _ (by omega), ← Int.mul_assoc p, Int.mul_right_comm (p * X)]
          have a1 := pAj_1 (F := F t) (G := G t) hf.1 (by omega) (c t) (j + 1)
          have a6 := Int.mul_le_mul_of_nonneg_left a1 (show 0 ≤ p by omega)
          unfold wlp
          rw [em]
          by_cases q2 : p * pAj (F t) (G t) (c t) (j + 1) * lsR F c n r ≤ 1000000000000000
          · rw [if_pos q2]
            refine ihk (j + 1) _ (by omega) q2 ?_
            rw [h3, hi _ (by omega) q2]
            rfl
          · rw [if_neg q2, h3]
            have := sR_t (f := fun j => cU (nOp F G c) (fun t => pAj (F t) (G t) (c t)) r (n - r) (p * pAj (F t) (G t) (c t) j)) (a := j + 1) (c t - j) (fun i i0 i1 => by
              have b2 := pAj_m hf.1 hf.2 (c := c t) (i := j + 1) (i - (j + 1)) (by omega)
              rw [show j + 1 + (i - (j + 1)) = i by omega] at b2
              have b1 := pAj_1 (F := F t) (G := G t) hf.1 (by omega) (c t) i
              have b4 := Int.mul_le_mul_of_nonneg_left b2 (show 0 ≤ p by omega)
              have b5 := Int.mul_le_mul_of_nonneg_right b4 (show 0 ≤ lsR F c n r by omega)
              have b6 := Int.mul_le_mul_of_nonneg_left b1 (show 0 ≤ p by omega)
              exact ez _ (by omega) (by omega))
            rw [show j + 1 + (c t - j) = c t + 1 by omega] at this
            exact this.symm
      have h0 : p * pAj (F t) (G t) (c t) 0 * lsR F c n r ≤ 1000000000000000 := by
        rw [a0, Int.mul_assoc]
        exact h
      have p1 := pAj_1 (F := F t) (G := G t) hf.1 (by omega) (c t) 0
      have p2 := Int.mul_le_mul_of_nonneg_left p1 (show 0 ≤ p by omega)
      have := key (c t) 0 (wyF F G c n r (p * pAj (F t) (G t) (c t) 0 * lsR F c n r)) (by omega) h0 (by
        rw [hi _ (by omega) h0]
        show _ = (0 : Int) + _
        rw [Int.zero_add])
      rw [a0, Int.mul_assoc] at this
      unfold nOp at this
      rw [hN] at this
      exact this
end CC
