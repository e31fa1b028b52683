
/-! THE CALLS: same, signed -/
theorem pwM_add (x p : Int) (j : Nat) : ∀ i, pwM x p (j + i) = pwM (pwM x p j) p i := by
  intro i
  induction i with
  | zero => rfl
  | succ i ih => show pwM x p (j + i) * p = pwM (pwM x p j) p i * p; rw [ih]
theorem pwM_mono {x y p : Int} (hp : 0 ≤ p) (h : x ≤ y) : ∀ k, pwM x p k ≤ pwM y p k := by
  intro k
  induction k with
  | zero => exact h
  | succ k ih => exact Int.mul_le_mul_of_nonneg_right ih hp
theorem pwM_mul (x y p : Int) : ∀ k, pwM x p k * y = x * pwM y p k := by
  intro k
  induction k with
  | zero => rfl
  | succ k ih => show pwM x p k * p * y = x * (pwM y p k * p); rw [← Int.mul_assoc x, ← ih, Int.mul_assoc, Int.mul_comm p y, ← Int.mul_assoc]
theorem tkN_ge {b m : Int} (hm : 0 ≤ m) (hb : 1 < b → m ≤ b) : ∀ (f : Nat) (r c : Int), 0 ≤ r → pwM (tkN b f r c).1 m ((tkN b f r c).2 - c).toNat ≤ r := by
  intro f
  induction f with
  | zero => intro r c h; show pwM r m (c - c).toNat ≤ r; rw [Int.sub_self]; exact Int.le_refl _
  | succ f ih =>
    intro r c h
    unfold tkN
    split
    next hc =>
      have d := tdiv_b h hc.1
      have h1 := ih (r.tdiv b) (c + 1) d.1
      have h2 := tkN_b b f (r.tdiv b) (c + 1) d.1
      have e : ((tkN b f (r.tdiv b) (c + 1)).2 - c).toNat = ((tkN b f (r.tdiv b) (c + 1)).2 - (c + 1)).toNat + 1 := by omega
      rw [e]
      have h3 : pwM (tkN b f (r.tdiv b) (c + 1)).1 m ((tkN b f (r.tdiv b) (c + 1)).2 - (c + 1)).toNat * m ≤ r.tdiv b * m := Int.mul_le_mul_of_nonneg_right h1 hm
      have h4 : r.tdiv b * m ≤ r.tdiv b * b := Int.mul_le_mul_of_nonneg_left (hb hc.1) d.1
      have h5 : r.tdiv b * b = r := Int.tdiv_mul_cancel (Int.dvd_of_tmod_eq_zero hc.2)
      show pwM _ m _ * m ≤ r
      omega
    next => rw [Int.sub_self]; exact Int.le_refl _
theorem tko_ge {b m r : Int} (hm : 0 ≤ m) (hb : 1 < b → m ≤ b) (h : 0 ≤ r) : pwM (tko b r).1 m (tko b r).2.toNat ≤ r := by
  have := tkN_ge hm hb 64 r 0 h
  rw [Int.sub_zero] at this
  exact this
theorem tkC_ge {F O : Int → Int} {v m : Int} (hv : 0 ≤ v) {k : Nat} (hm : 0 ≤ m) (h1 : 1 < F k → m ≤ F k) (h2 : 1 < O k → m ≤ O k) : pwM (tkR F O v (k + 1)) m (tkC F O v k).toNat ≤ tkR F O v k := by
  have b0 := tkR_b (F := F) (O := O) hv k
  have b1 := tko_b (F k) b0.1
  have b2 := tko_b (O k) b1.1
  have g1 := tko_ge hm h1 b0.1
  have g2 := tko_ge hm h2 b1.1
  have e : (tkC F O v k).toNat = (tko (O k) (tko (F k) (tkR F O v k)).1).2.toNat + (tko (F k) (tkR F O v k)).2.toNat := by unfold tkC; omega
  rw [e, pwM_add]
  exact Int.le_trans (pwM_mono hm g2 _) g1
theorem lsP_le {F O : Int → Int} {M : Nat → Int} {v : Int} (hv : 0 ≤ v) {n : Nat} (hM : ∀ k, k < n → 0 ≤ M k ∧ (1 < F k → M k ≤ F k) ∧ (1 < O k → M k ≤ O k)) (hp : ∀ k, k ≤ n → 0 ≤ lsP M (fun t => (tkC F O v t).toNat) k) : ∀ k, k ≤ n → lsP M (fun t => (tkC F O v t).toNat) k * tkR F O v k ≤ v := by
  intro k
  induction k with
  | zero => intro _; show 1 * v ≤ v; omega
  | succ k ih =>
    intro hk
    have h := hM k (by omega)
    have h1 := tkC_ge (F := F) (O := O) hv (k := k) h.1 h.2.1 h.2.2
    show pwM _ (M k) _ * tkR F O v (k + 1) ≤ v
    rw [pwM_mul]
    exact Int.le_trans (Int.mul_le_mul_of_nonneg_left h1 (hp k (by omega))) (ih (by omega))
def sumN (c : Nat → Nat) : Nat → Nat
  | 0 => 0
  | k + 1 => sumN c k + c k
theorem sgN_sum {c : Nat → Nat} {n : Nat} : ∀ r, r ≤ n → sgN c n r + sumN c (n - r) = sumN c n := by
  intro r
  induction r with
  | zero => intro _; show 0 + sumN c n = sumN c n; omega
  | succ r ih =>
    intro h
    have h1 := ih (by omega)
    have e : n - r = (n - (r + 1)) + 1 := by omega
    rw [e] at h1
    show sgN c n r + c (n - (r + 1)) + sumN c (n - (r + 1)) = sumN c n
    have h2 : sumN c (n - (r + 1) + 1) = sumN c (n - (r + 1)) + c (n - (r + 1)) := rfl
    omega
theorem pwM_2 (x k : Nat) : pwM (x : Int) 2 k = ((x * 2 ^ k : Nat) : Int) := by
  induction k with
  | zero => show (x : Int) = ((x * 1 : Nat) : Int); omega
  | succ k ih =>
    show pwM (x : Int) 2 k * 2 = _
    rw [ih, Nat.pow_succ, ← Nat.mul_assoc]
    omega
theorem lsP_2 {c : Nat → Nat} : ∀ k, lsP (fun _ => 2) c k = ((2 ^ sumN c k : Nat) : Int) := by
  intro k
  induction k with
  | zero => rfl
  | succ k ih =>
    show pwM (lsP (fun _ => 2) c k) 2 (c k) = _
    rw [ih, pwM_2, ← Nat.pow_add]
    rfl
theorem tkR_mono {F O : Int → Int} {v : Int} (hv : 0 ≤ v) : ∀ (k j : Nat), tkR F O v (k + j) ≤ tkR F O v k := by
  intro k j
  induction j with
  | zero => exact Int.le_refl _
  | succ j ih =>
    have b0 := tkR_b (F := F) (O := O) hv (k + j)
    have b1 := tko_b (F (k + j : Nat)) b0.1
    have b2 := tko_b (O (k + j : Nat)) b1.1
    show (tko (O (k + j : Nat)) (tko (F (k + j : Nat)) (tkR F O v (k + j))).1).1 ≤ _
    omega
/-- how often each thing goes into it -/
def ctN (I : MI) (v : Int) (t : Nat) : Nat := (tkC (fstI I 15) (othI I 15) v t).toNat
theorem same_b {I : MI} {v : Int} {n : Nat} (hw : WfT I 15) (hn : I 15 0 = n) (hv : 0 < v ∧ v ≤ 1000000000000000) (h1 : tkR (fstI I 15) (othI I 15) v 12 = 1) : (∀ t : Nat, t < n → 1 ≤ lesI I 15 t) ∧ (∀ k : Nat, k ≤ n → lsP (fun t => lesI I 15 t) (ctN I v) k ≤ 1000000000000000) ∧ ∀ r, r ≤ n → sgN (ctN I v) n r ≤ 60 := by
  have hn2 : n ≤ 12 := by have := hw.1.1; omega
  have th := hw.2.1
  have fo : ∀ t : Nat, t < n → (2 ≤ fstI I 15 t ∧ fstI I 15 t ≤ 199) ∧ (othI I 15 t = 0 ∨ 2 ≤ othI I 15 t) := fun t ht => by
    have := th t (by omega) (by omega)
    unfold fstI othI
    rw [if_pos (by omega), if_pos (by omega), atI_in (by omega), atI_in (by omega)]
    omega
  have les : ∀ t : Nat, t < n → 2 ≤ lesI I 15 t ∧ lesI I 15 t ≤ fstI I 15 t ∧ (1 < othI I 15 t → lesI I 15 t ≤ othI I 15 t) := fun t ht => by
    have := fo t ht
    unfold lesI
    split
    · omega
    · split <;> omega
  have r1 : ∀ k : Nat, k ≤ n → 1 ≤ tkR (fstI I 15) (othI I 15) v k := fun k hk => by
    have := tkR_mono (F := fstI I 15) (O := othI I 15) (v := v) (by omega) k (12 - k)
    rw [show k + (12 - k) = 12 by omega, h1] at this
    exact this
  have fin : ∀ (x y : Int), 0 ≤ x → 1 ≤ y → x * y ≤ v → x ≤ 1000000000000000 := fun x y hx hy h => by
    have : x * 1 ≤ x * y := Int.mul_le_mul_of_nonneg_left hy hx
    omega
  have p1 := lsP_p (F := fun t : Nat => lesI I 15 t) (c := ctN I v) (n := n) (fun t ht => by have := les t ht; show 1 ≤ lesI I 15 t; omega)
  have p2 := lsP_p (F := fun _ : Nat => (2 : Int)) (c := ctN I v) (n := n) (fun t ht => by decide)
  have l1 := lsP_le (F := fstI I 15) (O := othI I 15) (M := fun t : Nat => lesI I 15 t) (v := v) (by omega) (n := n) (fun k hk => by have := les k hk; exact ⟨by show 0 ≤ lesI I 15 k; omega, fun _ => this.2.1, this.2.2⟩) (fun k hk => by have := p1 k hk; show 0 ≤ lsP _ (ctN I v) k; omega)
  have l2 := lsP_le (F := fstI I 15) (O := othI I 15) (M := fun _ : Nat => 2) (v := v) (by omega) (n := n) (fun k hk => by exact ⟨by decide, fun _ => by omega, fun _ => by omega⟩) (fun k hk => by have := p2 k hk; show 0 ≤ lsP _ (ctN I v) k; omega)
  refine ⟨fun t ht => by have := les t ht; omega, fun k hk => fin _ _ (by have := p1 k hk; omega) (r1 k hk) (l1 k hk), fun r hr => ?_⟩
  have h2 := fin _ _ (by have := p2 n (Nat.le_refl n); show 0 ≤ lsP _ (ctN I v) n; omega) (r1 n (Nat.le_refl n)) (l2 n (Nat.le_refl n))
  have h3 : lsP (fun _ => 2) (ctN I v) n ≤ 1000000000000000 := h2
  rw [lsP_2] at h3
  have h4 := sgN_sum (c := ctN I v) (n := n) r hr
  apply Classical.byContradiction
  intro q
  have h5 : 2 ^ 60 ≤ 2 ^ sumN (ctN I v) n := Nat.pow_le_pow_right (by decide) (by omega)
  rw [show 2 ^ 60 = 1152921504606846976 from rfl] at h5
  omega
