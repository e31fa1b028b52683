
/-! THE REFERENCE: heard, in numbers -/
/-- once the wanted one has been passed nothing changes it -/
def SkF (w : Int) (F : Int × Int → Int × Int) : Prop := ∀ x : Int × Int, w < x.1 → w < (F x).1 ∧ (F x).2 = x.2
theorem SkF_of {G : Int → Prop} {w v : Int} : SkF w (fun x => ofG G w x v) := fun x h => by
  show w < (ofG G w x v).1 ∧ (ofG G w x v).2 = x.2
  unfold ofG
  split
  · exact ⟨by show w < x.1 + 1; omega, if_neg (by omega)⟩
  · exact ⟨h, rfl⟩
theorem SkF_ls {G : Int → Prop} {w v u fig : Int} : ∀ (n : Nat) (j : Int), SkF w (lsN G w v u fig n j) := by
  intro n
  induction n with
  | zero => intro j x h; exact ⟨h, rfl⟩
  | succ n ih =>
    intro j x h
    unfold lsN
    split
    · have h1 := SkF_of (G := G) (v := v - (fig - j) * u) x h
      have h2 := ih (j + 1) _ h1.1
      exact ⟨h2.1, h2.2.trans h1.2⟩
    · exact ⟨h, rfl⟩
theorem SkF_mo {G : Int → Prop} {w v u fig : Int} : ∀ (n : Nat) (j : Int), SkF w (moN G w v u fig n j) := by
  intro n
  induction n with
  | zero => intro j x h; exact ⟨h, rfl⟩
  | succ n ih =>
    intro j x h
    unfold moN
    split
    · have h1 := SkF_of (G := G) (v := v + (j - fig) * u) x h
      have h2 := ih (j + 1) _ h1.1
      exact ⟨h2.1, h2.2.trans h1.2⟩
    · exact ⟨h, rfl⟩
theorem SkF_hl {G : Int → Prop} {w v : Int} : ∀ p : Nat, SkF w (hlN G w v p) := by
  intro p
  induction p with
  | zero => intro x h; exact ⟨h, rfl⟩
  | succ p ih =>
    intro x h
    unfold hlN
    have h1 : w < (lsA G w v (xL p) x).1 ∧ (lsA G w v (xL p) x).2 = x.2 := by
      unfold lsA
      split
      · exact ⟨h, rfl⟩
      · exact SkF_ls _ _ x h
    have h2 := ih _ h1.1
    exact ⟨h2.1, h2.2.trans h1.2⟩
theorem SkF_hm {G : Int → Prop} {w v : Int} : ∀ f p : Nat, SkF w (hmN G w v f p) := by
  intro f
  induction f with
  | zero => intro p x h; exact ⟨h, rfl⟩
  | succ f ih =>
    intro p x h
    unfold hmN
    have h1 : w < (moA G w v (xL p) x).1 ∧ (moA G w v (xL p) x).2 = x.2 := by
      unfold moA
      split
      · exact ⟨h, rfl⟩
      · exact SkF_mo _ _ x h
    have h2 := ih (p + 1) _ h1.1
    exact ⟨h2.1, h2.2.trans h1.2⟩
theorem xL_s (p : Nat) (h : p < 15) : xL ((p + 1 : Nat) : Int) = 10 * xL (p : Int) := by
  have : ∀ q : Fin 15, xL ((q.val + 1 : Nat) : Int) = 10 * xL (q.val : Int) := by decide
  exact this ⟨p, h⟩
theorem xL_m {p q : Nat} (h : p ≤ q) (hq : q < 16) : xL (p : Int) ≤ xL (q : Int) := by
  induction q with
  | zero => have : p = 0 := by omega
            subst this; exact Int.le_refl _
  | succ q ih =>
    by_cases e : p = q + 1
    · subst e; exact Int.le_refl _
    · have h1 := ih (by omega) (by omega)
      have h2 := xL_s q (by omega)
      have h3 := xL_b q (by omega)
      omega
theorem xL_10 {p q : Nat} (h : p < q) (hq : q < 16) : 10 * xL (p : Int) ≤ xL (q : Int) := by
  have h1 := xL_m (p := p + 1) (q := q) (by omega) hq
  have h2 := xL_s p (by omega)
  omega
/-- the unit of the first figure: place P -/
def TopP (v : Int) (P : Nat) : Prop := P < 16 ∧ xL (P : Int) ≤ v ∧ v < 10 * xL (P : Int)
theorem hlN_skip {G : Int → Prop} {w v : Int} {P : Nat} (h : TopP v P) {x : Int × Int} : ∀ d : Nat, P + 1 + d ≤ 16 → hlN G w v (P + 1 + d) x = hlN G w v (P + 1) x := by
  intro d
  induction d with
  | zero => intro _; rfl
  | succ d ih =>
    intro hd
    have h1 := xL_10 (p := P) (q := P + 1 + d) (by omega) (by omega)
    have e : hlN G w v (P + 1 + (d + 1)) x = hlN G w v (P + 1 + d) (lsA G w v (xL ((P + 1 + d : Nat) : Int)) x) := rfl
    rw [e]
    unfold lsA
    rw [if_pos (by have := h.2.2; omega)]
    exact ih (by omega)
theorem hmN_skip {G : Int → Prop} {w v : Int} {P : Nat} (h : TopP v P) {x : Int × Int} : ∀ f p : Nat, P < p → p + f ≤ 16 → hmN G w v f p x = x := by
  intro f
  induction f with
  | zero => intro p _ _; rfl
  | succ f ih =>
    intro p hp hf
    have h1 := xL_10 (p := P) (q := p) hp (by omega)
    unfold hmN moA
    rw [if_pos (by have := h.2.2; omega)]
    exact ih (p + 1) (by omega) (by omega)
theorem top_lead {v : Int} {P p : Nat} (h : TopP v P) (hp : p ≤ P) : v.tdiv (xL (p : Int)) < 10 ↔ xL (p : Int) = xL (P : Int) := by
  have b := xL_b p (by have := h.1; omega)
  have m := xL_m hp h.1
  have h0 : 0 < xL (P : Int) := by omega
  rw [Int.tdiv_eq_ediv_of_nonneg (by have := h.2.1; omega), Int.ediv_lt_iff_lt_mul b.1]
  constructor
  · intro q
    apply Classical.byContradiction
    intro ne
    have : p ≠ P := fun e => ne (by rw [e])
    have := xL_10 (p := p) (q := P) (by omega) h.1
    have := h.2.1
    omega
  · intro q
    have := h.2.2
    omega
/-- the answer -/
noncomputable def heaZ (G : Int → Prop) (i v : Int) : Int := if i = -1 then (heaP G i v).1 else (heaP G i v).2
theorem heaZ_f {G : Int → Prop} {i v n z : Int} {F : Int × Int → Int × Int} (hF : SkF i F) (h : F (n + 1, z) = heaP G i v) (hn : n = i) (h0 : 0 ≤ n) : z = heaZ G i v := by
  have := (hF (n + 1, z) (by show i < n + 1; omega)).2
  rw [h] at this
  unfold heaZ
  rw [if_neg (by omega), this]
theorem heaZ_e {G : Int → Prop} {i v n : Int} (h : (n, -1000000) = heaP G i v) (hi : -1 ≤ i) : (if i < 0 then n else -1000000) = heaZ G i v := by
  unfold heaZ
  rw [← h]
  by_cases e : i = -1
  · rw [if_pos e, if_pos (by omega)]
  · rw [if_neg e, if_neg (by omega)]
theorem SkF_c {w : Int} {F K : Int × Int → Int × Int} (h : SkF w F) (k : SkF w K) : SkF w (fun x => K (F x)) := fun x hx => by
  have h1 := h x hx
  have h2 := k _ h1.1
  exact ⟨h2.1, h2.2.trans h1.2⟩
/-- a figure of it -/
theorem fig_b {v u : Int} (hv : 0 ≤ v) (hu : 0 < u) : (0 ≤ (v.tdiv u).tmod 10 ∧ (v.tdiv u).tmod 10 < 10) ∧ (v.tdiv u).tmod 10 * u ≤ v ∧ (¬ v.tdiv u < 10 → (v.tdiv u).tmod 10 * u + 10 * u ≤ v) := by
  have hd : 0 ≤ v.tdiv u := Int.tdiv_nonneg hv (by omega)
  have hm : 0 ≤ (v.tdiv u).tmod 10 ∧ (v.tdiv u).tmod 10 < 10 := ⟨Int.tmod_nonneg 10 hd, Int.tmod_lt_of_pos _ (by decide)⟩
  have he : (v.tdiv u).tmod 10 + 10 * (v.tdiv u).tdiv 10 = v.tdiv u := Int.tmod_add_mul_tdiv _ _
  have hq : 0 ≤ (v.tdiv u).tdiv 10 := Int.tdiv_nonneg hd (by decide)
  have hl : v.tdiv u * u ≤ v := by
    rw [Int.tdiv_eq_ediv_of_nonneg hv]
    exact Int.ediv_mul_le v (by omega)
  have h1 : (v.tdiv u).tmod 10 * u ≤ v.tdiv u * u := Int.mul_le_mul_of_nonneg_right (by omega) (by omega)
  refine ⟨hm, by omega, fun q => ?_⟩
  have h2 : ((v.tdiv u).tmod 10 + 10) * u ≤ v.tdiv u * u := Int.mul_le_mul_of_nonneg_right (by omega) (by omega)
  rw [Int.add_mul] at h2
  omega
