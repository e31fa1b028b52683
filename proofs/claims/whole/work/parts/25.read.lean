
/-! THE READER'S THINGS, RULES AND PAIRS: in numbers (s the registers, D the draft at 4) -/
noncomputable def bP (P : Prop) : Bool := @decide P (Classical.propDecidable P)
theorem bP_t {P : Prop} (h : P) : bP P = true := @decide_eq_true P (Classical.propDecidable P) h
theorem bP_f {P : Prop} (h : ¬ P) : bP P = false := @decide_eq_false P (Classical.propDecidable P) h
theorem bP_i {P : Prop} : bP P = true ↔ P := by
  by_cases h : P
  · rw [bP_t h]; exact ⟨fun _ => h, fun _ => rfl⟩
  · rw [bP_f h]; exact ⟨fun q => absurd q (by decide), fun q => absurd q h⟩
noncomputable def thg3 (B : Int → Int) (D : MI) (a o : Int) (s : PR) : PR × MI :=
  if pf (sgnR B (numR B s 0 4 true)) = 0 then (sgnR B (numR B s 0 4 true), addT D 4 a o (numV s 0 4 true)) else (sgnR B (numR B s 0 4 true), D)
noncomputable def newN (D : MI) (s : PR) (but : Int) : Bool := bP (newP D (pv s) but)
noncomputable def thg2 (B : Int → Int) (D : MI) (a : Int) (s : PR) : PR × MI :=
  if pf s = 0 ∧ bP (isWP B s 1008) = true then thg3 B D a (numV (nextR B s) 2 199 (newN D (nextR B s) a)) (numR B (nextR B s) 2 199 (newN D (nextR B s) a)) else thg3 B D a 0 s
noncomputable def thg1 (B : Int → Int) (D : MI) (s : PR) : PR × MI := thg2 B D (numV s 2 199 (newN D s 0)) (numR B s 2 199 (newN D s 0))
noncomputable def thgR (B : Int → Int) (s : PR) (D : MI) : PR × MI := if D 4 0 < 12 then thg1 B D (nextR B s) else (failR s 3, D)
noncomputable def rul3 (B : Int → Int) (D : MI) (a l : Int) (s : PR) : PR × MI :=
  if pf (sgnR B (numR B s l 9 true)) = 0 then (sgnR B (numR B s l 9 true), addR D 4 a l (numV s l 9 true)) else (sgnR B (numR B s l 9 true), D)
noncomputable def rul2 (B : Int → Int) (D : MI) (a : Int) (s : PR) : PR × MI := rul3 B D a (numV s 0 9 true) (numR B s 0 9 true)
def hsR (D : MI) (v : Int) : Prop := ∃ k, 0 ≤ k ∧ k < D 4 1 ∧ D (4 + 4) k = v
noncomputable def rul1 (B : Int → Int) (D : MI) (s : PR) : PR × MI := rul2 B D (numV s 0 4 (bP (¬ hsR D (pv s)))) (numR B s 0 4 (bP (¬ hsR D (pv s))))
noncomputable def rulR (B : Int → Int) (s : PR) (D : MI) : PR × MI := rul1 B D (nextR B s)
noncomputable def par3 (B : Int → Int) (D : MI) (a b : Int) (s : PR) : PR × MI :=
  if pf (sgnR B s) = 0 then (sgnR B s, addP D 4 a b) else (sgnR B s, D)
noncomputable def par2 (B : Int → Int) (D : MI) (a : Int) (s : PR) : PR × MI := par3 B D a (numV s 0 (D 4 0 - 1) (bP (pv s ≠ a))) (numR B s 0 (D 4 0 - 1) (bP (pv s ≠ a)))
noncomputable def par1 (B : Int → Int) (D : MI) (s : PR) : PR × MI := par2 B D (numV s 0 (D 4 0 - 1) true) (numR B s 0 (D 4 0 - 1) true)
noncomputable def parR (B : Int → Int) (s : PR) (D : MI) : PR × MI := if D 4 2 < 8 then par1 B D (nextR B s) else (failR s 3, D)
/-- a well-formed tongue -/
def WfT (D : MI) (t : Nat) : Prop := TB D t ∧ (∀ k, 0 ≤ k → k < D t 0 → (2 ≤ D (t + 1) k ∧ D (t + 1) k ≤ 199) ∧ (D (t + 2) k = 0 ∨ (2 ≤ D (t + 2) k ∧ D (t + 2) k ≤ 199)) ∧ (0 ≤ D (t + 3) k ∧ D (t + 3) k ≤ 4) ∧ D (t + 2) k ≠ D (t + 1) k)
  ∧ (∀ k, 0 ≤ k → k < D t 1 → (0 ≤ D (t + 4) k ∧ D (t + 4) k ≤ 4) ∧ 0 ≤ D (t + 5) k ∧ D (t + 5) k ≤ D (t + 6) k ∧ D (t + 6) k ≤ 9)
  ∧ (∀ j k, 0 ≤ j → j < k → k < D t 1 → D (t + 4) j ≠ D (t + 4) k)
  ∧ (∀ k, 0 ≤ k → k < D t 2 → (0 ≤ D (t + 7) k ∧ D (t + 7) k < D t 0) ∧ 0 ≤ D (t + 8) k ∧ D (t + 8) k < D t 0)
theorem php : ∀ (m n : Nat) (f : Nat → Nat), (∀ i j, i < j → j < n → f i ≠ f j) → (∀ i, i < n → f i < m) → n ≤ m := by
  intro m
  induction m with
  | zero =>
    intro n f _ h
    cases n with
    | zero => exact Nat.le_refl _
    | succ n => exact absurd (h 0 (by omega)) (by omega)
  | succ m ih =>
    intro n f hd hr
    cases n with
    | zero => omega
    | succ n =>
      have := ih n (fun i => if f i = m then f n else f i) (fun i j ij jn => by
        have d1 := hd i j ij (by omega)
        have d2 := hd i n (by omega) (by omega)
        have d3 := hd j n (by omega) (by omega)
        show (if f i = m then f n else f i) ≠ (if f j = m then f n else f j)
        split <;> split <;> omega) (fun i hi => by
        have d2 := hd i n (by omega) (by omega)
        have r1 := hr i (by omega)
        have r2 := hr n (by omega)
        show (if f i = m then f n else f i) < m
        split <;> omega)
      omega
/-- a sort without a rule leaves room for its rule -/
theorem Wf_room {D : MI} {t : Nat} (h : WfT D t) {v : Int} (hv : 0 ≤ v ∧ v ≤ 4) (hn : ¬ ∃ k, 0 ≤ k ∧ k < D t 1 ∧ D (t + 4) k = v) : D t 1 < 5 := by
  obtain ⟨⟨-, hr, -⟩, -, h1, h2, -⟩ := h
  have := php 5 ((D t 1).toNat + 1) (fun i => if i < (D t 1).toNat then (D (t + 4) i).toNat else v.toNat) (fun i j ij jn => by
    show (if i < (D t 1).toNat then (D (t + 4) i).toNat else v.toNat) ≠ (if j < (D t 1).toNat then (D (t + 4) j).toNat else v.toNat)
    have b1 := h1 i (by omega) (by omega)
    rw [if_pos (by omega)]
    split
    next q =>
      have b2 := h1 j (by omega) (by omega)
      have := h2 i j (by omega) (by omega) (by omega)
      omega
    next q =>
      intro e
      exact hn ⟨i, by omega, by omega, by omega⟩) (fun i hi => by
    show (if i < (D t 1).toNat then (D (t + 4) i).toNat else v.toNat) < 5
    split
    next q =>
      have b1 := h1 i (by omega) (by omega)
      omega
    next => omega)
  omega
theorem Wf_T {D : MI} {t : Nat} (h : WfT D t) {f o s : Int} (hn : D t 0 < 12) (hf : 2 ≤ f ∧ f ≤ 199) (ho : (o = 0 ∨ (2 ≤ o ∧ o ≤ 199)) ∧ o ≠ f) (hs : 0 ≤ s ∧ s ≤ 4) : WfT (addT D t f o s) t := by
  obtain ⟨⟨b0, b1, b2⟩, h1, h2, h3, h4⟩ := h
  refine ⟨⟨by simp [addT, up2_at]; omega, by simp [addT, up2_at]; omega, by simp [addT, up2_at]; omega⟩, fun k k0 k1 => ?_, fun k k0 k1 => ?_, fun j k j0 jk k1 => ?_, fun k k0 k1 => ?_⟩
  · have k2 : k < D t 0 + 1 := by simpa [addT, up2_at] using k1
    by_cases e : k = D t 0
    · subst e
      simp [addT, up2_at]
      omega
    · have := h1 k k0 (by omega)
      simp [addT, up2_at, e]
      omega
  · have := h2 k k0 (by simpa [addT, up2_at] using k1)
    simp [addT, up2_at]
    omega
  · have := h3 j k j0 jk (by simpa [addT, up2_at] using k1)
    simp [addT, up2_at]
    omega
  · have := h4 k k0 (by simpa [addT, up2_at] using k1)
    simp [addT, up2_at]
    omega
theorem Wf_R {D : MI} {t : Nat} (h : WfT D t) {s l i : Int} (hn : ¬ ∃ k, 0 ≤ k ∧ k < D t 1 ∧ D (t + 4) k = s) (hs : 0 ≤ s ∧ s ≤ 4) (hl : 0 ≤ l ∧ l ≤ i) (hi : i ≤ 9) : WfT (addR D t s l i) t := by
  have room := Wf_room h hs hn
  obtain ⟨⟨b0, b1, b2⟩, h1, h2, h3, h4⟩ := h
  refine ⟨⟨by simp [addR, up2_at]; omega, by simp [addR, up2_at]; omega, by simp [addR, up2_at]; omega⟩, fun k k0 k1 => ?_, fun k k0 k1 => ?_, fun j k j0 jk k1 => ?_, fun k k0 k1 => ?_⟩
  · have := h1 k k0 (by simpa [addR, up2_at] using k1)
    simp [addR, up2_at]
    omega
  · have k2 : k < D t 1 + 1 := by simpa [addR, up2_at] using k1
    by_cases e : k = D t 1
    · subst e
      simp [addR, up2_at]
      omega
    · have := h2 k k0 (by omega)
      simp [addR, up2_at, e]
      omega
  · have k2 : k < D t 1 + 1 := by simpa [addR, up2_at] using k1
    have ej : j ≠ D t 1 := by omega
    by_cases e : k = D t 1
    · subst e
      simp [addR, up2_at, ej]
      intro q
      exact hn ⟨j, j0, by omega, q⟩
    · have := h3 j k j0 jk (by omega)
      simp [addR, up2_at, e, ej]
      omega
  · have := h4 k k0 (by simpa [addR, up2_at] using k1)
    simp [addR, up2_at]
    omega
theorem Wf_P {D : MI} {t : Nat} (h : WfT D t) {a b : Int} (hn : D t 2 < 8) (ha : 0 ≤ a ∧ a < D t 0) (hb : 0 ≤ b ∧ b < D t 0) : WfT (addP D t a b) t := by
  obtain ⟨⟨b0, b1, b2⟩, h1, h2, h3, h4⟩ := h
  refine ⟨⟨by simp [addP, up2_at]; omega, by simp [addP, up2_at]; omega, by simp [addP, up2_at]; omega⟩, fun k k0 k1 => ?_, fun k k0 k1 => ?_, fun j k j0 jk k1 => ?_, fun k k0 k1 => ?_⟩
  · have := h1 k k0 (by simpa [addP, up2_at] using k1)
    simp [addP, up2_at]
    omega
  · have := h2 k k0 (by simpa [addP, up2_at] using k1)
    simp [addP, up2_at]
    omega
  · have := h3 j k j0 jk (by simpa [addP, up2_at] using k1)
    simp [addP, up2_at]
    omega
  · have k2 : k < D t 2 + 1 := by simpa [addP, up2_at] using k1
    by_cases e : k = D t 2
    · subst e
      simp [addP, up2_at]
      omega
    · have := h4 k k0 (by omega)
      simp [addP, up2_at, e]
      omega
theorem sgn_good {B : Int → Int} {s : PR} (h : pf (sgnR B s) = 0) : pf s = 0 ∧ pk s = 4 ∧ sgnR B s = nextR B s := by
  by_cases q : pf s = 0 ∧ pk s ≠ 4
  · unfold sgnR at h
    rw [if_pos q] at h
    exact absurd (show (1 : Int) = 0 from h) (by decide)
  · by_cases q0 : pf s = 0
    · refine ⟨q0, Classical.byContradiction fun z => q ⟨q0, z⟩, ?_⟩
      unfold sgnR
      rw [if_neg q, if_pos q0]
    · unfold sgnR at h
      rw [if_neg q, if_neg q0] at h
      exact absurd h q0
theorem thg3_ok {B : Int → Int} (hB : BOK B) {D : MI} {a o : Int} {s : PR} (hs : RI s) (hw : WfT D 4) (h12 : D 4 0 < 12) (hg : pf s = 0 → (2 ≤ a ∧ a ≤ 199) ∧ (o = 0 ∨ (2 ≤ o ∧ o ≤ 199)) ∧ o ≠ a) : RI (thg3 B D a o s).1 ∧ WfT (thg3 B D a o s).2 4 := by
  have r1 := sgnR_ok hB (numR_ok hB (lo := 0) (hi := 4) (f := true) hs)
  unfold thg3
  split
  next q =>
    have g1 := num_good (sgn_good q).1
    have g2 := hg g1.1
    refine ⟨r1, Wf_T hw h12 g2.1 g2.2 ?_⟩
    rw [g1.2.2.2.2.2.1]
    omega
  next => exact ⟨r1, hw⟩
theorem thg2_ok {B : Int → Int} (hB : BOK B) {D : MI} {a : Int} {s : PR} (hs : RI s) (hw : WfT D 4) (h12 : D 4 0 < 12) (hg : pf s = 0 → (2 ≤ a ∧ a ≤ 199)) : RI (thg2 B D a s).1 ∧ WfT (thg2 B D a s).2 4 := by
  unfold thg2
  split
  next q =>
    refine thg3_ok hB (numR_ok hB (nextR_ok hB hs.2.1)) hw h12 fun q2 => ⟨hg q.1, .inr ?_, ?_⟩
    · have g1 := num_good q2
      rw [g1.2.2.2.2.2.1]
      omega
    · have g1 := num_good q2
      rw [g1.2.2.2.2.2.1]
      exact (bP_i.mp g1.2.2.2.2.1).1
  next => exact thg3_ok hB hs hw h12 fun q => ⟨hg q, .inl rfl, by have := hg q; omega⟩
theorem thgR_ok {B : Int → Int} (hB : BOK B) {D : MI} {s : PR} (hs : RI s) (hw : WfT D 4) : RI (thgR B s D).1 ∧ WfT (thgR B s D).2 4 := by
  unfold thgR
  split
  next q =>
    refine thg2_ok hB (numR_ok hB (nextR_ok hB hs.2.1)) hw q fun q2 => ?_
    have g1 := num_good q2
    rw [g1.2.2.2.2.2.1]
    omega
  next => exact ⟨hs, hw⟩
theorem rulR_ok {B : Int → Int} (hB : BOK B) {D : MI} {s : PR} (hs : RI s) (hw : WfT D 4) : RI (rulR B s D).1 ∧ WfT (rulR B s D).2 4 := by
  unfold rulR rul1 rul2 rul3
  have r0 := nextR_ok hB hs.2.1 (B := B) (s := s)
  have r1 := numR_ok hB (lo := 0) (hi := 4) (f := bP (¬ hsR D (pv (nextR B s)))) r0
  have r2 := numR_ok hB (lo := 0) (hi := 9) (f := true) r1
  have r3 := fun l => sgnR_ok hB (numR_ok hB (lo := l) (hi := 9) (f := true) r2)
  split
  next q =>
    have g3 := num_good (sgn_good q).1
    have g2 := num_good g3.1
    have g1 := num_good g2.1
    have hn := bP_i.mp g1.2.2.2.2.1
    refine ⟨r3 _, Wf_R hw ?_ ?_ ?_ ?_⟩
    · rw [g1.2.2.2.2.2.1]; exact hn
    · rw [g1.2.2.2.2.2.1]; omega
    · rw [g3.2.2.2.2.2.1]; have := g3.2.2.1; rw [g2.2.2.2.2.2.1] at *; omega
    · rw [g3.2.2.2.2.2.1]; omega
  next => exact ⟨r3 _, hw⟩
theorem parR_ok {B : Int → Int} (hB : BOK B) {D : MI} {s : PR} (hs : RI s) (hw : WfT D 4) : RI (parR B s D).1 ∧ WfT (parR B s D).2 4 := by
  unfold parR
  split
  next h8 =>
    unfold par1 par2 par3
    have r0 := nextR_ok hB hs.2.1 (B := B) (s := s)
    have r1 := numR_ok hB (lo := 0) (hi := D 4 0 - 1) (f := true) r0
    have r2 := fun f => sgnR_ok hB (numR_ok hB (lo := 0) (hi := D 4 0 - 1) (f := f) r1)
    split
    next q =>
      have g2 := num_good (sgn_good q).1
      have g1 := num_good g2.1
      refine ⟨r2 _, Wf_P hw h8 ?_ ?_⟩
      · rw [g1.2.2.2.2.2.1]; omega
      · rw [g2.2.2.2.2.2.1]; omega
    next => exact ⟨r2 _, hw⟩
  next => exact ⟨hs, hw⟩
