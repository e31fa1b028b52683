theorem t78_X11_readRule_0 {E : En} {d : Nat} {κ : Kp} {I L : MI} {Z : Zt} {a0 : Nat}  (k : Ev E d M_X11_readRule 1 [vr a0, vu, vu, vu] [vr a0] κ I L Z) : Ev E d M_X11_readRule 0 [vr a0, vu, vu, vu] [] κ I L Z := E_aload_n dX11_readRule_0 rfl k
theorem t78_X11_readRule_1 {E : En} {d : Nat} {κ : Kp} {I L : MI} {Z : Zt} {a0 b0 : Nat}  (k : Ev E d M_X11_readRule 2 [vr a0, vu, vu, vu] [vi 1, vr b0] κ I L Z) : Ev E d M_X11_readRule 1 [vr a0, vu, vu, vu] [vr b0] κ I L Z := E_iconst (v := 1) dX11_readRule_1 rfl k
theorem t78_X11_readRule_2 {E : En} {d d' : Nat} {cs : Nat × Nat} {I L : MI} {Z : Zt} {a0 b1 : Nat} {b0 : Int} {Q : MI → MI → Prop} (hs : G0.1[b1]? = some (.inl 11)) (hM : CQv E d' M_X11_must [vr b1, vi b0] I L Q) (hlt : d' + 1 ≤ d) (kk : ∀ (I' L' : MI), Q I' L' → Ev E d M_X11_readRule 5 [vr a0, vu, vu, vu] [] (G0, cs) I' L' Z) (hc1 : cs.1 ≤ M_X11_readRule.2.2.2.2.1 := by decide) (hc2 : cs.2 ≤ M_X11_readRule.2.2.2.2.2 := by decide) : Ev E d M_X11_readRule 2 [vr a0, vu, vu, vu] [vi b0, vr b1] (G0, cs) I L Z := E_callV (as := [vi b0]) (rest := []) (n := 1) hM dX11_readRule_2 wM_RX11_136 wS_X11_must wV_X11_must hs (by decide) rfl hlt wC_X11_must wI_X11 (by decide +kernel) rfl (by decide) (Nat.le_of_ble_eq_true rfl) hc1 hc2 rfl (fun r g' I' L' h => by obtain ⟨rfl, rfl, h⟩ := h; exact kk I' L' h)
/-! THE REFERENCE READS: a rule, a pair -/
theorem DR_R {I D : MI} (h : DR I D) {s l i : Int} (hn : ¬ hsR D s) (hs : 0 ≤ s ∧ s ≤ 4) (hl : 0 ≤ l ∧ l ≤ i) (hi : i ≤ 9) : DR (up2 (up2 (up2 I 83 (39 + 2 * s) l) 83 (39 + 2 * s + 1) i) 83 1 (D 4 1 + 1)) (addR D 4 s l i) := by
  have n := DR_n h
  have nb := h.1.1
  have room := Wf_room h.1 hs hn
  have e0 : addR D 4 s l i 4 0 = D 4 0 := by simp [addR, up2_at]
  have e1 : addR D 4 s l i 4 1 = D 4 1 + 1 := by simp [addR, up2_at]
  have e2 : addR D 4 s l i 4 2 = D 4 2 := by simp [addR, up2_at]
  have eo : ∀ q : Nat, (q < 4 ∨ 10 < q ∨ q = 5 ∨ q = 6 ∨ q = 7) → ∀ k, addR D 4 s l i q k = D q k := fun q hq k => by
    unfold addR
    rw [up2_ne (.inl (by omega)), up2_ne (.inl (by omega)), up2_ne (.inl (by omega)), up2_ne (.inl (by omega))]
  have rd : ∀ k : Int, k ≠ 1 → k ≠ 39 + 2 * s → k ≠ 39 + 2 * s + 1 → up2 (up2 (up2 I 83 (39 + 2 * s) l) 83 (39 + 2 * s + 1) i) 83 1 (D 4 1 + 1) 83 k = I 83 k := fun k k1 k2 k3 => by
    rw [up2_ne (.inr k1), up2_ne (.inr k3), up2_ne (.inr k2)]
  refine DR_mk (Wf_R h.1 hn hs hl hi) ⟨by rw [rd 0 (by omega) (by omega) (by omega), e0]; exact n.1, by rw [up2_eq, e1], by rw [rd 2 (by omega) (by omega) (by omega), e2]; exact n.2.2⟩ (fun k k0 k1 => ?_) (fun q q0 q1 => ?_) (fun k k0 k1 => ?_)
  · rw [e0] at k1
    rw [rd _ (by omega) (by omega) (by omega), rd _ (by omega) (by omega) (by omega), rd _ (by omega) (by omega) (by omega), eo (4 + 1) (by decide), eo (4 + 2) (by decide), eo (4 + 3) (by decide)]
    exact DR_t h k0 k1
  · rw [e1]
    by_cases e : q = s
    · subst e
      refine .inr ⟨D 4 1, by omega, by omega, ?_, ?_, ?_⟩
      · simp [addR, up2_at]
      · rw [up2_ne (.inr (by omega)), up2_ne (.inr (by omega)), up2_eq]; simp [addR, up2_at]
      · rw [up2_ne (.inr (by omega)), up2_eq]; simp [addR, up2_at]
    · rw [rd _ (by omega) (by omega) (by omega), rd _ (by omega) (by omega) (by omega)]
      rcases DR_r h q0 q1 with ⟨r1, r2⟩ | ⟨r, r0, r1, r2, r3, r4⟩
      · refine .inl ⟨r1, fun r r0 r1 => ?_⟩
        by_cases er : r = D 4 1
        · subst er
          simp [addR, up2_at]
          omega
        · have := r2 r r0 (by omega)
          simp [addR, up2_at, er]
          exact this
      · have er : r ≠ D 4 1 := by omega
        refine .inr ⟨r, r0, by omega, ?_, ?_, ?_⟩
        · simp [addR, up2_at, er]; exact r2
        · simp [addR, up2_at, er]; exact r3
        · simp [addR, up2_at, er]; exact r4
  · rw [e2] at k1
    rw [rd _ (by omega) (by omega) (by omega), rd _ (by omega) (by omega) (by omega), eo (4 + 7) (by decide), eo (4 + 8) (by decide)]
    exact DR_p h k0 k1
theorem DR_P {I D : MI} (h : DR I D) {a b : Int} (hn : D 4 2 < 8) (ha : 0 ≤ a ∧ a < D 4 0) (hb : 0 ≤ b ∧ b < D 4 0) : DR (up2 (up2 (up2 I 83 (49 + 2 * D 4 2) a) 83 (49 + 2 * D 4 2 + 1) b) 83 2 (D 4 2 + 1)) (addP D 4 a b) := by
  have n := DR_n h
  have nb := h.1.1
  have e0 : addP D 4 a b 4 0 = D 4 0 := by simp [addP, up2_at]
  have e1 : addP D 4 a b 4 1 = D 4 1 := by simp [addP, up2_at]
  have e2 : addP D 4 a b 4 2 = D 4 2 + 1 := by simp [addP, up2_at]
  have eo : ∀ q : Nat, (q < 4 ∨ 12 < q ∨ (5 ≤ q ∧ q ≤ 10)) → ∀ k, addP D 4 a b q k = D q k := fun q hq k => by
    unfold addP
    rw [up2_ne (.inl (by omega)), up2_ne (.inl (by omega)), up2_ne (.inl (by omega))]
  have rd : ∀ k : Int, k ≠ 2 → k ≠ 49 + 2 * D 4 2 → k ≠ 49 + 2 * D 4 2 + 1 → up2 (up2 (up2 I 83 (49 + 2 * D 4 2) a) 83 (49 + 2 * D 4 2 + 1) b) 83 2 (D 4 2 + 1) 83 k = I 83 k := fun k k1 k2 k3 => by
    rw [up2_ne (.inr k1), up2_ne (.inr k3), up2_ne (.inr k2)]
  refine DR_mk (Wf_P h.1 hn ha hb) ⟨by rw [rd 0 (by omega) (by omega) (by omega), e0]; exact n.1, by rw [rd 1 (by omega) (by omega) (by omega), e1]; exact n.2.1, by rw [up2_eq, e2]⟩ (fun k k0 k1 => ?_) (fun q q0 q1 => ?_) (fun k k0 k1 => ?_)
  · rw [e0] at k1
    rw [rd _ (by omega) (by omega) (by omega), rd _ (by omega) (by omega) (by omega), rd _ (by omega) (by omega) (by omega), eo (4 + 1) (by decide), eo (4 + 2) (by decide), eo (4 + 3) (by decide)]
    exact DR_t h k0 k1
  · rw [rd _ (by omega) (by omega) (by omega), rd _ (by omega) (by omega) (by omega), e1]
    have r := DR_r h q0 q1
    simpa only [eo (4 + 4) (by decide), eo (4 + 5) (by decide), eo (4 + 6) (by decide)] using r
  · rw [e2] at k1
    by_cases e : k = D 4 2
    · subst e
      refine ⟨?_, ?_⟩
      · rw [up2_ne (.inr (by omega)), up2_ne (.inr (by omega)), up2_eq]; simp [addP, up2_at]
      · rw [up2_ne (.inr (by omega)), up2_eq]; simp [addP, up2_at]
    · have t := DR_p h k0 (by omega)
      rw [rd _ (by omega) (by omega) (by omega), rd _ (by omega) (by omega) (by omega), t.1, t.2]
      refine ⟨?_, ?_⟩ <;> simp [addP, up2_at, e]
theorem hsR_i {I D : MI} (h : DR I D) {v : Int} (v0 : 0 ≤ v ∧ v ≤ 4) : hsR D v ↔ 0 ≤ I 83 (39 + 2 * v) := by
  rcases DR_r h v0.1 (by omega) with ⟨r1, r2⟩ | ⟨r, r0, r1, r2, r3, r4⟩
  · exact ⟨fun ⟨k, k0, k1, k2⟩ => absurd k2 (r2 k k0 k1), fun q => by omega⟩
  · have := h.1.2.2.1 r r0 r1
    exact ⟨fun _ => by omega, fun _ => ⟨r, r0, r1, r2⟩⟩
theorem c_X11_readRule {E : En} {I L D : MI} {B : Int → Int} {n : Int} {s : PR} (hB : BOK B) (h : RR I B n s) (hd : DR I D) (h0 : pf s = 0) (h2 : pk s = 2) : CQv E 8 M_X11_readRule [vr 78] I L (rThQ I L B n (rulR B s D)) := by
  have g83 : G0.1[83]? = some (.inr (0, 65)) := rfl
  refine CM_of' (al := [vr _, vu, vu, vu]) rfl (Nat.le_of_ble_eq_true rfl) rfl (fun hM => ?_)
  refine (t78_X11_readRule_0 (t78_X11_readRule_1 (t78_X11_readRule_2 (by first | assumption | rfl) ((c_X11_must (b := 1) hB h (.inr rfl) (fun _ _ => .inl h2))) (by first | decide | omega) (fun I2 L2 q2 => ?_))))
  -- 1 leaves: :call2
  have em : mstR B s (decide ((1 : Int) = 1)) = nextR B s := by unfold mstR; rw [if_pos h0, if_pos (by decide)]
  rw [em] at q2
  have er : rulR B s D = rul1 B D (nextR B s) := rfl
  rw [er]
  have hs0 : pf (nextR B s) = 0 := h0
  generalize nextR B s = s1 at *
  obtain ⟨rfl, f1, r1⟩ := q2
  have d1 := DR_f hd (f1.1 83 (by decide))
  have tk := RR_tk hB r1
  have h17 := r1.2.2.1
  have fe : pk s1 = 3 → figV s1 = pv s1 := fun q => if_pos q
  have ri := RR_RI hB r1
  have fb : 0 ≤ figV s1 ∧ figV s1 ≤ 999 := by
    unfold figV
    split
    next q => have := ri.2.2.1; have := ri.2.2.2 q; omega
    next => decide
  -- from the sort on
  have k56 : ∀ (I2 : MI) (w : Int), RFs I I2 → RR I2 B n s1 → DR I2 D → (pk s1 = 3 → 0 ≤ pv s1 → pv s1 ≤ 4 → ¬ hsR D (pv s1)) → Ev E 8 M_X11_readRule 56 [vr 78, vi w, vu, vu] [] (G0, 0, 0) I2 L2 (ZQ E M_X11_readRule (QQv (rThQ I L2 B n (rul1 B D s1)))) := by
    intro I2 w f2 r2 d2 hn
    skip
    sorry
  sorry
