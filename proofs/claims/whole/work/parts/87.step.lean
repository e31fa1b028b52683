
/-! BOTH SIDES: tongue, image, restore -/
theorem TE_W {I D : MI} {t u : Nat} (h : TEq I t D u (D u 0) (D u 1) (D u 2)) (w : WfT D u) : WfT I t := by
  obtain ⟨e0, e1, e2, f1, f2, f3⟩ := h
  obtain ⟨⟨n0, n1, n2⟩, w1, w2, w3, w4⟩ := w
  refine ⟨⟨by rw [e0]; exact n0, by rw [e1]; exact n1, by rw [e2]; exact n2⟩, fun k k0 k1 => ?_, fun k k0 k1 => ?_, fun j k j0 jk k1 => ?_, fun k k0 k1 => ?_⟩
  · rw [e0] at k1
    have f := f1 k k0 k1
    rw [f.1, f.2.1, f.2.2]
    exact w1 k k0 k1
  · rw [e1] at k1
    have f := f2 k k0 k1
    rw [f.1, f.2.1, f.2.2]
    exact w2 k k0 k1
  · rw [e1] at k1
    rw [(f2 j j0 (by omega)).1, (f2 k (by omega) k1).1]
    exact w3 j k j0 jk k1
  · rw [e2] at k1
    have f := f3 k k0 k1
    rw [f.1, f.2, e0]
    exact w4 k k0 k1
theorem TE_2 {I J D : MI} {t u a : Nat} {b : Int} (h : TEq I t D u (D u 0) (D u 1) (D u 2)) (r : TR2 J D u a b) : TR2 J I t a b := by
  obtain ⟨e0, e1, e2, f1, f2, f3⟩ := h
  obtain ⟨r0, r1, r2, r3, r4, r5⟩ := r
  refine ⟨by rw [e0]; exact r0, by rw [e1]; exact r1, by rw [e2]; exact r2, fun k k0 k1 => ?_, fun s s0 s1 => ?_, fun k k0 k1 => ?_⟩
  · rw [e0] at k1
    have f := f1 k k0 k1
    rw [f.1, f.2.1, f.2.2]
    exact r3 k k0 k1
  · rw [e1]
    rcases r4 s s0 s1 with ⟨x, y⟩ | ⟨q, q0, q1, q2, q3, q4⟩
    · exact .inl ⟨x, fun q q0 q1 => by rw [(f2 q q0 q1).1]; exact y q q0 q1⟩
    · have f := f2 q q0 q1
      exact .inr ⟨q, q0, q1, by rw [f.1]; exact q2, by rw [f.2.1]; exact q3, by rw [f.2.2]; exact q4⟩
  · rw [e2] at k1
    have f := f3 k k0 k1
    rw [f.1, f.2]
    exact r5 k k0 k1
theorem Inv_Tp {I L I1 : MI} (h : Inv I L) (f : ∀ k, I1 85 k = I 85 k) : TpR I1 (byI I) (I 2 0) := by
  have p := h.2.2.1
  have pb := p.2.1
  refine ⟨p.2.1, fun k k0 k1 => ?_, fun k k1 => by unfold byI; rw [if_neg (by omega)]⟩
  have e : byI I k = I 3 k % 256 := by unfold byI; rw [if_pos (by omega)]
  rw [f, p.2.2 k k0 k1, e]
  omega
theorem sp_tongue {I L I1 L1 I2 L2 : MI} {z z' : Int} {R : PR × MI} (h : Inv I L) (c : TonQ I L R z I1 L1) (q : rTonQ I1 L1 R z' I2 L2) : z = z' ∧ Inv I2 L2 := by
  obtain ⟨c0, c⟩ := c
  obtain ⟨q0, q⟩ := q
  have hj := h.2.2.2.2.1
  rcases c with ⟨c1, c2, c3, rfl, c4, c5⟩ | ⟨c1, c2, c3, c4, c5, c6, c7⟩
  · rcases q with ⟨q1, q2, q3, rfl, q4, q5⟩ | ⟨q1, -⟩
    · refine ⟨by rw [c2, q2], ?_⟩
      have lo : ∀ o, o ≠ 78 → o ≠ 83 → o ≠ 13 → (o < 4 ∨ 12 < o) → o ≠ 2 → o ≠ 0 → ∀ k, I2 o k = I o k := fun o o1 o2 o3 o4 o5 o6 k => by rw [q4 o o1 o2, c5 o o3 o4 o5 o6]
      have e78 : ∀ k, I1 78 k = I 78 k := c5 78 (by decide) (by decide) (by decide) (by decide)
      obtain ⟨h1, h2, h3, h4, -, h6, h7, h8, h9, h10⟩ := h
      have ts : TSame I I2 15 := fun o o1 o2 k => lo o (by omega) (by omega) (by omega) (by omega) (by omega) (by omega) k
      have f7 : I2 78 7 = I 78 7 := by rw [q5 7 (by decide), e78]
      refine ⟨TR_f ⟨ts, lo 82 (by decide) (by decide) (by decide) (by decide) (by decide) (by decide), f7⟩ h1, IvR_f (fun o ho k => lo o (by omega) (by omega) (by omega) (by omega) (by omega) (by omega) k) h2, ⟨?_, ?_, fun k k0 k1 => ?_⟩, h4, JOK_f hj ts (lo 29 (by decide) (by decide) (by decide) (by decide) (by decide) (by decide)), ?_, ?_, IvC_f (fun o ho k => lo o (by omega) (by omega) (by omega) (by omega) (by omega) (by omega) k) (lo 38 (by decide) (by decide) (by decide) (by decide) (by decide) (by decide) 1) (by rw [q5 29 (by decide), e78]) h8, IvM_f (fun o ho k => lo o (by omega) (by omega) (by omega) (by omega) (by omega) (by omega) k) (fun o ho k => rfl) f7 h9, IvM_f (fun o ho k => lo o (by omega) (by omega) (by omega) (by omega) (by omega) (by omega) k) (fun o ho k => rfl) f7 h10⟩
      · rw [q0, q4 2 (by decide) (by decide), c0]
      · rw [q4 2 (by decide) (by decide), c0]; decide
      · rw [q4 2 (by decide) (by decide), c0] at k1; omega
      · rw [q3, q4 0 (by decide) (by decide), c3]
      · rw [q5 1 (by decide), e78, q4 0 (by decide) (by decide), c4 12 (by decide)]; exact h7
    · exact absurd q1 c1
  · rcases q with ⟨q1, -⟩ | ⟨q1, q2, q3, q4, q5, q6, q7, q8, q9, q10⟩
    · exact absurd c1 q1
    · refine ⟨by rw [c2, q2], ?_⟩
      have lo : ∀ o, o ≠ 78 → o ≠ 82 → o ≠ 83 → o ≠ 13 → (o < 4 ∨ 12 < o) → o ≠ 2 → o ≠ 29 → (o < 15 ∨ 23 < o) → ∀ k, I2 o k = I o k := fun o o1 o2 o3 o4 o5 o6 o7 o8 k => by rw [q5 o o1 o2 o3, c3 o o4 o5 o6 o7 o8]
      have e78 : ∀ k, I1 78 k = I 78 k := c3 78 (by decide) (by decide) (by decide) (by decide) (by decide)
      have s12 : TSame I1 I2 15 := fun o o1 o2 k => q5 o (by omega) (by omega) (by omega) k
      obtain ⟨h1, h2, h3, h4, -, h6, h7, h8, h9, h10⟩ := h
      have mim : ∀ {k : Int} {s : Nat}, s = 56 ∨ s = 67 → IvM I L k s → IvM I2 L2 k s := fun {k s} hs hm => by
        have ts : TSame I I2 (s + 1) := fun o o1 o2 j => lo o (by omega) (by omega) (by omega) (by omega) (by omega) (by omega) (by omega) (by omega) j
        have gl : ∀ o, o ≠ 24 → o ≠ 84 → ∀ j, L2 o j = L o j := fun o o1 o2 j => by rw [q9 o o2, c6 o o1]
        rcases hm with ⟨m1, m2, m3⟩ | ⟨m1, m2, m3, m4, m5⟩
        · exact .inl ⟨by rw [lo 90 (by decide) (by decide) (by decide) (by decide) (by decide) (by decide) (by decide) (by decide)]; exact m1, by rw [ts (s + 1) (by omega) (by omega)]; exact m2, TB_same ts m3⟩
        · refine .inr ⟨⟨by rw [lo 90 (by decide) (by decide) (by decide) (by decide) (by decide) (by decide) (by decide) (by decide)]; exact m1.1, q4⟩, by rw [ts (s + 1) (by omega) (by omega)]; exact m2, WfT_same ts m3, TR2_f (lo 91 (by decide) (by decide) (by decide) (by decide) (by decide) (by decide) (by decide) (by decide)) ts m4, fun j j0 j1 => ?_⟩
          rw [gl 92 (by decide) (by decide), gl (s + 10) (by omega) (by omega)]
          exact m5 j j0 j1
      refine ⟨⟨WfT_same s12 (TE_W c4 q7), .inr ⟨q4, ?_, ?_⟩⟩, IvR_f (fun o ho k => lo o (by omega) (by omega) (by omega) (by omega) (by omega) (by omega) (by omega) (by omega) k) h2, ⟨?_, ?_, fun k k0 k1 => ?_⟩, fun k k0 k1 => ?_, fun n n1 n2 => .inl ?_, ?_, ?_, IvC_f (fun o ho k => lo o (by omega) (by omega) (by omega) (by omega) (by omega) (by omega) (by omega) (by omega) k) (lo 38 (by decide) (by decide) (by decide) (by decide) (by decide) (by decide) (by decide) (by decide) 1) (by rw [q6 29 (by decide), e78]) h8, mim (.inl rfl) h9, mim (.inr rfl) h10⟩
      · rw [q5 15 (by decide) (by decide) (by decide), c4.1]; exact q3
      · exact TR2_f (fun k => rfl) s12 (TE_2 c4 q8)
      · rw [q0, q5 2 (by decide) (by decide) (by decide), c0]
      · rw [q5 2 (by decide) (by decide) (by decide), c0]; decide
      · rw [q5 2 (by decide) (by decide) (by decide), c0] at k1; omega
      · rw [q10 k k0 k1, q9 24 (by decide), c7 k k0 k1]; decide
      · rw [q5 29 (by decide) (by decide) (by decide)]; exact c5 n n1 n2
      · rw [q6 11 (by decide), e78, lo 0 (by decide) (by decide) (by decide) (by decide) (by decide) (by decide) (by decide) (by decide)]; exact h6
      · rw [q6 1 (by decide), e78, lo 0 (by decide) (by decide) (by decide) (by decide) (by decide) (by decide) (by decide) (by decide)]; exact h7
theorem IvM_x {I J L M : MI} {k : Int} {s : Nat} (ts : TSame I J (s + 1)) (f0 : J 90 k = I 90 k) (f7 : J 78 7 = I 78 7) (f : ∀ x, 0 ≤ x → x < 65 → J 91 (65 * k + x) = I 91 (65 * k + x)) (g : ∀ q, 0 ≤ q → q < 8 → M 92 (8 * k + q) = L 92 (8 * k + q) ∧ M (s + 10) q = L (s + 10) q) (h : IvM I L k s) : IvM J M k s := by
  rcases h with ⟨h1, h2, h3⟩ | ⟨h1, h2, h3, h4, h5⟩
  · exact .inl ⟨by rw [f0]; exact h1, by rw [ts (s + 1) (by omega) (by omega)]; exact h2, TB_same ts h3⟩
  · refine .inr ⟨by rw [f0, f7]; exact h1, by rw [ts (s + 1) (by omega) (by omega)]; exact h2, WfT_same ts h3, TR2_f (fun _ => rfl) ts (TR2_cp h3 h4 f), fun q q0 q1 => ?_⟩
    rw [(g q q0 q1).1, (g q q0 q1).2]
    exact h5 q q0 q1
theorem Inv_im {I L : MI} (h : Inv I L) {k : Int} (hk : 0 ≤ k ∧ k < 2) : IvM I L k (imO k) := by
  have : k = 0 ∨ k = 1 := by omega
  rcases this with rfl | rfl
  · exact h.2.2.2.2.2.2.2.2.1
  · exact h.2.2.2.2.2.2.2.2.2
theorem Inv_of {I L : MI} (h1 : TRq I) (h2 : IvR I) (h3 : IvP I) (h4 : IvS L) (h5 : JOK I 15) (h6 : I 78 11 = I 0 11) (h7 : I 78 1 = I 0 12) (h8 : IvC I) (h9 : ∀ k, 0 ≤ k ∧ k < 2 → IvM I L k (imO k)) : Inv I L := ⟨h1, h2, h3, h4, h5, h6, h7, h8, h9 0 (by decide), h9 1 (by decide)⟩
theorem imO_ne {k j : Int} (hk : 0 ≤ k ∧ k < 2) (hj : 0 ≤ j ∧ j < 2) (h : j ≠ k) : (imO j = 56 ∧ imO k = 67) ∨ (imO j = 67 ∧ imO k = 56) := by
  have a : k = 0 ∨ k = 1 := by omega
  have b : j = 0 ∨ j = 1 := by omega
  rcases a with rfl | rfl <;> rcases b with rfl | rfl
  · exact absurd rfl h
  · exact .inr ⟨rfl, rfl⟩
  · exact .inl ⟨rfl, rfl⟩
  · exact absurd rfl h
theorem sp_image {I L I1 L1 I2 L2 : MI} {k z z' : Int} (h : Inv I L) (c : ImgQ I L k z I1 L1) (q : rImgQ I1 L1 k z' I2 L2) : z = z' ∧ Inv I2 L2 := by
  have hj := h.2.2.2.2.1
  have t7 : (I 78 7 = 0 ∧ I 15 0 = 0) ∨ (I 78 7 = 1 ∧ I 15 0 ≠ 0) := by
    rcases h.1.2 with q | q
    · exact .inl ⟨q.1, q.2.1⟩
    · exact .inr ⟨q.1, by have := q.2.1; omega⟩
  rcases c with ⟨c1, rfl, rfl, rfl⟩ | ⟨c1, c2, rfl, rfl, rfl⟩ | ⟨c1, c2, rfl, c3, c4, c5, c6⟩
  · rcases q with ⟨q1, rfl, rfl, rfl⟩ | ⟨q1, q2, rfl, rfl, rfl⟩ | ⟨q1, q2, rfl, rfl, rfl⟩
    · exact ⟨rfl, Inv_no h⟩
    · exact absurd q1 c1
    · exact absurd q1 c1
  · rcases q with ⟨q1, rfl, rfl, rfl⟩ | ⟨q1, q2, rfl, rfl, rfl⟩ | ⟨q1, q2, rfl, rfl, rfl⟩
    · exact absurd c1 q1
    · exact ⟨rfl, Inv_no h⟩
    · omega
  · have im := imO_c c1
    have e78 : ∀ j, I1 78 j = I 78 j := fun j => c3 78 (by omega) j
    unfold rImgQ at q
    rw [e78] at q
    rcases q with ⟨q1, -⟩ | ⟨q1, q2, -⟩ | ⟨q1, q2, rfl, q3, q4⟩
    · exact absurd c1 q1
    · omega
    · refine ⟨rfl, ?_⟩
      have hi : ∀ o, o ≠ 78 → o ≠ 90 → o ≠ 91 → ∀ j, I2 o j = I1 o j := fun o o1 o2 o3 j => by rw [q3, up2_ne (.inl o2), cpI_n (.inl o3), up2_ne (.inl o1)]
      have lo : ∀ o, o ≠ 78 → o ≠ 90 → o ≠ 91 → (o < imO k + 1 ∨ imO k + 9 < o) → ∀ j, I2 o j = I o j := fun o o1 o2 o3 o4 j => by rw [hi o o1 o2 o3, c3 o (by omega)]
      have f78 : ∀ j, j ≠ 0 → I2 78 j = I 78 j := fun j hj => by rw [q3, up2_ne (.inl (by decide)), cpI_n (.inl (by decide)), up2_ne (.inr hj), e78]
      have ts : TSame I I2 15 := fun o o1 o2 j => lo o (by omega) (by omega) (by omega) (by omega) j
      have gl : ∀ o, o ≠ 92 → o ≠ imO k + 10 → ∀ j, L2 o j = L o j := fun o o1 o2 j => by rw [q4, cpI_n (.inl o1), c5 o o2]
      refine Inv_of (TR_f ⟨ts, lo 82 (by decide) (by decide) (by decide) (by omega), f78 7 (by decide)⟩ h.1) (IvR_f (fun o ho j => lo o (by omega) (by omega) (by omega) (by omega) j) h.2.1) (IvP_f (fun o ho j => lo o (by omega) (by omega) (by omega) (by omega) j) (f78 10 (by decide)) h.2.2.1) (IvS_f (fun o ho j => gl o (by omega) (by omega) j) h.2.2.2.1) (JOK_f hj ts (lo 29 (by decide) (by decide) (by decide) (by omega))) ?_ ?_ (IvC_f (fun o ho j => lo o (by omega) (by omega) (by omega) (by omega) j) (lo 38 (by decide) (by decide) (by decide) (by omega) 1) (f78 29 (by decide)) h.2.2.2.2.2.2.2.1) (fun j hj2 => ?_)
      · rw [f78 11 (by decide), lo 0 (by decide) (by decide) (by decide) (by omega)]; exact h.2.2.2.2.2.1
      · rw [f78 1 (by decide), lo 0 (by decide) (by decide) (by decide) (by omega)]; exact h.2.2.2.2.2.2.1
      · by_cases e : j = k
        · subst e
          have w := h.1.1
          have tr : TR2 I I 15 82 0 := by
            rcases h.1.2 with x | x
            · omega
            · exact x.2.2
          have s12 : TSame I1 I2 (imO j + 1) := fun o o1 o2 x => hi o (by omega) (by omega) (by omega) x
          have n1 : 1 ≤ I 15 0 := by have := w.1.1; omega
          refine .inr ⟨⟨?_, by rw [f78 7 (by decide)]; omega⟩, ?_, WfT_same s12 (TE_W c4 w), ?_, fun x x0 x1 => ?_⟩
          · rw [q3, up2_eq]; decide
          · rw [s12 (imO j + 1) (by omega) (by omega), c4.1]; exact n1
          · refine TR2_f (fun _ => rfl) s12 (TE_2 c4 (TR2_cp w tr fun x x0 x1 => ?_))
            rw [q3, up2_ne (.inl (by decide)), cpI_i ⟨by omega, by omega⟩, up2_ne (.inl (by decide)), c3 82 (by omega)]
            congr 1
            omega
          · have sl := h.2.2.2.1 x x0 x1
            have e2 : L2 (imO j + 10) x = L 24 x := by rw [q4, cpI_n (.inl (by omega)), c6 x x0 x1]
            rw [e2]
            refine ⟨?_, sl.2⟩
            rw [q4, cpI_i ⟨by omega, by omega⟩, show (0 : Int) + (8 * j + x - 8 * j) = x by omega, c5 84 (by omega)]
            exact sl.1
        · have im2 := imO_ne c1 hj2 e
          refine IvM_x (fun o o1 o2 x => lo o (by omega) (by omega) (by omega) (by omega) x) ?_ (f78 7 (by decide)) (fun x x0 x1 => ?_) (fun x x0 x1 => ⟨?_, gl _ (by omega) (by omega) x⟩) (Inv_im h hj2)
          · rw [q3, up2_ne (.inr e), cpI_n (.inl (by decide)), up2_ne (.inl (by decide)), c3 90 (by omega)]
          · rw [q3, up2_ne (.inl (by decide)), cpI_n (.inr (by omega)), up2_ne (.inl (by decide)), c3 91 (by omega)]
          · rw [q4, cpI_n (.inr (by omega)), c5 92 (by omega)]
theorem sp_restore {I L I1 L1 I2 L2 : MI} {k z z' : Int} (h : Inv I L) (c : RstQ I L k z I1 L1) (q : rRstQ I1 L1 k z' I2 L2) : z = z' ∧ Inv I2 L2 := by
  rcases c with ⟨c1, rfl, rfl, rfl⟩ | ⟨c1, c2, rfl, rfl, rfl⟩ | ⟨c1, c2, rfl, J, ⟨c3, c4, c5, c6⟩, c7⟩
  · rcases q with ⟨q1, rfl, rfl, rfl⟩ | ⟨q1, q2, rfl, rfl, rfl⟩ | ⟨q1, q2, rfl, rfl, rfl⟩
    · exact ⟨rfl, Inv_no h⟩
    · exact absurd q1 c1
    · exact absurd q1 c1
  · have m := Inv_im h c1
    rcases q with ⟨q1, rfl, rfl, rfl⟩ | ⟨q1, q2, rfl, rfl, rfl⟩ | ⟨q1, q2, rfl, rfl, rfl⟩
    · exact absurd c1 q1
    · exact ⟨rfl, Inv_no h⟩
    · rcases m with m | m
      · exact absurd m.1 q2
      · have := m.2.1; omega
  · have m := Inv_im h c1
    have im := imO_c c1
    have efl : ∀ o, o ≠ 29 → ∀ j, I1 o j = J o j := fun o o1 j => by rw [c7]; unfold flI; rw [if_neg (fun x => o1 x.1)]
    have e1 : ∀ o, o ≠ 29 → (o < 15 ∨ 23 < o) → ∀ j, I1 o j = I o j := fun o o1 o2 j => by rw [efl o o1, c3 o (by omega)]
    unfold rRstQ at q
    rw [e1 90 (by decide) (by decide)] at q
    rcases q with ⟨q1, -⟩ | ⟨q1, q2, -⟩ | ⟨q1, q2, rfl, q3, q4⟩
    · exact absurd c1 q1
    · rcases m with m | m
      · exact absurd m.2.1 c2
      · exact absurd q2 m.1.1
    · rcases m with m | ⟨m1, m2, m3, m4, m5⟩
      · exact absurd m.1 q2
      · refine ⟨rfl, ?_⟩
        have hi : ∀ o, o ≠ 78 → o ≠ 82 → ∀ j, I2 o j = I1 o j := fun o o1 o2 j => by rw [q3, cpI_n (.inl o2), up2_ne (.inl o1)]
        have lo : ∀ o, o ≠ 78 → o ≠ 82 → o ≠ 29 → (o < 15 ∨ 23 < o) → ∀ j, I2 o j = I o j := fun o o1 o2 o3 o4 j => by rw [hi o o1 o2, e1 o o3 o4]
        have f78 : ∀ j, j ≠ 0 → I2 78 j = I 78 j := fun j hj => by rw [q3, cpI_n (.inl (by decide)), up2_ne (.inr hj), e1 78 (by decide) (by decide)]
        have s12 : TSame J I2 15 := fun o o1 o2 j => by rw [hi o (by omega) (by omega), efl o (by omega)]
        have gl : ∀ o, o ≠ 84 → o ≠ 24 → ∀ j, L2 o j = L o j := fun o o1 o2 j => by rw [q4, cpI_n (.inl o1), c5 o o2]
        refine Inv_of ⟨WfT_same s12 (TE_W c4 m3), .inr ⟨by rw [f78 7 (by decide)]; exact m1.2, ?_, ?_⟩⟩ (IvR_f (fun o ho j => lo o (by omega) (by omega) (by omega) (by omega) j) h.2.1) (IvP_f (fun o ho j => lo o (by omega) (by omega) (by omega) (by omega) j) (f78 10 (by decide)) h.2.2.1) (fun x x0 x1 => ?_) (fun n n1 n2 => .inl ?_) ?_ ?_ (IvC_f (fun o ho j => lo o (by omega) (by omega) (by omega) (by omega) j) (lo 38 (by decide) (by decide) (by decide) (by omega) 1) (f78 29 (by decide)) h.2.2.2.2.2.2.2.1) (fun j hj2 => ?_)
        · rw [s12 15 (by decide) (by decide), c4.1]; exact m2
        · refine TR2_f (fun _ => rfl) s12 (TE_2 c4 (TR2_cp m3 m4 fun x x0 x1 => ?_))
          rw [q3, cpI_i ⟨by omega, by omega⟩, up2_ne (.inl (by decide)), e1 91 (by decide) (by decide)]
          congr 1
          omega
        · have m6 := m5 x x0 x1
          have a1 : L2 24 x = L (imO k + 10) x := by rw [q4, cpI_n (.inl (by decide)), c6 x x0 x1]
          rw [a1]
          refine ⟨?_, m6.2⟩
          rw [q4, cpI_i ⟨by omega, by omega⟩, show 8 * k + (x - 0) = 8 * k + x by omega, c5 92 (by decide)]
          exact m6.1
        · rw [hi 29 (by decide) (by decide), c7]
          unfold flI
          rw [if_pos ⟨rfl, by omega, by omega⟩]
        · rw [f78 11 (by decide), lo 0 (by decide) (by decide) (by decide) (by omega)]; exact h.2.2.2.2.2.1
        · rw [f78 1 (by decide), lo 0 (by decide) (by decide) (by decide) (by omega)]; exact h.2.2.2.2.2.2.1
        · have im2 := imO_c hj2
          exact IvM_f (fun o ho x => lo o (by omega) (by omega) (by omega) (by omega) x) (fun o ho x => gl o (by omega) (by omega) x) (f78 7 (by decide)) (Inv_im h hj2)
