
/-! BOTH SIDES: calls on a saying -/
theorem Tk_ck {I L I' L' : MI} {v : Int} (h : TkQ I L 26 15 v I' L') (hj : JOK I 15) : CK I I' ∧ CKL L L' ∧ JOK I' 15 ∧ TSame I I' 15 ∧ ∀ o, 78 ≤ o → ∀ k, L' o k = L o k := by
  have ts : TSame I I' 15 := fun o o1 o2 k => h.1 o (by omega) (by omega) k
  refine ⟨⟨fun o o1 o2 o3 k => h.1 o (by omega) (by omega) k, h.1 0 (by decide) (by decide) 11, h.1 0 (by decide) (by decide) 12, h.1 38 (by decide) (by decide) 1⟩, fun o o1 k => h.2.1 o (by omega) k, JOK_f hj ts (h.1 29 (by decide) (by decide)), ts, fun o o1 k => h.2.1 o (by omega) k⟩
theorem toldF_c {a b c : Int} {C D : Int → Int} (h : ∀ k : Nat, k < 12 → C k = D k) : toldF a b c C = toldF a b c D := by
  unfold toldF
  rw [chtN_c h]
theorem Tk_told {I L I' L' : MI} {v z : Int} (h : TkQ I L 26 15 v I' L') (t : TldQ I v z) : z = toldF (L' 26 1) (I' 26 3) (I' 26 2) (I' 27) := by
  obtain ⟨g, hg, rfl⟩ := t
  have eg : g = I' 26 3 := by
    rcases h.2.2.2.2.2 with ⟨a, b⟩ | ⟨a, b⟩
    · rcases hg with ⟨c, d⟩ | ⟨c, d⟩
      · omega
      · exact absurd b d
    · rcases hg with ⟨c, d⟩ | ⟨c, d⟩
      · exact absurd d b
      · omega
  rw [h.2.2.1, h.2.2.2.1, eg]
  exact toldF_c fun k hk => (h.2.2.2.2.1 k hk).symm
theorem sl_e {I L L1 : MI} (h : Inv I L) (f : ∀ o, 78 ≤ o → ∀ k, L1 o k = L o k) {k : Int} (hk : 0 ≤ k ∧ k < 8) : L1 84 k = L 24 k := by
  rw [f 84 (by decide)]
  exact (h.2.2.2.1 k hk.1 hk.2).1
theorem sp_apart {I L I1 L1 I2 L2 : MI} {k t z z' : Int} (h : Inv I L) (c : AptQ I L k t z I1 L1) (q : rAptQ I1 L1 k t z' I2 L2) : z = z' ∧ Inv I2 L2 := by
  have hj := h.2.2.2.2.1
  obtain ⟨rk, rl, q⟩ := q
  rcases c with ⟨c1, rfl, rfl, rfl⟩ | ⟨c1, c2, rfl, rfl, rfl⟩ | ⟨c1, c2, c3, c4⟩
  · refine ⟨?_, Inv_ro h (CK_r _) (CKL_r _) hj rk rl⟩
    rcases q with ⟨q1, rfl⟩ | ⟨q1, q2⟩ | ⟨q1, q2⟩
    · rfl
    · exact absurd q1 c1
    · exact absurd q1 c1
  · have e := sl_e h (L1 := L1) (fun o _ k => rfl) c1.1
    refine ⟨?_, Inv_ro h (CK_r _) (CKL_r _) hj rk rl⟩
    rcases q with ⟨q1, rfl⟩ | ⟨q1, q2, rfl⟩ | ⟨q1, q2, q3⟩
    · exact absurd c1 q1
    · rfl
    · omega
  · obtain ⟨k1, k2, k3, ts, k5⟩ := Tk_ck c3 hj
    refine ⟨?_, Inv_ro h k1 k2 k3 rk rl⟩
    have e := sl_e h k5 c1.1
    rw [e, fstI_same ts, othI_same ts, ts 15 (by decide) (by decide) 0, propext (GoodP_same (v := L 24 k) ts)] at q
    rcases q with ⟨q1, rfl⟩ | ⟨q1, q2, rfl⟩ | ⟨q1, q2, q3⟩
    · exact absurd c1 q1
    · omega
    · rw [c4]
      rcases q3 with ⟨q3, q4⟩ | ⟨q3, q4⟩ | ⟨q3, q4⟩
      · rw [if_pos q3]
        rcases c3.2.2.2.2.2 with ⟨a, b⟩ | ⟨a, b⟩
        · rcases q4 with ⟨x, y⟩ | ⟨x, y⟩
          · omega
          · exact absurd b y
        · rcases q4 with ⟨x, y⟩ | ⟨x, y⟩
          · exact absurd y b
          · omega
      · rw [if_neg (by omega), if_pos q3, q4]
        exact c3.2.2.1
      · rw [if_neg (by omega), if_neg (by omega), q4]
        have ht := h.1.1.1.1
        have := c3.2.2.2.2.1 t.toNat (by omega)
        rw [Int.toNat_of_nonneg q3] at this
        show _ = tkC (fstI I1 15) (othI I1 15) (L 24 k) t.toNat
        rw [fstI_same ts, othI_same ts]
        exact this
theorem sp_signed {I L I1 L1 I2 L2 : MI} {k w z z' : Int} (h : Inv I L) (c : SgdQ I L k w z I1 L1) (q : rSgdQ I1 L1 k w z' I2 L2) : z = z' ∧ Inv I2 L2 := by
  have hj := h.2.2.2.2.1
  obtain ⟨rk, rl, q⟩ := q
  rcases c with ⟨c1, rfl, rfl, rfl⟩ | ⟨c1, c2, rfl, rfl, rfl⟩ | ⟨c1, c2, c3, c4⟩
  · refine ⟨?_, Inv_ro h (CK_r _) (CKL_r _) hj rk rl⟩
    rcases q with ⟨q1, rfl⟩ | ⟨q1, q2⟩ | ⟨q1, q2⟩
    · rfl
    · exact absurd q1 c1
    · exact absurd q1 c1
  · have e := sl_e h (L1 := L1) (fun o _ k => rfl) c1.1
    refine ⟨?_, Inv_ro h (CK_r _) (CKL_r _) hj rk rl⟩
    rcases q with ⟨q1, rfl⟩ | ⟨q1, q2, rfl⟩ | ⟨q1, q2, q3⟩
    · exact absurd c1 q1
    · rfl
    · omega
  · obtain ⟨k1, k2, k3, ts, k5⟩ := Tk_ck c3 hj
    refine ⟨?_, Inv_ro h k1 k2 k3 rk rl⟩
    have e := sl_e h k5 c1.1
    rw [e, fstI_same ts, othI_same ts] at q
    rcases q with ⟨q1, rfl⟩ | ⟨q1, q2, rfl⟩ | ⟨q1, q2, q3⟩
    · exact absurd c1 q1
    · omega
    · have es : sbN (I1 27) 12 = sbN (ctI (fstI I 15) (othI I 15) (L 24 k)) 12 := sbN_c fun j hj => c3.2.2.2.2.1 j hj
      rw [c4, q3, es]
theorem sp_kind {I L I1 L1 I2 L2 : MI} {k z z' : Int} (h : Inv I L) (c : KndQ I L k z I1 L1) (q : rKndQ I1 L1 k z' I2 L2) : z = z' ∧ Inv I2 L2 := by
  have hj := h.2.2.2.2.1
  obtain ⟨rk, rl, q⟩ := q
  rcases c with ⟨c1, rfl, rfl, rfl⟩ | ⟨c1, c2, rfl, rfl, rfl⟩ | ⟨c1, c2, c3, c4⟩
  · refine ⟨?_, Inv_ro h (CK_r _) (CKL_r _) hj rk rl⟩
    rcases q with ⟨q1, rfl⟩ | ⟨q1, q2⟩ | ⟨q1, q2⟩
    · rfl
    · exact absurd q1 c1
    · exact absurd q1 c1
  · have e := sl_e h (L1 := L1) (fun o _ k => rfl) c1
    refine ⟨?_, Inv_ro h (CK_r _) (CKL_r _) hj rk rl⟩
    rcases q with ⟨q1, rfl⟩ | ⟨q1, q2, rfl⟩ | ⟨q1, q2, q3⟩
    · exact absurd c1 q1
    · rfl
    · omega
  · obtain ⟨k1, k2, k3, ts, k5⟩ := Tk_ck c3 hj
    refine ⟨?_, Inv_ro h k1 k2 k3 rk rl⟩
    have e := sl_e h k5 c1
    rw [e, propext (TldQ_same (v := L 24 k) (z := z') ts)] at q
    rcases q with ⟨q1, rfl⟩ | ⟨q1, q2, rfl⟩ | ⟨q1, q2, q3⟩
    · exact absurd c1 q1
    · omega
    · rw [c4]
      exact (Tk_told c3 q3).symm
theorem CK_s {I J : MI} {a : Int} (h : CK I J) : CK (up2 I 0 12 a) (up2 J 0 12 a) := ⟨fun o o1 o2 o3 k => by rw [up2_ne (.inl o1), up2_ne (.inl o1)]; exact h.1 o o1 o2 o3 k, by rw [up2_ne (.inr (by decide)), up2_ne (.inr (by decide))]; exact h.2.1, by rw [up2_eq, up2_eq], by rw [up2_ne (.inl (by decide)), up2_ne (.inl (by decide))]; exact h.2.2.2⟩
theorem JOK_s {I : MI} {a : Int} (h : JOK I 15) : JOK (up2 I 0 12 a) 15 := JOK_f h (fun o o1 o2 k => up2_ne (.inl (by omega))) (fun k => up2_ne (.inl (by decide)))
theorem sp_as {I L I1 L1 I2 L2 : MI} {k w z z' : Int} (h : Inv I L) (c : AsQ I L k w z I1 L1) (q : rAsQ I1 L1 k w z' I2 L2) : z = z' ∧ Inv I2 L2 := by
  have hj := h.2.2.2.2.1
  obtain ⟨rl, q⟩ := q
  rcases c with ⟨c1, rfl, rfl, rfl⟩ | ⟨c1, c2, rfl, rfl, rfl⟩ | ⟨c1, c2, J, c3, c4⟩
  · rcases q with ⟨q1, rfl, rk⟩ | ⟨q1, q2⟩ | ⟨q1, q2⟩
    · exact ⟨rfl, Inv_ro h (CK_r _) (CKL_r _) hj rk rl⟩
    · exact absurd q1 c1
    · exact absurd q1 c1
  · have e := sl_e h (L1 := L1) (fun o _ k => rfl) c1.1
    rcases q with ⟨q1, rfl, rk⟩ | ⟨q1, q2, rfl, rk⟩ | ⟨q1, q2, q3⟩
    · exact absurd c1 q1
    · exact ⟨rfl, Inv_ro h (CK_r _) (CKL_r _) hj rk rl⟩
    · omega
  · obtain ⟨k1, k2, k3, ts, k5⟩ := Tk_ck c3 hj
    have e := sl_e h k5 c1.1
    have ts2 : ∀ a : Int, TSame I (up2 J 0 12 a) 15 := fun a o o1 o2 k => by rw [up2_ne (.inl (by omega))]; exact ts o o1 o2 k
    rw [e] at q
    rcases q with ⟨q1, rfl, rk⟩ | ⟨q1, q2, rfl, rk⟩ | ⟨q1, q2, K, q3, q4⟩
    · exact absurd c1 q1
    · omega
    · rcases c4 with ⟨c4, c5, rfl⟩ | ⟨c4, c5, rfl⟩
      · have eK := Tk_told c3 ((TldQ_same (ts2 0)).mp q3)
        rw [← eK] at c4
        rcases q4 with ⟨q4, q5, rk⟩ | ⟨q4, q5, rk⟩
        · exact ⟨by omega, Inv_rs h (CK_s k1) k2 (JOK_s k3) rk rl⟩
        · rw [c4] at q4; exact absurd q4 (by decide)
      · have eK := Tk_told c3 ((TldQ_same (ts2 3)).mp q3)
        rw [← eK] at c4
        rcases q4 with ⟨q4, q5, rk⟩ | ⟨q4, q5, rk⟩
        · rw [c4] at q4; exact absurd q4 (by decide)
        · exact ⟨by omega, Inv_rs h (CK_s k1) k2 (JOK_s k3) rk rl⟩
theorem samF_same {I J : MI} (h : TSame I J 15) (v : Int) : samF J v = samF I v := by
  unfold samF ctN
  rw [lesI_same h, greI_same h, fstI_same h, othI_same h, h 15 (by decide) (by decide) 0]
theorem sp_same {I L I1 L1 I2 L2 : MI} {k z z' : Int} (h : Inv I L) (c : SamQ I L k z I1 L1) (q : rSamQ I1 L1 k z' I2 L2) : z = z' ∧ Inv I2 L2 := by
  have hj := h.2.2.2.2.1
  obtain ⟨rk, rl, q⟩ := q
  rcases c with ⟨c1, rfl, rfl, rfl⟩ | ⟨c1, c2, rfl, rfl, rfl⟩ | ⟨c1, c2, c3, c4⟩
  · refine ⟨?_, Inv_ro h (CK_r _) (CKL_r _) hj rk rl⟩
    rcases q with ⟨q1, rfl⟩ | ⟨q1, q2⟩ | ⟨q1, q2⟩
    · rfl
    · exact absurd q1 c1
    · exact absurd q1 c1
  · have e := sl_e h (L1 := L1) (fun o _ k => rfl) c1
    refine ⟨?_, Inv_ro h (CK_r _) (CKL_r _) hj rk rl⟩
    rcases q with ⟨q1, rfl⟩ | ⟨q1, q2, rfl⟩ | ⟨q1, q2, q3⟩
    · exact absurd c1 q1
    · rfl
    · omega
  · obtain ⟨k1, k2, k3, ts, k5⟩ := Tk_ck c3 hj
    refine ⟨?_, Inv_ro h k1 k2 k3 rk rl⟩
    have e := sl_e h k5 c1
    rw [e, fstI_same ts, othI_same ts, samF_same ts] at q
    rcases q with ⟨q1, rfl⟩ | ⟨q1, q2, rfl⟩ | ⟨q1, q2, q3⟩
    · exact absurd c1 q1
    · omega
    · rw [c4, q3, c3.2.2.1]
