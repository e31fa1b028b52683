theorem t53_X11_divide_0 {E : En} {d : Nat} {κ : Kp} {I L : MI} {Z : Zt} {a0 : Nat} {a1 a2 : Int}  (k : Ev E d M_X11_divide 1 [vr a0, vi a1, vi a2] [vi a2] κ I L Z) : Ev E d M_X11_divide 0 [vr a0, vi a1, vi a2] [] κ I L Z := E_iload_n dX11_divide_0 rfl k
theorem t53_X11_divide_1 {E : En} {d : Nat} {κ : Kp} {I L : MI} {Z : Zt} {a0 : Nat} {a1 a2 b0 : Int} (hx : Ir b0) (kt : b0 ≤ 0 → Ev E d M_X11_divide 40 [vr a0, vi a1, vi a2] [] κ I L Z) (kf : 0 < b0 → Ev E d M_X11_divide 4 [vr a0, vi a1, vi a2] [] κ I L Z) : Ev E d M_X11_divide 1 [vr a0, vi a1, vi a2] [vi b0] κ I L Z := E_if_le dX11_divide_1 hx kt kf (by decide)
theorem t53_X11_divide_40 {E : En} {d : Nat} {g : Geo} {I L : MI} {Q : Option AV → Geo → MI → MI → Prop} {cs : Nat × Nat} {a0 : Nat} {a1 a2 : Int} (hq : Q none g I L) (h1 : cs.1 ≤ M_X11_divide.2.2.2.2.1 := by decide) (h2 : cs.2 ≤ M_X11_divide.2.2.2.2.2 := by decide) : Ev E d M_X11_divide 40 [vr a0, vi a1, vi a2] [] (g, cs) I L (ZQ E M_X11_divide Q) := E_return rfl dX11_divide_40 hq h1 h2
theorem t53_X11_divide_4 {E : En} {d : Nat} {κ : Kp} {I L : MI} {Z : Zt} {a0 : Nat} {a1 a2 : Int}  (k : Ev E d M_X11_divide 5 [vr a0, vi a1, vi a2] [vr a0] κ I L Z) : Ev E d M_X11_divide 4 [vr a0, vi a1, vi a2] [] κ I L Z := E_aload_n dX11_divide_4 rfl k
theorem t53_X11_divide_5 {E : En} {d : Nat} {κ : Kp} {I L : MI} {Z : Zt} {a0 b0 : Nat} {a1 a2 : Int} (hs : κ.1.1[b0]? = some (.inl 11)) (k : Jr (L b0 20) → Ev E d M_X11_divide 8 [vr a0, vi a1, vi a2] [vl (L b0 20)] κ I L Z) : Ev E d M_X11_divide 5 [vr a0, vi a1, vi a2] [vr b0] κ I L Z := E_getL (ci := 11) (n := 20) dX11_divide_5 wF_RX11_219 (by decide) hs rfl k
theorem t53_X11_divide_8 {E : En} {d : Nat} {κ : Kp} {I L : MI} {Z : Zt} {a0 : Nat} {a1 a2 b0 : Int}  (k : Ev E d M_X11_divide 9 [vr a0, vi a1, vi a2] [vi a2, vl b0] κ I L Z) : Ev E d M_X11_divide 8 [vr a0, vi a1, vi a2] [vl b0] κ I L Z := E_iload_n dX11_divide_8 rfl k
theorem t53_X11_divide_9 {E : En} {d : Nat} {κ : Kp} {I L : MI} {Z : Zt} {a0 : Nat} {a1 a2 b0 b1 : Int} (hx : Ir b0) (k : Ev E d M_X11_divide 10 [vr a0, vi a1, vi a2] [vl b0, vl b1] κ I L Z) : Ev E d M_X11_divide 9 [vr a0, vi a1, vi a2] [vi b0, vl b1] κ I L Z := E_i2l dX11_divide_9 hx k
theorem t53_X11_divide_10 {E : En} {d : Nat} {κ : Kp} {I L : MI} {Z : Zt} {a0 : Nat} {a1 a2 b0 b1 : Int} (hx : Jr b1) (hy : Jr b0) (h0 : b0 ≠ 0) (hm : b0 ≠ -1) (k : Ev E d M_X11_divide 11 [vr a0, vi a1, vi a2] [vl (b1.tmod b0)] κ I L Z) : Ev E d M_X11_divide 10 [vr a0, vi a1, vi a2] [vl b0, vl b1] κ I L Z := E_lrem dX11_divide_10 hx hy h0 hm k
theorem t53_X11_divide_11 {E : En} {d : Nat} {κ : Kp} {I L : MI} {Z : Zt} {a0 : Nat} {a1 a2 b0 : Int}  (k : Ev E d M_X11_divide 12 [vr a0, vi a1, vi a2] [vl 0, vl b0] κ I L Z) : Ev E d M_X11_divide 11 [vr a0, vi a1, vi a2] [vl b0] κ I L Z := E_lconst (v := 0) dX11_divide_11 rfl k
theorem t53_X11_divide_12 {E : En} {d : Nat} {κ : Kp} {I L : MI} {Z : Zt} {a0 : Nat} {a1 a2 b0 b1 : Int} (hx : Jr b1) (hy : Jr b0) (kt : ¬ b1 = b0 → Ev E d M_X11_divide 40 [vr a0, vi a1, vi a2] [] κ I L Z) (kf : b1 = b0 → Ev E d M_X11_divide 16 [vr a0, vi a1, vi a2] [] κ I L Z) : Ev E d M_X11_divide 12 [vr a0, vi a1, vi a2] [vl b0, vl b1] κ I L Z := E_lcmp_ne dX11_divide_12 dX11_divide_13 hx hy kt kf (by decide)
theorem t53_X11_divide_16 {E : En} {d : Nat} {κ : Kp} {I L : MI} {Z : Zt} {a0 : Nat} {a1 a2 : Int}  (k : Ev E d M_X11_divide 17 [vr a0, vi a1, vi a2] [vr a0] κ I L Z) : Ev E d M_X11_divide 16 [vr a0, vi a1, vi a2] [] κ I L Z := E_aload_n dX11_divide_16 rfl k
theorem t53_X11_divide_17 {E : En} {d : Nat} {κ : Kp} {I L : MI} {Z : Zt} {a0 b0 : Nat} {a1 a2 : Int}  (k : Ev E d M_X11_divide 18 [vr a0, vi a1, vi a2] [vr b0, vr b0] κ I L Z) : Ev E d M_X11_divide 17 [vr a0, vi a1, vi a2] [vr b0] κ I L Z := E_dup dX11_divide_17 rfl k
theorem t53_X11_divide_18 {E : En} {d : Nat} {κ : Kp} {I L : MI} {Z : Zt} {a0 b0 b1 : Nat} {a1 a2 : Int} (hs : κ.1.1[b0]? = some (.inl 11)) (k : Jr (L b0 20) → Ev E d M_X11_divide 21 [vr a0, vi a1, vi a2] [vl (L b0 20), vr b1] κ I L Z) : Ev E d M_X11_divide 18 [vr a0, vi a1, vi a2] [vr b0, vr b1] κ I L Z := E_getL (ci := 11) (n := 20) dX11_divide_18 wF_RX11_219 (by decide) hs rfl k
theorem t53_X11_divide_21 {E : En} {d : Nat} {κ : Kp} {I L : MI} {Z : Zt} {a0 b1 : Nat} {a1 a2 b0 : Int}  (k : Ev E d M_X11_divide 22 [vr a0, vi a1, vi a2] [vi a2, vl b0, vr b1] κ I L Z) : Ev E d M_X11_divide 21 [vr a0, vi a1, vi a2] [vl b0, vr b1] κ I L Z := E_iload_n dX11_divide_21 rfl k
theorem t53_X11_divide_22 {E : En} {d : Nat} {κ : Kp} {I L : MI} {Z : Zt} {a0 b2 : Nat} {a1 a2 b0 b1 : Int} (hx : Ir b0) (k : Ev E d M_X11_divide 23 [vr a0, vi a1, vi a2] [vl b0, vl b1, vr b2] κ I L Z) : Ev E d M_X11_divide 22 [vr a0, vi a1, vi a2] [vi b0, vl b1, vr b2] κ I L Z := E_i2l dX11_divide_22 hx k
theorem t53_X11_divide_23 {E : En} {d : Nat} {κ : Kp} {I L : MI} {Z : Zt} {a0 b2 : Nat} {a1 a2 b0 b1 : Int} (hx : Jr b1) (hy : Jr b0) (h0 : b0 ≠ 0) (hm : b0 ≠ -1) (k : Ev E d M_X11_divide 24 [vr a0, vi a1, vi a2] [vl (b1.tdiv b0), vr b2] κ I L Z) : Ev E d M_X11_divide 23 [vr a0, vi a1, vi a2] [vl b0, vl b1, vr b2] κ I L Z := E_ldiv dX11_divide_23 hx hy h0 hm k
theorem t53_X11_divide_24 {E : En} {d : Nat} {κ : Kp} {I L : MI} {Z : Zt} {a0 b1 : Nat} {a1 a2 b0 : Int} (hs : κ.1.1[b1]? = some (.inl 11)) (hz : Jr b0) (k : Ev E d M_X11_divide 27 [vr a0, vi a1, vi a2] [] κ I (up2 L b1 20 b0) Z) : Ev E d M_X11_divide 24 [vr a0, vi a1, vi a2] [vl b0, vr b1] κ I L Z := E_putL (ci := 11) (n := 20) dX11_divide_24 wF_RX11_219 (by decide) hs rfl rfl hz k
theorem t53_X11_divide_27 {E : En} {d : Nat} {κ : Kp} {I L : MI} {Z : Zt} {a0 : Nat} {a1 a2 : Int}  (k : Ev E d M_X11_divide 28 [vr a0, vi a1, vi a2] [vr a0] κ I L Z) : Ev E d M_X11_divide 27 [vr a0, vi a1, vi a2] [] κ I L Z := E_aload_n dX11_divide_27 rfl k
theorem t53_X11_divide_28 {E : En} {d : Nat} {κ : Kp} {I L : MI} {Z : Zt} {a0 b0 : Nat} {a1 a2 : Int} {q : Nat} (hs : κ.1.1[b0]? = some (.inl 11)) (hq : κ.1.2 b0 19 = some q) (k : Ev E d M_X11_divide 31 [vr a0, vi a1, vi a2] [vr q] κ I L Z) : Ev E d M_X11_divide 28 [vr a0, vi a1, vi a2] [vr b0] κ I L Z := E_getR (ci := 11) (n := 19) dX11_divide_28 wF_RX11_32 (by decide) hs rfl hq k
theorem t53_X11_divide_31 {E : En} {d : Nat} {κ : Kp} {I L : MI} {Z : Zt} {a0 b0 : Nat} {a1 a2 : Int}  (k : Ev E d M_X11_divide 32 [vr a0, vi a1, vi a2] [vi a1, vr b0] κ I L Z) : Ev E d M_X11_divide 31 [vr a0, vi a1, vi a2] [vr b0] κ I L Z := E_iload_n dX11_divide_31 rfl k
theorem t53_X11_divide_32 {E : En} {d : Nat} {κ : Kp} {I L : MI} {Z : Zt} {a0 b1 : Nat} {a1 a2 b0 : Int}  (k : Ev E d M_X11_divide 33 [vr a0, vi a1, vi a2] [vi b0, vr b1, vi b0, vr b1] κ I L Z) : Ev E d M_X11_divide 32 [vr a0, vi a1, vi a2] [vi b0, vr b1] κ I L Z := E_dup2 dX11_divide_32 rfl rfl k
theorem t53_X11_divide_33 {E : En} {d : Nat} {κ : Kp} {I L : MI} {Z : Zt} {a0 b1 b3 : Nat} {a1 a2 b0 b2 : Int} {n : Nat} (hs : κ.1.1[b1]? = some (.inr (0, n))) (h0 : 0 ≤ b0) (h1 : b0 < n) (hi : Ir b0) (k : Ir (I b1 b0) → Ev E d M_X11_divide 34 [vr a0, vi a1, vi a2] [vi (I b1 b0), vi b2, vr b3] κ I L Z) : Ev E d M_X11_divide 33 [vr a0, vi a1, vi a2] [vi b0, vr b1, vi b2, vr b3] κ I L Z := E_ialdI dX11_divide_33 hs h0 h1 hi k
theorem t53_X11_divide_34 {E : En} {d : Nat} {κ : Kp} {I L : MI} {Z : Zt} {a0 b2 : Nat} {a1 a2 b0 b1 : Int}  (k : Ev E d M_X11_divide 35 [vr a0, vi a1, vi a2] [vi 1, vi b0, vi b1, vr b2] κ I L Z) : Ev E d M_X11_divide 34 [vr a0, vi a1, vi a2] [vi b0, vi b1, vr b2] κ I L Z := E_iconst (v := 1) dX11_divide_34 rfl k
theorem t53_X11_divide_35 {E : En} {d : Nat} {κ : Kp} {I L : MI} {Z : Zt} {a0 b3 : Nat} {a1 a2 b0 b1 b2 : Int}  (k : Ev E d M_X11_divide 36 [vr a0, vi a1, vi a2] [vi (b1 + b0), vi b2, vr b3] κ I L Z) : Ev E d M_X11_divide 35 [vr a0, vi a1, vi a2] [vi b0, vi b1, vi b2, vr b3] κ I L Z := E_iadd dX11_divide_35 k
theorem t53_X11_divide_36 {E : En} {d : Nat} {κ : Kp} {I L : MI} {Z : Zt} {a0 b2 : Nat} {a1 a2 b0 b1 : Int} {n : Nat} (ha : κ.1.1[b2]? = some (.inr (0, n))) (h0 : 0 ≤ b1) (h1 : b1 < n) (hi : Ir b1) (hz : Ir b0) (k : Ev E d M_X11_divide 37 [vr a0, vi a1, vi a2] [] κ (up2 I b2 b1 b0) L Z) : Ev E d M_X11_divide 36 [vr a0, vi a1, vi a2] [vi b0, vi b1, vr b2] κ I L Z := E_iast dX11_divide_36 ha h0 h1 hi hz k
theorem t53_X11_divide_37 {E : En} {d : Nat} {κ : Kp} {I L : MI} {Z : Zt} {a0 : Nat} {a1 a2 : Int}  (k : Ev E d M_X11_divide 0 [vr a0, vi a1, vi a2] [] κ I L Z) : Ev E d M_X11_divide 37 [vr a0, vi a1, vi a2] [] κ I L Z := E_goto dX11_divide_37 (by decide) k
/-! THE REFERENCE: a saying taken apart -/
theorem pow2_s (f : Nat) : (2 : Int) ^ (f + 1) = 2 * 2 ^ f := by rw [Int.pow_succ]; omega
theorem tdiv_half {r b : Int} {f : Nat} (hr : 1 ≤ r) (hb : 2 ≤ b) (hm : r.tmod b = 0) (h : r < 2 ^ (f + 1)) : 1 ≤ r.tdiv b ∧ r.tdiv b < 2 ^ f ∧ r.tdiv b ≤ r := by
  have h5 : r.tdiv b * b = r := Int.tdiv_mul_cancel (Int.dvd_of_tmod_eq_zero hm)
  have h0 := tdiv_b (r := r) (b := b) (by omega) (by omega)
  have h1 : 1 ≤ r.tdiv b := by
    apply Classical.byContradiction
    intro q
    have : r.tdiv b = 0 := by omega
    rw [this, Int.zero_mul] at h5
    omega
  have h2 : r.tdiv b * 2 ≤ r.tdiv b * b := Int.mul_le_mul_of_nonneg_left hb (by omega)
  rw [pow2_s] at h
  generalize (2 : Int) ^ f = P at *
  omega
theorem c_X11_divide {E : En} {I L : MI} {t b : Int} (ht : 0 ≤ t ∧ t < 12) (hb : b = 0 ∨ (2 ≤ b ∧ b ≤ 199)) (hr : 1 ≤ L 78 20 ∧ L 78 20 ≤ 1000000000000000) (hs : 0 ≤ I 86 t ∧ I 86 t ≤ 10000) : CFv E 1 M_X11_divide [vr 78, vi t, vi b] I L (up2 I 86 t (I 86 t + (tko b (L 78 20)).2)) (up2 L 78 20 (tko b (L 78 20)).1) := by
  have g86 : G0.1[86]? = some (.inr (0, 12)) := rfl
  refine CM_of' (al := [vr _, vi _, vi _]) rfl (Nat.le_of_ble_eq_true rfl) rfl (fun hM => ?_)
  have key : ∀ (f : Nat) (r c : Int), r < 2 ^ f → 1 ≤ r → r ≤ 1000000000000000 → 0 ≤ c → c + f ≤ 64 → tkN b f r c = tko b (L 78 20) → Ev E 1 M_X11_divide 0 [vr 78, vi t, vi b] [] (G0, 0, 0) (up2 I 86 t (I 86 t + c)) (up2 L 78 20 r) (ZQ E M_X11_divide (QFv (up2 I 86 t (I 86 t + (tko b (L 78 20)).2)) (up2 L 78 20 (tko b (L 78 20)).1))) := by
    intro f
    induction f with
    | zero =>
      intro r c h1 h2
      have : (2 : Int) ^ 0 = 1 := rfl
      omega
    | succ f ih =>
      intro r c h1 h2 h3 h4 h5 hk
      have e1 : up2 L 78 20 r 78 20 = r := up2_eq _ _ _ _
      have e2 : up2 I 86 t (I 86 t + c) 86 t = I 86 t + c := up2_eq _ _ _ _
      refine (t53_X11_divide_0 (t53_X11_divide_1 (by omega) (fun c1 => (t53_X11_divide_40 ?_)) (fun c1 => ?_)))
      -- 2 leaves: 1t :ret40 | 1f :->4
      · have e : tkN b (f + 1) r c = (r, c) := by unfold tkN; rw [if_neg (fun q => by omega)]
        rw [← hk, e]
        exact qfv rfl rfl
      · have hb2 : 2 ≤ b := by omega
        have hmm : 0 ≤ (up2 L 78 20 r 78 20).tmod b ∧ (up2 L 78 20 r 78 20).tmod b < b := by rw [e1]; exact tmod_r (by omega) (by omega)
        refine (t53_X11_divide_4 (t53_X11_divide_5 (by first | assumption | rfl) (fun r5 => (t53_X11_divide_8 (t53_X11_divide_9 (by omega) (t53_X11_divide_10 (by omega) (by omega) (by omega) (by omega) (t53_X11_divide_11 (t53_X11_divide_12 (by omega) (by omega) (fun c12 => (t53_X11_divide_40 ?_)) (fun c12 => ?_)))))))))
        -- 2 leaves: 12t :ret40 | 12f :->16
        · rw [e1] at c12
          have e : tkN b (f + 1) r c = (r, c) := by unfold tkN; rw [if_neg (fun q => c12 q.2)]
          rw [← hk, e]
          exact qfv rfl rfl
        · rw [e1] at c12
          have hh := tdiv_half (f := f) (by omega) hb2 c12 h1
          have e : tkN b (f + 1) r c = tkN b f (r.tdiv b) (c + 1) := by
            conv => lhs; unfold tkN
            rw [if_pos ⟨by omega, c12⟩]
          rw [e] at hk
          have hd : (up2 L 78 20 r 78 20).tdiv b = r.tdiv b := by rw [e1]
          refine (t53_X11_divide_16 (t53_X11_divide_17 (t53_X11_divide_18 (by first | assumption | rfl) (fun r18 => (t53_X11_divide_21 (t53_X11_divide_22 (by omega) (t53_X11_divide_23 (by omega) (by omega) (by omega) (by omega) (t53_X11_divide_24 (by first | assumption | rfl) (by omega) (t53_X11_divide_27 (t53_X11_divide_28 (by first | assumption | rfl) (by first | assumption | rfl) (t53_X11_divide_31 (t53_X11_divide_32 (t53_X11_divide_33 (by first | assumption | rfl) (by omega) (by omega) (by omega) (fun r33 => (t53_X11_divide_34 (t53_X11_divide_35 (t53_X11_divide_36 (by first | assumption | rfl) (by omega) (by omega) (by omega) (by omega) (t53_X11_divide_37 ?_))))))))))))))))))
          -- 1 leaves: :->0
          rw [e1, e2, up2_up, up2_up]
          have h := ih (r.tdiv b) (c + 1) hh.2.1 hh.1 (by omega) (by omega) (by omega) hk
          rw [show I 86 t + (c + 1) = I 86 t + c + 1 by omega] at h
          exact h
  have h := key 64 (L 78 20) 0 (by rw [show (2 : Int) ^ 64 = 18446744073709551616 by decide]; omega) hr.1 hr.2 (by omega) (by omega) rfl
  rw [Int.add_zero, up2_id rfl, up2_id rfl] at h
  exact h
