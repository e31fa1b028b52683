theorem t19_X1_madeAt_0 {E : En} {d : Nat} {κ : Kp} {I L : MI} {Z : Zt} {a0 : Nat} {a1 a2 : Int}  (k : Ev E d M_X1_madeAt 1 [vr a0, vi a1, vi a2, vu] [vi a1] κ I L Z) : Ev E d M_X1_madeAt 0 [vr a0, vi a1, vi a2, vu] [] κ I L Z := E_iload_n dX1_madeAt_0 rfl k
theorem t19_X1_madeAt_1 {E : En} {d : Nat} {κ : Kp} {I L : MI} {Z : Zt} {a0 : Nat} {a1 a2 b0 : Int}  (k : Ev E d M_X1_madeAt 2 [vr a0, vi a1, vi a2, vu] [vi 4, vi b0] κ I L Z) : Ev E d M_X1_madeAt 1 [vr a0, vi a1, vi a2, vu] [vi b0] κ I L Z := E_iconst (v := 4) dX1_madeAt_1 rfl k
theorem t19_X1_madeAt_2 {E : En} {d : Nat} {κ : Kp} {I L : MI} {Z : Zt} {a0 : Nat} {a1 a2 b0 b1 : Int}  (k : Ev E d M_X1_madeAt 3 [vr a0, vi a1, vi a2, vu] [vi (b1 * b0)] κ I L Z) : Ev E d M_X1_madeAt 2 [vr a0, vi a1, vi a2, vu] [vi b0, vi b1] κ I L Z := E_imul dX1_madeAt_2 k
theorem t19_X1_madeAt_3 {E : En} {d : Nat} {κ : Kp} {I L : MI} {Z : Zt} {a0 : Nat} {a1 a2 b0 : Int}  (k : Ev E d M_X1_madeAt 4 [vr a0, vi a1, vi a2, vu] [vi a2, vi b0] κ I L Z) : Ev E d M_X1_madeAt 3 [vr a0, vi a1, vi a2, vu] [vi b0] κ I L Z := E_iload_n dX1_madeAt_3 rfl k
theorem t19_X1_madeAt_4 {E : En} {d : Nat} {κ : Kp} {I L : MI} {Z : Zt} {a0 : Nat} {a1 a2 b0 b1 : Int}  (k : Ev E d M_X1_madeAt 5 [vr a0, vi a1, vi a2, vu] [vi (b1 + b0)] κ I L Z) : Ev E d M_X1_madeAt 4 [vr a0, vi a1, vi a2, vu] [vi b0, vi b1] κ I L Z := E_iadd dX1_madeAt_4 k
theorem t19_X1_madeAt_5 {E : En} {d : Nat} {κ : Kp} {I L : MI} {Z : Zt} {a0 : Nat} {a1 a2 b0 : Int}  (k : Ev E d M_X1_madeAt 6 [vr a0, vi a1, vi a2, vi b0] [] κ I L Z) : Ev E d M_X1_madeAt 5 [vr a0, vi a1, vi a2, vu] [vi b0] κ I L Z := E_istore_n dX1_madeAt_5 rfl (Nat.le_of_ble_eq_true rfl) k
theorem t19_X1_madeAt_6 {E : En} {d : Nat} {κ : Kp} {I L : MI} {Z : Zt} {a0 : Nat} {a1 a2 a3 : Int}  (k : Ev E d M_X1_madeAt 7 [vr a0, vi a1, vi a2, vi a3] [vi a3] κ I L Z) : Ev E d M_X1_madeAt 6 [vr a0, vi a1, vi a2, vi a3] [] κ I L Z := E_iload_n dX1_madeAt_6 rfl k
theorem t19_X1_madeAt_7 {E : En} {d : Nat} {κ : Kp} {I L : MI} {Z : Zt} {a0 : Nat} {a1 a2 a3 b0 : Int} (hx : Ir b0) (kt : b0 < 0 → Ev E d M_X1_madeAt 28 [vr a0, vi a1, vi a2, vi a3] [] κ I L Z) (kf : 0 ≤ b0 → Ev E d M_X1_madeAt 10 [vr a0, vi a1, vi a2, vi a3] [] κ I L Z) : Ev E d M_X1_madeAt 7 [vr a0, vi a1, vi a2, vi a3] [vi b0] κ I L Z := E_if_lt dX1_madeAt_7 hx kt kf (by decide)
theorem t19_X1_madeAt_28 {E : En} {d : Nat} {κ : Kp} {I L : MI} {Z : Zt} {a0 : Nat} {a1 a2 a3 : Int}  (k : Ev E d M_X1_madeAt 29 [vr a0, vi a1, vi a2, vi a3] [vl 0] κ I L Z) : Ev E d M_X1_madeAt 28 [vr a0, vi a1, vi a2, vi a3] [] κ I L Z := E_lconst (v := 0) dX1_madeAt_28 rfl k
theorem t19_X1_madeAt_29 {E : En} {d : Nat} {g : Geo} {I L : MI} {Q : Option AV → Geo → MI → MI → Prop} {cs : Nat × Nat} {a0 : Nat} {a1 a2 a3 b0 : Int} (hq : Q (some (vl b0)) g I L) (h1 : cs.1 ≤ M_X1_madeAt.2.2.2.2.1 := by decide) (h2 : cs.2 ≤ M_X1_madeAt.2.2.2.2.2 := by decide) : Ev E d M_X1_madeAt 29 [vr a0, vi a1, vi a2, vi a3] [vl b0] (g, cs) I L (ZQ E M_X1_madeAt Q) := E_lreturn rfl dX1_madeAt_29 hq h1 h2
theorem t19_X1_madeAt_10 {E : En} {d : Nat} {κ : Kp} {I L : MI} {Z : Zt} {a0 : Nat} {a1 a2 a3 : Int}  (k : Ev E d M_X1_madeAt 11 [vr a0, vi a1, vi a2, vi a3] [vi a3] κ I L Z) : Ev E d M_X1_madeAt 10 [vr a0, vi a1, vi a2, vi a3] [] κ I L Z := E_iload_n dX1_madeAt_10 rfl k
theorem t19_X1_madeAt_11 {E : En} {d : Nat} {κ : Kp} {I L : MI} {Z : Zt} {a0 : Nat} {a1 a2 a3 b0 : Int}  (k : Ev E d M_X1_madeAt 12 [vr a0, vi a1, vi a2, vi a3] [vr a0, vi b0] κ I L Z) : Ev E d M_X1_madeAt 11 [vr a0, vi a1, vi a2, vi a3] [vi b0] κ I L Z := E_aload_n dX1_madeAt_11 rfl k
theorem t19_X1_madeAt_12 {E : En} {d : Nat} {κ : Kp} {I L : MI} {Z : Zt} {a0 b0 : Nat} {a1 a2 a3 b1 : Int} {q : Nat} (hs : κ.1.1[b0]? = some (.inl 1)) (hq : κ.1.2 b0 2 = some q) (k : Ev E d M_X1_madeAt 15 [vr a0, vi a1, vi a2, vi a3] [vr q, vi b1] κ I L Z) : Ev E d M_X1_madeAt 12 [vr a0, vi a1, vi a2, vi a3] [vr b0, vi b1] κ I L Z := E_getR (ci := 1) (n := 2) dX1_madeAt_12 wF_RX1_18 (by decide) hs rfl hq k
theorem t19_X1_madeAt_15 {E : En} {d : Nat} {κ : Kp} {I L : MI} {Z : Zt} {a0 b0 : Nat} {a1 a2 a3 b1 : Int} {n kd : Nat} {z : Int} (ha : arr E κ.1 b0 = some (kd, n)) (hk : kd < 6) (hz : (n : Int) = z) (k : Ev E d M_X1_madeAt 16 [vr a0, vi a1, vi a2, vi a3] [vi z, vi b1] κ I L Z) : Ev E d M_X1_madeAt 15 [vr a0, vi a1, vi a2, vi a3] [vr b0, vi b1] κ I L Z := E_alen dX1_madeAt_15 ha hk hz k
theorem t19_X1_madeAt_16 {E : En} {d : Nat} {κ : Kp} {I L : MI} {Z : Zt} {a0 : Nat} {a1 a2 a3 b0 b1 : Int} (hx : Ir b1) (hy : Ir b0) (kt : b0 ≤ b1 → Ev E d M_X1_madeAt 28 [vr a0, vi a1, vi a2, vi a3] [] κ I L Z) (kf : b1 < b0 → Ev E d M_X1_madeAt 19 [vr a0, vi a1, vi a2, vi a3] [] κ I L Z) : Ev E d M_X1_madeAt 16 [vr a0, vi a1, vi a2, vi a3] [vi b0, vi b1] κ I L Z := E_icmp_ge dX1_madeAt_16 hx hy kt kf (by decide)
theorem t19_X1_madeAt_19 {E : En} {d : Nat} {κ : Kp} {I L : MI} {Z : Zt} {a0 : Nat} {a1 a2 a3 : Int}  (k : Ev E d M_X1_madeAt 20 [vr a0, vi a1, vi a2, vi a3] [vr a0] κ I L Z) : Ev E d M_X1_madeAt 19 [vr a0, vi a1, vi a2, vi a3] [] κ I L Z := E_aload_n dX1_madeAt_19 rfl k
theorem t19_X1_madeAt_20 {E : En} {d : Nat} {κ : Kp} {I L : MI} {Z : Zt} {a0 b0 : Nat} {a1 a2 a3 : Int} {q : Nat} (hs : κ.1.1[b0]? = some (.inl 1)) (hq : κ.1.2 b0 2 = some q) (k : Ev E d M_X1_madeAt 23 [vr a0, vi a1, vi a2, vi a3] [vr q] κ I L Z) : Ev E d M_X1_madeAt 20 [vr a0, vi a1, vi a2, vi a3] [vr b0] κ I L Z := E_getR (ci := 1) (n := 2) dX1_madeAt_20 wF_RX1_18 (by decide) hs rfl hq k
theorem t19_X1_madeAt_23 {E : En} {d : Nat} {κ : Kp} {I L : MI} {Z : Zt} {a0 b0 : Nat} {a1 a2 a3 : Int}  (k : Ev E d M_X1_madeAt 24 [vr a0, vi a1, vi a2, vi a3] [vi a3, vr b0] κ I L Z) : Ev E d M_X1_madeAt 23 [vr a0, vi a1, vi a2, vi a3] [vr b0] κ I L Z := E_iload_n dX1_madeAt_23 rfl k
theorem t19_X1_madeAt_24 {E : En} {d : Nat} {κ : Kp} {I L : MI} {Z : Zt} {a0 b1 : Nat} {a1 a2 a3 b0 : Int} {n : Nat} (hs : κ.1.1[b1]? = some (.inr (3, n))) (h0 : 0 ≤ b0) (h1 : b0 < n) (hi : Ir b0) (k : Jr (L b1 b0) → Ev E d M_X1_madeAt 25 [vr a0, vi a1, vi a2, vi a3] [vl (L b1 b0)] κ I L Z) : Ev E d M_X1_madeAt 24 [vr a0, vi a1, vi a2, vi a3] [vi b0, vr b1] κ I L Z := E_laldI dX1_madeAt_24 hs h0 h1 hi k
theorem t19_X1_madeAt_25 {E : En} {d : Nat} {κ : Kp} {I L : MI} {Z : Zt} {a0 : Nat} {a1 a2 a3 b0 : Int}  (k : Ev E d M_X1_madeAt 29 [vr a0, vi a1, vi a2, vi a3] [vl b0] κ I L Z) : Ev E d M_X1_madeAt 25 [vr a0, vi a1, vi a2, vi a3] [vl b0] κ I L Z := E_goto dX1_madeAt_25 (by decide) k
theorem t19_X1_keepMade_0 {E : En} {d : Nat} {κ : Kp} {I L : MI} {Z : Zt} {a0 : Nat} {a1 a2 a3 : Int}  (k : Ev E d M_X1_keepMade 1 [vr a0, vi a1, vi a2, vl a3, vu, vu] [vi a1] κ I L Z) : Ev E d M_X1_keepMade 0 [vr a0, vi a1, vi a2, vl a3, vu, vu] [] κ I L Z := E_iload_n dX1_keepMade_0 rfl k
theorem t19_X1_keepMade_1 {E : En} {d : Nat} {κ : Kp} {I L : MI} {Z : Zt} {a0 : Nat} {a1 a2 a3 b0 : Int}  (k : Ev E d M_X1_keepMade 2 [vr a0, vi a1, vi a2, vl a3, vu, vu] [vi 4, vi b0] κ I L Z) : Ev E d M_X1_keepMade 1 [vr a0, vi a1, vi a2, vl a3, vu, vu] [vi b0] κ I L Z := E_iconst (v := 4) dX1_keepMade_1 rfl k
theorem t19_X1_keepMade_2 {E : En} {d : Nat} {κ : Kp} {I L : MI} {Z : Zt} {a0 : Nat} {a1 a2 a3 b0 b1 : Int}  (k : Ev E d M_X1_keepMade 3 [vr a0, vi a1, vi a2, vl a3, vu, vu] [vi (b1 * b0)] κ I L Z) : Ev E d M_X1_keepMade 2 [vr a0, vi a1, vi a2, vl a3, vu, vu] [vi b0, vi b1] κ I L Z := E_imul dX1_keepMade_2 k
theorem t19_X1_keepMade_3 {E : En} {d : Nat} {κ : Kp} {I L : MI} {Z : Zt} {a0 : Nat} {a1 a2 a3 b0 : Int}  (k : Ev E d M_X1_keepMade 4 [vr a0, vi a1, vi a2, vl a3, vu, vu] [vi a2, vi b0] κ I L Z) : Ev E d M_X1_keepMade 3 [vr a0, vi a1, vi a2, vl a3, vu, vu] [vi b0] κ I L Z := E_iload_n dX1_keepMade_3 rfl k
theorem t19_X1_keepMade_4 {E : En} {d : Nat} {κ : Kp} {I L : MI} {Z : Zt} {a0 : Nat} {a1 a2 a3 b0 b1 : Int}  (k : Ev E d M_X1_keepMade 5 [vr a0, vi a1, vi a2, vl a3, vu, vu] [vi (b1 + b0)] κ I L Z) : Ev E d M_X1_keepMade 4 [vr a0, vi a1, vi a2, vl a3, vu, vu] [vi b0, vi b1] κ I L Z := E_iadd dX1_keepMade_4 k
theorem t19_X1_keepMade_5 {E : En} {d : Nat} {κ : Kp} {I L : MI} {Z : Zt} {a0 : Nat} {a1 a2 a3 b0 : Int}  (k : Ev E d M_X1_keepMade 7 [vr a0, vi a1, vi a2, vl a3, vu, vi b0] [] κ I L Z) : Ev E d M_X1_keepMade 5 [vr a0, vi a1, vi a2, vl a3, vu, vu] [vi b0] κ I L Z := E_istore dX1_keepMade_5 rfl (Nat.le_of_ble_eq_true rfl) k
theorem t19_X1_keepMade_7 {E : En} {d : Nat} {κ : Kp} {I L : MI} {Z : Zt} {a0 : Nat} {a1 a2 a3 a5 : Int}  (k : Ev E d M_X1_keepMade 9 [vr a0, vi a1, vi a2, vl a3, vu, vi a5] [vi a5] κ I L Z) : Ev E d M_X1_keepMade 7 [vr a0, vi a1, vi a2, vl a3, vu, vi a5] [] κ I L Z := E_iload dX1_keepMade_7 rfl k
theorem t19_X1_keepMade_9 {E : En} {d : Nat} {κ : Kp} {I L : MI} {Z : Zt} {a0 : Nat} {a1 a2 a3 a5 b0 : Int} (hx : Ir b0) (kt : b0 < 0 → Ev E d M_X1_keepMade 30 [vr a0, vi a1, vi a2, vl a3, vu, vi a5] [] κ I L Z) (kf : 0 ≤ b0 → Ev E d M_X1_keepMade 12 [vr a0, vi a1, vi a2, vl a3, vu, vi a5] [] κ I L Z) : Ev E d M_X1_keepMade 9 [vr a0, vi a1, vi a2, vl a3, vu, vi a5] [vi b0] κ I L Z := E_if_lt dX1_keepMade_9 hx kt kf (by decide)
theorem t19_X1_keepMade_30 {E : En} {d : Nat} {g : Geo} {I L : MI} {Q : Option AV → Geo → MI → MI → Prop} {cs : Nat × Nat} {a0 : Nat} {a1 a2 a3 a5 : Int} (hq : Q none g I L) (h1 : cs.1 ≤ M_X1_keepMade.2.2.2.2.1 := by decide) (h2 : cs.2 ≤ M_X1_keepMade.2.2.2.2.2 := by decide) : Ev E d M_X1_keepMade 30 [vr a0, vi a1, vi a2, vl a3, vu, vi a5] [] (g, cs) I L (ZQ E M_X1_keepMade Q) := E_return rfl dX1_keepMade_30 hq h1 h2
theorem t19_X1_keepMade_12 {E : En} {d : Nat} {κ : Kp} {I L : MI} {Z : Zt} {a0 : Nat} {a1 a2 a3 a5 : Int}  (k : Ev E d M_X1_keepMade 14 [vr a0, vi a1, vi a2, vl a3, vu, vi a5] [vi a5] κ I L Z) : Ev E d M_X1_keepMade 12 [vr a0, vi a1, vi a2, vl a3, vu, vi a5] [] κ I L Z := E_iload dX1_keepMade_12 rfl k
theorem t19_X1_keepMade_14 {E : En} {d : Nat} {κ : Kp} {I L : MI} {Z : Zt} {a0 : Nat} {a1 a2 a3 a5 b0 : Int}  (k : Ev E d M_X1_keepMade 15 [vr a0, vi a1, vi a2, vl a3, vu, vi a5] [vr a0, vi b0] κ I L Z) : Ev E d M_X1_keepMade 14 [vr a0, vi a1, vi a2, vl a3, vu, vi a5] [vi b0] κ I L Z := E_aload_n dX1_keepMade_14 rfl k
theorem t19_X1_keepMade_15 {E : En} {d : Nat} {κ : Kp} {I L : MI} {Z : Zt} {a0 b0 : Nat} {a1 a2 a3 a5 b1 : Int} {q : Nat} (hs : κ.1.1[b0]? = some (.inl 1)) (hq : κ.1.2 b0 2 = some q) (k : Ev E d M_X1_keepMade 18 [vr a0, vi a1, vi a2, vl a3, vu, vi a5] [vr q, vi b1] κ I L Z) : Ev E d M_X1_keepMade 15 [vr a0, vi a1, vi a2, vl a3, vu, vi a5] [vr b0, vi b1] κ I L Z := E_getR (ci := 1) (n := 2) dX1_keepMade_15 wF_RX1_18 (by decide) hs rfl hq k
theorem t19_X1_keepMade_18 {E : En} {d : Nat} {κ : Kp} {I L : MI} {Z : Zt} {a0 b0 : Nat} {a1 a2 a3 a5 b1 : Int} {n kd : Nat} {z : Int} (ha : arr E κ.1 b0 = some (kd, n)) (hk : kd < 6) (hz : (n : Int) = z) (k : Ev E d M_X1_keepMade 19 [vr a0, vi a1, vi a2, vl a3, vu, vi a5] [vi z, vi b1] κ I L Z) : Ev E d M_X1_keepMade 18 [vr a0, vi a1, vi a2, vl a3, vu, vi a5] [vr b0, vi b1] κ I L Z := E_alen dX1_keepMade_18 ha hk hz k
theorem t19_X1_keepMade_19 {E : En} {d : Nat} {κ : Kp} {I L : MI} {Z : Zt} {a0 : Nat} {a1 a2 a3 a5 b0 b1 : Int} (hx : Ir b1) (hy : Ir b0) (kt : b0 ≤ b1 → Ev E d M_X1_keepMade 30 [vr a0, vi a1, vi a2, vl a3, vu, vi a5] [] κ I L Z) (kf : b1 < b0 → Ev E d M_X1_keepMade 22 [vr a0, vi a1, vi a2, vl a3, vu, vi a5] [] κ I L Z) : Ev E d M_X1_keepMade 19 [vr a0, vi a1, vi a2, vl a3, vu, vi a5] [vi b0, vi b1] κ I L Z := E_icmp_ge dX1_keepMade_19 hx hy kt kf (by decide)
theorem t19_X1_keepMade_22 {E : En} {d : Nat} {κ : Kp} {I L : MI} {Z : Zt} {a0 : Nat} {a1 a2 a3 a5 : Int}  (k : Ev E d M_X1_keepMade 23 [vr a0, vi a1, vi a2, vl a3, vu, vi a5] [vr a0] κ I L Z) : Ev E d M_X1_keepMade 22 [vr a0, vi a1, vi a2, vl a3, vu, vi a5] [] κ I L Z := E_aload_n dX1_keepMade_22 rfl k
theorem t19_X1_keepMade_23 {E : En} {d : Nat} {κ : Kp} {I L : MI} {Z : Zt} {a0 b0 : Nat} {a1 a2 a3 a5 : Int} {q : Nat} (hs : κ.1.1[b0]? = some (.inl 1)) (hq : κ.1.2 b0 2 = some q) (k : Ev E d M_X1_keepMade 26 [vr a0, vi a1, vi a2, vl a3, vu, vi a5] [vr q] κ I L Z) : Ev E d M_X1_keepMade 23 [vr a0, vi a1, vi a2, vl a3, vu, vi a5] [vr b0] κ I L Z := E_getR (ci := 1) (n := 2) dX1_keepMade_23 wF_RX1_18 (by decide) hs rfl hq k
theorem t19_X1_keepMade_26 {E : En} {d : Nat} {κ : Kp} {I L : MI} {Z : Zt} {a0 b0 : Nat} {a1 a2 a3 a5 : Int}  (k : Ev E d M_X1_keepMade 28 [vr a0, vi a1, vi a2, vl a3, vu, vi a5] [vi a5, vr b0] κ I L Z) : Ev E d M_X1_keepMade 26 [vr a0, vi a1, vi a2, vl a3, vu, vi a5] [vr b0] κ I L Z := E_iload dX1_keepMade_26 rfl k
theorem t19_X1_keepMade_28 {E : En} {d : Nat} {κ : Kp} {I L : MI} {Z : Zt} {a0 b1 : Nat} {a1 a2 a3 a5 b0 : Int}  (k : Ev E d M_X1_keepMade 29 [vr a0, vi a1, vi a2, vl a3, vu, vi a5] [vl a3, vi b0, vr b1] κ I L Z) : Ev E d M_X1_keepMade 28 [vr a0, vi a1, vi a2, vl a3, vu, vi a5] [vi b0, vr b1] κ I L Z := E_lload_n dX1_keepMade_28 rfl k
theorem t19_X1_keepMade_29 {E : En} {d : Nat} {κ : Kp} {I L : MI} {Z : Zt} {a0 b2 : Nat} {a1 a2 a3 a5 b0 b1 : Int} {n : Nat} (ha : κ.1.1[b2]? = some (.inr (3, n))) (h0 : 0 ≤ b1) (h1 : b1 < n) (hi : Ir b1) (hz : Jr b0) (k : Ev E d M_X1_keepMade 30 [vr a0, vi a1, vi a2, vl a3, vu, vi a5] [] κ I (up2 L b2 b1 b0) Z) : Ev E d M_X1_keepMade 29 [vr a0, vi a1, vi a2, vl a3, vu, vi a5] [vl b0, vi b1, vr b2] κ I L Z := E_last dX1_keepMade_29 ha h0 h1 hi hz k
theorem t19_X1_isTold_13 {E : En} {d : Nat} {κ : Kp} {I L : MI} {Z : Zt} {a0 a1 : Nat} {a2 a3 a4 : Int}  (k : Ev E d M_X1_isTold 15 [vr a0, vr a1, vi a2, vi a3, vi a4, vu] [vi a4] κ I L Z) : Ev E d M_X1_isTold 13 [vr a0, vr a1, vi a2, vi a3, vi a4, vu] [] κ I L Z := E_iload dX1_isTold_13 rfl k
theorem t19_X1_isTold_15 {E : En} {d : Nat} {κ : Kp} {I L : MI} {Z : Zt} {a0 a1 : Nat} {a2 a3 a4 b0 : Int}  (k : Ev E d M_X1_isTold 16 [vr a0, vr a1, vi a2, vi a3, vi a4, vu] [vi a2, vi b0] κ I L Z) : Ev E d M_X1_isTold 15 [vr a0, vr a1, vi a2, vi a3, vi a4, vu] [vi b0] κ I L Z := E_iload_n dX1_isTold_15 rfl k
theorem t19_X1_isTold_16 {E : En} {d : Nat} {κ : Kp} {I L : MI} {Z : Zt} {a0 a1 : Nat} {a2 a3 a4 b0 b1 : Int}  (k : Ev E d M_X1_isTold 17 [vr a0, vr a1, vi a2, vi a3, vi a4, vu] [vi a3, vi b0, vi b1] κ I L Z) : Ev E d M_X1_isTold 16 [vr a0, vr a1, vi a2, vi a3, vi a4, vu] [vi b0, vi b1] κ I L Z := E_iload_n dX1_isTold_16 rfl k
theorem t19_X1_isTold_17 {E : En} {d : Nat} {κ : Kp} {I L : MI} {Z : Zt} {a0 a1 : Nat} {a2 a3 a4 b0 b1 b2 : Int}  (k : Ev E d M_X1_isTold 18 [vr a0, vr a1, vi a2, vi a3, vi a4, vu] [vi (b1 * b0), vi b2] κ I L Z) : Ev E d M_X1_isTold 17 [vr a0, vr a1, vi a2, vi a3, vi a4, vu] [vi b0, vi b1, vi b2] κ I L Z := E_imul dX1_isTold_17 k
theorem t19_X1_isTold_18 {E : En} {d : Nat} {κ : Kp} {I L : MI} {Z : Zt} {a0 a1 : Nat} {a2 a3 a4 b0 b1 : Int} (hx : Ir b1) (hy : Ir b0) (kt : b0 ≤ b1 → Ev E d M_X1_isTold 59 [vr a0, vr a1, vi a2, vi a3, vi a4, vu] [] κ I L Z) (kf : b1 < b0 → Ev E d M_X1_isTold 21 [vr a0, vr a1, vi a2, vi a3, vi a4, vu] [] κ I L Z) : Ev E d M_X1_isTold 18 [vr a0, vr a1, vi a2, vi a3, vi a4, vu] [vi b0, vi b1] κ I L Z := E_icmp_ge dX1_isTold_18 hx hy kt kf (by decide)
theorem t19_X1_isTold_59 {E : En} {d : Nat} {κ : Kp} {I L : MI} {Z : Zt} {a0 a1 : Nat} {a2 a3 a4 : Int}  (k : Ev E d M_X1_isTold 60 [vr a0, vr a1, vi a2, vi a3, vi a4, vu] [vi 1] κ I L Z) : Ev E d M_X1_isTold 59 [vr a0, vr a1, vi a2, vi a3, vi a4, vu] [] κ I L Z := E_iconst (v := 1) dX1_isTold_59 rfl k
theorem t19_X1_isTold_60 {E : En} {d : Nat} {g : Geo} {I L : MI} {Q : Option AV → Geo → MI → MI → Prop} {cs : Nat × Nat} {a0 a1 : Nat} {a2 a3 a4 b0 : Int} (hz : b0 = 0 ∨ b0 = 1) (hq : Q (some (vi b0)) g I L) (h1 : cs.1 ≤ M_X1_isTold.2.2.2.2.1 := by decide) (h2 : cs.2 ≤ M_X1_isTold.2.2.2.2.2 := by decide) : Ev E d M_X1_isTold 60 [vr a0, vr a1, vi a2, vi a3, vi a4, vu] [vi b0] (g, cs) I L (ZQ E M_X1_isTold Q) := E_zreturn rfl hz dX1_isTold_60 hq h1 h2
theorem t19_X1_isTold_21 {E : En} {d : Nat} {κ : Kp} {I L : MI} {Z : Zt} {a0 a1 : Nat} {a2 a3 a4 : Int}  (k : Ev E d M_X1_isTold 22 [vr a0, vr a1, vi a2, vi a3, vi a4, vu] [vr a1] κ I L Z) : Ev E d M_X1_isTold 21 [vr a0, vr a1, vi a2, vi a3, vi a4, vu] [] κ I L Z := E_aload_n dX1_isTold_21 rfl k
theorem t19_X1_isTold_22 {E : En} {d : Nat} {κ : Kp} {I L : MI} {Z : Zt} {a0 a1 b0 : Nat} {a2 a3 a4 : Int}  (k : Ev E d M_X1_isTold 24 [vr a0, vr a1, vi a2, vi a3, vi a4, vu] [vi a4, vr b0] κ I L Z) : Ev E d M_X1_isTold 22 [vr a0, vr a1, vi a2, vi a3, vi a4, vu] [vr b0] κ I L Z := E_iload dX1_isTold_22 rfl k
theorem t19_X1_isTold_24 {E : En} {d d' : Nat} {cs : Nat × Nat} {I L : MI} {Z : Zt} {a0 a1 b1 : Nat} {a2 a3 a4 b0 : Int} {z : Int} {I' L' : MI} (hs : G0.1[b1]? = some (.inl 6)) (hM : CFi E d' M_X6_item [vr b1, vi b0] I L z I' L') (hlt : d' + 1 ≤ d) (k : Ir z → Ev E d M_X1_isTold 27 [vr a0, vr a1, vi a2, vi a3, vi a4, vu] [vi z] (G0, cs) I' L' Z) (hc1 : cs.1 ≤ M_X1_isTold.2.2.2.2.1 := by decide) (hc2 : cs.2 ≤ M_X1_isTold.2.2.2.2.2 := by decide) : Ev E d M_X1_isTold 24 [vr a0, vr a1, vi a2, vi a3, vi a4, vu] [vi b0, vr b1] (G0, cs) I L Z := E_callV (as := [vi b0]) (rest := []) (n := 1) hM dX1_isTold_24 wM_RX1_32 wS_X6_item wV_X6_item hs (by decide) rfl hlt wC_X6_item wI_X6 (by decide +kernel) rfl (by decide) (Nat.le_of_ble_eq_true rfl) hc1 hc2 rfl (fun r g' I2 L2 h => by obtain ⟨rfl, z, rfl, hr, rfl, rfl, rfl⟩ := h; exact k hr)
theorem t19_X1_isTold_27 {E : En} {d : Nat} {κ : Kp} {I L : MI} {Z : Zt} {a0 a1 : Nat} {a2 a3 a4 b0 : Int}  (k : Ev E d M_X1_isTold 29 [vr a0, vr a1, vi a2, vi a3, vi a4, vi b0] [] κ I L Z) : Ev E d M_X1_isTold 27 [vr a0, vr a1, vi a2, vi a3, vi a4, vu] [vi b0] κ I L Z := E_istore dX1_isTold_27 rfl (Nat.le_of_ble_eq_true rfl) k
theorem t19_X1_isTold_29 {E : En} {d : Nat} {κ : Kp} {I L : MI} {Z : Zt} {a0 a1 : Nat} {a2 a3 a4 a5 : Int}  (k : Ev E d M_X1_isTold 31 [vr a0, vr a1, vi a2, vi a3, vi a4, vi a5] [vi a5] κ I L Z) : Ev E d M_X1_isTold 29 [vr a0, vr a1, vi a2, vi a3, vi a4, vi a5] [] κ I L Z := E_iload dX1_isTold_29 rfl k
theorem t19_X1_isTold_31 {E : En} {d : Nat} {κ : Kp} {I L : MI} {Z : Zt} {a0 a1 : Nat} {a2 a3 a4 a5 b0 : Int} (hx : Ir b0) (kt : b0 < 0 → Ev E d M_X1_isTold 40 [vr a0, vr a1, vi a2, vi a3, vi a4, vi a5] [] κ I L Z) (kf : 0 ≤ b0 → Ev E d M_X1_isTold 34 [vr a0, vr a1, vi a2, vi a3, vi a4, vi a5] [] κ I L Z) : Ev E d M_X1_isTold 31 [vr a0, vr a1, vi a2, vi a3, vi a4, vi a5] [vi b0] κ I L Z := E_if_lt dX1_isTold_31 hx kt kf (by decide)
theorem t19_X1_isTold_40 {E : En} {d : Nat} {κ : Kp} {I L : MI} {Z : Zt} {a0 a1 : Nat} {a2 a3 a4 a5 : Int}  (k : Ev E d M_X1_isTold 41 [vr a0, vr a1, vi a2, vi a3, vi a4, vi a5] [vi 0] κ I L Z) : Ev E d M_X1_isTold 40 [vr a0, vr a1, vi a2, vi a3, vi a4, vi a5] [] κ I L Z := E_iconst (v := 0) dX1_isTold_40 rfl k
theorem t19_X1_isTold_41 {E : En} {d : Nat} {g : Geo} {I L : MI} {Q : Option AV → Geo → MI → MI → Prop} {cs : Nat × Nat} {a0 a1 : Nat} {a2 a3 a4 a5 b0 : Int} (hz : b0 = 0 ∨ b0 = 1) (hq : Q (some (vi b0)) g I L) (h1 : cs.1 ≤ M_X1_isTold.2.2.2.2.1 := by decide) (h2 : cs.2 ≤ M_X1_isTold.2.2.2.2.2 := by decide) : Ev E d M_X1_isTold 41 [vr a0, vr a1, vi a2, vi a3, vi a4, vi a5] [vi b0] (g, cs) I L (ZQ E M_X1_isTold Q) := E_zreturn rfl hz dX1_isTold_41 hq h1 h2
theorem t19_X1_isTold_34 {E : En} {d : Nat} {κ : Kp} {I L : MI} {Z : Zt} {a0 a1 : Nat} {a2 a3 a4 a5 : Int}  (k : Ev E d M_X1_isTold 36 [vr a0, vr a1, vi a2, vi a3, vi a4, vi a5] [vi a5] κ I L Z) : Ev E d M_X1_isTold 34 [vr a0, vr a1, vi a2, vi a3, vi a4, vi a5] [] κ I L Z := E_iload dX1_isTold_34 rfl k
theorem t19_X1_isTold_36 {E : En} {d : Nat} {κ : Kp} {I L : MI} {Z : Zt} {a0 a1 : Nat} {a2 a3 a4 a5 b0 : Int}  (k : Ev E d M_X1_isTold 37 [vr a0, vr a1, vi a2, vi a3, vi a4, vi a5] [vi 3, vi b0] κ I L Z) : Ev E d M_X1_isTold 36 [vr a0, vr a1, vi a2, vi a3, vi a4, vi a5] [vi b0] κ I L Z := E_iconst (v := 3) dX1_isTold_36 rfl k
theorem t19_X1_isTold_37 {E : En} {d : Nat} {κ : Kp} {I L : MI} {Z : Zt} {a0 a1 : Nat} {a2 a3 a4 a5 b0 b1 : Int} (hx : Ir b1) (hy : Ir b0) (kt : b1 ≤ b0 → Ev E d M_X1_isTold 42 [vr a0, vr a1, vi a2, vi a3, vi a4, vi a5] [] κ I L Z) (kf : b0 < b1 → Ev E d M_X1_isTold 40 [vr a0, vr a1, vi a2, vi a3, vi a4, vi a5] [] κ I L Z) : Ev E d M_X1_isTold 37 [vr a0, vr a1, vi a2, vi a3, vi a4, vi a5] [vi b0, vi b1] κ I L Z := E_icmp_le dX1_isTold_37 hx hy kt kf (by decide)
theorem t19_X1_isTold_42 {E : En} {d : Nat} {κ : Kp} {I L : MI} {Z : Zt} {a0 a1 : Nat} {a2 a3 a4 a5 : Int}  (k : Ev E d M_X1_isTold 43 [vr a0, vr a1, vi a2, vi a3, vi a4, vi a5] [vr a0] κ I L Z) : Ev E d M_X1_isTold 42 [vr a0, vr a1, vi a2, vi a3, vi a4, vi a5] [] κ I L Z := E_aload_n dX1_isTold_42 rfl k
theorem t19_X1_isTold_43 {E : En} {d : Nat} {κ : Kp} {I L : MI} {Z : Zt} {a0 a1 b0 : Nat} {a2 a3 a4 a5 : Int} {q : Nat} (hs : κ.1.1[b0]? = some (.inl 1)) (hq : κ.1.2 b0 0 = some q) (k : Ev E d M_X1_isTold 46 [vr a0, vr a1, vi a2, vi a3, vi a4, vi a5] [vr q] κ I L Z) : Ev E d M_X1_isTold 43 [vr a0, vr a1, vi a2, vi a3, vi a4, vi a5] [vr b0] κ I L Z := E_getR (ci := 1) (n := 0) dX1_isTold_43 wF_RX1_9 (by decide) hs rfl hq k
theorem t19_X1_isTold_46 {E : En} {d : Nat} {κ : Kp} {I L : MI} {Z : Zt} {a0 a1 b0 : Nat} {a2 a3 a4 a5 : Int}  (k : Ev E d M_X1_isTold 48 [vr a0, vr a1, vi a2, vi a3, vi a4, vi a5] [vi a4, vr b0] κ I L Z) : Ev E d M_X1_isTold 46 [vr a0, vr a1, vi a2, vi a3, vi a4, vi a5] [vr b0] κ I L Z := E_iload dX1_isTold_46 rfl k
theorem t19_X1_isTold_48 {E : En} {d : Nat} {κ : Kp} {I L : MI} {Z : Zt} {a0 a1 b1 : Nat} {a2 a3 a4 a5 b0 : Int}  (k : Ev E d M_X1_isTold 50 [vr a0, vr a1, vi a2, vi a3, vi a4, vi a5] [vi a5, vi b0, vr b1] κ I L Z) : Ev E d M_X1_isTold 48 [vr a0, vr a1, vi a2, vi a3, vi a4, vi a5] [vi b0, vr b1] κ I L Z := E_iload dX1_isTold_48 rfl k
theorem t19_X1_isTold_50 {E : En} {d d' : Nat} {cs : Nat × Nat} {I L : MI} {Z : Zt} {a0 a1 b2 : Nat} {a2 a3 a4 a5 b0 b1 : Int} {I' L' : MI} (hM : CFv E d' M_X10_store [vr b2, vi b1, vi b0] I L I' L') (hlt : d' + 1 ≤ d) (k : Ev E d M_X1_isTold 53 [vr a0, vr a1, vi a2, vi a3, vi a4, vi a5] [] (G0, cs) I' L' Z) (hc1 : cs.1 ≤ M_X1_isTold.2.2.2.2.1 := by decide) (hc2 : cs.2 ≤ M_X1_isTold.2.2.2.2.2 := by decide) : Ev E d M_X1_isTold 50 [vr a0, vr a1, vi a2, vi a3, vi a4, vi a5] [vi b0, vi b1, vr b2] (G0, cs) I L Z := E_callSN (as := [vr b2, vi b1, vi b0]) (rest := []) (n := 3) hM dX1_isTold_50 rfl (host := "SaidByTimes") (cl := RX1) (by decide +kernel) wS_X10_store hlt wC_X10_store wI_X10 (by decide +kernel) rfl (by decide) (Nat.le_of_ble_eq_true rfl) hc1 hc2 rfl (fun r g' I2 L2 h => by obtain ⟨rfl, rfl, rfl, rfl⟩ := h; exact k)
theorem t19_X1_isTold_53 {E : En} {d : Nat} {κ : Kp} {I L : MI} {Z : Zt} {a0 a1 : Nat} {a2 a3 a4 a5 : Int}  (k : Ev E d M_X1_isTold 56 [vr a0, vr a1, vi a2, vi a3, vi (a4 + 1), vi a5] [] κ I L Z) : Ev E d M_X1_isTold 53 [vr a0, vr a1, vi a2, vi a3, vi a4, vi a5] [] κ I L Z := E_iinc dX1_isTold_53 rfl rfl (Nat.le_of_ble_eq_true rfl) k
theorem t19_X1_isTold_56 {E : En} {d : Nat} {κ : Kp} {I L : MI} {Z : Zt} {a0 a1 : Nat} {a2 a3 a4 a5 : Int}  (k : Ev E d M_X1_isTold 13 [vr a0, vr a1, vi a2, vi a3, vi a4, vi a5] [] κ I L Z) : Ev E d M_X1_isTold 56 [vr a0, vr a1, vi a2, vi a3, vi a4, vi a5] [] κ I L Z := E_goto dX1_isTold_56 (by decide) k
theorem t19_X1_isTold_0 {E : En} {d : Nat} {κ : Kp} {I L : MI} {Z : Zt} {a0 a1 : Nat} {a2 a3 : Int}  (k : Ev E d M_X1_isTold 1 [vr a0, vr a1, vi a2, vi a3, vu, vu] [vr a0] κ I L Z) : Ev E d M_X1_isTold 0 [vr a0, vr a1, vi a2, vi a3, vu, vu] [] κ I L Z := E_aload_n dX1_isTold_0 rfl k
theorem t19_X1_isTold_1 {E : En} {d : Nat} {κ : Kp} {I L : MI} {Z : Zt} {a0 a1 b0 : Nat} {a2 a3 : Int}  (k : Ev E d M_X1_isTold 2 [vr a0, vr a1, vi a2, vi a3, vu, vu] [vi a2, vr b0] κ I L Z) : Ev E d M_X1_isTold 1 [vr a0, vr a1, vi a2, vi a3, vu, vu] [vr b0] κ I L Z := E_iload_n dX1_isTold_1 rfl k
theorem t19_X1_isTold_2 {E : En} {d : Nat} {κ : Kp} {I L : MI} {Z : Zt} {a0 a1 b1 : Nat} {a2 a3 b0 : Int} (hs : κ.1.1[b1]? = some (.inl 1)) (hz : Ir b0) (k : Ev E d M_X1_isTold 5 [vr a0, vr a1, vi a2, vi a3, vu, vu] [] κ (up2 I b1 3 b0) L Z) : Ev E d M_X1_isTold 2 [vr a0, vr a1, vi a2, vi a3, vu, vu] [vi b0, vr b1] κ I L Z := E_putI (ci := 1) (n := 3) dX1_isTold_2 wF_RX1_25 (by decide) hs rfl rfl hz k
theorem t19_X1_isTold_5 {E : En} {d : Nat} {κ : Kp} {I L : MI} {Z : Zt} {a0 a1 : Nat} {a2 a3 : Int}  (k : Ev E d M_X1_isTold 6 [vr a0, vr a1, vi a2, vi a3, vu, vu] [vr a0] κ I L Z) : Ev E d M_X1_isTold 5 [vr a0, vr a1, vi a2, vi a3, vu, vu] [] κ I L Z := E_aload_n dX1_isTold_5 rfl k
theorem t19_X1_isTold_6 {E : En} {d : Nat} {κ : Kp} {I L : MI} {Z : Zt} {a0 a1 b0 : Nat} {a2 a3 : Int}  (k : Ev E d M_X1_isTold 7 [vr a0, vr a1, vi a2, vi a3, vu, vu] [vi a3, vr b0] κ I L Z) : Ev E d M_X1_isTold 6 [vr a0, vr a1, vi a2, vi a3, vu, vu] [vr b0] κ I L Z := E_iload_n dX1_isTold_6 rfl k
theorem t19_X1_isTold_7 {E : En} {d : Nat} {κ : Kp} {I L : MI} {Z : Zt} {a0 a1 b1 : Nat} {a2 a3 b0 : Int} (hs : κ.1.1[b1]? = some (.inl 1)) (hz : Ir b0) (k : Ev E d M_X1_isTold 10 [vr a0, vr a1, vi a2, vi a3, vu, vu] [] κ (up2 I b1 4 b0) L Z) : Ev E d M_X1_isTold 7 [vr a0, vr a1, vi a2, vi a3, vu, vu] [vi b0, vr b1] κ I L Z := E_putI (ci := 1) (n := 4) dX1_isTold_7 wF_RX1_29 (by decide) hs rfl rfl hz k
theorem t19_X1_isTold_10 {E : En} {d : Nat} {κ : Kp} {I L : MI} {Z : Zt} {a0 a1 : Nat} {a2 a3 : Int}  (k : Ev E d M_X1_isTold 11 [vr a0, vr a1, vi a2, vi a3, vu, vu] [vi 0] κ I L Z) : Ev E d M_X1_isTold 10 [vr a0, vr a1, vi a2, vi a3, vu, vu] [] κ I L Z := E_iconst (v := 0) dX1_isTold_10 rfl k
theorem t19_X1_isTold_11 {E : En} {d : Nat} {κ : Kp} {I L : MI} {Z : Zt} {a0 a1 : Nat} {a2 a3 b0 : Int}  (k : Ev E d M_X1_isTold 13 [vr a0, vr a1, vi a2, vi a3, vi b0, vu] [] κ I L Z) : Ev E d M_X1_isTold 11 [vr a0, vr a1, vi a2, vi a3, vu, vu] [vi b0] κ I L Z := E_istore dX1_isTold_11 rfl (Nat.le_of_ble_eq_true rfl) k
theorem t19_X1_makes_35 {E : En} {d : Nat} {κ : Kp} {I L : MI} {Z : Zt} {a0 : Nat} {a1 a2 a3 a4 a6 : Int}  (k : Ev E d M_X1_makes 37 [vr a0, vi a1, vi a2, vi a3, vl a4, vu, vi a6] [vi a6] κ I L Z) : Ev E d M_X1_makes 35 [vr a0, vi a1, vi a2, vi a3, vl a4, vu, vi a6] [] κ I L Z := E_iload dX1_makes_35 rfl k
theorem t19_X1_makes_37 {E : En} {d : Nat} {κ : Kp} {I L : MI} {Z : Zt} {a0 : Nat} {a1 a2 a3 a4 a6 b0 : Int} (hx : Ir b0) (kt : b0 ≤ 0 → Ev E d M_X1_makes 62 [vr a0, vi a1, vi a2, vi a3, vl a4, vu, vi a6] [] κ I L Z) (kf : 0 < b0 → Ev E d M_X1_makes 40 [vr a0, vi a1, vi a2, vi a3, vl a4, vu, vi a6] [] κ I L Z) : Ev E d M_X1_makes 37 [vr a0, vi a1, vi a2, vi a3, vl a4, vu, vi a6] [vi b0] κ I L Z := E_if_le dX1_makes_37 hx kt kf (by decide)
theorem t19_X1_makes_62 {E : En} {d : Nat} {κ : Kp} {I L : MI} {Z : Zt} {a0 : Nat} {a1 a2 a3 a4 a6 : Int}  (k : Ev E d M_X1_makes 64 [vr a0, vi a1, vi a2, vi a3, vl a4, vu, vi a6] [vl a4] κ I L Z) : Ev E d M_X1_makes 62 [vr a0, vi a1, vi a2, vi a3, vl a4, vu, vi a6] [] κ I L Z := E_lload dX1_makes_62 rfl k
theorem t19_X1_makes_64 {E : En} {d : Nat} {κ : Kp} {I L : MI} {Z : Zt} {a0 : Nat} {a1 a2 a3 a4 a6 b0 : Int}  (k : Ev E d M_X1_makes 67 [vr a0, vi a1, vi a2, vi a3, vl a4, vu, vi a6] [vl 1000000000000000, vl b0] κ I L Z) : Ev E d M_X1_makes 64 [vr a0, vi a1, vi a2, vi a3, vl a4, vu, vi a6] [vl b0] κ I L Z := E_ldc2 (v := 1000000000000000) dX1_makes_64 wK_RX1_74 k
theorem t19_X1_makes_67 {E : En} {d : Nat} {κ : Kp} {I L : MI} {Z : Zt} {a0 : Nat} {a1 a2 a3 a4 a6 b0 b1 : Int} (hx : Jr b1) (hy : Jr b0) (kt : b1 ≤ b0 → Ev E d M_X1_makes 73 [vr a0, vi a1, vi a2, vi a3, vl a4, vu, vi a6] [] κ I L Z) (kf : b0 < b1 → Ev E d M_X1_makes 71 [vr a0, vi a1, vi a2, vi a3, vl a4, vu, vi a6] [] κ I L Z) : Ev E d M_X1_makes 67 [vr a0, vi a1, vi a2, vi a3, vl a4, vu, vi a6] [vl b0, vl b1] κ I L Z := E_lcmp_le dX1_makes_67 dX1_makes_68 hx hy kt kf (by decide)
theorem t19_X1_makes_71 {E : En} {d : Nat} {κ : Kp} {I L : MI} {Z : Zt} {a0 : Nat} {a1 a2 a3 a4 a6 : Int}  (k : Ev E d M_X1_makes 72 [vr a0, vi a1, vi a2, vi a3, vl a4, vu, vi a6] [vi 0] κ I L Z) : Ev E d M_X1_makes 71 [vr a0, vi a1, vi a2, vi a3, vl a4, vu, vi a6] [] κ I L Z := E_iconst (v := 0) dX1_makes_71 rfl k
theorem t19_X1_makes_72 {E : En} {d : Nat} {g : Geo} {I L : MI} {Q : Option AV → Geo → MI → MI → Prop} {cs : Nat × Nat} {a0 : Nat} {a1 a2 a3 a4 a6 b0 : Int} (hz : b0 = 0 ∨ b0 = 1) (hq : Q (some (vi b0)) g I L) (h1 : cs.1 ≤ M_X1_makes.2.2.2.2.1 := by decide) (h2 : cs.2 ≤ M_X1_makes.2.2.2.2.2 := by decide) : Ev E d M_X1_makes 72 [vr a0, vi a1, vi a2, vi a3, vl a4, vu, vi a6] [vi b0] (g, cs) I L (ZQ E M_X1_makes Q) := E_zreturn rfl hz dX1_makes_72 hq h1 h2
theorem t19_X1_makes_40 {E : En} {d : Nat} {κ : Kp} {I L : MI} {Z : Zt} {a0 : Nat} {a1 a2 a3 a4 a6 : Int}  (k : Ev E d M_X1_makes 42 [vr a0, vi a1, vi a2, vi a3, vl a4, vu, vi a6] [vl a4] κ I L Z) : Ev E d M_X1_makes 40 [vr a0, vi a1, vi a2, vi a3, vl a4, vu, vi a6] [] κ I L Z := E_lload dX1_makes_40 rfl k
theorem t19_X1_makes_42 {E : En} {d : Nat} {κ : Kp} {I L : MI} {Z : Zt} {a0 : Nat} {a1 a2 a3 a4 a6 b0 : Int}  (k : Ev E d M_X1_makes 45 [vr a0, vi a1, vi a2, vi a3, vl a4, vu, vi a6] [vl 1000000000000000, vl b0] κ I L Z) : Ev E d M_X1_makes 42 [vr a0, vi a1, vi a2, vi a3, vl a4, vu, vi a6] [vl b0] κ I L Z := E_ldc2 (v := 1000000000000000) dX1_makes_42 wK_RX1_74 k
theorem t19_X1_makes_45 {E : En} {d : Nat} {κ : Kp} {I L : MI} {Z : Zt} {a0 : Nat} {a1 a2 a3 a4 a6 b0 b1 : Int} (hx : Jr b1) (hy : Jr b0) (kt : b0 < b1 → Ev E d M_X1_makes 62 [vr a0, vi a1, vi a2, vi a3, vl a4, vu, vi a6] [] κ I L Z) (kf : b1 ≤ b0 → Ev E d M_X1_makes 49 [vr a0, vi a1, vi a2, vi a3, vl a4, vu, vi a6] [] κ I L Z) : Ev E d M_X1_makes 45 [vr a0, vi a1, vi a2, vi a3, vl a4, vu, vi a6] [vl b0, vl b1] κ I L Z := E_lcmp_gt dX1_makes_45 dX1_makes_46 hx hy kt kf (by decide)
theorem t19_X1_makes_49 {E : En} {d : Nat} {κ : Kp} {I L : MI} {Z : Zt} {a0 : Nat} {a1 a2 a3 a4 a6 : Int}  (k : Ev E d M_X1_makes 51 [vr a0, vi a1, vi a2, vi a3, vl a4, vu, vi a6] [vl a4] κ I L Z) : Ev E d M_X1_makes 49 [vr a0, vi a1, vi a2, vi a3, vl a4, vu, vi a6] [] κ I L Z := E_lload dX1_makes_49 rfl k
theorem t19_X1_makes_51 {E : En} {d : Nat} {κ : Kp} {I L : MI} {Z : Zt} {a0 : Nat} {a1 a2 a3 a4 a6 b0 : Int}  (k : Ev E d M_X1_makes 52 [vr a0, vi a1, vi a2, vi a3, vl a4, vu, vi a6] [vi a2, vl b0] κ I L Z) : Ev E d M_X1_makes 51 [vr a0, vi a1, vi a2, vi a3, vl a4, vu, vi a6] [vl b0] κ I L Z := E_iload_n dX1_makes_51 rfl k
theorem t19_X1_makes_52 {E : En} {d : Nat} {κ : Kp} {I L : MI} {Z : Zt} {a0 : Nat} {a1 a2 a3 a4 a6 b0 b1 : Int} (hx : Ir b0) (k : Ev E d M_X1_makes 53 [vr a0, vi a1, vi a2, vi a3, vl a4, vu, vi a6] [vl b0, vl b1] κ I L Z) : Ev E d M_X1_makes 52 [vr a0, vi a1, vi a2, vi a3, vl a4, vu, vi a6] [vi b0, vl b1] κ I L Z := E_i2l dX1_makes_52 hx k
theorem t19_X1_makes_53 {E : En} {d : Nat} {κ : Kp} {I L : MI} {Z : Zt} {a0 : Nat} {a1 a2 a3 a4 a6 b0 b1 : Int}  (k : Ev E d M_X1_makes 54 [vr a0, vi a1, vi a2, vi a3, vl a4, vu, vi a6] [vl (b1 * b0)] κ I L Z) : Ev E d M_X1_makes 53 [vr a0, vi a1, vi a2, vi a3, vl a4, vu, vi a6] [vl b0, vl b1] κ I L Z := E_lmul dX1_makes_53 k
theorem t19_X1_makes_54 {E : En} {d : Nat} {κ : Kp} {I L : MI} {Z : Zt} {a0 : Nat} {a1 a2 a3 a4 a6 b0 : Int}  (k : Ev E d M_X1_makes 56 [vr a0, vi a1, vi a2, vi a3, vl b0, vu, vi a6] [] κ I L Z) : Ev E d M_X1_makes 54 [vr a0, vi a1, vi a2, vi a3, vl a4, vu, vi a6] [vl b0] κ I L Z := E_lstore dX1_makes_54 rfl (Nat.le_of_ble_eq_true rfl) k
theorem t19_X1_makes_56 {E : En} {d : Nat} {κ : Kp} {I L : MI} {Z : Zt} {a0 : Nat} {a1 a2 a3 a4 a6 : Int}  (k : Ev E d M_X1_makes 59 [vr a0, vi a1, vi a2, vi a3, vl a4, vu, vi (a6 + (-1))] [] κ I L Z) : Ev E d M_X1_makes 56 [vr a0, vi a1, vi a2, vi a3, vl a4, vu, vi a6] [] κ I L Z := E_iinc dX1_makes_56 rfl rfl (Nat.le_of_ble_eq_true rfl) k
theorem t19_X1_makes_59 {E : En} {d : Nat} {κ : Kp} {I L : MI} {Z : Zt} {a0 : Nat} {a1 a2 a3 a4 a6 : Int}  (k : Ev E d M_X1_makes 35 [vr a0, vi a1, vi a2, vi a3, vl a4, vu, vi a6] [] κ I L Z) : Ev E d M_X1_makes 59 [vr a0, vi a1, vi a2, vi a3, vl a4, vu, vi a6] [] κ I L Z := E_goto dX1_makes_59 (by decide) k
theorem t19_X1_makes_73 {E : En} {d : Nat} {κ : Kp} {I L : MI} {Z : Zt} {a0 : Nat} {a1 a2 a3 a4 a6 : Int}  (k : Ev E d M_X1_makes 74 [vr a0, vi a1, vi a2, vi a3, vl a4, vu, vi a6] [vr a0] κ I L Z) : Ev E d M_X1_makes 73 [vr a0, vi a1, vi a2, vi a3, vl a4, vu, vi a6] [] κ I L Z := E_aload_n dX1_makes_73 rfl k
theorem t19_X1_makes_74 {E : En} {d : Nat} {κ : Kp} {I L : MI} {Z : Zt} {a0 b0 : Nat} {a1 a2 a3 a4 a6 : Int}  (k : Ev E d M_X1_makes 75 [vr a0, vi a1, vi a2, vi a3, vl a4, vu, vi a6] [vi a1, vr b0] κ I L Z) : Ev E d M_X1_makes 74 [vr a0, vi a1, vi a2, vi a3, vl a4, vu, vi a6] [vr b0] κ I L Z := E_iload_n dX1_makes_74 rfl k
theorem t19_X1_makes_75 {E : En} {d : Nat} {κ : Kp} {I L : MI} {Z : Zt} {a0 b1 : Nat} {a1 a2 a3 a4 a6 b0 : Int}  (k : Ev E d M_X1_makes 76 [vr a0, vi a1, vi a2, vi a3, vl a4, vu, vi a6] [vi 1, vi b0, vr b1] κ I L Z) : Ev E d M_X1_makes 75 [vr a0, vi a1, vi a2, vi a3, vl a4, vu, vi a6] [vi b0, vr b1] κ I L Z := E_iconst (v := 1) dX1_makes_75 rfl k
theorem t19_X1_makes_76 {E : En} {d : Nat} {κ : Kp} {I L : MI} {Z : Zt} {a0 b2 : Nat} {a1 a2 a3 a4 a6 b0 b1 : Int}  (k : Ev E d M_X1_makes 77 [vr a0, vi a1, vi a2, vi a3, vl a4, vu, vi a6] [vi (b1 + b0), vr b2] κ I L Z) : Ev E d M_X1_makes 76 [vr a0, vi a1, vi a2, vi a3, vl a4, vu, vi a6] [vi b0, vi b1, vr b2] κ I L Z := E_iadd dX1_makes_76 k
theorem t19_X1_makes_77 {E : En} {d : Nat} {κ : Kp} {I L : MI} {Z : Zt} {a0 b1 : Nat} {a1 a2 a3 a4 a6 b0 : Int}  (k : Ev E d M_X1_makes 78 [vr a0, vi a1, vi a2, vi a3, vl a4, vu, vi a6] [vi a3, vi b0, vr b1] κ I L Z) : Ev E d M_X1_makes 77 [vr a0, vi a1, vi a2, vi a3, vl a4, vu, vi a6] [vi b0, vr b1] κ I L Z := E_iload_n dX1_makes_77 rfl k
theorem t19_X1_makes_78 {E : En} {d : Nat} {κ : Kp} {I L : MI} {Z : Zt} {a0 b2 : Nat} {a1 a2 a3 a4 a6 b0 b1 : Int}  (k : Ev E d M_X1_makes 80 [vr a0, vi a1, vi a2, vi a3, vl a4, vu, vi a6] [vl a4, vi b0, vi b1, vr b2] κ I L Z) : Ev E d M_X1_makes 78 [vr a0, vi a1, vi a2, vi a3, vl a4, vu, vi a6] [vi b0, vi b1, vr b2] κ I L Z := E_lload dX1_makes_78 rfl k
theorem t19_X1_makes_80 {E : En} {d d' : Nat} {cs : Nat × Nat} {I L : MI} {Z : Zt} {a0 b3 : Nat} {a1 a2 a3 a4 a6 b0 b1 b2 : Int} {I' L' : MI} (hs : G0.1[b3]? = some (.inl 1)) (hM : CFv E d' M_X1_keepMade [vr b3, vi b2, vi b1, vl b0] I L I' L') (hlt : d' + 1 ≤ d) (k : Ev E d M_X1_makes 83 [vr a0, vi a1, vi a2, vi a3, vl a4, vu, vi a6] [] (G0, cs) I' L' Z) (hc1 : cs.1 ≤ M_X1_makes.2.2.2.2.1 := by decide) (hc2 : cs.2 ≤ M_X1_makes.2.2.2.2.2 := by decide) : Ev E d M_X1_makes 80 [vr a0, vi a1, vi a2, vi a3, vl a4, vu, vi a6] [vl b0, vi b1, vi b2, vr b3] (G0, cs) I L Z := E_callV (as := [vi b2, vi b1, vl b0]) (rest := []) (n := 3) hM dX1_makes_80 wM_RX1_46 wS_X1_keepMade wV_X1_keepMade hs (by decide) rfl hlt wC_X1_keepMade wI_X1 (by decide +kernel) rfl (by decide) (Nat.le_of_ble_eq_true rfl) hc1 hc2 rfl (fun r g' I2 L2 h => by obtain ⟨rfl, rfl, rfl, rfl⟩ := h; exact k)
theorem t19_X1_makes_83 {E : En} {d : Nat} {κ : Kp} {I L : MI} {Z : Zt} {a0 : Nat} {a1 a2 a3 a4 a6 : Int}  (k : Ev E d M_X1_makes 86 [vr a0, vi a1, vi a2, vi (a3 + 1), vl a4, vu, vi a6] [] κ I L Z) : Ev E d M_X1_makes 83 [vr a0, vi a1, vi a2, vi a3, vl a4, vu, vi a6] [] κ I L Z := E_iinc dX1_makes_83 rfl rfl (Nat.le_of_ble_eq_true rfl) k
theorem t19_X1_makes_86 {E : En} {d : Nat} {κ : Kp} {I L : MI} {Z : Zt} {a0 : Nat} {a1 a2 a3 a4 a6 : Int}  (k : Ev E d M_X1_makes 2 [vr a0, vi a1, vi a2, vi a3, vl a4, vu, vi a6] [] κ I L Z) : Ev E d M_X1_makes 86 [vr a0, vi a1, vi a2, vi a3, vl a4, vu, vi a6] [] κ I L Z := E_goto dX1_makes_86 (by decide) k
theorem t19_X1_makes_2 {E : En} {d : Nat} {κ : Kp} {I L : MI} {Z : Zt} {a0 : Nat} {a1 a2 a3 : Int}  (k : Ev E d M_X1_makes 3 [vr a0, vi a1, vi a2, vi a3, vu, vu, vu] [vi a3] κ I L Z) : Ev E d M_X1_makes 2 [vr a0, vi a1, vi a2, vi a3, vu, vu, vu] [] κ I L Z := E_iload_n dX1_makes_2 rfl k
theorem t19_X1_makes_3 {E : En} {d : Nat} {κ : Kp} {I L : MI} {Z : Zt} {a0 : Nat} {a1 a2 a3 b0 : Int}  (k : Ev E d M_X1_makes 4 [vr a0, vi a1, vi a2, vi a3, vu, vu, vu] [vr a0, vi b0] κ I L Z) : Ev E d M_X1_makes 3 [vr a0, vi a1, vi a2, vi a3, vu, vu, vu] [vi b0] κ I L Z := E_aload_n dX1_makes_3 rfl k
theorem t19_X1_makes_4 {E : En} {d : Nat} {κ : Kp} {I L : MI} {Z : Zt} {a0 b0 : Nat} {a1 a2 a3 b1 : Int} (hs : κ.1.1[b0]? = some (.inl 1)) (k : Ir (I b0 4) → Ev E d M_X1_makes 7 [vr a0, vi a1, vi a2, vi a3, vu, vu, vu] [vi (I b0 4), vi b1] κ I L Z) : Ev E d M_X1_makes 4 [vr a0, vi a1, vi a2, vi a3, vu, vu, vu] [vr b0, vi b1] κ I L Z := E_getI (ci := 1) (n := 4) dX1_makes_4 wF_RX1_29 (by decide) hs rfl k
theorem t19_X1_makes_7 {E : En} {d : Nat} {κ : Kp} {I L : MI} {Z : Zt} {a0 : Nat} {a1 a2 a3 b0 b1 : Int} (hx : Ir b1) (hy : Ir b0) (kt : b0 ≤ b1 → Ev E d M_X1_makes 89 [vr a0, vi a1, vi a2, vi a3, vu, vu, vu] [] κ I L Z) (kf : b1 < b0 → Ev E d M_X1_makes 10 [vr a0, vi a1, vi a2, vi a3, vu, vu, vu] [] κ I L Z) : Ev E d M_X1_makes 7 [vr a0, vi a1, vi a2, vi a3, vu, vu, vu] [vi b0, vi b1] κ I L Z := E_icmp_ge dX1_makes_7 hx hy kt kf (by decide)
theorem t19_X1_makes_89 {E : En} {d : Nat} {κ : Kp} {I L : MI} {Z : Zt} {a0 : Nat} {a1 a2 a3 : Int}  (k : Ev E d M_X1_makes 90 [vr a0, vi a1, vi a2, vi a3, vu, vu, vu] [vi 1] κ I L Z) : Ev E d M_X1_makes 89 [vr a0, vi a1, vi a2, vi a3, vu, vu, vu] [] κ I L Z := E_iconst (v := 1) dX1_makes_89 rfl k
theorem t19_X1_makes_90 {E : En} {d : Nat} {g : Geo} {I L : MI} {Q : Option AV → Geo → MI → MI → Prop} {cs : Nat × Nat} {a0 : Nat} {a1 a2 a3 b0 : Int} (hz : b0 = 0 ∨ b0 = 1) (hq : Q (some (vi b0)) g I L) (h1 : cs.1 ≤ M_X1_makes.2.2.2.2.1 := by decide) (h2 : cs.2 ≤ M_X1_makes.2.2.2.2.2 := by decide) : Ev E d M_X1_makes 90 [vr a0, vi a1, vi a2, vi a3, vu, vu, vu] [vi b0] (g, cs) I L (ZQ E M_X1_makes Q) := E_zreturn rfl hz dX1_makes_90 hq h1 h2
theorem t19_X1_makes_10 {E : En} {d : Nat} {κ : Kp} {I L : MI} {Z : Zt} {a0 : Nat} {a1 a2 a3 : Int}  (k : Ev E d M_X1_makes 11 [vr a0, vi a1, vi a2, vi a3, vu, vu, vu] [vr a0] κ I L Z) : Ev E d M_X1_makes 10 [vr a0, vi a1, vi a2, vi a3, vu, vu, vu] [] κ I L Z := E_aload_n dX1_makes_10 rfl k
theorem t19_X1_makes_11 {E : En} {d : Nat} {κ : Kp} {I L : MI} {Z : Zt} {a0 b0 : Nat} {a1 a2 a3 : Int}  (k : Ev E d M_X1_makes 12 [vr a0, vi a1, vi a2, vi a3, vu, vu, vu] [vi a1, vr b0] κ I L Z) : Ev E d M_X1_makes 11 [vr a0, vi a1, vi a2, vi a3, vu, vu, vu] [vr b0] κ I L Z := E_iload_n dX1_makes_11 rfl k
theorem t19_X1_makes_12 {E : En} {d : Nat} {κ : Kp} {I L : MI} {Z : Zt} {a0 b1 : Nat} {a1 a2 a3 b0 : Int}  (k : Ev E d M_X1_makes 13 [vr a0, vi a1, vi a2, vi a3, vu, vu, vu] [vi a3, vi b0, vr b1] κ I L Z) : Ev E d M_X1_makes 12 [vr a0, vi a1, vi a2, vi a3, vu, vu, vu] [vi b0, vr b1] κ I L Z := E_iload_n dX1_makes_12 rfl k
theorem t19_X1_makes_13 {E : En} {d d' : Nat} {cs : Nat × Nat} {I L : MI} {Z : Zt} {a0 b2 : Nat} {a1 a2 a3 b0 b1 : Int} {z : Int} {I' L' : MI} (hs : G0.1[b2]? = some (.inl 1)) (hM : CFl E d' M_X1_madeAt [vr b2, vi b1, vi b0] I L z I' L') (hlt : d' + 1 ≤ d) (k : Jr z → Ev E d M_X1_makes 16 [vr a0, vi a1, vi a2, vi a3, vu, vu, vu] [vl z] (G0, cs) I' L' Z) (hc1 : cs.1 ≤ M_X1_makes.2.2.2.2.1 := by decide) (hc2 : cs.2 ≤ M_X1_makes.2.2.2.2.2 := by decide) : Ev E d M_X1_makes 13 [vr a0, vi a1, vi a2, vi a3, vu, vu, vu] [vi b0, vi b1, vr b2] (G0, cs) I L Z := E_callV (as := [vi b1, vi b0]) (rest := []) (n := 2) hM dX1_makes_13 wM_RX1_66 wS_X1_madeAt wV_X1_madeAt hs (by decide) rfl hlt wC_X1_madeAt wI_X1 (by decide +kernel) rfl (by decide) (Nat.le_of_ble_eq_true rfl) hc1 hc2 rfl (fun r g' I2 L2 h => by obtain ⟨rfl, z, rfl, hr, rfl, rfl, rfl⟩ := h; exact k hr)
theorem t19_X1_makes_16 {E : En} {d : Nat} {κ : Kp} {I L : MI} {Z : Zt} {a0 : Nat} {a1 a2 a3 b0 : Int}  (k : Ev E d M_X1_makes 18 [vr a0, vi a1, vi a2, vi a3, vl b0, vu, vu] [] κ I L Z) : Ev E d M_X1_makes 16 [vr a0, vi a1, vi a2, vi a3, vu, vu, vu] [vl b0] κ I L Z := E_lstore dX1_makes_16 rfl (Nat.le_of_ble_eq_true rfl) k
theorem t19_X1_makes_18 {E : En} {d : Nat} {κ : Kp} {I L : MI} {Z : Zt} {a0 : Nat} {a1 a2 a3 a4 : Int}  (k : Ev E d M_X1_makes 19 [vr a0, vi a1, vi a2, vi a3, vl a4, vu, vu] [vr a0] κ I L Z) : Ev E d M_X1_makes 18 [vr a0, vi a1, vi a2, vi a3, vl a4, vu, vu] [] κ I L Z := E_aload_n dX1_makes_18 rfl k
theorem t19_X1_makes_19 {E : En} {d : Nat} {κ : Kp} {I L : MI} {Z : Zt} {a0 b0 : Nat} {a1 a2 a3 a4 : Int} {q : Nat} (hs : κ.1.1[b0]? = some (.inl 1)) (hq : κ.1.2 b0 0 = some q) (k : Ev E d M_X1_makes 22 [vr a0, vi a1, vi a2, vi a3, vl a4, vu, vu] [vr q] κ I L Z) : Ev E d M_X1_makes 19 [vr a0, vi a1, vi a2, vi a3, vl a4, vu, vu] [vr b0] κ I L Z := E_getR (ci := 1) (n := 0) dX1_makes_19 wF_RX1_9 (by decide) hs rfl hq k
theorem t19_X1_makes_22 {E : En} {d : Nat} {κ : Kp} {I L : MI} {Z : Zt} {a0 b0 : Nat} {a1 a2 a3 a4 : Int}  (k : Ev E d M_X1_makes 23 [vr a0, vi a1, vi a2, vi a3, vl a4, vu, vu] [vi a3, vr b0] κ I L Z) : Ev E d M_X1_makes 22 [vr a0, vi a1, vi a2, vi a3, vl a4, vu, vu] [vr b0] κ I L Z := E_iload_n dX1_makes_22 rfl k
theorem t19_X1_makes_23 {E : En} {d : Nat} {κ : Kp} {I L : MI} {Z : Zt} {a0 b1 : Nat} {a1 a2 a3 a4 b0 : Int}  (k : Ev E d M_X1_makes 24 [vr a0, vi a1, vi a2, vi a3, vl a4, vu, vu] [vr a0, vi b0, vr b1] κ I L Z) : Ev E d M_X1_makes 23 [vr a0, vi a1, vi a2, vi a3, vl a4, vu, vu] [vi b0, vr b1] κ I L Z := E_aload_n dX1_makes_23 rfl k
theorem t19_X1_makes_24 {E : En} {d : Nat} {κ : Kp} {I L : MI} {Z : Zt} {a0 b0 b2 : Nat} {a1 a2 a3 a4 b1 : Int} (hs : κ.1.1[b0]? = some (.inl 1)) (k : Ir (I b0 3) → Ev E d M_X1_makes 27 [vr a0, vi a1, vi a2, vi a3, vl a4, vu, vu] [vi (I b0 3), vi b1, vr b2] κ I L Z) : Ev E d M_X1_makes 24 [vr a0, vi a1, vi a2, vi a3, vl a4, vu, vu] [vr b0, vi b1, vr b2] κ I L Z := E_getI (ci := 1) (n := 3) dX1_makes_24 wF_RX1_25 (by decide) hs rfl k
theorem t19_X1_makes_27 {E : En} {d : Nat} {κ : Kp} {I L : MI} {Z : Zt} {a0 b2 : Nat} {a1 a2 a3 a4 b0 b1 : Int}  (k : Ev E d M_X1_makes 28 [vr a0, vi a1, vi a2, vi a3, vl a4, vu, vu] [vi (b1 * b0), vr b2] κ I L Z) : Ev E d M_X1_makes 27 [vr a0, vi a1, vi a2, vi a3, vl a4, vu, vu] [vi b0, vi b1, vr b2] κ I L Z := E_imul dX1_makes_27 k
theorem t19_X1_makes_28 {E : En} {d : Nat} {κ : Kp} {I L : MI} {Z : Zt} {a0 b1 : Nat} {a1 a2 a3 a4 b0 : Int}  (k : Ev E d M_X1_makes 29 [vr a0, vi a1, vi a2, vi a3, vl a4, vu, vu] [vi a1, vi b0, vr b1] κ I L Z) : Ev E d M_X1_makes 28 [vr a0, vi a1, vi a2, vi a3, vl a4, vu, vu] [vi b0, vr b1] κ I L Z := E_iload_n dX1_makes_28 rfl k
theorem t19_X1_makes_29 {E : En} {d : Nat} {κ : Kp} {I L : MI} {Z : Zt} {a0 b2 : Nat} {a1 a2 a3 a4 b0 b1 : Int}  (k : Ev E d M_X1_makes 30 [vr a0, vi a1, vi a2, vi a3, vl a4, vu, vu] [vi (b1 + b0), vr b2] κ I L Z) : Ev E d M_X1_makes 29 [vr a0, vi a1, vi a2, vi a3, vl a4, vu, vu] [vi b0, vi b1, vr b2] κ I L Z := E_iadd dX1_makes_29 k
theorem t19_X1_makes_30 {E : En} {d d' : Nat} {cs : Nat × Nat} {I L : MI} {Z : Zt} {a0 b1 : Nat} {a1 a2 a3 a4 b0 : Int} {z : Int} {I' L' : MI} (hM : CFi E d' M_X10_at [vr b1, vi b0] I L z I' L') (hlt : d' + 1 ≤ d) (k : Ir z → Ev E d M_X1_makes 33 [vr a0, vi a1, vi a2, vi a3, vl a4, vu, vu] [vi z] (G0, cs) I' L' Z) (hc1 : cs.1 ≤ M_X1_makes.2.2.2.2.1 := by decide) (hc2 : cs.2 ≤ M_X1_makes.2.2.2.2.2 := by decide) : Ev E d M_X1_makes 30 [vr a0, vi a1, vi a2, vi a3, vl a4, vu, vu] [vi b0, vr b1] (G0, cs) I L Z := E_callSN (as := [vr b1, vi b0]) (rest := []) (n := 2) hM dX1_makes_30 rfl (host := "SaidByTimes") (cl := RX1) (by decide +kernel) wS_X10_at hlt wC_X10_at wI_X10 (by decide +kernel) rfl (by decide) (Nat.le_of_ble_eq_true rfl) hc1 hc2 rfl (fun r g' I2 L2 h => by obtain ⟨rfl, z, rfl, hr, rfl, rfl, rfl⟩ := h; exact k hr)
theorem t19_X1_makes_33 {E : En} {d : Nat} {κ : Kp} {I L : MI} {Z : Zt} {a0 : Nat} {a1 a2 a3 a4 b0 : Int}  (k : Ev E d M_X1_makes 35 [vr a0, vi a1, vi a2, vi a3, vl a4, vu, vi b0] [] κ I L Z) : Ev E d M_X1_makes 33 [vr a0, vi a1, vi a2, vi a3, vl a4, vu, vu] [vi b0] κ I L Z := E_istore dX1_makes_33 rfl (Nat.le_of_ble_eq_true rfl) k
theorem t19_X1_makes_0 {E : En} {d : Nat} {κ : Kp} {I L : MI} {Z : Zt} {a0 : Nat} {a1 a2 : Int}  (k : Ev E d M_X1_makes 1 [vr a0, vi a1, vi a2, vu, vu, vu, vu] [vi 0] κ I L Z) : Ev E d M_X1_makes 0 [vr a0, vi a1, vi a2, vu, vu, vu, vu] [] κ I L Z := E_iconst (v := 0) dX1_makes_0 rfl k
theorem t19_X1_makes_1 {E : En} {d : Nat} {κ : Kp} {I L : MI} {Z : Zt} {a0 : Nat} {a1 a2 b0 : Int}  (k : Ev E d M_X1_makes 2 [vr a0, vi a1, vi a2, vi b0, vu, vu, vu] [] κ I L Z) : Ev E d M_X1_makes 1 [vr a0, vi a1, vi a2, vu, vu, vu, vu] [vi b0] κ I L Z := E_istore_n dX1_makes_1 rfl (Nat.le_of_ble_eq_true rfl) k
/-! CONTRACTS: dealings (object 33; told 34, gets 35, made 36, best 37) -/
theorem arr36 {E : En} : arr E G0 36 = some (3, 28) := arr_of (by decide) rfl
theorem c_X1_madeAt {E : En} {I L : MI} {k q : Int} (hk : 0 ≤ k ∧ k ≤ 100 := by omega) (hq : 0 ≤ q ∧ q ≤ 100 := by omega) : CFl E 1 M_X1_madeAt [vr 33, vi k, vi q] I L (atL L 36 28 (k * 4 + q)) I L := by
  have h4 := arr36 (E := E)
  refine CM_of' (al := [vr _, vi _, vi _, vu]) rfl (Nat.le_of_ble_eq_true rfl) rfl (fun hM => ?_)
  refine (t19_X1_madeAt_0 (t19_X1_madeAt_1 (t19_X1_madeAt_2 (t19_X1_madeAt_3 (t19_X1_madeAt_4 (t19_X1_madeAt_5 (t19_X1_madeAt_6 (t19_X1_madeAt_7 (by omega) (fun c7 => (t19_X1_madeAt_28 (t19_X1_madeAt_29 ?_))) (fun c7 => (t19_X1_madeAt_10 (t19_X1_madeAt_11 (t19_X1_madeAt_12 (by first | assumption | rfl) (by first | assumption | rfl) (t19_X1_madeAt_15 (by first | assumption | rfl) (by decide) rfl (t19_X1_madeAt_16 (by omega) (by omega) (fun c16 => (t19_X1_madeAt_28 (t19_X1_madeAt_29 ?_))) (fun c16 => (t19_X1_madeAt_19 (t19_X1_madeAt_20 (by first | assumption | rfl) (by first | assumption | rfl) (t19_X1_madeAt_23 (t19_X1_madeAt_24 (by first | assumption | rfl) (by omega) (by omega) (by omega) (fun r24 => (t19_X1_madeAt_25 (t19_X1_madeAt_29 ?_))))))))))))))))))))))
  -- 3 leaves: 7t :ret29 | 7f 16t :ret29 | 7f 16f :ret29
  · exact qfl (by decide) (by unfold atL; rw [if_neg (by omega)])
  · exact qfl (by decide) (by unfold atL; rw [if_neg (by omega)])
  · exact qfl r24 (by unfold atL; rw [if_pos (by omega)])
theorem c_X1_keepMade {E : En} {I L : MI} {k q v : Int} (hk : 0 ≤ k ∧ k ≤ 100 := by omega) (hq : 0 ≤ q ∧ q ≤ 100 := by omega) (hv : Jr v := by omega) : CFv E 1 M_X1_keepMade [vr 33, vi k, vi q, vl v] I L I (stL L 36 28 (k * 4 + q) v) := by
  have h4 := arr36 (E := E)
  refine CM_of' (al := [vr _, vi _, vi _, vl _, vu, vu]) rfl (Nat.le_of_ble_eq_true rfl) rfl (fun hM => ?_)
  refine (t19_X1_keepMade_0 (t19_X1_keepMade_1 (t19_X1_keepMade_2 (t19_X1_keepMade_3 (t19_X1_keepMade_4 (t19_X1_keepMade_5 (t19_X1_keepMade_7 (t19_X1_keepMade_9 (by omega) (fun c9 => (t19_X1_keepMade_30 ?_)) (fun c9 => (t19_X1_keepMade_12 (t19_X1_keepMade_14 (t19_X1_keepMade_15 (by first | assumption | rfl) (by first | assumption | rfl) (t19_X1_keepMade_18 (by first | assumption | rfl) (by decide) rfl (t19_X1_keepMade_19 (by omega) (by omega) (fun c19 => (t19_X1_keepMade_30 ?_)) (fun c19 => (t19_X1_keepMade_22 (t19_X1_keepMade_23 (by first | assumption | rfl) (by first | assumption | rfl) (t19_X1_keepMade_26 (t19_X1_keepMade_28 (t19_X1_keepMade_29 (by first | assumption | rfl) (by omega) (by omega) (by omega) (by omega) (t19_X1_keepMade_30 ?_)))))))))))))))))))))
  -- 3 leaves: 9t :ret30 | 9f 19t :ret30 | 9f 19f :ret30
  · exact qfv rfl (by unfold stL; rw [if_neg (by omega)])
  · exact qfv rfl (by unfold stL; rw [if_neg (by omega)])
  · exact qfv rfl (by unfold stL; rw [if_pos (by omega)])
theorem stL_ne {L : MI} {a n o : Nat} {i z k : Int} (h : o ≠ a ∨ k ≠ i) : stL L a n i z o k = L o k := by
  unfold stL
  split
  · exact up2_ne h
  · rfl
theorem stL_at {L : MI} {a n : Nat} {i z : Int} (h : 0 ≤ i ∧ i < n) : stL L a n i z a i = z := by
  unfold stL
  rw [if_pos h, up2_eq]
theorem mn24 {n m : Nat} (hn : n ≤ 6) (hm : m ≤ 4) : (n : Int) * (m : Int) = ((n * m : Nat) : Int) ∧ n * m ≤ 24 := ⟨by simp, Nat.mul_le_mul hn hm⟩
def isQ (I L : MI) (r n m : Nat) : Int → MI → MI → Prop := fun z I' L' => L' = L ∧ (∀ o, o ≠ 33 → o ≠ 34 → ∀ k, I' o k = I o k) ∧ I' 33 3 = n ∧ I' 33 4 = m ∧ ((z = 1 ∧ ∀ i : Nat, i < n * m → (0 ≤ I (r + 1) i ∧ I (r + 1) i ≤ 3) ∧ I' 34 i = I (r + 1) i) ∨ (z = 0 ∧ ∃ i : Nat, i < n * m ∧ ¬ (0 ≤ I (r + 1) i ∧ I (r + 1) i ≤ 3)))
theorem c_X1_isTold {E : En} {I L : MI} {r n m : Nat} (hr : RwS r := by assumption) (hne : r + 1 < 33 ∨ 34 < r := by omega) (hn : n ≤ 6 := by omega) (hm : m ≤ 4 := by omega) : CQi E 3 M_X1_isTold [vr 33, vr r, vi (n : Int), vi (m : Int)] I L (isQ I L r n m) := by
  have h9 := hr.1
  obtain ⟨e1, e2⟩ := mn24 hn hm
  refine CM_of' (al := [vr _, vr _, vi _, vi _, vu, vu]) rfl (Nat.le_of_ble_eq_true rfl) rfl (fun hM => ?_)
  have key : ∀ (f : Nat) (i : Nat) (I1 : MI), n * m - i < f → i ≤ n * m → (∀ o, o ≠ 33 → o ≠ 34 → ∀ k, I1 o k = I o k) → I1 33 3 = n → I1 33 4 = m → (∀ j : Nat, j < i → (0 ≤ I (r + 1) j ∧ I (r + 1) j ≤ 3) ∧ I1 34 j = I (r + 1) j) → Ev E 3 M_X1_isTold 13 [vr 33, vr r, vi (n : Int), vi (m : Int), vi (i : Int), vu] [] (G0, 0, 0) I1 L (ZQ E M_X1_isTold (QQi (isQ I L r n m))) := by
    intro f
    induction f with
    | zero => intro i I1 h1 h2; omega
    | succ f ih =>
      intro i I1 i1 i2 fr h3 h4 hj
      have hi : atI I1 (r + 1) 40 i = I (r + 1) i := by rw [atI_in (by omega)]; exact fr _ (by omega) (by omega) _
      refine (t19_X1_isTold_13 (t19_X1_isTold_15 (t19_X1_isTold_16 (t19_X1_isTold_17 (t19_X1_isTold_18 (by omega) (by rw [e1]; omega) (fun c18 => (t19_X1_isTold_59 (t19_X1_isTold_60 (by first | exact Or.inl rfl | exact Or.inr rfl | assumption | omega) ?_))) (fun c18 => (t19_X1_isTold_21 (t19_X1_isTold_22 (t19_X1_isTold_24 (by first | assumption | rfl) c_X6_item (by first | decide | omega) (fun r24 => (t19_X1_isTold_27 (t19_X1_isTold_29 (t19_X1_isTold_31 (by omega) (fun c31 => (t19_X1_isTold_40 (t19_X1_isTold_41 (by first | exact Or.inl rfl | exact Or.inr rfl | assumption | omega) ?_))) (fun c31 => (t19_X1_isTold_34 (t19_X1_isTold_36 (t19_X1_isTold_37 (by omega) (by omega) (fun c37 => (t19_X1_isTold_42 (t19_X1_isTold_43 (by first | assumption | rfl) (by first | assumption | rfl) (t19_X1_isTold_46 (t19_X1_isTold_48 (t19_X1_isTold_50 c_X10_store (by first | decide | omega) (t19_X1_isTold_53 (t19_X1_isTold_56 (Ev.wk (al' := [_, _, _, _, _, vu]) ⟨.inl rfl, .inl rfl, .inl rfl, .inl rfl, .inl rfl, .inr rfl, trivial⟩ ?_))))))))) (fun c37 => (t19_X1_isTold_40 (t19_X1_isTold_41 (by first | exact Or.inl rfl | exact Or.inr rfl | assumption | omega) ?_))))))))))))))))))))
      -- 4 leaves: 18t :ret60 | 18f 31t :ret41 | 18f 31f 37t :->13 | 18f 31f 37f :ret41
      · have : i = n * m := by rw [e1] at c18; omega
        subst this
        exact qqi ⟨rfl, fr, h3, h4, .inl ⟨rfl, hj⟩⟩
      · rw [hi] at c31
        exact qqi ⟨rfl, fr, h3, h4, .inr ⟨rfl, i, by rw [e1] at c18; omega, by omega⟩⟩
      · rw [hi] at *
        rw [e1] at c18
        refine ih (i + 1) _ (by omega) (by omega) (fun o o1 o2 k => ?_) ?_ ?_ (fun j hj2 => ?_)
        · rw [stI_ne o2]; exact fr o o1 o2 k
        · rw [stI_ne (by decide)]; exact h3
        · rw [stI_ne (by decide)]; exact h4
        · rw [stI_in (by omega)]
          by_cases e : j = i
          · subst e; rw [up2_eq]; exact ⟨by omega, rfl⟩
          · rw [up2_ne (.inr (by omega))]; exact hj j (by omega)
      · rw [hi] at c37
        exact qqi ⟨rfl, fr, h3, h4, .inr ⟨rfl, i, by rw [e1] at c18; omega, by omega⟩⟩
  refine (t19_X1_isTold_0 (t19_X1_isTold_1 (t19_X1_isTold_2 (by first | assumption | rfl) (by omega) (t19_X1_isTold_5 (t19_X1_isTold_6 (t19_X1_isTold_7 (by first | assumption | rfl) (by omega) (t19_X1_isTold_10 (t19_X1_isTold_11 ?_))))))))
  -- 1 leaves: :->13
  refine key (n * m + 1) 0 _ (by omega) (by omega) (fun o o1 o2 k => ?_) ?_ ?_ (fun j hj => by omega)
  · rw [up2_ne (.inl o1), up2_ne (.inl o1)]
  · rw [up2_ne (.inr (by decide)), up2_eq]
  · rw [up2_eq]
/-! made longer by one THING -/
def cmI (p : Int) : Nat → Int → Int
  | 0, x => x
  | c + 1, x => if x ≤ 1000000000000000 then cmI p c (x * p) else x
theorem pwI_f (x p : Int) : ∀ c, pwI x p (c + 1) = pwI (tmI x p) p c := by
  intro c
  induction c with
  | zero => rfl
  | succ c ih => show tmI (pwI x p (c + 1)) p = tmI (pwI (tmI x p) p c) p; rw [ih]
theorem cmI_pw {p : Int} (hp : 0 < p) : ∀ (c : Nat) (x : Int), 0 < x → (cmI p c x ≤ 1000000000000000 → pwI x p c = cmI p c x ∧ 0 < cmI p c x) ∧ (¬ cmI p c x ≤ 1000000000000000 → x ≤ 1000000000000000 → pwI x p c = 0) := by
  intro c
  induction c with
  | zero => intro x hx; exact ⟨fun h => ⟨rfl, hx⟩, fun h h2 => absurd h2 h⟩
  | succ c ih =>
    intro x hx
    have hb := mul_big hx hp
    have hi := ih (x * p) (by omega)
    unfold cmI
    split
    next hle =>
      rw [pwI_f, tmI_pos hx hp]
      by_cases h2 : x * p ≤ 1000000000000000
      · rw [if_pos h2]
        exact ⟨hi.1, fun q _ => hi.2 q h2⟩
      · rw [if_neg h2, pwI_0]
        refine ⟨fun q => ?_, fun _ _ => rfl⟩
        exfalso
        cases c with
        | zero => exact h2 q
        | succ c => unfold cmI at q; rw [if_neg h2] at q; exact h2 q
    next hle => exact ⟨fun q => absurd q hle, fun _ q => absurd q hle⟩
theorem mul_r {x p : Int} (hx : 0 ≤ x ∧ x ≤ 1000000000000000) (hp : 0 ≤ p ∧ p ≤ 199) : 0 ≤ x * p ∧ x * p ≤ 199000000000000000 := by
  have h1 := Int.mul_nonneg hx.1 hp.1
  have h2 : x * p ≤ 1000000000000000 * 199 := Int.mul_le_mul hx.2 hp.2 hp.1 (by decide)
  omega
theorem ix6 {n m q t : Nat} (hn : n ≤ 6) (hm : m ≤ 4) (hq : q < m) (ht : t < n) : (q : Int) * (n : Int) = ((q * n : Nat) : Int) ∧ q * n + t < 24 ∧ q * n ≤ 18 := by
  have h1 : q * n ≤ 3 * n := Nat.mul_le_mul_right n (by omega)
  refine ⟨by simp, by omega, by omega⟩
/-- what a step of makes does: the rows made so far for k of the sayings -/
def mkQ (I L : MI) (n m t : Nat) (p : Int) (D V : Nat → Int) : Int → MI → MI → Prop := fun z I' L' => I' = I ∧ (∀ o, o ≠ 36 → ∀ k, L' o k = L o k) ∧ (∀ i : Int, i < (t + 1) * 4 → L' 36 i = L 36 i) ∧ ((z = 1 ∧ ∀ q : Nat, q < m → L' 36 ((t + 1) * 4 + q) = pwI (V q) p (D q).toNat ∧ 0 < pwI (V q) p (D q).toNat) ∨ (z = 0 ∧ ∃ q : Nat, q < m ∧ pwI (V q) p (D q).toNat = 0))
theorem c_X1_makes {E : En} {I L : MI} {n m t : Nat} {p : Int} {D V : Nat → Int} (hn : n ≤ 6 := by omega) (hm : m ≤ 4 := by omega) (ht : t < n := by omega) (hp : 2 ≤ p ∧ p ≤ 199 := by omega) (i3 : I 33 3 = n := by assumption) (i4 : I 33 4 = m := by assumption) (hD : ∀ q : Nat, q < m → I 34 ((q * n + t : Nat) : Int) = D q ∧ 0 ≤ D q ∧ D q ≤ 3 := by assumption) (hV : ∀ q : Nat, q < m → L 36 ((t : Int) * 4 + q) = V q ∧ 0 < V q ∧ V q ≤ 1000000000000000 := by assumption) : CQi E 2 M_X1_makes [vr 33, vi (t : Int), vi p] I L (mkQ I L n m t p D V) := by
  refine CM_of' (al := [vr _, vi _, vi _, vu, vu, vu, vu]) rfl (Nat.le_of_ble_eq_true rfl) rfl (fun hM => ?_)
  have outer : ∀ (f : Nat) (q : Nat) (L1 : MI), m - q < f → q ≤ m → (∀ o, o ≠ 36 → ∀ k, L1 o k = L o k) → (∀ i : Int, i < (t + 1) * 4 → L1 36 i = L 36 i) → (∀ j : Nat, j < q → L1 36 ((t + 1) * 4 + j) = pwI (V j) p (D j).toNat ∧ 0 < pwI (V j) p (D j).toNat) → Ev E 2 M_X1_makes 2 [vr 33, vi (t : Int), vi p, vi (q : Int), vu, vu, vu] [] (G0, 0, 0) I L1 (ZQ E M_X1_makes (QQi (mkQ I L n m t p D V))) := by
    intro f
    induction f with
    | zero => intro q L1 h1 h2; omega
    | succ f ih =>
      intro q L1 q1 q2 fr lo hj
      have inner : q < m → ∀ (c : Nat) (x : Int), 0 < x → x ≤ 199000000000000000 → (cmI p c x ≤ 1000000000000000 → pwI (V q) p (D q).toNat = cmI p c x ∧ 0 < cmI p c x) → (¬ cmI p c x ≤ 1000000000000000 → pwI (V q) p (D q).toNat = 0) → c ≤ 3 → Ev E 2 M_X1_makes 35 [vr 33, vi (t : Int), vi p, vi (q : Int), vl x, vu, vi (c : Int)] [] (G0, 0, 0) I L1 (ZQ E M_X1_makes (QQi (mkQ I L n m t p D V))) := by
        intro hqm c
        induction c with
        | zero =>
          intro x x0 x1 h1 h2 h3
          refine (t19_X1_makes_35 (t19_X1_makes_37 (by omega) (fun c37 => (t19_X1_makes_62 (t19_X1_makes_64 (t19_X1_makes_67 (by omega) (by omega) (fun c67 => ?_) (fun c67 => (t19_X1_makes_71 (t19_X1_makes_72 (by first | exact Or.inl rfl | exact Or.inr rfl | assumption | omega) ?_))))))) (fun c37 => (t19_X1_makes_40 (t19_X1_makes_42 (t19_X1_makes_45 (by omega) (by omega) (fun c45 => (t19_X1_makes_62 (t19_X1_makes_64 (t19_X1_makes_67 (by omega) (by omega) (fun c67 => ?_) (fun c67 => (t19_X1_makes_71 (t19_X1_makes_72 (by first | exact Or.inl rfl | exact Or.inr rfl | assumption | omega) ?_))))))) (fun c45 => (t19_X1_makes_49 (t19_X1_makes_51 (t19_X1_makes_52 (by omega) (t19_X1_makes_53 (t19_X1_makes_54 (t19_X1_makes_56 (t19_X1_makes_59 ?_))))))))))))))
          -- 5 leaves: 37t 67t :->73 | 37t 67f :ret72 | 37f 45t 67t :->73 | 37f 45t 67f :ret72 | 37f 45f :->35
          · have hx := h1 c67
            refine (t19_X1_makes_73 (t19_X1_makes_74 (t19_X1_makes_75 (t19_X1_makes_76 (t19_X1_makes_77 (t19_X1_makes_78 (t19_X1_makes_80 (by first | assumption | rfl) c_X1_keepMade (by first | decide | omega) (t19_X1_makes_83 (t19_X1_makes_86 (Ev.wk (al' := [_, _, _, _, vu, vu, vu]) ⟨.inl rfl, .inl rfl, .inl rfl, .inl rfl, .inr rfl, .inl rfl, .inr rfl, trivial⟩ ?_))))))))))
            -- 1 leaves: :->2
            have hx2 : pwI (V q) p (D q).toNat = x := hx.1
            refine ih (q + 1) _ (by omega) (by omega) (fun o o1 k => by rw [stL_ne (.inl o1)]; exact fr o o1 k) (fun i hi => by rw [stL_ne (.inr (by omega))]; exact lo i hi) (fun j hj2 => ?_)
            by_cases e : j = q
            · subst e
              rw [stL_at (by omega)]
              exact ⟨hx2.symm, by rw [hx2]; exact x0⟩
            · rw [stL_ne (.inr (by omega))]
              exact hj j (by omega)
          · exact qqi ⟨rfl, fr, lo, .inr ⟨rfl, q, hqm, h2 (by show ¬ x ≤ _; omega)⟩⟩
          · omega
          · omega
          · omega
        | succ c ihc =>
          intro x x0 x1 h1 h2 h3
          have hpw := cmI_pw (show 0 < p by omega) c
          refine (t19_X1_makes_35 (t19_X1_makes_37 (by omega) (fun c37 => (t19_X1_makes_62 (t19_X1_makes_64 (t19_X1_makes_67 (by omega) (by omega) (fun c67 => ?_) (fun c67 => (t19_X1_makes_71 (t19_X1_makes_72 (by first | exact Or.inl rfl | exact Or.inr rfl | assumption | omega) ?_))))))) (fun c37 => (t19_X1_makes_40 (t19_X1_makes_42 (t19_X1_makes_45 (by omega) (by omega) (fun c45 => (t19_X1_makes_62 (t19_X1_makes_64 (t19_X1_makes_67 (by omega) (by omega) (fun c67 => ?_) (fun c67 => (t19_X1_makes_71 (t19_X1_makes_72 (by first | exact Or.inl rfl | exact Or.inr rfl | assumption | omega) ?_))))))) (fun c45 => ?_)))))))
          -- 5 leaves: 37t 67t :->73 | 37t 67f :ret72 | 37f 45t 67t :->73 | 37f 45t 67f :ret72 | 37f 45f :->49
          · omega
          · omega
          · omega
          · have e : cmI p (c + 1) x = x := by unfold cmI; rw [if_neg (by omega)]
            exact qqi ⟨rfl, fr, lo, .inr ⟨rfl, q, hqm, h2 (by rw [e]; omega)⟩⟩
          · have mr := mul_r (x := x) (p := p) ⟨by omega, by omega⟩ (by omega)
            have mb := mul_big (a := x) (b := p) (by omega) (by omega)
            have e : cmI p (c + 1) x = cmI p c (x * p) := by
              show (if x ≤ 1000000000000000 then cmI p c (x * p) else x) = cmI p c (x * p)
              rw [if_pos (by omega)]
            rw [e] at h1 h2
            have h := ihc (x * p) (by omega) (by omega) h1 h2 (by omega)
            refine (t19_X1_makes_49 (t19_X1_makes_51 (t19_X1_makes_52 (by omega) (t19_X1_makes_53 (t19_X1_makes_54 (t19_X1_makes_56 (t19_X1_makes_59 ?_)))))))
            -- 1 leaves: :->35
            have e3 : ((c + 1 : Nat) : Int) + (-1) = (c : Int) := by omega
            rw [e3]
            exact h
      refine (t19_X1_makes_2 (t19_X1_makes_3 (t19_X1_makes_4 (by first | assumption | rfl) (fun r4 => (t19_X1_makes_7 (by omega) (by omega) (fun c7 => (t19_X1_makes_89 (t19_X1_makes_90 (by first | exact Or.inl rfl | exact Or.inr rfl | assumption | omega) ?_))) (fun c7 => ?_))))))
      -- 2 leaves: 7t :ret90 | 7f :->10
      · have : q = m := by omega
        subst this
        exact qqi ⟨rfl, fr, lo, .inl ⟨rfl, hj⟩⟩
      · have hqm : q < m := by omega
        obtain ⟨e1, e2, e4⟩ := ix6 hn hm hqm ht
        have v := hV q hqm
        have dq := hD q hqm
        have rv : atL L1 36 28 ((t : Int) * 4 + q) = V q := by
          unfold atL
          rw [if_pos (by omega), lo _ (by omega)]
          exact v.1
        refine (t19_X1_makes_10 (t19_X1_makes_11 (t19_X1_makes_12 (t19_X1_makes_13 (by first | assumption | rfl) c_X1_madeAt (by first | decide | omega) (fun r13 => (t19_X1_makes_16 ?_))))))
        -- 1 leaves: :->18
        rw [rv]
        refine (t19_X1_makes_18 (t19_X1_makes_19 (by first | assumption | rfl) (by first | assumption | rfl) (t19_X1_makes_22 (t19_X1_makes_23 (t19_X1_makes_24 (by first | assumption | rfl) (fun r24 => (t19_X1_makes_27 (t19_X1_makes_28 (t19_X1_makes_29 ?_)))))))))
        -- 1 leaves: :->30
        rw [i3, e1]
        have e3 : (((q * n : Nat) : Int) + (t : Int)) = ((q * n + t : Nat) : Int) := by omega
        rw [e3]
        refine (t19_X1_makes_30 c_X10_at (by first | decide | omega) (fun r30 => (t19_X1_makes_33 ?_)))
        -- 1 leaves: :->35
        have rt : atI I 34 24 ((q * n + t : Nat) : Int) = D q := by rw [atI_in (by omega)]; exact dq.1
        rw [rt]
        have hpw := cmI_pw (show 0 < p by omega) (D q).toNat (V q) v.2.1
        have h := inner hqm (D q).toNat (V q) v.2.1 (by omega) hpw.1 (fun h => hpw.2 h v.2.2) (by omega)
        rw [Int.toNat_of_nonneg dq.2.1] at h
        exact h
  refine (t19_X1_makes_0 (t19_X1_makes_1 ?_))
  -- 1 leaves: :->2
  exact outer (m + 1) 0 L (by omega) (by omega) (fun o _ k => rfl) (fun i _ => rfl) (fun j hj => by omega)
