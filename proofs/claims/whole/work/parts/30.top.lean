theorem t30_X10_found_0 {E : En} {d : Nat} {κ : Kp} {I L : MI} {Z : Zt} {a0 : Nat} {a1 : Int}  (k : Ev E d M_X10_found 1 [vr a0, vi a1] [vr a0] κ I L Z) : Ev E d M_X10_found 0 [vr a0, vi a1] [] κ I L Z := E_aload_n dX10_found_0 rfl k
theorem t30_X10_found_1 {E : En} {d : Nat} {κ : Kp} {I L : MI} {Z : Zt} {a0 b0 : Nat} {a1 : Int}  (k : Ev E d M_X10_found 2 [vr a0, vi a1] [vi a1, vr b0] κ I L Z) : Ev E d M_X10_found 1 [vr a0, vi a1] [vr b0] κ I L Z := E_iload_n dX10_found_1 rfl k
theorem t30_X10_found_2 {E : En} {d : Nat} {κ : Kp} {I L : MI} {Z : Zt} {a0 b1 : Nat} {a1 b0 : Int} (hs : κ.1.1[b1]? = some (.inl 10)) (hz : Ir b0) (k : Ev E d M_X10_found 5 [vr a0, vi a1] [] κ (up2 I b1 12 b0) L Z) : Ev E d M_X10_found 2 [vr a0, vi a1] [vi b0, vr b1] κ I L Z := E_putI (ci := 10) (n := 12) dX10_found_2 wF_RX10_319 (by decide) hs rfl rfl hz k
theorem t30_X10_found_5 {E : En} {d : Nat} {κ : Kp} {I L : MI} {Z : Zt} {a0 : Nat} {a1 : Int}  (k : Ev E d M_X10_found 8 [vr a0, vi a1] [vl (-9000000000000000010)] κ I L Z) : Ev E d M_X10_found 5 [vr a0, vi a1] [] κ I L Z := E_ldc2 (v := (-9000000000000000010)) dX10_found_5 wK_RX10_322 k
theorem t30_X10_found_8 {E : En} {d : Nat} {κ : Kp} {I L : MI} {Z : Zt} {a0 : Nat} {a1 b0 : Int}  (k : Ev E d M_X10_found 9 [vr a0, vi a1] [vi a1, vl b0] κ I L Z) : Ev E d M_X10_found 8 [vr a0, vi a1] [vl b0] κ I L Z := E_iload_n dX10_found_8 rfl k
theorem t30_X10_found_9 {E : En} {d : Nat} {κ : Kp} {I L : MI} {Z : Zt} {a0 : Nat} {a1 b0 b1 : Int} (hx : Ir b0) (k : Ev E d M_X10_found 10 [vr a0, vi a1] [vl b0, vl b1] κ I L Z) : Ev E d M_X10_found 9 [vr a0, vi a1] [vi b0, vl b1] κ I L Z := E_i2l dX10_found_9 hx k
theorem t30_X10_found_10 {E : En} {d : Nat} {κ : Kp} {I L : MI} {Z : Zt} {a0 : Nat} {a1 b0 b1 : Int}  (k : Ev E d M_X10_found 11 [vr a0, vi a1] [vl (b1 - b0)] κ I L Z) : Ev E d M_X10_found 10 [vr a0, vi a1] [vl b0, vl b1] κ I L Z := E_lsub dX10_found_10 k
theorem t30_X10_found_11 {E : En} {d : Nat} {g : Geo} {I L : MI} {Q : Option AV → Geo → MI → MI → Prop} {cs : Nat × Nat} {a0 : Nat} {a1 b0 : Int} (hq : Q (some (vl b0)) g I L) (h1 : cs.1 ≤ M_X10_found.2.2.2.2.1 := by decide) (h2 : cs.2 ≤ M_X10_found.2.2.2.2.2 := by decide) : Ev E d M_X10_found 11 [vr a0, vi a1] [vl b0] (g, cs) I L (ZQ E M_X10_found Q) := E_lreturn rfl dX10_found_11 hq h1 h2
theorem t30_X10_fine_0 {E : En} {d : Nat} {κ : Kp} {I L : MI} {Z : Zt} {a0 : Nat} {a1 : Int}  (k : Ev E d M_X10_fine 1 [vr a0, vl a1, vu] [vr a0] κ I L Z) : Ev E d M_X10_fine 0 [vr a0, vl a1, vu] [] κ I L Z := E_aload_n dX10_fine_0 rfl k
theorem t30_X10_fine_1 {E : En} {d : Nat} {κ : Kp} {I L : MI} {Z : Zt} {a0 b0 : Nat} {a1 : Int}  (k : Ev E d M_X10_fine 2 [vr a0, vl a1, vu] [vi 0, vr b0] κ I L Z) : Ev E d M_X10_fine 1 [vr a0, vl a1, vu] [vr b0] κ I L Z := E_iconst (v := 0) dX10_fine_1 rfl k
theorem t30_X10_fine_2 {E : En} {d : Nat} {κ : Kp} {I L : MI} {Z : Zt} {a0 b1 : Nat} {a1 b0 : Int} (hs : κ.1.1[b1]? = some (.inl 10)) (hz : Ir b0) (k : Ev E d M_X10_fine 5 [vr a0, vl a1, vu] [] κ (up2 I b1 12 b0) L Z) : Ev E d M_X10_fine 2 [vr a0, vl a1, vu] [vi b0, vr b1] κ I L Z := E_putI (ci := 10) (n := 12) dX10_fine_2 wF_RX10_319 (by decide) hs rfl rfl hz k
theorem t30_X10_fine_5 {E : En} {d : Nat} {κ : Kp} {I L : MI} {Z : Zt} {a0 : Nat} {a1 : Int}  (k : Ev E d M_X10_fine 6 [vr a0, vl a1, vu] [vl a1] κ I L Z) : Ev E d M_X10_fine 5 [vr a0, vl a1, vu] [] κ I L Z := E_lload_n dX10_fine_5 rfl k
theorem t30_X10_fine_6 {E : En} {d : Nat} {g : Geo} {I L : MI} {Q : Option AV → Geo → MI → MI → Prop} {cs : Nat × Nat} {a0 : Nat} {a1 b0 : Int} (hq : Q (some (vl b0)) g I L) (h1 : cs.1 ≤ M_X10_fine.2.2.2.2.1 := by decide) (h2 : cs.2 ≤ M_X10_fine.2.2.2.2.2 := by decide) : Ev E d M_X10_fine 6 [vr a0, vl a1, vu] [vl b0] (g, cs) I L (ZQ E M_X10_fine Q) := E_lreturn rfl dX10_fine_6 hq h1 h2
theorem t30_X10_rowAt_0 {E : En} {d : Nat} {κ : Kp} {I L : MI} {Z : Zt} {a0 : Nat} {a1 : Int}  (k : Ev E d M_X10_rowAt 1 [vr a0, vi a1] [vi a1] κ I L Z) : Ev E d M_X10_rowAt 0 [vr a0, vi a1] [] κ I L Z := E_iload_n dX10_rowAt_0 rfl k
theorem t30_X10_rowAt_1 {E : En} {d : Nat} {κ : Kp} {I L : MI} {Z : Zt} {a0 : Nat} {a1 b0 : Int} (hx : Ir b0) (kt : b0 < 0 → Ev E d M_X10_rowAt 22 [vr a0, vi a1] [] κ I L Z) (kf : 0 ≤ b0 → Ev E d M_X10_rowAt 4 [vr a0, vi a1] [] κ I L Z) : Ev E d M_X10_rowAt 1 [vr a0, vi a1] [vi b0] κ I L Z := E_if_lt dX10_rowAt_1 hx kt kf (by decide)
theorem t30_X10_rowAt_22 {E : En} {d : Nat} {κ : Kp} {I L : MI} {Z : Zt} {a0 : Nat} {a1 : Int}  (k : Ev E d M_X10_rowAt 23 [vr a0, vi a1] [vn] κ I L Z) : Ev E d M_X10_rowAt 22 [vr a0, vi a1] [] κ I L Z := E_aconst dX10_rowAt_22 k
theorem t30_X10_rowAt_23 {E : En} {d : Nat} {g : Geo} {I L : MI} {Q : Option AV → Geo → MI → MI → Prop} {cs : Nat × Nat} {a0 : Nat} {a1 : Int} (hq : Q (some vn) g I L) (h1 : cs.1 ≤ M_X10_rowAt.2.2.2.2.1 := by decide) (h2 : cs.2 ≤ M_X10_rowAt.2.2.2.2.2 := by decide) : Ev E d M_X10_rowAt 23 [vr a0, vi a1] [vn] (g, cs) I L (ZQ E M_X10_rowAt Q) := E_areturnN rfl dX10_rowAt_23 hq h1 h2
theorem t30_X10_rowAt_4 {E : En} {d : Nat} {κ : Kp} {I L : MI} {Z : Zt} {a0 : Nat} {a1 : Int}  (k : Ev E d M_X10_rowAt 5 [vr a0, vi a1] [vi a1] κ I L Z) : Ev E d M_X10_rowAt 4 [vr a0, vi a1] [] κ I L Z := E_iload_n dX10_rowAt_4 rfl k
theorem t30_X10_rowAt_5 {E : En} {d : Nat} {κ : Kp} {I L : MI} {Z : Zt} {a0 : Nat} {a1 b0 : Int}  (k : Ev E d M_X10_rowAt 6 [vr a0, vi a1] [vr a0, vi b0] κ I L Z) : Ev E d M_X10_rowAt 5 [vr a0, vi a1] [vi b0] κ I L Z := E_aload_n dX10_rowAt_5 rfl k
theorem t30_X10_rowAt_6 {E : En} {d : Nat} {κ : Kp} {I L : MI} {Z : Zt} {a0 b0 : Nat} {a1 b1 : Int} {q : Nat} (hs : κ.1.1[b0]? = some (.inl 10)) (hq : κ.1.2 b0 0 = some q) (k : Ev E d M_X10_rowAt 9 [vr a0, vi a1] [vr q, vi b1] κ I L Z) : Ev E d M_X10_rowAt 6 [vr a0, vi a1] [vr b0, vi b1] κ I L Z := E_getR (ci := 10) (n := 0) dX10_rowAt_6 wF_RX10_11 (by decide) hs rfl hq k
theorem t30_X10_rowAt_9 {E : En} {d : Nat} {κ : Kp} {I L : MI} {Z : Zt} {a0 b0 : Nat} {a1 b1 : Int} {n kd : Nat} {z : Int} (ha : arr E κ.1 b0 = some (kd, n)) (hk : kd < 6) (hz : (n : Int) = z) (k : Ev E d M_X10_rowAt 10 [vr a0, vi a1] [vi z, vi b1] κ I L Z) : Ev E d M_X10_rowAt 9 [vr a0, vi a1] [vr b0, vi b1] κ I L Z := E_alen dX10_rowAt_9 ha hk hz k
theorem t30_X10_rowAt_10 {E : En} {d : Nat} {κ : Kp} {I L : MI} {Z : Zt} {a0 : Nat} {a1 b0 b1 : Int} (hx : Ir b1) (hy : Ir b0) (kt : b0 ≤ b1 → Ev E d M_X10_rowAt 22 [vr a0, vi a1] [] κ I L Z) (kf : b1 < b0 → Ev E d M_X10_rowAt 13 [vr a0, vi a1] [] κ I L Z) : Ev E d M_X10_rowAt 10 [vr a0, vi a1] [vi b0, vi b1] κ I L Z := E_icmp_ge dX10_rowAt_10 hx hy kt kf (by decide)
theorem t30_X10_rowAt_13 {E : En} {d : Nat} {κ : Kp} {I L : MI} {Z : Zt} {a0 : Nat} {a1 : Int}  (k : Ev E d M_X10_rowAt 14 [vr a0, vi a1] [vr a0] κ I L Z) : Ev E d M_X10_rowAt 13 [vr a0, vi a1] [] κ I L Z := E_aload_n dX10_rowAt_13 rfl k
theorem t30_X10_rowAt_14 {E : En} {d : Nat} {κ : Kp} {I L : MI} {Z : Zt} {a0 b0 : Nat} {a1 : Int} {q : Nat} (hs : κ.1.1[b0]? = some (.inl 10)) (hq : κ.1.2 b0 0 = some q) (k : Ev E d M_X10_rowAt 17 [vr a0, vi a1] [vr q] κ I L Z) : Ev E d M_X10_rowAt 14 [vr a0, vi a1] [vr b0] κ I L Z := E_getR (ci := 10) (n := 0) dX10_rowAt_14 wF_RX10_11 (by decide) hs rfl hq k
theorem t30_X10_rowAt_17 {E : En} {d : Nat} {κ : Kp} {I L : MI} {Z : Zt} {a0 b0 : Nat} {a1 : Int}  (k : Ev E d M_X10_rowAt 18 [vr a0, vi a1] [vi a1, vr b0] κ I L Z) : Ev E d M_X10_rowAt 17 [vr a0, vi a1] [vr b0] κ I L Z := E_iload_n dX10_rowAt_17 rfl k
theorem t30_X10_rowAt_18 {E : En} {d : Nat} {κ : Kp} {I L : MI} {Z : Zt} {a0 b1 : Nat} {a1 b0 : Int} {n q : Nat} (ha : arr E κ.1 b1 = some (4, n)) (h0 : 0 ≤ b0) (h1 : b0 < n) (hi : Ir b0) (hq : κ.1.2 b1 b0 = some q) (k : Ev E d M_X10_rowAt 19 [vr a0, vi a1] [vr q] κ I L Z) : Ev E d M_X10_rowAt 18 [vr a0, vi a1] [vi b0, vr b1] κ I L Z := E_aald (kd := 0) dX10_rowAt_18 ha (by decide) h0 h1 hi hq k
theorem t30_X10_rowAt_19 {E : En} {d : Nat} {κ : Kp} {I L : MI} {Z : Zt} {a0 b0 : Nat} {a1 : Int}  (k : Ev E d M_X10_rowAt 23 [vr a0, vi a1] [vr b0] κ I L Z) : Ev E d M_X10_rowAt 19 [vr a0, vi a1] [vr b0] κ I L Z := E_goto dX10_rowAt_19 (by decide) k
theorem t30_X10_rowAt_23v1 {E : En} {d : Nat} {g : Geo} {I L : MI} {Q : Option AV → Geo → MI → MI → Prop} {cs : Nat × Nat} {a0 b0 : Nat} {a1 : Int} (hq : Q (some (vr b0)) g I L) (h1 : cs.1 ≤ M_X10_rowAt.2.2.2.2.1 := by decide) (h2 : cs.2 ≤ M_X10_rowAt.2.2.2.2.2 := by decide) : Ev E d M_X10_rowAt 23 [vr a0, vi a1] [vr b0] (g, cs) I L (ZQ E M_X10_rowAt Q) := E_areturn rfl dX10_rowAt_23 hq h1 h2
theorem t30_X10_imageAt_0 {E : En} {d : Nat} {κ : Kp} {I L : MI} {Z : Zt} {a0 : Nat} {a1 : Int}  (k : Ev E d M_X10_imageAt 1 [vr a0, vi a1] [vi a1] κ I L Z) : Ev E d M_X10_imageAt 0 [vr a0, vi a1] [] κ I L Z := E_iload_n dX10_imageAt_0 rfl k
theorem t30_X10_imageAt_1 {E : En} {d : Nat} {κ : Kp} {I L : MI} {Z : Zt} {a0 : Nat} {a1 b0 : Int} (hx : Ir b0) (kt : b0 < 0 → Ev E d M_X10_imageAt 22 [vr a0, vi a1] [] κ I L Z) (kf : 0 ≤ b0 → Ev E d M_X10_imageAt 4 [vr a0, vi a1] [] κ I L Z) : Ev E d M_X10_imageAt 1 [vr a0, vi a1] [vi b0] κ I L Z := E_if_lt dX10_imageAt_1 hx kt kf (by decide)
theorem t30_X10_imageAt_22 {E : En} {d : Nat} {κ : Kp} {I L : MI} {Z : Zt} {a0 : Nat} {a1 : Int}  (k : Ev E d M_X10_imageAt 23 [vr a0, vi a1] [vn] κ I L Z) : Ev E d M_X10_imageAt 22 [vr a0, vi a1] [] κ I L Z := E_aconst dX10_imageAt_22 k
theorem t30_X10_imageAt_23 {E : En} {d : Nat} {g : Geo} {I L : MI} {Q : Option AV → Geo → MI → MI → Prop} {cs : Nat × Nat} {a0 : Nat} {a1 : Int} (hq : Q (some vn) g I L) (h1 : cs.1 ≤ M_X10_imageAt.2.2.2.2.1 := by decide) (h2 : cs.2 ≤ M_X10_imageAt.2.2.2.2.2 := by decide) : Ev E d M_X10_imageAt 23 [vr a0, vi a1] [vn] (g, cs) I L (ZQ E M_X10_imageAt Q) := E_areturnN rfl dX10_imageAt_23 hq h1 h2
theorem t30_X10_imageAt_4 {E : En} {d : Nat} {κ : Kp} {I L : MI} {Z : Zt} {a0 : Nat} {a1 : Int}  (k : Ev E d M_X10_imageAt 5 [vr a0, vi a1] [vi a1] κ I L Z) : Ev E d M_X10_imageAt 4 [vr a0, vi a1] [] κ I L Z := E_iload_n dX10_imageAt_4 rfl k
theorem t30_X10_imageAt_5 {E : En} {d : Nat} {κ : Kp} {I L : MI} {Z : Zt} {a0 : Nat} {a1 b0 : Int}  (k : Ev E d M_X10_imageAt 6 [vr a0, vi a1] [vr a0, vi b0] κ I L Z) : Ev E d M_X10_imageAt 5 [vr a0, vi a1] [vi b0] κ I L Z := E_aload_n dX10_imageAt_5 rfl k
theorem t30_X10_imageAt_6 {E : En} {d : Nat} {κ : Kp} {I L : MI} {Z : Zt} {a0 b0 : Nat} {a1 b1 : Int} {q : Nat} (hs : κ.1.1[b0]? = some (.inl 10)) (hq : κ.1.2 b0 5 = some q) (k : Ev E d M_X10_imageAt 9 [vr a0, vi a1] [vr q, vi b1] κ I L Z) : Ev E d M_X10_imageAt 6 [vr a0, vi a1] [vr b0, vi b1] κ I L Z := E_getR (ci := 10) (n := 5) dX10_imageAt_6 wF_RX10_45 (by decide) hs rfl hq k
theorem t30_X10_imageAt_9 {E : En} {d : Nat} {κ : Kp} {I L : MI} {Z : Zt} {a0 b0 : Nat} {a1 b1 : Int} {n kd : Nat} {z : Int} (ha : arr E κ.1 b0 = some (kd, n)) (hk : kd < 6) (hz : (n : Int) = z) (k : Ev E d M_X10_imageAt 10 [vr a0, vi a1] [vi z, vi b1] κ I L Z) : Ev E d M_X10_imageAt 9 [vr a0, vi a1] [vr b0, vi b1] κ I L Z := E_alen dX10_imageAt_9 ha hk hz k
theorem t30_X10_imageAt_10 {E : En} {d : Nat} {κ : Kp} {I L : MI} {Z : Zt} {a0 : Nat} {a1 b0 b1 : Int} (hx : Ir b1) (hy : Ir b0) (kt : b0 ≤ b1 → Ev E d M_X10_imageAt 22 [vr a0, vi a1] [] κ I L Z) (kf : b1 < b0 → Ev E d M_X10_imageAt 13 [vr a0, vi a1] [] κ I L Z) : Ev E d M_X10_imageAt 10 [vr a0, vi a1] [vi b0, vi b1] κ I L Z := E_icmp_ge dX10_imageAt_10 hx hy kt kf (by decide)
theorem t30_X10_imageAt_13 {E : En} {d : Nat} {κ : Kp} {I L : MI} {Z : Zt} {a0 : Nat} {a1 : Int}  (k : Ev E d M_X10_imageAt 14 [vr a0, vi a1] [vr a0] κ I L Z) : Ev E d M_X10_imageAt 13 [vr a0, vi a1] [] κ I L Z := E_aload_n dX10_imageAt_13 rfl k
theorem t30_X10_imageAt_14 {E : En} {d : Nat} {κ : Kp} {I L : MI} {Z : Zt} {a0 b0 : Nat} {a1 : Int} {q : Nat} (hs : κ.1.1[b0]? = some (.inl 10)) (hq : κ.1.2 b0 5 = some q) (k : Ev E d M_X10_imageAt 17 [vr a0, vi a1] [vr q] κ I L Z) : Ev E d M_X10_imageAt 14 [vr a0, vi a1] [vr b0] κ I L Z := E_getR (ci := 10) (n := 5) dX10_imageAt_14 wF_RX10_45 (by decide) hs rfl hq k
theorem t30_X10_imageAt_17 {E : En} {d : Nat} {κ : Kp} {I L : MI} {Z : Zt} {a0 b0 : Nat} {a1 : Int}  (k : Ev E d M_X10_imageAt 18 [vr a0, vi a1] [vi a1, vr b0] κ I L Z) : Ev E d M_X10_imageAt 17 [vr a0, vi a1] [vr b0] κ I L Z := E_iload_n dX10_imageAt_17 rfl k
theorem t30_X10_imageAt_18 {E : En} {d : Nat} {κ : Kp} {I L : MI} {Z : Zt} {a0 b1 : Nat} {a1 b0 : Int} {n q : Nat} (ha : arr E κ.1 b1 = some (5, n)) (h0 : 0 ≤ b0) (h1 : b0 < n) (hi : Ir b0) (hq : κ.1.2 b1 b0 = some q) (k : Ev E d M_X10_imageAt 19 [vr a0, vi a1] [vr q] κ I L Z) : Ev E d M_X10_imageAt 18 [vr a0, vi a1] [vi b0, vr b1] κ I L Z := E_aald (kd := 1) dX10_imageAt_18 ha (by decide) h0 h1 hi hq k
theorem t30_X10_imageAt_19 {E : En} {d : Nat} {κ : Kp} {I L : MI} {Z : Zt} {a0 b0 : Nat} {a1 : Int}  (k : Ev E d M_X10_imageAt 23 [vr a0, vi a1] [vr b0] κ I L Z) : Ev E d M_X10_imageAt 19 [vr a0, vi a1] [vr b0] κ I L Z := E_goto dX10_imageAt_19 (by decide) k
theorem t30_X10_imageAt_23v1 {E : En} {d : Nat} {g : Geo} {I L : MI} {Q : Option AV → Geo → MI → MI → Prop} {cs : Nat × Nat} {a0 b0 : Nat} {a1 : Int} (hq : Q (some (vr b0)) g I L) (h1 : cs.1 ≤ M_X10_imageAt.2.2.2.2.1 := by decide) (h2 : cs.2 ≤ M_X10_imageAt.2.2.2.2.2 := by decide) : Ev E d M_X10_imageAt 23 [vr a0, vi a1] [vr b0] (g, cs) I L (ZQ E M_X10_imageAt Q) := E_areturn rfl dX10_imageAt_23 hq h1 h2
theorem t30_X10_shared_9 {E : En} {d : Nat} {κ : Kp} {I L : MI} {Z : Zt} {a0 a2 a4 a6 a8 : Int}  (k : Ev E d M_X10_shared 11 [vl a0, vu, vl a2, vu, vl a4, vu, vl a6, vu, vi a8, vu, vu] [vi a8] κ I L Z) : Ev E d M_X10_shared 9 [vl a0, vu, vl a2, vu, vl a4, vu, vl a6, vu, vi a8, vu, vu] [] κ I L Z := E_iload dX10_shared_9 rfl k
theorem t30_X10_shared_11 {E : En} {d : Nat} {κ : Kp} {I L : MI} {Z : Zt} {a0 a2 a4 a6 a8 b0 : Int}  (k : Ev E d M_X10_shared 14 [vl a0, vu, vl a2, vu, vl a4, vu, vl a6, vu, vi a8, vu, vu] [vi 128, vi b0] κ I L Z) : Ev E d M_X10_shared 11 [vl a0, vu, vl a2, vu, vl a4, vu, vl a6, vu, vi a8, vu, vu] [vi b0] κ I L Z := E_sipush (v := 128) dX10_shared_11 rfl k
theorem t30_X10_shared_14 {E : En} {d : Nat} {κ : Kp} {I L : MI} {Z : Zt} {a0 a2 a4 a6 a8 b0 b1 : Int} (hx : Ir b1) (hy : Ir b0) (kt : b0 ≤ b1 → Ev E d M_X10_shared 45 [vl a0, vu, vl a2, vu, vl a4, vu, vl a6, vu, vi a8, vu, vu] [] κ I L Z) (kf : b1 < b0 → Ev E d M_X10_shared 17 [vl a0, vu, vl a2, vu, vl a4, vu, vl a6, vu, vi a8, vu, vu] [] κ I L Z) : Ev E d M_X10_shared 14 [vl a0, vu, vl a2, vu, vl a4, vu, vl a6, vu, vi a8, vu, vu] [vi b0, vi b1] κ I L Z := E_icmp_ge dX10_shared_14 hx hy kt kf (by decide)
theorem t30_X10_shared_45 {E : En} {d : Nat} {κ : Kp} {I L : MI} {Z : Zt} {a0 a2 a4 a6 a8 : Int}  (k : Ev E d M_X10_shared 47 [vl a0, vu, vl a2, vu, vl a4, vu, vl a6, vu, vi a8, vu, vu] [vl a4] κ I L Z) : Ev E d M_X10_shared 45 [vl a0, vu, vl a2, vu, vl a4, vu, vl a6, vu, vi a8, vu, vu] [] κ I L Z := E_lload dX10_shared_45 rfl k
theorem t30_X10_shared_47 {E : En} {d : Nat} {g : Geo} {I L : MI} {Q : Option AV → Geo → MI → MI → Prop} {cs : Nat × Nat} {a0 a2 a4 a6 a8 b0 : Int} (hq : Q (some (vl b0)) g I L) (h1 : cs.1 ≤ M_X10_shared.2.2.2.2.1 := by decide) (h2 : cs.2 ≤ M_X10_shared.2.2.2.2.2 := by decide) : Ev E d M_X10_shared 47 [vl a0, vu, vl a2, vu, vl a4, vu, vl a6, vu, vi a8, vu, vu] [vl b0] (g, cs) I L (ZQ E M_X10_shared Q) := E_lreturn rfl dX10_shared_47 hq h1 h2
theorem t30_X10_shared_17 {E : En} {d : Nat} {κ : Kp} {I L : MI} {Z : Zt} {a0 a2 a4 a6 a8 : Int}  (k : Ev E d M_X10_shared 19 [vl a0, vu, vl a2, vu, vl a4, vu, vl a6, vu, vi a8, vu, vu] [vl a6] κ I L Z) : Ev E d M_X10_shared 17 [vl a0, vu, vl a2, vu, vl a4, vu, vl a6, vu, vi a8, vu, vu] [] κ I L Z := E_lload dX10_shared_17 rfl k
theorem t30_X10_shared_19 {E : En} {d : Nat} {κ : Kp} {I L : MI} {Z : Zt} {a0 a2 a4 a6 a8 b0 : Int}  (k : Ev E d M_X10_shared 20 [vl a0, vu, vl a2, vu, vl a4, vu, vl a6, vu, vi a8, vu, vu] [vl 0, vl b0] κ I L Z) : Ev E d M_X10_shared 19 [vl a0, vu, vl a2, vu, vl a4, vu, vl a6, vu, vi a8, vu, vu] [vl b0] κ I L Z := E_lconst (v := 0) dX10_shared_19 rfl k
theorem t30_X10_shared_20 {E : En} {d : Nat} {κ : Kp} {I L : MI} {Z : Zt} {a0 a2 a4 a6 a8 b0 b1 : Int} (hx : Jr b1) (hy : Jr b0) (kt : b1 = b0 → Ev E d M_X10_shared 45 [vl a0, vu, vl a2, vu, vl a4, vu, vl a6, vu, vi a8, vu, vu] [] κ I L Z) (kf : ¬ b1 = b0 → Ev E d M_X10_shared 24 [vl a0, vu, vl a2, vu, vl a4, vu, vl a6, vu, vi a8, vu, vu] [] κ I L Z) : Ev E d M_X10_shared 20 [vl a0, vu, vl a2, vu, vl a4, vu, vl a6, vu, vi a8, vu, vu] [vl b0, vl b1] κ I L Z := E_lcmp_eq dX10_shared_20 dX10_shared_21 hx hy kt kf (by decide)
theorem t30_X10_shared_24 {E : En} {d : Nat} {κ : Kp} {I L : MI} {Z : Zt} {a0 a2 a4 a6 a8 : Int}  (k : Ev E d M_X10_shared 26 [vl a0, vu, vl a2, vu, vl a4, vu, vl a6, vu, vi a8, vu, vu] [vl a4] κ I L Z) : Ev E d M_X10_shared 24 [vl a0, vu, vl a2, vu, vl a4, vu, vl a6, vu, vi a8, vu, vu] [] κ I L Z := E_lload dX10_shared_24 rfl k
theorem t30_X10_shared_26 {E : En} {d : Nat} {κ : Kp} {I L : MI} {Z : Zt} {a0 a2 a4 a6 a8 b0 : Int}  (k : Ev E d M_X10_shared 28 [vl a0, vu, vl a2, vu, vl a4, vu, vl a6, vu, vi a8, vu, vu] [vl a6, vl b0] κ I L Z) : Ev E d M_X10_shared 26 [vl a0, vu, vl a2, vu, vl a4, vu, vl a6, vu, vi a8, vu, vu] [vl b0] κ I L Z := E_lload dX10_shared_26 rfl k
theorem t30_X10_shared_28 {E : En} {d : Nat} {κ : Kp} {I L : MI} {Z : Zt} {a0 a2 a4 a6 a8 b0 b1 : Int} (hx : Jr b1) (hy : Jr b0) (h0 : b0 ≠ 0) (hm : b0 ≠ -1) (k : Ev E d M_X10_shared 29 [vl a0, vu, vl a2, vu, vl a4, vu, vl a6, vu, vi a8, vu, vu] [vl (b1.tmod b0)] κ I L Z) : Ev E d M_X10_shared 28 [vl a0, vu, vl a2, vu, vl a4, vu, vl a6, vu, vi a8, vu, vu] [vl b0, vl b1] κ I L Z := E_lrem dX10_shared_28 hx hy h0 hm k
theorem t30_X10_shared_29 {E : En} {d : Nat} {κ : Kp} {I L : MI} {Z : Zt} {a0 a2 a4 a6 a8 b0 : Int}  (k : Ev E d M_X10_shared 31 [vl a0, vu, vl a2, vu, vl a4, vu, vl a6, vu, vi a8, vl b0, vu] [] κ I L Z) : Ev E d M_X10_shared 29 [vl a0, vu, vl a2, vu, vl a4, vu, vl a6, vu, vi a8, vu, vu] [vl b0] κ I L Z := E_lstore dX10_shared_29 rfl (Nat.le_of_ble_eq_true rfl) k
theorem t30_X10_shared_31 {E : En} {d : Nat} {κ : Kp} {I L : MI} {Z : Zt} {a0 a2 a4 a6 a8 a9 : Int}  (k : Ev E d M_X10_shared 33 [vl a0, vu, vl a2, vu, vl a4, vu, vl a6, vu, vi a8, vl a9, vu] [vl a6] κ I L Z) : Ev E d M_X10_shared 31 [vl a0, vu, vl a2, vu, vl a4, vu, vl a6, vu, vi a8, vl a9, vu] [] κ I L Z := E_lload dX10_shared_31 rfl k
theorem t30_X10_shared_33 {E : En} {d : Nat} {κ : Kp} {I L : MI} {Z : Zt} {a0 a2 a4 a6 a8 a9 b0 : Int}  (k : Ev E d M_X10_shared 35 [vl a0, vu, vl a2, vu, vl b0, vu, vl a6, vu, vi a8, vl a9, vu] [] κ I L Z) : Ev E d M_X10_shared 33 [vl a0, vu, vl a2, vu, vl a4, vu, vl a6, vu, vi a8, vl a9, vu] [vl b0] κ I L Z := E_lstore dX10_shared_33 rfl (Nat.le_of_ble_eq_true rfl) k
theorem t30_X10_shared_35 {E : En} {d : Nat} {κ : Kp} {I L : MI} {Z : Zt} {a0 a2 a4 a6 a8 a9 : Int}  (k : Ev E d M_X10_shared 37 [vl a0, vu, vl a2, vu, vl a4, vu, vl a6, vu, vi a8, vl a9, vu] [vl a9] κ I L Z) : Ev E d M_X10_shared 35 [vl a0, vu, vl a2, vu, vl a4, vu, vl a6, vu, vi a8, vl a9, vu] [] κ I L Z := E_lload dX10_shared_35 rfl k
theorem t30_X10_shared_37 {E : En} {d : Nat} {κ : Kp} {I L : MI} {Z : Zt} {a0 a2 a4 a6 a8 a9 b0 : Int}  (k : Ev E d M_X10_shared 39 [vl a0, vu, vl a2, vu, vl a4, vu, vl b0, vu, vi a8, vl a9, vu] [] κ I L Z) : Ev E d M_X10_shared 37 [vl a0, vu, vl a2, vu, vl a4, vu, vl a6, vu, vi a8, vl a9, vu] [vl b0] κ I L Z := E_lstore dX10_shared_37 rfl (Nat.le_of_ble_eq_true rfl) k
theorem t30_X10_shared_39 {E : En} {d : Nat} {κ : Kp} {I L : MI} {Z : Zt} {a0 a2 a4 a6 a8 a9 : Int}  (k : Ev E d M_X10_shared 42 [vl a0, vu, vl a2, vu, vl a4, vu, vl a6, vu, vi (a8 + 1), vl a9, vu] [] κ I L Z) : Ev E d M_X10_shared 39 [vl a0, vu, vl a2, vu, vl a4, vu, vl a6, vu, vi a8, vl a9, vu] [] κ I L Z := E_iinc dX10_shared_39 rfl rfl (Nat.le_of_ble_eq_true rfl) k
theorem t30_X10_shared_42 {E : En} {d : Nat} {κ : Kp} {I L : MI} {Z : Zt} {a0 a2 a4 a6 a8 a9 : Int}  (k : Ev E d M_X10_shared 9 [vl a0, vu, vl a2, vu, vl a4, vu, vl a6, vu, vi a8, vl a9, vu] [] κ I L Z) : Ev E d M_X10_shared 42 [vl a0, vu, vl a2, vu, vl a4, vu, vl a6, vu, vi a8, vl a9, vu] [] κ I L Z := E_goto dX10_shared_42 (by decide) k
theorem t30_X10_shared_0 {E : En} {d : Nat} {κ : Kp} {I L : MI} {Z : Zt} {a0 a2 : Int}  (k : Ev E d M_X10_shared 1 [vl a0, vu, vl a2, vu, vu, vu, vu, vu, vu, vu, vu] [vl a0] κ I L Z) : Ev E d M_X10_shared 0 [vl a0, vu, vl a2, vu, vu, vu, vu, vu, vu, vu, vu] [] κ I L Z := E_lload_n dX10_shared_0 rfl k
theorem t30_X10_shared_1 {E : En} {d : Nat} {κ : Kp} {I L : MI} {Z : Zt} {a0 a2 b0 : Int}  (k : Ev E d M_X10_shared 3 [vl a0, vu, vl a2, vu, vl b0, vu, vu, vu, vu, vu, vu] [] κ I L Z) : Ev E d M_X10_shared 1 [vl a0, vu, vl a2, vu, vu, vu, vu, vu, vu, vu, vu] [vl b0] κ I L Z := E_lstore dX10_shared_1 rfl (Nat.le_of_ble_eq_true rfl) k
theorem t30_X10_shared_3 {E : En} {d : Nat} {κ : Kp} {I L : MI} {Z : Zt} {a0 a2 a4 : Int}  (k : Ev E d M_X10_shared 4 [vl a0, vu, vl a2, vu, vl a4, vu, vu, vu, vu, vu, vu] [vl a2] κ I L Z) : Ev E d M_X10_shared 3 [vl a0, vu, vl a2, vu, vl a4, vu, vu, vu, vu, vu, vu] [] κ I L Z := E_lload_n dX10_shared_3 rfl k
theorem t30_X10_shared_4 {E : En} {d : Nat} {κ : Kp} {I L : MI} {Z : Zt} {a0 a2 a4 b0 : Int}  (k : Ev E d M_X10_shared 6 [vl a0, vu, vl a2, vu, vl a4, vu, vl b0, vu, vu, vu, vu] [] κ I L Z) : Ev E d M_X10_shared 4 [vl a0, vu, vl a2, vu, vl a4, vu, vu, vu, vu, vu, vu] [vl b0] κ I L Z := E_lstore dX10_shared_4 rfl (Nat.le_of_ble_eq_true rfl) k
theorem t30_X10_shared_6 {E : En} {d : Nat} {κ : Kp} {I L : MI} {Z : Zt} {a0 a2 a4 a6 : Int}  (k : Ev E d M_X10_shared 7 [vl a0, vu, vl a2, vu, vl a4, vu, vl a6, vu, vu, vu, vu] [vi 0] κ I L Z) : Ev E d M_X10_shared 6 [vl a0, vu, vl a2, vu, vl a4, vu, vl a6, vu, vu, vu, vu] [] κ I L Z := E_iconst (v := 0) dX10_shared_6 rfl k
theorem t30_X10_shared_7 {E : En} {d : Nat} {κ : Kp} {I L : MI} {Z : Zt} {a0 a2 a4 a6 b0 : Int}  (k : Ev E d M_X10_shared 9 [vl a0, vu, vl a2, vu, vl a4, vu, vl a6, vu, vi b0, vu, vu] [] κ I L Z) : Ev E d M_X10_shared 7 [vl a0, vu, vl a2, vu, vl a4, vu, vl a6, vu, vu, vu, vu] [vi b0] κ I L Z := E_istore dX10_shared_7 rfl (Nat.le_of_ble_eq_true rfl) k
theorem t30_X10_oneNotTheOther_0 {E : En} {d : Nat} {κ : Kp} {I L : MI} {Z : Zt} {a0 a2 : Int}  (k : Ev E d M_X10_oneNotTheOther 1 [vl a0, vu, vl a2, vu, vu, vu] [vl a0] κ I L Z) : Ev E d M_X10_oneNotTheOther 0 [vl a0, vu, vl a2, vu, vu, vu] [] κ I L Z := E_lload_n dX10_oneNotTheOther_0 rfl k
theorem t30_X10_oneNotTheOther_1 {E : En} {d : Nat} {κ : Kp} {I L : MI} {Z : Zt} {a0 a2 b0 : Int}  (k : Ev E d M_X10_oneNotTheOther 2 [vl a0, vu, vl a2, vu, vu, vu] [vl a2, vl b0] κ I L Z) : Ev E d M_X10_oneNotTheOther 1 [vl a0, vu, vl a2, vu, vu, vu] [vl b0] κ I L Z := E_lload_n dX10_oneNotTheOther_1 rfl k
theorem t30_X10_oneNotTheOther_2 {E : En} {d d' : Nat} {cs : Nat × Nat} {I L : MI} {Z : Zt} {a0 a2 b0 b1 : Int} {z : Int} {I' L' : MI} (hM : CFl E d' M_X10_shared [vl b1, vl b0] I L z I' L') (hlt : d' + 1 ≤ d) (k : Jr z → Ev E d M_X10_oneNotTheOther 5 [vl a0, vu, vl a2, vu, vu, vu] [vl z] (G0, cs) I' L' Z) (hc1 : cs.1 ≤ M_X10_oneNotTheOther.2.2.2.2.1 := by decide) (hc2 : cs.2 ≤ M_X10_oneNotTheOther.2.2.2.2.2 := by decide) : Ev E d M_X10_oneNotTheOther 2 [vl a0, vu, vl a2, vu, vu, vu] [vl b0, vl b1] (G0, cs) I L Z := E_callS (as := [vl b1, vl b0]) (rest := []) (n := 2) hM dX10_oneNotTheOther_2 wM_RX10_212 wS_X10_shared hlt wC_X10_shared wI_X10 (by decide +kernel) rfl (by decide) (Nat.le_of_ble_eq_true rfl) hc1 hc2 rfl (fun r g' I2 L2 h => by obtain ⟨rfl, z, rfl, hr, rfl, rfl, rfl⟩ := h; exact k hr)
theorem t30_X10_oneNotTheOther_5 {E : En} {d : Nat} {κ : Kp} {I L : MI} {Z : Zt} {a0 a2 b0 : Int}  (k : Ev E d M_X10_oneNotTheOther 7 [vl a0, vu, vl a2, vu, vl b0, vu] [] κ I L Z) : Ev E d M_X10_oneNotTheOther 5 [vl a0, vu, vl a2, vu, vu, vu] [vl b0] κ I L Z := E_lstore dX10_oneNotTheOther_5 rfl (Nat.le_of_ble_eq_true rfl) k
theorem t30_X10_oneNotTheOther_7 {E : En} {d : Nat} {κ : Kp} {I L : MI} {Z : Zt} {a0 a2 a4 : Int}  (k : Ev E d M_X10_oneNotTheOther 9 [vl a0, vu, vl a2, vu, vl a4, vu] [vl a4] κ I L Z) : Ev E d M_X10_oneNotTheOther 7 [vl a0, vu, vl a2, vu, vl a4, vu] [] κ I L Z := E_lload dX10_oneNotTheOther_7 rfl k
theorem t30_X10_oneNotTheOther_9 {E : En} {d : Nat} {κ : Kp} {I L : MI} {Z : Zt} {a0 a2 a4 b0 : Int}  (k : Ev E d M_X10_oneNotTheOther 10 [vl a0, vu, vl a2, vu, vl a4, vu] [vl 0, vl b0] κ I L Z) : Ev E d M_X10_oneNotTheOther 9 [vl a0, vu, vl a2, vu, vl a4, vu] [vl b0] κ I L Z := E_lconst (v := 0) dX10_oneNotTheOther_9 rfl k
theorem t30_X10_oneNotTheOther_10 {E : En} {d : Nat} {κ : Kp} {I L : MI} {Z : Zt} {a0 a2 a4 b0 b1 : Int} (hx : Jr b1) (hy : Jr b0) (kt : b1 ≤ b0 → Ev E d M_X10_oneNotTheOther 21 [vl a0, vu, vl a2, vu, vl a4, vu] [] κ I L Z) (kf : b0 < b1 → Ev E d M_X10_oneNotTheOther 14 [vl a0, vu, vl a2, vu, vl a4, vu] [] κ I L Z) : Ev E d M_X10_oneNotTheOther 10 [vl a0, vu, vl a2, vu, vl a4, vu] [vl b0, vl b1] κ I L Z := E_lcmp_le dX10_oneNotTheOther_10 dX10_oneNotTheOther_11 hx hy kt kf (by decide)
theorem t30_X10_oneNotTheOther_21 {E : En} {d : Nat} {κ : Kp} {I L : MI} {Z : Zt} {a0 a2 a4 : Int}  (k : Ev E d M_X10_oneNotTheOther 22 [vl a0, vu, vl a2, vu, vl a4, vu] [vl a0] κ I L Z) : Ev E d M_X10_oneNotTheOther 21 [vl a0, vu, vl a2, vu, vl a4, vu] [] κ I L Z := E_lload_n dX10_oneNotTheOther_21 rfl k
theorem t30_X10_oneNotTheOther_22 {E : En} {d : Nat} {g : Geo} {I L : MI} {Q : Option AV → Geo → MI → MI → Prop} {cs : Nat × Nat} {a0 a2 a4 b0 : Int} (hq : Q (some (vl b0)) g I L) (h1 : cs.1 ≤ M_X10_oneNotTheOther.2.2.2.2.1 := by decide) (h2 : cs.2 ≤ M_X10_oneNotTheOther.2.2.2.2.2 := by decide) : Ev E d M_X10_oneNotTheOther 22 [vl a0, vu, vl a2, vu, vl a4, vu] [vl b0] (g, cs) I L (ZQ E M_X10_oneNotTheOther Q) := E_lreturn rfl dX10_oneNotTheOther_22 hq h1 h2
theorem t30_X10_oneNotTheOther_14 {E : En} {d : Nat} {κ : Kp} {I L : MI} {Z : Zt} {a0 a2 a4 : Int}  (k : Ev E d M_X10_oneNotTheOther 15 [vl a0, vu, vl a2, vu, vl a4, vu] [vl a0] κ I L Z) : Ev E d M_X10_oneNotTheOther 14 [vl a0, vu, vl a2, vu, vl a4, vu] [] κ I L Z := E_lload_n dX10_oneNotTheOther_14 rfl k
theorem t30_X10_oneNotTheOther_15 {E : En} {d : Nat} {κ : Kp} {I L : MI} {Z : Zt} {a0 a2 a4 b0 : Int}  (k : Ev E d M_X10_oneNotTheOther 17 [vl a0, vu, vl a2, vu, vl a4, vu] [vl a4, vl b0] κ I L Z) : Ev E d M_X10_oneNotTheOther 15 [vl a0, vu, vl a2, vu, vl a4, vu] [vl b0] κ I L Z := E_lload dX10_oneNotTheOther_15 rfl k
theorem t30_X10_oneNotTheOther_17 {E : En} {d : Nat} {κ : Kp} {I L : MI} {Z : Zt} {a0 a2 a4 b0 b1 : Int} (hx : Jr b1) (hy : Jr b0) (h0 : b0 ≠ 0) (hm : b0 ≠ -1) (k : Ev E d M_X10_oneNotTheOther 18 [vl a0, vu, vl a2, vu, vl a4, vu] [vl (b1.tdiv b0)] κ I L Z) : Ev E d M_X10_oneNotTheOther 17 [vl a0, vu, vl a2, vu, vl a4, vu] [vl b0, vl b1] κ I L Z := E_ldiv dX10_oneNotTheOther_17 hx hy h0 hm k
theorem t30_X10_oneNotTheOther_18 {E : En} {d : Nat} {κ : Kp} {I L : MI} {Z : Zt} {a0 a2 a4 b0 : Int}  (k : Ev E d M_X10_oneNotTheOther 22 [vl a0, vu, vl a2, vu, vl a4, vu] [vl b0] κ I L Z) : Ev E d M_X10_oneNotTheOther 18 [vl a0, vu, vl a2, vu, vl a4, vu] [vl b0] κ I L Z := E_goto dX10_oneNotTheOther_18 (by decide) k
theorem t30_X10_either_0 {E : En} {d : Nat} {κ : Kp} {I L : MI} {Z : Zt} {a0 a2 : Int}  (k : Ev E d M_X10_either 1 [vl a0, vu, vl a2, vu, vu, vu] [vl a0] κ I L Z) : Ev E d M_X10_either 0 [vl a0, vu, vl a2, vu, vu, vu] [] κ I L Z := E_lload_n dX10_either_0 rfl k
theorem t30_X10_either_1 {E : En} {d : Nat} {κ : Kp} {I L : MI} {Z : Zt} {a0 a2 b0 : Int}  (k : Ev E d M_X10_either 2 [vl a0, vu, vl a2, vu, vu, vu] [vl a2, vl b0] κ I L Z) : Ev E d M_X10_either 1 [vl a0, vu, vl a2, vu, vu, vu] [vl b0] κ I L Z := E_lload_n dX10_either_1 rfl k
theorem t30_X10_either_2 {E : En} {d d' : Nat} {cs : Nat × Nat} {I L : MI} {Z : Zt} {a0 a2 b0 b1 : Int} {z : Int} {I' L' : MI} (hM : CFl E d' M_X10_oneNotTheOther [vl b1, vl b0] I L z I' L') (hlt : d' + 1 ≤ d) (k : Jr z → Ev E d M_X10_either 5 [vl a0, vu, vl a2, vu, vu, vu] [vl z] (G0, cs) I' L' Z) (hc1 : cs.1 ≤ M_X10_either.2.2.2.2.1 := by decide) (hc2 : cs.2 ≤ M_X10_either.2.2.2.2.2 := by decide) : Ev E d M_X10_either 2 [vl a0, vu, vl a2, vu, vu, vu] [vl b0, vl b1] (G0, cs) I L Z := E_callS (as := [vl b1, vl b0]) (rest := []) (n := 2) hM dX10_either_2 wM_RX10_219 wS_X10_oneNotTheOther hlt wC_X10_oneNotTheOther wI_X10 (by decide +kernel) rfl (by decide) (Nat.le_of_ble_eq_true rfl) hc1 hc2 rfl (fun r g' I2 L2 h => by obtain ⟨rfl, z, rfl, hr, rfl, rfl, rfl⟩ := h; exact k hr)
theorem t30_X10_either_5 {E : En} {d : Nat} {κ : Kp} {I L : MI} {Z : Zt} {a0 a2 b0 : Int}  (k : Ev E d M_X10_either 7 [vl a0, vu, vl a2, vu, vl b0, vu] [] κ I L Z) : Ev E d M_X10_either 5 [vl a0, vu, vl a2, vu, vu, vu] [vl b0] κ I L Z := E_lstore dX10_either_5 rfl (Nat.le_of_ble_eq_true rfl) k
theorem t30_X10_either_7 {E : En} {d : Nat} {κ : Kp} {I L : MI} {Z : Zt} {a0 a2 a4 : Int}  (k : Ev E d M_X10_either 9 [vl a0, vu, vl a2, vu, vl a4, vu] [vl a4] κ I L Z) : Ev E d M_X10_either 7 [vl a0, vu, vl a2, vu, vl a4, vu] [] κ I L Z := E_lload dX10_either_7 rfl k
theorem t30_X10_either_9 {E : En} {d : Nat} {κ : Kp} {I L : MI} {Z : Zt} {a0 a2 a4 b0 : Int}  (k : Ev E d M_X10_either 10 [vl a0, vu, vl a2, vu, vl a4, vu] [vl 0, vl b0] κ I L Z) : Ev E d M_X10_either 9 [vl a0, vu, vl a2, vu, vl a4, vu] [vl b0] κ I L Z := E_lconst (v := 0) dX10_either_9 rfl k
theorem t30_X10_either_10 {E : En} {d : Nat} {κ : Kp} {I L : MI} {Z : Zt} {a0 a2 a4 b0 b1 : Int} (hx : Jr b1) (hy : Jr b0) (kt : b1 ≤ b0 → Ev E d M_X10_either 32 [vl a0, vu, vl a2, vu, vl a4, vu] [] κ I L Z) (kf : b0 < b1 → Ev E d M_X10_either 14 [vl a0, vu, vl a2, vu, vl a4, vu] [] κ I L Z) : Ev E d M_X10_either 10 [vl a0, vu, vl a2, vu, vl a4, vu] [vl b0, vl b1] κ I L Z := E_lcmp_le dX10_either_10 dX10_either_11 hx hy kt kf (by decide)
theorem t30_X10_either_32 {E : En} {d : Nat} {κ : Kp} {I L : MI} {Z : Zt} {a0 a2 a4 : Int}  (k : Ev E d M_X10_either 35 [vl a0, vu, vl a2, vu, vl a4, vu] [vl (-1000000)] κ I L Z) : Ev E d M_X10_either 32 [vl a0, vu, vl a2, vu, vl a4, vu] [] κ I L Z := E_ldc2 (v := (-1000000)) dX10_either_32 wK_RX10_188 k
theorem t30_X10_either_35 {E : En} {d : Nat} {g : Geo} {I L : MI} {Q : Option AV → Geo → MI → MI → Prop} {cs : Nat × Nat} {a0 a2 a4 b0 : Int} (hq : Q (some (vl b0)) g I L) (h1 : cs.1 ≤ M_X10_either.2.2.2.2.1 := by decide) (h2 : cs.2 ≤ M_X10_either.2.2.2.2.2 := by decide) : Ev E d M_X10_either 35 [vl a0, vu, vl a2, vu, vl a4, vu] [vl b0] (g, cs) I L (ZQ E M_X10_either Q) := E_lreturn rfl dX10_either_35 hq h1 h2
theorem t30_X10_either_14 {E : En} {d : Nat} {κ : Kp} {I L : MI} {Z : Zt} {a0 a2 a4 : Int}  (k : Ev E d M_X10_either 15 [vl a0, vu, vl a2, vu, vl a4, vu] [vl a2] κ I L Z) : Ev E d M_X10_either 14 [vl a0, vu, vl a2, vu, vl a4, vu] [] κ I L Z := E_lload_n dX10_either_14 rfl k
theorem t30_X10_either_15 {E : En} {d : Nat} {κ : Kp} {I L : MI} {Z : Zt} {a0 a2 a4 b0 : Int}  (k : Ev E d M_X10_either 18 [vl a0, vu, vl a2, vu, vl a4, vu] [vl 1000000000000000, vl b0] κ I L Z) : Ev E d M_X10_either 15 [vl a0, vu, vl a2, vu, vl a4, vu] [vl b0] κ I L Z := E_ldc2 (v := 1000000000000000) dX10_either_15 wK_RX10_175 k
theorem t30_X10_either_18 {E : En} {d : Nat} {κ : Kp} {I L : MI} {Z : Zt} {a0 a2 a4 b0 b1 : Int}  (k : Ev E d M_X10_either 20 [vl a0, vu, vl a2, vu, vl a4, vu] [vl a4, vl b0, vl b1] κ I L Z) : Ev E d M_X10_either 18 [vl a0, vu, vl a2, vu, vl a4, vu] [vl b0, vl b1] κ I L Z := E_lload dX10_either_18 rfl k
theorem t30_X10_either_20 {E : En} {d : Nat} {κ : Kp} {I L : MI} {Z : Zt} {a0 a2 a4 b0 b1 b2 : Int} (hx : Jr b1) (hy : Jr b0) (h0 : b0 ≠ 0) (hm : b0 ≠ -1) (k : Ev E d M_X10_either 21 [vl a0, vu, vl a2, vu, vl a4, vu] [vl (b1.tdiv b0), vl b2] κ I L Z) : Ev E d M_X10_either 20 [vl a0, vu, vl a2, vu, vl a4, vu] [vl b0, vl b1, vl b2] κ I L Z := E_ldiv dX10_either_20 hx hy h0 hm k
theorem t30_X10_either_21 {E : En} {d : Nat} {κ : Kp} {I L : MI} {Z : Zt} {a0 a2 a4 b0 b1 : Int} (hx : Jr b1) (hy : Jr b0) (kt : b0 < b1 → Ev E d M_X10_either 32 [vl a0, vu, vl a2, vu, vl a4, vu] [] κ I L Z) (kf : b1 ≤ b0 → Ev E d M_X10_either 25 [vl a0, vu, vl a2, vu, vl a4, vu] [] κ I L Z) : Ev E d M_X10_either 21 [vl a0, vu, vl a2, vu, vl a4, vu] [vl b0, vl b1] κ I L Z := E_lcmp_gt dX10_either_21 dX10_either_22 hx hy kt kf (by decide)
theorem t30_X10_either_25 {E : En} {d : Nat} {κ : Kp} {I L : MI} {Z : Zt} {a0 a2 a4 : Int}  (k : Ev E d M_X10_either 27 [vl a0, vu, vl a2, vu, vl a4, vu] [vl a4] κ I L Z) : Ev E d M_X10_either 25 [vl a0, vu, vl a2, vu, vl a4, vu] [] κ I L Z := E_lload dX10_either_25 rfl k
theorem t30_X10_either_27 {E : En} {d : Nat} {κ : Kp} {I L : MI} {Z : Zt} {a0 a2 a4 b0 : Int}  (k : Ev E d M_X10_either 28 [vl a0, vu, vl a2, vu, vl a4, vu] [vl a2, vl b0] κ I L Z) : Ev E d M_X10_either 27 [vl a0, vu, vl a2, vu, vl a4, vu] [vl b0] κ I L Z := E_lload_n dX10_either_27 rfl k
theorem t30_X10_either_28 {E : En} {d : Nat} {κ : Kp} {I L : MI} {Z : Zt} {a0 a2 a4 b0 b1 : Int}  (k : Ev E d M_X10_either 29 [vl a0, vu, vl a2, vu, vl a4, vu] [vl (b1 * b0)] κ I L Z) : Ev E d M_X10_either 28 [vl a0, vu, vl a2, vu, vl a4, vu] [vl b0, vl b1] κ I L Z := E_lmul dX10_either_28 k
theorem t30_X10_either_29 {E : En} {d : Nat} {κ : Kp} {I L : MI} {Z : Zt} {a0 a2 a4 b0 : Int}  (k : Ev E d M_X10_either 35 [vl a0, vu, vl a2, vu, vl a4, vu] [vl b0] κ I L Z) : Ev E d M_X10_either 29 [vl a0, vu, vl a2, vu, vl a4, vu] [vl b0] κ I L Z := E_goto dX10_either_29 (by decide) k
/-! CONTRACTS: what the calls share -/
theorem arr1 {E : En} : arr E G0 1 = some (4, 8) := arr_of (by decide) rfl
theorem arr25 {E : En} : arr E G0 25 = some (5, 2) := arr_of (by decide) rfl
theorem c_X10_found {E : En} {I L : MI} {c : Int} (hc : Ir c := by omega) : CFl E 1 M_X10_found [vr 0, vi c] I L (-9000000000000000010 - c) (up2 I 0 12 c) L := by
  refine CM_of' (al := [vr _, vi _]) rfl (Nat.le_of_ble_eq_true rfl) rfl (fun hM => ?_)
  refine (t30_X10_found_0 (t30_X10_found_1 (t30_X10_found_2 (by first | assumption | rfl) (by omega) (t30_X10_found_5 (t30_X10_found_8 (t30_X10_found_9 (by omega) (t30_X10_found_10 (t30_X10_found_11 ?_))))))))
  -- 1 leaves: :ret11
  exact qfl (by omega) rfl
theorem c_X10_fine {E : En} {I L : MI} {v : Int} (hv : Jr v := by omega) : CFl E 1 M_X10_fine [vr 0, vl v] I L v (up2 I 0 12 0) L := by
  refine CM_of' (al := [vr _, vl _, vu]) rfl (Nat.le_of_ble_eq_true rfl) rfl (fun hM => ?_)
  refine (t30_X10_fine_0 (t30_X10_fine_1 (t30_X10_fine_2 (by first | assumption | rfl) (by omega) (t30_X10_fine_5 (t30_X10_fine_6 ?_)))))
  -- 1 leaves: :ret6
  exact qfl (by omega) rfl
theorem c_X10_rowAt {E : En} {I L : MI} {r : Int} (hr : Ir r := by omega) : CO E 1 M_X10_rowAt [vr 0, vi r] I L (0 ≤ r ∧ r < 8) (40 + 2 * r.toNat) I L := by
  have a1 := arr1 (E := E)
  refine CM_of' (al := [vr _, vi _]) rfl (Nat.le_of_ble_eq_true rfl) rfl (fun hM => ?_)
  refine (t30_X10_rowAt_0 (t30_X10_rowAt_1 (by omega) (fun c1 => (t30_X10_rowAt_22 (t30_X10_rowAt_23 ?_))) (fun c1 => (t30_X10_rowAt_4 (t30_X10_rowAt_5 (t30_X10_rowAt_6 (by first | assumption | rfl) (by first | assumption | rfl) (t30_X10_rowAt_9 (by first | assumption | rfl) (by decide) rfl (t30_X10_rowAt_10 (by omega) (by omega) (fun c10 => (t30_X10_rowAt_22 (t30_X10_rowAt_23 ?_))) (fun c10 => (t30_X10_rowAt_13 (t30_X10_rowAt_14 (by first | assumption | rfl) (by first | assumption | rfl) (t30_X10_rowAt_17 (t30_X10_rowAt_18 (by first | assumption | rfl) (by omega) (by omega) (by omega) ((RwS_at (by omega) (by omega)).2) (t30_X10_rowAt_19 (t30_X10_rowAt_23v1 ?_)))))))))))))))
  -- 3 leaves: 1t :ret23 | 1f 10t :ret23 | 1f 10f :ret23
  all_goals first | exact qo0 (by omega) | exact qo1 (by omega)
def imO (k : Int) : Nat := if k = 0 then 56 else 67
theorem imO_r {k : Int} (h : 0 ≤ k) (h2 : k < 2) : G0.2 25 k = some (imO k) := by
  have : k = 0 ∨ k = 1 := by omega
  rcases this with rfl | rfl <;> decide +kernel
theorem c_X10_imageAt {E : En} {I L : MI} {r : Int} (hr : Ir r := by omega) : CO E 1 M_X10_imageAt [vr 0, vi r] I L (0 ≤ r ∧ r < 2) (imO r) I L := by
  have a1 := arr25 (E := E)
  refine CM_of' (al := [vr _, vi _]) rfl (Nat.le_of_ble_eq_true rfl) rfl (fun hM => ?_)
  refine (t30_X10_imageAt_0 (t30_X10_imageAt_1 (by omega) (fun c1 => (t30_X10_imageAt_22 (t30_X10_imageAt_23 ?_))) (fun c1 => (t30_X10_imageAt_4 (t30_X10_imageAt_5 (t30_X10_imageAt_6 (by first | assumption | rfl) (by first | assumption | rfl) (t30_X10_imageAt_9 (by first | assumption | rfl) (by decide) rfl (t30_X10_imageAt_10 (by omega) (by omega) (fun c10 => (t30_X10_imageAt_22 (t30_X10_imageAt_23 ?_))) (fun c10 => (t30_X10_imageAt_13 (t30_X10_imageAt_14 (by first | assumption | rfl) (by first | assumption | rfl) (t30_X10_imageAt_17 (t30_X10_imageAt_18 (by first | assumption | rfl) (by omega) (by omega) (by omega) (imO_r (by omega) (by omega)) (t30_X10_imageAt_19 (t30_X10_imageAt_23v1 ?_)))))))))))))))
  -- 3 leaves: 1t :ret23 | 1f 10t :ret23 | 1f 10f :ret23
  all_goals first | exact qo0 (by omega) | exact qo1 (by omega)
/-! what two have together -/
theorem gcdI_b {a b : Int} (ha : 0 < a ∧ a ≤ 1000000000000000) : 0 < (Int.gcd a b : Int) ∧ (Int.gcd a b : Int) ≤ a := by
  have h1 : 0 < Int.gcd a b := Int.gcd_pos_of_ne_zero_left _ (by omega)
  have h2 : Int.gcd a b ≤ a.natAbs := by
    have := Nat.gcd_le_left b.natAbs (show 0 < a.natAbs by omega)
    exact this
  omega
theorem gcdI_s {a b : Int} (ha : 0 ≤ a) (hb : 0 < b) : Int.gcd b (a.tmod b) = Int.gcd a b := by
  obtain ⟨x, rfl⟩ := Int.eq_ofNat_of_zero_le ha
  obtain ⟨y, rfl⟩ := Int.eq_ofNat_of_zero_le (show 0 ≤ b by omega)
  show Nat.gcd y (((x : Int).tmod (y : Int)).natAbs) = Nat.gcd x y
  rw [show ((x : Int).tmod (y : Int)).natAbs = x % y from by rw [← Int.ofNat_tmod]; rfl]
  rw [Nat.gcd_comm x y, Nat.gcd_rec y x, Nat.gcd_comm]
theorem tmod_r {a b : Int} (ha : 0 ≤ a) (hb : 0 < b) : 0 ≤ a.tmod b ∧ a.tmod b < b := ⟨Int.tmod_nonneg b ha, Int.tmod_lt_of_pos a hb⟩
theorem tmod_half {a b : Int} (ha : 0 < b) (h : b ≤ a) : 2 * a.tmod b < a := by
  obtain ⟨x, rfl⟩ := Int.eq_ofNat_of_zero_le (show 0 ≤ a by omega)
  obtain ⟨y, rfl⟩ := Int.eq_ofNat_of_zero_le (show 0 ≤ b by omega)
  rw [← Int.ofNat_tmod]
  have h1 := Nat.div_add_mod x y
  have h2 := Nat.mod_lt x (show 0 < y by omega)
  have h3 : 0 < x / y := Nat.div_pos (by omega) (by omega)
  have h4 := Nat.le_mul_of_pos_right y h3
  omega
theorem c_X10_shared {E : En} {I L : MI} {a b : Int} (ha : 0 < a ∧ a ≤ 1000000000000000 := by omega) (hb : 0 ≤ b ∧ b ≤ 1000000000000000 := by omega) : CFl E 1 M_X10_shared [vl a, vl b] I L (Int.gcd a b : Int) I L := by
  refine CM_of' (al := [vl _, vu, vl _, vu, vu, vu, vu, vu, vu, vu, vu]) rfl (Nat.le_of_ble_eq_true rfl) rfl (fun hM => ?_)
  have key : ∀ (f : Nat) (x y n : Int), (2 : Int) * f + n = 128 → 0 ≤ n → 0 < x → x ≤ 1000000000000000 → 0 ≤ y → y ≤ 1000000000000000 → y < 2 ^ f → Int.gcd x y = Int.gcd a b → Ev E 1 M_X10_shared 9 [vl a, vu, vl b, vu, vl x, vu, vl y, vu, vi n, vu, vu] [] (G0, 0, 0) I L (ZQ E M_X10_shared (QFl (Int.gcd a b : Int) I L)) := by
    intro f
    induction f with
    | zero =>
      intro x y n h1 h2 x0 x1 y0 y1 hy hg
      have : y = 0 := by have : (2 : Int) ^ 0 = 1 := rfl; omega
      subst this
      have he : x = (Int.gcd a b : Int) := by rw [← hg]; show x = ((Nat.gcd x.natAbs 0 : Nat) : Int); rw [Nat.gcd_zero_right]; omega
      refine (t30_X10_shared_9 (t30_X10_shared_11 (t30_X10_shared_14 (by omega) (by omega) (fun c14 => (t30_X10_shared_45 (t30_X10_shared_47 ?_))) (fun c14 => ?_))))
      -- 2 leaves: 14t :ret47 | 14f :->17
      · exact qfl (by omega) he
      · omega
    | succ f ih =>
      intro x y n h1 h2 x0 x1 y0 y1 hy hg
      have t1 := fun h : 0 < y => tmod_r (a := x) (b := y) (by omega) h
      have g1 := fun h : 0 < y => gcdI_s (a := x) (b := y) (by omega) h
      refine (t30_X10_shared_9 (t30_X10_shared_11 (t30_X10_shared_14 (by omega) (by omega) (fun c14 => (t30_X10_shared_45 (t30_X10_shared_47 ?_))) (fun c14 => (t30_X10_shared_17 (t30_X10_shared_19 (t30_X10_shared_20 (by omega) (by omega) (fun c20 => (t30_X10_shared_45 (t30_X10_shared_47 ?_))) (fun c20 => (t30_X10_shared_24 (t30_X10_shared_26 (t30_X10_shared_28 (by omega) (by omega) (by omega) (by omega) (t30_X10_shared_29 (t30_X10_shared_31 (t30_X10_shared_33 (t30_X10_shared_35 (t30_X10_shared_37 (t30_X10_shared_39 (t30_X10_shared_42 (Ev.wk (al' := [_, vu, _, vu, _, vu, _, vu, _, vu, vu]) ⟨.inl rfl, .inl rfl, .inl rfl, .inl rfl, .inl rfl, .inl rfl, .inl rfl, .inl rfl, .inl rfl, .inr rfl, .inl rfl, trivial⟩ ?_)))))))))))))))))))
      -- 3 leaves: 14t :ret47 | 14f 20t :ret47 | 14f 20f :->9
      · omega
      · subst c20
        have he : x = (Int.gcd a b : Int) := by rw [← hg]; show x = ((Nat.gcd x.natAbs 0 : Nat) : Int); rw [Nat.gcd_zero_right]; omega
        exact qfl (by omega) he
      · have y2 : 0 < y := by omega
        have t2 := t1 y2
        have g2 := g1 y2
        generalize hr : x.tmod y = r at *
        have t3 := fun h : 0 < r => tmod_r (a := y) (b := r) (by omega) h
        have g3 := fun h : 0 < r => gcdI_s (a := y) (b := r) (by omega) h
        refine (t30_X10_shared_9 (t30_X10_shared_11 (t30_X10_shared_14 (by omega) (by omega) (fun c14 => (t30_X10_shared_45 (t30_X10_shared_47 ?_))) (fun c14 => (t30_X10_shared_17 (t30_X10_shared_19 (t30_X10_shared_20 (by omega) (by omega) (fun c20 => (t30_X10_shared_45 (t30_X10_shared_47 ?_))) (fun c20 => (t30_X10_shared_24 (t30_X10_shared_26 (t30_X10_shared_28 (by omega) (by omega) (by omega) (by omega) (t30_X10_shared_29 (t30_X10_shared_31 (t30_X10_shared_33 (t30_X10_shared_35 (t30_X10_shared_37 (t30_X10_shared_39 (t30_X10_shared_42 (Ev.wk (al' := [_, vu, _, vu, _, vu, _, vu, _, vu, vu]) ⟨.inl rfl, .inl rfl, .inl rfl, .inl rfl, .inl rfl, .inl rfl, .inl rfl, .inl rfl, .inl rfl, .inr rfl, .inl rfl, trivial⟩ ?_)))))))))))))))))))
        -- 3 leaves: 14t :ret47 | 14f 20t :ret47 | 14f 20f :->9
        · omega
        · have he : y = (Int.gcd a b : Int) := by rw [← hg, ← g2, c20]; show y = ((Nat.gcd y.natAbs 0 : Nat) : Int); rw [Nat.gcd_zero_right]; omega
          exact qfl (by omega) he
        · have r2 : 0 < r := by omega
          have t4 := t3 r2
          have hh := tmod_half (a := y) (b := r) r2 (by omega)
          have e2 : (2 : Int) ^ (f + 1) = 2 * 2 ^ f := by rw [Int.pow_succ]; omega
          rw [e2] at hy
          generalize (2 : Int) ^ f = P at *
          exact ih r (y.tmod r) (n + 1 + 1) (by omega) (by omega) r2 (by omega) (by omega) (by omega) (by omega) (by rw [g3 r2, g2, hg])
  refine (t30_X10_shared_0 (t30_X10_shared_1 (t30_X10_shared_3 (t30_X10_shared_4 (t30_X10_shared_6 (t30_X10_shared_7 ?_))))))
  -- 1 leaves: :->9
  have h64 : (2 : Int) ^ 64 = 18446744073709551616 := by decide
  exact key 64 a b 0 (by omega) (by omega) ha.1 ha.2 hb.1 hb.2 (by rw [h64]; omega) rfl
theorem c_X10_oneNotTheOther {E : En} {I L : MI} {a b : Int} (ha : 0 < a ∧ a ≤ 1000000000000000 := by omega) (hb : 0 ≤ b ∧ b ≤ 1000000000000000 := by omega) : CFl E 2 M_X10_oneNotTheOther [vl a, vl b] I L (a.tdiv (Int.gcd a b : Int)) I L := by
  have h1 := gcdI_b (b := b) ha
  have r1 : 0 ≤ a.tdiv (Int.gcd a b : Int) ∧ a.tdiv (Int.gcd a b : Int) ≤ a := ⟨Int.tdiv_nonneg (by omega) (by omega), Int.tdiv_le_self _ (by omega)⟩
  refine CM_of' (al := [vl _, vu, vl _, vu, vu, vu]) rfl (Nat.le_of_ble_eq_true rfl) rfl (fun hM => ?_)
  refine (t30_X10_oneNotTheOther_0 (t30_X10_oneNotTheOther_1 (t30_X10_oneNotTheOther_2 c_X10_shared (by first | decide | omega) (fun r2 => (t30_X10_oneNotTheOther_5 (t30_X10_oneNotTheOther_7 (t30_X10_oneNotTheOther_9 (t30_X10_oneNotTheOther_10 (by omega) (by omega) (fun c10 => (t30_X10_oneNotTheOther_21 (t30_X10_oneNotTheOther_22 ?_))) (fun c10 => (t30_X10_oneNotTheOther_14 (t30_X10_oneNotTheOther_15 (t30_X10_oneNotTheOther_17 (by omega) (by omega) (by omega) (by omega) (t30_X10_oneNotTheOther_18 (t30_X10_oneNotTheOther_22 ?_))))))))))))))
  -- 2 leaves: 10t :ret22 | 10f :ret22
  · omega
  · exact qfl (by omega) rfl
theorem tdiv_lem {a b c : Int} (ha : 0 ≤ a) (hc : 0 ≤ c) (hb : 0 < b) : a ≤ c.tdiv b ↔ b * a ≤ c := by
  obtain ⟨x, rfl⟩ := Int.eq_ofNat_of_zero_le ha
  obtain ⟨y, rfl⟩ := Int.eq_ofNat_of_zero_le (show 0 ≤ b by omega)
  obtain ⟨z, rfl⟩ := Int.eq_ofNat_of_zero_le hc
  rw [← Int.ofNat_tdiv]
  have h := Nat.le_div_iff_mul_le (x := x) (y := z) (show 0 < y by omega)
  rw [Nat.mul_comm] at h
  have e : (y : Int) * (x : Int) = ((y * x : Nat) : Int) := by rw [Int.natCast_mul]
  rw [e]
  omega
/-- one without what it has together with another one -/
def oneI (a b : Int) : Int := a.tdiv (Int.gcd a b : Int)
theorem oneI_b {a b : Int} (ha : 0 < a ∧ a ≤ 1000000000000000) : 0 < oneI a b ∧ oneI a b ≤ a := by
  have h1 := gcdI_b (b := b) ha
  have h2 := (tdiv_lem (a := 1) (b := (Int.gcd a b : Int)) (c := a) (by omega) (by omega) (by omega)).mpr (by omega)
  have h3 : a.tdiv (Int.gcd a b : Int) ≤ a := Int.tdiv_le_self _ (by omega)
  unfold oneI
  omega
/-- made of both; too long: none -/
def eitI (a b : Int) : Int := if oneI a b * b ≤ 1000000000000000 then oneI a b * b else -1000000
theorem c_X10_either {E : En} {I L : MI} {a b : Int} (ha : 0 < a ∧ a ≤ 1000000000000000 := by omega) (hb : 0 ≤ b ∧ b ≤ 1000000000000000 := by omega) : CFl E 3 M_X10_either [vl a, vl b] I L (eitI a b) I L := by
  have h1 := oneI_b (b := b) ha
  have h2 := tdiv_lem (a := b) (b := oneI a b) (c := 1000000000000000) hb.1 (by decide) h1.1
  have h3 : 0 ≤ oneI a b * b := Int.mul_nonneg (by omega) hb.1
  have h4 : 0 ≤ (1000000000000000 : Int).tdiv (oneI a b) ∧ (1000000000000000 : Int).tdiv (oneI a b) ≤ 1000000000000000 := ⟨Int.tdiv_nonneg (by decide) (by omega), Int.tdiv_le_self _ (by decide)⟩
  refine CM_of' (al := [vl _, vu, vl _, vu, vu, vu]) rfl (Nat.le_of_ble_eq_true rfl) rfl (fun hM => ?_)
  refine (t30_X10_either_0 (t30_X10_either_1 (t30_X10_either_2 c_X10_oneNotTheOther (by first | decide | omega) (fun r2 => (t30_X10_either_5 ?_)))))
  -- 1 leaves: :->7
  rw [show a.tdiv (Int.gcd a b : Int) = oneI a b from rfl]
  refine (t30_X10_either_7 (t30_X10_either_9 (t30_X10_either_10 (by omega) (by omega) (fun c10 => (t30_X10_either_32 (t30_X10_either_35 ?_))) (fun c10 => (t30_X10_either_14 (t30_X10_either_15 (t30_X10_either_18 (t30_X10_either_20 (by omega) (by omega) (by omega) (by omega) (t30_X10_either_21 (by omega) (by omega) (fun c21 => (t30_X10_either_32 (t30_X10_either_35 ?_))) (fun c21 => (t30_X10_either_25 (t30_X10_either_27 (t30_X10_either_28 (t30_X10_either_29 (t30_X10_either_35 ?_)))))))))))))))
  -- 3 leaves: 10t :ret35 | 10f 21t :ret35 | 10f 21f :ret35
  · omega
  · have hn : ¬ oneI a b * b ≤ 1000000000000000 := fun h => by have := h2.mpr h; omega
    exact qfl (by omega) (by unfold eitI; rw [if_neg hn])
  · have hn : oneI a b * b ≤ 1000000000000000 := h2.mp (by omega)
    exact qfl (by omega) (by unfold eitI; rw [if_pos hn])
