theorem t55_X11_sizeNow_4 {E : En} {d : Nat} {κ : Kp} {I L : MI} {Z : Zt} {a0 : Nat} {a1 a2 : Int}  (k : Ev E d M_X11_sizeNow 5 [vr a0, vi a1, vi a2] [vi a2] κ I L Z) : Ev E d M_X11_sizeNow 4 [vr a0, vi a1, vi a2] [] κ I L Z := E_iload_n dX11_sizeNow_4 rfl k
theorem t55_X11_sizeNow_5 {E : En} {d : Nat} {κ : Kp} {I L : MI} {Z : Zt} {a0 : Nat} {a1 a2 b0 : Int}  (k : Ev E d M_X11_sizeNow 7 [vr a0, vi a1, vi a2] [vi 12, vi b0] κ I L Z) : Ev E d M_X11_sizeNow 5 [vr a0, vi a1, vi a2] [vi b0] κ I L Z := E_bipush (v := 12) dX11_sizeNow_5 rfl k
theorem t55_X11_sizeNow_7 {E : En} {d : Nat} {κ : Kp} {I L : MI} {Z : Zt} {a0 : Nat} {a1 a2 b0 b1 : Int} (hx : Ir b1) (hy : Ir b0) (kt : b0 ≤ b1 → Ev E d M_X11_sizeNow 25 [vr a0, vi a1, vi a2] [] κ I L Z) (kf : b1 < b0 → Ev E d M_X11_sizeNow 10 [vr a0, vi a1, vi a2] [] κ I L Z) : Ev E d M_X11_sizeNow 7 [vr a0, vi a1, vi a2] [vi b0, vi b1] κ I L Z := E_icmp_ge dX11_sizeNow_7 hx hy kt kf (by decide)
theorem t55_X11_sizeNow_25 {E : En} {d : Nat} {κ : Kp} {I L : MI} {Z : Zt} {a0 : Nat} {a1 a2 : Int}  (k : Ev E d M_X11_sizeNow 26 [vr a0, vi a1, vi a2] [vi a1] κ I L Z) : Ev E d M_X11_sizeNow 25 [vr a0, vi a1, vi a2] [] κ I L Z := E_iload_n dX11_sizeNow_25 rfl k
theorem t55_X11_sizeNow_26 {E : En} {d : Nat} {g : Geo} {I L : MI} {Q : Option AV → Geo → MI → MI → Prop} {cs : Nat × Nat} {a0 : Nat} {a1 a2 b0 : Int} (hq : Q (some (vi b0)) g I L) (h1 : cs.1 ≤ M_X11_sizeNow.2.2.2.2.1 := by decide) (h2 : cs.2 ≤ M_X11_sizeNow.2.2.2.2.2 := by decide) : Ev E d M_X11_sizeNow 26 [vr a0, vi a1, vi a2] [vi b0] (g, cs) I L (ZQ E M_X11_sizeNow Q) := E_ireturn rfl dX11_sizeNow_26 hq h1 h2
theorem t55_X11_sizeNow_10 {E : En} {d : Nat} {κ : Kp} {I L : MI} {Z : Zt} {a0 : Nat} {a1 a2 : Int}  (k : Ev E d M_X11_sizeNow 11 [vr a0, vi a1, vi a2] [vi a1] κ I L Z) : Ev E d M_X11_sizeNow 10 [vr a0, vi a1, vi a2] [] κ I L Z := E_iload_n dX11_sizeNow_10 rfl k
theorem t55_X11_sizeNow_11 {E : En} {d : Nat} {κ : Kp} {I L : MI} {Z : Zt} {a0 : Nat} {a1 a2 b0 : Int}  (k : Ev E d M_X11_sizeNow 12 [vr a0, vi a1, vi a2] [vr a0, vi b0] κ I L Z) : Ev E d M_X11_sizeNow 11 [vr a0, vi a1, vi a2] [vi b0] κ I L Z := E_aload_n dX11_sizeNow_11 rfl k
theorem t55_X11_sizeNow_12 {E : En} {d : Nat} {κ : Kp} {I L : MI} {Z : Zt} {a0 b0 : Nat} {a1 a2 b1 : Int} {q : Nat} (hs : κ.1.1[b0]? = some (.inl 11)) (hq : κ.1.2 b0 19 = some q) (k : Ev E d M_X11_sizeNow 15 [vr a0, vi a1, vi a2] [vr q, vi b1] κ I L Z) : Ev E d M_X11_sizeNow 12 [vr a0, vi a1, vi a2] [vr b0, vi b1] κ I L Z := E_getR (ci := 11) (n := 19) dX11_sizeNow_12 wF_RX11_32 (by decide) hs rfl hq k
theorem t55_X11_sizeNow_15 {E : En} {d : Nat} {κ : Kp} {I L : MI} {Z : Zt} {a0 b0 : Nat} {a1 a2 b1 : Int}  (k : Ev E d M_X11_sizeNow 16 [vr a0, vi a1, vi a2] [vi a2, vr b0, vi b1] κ I L Z) : Ev E d M_X11_sizeNow 15 [vr a0, vi a1, vi a2] [vr b0, vi b1] κ I L Z := E_iload_n dX11_sizeNow_15 rfl k
theorem t55_X11_sizeNow_16 {E : En} {d : Nat} {κ : Kp} {I L : MI} {Z : Zt} {a0 b1 : Nat} {a1 a2 b0 b2 : Int} {n : Nat} (hs : κ.1.1[b1]? = some (.inr (0, n))) (h0 : 0 ≤ b0) (h1 : b0 < n) (hi : Ir b0) (k : Ir (I b1 b0) → Ev E d M_X11_sizeNow 17 [vr a0, vi a1, vi a2] [vi (I b1 b0), vi b2] κ I L Z) : Ev E d M_X11_sizeNow 16 [vr a0, vi a1, vi a2] [vi b0, vr b1, vi b2] κ I L Z := E_ialdI dX11_sizeNow_16 hs h0 h1 hi k
theorem t55_X11_sizeNow_17 {E : En} {d : Nat} {κ : Kp} {I L : MI} {Z : Zt} {a0 : Nat} {a1 a2 b0 b1 : Int}  (k : Ev E d M_X11_sizeNow 18 [vr a0, vi a1, vi a2] [vi (b1 + b0)] κ I L Z) : Ev E d M_X11_sizeNow 17 [vr a0, vi a1, vi a2] [vi b0, vi b1] κ I L Z := E_iadd dX11_sizeNow_17 k
theorem t55_X11_sizeNow_18 {E : En} {d : Nat} {κ : Kp} {I L : MI} {Z : Zt} {a0 : Nat} {a1 a2 b0 : Int}  (k : Ev E d M_X11_sizeNow 19 [vr a0, vi b0, vi a2] [] κ I L Z) : Ev E d M_X11_sizeNow 18 [vr a0, vi a1, vi a2] [vi b0] κ I L Z := E_istore_n dX11_sizeNow_18 rfl (Nat.le_of_ble_eq_true rfl) k
theorem t55_X11_sizeNow_19 {E : En} {d : Nat} {κ : Kp} {I L : MI} {Z : Zt} {a0 : Nat} {a1 a2 : Int}  (k : Ev E d M_X11_sizeNow 22 [vr a0, vi a1, vi (a2 + 1)] [] κ I L Z) : Ev E d M_X11_sizeNow 19 [vr a0, vi a1, vi a2] [] κ I L Z := E_iinc dX11_sizeNow_19 rfl rfl (Nat.le_of_ble_eq_true rfl) k
theorem t55_X11_sizeNow_22 {E : En} {d : Nat} {κ : Kp} {I L : MI} {Z : Zt} {a0 : Nat} {a1 a2 : Int}  (k : Ev E d M_X11_sizeNow 4 [vr a0, vi a1, vi a2] [] κ I L Z) : Ev E d M_X11_sizeNow 22 [vr a0, vi a1, vi a2] [] κ I L Z := E_goto dX11_sizeNow_22 (by decide) k
theorem t55_X11_sizeNow_0 {E : En} {d : Nat} {κ : Kp} {I L : MI} {Z : Zt} {a0 : Nat}  (k : Ev E d M_X11_sizeNow 1 [vr a0, vu, vu] [vi 0] κ I L Z) : Ev E d M_X11_sizeNow 0 [vr a0, vu, vu] [] κ I L Z := E_iconst (v := 0) dX11_sizeNow_0 rfl k
theorem t55_X11_sizeNow_1 {E : En} {d : Nat} {κ : Kp} {I L : MI} {Z : Zt} {a0 : Nat} {b0 : Int}  (k : Ev E d M_X11_sizeNow 2 [vr a0, vi b0, vu] [] κ I L Z) : Ev E d M_X11_sizeNow 1 [vr a0, vu, vu] [vi b0] κ I L Z := E_istore_n dX11_sizeNow_1 rfl (Nat.le_of_ble_eq_true rfl) k
theorem t55_X11_sizeNow_2 {E : En} {d : Nat} {κ : Kp} {I L : MI} {Z : Zt} {a0 : Nat} {a1 : Int}  (k : Ev E d M_X11_sizeNow 3 [vr a0, vi a1, vu] [vi 0] κ I L Z) : Ev E d M_X11_sizeNow 2 [vr a0, vi a1, vu] [] κ I L Z := E_iconst (v := 0) dX11_sizeNow_2 rfl k
theorem t55_X11_sizeNow_3 {E : En} {d : Nat} {κ : Kp} {I L : MI} {Z : Zt} {a0 : Nat} {a1 b0 : Int}  (k : Ev E d M_X11_sizeNow 4 [vr a0, vi a1, vi b0] [] κ I L Z) : Ev E d M_X11_sizeNow 3 [vr a0, vi a1, vu] [vi b0] κ I L Z := E_istore_n dX11_sizeNow_3 rfl (Nat.le_of_ble_eq_true rfl) k
theorem t55_X11_ofSort_4 {E : En} {d : Nat} {κ : Kp} {I L : MI} {Z : Zt} {a0 : Nat} {a1 a2 a3 : Int}  (k : Ev E d M_X11_ofSort 5 [vr a0, vi a1, vi a2, vi a3] [vi a3] κ I L Z) : Ev E d M_X11_ofSort 4 [vr a0, vi a1, vi a2, vi a3] [] κ I L Z := E_iload_n dX11_ofSort_4 rfl k
theorem t55_X11_ofSort_5 {E : En} {d : Nat} {κ : Kp} {I L : MI} {Z : Zt} {a0 : Nat} {a1 a2 a3 b0 : Int}  (k : Ev E d M_X11_ofSort 6 [vr a0, vi a1, vi a2, vi a3] [vr a0, vi b0] κ I L Z) : Ev E d M_X11_ofSort 5 [vr a0, vi a1, vi a2, vi a3] [vi b0] κ I L Z := E_aload_n dX11_ofSort_5 rfl k
theorem t55_X11_ofSort_6 {E : En} {d : Nat} {κ : Kp} {I L : MI} {Z : Zt} {a0 b0 : Nat} {a1 a2 a3 b1 : Int} {q : Nat} (hs : κ.1.1[b0]? = some (.inl 11)) (hq : κ.1.2 b0 5 = some q) (k : Ev E d M_X11_ofSort 9 [vr a0, vi a1, vi a2, vi a3] [vr q, vi b1] κ I L Z) : Ev E d M_X11_ofSort 6 [vr a0, vi a1, vi a2, vi a3] [vr b0, vi b1] κ I L Z := E_getR (ci := 11) (n := 5) dX11_ofSort_6 wF_RX11_19 (by decide) hs rfl hq k
theorem t55_X11_ofSort_9 {E : En} {d : Nat} {κ : Kp} {I L : MI} {Z : Zt} {a0 b0 : Nat} {a1 a2 a3 b1 : Int}  (k : Ev E d M_X11_ofSort 10 [vr a0, vi a1, vi a2, vi a3] [vi 0, vr b0, vi b1] κ I L Z) : Ev E d M_X11_ofSort 9 [vr a0, vi a1, vi a2, vi a3] [vr b0, vi b1] κ I L Z := E_iconst (v := 0) dX11_ofSort_9 rfl k
theorem t55_X11_ofSort_10 {E : En} {d : Nat} {κ : Kp} {I L : MI} {Z : Zt} {a0 b1 : Nat} {a1 a2 a3 b0 b2 : Int} {n : Nat} (hs : κ.1.1[b1]? = some (.inr (0, n))) (h0 : 0 ≤ b0) (h1 : b0 < n) (hi : Ir b0) (k : Ir (I b1 b0) → Ev E d M_X11_ofSort 11 [vr a0, vi a1, vi a2, vi a3] [vi (I b1 b0), vi b2] κ I L Z) : Ev E d M_X11_ofSort 10 [vr a0, vi a1, vi a2, vi a3] [vi b0, vr b1, vi b2] κ I L Z := E_ialdI dX11_ofSort_10 hs h0 h1 hi k
theorem t55_X11_ofSort_11 {E : En} {d : Nat} {κ : Kp} {I L : MI} {Z : Zt} {a0 : Nat} {a1 a2 a3 b0 b1 : Int} (hx : Ir b1) (hy : Ir b0) (kt : b0 ≤ b1 → Ev E d M_X11_ofSort 49 [vr a0, vi a1, vi a2, vi a3] [] κ I L Z) (kf : b1 < b0 → Ev E d M_X11_ofSort 14 [vr a0, vi a1, vi a2, vi a3] [] κ I L Z) : Ev E d M_X11_ofSort 11 [vr a0, vi a1, vi a2, vi a3] [vi b0, vi b1] κ I L Z := E_icmp_ge dX11_ofSort_11 hx hy kt kf (by decide)
theorem t55_X11_ofSort_49 {E : En} {d : Nat} {κ : Kp} {I L : MI} {Z : Zt} {a0 : Nat} {a1 a2 a3 : Int}  (k : Ev E d M_X11_ofSort 50 [vr a0, vi a1, vi a2, vi a3] [vi a2] κ I L Z) : Ev E d M_X11_ofSort 49 [vr a0, vi a1, vi a2, vi a3] [] κ I L Z := E_iload_n dX11_ofSort_49 rfl k
theorem t55_X11_ofSort_50 {E : En} {d : Nat} {g : Geo} {I L : MI} {Q : Option AV → Geo → MI → MI → Prop} {cs : Nat × Nat} {a0 : Nat} {a1 a2 a3 b0 : Int} (hq : Q (some (vi b0)) g I L) (h1 : cs.1 ≤ M_X11_ofSort.2.2.2.2.1 := by decide) (h2 : cs.2 ≤ M_X11_ofSort.2.2.2.2.2 := by decide) : Ev E d M_X11_ofSort 50 [vr a0, vi a1, vi a2, vi a3] [vi b0] (g, cs) I L (ZQ E M_X11_ofSort Q) := E_ireturn rfl dX11_ofSort_50 hq h1 h2
theorem t55_X11_ofSort_14 {E : En} {d : Nat} {κ : Kp} {I L : MI} {Z : Zt} {a0 : Nat} {a1 a2 a3 : Int}  (k : Ev E d M_X11_ofSort 15 [vr a0, vi a1, vi a2, vi a3] [vi a2] κ I L Z) : Ev E d M_X11_ofSort 14 [vr a0, vi a1, vi a2, vi a3] [] κ I L Z := E_iload_n dX11_ofSort_14 rfl k
theorem t55_X11_ofSort_15 {E : En} {d : Nat} {κ : Kp} {I L : MI} {Z : Zt} {a0 : Nat} {a1 a2 a3 b0 : Int}  (k : Ev E d M_X11_ofSort 16 [vr a0, vi a1, vi a2, vi a3] [vr a0, vi b0] κ I L Z) : Ev E d M_X11_ofSort 15 [vr a0, vi a1, vi a2, vi a3] [vi b0] κ I L Z := E_aload_n dX11_ofSort_15 rfl k
theorem t55_X11_ofSort_16 {E : En} {d : Nat} {κ : Kp} {I L : MI} {Z : Zt} {a0 b0 : Nat} {a1 a2 a3 b1 : Int} {q : Nat} (hs : κ.1.1[b0]? = some (.inl 11)) (hq : κ.1.2 b0 5 = some q) (k : Ev E d M_X11_ofSort 19 [vr a0, vi a1, vi a2, vi a3] [vr q, vi b1] κ I L Z) : Ev E d M_X11_ofSort 16 [vr a0, vi a1, vi a2, vi a3] [vr b0, vi b1] κ I L Z := E_getR (ci := 11) (n := 5) dX11_ofSort_16 wF_RX11_19 (by decide) hs rfl hq k
theorem t55_X11_ofSort_19 {E : En} {d : Nat} {κ : Kp} {I L : MI} {Z : Zt} {a0 b0 : Nat} {a1 a2 a3 b1 : Int}  (k : Ev E d M_X11_ofSort 20 [vr a0, vi a1, vi a2, vi a3] [vi 3, vr b0, vi b1] κ I L Z) : Ev E d M_X11_ofSort 19 [vr a0, vi a1, vi a2, vi a3] [vr b0, vi b1] κ I L Z := E_iconst (v := 3) dX11_ofSort_19 rfl k
theorem t55_X11_ofSort_20 {E : En} {d : Nat} {κ : Kp} {I L : MI} {Z : Zt} {a0 b1 : Nat} {a1 a2 a3 b0 b2 : Int}  (k : Ev E d M_X11_ofSort 21 [vr a0, vi a1, vi a2, vi a3] [vi 3, vi b0, vr b1, vi b2] κ I L Z) : Ev E d M_X11_ofSort 20 [vr a0, vi a1, vi a2, vi a3] [vi b0, vr b1, vi b2] κ I L Z := E_iconst (v := 3) dX11_ofSort_20 rfl k
theorem t55_X11_ofSort_21 {E : En} {d : Nat} {κ : Kp} {I L : MI} {Z : Zt} {a0 b2 : Nat} {a1 a2 a3 b0 b1 b3 : Int}  (k : Ev E d M_X11_ofSort 22 [vr a0, vi a1, vi a2, vi a3] [vi a3, vi b0, vi b1, vr b2, vi b3] κ I L Z) : Ev E d M_X11_ofSort 21 [vr a0, vi a1, vi a2, vi a3] [vi b0, vi b1, vr b2, vi b3] κ I L Z := E_iload_n dX11_ofSort_21 rfl k
theorem t55_X11_ofSort_22 {E : En} {d : Nat} {κ : Kp} {I L : MI} {Z : Zt} {a0 b3 : Nat} {a1 a2 a3 b0 b1 b2 b4 : Int}  (k : Ev E d M_X11_ofSort 23 [vr a0, vi a1, vi a2, vi a3] [vi (b1 * b0), vi b2, vr b3, vi b4] κ I L Z) : Ev E d M_X11_ofSort 22 [vr a0, vi a1, vi a2, vi a3] [vi b0, vi b1, vi b2, vr b3, vi b4] κ I L Z := E_imul dX11_ofSort_22 k
theorem t55_X11_ofSort_23 {E : En} {d : Nat} {κ : Kp} {I L : MI} {Z : Zt} {a0 b2 : Nat} {a1 a2 a3 b0 b1 b3 : Int}  (k : Ev E d M_X11_ofSort 24 [vr a0, vi a1, vi a2, vi a3] [vi (b1 + b0), vr b2, vi b3] κ I L Z) : Ev E d M_X11_ofSort 23 [vr a0, vi a1, vi a2, vi a3] [vi b0, vi b1, vr b2, vi b3] κ I L Z := E_iadd dX11_ofSort_23 k
theorem t55_X11_ofSort_24 {E : En} {d : Nat} {κ : Kp} {I L : MI} {Z : Zt} {a0 b1 : Nat} {a1 a2 a3 b0 b2 : Int}  (k : Ev E d M_X11_ofSort 25 [vr a0, vi a1, vi a2, vi a3] [vi 2, vi b0, vr b1, vi b2] κ I L Z) : Ev E d M_X11_ofSort 24 [vr a0, vi a1, vi a2, vi a3] [vi b0, vr b1, vi b2] κ I L Z := E_iconst (v := 2) dX11_ofSort_24 rfl k
theorem t55_X11_ofSort_25 {E : En} {d : Nat} {κ : Kp} {I L : MI} {Z : Zt} {a0 b2 : Nat} {a1 a2 a3 b0 b1 b3 : Int}  (k : Ev E d M_X11_ofSort 26 [vr a0, vi a1, vi a2, vi a3] [vi (b1 + b0), vr b2, vi b3] κ I L Z) : Ev E d M_X11_ofSort 25 [vr a0, vi a1, vi a2, vi a3] [vi b0, vi b1, vr b2, vi b3] κ I L Z := E_iadd dX11_ofSort_25 k
theorem t55_X11_ofSort_26 {E : En} {d : Nat} {κ : Kp} {I L : MI} {Z : Zt} {a0 b1 : Nat} {a1 a2 a3 b0 b2 : Int} {n : Nat} (hs : κ.1.1[b1]? = some (.inr (0, n))) (h0 : 0 ≤ b0) (h1 : b0 < n) (hi : Ir b0) (k : Ir (I b1 b0) → Ev E d M_X11_ofSort 27 [vr a0, vi a1, vi a2, vi a3] [vi (I b1 b0), vi b2] κ I L Z) : Ev E d M_X11_ofSort 26 [vr a0, vi a1, vi a2, vi a3] [vi b0, vr b1, vi b2] κ I L Z := E_ialdI dX11_ofSort_26 hs h0 h1 hi k
theorem t55_X11_ofSort_27 {E : En} {d : Nat} {κ : Kp} {I L : MI} {Z : Zt} {a0 : Nat} {a1 a2 a3 b0 b1 : Int}  (k : Ev E d M_X11_ofSort 28 [vr a0, vi a1, vi a2, vi a3] [vi a1, vi b0, vi b1] κ I L Z) : Ev E d M_X11_ofSort 27 [vr a0, vi a1, vi a2, vi a3] [vi b0, vi b1] κ I L Z := E_iload_n dX11_ofSort_27 rfl k
theorem t55_X11_ofSort_28 {E : En} {d : Nat} {κ : Kp} {I L : MI} {Z : Zt} {a0 : Nat} {a1 a2 a3 b0 b1 b2 : Int} (hx : Ir b1) (hy : Ir b0) (kt : ¬ b1 = b0 → Ev E d M_X11_ofSort 40 [vr a0, vi a1, vi a2, vi a3] [vi b2] κ I L Z) (kf : b1 = b0 → Ev E d M_X11_ofSort 31 [vr a0, vi a1, vi a2, vi a3] [vi b2] κ I L Z) : Ev E d M_X11_ofSort 28 [vr a0, vi a1, vi a2, vi a3] [vi b0, vi b1, vi b2] κ I L Z := E_icmp_ne dX11_ofSort_28 hx hy kt kf (by decide)
theorem t55_X11_ofSort_40 {E : En} {d : Nat} {κ : Kp} {I L : MI} {Z : Zt} {a0 : Nat} {a1 a2 a3 b0 : Int}  (k : Ev E d M_X11_ofSort 41 [vr a0, vi a1, vi a2, vi a3] [vi 0, vi b0] κ I L Z) : Ev E d M_X11_ofSort 40 [vr a0, vi a1, vi a2, vi a3] [vi b0] κ I L Z := E_iconst (v := 0) dX11_ofSort_40 rfl k
theorem t55_X11_ofSort_41 {E : En} {d : Nat} {κ : Kp} {I L : MI} {Z : Zt} {a0 : Nat} {a1 a2 a3 b0 b1 : Int}  (k : Ev E d M_X11_ofSort 42 [vr a0, vi a1, vi a2, vi a3] [vi (b1 + b0)] κ I L Z) : Ev E d M_X11_ofSort 41 [vr a0, vi a1, vi a2, vi a3] [vi b0, vi b1] κ I L Z := E_iadd dX11_ofSort_41 k
theorem t55_X11_ofSort_42 {E : En} {d : Nat} {κ : Kp} {I L : MI} {Z : Zt} {a0 : Nat} {a1 a2 a3 b0 : Int}  (k : Ev E d M_X11_ofSort 43 [vr a0, vi a1, vi b0, vi a3] [] κ I L Z) : Ev E d M_X11_ofSort 42 [vr a0, vi a1, vi a2, vi a3] [vi b0] κ I L Z := E_istore_n dX11_ofSort_42 rfl (Nat.le_of_ble_eq_true rfl) k
theorem t55_X11_ofSort_43 {E : En} {d : Nat} {κ : Kp} {I L : MI} {Z : Zt} {a0 : Nat} {a1 a2 a3 : Int}  (k : Ev E d M_X11_ofSort 46 [vr a0, vi a1, vi a2, vi (a3 + 1)] [] κ I L Z) : Ev E d M_X11_ofSort 43 [vr a0, vi a1, vi a2, vi a3] [] κ I L Z := E_iinc dX11_ofSort_43 rfl rfl (Nat.le_of_ble_eq_true rfl) k
theorem t55_X11_ofSort_46 {E : En} {d : Nat} {κ : Kp} {I L : MI} {Z : Zt} {a0 : Nat} {a1 a2 a3 : Int}  (k : Ev E d M_X11_ofSort 4 [vr a0, vi a1, vi a2, vi a3] [] κ I L Z) : Ev E d M_X11_ofSort 46 [vr a0, vi a1, vi a2, vi a3] [] κ I L Z := E_goto dX11_ofSort_46 (by decide) k
theorem t55_X11_ofSort_31 {E : En} {d : Nat} {κ : Kp} {I L : MI} {Z : Zt} {a0 : Nat} {a1 a2 a3 b0 : Int}  (k : Ev E d M_X11_ofSort 32 [vr a0, vi a1, vi a2, vi a3] [vr a0, vi b0] κ I L Z) : Ev E d M_X11_ofSort 31 [vr a0, vi a1, vi a2, vi a3] [vi b0] κ I L Z := E_aload_n dX11_ofSort_31 rfl k
theorem t55_X11_ofSort_32 {E : En} {d : Nat} {κ : Kp} {I L : MI} {Z : Zt} {a0 b0 : Nat} {a1 a2 a3 b1 : Int} {q : Nat} (hs : κ.1.1[b0]? = some (.inl 11)) (hq : κ.1.2 b0 19 = some q) (k : Ev E d M_X11_ofSort 35 [vr a0, vi a1, vi a2, vi a3] [vr q, vi b1] κ I L Z) : Ev E d M_X11_ofSort 32 [vr a0, vi a1, vi a2, vi a3] [vr b0, vi b1] κ I L Z := E_getR (ci := 11) (n := 19) dX11_ofSort_32 wF_RX11_32 (by decide) hs rfl hq k
theorem t55_X11_ofSort_35 {E : En} {d : Nat} {κ : Kp} {I L : MI} {Z : Zt} {a0 b0 : Nat} {a1 a2 a3 b1 : Int}  (k : Ev E d M_X11_ofSort 36 [vr a0, vi a1, vi a2, vi a3] [vi a3, vr b0, vi b1] κ I L Z) : Ev E d M_X11_ofSort 35 [vr a0, vi a1, vi a2, vi a3] [vr b0, vi b1] κ I L Z := E_iload_n dX11_ofSort_35 rfl k
theorem t55_X11_ofSort_36 {E : En} {d : Nat} {κ : Kp} {I L : MI} {Z : Zt} {a0 b1 : Nat} {a1 a2 a3 b0 b2 : Int} {n : Nat} (hs : κ.1.1[b1]? = some (.inr (0, n))) (h0 : 0 ≤ b0) (h1 : b0 < n) (hi : Ir b0) (k : Ir (I b1 b0) → Ev E d M_X11_ofSort 37 [vr a0, vi a1, vi a2, vi a3] [vi (I b1 b0), vi b2] κ I L Z) : Ev E d M_X11_ofSort 36 [vr a0, vi a1, vi a2, vi a3] [vi b0, vr b1, vi b2] κ I L Z := E_ialdI dX11_ofSort_36 hs h0 h1 hi k
theorem t55_X11_ofSort_37 {E : En} {d : Nat} {κ : Kp} {I L : MI} {Z : Zt} {a0 : Nat} {a1 a2 a3 b0 b1 : Int}  (k : Ev E d M_X11_ofSort 41 [vr a0, vi a1, vi a2, vi a3] [vi b0, vi b1] κ I L Z) : Ev E d M_X11_ofSort 37 [vr a0, vi a1, vi a2, vi a3] [vi b0, vi b1] κ I L Z := E_goto dX11_ofSort_37 (by decide) k
theorem t55_X11_ofSort_0 {E : En} {d : Nat} {κ : Kp} {I L : MI} {Z : Zt} {a0 : Nat} {a1 : Int}  (k : Ev E d M_X11_ofSort 1 [vr a0, vi a1, vu, vu] [vi 0] κ I L Z) : Ev E d M_X11_ofSort 0 [vr a0, vi a1, vu, vu] [] κ I L Z := E_iconst (v := 0) dX11_ofSort_0 rfl k
theorem t55_X11_ofSort_1 {E : En} {d : Nat} {κ : Kp} {I L : MI} {Z : Zt} {a0 : Nat} {a1 b0 : Int}  (k : Ev E d M_X11_ofSort 2 [vr a0, vi a1, vi b0, vu] [] κ I L Z) : Ev E d M_X11_ofSort 1 [vr a0, vi a1, vu, vu] [vi b0] κ I L Z := E_istore_n dX11_ofSort_1 rfl (Nat.le_of_ble_eq_true rfl) k
theorem t55_X11_ofSort_2 {E : En} {d : Nat} {κ : Kp} {I L : MI} {Z : Zt} {a0 : Nat} {a1 a2 : Int}  (k : Ev E d M_X11_ofSort 3 [vr a0, vi a1, vi a2, vu] [vi 0] κ I L Z) : Ev E d M_X11_ofSort 2 [vr a0, vi a1, vi a2, vu] [] κ I L Z := E_iconst (v := 0) dX11_ofSort_2 rfl k
theorem t55_X11_ofSort_3 {E : En} {d : Nat} {κ : Kp} {I L : MI} {Z : Zt} {a0 : Nat} {a1 a2 b0 : Int}  (k : Ev E d M_X11_ofSort 4 [vr a0, vi a1, vi a2, vi b0] [] κ I L Z) : Ev E d M_X11_ofSort 3 [vr a0, vi a1, vi a2, vu] [vi b0] κ I L Z := E_istore_n dX11_ofSort_3 rfl (Nat.le_of_ble_eq_true rfl) k
/-! THE REFERENCE: sizes -/
def smN (C : Int → Int) : Nat → Int
  | 0 => 0
  | k + 1 => smN C k + C (k : Int)
theorem smN_b {C : Int → Int} {n : Nat} (h : ∀ k : Nat, k < n → 0 ≤ C k ∧ C k ≤ 10000) : ∀ k : Nat, k ≤ n → 0 ≤ smN C k ∧ smN C k ≤ 10000 * k := by
  intro k
  induction k with
  | zero => intro _; exact ⟨Int.le_refl _, Int.le_refl _⟩
  | succ k ih =>
    intro hk
    have h1 := ih (by omega)
    have h2 := h k (by omega)
    unfold smN
    omega
/-- how often each stands -/
def StB (I : MI) : Prop := ∀ k : Nat, k < 12 → 0 ≤ I 86 k ∧ I 86 k ≤ 10000
theorem c_X11_sizeNow {E : En} {I L : MI} (hs : StB I := by assumption) : CFi E 1 M_X11_sizeNow [vr 78] I L (smN (I 86) 12) I L := by
  have g86 : G0.1[86]? = some (.inr (0, 12)) := rfl
  have sb := smN_b (C := I 86) hs
  refine CM_of' (al := [vr _, vu, vu]) rfl (Nat.le_of_ble_eq_true rfl) rfl (fun hM => ?_)
  have key : ∀ (f : Nat) (k : Nat), 12 - k < f → k ≤ 12 → Ev E 1 M_X11_sizeNow 4 [vr 78, vi (smN (I 86) k), vi (k : Int)] [] (G0, 0, 0) I L (ZQ E M_X11_sizeNow (QFi (smN (I 86) 12) I L)) := by
    intro f
    induction f with
    | zero => intro k h1 h2; omega
    | succ f ih =>
      intro k k1 k2
      have b := sb k k2
      have c := fun h : k < 12 => hs k h
      refine (t55_X11_sizeNow_4 (t55_X11_sizeNow_5 (t55_X11_sizeNow_7 (by omega) (by omega) (fun c7 => (t55_X11_sizeNow_25 (t55_X11_sizeNow_26 ?_))) (fun c7 => (t55_X11_sizeNow_10 (t55_X11_sizeNow_11 (t55_X11_sizeNow_12 (by first | assumption | rfl) (by first | assumption | rfl) (t55_X11_sizeNow_15 (t55_X11_sizeNow_16 (by first | assumption | rfl) (by omega) (by omega) (by omega) (fun r16 => (t55_X11_sizeNow_17 (t55_X11_sizeNow_18 (t55_X11_sizeNow_19 (t55_X11_sizeNow_22 ?_))))))))))))))
      -- 2 leaves: 7t :ret26 | 7f :->4
      · have : k = 12 := by omega
        subst this
        exact qfi (by omega) rfl
      · exact ih (k + 1) (by omega) (by omega)
  refine (t55_X11_sizeNow_0 (t55_X11_sizeNow_1 (t55_X11_sizeNow_2 (t55_X11_sizeNow_3 ?_))))
  -- 1 leaves: :->4
  exact key 13 0 (by omega) (by omega)
/-- together of a sort, S the sorts -/
def rSoN (S C : Int → Int) (s : Int) : Nat → Int
  | 0 => 0
  | k + 1 => rSoN S C s k + if S (3 + 3 * (k : Int) + 2) = s then C (k : Int) else 0
theorem rSoN_b {S C : Int → Int} {s : Int} {n : Nat} (h : ∀ k : Nat, k < n → 0 ≤ C k ∧ C k ≤ 10000) : ∀ k : Nat, k ≤ n → 0 ≤ rSoN S C s k ∧ rSoN S C s k ≤ 10000 * k := by
  intro k
  induction k with
  | zero => intro _; exact ⟨Int.le_refl _, Int.le_refl _⟩
  | succ k ih =>
    intro hk
    have h1 := ih (by omega)
    have h2 := h k (by omega)
    unfold rSoN
    split <;> omega
theorem c_X11_ofSort {E : En} {I L : MI} {s : Int} {n : Nat} (hsr : Ir s := by omega) (hn : I 82 0 = n) (hn2 : n ≤ 12) (hs : StB I := by assumption) : CFi E 1 M_X11_ofSort [vr 78, vi s] I L (rSoN (I 82) (I 86) s n) I L := by
  have g86 : G0.1[86]? = some (.inr (0, 12)) := rfl
  have g82 : G0.1[82]? = some (.inr (0, 65)) := rfl
  have sb := rSoN_b (S := I 82) (C := I 86) (s := s) hs
  refine CM_of' (al := [vr _, vi _, vu, vu]) rfl (Nat.le_of_ble_eq_true rfl) rfl (fun hM => ?_)
  have key : ∀ (f : Nat) (k : Nat), n - k < f → k ≤ n → Ev E 1 M_X11_ofSort 4 [vr 78, vi s, vi (rSoN (I 82) (I 86) s k), vi (k : Int)] [] (G0, 0, 0) I L (ZQ E M_X11_ofSort (QFi (rSoN (I 82) (I 86) s n) I L)) := by
    intro f
    induction f with
    | zero => intro k h1 h2; omega
    | succ f ih =>
      intro k k1 k2
      have b := sb k (by omega)
      have c := fun h : k < 12 => hs k h
      have es : rSoN (I 82) (I 86) s (k + 1) = rSoN (I 82) (I 86) s k + if I 82 (3 + 3 * (k : Int) + 2) = s then I 86 (k : Int) else 0 := rfl
      have hi := fun h : k + 1 ≤ n => ih (k + 1) (by omega) h
      rw [es] at hi
      refine (t55_X11_ofSort_4 (t55_X11_ofSort_5 (t55_X11_ofSort_6 (by first | assumption | rfl) (by first | assumption | rfl) (t55_X11_ofSort_9 (t55_X11_ofSort_10 (by first | assumption | rfl) (by omega) (by omega) (by omega) (fun r10 => (t55_X11_ofSort_11 (by omega) (by omega) (fun c11 => (t55_X11_ofSort_49 (t55_X11_ofSort_50 ?_))) (fun c11 => (t55_X11_ofSort_14 (t55_X11_ofSort_15 (t55_X11_ofSort_16 (by first | assumption | rfl) (by first | assumption | rfl) (t55_X11_ofSort_19 (t55_X11_ofSort_20 (t55_X11_ofSort_21 (t55_X11_ofSort_22 (t55_X11_ofSort_23 (t55_X11_ofSort_24 (t55_X11_ofSort_25 (t55_X11_ofSort_26 (by first | assumption | rfl) (by omega) (by omega) (by omega) (fun r26 => (t55_X11_ofSort_27 (t55_X11_ofSort_28 (by omega) (by omega) (fun c28 => (t55_X11_ofSort_40 (t55_X11_ofSort_41 (t55_X11_ofSort_42 (t55_X11_ofSort_43 (t55_X11_ofSort_46 ?_)))))) (fun c28 => (t55_X11_ofSort_31 (t55_X11_ofSort_32 (by first | assumption | rfl) (by first | assumption | rfl) (t55_X11_ofSort_35 (t55_X11_ofSort_36 (by first | assumption | rfl) (by omega) (by omega) (by omega) (fun r36 => (t55_X11_ofSort_37 (t55_X11_ofSort_41 (t55_X11_ofSort_42 (t55_X11_ofSort_43 (t55_X11_ofSort_46 ?_)))))))))))))))))))))))))))))))))
      -- 3 leaves: 11t :ret50 | 11f 28t :->4 | 11f 28f :->4
      · have : k = n := by omega
        subst this
        exact qfi (by omega) rfl
      · have h := hi (by omega)
        rw [if_neg c28] at h
        exact h
      · have h := hi (by omega)
        rw [if_pos c28] at h
        exact h
  refine (t55_X11_ofSort_0 (t55_X11_ofSort_1 (t55_X11_ofSort_2 (t55_X11_ofSort_3 ?_))))
  -- 1 leaves: :->4
  exact key (n + 1) 0 (by omega) (by omega)
