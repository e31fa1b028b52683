theorem t66_X11_madeNow_4 {E : En} {d : Nat} {κ : Kp} {I L : MI} {Z : Zt} {a0 : Nat} {a1 a3 : Int}  (k : Ev E d M_X11_madeNow 5 [vr a0, vl a1, vu, vi a3, vu] [vi a3] κ I L Z) : Ev E d M_X11_madeNow 4 [vr a0, vl a1, vu, vi a3, vu] [] κ I L Z := E_iload_n dX11_madeNow_4 rfl k
theorem t66_X11_madeNow_5 {E : En} {d : Nat} {κ : Kp} {I L : MI} {Z : Zt} {a0 : Nat} {a1 a3 b0 : Int}  (k : Ev E d M_X11_madeNow 6 [vr a0, vl a1, vu, vi a3, vu] [vr a0, vi b0] κ I L Z) : Ev E d M_X11_madeNow 5 [vr a0, vl a1, vu, vi a3, vu] [vi b0] κ I L Z := E_aload_n dX11_madeNow_5 rfl k
theorem t66_X11_madeNow_6 {E : En} {d : Nat} {κ : Kp} {I L : MI} {Z : Zt} {a0 b0 : Nat} {a1 a3 b1 : Int} {q : Nat} (hs : κ.1.1[b0]? = some (.inl 11)) (hq : κ.1.2 b0 5 = some q) (k : Ev E d M_X11_madeNow 9 [vr a0, vl a1, vu, vi a3, vu] [vr q, vi b1] κ I L Z) : Ev E d M_X11_madeNow 6 [vr a0, vl a1, vu, vi a3, vu] [vr b0, vi b1] κ I L Z := E_getR (ci := 11) (n := 5) dX11_madeNow_6 wF_RX11_19 (by decide) hs rfl hq k
theorem t66_X11_madeNow_9 {E : En} {d : Nat} {κ : Kp} {I L : MI} {Z : Zt} {a0 b0 : Nat} {a1 a3 b1 : Int}  (k : Ev E d M_X11_madeNow 10 [vr a0, vl a1, vu, vi a3, vu] [vi 0, vr b0, vi b1] κ I L Z) : Ev E d M_X11_madeNow 9 [vr a0, vl a1, vu, vi a3, vu] [vr b0, vi b1] κ I L Z := E_iconst (v := 0) dX11_madeNow_9 rfl k
theorem t66_X11_madeNow_10 {E : En} {d : Nat} {κ : Kp} {I L : MI} {Z : Zt} {a0 b1 : Nat} {a1 a3 b0 b2 : Int} {n : Nat} (hs : κ.1.1[b1]? = some (.inr (0, n))) (h0 : 0 ≤ b0) (h1 : b0 < n) (hi : Ir b0) (k : Ir (I b1 b0) → Ev E d M_X11_madeNow 11 [vr a0, vl a1, vu, vi a3, vu] [vi (I b1 b0), vi b2] κ I L Z) : Ev E d M_X11_madeNow 10 [vr a0, vl a1, vu, vi a3, vu] [vi b0, vr b1, vi b2] κ I L Z := E_ialdI dX11_madeNow_10 hs h0 h1 hi k
theorem t66_X11_madeNow_11 {E : En} {d : Nat} {κ : Kp} {I L : MI} {Z : Zt} {a0 : Nat} {a1 a3 b0 b1 : Int} (hx : Ir b1) (hy : Ir b0) (kt : b0 ≤ b1 → Ev E d M_X11_madeNow 73 [vr a0, vl a1, vu, vi a3, vu] [] κ I L Z) (kf : b1 < b0 → Ev E d M_X11_madeNow 14 [vr a0, vl a1, vu, vi a3, vu] [] κ I L Z) : Ev E d M_X11_madeNow 11 [vr a0, vl a1, vu, vi a3, vu] [vi b0, vi b1] κ I L Z := E_icmp_ge dX11_madeNow_11 hx hy kt kf (by decide)
theorem t66_X11_madeNow_73 {E : En} {d : Nat} {κ : Kp} {I L : MI} {Z : Zt} {a0 : Nat} {a1 a3 : Int}  (k : Ev E d M_X11_madeNow 74 [vr a0, vl a1, vu, vi a3, vu] [vl a1] κ I L Z) : Ev E d M_X11_madeNow 73 [vr a0, vl a1, vu, vi a3, vu] [] κ I L Z := E_lload_n dX11_madeNow_73 rfl k
theorem t66_X11_madeNow_74 {E : En} {d : Nat} {g : Geo} {I L : MI} {Q : Option AV → Geo → MI → MI → Prop} {cs : Nat × Nat} {a0 : Nat} {a1 a3 b0 : Int} (hq : Q (some (vl b0)) g I L) (h1 : cs.1 ≤ M_X11_madeNow.2.2.2.2.1 := by decide) (h2 : cs.2 ≤ M_X11_madeNow.2.2.2.2.2 := by decide) : Ev E d M_X11_madeNow 74 [vr a0, vl a1, vu, vi a3, vu] [vl b0] (g, cs) I L (ZQ E M_X11_madeNow Q) := E_lreturn rfl dX11_madeNow_74 hq h1 h2
theorem t66_X11_madeNow_14 {E : En} {d : Nat} {κ : Kp} {I L : MI} {Z : Zt} {a0 : Nat} {a1 a3 : Int}  (k : Ev E d M_X11_madeNow 15 [vr a0, vl a1, vu, vi a3, vu] [vi 0] κ I L Z) : Ev E d M_X11_madeNow 14 [vr a0, vl a1, vu, vi a3, vu] [] κ I L Z := E_iconst (v := 0) dX11_madeNow_14 rfl k
theorem t66_X11_madeNow_15 {E : En} {d : Nat} {κ : Kp} {I L : MI} {Z : Zt} {a0 : Nat} {a1 a3 b0 : Int}  (k : Ev E d M_X11_madeNow 17 [vr a0, vl a1, vu, vi a3, vi b0] [] κ I L Z) : Ev E d M_X11_madeNow 15 [vr a0, vl a1, vu, vi a3, vu] [vi b0] κ I L Z := E_istore dX11_madeNow_15 rfl (Nat.le_of_ble_eq_true rfl) k
theorem t66_X11_madeNow_17 {E : En} {d : Nat} {κ : Kp} {I L : MI} {Z : Zt} {a0 : Nat} {a1 a3 a4 : Int}  (k : Ev E d M_X11_madeNow 19 [vr a0, vl a1, vu, vi a3, vi a4] [vi a4] κ I L Z) : Ev E d M_X11_madeNow 17 [vr a0, vl a1, vu, vi a3, vi a4] [] κ I L Z := E_iload dX11_madeNow_17 rfl k
theorem t66_X11_madeNow_19 {E : En} {d : Nat} {κ : Kp} {I L : MI} {Z : Zt} {a0 : Nat} {a1 a3 a4 b0 : Int}  (k : Ev E d M_X11_madeNow 20 [vr a0, vl a1, vu, vi a3, vi a4] [vr a0, vi b0] κ I L Z) : Ev E d M_X11_madeNow 19 [vr a0, vl a1, vu, vi a3, vi a4] [vi b0] κ I L Z := E_aload_n dX11_madeNow_19 rfl k
theorem t66_X11_madeNow_20 {E : En} {d : Nat} {κ : Kp} {I L : MI} {Z : Zt} {a0 b0 : Nat} {a1 a3 a4 b1 : Int} {q : Nat} (hs : κ.1.1[b0]? = some (.inl 11)) (hq : κ.1.2 b0 19 = some q) (k : Ev E d M_X11_madeNow 23 [vr a0, vl a1, vu, vi a3, vi a4] [vr q, vi b1] κ I L Z) : Ev E d M_X11_madeNow 20 [vr a0, vl a1, vu, vi a3, vi a4] [vr b0, vi b1] κ I L Z := E_getR (ci := 11) (n := 19) dX11_madeNow_20 wF_RX11_32 (by decide) hs rfl hq k
theorem t66_X11_madeNow_23 {E : En} {d : Nat} {κ : Kp} {I L : MI} {Z : Zt} {a0 b0 : Nat} {a1 a3 a4 b1 : Int}  (k : Ev E d M_X11_madeNow 24 [vr a0, vl a1, vu, vi a3, vi a4] [vi a3, vr b0, vi b1] κ I L Z) : Ev E d M_X11_madeNow 23 [vr a0, vl a1, vu, vi a3, vi a4] [vr b0, vi b1] κ I L Z := E_iload_n dX11_madeNow_23 rfl k
theorem t66_X11_madeNow_24 {E : En} {d : Nat} {κ : Kp} {I L : MI} {Z : Zt} {a0 b1 : Nat} {a1 a3 a4 b0 b2 : Int} {n : Nat} (hs : κ.1.1[b1]? = some (.inr (0, n))) (h0 : 0 ≤ b0) (h1 : b0 < n) (hi : Ir b0) (k : Ir (I b1 b0) → Ev E d M_X11_madeNow 25 [vr a0, vl a1, vu, vi a3, vi a4] [vi (I b1 b0), vi b2] κ I L Z) : Ev E d M_X11_madeNow 24 [vr a0, vl a1, vu, vi a3, vi a4] [vi b0, vr b1, vi b2] κ I L Z := E_ialdI dX11_madeNow_24 hs h0 h1 hi k
theorem t66_X11_madeNow_25 {E : En} {d : Nat} {κ : Kp} {I L : MI} {Z : Zt} {a0 : Nat} {a1 a3 a4 b0 b1 : Int} (hx : Ir b1) (hy : Ir b0) (kt : b0 ≤ b1 → Ev E d M_X11_madeNow 67 [vr a0, vl a1, vu, vi a3, vi a4] [] κ I L Z) (kf : b1 < b0 → Ev E d M_X11_madeNow 28 [vr a0, vl a1, vu, vi a3, vi a4] [] κ I L Z) : Ev E d M_X11_madeNow 25 [vr a0, vl a1, vu, vi a3, vi a4] [vi b0, vi b1] κ I L Z := E_icmp_ge dX11_madeNow_25 hx hy kt kf (by decide)
theorem t66_X11_madeNow_67 {E : En} {d : Nat} {κ : Kp} {I L : MI} {Z : Zt} {a0 : Nat} {a1 a3 a4 : Int}  (k : Ev E d M_X11_madeNow 70 [vr a0, vl a1, vu, vi (a3 + 1), vi a4] [] κ I L Z) : Ev E d M_X11_madeNow 67 [vr a0, vl a1, vu, vi a3, vi a4] [] κ I L Z := E_iinc dX11_madeNow_67 rfl rfl (Nat.le_of_ble_eq_true rfl) k
theorem t66_X11_madeNow_70 {E : En} {d : Nat} {κ : Kp} {I L : MI} {Z : Zt} {a0 : Nat} {a1 a3 a4 : Int}  (k : Ev E d M_X11_madeNow 4 [vr a0, vl a1, vu, vi a3, vi a4] [] κ I L Z) : Ev E d M_X11_madeNow 70 [vr a0, vl a1, vu, vi a3, vi a4] [] κ I L Z := E_goto dX11_madeNow_70 (by decide) k
theorem t66_X11_madeNow_28 {E : En} {d : Nat} {κ : Kp} {I L : MI} {Z : Zt} {a0 : Nat} {a1 a3 a4 : Int}  (k : Ev E d M_X11_madeNow 29 [vr a0, vl a1, vu, vi a3, vi a4] [vl a1] κ I L Z) : Ev E d M_X11_madeNow 28 [vr a0, vl a1, vu, vi a3, vi a4] [] κ I L Z := E_lload_n dX11_madeNow_28 rfl k
theorem t66_X11_madeNow_29 {E : En} {d : Nat} {κ : Kp} {I L : MI} {Z : Zt} {a0 : Nat} {a1 a3 a4 b0 : Int}  (k : Ev E d M_X11_madeNow 30 [vr a0, vl a1, vu, vi a3, vi a4] [vr a0, vl b0] κ I L Z) : Ev E d M_X11_madeNow 29 [vr a0, vl a1, vu, vi a3, vi a4] [vl b0] κ I L Z := E_aload_n dX11_madeNow_29 rfl k
theorem t66_X11_madeNow_30 {E : En} {d : Nat} {κ : Kp} {I L : MI} {Z : Zt} {a0 b0 : Nat} {a1 a3 a4 b1 : Int} {q : Nat} (hs : κ.1.1[b0]? = some (.inl 11)) (hq : κ.1.2 b0 5 = some q) (k : Ev E d M_X11_madeNow 33 [vr a0, vl a1, vu, vi a3, vi a4] [vr q, vl b1] κ I L Z) : Ev E d M_X11_madeNow 30 [vr a0, vl a1, vu, vi a3, vi a4] [vr b0, vl b1] κ I L Z := E_getR (ci := 11) (n := 5) dX11_madeNow_30 wF_RX11_19 (by decide) hs rfl hq k
theorem t66_X11_madeNow_33 {E : En} {d : Nat} {κ : Kp} {I L : MI} {Z : Zt} {a0 b0 : Nat} {a1 a3 a4 b1 : Int}  (k : Ev E d M_X11_madeNow 34 [vr a0, vl a1, vu, vi a3, vi a4] [vi 3, vr b0, vl b1] κ I L Z) : Ev E d M_X11_madeNow 33 [vr a0, vl a1, vu, vi a3, vi a4] [vr b0, vl b1] κ I L Z := E_iconst (v := 3) dX11_madeNow_33 rfl k
theorem t66_X11_madeNow_34 {E : En} {d : Nat} {κ : Kp} {I L : MI} {Z : Zt} {a0 b1 : Nat} {a1 a3 a4 b0 b2 : Int}  (k : Ev E d M_X11_madeNow 35 [vr a0, vl a1, vu, vi a3, vi a4] [vi 3, vi b0, vr b1, vl b2] κ I L Z) : Ev E d M_X11_madeNow 34 [vr a0, vl a1, vu, vi a3, vi a4] [vi b0, vr b1, vl b2] κ I L Z := E_iconst (v := 3) dX11_madeNow_34 rfl k
theorem t66_X11_madeNow_35 {E : En} {d : Nat} {κ : Kp} {I L : MI} {Z : Zt} {a0 b2 : Nat} {a1 a3 a4 b0 b1 b3 : Int}  (k : Ev E d M_X11_madeNow 36 [vr a0, vl a1, vu, vi a3, vi a4] [vi a3, vi b0, vi b1, vr b2, vl b3] κ I L Z) : Ev E d M_X11_madeNow 35 [vr a0, vl a1, vu, vi a3, vi a4] [vi b0, vi b1, vr b2, vl b3] κ I L Z := E_iload_n dX11_madeNow_35 rfl k
theorem t66_X11_madeNow_36 {E : En} {d : Nat} {κ : Kp} {I L : MI} {Z : Zt} {a0 b3 : Nat} {a1 a3 a4 b0 b1 b2 b4 : Int}  (k : Ev E d M_X11_madeNow 37 [vr a0, vl a1, vu, vi a3, vi a4] [vi (b1 * b0), vi b2, vr b3, vl b4] κ I L Z) : Ev E d M_X11_madeNow 36 [vr a0, vl a1, vu, vi a3, vi a4] [vi b0, vi b1, vi b2, vr b3, vl b4] κ I L Z := E_imul dX11_madeNow_36 k
theorem t66_X11_madeNow_37 {E : En} {d : Nat} {κ : Kp} {I L : MI} {Z : Zt} {a0 b2 : Nat} {a1 a3 a4 b0 b1 b3 : Int}  (k : Ev E d M_X11_madeNow 38 [vr a0, vl a1, vu, vi a3, vi a4] [vi (b1 + b0), vr b2, vl b3] κ I L Z) : Ev E d M_X11_madeNow 37 [vr a0, vl a1, vu, vi a3, vi a4] [vi b0, vi b1, vr b2, vl b3] κ I L Z := E_iadd dX11_madeNow_37 k
theorem t66_X11_madeNow_38 {E : En} {d : Nat} {κ : Kp} {I L : MI} {Z : Zt} {a0 b1 : Nat} {a1 a3 a4 b0 b2 : Int}  (k : Ev E d M_X11_madeNow 40 [vr a0, vl a1, vu, vi a3, vi a4] [vi a4, vi b0, vr b1, vl b2] κ I L Z) : Ev E d M_X11_madeNow 38 [vr a0, vl a1, vu, vi a3, vi a4] [vi b0, vr b1, vl b2] κ I L Z := E_iload dX11_madeNow_38 rfl k
theorem t66_X11_madeNow_40 {E : En} {d : Nat} {κ : Kp} {I L : MI} {Z : Zt} {a0 b2 : Nat} {a1 a3 a4 b0 b1 b3 : Int}  (k : Ev E d M_X11_madeNow 41 [vr a0, vl a1, vu, vi a3, vi a4] [vr a0, vi b0, vi b1, vr b2, vl b3] κ I L Z) : Ev E d M_X11_madeNow 40 [vr a0, vl a1, vu, vi a3, vi a4] [vi b0, vi b1, vr b2, vl b3] κ I L Z := E_aload_n dX11_madeNow_40 rfl k
theorem t66_X11_madeNow_41 {E : En} {d : Nat} {κ : Kp} {I L : MI} {Z : Zt} {a0 b0 b3 : Nat} {a1 a3 a4 b1 b2 b4 : Int} {q : Nat} (hs : κ.1.1[b0]? = some (.inl 11)) (hq : κ.1.2 b0 24 = some q) (k : Ev E d M_X11_madeNow 44 [vr a0, vl a1, vu, vi a3, vi a4] [vr q, vi b1, vi b2, vr b3, vl b4] κ I L Z) : Ev E d M_X11_madeNow 41 [vr a0, vl a1, vu, vi a3, vi a4] [vr b0, vi b1, vi b2, vr b3, vl b4] κ I L Z := E_getR (ci := 11) (n := 24) dX11_madeNow_41 wF_RX11_41 (by decide) hs rfl hq k
theorem t66_X11_madeNow_44 {E : En} {d : Nat} {κ : Kp} {I L : MI} {Z : Zt} {a0 b0 b3 : Nat} {a1 a3 a4 b1 b2 b4 : Int}  (k : Ev E d M_X11_madeNow 45 [vr a0, vl a1, vu, vi a3, vi a4] [vi a3, vr b0, vi b1, vi b2, vr b3, vl b4] κ I L Z) : Ev E d M_X11_madeNow 44 [vr a0, vl a1, vu, vi a3, vi a4] [vr b0, vi b1, vi b2, vr b3, vl b4] κ I L Z := E_iload_n dX11_madeNow_44 rfl k
theorem t66_X11_madeNow_45 {E : En} {d : Nat} {κ : Kp} {I L : MI} {Z : Zt} {a0 b1 b4 : Nat} {a1 a3 a4 b0 b2 b3 b5 : Int} {n : Nat} (hs : κ.1.1[b1]? = some (.inr (0, n))) (h0 : 0 ≤ b0) (h1 : b0 < n) (hi : Ir b0) (k : Ir (I b1 b0) → Ev E d M_X11_madeNow 46 [vr a0, vl a1, vu, vi a3, vi a4] [vi (I b1 b0), vi b2, vi b3, vr b4, vl b5] κ I L Z) : Ev E d M_X11_madeNow 45 [vr a0, vl a1, vu, vi a3, vi a4] [vi b0, vr b1, vi b2, vi b3, vr b4, vl b5] κ I L Z := E_ialdI dX11_madeNow_45 hs h0 h1 hi k
theorem t66_X11_madeNow_46 {E : En} {d : Nat} {κ : Kp} {I L : MI} {Z : Zt} {a0 b3 : Nat} {a1 a3 a4 b0 b1 b2 b4 : Int} (hx : Ir b1) (hy : Ir b0) (kt : b0 ≤ b1 → Ev E d M_X11_madeNow 53 [vr a0, vl a1, vu, vi a3, vi a4] [vi b2, vr b3, vl b4] κ I L Z) (kf : b1 < b0 → Ev E d M_X11_madeNow 49 [vr a0, vl a1, vu, vi a3, vi a4] [vi b2, vr b3, vl b4] κ I L Z) : Ev E d M_X11_madeNow 46 [vr a0, vl a1, vu, vi a3, vi a4] [vi b0, vi b1, vi b2, vr b3, vl b4] κ I L Z := E_icmp_ge dX11_madeNow_46 hx hy kt kf (by decide)
theorem t66_X11_madeNow_53 {E : En} {d : Nat} {κ : Kp} {I L : MI} {Z : Zt} {a0 b1 : Nat} {a1 a3 a4 b0 b2 : Int}  (k : Ev E d M_X11_madeNow 54 [vr a0, vl a1, vu, vi a3, vi a4] [vi 0, vi b0, vr b1, vl b2] κ I L Z) : Ev E d M_X11_madeNow 53 [vr a0, vl a1, vu, vi a3, vi a4] [vi b0, vr b1, vl b2] κ I L Z := E_iconst (v := 0) dX11_madeNow_53 rfl k
theorem t66_X11_madeNow_54 {E : En} {d : Nat} {κ : Kp} {I L : MI} {Z : Zt} {a0 b2 : Nat} {a1 a3 a4 b0 b1 b3 : Int}  (k : Ev E d M_X11_madeNow 55 [vr a0, vl a1, vu, vi a3, vi a4] [vi (b1 + b0), vr b2, vl b3] κ I L Z) : Ev E d M_X11_madeNow 54 [vr a0, vl a1, vu, vi a3, vi a4] [vi b0, vi b1, vr b2, vl b3] κ I L Z := E_iadd dX11_madeNow_54 k
theorem t66_X11_madeNow_55 {E : En} {d : Nat} {κ : Kp} {I L : MI} {Z : Zt} {a0 b1 : Nat} {a1 a3 a4 b0 b2 : Int} {n : Nat} (hs : κ.1.1[b1]? = some (.inr (0, n))) (h0 : 0 ≤ b0) (h1 : b0 < n) (hi : Ir b0) (k : Ir (I b1 b0) → Ev E d M_X11_madeNow 56 [vr a0, vl a1, vu, vi a3, vi a4] [vi (I b1 b0), vl b2] κ I L Z) : Ev E d M_X11_madeNow 55 [vr a0, vl a1, vu, vi a3, vi a4] [vi b0, vr b1, vl b2] κ I L Z := E_ialdI dX11_madeNow_55 hs h0 h1 hi k
theorem t66_X11_madeNow_56 {E : En} {d : Nat} {κ : Kp} {I L : MI} {Z : Zt} {a0 : Nat} {a1 a3 a4 b0 b1 : Int} (hx : Ir b0) (k : Ev E d M_X11_madeNow 57 [vr a0, vl a1, vu, vi a3, vi a4] [vl b0, vl b1] κ I L Z) : Ev E d M_X11_madeNow 56 [vr a0, vl a1, vu, vi a3, vi a4] [vi b0, vl b1] κ I L Z := E_i2l dX11_madeNow_56 hx k
theorem t66_X11_madeNow_57 {E : En} {d d' : Nat} {cs : Nat × Nat} {I L : MI} {Z : Zt} {a0 : Nat} {a1 a3 a4 b0 b1 : Int} {z : Int} {I' L' : MI} (hM : CFl E d' M_X11_times [vl b1, vl b0] I L z I' L') (hlt : d' + 1 ≤ d) (k : Jr z → Ev E d M_X11_madeNow 60 [vr a0, vl a1, vu, vi a3, vi a4] [vl z] (G0, cs) I' L' Z) (hc1 : cs.1 ≤ M_X11_madeNow.2.2.2.2.1 := by decide) (hc2 : cs.2 ≤ M_X11_madeNow.2.2.2.2.2 := by decide) : Ev E d M_X11_madeNow 57 [vr a0, vl a1, vu, vi a3, vi a4] [vl b0, vl b1] (G0, cs) I L Z := E_callS (as := [vl b1, vl b0]) (rest := []) (n := 2) hM dX11_madeNow_57 wM_RX11_213 wS_X11_times hlt wC_X11_times wI_X11 (by decide +kernel) rfl (by decide) (Nat.le_of_ble_eq_true rfl) hc1 hc2 rfl (fun r g' I2 L2 h => by obtain ⟨rfl, z, rfl, hr, rfl, rfl, rfl⟩ := h; exact k hr)
theorem t66_X11_madeNow_60 {E : En} {d : Nat} {κ : Kp} {I L : MI} {Z : Zt} {a0 : Nat} {a1 a3 a4 b0 : Int}  (k : Ev E d M_X11_madeNow 61 [vr a0, vl b0, vu, vi a3, vi a4] [] κ I L Z) : Ev E d M_X11_madeNow 60 [vr a0, vl a1, vu, vi a3, vi a4] [vl b0] κ I L Z := E_lstore_n dX11_madeNow_60 rfl (Nat.le_of_ble_eq_true rfl) k
theorem t66_X11_madeNow_61 {E : En} {d : Nat} {κ : Kp} {I L : MI} {Z : Zt} {a0 : Nat} {a1 a3 a4 : Int}  (k : Ev E d M_X11_madeNow 64 [vr a0, vl a1, vu, vi a3, vi (a4 + 1)] [] κ I L Z) : Ev E d M_X11_madeNow 61 [vr a0, vl a1, vu, vi a3, vi a4] [] κ I L Z := E_iinc dX11_madeNow_61 rfl rfl (Nat.le_of_ble_eq_true rfl) k
theorem t66_X11_madeNow_64 {E : En} {d : Nat} {κ : Kp} {I L : MI} {Z : Zt} {a0 : Nat} {a1 a3 a4 : Int}  (k : Ev E d M_X11_madeNow 17 [vr a0, vl a1, vu, vi a3, vi a4] [] κ I L Z) : Ev E d M_X11_madeNow 64 [vr a0, vl a1, vu, vi a3, vi a4] [] κ I L Z := E_goto dX11_madeNow_64 (by decide) k
theorem t66_X11_madeNow_49 {E : En} {d : Nat} {κ : Kp} {I L : MI} {Z : Zt} {a0 b1 : Nat} {a1 a3 a4 b0 b2 : Int}  (k : Ev E d M_X11_madeNow 50 [vr a0, vl a1, vu, vi a3, vi a4] [vi 1, vi b0, vr b1, vl b2] κ I L Z) : Ev E d M_X11_madeNow 49 [vr a0, vl a1, vu, vi a3, vi a4] [vi b0, vr b1, vl b2] κ I L Z := E_iconst (v := 1) dX11_madeNow_49 rfl k
theorem t66_X11_madeNow_50 {E : En} {d : Nat} {κ : Kp} {I L : MI} {Z : Zt} {a0 b2 : Nat} {a1 a3 a4 b0 b1 b3 : Int}  (k : Ev E d M_X11_madeNow 54 [vr a0, vl a1, vu, vi a3, vi a4] [vi b0, vi b1, vr b2, vl b3] κ I L Z) : Ev E d M_X11_madeNow 50 [vr a0, vl a1, vu, vi a3, vi a4] [vi b0, vi b1, vr b2, vl b3] κ I L Z := E_goto dX11_madeNow_50 (by decide) k
theorem t66_X11_madeNow_0 {E : En} {d : Nat} {κ : Kp} {I L : MI} {Z : Zt} {a0 : Nat}  (k : Ev E d M_X11_madeNow 1 [vr a0, vu, vu, vu, vu] [vl 1] κ I L Z) : Ev E d M_X11_madeNow 0 [vr a0, vu, vu, vu, vu] [] κ I L Z := E_lconst (v := 1) dX11_madeNow_0 rfl k
theorem t66_X11_madeNow_1 {E : En} {d : Nat} {κ : Kp} {I L : MI} {Z : Zt} {a0 : Nat} {b0 : Int}  (k : Ev E d M_X11_madeNow 2 [vr a0, vl b0, vu, vu, vu] [] κ I L Z) : Ev E d M_X11_madeNow 1 [vr a0, vu, vu, vu, vu] [vl b0] κ I L Z := E_lstore_n dX11_madeNow_1 rfl (Nat.le_of_ble_eq_true rfl) k
theorem t66_X11_madeNow_2 {E : En} {d : Nat} {κ : Kp} {I L : MI} {Z : Zt} {a0 : Nat} {a1 : Int}  (k : Ev E d M_X11_madeNow 3 [vr a0, vl a1, vu, vu, vu] [vi 0] κ I L Z) : Ev E d M_X11_madeNow 2 [vr a0, vl a1, vu, vu, vu] [] κ I L Z := E_iconst (v := 0) dX11_madeNow_2 rfl k
theorem t66_X11_madeNow_3 {E : En} {d : Nat} {κ : Kp} {I L : MI} {Z : Zt} {a0 : Nat} {a1 b0 : Int}  (k : Ev E d M_X11_madeNow 4 [vr a0, vl a1, vu, vi b0, vu] [] κ I L Z) : Ev E d M_X11_madeNow 3 [vr a0, vl a1, vu, vu, vu] [vi b0] κ I L Z := E_istore_n dX11_madeNow_3 rfl (Nat.le_of_ble_eq_true rfl) k
theorem t66_X11_nextWay_2 {E : En} {d : Nat} {κ : Kp} {I L : MI} {Z : Zt} {a0 : Nat} {a1 : Int}  (k : Ev E d M_X11_nextWay 3 [vr a0, vi a1] [vi a1] κ I L Z) : Ev E d M_X11_nextWay 2 [vr a0, vi a1] [] κ I L Z := E_iload_n dX11_nextWay_2 rfl k
theorem t66_X11_nextWay_3 {E : En} {d : Nat} {κ : Kp} {I L : MI} {Z : Zt} {a0 : Nat} {a1 b0 : Int}  (k : Ev E d M_X11_nextWay 4 [vr a0, vi a1] [vr a0, vi b0] κ I L Z) : Ev E d M_X11_nextWay 3 [vr a0, vi a1] [vi b0] κ I L Z := E_aload_n dX11_nextWay_3 rfl k
theorem t66_X11_nextWay_4 {E : En} {d : Nat} {κ : Kp} {I L : MI} {Z : Zt} {a0 b0 : Nat} {a1 b1 : Int} {q : Nat} (hs : κ.1.1[b0]? = some (.inl 11)) (hq : κ.1.2 b0 5 = some q) (k : Ev E d M_X11_nextWay 7 [vr a0, vi a1] [vr q, vi b1] κ I L Z) : Ev E d M_X11_nextWay 4 [vr a0, vi a1] [vr b0, vi b1] κ I L Z := E_getR (ci := 11) (n := 5) dX11_nextWay_4 wF_RX11_19 (by decide) hs rfl hq k
theorem t66_X11_nextWay_7 {E : En} {d : Nat} {κ : Kp} {I L : MI} {Z : Zt} {a0 b0 : Nat} {a1 b1 : Int}  (k : Ev E d M_X11_nextWay 8 [vr a0, vi a1] [vi 0, vr b0, vi b1] κ I L Z) : Ev E d M_X11_nextWay 7 [vr a0, vi a1] [vr b0, vi b1] κ I L Z := E_iconst (v := 0) dX11_nextWay_7 rfl k
theorem t66_X11_nextWay_8 {E : En} {d : Nat} {κ : Kp} {I L : MI} {Z : Zt} {a0 b1 : Nat} {a1 b0 b2 : Int} {n : Nat} (hs : κ.1.1[b1]? = some (.inr (0, n))) (h0 : 0 ≤ b0) (h1 : b0 < n) (hi : Ir b0) (k : Ir (I b1 b0) → Ev E d M_X11_nextWay 9 [vr a0, vi a1] [vi (I b1 b0), vi b2] κ I L Z) : Ev E d M_X11_nextWay 8 [vr a0, vi a1] [vi b0, vr b1, vi b2] κ I L Z := E_ialdI dX11_nextWay_8 hs h0 h1 hi k
theorem t66_X11_nextWay_9 {E : En} {d : Nat} {κ : Kp} {I L : MI} {Z : Zt} {a0 : Nat} {a1 b0 b1 : Int} (hx : Ir b1) (hy : Ir b0) (kt : b0 ≤ b1 → Ev E d M_X11_nextWay 67 [vr a0, vi a1] [] κ I L Z) (kf : b1 < b0 → Ev E d M_X11_nextWay 12 [vr a0, vi a1] [] κ I L Z) : Ev E d M_X11_nextWay 9 [vr a0, vi a1] [vi b0, vi b1] κ I L Z := E_icmp_ge dX11_nextWay_9 hx hy kt kf (by decide)
theorem t66_X11_nextWay_67 {E : En} {d : Nat} {κ : Kp} {I L : MI} {Z : Zt} {a0 : Nat} {a1 : Int}  (k : Ev E d M_X11_nextWay 68 [vr a0, vi a1] [vi 0] κ I L Z) : Ev E d M_X11_nextWay 67 [vr a0, vi a1] [] κ I L Z := E_iconst (v := 0) dX11_nextWay_67 rfl k
theorem t66_X11_nextWay_68 {E : En} {d : Nat} {g : Geo} {I L : MI} {Q : Option AV → Geo → MI → MI → Prop} {cs : Nat × Nat} {a0 : Nat} {a1 b0 : Int} (hz : b0 = 0 ∨ b0 = 1) (hq : Q (some (vi b0)) g I L) (h1 : cs.1 ≤ M_X11_nextWay.2.2.2.2.1 := by decide) (h2 : cs.2 ≤ M_X11_nextWay.2.2.2.2.2 := by decide) : Ev E d M_X11_nextWay 68 [vr a0, vi a1] [vi b0] (g, cs) I L (ZQ E M_X11_nextWay Q) := E_zreturn rfl hz dX11_nextWay_68 hq h1 h2
theorem t66_X11_nextWay_12 {E : En} {d : Nat} {κ : Kp} {I L : MI} {Z : Zt} {a0 : Nat} {a1 : Int}  (k : Ev E d M_X11_nextWay 13 [vr a0, vi a1] [vr a0] κ I L Z) : Ev E d M_X11_nextWay 12 [vr a0, vi a1] [] κ I L Z := E_aload_n dX11_nextWay_12 rfl k
theorem t66_X11_nextWay_13 {E : En} {d : Nat} {κ : Kp} {I L : MI} {Z : Zt} {a0 b0 : Nat} {a1 : Int} {q : Nat} (hs : κ.1.1[b0]? = some (.inl 11)) (hq : κ.1.2 b0 5 = some q) (k : Ev E d M_X11_nextWay 16 [vr a0, vi a1] [vr q] κ I L Z) : Ev E d M_X11_nextWay 13 [vr a0, vi a1] [vr b0] κ I L Z := E_getR (ci := 11) (n := 5) dX11_nextWay_13 wF_RX11_19 (by decide) hs rfl hq k
theorem t66_X11_nextWay_16 {E : En} {d : Nat} {κ : Kp} {I L : MI} {Z : Zt} {a0 b0 : Nat} {a1 : Int}  (k : Ev E d M_X11_nextWay 17 [vr a0, vi a1] [vi 3, vr b0] κ I L Z) : Ev E d M_X11_nextWay 16 [vr a0, vi a1] [vr b0] κ I L Z := E_iconst (v := 3) dX11_nextWay_16 rfl k
theorem t66_X11_nextWay_17 {E : En} {d : Nat} {κ : Kp} {I L : MI} {Z : Zt} {a0 b1 : Nat} {a1 b0 : Int}  (k : Ev E d M_X11_nextWay 18 [vr a0, vi a1] [vi 3, vi b0, vr b1] κ I L Z) : Ev E d M_X11_nextWay 17 [vr a0, vi a1] [vi b0, vr b1] κ I L Z := E_iconst (v := 3) dX11_nextWay_17 rfl k
theorem t66_X11_nextWay_18 {E : En} {d : Nat} {κ : Kp} {I L : MI} {Z : Zt} {a0 b2 : Nat} {a1 b0 b1 : Int}  (k : Ev E d M_X11_nextWay 19 [vr a0, vi a1] [vi a1, vi b0, vi b1, vr b2] κ I L Z) : Ev E d M_X11_nextWay 18 [vr a0, vi a1] [vi b0, vi b1, vr b2] κ I L Z := E_iload_n dX11_nextWay_18 rfl k
theorem t66_X11_nextWay_19 {E : En} {d : Nat} {κ : Kp} {I L : MI} {Z : Zt} {a0 b3 : Nat} {a1 b0 b1 b2 : Int}  (k : Ev E d M_X11_nextWay 20 [vr a0, vi a1] [vi (b1 * b0), vi b2, vr b3] κ I L Z) : Ev E d M_X11_nextWay 19 [vr a0, vi a1] [vi b0, vi b1, vi b2, vr b3] κ I L Z := E_imul dX11_nextWay_19 k
theorem t66_X11_nextWay_20 {E : En} {d : Nat} {κ : Kp} {I L : MI} {Z : Zt} {a0 b2 : Nat} {a1 b0 b1 : Int}  (k : Ev E d M_X11_nextWay 21 [vr a0, vi a1] [vi (b1 + b0), vr b2] κ I L Z) : Ev E d M_X11_nextWay 20 [vr a0, vi a1] [vi b0, vi b1, vr b2] κ I L Z := E_iadd dX11_nextWay_20 k
theorem t66_X11_nextWay_21 {E : En} {d : Nat} {κ : Kp} {I L : MI} {Z : Zt} {a0 b1 : Nat} {a1 b0 : Int}  (k : Ev E d M_X11_nextWay 22 [vr a0, vi a1] [vi 1, vi b0, vr b1] κ I L Z) : Ev E d M_X11_nextWay 21 [vr a0, vi a1] [vi b0, vr b1] κ I L Z := E_iconst (v := 1) dX11_nextWay_21 rfl k
theorem t66_X11_nextWay_22 {E : En} {d : Nat} {κ : Kp} {I L : MI} {Z : Zt} {a0 b2 : Nat} {a1 b0 b1 : Int}  (k : Ev E d M_X11_nextWay 23 [vr a0, vi a1] [vi (b1 + b0), vr b2] κ I L Z) : Ev E d M_X11_nextWay 22 [vr a0, vi a1] [vi b0, vi b1, vr b2] κ I L Z := E_iadd dX11_nextWay_22 k
theorem t66_X11_nextWay_23 {E : En} {d : Nat} {κ : Kp} {I L : MI} {Z : Zt} {a0 b1 : Nat} {a1 b0 : Int} {n : Nat} (hs : κ.1.1[b1]? = some (.inr (0, n))) (h0 : 0 ≤ b0) (h1 : b0 < n) (hi : Ir b0) (k : Ir (I b1 b0) → Ev E d M_X11_nextWay 24 [vr a0, vi a1] [vi (I b1 b0)] κ I L Z) : Ev E d M_X11_nextWay 23 [vr a0, vi a1] [vi b0, vr b1] κ I L Z := E_ialdI dX11_nextWay_23 hs h0 h1 hi k
theorem t66_X11_nextWay_24 {E : En} {d : Nat} {κ : Kp} {I L : MI} {Z : Zt} {a0 : Nat} {a1 b0 : Int} (hx : Ir b0) (kt : b0 ≤ 0 → Ev E d M_X11_nextWay 61 [vr a0, vi a1] [] κ I L Z) (kf : 0 < b0 → Ev E d M_X11_nextWay 27 [vr a0, vi a1] [] κ I L Z) : Ev E d M_X11_nextWay 24 [vr a0, vi a1] [vi b0] κ I L Z := E_if_le dX11_nextWay_24 hx kt kf (by decide)
theorem t66_X11_nextWay_61 {E : En} {d : Nat} {κ : Kp} {I L : MI} {Z : Zt} {a0 : Nat} {a1 : Int}  (k : Ev E d M_X11_nextWay 64 [vr a0, vi (a1 + 1)] [] κ I L Z) : Ev E d M_X11_nextWay 61 [vr a0, vi a1] [] κ I L Z := E_iinc dX11_nextWay_61 rfl rfl (Nat.le_of_ble_eq_true rfl) k
theorem t66_X11_nextWay_64 {E : En} {d : Nat} {κ : Kp} {I L : MI} {Z : Zt} {a0 : Nat} {a1 : Int}  (k : Ev E d M_X11_nextWay 2 [vr a0, vi a1] [] κ I L Z) : Ev E d M_X11_nextWay 64 [vr a0, vi a1] [] κ I L Z := E_goto dX11_nextWay_64 (by decide) k
theorem t66_X11_nextWay_27 {E : En} {d : Nat} {κ : Kp} {I L : MI} {Z : Zt} {a0 : Nat} {a1 : Int}  (k : Ev E d M_X11_nextWay 28 [vr a0, vi a1] [vr a0] κ I L Z) : Ev E d M_X11_nextWay 27 [vr a0, vi a1] [] κ I L Z := E_aload_n dX11_nextWay_27 rfl k
theorem t66_X11_nextWay_28 {E : En} {d : Nat} {κ : Kp} {I L : MI} {Z : Zt} {a0 b0 : Nat} {a1 : Int} {q : Nat} (hs : κ.1.1[b0]? = some (.inl 11)) (hq : κ.1.2 b0 24 = some q) (k : Ev E d M_X11_nextWay 31 [vr a0, vi a1] [vr q] κ I L Z) : Ev E d M_X11_nextWay 28 [vr a0, vi a1] [vr b0] κ I L Z := E_getR (ci := 11) (n := 24) dX11_nextWay_28 wF_RX11_41 (by decide) hs rfl hq k
theorem t66_X11_nextWay_31 {E : En} {d : Nat} {κ : Kp} {I L : MI} {Z : Zt} {a0 b0 : Nat} {a1 : Int}  (k : Ev E d M_X11_nextWay 32 [vr a0, vi a1] [vi a1, vr b0] κ I L Z) : Ev E d M_X11_nextWay 31 [vr a0, vi a1] [vr b0] κ I L Z := E_iload_n dX11_nextWay_31 rfl k
theorem t66_X11_nextWay_32 {E : En} {d : Nat} {κ : Kp} {I L : MI} {Z : Zt} {a0 b1 : Nat} {a1 b0 : Int} {n : Nat} (hs : κ.1.1[b1]? = some (.inr (0, n))) (h0 : 0 ≤ b0) (h1 : b0 < n) (hi : Ir b0) (k : Ir (I b1 b0) → Ev E d M_X11_nextWay 33 [vr a0, vi a1] [vi (I b1 b0)] κ I L Z) : Ev E d M_X11_nextWay 32 [vr a0, vi a1] [vi b0, vr b1] κ I L Z := E_ialdI dX11_nextWay_32 hs h0 h1 hi k
theorem t66_X11_nextWay_33 {E : En} {d : Nat} {κ : Kp} {I L : MI} {Z : Zt} {a0 : Nat} {a1 b0 : Int}  (k : Ev E d M_X11_nextWay 34 [vr a0, vi a1] [vr a0, vi b0] κ I L Z) : Ev E d M_X11_nextWay 33 [vr a0, vi a1] [vi b0] κ I L Z := E_aload_n dX11_nextWay_33 rfl k
theorem t66_X11_nextWay_34 {E : En} {d : Nat} {κ : Kp} {I L : MI} {Z : Zt} {a0 b0 : Nat} {a1 b1 : Int} {q : Nat} (hs : κ.1.1[b0]? = some (.inl 11)) (hq : κ.1.2 b0 19 = some q) (k : Ev E d M_X11_nextWay 37 [vr a0, vi a1] [vr q, vi b1] κ I L Z) : Ev E d M_X11_nextWay 34 [vr a0, vi a1] [vr b0, vi b1] κ I L Z := E_getR (ci := 11) (n := 19) dX11_nextWay_34 wF_RX11_32 (by decide) hs rfl hq k
theorem t66_X11_nextWay_37 {E : En} {d : Nat} {κ : Kp} {I L : MI} {Z : Zt} {a0 b0 : Nat} {a1 b1 : Int}  (k : Ev E d M_X11_nextWay 38 [vr a0, vi a1] [vi a1, vr b0, vi b1] κ I L Z) : Ev E d M_X11_nextWay 37 [vr a0, vi a1] [vr b0, vi b1] κ I L Z := E_iload_n dX11_nextWay_37 rfl k
theorem t66_X11_nextWay_38 {E : En} {d : Nat} {κ : Kp} {I L : MI} {Z : Zt} {a0 b1 : Nat} {a1 b0 b2 : Int} {n : Nat} (hs : κ.1.1[b1]? = some (.inr (0, n))) (h0 : 0 ≤ b0) (h1 : b0 < n) (hi : Ir b0) (k : Ir (I b1 b0) → Ev E d M_X11_nextWay 39 [vr a0, vi a1] [vi (I b1 b0), vi b2] κ I L Z) : Ev E d M_X11_nextWay 38 [vr a0, vi a1] [vi b0, vr b1, vi b2] κ I L Z := E_ialdI dX11_nextWay_38 hs h0 h1 hi k
theorem t66_X11_nextWay_39 {E : En} {d : Nat} {κ : Kp} {I L : MI} {Z : Zt} {a0 : Nat} {a1 b0 b1 : Int} (hx : Ir b1) (hy : Ir b0) (kt : b0 ≤ b1 → Ev E d M_X11_nextWay 54 [vr a0, vi a1] [] κ I L Z) (kf : b1 < b0 → Ev E d M_X11_nextWay 42 [vr a0, vi a1] [] κ I L Z) : Ev E d M_X11_nextWay 39 [vr a0, vi a1] [vi b0, vi b1] κ I L Z := E_icmp_ge dX11_nextWay_39 hx hy kt kf (by decide)
theorem t66_X11_nextWay_54 {E : En} {d : Nat} {κ : Kp} {I L : MI} {Z : Zt} {a0 : Nat} {a1 : Int}  (k : Ev E d M_X11_nextWay 55 [vr a0, vi a1] [vr a0] κ I L Z) : Ev E d M_X11_nextWay 54 [vr a0, vi a1] [] κ I L Z := E_aload_n dX11_nextWay_54 rfl k
theorem t66_X11_nextWay_55 {E : En} {d : Nat} {κ : Kp} {I L : MI} {Z : Zt} {a0 b0 : Nat} {a1 : Int} {q : Nat} (hs : κ.1.1[b0]? = some (.inl 11)) (hq : κ.1.2 b0 24 = some q) (k : Ev E d M_X11_nextWay 58 [vr a0, vi a1] [vr q] κ I L Z) : Ev E d M_X11_nextWay 55 [vr a0, vi a1] [vr b0] κ I L Z := E_getR (ci := 11) (n := 24) dX11_nextWay_55 wF_RX11_41 (by decide) hs rfl hq k
theorem t66_X11_nextWay_58 {E : En} {d : Nat} {κ : Kp} {I L : MI} {Z : Zt} {a0 b0 : Nat} {a1 : Int}  (k : Ev E d M_X11_nextWay 59 [vr a0, vi a1] [vi a1, vr b0] κ I L Z) : Ev E d M_X11_nextWay 58 [vr a0, vi a1] [vr b0] κ I L Z := E_iload_n dX11_nextWay_58 rfl k
theorem t66_X11_nextWay_59 {E : En} {d : Nat} {κ : Kp} {I L : MI} {Z : Zt} {a0 b1 : Nat} {a1 b0 : Int}  (k : Ev E d M_X11_nextWay 60 [vr a0, vi a1] [vi 0, vi b0, vr b1] κ I L Z) : Ev E d M_X11_nextWay 59 [vr a0, vi a1] [vi b0, vr b1] κ I L Z := E_iconst (v := 0) dX11_nextWay_59 rfl k
theorem t66_X11_nextWay_60 {E : En} {d : Nat} {κ : Kp} {I L : MI} {Z : Zt} {a0 b2 : Nat} {a1 b0 b1 : Int} {n : Nat} (ha : κ.1.1[b2]? = some (.inr (0, n))) (h0 : 0 ≤ b1) (h1 : b1 < n) (hi : Ir b1) (hz : Ir b0) (k : Ev E d M_X11_nextWay 61 [vr a0, vi a1] [] κ (up2 I b2 b1 b0) L Z) : Ev E d M_X11_nextWay 60 [vr a0, vi a1] [vi b0, vi b1, vr b2] κ I L Z := E_iast dX11_nextWay_60 ha h0 h1 hi hz k
theorem t66_X11_nextWay_42 {E : En} {d : Nat} {κ : Kp} {I L : MI} {Z : Zt} {a0 : Nat} {a1 : Int}  (k : Ev E d M_X11_nextWay 43 [vr a0, vi a1] [vr a0] κ I L Z) : Ev E d M_X11_nextWay 42 [vr a0, vi a1] [] κ I L Z := E_aload_n dX11_nextWay_42 rfl k
theorem t66_X11_nextWay_43 {E : En} {d : Nat} {κ : Kp} {I L : MI} {Z : Zt} {a0 b0 : Nat} {a1 : Int} {q : Nat} (hs : κ.1.1[b0]? = some (.inl 11)) (hq : κ.1.2 b0 24 = some q) (k : Ev E d M_X11_nextWay 46 [vr a0, vi a1] [vr q] κ I L Z) : Ev E d M_X11_nextWay 43 [vr a0, vi a1] [vr b0] κ I L Z := E_getR (ci := 11) (n := 24) dX11_nextWay_43 wF_RX11_41 (by decide) hs rfl hq k
theorem t66_X11_nextWay_46 {E : En} {d : Nat} {κ : Kp} {I L : MI} {Z : Zt} {a0 b0 : Nat} {a1 : Int}  (k : Ev E d M_X11_nextWay 47 [vr a0, vi a1] [vi a1, vr b0] κ I L Z) : Ev E d M_X11_nextWay 46 [vr a0, vi a1] [vr b0] κ I L Z := E_iload_n dX11_nextWay_46 rfl k
theorem t66_X11_nextWay_47 {E : En} {d : Nat} {κ : Kp} {I L : MI} {Z : Zt} {a0 b1 : Nat} {a1 b0 : Int}  (k : Ev E d M_X11_nextWay 48 [vr a0, vi a1] [vi b0, vr b1, vi b0, vr b1] κ I L Z) : Ev E d M_X11_nextWay 47 [vr a0, vi a1] [vi b0, vr b1] κ I L Z := E_dup2 dX11_nextWay_47 rfl rfl k
theorem t66_X11_nextWay_48 {E : En} {d : Nat} {κ : Kp} {I L : MI} {Z : Zt} {a0 b1 b3 : Nat} {a1 b0 b2 : Int} {n : Nat} (hs : κ.1.1[b1]? = some (.inr (0, n))) (h0 : 0 ≤ b0) (h1 : b0 < n) (hi : Ir b0) (k : Ir (I b1 b0) → Ev E d M_X11_nextWay 49 [vr a0, vi a1] [vi (I b1 b0), vi b2, vr b3] κ I L Z) : Ev E d M_X11_nextWay 48 [vr a0, vi a1] [vi b0, vr b1, vi b2, vr b3] κ I L Z := E_ialdI dX11_nextWay_48 hs h0 h1 hi k
theorem t66_X11_nextWay_49 {E : En} {d : Nat} {κ : Kp} {I L : MI} {Z : Zt} {a0 b2 : Nat} {a1 b0 b1 : Int}  (k : Ev E d M_X11_nextWay 50 [vr a0, vi a1] [vi 1, vi b0, vi b1, vr b2] κ I L Z) : Ev E d M_X11_nextWay 49 [vr a0, vi a1] [vi b0, vi b1, vr b2] κ I L Z := E_iconst (v := 1) dX11_nextWay_49 rfl k
theorem t66_X11_nextWay_50 {E : En} {d : Nat} {κ : Kp} {I L : MI} {Z : Zt} {a0 b3 : Nat} {a1 b0 b1 b2 : Int}  (k : Ev E d M_X11_nextWay 51 [vr a0, vi a1] [vi (b1 + b0), vi b2, vr b3] κ I L Z) : Ev E d M_X11_nextWay 50 [vr a0, vi a1] [vi b0, vi b1, vi b2, vr b3] κ I L Z := E_iadd dX11_nextWay_50 k
theorem t66_X11_nextWay_51 {E : En} {d : Nat} {κ : Kp} {I L : MI} {Z : Zt} {a0 b2 : Nat} {a1 b0 b1 : Int} {n : Nat} (ha : κ.1.1[b2]? = some (.inr (0, n))) (h0 : 0 ≤ b1) (h1 : b1 < n) (hi : Ir b1) (hz : Ir b0) (k : Ev E d M_X11_nextWay 52 [vr a0, vi a1] [] κ (up2 I b2 b1 b0) L Z) : Ev E d M_X11_nextWay 51 [vr a0, vi a1] [vi b0, vi b1, vr b2] κ I L Z := E_iast dX11_nextWay_51 ha h0 h1 hi hz k
theorem t66_X11_nextWay_52 {E : En} {d : Nat} {κ : Kp} {I L : MI} {Z : Zt} {a0 : Nat} {a1 : Int}  (k : Ev E d M_X11_nextWay 53 [vr a0, vi a1] [vi 1] κ I L Z) : Ev E d M_X11_nextWay 52 [vr a0, vi a1] [] κ I L Z := E_iconst (v := 1) dX11_nextWay_52 rfl k
theorem t66_X11_nextWay_53 {E : En} {d : Nat} {g : Geo} {I L : MI} {Q : Option AV → Geo → MI → MI → Prop} {cs : Nat × Nat} {a0 : Nat} {a1 b0 : Int} (hz : b0 = 0 ∨ b0 = 1) (hq : Q (some (vi b0)) g I L) (h1 : cs.1 ≤ M_X11_nextWay.2.2.2.2.1 := by decide) (h2 : cs.2 ≤ M_X11_nextWay.2.2.2.2.2 := by decide) : Ev E d M_X11_nextWay 53 [vr a0, vi a1] [vi b0] (g, cs) I L (ZQ E M_X11_nextWay Q) := E_zreturn rfl hz dX11_nextWay_53 hq h1 h2
theorem t66_X11_nextWay_0 {E : En} {d : Nat} {κ : Kp} {I L : MI} {Z : Zt} {a0 : Nat}  (k : Ev E d M_X11_nextWay 1 [vr a0, vu] [vi 0] κ I L Z) : Ev E d M_X11_nextWay 0 [vr a0, vu] [] κ I L Z := E_iconst (v := 0) dX11_nextWay_0 rfl k
theorem t66_X11_nextWay_1 {E : En} {d : Nat} {κ : Kp} {I L : MI} {Z : Zt} {a0 : Nat} {b0 : Int}  (k : Ev E d M_X11_nextWay 2 [vr a0, vi b0] [] κ I L Z) : Ev E d M_X11_nextWay 1 [vr a0, vu] [vi b0] κ I L Z := E_istore_n dX11_nextWay_1 rfl (Nat.le_of_ble_eq_true rfl) k
/-! THE REFERENCE: same -/
def rN (I : MI) (v : Int) (t : Nat) : Nat := if othI I 15 t = 0 then 1 else ctN I v t + 1
def rA (I : MI) (v : Int) (t j : Nat) : Int := pAj (fstI I 15 t) (othI I 15 t) (ctN I v t) j
theorem samF_D {I : MI} {v : Int} {n : Nat} (hw : WfT I 15) (hn : I 15 0 = n) (hv : 0 < v ∧ v ≤ 1000000000000000) (h1 : tkR (fstI I 15) (othI I 15) v 12 = 1) : samF I v = cD (rN I v) (rA I v) n 1 := by
  have sb := same_b hw hn hv h1
  have hn2 : n ≤ 12 := by have := hw.1.1; omega
  have fo : ∀ t : Nat, t < n → (2 ≤ fstI I 15 t ∧ fstI I 15 t ≤ 199) ∧ (othI I 15 t = 0 ∨ 2 ≤ othI I 15 t) ∧ othI I 15 t ≠ fstI I 15 t := fun t ht => by
    have := hw.2.1 t (by omega) (by omega)
    unfold fstI othI
    rw [if_pos (by omega), if_pos (by omega), atI_in (by omega), atI_in (by omega)]
    omega
  have hF : ∀ t : Nat, t < n → 1 ≤ lesI I 15 t ∧ lesI I 15 t ≤ greI I 15 t := fun t ht => by
    have := fo t ht
    unfold lesI greI
    split
    · split <;> omega
    · split
      · split <;> omega
      · split <;> omega
  have e0 := lsR_P (F := fun t : Nat => lesI I 15 t) (c := ctN I v) (n := n) n (Nat.le_refl n)
  rw [Nat.sub_self] at e0
  have e1 : lsP (fun t : Nat => lesI I 15 t) (ctN I v) 0 = 1 := rfl
  rw [e1] at e0
  have w := wy_cU (F := fun t : Nat => lesI I 15 t) (G := fun t : Nat => greI I 15 t) (c := ctN I v) (n := n) hF n (Nat.le_refl n) 1 (Int.le_refl 1) (by rw [e0]; exact sb.2.1 n (Nat.le_refl n))
  rw [e0, Nat.sub_self, cU_D] at w
  unfold samF
  rw [hn, Int.toNat_natCast, w]
  have lg : ∀ t : Nat, t < n → (othI I 15 t = 0 ∧ lesI I 15 t = fstI I 15 t ∧ greI I 15 t = fstI I 15 t) ∨ (othI I 15 t ≠ 0 ∧ fstI I 15 t < othI I 15 t ∧ lesI I 15 t = fstI I 15 t ∧ greI I 15 t = othI I 15 t) ∨ (othI I 15 t ≠ 0 ∧ othI I 15 t < fstI I 15 t ∧ lesI I 15 t = othI I 15 t ∧ greI I 15 t = fstI I 15 t) := fun t ht => by
    have := fo t ht
    unfold lesI greI
    by_cases q : othI I 15 t = 0
    · rw [if_pos q, if_neg (by omega)]; exact .inl ⟨q, rfl, rfl⟩
    · rw [if_neg q]
      by_cases q2 : othI I 15 t < fstI I 15 t
      · rw [if_pos q2, if_neg (by omega)]; exact .inr (.inr ⟨q, q2, rfl, rfl⟩)
      · rw [if_neg q2, if_pos (by omega)]; exact .inr (.inl ⟨q, by omega, rfl, rfl⟩)
  have nop : ∀ t : Nat, nOp (fun t : Nat => lesI I 15 t) (fun t : Nat => greI I 15 t) (ctN I v) t = if lesI I 15 t = greI I 15 t ∨ lesI I 15 t = 0 then 1 else ctN I v t + 1 := fun t => rfl
  rw [cD_c (B := rA I v) n (fun t ht => ?_), cD_N (M := rN I v) n (fun t ht => ?_)]
  · have := fo t ht
    rw [nop]
    unfold rN
    rcases lg t ht with ⟨a, b, e⟩ | ⟨a, a2, b, e⟩ | ⟨a, a2, b, e⟩
    · rw [b, e, if_pos (.inl rfl), if_pos a]
    · rw [b, e, if_neg (by omega), if_neg a]
    · rw [b, e, if_neg (by omega), if_neg a]
  · have := fo t ht
    rw [nop]
    show (∀ j, j < _ → pAj (lesI I 15 t) (greI I 15 t) (ctN I v t) j = pAj (fstI I 15 t) (othI I 15 t) (ctN I v t) j) ∨ (1 ≤ _ ∧ ∀ j, j < _ → pAj (lesI I 15 t) (greI I 15 t) (ctN I v t) j = pAj (fstI I 15 t) (othI I 15 t) (ctN I v t) (_ - 1 - j))
    rcases lg t ht with ⟨a, b, e⟩ | ⟨a, a2, b, e⟩ | ⟨a, a2, b, e⟩
    · refine .inl fun j hj => ?_
      rw [b, e, if_pos (.inl rfl)] at hj
      have : j = 0 := by omega
      subst this
      rw [b, e]
      unfold pAj
      rw [Int.pow_zero, Int.pow_zero]
    · exact .inl fun j hj => by rw [b, e]
    · refine .inr ?_
      rw [b, e, if_neg (by omega)]
      refine ⟨by omega, fun j hj => ?_⟩
      unfold pAj
      rw [show ctN I v t + 1 - 1 - j = ctN I v t - j by omega, show ctN I v t - (ctN I v t - j) = j by omega, Int.mul_comm]
/-- cells that hold a way -/
def SmW (I : MI) (n : Nat) (F O : Nat → Int) (c g : Nat → Nat) : Prop := I 82 0 = n ∧ n ≤ 12 ∧ (∀ t : Nat, t < n → (I 82 (3 + 3 * (t : Int)) = F t ∧ I 82 (3 + 3 * (t : Int) + 1) = O t ∧ I 86 t = c t ∧ c t ≤ 10000) ∧ (2 ≤ F t ∧ F t ≤ 199) ∧ (O t = 0 ∨ (2 ≤ O t ∧ O t ≤ 199))) ∧ (∀ t : Nat, t < n → I 89 t = g t ∧ g t ≤ c t ∧ (O t = 0 → g t = 0))
def tvM (x : Int) : Int := if x ≤ 1000000000000000 then x else 0
theorem tvM_s {x b : Int} (hx : 1 ≤ x) (hb : 1 ≤ b) : tmI (tvM x) b = tvM (x * b) := by
  unfold tvM
  have h := Int.mul_le_mul_of_nonneg_left hb (show 0 ≤ x by omega)
  by_cases q : x ≤ 1000000000000000
  · rw [if_pos q, tmI_pos (by omega) (by omega)]
  · rw [if_neg q, tmI_0, if_neg (by omega)]
/-- made of the first t things; of one thing's first k -/
def dP (F O : Nat → Int) (c g : Nat → Nat) : Nat → Int
  | 0 => 1
  | t + 1 => dP F O c g t * pAj (F t) (O t) (c t) (g t)
def bP2 (F O : Int) (g k : Nat) : Int := O ^ (min k g) * F ^ (k - g)
theorem bP2_s {F O : Int} {g k : Nat} : bP2 F O g (k + 1) = bP2 F O g k * (if k < g then O else F) := by
  unfold bP2
  by_cases h : k < g
  · rw [if_pos h, show min (k + 1) g = min k g + 1 by omega, show k + 1 - g = 0 by omega, show k - g = 0 by omega, Int.pow_succ, Int.pow_zero, Int.mul_one, Int.mul_one]
  · rw [if_neg h, show min (k + 1) g = min k g by omega, show k + 1 - g = (k - g) + 1 by omega, Int.pow_succ, Int.mul_assoc]
theorem pw1' {x : Int} {k : Nat} (h : 1 ≤ x ∨ k = 0) : 1 ≤ x ^ k := by
  rcases h with h | h
  · exact pw1 h k
  · subst h; rw [Int.pow_zero]; decide
theorem mul1 {x y : Int} (hx : 1 ≤ x) (hy : 1 ≤ y) : 1 ≤ x * y := by
  have := Int.mul_le_mul_of_nonneg_left hy (show 0 ≤ x by omega)
  omega
theorem dP_1 {I : MI} {n : Nat} {F O : Nat → Int} {c g : Nat → Nat} (h : SmW I n F O c g) : ∀ t, t ≤ n → 1 ≤ dP F O c g t := by
  intro t
  induction t with
  | zero => intro _; exact Int.le_refl 1
  | succ t ih =>
    intro ht
    have h1 := h.2.2.1 t (by omega)
    have h2 := h.2.2.2 t (by omega)
    refine mul1 (ih (by omega)) (mul1 (pw1' ?_) (pw1' (.inl (by omega))))
    rcases h1.2.2 with q | q
    · exact .inr (h2.2.2 q)
    · exact .inl (by omega)
theorem c_X11_madeNow {E : En} {I L : MI} {n : Nat} {F O : Nat → Int} {c g : Nat → Nat} (h : SmW I n F O c g) : CFl E 2 M_X11_madeNow [vr 78] I L (tvM (dP F O c g n)) I L := by
  have g82 : G0.1[82]? = some (.inr (0, 65)) := rfl
  have g86 : G0.1[86]? = some (.inr (0, 12)) := rfl
  have g89 : G0.1[89]? = some (.inr (0, 12)) := rfl
  obtain ⟨h0, h12, hT, hG⟩ := id h
  have tb : ∀ x : Int, 1 ≤ x → 0 ≤ tvM x ∧ tvM x ≤ 1000000000000000 := fun x hx => by unfold tvM; split <;> omega
  refine CM_of' (al := [vr _, vu, vu, vu, vu]) rfl (Nat.le_of_ble_eq_true rfl) rfl (fun hM => ?_)
  have outer : ∀ (f t : Nat), n - t < f → t ≤ n → Ev E 2 M_X11_madeNow 4 [vr 78, vl (tvM (dP F O c g t)), vu, vi (t : Int), vu] [] (G0, 0, 0) I L (ZQ E M_X11_madeNow (QFl (tvM (dP F O c g n)) I L)) := by
    intro f
    induction f with
    | zero => intro t h1 h2; omega
    | succ f ih =>
      intro t t1 t2
      have d1 := dP_1 h t t2
      have db := tb _ d1
      refine (t66_X11_madeNow_4 (t66_X11_madeNow_5 (t66_X11_madeNow_6 (by first | assumption | rfl) (by first | assumption | rfl) (t66_X11_madeNow_9 (t66_X11_madeNow_10 (by first | assumption | rfl) (by omega) (by omega) (by omega) (fun r10 => (t66_X11_madeNow_11 (by omega) (by omega) (fun c11 => (t66_X11_madeNow_73 (t66_X11_madeNow_74 ?_))) (fun c11 => (t66_X11_madeNow_14 (t66_X11_madeNow_15 ?_))))))))))
      -- 2 leaves: 11t :ret74 | 11f :->17
      · have : t = n := by omega
        subst this
        exact qfl (by omega) rfl
      · have ht := hT t (by omega)
        have hg := hG t (by omega)
        have inner : ∀ (m k : Nat), c t - k < m → k ≤ c t → Ev E 2 M_X11_madeNow 17 [vr 78, vl (tvM (dP F O c g t * bP2 (F t) (O t) (g t) k)), vu, vi (t : Int), vi (k : Int)] [] (G0, 0, 0) I L (ZQ E M_X11_madeNow (QFl (tvM (dP F O c g n)) I L)) := by
          intro m
          induction m with
          | zero => intro k h1 h2; omega
          | succ m ihm =>
            intro k k1 k2
            have b1 : 1 ≤ bP2 (F t) (O t) (g t) k := by
              refine mul1 (pw1' ?_) (pw1' (.inl (by omega)))
              rcases ht.2.2 with q | q
              · exact .inr (by have := hg.2.2 q; omega)
              · exact .inl (by omega)
            have x1 := mul1 d1 b1
            have xb := tb _ x1
            have hs := bP2_s (F := F t) (O := O t) (g := g t) (k := k)
            have hi := fun q : k < c t => ihm (k + 1) (by omega) (by omega)
            rw [hs, ← Int.mul_assoc] at hi
            have eF : I 82 (3 + 3 * (t : Int) + 0) = F t := by rw [Int.add_zero]; exact ht.1.1
            have eO : I 82 (3 + 3 * (t : Int) + 1) = O t := ht.1.2.1
            refine (t66_X11_madeNow_17 (t66_X11_madeNow_19 (t66_X11_madeNow_20 (by first | assumption | rfl) (by first | assumption | rfl) (t66_X11_madeNow_23 (t66_X11_madeNow_24 (by first | assumption | rfl) (by omega) (by omega) (by omega) (fun r24 => (t66_X11_madeNow_25 (by omega) (by omega) (fun c25 => (t66_X11_madeNow_67 (t66_X11_madeNow_70 (Ev.wk (al' := [_, _, vu, _, vu]) ⟨.inl rfl, .inl rfl, .inl rfl, .inl rfl, .inr rfl, trivial⟩ ?_)))) (fun c25 => ?_))))))))
            -- 2 leaves: 25t :->4 | 25f :->28
            · have : k = c t := by omega
              subst this
              have ep : dP F O c g (t + 1) = dP F O c g t * bP2 (F t) (O t) (g t) (c t) := by
                show _ * pAj (F t) (O t) (c t) (g t) = _
                unfold pAj bP2
                rw [show min (c t) (g t) = g t by omega]
              have hn := ih (t + 1) (by omega) (by omega)
              rw [ep] at hn
              exact hn
            · have hi' := hi (by omega)
              rw [← tvM_s x1 (by split <;> omega)] at hi'
              refine (t66_X11_madeNow_28 (t66_X11_madeNow_29 (t66_X11_madeNow_30 (by first | assumption | rfl) (by first | assumption | rfl) (t66_X11_madeNow_33 (t66_X11_madeNow_34 (t66_X11_madeNow_35 (t66_X11_madeNow_36 (t66_X11_madeNow_37 (t66_X11_madeNow_38 (t66_X11_madeNow_40 (t66_X11_madeNow_41 (by first | assumption | rfl) (by first | assumption | rfl) (t66_X11_madeNow_44 (t66_X11_madeNow_45 (by first | assumption | rfl) (by omega) (by omega) (by omega) (fun r45 => (t66_X11_madeNow_46 (by omega) (by omega) (fun c46 => (t66_X11_madeNow_53 (t66_X11_madeNow_54 (t66_X11_madeNow_55 (by first | assumption | rfl) (by omega) (by omega) (by omega) (fun r55 => (t66_X11_madeNow_56 (by omega) (t66_X11_madeNow_57 c_X11_times (by first | decide | omega) (fun r57 => (t66_X11_madeNow_60 (t66_X11_madeNow_61 (t66_X11_madeNow_64 ?_))))))))))) (fun c46 => (t66_X11_madeNow_49 (t66_X11_madeNow_50 (t66_X11_madeNow_54 (t66_X11_madeNow_55 (by first | assumption | rfl) (by omega) (by omega) (by omega) (fun r55 => (t66_X11_madeNow_56 (by omega) (t66_X11_madeNow_57 c_X11_times (by first | decide | omega) (fun r57 => (t66_X11_madeNow_60 (t66_X11_madeNow_61 (t66_X11_madeNow_64 ?_)))))))))))))))))))))))))))
              -- 2 leaves: 46t :->17 | 46f :->17
              · rw [if_neg (by omega)] at hi'
                rw [eF]
                exact hi'
              · rw [if_pos (by omega)] at hi'
                rw [eO]
                exact hi'
        have hi := inner (c t + 1) 0 (by omega) (by omega)
        have e0 : bP2 (F t) (O t) (g t) 0 = 1 := by
          unfold bP2
          rw [show min 0 (g t) = 0 by omega, show 0 - g t = 0 by omega, Int.pow_zero, Int.pow_zero]; rfl
        rw [e0, Int.mul_one] at hi
        exact hi
  refine (t66_X11_madeNow_0 (t66_X11_madeNow_1 (t66_X11_madeNow_2 (t66_X11_madeNow_3 ?_))))
  -- 1 leaves: :->4
  exact outer (n + 1) 0 (by omega) (by omega)
/-- the way that comes next: thing k takes its second number once more, those ahead of it their first one -/
def inWy (g : Nat → Nat) (k : Nat) : Nat → Nat := fun t => if t = k then g k + 1 else if t < k then 0 else g t
def nwQ (I L : MI) (n : Nat) (F O : Nat → Int) (c g : Nat → Nat) : Int → MI → MI → Prop := fun z I' L' => L' = L ∧ (∀ o, o ≠ 89 → ∀ k, I' o k = I o k) ∧
  ((z = 1 ∧ ∃ k, k < n ∧ O k ≠ 0 ∧ g k < c k ∧ (∀ t, t < k → O t ≠ 0 → g t = c t) ∧ SmW I' n F O c (inWy g k)) ∨ (z = 0 ∧ ∀ t, t < n → O t ≠ 0 → g t = c t))
theorem c_X11_nextWay {E : En} {I L : MI} {n : Nat} {F O : Nat → Int} {c g : Nat → Nat} (h : SmW I n F O c g) : CQi E 2 M_X11_nextWay [vr 78] I L (nwQ I L n F O c g) := by
  have g82 : G0.1[82]? = some (.inr (0, 65)) := rfl
  have g86 : G0.1[86]? = some (.inr (0, 12)) := rfl
  have g89 : G0.1[89]? = some (.inr (0, 12)) := rfl
  obtain ⟨h0, h12, hT, hG⟩ := id h
  refine CM_of' (al := [vr _, vu]) rfl (Nat.le_of_ble_eq_true rfl) rfl (fun hM => ?_)
  have key : ∀ (f t : Nat) (I1 : MI), n - t < f → t ≤ n → (∀ o, o ≠ 89 → ∀ k, I1 o k = I o k) → (∀ j : Nat, j < t → I1 89 j = 0) → (∀ j : Nat, t ≤ j → j < n → I1 89 j = I 89 j) → (∀ j, j < t → O j ≠ 0 → g j = c j) → Ev E 2 M_X11_nextWay 2 [vr 78, vi (t : Int)] [] (G0, 0, 0) I1 L (ZQ E M_X11_nextWay (QQi (nwQ I L n F O c g))) := by
    intro f
    induction f with
    | zero => intro t I1 h1 h2; omega
    | succ f ih =>
      intro t I1 t1 t2 f1 f2 f3 f4
      have e0 : I1 82 0 = n := (f1 82 (by decide) 0).trans h0
      refine (t66_X11_nextWay_2 (t66_X11_nextWay_3 (t66_X11_nextWay_4 (by first | assumption | rfl) (by first | assumption | rfl) (t66_X11_nextWay_7 (t66_X11_nextWay_8 (by first | assumption | rfl) (by omega) (by omega) (by omega) (fun r8 => (t66_X11_nextWay_9 (by omega) (by omega) (fun c9 => (t66_X11_nextWay_67 (t66_X11_nextWay_68 (by first | exact Or.inl rfl | exact Or.inr rfl | assumption | omega) ?_))) (fun c9 => ?_))))))))
      -- 2 leaves: 9t :ret68 | 9f :->12
      · exact qqi ⟨rfl, f1, .inr ⟨rfl, fun j hj => f4 j (by omega)⟩⟩
      · have ht := hT t (by omega)
        have hg := hG t (by omega)
        have eO : I1 82 (3 + 3 * (t : Int) + 1) = O t := (f1 82 (by decide) _).trans ht.1.2.1
        have ec : I1 86 (t : Int) = c t := (f1 86 (by decide) _).trans ht.1.2.2.1
        have eg : I1 89 (t : Int) = g t := (f3 t (Nat.le_refl t) (by omega)).trans hg.1
        have hc := ht.1.2.2.2
        refine (t66_X11_nextWay_12 (t66_X11_nextWay_13 (by first | assumption | rfl) (by first | assumption | rfl) (t66_X11_nextWay_16 (t66_X11_nextWay_17 (t66_X11_nextWay_18 (t66_X11_nextWay_19 (t66_X11_nextWay_20 (t66_X11_nextWay_21 (t66_X11_nextWay_22 (t66_X11_nextWay_23 (by first | assumption | rfl) (by omega) (by omega) (by omega) (fun r23 => (t66_X11_nextWay_24 (by omega) (fun c24 => (t66_X11_nextWay_61 (t66_X11_nextWay_64 ?_))) (fun c24 => (t66_X11_nextWay_27 (t66_X11_nextWay_28 (by first | assumption | rfl) (by first | assumption | rfl) (t66_X11_nextWay_31 (t66_X11_nextWay_32 (by first | assumption | rfl) (by omega) (by omega) (by omega) (fun r32 => (t66_X11_nextWay_33 (t66_X11_nextWay_34 (by first | assumption | rfl) (by first | assumption | rfl) (t66_X11_nextWay_37 (t66_X11_nextWay_38 (by first | assumption | rfl) (by omega) (by omega) (by omega) (fun r38 => (t66_X11_nextWay_39 (by omega) (by omega) (fun c39 => (t66_X11_nextWay_54 (t66_X11_nextWay_55 (by first | assumption | rfl) (by first | assumption | rfl) (t66_X11_nextWay_58 (t66_X11_nextWay_59 (t66_X11_nextWay_60 (by first | assumption | rfl) (by omega) (by omega) (by omega) (by omega) (t66_X11_nextWay_61 (t66_X11_nextWay_64 ?_)))))))) (fun c39 => (t66_X11_nextWay_42 (t66_X11_nextWay_43 (by first | assumption | rfl) (by first | assumption | rfl) (t66_X11_nextWay_46 (t66_X11_nextWay_47 (t66_X11_nextWay_48 (by first | assumption | rfl) (by omega) (by omega) (by omega) (fun r48 => (t66_X11_nextWay_49 (t66_X11_nextWay_50 (t66_X11_nextWay_51 (by first | assumption | rfl) (by omega) (by omega) (by omega) (by omega) (t66_X11_nextWay_52 (t66_X11_nextWay_53 (by first | exact Or.inl rfl | exact Or.inr rfl | assumption | omega) ?_))))))))))))))))))))))))))))))))))))
        -- 3 leaves: 24t :->2 | 24f 39t :->2 | 24f 39f :ret53
        · refine ih (t + 1) I1 (by omega) (by omega) f1 (fun j hj => ?_) (fun j j0 j1 => f3 j (by omega) j1) (fun j hj ho => ?_)
          · by_cases q : j = t
            · subst q; rw [eg, hg.2.2 (by omega)]; rfl
            · exact f2 j (by omega)
          · by_cases q : j = t
            · subst q; omega
            · exact f4 j (by omega) ho
        · refine ih (t + 1) _ (by omega) (by omega) (fun o o1 k => by rw [up2_ne (.inl o1)]; exact f1 o o1 k) (fun j hj => ?_) (fun j j0 j1 => by rw [up2_ne (.inr (by omega))]; exact f3 j (by omega) j1) (fun j hj ho => ?_)
          · by_cases q : j = t
            · subst q; rw [up2_eq]
            · rw [up2_ne (.inr (by omega))]; exact f2 j (by omega)
          · by_cases q : j = t
            · subst q; omega
            · exact f4 j (by omega) ho
        · have fr : ∀ o, o ≠ 89 → ∀ k, up2 I1 89 (t : Int) (I1 89 t + 1) o k = I o k := fun o o1 k => by rw [up2_ne (.inl o1)]; exact f1 o o1 k
          refine qqi ⟨rfl, fr, .inl ⟨rfl, t, by omega, by omega, by omega, f4, (fr 82 (by decide) 0).trans h0, h12, fun j hj => ?_, fun j hj => ?_⟩⟩
          · have hj2 := hT j hj
            rw [fr 82 (by decide), fr 82 (by decide), fr 86 (by decide)]
            exact hj2
          · have hgj := hG j hj
            unfold inWy
            by_cases q : j = t
            · subst q
              rw [if_pos rfl, up2_eq, eg]
              exact ⟨by omega, by omega, fun z => by omega⟩
            · rw [if_neg q, up2_ne (.inr (by omega))]
              by_cases q2 : j < t
              · rw [if_pos q2, f2 j q2]
                exact ⟨rfl, by omega, fun _ => rfl⟩
              · rw [if_neg q2, f3 j (by omega) hj]
                exact hgj
  refine (t66_X11_nextWay_0 (t66_X11_nextWay_1 ?_))
  -- 1 leaves: :->2
  exact key (n + 1) 0 I (by omega) (by omega) (fun o _ k => rfl) (fun j hj => by omega) (fun j _ _ => rfl) (fun j hj => by omega)
