theorem t76_X11_isNew_46 {E : En} {d : Nat} {κ : Kp} {I L : MI} {Z : Zt} {a0 : Nat} {a1 a2 a3 a4 : Int}  (k : Ev E d M_X11_isNew 48 [vr a0, vi a1, vi a2, vi a3, vi a4] [vi a4] κ I L Z) : Ev E d M_X11_isNew 46 [vr a0, vi a1, vi a2, vi a3, vi a4] [] κ I L Z := E_iload dX11_isNew_46 rfl k
theorem t76_X11_isNew_48 {E : En} {d : Nat} {κ : Kp} {I L : MI} {Z : Zt} {a0 : Nat} {a1 a2 a3 a4 b0 : Int}  (k : Ev E d M_X11_isNew 49 [vr a0, vi a1, vi a2, vi a3, vi a4] [vr a0, vi b0] κ I L Z) : Ev E d M_X11_isNew 48 [vr a0, vi a1, vi a2, vi a3, vi a4] [vi b0] κ I L Z := E_aload_n dX11_isNew_48 rfl k
theorem t76_X11_isNew_49 {E : En} {d : Nat} {κ : Kp} {I L : MI} {Z : Zt} {a0 b0 : Nat} {a1 a2 a3 a4 b1 : Int} {q : Nat} (hs : κ.1.1[b0]? = some (.inl 11)) (hq : κ.1.2 b0 6 = some q) (k : Ev E d M_X11_isNew 52 [vr a0, vi a1, vi a2, vi a3, vi a4] [vr q, vi b1] κ I L Z) : Ev E d M_X11_isNew 49 [vr a0, vi a1, vi a2, vi a3, vi a4] [vr b0, vi b1] κ I L Z := E_getR (ci := 11) (n := 6) dX11_isNew_49 wF_RX11_22 (by decide) hs rfl hq k
theorem t76_X11_isNew_52 {E : En} {d : Nat} {κ : Kp} {I L : MI} {Z : Zt} {a0 b0 : Nat} {a1 a2 a3 a4 b1 : Int}  (k : Ev E d M_X11_isNew 53 [vr a0, vi a1, vi a2, vi a3, vi a4] [vi 0, vr b0, vi b1] κ I L Z) : Ev E d M_X11_isNew 52 [vr a0, vi a1, vi a2, vi a3, vi a4] [vr b0, vi b1] κ I L Z := E_iconst (v := 0) dX11_isNew_52 rfl k
theorem t76_X11_isNew_53 {E : En} {d : Nat} {κ : Kp} {I L : MI} {Z : Zt} {a0 b1 : Nat} {a1 a2 a3 a4 b0 b2 : Int} {n : Nat} (hs : κ.1.1[b1]? = some (.inr (0, n))) (h0 : 0 ≤ b0) (h1 : b0 < n) (hi : Ir b0) (k : Ir (I b1 b0) → Ev E d M_X11_isNew 54 [vr a0, vi a1, vi a2, vi a3, vi a4] [vi (I b1 b0), vi b2] κ I L Z) : Ev E d M_X11_isNew 53 [vr a0, vi a1, vi a2, vi a3, vi a4] [vi b0, vr b1, vi b2] κ I L Z := E_ialdI dX11_isNew_53 hs h0 h1 hi k
theorem t76_X11_isNew_54 {E : En} {d : Nat} {κ : Kp} {I L : MI} {Z : Zt} {a0 : Nat} {a1 a2 a3 a4 b0 b1 : Int} (hx : Ir b1) (hy : Ir b0) (kt : b0 ≤ b1 → Ev E d M_X11_isNew 105 [vr a0, vi a1, vi a2, vi a3, vi a4] [] κ I L Z) (kf : b1 < b0 → Ev E d M_X11_isNew 57 [vr a0, vi a1, vi a2, vi a3, vi a4] [] κ I L Z) : Ev E d M_X11_isNew 54 [vr a0, vi a1, vi a2, vi a3, vi a4] [vi b0, vi b1] κ I L Z := E_icmp_ge dX11_isNew_54 hx hy kt kf (by decide)
theorem t76_X11_isNew_105 {E : En} {d : Nat} {κ : Kp} {I L : MI} {Z : Zt} {a0 : Nat} {a1 a2 a3 a4 : Int}  (k : Ev E d M_X11_isNew 106 [vr a0, vi a1, vi a2, vi a3, vi a4] [vi a3] κ I L Z) : Ev E d M_X11_isNew 105 [vr a0, vi a1, vi a2, vi a3, vi a4] [] κ I L Z := E_iload_n dX11_isNew_105 rfl k
theorem t76_X11_isNew_106 {E : En} {d : Nat} {g : Geo} {I L : MI} {Q : Option AV → Geo → MI → MI → Prop} {cs : Nat × Nat} {a0 : Nat} {a1 a2 a3 a4 b0 : Int} (hz : b0 = 0 ∨ b0 = 1) (hq : Q (some (vi b0)) g I L) (h1 : cs.1 ≤ M_X11_isNew.2.2.2.2.1 := by decide) (h2 : cs.2 ≤ M_X11_isNew.2.2.2.2.2 := by decide) : Ev E d M_X11_isNew 106 [vr a0, vi a1, vi a2, vi a3, vi a4] [vi b0] (g, cs) I L (ZQ E M_X11_isNew Q) := E_zreturn rfl hz dX11_isNew_106 hq h1 h2
theorem t76_X11_isNew_57 {E : En} {d : Nat} {κ : Kp} {I L : MI} {Z : Zt} {a0 : Nat} {a1 a2 a3 a4 : Int}  (k : Ev E d M_X11_isNew 58 [vr a0, vi a1, vi a2, vi a3, vi a4] [vi a3] κ I L Z) : Ev E d M_X11_isNew 57 [vr a0, vi a1, vi a2, vi a3, vi a4] [] κ I L Z := E_iload_n dX11_isNew_57 rfl k
theorem t76_X11_isNew_58 {E : En} {d : Nat} {κ : Kp} {I L : MI} {Z : Zt} {a0 : Nat} {a1 a2 a3 a4 b0 : Int} (hx : Ir b0) (kt : b0 = 0 → Ev E d M_X11_isNew 97 [vr a0, vi a1, vi a2, vi a3, vi a4] [] κ I L Z) (kf : ¬ b0 = 0 → Ev E d M_X11_isNew 61 [vr a0, vi a1, vi a2, vi a3, vi a4] [] κ I L Z) : Ev E d M_X11_isNew 58 [vr a0, vi a1, vi a2, vi a3, vi a4] [vi b0] κ I L Z := E_if_eq dX11_isNew_58 hx kt kf (by decide)
theorem t76_X11_isNew_97 {E : En} {d : Nat} {κ : Kp} {I L : MI} {Z : Zt} {a0 : Nat} {a1 a2 a3 a4 : Int}  (k : Ev E d M_X11_isNew 98 [vr a0, vi a1, vi a2, vi a3, vi a4] [vi 0] κ I L Z) : Ev E d M_X11_isNew 97 [vr a0, vi a1, vi a2, vi a3, vi a4] [] κ I L Z := E_iconst (v := 0) dX11_isNew_97 rfl k
theorem t76_X11_isNew_98 {E : En} {d : Nat} {κ : Kp} {I L : MI} {Z : Zt} {a0 : Nat} {a1 a2 a3 a4 b0 : Int}  (k : Ev E d M_X11_isNew 99 [vr a0, vi a1, vi a2, vi b0, vi a4] [] κ I L Z) : Ev E d M_X11_isNew 98 [vr a0, vi a1, vi a2, vi a3, vi a4] [vi b0] κ I L Z := E_istore_n dX11_isNew_98 rfl (Nat.le_of_ble_eq_true rfl) k
theorem t76_X11_isNew_99 {E : En} {d : Nat} {κ : Kp} {I L : MI} {Z : Zt} {a0 : Nat} {a1 a2 a3 a4 : Int}  (k : Ev E d M_X11_isNew 102 [vr a0, vi a1, vi a2, vi a3, vi (a4 + 1)] [] κ I L Z) : Ev E d M_X11_isNew 99 [vr a0, vi a1, vi a2, vi a3, vi a4] [] κ I L Z := E_iinc dX11_isNew_99 rfl rfl (Nat.le_of_ble_eq_true rfl) k
theorem t76_X11_isNew_102 {E : En} {d : Nat} {κ : Kp} {I L : MI} {Z : Zt} {a0 : Nat} {a1 a2 a3 a4 : Int}  (k : Ev E d M_X11_isNew 46 [vr a0, vi a1, vi a2, vi a3, vi a4] [] κ I L Z) : Ev E d M_X11_isNew 102 [vr a0, vi a1, vi a2, vi a3, vi a4] [] κ I L Z := E_goto dX11_isNew_102 (by decide) k
theorem t76_X11_isNew_61 {E : En} {d : Nat} {κ : Kp} {I L : MI} {Z : Zt} {a0 : Nat} {a1 a2 a3 a4 : Int}  (k : Ev E d M_X11_isNew 62 [vr a0, vi a1, vi a2, vi a3, vi a4] [vr a0] κ I L Z) : Ev E d M_X11_isNew 61 [vr a0, vi a1, vi a2, vi a3, vi a4] [] κ I L Z := E_aload_n dX11_isNew_61 rfl k
theorem t76_X11_isNew_62 {E : En} {d : Nat} {κ : Kp} {I L : MI} {Z : Zt} {a0 b0 : Nat} {a1 a2 a3 a4 : Int} {q : Nat} (hs : κ.1.1[b0]? = some (.inl 11)) (hq : κ.1.2 b0 6 = some q) (k : Ev E d M_X11_isNew 65 [vr a0, vi a1, vi a2, vi a3, vi a4] [vr q] κ I L Z) : Ev E d M_X11_isNew 62 [vr a0, vi a1, vi a2, vi a3, vi a4] [vr b0] κ I L Z := E_getR (ci := 11) (n := 6) dX11_isNew_62 wF_RX11_22 (by decide) hs rfl hq k
theorem t76_X11_isNew_65 {E : En} {d : Nat} {κ : Kp} {I L : MI} {Z : Zt} {a0 b0 : Nat} {a1 a2 a3 a4 : Int}  (k : Ev E d M_X11_isNew 66 [vr a0, vi a1, vi a2, vi a3, vi a4] [vi 3, vr b0] κ I L Z) : Ev E d M_X11_isNew 65 [vr a0, vi a1, vi a2, vi a3, vi a4] [vr b0] κ I L Z := E_iconst (v := 3) dX11_isNew_65 rfl k
theorem t76_X11_isNew_66 {E : En} {d : Nat} {κ : Kp} {I L : MI} {Z : Zt} {a0 b1 : Nat} {a1 a2 a3 a4 b0 : Int}  (k : Ev E d M_X11_isNew 67 [vr a0, vi a1, vi a2, vi a3, vi a4] [vi 3, vi b0, vr b1] κ I L Z) : Ev E d M_X11_isNew 66 [vr a0, vi a1, vi a2, vi a3, vi a4] [vi b0, vr b1] κ I L Z := E_iconst (v := 3) dX11_isNew_66 rfl k
theorem t76_X11_isNew_67 {E : En} {d : Nat} {κ : Kp} {I L : MI} {Z : Zt} {a0 b2 : Nat} {a1 a2 a3 a4 b0 b1 : Int}  (k : Ev E d M_X11_isNew 69 [vr a0, vi a1, vi a2, vi a3, vi a4] [vi a4, vi b0, vi b1, vr b2] κ I L Z) : Ev E d M_X11_isNew 67 [vr a0, vi a1, vi a2, vi a3, vi a4] [vi b0, vi b1, vr b2] κ I L Z := E_iload dX11_isNew_67 rfl k
theorem t76_X11_isNew_69 {E : En} {d : Nat} {κ : Kp} {I L : MI} {Z : Zt} {a0 b3 : Nat} {a1 a2 a3 a4 b0 b1 b2 : Int}  (k : Ev E d M_X11_isNew 70 [vr a0, vi a1, vi a2, vi a3, vi a4] [vi (b1 * b0), vi b2, vr b3] κ I L Z) : Ev E d M_X11_isNew 69 [vr a0, vi a1, vi a2, vi a3, vi a4] [vi b0, vi b1, vi b2, vr b3] κ I L Z := E_imul dX11_isNew_69 k
theorem t76_X11_isNew_70 {E : En} {d : Nat} {κ : Kp} {I L : MI} {Z : Zt} {a0 b2 : Nat} {a1 a2 a3 a4 b0 b1 : Int}  (k : Ev E d M_X11_isNew 71 [vr a0, vi a1, vi a2, vi a3, vi a4] [vi (b1 + b0), vr b2] κ I L Z) : Ev E d M_X11_isNew 70 [vr a0, vi a1, vi a2, vi a3, vi a4] [vi b0, vi b1, vr b2] κ I L Z := E_iadd dX11_isNew_70 k
theorem t76_X11_isNew_71 {E : En} {d : Nat} {κ : Kp} {I L : MI} {Z : Zt} {a0 b1 : Nat} {a1 a2 a3 a4 b0 : Int} {n : Nat} (hs : κ.1.1[b1]? = some (.inr (0, n))) (h0 : 0 ≤ b0) (h1 : b0 < n) (hi : Ir b0) (k : Ir (I b1 b0) → Ev E d M_X11_isNew 72 [vr a0, vi a1, vi a2, vi a3, vi a4] [vi (I b1 b0)] κ I L Z) : Ev E d M_X11_isNew 71 [vr a0, vi a1, vi a2, vi a3, vi a4] [vi b0, vr b1] κ I L Z := E_ialdI dX11_isNew_71 hs h0 h1 hi k
theorem t76_X11_isNew_72 {E : En} {d : Nat} {κ : Kp} {I L : MI} {Z : Zt} {a0 : Nat} {a1 a2 a3 a4 b0 : Int}  (k : Ev E d M_X11_isNew 73 [vr a0, vi a1, vi a2, vi a3, vi a4] [vi a1, vi b0] κ I L Z) : Ev E d M_X11_isNew 72 [vr a0, vi a1, vi a2, vi a3, vi a4] [vi b0] κ I L Z := E_iload_n dX11_isNew_72 rfl k
theorem t76_X11_isNew_73 {E : En} {d : Nat} {κ : Kp} {I L : MI} {Z : Zt} {a0 : Nat} {a1 a2 a3 a4 b0 b1 : Int} (hx : Ir b1) (hy : Ir b0) (kt : b1 = b0 → Ev E d M_X11_isNew 97 [vr a0, vi a1, vi a2, vi a3, vi a4] [] κ I L Z) (kf : ¬ b1 = b0 → Ev E d M_X11_isNew 76 [vr a0, vi a1, vi a2, vi a3, vi a4] [] κ I L Z) : Ev E d M_X11_isNew 73 [vr a0, vi a1, vi a2, vi a3, vi a4] [vi b0, vi b1] κ I L Z := E_icmp_eq dX11_isNew_73 hx hy kt kf (by decide)
theorem t76_X11_isNew_76 {E : En} {d : Nat} {κ : Kp} {I L : MI} {Z : Zt} {a0 : Nat} {a1 a2 a3 a4 : Int}  (k : Ev E d M_X11_isNew 77 [vr a0, vi a1, vi a2, vi a3, vi a4] [vr a0] κ I L Z) : Ev E d M_X11_isNew 76 [vr a0, vi a1, vi a2, vi a3, vi a4] [] κ I L Z := E_aload_n dX11_isNew_76 rfl k
theorem t76_X11_isNew_77 {E : En} {d : Nat} {κ : Kp} {I L : MI} {Z : Zt} {a0 b0 : Nat} {a1 a2 a3 a4 : Int} {q : Nat} (hs : κ.1.1[b0]? = some (.inl 11)) (hq : κ.1.2 b0 6 = some q) (k : Ev E d M_X11_isNew 80 [vr a0, vi a1, vi a2, vi a3, vi a4] [vr q] κ I L Z) : Ev E d M_X11_isNew 77 [vr a0, vi a1, vi a2, vi a3, vi a4] [vr b0] κ I L Z := E_getR (ci := 11) (n := 6) dX11_isNew_77 wF_RX11_22 (by decide) hs rfl hq k
theorem t76_X11_isNew_80 {E : En} {d : Nat} {κ : Kp} {I L : MI} {Z : Zt} {a0 b0 : Nat} {a1 a2 a3 a4 : Int}  (k : Ev E d M_X11_isNew 81 [vr a0, vi a1, vi a2, vi a3, vi a4] [vi 3, vr b0] κ I L Z) : Ev E d M_X11_isNew 80 [vr a0, vi a1, vi a2, vi a3, vi a4] [vr b0] κ I L Z := E_iconst (v := 3) dX11_isNew_80 rfl k
theorem t76_X11_isNew_81 {E : En} {d : Nat} {κ : Kp} {I L : MI} {Z : Zt} {a0 b1 : Nat} {a1 a2 a3 a4 b0 : Int}  (k : Ev E d M_X11_isNew 82 [vr a0, vi a1, vi a2, vi a3, vi a4] [vi 3, vi b0, vr b1] κ I L Z) : Ev E d M_X11_isNew 81 [vr a0, vi a1, vi a2, vi a3, vi a4] [vi b0, vr b1] κ I L Z := E_iconst (v := 3) dX11_isNew_81 rfl k
theorem t76_X11_isNew_82 {E : En} {d : Nat} {κ : Kp} {I L : MI} {Z : Zt} {a0 b2 : Nat} {a1 a2 a3 a4 b0 b1 : Int}  (k : Ev E d M_X11_isNew 84 [vr a0, vi a1, vi a2, vi a3, vi a4] [vi a4, vi b0, vi b1, vr b2] κ I L Z) : Ev E d M_X11_isNew 82 [vr a0, vi a1, vi a2, vi a3, vi a4] [vi b0, vi b1, vr b2] κ I L Z := E_iload dX11_isNew_82 rfl k
theorem t76_X11_isNew_84 {E : En} {d : Nat} {κ : Kp} {I L : MI} {Z : Zt} {a0 b3 : Nat} {a1 a2 a3 a4 b0 b1 b2 : Int}  (k : Ev E d M_X11_isNew 85 [vr a0, vi a1, vi a2, vi a3, vi a4] [vi (b1 * b0), vi b2, vr b3] κ I L Z) : Ev E d M_X11_isNew 84 [vr a0, vi a1, vi a2, vi a3, vi a4] [vi b0, vi b1, vi b2, vr b3] κ I L Z := E_imul dX11_isNew_84 k
theorem t76_X11_isNew_85 {E : En} {d : Nat} {κ : Kp} {I L : MI} {Z : Zt} {a0 b2 : Nat} {a1 a2 a3 a4 b0 b1 : Int}  (k : Ev E d M_X11_isNew 86 [vr a0, vi a1, vi a2, vi a3, vi a4] [vi (b1 + b0), vr b2] κ I L Z) : Ev E d M_X11_isNew 85 [vr a0, vi a1, vi a2, vi a3, vi a4] [vi b0, vi b1, vr b2] κ I L Z := E_iadd dX11_isNew_85 k
theorem t76_X11_isNew_86 {E : En} {d : Nat} {κ : Kp} {I L : MI} {Z : Zt} {a0 b1 : Nat} {a1 a2 a3 a4 b0 : Int}  (k : Ev E d M_X11_isNew 87 [vr a0, vi a1, vi a2, vi a3, vi a4] [vi 1, vi b0, vr b1] κ I L Z) : Ev E d M_X11_isNew 86 [vr a0, vi a1, vi a2, vi a3, vi a4] [vi b0, vr b1] κ I L Z := E_iconst (v := 1) dX11_isNew_86 rfl k
theorem t76_X11_isNew_87 {E : En} {d : Nat} {κ : Kp} {I L : MI} {Z : Zt} {a0 b2 : Nat} {a1 a2 a3 a4 b0 b1 : Int}  (k : Ev E d M_X11_isNew 88 [vr a0, vi a1, vi a2, vi a3, vi a4] [vi (b1 + b0), vr b2] κ I L Z) : Ev E d M_X11_isNew 87 [vr a0, vi a1, vi a2, vi a3, vi a4] [vi b0, vi b1, vr b2] κ I L Z := E_iadd dX11_isNew_87 k
theorem t76_X11_isNew_88 {E : En} {d : Nat} {κ : Kp} {I L : MI} {Z : Zt} {a0 b1 : Nat} {a1 a2 a3 a4 b0 : Int} {n : Nat} (hs : κ.1.1[b1]? = some (.inr (0, n))) (h0 : 0 ≤ b0) (h1 : b0 < n) (hi : Ir b0) (k : Ir (I b1 b0) → Ev E d M_X11_isNew 89 [vr a0, vi a1, vi a2, vi a3, vi a4] [vi (I b1 b0)] κ I L Z) : Ev E d M_X11_isNew 88 [vr a0, vi a1, vi a2, vi a3, vi a4] [vi b0, vr b1] κ I L Z := E_ialdI dX11_isNew_88 hs h0 h1 hi k
theorem t76_X11_isNew_89 {E : En} {d : Nat} {κ : Kp} {I L : MI} {Z : Zt} {a0 : Nat} {a1 a2 a3 a4 b0 : Int}  (k : Ev E d M_X11_isNew 90 [vr a0, vi a1, vi a2, vi a3, vi a4] [vi a1, vi b0] κ I L Z) : Ev E d M_X11_isNew 89 [vr a0, vi a1, vi a2, vi a3, vi a4] [vi b0] κ I L Z := E_iload_n dX11_isNew_89 rfl k
theorem t76_X11_isNew_90 {E : En} {d : Nat} {κ : Kp} {I L : MI} {Z : Zt} {a0 : Nat} {a1 a2 a3 a4 b0 b1 : Int} (hx : Ir b1) (hy : Ir b0) (kt : b1 = b0 → Ev E d M_X11_isNew 97 [vr a0, vi a1, vi a2, vi a3, vi a4] [] κ I L Z) (kf : ¬ b1 = b0 → Ev E d M_X11_isNew 93 [vr a0, vi a1, vi a2, vi a3, vi a4] [] κ I L Z) : Ev E d M_X11_isNew 90 [vr a0, vi a1, vi a2, vi a3, vi a4] [vi b0, vi b1] κ I L Z := E_icmp_eq dX11_isNew_90 hx hy kt kf (by decide)
theorem t76_X11_isNew_93 {E : En} {d : Nat} {κ : Kp} {I L : MI} {Z : Zt} {a0 : Nat} {a1 a2 a3 a4 : Int}  (k : Ev E d M_X11_isNew 94 [vr a0, vi a1, vi a2, vi a3, vi a4] [vi 1] κ I L Z) : Ev E d M_X11_isNew 93 [vr a0, vi a1, vi a2, vi a3, vi a4] [] κ I L Z := E_iconst (v := 1) dX11_isNew_93 rfl k
theorem t76_X11_isNew_94 {E : En} {d : Nat} {κ : Kp} {I L : MI} {Z : Zt} {a0 : Nat} {a1 a2 a3 a4 b0 : Int}  (k : Ev E d M_X11_isNew 98 [vr a0, vi a1, vi a2, vi a3, vi a4] [vi b0] κ I L Z) : Ev E d M_X11_isNew 94 [vr a0, vi a1, vi a2, vi a3, vi a4] [vi b0] κ I L Z := E_goto dX11_isNew_94 (by decide) k
theorem t76_X11_isNew_14 {E : En} {d : Nat} {κ : Kp} {I L : MI} {Z : Zt} {a0 : Nat} {a1 a2 a3 a4 : Int}  (k : Ev E d M_X11_isNew 16 [vr a0, vi a1, vi a2, vi a3, vi a4] [vi a4] κ I L Z) : Ev E d M_X11_isNew 14 [vr a0, vi a1, vi a2, vi a3, vi a4] [] κ I L Z := E_iload dX11_isNew_14 rfl k
theorem t76_X11_isNew_16 {E : En} {d : Nat} {κ : Kp} {I L : MI} {Z : Zt} {a0 : Nat} {a1 a2 a3 a4 b0 : Int}  (k : Ev E d M_X11_isNew 17 [vr a0, vi a1, vi a2, vi a3, vi a4] [vi a1, vi b0] κ I L Z) : Ev E d M_X11_isNew 16 [vr a0, vi a1, vi a2, vi a3, vi a4] [vi b0] κ I L Z := E_iload_n dX11_isNew_16 rfl k
theorem t76_X11_isNew_17 {E : En} {d : Nat} {κ : Kp} {I L : MI} {Z : Zt} {a0 : Nat} {a1 a2 a3 a4 b0 b1 : Int} (hx : Ir b1) (hy : Ir b0) (kt : b0 ≤ b1 → Ev E d M_X11_isNew 43 [vr a0, vi a1, vi a2, vi a3, vi a4] [] κ I L Z) (kf : b1 < b0 → Ev E d M_X11_isNew 20 [vr a0, vi a1, vi a2, vi a3, vi a4] [] κ I L Z) : Ev E d M_X11_isNew 17 [vr a0, vi a1, vi a2, vi a3, vi a4] [vi b0, vi b1] κ I L Z := E_icmp_ge dX11_isNew_17 hx hy kt kf (by decide)
theorem t76_X11_isNew_43 {E : En} {d : Nat} {κ : Kp} {I L : MI} {Z : Zt} {a0 : Nat} {a1 a2 a3 a4 : Int}  (k : Ev E d M_X11_isNew 44 [vr a0, vi a1, vi a2, vi a3, vi a4] [vi 0] κ I L Z) : Ev E d M_X11_isNew 43 [vr a0, vi a1, vi a2, vi a3, vi a4] [] κ I L Z := E_iconst (v := 0) dX11_isNew_43 rfl k
theorem t76_X11_isNew_44 {E : En} {d : Nat} {κ : Kp} {I L : MI} {Z : Zt} {a0 : Nat} {a1 a2 a3 a4 b0 : Int}  (k : Ev E d M_X11_isNew 46 [vr a0, vi a1, vi a2, vi a3, vi b0] [] κ I L Z) : Ev E d M_X11_isNew 44 [vr a0, vi a1, vi a2, vi a3, vi a4] [vi b0] κ I L Z := E_istore dX11_isNew_44 rfl (Nat.le_of_ble_eq_true rfl) k
theorem t76_X11_isNew_20 {E : En} {d : Nat} {κ : Kp} {I L : MI} {Z : Zt} {a0 : Nat} {a1 a2 a3 a4 : Int}  (k : Ev E d M_X11_isNew 21 [vr a0, vi a1, vi a2, vi a3, vi a4] [vi a3] κ I L Z) : Ev E d M_X11_isNew 20 [vr a0, vi a1, vi a2, vi a3, vi a4] [] κ I L Z := E_iload_n dX11_isNew_20 rfl k
theorem t76_X11_isNew_21 {E : En} {d : Nat} {κ : Kp} {I L : MI} {Z : Zt} {a0 : Nat} {a1 a2 a3 a4 b0 : Int} (hx : Ir b0) (kt : b0 = 0 → Ev E d M_X11_isNew 35 [vr a0, vi a1, vi a2, vi a3, vi a4] [] κ I L Z) (kf : ¬ b0 = 0 → Ev E d M_X11_isNew 24 [vr a0, vi a1, vi a2, vi a3, vi a4] [] κ I L Z) : Ev E d M_X11_isNew 21 [vr a0, vi a1, vi a2, vi a3, vi a4] [vi b0] κ I L Z := E_if_eq dX11_isNew_21 hx kt kf (by decide)
theorem t76_X11_isNew_35 {E : En} {d : Nat} {κ : Kp} {I L : MI} {Z : Zt} {a0 : Nat} {a1 a2 a3 a4 : Int}  (k : Ev E d M_X11_isNew 36 [vr a0, vi a1, vi a2, vi a3, vi a4] [vi 0] κ I L Z) : Ev E d M_X11_isNew 35 [vr a0, vi a1, vi a2, vi a3, vi a4] [] κ I L Z := E_iconst (v := 0) dX11_isNew_35 rfl k
theorem t76_X11_isNew_36 {E : En} {d : Nat} {κ : Kp} {I L : MI} {Z : Zt} {a0 : Nat} {a1 a2 a3 a4 b0 : Int}  (k : Ev E d M_X11_isNew 37 [vr a0, vi a1, vi a2, vi b0, vi a4] [] κ I L Z) : Ev E d M_X11_isNew 36 [vr a0, vi a1, vi a2, vi a3, vi a4] [vi b0] κ I L Z := E_istore_n dX11_isNew_36 rfl (Nat.le_of_ble_eq_true rfl) k
theorem t76_X11_isNew_37 {E : En} {d : Nat} {κ : Kp} {I L : MI} {Z : Zt} {a0 : Nat} {a1 a2 a3 a4 : Int}  (k : Ev E d M_X11_isNew 40 [vr a0, vi a1, vi a2, vi a3, vi (a4 + 1)] [] κ I L Z) : Ev E d M_X11_isNew 37 [vr a0, vi a1, vi a2, vi a3, vi a4] [] κ I L Z := E_iinc dX11_isNew_37 rfl rfl (Nat.le_of_ble_eq_true rfl) k
theorem t76_X11_isNew_40 {E : En} {d : Nat} {κ : Kp} {I L : MI} {Z : Zt} {a0 : Nat} {a1 a2 a3 a4 : Int}  (k : Ev E d M_X11_isNew 14 [vr a0, vi a1, vi a2, vi a3, vi a4] [] κ I L Z) : Ev E d M_X11_isNew 40 [vr a0, vi a1, vi a2, vi a3, vi a4] [] κ I L Z := E_goto dX11_isNew_40 (by decide) k
theorem t76_X11_isNew_24 {E : En} {d : Nat} {κ : Kp} {I L : MI} {Z : Zt} {a0 : Nat} {a1 a2 a3 a4 : Int}  (k : Ev E d M_X11_isNew 25 [vr a0, vi a1, vi a2, vi a3, vi a4] [vi a1] κ I L Z) : Ev E d M_X11_isNew 24 [vr a0, vi a1, vi a2, vi a3, vi a4] [] κ I L Z := E_iload_n dX11_isNew_24 rfl k
theorem t76_X11_isNew_25 {E : En} {d : Nat} {κ : Kp} {I L : MI} {Z : Zt} {a0 : Nat} {a1 a2 a3 a4 b0 : Int}  (k : Ev E d M_X11_isNew 27 [vr a0, vi a1, vi a2, vi a3, vi a4] [vi a4, vi b0] κ I L Z) : Ev E d M_X11_isNew 25 [vr a0, vi a1, vi a2, vi a3, vi a4] [vi b0] κ I L Z := E_iload dX11_isNew_25 rfl k
theorem t76_X11_isNew_27 {E : En} {d : Nat} {κ : Kp} {I L : MI} {Z : Zt} {a0 : Nat} {a1 a2 a3 a4 b0 b1 : Int} (hx : Ir b1) (hy : Ir b0) (h0 : b0 ≠ 0) (hm : b0 ≠ -1) (k : Ev E d M_X11_isNew 28 [vr a0, vi a1, vi a2, vi a3, vi a4] [vi (b1.tmod b0)] κ I L Z) : Ev E d M_X11_isNew 27 [vr a0, vi a1, vi a2, vi a3, vi a4] [vi b0, vi b1] κ I L Z := E_irem dX11_isNew_27 hx hy h0 hm k
theorem t76_X11_isNew_28 {E : En} {d : Nat} {κ : Kp} {I L : MI} {Z : Zt} {a0 : Nat} {a1 a2 a3 a4 b0 : Int} (hx : Ir b0) (kt : b0 = 0 → Ev E d M_X11_isNew 35 [vr a0, vi a1, vi a2, vi a3, vi a4] [] κ I L Z) (kf : ¬ b0 = 0 → Ev E d M_X11_isNew 31 [vr a0, vi a1, vi a2, vi a3, vi a4] [] κ I L Z) : Ev E d M_X11_isNew 28 [vr a0, vi a1, vi a2, vi a3, vi a4] [vi b0] κ I L Z := E_if_eq dX11_isNew_28 hx kt kf (by decide)
theorem t76_X11_isNew_31 {E : En} {d : Nat} {κ : Kp} {I L : MI} {Z : Zt} {a0 : Nat} {a1 a2 a3 a4 : Int}  (k : Ev E d M_X11_isNew 32 [vr a0, vi a1, vi a2, vi a3, vi a4] [vi 1] κ I L Z) : Ev E d M_X11_isNew 31 [vr a0, vi a1, vi a2, vi a3, vi a4] [] κ I L Z := E_iconst (v := 1) dX11_isNew_31 rfl k
theorem t76_X11_isNew_32 {E : En} {d : Nat} {κ : Kp} {I L : MI} {Z : Zt} {a0 : Nat} {a1 a2 a3 a4 b0 : Int}  (k : Ev E d M_X11_isNew 36 [vr a0, vi a1, vi a2, vi a3, vi a4] [vi b0] κ I L Z) : Ev E d M_X11_isNew 32 [vr a0, vi a1, vi a2, vi a3, vi a4] [vi b0] κ I L Z := E_goto dX11_isNew_32 (by decide) k
theorem t76_X11_isNew_0 {E : En} {d : Nat} {κ : Kp} {I L : MI} {Z : Zt} {a0 : Nat} {a1 a2 : Int}  (k : Ev E d M_X11_isNew 1 [vr a0, vi a1, vi a2, vu, vu] [vi a1] κ I L Z) : Ev E d M_X11_isNew 0 [vr a0, vi a1, vi a2, vu, vu] [] κ I L Z := E_iload_n dX11_isNew_0 rfl k
theorem t76_X11_isNew_1 {E : En} {d : Nat} {κ : Kp} {I L : MI} {Z : Zt} {a0 : Nat} {a1 a2 b0 : Int}  (k : Ev E d M_X11_isNew 2 [vr a0, vi a1, vi a2, vu, vu] [vi a2, vi b0] κ I L Z) : Ev E d M_X11_isNew 1 [vr a0, vi a1, vi a2, vu, vu] [vi b0] κ I L Z := E_iload_n dX11_isNew_1 rfl k
theorem t76_X11_isNew_2 {E : En} {d : Nat} {κ : Kp} {I L : MI} {Z : Zt} {a0 : Nat} {a1 a2 b0 b1 : Int} (hx : Ir b1) (hy : Ir b0) (kt : b1 = b0 → Ev E d M_X11_isNew 9 [vr a0, vi a1, vi a2, vu, vu] [] κ I L Z) (kf : ¬ b1 = b0 → Ev E d M_X11_isNew 5 [vr a0, vi a1, vi a2, vu, vu] [] κ I L Z) : Ev E d M_X11_isNew 2 [vr a0, vi a1, vi a2, vu, vu] [vi b0, vi b1] κ I L Z := E_icmp_eq dX11_isNew_2 hx hy kt kf (by decide)
theorem t76_X11_isNew_9 {E : En} {d : Nat} {κ : Kp} {I L : MI} {Z : Zt} {a0 : Nat} {a1 a2 : Int}  (k : Ev E d M_X11_isNew 10 [vr a0, vi a1, vi a2, vu, vu] [vi 0] κ I L Z) : Ev E d M_X11_isNew 9 [vr a0, vi a1, vi a2, vu, vu] [] κ I L Z := E_iconst (v := 0) dX11_isNew_9 rfl k
theorem t76_X11_isNew_10 {E : En} {d : Nat} {κ : Kp} {I L : MI} {Z : Zt} {a0 : Nat} {a1 a2 b0 : Int}  (k : Ev E d M_X11_isNew 11 [vr a0, vi a1, vi a2, vi b0, vu] [] κ I L Z) : Ev E d M_X11_isNew 10 [vr a0, vi a1, vi a2, vu, vu] [vi b0] κ I L Z := E_istore_n dX11_isNew_10 rfl (Nat.le_of_ble_eq_true rfl) k
theorem t76_X11_isNew_11 {E : En} {d : Nat} {κ : Kp} {I L : MI} {Z : Zt} {a0 : Nat} {a1 a2 a3 : Int}  (k : Ev E d M_X11_isNew 12 [vr a0, vi a1, vi a2, vi a3, vu] [vi 2] κ I L Z) : Ev E d M_X11_isNew 11 [vr a0, vi a1, vi a2, vi a3, vu] [] κ I L Z := E_iconst (v := 2) dX11_isNew_11 rfl k
theorem t76_X11_isNew_12 {E : En} {d : Nat} {κ : Kp} {I L : MI} {Z : Zt} {a0 : Nat} {a1 a2 a3 b0 : Int}  (k : Ev E d M_X11_isNew 14 [vr a0, vi a1, vi a2, vi a3, vi b0] [] κ I L Z) : Ev E d M_X11_isNew 12 [vr a0, vi a1, vi a2, vi a3, vu] [vi b0] κ I L Z := E_istore dX11_isNew_12 rfl (Nat.le_of_ble_eq_true rfl) k
theorem t76_X11_isNew_5 {E : En} {d : Nat} {κ : Kp} {I L : MI} {Z : Zt} {a0 : Nat} {a1 a2 : Int}  (k : Ev E d M_X11_isNew 6 [vr a0, vi a1, vi a2, vu, vu] [vi 1] κ I L Z) : Ev E d M_X11_isNew 5 [vr a0, vi a1, vi a2, vu, vu] [] κ I L Z := E_iconst (v := 1) dX11_isNew_5 rfl k
theorem t76_X11_isNew_6 {E : En} {d : Nat} {κ : Kp} {I L : MI} {Z : Zt} {a0 : Nat} {a1 a2 b0 : Int}  (k : Ev E d M_X11_isNew 10 [vr a0, vi a1, vi a2, vu, vu] [vi b0] κ I L Z) : Ev E d M_X11_isNew 6 [vr a0, vi a1, vi a2, vu, vu] [vi b0] κ I L Z := E_goto dX11_isNew_6 (by decide) k
theorem t76_X11_newNumber_48 {E : En} {d : Nat} {κ : Kp} {I L : MI} {Z : Zt} {a0 : Nat} {a1 a2 : Int}  (k : Ev E d M_X11_newNumber 49 [vr a0, vi a1, vi a2] [vr a0] κ I L Z) : Ev E d M_X11_newNumber 48 [vr a0, vi a1, vi a2] [] κ I L Z := E_aload_n dX11_newNumber_48 rfl k
theorem t76_X11_newNumber_49 {E : En} {d : Nat} {κ : Kp} {I L : MI} {Z : Zt} {a0 b0 : Nat} {a1 a2 : Int}  (k : Ev E d M_X11_newNumber 50 [vr a0, vi a1, vi a2] [vi 2, vr b0] κ I L Z) : Ev E d M_X11_newNumber 49 [vr a0, vi a1, vi a2] [vr b0] κ I L Z := E_iconst (v := 2) dX11_newNumber_49 rfl k
theorem t76_X11_newNumber_50 {E : En} {d : Nat} {κ : Kp} {I L : MI} {Z : Zt} {a0 b1 : Nat} {a1 a2 b0 : Int}  (k : Ev E d M_X11_newNumber 53 [vr a0, vi a1, vi a2] [vi 199, vi b0, vr b1] κ I L Z) : Ev E d M_X11_newNumber 50 [vr a0, vi a1, vi a2] [vi b0, vr b1] κ I L Z := E_sipush (v := 199) dX11_newNumber_50 rfl k
theorem t76_X11_newNumber_53 {E : En} {d d' : Nat} {cs : Nat × Nat} {I L : MI} {Z : Zt} {a0 b2 : Nat} {a1 a2 b0 b1 : Int} {Q : Int → MI → MI → Prop} (hs : G0.1[b2]? = some (.inl 11)) (hM : CQi E d' M_X11_number [vr b2, vi b1, vi b0] I L Q) (hlt : d' + 1 ≤ d) (kk : ∀ (z : Int) (I' L' : MI), Q z I' L' → Ev E d M_X11_newNumber 56 [vr a0, vi a1, vi a2] [vi z] (G0, cs) I' L' Z) (hc1 : cs.1 ≤ M_X11_newNumber.2.2.2.2.1 := by decide) (hc2 : cs.2 ≤ M_X11_newNumber.2.2.2.2.2 := by decide) : Ev E d M_X11_newNumber 53 [vr a0, vi a1, vi a2] [vi b0, vi b1, vr b2] (G0, cs) I L Z := E_callV (as := [vi b1, vi b0]) (rest := []) (n := 2) hM dX11_newNumber_53 wM_RX11_146 wS_X11_number wV_X11_number hs (by decide) rfl hlt wC_X11_number wI_X11 (by decide +kernel) rfl (by decide) (Nat.le_of_ble_eq_true rfl) hc1 hc2 rfl (fun r g' I' L' h => by obtain ⟨rfl, z, rfl, h⟩ := h; exact kk z I' L' h)
theorem t76_X11_newNumber_56 {E : En} {d : Nat} {g : Geo} {I L : MI} {Q : Option AV → Geo → MI → MI → Prop} {cs : Nat × Nat} {a0 : Nat} {a1 a2 b0 : Int} (hq : Q (some (vi b0)) g I L) (h1 : cs.1 ≤ M_X11_newNumber.2.2.2.2.1 := by decide) (h2 : cs.2 ≤ M_X11_newNumber.2.2.2.2.2 := by decide) : Ev E d M_X11_newNumber 56 [vr a0, vi a1, vi a2] [vi b0] (g, cs) I L (ZQ E M_X11_newNumber Q) := E_ireturn rfl dX11_newNumber_56 hq h1 h2
theorem t76_X11_newNumber_0 {E : En} {d : Nat} {κ : Kp} {I L : MI} {Z : Zt} {a0 : Nat} {a1 : Int}  (k : Ev E d M_X11_newNumber 1 [vr a0, vi a1, vu] [vr a0] κ I L Z) : Ev E d M_X11_newNumber 0 [vr a0, vi a1, vu] [] κ I L Z := E_aload_n dX11_newNumber_0 rfl k
theorem t76_X11_newNumber_1 {E : En} {d d' : Nat} {cs : Nat × Nat} {I L : MI} {Z : Zt} {a0 b0 : Nat} {a1 : Int} {z : Int} {I' L' : MI} (hs : G0.1[b0]? = some (.inl 11)) (hM : CFi E d' M_X11_figures [vr b0] I L z I' L') (hlt : d' + 1 ≤ d) (k : Ir z → Ev E d M_X11_newNumber 4 [vr a0, vi a1, vu] [vi z] (G0, cs) I' L' Z) (hc1 : cs.1 ≤ M_X11_newNumber.2.2.2.2.1 := by decide) (hc2 : cs.2 ≤ M_X11_newNumber.2.2.2.2.2 := by decide) : Ev E d M_X11_newNumber 1 [vr a0, vi a1, vu] [vr b0] (G0, cs) I L Z := E_callV (as := []) (rest := []) (n := 0) hM dX11_newNumber_1 wM_RX11_132 wS_X11_figures wV_X11_figures hs (by decide) rfl hlt wC_X11_figures wI_X11 (by decide +kernel) rfl (by decide) (Nat.le_of_ble_eq_true rfl) hc1 hc2 rfl (fun r g' I2 L2 h => by obtain ⟨rfl, z, rfl, hr, rfl, rfl, rfl⟩ := h; exact k hr)
theorem t76_X11_newNumber_4 {E : En} {d : Nat} {κ : Kp} {I L : MI} {Z : Zt} {a0 : Nat} {a1 b0 : Int}  (k : Ev E d M_X11_newNumber 5 [vr a0, vi a1, vi b0] [] κ I L Z) : Ev E d M_X11_newNumber 4 [vr a0, vi a1, vu] [vi b0] κ I L Z := E_istore_n dX11_newNumber_4 rfl (Nat.le_of_ble_eq_true rfl) k
theorem t76_X11_newNumber_5 {E : En} {d : Nat} {κ : Kp} {I L : MI} {Z : Zt} {a0 : Nat} {a1 a2 : Int}  (k : Ev E d M_X11_newNumber 6 [vr a0, vi a1, vi a2] [vr a0] κ I L Z) : Ev E d M_X11_newNumber 5 [vr a0, vi a1, vi a2] [] κ I L Z := E_aload_n dX11_newNumber_5 rfl k
theorem t76_X11_newNumber_6 {E : En} {d : Nat} {κ : Kp} {I L : MI} {Z : Zt} {a0 b0 : Nat} {a1 a2 : Int} (hs : κ.1.1[b0]? = some (.inl 11)) (k : Ir (I b0 17) → Ev E d M_X11_newNumber 9 [vr a0, vi a1, vi a2] [vi (I b0 17)] κ I L Z) : Ev E d M_X11_newNumber 6 [vr a0, vi a1, vi a2] [vr b0] κ I L Z := E_getI (ci := 11) (n := 17) dX11_newNumber_6 wF_RX11_119 (by decide) hs rfl k
theorem t76_X11_newNumber_9 {E : En} {d : Nat} {κ : Kp} {I L : MI} {Z : Zt} {a0 : Nat} {a1 a2 b0 : Int} (hx : Ir b0) (kt : ¬ b0 = 0 → Ev E d M_X11_newNumber 48 [vr a0, vi a1, vi a2] [] κ I L Z) (kf : b0 = 0 → Ev E d M_X11_newNumber 12 [vr a0, vi a1, vi a2] [] κ I L Z) : Ev E d M_X11_newNumber 9 [vr a0, vi a1, vi a2] [vi b0] κ I L Z := E_if_ne dX11_newNumber_9 hx kt kf (by decide)
theorem t76_X11_newNumber_12 {E : En} {d : Nat} {κ : Kp} {I L : MI} {Z : Zt} {a0 : Nat} {a1 a2 : Int}  (k : Ev E d M_X11_newNumber 13 [vr a0, vi a1, vi a2] [vr a0] κ I L Z) : Ev E d M_X11_newNumber 12 [vr a0, vi a1, vi a2] [] κ I L Z := E_aload_n dX11_newNumber_12 rfl k
theorem t76_X11_newNumber_13 {E : En} {d : Nat} {κ : Kp} {I L : MI} {Z : Zt} {a0 b0 : Nat} {a1 a2 : Int} (hs : κ.1.1[b0]? = some (.inl 11)) (k : Ir (I b0 14) → Ev E d M_X11_newNumber 16 [vr a0, vi a1, vi a2] [vi (I b0 14)] κ I L Z) : Ev E d M_X11_newNumber 13 [vr a0, vi a1, vi a2] [vr b0] κ I L Z := E_getI (ci := 11) (n := 14) dX11_newNumber_13 wF_RX11_107 (by decide) hs rfl k
theorem t76_X11_newNumber_16 {E : En} {d : Nat} {κ : Kp} {I L : MI} {Z : Zt} {a0 : Nat} {a1 a2 b0 : Int}  (k : Ev E d M_X11_newNumber 17 [vr a0, vi a1, vi a2] [vi 3, vi b0] κ I L Z) : Ev E d M_X11_newNumber 16 [vr a0, vi a1, vi a2] [vi b0] κ I L Z := E_iconst (v := 3) dX11_newNumber_16 rfl k
theorem t76_X11_newNumber_17 {E : En} {d : Nat} {κ : Kp} {I L : MI} {Z : Zt} {a0 : Nat} {a1 a2 b0 b1 : Int} (hx : Ir b1) (hy : Ir b0) (kt : ¬ b1 = b0 → Ev E d M_X11_newNumber 48 [vr a0, vi a1, vi a2] [] κ I L Z) (kf : b1 = b0 → Ev E d M_X11_newNumber 20 [vr a0, vi a1, vi a2] [] κ I L Z) : Ev E d M_X11_newNumber 17 [vr a0, vi a1, vi a2] [vi b0, vi b1] κ I L Z := E_icmp_ne dX11_newNumber_17 hx hy kt kf (by decide)
theorem t76_X11_newNumber_20 {E : En} {d : Nat} {κ : Kp} {I L : MI} {Z : Zt} {a0 : Nat} {a1 a2 : Int}  (k : Ev E d M_X11_newNumber 21 [vr a0, vi a1, vi a2] [vi a2] κ I L Z) : Ev E d M_X11_newNumber 20 [vr a0, vi a1, vi a2] [] κ I L Z := E_iload_n dX11_newNumber_20 rfl k
theorem t76_X11_newNumber_21 {E : En} {d : Nat} {κ : Kp} {I L : MI} {Z : Zt} {a0 : Nat} {a1 a2 b0 : Int} (hx : Ir b0) (k : Ev E d M_X11_newNumber 22 [vr a0, vi a1, vi a2] [vl b0] κ I L Z) : Ev E d M_X11_newNumber 21 [vr a0, vi a1, vi a2] [vi b0] κ I L Z := E_i2l dX11_newNumber_21 hx k
theorem t76_X11_newNumber_22 {E : En} {d : Nat} {κ : Kp} {I L : MI} {Z : Zt} {a0 : Nat} {a1 a2 b0 : Int}  (k : Ev E d M_X11_newNumber 25 [vr a0, vi a1, vi a2] [vl 2, vl b0] κ I L Z) : Ev E d M_X11_newNumber 22 [vr a0, vi a1, vi a2] [vl b0] κ I L Z := E_ldc2 (v := 2) dX11_newNumber_22 wK_RX11_76 k
theorem t76_X11_newNumber_25 {E : En} {d : Nat} {κ : Kp} {I L : MI} {Z : Zt} {a0 : Nat} {a1 a2 b0 b1 : Int}  (k : Ev E d M_X11_newNumber 28 [vr a0, vi a1, vi a2] [vl 199, vl b0, vl b1] κ I L Z) : Ev E d M_X11_newNumber 25 [vr a0, vi a1, vi a2] [vl b0, vl b1] κ I L Z := E_ldc2 (v := 199) dX11_newNumber_25 wK_RX11_140 k
theorem t76_X11_newNumber_28 {E : En} {d d' : Nat} {cs : Nat × Nat} {I L : MI} {Z : Zt} {a0 : Nat} {a1 a2 b0 b1 b2 : Int} {P : Prop} {I' L' : MI} (hM : CB E d' M_X11_in [vl b2, vl b1, vl b0] I L P I' L') (hlt : d' + 1 ≤ d) (kt : P → Ev E d M_X11_newNumber 31 [vr a0, vi a1, vi a2] [vi 1] (G0, cs) I' L' Z) (kf : ¬ P → Ev E d M_X11_newNumber 31 [vr a0, vi a1, vi a2] [vi 0] (G0, cs) I' L' Z) (hc1 : cs.1 ≤ M_X11_newNumber.2.2.2.2.1 := by decide) (hc2 : cs.2 ≤ M_X11_newNumber.2.2.2.2.2 := by decide) : Ev E d M_X11_newNumber 28 [vr a0, vi a1, vi a2] [vl b0, vl b1, vl b2] (G0, cs) I L Z := E_callS (as := [vl b2, vl b1, vl b0]) (rest := []) (n := 3) hM dX11_newNumber_28 wM_RX11_68 wS_X11_in hlt wC_X11_in wI_X11 (by decide +kernel) rfl (by decide) (Nat.le_of_ble_eq_true rfl) hc1 hc2 rfl (fun r g' I2 L2 h => by obtain ⟨rfl, z, rfl, rfl, rfl, ⟨rfl, h⟩ | ⟨rfl, h⟩⟩ := h; exact kt h; exact kf h)
theorem t76_X11_newNumber_31 {E : En} {d : Nat} {κ : Kp} {I L : MI} {Z : Zt} {a0 : Nat} {a1 a2 b0 : Int} (hx : Ir b0) (kt : b0 = 0 → Ev E d M_X11_newNumber 48 [vr a0, vi a1, vi a2] [] κ I L Z) (kf : ¬ b0 = 0 → Ev E d M_X11_newNumber 34 [vr a0, vi a1, vi a2] [] κ I L Z) : Ev E d M_X11_newNumber 31 [vr a0, vi a1, vi a2] [vi b0] κ I L Z := E_if_eq dX11_newNumber_31 hx kt kf (by decide)
theorem t76_X11_newNumber_34 {E : En} {d : Nat} {κ : Kp} {I L : MI} {Z : Zt} {a0 : Nat} {a1 a2 : Int}  (k : Ev E d M_X11_newNumber 35 [vr a0, vi a1, vi a2] [vr a0] κ I L Z) : Ev E d M_X11_newNumber 34 [vr a0, vi a1, vi a2] [] κ I L Z := E_aload_n dX11_newNumber_34 rfl k
theorem t76_X11_newNumber_35 {E : En} {d : Nat} {κ : Kp} {I L : MI} {Z : Zt} {a0 b0 : Nat} {a1 a2 : Int}  (k : Ev E d M_X11_newNumber 36 [vr a0, vi a1, vi a2] [vi a2, vr b0] κ I L Z) : Ev E d M_X11_newNumber 35 [vr a0, vi a1, vi a2] [vr b0] κ I L Z := E_iload_n dX11_newNumber_35 rfl k
theorem t76_X11_newNumber_36 {E : En} {d : Nat} {κ : Kp} {I L : MI} {Z : Zt} {a0 b1 : Nat} {a1 a2 b0 : Int}  (k : Ev E d M_X11_newNumber 37 [vr a0, vi a1, vi a2] [vi a1, vi b0, vr b1] κ I L Z) : Ev E d M_X11_newNumber 36 [vr a0, vi a1, vi a2] [vi b0, vr b1] κ I L Z := E_iload_n dX11_newNumber_36 rfl k
theorem t76_X11_newNumber_37 {E : En} {d d' : Nat} {cs : Nat × Nat} {I L : MI} {Z : Zt} {a0 b2 : Nat} {a1 a2 b0 b1 : Int} {P : Prop} {I' L' : MI} (hs : G0.1[b2]? = some (.inl 11)) (hM : CB E d' M_X11_isNew [vr b2, vi b1, vi b0] I L P I' L') (hlt : d' + 1 ≤ d) (kt : P → Ev E d M_X11_newNumber 40 [vr a0, vi a1, vi a2] [vi 1] (G0, cs) I' L' Z) (kf : ¬ P → Ev E d M_X11_newNumber 40 [vr a0, vi a1, vi a2] [vi 0] (G0, cs) I' L' Z) (hc1 : cs.1 ≤ M_X11_newNumber.2.2.2.2.1 := by decide) (hc2 : cs.2 ≤ M_X11_newNumber.2.2.2.2.2 := by decide) : Ev E d M_X11_newNumber 37 [vr a0, vi a1, vi a2] [vi b0, vi b1, vr b2] (G0, cs) I L Z := E_callV (as := [vi b1, vi b0]) (rest := []) (n := 2) hM dX11_newNumber_37 wM_RX11_142 wS_X11_isNew wV_X11_isNew hs (by decide) rfl hlt wC_X11_isNew wI_X11 (by decide +kernel) rfl (by decide) (Nat.le_of_ble_eq_true rfl) hc1 hc2 rfl (fun r g' I2 L2 h => by obtain ⟨rfl, z, rfl, rfl, rfl, ⟨rfl, h⟩ | ⟨rfl, h⟩⟩ := h; exact kt h; exact kf h)
theorem t76_X11_newNumber_40 {E : En} {d : Nat} {κ : Kp} {I L : MI} {Z : Zt} {a0 : Nat} {a1 a2 b0 : Int} (hx : Ir b0) (kt : ¬ b0 = 0 → Ev E d M_X11_newNumber 48 [vr a0, vi a1, vi a2] [] κ I L Z) (kf : b0 = 0 → Ev E d M_X11_newNumber 43 [vr a0, vi a1, vi a2] [] κ I L Z) : Ev E d M_X11_newNumber 40 [vr a0, vi a1, vi a2] [vi b0] κ I L Z := E_if_ne dX11_newNumber_40 hx kt kf (by decide)
theorem t76_X11_newNumber_43 {E : En} {d : Nat} {κ : Kp} {I L : MI} {Z : Zt} {a0 : Nat} {a1 a2 : Int}  (k : Ev E d M_X11_newNumber 44 [vr a0, vi a1, vi a2] [vr a0] κ I L Z) : Ev E d M_X11_newNumber 43 [vr a0, vi a1, vi a2] [] κ I L Z := E_aload_n dX11_newNumber_43 rfl k
theorem t76_X11_newNumber_44 {E : En} {d : Nat} {κ : Kp} {I L : MI} {Z : Zt} {a0 b0 : Nat} {a1 a2 : Int}  (k : Ev E d M_X11_newNumber 45 [vr a0, vi a1, vi a2] [vi 2, vr b0] κ I L Z) : Ev E d M_X11_newNumber 44 [vr a0, vi a1, vi a2] [vr b0] κ I L Z := E_iconst (v := 2) dX11_newNumber_44 rfl k
theorem t76_X11_newNumber_45 {E : En} {d d' : Nat} {cs : Nat × Nat} {I L : MI} {Z : Zt} {a0 b1 : Nat} {a1 a2 b0 : Int} {I' L' : MI} (hs : G0.1[b1]? = some (.inl 11)) (hM : CFv E d' M_X11_bad [vr b1, vi b0] I L I' L') (hlt : d' + 1 ≤ d) (k : Ev E d M_X11_newNumber 48 [vr a0, vi a1, vi a2] [] (G0, cs) I' L' Z) (hc1 : cs.1 ≤ M_X11_newNumber.2.2.2.2.1 := by decide) (hc2 : cs.2 ≤ M_X11_newNumber.2.2.2.2.2 := by decide) : Ev E d M_X11_newNumber 45 [vr a0, vi a1, vi a2] [vi b0, vr b1] (G0, cs) I L Z := E_callV (as := [vi b0]) (rest := []) (n := 1) hM dX11_newNumber_45 wM_RX11_128 wS_X11_bad wV_X11_bad hs (by decide) rfl hlt wC_X11_bad wI_X11 (by decide +kernel) rfl (by decide) (Nat.le_of_ble_eq_true rfl) hc1 hc2 rfl (fun r g' I2 L2 h => by obtain ⟨rfl, rfl, rfl, rfl⟩ := h; exact k)
/-! THE REFERENCE READS: the draft -/
def TR2 (I D : MI) (t a : Nat) (b : Int) : Prop := I a (b + 0) = D t 0 ∧ I a (b + 1) = D t 1 ∧ I a (b + 2) = D t 2 ∧
  (∀ k, 0 ≤ k → k < D t 0 → I a (b + (3 + 3 * k)) = D (t + 1) k ∧ I a (b + (3 + 3 * k + 1)) = D (t + 2) k ∧ I a (b + (3 + 3 * k + 2)) = D (t + 3) k) ∧
  (∀ s, 0 ≤ s → s < 5 → (I a (b + (39 + 2 * s)) < 0 ∧ ∀ r, 0 ≤ r → r < D t 1 → D (t + 4) r ≠ s) ∨ (∃ r, 0 ≤ r ∧ r < D t 1 ∧ D (t + 4) r = s ∧ I a (b + (39 + 2 * s)) = D (t + 5) r ∧ I a (b + (39 + 2 * s + 1)) = D (t + 6) r)) ∧
  (∀ k, 0 ≤ k → k < D t 2 → I a (b + (49 + 2 * k)) = D (t + 7) k ∧ I a (b + (49 + 2 * k + 1)) = D (t + 8) k)
theorem TR2_l {I : MI} {t a : Nat} {b : Int} : TR2 I I t a b ↔ TRl I t a b := Iff.rfl
/-- the draft in array 83 -/
def DR (I D : MI) : Prop := WfT D 4 ∧ TR2 I D 4 83 0
theorem DR_f {I J D : MI} (h : DR I D) (f : ∀ k, J 83 k = I 83 k) : DR J D := by
  refine ⟨h.1, ?_⟩
  have h2 := h.2
  unfold TR2 at *
  simpa only [f] using h2
theorem DR_n {I D : MI} (h : DR I D) : I 83 0 = D 4 0 ∧ I 83 1 = D 4 1 ∧ I 83 2 = D 4 2 := by
  obtain ⟨-, h0, h1, h2, -⟩ := h
  rw [Int.zero_add] at h0 h1 h2
  exact ⟨h0, h1, h2⟩
theorem DR_t {I D : MI} (h : DR I D) {k : Int} (k0 : 0 ≤ k) (k1 : k < D 4 0) : I 83 (3 + 3 * k) = D (4 + 1) k ∧ I 83 (3 + 3 * k + 1) = D (4 + 2) k ∧ I 83 (3 + 3 * k + 2) = D (4 + 3) k := by
  have := h.2.2.2.2.1 k k0 k1
  rw [Int.zero_add, Int.zero_add, Int.zero_add] at this
  exact this
theorem DR_r {I D : MI} (h : DR I D) {s : Int} (s0 : 0 ≤ s) (s1 : s < 5) : (I 83 (39 + 2 * s) < 0 ∧ ∀ r, 0 ≤ r → r < D 4 1 → D (4 + 4) r ≠ s) ∨ (∃ r, 0 ≤ r ∧ r < D 4 1 ∧ D (4 + 4) r = s ∧ I 83 (39 + 2 * s) = D (4 + 5) r ∧ I 83 (39 + 2 * s + 1) = D (4 + 6) r) := by
  have := h.2.2.2.2.2.1 s s0 s1
  rw [Int.zero_add, Int.zero_add] at this
  exact this
theorem DR_p {I D : MI} (h : DR I D) {k : Int} (k0 : 0 ≤ k) (k1 : k < D 4 2) : I 83 (49 + 2 * k) = D (4 + 7) k ∧ I 83 (49 + 2 * k + 1) = D (4 + 8) k := by
  have := h.2.2.2.2.2.2 k k0 k1
  rw [Int.zero_add, Int.zero_add] at this
  exact this
theorem DR_mk {I D : MI} (hw : WfT D 4) (h0 : I 83 0 = D 4 0 ∧ I 83 1 = D 4 1 ∧ I 83 2 = D 4 2)
    (ht : ∀ k, 0 ≤ k → k < D 4 0 → I 83 (3 + 3 * k) = D (4 + 1) k ∧ I 83 (3 + 3 * k + 1) = D (4 + 2) k ∧ I 83 (3 + 3 * k + 2) = D (4 + 3) k)
    (hr : ∀ s, 0 ≤ s → s < 5 → (I 83 (39 + 2 * s) < 0 ∧ ∀ r, 0 ≤ r → r < D 4 1 → D (4 + 4) r ≠ s) ∨ (∃ r, 0 ≤ r ∧ r < D 4 1 ∧ D (4 + 4) r = s ∧ I 83 (39 + 2 * s) = D (4 + 5) r ∧ I 83 (39 + 2 * s + 1) = D (4 + 6) r))
    (hp : ∀ k, 0 ≤ k → k < D 4 2 → I 83 (49 + 2 * k) = D (4 + 7) k ∧ I 83 (49 + 2 * k + 1) = D (4 + 8) k) : DR I D := by
  refine ⟨hw, by rw [Int.zero_add]; exact h0.1, by rw [Int.zero_add]; exact h0.2.1, by rw [Int.zero_add]; exact h0.2.2, fun k k0 k1 => ?_, fun s s0 s1 => ?_, fun k k0 k1 => ?_⟩
  · rw [Int.zero_add, Int.zero_add, Int.zero_add]; exact ht k k0 k1
  · rw [Int.zero_add, Int.zero_add]; exact hr s s0 s1
  · rw [Int.zero_add, Int.zero_add]; exact hp k k0 k1
theorem DR_fo {I D : MI} (h : DR I D) {k : Int} (k0 : 0 ≤ k) (k1 : k < D 4 0) : fstI D 4 k = I 83 (3 + 3 * k) ∧ othI D 4 k = I 83 (3 + 3 * k + 1) := by
  have t := DR_t h k0 k1
  have n := h.1.1.1
  unfold fstI othI
  rw [if_pos k1, if_pos k1, atI_in (by omega), atI_in (by omega), t.1, t.2.1]
  exact ⟨rfl, rfl⟩
theorem c_X11_isNew {E : En} {I L D : MI} {v but : Int} (h : DR I D) (hv : 2 ≤ v ∧ v ≤ 199) (hb : Ir but) : CB E 1 M_X11_isNew [vr 78, vi v, vi but] I L (newP D v but) I L := by
  have g83 : G0.1[83]? = some (.inr (0, 65)) := rfl
  have n0 := (DR_n h).1
  have n12 := h.1.1.1
  refine CM_of' (al := [vr _, vi _, vi _, vu, vu]) rfl (Nat.le_of_ble_eq_true rfl) rfl (fun hM => ?_)
  have told : ∀ (f : Nat) (k b w : Int), k + f = D 4 0 → 0 ≤ k → ((b = 1 ∧ (v ≠ but ∧ prmP v) ∧ ∀ j, 0 ≤ j → j < k → ¬ (fstI D 4 j = v ∨ othI D 4 j = v)) ∨ (b = 0 ∧ ¬ ((v ≠ but ∧ prmP v) ∧ ∀ j, 0 ≤ j → j < k → ¬ (fstI D 4 j = v ∨ othI D 4 j = v)))) → Ev E 1 M_X11_isNew 46 [vr 78, vi v, vi but, vi b, vi k] [] (G0, 0, 0) I L (ZQ E M_X11_isNew (QB (newP D v but) I L)) := by
    intro f
    induction f with
    | zero =>
      intro k b w h1 h2 hbb
      have : k = D 4 0 := by omega
      subst this
      have en : newP D v but ↔ ((v ≠ but ∧ prmP v) ∧ ∀ j, 0 ≤ j → j < D 4 0 → ¬ (fstI D 4 j = v ∨ othI D 4 j = v)) := ⟨fun q => ⟨⟨q.1, q.2.1⟩, fun j j0 j1 z => q.2.2 ⟨j, j0, j1, z⟩⟩, fun q => ⟨q.1.1, q.1.2, fun ⟨j, j0, j1, z⟩ => q.2 j j0 j1 z⟩⟩
      rw [propext en]
      rcases hbb with ⟨rfl, q⟩ | ⟨rfl, q⟩
      · refine (t76_X11_isNew_46 (t76_X11_isNew_48 (t76_X11_isNew_49 (by first | assumption | rfl) (by first | assumption | rfl) (t76_X11_isNew_52 (t76_X11_isNew_53 (by first | assumption | rfl) (by omega) (by omega) (by omega) (fun r53 => (t76_X11_isNew_54 (by omega) (by omega) (fun c54 => (t76_X11_isNew_105 (t76_X11_isNew_106 (by first | exact Or.inl rfl | exact Or.inr rfl | assumption | omega) ?_))) (fun c54 => ?_))))))))
        -- 2 leaves: 54t :ret106 | 54f :->57
        · exact qb1 q
        · omega
      · refine (t76_X11_isNew_46 (t76_X11_isNew_48 (t76_X11_isNew_49 (by first | assumption | rfl) (by first | assumption | rfl) (t76_X11_isNew_52 (t76_X11_isNew_53 (by first | assumption | rfl) (by omega) (by omega) (by omega) (fun r53 => (t76_X11_isNew_54 (by omega) (by omega) (fun c54 => (t76_X11_isNew_105 (t76_X11_isNew_106 (by first | exact Or.inl rfl | exact Or.inr rfl | assumption | omega) ?_))) (fun c54 => ?_))))))))
        -- 2 leaves: 54t :ret106 | 54f :->57
        · exact qb0 q
        · omega
    | succ f ih =>
      intro k b w h1 h2 hbb
      have fo := DR_fo h h2 (by omega)
      have nx : ((v ≠ but ∧ prmP v) ∧ ∀ j, 0 ≤ j → j < k + 1 → ¬ (fstI D 4 j = v ∨ othI D 4 j = v)) ↔ (((v ≠ but ∧ prmP v) ∧ ∀ j, 0 ≤ j → j < k → ¬ (fstI D 4 j = v ∨ othI D 4 j = v)) ∧ ¬ (I 83 (3 + 3 * k) = v ∨ I 83 (3 + 3 * k + 1) = v)) := by
        rw [← fo.1, ← fo.2]
        refine ⟨fun q => ⟨⟨q.1, fun j j0 j1 => q.2 j j0 (by omega)⟩, q.2 k h2 (by omega)⟩, fun q => ⟨q.1.1, fun j j0 j1 => ?_⟩⟩
        by_cases e : j = k
        · subst e; exact q.2
        · exact q.1.2 j j0 (by omega)
      have go : ∀ z : Int, ((z = 1 ∧ b = 1 ∧ ¬ (I 83 (3 + 3 * k) = v ∨ I 83 (3 + 3 * k + 1) = v)) ∨ (z = 0 ∧ (b = 0 ∨ (I 83 (3 + 3 * k) = v ∨ I 83 (3 + 3 * k + 1) = v)))) → Ev E 1 M_X11_isNew 46 [vr 78, vi v, vi but, vi z, vi (k + 1)] [] (G0, 0, 0) I L (ZQ E M_X11_isNew (QB (newP D v but) I L)) := fun z hz => by
        refine ih (k + 1) z 0 (by omega) (by omega) ?_
        rw [propext nx]
        rcases hz with ⟨rfl, b1, q⟩ | ⟨rfl, q⟩
        · rcases hbb with ⟨-, p⟩ | ⟨b0, -⟩
          · exact .inl ⟨rfl, p, q⟩
          · omega
        · refine .inr ⟨rfl, fun p => ?_⟩
          rcases q with q | q
          · rcases hbb with ⟨b1, -⟩ | ⟨-, p2⟩
            · omega
            · exact p2 p.1
          · exact p.2 q
      have bb : b = 0 ∨ b = 1 := by rcases hbb with q | q; exact .inr q.1; exact .inl q.1
      refine (t76_X11_isNew_46 (t76_X11_isNew_48 (t76_X11_isNew_49 (by first | assumption | rfl) (by first | assumption | rfl) (t76_X11_isNew_52 (t76_X11_isNew_53 (by first | assumption | rfl) (by omega) (by omega) (by omega) (fun r53 => (t76_X11_isNew_54 (by omega) (by omega) (fun c54 => (t76_X11_isNew_105 (t76_X11_isNew_106 (by first | exact Or.inl rfl | exact Or.inr rfl | assumption | omega) ?_))) (fun c54 => (t76_X11_isNew_57 (t76_X11_isNew_58 (by omega) (fun c58 => (t76_X11_isNew_97 (t76_X11_isNew_98 (t76_X11_isNew_99 (t76_X11_isNew_102 ?_))))) (fun c58 => (t76_X11_isNew_61 (t76_X11_isNew_62 (by first | assumption | rfl) (by first | assumption | rfl) (t76_X11_isNew_65 (t76_X11_isNew_66 (t76_X11_isNew_67 (t76_X11_isNew_69 (t76_X11_isNew_70 (t76_X11_isNew_71 (by first | assumption | rfl) (by omega) (by omega) (by omega) (fun r71 => (t76_X11_isNew_72 (t76_X11_isNew_73 (by omega) (by omega) (fun c73 => (t76_X11_isNew_97 (t76_X11_isNew_98 (t76_X11_isNew_99 (t76_X11_isNew_102 ?_))))) (fun c73 => (t76_X11_isNew_76 (t76_X11_isNew_77 (by first | assumption | rfl) (by first | assumption | rfl) (t76_X11_isNew_80 (t76_X11_isNew_81 (t76_X11_isNew_82 (t76_X11_isNew_84 (t76_X11_isNew_85 (t76_X11_isNew_86 (t76_X11_isNew_87 (t76_X11_isNew_88 (by first | assumption | rfl) (by omega) (by omega) (by omega) (fun r88 => (t76_X11_isNew_89 (t76_X11_isNew_90 (by omega) (by omega) (fun c90 => (t76_X11_isNew_97 (t76_X11_isNew_98 (t76_X11_isNew_99 (t76_X11_isNew_102 ?_))))) (fun c90 => (t76_X11_isNew_93 (t76_X11_isNew_94 (t76_X11_isNew_98 (t76_X11_isNew_99 (t76_X11_isNew_102 ?_))))))))))))))))))))))))))))))))))))))))))
      -- 5 leaves: 54t :ret106 | 54f 58t :->46 | 54f 58f 73t :->46 | 54f 58f 73f 90t :->46 | 54f 58f 73f 90f :->46
      · omega
      · exact go 0 (.inr ⟨rfl, .inl (by omega)⟩)
      · exact go 0 (.inr ⟨rfl, .inr (.inl (by omega))⟩)
      · exact go 0 (.inr ⟨rfl, .inr (.inr (by omega))⟩)
      · exact go 1 (.inl ⟨rfl, by omega, by omega⟩)
  have divs : ∀ (f : Nat) (k b : Int), k + f = v → 2 ≤ k → ((b = 1 ∧ v ≠ but ∧ ∀ d, 2 ≤ d → d < k → v.tmod d ≠ 0) ∨ (b = 0 ∧ ¬ (v ≠ but ∧ ∀ d, 2 ≤ d → d < k → v.tmod d ≠ 0))) → Ev E 1 M_X11_isNew 14 [vr 78, vi v, vi but, vi b, vi k] [] (G0, 0, 0) I L (ZQ E M_X11_isNew (QB (newP D v but) I L)) := by
    intro f
    induction f with
    | zero =>
      intro k b h1 h2 hbb
      have : k = v := by omega
      subst this
      have en : (k ≠ but ∧ prmP k) ↔ (k ≠ but ∧ ∀ d, 2 ≤ d → d < k → k.tmod d ≠ 0) := ⟨fun q => ⟨q.1, q.2.2⟩, fun q => ⟨q.1, by omega, q.2⟩⟩
      have bb : b = 0 ∨ b = 1 := by rcases hbb with q | q; exact .inr q.1; exact .inl q.1
      refine (t76_X11_isNew_14 (t76_X11_isNew_16 (t76_X11_isNew_17 (by omega) (by omega) (fun c17 => (t76_X11_isNew_43 (t76_X11_isNew_44 ?_))) (fun c17 => ?_))))
      -- 2 leaves: 17t :->46 | 17f :->20
      · refine told (D 4 0).toNat 0 b 0 (by omega) (by omega) ?_
        rw [propext en]
        rcases hbb with ⟨rfl, q⟩ | ⟨rfl, q⟩
        · exact .inl ⟨rfl, q, fun j j0 j1 => by omega⟩
        · exact .inr ⟨rfl, fun z => q z.1⟩
      · omega
    | succ f ih =>
      intro k b h1 h2 hbb
      have tm := tmod_r (a := v) (b := k) (by omega) (by omega)
      have nx : (v ≠ but ∧ ∀ d, 2 ≤ d → d < k + 1 → v.tmod d ≠ 0) ↔ ((v ≠ but ∧ ∀ d, 2 ≤ d → d < k → v.tmod d ≠ 0) ∧ v.tmod k ≠ 0) := by
        refine ⟨fun q => ⟨⟨q.1, fun d d0 d1 => q.2 d d0 (by omega)⟩, q.2 k h2 (by omega)⟩, fun q => ⟨q.1.1, fun d d0 d1 => ?_⟩⟩
        by_cases e : d = k
        · subst e; exact q.2
        · exact q.1.2 d d0 (by omega)
      have bb : b = 0 ∨ b = 1 := by rcases hbb with q | q; exact .inr q.1; exact .inl q.1
      have go : ∀ z : Int, ((z = 1 ∧ b = 1 ∧ v.tmod k ≠ 0) ∨ (z = 0 ∧ (b = 0 ∨ v.tmod k = 0))) → Ev E 1 M_X11_isNew 14 [vr 78, vi v, vi but, vi z, vi (k + 1)] [] (G0, 0, 0) I L (ZQ E M_X11_isNew (QB (newP D v but) I L)) := fun z hz => by
        refine ih (k + 1) z (by omega) (by omega) ?_
        rw [propext nx]
        rcases hz with ⟨rfl, b1, q⟩ | ⟨rfl, q⟩
        · rcases hbb with ⟨-, p⟩ | ⟨b0, -⟩
          · exact .inl ⟨rfl, p, q⟩
          · omega
        · refine .inr ⟨rfl, fun p => ?_⟩
          rcases q with q | q
          · rcases hbb with ⟨b1, -⟩ | ⟨-, p2⟩
            · omega
            · exact p2 p.1
          · exact p.2 q
      refine (t76_X11_isNew_14 (t76_X11_isNew_16 (t76_X11_isNew_17 (by omega) (by omega) (fun c17 => ?_) (fun c17 => (t76_X11_isNew_20 (t76_X11_isNew_21 (by omega) (fun c21 => (t76_X11_isNew_35 (t76_X11_isNew_36 (t76_X11_isNew_37 (t76_X11_isNew_40 ?_))))) (fun c21 => (t76_X11_isNew_24 (t76_X11_isNew_25 (t76_X11_isNew_27 (by omega) (by omega) (by omega) (by omega) (t76_X11_isNew_28 (by omega) (fun c28 => (t76_X11_isNew_35 (t76_X11_isNew_36 (t76_X11_isNew_37 (t76_X11_isNew_40 ?_))))) (fun c28 => (t76_X11_isNew_31 (t76_X11_isNew_32 (t76_X11_isNew_36 (t76_X11_isNew_37 (t76_X11_isNew_40 ?_)))))))))))))))))
      -- 4 leaves: 17t :->43 | 17f 21t :->14 | 17f 21f 28t :->14 | 17f 21f 28f :->14
      · omega
      · exact go 0 (.inr ⟨rfl, .inl (by omega)⟩)
      · exact go 0 (.inr ⟨rfl, .inr (by omega)⟩)
      · exact go 1 (.inl ⟨rfl, by omega, by omega⟩)
  refine (t76_X11_isNew_0 (t76_X11_isNew_1 (t76_X11_isNew_2 (by omega) (by omega) (fun c2 => (t76_X11_isNew_9 (t76_X11_isNew_10 (t76_X11_isNew_11 (t76_X11_isNew_12 ?_))))) (fun c2 => (t76_X11_isNew_5 (t76_X11_isNew_6 (t76_X11_isNew_10 (t76_X11_isNew_11 (t76_X11_isNew_12 ?_)))))))))
  -- 2 leaves: 2t :->14 | 2f :->14
  · exact divs (v - 2).toNat 2 0 (by omega) (by omega) (.inr ⟨rfl, fun q => q.1 c2⟩)
  · exact divs (v - 2).toNat 2 1 (by omega) (by omega) (.inl ⟨rfl, c2, fun d d0 d1 => by omega⟩)
theorem c_X11_newNumber {E : En} {I L D : MI} {B : Int → Int} {n but : Int} {s : PR} (hB : BOK B) (h : RR I B n s) (hd : DR I D) (hb : Ir but) : CQi E 6 M_X11_newNumber [vr 78, vi but] I L (rNmQ I L B n (numR B s 2 199 (newN D s but)) (pv s)) := by
  have tk := RR_tk hB h
  have ri := RR_RI hB h
  have h17 := h.2.2.1
  have pv2 := ri.2.2.1
  have same : (pf s = 0 → pk s = 3 → ¬ (pv s < 2 ∨ 199 < pv s) → newP D (pv s) but) → numR B s 2 199 (newN D s but) = numR B s 2 199 true := fun hs => by
    by_cases h0 : pf s = 0
    · by_cases h3 : pk s = 3
      · by_cases hv : pv s < 2 ∨ 199 < pv s
        · rw [numR_b h0 h3 (by omega), numR_b h0 h3 (by omega)]
        · unfold newN
          rw [bP_t (hs h0 h3 hv)]
      · rw [numR_k h0 h3, numR_k h0 h3]
    · rw [numR_x h0, numR_x h0]
  have fe : pk s = 3 → figV s = pv s := fun q => if_pos q
  have fb : Ir (figV s) := by unfold figV; split <;> omega
  refine CM_of' (al := [vr _, vi _, vu]) rfl (Nat.le_of_ble_eq_true rfl) rfl (fun hM => ?_)
  have fin : (pf s = 0 → pk s = 3 → ¬ (pv s < 2 ∨ 199 < pv s) → newP D (pv s) but) → ∀ w : Int, Ev E 6 M_X11_newNumber 48 [vr 78, vi but, vi w] [] (G0, 0, 0) I L (ZQ E M_X11_newNumber (QQi (rNmQ I L B n (numR B s 2 199 (newN D s but)) (pv s)))) := fun hs w => by
    rw [same hs]
    refine (t76_X11_newNumber_48 (t76_X11_newNumber_49 (t76_X11_newNumber_50 (t76_X11_newNumber_53 (by first | assumption | rfl) ((c_X11_number (s := s) hB h (by omega) (by omega))) (by first | decide | omega) (fun z53 I53 L53 q53 => ?_)))))
    -- 1 leaves: :call53
    refine (t76_X11_newNumber_56 ?_)
    -- 1 leaves: :ret56
    exact qqi q53
  refine (t76_X11_newNumber_0 (t76_X11_newNumber_1 (by first | assumption | rfl) ((c_X11_figures hB h)) (by first | decide | omega) (fun r1 => (t76_X11_newNumber_4 (t76_X11_newNumber_5 (t76_X11_newNumber_6 (by first | assumption | rfl) (fun r6 => (t76_X11_newNumber_9 (by omega) (fun c9 => ?_) (fun c9 => (t76_X11_newNumber_12 (t76_X11_newNumber_13 (by first | assumption | rfl) (fun r13 => (t76_X11_newNumber_16 (t76_X11_newNumber_17 (by omega) (by omega) (fun c17 => ?_) (fun c17 => (t76_X11_newNumber_20 (t76_X11_newNumber_21 (by omega) (t76_X11_newNumber_22 (t76_X11_newNumber_25 (t76_X11_newNumber_28 c_X11_in (by first | decide | omega) (fun c28 => (t76_X11_newNumber_31 (by decide) (fun h => absurd h (by decide)) (fun _ => (t76_X11_newNumber_34 (t76_X11_newNumber_35 (t76_X11_newNumber_36 (t76_X11_newNumber_37 (by first | assumption | rfl) ((c_X11_isNew (v := figV s) hd (by omega) hb)) (by first | decide | omega) (fun c37 => (t76_X11_newNumber_40 (by decide) (fun _ => ?_) (fun h => absurd h (by decide)))) (fun c37 => (t76_X11_newNumber_40 (by decide) (fun h => absurd rfl h) (fun _ => (t76_X11_newNumber_43 (t76_X11_newNumber_44 (t76_X11_newNumber_45 (by first | assumption | rfl) c_X11_bad (by first | decide | omega) ?_))))))))))))) (fun c28 => (t76_X11_newNumber_31 (by decide) (fun _ => ?_) (fun h => absurd rfl h)))))))))))))))))))))))
  -- 5 leaves: 9t :->48 | 9f 17t :->48 | 9f 17f 28T 37T :->48 | 9f 17f 28T 37F :->48 | 9f 17f 28F :->48
  · exact fin (fun z => absurd (h17.trans z) c9) _
  · exact fin (fun _ z => absurd (tk.2.2.1.mpr z) c17) _
  · have k3 := tk.2.2.1.mp c17
    rw [fe k3] at c37
    exact fin (fun _ _ _ => c37) _
  · have k3 := tk.2.2.1.mp c17
    rw [fe k3] at c37 c28 ⊢
    have h0 : pf s = 0 := by omega
    have hbd := RR_bad h (c := 2) (by decide)
    have eb : badR s 2 = failR s 2 := if_pos h0
    rw [eb] at hbd
    have e1 : numR B s 2 199 (newN D s but) = failR s 2 := numR_b h0 k3 (by unfold newN; rw [bP_f c37]; exact .inr (.inr rfl))
    have e2 : numR B (failR s 2) 2 199 true = failR s 2 := numR_x (by show (2 : Int) ≠ 0; decide)
    have cn := c_X11_number (E := E) (L := L) (lo := 2) (hi := 199) hB hbd (by omega) (by omega)
    rw [e2] at cn
    rw [e1]
    refine (t76_X11_newNumber_48 (t76_X11_newNumber_49 (t76_X11_newNumber_50 (t76_X11_newNumber_53 (by first | assumption | rfl) (cn) (by first | decide | omega) (fun z53 I53 L53 q53 => ?_)))))
    -- 1 leaves: :call53
    obtain ⟨⟨rfl, f1, r1⟩, -, z1, z2⟩ := q53
    refine (t76_X11_newNumber_56 ?_)
    -- 1 leaves: :ret56
    exact qqi ⟨⟨rfl, RFs_t rbd_f f1, r1⟩, fun z => absurd z (by show (2 : Int) ≠ 0; decide), z1, z2⟩
  · exact fin (fun _ z q => by rw [fe z] at c28; omega) _
