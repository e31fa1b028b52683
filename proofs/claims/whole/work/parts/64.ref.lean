theorem t64_X11_image_63 {E : En} {d : Nat} {κ : Kp} {I L : MI} {Z : Zt} {a0 : Nat} {a1 a2 : Int}  (k : Ev E d M_X11_image 64 [vr a0, vi a1, vi a2] [vi a2] κ I L Z) : Ev E d M_X11_image 63 [vr a0, vi a1, vi a2] [] κ I L Z := E_iload_n dX11_image_63 rfl k
theorem t64_X11_image_64 {E : En} {d : Nat} {κ : Kp} {I L : MI} {Z : Zt} {a0 : Nat} {a1 a2 b0 : Int}  (k : Ev E d M_X11_image 66 [vr a0, vi a1, vi a2] [vi 8, vi b0] κ I L Z) : Ev E d M_X11_image 64 [vr a0, vi a1, vi a2] [vi b0] κ I L Z := E_bipush (v := 8) dX11_image_64 rfl k
theorem t64_X11_image_66 {E : En} {d : Nat} {κ : Kp} {I L : MI} {Z : Zt} {a0 : Nat} {a1 a2 b0 b1 : Int} (hx : Ir b1) (hy : Ir b0) (kt : b0 ≤ b1 → Ev E d M_X11_image 92 [vr a0, vi a1, vi a2] [] κ I L Z) (kf : b1 < b0 → Ev E d M_X11_image 69 [vr a0, vi a1, vi a2] [] κ I L Z) : Ev E d M_X11_image 66 [vr a0, vi a1, vi a2] [vi b0, vi b1] κ I L Z := E_icmp_ge dX11_image_66 hx hy kt kf (by decide)
theorem t64_X11_image_92 {E : En} {d : Nat} {κ : Kp} {I L : MI} {Z : Zt} {a0 : Nat} {a1 a2 : Int}  (k : Ev E d M_X11_image 93 [vr a0, vi a1, vi a2] [vr a0] κ I L Z) : Ev E d M_X11_image 92 [vr a0, vi a1, vi a2] [] κ I L Z := E_aload_n dX11_image_92 rfl k
theorem t64_X11_image_93 {E : En} {d : Nat} {κ : Kp} {I L : MI} {Z : Zt} {a0 b0 : Nat} {a1 a2 : Int} {q : Nat} (hs : κ.1.1[b0]? = some (.inl 11)) (hq : κ.1.2 b0 25 = some q) (k : Ev E d M_X11_image 96 [vr a0, vi a1, vi a2] [vr q] κ I L Z) : Ev E d M_X11_image 93 [vr a0, vi a1, vi a2] [vr b0] κ I L Z := E_getR (ci := 11) (n := 25) dX11_image_93 wF_RX11_44 (by decide) hs rfl hq k
theorem t64_X11_image_96 {E : En} {d : Nat} {κ : Kp} {I L : MI} {Z : Zt} {a0 b0 : Nat} {a1 a2 : Int}  (k : Ev E d M_X11_image 97 [vr a0, vi a1, vi a2] [vi a1, vr b0] κ I L Z) : Ev E d M_X11_image 96 [vr a0, vi a1, vi a2] [vr b0] κ I L Z := E_iload_n dX11_image_96 rfl k
theorem t64_X11_image_97 {E : En} {d : Nat} {κ : Kp} {I L : MI} {Z : Zt} {a0 b1 : Nat} {a1 a2 b0 : Int}  (k : Ev E d M_X11_image 98 [vr a0, vi a1, vi a2] [vi 1, vi b0, vr b1] κ I L Z) : Ev E d M_X11_image 97 [vr a0, vi a1, vi a2] [vi b0, vr b1] κ I L Z := E_iconst (v := 1) dX11_image_97 rfl k
theorem t64_X11_image_98 {E : En} {d : Nat} {κ : Kp} {I L : MI} {Z : Zt} {a0 b2 : Nat} {a1 a2 b0 b1 : Int} {n : Nat} {y : Int} (ha : κ.1.1[b2]? = some (.inr (2, n))) (h0 : 0 ≤ b1) (h1 : b1 < n) (hi : Ir b1) (hy0 : Ir y) (hy : narrow .boolean (.int (Int32.ofInt b0)) = .int (Int32.ofInt y)) (k : Ev E d M_X11_image 99 [vr a0, vi a1, vi a2] [] κ (up2 I b2 b1 y) L Z) : Ev E d M_X11_image 98 [vr a0, vi a1, vi a2] [vi b0, vi b1, vr b2] κ I L Z := E_zast dX11_image_98 ha h0 h1 hi hy0 hy k
theorem t64_X11_image_99 {E : En} {d : Nat} {κ : Kp} {I L : MI} {Z : Zt} {a0 : Nat} {a1 a2 : Int}  (k : Ev E d M_X11_image 100 [vr a0, vi a1, vi a2] [vl 1] κ I L Z) : Ev E d M_X11_image 99 [vr a0, vi a1, vi a2] [] κ I L Z := E_lconst (v := 1) dX11_image_99 rfl k
theorem t64_X11_image_100 {E : En} {d : Nat} {g : Geo} {I L : MI} {Q : Option AV → Geo → MI → MI → Prop} {cs : Nat × Nat} {a0 : Nat} {a1 a2 b0 : Int} (hq : Q (some (vl b0)) g I L) (h1 : cs.1 ≤ M_X11_image.2.2.2.2.1 := by decide) (h2 : cs.2 ≤ M_X11_image.2.2.2.2.2 := by decide) : Ev E d M_X11_image 100 [vr a0, vi a1, vi a2] [vl b0] (g, cs) I L (ZQ E M_X11_image Q) := E_lreturn rfl dX11_image_100 hq h1 h2
theorem t64_X11_image_69 {E : En} {d : Nat} {κ : Kp} {I L : MI} {Z : Zt} {a0 : Nat} {a1 a2 : Int}  (k : Ev E d M_X11_image 70 [vr a0, vi a1, vi a2] [vr a0] κ I L Z) : Ev E d M_X11_image 69 [vr a0, vi a1, vi a2] [] κ I L Z := E_aload_n dX11_image_69 rfl k
theorem t64_X11_image_70 {E : En} {d : Nat} {κ : Kp} {I L : MI} {Z : Zt} {a0 b0 : Nat} {a1 a2 : Int} {q : Nat} (hs : κ.1.1[b0]? = some (.inl 11)) (hq : κ.1.2 b0 27 = some q) (k : Ev E d M_X11_image 73 [vr a0, vi a1, vi a2] [vr q] κ I L Z) : Ev E d M_X11_image 70 [vr a0, vi a1, vi a2] [vr b0] κ I L Z := E_getR (ci := 11) (n := 27) dX11_image_70 wF_RX11_51 (by decide) hs rfl hq k
theorem t64_X11_image_73 {E : En} {d : Nat} {κ : Kp} {I L : MI} {Z : Zt} {a0 b0 : Nat} {a1 a2 : Int}  (k : Ev E d M_X11_image 75 [vr a0, vi a1, vi a2] [vi 8, vr b0] κ I L Z) : Ev E d M_X11_image 73 [vr a0, vi a1, vi a2] [vr b0] κ I L Z := E_bipush (v := 8) dX11_image_73 rfl k
theorem t64_X11_image_75 {E : En} {d : Nat} {κ : Kp} {I L : MI} {Z : Zt} {a0 b1 : Nat} {a1 a2 b0 : Int}  (k : Ev E d M_X11_image 76 [vr a0, vi a1, vi a2] [vi a1, vi b0, vr b1] κ I L Z) : Ev E d M_X11_image 75 [vr a0, vi a1, vi a2] [vi b0, vr b1] κ I L Z := E_iload_n dX11_image_75 rfl k
theorem t64_X11_image_76 {E : En} {d : Nat} {κ : Kp} {I L : MI} {Z : Zt} {a0 b2 : Nat} {a1 a2 b0 b1 : Int}  (k : Ev E d M_X11_image 77 [vr a0, vi a1, vi a2] [vi (b1 * b0), vr b2] κ I L Z) : Ev E d M_X11_image 76 [vr a0, vi a1, vi a2] [vi b0, vi b1, vr b2] κ I L Z := E_imul dX11_image_76 k
theorem t64_X11_image_77 {E : En} {d : Nat} {κ : Kp} {I L : MI} {Z : Zt} {a0 b1 : Nat} {a1 a2 b0 : Int}  (k : Ev E d M_X11_image 78 [vr a0, vi a1, vi a2] [vi a2, vi b0, vr b1] κ I L Z) : Ev E d M_X11_image 77 [vr a0, vi a1, vi a2] [vi b0, vr b1] κ I L Z := E_iload_n dX11_image_77 rfl k
theorem t64_X11_image_78 {E : En} {d : Nat} {κ : Kp} {I L : MI} {Z : Zt} {a0 b2 : Nat} {a1 a2 b0 b1 : Int}  (k : Ev E d M_X11_image 79 [vr a0, vi a1, vi a2] [vi (b1 + b0), vr b2] κ I L Z) : Ev E d M_X11_image 78 [vr a0, vi a1, vi a2] [vi b0, vi b1, vr b2] κ I L Z := E_iadd dX11_image_78 k
theorem t64_X11_image_79 {E : En} {d : Nat} {κ : Kp} {I L : MI} {Z : Zt} {a0 b1 : Nat} {a1 a2 b0 : Int}  (k : Ev E d M_X11_image 80 [vr a0, vi a1, vi a2] [vr a0, vi b0, vr b1] κ I L Z) : Ev E d M_X11_image 79 [vr a0, vi a1, vi a2] [vi b0, vr b1] κ I L Z := E_aload_n dX11_image_79 rfl k
theorem t64_X11_image_80 {E : En} {d : Nat} {κ : Kp} {I L : MI} {Z : Zt} {a0 b0 b2 : Nat} {a1 a2 b1 : Int} {q : Nat} (hs : κ.1.1[b0]? = some (.inl 11)) (hq : κ.1.2 b0 8 = some q) (k : Ev E d M_X11_image 83 [vr a0, vi a1, vi a2] [vr q, vi b1, vr b2] κ I L Z) : Ev E d M_X11_image 80 [vr a0, vi a1, vi a2] [vr b0, vi b1, vr b2] κ I L Z := E_getR (ci := 11) (n := 8) dX11_image_80 wF_RX11_25 (by decide) hs rfl hq k
theorem t64_X11_image_83 {E : En} {d : Nat} {κ : Kp} {I L : MI} {Z : Zt} {a0 b0 b2 : Nat} {a1 a2 b1 : Int}  (k : Ev E d M_X11_image 84 [vr a0, vi a1, vi a2] [vi a2, vr b0, vi b1, vr b2] κ I L Z) : Ev E d M_X11_image 83 [vr a0, vi a1, vi a2] [vr b0, vi b1, vr b2] κ I L Z := E_iload_n dX11_image_83 rfl k
theorem t64_X11_image_84 {E : En} {d : Nat} {κ : Kp} {I L : MI} {Z : Zt} {a0 b1 b3 : Nat} {a1 a2 b0 b2 : Int} {n : Nat} (hs : κ.1.1[b1]? = some (.inr (3, n))) (h0 : 0 ≤ b0) (h1 : b0 < n) (hi : Ir b0) (k : Jr (L b1 b0) → Ev E d M_X11_image 85 [vr a0, vi a1, vi a2] [vl (L b1 b0), vi b2, vr b3] κ I L Z) : Ev E d M_X11_image 84 [vr a0, vi a1, vi a2] [vi b0, vr b1, vi b2, vr b3] κ I L Z := E_laldI dX11_image_84 hs h0 h1 hi k
theorem t64_X11_image_85 {E : En} {d : Nat} {κ : Kp} {I L : MI} {Z : Zt} {a0 b2 : Nat} {a1 a2 b0 b1 : Int} {n : Nat} (ha : κ.1.1[b2]? = some (.inr (3, n))) (h0 : 0 ≤ b1) (h1 : b1 < n) (hi : Ir b1) (hz : Jr b0) (k : Ev E d M_X11_image 86 [vr a0, vi a1, vi a2] [] κ I (up2 L b2 b1 b0) Z) : Ev E d M_X11_image 85 [vr a0, vi a1, vi a2] [vl b0, vi b1, vr b2] κ I L Z := E_last dX11_image_85 ha h0 h1 hi hz k
theorem t64_X11_image_86 {E : En} {d : Nat} {κ : Kp} {I L : MI} {Z : Zt} {a0 : Nat} {a1 a2 : Int}  (k : Ev E d M_X11_image 89 [vr a0, vi a1, vi (a2 + 1)] [] κ I L Z) : Ev E d M_X11_image 86 [vr a0, vi a1, vi a2] [] κ I L Z := E_iinc dX11_image_86 rfl rfl (Nat.le_of_ble_eq_true rfl) k
theorem t64_X11_image_89 {E : En} {d : Nat} {κ : Kp} {I L : MI} {Z : Zt} {a0 : Nat} {a1 a2 : Int}  (k : Ev E d M_X11_image 63 [vr a0, vi a1, vi a2] [] κ I L Z) : Ev E d M_X11_image 89 [vr a0, vi a1, vi a2] [] κ I L Z := E_goto dX11_image_89 (by decide) k
theorem t64_X11_image_32 {E : En} {d : Nat} {κ : Kp} {I L : MI} {Z : Zt} {a0 : Nat} {a1 a2 : Int}  (k : Ev E d M_X11_image 33 [vr a0, vi a1, vi a2] [vi a2] κ I L Z) : Ev E d M_X11_image 32 [vr a0, vi a1, vi a2] [] κ I L Z := E_iload_n dX11_image_32 rfl k
theorem t64_X11_image_33 {E : En} {d : Nat} {κ : Kp} {I L : MI} {Z : Zt} {a0 : Nat} {a1 a2 b0 : Int}  (k : Ev E d M_X11_image 35 [vr a0, vi a1, vi a2] [vi 65, vi b0] κ I L Z) : Ev E d M_X11_image 33 [vr a0, vi a1, vi a2] [vi b0] κ I L Z := E_bipush (v := 65) dX11_image_33 rfl k
theorem t64_X11_image_35 {E : En} {d : Nat} {κ : Kp} {I L : MI} {Z : Zt} {a0 : Nat} {a1 a2 b0 b1 : Int} (hx : Ir b1) (hy : Ir b0) (kt : b0 ≤ b1 → Ev E d M_X11_image 61 [vr a0, vi a1, vi a2] [] κ I L Z) (kf : b1 < b0 → Ev E d M_X11_image 38 [vr a0, vi a1, vi a2] [] κ I L Z) : Ev E d M_X11_image 35 [vr a0, vi a1, vi a2] [vi b0, vi b1] κ I L Z := E_icmp_ge dX11_image_35 hx hy kt kf (by decide)
theorem t64_X11_image_61 {E : En} {d : Nat} {κ : Kp} {I L : MI} {Z : Zt} {a0 : Nat} {a1 a2 : Int}  (k : Ev E d M_X11_image 62 [vr a0, vi a1, vi a2] [vi 0] κ I L Z) : Ev E d M_X11_image 61 [vr a0, vi a1, vi a2] [] κ I L Z := E_iconst (v := 0) dX11_image_61 rfl k
theorem t64_X11_image_62 {E : En} {d : Nat} {κ : Kp} {I L : MI} {Z : Zt} {a0 : Nat} {a1 a2 b0 : Int}  (k : Ev E d M_X11_image 63 [vr a0, vi a1, vi b0] [] κ I L Z) : Ev E d M_X11_image 62 [vr a0, vi a1, vi a2] [vi b0] κ I L Z := E_istore_n dX11_image_62 rfl (Nat.le_of_ble_eq_true rfl) k
theorem t64_X11_image_38 {E : En} {d : Nat} {κ : Kp} {I L : MI} {Z : Zt} {a0 : Nat} {a1 a2 : Int}  (k : Ev E d M_X11_image 39 [vr a0, vi a1, vi a2] [vr a0] κ I L Z) : Ev E d M_X11_image 38 [vr a0, vi a1, vi a2] [] κ I L Z := E_aload_n dX11_image_38 rfl k
theorem t64_X11_image_39 {E : En} {d : Nat} {κ : Kp} {I L : MI} {Z : Zt} {a0 b0 : Nat} {a1 a2 : Int} {q : Nat} (hs : κ.1.1[b0]? = some (.inl 11)) (hq : κ.1.2 b0 26 = some q) (k : Ev E d M_X11_image 42 [vr a0, vi a1, vi a2] [vr q] κ I L Z) : Ev E d M_X11_image 39 [vr a0, vi a1, vi a2] [vr b0] κ I L Z := E_getR (ci := 11) (n := 26) dX11_image_39 wF_RX11_48 (by decide) hs rfl hq k
theorem t64_X11_image_42 {E : En} {d : Nat} {κ : Kp} {I L : MI} {Z : Zt} {a0 b0 : Nat} {a1 a2 : Int}  (k : Ev E d M_X11_image 44 [vr a0, vi a1, vi a2] [vi 65, vr b0] κ I L Z) : Ev E d M_X11_image 42 [vr a0, vi a1, vi a2] [vr b0] κ I L Z := E_bipush (v := 65) dX11_image_42 rfl k
theorem t64_X11_image_44 {E : En} {d : Nat} {κ : Kp} {I L : MI} {Z : Zt} {a0 b1 : Nat} {a1 a2 b0 : Int}  (k : Ev E d M_X11_image 45 [vr a0, vi a1, vi a2] [vi a1, vi b0, vr b1] κ I L Z) : Ev E d M_X11_image 44 [vr a0, vi a1, vi a2] [vi b0, vr b1] κ I L Z := E_iload_n dX11_image_44 rfl k
theorem t64_X11_image_45 {E : En} {d : Nat} {κ : Kp} {I L : MI} {Z : Zt} {a0 b2 : Nat} {a1 a2 b0 b1 : Int}  (k : Ev E d M_X11_image 46 [vr a0, vi a1, vi a2] [vi (b1 * b0), vr b2] κ I L Z) : Ev E d M_X11_image 45 [vr a0, vi a1, vi a2] [vi b0, vi b1, vr b2] κ I L Z := E_imul dX11_image_45 k
theorem t64_X11_image_46 {E : En} {d : Nat} {κ : Kp} {I L : MI} {Z : Zt} {a0 b1 : Nat} {a1 a2 b0 : Int}  (k : Ev E d M_X11_image 47 [vr a0, vi a1, vi a2] [vi a2, vi b0, vr b1] κ I L Z) : Ev E d M_X11_image 46 [vr a0, vi a1, vi a2] [vi b0, vr b1] κ I L Z := E_iload_n dX11_image_46 rfl k
theorem t64_X11_image_47 {E : En} {d : Nat} {κ : Kp} {I L : MI} {Z : Zt} {a0 b2 : Nat} {a1 a2 b0 b1 : Int}  (k : Ev E d M_X11_image 48 [vr a0, vi a1, vi a2] [vi (b1 + b0), vr b2] κ I L Z) : Ev E d M_X11_image 47 [vr a0, vi a1, vi a2] [vi b0, vi b1, vr b2] κ I L Z := E_iadd dX11_image_47 k
theorem t64_X11_image_48 {E : En} {d : Nat} {κ : Kp} {I L : MI} {Z : Zt} {a0 b1 : Nat} {a1 a2 b0 : Int}  (k : Ev E d M_X11_image 49 [vr a0, vi a1, vi a2] [vr a0, vi b0, vr b1] κ I L Z) : Ev E d M_X11_image 48 [vr a0, vi a1, vi a2] [vi b0, vr b1] κ I L Z := E_aload_n dX11_image_48 rfl k
theorem t64_X11_image_49 {E : En} {d : Nat} {κ : Kp} {I L : MI} {Z : Zt} {a0 b0 b2 : Nat} {a1 a2 b1 : Int} {q : Nat} (hs : κ.1.1[b0]? = some (.inl 11)) (hq : κ.1.2 b0 5 = some q) (k : Ev E d M_X11_image 52 [vr a0, vi a1, vi a2] [vr q, vi b1, vr b2] κ I L Z) : Ev E d M_X11_image 49 [vr a0, vi a1, vi a2] [vr b0, vi b1, vr b2] κ I L Z := E_getR (ci := 11) (n := 5) dX11_image_49 wF_RX11_19 (by decide) hs rfl hq k
theorem t64_X11_image_52 {E : En} {d : Nat} {κ : Kp} {I L : MI} {Z : Zt} {a0 b0 b2 : Nat} {a1 a2 b1 : Int}  (k : Ev E d M_X11_image 53 [vr a0, vi a1, vi a2] [vi a2, vr b0, vi b1, vr b2] κ I L Z) : Ev E d M_X11_image 52 [vr a0, vi a1, vi a2] [vr b0, vi b1, vr b2] κ I L Z := E_iload_n dX11_image_52 rfl k
theorem t64_X11_image_53 {E : En} {d : Nat} {κ : Kp} {I L : MI} {Z : Zt} {a0 b1 b3 : Nat} {a1 a2 b0 b2 : Int} {n : Nat} (hs : κ.1.1[b1]? = some (.inr (0, n))) (h0 : 0 ≤ b0) (h1 : b0 < n) (hi : Ir b0) (k : Ir (I b1 b0) → Ev E d M_X11_image 54 [vr a0, vi a1, vi a2] [vi (I b1 b0), vi b2, vr b3] κ I L Z) : Ev E d M_X11_image 53 [vr a0, vi a1, vi a2] [vi b0, vr b1, vi b2, vr b3] κ I L Z := E_ialdI dX11_image_53 hs h0 h1 hi k
theorem t64_X11_image_54 {E : En} {d : Nat} {κ : Kp} {I L : MI} {Z : Zt} {a0 b2 : Nat} {a1 a2 b0 b1 : Int} {n : Nat} (ha : κ.1.1[b2]? = some (.inr (0, n))) (h0 : 0 ≤ b1) (h1 : b1 < n) (hi : Ir b1) (hz : Ir b0) (k : Ev E d M_X11_image 55 [vr a0, vi a1, vi a2] [] κ (up2 I b2 b1 b0) L Z) : Ev E d M_X11_image 54 [vr a0, vi a1, vi a2] [vi b0, vi b1, vr b2] κ I L Z := E_iast dX11_image_54 ha h0 h1 hi hz k
theorem t64_X11_image_55 {E : En} {d : Nat} {κ : Kp} {I L : MI} {Z : Zt} {a0 : Nat} {a1 a2 : Int}  (k : Ev E d M_X11_image 58 [vr a0, vi a1, vi (a2 + 1)] [] κ I L Z) : Ev E d M_X11_image 55 [vr a0, vi a1, vi a2] [] κ I L Z := E_iinc dX11_image_55 rfl rfl (Nat.le_of_ble_eq_true rfl) k
theorem t64_X11_image_58 {E : En} {d : Nat} {κ : Kp} {I L : MI} {Z : Zt} {a0 : Nat} {a1 a2 : Int}  (k : Ev E d M_X11_image 32 [vr a0, vi a1, vi a2] [] κ I L Z) : Ev E d M_X11_image 58 [vr a0, vi a1, vi a2] [] κ I L Z := E_goto dX11_image_58 (by decide) k
theorem t64_X11_image_0 {E : En} {d : Nat} {κ : Kp} {I L : MI} {Z : Zt} {a0 : Nat} {a1 : Int}  (k : Ev E d M_X11_image 1 [vr a0, vi a1, vu] [vr a0] κ I L Z) : Ev E d M_X11_image 0 [vr a0, vi a1, vu] [] κ I L Z := E_aload_n dX11_image_0 rfl k
theorem t64_X11_image_1 {E : En} {d : Nat} {κ : Kp} {I L : MI} {Z : Zt} {a0 b0 : Nat} {a1 : Int}  (k : Ev E d M_X11_image 2 [vr a0, vi a1, vu] [vi 0, vr b0] κ I L Z) : Ev E d M_X11_image 1 [vr a0, vi a1, vu] [vr b0] κ I L Z := E_iconst (v := 0) dX11_image_1 rfl k
theorem t64_X11_image_2 {E : En} {d : Nat} {κ : Kp} {I L : MI} {Z : Zt} {a0 b1 : Nat} {a1 b0 : Int} (hs : κ.1.1[b1]? = some (.inl 11)) (hz : Ir b0) (k : Ev E d M_X11_image 5 [vr a0, vi a1, vu] [] κ (up2 I b1 0 b0) L Z) : Ev E d M_X11_image 2 [vr a0, vi a1, vu] [vi b0, vr b1] κ I L Z := E_putI (ci := 11) (n := 0) dX11_image_2 wF_RX11_57 (by decide) hs rfl rfl hz k
theorem t64_X11_image_5 {E : En} {d : Nat} {κ : Kp} {I L : MI} {Z : Zt} {a0 : Nat} {a1 : Int}  (k : Ev E d M_X11_image 6 [vr a0, vi a1, vu] [vi a1] κ I L Z) : Ev E d M_X11_image 5 [vr a0, vi a1, vu] [] κ I L Z := E_iload_n dX11_image_5 rfl k
theorem t64_X11_image_6 {E : En} {d : Nat} {κ : Kp} {I L : MI} {Z : Zt} {a0 : Nat} {a1 b0 : Int} (hx : Ir b0) (k : Ev E d M_X11_image 7 [vr a0, vi a1, vu] [vl b0] κ I L Z) : Ev E d M_X11_image 6 [vr a0, vi a1, vu] [vi b0] κ I L Z := E_i2l dX11_image_6 hx k
theorem t64_X11_image_7 {E : En} {d : Nat} {κ : Kp} {I L : MI} {Z : Zt} {a0 : Nat} {a1 b0 : Int}  (k : Ev E d M_X11_image 8 [vr a0, vi a1, vu] [vl 0, vl b0] κ I L Z) : Ev E d M_X11_image 7 [vr a0, vi a1, vu] [vl b0] κ I L Z := E_lconst (v := 0) dX11_image_7 rfl k
theorem t64_X11_image_8 {E : En} {d : Nat} {κ : Kp} {I L : MI} {Z : Zt} {a0 : Nat} {a1 b0 b1 : Int}  (k : Ev E d M_X11_image 9 [vr a0, vi a1, vu] [vl 1, vl b0, vl b1] κ I L Z) : Ev E d M_X11_image 8 [vr a0, vi a1, vu] [vl b0, vl b1] κ I L Z := E_lconst (v := 1) dX11_image_8 rfl k
theorem t64_X11_image_9 {E : En} {d d' : Nat} {cs : Nat × Nat} {I L : MI} {Z : Zt} {a0 : Nat} {a1 b0 b1 b2 : Int} {P : Prop} {I' L' : MI} (hM : CB E d' M_X11_in [vl b2, vl b1, vl b0] I L P I' L') (hlt : d' + 1 ≤ d) (kt : P → Ev E d M_X11_image 12 [vr a0, vi a1, vu] [vi 1] (G0, cs) I' L' Z) (kf : ¬ P → Ev E d M_X11_image 12 [vr a0, vi a1, vu] [vi 0] (G0, cs) I' L' Z) (hc1 : cs.1 ≤ M_X11_image.2.2.2.2.1 := by decide) (hc2 : cs.2 ≤ M_X11_image.2.2.2.2.2 := by decide) : Ev E d M_X11_image 9 [vr a0, vi a1, vu] [vl b0, vl b1, vl b2] (G0, cs) I L Z := E_callS (as := [vl b2, vl b1, vl b0]) (rest := []) (n := 3) hM dX11_image_9 wM_RX11_68 wS_X11_in hlt wC_X11_in wI_X11 (by decide +kernel) rfl (by decide) (Nat.le_of_ble_eq_true rfl) hc1 hc2 rfl (fun r g' I2 L2 h => by obtain ⟨rfl, z, rfl, rfl, rfl, ⟨rfl, h⟩ | ⟨rfl, h⟩⟩ := h; exact kt h; exact kf h)
theorem t64_X11_image_12 {E : En} {d : Nat} {κ : Kp} {I L : MI} {Z : Zt} {a0 : Nat} {a1 b0 : Int} (hx : Ir b0) (kt : ¬ b0 = 0 → Ev E d M_X11_image 19 [vr a0, vi a1, vu] [] κ I L Z) (kf : b0 = 0 → Ev E d M_X11_image 15 [vr a0, vi a1, vu] [] κ I L Z) : Ev E d M_X11_image 12 [vr a0, vi a1, vu] [vi b0] κ I L Z := E_if_ne dX11_image_12 hx kt kf (by decide)
theorem t64_X11_image_19 {E : En} {d : Nat} {κ : Kp} {I L : MI} {Z : Zt} {a0 : Nat} {a1 : Int}  (k : Ev E d M_X11_image 20 [vr a0, vi a1, vu] [vr a0] κ I L Z) : Ev E d M_X11_image 19 [vr a0, vi a1, vu] [] κ I L Z := E_aload_n dX11_image_19 rfl k
theorem t64_X11_image_20 {E : En} {d : Nat} {κ : Kp} {I L : MI} {Z : Zt} {a0 b0 : Nat} {a1 : Int} (hs : κ.1.1[b0]? = some (.inl 11)) (k : Ir (I b0 7) → Ev E d M_X11_image 23 [vr a0, vi a1, vu] [vi (I b0 7)] κ I L Z) : Ev E d M_X11_image 20 [vr a0, vi a1, vu] [vr b0] κ I L Z := E_getI (ci := 11) (n := 7) dX11_image_20 wF_RX11_191 (by decide) hs rfl k
theorem t64_X11_image_23 {E : En} {d : Nat} {κ : Kp} {I L : MI} {Z : Zt} {a0 : Nat} {a1 b0 : Int} (hx : Ir b0) (kt : ¬ b0 = 0 → Ev E d M_X11_image 30 [vr a0, vi a1, vu] [] κ I L Z) (kf : b0 = 0 → Ev E d M_X11_image 26 [vr a0, vi a1, vu] [] κ I L Z) : Ev E d M_X11_image 23 [vr a0, vi a1, vu] [vi b0] κ I L Z := E_if_ne dX11_image_23 hx kt kf (by decide)
theorem t64_X11_image_30 {E : En} {d : Nat} {κ : Kp} {I L : MI} {Z : Zt} {a0 : Nat} {a1 : Int}  (k : Ev E d M_X11_image 31 [vr a0, vi a1, vu] [vi 0] κ I L Z) : Ev E d M_X11_image 30 [vr a0, vi a1, vu] [] κ I L Z := E_iconst (v := 0) dX11_image_30 rfl k
theorem t64_X11_image_31 {E : En} {d : Nat} {κ : Kp} {I L : MI} {Z : Zt} {a0 : Nat} {a1 b0 : Int}  (k : Ev E d M_X11_image 32 [vr a0, vi a1, vi b0] [] κ I L Z) : Ev E d M_X11_image 31 [vr a0, vi a1, vu] [vi b0] κ I L Z := E_istore_n dX11_image_31 rfl (Nat.le_of_ble_eq_true rfl) k
theorem t64_X11_image_26 {E : En} {d : Nat} {κ : Kp} {I L : MI} {Z : Zt} {a0 : Nat} {a1 : Int}  (k : Ev E d M_X11_image 29 [vr a0, vi a1, vu] [vl (-9000000000000000002)] κ I L Z) : Ev E d M_X11_image 26 [vr a0, vi a1, vu] [] κ I L Z := E_ldc2 (v := (-9000000000000000002)) dX11_image_26 wK_RX11_239 k
theorem t64_X11_image_29 {E : En} {d : Nat} {g : Geo} {I L : MI} {Q : Option AV → Geo → MI → MI → Prop} {cs : Nat × Nat} {a0 : Nat} {a1 b0 : Int} (hq : Q (some (vl b0)) g I L) (h1 : cs.1 ≤ M_X11_image.2.2.2.2.1 := by decide) (h2 : cs.2 ≤ M_X11_image.2.2.2.2.2 := by decide) : Ev E d M_X11_image 29 [vr a0, vi a1, vu] [vl b0] (g, cs) I L (ZQ E M_X11_image Q) := E_lreturn rfl dX11_image_29 hq h1 h2
theorem t64_X11_image_15 {E : En} {d : Nat} {κ : Kp} {I L : MI} {Z : Zt} {a0 : Nat} {a1 : Int}  (k : Ev E d M_X11_image 18 [vr a0, vi a1, vu] [vl (-9000000000000000001)] κ I L Z) : Ev E d M_X11_image 15 [vr a0, vi a1, vu] [] κ I L Z := E_ldc2 (v := (-9000000000000000001)) dX11_image_15 wK_RX11_78 k
theorem t64_X11_image_18 {E : En} {d : Nat} {g : Geo} {I L : MI} {Q : Option AV → Geo → MI → MI → Prop} {cs : Nat × Nat} {a0 : Nat} {a1 b0 : Int} (hq : Q (some (vl b0)) g I L) (h1 : cs.1 ≤ M_X11_image.2.2.2.2.1 := by decide) (h2 : cs.2 ≤ M_X11_image.2.2.2.2.2 := by decide) : Ev E d M_X11_image 18 [vr a0, vi a1, vu] [vl b0] (g, cs) I L (ZQ E M_X11_image Q) := E_lreturn rfl dX11_image_18 hq h1 h2
theorem t64_X11_restore_65 {E : En} {d : Nat} {κ : Kp} {I L : MI} {Z : Zt} {a0 : Nat} {a1 a2 : Int}  (k : Ev E d M_X11_restore 66 [vr a0, vi a1, vi a2] [vi a2] κ I L Z) : Ev E d M_X11_restore 65 [vr a0, vi a1, vi a2] [] κ I L Z := E_iload_n dX11_restore_65 rfl k
theorem t64_X11_restore_66 {E : En} {d : Nat} {κ : Kp} {I L : MI} {Z : Zt} {a0 : Nat} {a1 a2 b0 : Int}  (k : Ev E d M_X11_restore 68 [vr a0, vi a1, vi a2] [vi 8, vi b0] κ I L Z) : Ev E d M_X11_restore 66 [vr a0, vi a1, vi a2] [vi b0] κ I L Z := E_bipush (v := 8) dX11_restore_66 rfl k
theorem t64_X11_restore_68 {E : En} {d : Nat} {κ : Kp} {I L : MI} {Z : Zt} {a0 : Nat} {a1 a2 b0 b1 : Int} (hx : Ir b1) (hy : Ir b0) (kt : b0 ≤ b1 → Ev E d M_X11_restore 94 [vr a0, vi a1, vi a2] [] κ I L Z) (kf : b1 < b0 → Ev E d M_X11_restore 71 [vr a0, vi a1, vi a2] [] κ I L Z) : Ev E d M_X11_restore 68 [vr a0, vi a1, vi a2] [vi b0, vi b1] κ I L Z := E_icmp_ge dX11_restore_68 hx hy kt kf (by decide)
theorem t64_X11_restore_94 {E : En} {d : Nat} {κ : Kp} {I L : MI} {Z : Zt} {a0 : Nat} {a1 a2 : Int}  (k : Ev E d M_X11_restore 95 [vr a0, vi a1, vi a2] [vl 1] κ I L Z) : Ev E d M_X11_restore 94 [vr a0, vi a1, vi a2] [] κ I L Z := E_lconst (v := 1) dX11_restore_94 rfl k
theorem t64_X11_restore_95 {E : En} {d : Nat} {g : Geo} {I L : MI} {Q : Option AV → Geo → MI → MI → Prop} {cs : Nat × Nat} {a0 : Nat} {a1 a2 b0 : Int} (hq : Q (some (vl b0)) g I L) (h1 : cs.1 ≤ M_X11_restore.2.2.2.2.1 := by decide) (h2 : cs.2 ≤ M_X11_restore.2.2.2.2.2 := by decide) : Ev E d M_X11_restore 95 [vr a0, vi a1, vi a2] [vl b0] (g, cs) I L (ZQ E M_X11_restore Q) := E_lreturn rfl dX11_restore_95 hq h1 h2
theorem t64_X11_restore_71 {E : En} {d : Nat} {κ : Kp} {I L : MI} {Z : Zt} {a0 : Nat} {a1 a2 : Int}  (k : Ev E d M_X11_restore 72 [vr a0, vi a1, vi a2] [vr a0] κ I L Z) : Ev E d M_X11_restore 71 [vr a0, vi a1, vi a2] [] κ I L Z := E_aload_n dX11_restore_71 rfl k
theorem t64_X11_restore_72 {E : En} {d : Nat} {κ : Kp} {I L : MI} {Z : Zt} {a0 b0 : Nat} {a1 a2 : Int} {q : Nat} (hs : κ.1.1[b0]? = some (.inl 11)) (hq : κ.1.2 b0 8 = some q) (k : Ev E d M_X11_restore 75 [vr a0, vi a1, vi a2] [vr q] κ I L Z) : Ev E d M_X11_restore 72 [vr a0, vi a1, vi a2] [vr b0] κ I L Z := E_getR (ci := 11) (n := 8) dX11_restore_72 wF_RX11_25 (by decide) hs rfl hq k
theorem t64_X11_restore_75 {E : En} {d : Nat} {κ : Kp} {I L : MI} {Z : Zt} {a0 b0 : Nat} {a1 a2 : Int}  (k : Ev E d M_X11_restore 76 [vr a0, vi a1, vi a2] [vi a2, vr b0] κ I L Z) : Ev E d M_X11_restore 75 [vr a0, vi a1, vi a2] [vr b0] κ I L Z := E_iload_n dX11_restore_75 rfl k
theorem t64_X11_restore_76 {E : En} {d : Nat} {κ : Kp} {I L : MI} {Z : Zt} {a0 b1 : Nat} {a1 a2 b0 : Int}  (k : Ev E d M_X11_restore 77 [vr a0, vi a1, vi a2] [vr a0, vi b0, vr b1] κ I L Z) : Ev E d M_X11_restore 76 [vr a0, vi a1, vi a2] [vi b0, vr b1] κ I L Z := E_aload_n dX11_restore_76 rfl k
theorem t64_X11_restore_77 {E : En} {d : Nat} {κ : Kp} {I L : MI} {Z : Zt} {a0 b0 b2 : Nat} {a1 a2 b1 : Int} {q : Nat} (hs : κ.1.1[b0]? = some (.inl 11)) (hq : κ.1.2 b0 27 = some q) (k : Ev E d M_X11_restore 80 [vr a0, vi a1, vi a2] [vr q, vi b1, vr b2] κ I L Z) : Ev E d M_X11_restore 77 [vr a0, vi a1, vi a2] [vr b0, vi b1, vr b2] κ I L Z := E_getR (ci := 11) (n := 27) dX11_restore_77 wF_RX11_51 (by decide) hs rfl hq k
theorem t64_X11_restore_80 {E : En} {d : Nat} {κ : Kp} {I L : MI} {Z : Zt} {a0 b0 b2 : Nat} {a1 a2 b1 : Int}  (k : Ev E d M_X11_restore 82 [vr a0, vi a1, vi a2] [vi 8, vr b0, vi b1, vr b2] κ I L Z) : Ev E d M_X11_restore 80 [vr a0, vi a1, vi a2] [vr b0, vi b1, vr b2] κ I L Z := E_bipush (v := 8) dX11_restore_80 rfl k
theorem t64_X11_restore_82 {E : En} {d : Nat} {κ : Kp} {I L : MI} {Z : Zt} {a0 b1 b3 : Nat} {a1 a2 b0 b2 : Int}  (k : Ev E d M_X11_restore 83 [vr a0, vi a1, vi a2] [vi a1, vi b0, vr b1, vi b2, vr b3] κ I L Z) : Ev E d M_X11_restore 82 [vr a0, vi a1, vi a2] [vi b0, vr b1, vi b2, vr b3] κ I L Z := E_iload_n dX11_restore_82 rfl k
theorem t64_X11_restore_83 {E : En} {d : Nat} {κ : Kp} {I L : MI} {Z : Zt} {a0 b2 b4 : Nat} {a1 a2 b0 b1 b3 : Int}  (k : Ev E d M_X11_restore 84 [vr a0, vi a1, vi a2] [vi (b1 * b0), vr b2, vi b3, vr b4] κ I L Z) : Ev E d M_X11_restore 83 [vr a0, vi a1, vi a2] [vi b0, vi b1, vr b2, vi b3, vr b4] κ I L Z := E_imul dX11_restore_83 k
theorem t64_X11_restore_84 {E : En} {d : Nat} {κ : Kp} {I L : MI} {Z : Zt} {a0 b1 b3 : Nat} {a1 a2 b0 b2 : Int}  (k : Ev E d M_X11_restore 85 [vr a0, vi a1, vi a2] [vi a2, vi b0, vr b1, vi b2, vr b3] κ I L Z) : Ev E d M_X11_restore 84 [vr a0, vi a1, vi a2] [vi b0, vr b1, vi b2, vr b3] κ I L Z := E_iload_n dX11_restore_84 rfl k
theorem t64_X11_restore_85 {E : En} {d : Nat} {κ : Kp} {I L : MI} {Z : Zt} {a0 b2 b4 : Nat} {a1 a2 b0 b1 b3 : Int}  (k : Ev E d M_X11_restore 86 [vr a0, vi a1, vi a2] [vi (b1 + b0), vr b2, vi b3, vr b4] κ I L Z) : Ev E d M_X11_restore 85 [vr a0, vi a1, vi a2] [vi b0, vi b1, vr b2, vi b3, vr b4] κ I L Z := E_iadd dX11_restore_85 k
theorem t64_X11_restore_86 {E : En} {d : Nat} {κ : Kp} {I L : MI} {Z : Zt} {a0 b1 b3 : Nat} {a1 a2 b0 b2 : Int} {n : Nat} (hs : κ.1.1[b1]? = some (.inr (3, n))) (h0 : 0 ≤ b0) (h1 : b0 < n) (hi : Ir b0) (k : Jr (L b1 b0) → Ev E d M_X11_restore 87 [vr a0, vi a1, vi a2] [vl (L b1 b0), vi b2, vr b3] κ I L Z) : Ev E d M_X11_restore 86 [vr a0, vi a1, vi a2] [vi b0, vr b1, vi b2, vr b3] κ I L Z := E_laldI dX11_restore_86 hs h0 h1 hi k
theorem t64_X11_restore_87 {E : En} {d : Nat} {κ : Kp} {I L : MI} {Z : Zt} {a0 b2 : Nat} {a1 a2 b0 b1 : Int} {n : Nat} (ha : κ.1.1[b2]? = some (.inr (3, n))) (h0 : 0 ≤ b1) (h1 : b1 < n) (hi : Ir b1) (hz : Jr b0) (k : Ev E d M_X11_restore 88 [vr a0, vi a1, vi a2] [] κ I (up2 L b2 b1 b0) Z) : Ev E d M_X11_restore 87 [vr a0, vi a1, vi a2] [vl b0, vi b1, vr b2] κ I L Z := E_last dX11_restore_87 ha h0 h1 hi hz k
theorem t64_X11_restore_88 {E : En} {d : Nat} {κ : Kp} {I L : MI} {Z : Zt} {a0 : Nat} {a1 a2 : Int}  (k : Ev E d M_X11_restore 91 [vr a0, vi a1, vi (a2 + 1)] [] κ I L Z) : Ev E d M_X11_restore 88 [vr a0, vi a1, vi a2] [] κ I L Z := E_iinc dX11_restore_88 rfl rfl (Nat.le_of_ble_eq_true rfl) k
theorem t64_X11_restore_91 {E : En} {d : Nat} {κ : Kp} {I L : MI} {Z : Zt} {a0 : Nat} {a1 a2 : Int}  (k : Ev E d M_X11_restore 65 [vr a0, vi a1, vi a2] [] κ I L Z) : Ev E d M_X11_restore 91 [vr a0, vi a1, vi a2] [] κ I L Z := E_goto dX11_restore_91 (by decide) k
theorem t64_X11_restore_34 {E : En} {d : Nat} {κ : Kp} {I L : MI} {Z : Zt} {a0 : Nat} {a1 a2 : Int}  (k : Ev E d M_X11_restore 35 [vr a0, vi a1, vi a2] [vi a2] κ I L Z) : Ev E d M_X11_restore 34 [vr a0, vi a1, vi a2] [] κ I L Z := E_iload_n dX11_restore_34 rfl k
theorem t64_X11_restore_35 {E : En} {d : Nat} {κ : Kp} {I L : MI} {Z : Zt} {a0 : Nat} {a1 a2 b0 : Int}  (k : Ev E d M_X11_restore 37 [vr a0, vi a1, vi a2] [vi 65, vi b0] κ I L Z) : Ev E d M_X11_restore 35 [vr a0, vi a1, vi a2] [vi b0] κ I L Z := E_bipush (v := 65) dX11_restore_35 rfl k
theorem t64_X11_restore_37 {E : En} {d : Nat} {κ : Kp} {I L : MI} {Z : Zt} {a0 : Nat} {a1 a2 b0 b1 : Int} (hx : Ir b1) (hy : Ir b0) (kt : b0 ≤ b1 → Ev E d M_X11_restore 63 [vr a0, vi a1, vi a2] [] κ I L Z) (kf : b1 < b0 → Ev E d M_X11_restore 40 [vr a0, vi a1, vi a2] [] κ I L Z) : Ev E d M_X11_restore 37 [vr a0, vi a1, vi a2] [vi b0, vi b1] κ I L Z := E_icmp_ge dX11_restore_37 hx hy kt kf (by decide)
theorem t64_X11_restore_63 {E : En} {d : Nat} {κ : Kp} {I L : MI} {Z : Zt} {a0 : Nat} {a1 a2 : Int}  (k : Ev E d M_X11_restore 64 [vr a0, vi a1, vi a2] [vi 0] κ I L Z) : Ev E d M_X11_restore 63 [vr a0, vi a1, vi a2] [] κ I L Z := E_iconst (v := 0) dX11_restore_63 rfl k
theorem t64_X11_restore_64 {E : En} {d : Nat} {κ : Kp} {I L : MI} {Z : Zt} {a0 : Nat} {a1 a2 b0 : Int}  (k : Ev E d M_X11_restore 65 [vr a0, vi a1, vi b0] [] κ I L Z) : Ev E d M_X11_restore 64 [vr a0, vi a1, vi a2] [vi b0] κ I L Z := E_istore_n dX11_restore_64 rfl (Nat.le_of_ble_eq_true rfl) k
theorem t64_X11_restore_40 {E : En} {d : Nat} {κ : Kp} {I L : MI} {Z : Zt} {a0 : Nat} {a1 a2 : Int}  (k : Ev E d M_X11_restore 41 [vr a0, vi a1, vi a2] [vr a0] κ I L Z) : Ev E d M_X11_restore 40 [vr a0, vi a1, vi a2] [] κ I L Z := E_aload_n dX11_restore_40 rfl k
theorem t64_X11_restore_41 {E : En} {d : Nat} {κ : Kp} {I L : MI} {Z : Zt} {a0 b0 : Nat} {a1 a2 : Int} {q : Nat} (hs : κ.1.1[b0]? = some (.inl 11)) (hq : κ.1.2 b0 5 = some q) (k : Ev E d M_X11_restore 44 [vr a0, vi a1, vi a2] [vr q] κ I L Z) : Ev E d M_X11_restore 41 [vr a0, vi a1, vi a2] [vr b0] κ I L Z := E_getR (ci := 11) (n := 5) dX11_restore_41 wF_RX11_19 (by decide) hs rfl hq k
theorem t64_X11_restore_44 {E : En} {d : Nat} {κ : Kp} {I L : MI} {Z : Zt} {a0 b0 : Nat} {a1 a2 : Int}  (k : Ev E d M_X11_restore 45 [vr a0, vi a1, vi a2] [vi a2, vr b0] κ I L Z) : Ev E d M_X11_restore 44 [vr a0, vi a1, vi a2] [vr b0] κ I L Z := E_iload_n dX11_restore_44 rfl k
theorem t64_X11_restore_45 {E : En} {d : Nat} {κ : Kp} {I L : MI} {Z : Zt} {a0 b1 : Nat} {a1 a2 b0 : Int}  (k : Ev E d M_X11_restore 46 [vr a0, vi a1, vi a2] [vr a0, vi b0, vr b1] κ I L Z) : Ev E d M_X11_restore 45 [vr a0, vi a1, vi a2] [vi b0, vr b1] κ I L Z := E_aload_n dX11_restore_45 rfl k
theorem t64_X11_restore_46 {E : En} {d : Nat} {κ : Kp} {I L : MI} {Z : Zt} {a0 b0 b2 : Nat} {a1 a2 b1 : Int} {q : Nat} (hs : κ.1.1[b0]? = some (.inl 11)) (hq : κ.1.2 b0 26 = some q) (k : Ev E d M_X11_restore 49 [vr a0, vi a1, vi a2] [vr q, vi b1, vr b2] κ I L Z) : Ev E d M_X11_restore 46 [vr a0, vi a1, vi a2] [vr b0, vi b1, vr b2] κ I L Z := E_getR (ci := 11) (n := 26) dX11_restore_46 wF_RX11_48 (by decide) hs rfl hq k
theorem t64_X11_restore_49 {E : En} {d : Nat} {κ : Kp} {I L : MI} {Z : Zt} {a0 b0 b2 : Nat} {a1 a2 b1 : Int}  (k : Ev E d M_X11_restore 51 [vr a0, vi a1, vi a2] [vi 65, vr b0, vi b1, vr b2] κ I L Z) : Ev E d M_X11_restore 49 [vr a0, vi a1, vi a2] [vr b0, vi b1, vr b2] κ I L Z := E_bipush (v := 65) dX11_restore_49 rfl k
theorem t64_X11_restore_51 {E : En} {d : Nat} {κ : Kp} {I L : MI} {Z : Zt} {a0 b1 b3 : Nat} {a1 a2 b0 b2 : Int}  (k : Ev E d M_X11_restore 52 [vr a0, vi a1, vi a2] [vi a1, vi b0, vr b1, vi b2, vr b3] κ I L Z) : Ev E d M_X11_restore 51 [vr a0, vi a1, vi a2] [vi b0, vr b1, vi b2, vr b3] κ I L Z := E_iload_n dX11_restore_51 rfl k
theorem t64_X11_restore_52 {E : En} {d : Nat} {κ : Kp} {I L : MI} {Z : Zt} {a0 b2 b4 : Nat} {a1 a2 b0 b1 b3 : Int}  (k : Ev E d M_X11_restore 53 [vr a0, vi a1, vi a2] [vi (b1 * b0), vr b2, vi b3, vr b4] κ I L Z) : Ev E d M_X11_restore 52 [vr a0, vi a1, vi a2] [vi b0, vi b1, vr b2, vi b3, vr b4] κ I L Z := E_imul dX11_restore_52 k
theorem t64_X11_restore_53 {E : En} {d : Nat} {κ : Kp} {I L : MI} {Z : Zt} {a0 b1 b3 : Nat} {a1 a2 b0 b2 : Int}  (k : Ev E d M_X11_restore 54 [vr a0, vi a1, vi a2] [vi a2, vi b0, vr b1, vi b2, vr b3] κ I L Z) : Ev E d M_X11_restore 53 [vr a0, vi a1, vi a2] [vi b0, vr b1, vi b2, vr b3] κ I L Z := E_iload_n dX11_restore_53 rfl k
theorem t64_X11_restore_54 {E : En} {d : Nat} {κ : Kp} {I L : MI} {Z : Zt} {a0 b2 b4 : Nat} {a1 a2 b0 b1 b3 : Int}  (k : Ev E d M_X11_restore 55 [vr a0, vi a1, vi a2] [vi (b1 + b0), vr b2, vi b3, vr b4] κ I L Z) : Ev E d M_X11_restore 54 [vr a0, vi a1, vi a2] [vi b0, vi b1, vr b2, vi b3, vr b4] κ I L Z := E_iadd dX11_restore_54 k
theorem t64_X11_restore_55 {E : En} {d : Nat} {κ : Kp} {I L : MI} {Z : Zt} {a0 b1 b3 : Nat} {a1 a2 b0 b2 : Int} {n : Nat} (hs : κ.1.1[b1]? = some (.inr (0, n))) (h0 : 0 ≤ b0) (h1 : b0 < n) (hi : Ir b0) (k : Ir (I b1 b0) → Ev E d M_X11_restore 56 [vr a0, vi a1, vi a2] [vi (I b1 b0), vi b2, vr b3] κ I L Z) : Ev E d M_X11_restore 55 [vr a0, vi a1, vi a2] [vi b0, vr b1, vi b2, vr b3] κ I L Z := E_ialdI dX11_restore_55 hs h0 h1 hi k
theorem t64_X11_restore_56 {E : En} {d : Nat} {κ : Kp} {I L : MI} {Z : Zt} {a0 b2 : Nat} {a1 a2 b0 b1 : Int} {n : Nat} (ha : κ.1.1[b2]? = some (.inr (0, n))) (h0 : 0 ≤ b1) (h1 : b1 < n) (hi : Ir b1) (hz : Ir b0) (k : Ev E d M_X11_restore 57 [vr a0, vi a1, vi a2] [] κ (up2 I b2 b1 b0) L Z) : Ev E d M_X11_restore 56 [vr a0, vi a1, vi a2] [vi b0, vi b1, vr b2] κ I L Z := E_iast dX11_restore_56 ha h0 h1 hi hz k
theorem t64_X11_restore_57 {E : En} {d : Nat} {κ : Kp} {I L : MI} {Z : Zt} {a0 : Nat} {a1 a2 : Int}  (k : Ev E d M_X11_restore 60 [vr a0, vi a1, vi (a2 + 1)] [] κ I L Z) : Ev E d M_X11_restore 57 [vr a0, vi a1, vi a2] [] κ I L Z := E_iinc dX11_restore_57 rfl rfl (Nat.le_of_ble_eq_true rfl) k
theorem t64_X11_restore_60 {E : En} {d : Nat} {κ : Kp} {I L : MI} {Z : Zt} {a0 : Nat} {a1 a2 : Int}  (k : Ev E d M_X11_restore 34 [vr a0, vi a1, vi a2] [] κ I L Z) : Ev E d M_X11_restore 60 [vr a0, vi a1, vi a2] [] κ I L Z := E_goto dX11_restore_60 (by decide) k
theorem t64_X11_restore_0 {E : En} {d : Nat} {κ : Kp} {I L : MI} {Z : Zt} {a0 : Nat} {a1 : Int}  (k : Ev E d M_X11_restore 1 [vr a0, vi a1, vu] [vr a0] κ I L Z) : Ev E d M_X11_restore 0 [vr a0, vi a1, vu] [] κ I L Z := E_aload_n dX11_restore_0 rfl k
theorem t64_X11_restore_1 {E : En} {d : Nat} {κ : Kp} {I L : MI} {Z : Zt} {a0 b0 : Nat} {a1 : Int}  (k : Ev E d M_X11_restore 2 [vr a0, vi a1, vu] [vi 0, vr b0] κ I L Z) : Ev E d M_X11_restore 1 [vr a0, vi a1, vu] [vr b0] κ I L Z := E_iconst (v := 0) dX11_restore_1 rfl k
theorem t64_X11_restore_2 {E : En} {d : Nat} {κ : Kp} {I L : MI} {Z : Zt} {a0 b1 : Nat} {a1 b0 : Int} (hs : κ.1.1[b1]? = some (.inl 11)) (hz : Ir b0) (k : Ev E d M_X11_restore 5 [vr a0, vi a1, vu] [] κ (up2 I b1 0 b0) L Z) : Ev E d M_X11_restore 2 [vr a0, vi a1, vu] [vi b0, vr b1] κ I L Z := E_putI (ci := 11) (n := 0) dX11_restore_2 wF_RX11_57 (by decide) hs rfl rfl hz k
theorem t64_X11_restore_5 {E : En} {d : Nat} {κ : Kp} {I L : MI} {Z : Zt} {a0 : Nat} {a1 : Int}  (k : Ev E d M_X11_restore 6 [vr a0, vi a1, vu] [vi a1] κ I L Z) : Ev E d M_X11_restore 5 [vr a0, vi a1, vu] [] κ I L Z := E_iload_n dX11_restore_5 rfl k
theorem t64_X11_restore_6 {E : En} {d : Nat} {κ : Kp} {I L : MI} {Z : Zt} {a0 : Nat} {a1 b0 : Int} (hx : Ir b0) (k : Ev E d M_X11_restore 7 [vr a0, vi a1, vu] [vl b0] κ I L Z) : Ev E d M_X11_restore 6 [vr a0, vi a1, vu] [vi b0] κ I L Z := E_i2l dX11_restore_6 hx k
theorem t64_X11_restore_7 {E : En} {d : Nat} {κ : Kp} {I L : MI} {Z : Zt} {a0 : Nat} {a1 b0 : Int}  (k : Ev E d M_X11_restore 8 [vr a0, vi a1, vu] [vl 0, vl b0] κ I L Z) : Ev E d M_X11_restore 7 [vr a0, vi a1, vu] [vl b0] κ I L Z := E_lconst (v := 0) dX11_restore_7 rfl k
theorem t64_X11_restore_8 {E : En} {d : Nat} {κ : Kp} {I L : MI} {Z : Zt} {a0 : Nat} {a1 b0 b1 : Int}  (k : Ev E d M_X11_restore 9 [vr a0, vi a1, vu] [vl 1, vl b0, vl b1] κ I L Z) : Ev E d M_X11_restore 8 [vr a0, vi a1, vu] [vl b0, vl b1] κ I L Z := E_lconst (v := 1) dX11_restore_8 rfl k
theorem t64_X11_restore_9 {E : En} {d d' : Nat} {cs : Nat × Nat} {I L : MI} {Z : Zt} {a0 : Nat} {a1 b0 b1 b2 : Int} {P : Prop} {I' L' : MI} (hM : CB E d' M_X11_in [vl b2, vl b1, vl b0] I L P I' L') (hlt : d' + 1 ≤ d) (kt : P → Ev E d M_X11_restore 12 [vr a0, vi a1, vu] [vi 1] (G0, cs) I' L' Z) (kf : ¬ P → Ev E d M_X11_restore 12 [vr a0, vi a1, vu] [vi 0] (G0, cs) I' L' Z) (hc1 : cs.1 ≤ M_X11_restore.2.2.2.2.1 := by decide) (hc2 : cs.2 ≤ M_X11_restore.2.2.2.2.2 := by decide) : Ev E d M_X11_restore 9 [vr a0, vi a1, vu] [vl b0, vl b1, vl b2] (G0, cs) I L Z := E_callS (as := [vl b2, vl b1, vl b0]) (rest := []) (n := 3) hM dX11_restore_9 wM_RX11_68 wS_X11_in hlt wC_X11_in wI_X11 (by decide +kernel) rfl (by decide) (Nat.le_of_ble_eq_true rfl) hc1 hc2 rfl (fun r g' I2 L2 h => by obtain ⟨rfl, z, rfl, rfl, rfl, ⟨rfl, h⟩ | ⟨rfl, h⟩⟩ := h; exact kt h; exact kf h)
theorem t64_X11_restore_12 {E : En} {d : Nat} {κ : Kp} {I L : MI} {Z : Zt} {a0 : Nat} {a1 b0 : Int} (hx : Ir b0) (kt : ¬ b0 = 0 → Ev E d M_X11_restore 19 [vr a0, vi a1, vu] [] κ I L Z) (kf : b0 = 0 → Ev E d M_X11_restore 15 [vr a0, vi a1, vu] [] κ I L Z) : Ev E d M_X11_restore 12 [vr a0, vi a1, vu] [vi b0] κ I L Z := E_if_ne dX11_restore_12 hx kt kf (by decide)
theorem t64_X11_restore_19 {E : En} {d : Nat} {κ : Kp} {I L : MI} {Z : Zt} {a0 : Nat} {a1 : Int}  (k : Ev E d M_X11_restore 20 [vr a0, vi a1, vu] [vr a0] κ I L Z) : Ev E d M_X11_restore 19 [vr a0, vi a1, vu] [] κ I L Z := E_aload_n dX11_restore_19 rfl k
theorem t64_X11_restore_20 {E : En} {d : Nat} {κ : Kp} {I L : MI} {Z : Zt} {a0 b0 : Nat} {a1 : Int} {q : Nat} (hs : κ.1.1[b0]? = some (.inl 11)) (hq : κ.1.2 b0 25 = some q) (k : Ev E d M_X11_restore 23 [vr a0, vi a1, vu] [vr q] κ I L Z) : Ev E d M_X11_restore 20 [vr a0, vi a1, vu] [vr b0] κ I L Z := E_getR (ci := 11) (n := 25) dX11_restore_20 wF_RX11_44 (by decide) hs rfl hq k
theorem t64_X11_restore_23 {E : En} {d : Nat} {κ : Kp} {I L : MI} {Z : Zt} {a0 b0 : Nat} {a1 : Int}  (k : Ev E d M_X11_restore 24 [vr a0, vi a1, vu] [vi a1, vr b0] κ I L Z) : Ev E d M_X11_restore 23 [vr a0, vi a1, vu] [vr b0] κ I L Z := E_iload_n dX11_restore_23 rfl k
theorem t64_X11_restore_24 {E : En} {d : Nat} {κ : Kp} {I L : MI} {Z : Zt} {a0 b1 : Nat} {a1 b0 : Int} {n : Nat} (hs : κ.1.1[b1]? = some (.inr (2, n))) (h0 : 0 ≤ b0) (h1 : b0 < n) (hi : Ir b0) (k : Ir (I b1 b0) → Ev E d M_X11_restore 25 [vr a0, vi a1, vu] [vi (I b1 b0)] κ I L Z) : Ev E d M_X11_restore 24 [vr a0, vi a1, vu] [vi b0, vr b1] κ I L Z := E_zaldI dX11_restore_24 hs h0 h1 hi k
theorem t64_X11_restore_25 {E : En} {d : Nat} {κ : Kp} {I L : MI} {Z : Zt} {a0 : Nat} {a1 b0 : Int} (hx : Ir b0) (kt : ¬ b0 = 0 → Ev E d M_X11_restore 32 [vr a0, vi a1, vu] [] κ I L Z) (kf : b0 = 0 → Ev E d M_X11_restore 28 [vr a0, vi a1, vu] [] κ I L Z) : Ev E d M_X11_restore 25 [vr a0, vi a1, vu] [vi b0] κ I L Z := E_if_ne dX11_restore_25 hx kt kf (by decide)
theorem t64_X11_restore_32 {E : En} {d : Nat} {κ : Kp} {I L : MI} {Z : Zt} {a0 : Nat} {a1 : Int}  (k : Ev E d M_X11_restore 33 [vr a0, vi a1, vu] [vi 0] κ I L Z) : Ev E d M_X11_restore 32 [vr a0, vi a1, vu] [] κ I L Z := E_iconst (v := 0) dX11_restore_32 rfl k
theorem t64_X11_restore_33 {E : En} {d : Nat} {κ : Kp} {I L : MI} {Z : Zt} {a0 : Nat} {a1 b0 : Int}  (k : Ev E d M_X11_restore 34 [vr a0, vi a1, vi b0] [] κ I L Z) : Ev E d M_X11_restore 33 [vr a0, vi a1, vu] [vi b0] κ I L Z := E_istore_n dX11_restore_33 rfl (Nat.le_of_ble_eq_true rfl) k
theorem t64_X11_restore_28 {E : En} {d : Nat} {κ : Kp} {I L : MI} {Z : Zt} {a0 : Nat} {a1 : Int}  (k : Ev E d M_X11_restore 31 [vr a0, vi a1, vu] [vl (-9000000000000000002)] κ I L Z) : Ev E d M_X11_restore 28 [vr a0, vi a1, vu] [] κ I L Z := E_ldc2 (v := (-9000000000000000002)) dX11_restore_28 wK_RX11_239 k
theorem t64_X11_restore_31 {E : En} {d : Nat} {g : Geo} {I L : MI} {Q : Option AV → Geo → MI → MI → Prop} {cs : Nat × Nat} {a0 : Nat} {a1 b0 : Int} (hq : Q (some (vl b0)) g I L) (h1 : cs.1 ≤ M_X11_restore.2.2.2.2.1 := by decide) (h2 : cs.2 ≤ M_X11_restore.2.2.2.2.2 := by decide) : Ev E d M_X11_restore 31 [vr a0, vi a1, vu] [vl b0] (g, cs) I L (ZQ E M_X11_restore Q) := E_lreturn rfl dX11_restore_31 hq h1 h2
theorem t64_X11_restore_15 {E : En} {d : Nat} {κ : Kp} {I L : MI} {Z : Zt} {a0 : Nat} {a1 : Int}  (k : Ev E d M_X11_restore 18 [vr a0, vi a1, vu] [vl (-9000000000000000001)] κ I L Z) : Ev E d M_X11_restore 15 [vr a0, vi a1, vu] [] κ I L Z := E_ldc2 (v := (-9000000000000000001)) dX11_restore_15 wK_RX11_78 k
theorem t64_X11_restore_18 {E : En} {d : Nat} {g : Geo} {I L : MI} {Q : Option AV → Geo → MI → MI → Prop} {cs : Nat × Nat} {a0 : Nat} {a1 b0 : Int} (hq : Q (some (vl b0)) g I L) (h1 : cs.1 ≤ M_X11_restore.2.2.2.2.1 := by decide) (h2 : cs.2 ≤ M_X11_restore.2.2.2.2.2 := by decide) : Ev E d M_X11_restore 18 [vr a0, vi a1, vu] [vl b0] (g, cs) I L (ZQ E M_X11_restore Q) := E_lreturn rfl dX11_restore_18 hq h1 h2
/-! THE REFERENCE: image, restore -/
theorem cpI_0 (I : MI) (a b : Nat) (i j : Int) : cpI I a i b j 0 = I := by
  funext o x
  unfold cpI
  rw [if_neg (by omega)]
theorem cpI_s {I : MI} {a b : Nat} {i j n : Int} (h : 0 ≤ n) : up2 (cpI I a i b j n) b (j + n) (I a (i + n)) = cpI I a i b j (n + 1) := by
  funext o x
  unfold up2 cpI
  by_cases h1 : o = b
  · subst h1
    by_cases h2 : x = j + n
    · subst h2
      rw [if_pos ⟨rfl, rfl⟩, if_pos ⟨rfl, by omega, by omega⟩]
      congr 1
      omega
    · rw [if_neg (fun q => h2 q.2)]
      by_cases h3 : j ≤ x ∧ x < j + n
      · rw [if_pos ⟨rfl, h3⟩, if_pos ⟨rfl, by omega, by omega⟩]
      · rw [if_neg (fun q => h3 q.2), if_neg (by omega)]
  · rw [if_neg (fun q => h1 q.1), if_neg (fun q => h1 q.1), if_neg (fun q => h1 q.1)]
theorem cpI_n {I : MI} {a b o : Nat} {i j n x : Int} (h : o ≠ b ∨ x < j ∨ j + n ≤ x) : cpI I a i b j n o x = I o x := by
  unfold cpI
  rw [if_neg (by omega)]
theorem cpI_i {I : MI} {a b : Nat} {i j n x : Int} (h : j ≤ x ∧ x < j + n) : cpI I a i b j n b x = I a (i + (x - j)) := by
  unfold cpI
  rw [if_pos ⟨rfl, h⟩]
def rImgQ (I L : MI) (k : Int) : Int → MI → MI → Prop := fun z I' L' =>
  ((¬ (0 ≤ k ∧ k < 2) ∧ z = -9000000000000000001 ∧ I' = up2 I 78 0 0 ∧ L' = L) ∨
   ((0 ≤ k ∧ k < 2) ∧ I 78 7 = 0 ∧ z = -9000000000000000002 ∧ I' = up2 I 78 0 0 ∧ L' = L) ∨
   ((0 ≤ k ∧ k < 2) ∧ I 78 7 ≠ 0 ∧ z = 1 ∧ I' = up2 (cpI (up2 I 78 0 0) 82 0 91 (65 * k) 65) 90 k 1 ∧ L' = cpI L 84 0 92 (8 * k) 8))
theorem c_X11_image {E : En} {I L : MI} {k : Int} (hk : Ir k) : CQl E 4 M_X11_image [vr 78, vi k] I L (rImgQ I L k) := by
  have g82 : G0.1[82]? = some (.inr (0, 65)) := rfl
  have g84 : G0.1[84]? = some (.inr (3, 8)) := rfl
  have g90 : G0.1[90]? = some (.inr (2, 2)) := rfl
  have g91 : G0.1[91]? = some (.inr (0, 130)) := rfl
  have g92 : G0.1[92]? = some (.inr (3, 16)) := rfl
  have e7 : up2 I 78 0 0 78 7 = I 78 7 := up2_ne (.inr (by decide))
  refine CM_of' (al := [vr _, vi _, vu]) rfl (Nat.le_of_ble_eq_true rfl) rfl (fun hM => ?_)
  have sl : ∀ (f : Nat) (j : Int), j + f = 8 → 0 ≤ j → (0 ≤ k ∧ k < 2) → I 78 7 ≠ 0 → Ev E 4 M_X11_image 63 [vr 78, vi k, vi j] [] (G0, 0, 0) (cpI (up2 I 78 0 0) 82 0 91 (65 * k) 65) (cpI L 84 0 92 (8 * k) j) (ZQ E M_X11_image (QQl (rImgQ I L k))) := by
    intro f
    induction f with
    | zero =>
      intro j h1 h2 h3 h4
      have : j = 8 := by omega
      subst this
      refine (t64_X11_image_63 (t64_X11_image_64 (t64_X11_image_66 (by omega) (by omega) (fun c66 => (t64_X11_image_92 (t64_X11_image_93 (by first | assumption | rfl) (by first | assumption | rfl) (t64_X11_image_96 (t64_X11_image_97 (t64_X11_image_98 (by first | assumption | rfl) (by omega) (by omega) (by omega) (show Ir (1 : Int) from ⟨by decide, by decide⟩) (rfl) (t64_X11_image_99 (t64_X11_image_100 ?_)))))))) (fun c66 => ?_))))
      -- 2 leaves: 66t :ret100 | 66f :->69
      · exact qql (.inr (.inr ⟨h3, h4, rfl, rfl, rfl⟩))
      · omega
    | succ f ih =>
      intro j h1 h2 h3 h4
      have hr : cpI L 84 0 92 (8 * k) j 84 j = L 84 (0 + j) := by rw [cpI_n (.inl (by decide)), Int.zero_add]
      have hs := cpI_s (I := L) (a := 84) (b := 92) (i := 0) (j := 8 * k) h2
      rw [← hr] at hs
      have h := ih (j + 1) (by omega) (by omega) h3 h4
      rw [← hs] at h
      refine (t64_X11_image_63 (t64_X11_image_64 (t64_X11_image_66 (by omega) (by omega) (fun c66 => ?_) (fun c66 => (t64_X11_image_69 (t64_X11_image_70 (by first | assumption | rfl) (by first | assumption | rfl) (t64_X11_image_73 (t64_X11_image_75 (t64_X11_image_76 (t64_X11_image_77 (t64_X11_image_78 (t64_X11_image_79 (t64_X11_image_80 (by first | assumption | rfl) (by first | assumption | rfl) (t64_X11_image_83 (t64_X11_image_84 (by first | assumption | rfl) (by omega) (by omega) (by omega) (fun r84 => (t64_X11_image_85 (by first | assumption | rfl) (by omega) (by omega) (by omega) (by omega) (t64_X11_image_86 (t64_X11_image_89 ?_)))))))))))))))))))
      -- 2 leaves: 66t :->92 | 66f :->63
      · omega
      · exact h
  have tg : ∀ (f : Nat) (j : Int), j + f = 65 → 0 ≤ j → (0 ≤ k ∧ k < 2) → I 78 7 ≠ 0 → Ev E 4 M_X11_image 32 [vr 78, vi k, vi j] [] (G0, 0, 0) (cpI (up2 I 78 0 0) 82 0 91 (65 * k) j) L (ZQ E M_X11_image (QQl (rImgQ I L k))) := by
    intro f
    induction f with
    | zero =>
      intro j h1 h2 h3 h4
      have : j = 65 := by omega
      subst this
      refine (t64_X11_image_32 (t64_X11_image_33 (t64_X11_image_35 (by omega) (by omega) (fun c35 => (t64_X11_image_61 (t64_X11_image_62 ?_))) (fun c35 => ?_))))
      -- 2 leaves: 35t :->63 | 35f :->38
      · have h := sl 8 0 (by omega) (by omega) h3 h4
        rw [cpI_0] at h
        exact h
      · omega
    | succ f ih =>
      intro j h1 h2 h3 h4
      have hr : cpI (up2 I 78 0 0) 82 0 91 (65 * k) j 82 j = up2 I 78 0 0 82 (0 + j) := by rw [cpI_n (.inl (by decide)), Int.zero_add]
      have hs := cpI_s (I := up2 I 78 0 0) (a := 82) (b := 91) (i := 0) (j := 65 * k) h2
      rw [← hr] at hs
      have h := ih (j + 1) (by omega) (by omega) h3 h4
      rw [← hs] at h
      refine (t64_X11_image_32 (t64_X11_image_33 (t64_X11_image_35 (by omega) (by omega) (fun c35 => (t64_X11_image_61 (t64_X11_image_62 ?_))) (fun c35 => (t64_X11_image_38 (t64_X11_image_39 (by first | assumption | rfl) (by first | assumption | rfl) (t64_X11_image_42 (t64_X11_image_44 (t64_X11_image_45 (t64_X11_image_46 (t64_X11_image_47 (t64_X11_image_48 (t64_X11_image_49 (by first | assumption | rfl) (by first | assumption | rfl) (t64_X11_image_52 (t64_X11_image_53 (by first | assumption | rfl) (by omega) (by omega) (by omega) (fun r53 => (t64_X11_image_54 (by first | assumption | rfl) (by omega) (by omega) (by omega) (by omega) (t64_X11_image_55 (t64_X11_image_58 ?_)))))))))))))))))))
      -- 2 leaves: 35t :->63 | 35f :->32
      · omega
      · exact h
  refine (t64_X11_image_0 (t64_X11_image_1 (t64_X11_image_2 (by first | assumption | rfl) (by omega) (t64_X11_image_5 (t64_X11_image_6 (by omega) (t64_X11_image_7 (t64_X11_image_8 (t64_X11_image_9 c_X11_in (by first | decide | omega) (fun c9 => (t64_X11_image_12 (by decide) (fun _ => (t64_X11_image_19 (t64_X11_image_20 (by first | assumption | rfl) (fun r20 => (t64_X11_image_23 (by omega) (fun c23 => (t64_X11_image_30 (t64_X11_image_31 ?_))) (fun c23 => (t64_X11_image_26 (t64_X11_image_29 ?_)))))))) (fun h => absurd h (by decide)))) (fun c9 => (t64_X11_image_12 (by decide) (fun h => absurd rfl h) (fun _ => (t64_X11_image_15 (t64_X11_image_18 ?_)))))))))))))
  -- 3 leaves: 9T 23t :->32 | 9T 23f :ret29 | 9F :ret18
  · have h := tg 65 0 (by omega) (by omega) (by omega) (by omega)
    rw [cpI_0] at h
    exact h
  · exact qql (.inr (.inl ⟨by omega, by omega, rfl, rfl, rfl⟩))
  · exact qql (.inl ⟨by omega, rfl, rfl, rfl⟩)
def rRstQ (I L : MI) (k : Int) : Int → MI → MI → Prop := fun z I' L' =>
  ((¬ (0 ≤ k ∧ k < 2) ∧ z = -9000000000000000001 ∧ I' = up2 I 78 0 0 ∧ L' = L) ∨
   ((0 ≤ k ∧ k < 2) ∧ I 90 k = 0 ∧ z = -9000000000000000002 ∧ I' = up2 I 78 0 0 ∧ L' = L) ∨
   ((0 ≤ k ∧ k < 2) ∧ I 90 k ≠ 0 ∧ z = 1 ∧ I' = cpI (up2 I 78 0 0) 91 (65 * k) 82 0 65 ∧ L' = cpI L 92 (8 * k) 84 0 8))
theorem c_X11_restore {E : En} {I L : MI} {k : Int} (hk : Ir k) : CQl E 4 M_X11_restore [vr 78, vi k] I L (rRstQ I L k) := by
  have g82 : G0.1[82]? = some (.inr (0, 65)) := rfl
  have g84 : G0.1[84]? = some (.inr (3, 8)) := rfl
  have g90 : G0.1[90]? = some (.inr (2, 2)) := rfl
  have g91 : G0.1[91]? = some (.inr (0, 130)) := rfl
  have g92 : G0.1[92]? = some (.inr (3, 16)) := rfl
  have e90 : up2 I 78 0 0 90 k = I 90 k := up2_ne (.inl (by decide))
  refine CM_of' (al := [vr _, vi _, vu]) rfl (Nat.le_of_ble_eq_true rfl) rfl (fun hM => ?_)
  have sl : ∀ (f : Nat) (j : Int), j + f = 8 → 0 ≤ j → (0 ≤ k ∧ k < 2) → I 90 k ≠ 0 → Ev E 4 M_X11_restore 65 [vr 78, vi k, vi j] [] (G0, 0, 0) (cpI (up2 I 78 0 0) 91 (65 * k) 82 0 65) (cpI L 92 (8 * k) 84 0 j) (ZQ E M_X11_restore (QQl (rRstQ I L k))) := by
    intro f
    induction f with
    | zero =>
      intro j h1 h2 h3 h4
      have : j = 8 := by omega
      subst this
      refine (t64_X11_restore_65 (t64_X11_restore_66 (t64_X11_restore_68 (by omega) (by omega) (fun c68 => (t64_X11_restore_94 (t64_X11_restore_95 ?_))) (fun c68 => ?_))))
      -- 2 leaves: 68t :ret95 | 68f :->71
      · exact qql (.inr (.inr ⟨h3, h4, rfl, rfl, rfl⟩))
      · omega
    | succ f ih =>
      intro j h1 h2 h3 h4
      have hr : cpI L 92 (8 * k) 84 0 j 92 (8 * k + j) = L 92 (8 * k + j) := cpI_n (.inl (by decide))
      have hs := cpI_s (I := L) (a := 92) (b := 84) (i := 8 * k) (j := 0) h2
      rw [← hr, Int.zero_add] at hs
      have h := ih (j + 1) (by omega) (by omega) h3 h4
      rw [← hs] at h
      refine (t64_X11_restore_65 (t64_X11_restore_66 (t64_X11_restore_68 (by omega) (by omega) (fun c68 => (t64_X11_restore_94 (t64_X11_restore_95 ?_))) (fun c68 => (t64_X11_restore_71 (t64_X11_restore_72 (by first | assumption | rfl) (by first | assumption | rfl) (t64_X11_restore_75 (t64_X11_restore_76 (t64_X11_restore_77 (by first | assumption | rfl) (by first | assumption | rfl) (t64_X11_restore_80 (t64_X11_restore_82 (t64_X11_restore_83 (t64_X11_restore_84 (t64_X11_restore_85 (t64_X11_restore_86 (by first | assumption | rfl) (by omega) (by omega) (by omega) (fun r86 => (t64_X11_restore_87 (by first | assumption | rfl) (by omega) (by omega) (by omega) (by omega) (t64_X11_restore_88 (t64_X11_restore_91 ?_)))))))))))))))))))
      -- 2 leaves: 68t :ret95 | 68f :->65
      · omega
      · exact h
  have tg : ∀ (f : Nat) (j : Int), j + f = 65 → 0 ≤ j → (0 ≤ k ∧ k < 2) → I 90 k ≠ 0 → Ev E 4 M_X11_restore 34 [vr 78, vi k, vi j] [] (G0, 0, 0) (cpI (up2 I 78 0 0) 91 (65 * k) 82 0 j) L (ZQ E M_X11_restore (QQl (rRstQ I L k))) := by
    intro f
    induction f with
    | zero =>
      intro j h1 h2 h3 h4
      have : j = 65 := by omega
      subst this
      refine (t64_X11_restore_34 (t64_X11_restore_35 (t64_X11_restore_37 (by omega) (by omega) (fun c37 => (t64_X11_restore_63 (t64_X11_restore_64 ?_))) (fun c37 => ?_))))
      -- 2 leaves: 37t :->65 | 37f :->40
      · have h := sl 8 0 (by omega) (by omega) h3 h4
        rw [cpI_0] at h
        exact h
      · omega
    | succ f ih =>
      intro j h1 h2 h3 h4
      have hr : cpI (up2 I 78 0 0) 91 (65 * k) 82 0 j 91 (65 * k + j) = up2 I 78 0 0 91 (65 * k + j) := cpI_n (.inl (by decide))
      have hs := cpI_s (I := up2 I 78 0 0) (a := 91) (b := 82) (i := 65 * k) (j := 0) h2
      rw [← hr, Int.zero_add] at hs
      have h := ih (j + 1) (by omega) (by omega) h3 h4
      rw [← hs] at h
      refine (t64_X11_restore_34 (t64_X11_restore_35 (t64_X11_restore_37 (by omega) (by omega) (fun c37 => (t64_X11_restore_63 (t64_X11_restore_64 ?_))) (fun c37 => (t64_X11_restore_40 (t64_X11_restore_41 (by first | assumption | rfl) (by first | assumption | rfl) (t64_X11_restore_44 (t64_X11_restore_45 (t64_X11_restore_46 (by first | assumption | rfl) (by first | assumption | rfl) (t64_X11_restore_49 (t64_X11_restore_51 (t64_X11_restore_52 (t64_X11_restore_53 (t64_X11_restore_54 (t64_X11_restore_55 (by first | assumption | rfl) (by omega) (by omega) (by omega) (fun r55 => (t64_X11_restore_56 (by first | assumption | rfl) (by omega) (by omega) (by omega) (by omega) (t64_X11_restore_57 (t64_X11_restore_60 ?_)))))))))))))))))))
      -- 2 leaves: 37t :->65 | 37f :->34
      · omega
      · exact h
  refine (t64_X11_restore_0 (t64_X11_restore_1 (t64_X11_restore_2 (by first | assumption | rfl) (by omega) (t64_X11_restore_5 (t64_X11_restore_6 (by omega) (t64_X11_restore_7 (t64_X11_restore_8 (t64_X11_restore_9 c_X11_in (by first | decide | omega) (fun c9 => (t64_X11_restore_12 (by decide) (fun _ => (t64_X11_restore_19 (t64_X11_restore_20 (by first | assumption | rfl) (by first | assumption | rfl) (t64_X11_restore_23 (t64_X11_restore_24 (by first | assumption | rfl) (by omega) (by omega) (by omega) (fun r24 => (t64_X11_restore_25 (by omega) (fun c25 => (t64_X11_restore_32 (t64_X11_restore_33 ?_))) (fun c25 => (t64_X11_restore_28 (t64_X11_restore_31 ?_)))))))))) (fun h => absurd h (by decide)))) (fun c9 => (t64_X11_restore_12 (by decide) (fun h => absurd rfl h) (fun _ => (t64_X11_restore_15 (t64_X11_restore_18 ?_)))))))))))))
  -- 3 leaves: 9T 25t :->34 | 9T 25f :ret31 | 9F :ret18
  · have h := tg 65 0 (by omega) (by omega) (by omega) (by omega)
    rw [cpI_0] at h
    exact h
  · exact qql (.inr (.inl ⟨by omega, by omega, rfl, rfl, rfl⟩))
  · exact qql (.inl ⟨by omega, rfl, rfl, rfl⟩)
