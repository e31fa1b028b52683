theorem t70_X11_bits_4 {E : En} {d : Nat} {κ : Kp} {I L : MI} {Z : Zt} {a0 a1 a2 : Int}  (k : Ev E d M_X11_bits 5 [vi a0, vi a1, vi a2] [vi a2] κ I L Z) : Ev E d M_X11_bits 4 [vi a0, vi a1, vi a2] [] κ I L Z := E_iload_n dX11_bits_4 rfl k
theorem t70_X11_bits_5 {E : En} {d : Nat} {κ : Kp} {I L : MI} {Z : Zt} {a0 a1 a2 b0 : Int}  (k : Ev E d M_X11_bits 7 [vi a0, vi a1, vi a2] [vi 8, vi b0] κ I L Z) : Ev E d M_X11_bits 5 [vi a0, vi a1, vi a2] [vi b0] κ I L Z := E_bipush (v := 8) dX11_bits_5 rfl k
theorem t70_X11_bits_7 {E : En} {d : Nat} {κ : Kp} {I L : MI} {Z : Zt} {a0 a1 a2 b0 b1 : Int} (hx : Ir b1) (hy : Ir b0) (kt : b0 ≤ b1 → Ev E d M_X11_bits 24 [vi a0, vi a1, vi a2] [] κ I L Z) (kf : b1 < b0 → Ev E d M_X11_bits 10 [vi a0, vi a1, vi a2] [] κ I L Z) : Ev E d M_X11_bits 7 [vi a0, vi a1, vi a2] [vi b0, vi b1] κ I L Z := E_icmp_ge dX11_bits_7 hx hy kt kf (by decide)
theorem t70_X11_bits_24 {E : En} {d : Nat} {κ : Kp} {I L : MI} {Z : Zt} {a0 a1 a2 : Int}  (k : Ev E d M_X11_bits 25 [vi a0, vi a1, vi a2] [vi a1] κ I L Z) : Ev E d M_X11_bits 24 [vi a0, vi a1, vi a2] [] κ I L Z := E_iload_n dX11_bits_24 rfl k
theorem t70_X11_bits_25 {E : En} {d : Nat} {g : Geo} {I L : MI} {Q : Option AV → Geo → MI → MI → Prop} {cs : Nat × Nat} {a0 a1 a2 b0 : Int} (hq : Q (some (vi b0)) g I L) (h1 : cs.1 ≤ M_X11_bits.2.2.2.2.1 := by decide) (h2 : cs.2 ≤ M_X11_bits.2.2.2.2.2 := by decide) : Ev E d M_X11_bits 25 [vi a0, vi a1, vi a2] [vi b0] (g, cs) I L (ZQ E M_X11_bits Q) := E_ireturn rfl dX11_bits_25 hq h1 h2
theorem t70_X11_bits_10 {E : En} {d : Nat} {κ : Kp} {I L : MI} {Z : Zt} {a0 a1 a2 : Int}  (k : Ev E d M_X11_bits 11 [vi a0, vi a1, vi a2] [vi a1] κ I L Z) : Ev E d M_X11_bits 10 [vi a0, vi a1, vi a2] [] κ I L Z := E_iload_n dX11_bits_10 rfl k
theorem t70_X11_bits_11 {E : En} {d : Nat} {κ : Kp} {I L : MI} {Z : Zt} {a0 a1 a2 b0 : Int}  (k : Ev E d M_X11_bits 12 [vi a0, vi a1, vi a2] [vi a0, vi b0] κ I L Z) : Ev E d M_X11_bits 11 [vi a0, vi a1, vi a2] [vi b0] κ I L Z := E_iload_n dX11_bits_11 rfl k
theorem t70_X11_bits_12 {E : En} {d : Nat} {κ : Kp} {I L : MI} {Z : Zt} {a0 a1 a2 b0 b1 : Int}  (k : Ev E d M_X11_bits 13 [vi a0, vi a1, vi a2] [vi a2, vi b0, vi b1] κ I L Z) : Ev E d M_X11_bits 12 [vi a0, vi a1, vi a2] [vi b0, vi b1] κ I L Z := E_iload_n dX11_bits_12 rfl k
theorem t70_X11_bits_13 {E : En} {d : Nat} {κ : Kp} {I L : MI} {Z : Zt} {a0 a1 a2 b0 b1 b2 : Int} {z : Int} (hz : Int32.ofInt b1 >>> (Int32.ofInt b0 &&& 31) = Int32.ofInt z) (k : Ev E d M_X11_bits 14 [vi a0, vi a1, vi a2] [vi z, vi b2] κ I L Z) : Ev E d M_X11_bits 13 [vi a0, vi a1, vi a2] [vi b0, vi b1, vi b2] κ I L Z := E_ishr dX11_bits_13 hz k
theorem t70_X11_bits_14 {E : En} {d : Nat} {κ : Kp} {I L : MI} {Z : Zt} {a0 a1 a2 b0 b1 : Int}  (k : Ev E d M_X11_bits 15 [vi a0, vi a1, vi a2] [vi 1, vi b0, vi b1] κ I L Z) : Ev E d M_X11_bits 14 [vi a0, vi a1, vi a2] [vi b0, vi b1] κ I L Z := E_iconst (v := 1) dX11_bits_14 rfl k
theorem t70_X11_bits_15 {E : En} {d : Nat} {κ : Kp} {I L : MI} {Z : Zt} {a0 a1 a2 b0 b1 b2 : Int} {z : Int} (hz : Int32.ofInt b1 &&& Int32.ofInt b0 = Int32.ofInt z) (k : Ev E d M_X11_bits 16 [vi a0, vi a1, vi a2] [vi z, vi b2] κ I L Z) : Ev E d M_X11_bits 15 [vi a0, vi a1, vi a2] [vi b0, vi b1, vi b2] κ I L Z := E_iand dX11_bits_15 hz k
theorem t70_X11_bits_16 {E : En} {d : Nat} {κ : Kp} {I L : MI} {Z : Zt} {a0 a1 a2 b0 b1 : Int}  (k : Ev E d M_X11_bits 17 [vi a0, vi a1, vi a2] [vi (b1 + b0)] κ I L Z) : Ev E d M_X11_bits 16 [vi a0, vi a1, vi a2] [vi b0, vi b1] κ I L Z := E_iadd dX11_bits_16 k
theorem t70_X11_bits_17 {E : En} {d : Nat} {κ : Kp} {I L : MI} {Z : Zt} {a0 a1 a2 b0 : Int}  (k : Ev E d M_X11_bits 18 [vi a0, vi b0, vi a2] [] κ I L Z) : Ev E d M_X11_bits 17 [vi a0, vi a1, vi a2] [vi b0] κ I L Z := E_istore_n dX11_bits_17 rfl (Nat.le_of_ble_eq_true rfl) k
theorem t70_X11_bits_18 {E : En} {d : Nat} {κ : Kp} {I L : MI} {Z : Zt} {a0 a1 a2 : Int}  (k : Ev E d M_X11_bits 21 [vi a0, vi a1, vi (a2 + 1)] [] κ I L Z) : Ev E d M_X11_bits 18 [vi a0, vi a1, vi a2] [] κ I L Z := E_iinc dX11_bits_18 rfl rfl (Nat.le_of_ble_eq_true rfl) k
theorem t70_X11_bits_21 {E : En} {d : Nat} {κ : Kp} {I L : MI} {Z : Zt} {a0 a1 a2 : Int}  (k : Ev E d M_X11_bits 4 [vi a0, vi a1, vi a2] [] κ I L Z) : Ev E d M_X11_bits 21 [vi a0, vi a1, vi a2] [] κ I L Z := E_goto dX11_bits_21 (by decide) k
theorem t70_X11_bits_0 {E : En} {d : Nat} {κ : Kp} {I L : MI} {Z : Zt} {a0 : Int}  (k : Ev E d M_X11_bits 1 [vi a0, vu, vu] [vi 0] κ I L Z) : Ev E d M_X11_bits 0 [vi a0, vu, vu] [] κ I L Z := E_iconst (v := 0) dX11_bits_0 rfl k
theorem t70_X11_bits_1 {E : En} {d : Nat} {κ : Kp} {I L : MI} {Z : Zt} {a0 b0 : Int}  (k : Ev E d M_X11_bits 2 [vi a0, vi b0, vu] [] κ I L Z) : Ev E d M_X11_bits 1 [vi a0, vu, vu] [vi b0] κ I L Z := E_istore_n dX11_bits_1 rfl (Nat.le_of_ble_eq_true rfl) k
theorem t70_X11_bits_2 {E : En} {d : Nat} {κ : Kp} {I L : MI} {Z : Zt} {a0 a1 : Int}  (k : Ev E d M_X11_bits 3 [vi a0, vi a1, vu] [vi 0] κ I L Z) : Ev E d M_X11_bits 2 [vi a0, vi a1, vu] [] κ I L Z := E_iconst (v := 0) dX11_bits_2 rfl k
theorem t70_X11_bits_3 {E : En} {d : Nat} {κ : Kp} {I L : MI} {Z : Zt} {a0 a1 b0 : Int}  (k : Ev E d M_X11_bits 4 [vi a0, vi a1, vi b0] [] κ I L Z) : Ev E d M_X11_bits 3 [vi a0, vi a1, vu] [vi b0] κ I L Z := E_istore_n dX11_bits_3 rfl (Nat.le_of_ble_eq_true rfl) k
theorem t70_X11_doKnow_6 {E : En} {d : Nat} {κ : Kp} {I L : MI} {Z : Zt} {a0 : Nat} {a1 a3 a4 a6 : Int}  (k : Ev E d M_X11_doKnow 8 [vr a0, vl a1, vu, vi a3, vl a4, vu, vi a6, vu, vu] [vi a6] κ I L Z) : Ev E d M_X11_doKnow 6 [vr a0, vl a1, vu, vi a3, vl a4, vu, vi a6, vu, vu] [] κ I L Z := E_iload dX11_doKnow_6 rfl k
theorem t70_X11_doKnow_8 {E : En} {d : Nat} {κ : Kp} {I L : MI} {Z : Zt} {a0 : Nat} {a1 a3 a4 a6 b0 : Int}  (k : Ev E d M_X11_doKnow 10 [vr a0, vl a1, vu, vi a3, vl a4, vu, vi a6, vu, vu] [vi 8, vi b0] κ I L Z) : Ev E d M_X11_doKnow 8 [vr a0, vl a1, vu, vi a3, vl a4, vu, vi a6, vu, vu] [vi b0] κ I L Z := E_bipush (v := 8) dX11_doKnow_8 rfl k
theorem t70_X11_doKnow_10 {E : En} {d : Nat} {κ : Kp} {I L : MI} {Z : Zt} {a0 : Nat} {a1 a3 a4 a6 b0 b1 : Int} (hx : Ir b1) (hy : Ir b0) (kt : b0 ≤ b1 → Ev E d M_X11_doKnow 57 [vr a0, vl a1, vu, vi a3, vl a4, vu, vi a6, vu, vu] [] κ I L Z) (kf : b1 < b0 → Ev E d M_X11_doKnow 13 [vr a0, vl a1, vu, vi a3, vl a4, vu, vi a6, vu, vu] [] κ I L Z) : Ev E d M_X11_doKnow 10 [vr a0, vl a1, vu, vi a3, vl a4, vu, vi a6, vu, vu] [vi b0, vi b1] κ I L Z := E_icmp_ge dX11_doKnow_10 hx hy kt kf (by decide)
theorem t70_X11_doKnow_57 {E : En} {d : Nat} {κ : Kp} {I L : MI} {Z : Zt} {a0 : Nat} {a1 a3 a4 a6 : Int}  (k : Ev E d M_X11_doKnow 59 [vr a0, vl a1, vu, vi a3, vl a4, vu, vi a6, vu, vu] [vl a4] κ I L Z) : Ev E d M_X11_doKnow 57 [vr a0, vl a1, vu, vi a3, vl a4, vu, vi a6, vu, vu] [] κ I L Z := E_lload dX11_doKnow_57 rfl k
theorem t70_X11_doKnow_59 {E : En} {d : Nat} {κ : Kp} {I L : MI} {Z : Zt} {a0 : Nat} {a1 a3 a4 a6 b0 : Int}  (k : Ev E d M_X11_doKnow 60 [vr a0, vl a1, vu, vi a3, vl a4, vu, vi a6, vu, vu] [vl a1, vl b0] κ I L Z) : Ev E d M_X11_doKnow 59 [vr a0, vl a1, vu, vi a3, vl a4, vu, vi a6, vu, vu] [vl b0] κ I L Z := E_lload_n dX11_doKnow_59 rfl k
theorem t70_X11_doKnow_60 {E : En} {d : Nat} {κ : Kp} {I L : MI} {Z : Zt} {a0 : Nat} {a1 a3 a4 a6 b0 b1 : Int} (hx : Jr b1) (hy : Jr b0) (kt : ¬ b1 = b0 → Ev E d M_X11_doKnow 68 [vr a0, vl a1, vu, vi a3, vl a4, vu, vi a6, vu, vu] [] κ I L Z) (kf : b1 = b0 → Ev E d M_X11_doKnow 64 [vr a0, vl a1, vu, vi a3, vl a4, vu, vi a6, vu, vu] [] κ I L Z) : Ev E d M_X11_doKnow 60 [vr a0, vl a1, vu, vi a3, vl a4, vu, vi a6, vu, vu] [vl b0, vl b1] κ I L Z := E_lcmp_ne dX11_doKnow_60 dX11_doKnow_61 hx hy kt kf (by decide)
theorem t70_X11_doKnow_68 {E : En} {d : Nat} {κ : Kp} {I L : MI} {Z : Zt} {a0 : Nat} {a1 a3 a4 a6 : Int}  (k : Ev E d M_X11_doKnow 69 [vr a0, vl a1, vu, vi a3, vl a4, vu, vi a6, vu, vu] [vi 0] κ I L Z) : Ev E d M_X11_doKnow 68 [vr a0, vl a1, vu, vi a3, vl a4, vu, vi a6, vu, vu] [] κ I L Z := E_iconst (v := 0) dX11_doKnow_68 rfl k
theorem t70_X11_doKnow_69 {E : En} {d : Nat} {g : Geo} {I L : MI} {Q : Option AV → Geo → MI → MI → Prop} {cs : Nat × Nat} {a0 : Nat} {a1 a3 a4 a6 b0 : Int} (hz : b0 = 0 ∨ b0 = 1) (hq : Q (some (vi b0)) g I L) (h1 : cs.1 ≤ M_X11_doKnow.2.2.2.2.1 := by decide) (h2 : cs.2 ≤ M_X11_doKnow.2.2.2.2.2 := by decide) : Ev E d M_X11_doKnow 69 [vr a0, vl a1, vu, vi a3, vl a4, vu, vi a6, vu, vu] [vi b0] (g, cs) I L (ZQ E M_X11_doKnow Q) := E_zreturn rfl hz dX11_doKnow_69 hq h1 h2
theorem t70_X11_doKnow_64 {E : En} {d : Nat} {κ : Kp} {I L : MI} {Z : Zt} {a0 : Nat} {a1 a3 a4 a6 : Int}  (k : Ev E d M_X11_doKnow 65 [vr a0, vl a1, vu, vi a3, vl a4, vu, vi a6, vu, vu] [vi 1] κ I L Z) : Ev E d M_X11_doKnow 64 [vr a0, vl a1, vu, vi a3, vl a4, vu, vi a6, vu, vu] [] κ I L Z := E_iconst (v := 1) dX11_doKnow_64 rfl k
theorem t70_X11_doKnow_65 {E : En} {d : Nat} {κ : Kp} {I L : MI} {Z : Zt} {a0 : Nat} {a1 a3 a4 a6 b0 : Int}  (k : Ev E d M_X11_doKnow 69 [vr a0, vl a1, vu, vi a3, vl a4, vu, vi a6, vu, vu] [vi b0] κ I L Z) : Ev E d M_X11_doKnow 65 [vr a0, vl a1, vu, vi a3, vl a4, vu, vi a6, vu, vu] [vi b0] κ I L Z := E_goto dX11_doKnow_65 (by decide) k
theorem t70_X11_doKnow_13 {E : En} {d : Nat} {κ : Kp} {I L : MI} {Z : Zt} {a0 : Nat} {a1 a3 a4 a6 : Int}  (k : Ev E d M_X11_doKnow 14 [vr a0, vl a1, vu, vi a3, vl a4, vu, vi a6, vu, vu] [vi a3] κ I L Z) : Ev E d M_X11_doKnow 13 [vr a0, vl a1, vu, vi a3, vl a4, vu, vi a6, vu, vu] [] κ I L Z := E_iload_n dX11_doKnow_13 rfl k
theorem t70_X11_doKnow_14 {E : En} {d : Nat} {κ : Kp} {I L : MI} {Z : Zt} {a0 : Nat} {a1 a3 a4 a6 b0 : Int}  (k : Ev E d M_X11_doKnow 16 [vr a0, vl a1, vu, vi a3, vl a4, vu, vi a6, vu, vu] [vi a6, vi b0] κ I L Z) : Ev E d M_X11_doKnow 14 [vr a0, vl a1, vu, vi a3, vl a4, vu, vi a6, vu, vu] [vi b0] κ I L Z := E_iload dX11_doKnow_14 rfl k
theorem t70_X11_doKnow_16 {E : En} {d : Nat} {κ : Kp} {I L : MI} {Z : Zt} {a0 : Nat} {a1 a3 a4 a6 b0 b1 : Int} {z : Int} (hz : Int32.ofInt b1 >>> (Int32.ofInt b0 &&& 31) = Int32.ofInt z) (k : Ev E d M_X11_doKnow 17 [vr a0, vl a1, vu, vi a3, vl a4, vu, vi a6, vu, vu] [vi z] κ I L Z) : Ev E d M_X11_doKnow 16 [vr a0, vl a1, vu, vi a3, vl a4, vu, vi a6, vu, vu] [vi b0, vi b1] κ I L Z := E_ishr dX11_doKnow_16 hz k
theorem t70_X11_doKnow_17 {E : En} {d : Nat} {κ : Kp} {I L : MI} {Z : Zt} {a0 : Nat} {a1 a3 a4 a6 b0 : Int}  (k : Ev E d M_X11_doKnow 18 [vr a0, vl a1, vu, vi a3, vl a4, vu, vi a6, vu, vu] [vi 1, vi b0] κ I L Z) : Ev E d M_X11_doKnow 17 [vr a0, vl a1, vu, vi a3, vl a4, vu, vi a6, vu, vu] [vi b0] κ I L Z := E_iconst (v := 1) dX11_doKnow_17 rfl k
theorem t70_X11_doKnow_18 {E : En} {d : Nat} {κ : Kp} {I L : MI} {Z : Zt} {a0 : Nat} {a1 a3 a4 a6 b0 b1 : Int} {z : Int} (hz : Int32.ofInt b1 &&& Int32.ofInt b0 = Int32.ofInt z) (k : Ev E d M_X11_doKnow 19 [vr a0, vl a1, vu, vi a3, vl a4, vu, vi a6, vu, vu] [vi z] κ I L Z) : Ev E d M_X11_doKnow 18 [vr a0, vl a1, vu, vi a3, vl a4, vu, vi a6, vu, vu] [vi b0, vi b1] κ I L Z := E_iand dX11_doKnow_18 hz k
theorem t70_X11_doKnow_19 {E : En} {d : Nat} {κ : Kp} {I L : MI} {Z : Zt} {a0 : Nat} {a1 a3 a4 a6 b0 : Int}  (k : Ev E d M_X11_doKnow 20 [vr a0, vl a1, vu, vi a3, vl a4, vu, vi a6, vu, vu] [vi 1, vi b0] κ I L Z) : Ev E d M_X11_doKnow 19 [vr a0, vl a1, vu, vi a3, vl a4, vu, vi a6, vu, vu] [vi b0] κ I L Z := E_iconst (v := 1) dX11_doKnow_19 rfl k
theorem t70_X11_doKnow_20 {E : En} {d : Nat} {κ : Kp} {I L : MI} {Z : Zt} {a0 : Nat} {a1 a3 a4 a6 b0 b1 : Int} (hx : Ir b1) (hy : Ir b0) (kt : ¬ b1 = b0 → Ev E d M_X11_doKnow 51 [vr a0, vl a1, vu, vi a3, vl a4, vu, vi a6, vu, vu] [] κ I L Z) (kf : b1 = b0 → Ev E d M_X11_doKnow 23 [vr a0, vl a1, vu, vi a3, vl a4, vu, vi a6, vu, vu] [] κ I L Z) : Ev E d M_X11_doKnow 20 [vr a0, vl a1, vu, vi a3, vl a4, vu, vi a6, vu, vu] [vi b0, vi b1] κ I L Z := E_icmp_ne dX11_doKnow_20 hx hy kt kf (by decide)
theorem t70_X11_doKnow_51 {E : En} {d : Nat} {κ : Kp} {I L : MI} {Z : Zt} {a0 : Nat} {a1 a3 a4 a6 : Int}  (k : Ev E d M_X11_doKnow 54 [vr a0, vl a1, vu, vi a3, vl a4, vu, vi (a6 + 1), vu, vu] [] κ I L Z) : Ev E d M_X11_doKnow 51 [vr a0, vl a1, vu, vi a3, vl a4, vu, vi a6, vu, vu] [] κ I L Z := E_iinc dX11_doKnow_51 rfl rfl (Nat.le_of_ble_eq_true rfl) k
theorem t70_X11_doKnow_54 {E : En} {d : Nat} {κ : Kp} {I L : MI} {Z : Zt} {a0 : Nat} {a1 a3 a4 a6 : Int}  (k : Ev E d M_X11_doKnow 6 [vr a0, vl a1, vu, vi a3, vl a4, vu, vi a6, vu, vu] [] κ I L Z) : Ev E d M_X11_doKnow 54 [vr a0, vl a1, vu, vi a3, vl a4, vu, vi a6, vu, vu] [] κ I L Z := E_goto dX11_doKnow_54 (by decide) k
theorem t70_X11_doKnow_23 {E : En} {d : Nat} {κ : Kp} {I L : MI} {Z : Zt} {a0 : Nat} {a1 a3 a4 a6 : Int}  (k : Ev E d M_X11_doKnow 24 [vr a0, vl a1, vu, vi a3, vl a4, vu, vi a6, vu, vu] [vl a1] κ I L Z) : Ev E d M_X11_doKnow 23 [vr a0, vl a1, vu, vi a3, vl a4, vu, vi a6, vu, vu] [] κ I L Z := E_lload_n dX11_doKnow_23 rfl k
theorem t70_X11_doKnow_24 {E : En} {d : Nat} {κ : Kp} {I L : MI} {Z : Zt} {a0 : Nat} {a1 a3 a4 a6 b0 : Int}  (k : Ev E d M_X11_doKnow 25 [vr a0, vl a1, vu, vi a3, vl a4, vu, vi a6, vu, vu] [vr a0, vl b0] κ I L Z) : Ev E d M_X11_doKnow 24 [vr a0, vl a1, vu, vi a3, vl a4, vu, vi a6, vu, vu] [vl b0] κ I L Z := E_aload_n dX11_doKnow_24 rfl k
theorem t70_X11_doKnow_25 {E : En} {d : Nat} {κ : Kp} {I L : MI} {Z : Zt} {a0 b0 : Nat} {a1 a3 a4 a6 b1 : Int} {q : Nat} (hs : κ.1.1[b0]? = some (.inl 11)) (hq : κ.1.2 b0 8 = some q) (k : Ev E d M_X11_doKnow 28 [vr a0, vl a1, vu, vi a3, vl a4, vu, vi a6, vu, vu] [vr q, vl b1] κ I L Z) : Ev E d M_X11_doKnow 25 [vr a0, vl a1, vu, vi a3, vl a4, vu, vi a6, vu, vu] [vr b0, vl b1] κ I L Z := E_getR (ci := 11) (n := 8) dX11_doKnow_25 wF_RX11_25 (by decide) hs rfl hq k
theorem t70_X11_doKnow_28 {E : En} {d : Nat} {κ : Kp} {I L : MI} {Z : Zt} {a0 b0 : Nat} {a1 a3 a4 a6 b1 : Int}  (k : Ev E d M_X11_doKnow 30 [vr a0, vl a1, vu, vi a3, vl a4, vu, vi a6, vu, vu] [vi a6, vr b0, vl b1] κ I L Z) : Ev E d M_X11_doKnow 28 [vr a0, vl a1, vu, vi a3, vl a4, vu, vi a6, vu, vu] [vr b0, vl b1] κ I L Z := E_iload dX11_doKnow_28 rfl k
theorem t70_X11_doKnow_30 {E : En} {d : Nat} {κ : Kp} {I L : MI} {Z : Zt} {a0 b1 : Nat} {a1 a3 a4 a6 b0 b2 : Int} {n : Nat} (hs : κ.1.1[b1]? = some (.inr (3, n))) (h0 : 0 ≤ b0) (h1 : b0 < n) (hi : Ir b0) (k : Jr (L b1 b0) → Ev E d M_X11_doKnow 31 [vr a0, vl a1, vu, vi a3, vl a4, vu, vi a6, vu, vu] [vl (L b1 b0), vl b2] κ I L Z) : Ev E d M_X11_doKnow 30 [vr a0, vl a1, vu, vi a3, vl a4, vu, vi a6, vu, vu] [vi b0, vr b1, vl b2] κ I L Z := E_laldI dX11_doKnow_30 hs h0 h1 hi k
theorem t70_X11_doKnow_31 {E : En} {d d' : Nat} {cs : Nat × Nat} {I L : MI} {Z : Zt} {a0 : Nat} {a1 a3 a4 a6 b0 b1 : Int} {z : Int} {I' L' : MI} (hM : CFl E d' M_X11_shared [vl b1, vl b0] I L z I' L') (hlt : d' + 1 ≤ d) (k : Jr z → Ev E d M_X11_doKnow 34 [vr a0, vl a1, vu, vi a3, vl a4, vu, vi a6, vu, vu] [vl z] (G0, cs) I' L' Z) (hc1 : cs.1 ≤ M_X11_doKnow.2.2.2.2.1 := by decide) (hc2 : cs.2 ≤ M_X11_doKnow.2.2.2.2.2 := by decide) : Ev E d M_X11_doKnow 31 [vr a0, vl a1, vu, vi a3, vl a4, vu, vi a6, vu, vu] [vl b0, vl b1] (G0, cs) I L Z := E_callS (as := [vl b1, vl b0]) (rest := []) (n := 2) hM dX11_doKnow_31 wM_RX11_241 wS_X11_shared hlt wC_X11_shared wI_X11 (by decide +kernel) rfl (by decide) (Nat.le_of_ble_eq_true rfl) hc1 hc2 rfl (fun r g' I2 L2 h => by obtain ⟨rfl, z, rfl, hr, rfl, rfl, rfl⟩ := h; exact k hr)
theorem t70_X11_doKnow_34 {E : En} {d : Nat} {κ : Kp} {I L : MI} {Z : Zt} {a0 : Nat} {a1 a3 a4 a6 b0 : Int}  (k : Ev E d M_X11_doKnow 36 [vr a0, vl a1, vu, vi a3, vl a4, vu, vi a6, vl b0, vu] [] κ I L Z) : Ev E d M_X11_doKnow 34 [vr a0, vl a1, vu, vi a3, vl a4, vu, vi a6, vu, vu] [vl b0] κ I L Z := E_lstore dX11_doKnow_34 rfl (Nat.le_of_ble_eq_true rfl) k
theorem t70_X11_doKnow_36 {E : En} {d : Nat} {κ : Kp} {I L : MI} {Z : Zt} {a0 : Nat} {a1 a3 a4 a6 a7 : Int}  (k : Ev E d M_X11_doKnow 38 [vr a0, vl a1, vu, vi a3, vl a4, vu, vi a6, vl a7, vu] [vl a4] κ I L Z) : Ev E d M_X11_doKnow 36 [vr a0, vl a1, vu, vi a3, vl a4, vu, vi a6, vl a7, vu] [] κ I L Z := E_lload dX11_doKnow_36 rfl k
theorem t70_X11_doKnow_38 {E : En} {d : Nat} {κ : Kp} {I L : MI} {Z : Zt} {a0 : Nat} {a1 a3 a4 a6 a7 b0 : Int}  (k : Ev E d M_X11_doKnow 40 [vr a0, vl a1, vu, vi a3, vl a4, vu, vi a6, vl a7, vu] [vl a7, vl b0] κ I L Z) : Ev E d M_X11_doKnow 38 [vr a0, vl a1, vu, vi a3, vl a4, vu, vi a6, vl a7, vu] [vl b0] κ I L Z := E_lload dX11_doKnow_38 rfl k
theorem t70_X11_doKnow_40 {E : En} {d : Nat} {κ : Kp} {I L : MI} {Z : Zt} {a0 : Nat} {a1 a3 a4 a6 a7 b0 b1 : Int}  (k : Ev E d M_X11_doKnow 42 [vr a0, vl a1, vu, vi a3, vl a4, vu, vi a6, vl a7, vu] [vl a4, vl b0, vl b1] κ I L Z) : Ev E d M_X11_doKnow 40 [vr a0, vl a1, vu, vi a3, vl a4, vu, vi a6, vl a7, vu] [vl b0, vl b1] κ I L Z := E_lload dX11_doKnow_40 rfl k
theorem t70_X11_doKnow_42 {E : En} {d : Nat} {κ : Kp} {I L : MI} {Z : Zt} {a0 : Nat} {a1 a3 a4 a6 a7 b0 b1 b2 : Int}  (k : Ev E d M_X11_doKnow 44 [vr a0, vl a1, vu, vi a3, vl a4, vu, vi a6, vl a7, vu] [vl a7, vl b0, vl b1, vl b2] κ I L Z) : Ev E d M_X11_doKnow 42 [vr a0, vl a1, vu, vi a3, vl a4, vu, vi a6, vl a7, vu] [vl b0, vl b1, vl b2] κ I L Z := E_lload dX11_doKnow_42 rfl k
theorem t70_X11_doKnow_44 {E : En} {d d' : Nat} {cs : Nat × Nat} {I L : MI} {Z : Zt} {a0 : Nat} {a1 a3 a4 a6 a7 b0 b1 b2 b3 : Int} {z : Int} {I' L' : MI} (hM : CFl E d' M_X11_shared [vl b1, vl b0] I L z I' L') (hlt : d' + 1 ≤ d) (k : Jr z → Ev E d M_X11_doKnow 47 [vr a0, vl a1, vu, vi a3, vl a4, vu, vi a6, vl a7, vu] [vl z, vl b2, vl b3] (G0, cs) I' L' Z) (hc1 : cs.1 ≤ M_X11_doKnow.2.2.2.2.1 := by decide) (hc2 : cs.2 ≤ M_X11_doKnow.2.2.2.2.2 := by decide) : Ev E d M_X11_doKnow 44 [vr a0, vl a1, vu, vi a3, vl a4, vu, vi a6, vl a7, vu] [vl b0, vl b1, vl b2, vl b3] (G0, cs) I L Z := E_callS (as := [vl b1, vl b0]) (rest := [vl b2, vl b3]) (n := 2) hM dX11_doKnow_44 wM_RX11_241 wS_X11_shared hlt wC_X11_shared wI_X11 (by decide +kernel) rfl (by decide) (Nat.le_of_ble_eq_true rfl) hc1 hc2 rfl (fun r g' I2 L2 h => by obtain ⟨rfl, z, rfl, hr, rfl, rfl, rfl⟩ := h; exact k hr)
theorem t70_X11_doKnow_47 {E : En} {d : Nat} {κ : Kp} {I L : MI} {Z : Zt} {a0 : Nat} {a1 a3 a4 a6 a7 b0 b1 b2 : Int} (hx : Jr b1) (hy : Jr b0) (h0 : b0 ≠ 0) (hm : b0 ≠ -1) (k : Ev E d M_X11_doKnow 48 [vr a0, vl a1, vu, vi a3, vl a4, vu, vi a6, vl a7, vu] [vl (b1.tdiv b0), vl b2] κ I L Z) : Ev E d M_X11_doKnow 47 [vr a0, vl a1, vu, vi a3, vl a4, vu, vi a6, vl a7, vu] [vl b0, vl b1, vl b2] κ I L Z := E_ldiv dX11_doKnow_47 hx hy h0 hm k
theorem t70_X11_doKnow_48 {E : En} {d : Nat} {κ : Kp} {I L : MI} {Z : Zt} {a0 : Nat} {a1 a3 a4 a6 a7 b0 b1 : Int}  (k : Ev E d M_X11_doKnow 49 [vr a0, vl a1, vu, vi a3, vl a4, vu, vi a6, vl a7, vu] [vl (b1 * b0)] κ I L Z) : Ev E d M_X11_doKnow 48 [vr a0, vl a1, vu, vi a3, vl a4, vu, vi a6, vl a7, vu] [vl b0, vl b1] κ I L Z := E_lmul dX11_doKnow_48 k
theorem t70_X11_doKnow_49 {E : En} {d : Nat} {κ : Kp} {I L : MI} {Z : Zt} {a0 : Nat} {a1 a3 a4 a6 a7 b0 : Int}  (k : Ev E d M_X11_doKnow 51 [vr a0, vl a1, vu, vi a3, vl b0, vu, vi a6, vl a7, vu] [] κ I L Z) : Ev E d M_X11_doKnow 49 [vr a0, vl a1, vu, vi a3, vl a4, vu, vi a6, vl a7, vu] [vl b0] κ I L Z := E_lstore dX11_doKnow_49 rfl (Nat.le_of_ble_eq_true rfl) k
theorem t70_X11_doKnow_51v1 {E : En} {d : Nat} {κ : Kp} {I L : MI} {Z : Zt} {a0 : Nat} {a1 a3 a4 a6 a7 : Int}  (k : Ev E d M_X11_doKnow 54 [vr a0, vl a1, vu, vi a3, vl a4, vu, vi (a6 + 1), vl a7, vu] [] κ I L Z) : Ev E d M_X11_doKnow 51 [vr a0, vl a1, vu, vi a3, vl a4, vu, vi a6, vl a7, vu] [] κ I L Z := E_iinc dX11_doKnow_51 rfl rfl (Nat.le_of_ble_eq_true rfl) k
theorem t70_X11_doKnow_54v1 {E : En} {d : Nat} {κ : Kp} {I L : MI} {Z : Zt} {a0 : Nat} {a1 a3 a4 a6 a7 : Int}  (k : Ev E d M_X11_doKnow 6 [vr a0, vl a1, vu, vi a3, vl a4, vu, vi a6, vl a7, vu] [] κ I L Z) : Ev E d M_X11_doKnow 54 [vr a0, vl a1, vu, vi a3, vl a4, vu, vi a6, vl a7, vu] [] κ I L Z := E_goto dX11_doKnow_54 (by decide) k
theorem t70_X11_doKnow_0 {E : En} {d : Nat} {κ : Kp} {I L : MI} {Z : Zt} {a0 : Nat} {a1 a3 : Int}  (k : Ev E d M_X11_doKnow 1 [vr a0, vl a1, vu, vi a3, vu, vu, vu, vu, vu] [vl 1] κ I L Z) : Ev E d M_X11_doKnow 0 [vr a0, vl a1, vu, vi a3, vu, vu, vu, vu, vu] [] κ I L Z := E_lconst (v := 1) dX11_doKnow_0 rfl k
theorem t70_X11_doKnow_1 {E : En} {d : Nat} {κ : Kp} {I L : MI} {Z : Zt} {a0 : Nat} {a1 a3 b0 : Int}  (k : Ev E d M_X11_doKnow 3 [vr a0, vl a1, vu, vi a3, vl b0, vu, vu, vu, vu] [] κ I L Z) : Ev E d M_X11_doKnow 1 [vr a0, vl a1, vu, vi a3, vu, vu, vu, vu, vu] [vl b0] κ I L Z := E_lstore dX11_doKnow_1 rfl (Nat.le_of_ble_eq_true rfl) k
theorem t70_X11_doKnow_3 {E : En} {d : Nat} {κ : Kp} {I L : MI} {Z : Zt} {a0 : Nat} {a1 a3 a4 : Int}  (k : Ev E d M_X11_doKnow 4 [vr a0, vl a1, vu, vi a3, vl a4, vu, vu, vu, vu] [vi 0] κ I L Z) : Ev E d M_X11_doKnow 3 [vr a0, vl a1, vu, vi a3, vl a4, vu, vu, vu, vu] [] κ I L Z := E_iconst (v := 0) dX11_doKnow_3 rfl k
theorem t70_X11_doKnow_4 {E : En} {d : Nat} {κ : Kp} {I L : MI} {Z : Zt} {a0 : Nat} {a1 a3 a4 b0 : Int}  (k : Ev E d M_X11_doKnow 6 [vr a0, vl a1, vu, vi a3, vl a4, vu, vi b0, vu, vu] [] κ I L Z) : Ev E d M_X11_doKnow 4 [vr a0, vl a1, vu, vi a3, vl a4, vu, vu, vu, vu] [vi b0] κ I L Z := E_istore dX11_doKnow_4 rfl (Nat.le_of_ble_eq_true rfl) k
theorem t70_X11_secret_99 {E : En} {d : Nat} {κ : Kp} {I L : MI} {Z : Zt} {a0 : Nat} {a1 a2 a3 a4 a5 : Int}  (k : Ev E d M_X11_secret 101 [vr a0, vi a1, vi a2, vi a3, vi a4, vi a5, vu] [vi a5] κ I L Z) : Ev E d M_X11_secret 99 [vr a0, vi a1, vi a2, vi a3, vi a4, vi a5, vu] [] κ I L Z := E_iload dX11_secret_99 rfl k
theorem t70_X11_secret_101 {E : En} {d : Nat} {κ : Kp} {I L : MI} {Z : Zt} {a0 : Nat} {a1 a2 a3 a4 a5 b0 : Int}  (k : Ev E d M_X11_secret 104 [vr a0, vi a1, vi a2, vi a3, vi a4, vi a5, vu] [vi 256, vi b0] κ I L Z) : Ev E d M_X11_secret 101 [vr a0, vi a1, vi a2, vi a3, vi a4, vi a5, vu] [vi b0] κ I L Z := E_sipush (v := 256) dX11_secret_101 rfl k
theorem t70_X11_secret_104 {E : En} {d : Nat} {κ : Kp} {I L : MI} {Z : Zt} {a0 : Nat} {a1 a2 a3 a4 a5 b0 b1 : Int} (hx : Ir b1) (hy : Ir b0) (kt : b0 ≤ b1 → Ev E d M_X11_secret 178 [vr a0, vi a1, vi a2, vi a3, vi a4, vi a5, vu] [] κ I L Z) (kf : b1 < b0 → Ev E d M_X11_secret 107 [vr a0, vi a1, vi a2, vi a3, vi a4, vi a5, vu] [] κ I L Z) : Ev E d M_X11_secret 104 [vr a0, vi a1, vi a2, vi a3, vi a4, vi a5, vu] [vi b0, vi b1] κ I L Z := E_icmp_ge dX11_secret_104 hx hy kt kf (by decide)
theorem t70_X11_secret_178 {E : En} {d : Nat} {κ : Kp} {I L : MI} {Z : Zt} {a0 : Nat} {a1 a2 a3 a4 a5 : Int}  (k : Ev E d M_X11_secret 180 [vr a0, vi a1, vi a2, vi a3, vi a4, vi a5, vu] [vi a4] κ I L Z) : Ev E d M_X11_secret 178 [vr a0, vi a1, vi a2, vi a3, vi a4, vi a5, vu] [] κ I L Z := E_iload dX11_secret_178 rfl k
theorem t70_X11_secret_180 {E : En} {d : Nat} {κ : Kp} {I L : MI} {Z : Zt} {a0 : Nat} {a1 a2 a3 a4 a5 b0 : Int} (hx : Ir b0) (k : Ev E d M_X11_secret 181 [vr a0, vi a1, vi a2, vi a3, vi a4, vi a5, vu] [vl b0] κ I L Z) : Ev E d M_X11_secret 180 [vr a0, vi a1, vi a2, vi a3, vi a4, vi a5, vu] [vi b0] κ I L Z := E_i2l dX11_secret_180 hx k
theorem t70_X11_secret_181 {E : En} {d : Nat} {g : Geo} {I L : MI} {Q : Option AV → Geo → MI → MI → Prop} {cs : Nat × Nat} {a0 : Nat} {a1 a2 a3 a4 a5 b0 : Int} (hq : Q (some (vl b0)) g I L) (h1 : cs.1 ≤ M_X11_secret.2.2.2.2.1 := by decide) (h2 : cs.2 ≤ M_X11_secret.2.2.2.2.2 := by decide) : Ev E d M_X11_secret 181 [vr a0, vi a1, vi a2, vi a3, vi a4, vi a5, vu] [vl b0] (g, cs) I L (ZQ E M_X11_secret Q) := E_lreturn rfl dX11_secret_181 hq h1 h2
theorem t70_X11_secret_136 {E : En} {d : Nat} {κ : Kp} {I L : MI} {Z : Zt} {a0 : Nat} {a1 a2 a3 a4 a5 : Int}  (k : Ev E d M_X11_secret 137 [vr a0, vi a1, vi a2, vi a3, vi a4, vi a5, vu] [vr a0] κ I L Z) : Ev E d M_X11_secret 136 [vr a0, vi a1, vi a2, vi a3, vi a4, vi a5, vu] [] κ I L Z := E_aload_n dX11_secret_136 rfl k
theorem t70_X11_secret_137 {E : En} {d : Nat} {κ : Kp} {I L : MI} {Z : Zt} {a0 b0 : Nat} {a1 a2 a3 a4 a5 : Int}  (k : Ev E d M_X11_secret 138 [vr a0, vi a1, vi a2, vi a3, vi a4, vi a5, vu] [vr a0, vr b0] κ I L Z) : Ev E d M_X11_secret 137 [vr a0, vi a1, vi a2, vi a3, vi a4, vi a5, vu] [vr b0] κ I L Z := E_aload_n dX11_secret_137 rfl k
theorem t70_X11_secret_138 {E : En} {d : Nat} {κ : Kp} {I L : MI} {Z : Zt} {a0 b0 b1 : Nat} {a1 a2 a3 a4 a5 : Int} {q : Nat} (hs : κ.1.1[b0]? = some (.inl 11)) (hq : κ.1.2 b0 8 = some q) (k : Ev E d M_X11_secret 141 [vr a0, vi a1, vi a2, vi a3, vi a4, vi a5, vu] [vr q, vr b1] κ I L Z) : Ev E d M_X11_secret 138 [vr a0, vi a1, vi a2, vi a3, vi a4, vi a5, vu] [vr b0, vr b1] κ I L Z := E_getR (ci := 11) (n := 8) dX11_secret_138 wF_RX11_25 (by decide) hs rfl hq k
theorem t70_X11_secret_141 {E : En} {d : Nat} {κ : Kp} {I L : MI} {Z : Zt} {a0 b0 b1 : Nat} {a1 a2 a3 a4 a5 : Int}  (k : Ev E d M_X11_secret 142 [vr a0, vi a1, vi a2, vi a3, vi a4, vi a5, vu] [vi a1, vr b0, vr b1] κ I L Z) : Ev E d M_X11_secret 141 [vr a0, vi a1, vi a2, vi a3, vi a4, vi a5, vu] [vr b0, vr b1] κ I L Z := E_iload_n dX11_secret_141 rfl k
theorem t70_X11_secret_142 {E : En} {d : Nat} {κ : Kp} {I L : MI} {Z : Zt} {a0 b1 b2 : Nat} {a1 a2 a3 a4 a5 b0 : Int} {n : Nat} (hs : κ.1.1[b1]? = some (.inr (3, n))) (h0 : 0 ≤ b0) (h1 : b0 < n) (hi : Ir b0) (k : Jr (L b1 b0) → Ev E d M_X11_secret 143 [vr a0, vi a1, vi a2, vi a3, vi a4, vi a5, vu] [vl (L b1 b0), vr b2] κ I L Z) : Ev E d M_X11_secret 142 [vr a0, vi a1, vi a2, vi a3, vi a4, vi a5, vu] [vi b0, vr b1, vr b2] κ I L Z := E_laldI dX11_secret_142 hs h0 h1 hi k
theorem t70_X11_secret_143 {E : En} {d : Nat} {κ : Kp} {I L : MI} {Z : Zt} {a0 b1 : Nat} {a1 a2 a3 a4 a5 b0 : Int}  (k : Ev E d M_X11_secret 145 [vr a0, vi a1, vi a2, vi a3, vi a4, vi a5, vu] [vi a5, vl b0, vr b1] κ I L Z) : Ev E d M_X11_secret 143 [vr a0, vi a1, vi a2, vi a3, vi a4, vi a5, vu] [vl b0, vr b1] κ I L Z := E_iload dX11_secret_143 rfl k
theorem t70_X11_secret_145 {E : En} {d d' : Nat} {cs : Nat × Nat} {I L : MI} {Z : Zt} {a0 b2 : Nat} {a1 a2 a3 a4 a5 b0 b1 : Int} {P : Prop} {I' L' : MI} (hs : G0.1[b2]? = some (.inl 11)) (hM : CB E d' M_X11_doKnow [vr b2, vl b1, vi b0] I L P I' L') (hlt : d' + 1 ≤ d) (kt : P → Ev E d M_X11_secret 148 [vr a0, vi a1, vi a2, vi a3, vi a4, vi a5, vu] [vi 1] (G0, cs) I' L' Z) (kf : ¬ P → Ev E d M_X11_secret 148 [vr a0, vi a1, vi a2, vi a3, vi a4, vi a5, vu] [vi 0] (G0, cs) I' L' Z) (hc1 : cs.1 ≤ M_X11_secret.2.2.2.2.1 := by decide) (hc2 : cs.2 ≤ M_X11_secret.2.2.2.2.2 := by decide) : Ev E d M_X11_secret 145 [vr a0, vi a1, vi a2, vi a3, vi a4, vi a5, vu] [vi b0, vl b1, vr b2] (G0, cs) I L Z := E_callV (as := [vl b1, vi b0]) (rest := []) (n := 2) hM dX11_secret_145 wM_RX11_276 wS_X11_doKnow wV_X11_doKnow hs (by decide) rfl hlt wC_X11_doKnow wI_X11 (by decide +kernel) rfl (by decide) (Nat.le_of_ble_eq_true rfl) hc1 hc2 rfl (fun r g' I2 L2 h => by obtain ⟨rfl, z, rfl, rfl, rfl, ⟨rfl, h⟩ | ⟨rfl, h⟩⟩ := h; exact kt h; exact kf h)
theorem t70_X11_secret_148 {E : En} {d : Nat} {κ : Kp} {I L : MI} {Z : Zt} {a0 : Nat} {a1 a2 a3 a4 a5 b0 : Int} (hx : Ir b0) (kt : b0 = 0 → Ev E d M_X11_secret 155 [vr a0, vi a1, vi a2, vi a3, vi a4, vi a5, vu] [] κ I L Z) (kf : ¬ b0 = 0 → Ev E d M_X11_secret 151 [vr a0, vi a1, vi a2, vi a3, vi a4, vi a5, vu] [] κ I L Z) : Ev E d M_X11_secret 148 [vr a0, vi a1, vi a2, vi a3, vi a4, vi a5, vu] [vi b0] κ I L Z := E_if_eq dX11_secret_148 hx kt kf (by decide)
theorem t70_X11_secret_151 {E : En} {d : Nat} {κ : Kp} {I L : MI} {Z : Zt} {a0 : Nat} {a1 a2 a3 a4 a5 : Int}  (k : Ev E d M_X11_secret 152 [vr a0, vi a1, vi a2, vi a3, vi a4, vi a5, vu] [vi 1] κ I L Z) : Ev E d M_X11_secret 151 [vr a0, vi a1, vi a2, vi a3, vi a4, vi a5, vu] [] κ I L Z := E_iconst (v := 1) dX11_secret_151 rfl k
theorem t70_X11_secret_152 {E : En} {d : Nat} {κ : Kp} {I L : MI} {Z : Zt} {a0 : Nat} {a1 a2 a3 a4 a5 b0 : Int}  (k : Ev E d M_X11_secret 156 [vr a0, vi a1, vi a2, vi a3, vi a4, vi a5, vu] [vi b0] κ I L Z) : Ev E d M_X11_secret 152 [vr a0, vi a1, vi a2, vi a3, vi a4, vi a5, vu] [vi b0] κ I L Z := E_goto dX11_secret_152 (by decide) k
theorem t70_X11_secret_156 {E : En} {d : Nat} {κ : Kp} {I L : MI} {Z : Zt} {a0 : Nat} {a1 a2 a3 a4 a5 b0 : Int}  (k : Ev E d M_X11_secret 158 [vr a0, vi a1, vi a2, vi a3, vi a4, vi a5, vi b0] [] κ I L Z) : Ev E d M_X11_secret 156 [vr a0, vi a1, vi a2, vi a3, vi a4, vi a5, vu] [vi b0] κ I L Z := E_istore dX11_secret_156 rfl (Nat.le_of_ble_eq_true rfl) k
theorem t70_X11_secret_158 {E : En} {d : Nat} {κ : Kp} {I L : MI} {Z : Zt} {a0 : Nat} {a1 a2 a3 a4 a5 a6 : Int}  (k : Ev E d M_X11_secret 160 [vr a0, vi a1, vi a2, vi a3, vi a4, vi a5, vi a6] [vi a6] κ I L Z) : Ev E d M_X11_secret 158 [vr a0, vi a1, vi a2, vi a3, vi a4, vi a5, vi a6] [] κ I L Z := E_iload dX11_secret_158 rfl k
theorem t70_X11_secret_160 {E : En} {d : Nat} {κ : Kp} {I L : MI} {Z : Zt} {a0 : Nat} {a1 a2 a3 a4 a5 a6 b0 : Int} (hx : Ir b0) (kt : b0 = 0 → Ev E d M_X11_secret 168 [vr a0, vi a1, vi a2, vi a3, vi a4, vi a5, vi a6] [] κ I L Z) (kf : ¬ b0 = 0 → Ev E d M_X11_secret 163 [vr a0, vi a1, vi a2, vi a3, vi a4, vi a5, vi a6] [] κ I L Z) : Ev E d M_X11_secret 160 [vr a0, vi a1, vi a2, vi a3, vi a4, vi a5, vi a6] [vi b0] κ I L Z := E_if_eq dX11_secret_160 hx kt kf (by decide)
theorem t70_X11_secret_168 {E : En} {d : Nat} {κ : Kp} {I L : MI} {Z : Zt} {a0 : Nat} {a1 a2 a3 a4 a5 a6 : Int}  (k : Ev E d M_X11_secret 170 [vr a0, vi a1, vi a2, vi a3, vi a4, vi a5, vi a6] [vi a4] κ I L Z) : Ev E d M_X11_secret 168 [vr a0, vi a1, vi a2, vi a3, vi a4, vi a5, vi a6] [] κ I L Z := E_iload dX11_secret_168 rfl k
theorem t70_X11_secret_170 {E : En} {d : Nat} {κ : Kp} {I L : MI} {Z : Zt} {a0 : Nat} {a1 a2 a3 a4 a5 a6 b0 : Int}  (k : Ev E d M_X11_secret 172 [vr a0, vi a1, vi a2, vi a3, vi b0, vi a5, vi a6] [] κ I L Z) : Ev E d M_X11_secret 170 [vr a0, vi a1, vi a2, vi a3, vi a4, vi a5, vi a6] [vi b0] κ I L Z := E_istore dX11_secret_170 rfl (Nat.le_of_ble_eq_true rfl) k
theorem t70_X11_secret_172 {E : En} {d : Nat} {κ : Kp} {I L : MI} {Z : Zt} {a0 : Nat} {a1 a2 a3 a4 a5 a6 : Int}  (k : Ev E d M_X11_secret 175 [vr a0, vi a1, vi a2, vi a3, vi a4, vi (a5 + 1), vi a6] [] κ I L Z) : Ev E d M_X11_secret 172 [vr a0, vi a1, vi a2, vi a3, vi a4, vi a5, vi a6] [] κ I L Z := E_iinc dX11_secret_172 rfl rfl (Nat.le_of_ble_eq_true rfl) k
theorem t70_X11_secret_175 {E : En} {d : Nat} {κ : Kp} {I L : MI} {Z : Zt} {a0 : Nat} {a1 a2 a3 a4 a5 a6 : Int}  (k : Ev E d M_X11_secret 99 [vr a0, vi a1, vi a2, vi a3, vi a4, vi a5, vi a6] [] κ I L Z) : Ev E d M_X11_secret 175 [vr a0, vi a1, vi a2, vi a3, vi a4, vi a5, vi a6] [] κ I L Z := E_goto dX11_secret_175 (by decide) k
theorem t70_X11_secret_163 {E : En} {d : Nat} {κ : Kp} {I L : MI} {Z : Zt} {a0 : Nat} {a1 a2 a3 a4 a5 a6 : Int}  (k : Ev E d M_X11_secret 165 [vr a0, vi a1, vi a2, vi a3, vi a4, vi a5, vi a6] [vi a5] κ I L Z) : Ev E d M_X11_secret 163 [vr a0, vi a1, vi a2, vi a3, vi a4, vi a5, vi a6] [] κ I L Z := E_iload dX11_secret_163 rfl k
theorem t70_X11_secret_165 {E : En} {d : Nat} {κ : Kp} {I L : MI} {Z : Zt} {a0 : Nat} {a1 a2 a3 a4 a5 a6 b0 : Int}  (k : Ev E d M_X11_secret 170 [vr a0, vi a1, vi a2, vi a3, vi a4, vi a5, vi a6] [vi b0] κ I L Z) : Ev E d M_X11_secret 165 [vr a0, vi a1, vi a2, vi a3, vi a4, vi a5, vi a6] [vi b0] κ I L Z := E_goto dX11_secret_165 (by decide) k
theorem t70_X11_secret_155 {E : En} {d : Nat} {κ : Kp} {I L : MI} {Z : Zt} {a0 : Nat} {a1 a2 a3 a4 a5 : Int}  (k : Ev E d M_X11_secret 156 [vr a0, vi a1, vi a2, vi a3, vi a4, vi a5, vu] [vi 0] κ I L Z) : Ev E d M_X11_secret 155 [vr a0, vi a1, vi a2, vi a3, vi a4, vi a5, vu] [] κ I L Z := E_iconst (v := 0) dX11_secret_155 rfl k
theorem t70_X11_secret_107 {E : En} {d : Nat} {κ : Kp} {I L : MI} {Z : Zt} {a0 : Nat} {a1 a2 a3 a4 a5 : Int}  (k : Ev E d M_X11_secret 109 [vr a0, vi a1, vi a2, vi a3, vi a4, vi a5, vu] [vi a5] κ I L Z) : Ev E d M_X11_secret 107 [vr a0, vi a1, vi a2, vi a3, vi a4, vi a5, vu] [] κ I L Z := E_iload dX11_secret_107 rfl k
theorem t70_X11_secret_109 {E : En} {d : Nat} {κ : Kp} {I L : MI} {Z : Zt} {a0 : Nat} {a1 a2 a3 a4 a5 b0 : Int}  (k : Ev E d M_X11_secret 110 [vr a0, vi a1, vi a2, vi a3, vi a4, vi a5, vu] [vi a3, vi b0] κ I L Z) : Ev E d M_X11_secret 109 [vr a0, vi a1, vi a2, vi a3, vi a4, vi a5, vu] [vi b0] κ I L Z := E_iload_n dX11_secret_109 rfl k
theorem t70_X11_secret_110 {E : En} {d : Nat} {κ : Kp} {I L : MI} {Z : Zt} {a0 : Nat} {a1 a2 a3 a4 a5 b0 b1 : Int}  (k : Ev E d M_X11_secret 111 [vr a0, vi a1, vi a2, vi a3, vi a4, vi a5, vu] [vi (-1), vi b0, vi b1] κ I L Z) : Ev E d M_X11_secret 110 [vr a0, vi a1, vi a2, vi a3, vi a4, vi a5, vu] [vi b0, vi b1] κ I L Z := E_iconst (v := (-1)) dX11_secret_110 rfl k
theorem t70_X11_secret_111 {E : En} {d : Nat} {κ : Kp} {I L : MI} {Z : Zt} {a0 : Nat} {a1 a2 a3 a4 a5 b0 b1 b2 : Int} {z : Int} (hz : Int32.ofInt b1 ^^^ Int32.ofInt b0 = Int32.ofInt z) (k : Ev E d M_X11_secret 112 [vr a0, vi a1, vi a2, vi a3, vi a4, vi a5, vu] [vi z, vi b2] κ I L Z) : Ev E d M_X11_secret 111 [vr a0, vi a1, vi a2, vi a3, vi a4, vi a5, vu] [vi b0, vi b1, vi b2] κ I L Z := E_ixor dX11_secret_111 hz k
theorem t70_X11_secret_112 {E : En} {d : Nat} {κ : Kp} {I L : MI} {Z : Zt} {a0 : Nat} {a1 a2 a3 a4 a5 b0 b1 : Int} {z : Int} (hz : Int32.ofInt b1 &&& Int32.ofInt b0 = Int32.ofInt z) (k : Ev E d M_X11_secret 113 [vr a0, vi a1, vi a2, vi a3, vi a4, vi a5, vu] [vi z] κ I L Z) : Ev E d M_X11_secret 112 [vr a0, vi a1, vi a2, vi a3, vi a4, vi a5, vu] [vi b0, vi b1] κ I L Z := E_iand dX11_secret_112 hz k
theorem t70_X11_secret_113 {E : En} {d : Nat} {κ : Kp} {I L : MI} {Z : Zt} {a0 : Nat} {a1 a2 a3 a4 a5 b0 : Int} (hx : Ir b0) (kt : ¬ b0 = 0 → Ev E d M_X11_secret 155 [vr a0, vi a1, vi a2, vi a3, vi a4, vi a5, vu] [] κ I L Z) (kf : b0 = 0 → Ev E d M_X11_secret 116 [vr a0, vi a1, vi a2, vi a3, vi a4, vi a5, vu] [] κ I L Z) : Ev E d M_X11_secret 113 [vr a0, vi a1, vi a2, vi a3, vi a4, vi a5, vu] [vi b0] κ I L Z := E_if_ne dX11_secret_113 hx kt kf (by decide)
theorem t70_X11_secret_116 {E : En} {d : Nat} {κ : Kp} {I L : MI} {Z : Zt} {a0 : Nat} {a1 a2 a3 a4 a5 : Int}  (k : Ev E d M_X11_secret 118 [vr a0, vi a1, vi a2, vi a3, vi a4, vi a5, vu] [vi a4] κ I L Z) : Ev E d M_X11_secret 116 [vr a0, vi a1, vi a2, vi a3, vi a4, vi a5, vu] [] κ I L Z := E_iload dX11_secret_116 rfl k
theorem t70_X11_secret_118 {E : En} {d : Nat} {κ : Kp} {I L : MI} {Z : Zt} {a0 : Nat} {a1 a2 a3 a4 a5 b0 : Int}  (k : Ev E d M_X11_secret 120 [vr a0, vi a1, vi a2, vi a3, vi a4, vi a5, vu] [vi (-1000000), vi b0] κ I L Z) : Ev E d M_X11_secret 118 [vr a0, vi a1, vi a2, vi a3, vi a4, vi a5, vu] [vi b0] κ I L Z := E_ldc (v := (-1000000)) dX11_secret_118 wK_RX11_96 k
theorem t70_X11_secret_120 {E : En} {d : Nat} {κ : Kp} {I L : MI} {Z : Zt} {a0 : Nat} {a1 a2 a3 a4 a5 b0 b1 : Int} (hx : Ir b1) (hy : Ir b0) (kt : b1 = b0 → Ev E d M_X11_secret 136 [vr a0, vi a1, vi a2, vi a3, vi a4, vi a5, vu] [] κ I L Z) (kf : ¬ b1 = b0 → Ev E d M_X11_secret 123 [vr a0, vi a1, vi a2, vi a3, vi a4, vi a5, vu] [] κ I L Z) : Ev E d M_X11_secret 120 [vr a0, vi a1, vi a2, vi a3, vi a4, vi a5, vu] [vi b0, vi b1] κ I L Z := E_icmp_eq dX11_secret_120 hx hy kt kf (by decide)
theorem t70_X11_secret_123 {E : En} {d : Nat} {κ : Kp} {I L : MI} {Z : Zt} {a0 : Nat} {a1 a2 a3 a4 a5 : Int}  (k : Ev E d M_X11_secret 125 [vr a0, vi a1, vi a2, vi a3, vi a4, vi a5, vu] [vi a5] κ I L Z) : Ev E d M_X11_secret 123 [vr a0, vi a1, vi a2, vi a3, vi a4, vi a5, vu] [] κ I L Z := E_iload dX11_secret_123 rfl k
theorem t70_X11_secret_125 {E : En} {d d' : Nat} {cs : Nat × Nat} {I L : MI} {Z : Zt} {a0 : Nat} {a1 a2 a3 a4 a5 b0 : Int} {z : Int} {I' L' : MI} (hM : CFi E d' M_X11_bits [vi b0] I L z I' L') (hlt : d' + 1 ≤ d) (k : Ir z → Ev E d M_X11_secret 128 [vr a0, vi a1, vi a2, vi a3, vi a4, vi a5, vu] [vi z] (G0, cs) I' L' Z) (hc1 : cs.1 ≤ M_X11_secret.2.2.2.2.1 := by decide) (hc2 : cs.2 ≤ M_X11_secret.2.2.2.2.2 := by decide) : Ev E d M_X11_secret 125 [vr a0, vi a1, vi a2, vi a3, vi a4, vi a5, vu] [vi b0] (G0, cs) I L Z := E_callS (as := [vi b0]) (rest := []) (n := 1) hM dX11_secret_125 wM_RX11_273 wS_X11_bits hlt wC_X11_bits wI_X11 (by decide +kernel) rfl (by decide) (Nat.le_of_ble_eq_true rfl) hc1 hc2 rfl (fun r g' I2 L2 h => by obtain ⟨rfl, z, rfl, hr, rfl, rfl, rfl⟩ := h; exact k hr)
theorem t70_X11_secret_128 {E : En} {d : Nat} {κ : Kp} {I L : MI} {Z : Zt} {a0 : Nat} {a1 a2 a3 a4 a5 b0 : Int}  (k : Ev E d M_X11_secret 130 [vr a0, vi a1, vi a2, vi a3, vi a4, vi a5, vu] [vi a4, vi b0] κ I L Z) : Ev E d M_X11_secret 128 [vr a0, vi a1, vi a2, vi a3, vi a4, vi a5, vu] [vi b0] κ I L Z := E_iload dX11_secret_128 rfl k
theorem t70_X11_secret_130 {E : En} {d d' : Nat} {cs : Nat × Nat} {I L : MI} {Z : Zt} {a0 : Nat} {a1 a2 a3 a4 a5 b0 b1 : Int} {z : Int} {I' L' : MI} (hM : CFi E d' M_X11_bits [vi b0] I L z I' L') (hlt : d' + 1 ≤ d) (k : Ir z → Ev E d M_X11_secret 133 [vr a0, vi a1, vi a2, vi a3, vi a4, vi a5, vu] [vi z, vi b1] (G0, cs) I' L' Z) (hc1 : cs.1 ≤ M_X11_secret.2.2.2.2.1 := by decide) (hc2 : cs.2 ≤ M_X11_secret.2.2.2.2.2 := by decide) : Ev E d M_X11_secret 130 [vr a0, vi a1, vi a2, vi a3, vi a4, vi a5, vu] [vi b0, vi b1] (G0, cs) I L Z := E_callS (as := [vi b0]) (rest := [vi b1]) (n := 1) hM dX11_secret_130 wM_RX11_273 wS_X11_bits hlt wC_X11_bits wI_X11 (by decide +kernel) rfl (by decide) (Nat.le_of_ble_eq_true rfl) hc1 hc2 rfl (fun r g' I2 L2 h => by obtain ⟨rfl, z, rfl, hr, rfl, rfl, rfl⟩ := h; exact k hr)
theorem t70_X11_secret_133 {E : En} {d : Nat} {κ : Kp} {I L : MI} {Z : Zt} {a0 : Nat} {a1 a2 a3 a4 a5 b0 b1 : Int} (hx : Ir b1) (hy : Ir b0) (kt : b0 ≤ b1 → Ev E d M_X11_secret 155 [vr a0, vi a1, vi a2, vi a3, vi a4, vi a5, vu] [] κ I L Z) (kf : b1 < b0 → Ev E d M_X11_secret 136 [vr a0, vi a1, vi a2, vi a3, vi a4, vi a5, vu] [] κ I L Z) : Ev E d M_X11_secret 133 [vr a0, vi a1, vi a2, vi a3, vi a4, vi a5, vu] [vi b0, vi b1] κ I L Z := E_icmp_ge dX11_secret_133 hx hy kt kf (by decide)
theorem t70_X11_secret_0 {E : En} {d : Nat} {κ : Kp} {I L : MI} {Z : Zt} {a0 : Nat} {a1 a2 : Int}  (k : Ev E d M_X11_secret 1 [vr a0, vi a1, vi a2, vu, vu, vu, vu] [vr a0] κ I L Z) : Ev E d M_X11_secret 0 [vr a0, vi a1, vi a2, vu, vu, vu, vu] [] κ I L Z := E_aload_n dX11_secret_0 rfl k
theorem t70_X11_secret_1 {E : En} {d : Nat} {κ : Kp} {I L : MI} {Z : Zt} {a0 b0 : Nat} {a1 a2 : Int}  (k : Ev E d M_X11_secret 2 [vr a0, vi a1, vi a2, vu, vu, vu, vu] [vi 0, vr b0] κ I L Z) : Ev E d M_X11_secret 1 [vr a0, vi a1, vi a2, vu, vu, vu, vu] [vr b0] κ I L Z := E_iconst (v := 0) dX11_secret_1 rfl k
theorem t70_X11_secret_2 {E : En} {d : Nat} {κ : Kp} {I L : MI} {Z : Zt} {a0 b1 : Nat} {a1 a2 b0 : Int} (hs : κ.1.1[b1]? = some (.inl 11)) (hz : Ir b0) (k : Ev E d M_X11_secret 5 [vr a0, vi a1, vi a2, vu, vu, vu, vu] [] κ (up2 I b1 0 b0) L Z) : Ev E d M_X11_secret 2 [vr a0, vi a1, vi a2, vu, vu, vu, vu] [vi b0, vr b1] κ I L Z := E_putI (ci := 11) (n := 0) dX11_secret_2 wF_RX11_57 (by decide) hs rfl rfl hz k
theorem t70_X11_secret_5 {E : En} {d : Nat} {κ : Kp} {I L : MI} {Z : Zt} {a0 : Nat} {a1 a2 : Int}  (k : Ev E d M_X11_secret 6 [vr a0, vi a1, vi a2, vu, vu, vu, vu] [vi a1] κ I L Z) : Ev E d M_X11_secret 5 [vr a0, vi a1, vi a2, vu, vu, vu, vu] [] κ I L Z := E_iload_n dX11_secret_5 rfl k
theorem t70_X11_secret_6 {E : En} {d d' : Nat} {cs : Nat × Nat} {I L : MI} {Z : Zt} {a0 : Nat} {a1 a2 b0 : Int} {P : Prop} {I' L' : MI} (hM : CB E d' M_X11_isSlot [vi b0] I L P I' L') (hlt : d' + 1 ≤ d) (kt : P → Ev E d M_X11_secret 9 [vr a0, vi a1, vi a2, vu, vu, vu, vu] [vi 1] (G0, cs) I' L' Z) (kf : ¬ P → Ev E d M_X11_secret 9 [vr a0, vi a1, vi a2, vu, vu, vu, vu] [vi 0] (G0, cs) I' L' Z) (hc1 : cs.1 ≤ M_X11_secret.2.2.2.2.1 := by decide) (hc2 : cs.2 ≤ M_X11_secret.2.2.2.2.2 := by decide) : Ev E d M_X11_secret 6 [vr a0, vi a1, vi a2, vu, vu, vu, vu] [vi b0] (G0, cs) I L Z := E_callS (as := [vi b0]) (rest := []) (n := 1) hM dX11_secret_6 wM_RX11_197 wS_X11_isSlot hlt wC_X11_isSlot wI_X11 (by decide +kernel) rfl (by decide) (Nat.le_of_ble_eq_true rfl) hc1 hc2 rfl (fun r g' I2 L2 h => by obtain ⟨rfl, z, rfl, rfl, rfl, ⟨rfl, h⟩ | ⟨rfl, h⟩⟩ := h; exact kt h; exact kf h)
theorem t70_X11_secret_9 {E : En} {d : Nat} {κ : Kp} {I L : MI} {Z : Zt} {a0 : Nat} {a1 a2 b0 : Int} (hx : Ir b0) (kt : b0 = 0 → Ev E d M_X11_secret 24 [vr a0, vi a1, vi a2, vu, vu, vu, vu] [] κ I L Z) (kf : ¬ b0 = 0 → Ev E d M_X11_secret 12 [vr a0, vi a1, vi a2, vu, vu, vu, vu] [] κ I L Z) : Ev E d M_X11_secret 9 [vr a0, vi a1, vi a2, vu, vu, vu, vu] [vi b0] κ I L Z := E_if_eq dX11_secret_9 hx kt kf (by decide)
theorem t70_X11_secret_12 {E : En} {d : Nat} {κ : Kp} {I L : MI} {Z : Zt} {a0 : Nat} {a1 a2 : Int}  (k : Ev E d M_X11_secret 13 [vr a0, vi a1, vi a2, vu, vu, vu, vu] [vi a2] κ I L Z) : Ev E d M_X11_secret 12 [vr a0, vi a1, vi a2, vu, vu, vu, vu] [] κ I L Z := E_iload_n dX11_secret_12 rfl k
theorem t70_X11_secret_13 {E : En} {d : Nat} {κ : Kp} {I L : MI} {Z : Zt} {a0 : Nat} {a1 a2 b0 : Int} (hx : Ir b0) (k : Ev E d M_X11_secret 14 [vr a0, vi a1, vi a2, vu, vu, vu, vu] [vl b0] κ I L Z) : Ev E d M_X11_secret 13 [vr a0, vi a1, vi a2, vu, vu, vu, vu] [vi b0] κ I L Z := E_i2l dX11_secret_13 hx k
theorem t70_X11_secret_14 {E : En} {d : Nat} {κ : Kp} {I L : MI} {Z : Zt} {a0 : Nat} {a1 a2 b0 : Int}  (k : Ev E d M_X11_secret 15 [vr a0, vi a1, vi a2, vu, vu, vu, vu] [vl 0, vl b0] κ I L Z) : Ev E d M_X11_secret 14 [vr a0, vi a1, vi a2, vu, vu, vu, vu] [vl b0] κ I L Z := E_lconst (v := 0) dX11_secret_14 rfl k
theorem t70_X11_secret_15 {E : En} {d : Nat} {κ : Kp} {I L : MI} {Z : Zt} {a0 : Nat} {a1 a2 b0 b1 : Int}  (k : Ev E d M_X11_secret 18 [vr a0, vi a1, vi a2, vu, vu, vu, vu] [vl 255, vl b0, vl b1] κ I L Z) : Ev E d M_X11_secret 15 [vr a0, vi a1, vi a2, vu, vu, vu, vu] [vl b0, vl b1] κ I L Z := E_ldc2 (v := 255) dX11_secret_15 wK_RX11_91 k
theorem t70_X11_secret_18 {E : En} {d d' : Nat} {cs : Nat × Nat} {I L : MI} {Z : Zt} {a0 : Nat} {a1 a2 b0 b1 b2 : Int} {P : Prop} {I' L' : MI} (hM : CB E d' M_X11_in [vl b2, vl b1, vl b0] I L P I' L') (hlt : d' + 1 ≤ d) (kt : P → Ev E d M_X11_secret 21 [vr a0, vi a1, vi a2, vu, vu, vu, vu] [vi 1] (G0, cs) I' L' Z) (kf : ¬ P → Ev E d M_X11_secret 21 [vr a0, vi a1, vi a2, vu, vu, vu, vu] [vi 0] (G0, cs) I' L' Z) (hc1 : cs.1 ≤ M_X11_secret.2.2.2.2.1 := by decide) (hc2 : cs.2 ≤ M_X11_secret.2.2.2.2.2 := by decide) : Ev E d M_X11_secret 18 [vr a0, vi a1, vi a2, vu, vu, vu, vu] [vl b0, vl b1, vl b2] (G0, cs) I L Z := E_callS (as := [vl b2, vl b1, vl b0]) (rest := []) (n := 3) hM dX11_secret_18 wM_RX11_68 wS_X11_in hlt wC_X11_in wI_X11 (by decide +kernel) rfl (by decide) (Nat.le_of_ble_eq_true rfl) hc1 hc2 rfl (fun r g' I2 L2 h => by obtain ⟨rfl, z, rfl, rfl, rfl, ⟨rfl, h⟩ | ⟨rfl, h⟩⟩ := h; exact kt h; exact kf h)
theorem t70_X11_secret_21 {E : En} {d : Nat} {κ : Kp} {I L : MI} {Z : Zt} {a0 : Nat} {a1 a2 b0 : Int} (hx : Ir b0) (kt : ¬ b0 = 0 → Ev E d M_X11_secret 28 [vr a0, vi a1, vi a2, vu, vu, vu, vu] [] κ I L Z) (kf : b0 = 0 → Ev E d M_X11_secret 24 [vr a0, vi a1, vi a2, vu, vu, vu, vu] [] κ I L Z) : Ev E d M_X11_secret 21 [vr a0, vi a1, vi a2, vu, vu, vu, vu] [vi b0] κ I L Z := E_if_ne dX11_secret_21 hx kt kf (by decide)
theorem t70_X11_secret_28 {E : En} {d : Nat} {κ : Kp} {I L : MI} {Z : Zt} {a0 : Nat} {a1 a2 : Int}  (k : Ev E d M_X11_secret 29 [vr a0, vi a1, vi a2, vu, vu, vu, vu] [vr a0] κ I L Z) : Ev E d M_X11_secret 28 [vr a0, vi a1, vi a2, vu, vu, vu, vu] [] κ I L Z := E_aload_n dX11_secret_28 rfl k
theorem t70_X11_secret_29 {E : En} {d : Nat} {κ : Kp} {I L : MI} {Z : Zt} {a0 b0 : Nat} {a1 a2 : Int} {q : Nat} (hs : κ.1.1[b0]? = some (.inl 11)) (hq : κ.1.2 b0 8 = some q) (k : Ev E d M_X11_secret 32 [vr a0, vi a1, vi a2, vu, vu, vu, vu] [vr q] κ I L Z) : Ev E d M_X11_secret 29 [vr a0, vi a1, vi a2, vu, vu, vu, vu] [vr b0] κ I L Z := E_getR (ci := 11) (n := 8) dX11_secret_29 wF_RX11_25 (by decide) hs rfl hq k
theorem t70_X11_secret_32 {E : En} {d : Nat} {κ : Kp} {I L : MI} {Z : Zt} {a0 b0 : Nat} {a1 a2 : Int}  (k : Ev E d M_X11_secret 33 [vr a0, vi a1, vi a2, vu, vu, vu, vu] [vi a1, vr b0] κ I L Z) : Ev E d M_X11_secret 32 [vr a0, vi a1, vi a2, vu, vu, vu, vu] [vr b0] κ I L Z := E_iload_n dX11_secret_32 rfl k
theorem t70_X11_secret_33 {E : En} {d : Nat} {κ : Kp} {I L : MI} {Z : Zt} {a0 b1 : Nat} {a1 a2 b0 : Int} {n : Nat} (hs : κ.1.1[b1]? = some (.inr (3, n))) (h0 : 0 ≤ b0) (h1 : b0 < n) (hi : Ir b0) (k : Jr (L b1 b0) → Ev E d M_X11_secret 34 [vr a0, vi a1, vi a2, vu, vu, vu, vu] [vl (L b1 b0)] κ I L Z) : Ev E d M_X11_secret 33 [vr a0, vi a1, vi a2, vu, vu, vu, vu] [vi b0, vr b1] κ I L Z := E_laldI dX11_secret_33 hs h0 h1 hi k
theorem t70_X11_secret_34 {E : En} {d : Nat} {κ : Kp} {I L : MI} {Z : Zt} {a0 : Nat} {a1 a2 b0 : Int}  (k : Ev E d M_X11_secret 35 [vr a0, vi a1, vi a2, vu, vu, vu, vu] [vl 0, vl b0] κ I L Z) : Ev E d M_X11_secret 34 [vr a0, vi a1, vi a2, vu, vu, vu, vu] [vl b0] κ I L Z := E_lconst (v := 0) dX11_secret_34 rfl k
theorem t70_X11_secret_35 {E : En} {d : Nat} {κ : Kp} {I L : MI} {Z : Zt} {a0 : Nat} {a1 a2 b0 b1 : Int} (hx : Jr b1) (hy : Jr b0) (kt : ¬ b1 = b0 → Ev E d M_X11_secret 43 [vr a0, vi a1, vi a2, vu, vu, vu, vu] [] κ I L Z) (kf : b1 = b0 → Ev E d M_X11_secret 39 [vr a0, vi a1, vi a2, vu, vu, vu, vu] [] κ I L Z) : Ev E d M_X11_secret 35 [vr a0, vi a1, vi a2, vu, vu, vu, vu] [vl b0, vl b1] κ I L Z := E_lcmp_ne dX11_secret_35 dX11_secret_36 hx hy kt kf (by decide)
theorem t70_X11_secret_43 {E : En} {d : Nat} {κ : Kp} {I L : MI} {Z : Zt} {a0 : Nat} {a1 a2 : Int}  (k : Ev E d M_X11_secret 44 [vr a0, vi a1, vi a2, vu, vu, vu, vu] [vi 0] κ I L Z) : Ev E d M_X11_secret 43 [vr a0, vi a1, vi a2, vu, vu, vu, vu] [] κ I L Z := E_iconst (v := 0) dX11_secret_43 rfl k
theorem t70_X11_secret_44 {E : En} {d : Nat} {κ : Kp} {I L : MI} {Z : Zt} {a0 : Nat} {a1 a2 b0 : Int}  (k : Ev E d M_X11_secret 45 [vr a0, vi a1, vi a2, vi b0, vu, vu, vu] [] κ I L Z) : Ev E d M_X11_secret 44 [vr a0, vi a1, vi a2, vu, vu, vu, vu] [vi b0] κ I L Z := E_istore_n dX11_secret_44 rfl (Nat.le_of_ble_eq_true rfl) k
theorem t70_X11_secret_45 {E : En} {d : Nat} {κ : Kp} {I L : MI} {Z : Zt} {a0 : Nat} {a1 a2 a3 : Int}  (k : Ev E d M_X11_secret 46 [vr a0, vi a1, vi a2, vi a3, vu, vu, vu] [vi 0] κ I L Z) : Ev E d M_X11_secret 45 [vr a0, vi a1, vi a2, vi a3, vu, vu, vu] [] κ I L Z := E_iconst (v := 0) dX11_secret_45 rfl k
theorem t70_X11_secret_46 {E : En} {d : Nat} {κ : Kp} {I L : MI} {Z : Zt} {a0 : Nat} {a1 a2 a3 b0 : Int}  (k : Ev E d M_X11_secret 48 [vr a0, vi a1, vi a2, vi a3, vi b0, vu, vu] [] κ I L Z) : Ev E d M_X11_secret 46 [vr a0, vi a1, vi a2, vi a3, vu, vu, vu] [vi b0] κ I L Z := E_istore dX11_secret_46 rfl (Nat.le_of_ble_eq_true rfl) k
theorem t70_X11_secret_39 {E : En} {d : Nat} {κ : Kp} {I L : MI} {Z : Zt} {a0 : Nat} {a1 a2 : Int}  (k : Ev E d M_X11_secret 42 [vr a0, vi a1, vi a2, vu, vu, vu, vu] [vl (-9000000000000000002)] κ I L Z) : Ev E d M_X11_secret 39 [vr a0, vi a1, vi a2, vu, vu, vu, vu] [] κ I L Z := E_ldc2 (v := (-9000000000000000002)) dX11_secret_39 wK_RX11_239 k
theorem t70_X11_secret_42 {E : En} {d : Nat} {g : Geo} {I L : MI} {Q : Option AV → Geo → MI → MI → Prop} {cs : Nat × Nat} {a0 : Nat} {a1 a2 b0 : Int} (hq : Q (some (vl b0)) g I L) (h1 : cs.1 ≤ M_X11_secret.2.2.2.2.1 := by decide) (h2 : cs.2 ≤ M_X11_secret.2.2.2.2.2 := by decide) : Ev E d M_X11_secret 42 [vr a0, vi a1, vi a2, vu, vu, vu, vu] [vl b0] (g, cs) I L (ZQ E M_X11_secret Q) := E_lreturn rfl dX11_secret_42 hq h1 h2
theorem t70_X11_secret_24 {E : En} {d : Nat} {κ : Kp} {I L : MI} {Z : Zt} {a0 : Nat} {a1 a2 : Int}  (k : Ev E d M_X11_secret 27 [vr a0, vi a1, vi a2, vu, vu, vu, vu] [vl (-9000000000000000001)] κ I L Z) : Ev E d M_X11_secret 24 [vr a0, vi a1, vi a2, vu, vu, vu, vu] [] κ I L Z := E_ldc2 (v := (-9000000000000000001)) dX11_secret_24 wK_RX11_78 k
theorem t70_X11_secret_27 {E : En} {d : Nat} {g : Geo} {I L : MI} {Q : Option AV → Geo → MI → MI → Prop} {cs : Nat × Nat} {a0 : Nat} {a1 a2 b0 : Int} (hq : Q (some (vl b0)) g I L) (h1 : cs.1 ≤ M_X11_secret.2.2.2.2.1 := by decide) (h2 : cs.2 ≤ M_X11_secret.2.2.2.2.2 := by decide) : Ev E d M_X11_secret 27 [vr a0, vi a1, vi a2, vu, vu, vu, vu] [vl b0] (g, cs) I L (ZQ E M_X11_secret Q) := E_lreturn rfl dX11_secret_27 hq h1 h2
theorem t70_X11_secret_48 {E : En} {d : Nat} {κ : Kp} {I L : MI} {Z : Zt} {a0 : Nat} {a1 a2 a3 a4 : Int}  (k : Ev E d M_X11_secret 50 [vr a0, vi a1, vi a2, vi a3, vi a4, vu, vu] [vi a4] κ I L Z) : Ev E d M_X11_secret 48 [vr a0, vi a1, vi a2, vi a3, vi a4, vu, vu] [] κ I L Z := E_iload dX11_secret_48 rfl k
theorem t70_X11_secret_50 {E : En} {d : Nat} {κ : Kp} {I L : MI} {Z : Zt} {a0 : Nat} {a1 a2 a3 a4 b0 : Int}  (k : Ev E d M_X11_secret 52 [vr a0, vi a1, vi a2, vi a3, vi a4, vu, vu] [vi 8, vi b0] κ I L Z) : Ev E d M_X11_secret 50 [vr a0, vi a1, vi a2, vi a3, vi a4, vu, vu] [vi b0] κ I L Z := E_bipush (v := 8) dX11_secret_50 rfl k
theorem t70_X11_secret_52 {E : En} {d : Nat} {κ : Kp} {I L : MI} {Z : Zt} {a0 : Nat} {a1 a2 a3 a4 b0 b1 : Int} (hx : Ir b1) (hy : Ir b0) (kt : b0 ≤ b1 → Ev E d M_X11_secret 92 [vr a0, vi a1, vi a2, vi a3, vi a4, vu, vu] [] κ I L Z) (kf : b1 < b0 → Ev E d M_X11_secret 55 [vr a0, vi a1, vi a2, vi a3, vi a4, vu, vu] [] κ I L Z) : Ev E d M_X11_secret 52 [vr a0, vi a1, vi a2, vi a3, vi a4, vu, vu] [vi b0, vi b1] κ I L Z := E_icmp_ge dX11_secret_52 hx hy kt kf (by decide)
theorem t70_X11_secret_92 {E : En} {d : Nat} {κ : Kp} {I L : MI} {Z : Zt} {a0 : Nat} {a1 a2 a3 a4 : Int}  (k : Ev E d M_X11_secret 94 [vr a0, vi a1, vi a2, vi a3, vi a4, vu, vu] [vi (-1000000)] κ I L Z) : Ev E d M_X11_secret 92 [vr a0, vi a1, vi a2, vi a3, vi a4, vu, vu] [] κ I L Z := E_ldc (v := (-1000000)) dX11_secret_92 wK_RX11_96 k
theorem t70_X11_secret_94 {E : En} {d : Nat} {κ : Kp} {I L : MI} {Z : Zt} {a0 : Nat} {a1 a2 a3 a4 b0 : Int}  (k : Ev E d M_X11_secret 96 [vr a0, vi a1, vi a2, vi a3, vi b0, vu, vu] [] κ I L Z) : Ev E d M_X11_secret 94 [vr a0, vi a1, vi a2, vi a3, vi a4, vu, vu] [vi b0] κ I L Z := E_istore dX11_secret_94 rfl (Nat.le_of_ble_eq_true rfl) k
theorem t70_X11_secret_96 {E : En} {d : Nat} {κ : Kp} {I L : MI} {Z : Zt} {a0 : Nat} {a1 a2 a3 a4 : Int}  (k : Ev E d M_X11_secret 97 [vr a0, vi a1, vi a2, vi a3, vi a4, vu, vu] [vi 0] κ I L Z) : Ev E d M_X11_secret 96 [vr a0, vi a1, vi a2, vi a3, vi a4, vu, vu] [] κ I L Z := E_iconst (v := 0) dX11_secret_96 rfl k
theorem t70_X11_secret_97 {E : En} {d : Nat} {κ : Kp} {I L : MI} {Z : Zt} {a0 : Nat} {a1 a2 a3 a4 b0 : Int}  (k : Ev E d M_X11_secret 99 [vr a0, vi a1, vi a2, vi a3, vi a4, vi b0, vu] [] κ I L Z) : Ev E d M_X11_secret 97 [vr a0, vi a1, vi a2, vi a3, vi a4, vu, vu] [vi b0] κ I L Z := E_istore dX11_secret_97 rfl (Nat.le_of_ble_eq_true rfl) k
theorem t70_X11_secret_55 {E : En} {d : Nat} {κ : Kp} {I L : MI} {Z : Zt} {a0 : Nat} {a1 a2 a3 a4 : Int}  (k : Ev E d M_X11_secret 56 [vr a0, vi a1, vi a2, vi a3, vi a4, vu, vu] [vi a3] κ I L Z) : Ev E d M_X11_secret 55 [vr a0, vi a1, vi a2, vi a3, vi a4, vu, vu] [] κ I L Z := E_iload_n dX11_secret_55 rfl k
theorem t70_X11_secret_56 {E : En} {d : Nat} {κ : Kp} {I L : MI} {Z : Zt} {a0 : Nat} {a1 a2 a3 a4 b0 : Int}  (k : Ev E d M_X11_secret 58 [vr a0, vi a1, vi a2, vi a3, vi a4, vu, vu] [vi a4, vi b0] κ I L Z) : Ev E d M_X11_secret 56 [vr a0, vi a1, vi a2, vi a3, vi a4, vu, vu] [vi b0] κ I L Z := E_iload dX11_secret_56 rfl k
theorem t70_X11_secret_58 {E : En} {d : Nat} {κ : Kp} {I L : MI} {Z : Zt} {a0 : Nat} {a1 a2 a3 a4 b0 b1 : Int}  (k : Ev E d M_X11_secret 59 [vr a0, vi a1, vi a2, vi a3, vi a4, vu, vu] [vi a1, vi b0, vi b1] κ I L Z) : Ev E d M_X11_secret 58 [vr a0, vi a1, vi a2, vi a3, vi a4, vu, vu] [vi b0, vi b1] κ I L Z := E_iload_n dX11_secret_58 rfl k
theorem t70_X11_secret_59 {E : En} {d : Nat} {κ : Kp} {I L : MI} {Z : Zt} {a0 : Nat} {a1 a2 a3 a4 b0 b1 b2 : Int} (hx : Ir b1) (hy : Ir b0) (kt : b1 = b0 → Ev E d M_X11_secret 83 [vr a0, vi a1, vi a2, vi a3, vi a4, vu, vu] [vi b2] κ I L Z) (kf : ¬ b1 = b0 → Ev E d M_X11_secret 62 [vr a0, vi a1, vi a2, vi a3, vi a4, vu, vu] [vi b2] κ I L Z) : Ev E d M_X11_secret 59 [vr a0, vi a1, vi a2, vi a3, vi a4, vu, vu] [vi b0, vi b1, vi b2] κ I L Z := E_icmp_eq dX11_secret_59 hx hy kt kf (by decide)
theorem t70_X11_secret_83 {E : En} {d : Nat} {κ : Kp} {I L : MI} {Z : Zt} {a0 : Nat} {a1 a2 a3 a4 b0 : Int}  (k : Ev E d M_X11_secret 84 [vr a0, vi a1, vi a2, vi a3, vi a4, vu, vu] [vi 0, vi b0] κ I L Z) : Ev E d M_X11_secret 83 [vr a0, vi a1, vi a2, vi a3, vi a4, vu, vu] [vi b0] κ I L Z := E_iconst (v := 0) dX11_secret_83 rfl k
theorem t70_X11_secret_84 {E : En} {d : Nat} {κ : Kp} {I L : MI} {Z : Zt} {a0 : Nat} {a1 a2 a3 a4 b0 b1 : Int} {z : Int} (hz : Int32.ofInt b1 ||| Int32.ofInt b0 = Int32.ofInt z) (k : Ev E d M_X11_secret 85 [vr a0, vi a1, vi a2, vi a3, vi a4, vu, vu] [vi z] κ I L Z) : Ev E d M_X11_secret 84 [vr a0, vi a1, vi a2, vi a3, vi a4, vu, vu] [vi b0, vi b1] κ I L Z := E_ior dX11_secret_84 hz k
theorem t70_X11_secret_85 {E : En} {d : Nat} {κ : Kp} {I L : MI} {Z : Zt} {a0 : Nat} {a1 a2 a3 a4 b0 : Int}  (k : Ev E d M_X11_secret 86 [vr a0, vi a1, vi a2, vi b0, vi a4, vu, vu] [] κ I L Z) : Ev E d M_X11_secret 85 [vr a0, vi a1, vi a2, vi a3, vi a4, vu, vu] [vi b0] κ I L Z := E_istore_n dX11_secret_85 rfl (Nat.le_of_ble_eq_true rfl) k
theorem t70_X11_secret_86 {E : En} {d : Nat} {κ : Kp} {I L : MI} {Z : Zt} {a0 : Nat} {a1 a2 a3 a4 : Int}  (k : Ev E d M_X11_secret 89 [vr a0, vi a1, vi a2, vi a3, vi (a4 + 1), vu, vu] [] κ I L Z) : Ev E d M_X11_secret 86 [vr a0, vi a1, vi a2, vi a3, vi a4, vu, vu] [] κ I L Z := E_iinc dX11_secret_86 rfl rfl (Nat.le_of_ble_eq_true rfl) k
theorem t70_X11_secret_89 {E : En} {d : Nat} {κ : Kp} {I L : MI} {Z : Zt} {a0 : Nat} {a1 a2 a3 a4 : Int}  (k : Ev E d M_X11_secret 48 [vr a0, vi a1, vi a2, vi a3, vi a4, vu, vu] [] κ I L Z) : Ev E d M_X11_secret 89 [vr a0, vi a1, vi a2, vi a3, vi a4, vu, vu] [] κ I L Z := E_goto dX11_secret_89 (by decide) k
theorem t70_X11_secret_62 {E : En} {d : Nat} {κ : Kp} {I L : MI} {Z : Zt} {a0 : Nat} {a1 a2 a3 a4 b0 : Int}  (k : Ev E d M_X11_secret 63 [vr a0, vi a1, vi a2, vi a3, vi a4, vu, vu] [vr a0, vi b0] κ I L Z) : Ev E d M_X11_secret 62 [vr a0, vi a1, vi a2, vi a3, vi a4, vu, vu] [vi b0] κ I L Z := E_aload_n dX11_secret_62 rfl k
theorem t70_X11_secret_63 {E : En} {d : Nat} {κ : Kp} {I L : MI} {Z : Zt} {a0 b0 : Nat} {a1 a2 a3 a4 b1 : Int} {q : Nat} (hs : κ.1.1[b0]? = some (.inl 11)) (hq : κ.1.2 b0 8 = some q) (k : Ev E d M_X11_secret 66 [vr a0, vi a1, vi a2, vi a3, vi a4, vu, vu] [vr q, vi b1] κ I L Z) : Ev E d M_X11_secret 63 [vr a0, vi a1, vi a2, vi a3, vi a4, vu, vu] [vr b0, vi b1] κ I L Z := E_getR (ci := 11) (n := 8) dX11_secret_63 wF_RX11_25 (by decide) hs rfl hq k
theorem t70_X11_secret_66 {E : En} {d : Nat} {κ : Kp} {I L : MI} {Z : Zt} {a0 b0 : Nat} {a1 a2 a3 a4 b1 : Int}  (k : Ev E d M_X11_secret 68 [vr a0, vi a1, vi a2, vi a3, vi a4, vu, vu] [vi a4, vr b0, vi b1] κ I L Z) : Ev E d M_X11_secret 66 [vr a0, vi a1, vi a2, vi a3, vi a4, vu, vu] [vr b0, vi b1] κ I L Z := E_iload dX11_secret_66 rfl k
theorem t70_X11_secret_68 {E : En} {d : Nat} {κ : Kp} {I L : MI} {Z : Zt} {a0 b1 : Nat} {a1 a2 a3 a4 b0 b2 : Int} {n : Nat} (hs : κ.1.1[b1]? = some (.inr (3, n))) (h0 : 0 ≤ b0) (h1 : b0 < n) (hi : Ir b0) (k : Jr (L b1 b0) → Ev E d M_X11_secret 69 [vr a0, vi a1, vi a2, vi a3, vi a4, vu, vu] [vl (L b1 b0), vi b2] κ I L Z) : Ev E d M_X11_secret 68 [vr a0, vi a1, vi a2, vi a3, vi a4, vu, vu] [vi b0, vr b1, vi b2] κ I L Z := E_laldI dX11_secret_68 hs h0 h1 hi k
theorem t70_X11_secret_69 {E : En} {d : Nat} {κ : Kp} {I L : MI} {Z : Zt} {a0 : Nat} {a1 a2 a3 a4 b0 b1 : Int}  (k : Ev E d M_X11_secret 70 [vr a0, vi a1, vi a2, vi a3, vi a4, vu, vu] [vl 0, vl b0, vi b1] κ I L Z) : Ev E d M_X11_secret 69 [vr a0, vi a1, vi a2, vi a3, vi a4, vu, vu] [vl b0, vi b1] κ I L Z := E_lconst (v := 0) dX11_secret_69 rfl k
theorem t70_X11_secret_70 {E : En} {d : Nat} {κ : Kp} {I L : MI} {Z : Zt} {a0 : Nat} {a1 a2 a3 a4 b0 b1 b2 : Int} (hx : Jr b1) (hy : Jr b0) (kt : b1 ≤ b0 → Ev E d M_X11_secret 83 [vr a0, vi a1, vi a2, vi a3, vi a4, vu, vu] [vi b2] κ I L Z) (kf : b0 < b1 → Ev E d M_X11_secret 74 [vr a0, vi a1, vi a2, vi a3, vi a4, vu, vu] [vi b2] κ I L Z) : Ev E d M_X11_secret 70 [vr a0, vi a1, vi a2, vi a3, vi a4, vu, vu] [vl b0, vl b1, vi b2] κ I L Z := E_lcmp_le dX11_secret_70 dX11_secret_71 hx hy kt kf (by decide)
theorem t70_X11_secret_74 {E : En} {d : Nat} {κ : Kp} {I L : MI} {Z : Zt} {a0 : Nat} {a1 a2 a3 a4 b0 : Int}  (k : Ev E d M_X11_secret 75 [vr a0, vi a1, vi a2, vi a3, vi a4, vu, vu] [vi 1, vi b0] κ I L Z) : Ev E d M_X11_secret 74 [vr a0, vi a1, vi a2, vi a3, vi a4, vu, vu] [vi b0] κ I L Z := E_iconst (v := 1) dX11_secret_74 rfl k
theorem t70_X11_secret_75 {E : En} {d : Nat} {κ : Kp} {I L : MI} {Z : Zt} {a0 : Nat} {a1 a2 a3 a4 b0 b1 : Int}  (k : Ev E d M_X11_secret 77 [vr a0, vi a1, vi a2, vi a3, vi a4, vu, vu] [vi a4, vi b0, vi b1] κ I L Z) : Ev E d M_X11_secret 75 [vr a0, vi a1, vi a2, vi a3, vi a4, vu, vu] [vi b0, vi b1] κ I L Z := E_iload dX11_secret_75 rfl k
theorem t70_X11_secret_77 {E : En} {d : Nat} {κ : Kp} {I L : MI} {Z : Zt} {a0 : Nat} {a1 a2 a3 a4 b0 b1 b2 : Int} {z : Int} (hz : Int32.ofInt b1 <<< (Int32.ofInt b0 &&& 31) = Int32.ofInt z) (k : Ev E d M_X11_secret 78 [vr a0, vi a1, vi a2, vi a3, vi a4, vu, vu] [vi z, vi b2] κ I L Z) : Ev E d M_X11_secret 77 [vr a0, vi a1, vi a2, vi a3, vi a4, vu, vu] [vi b0, vi b1, vi b2] κ I L Z := E_ishl dX11_secret_77 hz k
theorem t70_X11_secret_78 {E : En} {d : Nat} {κ : Kp} {I L : MI} {Z : Zt} {a0 : Nat} {a1 a2 a3 a4 b0 b1 : Int}  (k : Ev E d M_X11_secret 79 [vr a0, vi a1, vi a2, vi a3, vi a4, vu, vu] [vi a2, vi b0, vi b1] κ I L Z) : Ev E d M_X11_secret 78 [vr a0, vi a1, vi a2, vi a3, vi a4, vu, vu] [vi b0, vi b1] κ I L Z := E_iload_n dX11_secret_78 rfl k
theorem t70_X11_secret_79 {E : En} {d : Nat} {κ : Kp} {I L : MI} {Z : Zt} {a0 : Nat} {a1 a2 a3 a4 b0 b1 b2 : Int} {z : Int} (hz : Int32.ofInt b1 &&& Int32.ofInt b0 = Int32.ofInt z) (k : Ev E d M_X11_secret 80 [vr a0, vi a1, vi a2, vi a3, vi a4, vu, vu] [vi z, vi b2] κ I L Z) : Ev E d M_X11_secret 79 [vr a0, vi a1, vi a2, vi a3, vi a4, vu, vu] [vi b0, vi b1, vi b2] κ I L Z := E_iand dX11_secret_79 hz k
theorem t70_X11_secret_80 {E : En} {d : Nat} {κ : Kp} {I L : MI} {Z : Zt} {a0 : Nat} {a1 a2 a3 a4 b0 b1 : Int}  (k : Ev E d M_X11_secret 84 [vr a0, vi a1, vi a2, vi a3, vi a4, vu, vu] [vi b0, vi b1] κ I L Z) : Ev E d M_X11_secret 80 [vr a0, vi a1, vi a2, vi a3, vi a4, vu, vu] [vi b0, vi b1] κ I L Z := E_goto dX11_secret_80 (by decide) k
theorem t70_X11_secret_84v1 {E : En} {d : Nat} {κ : Kp} {I L : MI} {Z : Zt} {a0 : Nat} {a1 a2 a3 a4 b0 b1 : Int} {z : Int} (hz : Int32.ofInt b1 ||| Int32.ofInt b0 = Int32.ofInt z) (k : Ev E d M_X11_secret 85 [vr a0, vi a1, vi a2, vi a3, vi a4, vu, vu] [vi z] κ I L Z) : Ev E d M_X11_secret 84 [vr a0, vi a1, vi a2, vi a3, vi a4, vu, vu] [vi b0, vi b1] κ I L Z := E_ior dX11_secret_84 hz k
theorem t70_X11_secret_84v2 {E : En} {d : Nat} {κ : Kp} {I L : MI} {Z : Zt} {a0 : Nat} {a1 a2 a3 a4 b0 b1 : Int} {z : Int} (hz : Int32.ofInt b1 ||| Int32.ofInt b0 = Int32.ofInt z) (k : Ev E d M_X11_secret 85 [vr a0, vi a1, vi a2, vi a3, vi a4, vu, vu] [vi z] κ I L Z) : Ev E d M_X11_secret 84 [vr a0, vi a1, vi a2, vi a3, vi a4, vu, vu] [vi b0, vi b1] κ I L Z := E_ior dX11_secret_84 hz k
/-! THE REFERENCE: secret -/
theorem lcm_e {a b : Int} (ha : 0 < a) (hb : 0 < b) : a * b.tdiv (Int.gcd a b : Int) = oneI a b * b := by
  obtain ⟨x, rfl⟩ := Int.eq_ofNat_of_zero_le (show 0 ≤ a by omega)
  obtain ⟨y, rfl⟩ := Int.eq_ofNat_of_zero_le (show 0 ≤ b by omega)
  unfold oneI
  rw [show Int.gcd (x : Int) (y : Int) = Nat.gcd x y from rfl, ← Int.ofNat_tdiv, ← Int.ofNat_tdiv, ← Int.natCast_mul, ← Int.natCast_mul]
  congr 1
  rw [Nat.div_mul_right_comm (Nat.gcd_dvd_left x y), Nat.mul_div_assoc _ (Nat.gcd_dvd_right x y)]
theorem kn_s {S : Int → Int} {v : Int} {n k : Nat} (hv : 0 < v ∧ v ≤ 1000000000000000) (h : n / 2 ^ k % 2 = 1) : knI S v n (k + 1) = knI S v n k * (Int.gcd v (S k) : Int).tdiv (Int.gcd (knI S v n k) (Int.gcd v (S k) : Int) : Int) := by
  have p0 := (knI_d (S := S) (n := n) hv k).2
  have p1 := (knI_d (S := S) (n := n) hv (k + 1)).2
  have hg := gcdI_b (b := S k) hv
  rw [lcm_e p0 hg.1]
  have e : knI S v n (k + 1) = eitI (knI S v n k) (Int.gcd v (S k) : Int) := by
    conv => lhs; unfold knI
    rw [if_pos h]
  rw [e] at p1 ⊢
  unfold eitI at p1 ⊢
  split
  · rfl
  next q => rw [if_neg q] at p1; omega
def btN (x : Nat) : Nat → Nat
  | 0 => 0
  | k + 1 => btN x k + x / 2 ^ k % 2
theorem btN_b (x : Nat) : ∀ k, btN x k ≤ k := by
  intro k
  induction k with
  | zero => exact Nat.le_refl _
  | succ k ih => unfold btN; omega
theorem c_X11_bits {E : En} {I L : MI} {x : Nat} (hx : x < 256 := by omega) : CFi E 1 M_X11_bits [vi (x : Int)] I L (bcN x : Nat) I L := by
  have e8 : btN x 8 = bcN x := by
    unfold bcN
    simp only [btN]
    rw [show (2 : Nat) ^ 0 = 1 from rfl, Nat.div_one, Nat.zero_add]
  refine CM_of' (al := [vi _, vu, vu]) rfl (Nat.le_of_ble_eq_true rfl) rfl (fun hM => ?_)
  have key : ∀ (f k : Nat), 8 - k < f → k ≤ 8 → Ev E 1 M_X11_bits 4 [vi (x : Int), vi (btN x k : Nat), vi (k : Int)] [] (G0, 0, 0) I L (ZQ E M_X11_bits (QFi (bcN x : Nat) I L)) := by
    intro f
    induction f with
    | zero => intro k h1 h2; omega
    | succ f ih =>
      intro k k1 k2
      have b := btN_b x k
      have hi := fun q : k < 8 => ih (k + 1) (by omega) (by omega)
      have es : btN x (k + 1) = btN x k + x / 2 ^ k % 2 := rfl
      rw [es] at hi
      refine (t70_X11_bits_4 (t70_X11_bits_5 (t70_X11_bits_7 (by omega) (by omega) (fun c7 => (t70_X11_bits_24 (t70_X11_bits_25 ?_))) (fun c7 => (t70_X11_bits_10 (t70_X11_bits_11 (t70_X11_bits_12 (t70_X11_bits_13 (Int32.ofInt_toInt _).symm (t70_X11_bits_14 (t70_X11_bits_15 (sh_and8 (a := x) (s := k) (by omega) (by omega)) (t70_X11_bits_16 (t70_X11_bits_17 (t70_X11_bits_18 (t70_X11_bits_21 ?_))))))))))))))
      -- 2 leaves: 7t :ret25 | 7f :->4
      · have : k = 8 := by omega
        subst this
        exact qfi (by omega) (by rw [← e8])
      · exact hi (by omega)
  refine (t70_X11_bits_0 (t70_X11_bits_1 (t70_X11_bits_2 (t70_X11_bits_3 ?_))))
  -- 1 leaves: :->4
  exact key 9 0 (by omega) (by omega)
theorem c_X11_doKnow {E : En} {I L : MI} {n : Nat} {v : Int} (hn : n < 256 := by omega) (hv : 0 < v ∧ v ≤ 1000000000000000 := by omega) (hs : SlR L := by assumption) : CB E 2 M_X11_doKnow [vr 78, vl v, vi (n : Int)] I L (knI (L 84) v n 8 = v) I L := by
  have g84 : G0.1[84]? = some (.inr (3, 8)) := rfl
  have kb : ∀ k : Nat, 0 < knI (L 84) v n k ∧ knI (L 84) v n k ≤ 1000000000000000 := fun k => by
    have := knI_d (S := L 84) (n := n) hv k
    have h2 := Int.le_of_dvd hv.1 this.1
    omega
  refine CM_of' (al := [vr _, vl _, vu, vi _, vu, vu, vu, vu, vu]) rfl (Nat.le_of_ble_eq_true rfl) rfl (fun hM => ?_)
  have key : ∀ (f : Nat) (k : Nat), 8 - k < f → k ≤ 8 → Ev E 2 M_X11_doKnow 6 [vr 78, vl v, vu, vi (n : Int), vl (knI (L 84) v n k), vu, vi (k : Int), vu, vu] [] (G0, 0, 0) I L (ZQ E M_X11_doKnow (QB (knI (L 84) v n 8 = v) I L)) := by
    intro f
    induction f with
    | zero => intro k h1 h2; omega
    | succ f ih =>
      intro k k1 k2
      have b0 := kb k
      have b1 := kb (k + 1)
      have hi := fun q : k < 8 => ih (k + 1) (by omega) (by omega)
      refine (t70_X11_doKnow_6 (t70_X11_doKnow_8 (t70_X11_doKnow_10 (by omega) (by omega) (fun c10 => (t70_X11_doKnow_57 (t70_X11_doKnow_59 (t70_X11_doKnow_60 (by omega) (by omega) (fun c60 => (t70_X11_doKnow_68 (t70_X11_doKnow_69 (by first | exact Or.inl rfl | exact Or.inr rfl | assumption | omega) ?_))) (fun c60 => (t70_X11_doKnow_64 (t70_X11_doKnow_65 (t70_X11_doKnow_69 (by first | exact Or.inl rfl | exact Or.inr rfl | assumption | omega) ?_)))))))) (fun c10 => (t70_X11_doKnow_13 (t70_X11_doKnow_14 (t70_X11_doKnow_16 (Int32.ofInt_toInt _).symm (t70_X11_doKnow_17 (t70_X11_doKnow_18 (sh_and8 (a := n) (s := k) (by omega) (by omega)) (t70_X11_doKnow_19 (t70_X11_doKnow_20 (by omega) (by omega) (fun c20 => (t70_X11_doKnow_51 (t70_X11_doKnow_54 ?_))) (fun c20 => ?_))))))))))))
      -- 4 leaves: 10t 60t :ret69 | 10t 60f :ret69 | 10f 20t :->6 | 10f 20f :->23
      · have : k = 8 := by omega
        subst this
        exact qb0 c60
      · have : k = 8 := by omega
        subst this
        exact qb1 c60
      · have h := hi (by omega)
        have e : knI (L 84) v n (k + 1) = knI (L 84) v n k := by
          conv => lhs; unfold knI
          rw [if_neg (by omega)]
        rw [e] at h
        exact h
      · have h := hi (by omega)
        have hsl := hs k (by omega) (by omega)
        have hg := gcdI_b (b := L 84 k) hv
        have hg2 := gcdI_b (b := (Int.gcd v (L 84 k) : Int)) b0
        have hb : n / 2 ^ k % 2 = 1 := by omega
        rw [kn_s hv hb] at h
        refine (t70_X11_doKnow_23 (t70_X11_doKnow_24 (t70_X11_doKnow_25 (by first | assumption | rfl) (by first | assumption | rfl) (t70_X11_doKnow_28 (t70_X11_doKnow_30 (by first | assumption | rfl) (by omega) (by omega) (by omega) (fun r30 => (t70_X11_doKnow_31 c_X11_shared (by first | decide | omega) (fun r31 => (t70_X11_doKnow_34 (t70_X11_doKnow_36 (t70_X11_doKnow_38 (t70_X11_doKnow_40 (t70_X11_doKnow_42 (t70_X11_doKnow_44 c_X11_shared (by first | decide | omega) (fun r44 => (t70_X11_doKnow_47 (by omega) (by omega) (by omega) (by omega) (t70_X11_doKnow_48 (t70_X11_doKnow_49 (t70_X11_doKnow_51v1 (t70_X11_doKnow_54v1 (Ev.wk (al' := [_, _, vu, _, _, vu, _, vu, vu]) ⟨.inl rfl, .inl rfl, .inl rfl, .inl rfl, .inl rfl, .inl rfl, .inl rfl, .inr rfl, .inl rfl, trivial⟩ ?_)))))))))))))))))))))
        -- 1 leaves: :->6
        exact h
  refine (t70_X11_doKnow_0 (t70_X11_doKnow_1 (t70_X11_doKnow_3 (t70_X11_doKnow_4 ?_))))
  -- 1 leaves: :->6
  exact key 9 0 (by omega) (by omega)
/-- those that may be asked: of o, not s, that hold one -/
def mayN (L : MI) (s : Int) (o : Nat) : Nat → Nat
  | 0 => 0
  | k + 1 => mayN L s o k + if ((k : Int) ≠ s ∧ 0 < L 84 (k : Int)) ∧ o / 2 ^ k % 2 = 1 then 2 ^ k else 0
theorem mayN_lt (L : MI) (s : Int) (o k : Nat) : mayN L s o k < 2 ^ k := by
  induction k with
  | zero => exact Nat.one_pos
  | succ k ih =>
    unfold mayN
    rw [Nat.pow_succ]
    split <;> omega
theorem b_and8 {k o : Nat} (hk : k < 8) (ho : o < 256) : Int32.ofInt (Int32.ofInt 1 <<< (Int32.ofInt (k : Int) &&& 31)).toInt &&& Int32.ofInt (o : Int) = Int32.ofInt (((if o / 2 ^ k % 2 = 1 then 2 ^ k else 0 : Nat) : Nat) : Int) := by
  rw [Int32.ofInt_toInt]
  have : ∀ k : Fin 8, ∀ o : Fin 256, (Int32.ofInt 1 <<< (Int32.ofInt (k.val : Int) &&& 31)) &&& Int32.ofInt (o.val : Int) = Int32.ofInt (((if o.val / 2 ^ k.val % 2 = 1 then 2 ^ k.val else 0 : Nat) : Nat) : Int) := by decide +kernel
  exact this ⟨k, hk⟩ ⟨o, ho⟩
noncomputable def rsecF (L : MI) (s o : Int) : Int :=
  if ¬ ((0 ≤ s ∧ s < 8) ∧ 0 ≤ o ∧ o < 256) then -9000000000000000001 else if L 84 s = 0 then -9000000000000000002 else if scN (mayN L s o.toNat 8 : Nat) (L 84 s) (L 84) 256 < 0 then -1000000 else scN (mayN L s o.toNat 8 : Nat) (L 84 s) (L 84) 256
/-- the best so far as it is held here -/
noncomputable def rbN (A v : Int) (S : Int → Int) (x : Nat) : Int := if scN A v S x < 0 then -1000000 else scN A v S x
theorem c_X11_secret {E : En} {I L : MI} {s o : Int} (hsr : Ir s) (hor : Ir o) (hs : SlR L) : CFl E 5 M_X11_secret [vr 78, vi s, vi o] I L (rsecF L s o) (up2 I 78 0 0) L := by
  have g84 : G0.1[84]? = some (.inr (3, 8)) := rfl
  refine CM_of' (al := [vr _, vi _, vi _, vu, vu, vu, vu]) rfl (Nat.le_of_ble_eq_true rfl) rfl (fun hM => ?_)
  have key : ∀ (A : Int), ((0 ≤ s ∧ s < 8) ∧ 0 ≤ o ∧ o < 256) → L 84 s ≠ 0 → Ir A → rsecF L s o = rbN A (L 84 s) (L 84) 256 → ∀ (f : Nat) (x : Nat), x + f = 256 → Ev E 5 M_X11_secret 99 [vr 78, vi s, vi o, vi A, vi (rbN A (L 84 s) (L 84) x), vi (x : Int), vu] [] (G0, 0, 0) (up2 I 78 0 0) L (ZQ E M_X11_secret (QFl (rsecF L s o) (up2 I 78 0 0) L)) := by
    intro A hk1 hk2 hA hf f
    have hv := hs s hk1.1.1 hk1.1.2
    rw [hf]
    induction f with
    | zero =>
      intro x hx
      have : x = 256 := by omega
      subst this
      have b := scN_b (A := A) (v := L 84 s) (S := L 84) 256
      have rb : Ir (rbN A (L 84 s) (L 84) 256) := by unfold rbN; split <;> omega
      refine (t70_X11_secret_99 (t70_X11_secret_101 (t70_X11_secret_104 (by omega) (by omega) (fun c104 => (t70_X11_secret_178 (t70_X11_secret_180 (by omega) (t70_X11_secret_181 ?_)))) (fun c104 => ?_))))
      -- 2 leaves: 104t :ret181 | 104f :->107
      · exact qfl (by omega) rfl
      · omega
    | succ f ih =>
      intro x hx
      have b := scN_b (A := A) (v := L 84 s) (S := L 84) x
      have rb : Ir (rbN A (L 84 s) (L 84) x) := by unfold rbN; split <;> omega
      have rn : rbN A (L 84 s) (L 84) x = -1000000 ↔ scN A (L 84 s) (L 84) x < 0 := by unfold rbN; split <;> omega
      have rp : ¬ scN A (L 84 s) (L 84) x < 0 → rbN A (L 84 s) (L 84) x = scN A (L 84 s) (L 84) x := fun q => if_neg q
      have hin : ∀ y : Int, y = rbN A (L 84 s) (L 84) (x + 1) → Ev E 5 M_X11_secret 99 [vr 78, vi s, vi o, vi A, vi y, vi ((x : Int) + 1), vu] [] (G0, 0, 0) (up2 I 78 0 0) L (ZQ E M_X11_secret (QFl (rbN A (L 84 s) (L 84) 256) (up2 I 78 0 0) L)) := fun y hy => by
        rw [hy]
        exact ih (x + 1) (by omega)
      have no : ¬ ((scN A (L 84 s) (L 84) x < 0 ∨ bcN x < bcN (scN A (L 84 s) (L 84) x).toNat) ∧ andN x A = 0 ∧ knI (L 84) (L 84 s) x 8 = L 84 s) → rbN A (L 84 s) (L 84) x = rbN A (L 84 s) (L 84) (x + 1) := fun h => by
        have e : scN A (L 84 s) (L 84) (x + 1) = scN A (L 84 s) (L 84) x := by
          conv => lhs; unfold scN
          rw [if_neg (fun q => h (bP_i.mp q))]
        unfold rbN
        rw [e]
      have yes : ((scN A (L 84 s) (L 84) x < 0 ∨ bcN x < bcN (scN A (L 84 s) (L 84) x).toNat) ∧ andN x A = 0 ∧ knI (L 84) (L 84 s) x 8 = L 84 s) → (x : Int) = rbN A (L 84 s) (L 84) (x + 1) := fun h => by
        have e : scN A (L 84 s) (L 84) (x + 1) = (x : Int) := by
          conv => lhs; unfold scN
          rw [if_pos (bP_t h)]
        unfold rbN
        rw [e, if_neg (by omega)]
      have h136 : (scN A (L 84 s) (L 84) x < 0 ∨ bcN x < bcN (scN A (L 84 s) (L 84) x).toNat) → andN x A = 0 → Ev E 5 M_X11_secret 136 [vr 78, vi s, vi o, vi A, vi (rbN A (L 84 s) (L 84) x), vi (x : Int), vu] [] (G0, 0, 0) (up2 I 78 0 0) L (ZQ E M_X11_secret (QFl (rbN A (L 84 s) (L 84) 256) (up2 I 78 0 0) L)) := fun hc ha => by
        refine (t70_X11_secret_136 (t70_X11_secret_137 (t70_X11_secret_138 (by first | assumption | rfl) (by first | assumption | rfl) (t70_X11_secret_141 (t70_X11_secret_142 (by first | assumption | rfl) (by omega) (by omega) (by omega) (fun r142 => (t70_X11_secret_143 (t70_X11_secret_145 (by first | assumption | rfl) c_X11_doKnow (by first | decide | omega) (fun c145 => (t70_X11_secret_148 (by decide) (fun h => absurd h (by decide)) (fun _ => (t70_X11_secret_151 (t70_X11_secret_152 (t70_X11_secret_156 (t70_X11_secret_158 (t70_X11_secret_160 (by omega) (fun c160 => (t70_X11_secret_168 (t70_X11_secret_170 (t70_X11_secret_172 (t70_X11_secret_175 (Ev.wk (al' := [_, _, _, _, _, _, vu]) ⟨.inl rfl, .inl rfl, .inl rfl, .inl rfl, .inl rfl, .inl rfl, .inr rfl, trivial⟩ ?_)))))) (fun c160 => (t70_X11_secret_163 (t70_X11_secret_165 (t70_X11_secret_170 (t70_X11_secret_172 (t70_X11_secret_175 (Ev.wk (al' := [_, _, _, _, _, _, vu]) ⟨.inl rfl, .inl rfl, .inl rfl, .inl rfl, .inl rfl, .inl rfl, .inr rfl, trivial⟩ ?_))))))))))))))) (fun c145 => (t70_X11_secret_148 (by decide) (fun _ => (t70_X11_secret_155 (t70_X11_secret_156 (t70_X11_secret_158 (t70_X11_secret_160 (by omega) (fun c160 => (t70_X11_secret_168 (t70_X11_secret_170 (t70_X11_secret_172 (t70_X11_secret_175 (Ev.wk (al' := [_, _, _, _, _, _, vu]) ⟨.inl rfl, .inl rfl, .inl rfl, .inl rfl, .inl rfl, .inl rfl, .inr rfl, trivial⟩ ?_)))))) (fun c160 => (t70_X11_secret_163 (t70_X11_secret_165 (t70_X11_secret_170 (t70_X11_secret_172 (t70_X11_secret_175 (Ev.wk (al' := [_, _, _, _, _, _, vu]) ⟨.inl rfl, .inl rfl, .inl rfl, .inl rfl, .inl rfl, .inl rfl, .inr rfl, trivial⟩ ?_)))))))))))) (fun h => absurd rfl h)))))))))))
        -- 4 leaves: 145T 160t :->99 | 145T 160f :->99 | 145F 160t :->99 | 145F 160f :->99
        · omega
        · exact hin _ (yes ⟨hc, ha, c145⟩)
        · exact hin _ (no fun h => c145 h.2.2)
        · omega
      refine (t70_X11_secret_99 (t70_X11_secret_101 (t70_X11_secret_104 (by omega) (by omega) (fun c104 => (t70_X11_secret_178 (t70_X11_secret_180 (by omega) (t70_X11_secret_181 ?_)))) (fun c104 => (t70_X11_secret_107 (t70_X11_secret_109 (t70_X11_secret_110 (t70_X11_secret_111 (Int32.ofInt_toInt _).symm (t70_X11_secret_112 (Int32.ofInt_toInt _).symm (t70_X11_secret_113 (t32 _) (fun c113 => (t70_X11_secret_155 (t70_X11_secret_156 (t70_X11_secret_158 (t70_X11_secret_160 (by omega) (fun c160 => (t70_X11_secret_168 (t70_X11_secret_170 (t70_X11_secret_172 (t70_X11_secret_175 (Ev.wk (al' := [_, _, _, _, _, _, vu]) ⟨.inl rfl, .inl rfl, .inl rfl, .inl rfl, .inl rfl, .inl rfl, .inr rfl, trivial⟩ ?_)))))) (fun c160 => (t70_X11_secret_163 (t70_X11_secret_165 (t70_X11_secret_170 (t70_X11_secret_172 (t70_X11_secret_175 (Ev.wk (al' := [_, _, _, _, _, _, vu]) ⟨.inl rfl, .inl rfl, .inl rfl, .inl rfl, .inl rfl, .inl rfl, .inr rfl, trivial⟩ ?_)))))))))))) (fun c113 => (t70_X11_secret_116 (t70_X11_secret_118 (t70_X11_secret_120 (by omega) (by omega) (fun c120 => ?_) (fun c120 => ?_)))))))))))))))
      -- 5 leaves: 104t :ret181 | 104f 113t 160t :->99 | 104f 113t 160f :->99 | 104f 113f 120t :->136 | 104f 113f 120f :->123
      · omega
      · exact hin _ (no fun h => c113 h.2.1)
      · omega
      · exact h136 (.inl (rn.mp c120)) c113
      · have n0 : ¬ scN A (L 84 s) (L 84) x < 0 := fun q => c120 (rn.mpr q)
        obtain ⟨b0, hb0⟩ := Int.eq_ofNat_of_zero_le (show 0 ≤ scN A (L 84 s) (L 84) x by omega)
        have er := rp n0
        rw [er, hb0] at h136 no ⊢
        rw [hb0] at b
        refine (t70_X11_secret_123 (t70_X11_secret_125 c_X11_bits (by first | decide | omega) (fun r125 => (t70_X11_secret_128 (t70_X11_secret_130 c_X11_bits (by first | decide | omega) (fun r130 => (t70_X11_secret_133 (by omega) (by omega) (fun c133 => (t70_X11_secret_155 (t70_X11_secret_156 (t70_X11_secret_158 (t70_X11_secret_160 (by omega) (fun c160 => (t70_X11_secret_168 (t70_X11_secret_170 (t70_X11_secret_172 (t70_X11_secret_175 (Ev.wk (al' := [_, _, _, _, _, _, vu]) ⟨.inl rfl, .inl rfl, .inl rfl, .inl rfl, .inl rfl, .inl rfl, .inr rfl, trivial⟩ ?_)))))) (fun c160 => (t70_X11_secret_163 (t70_X11_secret_165 (t70_X11_secret_170 (t70_X11_secret_172 (t70_X11_secret_175 (Ev.wk (al' := [_, _, _, _, _, _, vu]) ⟨.inl rfl, .inl rfl, .inl rfl, .inl rfl, .inl rfl, .inl rfl, .inr rfl, trivial⟩ ?_)))))))))))) (fun c133 => ?_))))))))
        -- 3 leaves: 133t 160t :->99 | 133t 160f :->99 | 133f :->136
        · refine hin _ (no fun h => ?_)
          rcases h.1 with h | h
          · omega
          · rw [Int.toNat_natCast] at h; omega
        · omega
        · exact h136 (.inr (by rw [Int.toNat_natCast]; omega)) c113
  refine (t70_X11_secret_0 (t70_X11_secret_1 (t70_X11_secret_2 (by first | assumption | rfl) (by omega) (t70_X11_secret_5 (t70_X11_secret_6 c_X11_isSlot (by first | decide | omega) (fun c6 => (t70_X11_secret_9 (by decide) (fun h => absurd h (by decide)) (fun _ => (t70_X11_secret_12 (t70_X11_secret_13 (by omega) (t70_X11_secret_14 (t70_X11_secret_15 (t70_X11_secret_18 c_X11_in (by first | decide | omega) (fun c18 => (t70_X11_secret_21 (by decide) (fun _ => (t70_X11_secret_28 (t70_X11_secret_29 (by first | assumption | rfl) (by first | assumption | rfl) (t70_X11_secret_32 (t70_X11_secret_33 (by first | assumption | rfl) (by omega) (by omega) (by omega) (fun r33 => (t70_X11_secret_34 (t70_X11_secret_35 (by omega) (by omega) (fun c35 => (t70_X11_secret_43 (t70_X11_secret_44 (t70_X11_secret_45 (t70_X11_secret_46 ?_))))) (fun c35 => (t70_X11_secret_39 (t70_X11_secret_42 ?_))))))))))) (fun h => absurd h (by decide)))) (fun c18 => (t70_X11_secret_21 (by decide) (fun h => absurd rfl h) (fun _ => (t70_X11_secret_24 (t70_X11_secret_27 ?_))))))))))))) (fun c6 => (t70_X11_secret_9 (by decide) (fun _ => (t70_X11_secret_24 (t70_X11_secret_27 ?_))) (fun h => absurd rfl h))))))))
  -- 4 leaves: 6T 18T 35t :->48 | 6T 18T 35f :ret42 | 6T 18F :ret27 | 6F :ret27
  · obtain ⟨q, rfl⟩ := Int.eq_ofNat_of_zero_le (show 0 ≤ o by omega)
    have hf : rsecF L s q = rbN (mayN L s q 8 : Nat) (L 84 s) (L 84) 256 := by
      unfold rsecF rbN
      rw [if_neg (by omega), if_neg c35, Int.toNat_natCast]
    have may : ∀ (f k : Nat), 8 - k < f → k ≤ 8 → Ev E 5 M_X11_secret 48 [vr 78, vi s, vi (q : Int), vi (mayN L s q k : Nat), vi (k : Int), vu, vu] [] (G0, 0, 0) (up2 I 78 0 0) L (ZQ E M_X11_secret (QFl (rsecF L s q) (up2 I 78 0 0) L)) := by
      intro f
      induction f with
      | zero => intro k h1 h2; omega
      | succ f ih =>
        intro k k1 k2
        have lt := mayN_lt L s q k
        have l8 := p2_le k2
        have l9 := mayN_lt L s q 8
        rw [show 2 ^ 8 = 256 from rfl] at l8 l9
        have es : mayN L s q (k + 1) = mayN L s q k + if ((k : Int) ≠ s ∧ 0 < L 84 (k : Int)) ∧ q / 2 ^ k % 2 = 1 then 2 ^ k else 0 := rfl
        have hi := fun z : k < 8 => ih (k + 1) (by omega) (by omega)
        rw [es] at hi
        refine (t70_X11_secret_48 (t70_X11_secret_50 (t70_X11_secret_52 (by omega) (by omega) (fun c52 => (t70_X11_secret_92 (t70_X11_secret_94 (t70_X11_secret_96 (t70_X11_secret_97 ?_))))) (fun c52 => (t70_X11_secret_55 (t70_X11_secret_56 (t70_X11_secret_58 (t70_X11_secret_59 (by omega) (by omega) (fun c59 => (t70_X11_secret_83 (t70_X11_secret_84 (b_or0 _) (t70_X11_secret_85 (t70_X11_secret_86 (t70_X11_secret_89 ?_)))))) (fun c59 => (t70_X11_secret_62 (t70_X11_secret_63 (by first | assumption | rfl) (by first | assumption | rfl) (t70_X11_secret_66 (t70_X11_secret_68 (by first | assumption | rfl) (by omega) (by omega) (by omega) (fun r68 => (t70_X11_secret_69 (t70_X11_secret_70 (by omega) (by omega) (fun c70 => (t70_X11_secret_83 (t70_X11_secret_84 (b_or0 _) (t70_X11_secret_85 (t70_X11_secret_86 (t70_X11_secret_89 ?_)))))) (fun c70 => ?_)))))))))))))))))
        -- 4 leaves: 52t :->99 | 52f 59t :->48 | 52f 59f 70t :->48 | 52f 59f 70f :->74
        · have : k = 8 := by omega
          subst this
          have sc : rbN (mayN L s q 8 : Nat) (L 84 s) (L 84) 0 = -1000000 := by
            unfold rbN
            rw [if_pos (by show (-1 : Int) < 0; decide)]
          have h := key (mayN L s q 8 : Nat) (by omega) c35 (by omega) hf 256 0 rfl
          rw [sc] at h
          exact h
        · have h := hi (by omega)
          rw [if_neg (by omega)] at h
          exact h
        · have h := hi (by omega)
          rw [if_neg (by omega)] at h
          exact h
        · have h := hi (by omega)
          by_cases hq : q / 2 ^ k % 2 = 1
          · have hb := b_and8 (k := k) (o := q) (by omega) (by omega)
            rw [if_pos hq] at hb
            rw [if_pos ⟨⟨by omega, by omega⟩, hq⟩] at h
            refine (t70_X11_secret_74 (t70_X11_secret_75 (t70_X11_secret_77 (Int32.ofInt_toInt _).symm (t70_X11_secret_78 (t70_X11_secret_79 (hb) (t70_X11_secret_80 (t70_X11_secret_84v1 (b_orp lt) (t70_X11_secret_85 (t70_X11_secret_86 (t70_X11_secret_89 ?_))))))))))
            -- 1 leaves: :->48
            exact h
          · have hb := b_and8 (k := k) (o := q) (by omega) (by omega)
            rw [if_neg hq] at hb
            rw [if_neg (fun z => hq z.2)] at h
            refine (t70_X11_secret_74 (t70_X11_secret_75 (t70_X11_secret_77 (Int32.ofInt_toInt _).symm (t70_X11_secret_78 (t70_X11_secret_79 (hb) (t70_X11_secret_80 (t70_X11_secret_84v2 (b_or0 _) (t70_X11_secret_85 (t70_X11_secret_86 (t70_X11_secret_89 ?_))))))))))
            -- 1 leaves: :->48
            exact h
    exact may 9 0 (by omega) (by omega)
  · exact qfl (by decide) (by unfold rsecF; rw [if_neg (by omega), if_pos c35])
  · exact qfl (by decide) (by unfold rsecF; rw [if_pos (by omega)])
  · exact qfl (by decide) (by unfold rsecF; rw [if_pos (by omega)])
/-- what the class asks is the same set -/
theorem ask_may {L : MI} {s : Int} {o : Nat} (hs : 0 ≤ s ∧ s < 8) (ho : o < 256) (h : ∀ k : Nat, k < 8 → (L 24 (k : Int) = 0 ↔ ¬ 0 < L 84 (k : Int))) : askN o (hbN L 24 8 : Nat) s = (mayN L s o 8 : Nat) := by
  obtain ⟨s, rfl⟩ := Int.eq_ofNat_of_zero_le hs.1
  have d1 : ∀ o : Fin 256, ∀ k s : Fin 8, (o.val &&& 2 ^ k.val) &&& (255 ^^^ 2 ^ s.val) = if k.val ≠ s.val ∧ o.val / 2 ^ k.val % 2 = 1 then 2 ^ k.val else 0 := by decide +kernel
  have d2 : ∀ a : Fin 256, ∀ s : Fin 8, (Int32.ofInt (a.val : Int) &&& Int32.ofInt (Int32.ofInt (Int32.ofInt 1 <<< (Int32.ofInt (s.val : Int) &&& 31)).toInt ^^^ Int32.ofInt (-1)).toInt).toInt = ((a.val &&& (255 ^^^ 2 ^ s.val) : Nat) : Int) := by decide +kernel
  have key : ∀ k : Nat, k ≤ 8 → (o &&& hbN L 24 k) &&& (255 ^^^ 2 ^ s) = mayN L s o k := by
    intro k
    induction k with
    | zero => intro _; show (o &&& 0) &&& _ = 0; rw [Nat.and_zero, Nat.zero_and]
    | succ k ih =>
      intro hk
      have hi := ih (by omega)
      have lt := hbN_lt L 24 k
      have ltm := mayN_lt L s o k
      have e1 := d1 ⟨o, ho⟩ ⟨k, by omega⟩ ⟨s, by omega⟩
      simp only [] at e1
      have hk8 := h k (by omega)
      have orp : ∀ {b : Nat}, b < 2 ^ k → b ||| 2 ^ k = b + 2 ^ k := fun hb => by
        have := Nat.two_pow_add_eq_or_of_lt hb 1
        rw [Nat.mul_one] at this
        rw [Nat.or_comm, ← this, Nat.add_comm]
      unfold hbN mayN
      by_cases q : L 24 (k : Int) = 0
      · rw [if_pos q, Nat.add_zero, hi, if_neg (fun z => hk8.mp q z.1.2), Nat.add_zero]
      · have q2 : 0 < L 84 (k : Int) := by
          apply Classical.byContradiction
          intro z
          exact q (hk8.mpr z)
        rw [if_neg q, ← orp lt, Nat.and_or_distrib_left, Nat.and_or_distrib_right, hi, e1]
        by_cases q3 : k ≠ s ∧ o / 2 ^ k % 2 = 1
        · rw [if_pos q3, if_pos ⟨⟨by omega, q2⟩, q3.2⟩, orp ltm]
        · rw [if_neg q3, if_neg (fun z => q3 ⟨by have := z.1.1; omega, z.2⟩), Nat.or_zero]
          rfl
  have hb := hbN_lt L 24 8
  rw [show 2 ^ 8 = 256 from rfl] at hb
  have an : o &&& hbN L 24 8 < 256 := Nat.lt_of_le_of_lt Nat.and_le_left ho
  have e2 := d2 ⟨o &&& hbN L 24 8, an⟩ ⟨s, by omega⟩
  simp only [] at e2
  unfold askN
  rw [Int32.ofInt_toInt (Int32.ofInt (o : Int) &&& _), b_and, e2, key 8 (Nat.le_refl 8)]
