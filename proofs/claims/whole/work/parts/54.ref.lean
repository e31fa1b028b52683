theorem t54_X11_take_28 {E : En} {d : Nat} {κ : Kp} {I L : MI} {Z : Zt} {a0 : Nat} {a1 a3 : Int}  (k : Ev E d M_X11_take 29 [vr a0, vl a1, vu, vi a3] [vi a3] κ I L Z) : Ev E d M_X11_take 28 [vr a0, vl a1, vu, vi a3] [] κ I L Z := E_iload_n dX11_take_28 rfl k
theorem t54_X11_take_29 {E : En} {d : Nat} {κ : Kp} {I L : MI} {Z : Zt} {a0 : Nat} {a1 a3 b0 : Int}  (k : Ev E d M_X11_take 30 [vr a0, vl a1, vu, vi a3] [vr a0, vi b0] κ I L Z) : Ev E d M_X11_take 29 [vr a0, vl a1, vu, vi a3] [vi b0] κ I L Z := E_aload_n dX11_take_29 rfl k
theorem t54_X11_take_30 {E : En} {d : Nat} {κ : Kp} {I L : MI} {Z : Zt} {a0 b0 : Nat} {a1 a3 b1 : Int} {q : Nat} (hs : κ.1.1[b0]? = some (.inl 11)) (hq : κ.1.2 b0 5 = some q) (k : Ev E d M_X11_take 33 [vr a0, vl a1, vu, vi a3] [vr q, vi b1] κ I L Z) : Ev E d M_X11_take 30 [vr a0, vl a1, vu, vi a3] [vr b0, vi b1] κ I L Z := E_getR (ci := 11) (n := 5) dX11_take_30 wF_RX11_19 (by decide) hs rfl hq k
theorem t54_X11_take_33 {E : En} {d : Nat} {κ : Kp} {I L : MI} {Z : Zt} {a0 b0 : Nat} {a1 a3 b1 : Int}  (k : Ev E d M_X11_take 34 [vr a0, vl a1, vu, vi a3] [vi 0, vr b0, vi b1] κ I L Z) : Ev E d M_X11_take 33 [vr a0, vl a1, vu, vi a3] [vr b0, vi b1] κ I L Z := E_iconst (v := 0) dX11_take_33 rfl k
theorem t54_X11_take_34 {E : En} {d : Nat} {κ : Kp} {I L : MI} {Z : Zt} {a0 b1 : Nat} {a1 a3 b0 b2 : Int} {n : Nat} (hs : κ.1.1[b1]? = some (.inr (0, n))) (h0 : 0 ≤ b0) (h1 : b0 < n) (hi : Ir b0) (k : Ir (I b1 b0) → Ev E d M_X11_take 35 [vr a0, vl a1, vu, vi a3] [vi (I b1 b0), vi b2] κ I L Z) : Ev E d M_X11_take 34 [vr a0, vl a1, vu, vi a3] [vi b0, vr b1, vi b2] κ I L Z := E_ialdI dX11_take_34 hs h0 h1 hi k
theorem t54_X11_take_35 {E : En} {d : Nat} {κ : Kp} {I L : MI} {Z : Zt} {a0 : Nat} {a1 a3 b0 b1 : Int} (hx : Ir b1) (hy : Ir b0) (kt : b0 ≤ b1 → Ev E d M_X11_take 76 [vr a0, vl a1, vu, vi a3] [] κ I L Z) (kf : b1 < b0 → Ev E d M_X11_take 38 [vr a0, vl a1, vu, vi a3] [] κ I L Z) : Ev E d M_X11_take 35 [vr a0, vl a1, vu, vi a3] [vi b0, vi b1] κ I L Z := E_icmp_ge dX11_take_35 hx hy kt kf (by decide)
theorem t54_X11_take_76 {E : En} {d : Nat} {g : Geo} {I L : MI} {Q : Option AV → Geo → MI → MI → Prop} {cs : Nat × Nat} {a0 : Nat} {a1 a3 : Int} (hq : Q none g I L) (h1 : cs.1 ≤ M_X11_take.2.2.2.2.1 := by decide) (h2 : cs.2 ≤ M_X11_take.2.2.2.2.2 := by decide) : Ev E d M_X11_take 76 [vr a0, vl a1, vu, vi a3] [] (g, cs) I L (ZQ E M_X11_take Q) := E_return rfl dX11_take_76 hq h1 h2
theorem t54_X11_take_38 {E : En} {d : Nat} {κ : Kp} {I L : MI} {Z : Zt} {a0 : Nat} {a1 a3 : Int}  (k : Ev E d M_X11_take 39 [vr a0, vl a1, vu, vi a3] [vr a0] κ I L Z) : Ev E d M_X11_take 38 [vr a0, vl a1, vu, vi a3] [] κ I L Z := E_aload_n dX11_take_38 rfl k
theorem t54_X11_take_39 {E : En} {d : Nat} {κ : Kp} {I L : MI} {Z : Zt} {a0 b0 : Nat} {a1 a3 : Int}  (k : Ev E d M_X11_take 40 [vr a0, vl a1, vu, vi a3] [vi a3, vr b0] κ I L Z) : Ev E d M_X11_take 39 [vr a0, vl a1, vu, vi a3] [vr b0] κ I L Z := E_iload_n dX11_take_39 rfl k
theorem t54_X11_take_40 {E : En} {d : Nat} {κ : Kp} {I L : MI} {Z : Zt} {a0 b1 : Nat} {a1 a3 b0 : Int}  (k : Ev E d M_X11_take 41 [vr a0, vl a1, vu, vi a3] [vr a0, vi b0, vr b1] κ I L Z) : Ev E d M_X11_take 40 [vr a0, vl a1, vu, vi a3] [vi b0, vr b1] κ I L Z := E_aload_n dX11_take_40 rfl k
theorem t54_X11_take_41 {E : En} {d : Nat} {κ : Kp} {I L : MI} {Z : Zt} {a0 b0 b2 : Nat} {a1 a3 b1 : Int} {q : Nat} (hs : κ.1.1[b0]? = some (.inl 11)) (hq : κ.1.2 b0 5 = some q) (k : Ev E d M_X11_take 44 [vr a0, vl a1, vu, vi a3] [vr q, vi b1, vr b2] κ I L Z) : Ev E d M_X11_take 41 [vr a0, vl a1, vu, vi a3] [vr b0, vi b1, vr b2] κ I L Z := E_getR (ci := 11) (n := 5) dX11_take_41 wF_RX11_19 (by decide) hs rfl hq k
theorem t54_X11_take_44 {E : En} {d : Nat} {κ : Kp} {I L : MI} {Z : Zt} {a0 b0 b2 : Nat} {a1 a3 b1 : Int}  (k : Ev E d M_X11_take 45 [vr a0, vl a1, vu, vi a3] [vi 3, vr b0, vi b1, vr b2] κ I L Z) : Ev E d M_X11_take 44 [vr a0, vl a1, vu, vi a3] [vr b0, vi b1, vr b2] κ I L Z := E_iconst (v := 3) dX11_take_44 rfl k
theorem t54_X11_take_45 {E : En} {d : Nat} {κ : Kp} {I L : MI} {Z : Zt} {a0 b1 b3 : Nat} {a1 a3 b0 b2 : Int}  (k : Ev E d M_X11_take 46 [vr a0, vl a1, vu, vi a3] [vi 3, vi b0, vr b1, vi b2, vr b3] κ I L Z) : Ev E d M_X11_take 45 [vr a0, vl a1, vu, vi a3] [vi b0, vr b1, vi b2, vr b3] κ I L Z := E_iconst (v := 3) dX11_take_45 rfl k
theorem t54_X11_take_46 {E : En} {d : Nat} {κ : Kp} {I L : MI} {Z : Zt} {a0 b2 b4 : Nat} {a1 a3 b0 b1 b3 : Int}  (k : Ev E d M_X11_take 47 [vr a0, vl a1, vu, vi a3] [vi a3, vi b0, vi b1, vr b2, vi b3, vr b4] κ I L Z) : Ev E d M_X11_take 46 [vr a0, vl a1, vu, vi a3] [vi b0, vi b1, vr b2, vi b3, vr b4] κ I L Z := E_iload_n dX11_take_46 rfl k
theorem t54_X11_take_47 {E : En} {d : Nat} {κ : Kp} {I L : MI} {Z : Zt} {a0 b3 b5 : Nat} {a1 a3 b0 b1 b2 b4 : Int}  (k : Ev E d M_X11_take 48 [vr a0, vl a1, vu, vi a3] [vi (b1 * b0), vi b2, vr b3, vi b4, vr b5] κ I L Z) : Ev E d M_X11_take 47 [vr a0, vl a1, vu, vi a3] [vi b0, vi b1, vi b2, vr b3, vi b4, vr b5] κ I L Z := E_imul dX11_take_47 k
theorem t54_X11_take_48 {E : En} {d : Nat} {κ : Kp} {I L : MI} {Z : Zt} {a0 b2 b4 : Nat} {a1 a3 b0 b1 b3 : Int}  (k : Ev E d M_X11_take 49 [vr a0, vl a1, vu, vi a3] [vi (b1 + b0), vr b2, vi b3, vr b4] κ I L Z) : Ev E d M_X11_take 48 [vr a0, vl a1, vu, vi a3] [vi b0, vi b1, vr b2, vi b3, vr b4] κ I L Z := E_iadd dX11_take_48 k
theorem t54_X11_take_49 {E : En} {d : Nat} {κ : Kp} {I L : MI} {Z : Zt} {a0 b1 b3 : Nat} {a1 a3 b0 b2 : Int} {n : Nat} (hs : κ.1.1[b1]? = some (.inr (0, n))) (h0 : 0 ≤ b0) (h1 : b0 < n) (hi : Ir b0) (k : Ir (I b1 b0) → Ev E d M_X11_take 50 [vr a0, vl a1, vu, vi a3] [vi (I b1 b0), vi b2, vr b3] κ I L Z) : Ev E d M_X11_take 49 [vr a0, vl a1, vu, vi a3] [vi b0, vr b1, vi b2, vr b3] κ I L Z := E_ialdI dX11_take_49 hs h0 h1 hi k
theorem t54_X11_take_50 {E : En} {d d' : Nat} {cs : Nat × Nat} {I L : MI} {Z : Zt} {a0 b2 : Nat} {a1 a3 b0 b1 : Int} {I' L' : MI} (hs : G0.1[b2]? = some (.inl 11)) (hM : CFv E d' M_X11_divide [vr b2, vi b1, vi b0] I L I' L') (hlt : d' + 1 ≤ d) (k : Ev E d M_X11_take 53 [vr a0, vl a1, vu, vi a3] [] (G0, cs) I' L' Z) (hc1 : cs.1 ≤ M_X11_take.2.2.2.2.1 := by decide) (hc2 : cs.2 ≤ M_X11_take.2.2.2.2.2 := by decide) : Ev E d M_X11_take 50 [vr a0, vl a1, vu, vi a3] [vi b0, vi b1, vr b2] (G0, cs) I L Z := E_callV (as := [vi b1, vi b0]) (rest := []) (n := 2) hM dX11_take_50 wM_RX11_223 wS_X11_divide wV_X11_divide hs (by decide) rfl hlt wC_X11_divide wI_X11 (by decide +kernel) rfl (by decide) (Nat.le_of_ble_eq_true rfl) hc1 hc2 rfl (fun r g' I2 L2 h => by obtain ⟨rfl, rfl, rfl, rfl⟩ := h; exact k)
theorem t54_X11_take_53 {E : En} {d : Nat} {κ : Kp} {I L : MI} {Z : Zt} {a0 : Nat} {a1 a3 : Int}  (k : Ev E d M_X11_take 54 [vr a0, vl a1, vu, vi a3] [vr a0] κ I L Z) : Ev E d M_X11_take 53 [vr a0, vl a1, vu, vi a3] [] κ I L Z := E_aload_n dX11_take_53 rfl k
theorem t54_X11_take_54 {E : En} {d : Nat} {κ : Kp} {I L : MI} {Z : Zt} {a0 b0 : Nat} {a1 a3 : Int}  (k : Ev E d M_X11_take 55 [vr a0, vl a1, vu, vi a3] [vi a3, vr b0] κ I L Z) : Ev E d M_X11_take 54 [vr a0, vl a1, vu, vi a3] [vr b0] κ I L Z := E_iload_n dX11_take_54 rfl k
theorem t54_X11_take_55 {E : En} {d : Nat} {κ : Kp} {I L : MI} {Z : Zt} {a0 b1 : Nat} {a1 a3 b0 : Int}  (k : Ev E d M_X11_take 56 [vr a0, vl a1, vu, vi a3] [vr a0, vi b0, vr b1] κ I L Z) : Ev E d M_X11_take 55 [vr a0, vl a1, vu, vi a3] [vi b0, vr b1] κ I L Z := E_aload_n dX11_take_55 rfl k
theorem t54_X11_take_56 {E : En} {d : Nat} {κ : Kp} {I L : MI} {Z : Zt} {a0 b0 b2 : Nat} {a1 a3 b1 : Int} {q : Nat} (hs : κ.1.1[b0]? = some (.inl 11)) (hq : κ.1.2 b0 5 = some q) (k : Ev E d M_X11_take 59 [vr a0, vl a1, vu, vi a3] [vr q, vi b1, vr b2] κ I L Z) : Ev E d M_X11_take 56 [vr a0, vl a1, vu, vi a3] [vr b0, vi b1, vr b2] κ I L Z := E_getR (ci := 11) (n := 5) dX11_take_56 wF_RX11_19 (by decide) hs rfl hq k
theorem t54_X11_take_59 {E : En} {d : Nat} {κ : Kp} {I L : MI} {Z : Zt} {a0 b0 b2 : Nat} {a1 a3 b1 : Int}  (k : Ev E d M_X11_take 60 [vr a0, vl a1, vu, vi a3] [vi 3, vr b0, vi b1, vr b2] κ I L Z) : Ev E d M_X11_take 59 [vr a0, vl a1, vu, vi a3] [vr b0, vi b1, vr b2] κ I L Z := E_iconst (v := 3) dX11_take_59 rfl k
theorem t54_X11_take_60 {E : En} {d : Nat} {κ : Kp} {I L : MI} {Z : Zt} {a0 b1 b3 : Nat} {a1 a3 b0 b2 : Int}  (k : Ev E d M_X11_take 61 [vr a0, vl a1, vu, vi a3] [vi 3, vi b0, vr b1, vi b2, vr b3] κ I L Z) : Ev E d M_X11_take 60 [vr a0, vl a1, vu, vi a3] [vi b0, vr b1, vi b2, vr b3] κ I L Z := E_iconst (v := 3) dX11_take_60 rfl k
theorem t54_X11_take_61 {E : En} {d : Nat} {κ : Kp} {I L : MI} {Z : Zt} {a0 b2 b4 : Nat} {a1 a3 b0 b1 b3 : Int}  (k : Ev E d M_X11_take 62 [vr a0, vl a1, vu, vi a3] [vi a3, vi b0, vi b1, vr b2, vi b3, vr b4] κ I L Z) : Ev E d M_X11_take 61 [vr a0, vl a1, vu, vi a3] [vi b0, vi b1, vr b2, vi b3, vr b4] κ I L Z := E_iload_n dX11_take_61 rfl k
theorem t54_X11_take_62 {E : En} {d : Nat} {κ : Kp} {I L : MI} {Z : Zt} {a0 b3 b5 : Nat} {a1 a3 b0 b1 b2 b4 : Int}  (k : Ev E d M_X11_take 63 [vr a0, vl a1, vu, vi a3] [vi (b1 * b0), vi b2, vr b3, vi b4, vr b5] κ I L Z) : Ev E d M_X11_take 62 [vr a0, vl a1, vu, vi a3] [vi b0, vi b1, vi b2, vr b3, vi b4, vr b5] κ I L Z := E_imul dX11_take_62 k
theorem t54_X11_take_63 {E : En} {d : Nat} {κ : Kp} {I L : MI} {Z : Zt} {a0 b2 b4 : Nat} {a1 a3 b0 b1 b3 : Int}  (k : Ev E d M_X11_take 64 [vr a0, vl a1, vu, vi a3] [vi (b1 + b0), vr b2, vi b3, vr b4] κ I L Z) : Ev E d M_X11_take 63 [vr a0, vl a1, vu, vi a3] [vi b0, vi b1, vr b2, vi b3, vr b4] κ I L Z := E_iadd dX11_take_63 k
theorem t54_X11_take_64 {E : En} {d : Nat} {κ : Kp} {I L : MI} {Z : Zt} {a0 b1 b3 : Nat} {a1 a3 b0 b2 : Int}  (k : Ev E d M_X11_take 65 [vr a0, vl a1, vu, vi a3] [vi 1, vi b0, vr b1, vi b2, vr b3] κ I L Z) : Ev E d M_X11_take 64 [vr a0, vl a1, vu, vi a3] [vi b0, vr b1, vi b2, vr b3] κ I L Z := E_iconst (v := 1) dX11_take_64 rfl k
theorem t54_X11_take_65 {E : En} {d : Nat} {κ : Kp} {I L : MI} {Z : Zt} {a0 b2 b4 : Nat} {a1 a3 b0 b1 b3 : Int}  (k : Ev E d M_X11_take 66 [vr a0, vl a1, vu, vi a3] [vi (b1 + b0), vr b2, vi b3, vr b4] κ I L Z) : Ev E d M_X11_take 65 [vr a0, vl a1, vu, vi a3] [vi b0, vi b1, vr b2, vi b3, vr b4] κ I L Z := E_iadd dX11_take_65 k
theorem t54_X11_take_66 {E : En} {d : Nat} {κ : Kp} {I L : MI} {Z : Zt} {a0 b1 b3 : Nat} {a1 a3 b0 b2 : Int} {n : Nat} (hs : κ.1.1[b1]? = some (.inr (0, n))) (h0 : 0 ≤ b0) (h1 : b0 < n) (hi : Ir b0) (k : Ir (I b1 b0) → Ev E d M_X11_take 67 [vr a0, vl a1, vu, vi a3] [vi (I b1 b0), vi b2, vr b3] κ I L Z) : Ev E d M_X11_take 66 [vr a0, vl a1, vu, vi a3] [vi b0, vr b1, vi b2, vr b3] κ I L Z := E_ialdI dX11_take_66 hs h0 h1 hi k
theorem t54_X11_take_67 {E : En} {d d' : Nat} {cs : Nat × Nat} {I L : MI} {Z : Zt} {a0 b2 : Nat} {a1 a3 b0 b1 : Int} {I' L' : MI} (hs : G0.1[b2]? = some (.inl 11)) (hM : CFv E d' M_X11_divide [vr b2, vi b1, vi b0] I L I' L') (hlt : d' + 1 ≤ d) (k : Ev E d M_X11_take 70 [vr a0, vl a1, vu, vi a3] [] (G0, cs) I' L' Z) (hc1 : cs.1 ≤ M_X11_take.2.2.2.2.1 := by decide) (hc2 : cs.2 ≤ M_X11_take.2.2.2.2.2 := by decide) : Ev E d M_X11_take 67 [vr a0, vl a1, vu, vi a3] [vi b0, vi b1, vr b2] (G0, cs) I L Z := E_callV (as := [vi b1, vi b0]) (rest := []) (n := 2) hM dX11_take_67 wM_RX11_223 wS_X11_divide wV_X11_divide hs (by decide) rfl hlt wC_X11_divide wI_X11 (by decide +kernel) rfl (by decide) (Nat.le_of_ble_eq_true rfl) hc1 hc2 rfl (fun r g' I2 L2 h => by obtain ⟨rfl, rfl, rfl, rfl⟩ := h; exact k)
theorem t54_X11_take_70 {E : En} {d : Nat} {κ : Kp} {I L : MI} {Z : Zt} {a0 : Nat} {a1 a3 : Int}  (k : Ev E d M_X11_take 73 [vr a0, vl a1, vu, vi (a3 + 1)] [] κ I L Z) : Ev E d M_X11_take 70 [vr a0, vl a1, vu, vi a3] [] κ I L Z := E_iinc dX11_take_70 rfl rfl (Nat.le_of_ble_eq_true rfl) k
theorem t54_X11_take_73 {E : En} {d : Nat} {κ : Kp} {I L : MI} {Z : Zt} {a0 : Nat} {a1 a3 : Int}  (k : Ev E d M_X11_take 28 [vr a0, vl a1, vu, vi a3] [] κ I L Z) : Ev E d M_X11_take 73 [vr a0, vl a1, vu, vi a3] [] κ I L Z := E_goto dX11_take_73 (by decide) k
theorem t54_X11_take_7 {E : En} {d : Nat} {κ : Kp} {I L : MI} {Z : Zt} {a0 : Nat} {a1 a3 : Int}  (k : Ev E d M_X11_take 8 [vr a0, vl a1, vu, vi a3] [vi a3] κ I L Z) : Ev E d M_X11_take 7 [vr a0, vl a1, vu, vi a3] [] κ I L Z := E_iload_n dX11_take_7 rfl k
theorem t54_X11_take_8 {E : En} {d : Nat} {κ : Kp} {I L : MI} {Z : Zt} {a0 : Nat} {a1 a3 b0 : Int}  (k : Ev E d M_X11_take 10 [vr a0, vl a1, vu, vi a3] [vi 12, vi b0] κ I L Z) : Ev E d M_X11_take 8 [vr a0, vl a1, vu, vi a3] [vi b0] κ I L Z := E_bipush (v := 12) dX11_take_8 rfl k
theorem t54_X11_take_10 {E : En} {d : Nat} {κ : Kp} {I L : MI} {Z : Zt} {a0 : Nat} {a1 a3 b0 b1 : Int} (hx : Ir b1) (hy : Ir b0) (kt : b0 ≤ b1 → Ev E d M_X11_take 26 [vr a0, vl a1, vu, vi a3] [] κ I L Z) (kf : b1 < b0 → Ev E d M_X11_take 13 [vr a0, vl a1, vu, vi a3] [] κ I L Z) : Ev E d M_X11_take 10 [vr a0, vl a1, vu, vi a3] [vi b0, vi b1] κ I L Z := E_icmp_ge dX11_take_10 hx hy kt kf (by decide)
theorem t54_X11_take_26 {E : En} {d : Nat} {κ : Kp} {I L : MI} {Z : Zt} {a0 : Nat} {a1 a3 : Int}  (k : Ev E d M_X11_take 27 [vr a0, vl a1, vu, vi a3] [vi 0] κ I L Z) : Ev E d M_X11_take 26 [vr a0, vl a1, vu, vi a3] [] κ I L Z := E_iconst (v := 0) dX11_take_26 rfl k
theorem t54_X11_take_27 {E : En} {d : Nat} {κ : Kp} {I L : MI} {Z : Zt} {a0 : Nat} {a1 a3 b0 : Int}  (k : Ev E d M_X11_take 28 [vr a0, vl a1, vu, vi b0] [] κ I L Z) : Ev E d M_X11_take 27 [vr a0, vl a1, vu, vi a3] [vi b0] κ I L Z := E_istore_n dX11_take_27 rfl (Nat.le_of_ble_eq_true rfl) k
theorem t54_X11_take_13 {E : En} {d : Nat} {κ : Kp} {I L : MI} {Z : Zt} {a0 : Nat} {a1 a3 : Int}  (k : Ev E d M_X11_take 14 [vr a0, vl a1, vu, vi a3] [vr a0] κ I L Z) : Ev E d M_X11_take 13 [vr a0, vl a1, vu, vi a3] [] κ I L Z := E_aload_n dX11_take_13 rfl k
theorem t54_X11_take_14 {E : En} {d : Nat} {κ : Kp} {I L : MI} {Z : Zt} {a0 b0 : Nat} {a1 a3 : Int} {q : Nat} (hs : κ.1.1[b0]? = some (.inl 11)) (hq : κ.1.2 b0 19 = some q) (k : Ev E d M_X11_take 17 [vr a0, vl a1, vu, vi a3] [vr q] κ I L Z) : Ev E d M_X11_take 14 [vr a0, vl a1, vu, vi a3] [vr b0] κ I L Z := E_getR (ci := 11) (n := 19) dX11_take_14 wF_RX11_32 (by decide) hs rfl hq k
theorem t54_X11_take_17 {E : En} {d : Nat} {κ : Kp} {I L : MI} {Z : Zt} {a0 b0 : Nat} {a1 a3 : Int}  (k : Ev E d M_X11_take 18 [vr a0, vl a1, vu, vi a3] [vi a3, vr b0] κ I L Z) : Ev E d M_X11_take 17 [vr a0, vl a1, vu, vi a3] [vr b0] κ I L Z := E_iload_n dX11_take_17 rfl k
theorem t54_X11_take_18 {E : En} {d : Nat} {κ : Kp} {I L : MI} {Z : Zt} {a0 b1 : Nat} {a1 a3 b0 : Int}  (k : Ev E d M_X11_take 19 [vr a0, vl a1, vu, vi a3] [vi 0, vi b0, vr b1] κ I L Z) : Ev E d M_X11_take 18 [vr a0, vl a1, vu, vi a3] [vi b0, vr b1] κ I L Z := E_iconst (v := 0) dX11_take_18 rfl k
theorem t54_X11_take_19 {E : En} {d : Nat} {κ : Kp} {I L : MI} {Z : Zt} {a0 b2 : Nat} {a1 a3 b0 b1 : Int} {n : Nat} (ha : κ.1.1[b2]? = some (.inr (0, n))) (h0 : 0 ≤ b1) (h1 : b1 < n) (hi : Ir b1) (hz : Ir b0) (k : Ev E d M_X11_take 20 [vr a0, vl a1, vu, vi a3] [] κ (up2 I b2 b1 b0) L Z) : Ev E d M_X11_take 19 [vr a0, vl a1, vu, vi a3] [vi b0, vi b1, vr b2] κ I L Z := E_iast dX11_take_19 ha h0 h1 hi hz k
theorem t54_X11_take_20 {E : En} {d : Nat} {κ : Kp} {I L : MI} {Z : Zt} {a0 : Nat} {a1 a3 : Int}  (k : Ev E d M_X11_take 23 [vr a0, vl a1, vu, vi (a3 + 1)] [] κ I L Z) : Ev E d M_X11_take 20 [vr a0, vl a1, vu, vi a3] [] κ I L Z := E_iinc dX11_take_20 rfl rfl (Nat.le_of_ble_eq_true rfl) k
theorem t54_X11_take_23 {E : En} {d : Nat} {κ : Kp} {I L : MI} {Z : Zt} {a0 : Nat} {a1 a3 : Int}  (k : Ev E d M_X11_take 7 [vr a0, vl a1, vu, vi a3] [] κ I L Z) : Ev E d M_X11_take 23 [vr a0, vl a1, vu, vi a3] [] κ I L Z := E_goto dX11_take_23 (by decide) k
theorem t54_X11_take_0 {E : En} {d : Nat} {κ : Kp} {I L : MI} {Z : Zt} {a0 : Nat} {a1 : Int}  (k : Ev E d M_X11_take 1 [vr a0, vl a1, vu, vu] [vr a0] κ I L Z) : Ev E d M_X11_take 0 [vr a0, vl a1, vu, vu] [] κ I L Z := E_aload_n dX11_take_0 rfl k
theorem t54_X11_take_1 {E : En} {d : Nat} {κ : Kp} {I L : MI} {Z : Zt} {a0 b0 : Nat} {a1 : Int}  (k : Ev E d M_X11_take 2 [vr a0, vl a1, vu, vu] [vl a1, vr b0] κ I L Z) : Ev E d M_X11_take 1 [vr a0, vl a1, vu, vu] [vr b0] κ I L Z := E_lload_n dX11_take_1 rfl k
theorem t54_X11_take_2 {E : En} {d : Nat} {κ : Kp} {I L : MI} {Z : Zt} {a0 b1 : Nat} {a1 b0 : Int} (hs : κ.1.1[b1]? = some (.inl 11)) (hz : Jr b0) (k : Ev E d M_X11_take 5 [vr a0, vl a1, vu, vu] [] κ I (up2 L b1 20 b0) Z) : Ev E d M_X11_take 2 [vr a0, vl a1, vu, vu] [vl b0, vr b1] κ I L Z := E_putL (ci := 11) (n := 20) dX11_take_2 wF_RX11_219 (by decide) hs rfl rfl hz k
theorem t54_X11_take_5 {E : En} {d : Nat} {κ : Kp} {I L : MI} {Z : Zt} {a0 : Nat} {a1 : Int}  (k : Ev E d M_X11_take 6 [vr a0, vl a1, vu, vu] [vi 0] κ I L Z) : Ev E d M_X11_take 5 [vr a0, vl a1, vu, vu] [] κ I L Z := E_iconst (v := 0) dX11_take_5 rfl k
theorem t54_X11_take_6 {E : En} {d : Nat} {κ : Kp} {I L : MI} {Z : Zt} {a0 : Nat} {a1 b0 : Int}  (k : Ev E d M_X11_take 7 [vr a0, vl a1, vu, vi b0] [] κ I L Z) : Ev E d M_X11_take 6 [vr a0, vl a1, vu, vu] [vi b0] κ I L Z := E_istore_n dX11_take_6 rfl (Nat.le_of_ble_eq_true rfl) k
/-! THE REFERENCE: take -/
def rF (I : MI) (k : Int) : Int := if 0 ≤ k ∧ k < I 82 0 then I 82 (3 + 3 * k) else 0
def rO (I : MI) (k : Int) : Int := if 0 ≤ k ∧ k < I 82 0 then I 82 (3 + 3 * k + 1) else 0
/-- the reference's tongue, as far as taking apart wants it -/
def RtB (I : MI) : Prop := (0 ≤ I 82 0 ∧ I 82 0 ≤ 12) ∧ ∀ k, 0 ≤ k → k < I 82 0 → (2 ≤ I 82 (3 + 3 * k) ∧ I 82 (3 + 3 * k) ≤ 199) ∧ (I 82 (3 + 3 * k + 1) = 0 ∨ (2 ≤ I 82 (3 + 3 * k + 1) ∧ I 82 (3 + 3 * k + 1) ≤ 199))
def rTkQ (I L : MI) (v : Int) : MI → MI → Prop := fun I' L' => (∀ o, o ≠ 86 → ∀ k, I' o k = I o k) ∧ (∀ o k, o ≠ 78 ∨ k ≠ 20 → L' o k = L o k) ∧ L' 78 20 = tkR (rF I) (rO I) v 12 ∧ ∀ k : Nat, k < 12 → I' 86 k = tkC (rF I) (rO I) v k
theorem tkN_pos {b : Int} (hb : b = 0 ∨ 2 ≤ b) : ∀ (f : Nat) (r c : Int), 1 ≤ r → 1 ≤ (tkN b f r c).1 := by
  intro f
  induction f with
  | zero => intro r c h; exact h
  | succ f ih =>
    intro r c h
    unfold tkN
    split
    next hc =>
      refine ih _ _ ?_
      have h5 : r.tdiv b * b = r := Int.tdiv_mul_cancel (Int.dvd_of_tmod_eq_zero hc.2)
      have h0 := tdiv_b (r := r) (b := b) (by omega) hc.1
      apply Classical.byContradiction
      intro q
      have : r.tdiv b = 0 := by omega
      rw [this, Int.zero_mul] at h5
      omega
    next => exact h
theorem tko_pos {b r : Int} (hb : b = 0 ∨ 2 ≤ b) (h : 1 ≤ r) : 1 ≤ (tko b r).1 := tkN_pos hb 64 r 0 h
theorem tko_0 (r : Int) : tko 0 r = (r, 0) := by
  unfold tko tkN
  rw [if_neg (by omega)]
theorem c_X11_take {E : En} {I L : MI} {v : Int} (hv : 1 ≤ v ∧ v ≤ 1000000000000000) (ht : RtB I) : CQv E 2 M_X11_take [vr 78, vl v] I L (rTkQ I L v) := by
  have g86 : G0.1[86]? = some (.inr (0, 12)) := rfl
  have g82 : G0.1[82]? = some (.inr (0, 65)) := rfl
  obtain ⟨h12, hth⟩ := ht
  refine CM_of' (al := [vr _, vl _, vu, vu]) rfl (Nat.le_of_ble_eq_true rfl) rfl (fun hM => ?_)
  have main : ∀ (f : Nat) (k : Nat) (I1 L1 : MI), k + f = 12 → (k : Int) ≤ I 82 0 → (∀ o, o ≠ 86 → ∀ j, I1 o j = I o j) → (∀ o j, o ≠ 78 ∨ j ≠ 20 → L1 o j = L o j) → L1 78 20 = tkR (rF I) (rO I) v k → 1 ≤ L1 78 20 → L1 78 20 ≤ 1000000000000000 → (∀ j : Nat, j < k → I1 86 j = tkC (rF I) (rO I) v j) → (∀ j : Nat, k ≤ j → j < 12 → I1 86 j = 0) → Ev E 2 M_X11_take 28 [vr 78, vl v, vu, vi (k : Int)] [] (G0, 0, 0) I1 L1 (ZQ E M_X11_take (QQv (rTkQ I L v))) := by
    intro f
    induction f with
    | zero =>
      intro k I1 L1 h1 h2 f1 f2 f3 f4 f5 f6 f7
      have : k = 12 := by omega
      subst this
      have e82 : I1 82 0 = I 82 0 := f1 82 (by decide) 0
      refine (t54_X11_take_28 (t54_X11_take_29 (t54_X11_take_30 (by first | assumption | rfl) (by first | assumption | rfl) (t54_X11_take_33 (t54_X11_take_34 (by first | assumption | rfl) (by omega) (by omega) (by omega) (fun r34 => (t54_X11_take_35 (by omega) (by omega) (fun c35 => (t54_X11_take_76 ?_)) (fun c35 => ?_))))))))
      -- 2 leaves: 35t :ret76 | 35f :->38
      · exact qqv ⟨f1, f2, f3, f6⟩
      · omega
    | succ f ih =>
      intro k I1 L1 h1 h2 f1 f2 f3 f4 f5 f6 f7
      have e82 : I1 82 0 = I 82 0 := f1 82 (by decide) 0
      refine (t54_X11_take_28 (t54_X11_take_29 (t54_X11_take_30 (by first | assumption | rfl) (by first | assumption | rfl) (t54_X11_take_33 (t54_X11_take_34 (by first | assumption | rfl) (by omega) (by omega) (by omega) (fun r34 => (t54_X11_take_35 (by omega) (by omega) (fun c35 => (t54_X11_take_76 ?_)) (fun c35 => ?_))))))))
      -- 2 leaves: 35t :ret76 | 35f :->38
      · -- no more things
        have hk : (k : Int) = I 82 0 := by omega
        have z1 : ∀ j : Nat, k ≤ j → rF I j = 0 ∧ rO I j = 0 := fun j hj => ⟨if_neg (by omega), if_neg (by omega)⟩
        have z2 : ∀ j : Nat, k ≤ j → tkR (rF I) (rO I) v j = tkR (rF I) (rO I) v k := fun j hj => by
          induction j with
          | zero => have : k = 0 := by omega
                    subst this; rfl
          | succ j ihj =>
            by_cases e : k = j + 1
            · subst e; rfl
            · have := ihj (by omega)
              unfold tkR
              rw [(z1 j (by omega)).1, (z1 j (by omega)).2, tko_0, tko_0]
              rw [this]
              cases k with
              | zero => rfl
              | succ k => rfl
        refine qqv ⟨f1, f2, by rw [z2 12 (by omega)]; exact f3, fun j hj => ?_⟩
        by_cases q : j < k
        · exact f6 j q
        · rw [f7 j (by omega) hj]
          unfold tkC
          rw [(z1 j (by omega)).1, (z1 j (by omega)).2, tko_0, tko_0]
          rfl
      · have hk : (k : Int) < I 82 0 := by omega
        have th := hth k (by omega) hk
        have eF : I1 82 (3 + 3 * (k : Int)) = rF I k := by rw [f1 82 (by decide)]; exact (if_pos ⟨by omega, hk⟩).symm
        have eO : I1 82 (3 + 3 * (k : Int) + 1) = rO I k := by rw [f1 82 (by decide)]; exact (if_pos ⟨by omega, hk⟩).symm
        have bF : rF I k = 0 ∨ (2 ≤ rF I k ∧ rF I k ≤ 199) := by rw [← eF, f1 82 (by decide)]; omega
        have bO : rO I k = 0 ∨ (2 ≤ rO I k ∧ rO I k ≤ 199) := by rw [← eO, f1 82 (by decide)]; omega
        have z0 := f7 k (Nat.le_refl k) (by omega)
        have tb1 := tko_b (rF I k) (r := L1 78 20) (by omega)
        have tp1 := tko_pos (b := rF I k) (r := L1 78 20) (by omega) f4
        refine (t54_X11_take_38 (t54_X11_take_39 (t54_X11_take_40 (t54_X11_take_41 (by first | assumption | rfl) (by first | assumption | rfl) (t54_X11_take_44 (t54_X11_take_45 (t54_X11_take_46 (t54_X11_take_47 (t54_X11_take_48 (t54_X11_take_49 (by first | assumption | rfl) (by omega) (by omega) (by omega) (fun r49 => (t54_X11_take_50 (by first | assumption | rfl) ((c_X11_divide (t := (k : Int)) (b := I1 82 (3 + 3 * (k : Int))) (by omega) (by rw [eF]; exact bF) ⟨f4, f5⟩ (by omega))) (by first | decide | omega) ?_))))))))))))
        -- 1 leaves: :->53
        rw [eF]
        generalize hL2 : up2 L1 78 20 (tko (rF I k) (L1 78 20)).1 = L2
        generalize hI2 : up2 I1 86 (k : Int) (I1 86 k + (tko (rF I k) (L1 78 20)).2) = I2
        have l2 : L2 78 20 = (tko (rF I k) (L1 78 20)).1 := by rw [← hL2, up2_eq]
        have i2 : I2 86 k = (tko (rF I k) (L1 78 20)).2 := by rw [← hI2, up2_eq, z0, Int.zero_add]
        have eO2 : I2 82 (3 + 3 * (k : Int) + 1) = rO I k := by rw [← hI2, up2_ne (.inl (by decide))]; exact eO
        have tb2 := tko_b (rO I k) (r := L2 78 20) (by omega)
        have tp2 := tko_pos (b := rO I k) (r := L2 78 20) (by omega) (by omega)
        refine (t54_X11_take_53 (t54_X11_take_54 (t54_X11_take_55 (t54_X11_take_56 (by first | assumption | rfl) (by first | assumption | rfl) (t54_X11_take_59 (t54_X11_take_60 (t54_X11_take_61 (t54_X11_take_62 (t54_X11_take_63 (t54_X11_take_64 (t54_X11_take_65 (t54_X11_take_66 (by first | assumption | rfl) (by omega) (by omega) (by omega) (fun r66 => (t54_X11_take_67 (by first | assumption | rfl) ((c_X11_divide (t := (k : Int)) (b := I2 82 (3 + 3 * (k : Int) + 1)) (by omega) (by rw [eO2]; exact bO) ⟨by omega, by omega⟩ (by omega))) (by first | decide | omega) (t54_X11_take_70 (t54_X11_take_73 ?_))))))))))))))))
        -- 1 leaves: :->28
        rw [eO2]
        have hR : (tko (rO I k) (L2 78 20)).1 = tkR (rF I) (rO I) v (k + 1) := by rw [l2, f3]; rfl
        have hC : I2 86 k + (tko (rO I k) (L2 78 20)).2 = tkC (rF I) (rO I) v k := by rw [i2, l2, f3]; rfl
        refine ih (k + 1) _ _ (by omega) (by omega) (fun o o1 j => by rw [up2_ne (.inl o1), ← hI2, up2_ne (.inl o1)]; exact f1 o o1 j) (fun o j h => by rw [up2_ne h, ← hL2, up2_ne h]; exact f2 o j h) (by rw [up2_eq]; exact hR) (by rw [up2_eq]; exact tp2) (by rw [up2_eq]; omega) (fun j hj => ?_) (fun j hj hj2 => ?_)
        · by_cases e : j = k
          · subst e; rw [up2_eq]; exact hC
          · rw [up2_ne (.inr (by omega)), ← hI2, up2_ne (.inr (by omega))]; exact f6 j (by omega)
        · rw [up2_ne (.inr (by omega)), ← hI2, up2_ne (.inr (by omega))]; exact f7 j (by omega) hj2
  have zero : ∀ (f : Nat) (k : Nat) (I1 : MI), k + f = 12 → (∀ o, o ≠ 86 → ∀ j, I1 o j = I o j) → (∀ j : Nat, j < k → I1 86 j = 0) → Ev E 2 M_X11_take 7 [vr 78, vl v, vu, vi (k : Int)] [] (G0, 0, 0) I1 (up2 L 78 20 v) (ZQ E M_X11_take (QQv (rTkQ I L v))) := by
    intro f
    induction f with
    | zero =>
      intro k I1 h1 f1 f2
      have : k = 12 := by omega
      subst this
      refine (t54_X11_take_7 (t54_X11_take_8 (t54_X11_take_10 (by omega) (by omega) (fun c10 => (t54_X11_take_26 (t54_X11_take_27 ?_))) (fun c10 => ?_))))
      -- 2 leaves: 10t :->28 | 10f :->13
      · exact main 12 0 I1 _ (by omega) (by omega) f1 (fun o j h => up2_ne h) (up2_eq _ _ _ _) (by rw [up2_eq]; omega) (by rw [up2_eq]; omega) (fun j hj => by omega) (fun j _ hj => f2 j hj)
      · omega
    | succ f ih =>
      intro k I1 h1 f1 f2
      refine (t54_X11_take_7 (t54_X11_take_8 (t54_X11_take_10 (by omega) (by omega) (fun c10 => (t54_X11_take_26 (t54_X11_take_27 ?_))) (fun c10 => (t54_X11_take_13 (t54_X11_take_14 (by first | assumption | rfl) (by first | assumption | rfl) (t54_X11_take_17 (t54_X11_take_18 (t54_X11_take_19 (by first | assumption | rfl) (by omega) (by omega) (by omega) (by omega) (t54_X11_take_20 (t54_X11_take_23 ?_)))))))))))
      -- 2 leaves: 10t :->28 | 10f :->7
      · omega
      · refine ih (k + 1) _ (by omega) (fun o o1 j => by rw [up2_ne (.inl o1)]; exact f1 o o1 j) fun j hj => ?_
        by_cases e : j = k
        · subst e; rw [up2_eq]
        · rw [up2_ne (.inr (by omega))]; exact f2 j (by omega)
  refine (t54_X11_take_0 (t54_X11_take_1 (t54_X11_take_2 (by first | assumption | rfl) (by omega) (t54_X11_take_5 (t54_X11_take_6 ?_)))))
  -- 1 leaves: :->7
  exact zero 12 0 I (by omega) (fun o _ j => rfl) (fun j hj => by omega)
