theorem t73_X11_bad_0 {E : En} {d : Nat} {κ : Kp} {I L : MI} {Z : Zt} {a0 : Nat} {a1 : Int}  (k : Ev E d M_X11_bad 1 [vr a0, vi a1] [vr a0] κ I L Z) : Ev E d M_X11_bad 0 [vr a0, vi a1] [] κ I L Z := E_aload_n dX11_bad_0 rfl k
theorem t73_X11_bad_1 {E : En} {d : Nat} {κ : Kp} {I L : MI} {Z : Zt} {a0 b0 : Nat} {a1 : Int} (hs : κ.1.1[b0]? = some (.inl 11)) (k : Ir (I b0 17) → Ev E d M_X11_bad 4 [vr a0, vi a1] [vi (I b0 17)] κ I L Z) : Ev E d M_X11_bad 1 [vr a0, vi a1] [vr b0] κ I L Z := E_getI (ci := 11) (n := 17) dX11_bad_1 wF_RX11_119 (by decide) hs rfl k
theorem t73_X11_bad_4 {E : En} {d : Nat} {κ : Kp} {I L : MI} {Z : Zt} {a0 : Nat} {a1 b0 : Int} (hx : Ir b0) (kt : ¬ b0 = 0 → Ev E d M_X11_bad 20 [vr a0, vi a1] [] κ I L Z) (kf : b0 = 0 → Ev E d M_X11_bad 7 [vr a0, vi a1] [] κ I L Z) : Ev E d M_X11_bad 4 [vr a0, vi a1] [vi b0] κ I L Z := E_if_ne dX11_bad_4 hx kt kf (by decide)
theorem t73_X11_bad_20 {E : En} {d : Nat} {g : Geo} {I L : MI} {Q : Option AV → Geo → MI → MI → Prop} {cs : Nat × Nat} {a0 : Nat} {a1 : Int} (hq : Q none g I L) (h1 : cs.1 ≤ M_X11_bad.2.2.2.2.1 := by decide) (h2 : cs.2 ≤ M_X11_bad.2.2.2.2.2 := by decide) : Ev E d M_X11_bad 20 [vr a0, vi a1] [] (g, cs) I L (ZQ E M_X11_bad Q) := E_return rfl dX11_bad_20 hq h1 h2
theorem t73_X11_bad_7 {E : En} {d : Nat} {κ : Kp} {I L : MI} {Z : Zt} {a0 : Nat} {a1 : Int}  (k : Ev E d M_X11_bad 8 [vr a0, vi a1] [vr a0] κ I L Z) : Ev E d M_X11_bad 7 [vr a0, vi a1] [] κ I L Z := E_aload_n dX11_bad_7 rfl k
theorem t73_X11_bad_8 {E : En} {d : Nat} {κ : Kp} {I L : MI} {Z : Zt} {a0 b0 : Nat} {a1 : Int}  (k : Ev E d M_X11_bad 9 [vr a0, vi a1] [vi a1, vr b0] κ I L Z) : Ev E d M_X11_bad 8 [vr a0, vi a1] [vr b0] κ I L Z := E_iload_n dX11_bad_8 rfl k
theorem t73_X11_bad_9 {E : En} {d : Nat} {κ : Kp} {I L : MI} {Z : Zt} {a0 b1 : Nat} {a1 b0 : Int} (hs : κ.1.1[b1]? = some (.inl 11)) (hz : Ir b0) (k : Ev E d M_X11_bad 12 [vr a0, vi a1] [] κ (up2 I b1 17 b0) L Z) : Ev E d M_X11_bad 9 [vr a0, vi a1] [vi b0, vr b1] κ I L Z := E_putI (ci := 11) (n := 17) dX11_bad_9 wF_RX11_119 (by decide) hs rfl rfl hz k
theorem t73_X11_bad_12 {E : En} {d : Nat} {κ : Kp} {I L : MI} {Z : Zt} {a0 : Nat} {a1 : Int}  (k : Ev E d M_X11_bad 13 [vr a0, vi a1] [vr a0] κ I L Z) : Ev E d M_X11_bad 12 [vr a0, vi a1] [] κ I L Z := E_aload_n dX11_bad_12 rfl k
theorem t73_X11_bad_13 {E : En} {d : Nat} {κ : Kp} {I L : MI} {Z : Zt} {a0 b0 : Nat} {a1 : Int}  (k : Ev E d M_X11_bad 14 [vr a0, vi a1] [vr a0, vr b0] κ I L Z) : Ev E d M_X11_bad 13 [vr a0, vi a1] [vr b0] κ I L Z := E_aload_n dX11_bad_13 rfl k
theorem t73_X11_bad_14 {E : En} {d : Nat} {κ : Kp} {I L : MI} {Z : Zt} {a0 b0 b1 : Nat} {a1 : Int} (hs : κ.1.1[b0]? = some (.inl 11)) (k : Ir (I b0 15) → Ev E d M_X11_bad 17 [vr a0, vi a1] [vi (I b0 15), vr b1] κ I L Z) : Ev E d M_X11_bad 14 [vr a0, vi a1] [vr b0, vr b1] κ I L Z := E_getI (ci := 11) (n := 15) dX11_bad_14 wF_RX11_104 (by decide) hs rfl k
theorem t73_X11_bad_17 {E : En} {d : Nat} {κ : Kp} {I L : MI} {Z : Zt} {a0 b1 : Nat} {a1 b0 : Int} (hs : κ.1.1[b1]? = some (.inl 11)) (hz : Ir b0) (k : Ev E d M_X11_bad 20 [vr a0, vi a1] [] κ (up2 I b1 18 b0) L Z) : Ev E d M_X11_bad 17 [vr a0, vi a1] [vi b0, vr b1] κ I L Z := E_putI (ci := 11) (n := 18) dX11_bad_17 wF_RX11_125 (by decide) hs rfl rfl hz k
theorem t73_X11_must_0 {E : En} {d : Nat} {κ : Kp} {I L : MI} {Z : Zt} {a0 : Nat} {a1 : Int}  (k : Ev E d M_X11_must 1 [vr a0, vi a1] [vi a1] κ I L Z) : Ev E d M_X11_must 0 [vr a0, vi a1] [] κ I L Z := E_iload_n dX11_must_0 rfl k
theorem t73_X11_must_1 {E : En} {d : Nat} {κ : Kp} {I L : MI} {Z : Zt} {a0 : Nat} {a1 b0 : Int} (hx : Ir b0) (kt : ¬ b0 = 0 → Ev E d M_X11_must 9 [vr a0, vi a1] [] κ I L Z) (kf : b0 = 0 → Ev E d M_X11_must 4 [vr a0, vi a1] [] κ I L Z) : Ev E d M_X11_must 1 [vr a0, vi a1] [vi b0] κ I L Z := E_if_ne dX11_must_1 hx kt kf (by decide)
theorem t73_X11_must_4 {E : En} {d : Nat} {κ : Kp} {I L : MI} {Z : Zt} {a0 : Nat} {a1 : Int}  (k : Ev E d M_X11_must 5 [vr a0, vi a1] [vr a0] κ I L Z) : Ev E d M_X11_must 4 [vr a0, vi a1] [] κ I L Z := E_aload_n dX11_must_4 rfl k
theorem t73_X11_must_5 {E : En} {d : Nat} {κ : Kp} {I L : MI} {Z : Zt} {a0 b0 : Nat} {a1 : Int}  (k : Ev E d M_X11_must 6 [vr a0, vi a1] [vi 1, vr b0] κ I L Z) : Ev E d M_X11_must 5 [vr a0, vi a1] [vr b0] κ I L Z := E_iconst (v := 1) dX11_must_5 rfl k
theorem t73_X11_must_6 {E : En} {d d' : Nat} {cs : Nat × Nat} {I L : MI} {Z : Zt} {a0 b1 : Nat} {a1 b0 : Int} {I' L' : MI} (hs : G0.1[b1]? = some (.inl 11)) (hM : CFv E d' M_X11_bad [vr b1, vi b0] I L I' L') (hlt : d' + 1 ≤ d) (k : Ev E d M_X11_must 9 [vr a0, vi a1] [] (G0, cs) I' L' Z) (hc1 : cs.1 ≤ M_X11_must.2.2.2.2.1 := by decide) (hc2 : cs.2 ≤ M_X11_must.2.2.2.2.2 := by decide) : Ev E d M_X11_must 6 [vr a0, vi a1] [vi b0, vr b1] (G0, cs) I L Z := E_callV (as := [vi b0]) (rest := []) (n := 1) hM dX11_must_6 wM_RX11_128 wS_X11_bad wV_X11_bad hs (by decide) rfl hlt wC_X11_bad wI_X11 (by decide +kernel) rfl (by decide) (Nat.le_of_ble_eq_true rfl) hc1 hc2 rfl (fun r g' I2 L2 h => by obtain ⟨rfl, rfl, rfl, rfl⟩ := h; exact k)
theorem t73_X11_must_9 {E : En} {d : Nat} {κ : Kp} {I L : MI} {Z : Zt} {a0 : Nat} {a1 : Int}  (k : Ev E d M_X11_must 10 [vr a0, vi a1] [vr a0] κ I L Z) : Ev E d M_X11_must 9 [vr a0, vi a1] [] κ I L Z := E_aload_n dX11_must_9 rfl k
theorem t73_X11_must_10 {E : En} {d : Nat} {κ : Kp} {I L : MI} {Z : Zt} {a0 b0 : Nat} {a1 : Int} (hs : κ.1.1[b0]? = some (.inl 11)) (k : Ir (I b0 17) → Ev E d M_X11_must 13 [vr a0, vi a1] [vi (I b0 17)] κ I L Z) : Ev E d M_X11_must 10 [vr a0, vi a1] [vr b0] κ I L Z := E_getI (ci := 11) (n := 17) dX11_must_10 wF_RX11_119 (by decide) hs rfl k
theorem t73_X11_must_13 {E : En} {d : Nat} {κ : Kp} {I L : MI} {Z : Zt} {a0 : Nat} {a1 b0 : Int} (hx : Ir b0) (kt : ¬ b0 = 0 → Ev E d M_X11_must 20 [vr a0, vi a1] [] κ I L Z) (kf : b0 = 0 → Ev E d M_X11_must 16 [vr a0, vi a1] [] κ I L Z) : Ev E d M_X11_must 13 [vr a0, vi a1] [vi b0] κ I L Z := E_if_ne dX11_must_13 hx kt kf (by decide)
theorem t73_X11_must_20 {E : En} {d : Nat} {g : Geo} {I L : MI} {Q : Option AV → Geo → MI → MI → Prop} {cs : Nat × Nat} {a0 : Nat} {a1 : Int} (hq : Q none g I L) (h1 : cs.1 ≤ M_X11_must.2.2.2.2.1 := by decide) (h2 : cs.2 ≤ M_X11_must.2.2.2.2.2 := by decide) : Ev E d M_X11_must 20 [vr a0, vi a1] [] (g, cs) I L (ZQ E M_X11_must Q) := E_return rfl dX11_must_20 hq h1 h2
theorem t73_X11_must_16 {E : En} {d : Nat} {κ : Kp} {I L : MI} {Z : Zt} {a0 : Nat} {a1 : Int}  (k : Ev E d M_X11_must 17 [vr a0, vi a1] [vr a0] κ I L Z) : Ev E d M_X11_must 16 [vr a0, vi a1] [] κ I L Z := E_aload_n dX11_must_16 rfl k
theorem t73_X11_must_17 {E : En} {d d' : Nat} {cs : Nat × Nat} {I L : MI} {Z : Zt} {a0 b0 : Nat} {a1 : Int} {Q : MI → MI → Prop} (hs : G0.1[b0]? = some (.inl 11)) (hM : CQv E d' M_X11_next [vr b0] I L Q) (hlt : d' + 1 ≤ d) (kk : ∀ (I' L' : MI), Q I' L' → Ev E d M_X11_must 20 [vr a0, vi a1] [] (G0, cs) I' L' Z) (hc1 : cs.1 ≤ M_X11_must.2.2.2.2.1 := by decide) (hc2 : cs.2 ≤ M_X11_must.2.2.2.2.2 := by decide) : Ev E d M_X11_must 17 [vr a0, vi a1] [vr b0] (G0, cs) I L Z := E_callV (as := []) (rest := []) (n := 0) hM dX11_must_17 wM_RX11_122 wS_X11_next wV_X11_next hs (by decide) rfl hlt wC_X11_next wI_X11 (by decide +kernel) rfl (by decide) (Nat.le_of_ble_eq_true rfl) hc1 hc2 rfl (fun r g' I' L' h => by obtain ⟨rfl, rfl, h⟩ := h; exact kk I' L' h)
theorem t73_X11_figures_7 {E : En} {d : Nat} {κ : Kp} {I L : MI} {Z : Zt} {a0 : Nat} {a1 a2 : Int}  (k : Ev E d M_X11_figures 8 [vr a0, vi a1, vi a2] [vi a2] κ I L Z) : Ev E d M_X11_figures 7 [vr a0, vi a1, vi a2] [] κ I L Z := E_iload_n dX11_figures_7 rfl k
theorem t73_X11_figures_8 {E : En} {d : Nat} {κ : Kp} {I L : MI} {Z : Zt} {a0 : Nat} {a1 a2 b0 : Int}  (k : Ev E d M_X11_figures 9 [vr a0, vi a1, vi a2] [vr a0, vi b0] κ I L Z) : Ev E d M_X11_figures 8 [vr a0, vi a1, vi a2] [vi b0] κ I L Z := E_aload_n dX11_figures_8 rfl k
theorem t73_X11_figures_9 {E : En} {d : Nat} {κ : Kp} {I L : MI} {Z : Zt} {a0 b0 : Nat} {a1 a2 b1 : Int} (hs : κ.1.1[b0]? = some (.inl 11)) (k : Ir (I b0 16) → Ev E d M_X11_figures 12 [vr a0, vi a1, vi a2] [vi (I b0 16), vi b1] κ I L Z) : Ev E d M_X11_figures 9 [vr a0, vi a1, vi a2] [vr b0, vi b1] κ I L Z := E_getI (ci := 11) (n := 16) dX11_figures_9 wF_RX11_116 (by decide) hs rfl k
theorem t73_X11_figures_12 {E : En} {d : Nat} {κ : Kp} {I L : MI} {Z : Zt} {a0 : Nat} {a1 a2 b0 b1 : Int} (hx : Ir b1) (hy : Ir b0) (kt : b0 ≤ b1 → Ev E d M_X11_figures 44 [vr a0, vi a1, vi a2] [] κ I L Z) (kf : b1 < b0 → Ev E d M_X11_figures 15 [vr a0, vi a1, vi a2] [] κ I L Z) : Ev E d M_X11_figures 12 [vr a0, vi a1, vi a2] [vi b0, vi b1] κ I L Z := E_icmp_ge dX11_figures_12 hx hy kt kf (by decide)
theorem t73_X11_figures_44 {E : En} {d : Nat} {κ : Kp} {I L : MI} {Z : Zt} {a0 : Nat} {a1 a2 : Int}  (k : Ev E d M_X11_figures 45 [vr a0, vi a1, vi a2] [vi a1] κ I L Z) : Ev E d M_X11_figures 44 [vr a0, vi a1, vi a2] [] κ I L Z := E_iload_n dX11_figures_44 rfl k
theorem t73_X11_figures_45 {E : En} {d : Nat} {g : Geo} {I L : MI} {Q : Option AV → Geo → MI → MI → Prop} {cs : Nat × Nat} {a0 : Nat} {a1 a2 b0 : Int} (hq : Q (some (vi b0)) g I L) (h1 : cs.1 ≤ M_X11_figures.2.2.2.2.1 := by decide) (h2 : cs.2 ≤ M_X11_figures.2.2.2.2.2 := by decide) : Ev E d M_X11_figures 45 [vr a0, vi a1, vi a2] [vi b0] (g, cs) I L (ZQ E M_X11_figures Q) := E_ireturn rfl dX11_figures_45 hq h1 h2
theorem t73_X11_figures_15 {E : En} {d : Nat} {κ : Kp} {I L : MI} {Z : Zt} {a0 : Nat} {a1 a2 : Int}  (k : Ev E d M_X11_figures 16 [vr a0, vi a1, vi a2] [vr a0] κ I L Z) : Ev E d M_X11_figures 15 [vr a0, vi a1, vi a2] [] κ I L Z := E_aload_n dX11_figures_15 rfl k
theorem t73_X11_figures_16 {E : En} {d : Nat} {κ : Kp} {I L : MI} {Z : Zt} {a0 b0 : Nat} {a1 a2 : Int} (hs : κ.1.1[b0]? = some (.inl 11)) (k : Ir (I b0 14) → Ev E d M_X11_figures 19 [vr a0, vi a1, vi a2] [vi (I b0 14)] κ I L Z) : Ev E d M_X11_figures 16 [vr a0, vi a1, vi a2] [vr b0] κ I L Z := E_getI (ci := 11) (n := 14) dX11_figures_16 wF_RX11_107 (by decide) hs rfl k
theorem t73_X11_figures_19 {E : En} {d : Nat} {κ : Kp} {I L : MI} {Z : Zt} {a0 : Nat} {a1 a2 b0 : Int}  (k : Ev E d M_X11_figures 20 [vr a0, vi a1, vi a2] [vi 3, vi b0] κ I L Z) : Ev E d M_X11_figures 19 [vr a0, vi a1, vi a2] [vi b0] κ I L Z := E_iconst (v := 3) dX11_figures_19 rfl k
theorem t73_X11_figures_20 {E : En} {d : Nat} {κ : Kp} {I L : MI} {Z : Zt} {a0 : Nat} {a1 a2 b0 b1 : Int} (hx : Ir b1) (hy : Ir b0) (kt : ¬ b1 = b0 → Ev E d M_X11_figures 44 [vr a0, vi a1, vi a2] [] κ I L Z) (kf : b1 = b0 → Ev E d M_X11_figures 23 [vr a0, vi a1, vi a2] [] κ I L Z) : Ev E d M_X11_figures 20 [vr a0, vi a1, vi a2] [vi b0, vi b1] κ I L Z := E_icmp_ne dX11_figures_20 hx hy kt kf (by decide)
theorem t73_X11_figures_23 {E : En} {d : Nat} {κ : Kp} {I L : MI} {Z : Zt} {a0 : Nat} {a1 a2 : Int}  (k : Ev E d M_X11_figures 25 [vr a0, vi a1, vi a2] [vi 10] κ I L Z) : Ev E d M_X11_figures 23 [vr a0, vi a1, vi a2] [] κ I L Z := E_bipush (v := 10) dX11_figures_23 rfl k
theorem t73_X11_figures_25 {E : En} {d : Nat} {κ : Kp} {I L : MI} {Z : Zt} {a0 : Nat} {a1 a2 b0 : Int}  (k : Ev E d M_X11_figures 26 [vr a0, vi a1, vi a2] [vi a1, vi b0] κ I L Z) : Ev E d M_X11_figures 25 [vr a0, vi a1, vi a2] [vi b0] κ I L Z := E_iload_n dX11_figures_25 rfl k
theorem t73_X11_figures_26 {E : En} {d : Nat} {κ : Kp} {I L : MI} {Z : Zt} {a0 : Nat} {a1 a2 b0 b1 : Int}  (k : Ev E d M_X11_figures 27 [vr a0, vi a1, vi a2] [vi (b1 * b0)] κ I L Z) : Ev E d M_X11_figures 26 [vr a0, vi a1, vi a2] [vi b0, vi b1] κ I L Z := E_imul dX11_figures_26 k
theorem t73_X11_figures_27 {E : En} {d : Nat} {κ : Kp} {I L : MI} {Z : Zt} {a0 : Nat} {a1 a2 b0 : Int}  (k : Ev E d M_X11_figures 28 [vr a0, vi a1, vi a2] [vr a0, vi b0] κ I L Z) : Ev E d M_X11_figures 27 [vr a0, vi a1, vi a2] [vi b0] κ I L Z := E_aload_n dX11_figures_27 rfl k
theorem t73_X11_figures_28 {E : En} {d : Nat} {κ : Kp} {I L : MI} {Z : Zt} {a0 b0 : Nat} {a1 a2 b1 : Int} {q : Nat} (hs : κ.1.1[b0]? = some (.inl 11)) (hq : κ.1.2 b0 9 = some q) (k : Ev E d M_X11_figures 31 [vr a0, vi a1, vi a2] [vr q, vi b1] κ I L Z) : Ev E d M_X11_figures 28 [vr a0, vi a1, vi a2] [vr b0, vi b1] κ I L Z := E_getR (ci := 11) (n := 9) dX11_figures_28 wF_RX11_29 (by decide) hs rfl hq k
theorem t73_X11_figures_31 {E : En} {d : Nat} {κ : Kp} {I L : MI} {Z : Zt} {a0 b0 : Nat} {a1 a2 b1 : Int}  (k : Ev E d M_X11_figures 32 [vr a0, vi a1, vi a2] [vi a2, vr b0, vi b1] κ I L Z) : Ev E d M_X11_figures 31 [vr a0, vi a1, vi a2] [vr b0, vi b1] κ I L Z := E_iload_n dX11_figures_31 rfl k
theorem t73_X11_figures_32 {E : En} {d : Nat} {κ : Kp} {I L : MI} {Z : Zt} {a0 b1 : Nat} {a1 a2 b0 b2 : Int} {n : Nat} (hs : κ.1.1[b1]? = some (.inr (0, n))) (h0 : 0 ≤ b0) (h1 : b0 < n) (hi : Ir b0) (k : Ir (I b1 b0) → Ev E d M_X11_figures 33 [vr a0, vi a1, vi a2] [vi (I b1 b0), vi b2] κ I L Z) : Ev E d M_X11_figures 32 [vr a0, vi a1, vi a2] [vi b0, vr b1, vi b2] κ I L Z := E_ialdI dX11_figures_32 hs h0 h1 hi k
theorem t73_X11_figures_33 {E : En} {d : Nat} {κ : Kp} {I L : MI} {Z : Zt} {a0 : Nat} {a1 a2 b0 b1 : Int}  (k : Ev E d M_X11_figures 34 [vr a0, vi a1, vi a2] [vi (b1 + b0)] κ I L Z) : Ev E d M_X11_figures 33 [vr a0, vi a1, vi a2] [vi b0, vi b1] κ I L Z := E_iadd dX11_figures_33 k
theorem t73_X11_figures_34 {E : En} {d : Nat} {κ : Kp} {I L : MI} {Z : Zt} {a0 : Nat} {a1 a2 b0 : Int}  (k : Ev E d M_X11_figures 36 [vr a0, vi a1, vi a2] [vi 48, vi b0] κ I L Z) : Ev E d M_X11_figures 34 [vr a0, vi a1, vi a2] [vi b0] κ I L Z := E_bipush (v := 48) dX11_figures_34 rfl k
theorem t73_X11_figures_36 {E : En} {d : Nat} {κ : Kp} {I L : MI} {Z : Zt} {a0 : Nat} {a1 a2 b0 b1 : Int}  (k : Ev E d M_X11_figures 37 [vr a0, vi a1, vi a2] [vi (b1 - b0)] κ I L Z) : Ev E d M_X11_figures 36 [vr a0, vi a1, vi a2] [vi b0, vi b1] κ I L Z := E_isub dX11_figures_36 k
theorem t73_X11_figures_37 {E : En} {d : Nat} {κ : Kp} {I L : MI} {Z : Zt} {a0 : Nat} {a1 a2 b0 : Int}  (k : Ev E d M_X11_figures 38 [vr a0, vi b0, vi a2] [] κ I L Z) : Ev E d M_X11_figures 37 [vr a0, vi a1, vi a2] [vi b0] κ I L Z := E_istore_n dX11_figures_37 rfl (Nat.le_of_ble_eq_true rfl) k
theorem t73_X11_figures_38 {E : En} {d : Nat} {κ : Kp} {I L : MI} {Z : Zt} {a0 : Nat} {a1 a2 : Int}  (k : Ev E d M_X11_figures 41 [vr a0, vi a1, vi (a2 + 1)] [] κ I L Z) : Ev E d M_X11_figures 38 [vr a0, vi a1, vi a2] [] κ I L Z := E_iinc dX11_figures_38 rfl rfl (Nat.le_of_ble_eq_true rfl) k
theorem t73_X11_figures_41 {E : En} {d : Nat} {κ : Kp} {I L : MI} {Z : Zt} {a0 : Nat} {a1 a2 : Int}  (k : Ev E d M_X11_figures 7 [vr a0, vi a1, vi a2] [] κ I L Z) : Ev E d M_X11_figures 41 [vr a0, vi a1, vi a2] [] κ I L Z := E_goto dX11_figures_41 (by decide) k
theorem t73_X11_figures_0 {E : En} {d : Nat} {κ : Kp} {I L : MI} {Z : Zt} {a0 : Nat}  (k : Ev E d M_X11_figures 1 [vr a0, vu, vu] [vi 0] κ I L Z) : Ev E d M_X11_figures 0 [vr a0, vu, vu] [] κ I L Z := E_iconst (v := 0) dX11_figures_0 rfl k
theorem t73_X11_figures_1 {E : En} {d : Nat} {κ : Kp} {I L : MI} {Z : Zt} {a0 : Nat} {b0 : Int}  (k : Ev E d M_X11_figures 2 [vr a0, vi b0, vu] [] κ I L Z) : Ev E d M_X11_figures 1 [vr a0, vu, vu] [vi b0] κ I L Z := E_istore_n dX11_figures_1 rfl (Nat.le_of_ble_eq_true rfl) k
theorem t73_X11_figures_2 {E : En} {d : Nat} {κ : Kp} {I L : MI} {Z : Zt} {a0 : Nat} {a1 : Int}  (k : Ev E d M_X11_figures 3 [vr a0, vi a1, vu] [vr a0] κ I L Z) : Ev E d M_X11_figures 2 [vr a0, vi a1, vu] [] κ I L Z := E_aload_n dX11_figures_2 rfl k
theorem t73_X11_figures_3 {E : En} {d : Nat} {κ : Kp} {I L : MI} {Z : Zt} {a0 b0 : Nat} {a1 : Int} (hs : κ.1.1[b0]? = some (.inl 11)) (k : Ir (I b0 15) → Ev E d M_X11_figures 6 [vr a0, vi a1, vu] [vi (I b0 15)] κ I L Z) : Ev E d M_X11_figures 3 [vr a0, vi a1, vu] [vr b0] κ I L Z := E_getI (ci := 11) (n := 15) dX11_figures_3 wF_RX11_104 (by decide) hs rfl k
theorem t73_X11_figures_6 {E : En} {d : Nat} {κ : Kp} {I L : MI} {Z : Zt} {a0 : Nat} {a1 b0 : Int}  (k : Ev E d M_X11_figures 7 [vr a0, vi a1, vi b0] [] κ I L Z) : Ev E d M_X11_figures 6 [vr a0, vi a1, vu] [vi b0] κ I L Z := E_istore_n dX11_figures_6 rfl (Nat.le_of_ble_eq_true rfl) k
/-! THE REFERENCE READS: words, numbers, signs -/
def RR (I : MI) (B : Int → Int) (n : Int) (s : PR) : Prop := I 78 12 = n ∧ TpR I B n ∧ I 78 17 = pf s ∧ (pf s ≠ 0 → I 78 18 = pp s) ∧ (0 ≤ pf s ∧ pf s ≤ 3) ∧ ∃ e, (0 ≤ e ∧ e ≤ 400) ∧ pk s = nxK B e ∧ pb s = nxB B e ∧ pe s = nxE B e ∧ pv s = nxV B e ∧ TkR I B e
def RFs (I J : MI) : Prop := (∀ o, o ≠ 78 → ∀ k, J o k = I o k) ∧ ∀ k, k < 13 ∨ 18 < k → J 78 k = I 78 k
theorem RFs_r (I : MI) : RFs I I := ⟨fun o _ k => rfl, fun k _ => rfl⟩
theorem RFs_t {I J K : MI} (h : RFs I J) (g : RFs J K) : RFs I K := ⟨fun o o1 k => (g.1 o o1 k).trans (h.1 o o1 k), fun k hk => (g.2 k hk).trans (h.2 k hk)⟩
theorem RFm_s {I J : MI} (h : RFm I J) : RFs I J := ⟨h.1, fun k hk => h.2 k (by omega)⟩
def rStQ (I L : MI) (B : Int → Int) (n : Int) (s : PR) : MI → MI → Prop := fun I' L' => L' = L ∧ RFs I I' ∧ RR I' B n s
theorem RR_RI {I : MI} {B : Int → Int} {n : Int} {s : PR} (hB : BOK B) (h : RR I B n s) : RI s := by
  obtain ⟨-, -, -, -, -, e, he, h1, h2, h3, h4, -⟩ := h
  have := nextR_ok hB (s := (0, 0, e, 0, 0, 0)) he
  unfold RI at *
  rw [h1, h2, h3, h4]
  exact this
def rbd (I : MI) (c : Int) : MI := if I 78 17 = 0 then up2 (up2 I 78 17 c) 78 18 (I 78 15) else I
theorem c_X11_bad {E : En} {I L : MI} {c : Int} (hc : Ir c := by omega) : CFv E 1 M_X11_bad [vr 78, vi c] I L (rbd I c) L := by
  refine CM_of' (al := [vr _, vi _]) rfl (Nat.le_of_ble_eq_true rfl) rfl (fun hM => ?_)
  refine (t73_X11_bad_0 (t73_X11_bad_1 (by first | assumption | rfl) (fun r1 => (t73_X11_bad_4 (by omega) (fun c4 => (t73_X11_bad_20 ?_)) (fun c4 => (t73_X11_bad_7 (t73_X11_bad_8 (t73_X11_bad_9 (by first | assumption | rfl) (by omega) (t73_X11_bad_12 (t73_X11_bad_13 (t73_X11_bad_14 (by first | assumption | rfl) (fun r14 => (t73_X11_bad_17 (by first | assumption | rfl) (by omega) (t73_X11_bad_20 ?_))))))))))))))
  -- 2 leaves: 4t :ret20 | 4f :ret20
  · exact qfv (by unfold rbd; rw [if_neg c4]) rfl
  · exact qfv (by unfold rbd; rw [if_pos c4, up2_ne (.inr (by decide))]) rfl
theorem rbd_f {I : MI} {c : Int} : RFs I (rbd I c) := by
  unfold rbd
  split
  · exact ⟨fun o o1 k => by rw [up2_ne (.inl o1), up2_ne (.inl o1)], fun k hk => by rw [up2_ne (.inr (by omega)), up2_ne (.inr (by omega))]⟩
  · exact RFs_r I
theorem rbd_k {I : MI} {c k : Int} (hk : k ≠ 17 ∧ k ≠ 18) : rbd I c 78 k = I 78 k := by
  unfold rbd
  split
  · rw [up2_ne (.inr hk.2), up2_ne (.inr hk.1)]
  · rfl
def badR (s : PR) (c : Int) : PR := if pf s = 0 then failR s c else s
theorem RR_bad {I : MI} {B : Int → Int} {n c : Int} {s : PR} (h : RR I B n s) (hc : 1 ≤ c ∧ c ≤ 3) : RR (rbd I c) B n (badR s c) := by
  obtain ⟨h1, h2, h3, h4, h5, e, he, e1, e2, e3, e4, t1, t2, t3, t4⟩ := h
  have k := fun (j : Int) (hj : j ≠ 17 ∧ j ≠ 18) => rbd_k (I := I) (c := c) hj
  unfold badR
  by_cases q : pf s = 0
  · rw [if_pos q]
    refine ⟨by rw [k 12 (by omega)]; exact h1, ⟨h2.1, fun j j0 j1 => by rw [rbd_f.1 85 (by decide)]; exact h2.2.1 j j0 j1, h2.2.2⟩, ?_, fun _ => ?_, show 0 ≤ c ∧ c ≤ 3 by omega, e, he, e1, e2, e3, e4, by rw [k 15 (by omega)]; exact t1, by rw [k 14 (by omega)]; exact t2, by rw [k 13 (by omega), k 16 (by omega)]; exact t3, by rw [k 16 (by omega)]; exact t4⟩
    · show rbd I c 78 17 = c
      unfold rbd
      rw [if_pos (by omega), up2_ne (.inr (by decide)), up2_eq]
    · show rbd I c 78 18 = pb s
      unfold rbd
      rw [if_pos (by omega), up2_eq, t1, e2]
  · rw [if_neg q]
    have : rbd I c = I := by unfold rbd; rw [if_neg (by omega)]
    rw [this]
    exact ⟨h1, h2, h3, h4, h5, e, he, e1, e2, e3, e4, t1, t2, t3, t4⟩
theorem rk_i {k : Int} (hk : 0 ≤ k ∧ k ≤ 5) (h1 : k ≠ 1) : (rkF k = 1 ↔ k = 0) ∧ (rkF k = 2 ↔ k = 2) ∧ (rkF k = 3 ↔ k = 3) ∧ (rkF k = 4 ↔ k = 4) := by
  unfold rkF
  split
  · omega
  · split <;> omega
theorem nxK_r {B : Int → Int} {e : Int} (hB : BOK B) (he : 0 ≤ e ∧ e ≤ 400) : (0 ≤ nxK B e ∧ nxK B e ≤ 5) ∧ nxK B e ≠ 1 := by
  have r := tyP_r (B (nxB B e))
  have x1 := runP_e (B := B) (t := 1) 401 e (by omega)
  have hb : nxB B e = runP B 1 401 e := rfl
  have b1 := runP_b (B := B) (t := 1) 401 e he.2
  rw [← hb] at x1 b1
  have n1 : tyP (B (nxB B e)) ≠ 1 := fun q => by
    refine x1 ⟨?_, q⟩
    apply Classical.byContradiction
    intro z
    have := (hB (nxB B e)).2 (.inr (by omega))
    rw [this] at q
    exact absurd q (by decide)
  unfold nxK
  split <;> omega
/-- the token, as the reference holds it -/
theorem RR_tk {I : MI} {B : Int → Int} {n : Int} {s : PR} (hB : BOK B) (h : RR I B n s) : (I 78 14 = 1 ↔ pk s = 0) ∧ (I 78 14 = 2 ↔ pk s = 2) ∧ (I 78 14 = 3 ↔ pk s = 3) ∧ (I 78 14 = 4 ↔ pk s = 4) ∧ I 78 15 = pb s ∧ ((pk s = 2 ∨ pk s = 3 ∨ pk s = 4) → I 78 13 = pe s ∧ I 78 16 = pe s) ∧ (0 ≤ I 78 16 ∧ I 78 16 ≤ 1000) := by
  obtain ⟨-, -, -, -, -, e, he, e1, e2, e3, e4, t1, t2, t3, t4⟩ := h
  have r := nxK_r hB he
  have k := rk_i r.1 r.2
  rw [e1, e2, e3, t1, t2]
  exact ⟨k.1, k.2.1, k.2.2.1, k.2.2.2, rfl, t3, t4⟩
def mstR (B : Int → Int) (s : PR) (ok : Bool) : PR := if pf s = 0 then (if ok = true then nextR B s else failR s 1) else s
theorem RR_nx {I J : MI} {B : Int → Int} {n : Int} {s : PR} (hB : BOK B) (h : RR I B n s) (f : RFm I J) (t : TkR J B (pe s)) : RR J B n (nextR B s) := by
  have ri := RR_RI hB h
  obtain ⟨h1, h2, h3, h4, h5, -⟩ := h
  exact ⟨by rw [f.2 12 (by omega)]; exact h1, TpR_f h2 f, by rw [f.2 17 (by omega)]; exact h3, fun q => by rw [f.2 18 (by omega)]; exact h4 q, h5, pe s, ri.2.1, rfl, rfl, rfl, rfl, t⟩
theorem c_X11_must {E : En} {I L : MI} {B : Int → Int} {n b : Int} {s : PR} (hB : BOK B) (h : RR I B n s) (hb : b = 0 ∨ b = 1) (hk : b = 1 → pf s = 0 → pk s = 2 ∨ pk s = 3 ∨ pk s = 4) : CQv E 4 M_X11_must [vr 78, vi b] I L (rStQ I L B n (mstR B s (decide (b = 1)))) := by
  have tk := RR_tk hB h
  have ri := RR_RI hB h
  have h17 := h.2.2.1
  refine CM_of' (al := [vr _, vi _]) rfl (Nat.le_of_ble_eq_true rfl) rfl (fun hM => ?_)
  rcases hb with rfl | rfl
  · refine (t73_X11_must_0 (t73_X11_must_1 (by omega) (fun c1 => ?_) (fun c1 => (t73_X11_must_4 (t73_X11_must_5 (t73_X11_must_6 (by first | assumption | rfl) c_X11_bad (by first | decide | omega) ?_))))))
    -- 2 leaves: 1t :->9 | 1f :->9
    · exact absurd rfl c1
    · have e17 : rbd I 1 78 17 ≠ 0 := by
        unfold rbd
        split
        · rw [up2_ne (.inr (by decide)), up2_eq]; decide
        next q => exact q
      have hb := RR_bad h (c := 1) (by decide)
      refine (t73_X11_must_9 (t73_X11_must_10 (by first | assumption | rfl) (fun r10 => (t73_X11_must_13 (by omega) (fun c13 => (t73_X11_must_20 ?_)) (fun c13 => ?_)))))
      -- 2 leaves: 13t :ret20 | 13f :->16
      · refine qqv ⟨rfl, rbd_f, ?_⟩
        unfold mstR
        unfold badR at hb
        exact hb
      · exact absurd c13 e17
  · refine (t73_X11_must_0 (t73_X11_must_1 (by omega) (fun c1 => ?_) (fun c1 => (t73_X11_must_4 (t73_X11_must_5 (t73_X11_must_6 (by first | assumption | rfl) c_X11_bad (by first | decide | omega) ?_))))))
    -- 2 leaves: 1t :->9 | 1f :->9
    · refine (t73_X11_must_9 (t73_X11_must_10 (by first | assumption | rfl) (fun r10 => (t73_X11_must_13 (by omega) (fun c13 => (t73_X11_must_20 ?_)) (fun c13 => ?_)))))
      -- 2 leaves: 13t :ret20 | 13f :->16
      · refine qqv ⟨rfl, RFs_r I, ?_⟩
        unfold mstR
        rw [if_neg (by omega)]
        exact h
      · have p3 := hk rfl (by omega)
        refine (t73_X11_must_16 (t73_X11_must_17 (by first | assumption | rfl) ((c_X11_next (B := B) (n := n) (e := pe s) h.1 h.2.1 (tk.2.2.2.2.2.1 p3).1 ri.2.1)) (by first | decide | omega) (fun I17 L17 q17 => ?_)))
        -- 1 leaves: :call17
        obtain ⟨rfl, f1, t1⟩ := q17
        refine (t73_X11_must_20 ?_)
        -- 1 leaves: :ret20
        refine qqv ⟨rfl, RFm_s f1, ?_⟩
        unfold mstR
        rw [if_pos (by omega), if_pos (by decide)]
        exact RR_nx hB h f1 t1
    · exact absurd c1 (by decide)
/-- the number at the token; 0 where there is none -/
def figV (s : PR) : Int := if pk s = 3 then pv s else 0
theorem tok3 {B : Int → Int} {e : Int} (h : nxK B e = 3) : nxE B e = runP B 3 401 (nxB B e) ∧ nxE B e - nxB B e ≤ 3 := by
  unfold nxK at h
  split at h
  · exact absurd h (by decide)
  next q =>
    refine ⟨by unfold nxE; rw [if_pos (.inr h), h], ?_⟩
    omega
theorem tok2 {B : Int → Int} {e : Int} (h : nxK B e = 2) : nxE B e = runP B 2 401 (nxB B e) := by
  unfold nxK at h
  split at h
  · exact absurd h (by decide)
  · unfold nxE; rw [if_pos (.inl h), h]
theorem TpR_in {I : MI} {B : Int → Int} {n k : Int} (h : TpR I B n) (hk : 0 ≤ k) (ht : tyP (B k) ≠ 0) : I 85 k = B k ∧ k < 400 := by
  have kn : k < n := by
    apply Classical.byContradiction
    intro q
    rw [h.2.2 k (by omega)] at ht
    exact ht (by decide)
  have := h.1
  exact ⟨(h.2.1 k hk kn).1, by omega⟩
theorem c_X11_figures {E : En} {I L : MI} {B : Int → Int} {n : Int} {s : PR} (hB : BOK B) (h : RR I B n s) : CFi E 1 M_X11_figures [vr 78] I L (figV s) I L := by
  have g85 : G0.1[85]? = some (.inr (0, 400)) := rfl
  have tk := RR_tk hB h
  have ri := RR_RI hB h
  have hT := h.2.1
  obtain ⟨-, -, -, -, -, e, he, e1, e2, e3, e4, -⟩ := h
  have rv : Ir (figV s) := by have := ri.2.2.1; unfold figV; split <;> omega
  have rb := ri.1
  have re := ri.2.1
  refine CM_of' (al := [vr _, vu, vu]) rfl (Nat.le_of_ble_eq_true rfl) rfl (fun hM => ?_)
  by_cases q : pk s = 3
  · have t3 := tok3 (e1.symm.trans q)
    rw [← e2, ← e3] at t3
    have k16 := (tk.2.2.2.2.2.1 (.inr (.inl q))).2
    have k14 := tk.2.2.1.mpr q
    have k15 := tk.2.2.2.2.1
    have fv : figV s = figP B (pb s) (pe s - pb s).toNat := by
      unfold figV
      rw [if_pos q, e4, e2, e3]
      unfold nxV
      rw [if_pos (by omega)]
    have ble := (runP_b (B := B) (t := 3) 401 (pb s) rb.2).1
    rw [← t3.1] at ble
    have dig : ∀ j : Nat, (j : Int) < pe s - pb s → tyP (B (pb s + j)) = 3 := fun j hj => (runP_in 401 (pb s) (pb s + j) (by omega) (by rw [← t3.1]; omega)).1
    have key : ∀ (f j : Nat), (pe s - pb s).toNat - j < f → j ≤ (pe s - pb s).toNat → Ev E 1 M_X11_figures 7 [vr 78, vi (figP B (pb s) j), vi (pb s + (j : Int))] [] (G0, 0, 0) I L (ZQ E M_X11_figures (QFi (figV s) I L)) := by
      intro f
      induction f with
      | zero => intro j h1 h2; omega
      | succ f ih =>
        intro j j1 j2
        have es : figP B (pb s) (j + 1) = figP B (pb s) j * 10 + B (pb s + j) - 48 := rfl
        have hd := fun z : (j : Int) < pe s - pb s => TpR_in hT (k := pb s + j) (by omega) (by rw [dig j z]; decide)
        refine (t73_X11_figures_7 (t73_X11_figures_8 (t73_X11_figures_9 (by first | assumption | rfl) (fun r9 => (t73_X11_figures_12 (by omega) (by omega) (fun c12 => (t73_X11_figures_44 (t73_X11_figures_45 ?_))) (fun c12 => (t73_X11_figures_15 (t73_X11_figures_16 (by first | assumption | rfl) (fun r16 => (t73_X11_figures_19 (t73_X11_figures_20 (by omega) (by omega) (fun c20 => (t73_X11_figures_44 (t73_X11_figures_45 ?_))) (fun c20 => ?_))))))))))))
        -- 3 leaves: 12t :ret45 | 12f 20t :ret45 | 12f 20f :->23
        · have : j = (pe s - pb s).toNat := by omega
          subst this
          exact qfi (by omega) fv.symm
        · omega
        · have hi := ih (j + 1) (by omega) (by omega)
          have ed := hd (by omega)
          rw [es, ← ed.1, show figP B (pb s) j * 10 + I 85 (pb s + j) - 48 = 10 * figP B (pb s) j + I 85 (pb s + j) - 48 by omega, show pb s + ((j + 1 : Nat) : Int) = pb s + j + 1 by omega] at hi
          refine (t73_X11_figures_23 (t73_X11_figures_25 (t73_X11_figures_26 (t73_X11_figures_27 (t73_X11_figures_28 (by first | assumption | rfl) (by first | assumption | rfl) (t73_X11_figures_31 (t73_X11_figures_32 (by first | assumption | rfl) (by omega) (by omega) (by omega) (fun r32 => (t73_X11_figures_33 (t73_X11_figures_34 (t73_X11_figures_36 (t73_X11_figures_37 (t73_X11_figures_38 (t73_X11_figures_41 ?_))))))))))))))
          -- 1 leaves: :->7
          exact hi
    have h0 := key ((pe s - pb s).toNat + 1) 0 (by omega) (by omega)
    rw [show pb s + ((0 : Nat) : Int) = pb s by omega] at h0
    refine (t73_X11_figures_0 (t73_X11_figures_1 (t73_X11_figures_2 (t73_X11_figures_3 (by first | assumption | rfl) (fun r3 => (t73_X11_figures_6 ?_))))))
    -- 1 leaves: :->7
    rw [k15]
    exact h0
  · have k14 : I 78 14 ≠ 3 := fun z => q (tk.2.2.1.mp z)
    have fv : figV s = 0 := if_neg q
    rw [fv]
    refine (t73_X11_figures_0 (t73_X11_figures_1 (t73_X11_figures_2 (t73_X11_figures_3 (by first | assumption | rfl) (fun r3 => (t73_X11_figures_6 (t73_X11_figures_7 (t73_X11_figures_8 (t73_X11_figures_9 (by first | assumption | rfl) (fun r9 => (t73_X11_figures_12 (by omega) (by omega) (fun c12 => (t73_X11_figures_44 (t73_X11_figures_45 ?_))) (fun c12 => (t73_X11_figures_15 (t73_X11_figures_16 (by first | assumption | rfl) (fun r16 => (t73_X11_figures_19 (t73_X11_figures_20 (by omega) (by omega) (fun c20 => (t73_X11_figures_44 (t73_X11_figures_45 ?_))) (fun c20 => ?_))))))))))))))))))
    -- 3 leaves: 12t :ret45 | 12f 20t :ret45 | 12f 20f :->23
    · exact qfi (by decide) rfl
    · exact qfi (by decide) rfl
    · omega
