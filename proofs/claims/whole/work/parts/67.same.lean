theorem t67_X11_same_85 {E : En} {d : Nat} {κ : Kp} {I L : MI} {Z : Zt} {a0 : Nat} {a1 a2 a4 : Int}  (k : Ev E d M_X11_same 86 [vr a0, vi a1, vl a2, vu, vi a4] [vl a2] κ I L Z) : Ev E d M_X11_same 85 [vr a0, vi a1, vl a2, vu, vi a4] [] κ I L Z := E_lload_n dX11_same_85 rfl k
theorem t67_X11_same_86 {E : En} {d : Nat} {κ : Kp} {I L : MI} {Z : Zt} {a0 : Nat} {a1 a2 a4 b0 : Int}  (k : Ev E d M_X11_same 87 [vr a0, vi a1, vl a2, vu, vi a4] [vr a0, vl b0] κ I L Z) : Ev E d M_X11_same 86 [vr a0, vi a1, vl a2, vu, vi a4] [vl b0] κ I L Z := E_aload_n dX11_same_86 rfl k
theorem t67_X11_same_87 {E : En} {d d' : Nat} {cs : Nat × Nat} {I L : MI} {Z : Zt} {a0 b0 : Nat} {a1 a2 a4 b1 : Int} {z : Int} {I' L' : MI} (hs : G0.1[b0]? = some (.inl 11)) (hM : CFl E d' M_X11_madeNow [vr b0] I L z I' L') (hlt : d' + 1 ≤ d) (k : Jr z → Ev E d M_X11_same 90 [vr a0, vi a1, vl a2, vu, vi a4] [vl z, vl b1] (G0, cs) I' L' Z) (hc1 : cs.1 ≤ M_X11_same.2.2.2.2.1 := by decide) (hc2 : cs.2 ≤ M_X11_same.2.2.2.2.2 := by decide) : Ev E d M_X11_same 87 [vr a0, vi a1, vl a2, vu, vi a4] [vr b0, vl b1] (G0, cs) I L Z := E_callV (as := []) (rest := [vl b1]) (n := 0) hM dX11_same_87 wM_RX11_284 wS_X11_madeNow wV_X11_madeNow hs (by decide) rfl hlt wC_X11_madeNow wI_X11 (by decide +kernel) rfl (by decide) (Nat.le_of_ble_eq_true rfl) hc1 hc2 rfl (fun r g' I2 L2 h => by obtain ⟨rfl, z, rfl, hr, rfl, rfl, rfl⟩ := h; exact k hr)
theorem t67_X11_same_90 {E : En} {d : Nat} {κ : Kp} {I L : MI} {Z : Zt} {a0 : Nat} {a1 a2 a4 b0 b1 : Int}  (k : Ev E d M_X11_same 91 [vr a0, vi a1, vl a2, vu, vi a4] [vl 0, vl b0, vl b1] κ I L Z) : Ev E d M_X11_same 90 [vr a0, vi a1, vl a2, vu, vi a4] [vl b0, vl b1] κ I L Z := E_lconst (v := 0) dX11_same_90 rfl k
theorem t67_X11_same_91 {E : En} {d : Nat} {κ : Kp} {I L : MI} {Z : Zt} {a0 : Nat} {a1 a2 a4 b0 b1 b2 : Int} (hx : Jr b1) (hy : Jr b0) (kt : b1 ≤ b0 → Ev E d M_X11_same 99 [vr a0, vi a1, vl a2, vu, vi a4] [vl b2] κ I L Z) (kf : b0 < b1 → Ev E d M_X11_same 95 [vr a0, vi a1, vl a2, vu, vi a4] [vl b2] κ I L Z) : Ev E d M_X11_same 91 [vr a0, vi a1, vl a2, vu, vi a4] [vl b0, vl b1, vl b2] κ I L Z := E_lcmp_le dX11_same_91 dX11_same_92 hx hy kt kf (by decide)
theorem t67_X11_same_99 {E : En} {d : Nat} {κ : Kp} {I L : MI} {Z : Zt} {a0 : Nat} {a1 a2 a4 b0 : Int}  (k : Ev E d M_X11_same 100 [vr a0, vi a1, vl a2, vu, vi a4] [vl 0, vl b0] κ I L Z) : Ev E d M_X11_same 99 [vr a0, vi a1, vl a2, vu, vi a4] [vl b0] κ I L Z := E_lconst (v := 0) dX11_same_99 rfl k
theorem t67_X11_same_100 {E : En} {d : Nat} {κ : Kp} {I L : MI} {Z : Zt} {a0 : Nat} {a1 a2 a4 b0 b1 : Int}  (k : Ev E d M_X11_same 101 [vr a0, vi a1, vl a2, vu, vi a4] [vl (b1 + b0)] κ I L Z) : Ev E d M_X11_same 100 [vr a0, vi a1, vl a2, vu, vi a4] [vl b0, vl b1] κ I L Z := E_ladd dX11_same_100 k
theorem t67_X11_same_101 {E : En} {d : Nat} {κ : Kp} {I L : MI} {Z : Zt} {a0 : Nat} {a1 a2 a4 b0 : Int}  (k : Ev E d M_X11_same 102 [vr a0, vi a1, vl b0, vu, vi a4] [] κ I L Z) : Ev E d M_X11_same 101 [vr a0, vi a1, vl a2, vu, vi a4] [vl b0] κ I L Z := E_lstore_n dX11_same_101 rfl (Nat.le_of_ble_eq_true rfl) k
theorem t67_X11_same_95 {E : En} {d : Nat} {κ : Kp} {I L : MI} {Z : Zt} {a0 : Nat} {a1 a2 a4 b0 : Int}  (k : Ev E d M_X11_same 96 [vr a0, vi a1, vl a2, vu, vi a4] [vl 1, vl b0] κ I L Z) : Ev E d M_X11_same 95 [vr a0, vi a1, vl a2, vu, vi a4] [vl b0] κ I L Z := E_lconst (v := 1) dX11_same_95 rfl k
theorem t67_X11_same_96 {E : En} {d : Nat} {κ : Kp} {I L : MI} {Z : Zt} {a0 : Nat} {a1 a2 a4 b0 b1 : Int}  (k : Ev E d M_X11_same 100 [vr a0, vi a1, vl a2, vu, vi a4] [vl b0, vl b1] κ I L Z) : Ev E d M_X11_same 96 [vr a0, vi a1, vl a2, vu, vi a4] [vl b0, vl b1] κ I L Z := E_goto dX11_same_96 (by decide) k
theorem t67_X11_same_102 {E : En} {d : Nat} {κ : Kp} {I L : MI} {Z : Zt} {a0 : Nat} {a1 a2 a4 : Int}  (k : Ev E d M_X11_same 103 [vr a0, vi a1, vl a2, vu, vi a4] [vr a0] κ I L Z) : Ev E d M_X11_same 102 [vr a0, vi a1, vl a2, vu, vi a4] [] κ I L Z := E_aload_n dX11_same_102 rfl k
theorem t67_X11_same_103 {E : En} {d d' : Nat} {cs : Nat × Nat} {I L : MI} {Z : Zt} {a0 b0 : Nat} {a1 a2 a4 : Int} {Q : Int → MI → MI → Prop} (hs : G0.1[b0]? = some (.inl 11)) (hM : CQi E d' M_X11_nextWay [vr b0] I L Q) (hlt : d' + 1 ≤ d) (kk : ∀ (z : Int) (I' L' : MI), Q z I' L' → Ev E d M_X11_same 106 [vr a0, vi a1, vl a2, vu, vi a4] [vi z] (G0, cs) I' L' Z) (hc1 : cs.1 ≤ M_X11_same.2.2.2.2.1 := by decide) (hc2 : cs.2 ≤ M_X11_same.2.2.2.2.2 := by decide) : Ev E d M_X11_same 103 [vr a0, vi a1, vl a2, vu, vi a4] [vr b0] (G0, cs) I L Z := E_callV (as := []) (rest := []) (n := 0) hM dX11_same_103 wM_RX11_287 wS_X11_nextWay wV_X11_nextWay hs (by decide) rfl hlt wC_X11_nextWay wI_X11 (by decide +kernel) rfl (by decide) (Nat.le_of_ble_eq_true rfl) hc1 hc2 rfl (fun r g' I' L' h => by obtain ⟨rfl, z, rfl, h⟩ := h; exact kk z I' L' h)
theorem t67_X11_same_106 {E : En} {d : Nat} {κ : Kp} {I L : MI} {Z : Zt} {a0 : Nat} {a1 a2 a4 b0 : Int}  (k : Ev E d M_X11_same 108 [vr a0, vi a1, vl a2, vu, vi b0] [] κ I L Z) : Ev E d M_X11_same 106 [vr a0, vi a1, vl a2, vu, vi a4] [vi b0] κ I L Z := E_istore dX11_same_106 rfl (Nat.le_of_ble_eq_true rfl) k
theorem t67_X11_same_108 {E : En} {d : Nat} {κ : Kp} {I L : MI} {Z : Zt} {a0 : Nat} {a1 a2 a4 : Int}  (k : Ev E d M_X11_same 80 [vr a0, vi a1, vl a2, vu, vi a4] [] κ I L Z) : Ev E d M_X11_same 108 [vr a0, vi a1, vl a2, vu, vi a4] [] κ I L Z := E_goto dX11_same_108 (by decide) k
theorem t67_X11_same_80 {E : En} {d : Nat} {κ : Kp} {I L : MI} {Z : Zt} {a0 : Nat} {a1 a2 a4 : Int}  (k : Ev E d M_X11_same 82 [vr a0, vi a1, vl a2, vu, vi a4] [vi a4] κ I L Z) : Ev E d M_X11_same 80 [vr a0, vi a1, vl a2, vu, vi a4] [] κ I L Z := E_iload dX11_same_80 rfl k
theorem t67_X11_same_82 {E : En} {d : Nat} {κ : Kp} {I L : MI} {Z : Zt} {a0 : Nat} {a1 a2 a4 b0 : Int} (hx : Ir b0) (kt : b0 = 0 → Ev E d M_X11_same 111 [vr a0, vi a1, vl a2, vu, vi a4] [] κ I L Z) (kf : ¬ b0 = 0 → Ev E d M_X11_same 85 [vr a0, vi a1, vl a2, vu, vi a4] [] κ I L Z) : Ev E d M_X11_same 82 [vr a0, vi a1, vl a2, vu, vi a4] [vi b0] κ I L Z := E_if_eq dX11_same_82 hx kt kf (by decide)
theorem t67_X11_same_0 {E : En} {d : Nat} {κ : Kp} {I L : MI} {Z : Zt} {a0 : Nat} {a1 : Int}  (k : Ev E d M_X11_same 1 [vr a0, vi a1, vu, vu, vu] [vr a0] κ I L Z) : Ev E d M_X11_same 0 [vr a0, vi a1, vu, vu, vu] [] κ I L Z := E_aload_n dX11_same_0 rfl k
theorem t67_X11_same_1 {E : En} {d : Nat} {κ : Kp} {I L : MI} {Z : Zt} {a0 b0 : Nat} {a1 : Int}  (k : Ev E d M_X11_same 2 [vr a0, vi a1, vu, vu, vu] [vi 0, vr b0] κ I L Z) : Ev E d M_X11_same 1 [vr a0, vi a1, vu, vu, vu] [vr b0] κ I L Z := E_iconst (v := 0) dX11_same_1 rfl k
theorem t67_X11_same_2 {E : En} {d : Nat} {κ : Kp} {I L : MI} {Z : Zt} {a0 b1 : Nat} {a1 b0 : Int} (hs : κ.1.1[b1]? = some (.inl 11)) (hz : Ir b0) (k : Ev E d M_X11_same 5 [vr a0, vi a1, vu, vu, vu] [] κ (up2 I b1 0 b0) L Z) : Ev E d M_X11_same 2 [vr a0, vi a1, vu, vu, vu] [vi b0, vr b1] κ I L Z := E_putI (ci := 11) (n := 0) dX11_same_2 wF_RX11_57 (by decide) hs rfl rfl hz k
theorem t67_X11_same_5 {E : En} {d : Nat} {κ : Kp} {I L : MI} {Z : Zt} {a0 : Nat} {a1 : Int}  (k : Ev E d M_X11_same 6 [vr a0, vi a1, vu, vu, vu] [vi a1] κ I L Z) : Ev E d M_X11_same 5 [vr a0, vi a1, vu, vu, vu] [] κ I L Z := E_iload_n dX11_same_5 rfl k
theorem t67_X11_same_6 {E : En} {d d' : Nat} {cs : Nat × Nat} {I L : MI} {Z : Zt} {a0 : Nat} {a1 b0 : Int} {P : Prop} {I' L' : MI} (hM : CB E d' M_X11_isSlot [vi b0] I L P I' L') (hlt : d' + 1 ≤ d) (kt : P → Ev E d M_X11_same 9 [vr a0, vi a1, vu, vu, vu] [vi 1] (G0, cs) I' L' Z) (kf : ¬ P → Ev E d M_X11_same 9 [vr a0, vi a1, vu, vu, vu] [vi 0] (G0, cs) I' L' Z) (hc1 : cs.1 ≤ M_X11_same.2.2.2.2.1 := by decide) (hc2 : cs.2 ≤ M_X11_same.2.2.2.2.2 := by decide) : Ev E d M_X11_same 6 [vr a0, vi a1, vu, vu, vu] [vi b0] (G0, cs) I L Z := E_callS (as := [vi b0]) (rest := []) (n := 1) hM dX11_same_6 wM_RX11_197 wS_X11_isSlot hlt wC_X11_isSlot wI_X11 (by decide +kernel) rfl (by decide) (Nat.le_of_ble_eq_true rfl) hc1 hc2 rfl (fun r g' I2 L2 h => by obtain ⟨rfl, z, rfl, rfl, rfl, ⟨rfl, h⟩ | ⟨rfl, h⟩⟩ := h; exact kt h; exact kf h)
theorem t67_X11_same_9 {E : En} {d : Nat} {κ : Kp} {I L : MI} {Z : Zt} {a0 : Nat} {a1 b0 : Int} (hx : Ir b0) (kt : ¬ b0 = 0 → Ev E d M_X11_same 16 [vr a0, vi a1, vu, vu, vu] [] κ I L Z) (kf : b0 = 0 → Ev E d M_X11_same 12 [vr a0, vi a1, vu, vu, vu] [] κ I L Z) : Ev E d M_X11_same 9 [vr a0, vi a1, vu, vu, vu] [vi b0] κ I L Z := E_if_ne dX11_same_9 hx kt kf (by decide)
theorem t67_X11_same_16 {E : En} {d : Nat} {κ : Kp} {I L : MI} {Z : Zt} {a0 : Nat} {a1 : Int}  (k : Ev E d M_X11_same 17 [vr a0, vi a1, vu, vu, vu] [vr a0] κ I L Z) : Ev E d M_X11_same 16 [vr a0, vi a1, vu, vu, vu] [] κ I L Z := E_aload_n dX11_same_16 rfl k
theorem t67_X11_same_17 {E : En} {d : Nat} {κ : Kp} {I L : MI} {Z : Zt} {a0 b0 : Nat} {a1 : Int} {q : Nat} (hs : κ.1.1[b0]? = some (.inl 11)) (hq : κ.1.2 b0 8 = some q) (k : Ev E d M_X11_same 20 [vr a0, vi a1, vu, vu, vu] [vr q] κ I L Z) : Ev E d M_X11_same 17 [vr a0, vi a1, vu, vu, vu] [vr b0] κ I L Z := E_getR (ci := 11) (n := 8) dX11_same_17 wF_RX11_25 (by decide) hs rfl hq k
theorem t67_X11_same_20 {E : En} {d : Nat} {κ : Kp} {I L : MI} {Z : Zt} {a0 b0 : Nat} {a1 : Int}  (k : Ev E d M_X11_same 21 [vr a0, vi a1, vu, vu, vu] [vi a1, vr b0] κ I L Z) : Ev E d M_X11_same 20 [vr a0, vi a1, vu, vu, vu] [vr b0] κ I L Z := E_iload_n dX11_same_20 rfl k
theorem t67_X11_same_21 {E : En} {d : Nat} {κ : Kp} {I L : MI} {Z : Zt} {a0 b1 : Nat} {a1 b0 : Int} {n : Nat} (hs : κ.1.1[b1]? = some (.inr (3, n))) (h0 : 0 ≤ b0) (h1 : b0 < n) (hi : Ir b0) (k : Jr (L b1 b0) → Ev E d M_X11_same 22 [vr a0, vi a1, vu, vu, vu] [vl (L b1 b0)] κ I L Z) : Ev E d M_X11_same 21 [vr a0, vi a1, vu, vu, vu] [vi b0, vr b1] κ I L Z := E_laldI dX11_same_21 hs h0 h1 hi k
theorem t67_X11_same_22 {E : En} {d : Nat} {κ : Kp} {I L : MI} {Z : Zt} {a0 : Nat} {a1 b0 : Int}  (k : Ev E d M_X11_same 23 [vr a0, vi a1, vu, vu, vu] [vl 0, vl b0] κ I L Z) : Ev E d M_X11_same 22 [vr a0, vi a1, vu, vu, vu] [vl b0] κ I L Z := E_lconst (v := 0) dX11_same_22 rfl k
theorem t67_X11_same_23 {E : En} {d : Nat} {κ : Kp} {I L : MI} {Z : Zt} {a0 : Nat} {a1 b0 b1 : Int} (hx : Jr b1) (hy : Jr b0) (kt : ¬ b1 = b0 → Ev E d M_X11_same 31 [vr a0, vi a1, vu, vu, vu] [] κ I L Z) (kf : b1 = b0 → Ev E d M_X11_same 27 [vr a0, vi a1, vu, vu, vu] [] κ I L Z) : Ev E d M_X11_same 23 [vr a0, vi a1, vu, vu, vu] [vl b0, vl b1] κ I L Z := E_lcmp_ne dX11_same_23 dX11_same_24 hx hy kt kf (by decide)
theorem t67_X11_same_27 {E : En} {d : Nat} {κ : Kp} {I L : MI} {Z : Zt} {a0 : Nat} {a1 : Int}  (k : Ev E d M_X11_same 30 [vr a0, vi a1, vu, vu, vu] [vl (-9000000000000000002)] κ I L Z) : Ev E d M_X11_same 27 [vr a0, vi a1, vu, vu, vu] [] κ I L Z := E_ldc2 (v := (-9000000000000000002)) dX11_same_27 wK_RX11_239 k
theorem t67_X11_same_30 {E : En} {d : Nat} {g : Geo} {I L : MI} {Q : Option AV → Geo → MI → MI → Prop} {cs : Nat × Nat} {a0 : Nat} {a1 b0 : Int} (hq : Q (some (vl b0)) g I L) (h1 : cs.1 ≤ M_X11_same.2.2.2.2.1 := by decide) (h2 : cs.2 ≤ M_X11_same.2.2.2.2.2 := by decide) : Ev E d M_X11_same 30 [vr a0, vi a1, vu, vu, vu] [vl b0] (g, cs) I L (ZQ E M_X11_same Q) := E_lreturn rfl dX11_same_30 hq h1 h2
theorem t67_X11_same_12 {E : En} {d : Nat} {κ : Kp} {I L : MI} {Z : Zt} {a0 : Nat} {a1 : Int}  (k : Ev E d M_X11_same 15 [vr a0, vi a1, vu, vu, vu] [vl (-9000000000000000001)] κ I L Z) : Ev E d M_X11_same 12 [vr a0, vi a1, vu, vu, vu] [] κ I L Z := E_ldc2 (v := (-9000000000000000001)) dX11_same_12 wK_RX11_78 k
theorem t67_X11_same_15 {E : En} {d : Nat} {g : Geo} {I L : MI} {Q : Option AV → Geo → MI → MI → Prop} {cs : Nat × Nat} {a0 : Nat} {a1 b0 : Int} (hq : Q (some (vl b0)) g I L) (h1 : cs.1 ≤ M_X11_same.2.2.2.2.1 := by decide) (h2 : cs.2 ≤ M_X11_same.2.2.2.2.2 := by decide) : Ev E d M_X11_same 15 [vr a0, vi a1, vu, vu, vu] [vl b0] (g, cs) I L (ZQ E M_X11_same Q) := E_lreturn rfl dX11_same_15 hq h1 h2
theorem t67_X11_same_31 {E : En} {d : Nat} {κ : Kp} {I L : MI} {Z : Zt} {a0 : Nat} {a1 : Int}  (k : Ev E d M_X11_same 32 [vr a0, vi a1, vu, vu, vu] [vr a0] κ I L Z) : Ev E d M_X11_same 31 [vr a0, vi a1, vu, vu, vu] [] κ I L Z := E_aload_n dX11_same_31 rfl k
theorem t67_X11_same_32 {E : En} {d : Nat} {κ : Kp} {I L : MI} {Z : Zt} {a0 b0 : Nat} {a1 : Int}  (k : Ev E d M_X11_same 33 [vr a0, vi a1, vu, vu, vu] [vr a0, vr b0] κ I L Z) : Ev E d M_X11_same 32 [vr a0, vi a1, vu, vu, vu] [vr b0] κ I L Z := E_aload_n dX11_same_32 rfl k
theorem t67_X11_same_33 {E : En} {d : Nat} {κ : Kp} {I L : MI} {Z : Zt} {a0 b0 b1 : Nat} {a1 : Int} {q : Nat} (hs : κ.1.1[b0]? = some (.inl 11)) (hq : κ.1.2 b0 8 = some q) (k : Ev E d M_X11_same 36 [vr a0, vi a1, vu, vu, vu] [vr q, vr b1] κ I L Z) : Ev E d M_X11_same 33 [vr a0, vi a1, vu, vu, vu] [vr b0, vr b1] κ I L Z := E_getR (ci := 11) (n := 8) dX11_same_33 wF_RX11_25 (by decide) hs rfl hq k
theorem t67_X11_same_36 {E : En} {d : Nat} {κ : Kp} {I L : MI} {Z : Zt} {a0 b0 b1 : Nat} {a1 : Int}  (k : Ev E d M_X11_same 37 [vr a0, vi a1, vu, vu, vu] [vi a1, vr b0, vr b1] κ I L Z) : Ev E d M_X11_same 36 [vr a0, vi a1, vu, vu, vu] [vr b0, vr b1] κ I L Z := E_iload_n dX11_same_36 rfl k
theorem t67_X11_same_37 {E : En} {d : Nat} {κ : Kp} {I L : MI} {Z : Zt} {a0 b1 b2 : Nat} {a1 b0 : Int} {n : Nat} (hs : κ.1.1[b1]? = some (.inr (3, n))) (h0 : 0 ≤ b0) (h1 : b0 < n) (hi : Ir b0) (k : Jr (L b1 b0) → Ev E d M_X11_same 38 [vr a0, vi a1, vu, vu, vu] [vl (L b1 b0), vr b2] κ I L Z) : Ev E d M_X11_same 37 [vr a0, vi a1, vu, vu, vu] [vi b0, vr b1, vr b2] κ I L Z := E_laldI dX11_same_37 hs h0 h1 hi k
theorem t67_X11_same_38 {E : En} {d d' : Nat} {cs : Nat × Nat} {I L : MI} {Z : Zt} {a0 b1 : Nat} {a1 b0 : Int} {Q : MI → MI → Prop} (hs : G0.1[b1]? = some (.inl 11)) (hM : CQv E d' M_X11_take [vr b1, vl b0] I L Q) (hlt : d' + 1 ≤ d) (kk : ∀ (I' L' : MI), Q I' L' → Ev E d M_X11_same 41 [vr a0, vi a1, vu, vu, vu] [] (G0, cs) I' L' Z) (hc1 : cs.1 ≤ M_X11_same.2.2.2.2.1 := by decide) (hc2 : cs.2 ≤ M_X11_same.2.2.2.2.2 := by decide) : Ev E d M_X11_same 38 [vr a0, vi a1, vu, vu, vu] [vl b0, vr b1] (G0, cs) I L Z := E_callV (as := [vl b0]) (rest := []) (n := 1) hM dX11_same_38 wM_RX11_229 wS_X11_take wV_X11_take hs (by decide) rfl hlt wC_X11_take wI_X11 (by decide +kernel) rfl (by decide) (Nat.le_of_ble_eq_true rfl) hc1 hc2 rfl (fun r g' I' L' h => by obtain ⟨rfl, rfl, h⟩ := h; exact kk I' L' h)
theorem t67_X11_same_41 {E : En} {d : Nat} {κ : Kp} {I L : MI} {Z : Zt} {a0 : Nat} {a1 : Int}  (k : Ev E d M_X11_same 42 [vr a0, vi a1, vu, vu, vu] [vr a0] κ I L Z) : Ev E d M_X11_same 41 [vr a0, vi a1, vu, vu, vu] [] κ I L Z := E_aload_n dX11_same_41 rfl k
theorem t67_X11_same_42 {E : En} {d : Nat} {κ : Kp} {I L : MI} {Z : Zt} {a0 b0 : Nat} {a1 : Int} (hs : κ.1.1[b0]? = some (.inl 11)) (k : Jr (L b0 20) → Ev E d M_X11_same 45 [vr a0, vi a1, vu, vu, vu] [vl (L b0 20)] κ I L Z) : Ev E d M_X11_same 42 [vr a0, vi a1, vu, vu, vu] [vr b0] κ I L Z := E_getL (ci := 11) (n := 20) dX11_same_42 wF_RX11_219 (by decide) hs rfl k
theorem t67_X11_same_45 {E : En} {d : Nat} {κ : Kp} {I L : MI} {Z : Zt} {a0 : Nat} {a1 b0 : Int}  (k : Ev E d M_X11_same 46 [vr a0, vi a1, vu, vu, vu] [vl 1, vl b0] κ I L Z) : Ev E d M_X11_same 45 [vr a0, vi a1, vu, vu, vu] [vl b0] κ I L Z := E_lconst (v := 1) dX11_same_45 rfl k
theorem t67_X11_same_46 {E : En} {d : Nat} {κ : Kp} {I L : MI} {Z : Zt} {a0 : Nat} {a1 b0 b1 : Int} (hx : Jr b1) (hy : Jr b0) (kt : b1 = b0 → Ev E d M_X11_same 54 [vr a0, vi a1, vu, vu, vu] [] κ I L Z) (kf : ¬ b1 = b0 → Ev E d M_X11_same 50 [vr a0, vi a1, vu, vu, vu] [] κ I L Z) : Ev E d M_X11_same 46 [vr a0, vi a1, vu, vu, vu] [vl b0, vl b1] κ I L Z := E_lcmp_eq dX11_same_46 dX11_same_47 hx hy kt kf (by decide)
theorem t67_X11_same_54 {E : En} {d : Nat} {κ : Kp} {I L : MI} {Z : Zt} {a0 : Nat} {a1 : Int}  (k : Ev E d M_X11_same 55 [vr a0, vi a1, vu, vu, vu] [vi 0] κ I L Z) : Ev E d M_X11_same 54 [vr a0, vi a1, vu, vu, vu] [] κ I L Z := E_iconst (v := 0) dX11_same_54 rfl k
theorem t67_X11_same_55 {E : En} {d : Nat} {κ : Kp} {I L : MI} {Z : Zt} {a0 : Nat} {a1 b0 : Int}  (k : Ev E d M_X11_same 56 [vr a0, vi a1, vi b0, vu, vu] [] κ I L Z) : Ev E d M_X11_same 55 [vr a0, vi a1, vu, vu, vu] [vi b0] κ I L Z := E_istore_n dX11_same_55 rfl (Nat.le_of_ble_eq_true rfl) k
theorem t67_X11_same_50 {E : En} {d : Nat} {κ : Kp} {I L : MI} {Z : Zt} {a0 : Nat} {a1 : Int}  (k : Ev E d M_X11_same 53 [vr a0, vi a1, vu, vu, vu] [vl (-1000000)] κ I L Z) : Ev E d M_X11_same 50 [vr a0, vi a1, vu, vu, vu] [] κ I L Z := E_ldc2 (v := (-1000000)) dX11_same_50 wK_RX11_217 k
theorem t67_X11_same_53 {E : En} {d : Nat} {g : Geo} {I L : MI} {Q : Option AV → Geo → MI → MI → Prop} {cs : Nat × Nat} {a0 : Nat} {a1 b0 : Int} (hq : Q (some (vl b0)) g I L) (h1 : cs.1 ≤ M_X11_same.2.2.2.2.1 := by decide) (h2 : cs.2 ≤ M_X11_same.2.2.2.2.2 := by decide) : Ev E d M_X11_same 53 [vr a0, vi a1, vu, vu, vu] [vl b0] (g, cs) I L (ZQ E M_X11_same Q) := E_lreturn rfl dX11_same_53 hq h1 h2
theorem t67_X11_same_111 {E : En} {d : Nat} {κ : Kp} {I L : MI} {Z : Zt} {a0 : Nat} {a1 a2 a4 : Int}  (k : Ev E d M_X11_same 112 [vr a0, vi a1, vl a2, vu, vi a4] [vl a2] κ I L Z) : Ev E d M_X11_same 111 [vr a0, vi a1, vl a2, vu, vi a4] [] κ I L Z := E_lload_n dX11_same_111 rfl k
theorem t67_X11_same_112 {E : En} {d : Nat} {g : Geo} {I L : MI} {Q : Option AV → Geo → MI → MI → Prop} {cs : Nat × Nat} {a0 : Nat} {a1 a2 a4 b0 : Int} (hq : Q (some (vl b0)) g I L) (h1 : cs.1 ≤ M_X11_same.2.2.2.2.1 := by decide) (h2 : cs.2 ≤ M_X11_same.2.2.2.2.2 := by decide) : Ev E d M_X11_same 112 [vr a0, vi a1, vl a2, vu, vi a4] [vl b0] (g, cs) I L (ZQ E M_X11_same Q) := E_lreturn rfl dX11_same_112 hq h1 h2
theorem t67_X11_same_56 {E : En} {d : Nat} {κ : Kp} {I L : MI} {Z : Zt} {a0 : Nat} {a1 a2 : Int}  (k : Ev E d M_X11_same 57 [vr a0, vi a1, vi a2, vu, vu] [vi a2] κ I L Z) : Ev E d M_X11_same 56 [vr a0, vi a1, vi a2, vu, vu] [] κ I L Z := E_iload_n dX11_same_56 rfl k
theorem t67_X11_same_57 {E : En} {d : Nat} {κ : Kp} {I L : MI} {Z : Zt} {a0 : Nat} {a1 a2 b0 : Int}  (k : Ev E d M_X11_same 59 [vr a0, vi a1, vi a2, vu, vu] [vi 12, vi b0] κ I L Z) : Ev E d M_X11_same 57 [vr a0, vi a1, vi a2, vu, vu] [vi b0] κ I L Z := E_bipush (v := 12) dX11_same_57 rfl k
theorem t67_X11_same_59 {E : En} {d : Nat} {κ : Kp} {I L : MI} {Z : Zt} {a0 : Nat} {a1 a2 b0 b1 : Int} (hx : Ir b1) (hy : Ir b0) (kt : b0 ≤ b1 → Ev E d M_X11_same 75 [vr a0, vi a1, vi a2, vu, vu] [] κ I L Z) (kf : b1 < b0 → Ev E d M_X11_same 62 [vr a0, vi a1, vi a2, vu, vu] [] κ I L Z) : Ev E d M_X11_same 59 [vr a0, vi a1, vi a2, vu, vu] [vi b0, vi b1] κ I L Z := E_icmp_ge dX11_same_59 hx hy kt kf (by decide)
theorem t67_X11_same_75 {E : En} {d : Nat} {κ : Kp} {I L : MI} {Z : Zt} {a0 : Nat} {a1 a2 : Int}  (k : Ev E d M_X11_same 76 [vr a0, vi a1, vi a2, vu, vu] [vl 0] κ I L Z) : Ev E d M_X11_same 75 [vr a0, vi a1, vi a2, vu, vu] [] κ I L Z := E_lconst (v := 0) dX11_same_75 rfl k
theorem t67_X11_same_76 {E : En} {d : Nat} {κ : Kp} {I L : MI} {Z : Zt} {a0 : Nat} {a1 a2 b0 : Int}  (k : Ev E d M_X11_same 77 [vr a0, vi a1, vl b0, vu, vu] [] κ I L Z) : Ev E d M_X11_same 76 [vr a0, vi a1, vi a2, vu, vu] [vl b0] κ I L Z := E_lstore_n dX11_same_76 rfl (Nat.le_of_ble_eq_true rfl) k
theorem t67_X11_same_77 {E : En} {d : Nat} {κ : Kp} {I L : MI} {Z : Zt} {a0 : Nat} {a1 a2 : Int}  (k : Ev E d M_X11_same 78 [vr a0, vi a1, vl a2, vu, vu] [vi 1] κ I L Z) : Ev E d M_X11_same 77 [vr a0, vi a1, vl a2, vu, vu] [] κ I L Z := E_iconst (v := 1) dX11_same_77 rfl k
theorem t67_X11_same_78 {E : En} {d : Nat} {κ : Kp} {I L : MI} {Z : Zt} {a0 : Nat} {a1 a2 b0 : Int}  (k : Ev E d M_X11_same 80 [vr a0, vi a1, vl a2, vu, vi b0] [] κ I L Z) : Ev E d M_X11_same 78 [vr a0, vi a1, vl a2, vu, vu] [vi b0] κ I L Z := E_istore dX11_same_78 rfl (Nat.le_of_ble_eq_true rfl) k
theorem t67_X11_same_62 {E : En} {d : Nat} {κ : Kp} {I L : MI} {Z : Zt} {a0 : Nat} {a1 a2 : Int}  (k : Ev E d M_X11_same 63 [vr a0, vi a1, vi a2, vu, vu] [vr a0] κ I L Z) : Ev E d M_X11_same 62 [vr a0, vi a1, vi a2, vu, vu] [] κ I L Z := E_aload_n dX11_same_62 rfl k
theorem t67_X11_same_63 {E : En} {d : Nat} {κ : Kp} {I L : MI} {Z : Zt} {a0 b0 : Nat} {a1 a2 : Int} {q : Nat} (hs : κ.1.1[b0]? = some (.inl 11)) (hq : κ.1.2 b0 24 = some q) (k : Ev E d M_X11_same 66 [vr a0, vi a1, vi a2, vu, vu] [vr q] κ I L Z) : Ev E d M_X11_same 63 [vr a0, vi a1, vi a2, vu, vu] [vr b0] κ I L Z := E_getR (ci := 11) (n := 24) dX11_same_63 wF_RX11_41 (by decide) hs rfl hq k
theorem t67_X11_same_66 {E : En} {d : Nat} {κ : Kp} {I L : MI} {Z : Zt} {a0 b0 : Nat} {a1 a2 : Int}  (k : Ev E d M_X11_same 67 [vr a0, vi a1, vi a2, vu, vu] [vi a2, vr b0] κ I L Z) : Ev E d M_X11_same 66 [vr a0, vi a1, vi a2, vu, vu] [vr b0] κ I L Z := E_iload_n dX11_same_66 rfl k
theorem t67_X11_same_67 {E : En} {d : Nat} {κ : Kp} {I L : MI} {Z : Zt} {a0 b1 : Nat} {a1 a2 b0 : Int}  (k : Ev E d M_X11_same 68 [vr a0, vi a1, vi a2, vu, vu] [vi 0, vi b0, vr b1] κ I L Z) : Ev E d M_X11_same 67 [vr a0, vi a1, vi a2, vu, vu] [vi b0, vr b1] κ I L Z := E_iconst (v := 0) dX11_same_67 rfl k
theorem t67_X11_same_68 {E : En} {d : Nat} {κ : Kp} {I L : MI} {Z : Zt} {a0 b2 : Nat} {a1 a2 b0 b1 : Int} {n : Nat} (ha : κ.1.1[b2]? = some (.inr (0, n))) (h0 : 0 ≤ b1) (h1 : b1 < n) (hi : Ir b1) (hz : Ir b0) (k : Ev E d M_X11_same 69 [vr a0, vi a1, vi a2, vu, vu] [] κ (up2 I b2 b1 b0) L Z) : Ev E d M_X11_same 68 [vr a0, vi a1, vi a2, vu, vu] [vi b0, vi b1, vr b2] κ I L Z := E_iast dX11_same_68 ha h0 h1 hi hz k
theorem t67_X11_same_69 {E : En} {d : Nat} {κ : Kp} {I L : MI} {Z : Zt} {a0 : Nat} {a1 a2 : Int}  (k : Ev E d M_X11_same 72 [vr a0, vi a1, vi (a2 + 1), vu, vu] [] κ I L Z) : Ev E d M_X11_same 69 [vr a0, vi a1, vi a2, vu, vu] [] κ I L Z := E_iinc dX11_same_69 rfl rfl (Nat.le_of_ble_eq_true rfl) k
theorem t67_X11_same_72 {E : En} {d : Nat} {κ : Kp} {I L : MI} {Z : Zt} {a0 : Nat} {a1 a2 : Int}  (k : Ev E d M_X11_same 56 [vr a0, vi a1, vi a2, vu, vu] [] κ I L Z) : Ev E d M_X11_same 72 [vr a0, vi a1, vi a2, vu, vu] [] κ I L Z := E_goto dX11_same_72 (by decide) k
/-! THE REFERENCE: same -/
/-- made of the last d things of n -/
def uP (A : Nat → Nat → Int) (g : Nat → Nat) (n : Nat) : Nat → Int
  | 0 => 1
  | d + 1 => uP A g n d * A (n - (d + 1)) (g (n - (d + 1)))
theorem uP_c {A : Nat → Nat → Int} {g h : Nat → Nat} {n : Nat} : ∀ d, (∀ t, n - d ≤ t → t < n → g t = h t) → d ≤ n → uP A g n d = uP A h n d := by
  intro d
  induction d with
  | zero => intro _ _; rfl
  | succ d ih =>
    intro q hd
    unfold uP
    rw [ih (fun t t0 t1 => q t (by omega) t1) (by omega), q (n - (d + 1)) (Nat.le_refl _) (by omega)]
theorem uP_d {F O : Nat → Int} {c g : Nat → Nat} {n : Nat} : ∀ d, d ≤ n → dP F O c g (n - d) * uP (fun t j => pAj (F t) (O t) (c t) j) g n d = dP F O c g n := by
  intro d
  induction d with
  | zero => intro _; show dP F O c g n * 1 = _; rw [Int.mul_one]
  | succ d ih =>
    intro h
    rw [← ih (by omega), show n - d = (n - (d + 1)) + 1 by omega]
    show dP F O c g (n - (d + 1)) * (uP _ g n d * pAj (F (n - (d + 1))) (O (n - (d + 1))) (c (n - (d + 1))) (g (n - (d + 1)))) = dP F O c g (n - (d + 1)) * pAj (F (n - (d + 1))) (O (n - (d + 1))) (c (n - (d + 1))) (g (n - (d + 1))) * uP _ g n d
    rw [Int.mul_assoc, Int.mul_comm (uP _ g n d)]
theorem uP_n {F O : Nat → Int} {c g : Nat → Nat} {n : Nat} : uP (fun t j => pAj (F t) (O t) (c t) j) g n n = dP F O c g n := by
  have := uP_d (F := F) (O := O) (c := c) (g := g) n (Nat.le_refl n)
  rw [Nat.sub_self] at this
  rw [← this]
  show _ = 1 * _
  rw [Int.one_mul]
/-- the k least places at their most -/
def mxW (O : Nat → Int) (c : Nat → Nat) (k : Nat) (g : Nat → Nat) : Nat → Nat := fun t => if t < k ∧ O t ≠ 0 then c t else g t
theorem SmW_c {I : MI} {n : Nat} {F O : Nat → Int} {c g h : Nat → Nat} (q : ∀ t, t < n → g t = h t) (w : SmW I n F O c g) : SmW I n F O c h := ⟨w.1, w.2.1, w.2.2.1, fun t ht => by rw [← q t ht]; exact w.2.2.2 t ht⟩
def rSamQ (I L : MI) (k : Int) : Int → MI → MI → Prop := fun z I' L' => RK I I' ∧ RKL L L' ∧
  ((¬ (0 ≤ k ∧ k < 8) ∧ z = -9000000000000000001) ∨
   ((0 ≤ k ∧ k < 8) ∧ L 84 k = 0 ∧ z = -9000000000000000002) ∨
   ((0 ≤ k ∧ k < 8) ∧ L 84 k ≠ 0 ∧ z = if tkR (fstI I 15) (othI I 15) (L 84 k) 12 = 1 then samF I (L 84 k) else -1000000))
/-- the loop over all ways: from any way whose k least places are 0 to the one where they are at their most -/
theorem sameLoop {E : En} {J L : MI} {k : Int} {Z : Zt} {n : Nat} {F O : Nat → Int} {c : Nat → Nat} : ∀ (r : Nat), r ≤ n → ∀ (g : Nat → Nat) (acc : Int), (∀ t, t < r → g t = 0) →
    (∀ I1, (∀ o, o ≠ 89 → ∀ x, I1 o x = J o x) → SmW I1 n F O c (mxW O c r g) → Ev E 5 M_X11_same 102 [vr 78, vi k, vl (acc + cD (fun t => if O t = 0 then 1 else c t + 1) (fun t j => pAj (F t) (O t) (c t) j) r (uP (fun t j => pAj (F t) (O t) (c t) j) g n (n - r))), vu, vi 1] [] (G0, 0, 0) I1 L Z) →
    ∀ I1, MOK I1 L → (∀ o, o ≠ 89 → ∀ x, I1 o x = J o x) → SmW I1 n F O c g → Ev E 5 M_X11_same 85 [vr 78, vi k, vl acc, vu, vi 1] [] (G0, 0, 0) I1 L Z := by
  intro r
  induction r with
  | zero =>
    intro _ g acc hg hN I1 hM f1 hw
    have e : mxW O c 0 g = g := by funext t; unfold mxW; rw [if_neg (by omega)]
    rw [e, Nat.sub_zero, uP_n] at hN
    have h1 := hN I1 f1 hw
    have d1 := dP_1 hw n (Nat.le_refl n)
    have tb : 0 ≤ tvM (dP F O c g n) ∧ tvM (dP F O c g n) ≤ 1000000000000000 := by unfold tvM; split <;> omega
    have tp : 0 < tvM (dP F O c g n) ↔ dP F O c g n ≤ 1000000000000000 := by unfold tvM; split <;> omega
    have ec : cD (fun t => if O t = 0 then 1 else c t + 1) (fun t j => pAj (F t) (O t) (c t) j) 0 (dP F O c g n) = if dP F O c g n ≤ 1000000000000000 then 1 else 0 := rfl
    rw [ec] at h1
    refine (t67_X11_same_85 (t67_X11_same_86 (t67_X11_same_87 (by first | assumption | rfl) ((c_X11_madeNow hw)) (by first | decide | omega) (fun r87 => (t67_X11_same_90 (t67_X11_same_91 (by omega) (by omega) (fun c91 => (t67_X11_same_99 (t67_X11_same_100 (t67_X11_same_101 ?_)))) (fun c91 => (t67_X11_same_95 (t67_X11_same_96 (t67_X11_same_100 (t67_X11_same_101 ?_)))))))))))
    -- 2 leaves: 91t :->102 | 91f :->102
    · rw [if_neg (by omega)] at h1
      exact h1
    · rw [if_pos (by omega)] at h1
      exact h1
  | succ r ih =>
    intro hr g acc hg hN I1 hM f1 hw
    have er : n - r = (n - (r + 1)) + 1 := by omega
    have er2 : n - ((n - (r + 1)) + 1) = r := by omega
    by_cases hO : O r = 0
    · refine ih (by omega) g acc (fun t ht => hg t (by omega)) (fun I2 f2 hw2 => ?_) I1 hM f1 hw
      have e : mxW O c (r + 1) g = mxW O c r g := by
        funext t
        unfold mxW
        by_cases q : t = r
        · subst q; rw [if_neg (fun z => z.2 hO), if_neg (by omega)]
        · by_cases q2 : t < r ∧ O t ≠ 0
          · rw [if_pos ⟨by omega, q2.2⟩, if_pos q2]
          · rw [if_neg (fun z => q2 ⟨by omega, z.2⟩), if_neg q2]
      have h := hN I2 f2 (by rw [e]; exact hw2)
      have ec : cD (fun t => if O t = 0 then 1 else c t + 1) (fun t j => pAj (F t) (O t) (c t) j) (r + 1) (uP (fun t j => pAj (F t) (O t) (c t) j) g n (n - (r + 1))) = cD (fun t => if O t = 0 then 1 else c t + 1) (fun t j => pAj (F t) (O t) (c t) j) r (uP (fun t j => pAj (F t) (O t) (c t) j) g n (n - r)) := by
        have e1 : uP (fun t j => pAj (F t) (O t) (c t) j) g n (n - r) = uP (fun t j => pAj (F t) (O t) (c t) j) g n (n - (r + 1)) * pAj (F r) (O r) (c r) 0 := by
          rw [er]
          show uP _ g n (n - (r + 1)) * pAj (F (n - (n - (r + 1) + 1))) (O (n - (n - (r + 1) + 1))) (c (n - (n - (r + 1) + 1))) (g (n - (n - (r + 1) + 1))) = _
          rw [er2, hg r (by omega)]
        rw [e1]
        show sR (fun j => cD _ _ r (uP (fun t j => pAj (F t) (O t) (c t) j) g n (n - (r + 1)) * pAj (F r) (O r) (c r) j)) (if O r = 0 then 1 else c r + 1) = _
        rw [if_pos hO]
        show (0 : Int) + cD _ _ r (uP (fun t j => pAj (F t) (O t) (c t) j) g n (n - (r + 1)) * pAj (F r) (O r) (c r) 0) = _
        rw [Int.zero_add]
      rw [ec] at h
      exact h
    · -- a thing of two numbers
      generalize hf : (fun j => cD (fun t => if O t = 0 then 1 else c t + 1) (fun t j => pAj (F t) (O t) (c t) j) r (uP (fun t j => pAj (F t) (O t) (c t) j) g n (n - (r + 1)) * pAj (F r) (O r) (c r) j)) = f at *
      have ec : cD (fun t => if O t = 0 then 1 else c t + 1) (fun t j => pAj (F t) (O t) (c t) j) (r + 1) (uP (fun t j => pAj (F t) (O t) (c t) j) g n (n - (r + 1))) = sR f (c r + 1) := by
        rw [← hf]
        show sR (fun j => cD _ _ r (uP (fun t j => pAj (F t) (O t) (c t) j) g n (n - (r + 1)) * pAj (F r) (O r) (c r) j)) (if O r = 0 then 1 else c r + 1) = _
        rw [if_neg hO]
      rw [ec] at hN
      have fe : ∀ j, cD (fun t => if O t = 0 then 1 else c t + 1) (fun t j => pAj (F t) (O t) (c t) j) r (uP (fun t j => pAj (F t) (O t) (c t) j) (upG g r j) n (n - r)) = f j := fun j => by
        rw [← hf]
        show _ = cD _ _ r (uP (fun t j => pAj (F t) (O t) (c t) j) g n (n - (r + 1)) * pAj (F r) (O r) (c r) j)
        congr 1
        rw [er]
        show uP _ (upG g r j) n (n - (r + 1)) * pAj (F (n - (n - (r + 1) + 1))) (O (n - (n - (r + 1) + 1))) (c (n - (n - (r + 1) + 1))) (upG g r j (n - (n - (r + 1) + 1))) = _
        rw [er2, uP_c (g := upG g r j) (h := g) (n - (r + 1)) (fun t t0 t1 => show upG g r j t = g t from if_neg (by omega)) (by omega)]
        have : upG g r j r = j := if_pos rfl
        rw [this]
      have key : ∀ (m j : Nat), j + m = c r → ∀ I2, MOK I2 L → (∀ o, o ≠ 89 → ∀ x, I2 o x = J o x) → SmW I2 n F O c (upG g r j) → Ev E 5 M_X11_same 85 [vr 78, vi k, vl (acc + sR f j), vu, vi 1] [] (G0, 0, 0) I2 L Z := by
        intro m
        induction m with
        | zero =>
          intro j hj I2 hM2 f2 hw2
          have : j = c r := by omega
          subst this
          refine ih (by omega) (upG g r (c r)) _ (fun t ht => (if_neg (by omega)).trans (hg t (by omega))) (fun I3 f3 hw3 => ?_) I2 hM2 f2 hw2
          rw [fe, Int.add_assoc]
          refine hN I3 f3 (SmW_c (fun t ht => ?_) hw3)
          unfold mxW upG
          by_cases q : t = r
          · subst q; rw [if_neg (by omega), if_pos rfl, if_pos ⟨by omega, hO⟩]
          · by_cases q2 : t < r ∧ O t ≠ 0
            · rw [if_pos q2, if_pos ⟨by omega, q2.2⟩]
            · rw [if_neg q2, if_neg q, if_neg (fun z => q2 ⟨by omega, z.2⟩)]
        | succ m ihm =>
          intro j hj I2 hM2 f2 hw2
          refine ih (by omega) (upG g r j) _ (fun t ht => (if_neg (by omega)).trans (hg t (by omega))) (fun I3 f3 hw3 => ?_) I2 hM2 f2 hw2
          rw [fe]
          refine Ev.mok fun hM3 => ?_
          refine (t67_X11_same_102 (t67_X11_same_103 (by first | assumption | rfl) ((c_X11_nextWay hw3)) (by first | decide | omega) (fun z103 I103 L103 q103 => ?_)))
          -- 1 leaves: :call103
          obtain ⟨rfl, f4, q⟩ := q103
          have hk : mxW O c r (upG g r j) r = j := by unfold mxW upG; rw [if_neg (by omega), if_pos rfl]
          rcases q with ⟨rfl, k', k1, k2, k3, k4, hw4⟩ | ⟨-, q⟩
          · have ek : k' = r := by
              apply Classical.byContradiction
              intro ne
              rcases Nat.lt_or_gt_of_ne ne with lt | lt
              · have : mxW O c r (upG g r j) k' = c k' := if_pos ⟨lt, k2⟩
                omega
              · have := k4 r lt hO
                omega
            subst ek
            refine Ev.mok fun hM4 => ?_
            refine (t67_X11_same_106 (t67_X11_same_108 (t67_X11_same_80 (t67_X11_same_82 (by omega) (fun c82 => ?_) (fun c82 => ?_)))))
            -- 2 leaves: 82t :->111 | 82f :->85
            · omega
            · have h := ihm (j + 1) (by omega) I103 hM4 (fun o o1 x => (f4 o o1 x).trans (f3 o o1 x)) (SmW_c (fun t ht => ?_) hw4)
              · have es : sR f (j + 1) = sR f j + f j := rfl
                rw [es, ← Int.add_assoc] at h
                exact h
              · unfold inWy mxW upG
                by_cases q : t = k'
                · subst q; rw [if_pos rfl, if_pos rfl, if_neg (by omega), if_pos rfl]
                · rw [if_neg q, if_neg q]
                  by_cases q2 : t < k'
                  · rw [if_pos q2, if_neg q, hg t (by omega)]
                  · rw [if_neg q2, if_neg (by omega), if_neg q]
          · have := q r (by omega) hO
            omega
      have h := key (c r) 0 (by omega) I1 hM f1 (SmW_c (fun t ht => ?_) hw)
      · have : sR f 0 = 0 := rfl
        rw [this, Int.add_zero] at h
        exact h
      · unfold upG
        by_cases q : t = r
        · subst q; rw [if_pos rfl]; exact hg t (by omega)
        · rw [if_neg q]
theorem c_X11_same {E : En} {I L : MI} {k : Int} (hk : Ir k) (h : TRq I) (hs : SlR L) : CQl E 5 M_X11_same [vr 78, vi k] I L (rSamQ I L k) := by
  have g84 : G0.1[84]? = some (.inr (3, 8)) := rfl
  have g89 : G0.1[89]? = some (.inr (0, 12)) := rfl
  have hT := TR_f (RSm_th I 0) h
  have eS := fun k => fstI_same (RSm_th I k).1
  have eO := fun k => othI_same (RSm_th I k).1
  have n12 := h.1.1.1
  have nn := (TR_n h).1
  obtain ⟨n, hn⟩ := Int.eq_ofNat_of_zero_le (show 0 ≤ I 15 0 by omega)
  refine CM_of' (al := [vr _, vi _, vu, vu, vu]) rfl (Nat.le_of_ble_eq_true rfl) rfl (fun hM => ?_)
  refine (t67_X11_same_0 (t67_X11_same_1 (t67_X11_same_2 (by first | assumption | rfl) (by omega) (t67_X11_same_5 (t67_X11_same_6 c_X11_isSlot (by first | decide | omega) (fun c6 => (t67_X11_same_9 (by decide) (fun _ => (t67_X11_same_16 (t67_X11_same_17 (by first | assumption | rfl) (by first | assumption | rfl) (t67_X11_same_20 (t67_X11_same_21 (by first | assumption | rfl) (by omega) (by omega) (by omega) (fun r21 => (t67_X11_same_22 (t67_X11_same_23 (by omega) (by omega) (fun c23 => ?_) (fun c23 => (t67_X11_same_27 (t67_X11_same_30 ?_))))))))))) (fun h => absurd h (by decide)))) (fun c6 => (t67_X11_same_9 (by decide) (fun h => absurd rfl h) (fun _ => (t67_X11_same_12 (t67_X11_same_15 ?_))))))))))
  -- 3 leaves: 6T 23t :->31 | 6T 23f :ret30 | 6F :ret15
  · have sv := SlR_ne hs c6 c23
    refine (t67_X11_same_31 (t67_X11_same_32 (t67_X11_same_33 (by first | assumption | rfl) (by first | assumption | rfl) (t67_X11_same_36 (t67_X11_same_37 (by first | assumption | rfl) (by omega) (by omega) (by omega) (fun r37 => (t67_X11_same_38 (by first | assumption | rfl) ((c_X11_take sv (TR_B hT))) (by first | decide | omega) (fun I38 L38 q38 => ?_))))))))
    -- 1 leaves: :call38
    have fr := rTk_th q38
    have tk := TR_tk hT q38
    rw [eS, eO] at tk
    have tk1 := tk.1
    refine (t67_X11_same_41 (t67_X11_same_42 (by first | assumption | rfl) (fun r42 => (t67_X11_same_45 (t67_X11_same_46 (by omega) (by omega) (fun c46 => (t67_X11_same_54 (t67_X11_same_55 ?_))) (fun c46 => (t67_X11_same_50 (t67_X11_same_53 ?_))))))))
    -- 2 leaves: 46t :->56 | 46f :ret53
    · -- it can be said
      have r1 : tkR (fstI I 15) (othI I 15) (L 84 k) 12 = 1 := by omega
      have sf := samF_D h.1 hn (by omega) r1
      have fo : ∀ t : Nat, t < n → (2 ≤ fstI I 15 t ∧ fstI I 15 t ≤ 199) ∧ (othI I 15 t = 0 ∨ (2 ≤ othI I 15 t ∧ othI I 15 t ≤ 199)) := fun t ht => by
        have := h.1.2.1 t (by omega) (by omega)
        unfold fstI othI
        rw [if_pos (by omega), if_pos (by omega), atI_in (by omega), atI_in (by omega)]
        omega
      have zero : ∀ (f : Nat) (j : Nat) (I1 : MI), j + f = 12 → (∀ o, o ≠ 89 → ∀ x, I1 o x = I38 o x) → (∀ t : Nat, t < j → I1 89 t = 0) → Ev E 5 M_X11_same 56 [vr 78, vi k, vi (j : Int), vu, vu] [] (G0, 0, 0) I1 L38 (ZQ E M_X11_same (QQl (rSamQ I L k))) := by
        intro f
        induction f with
        | zero =>
          intro j I1 h1 f1 f2
          have : j = 12 := by omega
          subst this
          have e82 : ∀ x, I1 82 x = I 82 x := fun x => by rw [f1 82 (by decide), q38.1 82 (by decide), up2_ne (.inl (by decide))]
          have hw : SmW I1 n (fun t => fstI I 15 t) (fun t => othI I 15 t) (ctN I (L 84 k)) (fun _ => 0) := by
            refine ⟨by rw [e82, nn, hn], by omega, fun t ht => ⟨⟨?_, ?_, ?_, ?_⟩, fo t ht⟩, fun t ht => ⟨f2 t (by omega), Nat.zero_le _, fun _ => rfl⟩⟩
            · rw [e82, ← TR_F h]; exact (if_pos ⟨by omega, by omega⟩).symm
            · rw [e82, ← TR_O h]; exact (if_pos ⟨by omega, by omega⟩).symm
            · rw [f1 86 (by decide), tk.2 t (by omega)]
              have b := tkC_b (F := fstI I 15) (O := othI I 15) (v := L 84 k) (by omega) t
              unfold ctN
              omega
            · have b := tkC_b (F := fstI I 15) (O := othI I 15) (v := L 84 k) (by omega) t
              unfold ctN
              omega
          refine Ev.mok fun hM1 => ?_
          have loop := sameLoop (E := E) (J := I38) (L := L38) (k := k) (Z := ZQ E M_X11_same (QQl (rSamQ I L k))) n (Nat.le_refl n) (fun _ => 0) 0 (fun t _ => rfl) (fun I2 f3 hw2 => by
            rw [Nat.sub_self]
            show Ev E 5 M_X11_same 102 [vr 78, vi k, vl (0 + cD (rN I (L 84 k)) (rA I (L 84 k)) n 1), vu, vi 1] [] (G0, 0, 0) I2 L38 _
            rw [← sf, Int.zero_add]
            refine (t67_X11_same_102 (t67_X11_same_103 (by first | assumption | rfl) ((c_X11_nextWay hw2)) (by first | decide | omega) (fun z103 I103 L103 q103 => ?_)))
            -- 1 leaves: :call103
            obtain ⟨rfl, f4, q⟩ := q103
            rcases q with ⟨rfl, k', k1, k2, k3, k4, hw4⟩ | ⟨rfl, q⟩
            · have : mxW (fun t => othI I 15 t) (ctN I (L 84 k)) n (fun _ => 0) k' = ctN I (L 84 k) k' := if_pos ⟨k1, k2⟩
              omega
            · refine Ev.mok fun hM4 => ?_
              refine (t67_X11_same_106 (t67_X11_same_108 (t67_X11_same_80 (t67_X11_same_82 (by omega) (fun c82 => (t67_X11_same_111 (t67_X11_same_112 ?_))) (fun c82 => ?_)))))
              -- 2 leaves: 82t :ret112 | 82f :->85
              · refine qql ⟨RK_t fr.1 ⟨fun o o1 o2 o3 o4 o5 o6 x => ?_, fun x hx => ?_⟩, fr.2, .inr (.inr ⟨c6, c23, by rw [if_pos r1]⟩)⟩
                · rw [f4 o o6, f3 o o6]
                · rw [f4 78 (by decide), f3 78 (by decide)]
              · omega) I1 hM1 f1 hw
          refine (t67_X11_same_56 (t67_X11_same_57 (t67_X11_same_59 (by omega) (by omega) (fun c59 => (t67_X11_same_75 (t67_X11_same_76 (t67_X11_same_77 (t67_X11_same_78 (t67_X11_same_80 (t67_X11_same_82 (by omega) (fun c82 => (t67_X11_same_111 (t67_X11_same_112 ?_))) (fun c82 => ?_)))))))) (fun c59 => ?_))))
          -- 3 leaves: 59t 82t :ret112 | 59t 82f :->85 | 59f :->62
          · omega
          · exact loop
          · omega
        | succ f ih =>
          intro j I1 h1 f1 f2
          refine (t67_X11_same_56 (t67_X11_same_57 (t67_X11_same_59 (by omega) (by omega) (fun c59 => ?_) (fun c59 => (t67_X11_same_62 (t67_X11_same_63 (by first | assumption | rfl) (by first | assumption | rfl) (t67_X11_same_66 (t67_X11_same_67 (t67_X11_same_68 (by first | assumption | rfl) (by omega) (by omega) (by omega) (by omega) (t67_X11_same_69 (t67_X11_same_72 ?_)))))))))))
          -- 2 leaves: 59t :->75 | 59f :->56
          · omega
          · refine ih (j + 1) _ (by omega) (fun o o1 x => by rw [up2_ne (.inl o1)]; exact f1 o o1 x) fun t ht => ?_
            by_cases e : t = j
            · subst e; rw [up2_eq]
            · rw [up2_ne (.inr (by omega))]; exact f2 t (by omega)
      exact zero 12 0 I38 (by omega) (fun o _ x => rfl) (fun t ht => by omega)
    · exact qql ⟨fr.1, fr.2, .inr (.inr ⟨c6, c23, by rw [if_neg (by omega)]⟩)⟩
  · exact qql ⟨RK_th I 0, RKL_r L, .inr (.inl ⟨c6, c23, rfl⟩)⟩
  · exact qql ⟨RK_th I 0, RKL_r L, .inl ⟨c6, rfl⟩⟩
