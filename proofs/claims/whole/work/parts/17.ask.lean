theorem t17_X0_leaveTrace_0 {E : En} {d : Nat} {κ : Kp} {I L : MI} {Z : Zt} {a0 : Nat} {a1 : Int}  (k : Ev E d M_X0_leaveTrace 1 [vr a0, vi a1] [vr a0] κ I L Z) : Ev E d M_X0_leaveTrace 0 [vr a0, vi a1] [] κ I L Z := E_aload_n dX0_leaveTrace_0 rfl k
theorem t17_X0_leaveTrace_1 {E : En} {d : Nat} {κ : Kp} {I L : MI} {Z : Zt} {a0 b0 : Nat} {a1 : Int} (hs : κ.1.1[b0]? = some (.inl 0)) (k : Ir (I b0 1) → Ev E d M_X0_leaveTrace 4 [vr a0, vi a1] [vi (I b0 1)] κ I L Z) : Ev E d M_X0_leaveTrace 1 [vr a0, vi a1] [vr b0] κ I L Z := E_getI (ci := 0) (n := 1) dX0_leaveTrace_1 wF_RX0_15 (by decide) hs rfl k
theorem t17_X0_leaveTrace_4 {E : En} {d : Nat} {κ : Kp} {I L : MI} {Z : Zt} {a0 : Nat} {a1 b0 : Int}  (k : Ev E d M_X0_leaveTrace 5 [vr a0, vi a1] [vr a0, vi b0] κ I L Z) : Ev E d M_X0_leaveTrace 4 [vr a0, vi a1] [vi b0] κ I L Z := E_aload_n dX0_leaveTrace_4 rfl k
theorem t17_X0_leaveTrace_5 {E : En} {d : Nat} {κ : Kp} {I L : MI} {Z : Zt} {a0 b0 : Nat} {a1 b1 : Int} {q : Nat} (hs : κ.1.1[b0]? = some (.inl 0)) (hq : κ.1.2 b0 0 = some q) (k : Ev E d M_X0_leaveTrace 8 [vr a0, vi a1] [vr q, vi b1] κ I L Z) : Ev E d M_X0_leaveTrace 5 [vr a0, vi a1] [vr b0, vi b1] κ I L Z := E_getR (ci := 0) (n := 0) dX0_leaveTrace_5 wF_RX0_9 (by decide) hs rfl hq k
theorem t17_X0_leaveTrace_8 {E : En} {d : Nat} {κ : Kp} {I L : MI} {Z : Zt} {a0 b0 : Nat} {a1 b1 : Int} {n kd : Nat} {z : Int} (ha : arr E κ.1 b0 = some (kd, n)) (hk : kd < 6) (hz : (n : Int) = z) (k : Ev E d M_X0_leaveTrace 9 [vr a0, vi a1] [vi z, vi b1] κ I L Z) : Ev E d M_X0_leaveTrace 8 [vr a0, vi a1] [vr b0, vi b1] κ I L Z := E_alen dX0_leaveTrace_8 ha hk hz k
theorem t17_X0_leaveTrace_9 {E : En} {d : Nat} {κ : Kp} {I L : MI} {Z : Zt} {a0 : Nat} {a1 b0 b1 : Int} (hx : Ir b1) (hy : Ir b0) (kt : b0 ≤ b1 → Ev E d M_X0_leaveTrace 34 [vr a0, vi a1] [] κ I L Z) (kf : b1 < b0 → Ev E d M_X0_leaveTrace 12 [vr a0, vi a1] [] κ I L Z) : Ev E d M_X0_leaveTrace 9 [vr a0, vi a1] [vi b0, vi b1] κ I L Z := E_icmp_ge dX0_leaveTrace_9 hx hy kt kf (by decide)
theorem t17_X0_leaveTrace_34 {E : En} {d : Nat} {g : Geo} {I L : MI} {Q : Option AV → Geo → MI → MI → Prop} {cs : Nat × Nat} {a0 : Nat} {a1 : Int} (hq : Q none g I L) (h1 : cs.1 ≤ M_X0_leaveTrace.2.2.2.2.1 := by decide) (h2 : cs.2 ≤ M_X0_leaveTrace.2.2.2.2.2 := by decide) : Ev E d M_X0_leaveTrace 34 [vr a0, vi a1] [] (g, cs) I L (ZQ E M_X0_leaveTrace Q) := E_return rfl dX0_leaveTrace_34 hq h1 h2
theorem t17_X0_leaveTrace_12 {E : En} {d : Nat} {κ : Kp} {I L : MI} {Z : Zt} {a0 : Nat} {a1 : Int}  (k : Ev E d M_X0_leaveTrace 13 [vr a0, vi a1] [vr a0] κ I L Z) : Ev E d M_X0_leaveTrace 12 [vr a0, vi a1] [] κ I L Z := E_aload_n dX0_leaveTrace_12 rfl k
theorem t17_X0_leaveTrace_13 {E : En} {d : Nat} {κ : Kp} {I L : MI} {Z : Zt} {a0 b0 : Nat} {a1 : Int} {q : Nat} (hs : κ.1.1[b0]? = some (.inl 0)) (hq : κ.1.2 b0 0 = some q) (k : Ev E d M_X0_leaveTrace 16 [vr a0, vi a1] [vr q] κ I L Z) : Ev E d M_X0_leaveTrace 13 [vr a0, vi a1] [vr b0] κ I L Z := E_getR (ci := 0) (n := 0) dX0_leaveTrace_13 wF_RX0_9 (by decide) hs rfl hq k
theorem t17_X0_leaveTrace_16 {E : En} {d : Nat} {κ : Kp} {I L : MI} {Z : Zt} {a0 b0 : Nat} {a1 : Int}  (k : Ev E d M_X0_leaveTrace 17 [vr a0, vi a1] [vr a0, vr b0] κ I L Z) : Ev E d M_X0_leaveTrace 16 [vr a0, vi a1] [vr b0] κ I L Z := E_aload_n dX0_leaveTrace_16 rfl k
theorem t17_X0_leaveTrace_17 {E : En} {d : Nat} {κ : Kp} {I L : MI} {Z : Zt} {a0 b0 b1 : Nat} {a1 : Int} (hs : κ.1.1[b0]? = some (.inl 0)) (k : Ir (I b0 1) → Ev E d M_X0_leaveTrace 20 [vr a0, vi a1] [vi (I b0 1), vr b1] κ I L Z) : Ev E d M_X0_leaveTrace 17 [vr a0, vi a1] [vr b0, vr b1] κ I L Z := E_getI (ci := 0) (n := 1) dX0_leaveTrace_17 wF_RX0_15 (by decide) hs rfl k
theorem t17_X0_leaveTrace_20 {E : En} {d : Nat} {κ : Kp} {I L : MI} {Z : Zt} {a0 b1 : Nat} {a1 b0 : Int}  (k : Ev E d M_X0_leaveTrace 21 [vr a0, vi a1] [vi a1, vi b0, vr b1] κ I L Z) : Ev E d M_X0_leaveTrace 20 [vr a0, vi a1] [vi b0, vr b1] κ I L Z := E_iload_n dX0_leaveTrace_20 rfl k
theorem t17_X0_leaveTrace_21 {E : En} {d d' : Nat} {cs : Nat × Nat} {I L : MI} {Z : Zt} {a0 b2 : Nat} {a1 b0 b1 : Int} {I' L' : MI} (hM : CFv E d' M_X10_store [vr b2, vi b1, vi b0] I L I' L') (hlt : d' + 1 ≤ d) (k : Ev E d M_X0_leaveTrace 24 [vr a0, vi a1] [] (G0, cs) I' L' Z) (hc1 : cs.1 ≤ M_X0_leaveTrace.2.2.2.2.1 := by decide) (hc2 : cs.2 ≤ M_X0_leaveTrace.2.2.2.2.2 := by decide) : Ev E d M_X0_leaveTrace 21 [vr a0, vi a1] [vi b0, vi b1, vr b2] (G0, cs) I L Z := E_callSN (as := [vr b2, vi b1, vi b0]) (rest := []) (n := 3) hM dX0_leaveTrace_21 rfl (host := "SaidByTimes") (cl := RX0) (by decide +kernel) wS_X10_store hlt wC_X10_store wI_X10 (by decide +kernel) rfl (by decide) (Nat.le_of_ble_eq_true rfl) hc1 hc2 rfl (fun r g' I2 L2 h => by obtain ⟨rfl, rfl, rfl, rfl⟩ := h; exact k)
theorem t17_X0_leaveTrace_24 {E : En} {d : Nat} {κ : Kp} {I L : MI} {Z : Zt} {a0 : Nat} {a1 : Int}  (k : Ev E d M_X0_leaveTrace 25 [vr a0, vi a1] [vr a0] κ I L Z) : Ev E d M_X0_leaveTrace 24 [vr a0, vi a1] [] κ I L Z := E_aload_n dX0_leaveTrace_24 rfl k
theorem t17_X0_leaveTrace_25 {E : En} {d : Nat} {κ : Kp} {I L : MI} {Z : Zt} {a0 b0 : Nat} {a1 : Int}  (k : Ev E d M_X0_leaveTrace 26 [vr a0, vi a1] [vr b0, vr b0] κ I L Z) : Ev E d M_X0_leaveTrace 25 [vr a0, vi a1] [vr b0] κ I L Z := E_dup dX0_leaveTrace_25 rfl k
theorem t17_X0_leaveTrace_26 {E : En} {d : Nat} {κ : Kp} {I L : MI} {Z : Zt} {a0 b0 b1 : Nat} {a1 : Int} (hs : κ.1.1[b0]? = some (.inl 0)) (k : Ir (I b0 1) → Ev E d M_X0_leaveTrace 29 [vr a0, vi a1] [vi (I b0 1), vr b1] κ I L Z) : Ev E d M_X0_leaveTrace 26 [vr a0, vi a1] [vr b0, vr b1] κ I L Z := E_getI (ci := 0) (n := 1) dX0_leaveTrace_26 wF_RX0_15 (by decide) hs rfl k
theorem t17_X0_leaveTrace_29 {E : En} {d : Nat} {κ : Kp} {I L : MI} {Z : Zt} {a0 b1 : Nat} {a1 b0 : Int}  (k : Ev E d M_X0_leaveTrace 30 [vr a0, vi a1] [vi 1, vi b0, vr b1] κ I L Z) : Ev E d M_X0_leaveTrace 29 [vr a0, vi a1] [vi b0, vr b1] κ I L Z := E_iconst (v := 1) dX0_leaveTrace_29 rfl k
theorem t17_X0_leaveTrace_30 {E : En} {d : Nat} {κ : Kp} {I L : MI} {Z : Zt} {a0 b2 : Nat} {a1 b0 b1 : Int}  (k : Ev E d M_X0_leaveTrace 31 [vr a0, vi a1] [vi (b1 + b0), vr b2] κ I L Z) : Ev E d M_X0_leaveTrace 30 [vr a0, vi a1] [vi b0, vi b1, vr b2] κ I L Z := E_iadd dX0_leaveTrace_30 k
theorem t17_X0_leaveTrace_31 {E : En} {d : Nat} {κ : Kp} {I L : MI} {Z : Zt} {a0 b1 : Nat} {a1 b0 : Int} (hs : κ.1.1[b1]? = some (.inl 0)) (hz : Ir b0) (k : Ev E d M_X0_leaveTrace 34 [vr a0, vi a1] [] κ (up2 I b1 1 b0) L Z) : Ev E d M_X0_leaveTrace 31 [vr a0, vi a1] [vi b0, vr b1] κ I L Z := E_putI (ci := 0) (n := 1) dX0_leaveTrace_31 wF_RX0_15 (by decide) hs rfl rfl hz k
theorem t17_X0_nearestBody_7 {E : En} {d : Nat} {κ : Kp} {I L : MI} {Z : Zt} {a0 a1 : Nat} {a2 a3 : Int}  (k : Ev E d M_X0_nearestBody 8 [vr a0, vr a1, vi a2, vi a3] [vi a3] κ I L Z) : Ev E d M_X0_nearestBody 7 [vr a0, vr a1, vi a2, vi a3] [] κ I L Z := E_iload_n dX0_nearestBody_7 rfl k
theorem t17_X0_nearestBody_8 {E : En} {d : Nat} {κ : Kp} {I L : MI} {Z : Zt} {a0 a1 : Nat} {a2 a3 b0 : Int}  (k : Ev E d M_X0_nearestBody 10 [vr a0, vr a1, vi a2, vi a3] [vi 6, vi b0] κ I L Z) : Ev E d M_X0_nearestBody 8 [vr a0, vr a1, vi a2, vi a3] [vi b0] κ I L Z := E_bipush (v := 6) dX0_nearestBody_8 rfl k
theorem t17_X0_nearestBody_10 {E : En} {d : Nat} {κ : Kp} {I L : MI} {Z : Zt} {a0 a1 : Nat} {a2 a3 b0 b1 : Int} (hx : Ir b1) (hy : Ir b0) (kt : b0 ≤ b1 → Ev E d M_X0_nearestBody 32 [vr a0, vr a1, vi a2, vi a3] [] κ I L Z) (kf : b1 < b0 → Ev E d M_X0_nearestBody 13 [vr a0, vr a1, vi a2, vi a3] [] κ I L Z) : Ev E d M_X0_nearestBody 10 [vr a0, vr a1, vi a2, vi a3] [vi b0, vi b1] κ I L Z := E_icmp_ge dX0_nearestBody_10 hx hy kt kf (by decide)
theorem t17_X0_nearestBody_32 {E : En} {d : Nat} {κ : Kp} {I L : MI} {Z : Zt} {a0 a1 : Nat} {a2 a3 : Int}  (k : Ev E d M_X0_nearestBody 33 [vr a0, vr a1, vi a2, vi a3] [vr a1] κ I L Z) : Ev E d M_X0_nearestBody 32 [vr a0, vr a1, vi a2, vi a3] [] κ I L Z := E_aload_n dX0_nearestBody_32 rfl k
theorem t17_X0_nearestBody_33 {E : En} {d : Nat} {κ : Kp} {I L : MI} {Z : Zt} {a0 a1 b0 : Nat} {a2 a3 : Int}  (k : Ev E d M_X0_nearestBody 34 [vr a0, vr a1, vi a2, vi a3] [vi a2, vr b0] κ I L Z) : Ev E d M_X0_nearestBody 33 [vr a0, vr a1, vi a2, vi a3] [vr b0] κ I L Z := E_iload_n dX0_nearestBody_33 rfl k
theorem t17_X0_nearestBody_34 {E : En} {d d' : Nat} {cs : Nat × Nat} {I L : MI} {Z : Zt} {a0 a1 b1 : Nat} {a2 a3 b0 : Int} {z : Int} {I' L' : MI} (hM : CFi E d' M_X10_at [vr b1, vi b0] I L z I' L') (hlt : d' + 1 ≤ d) (k : Ir z → Ev E d M_X0_nearestBody 37 [vr a0, vr a1, vi a2, vi a3] [vi z] (G0, cs) I' L' Z) (hc1 : cs.1 ≤ M_X0_nearestBody.2.2.2.2.1 := by decide) (hc2 : cs.2 ≤ M_X0_nearestBody.2.2.2.2.2 := by decide) : Ev E d M_X0_nearestBody 34 [vr a0, vr a1, vi a2, vi a3] [vi b0, vr b1] (G0, cs) I L Z := E_callSN (as := [vr b1, vi b0]) (rest := []) (n := 2) hM dX0_nearestBody_34 rfl (host := "SaidByTimes") (cl := RX0) (by decide +kernel) wS_X10_at hlt wC_X10_at wI_X10 (by decide +kernel) rfl (by decide) (Nat.le_of_ble_eq_true rfl) hc1 hc2 rfl (fun r g' I2 L2 h => by obtain ⟨rfl, z, rfl, hr, rfl, rfl, rfl⟩ := h; exact k hr)
theorem t17_X0_nearestBody_37 {E : En} {d : Nat} {g : Geo} {I L : MI} {Q : Option AV → Geo → MI → MI → Prop} {cs : Nat × Nat} {a0 a1 : Nat} {a2 a3 b0 : Int} (hq : Q (some (vi b0)) g I L) (h1 : cs.1 ≤ M_X0_nearestBody.2.2.2.2.1 := by decide) (h2 : cs.2 ≤ M_X0_nearestBody.2.2.2.2.2 := by decide) : Ev E d M_X0_nearestBody 37 [vr a0, vr a1, vi a2, vi a3] [vi b0] (g, cs) I L (ZQ E M_X0_nearestBody Q) := E_ireturn rfl dX0_nearestBody_37 hq h1 h2
theorem t17_X0_nearestBody_13 {E : En} {d : Nat} {κ : Kp} {I L : MI} {Z : Zt} {a0 a1 : Nat} {a2 a3 : Int}  (k : Ev E d M_X0_nearestBody 14 [vr a0, vr a1, vi a2, vi a3] [vr a1] κ I L Z) : Ev E d M_X0_nearestBody 13 [vr a0, vr a1, vi a2, vi a3] [] κ I L Z := E_aload_n dX0_nearestBody_13 rfl k
theorem t17_X0_nearestBody_14 {E : En} {d : Nat} {κ : Kp} {I L : MI} {Z : Zt} {a0 a1 b0 : Nat} {a2 a3 : Int}  (k : Ev E d M_X0_nearestBody 15 [vr a0, vr a1, vi a2, vi a3] [vi a2, vr b0] κ I L Z) : Ev E d M_X0_nearestBody 14 [vr a0, vr a1, vi a2, vi a3] [vr b0] κ I L Z := E_iload_n dX0_nearestBody_14 rfl k
theorem t17_X0_nearestBody_15 {E : En} {d d' : Nat} {cs : Nat × Nat} {I L : MI} {Z : Zt} {a0 a1 b1 : Nat} {a2 a3 b0 : Int} {z : Int} {I' L' : MI} (hM : CFi E d' M_X10_at [vr b1, vi b0] I L z I' L') (hlt : d' + 1 ≤ d) (k : Ir z → Ev E d M_X0_nearestBody 18 [vr a0, vr a1, vi a2, vi a3] [vi z] (G0, cs) I' L' Z) (hc1 : cs.1 ≤ M_X0_nearestBody.2.2.2.2.1 := by decide) (hc2 : cs.2 ≤ M_X0_nearestBody.2.2.2.2.2 := by decide) : Ev E d M_X0_nearestBody 15 [vr a0, vr a1, vi a2, vi a3] [vi b0, vr b1] (G0, cs) I L Z := E_callSN (as := [vr b1, vi b0]) (rest := []) (n := 2) hM dX0_nearestBody_15 rfl (host := "SaidByTimes") (cl := RX0) (by decide +kernel) wS_X10_at hlt wC_X10_at wI_X10 (by decide +kernel) rfl (by decide) (Nat.le_of_ble_eq_true rfl) hc1 hc2 rfl (fun r g' I2 L2 h => by obtain ⟨rfl, z, rfl, hr, rfl, rfl, rfl⟩ := h; exact k hr)
theorem t17_X0_nearestBody_18 {E : En} {d : Nat} {κ : Kp} {I L : MI} {Z : Zt} {a0 a1 : Nat} {a2 a3 b0 : Int} (hx : Ir b0) (kt : ¬ b0 = 0 → Ev E d M_X0_nearestBody 32 [vr a0, vr a1, vi a2, vi a3] [] κ I L Z) (kf : b0 = 0 → Ev E d M_X0_nearestBody 21 [vr a0, vr a1, vi a2, vi a3] [] κ I L Z) : Ev E d M_X0_nearestBody 18 [vr a0, vr a1, vi a2, vi a3] [vi b0] κ I L Z := E_if_ne dX0_nearestBody_18 hx kt kf (by decide)
theorem t17_X0_nearestBody_21 {E : En} {d : Nat} {κ : Kp} {I L : MI} {Z : Zt} {a0 a1 : Nat} {a2 a3 : Int}  (k : Ev E d M_X0_nearestBody 22 [vr a0, vr a1, vi a2, vi a3] [vi a2] κ I L Z) : Ev E d M_X0_nearestBody 21 [vr a0, vr a1, vi a2, vi a3] [] κ I L Z := E_iload_n dX0_nearestBody_21 rfl k
theorem t17_X0_nearestBody_22 {E : En} {d d' : Nat} {cs : Nat × Nat} {I L : MI} {Z : Zt} {a0 a1 : Nat} {a2 a3 b0 : Int} {z : Int} {I' L' : MI} (hM : CFi E d' M_X10_wider [vi b0] I L z I' L') (hlt : d' + 1 ≤ d) (k : Ir z → Ev E d M_X0_nearestBody 25 [vr a0, vr a1, vi a2, vi a3] [vi z] (G0, cs) I' L' Z) (hc1 : cs.1 ≤ M_X0_nearestBody.2.2.2.2.1 := by decide) (hc2 : cs.2 ≤ M_X0_nearestBody.2.2.2.2.2 := by decide) : Ev E d M_X0_nearestBody 22 [vr a0, vr a1, vi a2, vi a3] [vi b0] (G0, cs) I L Z := E_callSN (as := [vi b0]) (rest := []) (n := 1) hM dX0_nearestBody_22 rfl (host := "SaidByTimes") (cl := RX0) (by decide +kernel) wS_X10_wider hlt wC_X10_wider wI_X10 (by decide +kernel) rfl (by decide) (Nat.le_of_ble_eq_true rfl) hc1 hc2 rfl (fun r g' I2 L2 h => by obtain ⟨rfl, z, rfl, hr, rfl, rfl, rfl⟩ := h; exact k hr)
theorem t17_X0_nearestBody_25 {E : En} {d : Nat} {κ : Kp} {I L : MI} {Z : Zt} {a0 a1 : Nat} {a2 a3 b0 : Int}  (k : Ev E d M_X0_nearestBody 26 [vr a0, vr a1, vi b0, vi a3] [] κ I L Z) : Ev E d M_X0_nearestBody 25 [vr a0, vr a1, vi a2, vi a3] [vi b0] κ I L Z := E_istore_n dX0_nearestBody_25 rfl (Nat.le_of_ble_eq_true rfl) k
theorem t17_X0_nearestBody_26 {E : En} {d : Nat} {κ : Kp} {I L : MI} {Z : Zt} {a0 a1 : Nat} {a2 a3 : Int}  (k : Ev E d M_X0_nearestBody 29 [vr a0, vr a1, vi a2, vi (a3 + 1)] [] κ I L Z) : Ev E d M_X0_nearestBody 26 [vr a0, vr a1, vi a2, vi a3] [] κ I L Z := E_iinc dX0_nearestBody_26 rfl rfl (Nat.le_of_ble_eq_true rfl) k
theorem t17_X0_nearestBody_29 {E : En} {d : Nat} {κ : Kp} {I L : MI} {Z : Zt} {a0 a1 : Nat} {a2 a3 : Int}  (k : Ev E d M_X0_nearestBody 7 [vr a0, vr a1, vi a2, vi a3] [] κ I L Z) : Ev E d M_X0_nearestBody 29 [vr a0, vr a1, vi a2, vi a3] [] κ I L Z := E_goto dX0_nearestBody_29 (by decide) k
theorem t17_X0_nearestBody_0 {E : En} {d : Nat} {κ : Kp} {I L : MI} {Z : Zt} {a0 a1 : Nat}  (k : Ev E d M_X0_nearestBody 1 [vr a0, vr a1, vu, vu] [vr a0] κ I L Z) : Ev E d M_X0_nearestBody 0 [vr a0, vr a1, vu, vu] [] κ I L Z := E_aload_n dX0_nearestBody_0 rfl k
theorem t17_X0_nearestBody_1 {E : En} {d : Nat} {κ : Kp} {I L : MI} {Z : Zt} {a0 a1 b0 : Nat} (hs : κ.1.1[b0]? = some (.inl 0)) (k : Ir (I b0 5) → Ev E d M_X0_nearestBody 4 [vr a0, vr a1, vu, vu] [vi (I b0 5)] κ I L Z) : Ev E d M_X0_nearestBody 1 [vr a0, vr a1, vu, vu] [vr b0] κ I L Z := E_getI (ci := 0) (n := 5) dX0_nearestBody_1 wF_RX0_36 (by decide) hs rfl k
theorem t17_X0_nearestBody_4 {E : En} {d : Nat} {κ : Kp} {I L : MI} {Z : Zt} {a0 a1 : Nat} {b0 : Int}  (k : Ev E d M_X0_nearestBody 5 [vr a0, vr a1, vi b0, vu] [] κ I L Z) : Ev E d M_X0_nearestBody 4 [vr a0, vr a1, vu, vu] [vi b0] κ I L Z := E_istore_n dX0_nearestBody_4 rfl (Nat.le_of_ble_eq_true rfl) k
theorem t17_X0_nearestBody_5 {E : En} {d : Nat} {κ : Kp} {I L : MI} {Z : Zt} {a0 a1 : Nat} {a2 : Int}  (k : Ev E d M_X0_nearestBody 6 [vr a0, vr a1, vi a2, vu] [vi 0] κ I L Z) : Ev E d M_X0_nearestBody 5 [vr a0, vr a1, vi a2, vu] [] κ I L Z := E_iconst (v := 0) dX0_nearestBody_5 rfl k
theorem t17_X0_nearestBody_6 {E : En} {d : Nat} {κ : Kp} {I L : MI} {Z : Zt} {a0 a1 : Nat} {a2 b0 : Int}  (k : Ev E d M_X0_nearestBody 7 [vr a0, vr a1, vi a2, vi b0] [] κ I L Z) : Ev E d M_X0_nearestBody 6 [vr a0, vr a1, vi a2, vu] [vi b0] κ I L Z := E_istore_n dX0_nearestBody_6 rfl (Nat.le_of_ble_eq_true rfl) k
theorem t17_X0_body_0 {E : En} {d : Nat} {κ : Kp} {I L : MI} {Z : Zt} {a0 : Nat} {a1 a2 : Int}  (k : Ev E d M_X0_body 1 [vr a0, vi a1, vi a2, vu] [vi a2] κ I L Z) : Ev E d M_X0_body 0 [vr a0, vi a1, vi a2, vu] [] κ I L Z := E_iload_n dX0_body_0 rfl k
theorem t17_X0_body_1 {E : En} {d : Nat} {κ : Kp} {I L : MI} {Z : Zt} {a0 : Nat} {a1 a2 b0 : Int}  (k : Ev E d M_X0_body 3 [vr a0, vi a1, vi a2, vu] [vi 20, vi b0] κ I L Z) : Ev E d M_X0_body 1 [vr a0, vi a1, vi a2, vu] [vi b0] κ I L Z := E_bipush (v := 20) dX0_body_1 rfl k
theorem t17_X0_body_3 {E : En} {d : Nat} {κ : Kp} {I L : MI} {Z : Zt} {a0 : Nat} {a1 a2 b0 b1 : Int} (hx : Ir b1) (hy : Ir b0) (kt : b1 ≤ b0 → Ev E d M_X0_body 8 [vr a0, vi a1, vi a2, vu] [] κ I L Z) (kf : b0 < b1 → Ev E d M_X0_body 6 [vr a0, vi a1, vi a2, vu] [] κ I L Z) : Ev E d M_X0_body 3 [vr a0, vi a1, vi a2, vu] [vi b0, vi b1] κ I L Z := E_icmp_le dX0_body_3 hx hy kt kf (by decide)
theorem t17_X0_body_8 {E : En} {d : Nat} {κ : Kp} {I L : MI} {Z : Zt} {a0 : Nat} {a1 a2 : Int}  (k : Ev E d M_X0_body 9 [vr a0, vi a1, vi a2, vu] [vr a0] κ I L Z) : Ev E d M_X0_body 8 [vr a0, vi a1, vi a2, vu] [] κ I L Z := E_aload_n dX0_body_8 rfl k
theorem t17_X0_body_9 {E : En} {d : Nat} {κ : Kp} {I L : MI} {Z : Zt} {a0 b0 : Nat} {a1 a2 : Int}  (k : Ev E d M_X0_body 10 [vr a0, vi a1, vi a2, vu] [vi a1, vr b0] κ I L Z) : Ev E d M_X0_body 9 [vr a0, vi a1, vi a2, vu] [vr b0] κ I L Z := E_iload_n dX0_body_9 rfl k
theorem t17_X0_body_10 {E : En} {d d' : Nat} {cs : Nat × Nat} {I L : MI} {Z : Zt} {a0 b1 : Nat} {a1 a2 b0 : Int} {I' L' : MI} (hs : G0.1[b1]? = some (.inl 0)) (hM : CFv E d' M_X0_leaveTrace [vr b1, vi b0] I L I' L') (hlt : d' + 1 ≤ d) (k : Ev E d M_X0_body 13 [vr a0, vi a1, vi a2, vu] [] (G0, cs) I' L' Z) (hc1 : cs.1 ≤ M_X0_body.2.2.2.2.1 := by decide) (hc2 : cs.2 ≤ M_X0_body.2.2.2.2.2 := by decide) : Ev E d M_X0_body 10 [vr a0, vi a1, vi a2, vu] [vi b0, vr b1] (G0, cs) I L Z := E_callV (as := [vi b0]) (rest := []) (n := 1) hM dX0_body_10 wM_RX0_64 wS_X0_leaveTrace wV_X0_leaveTrace hs (by decide) rfl hlt wC_X0_leaveTrace wI_X0 (by decide +kernel) rfl (by decide) (Nat.le_of_ble_eq_true rfl) hc1 hc2 rfl (fun r g' I2 L2 h => by obtain ⟨rfl, rfl, rfl, rfl⟩ := h; exact k)
theorem t17_X0_body_13 {E : En} {d : Nat} {κ : Kp} {I L : MI} {Z : Zt} {a0 : Nat} {a1 a2 : Int}  (k : Ev E d M_X0_body 14 [vr a0, vi a1, vi a2, vu] [vi a2] κ I L Z) : Ev E d M_X0_body 13 [vr a0, vi a1, vi a2, vu] [] κ I L Z := E_iload_n dX0_body_13 rfl k
theorem t17_X0_body_14 {E : En} {d : Nat} {κ : Kp} {I L : MI} {Z : Zt} {a0 : Nat} {a1 a2 b0 : Int}  (k : Ev E d M_X0_body 15 [vr a0, vi a1, vi a2, vu] [vi 1, vi b0] κ I L Z) : Ev E d M_X0_body 14 [vr a0, vi a1, vi a2, vu] [vi b0] κ I L Z := E_iconst (v := 1) dX0_body_14 rfl k
theorem t17_X0_body_15 {E : En} {d : Nat} {κ : Kp} {I L : MI} {Z : Zt} {a0 : Nat} {a1 a2 b0 b1 : Int}  (k : Ev E d M_X0_body 16 [vr a0, vi a1, vi a2, vu] [vi (b1 + b0)] κ I L Z) : Ev E d M_X0_body 15 [vr a0, vi a1, vi a2, vu] [vi b0, vi b1] κ I L Z := E_iadd dX0_body_15 k
theorem t17_X0_body_16 {E : En} {d : Nat} {κ : Kp} {I L : MI} {Z : Zt} {a0 : Nat} {a1 a2 b0 : Int}  (k : Ev E d M_X0_body 17 [vr a0, vi a1, vi a2, vi b0] [] κ I L Z) : Ev E d M_X0_body 16 [vr a0, vi a1, vi a2, vu] [vi b0] κ I L Z := E_istore_n dX0_body_16 rfl (Nat.le_of_ble_eq_true rfl) k
theorem t17_X0_body_17 {E : En} {d : Nat} {κ : Kp} {I L : MI} {Z : Zt} {a0 : Nat} {a1 a2 a3 : Int}  (k : Ev E d M_X0_body 18 [vr a0, vi a1, vi a2, vi a3] [vi a1] κ I L Z) : Ev E d M_X0_body 17 [vr a0, vi a1, vi a2, vi a3] [] κ I L Z := E_iload_n dX0_body_17 rfl k
theorem t17_X0_body_18 {E : En} {d : Nat} {κ : Kp} {I L : MI} {Z : Zt} {a0 : Nat} {a1 a2 a3 b0 : Int} (hb : b0 = 10) (k : Ev E d M_X0_body 92 [vr a0, vi a1, vi a2, vi a3] [] κ I L Z) : Ev E d M_X0_body 18 [vr a0, vi a1, vi a2, vi a3] [vi b0] κ I L Z := by subst hb; exact E_tswI dX0_body_18 (by decide) (by decide) (by decide) (off := 74) (by decide) (by decide) k
theorem t17_X0_body_6 {E : En} {d : Nat} {κ : Kp} {I L : MI} {Z : Zt} {a0 : Nat} {a1 a2 : Int}  (k : Ev E d M_X0_body 7 [vr a0, vi a1, vi a2, vu] [vl 0] κ I L Z) : Ev E d M_X0_body 6 [vr a0, vi a1, vi a2, vu] [] κ I L Z := E_lconst (v := 0) dX0_body_6 rfl k
theorem t17_X0_body_7 {E : En} {d : Nat} {g : Geo} {I L : MI} {Q : Option AV → Geo → MI → MI → Prop} {cs : Nat × Nat} {a0 : Nat} {a1 a2 b0 : Int} (hq : Q (some (vl b0)) g I L) (h1 : cs.1 ≤ M_X0_body.2.2.2.2.1 := by decide) (h2 : cs.2 ≤ M_X0_body.2.2.2.2.2 := by decide) : Ev E d M_X0_body 7 [vr a0, vi a1, vi a2, vu] [vl b0] (g, cs) I L (ZQ E M_X0_body Q) := E_lreturn rfl dX0_body_7 hq h1 h2
theorem t17_X0_body_92 {E : En} {d : Nat} {κ : Kp} {I L : MI} {Z : Zt} {a0 : Nat} {a1 a2 a3 : Int}  (k : Ev E d M_X0_body 93 [vr a0, vi a1, vi a2, vi a3] [vr a0] κ I L Z) : Ev E d M_X0_body 92 [vr a0, vi a1, vi a2, vi a3] [] κ I L Z := E_aload_n dX0_body_92 rfl k
theorem t17_X0_body_93 {E : En} {d : Nat} {κ : Kp} {I L : MI} {Z : Zt} {a0 b0 : Nat} {a1 a2 a3 : Int} (hs : κ.1.1[b0]? = some (.inl 0)) (k : Ir (I b0 4) → Ev E d M_X0_body 96 [vr a0, vi a1, vi a2, vi a3] [vi (I b0 4)] κ I L Z) : Ev E d M_X0_body 93 [vr a0, vi a1, vi a2, vi a3] [vr b0] κ I L Z := E_getI (ci := 0) (n := 4) dX0_body_93 wF_RX0_31 (by decide) hs rfl k
theorem t17_X0_body_96 {E : En} {d : Nat} {κ : Kp} {I L : MI} {Z : Zt} {a0 : Nat} {a1 a2 a3 b0 : Int} (hx : Ir b0) (k : Ev E d M_X0_body 97 [vr a0, vi a1, vi a2, vi a3] [vl b0] κ I L Z) : Ev E d M_X0_body 96 [vr a0, vi a1, vi a2, vi a3] [vi b0] κ I L Z := E_i2l dX0_body_96 hx k
theorem t17_X0_body_97 {E : En} {d : Nat} {g : Geo} {I L : MI} {Q : Option AV → Geo → MI → MI → Prop} {cs : Nat × Nat} {a0 : Nat} {a1 a2 a3 b0 : Int} (hq : Q (some (vl b0)) g I L) (h1 : cs.1 ≤ M_X0_body.2.2.2.2.1 := by decide) (h2 : cs.2 ≤ M_X0_body.2.2.2.2.2 := by decide) : Ev E d M_X0_body 97 [vr a0, vi a1, vi a2, vi a3] [vl b0] (g, cs) I L (ZQ E M_X0_body Q) := E_lreturn rfl dX0_body_97 hq h1 h2
theorem t17_X0_body_18v1 {E : En} {d : Nat} {κ : Kp} {I L : MI} {Z : Zt} {a0 : Nat} {a1 a2 a3 b0 : Int} (hb : b0 = 20) (k : Ev E d M_X0_body 143 [vr a0, vi a1, vi a2, vi a3] [] κ I L Z) : Ev E d M_X0_body 18 [vr a0, vi a1, vi a2, vi a3] [vi b0] κ I L Z := by subst hb; exact E_tswI dX0_body_18 (by decide) (by decide) (by decide) (off := 125) (by decide) (by decide) k
theorem t17_X0_body_143 {E : En} {d : Nat} {κ : Kp} {I L : MI} {Z : Zt} {a0 : Nat} {a1 a2 a3 : Int}  (k : Ev E d M_X0_body 144 [vr a0, vi a1, vi a2, vi a3] [vr a0] κ I L Z) : Ev E d M_X0_body 143 [vr a0, vi a1, vi a2, vi a3] [] κ I L Z := E_aload_n dX0_body_143 rfl k
theorem t17_X0_body_144 {E : En} {d : Nat} {κ : Kp} {I L : MI} {Z : Zt} {a0 b0 : Nat} {a1 a2 a3 : Int} (hs : κ.1.1[b0]? = some (.inl 0)) (k : Ir (I b0 2) → Ev E d M_X0_body 147 [vr a0, vi a1, vi a2, vi a3] [vi (I b0 2)] κ I L Z) : Ev E d M_X0_body 144 [vr a0, vi a1, vi a2, vi a3] [vr b0] κ I L Z := E_getI (ci := 0) (n := 2) dX0_body_144 wF_RX0_19 (by decide) hs rfl k
theorem t17_X0_body_147 {E : En} {d : Nat} {κ : Kp} {I L : MI} {Z : Zt} {a0 : Nat} {a1 a2 a3 b0 : Int} (hx : Ir b0) (k : Ev E d M_X0_body 148 [vr a0, vi a1, vi a2, vi a3] [vl b0] κ I L Z) : Ev E d M_X0_body 147 [vr a0, vi a1, vi a2, vi a3] [vi b0] κ I L Z := E_i2l dX0_body_147 hx k
theorem t17_X0_body_148 {E : En} {d : Nat} {g : Geo} {I L : MI} {Q : Option AV → Geo → MI → MI → Prop} {cs : Nat × Nat} {a0 : Nat} {a1 a2 a3 b0 : Int} (hq : Q (some (vl b0)) g I L) (h1 : cs.1 ≤ M_X0_body.2.2.2.2.1 := by decide) (h2 : cs.2 ≤ M_X0_body.2.2.2.2.2 := by decide) : Ev E d M_X0_body 148 [vr a0, vi a1, vi a2, vi a3] [vl b0] (g, cs) I L (ZQ E M_X0_body Q) := E_lreturn rfl dX0_body_148 hq h1 h2
theorem t17_X0_body_18v2 {E : En} {d : Nat} {κ : Kp} {I L : MI} {Z : Zt} {a0 : Nat} {a1 a2 a3 b0 : Int} (hb : b0 = 21) (k : Ev E d M_X0_body 149 [vr a0, vi a1, vi a2, vi a3] [] κ I L Z) : Ev E d M_X0_body 18 [vr a0, vi a1, vi a2, vi a3] [vi b0] κ I L Z := by subst hb; exact E_tswI dX0_body_18 (by decide) (by decide) (by decide) (off := 131) (by decide) (by decide) k
theorem t17_X0_body_149 {E : En} {d : Nat} {κ : Kp} {I L : MI} {Z : Zt} {a0 : Nat} {a1 a2 a3 : Int}  (k : Ev E d M_X0_body 150 [vr a0, vi a1, vi a2, vi a3] [vr a0] κ I L Z) : Ev E d M_X0_body 149 [vr a0, vi a1, vi a2, vi a3] [] κ I L Z := E_aload_n dX0_body_149 rfl k
theorem t17_X0_body_150 {E : En} {d : Nat} {κ : Kp} {I L : MI} {Z : Zt} {a0 b0 : Nat} {a1 a2 a3 : Int}  (k : Ev E d M_X0_body 152 [vr a0, vi a1, vi a2, vi a3] [vi 20, vr b0] κ I L Z) : Ev E d M_X0_body 150 [vr a0, vi a1, vi a2, vi a3] [vr b0] κ I L Z := E_bipush (v := 20) dX0_body_150 rfl k
theorem t17_X0_body_152 {E : En} {d : Nat} {κ : Kp} {I L : MI} {Z : Zt} {a0 b1 : Nat} {a1 a2 a3 b0 : Int}  (k : Ev E d M_X0_body 153 [vr a0, vi a1, vi a2, vi a3] [vi a3, vi b0, vr b1] κ I L Z) : Ev E d M_X0_body 152 [vr a0, vi a1, vi a2, vi a3] [vi b0, vr b1] κ I L Z := E_iload_n dX0_body_152 rfl k
theorem t17_X0_body_153 {E : En} {d d' : Nat} {cs : Nat × Nat} {I L : MI} {Z : Zt} {a0 b2 : Nat} {a1 a2 a3 b0 b1 : Int} {z : Int} {I' L' : MI} (hs : G0.1[b2]? = some (.inl 0)) (hM : CFl E d' M_X0_body [vr b2, vi b1, vi b0] I L z I' L') (hlt : d' + 1 ≤ d) (k : Jr z → Ev E d M_X0_body 156 [vr a0, vi a1, vi a2, vi a3] [vl z] (G0, cs) I' L' Z) (hc1 : cs.1 ≤ M_X0_body.2.2.2.2.1 := by decide) (hc2 : cs.2 ≤ M_X0_body.2.2.2.2.2 := by decide) : Ev E d M_X0_body 153 [vr a0, vi a1, vi a2, vi a3] [vi b0, vi b1, vr b2] (G0, cs) I L Z := E_callV (as := [vi b1, vi b0]) (rest := []) (n := 2) hM dX0_body_153 wM_RX0_53 wS_X0_body wV_X0_body hs (by decide) rfl hlt wC_X0_body wI_X0 (by decide +kernel) rfl (by decide) (Nat.le_of_ble_eq_true rfl) hc1 hc2 rfl (fun r g' I2 L2 h => by obtain ⟨rfl, z, rfl, hr, rfl, rfl, rfl⟩ := h; exact k hr)
theorem t17_X0_body_156 {E : En} {d : Nat} {κ : Kp} {I L : MI} {Z : Zt} {a0 : Nat} {a1 a2 a3 b0 : Int}  (k : Ev E d M_X0_body 159 [vr a0, vi a1, vi a2, vi a3] [vl 10, vl b0] κ I L Z) : Ev E d M_X0_body 156 [vr a0, vi a1, vi a2, vi a3] [vl b0] κ I L Z := E_ldc2 (v := 10) dX0_body_156 wK_RX0_70 k
theorem t17_X0_body_159 {E : En} {d : Nat} {κ : Kp} {I L : MI} {Z : Zt} {a0 : Nat} {a1 a2 a3 b0 b1 : Int}  (k : Ev E d M_X0_body 160 [vr a0, vi a1, vi a2, vi a3] [vr a0, vl b0, vl b1] κ I L Z) : Ev E d M_X0_body 159 [vr a0, vi a1, vi a2, vi a3] [vl b0, vl b1] κ I L Z := E_aload_n dX0_body_159 rfl k
theorem t17_X0_body_160 {E : En} {d : Nat} {κ : Kp} {I L : MI} {Z : Zt} {a0 b0 : Nat} {a1 a2 a3 b1 b2 : Int} (hs : κ.1.1[b0]? = some (.inl 0)) (k : Jr (L b0 3) → Ev E d M_X0_body 163 [vr a0, vi a1, vi a2, vi a3] [vl (L b0 3), vl b1, vl b2] κ I L Z) : Ev E d M_X0_body 160 [vr a0, vi a1, vi a2, vi a3] [vr b0, vl b1, vl b2] κ I L Z := E_getL (ci := 0) (n := 3) dX0_body_160 wF_RX0_22 (by decide) hs rfl k
theorem t17_X0_body_163 {E : En} {d : Nat} {κ : Kp} {I L : MI} {Z : Zt} {a0 : Nat} {a1 a2 a3 b0 b1 b2 : Int}  (k : Ev E d M_X0_body 166 [vr a0, vi a1, vi a2, vi a3] [vl 7, vl b0, vl b1, vl b2] κ I L Z) : Ev E d M_X0_body 163 [vr a0, vi a1, vi a2, vi a3] [vl b0, vl b1, vl b2] κ I L Z := E_ldc2 (v := 7) dX0_body_163 wK_RX0_72 k
theorem t17_X0_body_166 {E : En} {d : Nat} {κ : Kp} {I L : MI} {Z : Zt} {a0 : Nat} {a1 a2 a3 b0 b1 b2 b3 : Int} (hx : Jr b1) (hy : Jr b0) (h0 : b0 ≠ 0) (hm : b0 ≠ -1) (k : Ev E d M_X0_body 167 [vr a0, vi a1, vi a2, vi a3] [vl (b1.tmod b0), vl b2, vl b3] κ I L Z) : Ev E d M_X0_body 166 [vr a0, vi a1, vi a2, vi a3] [vl b0, vl b1, vl b2, vl b3] κ I L Z := E_lrem dX0_body_166 hx hy h0 hm k
theorem t17_X0_body_167 {E : En} {d : Nat} {κ : Kp} {I L : MI} {Z : Zt} {a0 : Nat} {a1 a2 a3 b0 b1 b2 : Int}  (k : Ev E d M_X0_body 168 [vr a0, vi a1, vi a2, vi a3] [vl (b1 * b0), vl b2] κ I L Z) : Ev E d M_X0_body 167 [vr a0, vi a1, vi a2, vi a3] [vl b0, vl b1, vl b2] κ I L Z := E_lmul dX0_body_167 k
theorem t17_X0_body_168 {E : En} {d : Nat} {κ : Kp} {I L : MI} {Z : Zt} {a0 : Nat} {a1 a2 a3 b0 b1 : Int}  (k : Ev E d M_X0_body 169 [vr a0, vi a1, vi a2, vi a3] [vl (b1 + b0)] κ I L Z) : Ev E d M_X0_body 168 [vr a0, vi a1, vi a2, vi a3] [vl b0, vl b1] κ I L Z := E_ladd dX0_body_168 k
theorem t17_X0_body_169 {E : En} {d : Nat} {g : Geo} {I L : MI} {Q : Option AV → Geo → MI → MI → Prop} {cs : Nat × Nat} {a0 : Nat} {a1 a2 a3 b0 : Int} (hq : Q (some (vl b0)) g I L) (h1 : cs.1 ≤ M_X0_body.2.2.2.2.1 := by decide) (h2 : cs.2 ≤ M_X0_body.2.2.2.2.2 := by decide) : Ev E d M_X0_body 169 [vr a0, vi a1, vi a2, vi a3] [vl b0] (g, cs) I L (ZQ E M_X0_body Q) := E_lreturn rfl dX0_body_169 hq h1 h2
theorem t17_X0_body_18v3 {E : En} {d : Nat} {κ : Kp} {I L : MI} {Z : Zt} {a0 : Nat} {a1 a2 a3 b0 : Int} (hb : b0 = 23) (k : Ev E d M_X0_body 185 [vr a0, vi a1, vi a2, vi a3] [] κ I L Z) : Ev E d M_X0_body 18 [vr a0, vi a1, vi a2, vi a3] [vi b0] κ I L Z := by subst hb; exact E_tswI dX0_body_18 (by decide) (by decide) (by decide) (off := 167) (by decide) (by decide) k
theorem t17_X0_body_185 {E : En} {d : Nat} {κ : Kp} {I L : MI} {Z : Zt} {a0 : Nat} {a1 a2 a3 : Int}  (k : Ev E d M_X0_body 186 [vr a0, vi a1, vi a2, vi a3] [vr a0] κ I L Z) : Ev E d M_X0_body 185 [vr a0, vi a1, vi a2, vi a3] [] κ I L Z := E_aload_n dX0_body_185 rfl k
theorem t17_X0_body_186 {E : En} {d : Nat} {κ : Kp} {I L : MI} {Z : Zt} {a0 b0 : Nat} {a1 a2 a3 : Int}  (k : Ev E d M_X0_body 188 [vr a0, vi a1, vi a2, vi a3] [vi 21, vr b0] κ I L Z) : Ev E d M_X0_body 186 [vr a0, vi a1, vi a2, vi a3] [vr b0] κ I L Z := E_bipush (v := 21) dX0_body_186 rfl k
theorem t17_X0_body_188 {E : En} {d : Nat} {κ : Kp} {I L : MI} {Z : Zt} {a0 b1 : Nat} {a1 a2 a3 b0 : Int}  (k : Ev E d M_X0_body 189 [vr a0, vi a1, vi a2, vi a3] [vi a3, vi b0, vr b1] κ I L Z) : Ev E d M_X0_body 188 [vr a0, vi a1, vi a2, vi a3] [vi b0, vr b1] κ I L Z := E_iload_n dX0_body_188 rfl k
theorem t17_X0_body_189 {E : En} {d d' : Nat} {cs : Nat × Nat} {I L : MI} {Z : Zt} {a0 b2 : Nat} {a1 a2 a3 b0 b1 : Int} {z : Int} {I' L' : MI} (hs : G0.1[b2]? = some (.inl 0)) (hM : CFl E d' M_X0_body [vr b2, vi b1, vi b0] I L z I' L') (hlt : d' + 1 ≤ d) (k : Jr z → Ev E d M_X0_body 192 [vr a0, vi a1, vi a2, vi a3] [vl z] (G0, cs) I' L' Z) (hc1 : cs.1 ≤ M_X0_body.2.2.2.2.1 := by decide) (hc2 : cs.2 ≤ M_X0_body.2.2.2.2.2 := by decide) : Ev E d M_X0_body 189 [vr a0, vi a1, vi a2, vi a3] [vi b0, vi b1, vr b2] (G0, cs) I L Z := E_callV (as := [vi b1, vi b0]) (rest := []) (n := 2) hM dX0_body_189 wM_RX0_53 wS_X0_body wV_X0_body hs (by decide) rfl hlt wC_X0_body wI_X0 (by decide +kernel) rfl (by decide) (Nat.le_of_ble_eq_true rfl) hc1 hc2 rfl (fun r g' I2 L2 h => by obtain ⟨rfl, z, rfl, hr, rfl, rfl, rfl⟩ := h; exact k hr)
theorem t17_X0_body_192 {E : En} {d : Nat} {κ : Kp} {I L : MI} {Z : Zt} {a0 : Nat} {a1 a2 a3 b0 : Int}  (k : Ev E d M_X0_body 195 [vr a0, vi a1, vi a2, vi a3] [vl 1000, vl b0] κ I L Z) : Ev E d M_X0_body 192 [vr a0, vi a1, vi a2, vi a3] [vl b0] κ I L Z := E_ldc2 (v := 1000) dX0_body_192 wK_RX0_74 k
theorem t17_X0_body_195 {E : En} {d : Nat} {κ : Kp} {I L : MI} {Z : Zt} {a0 : Nat} {a1 a2 a3 b0 b1 : Int}  (k : Ev E d M_X0_body 196 [vr a0, vi a1, vi a2, vi a3] [vl (b1 + b0)] κ I L Z) : Ev E d M_X0_body 195 [vr a0, vi a1, vi a2, vi a3] [vl b0, vl b1] κ I L Z := E_ladd dX0_body_195 k
theorem t17_X0_body_196 {E : En} {d : Nat} {g : Geo} {I L : MI} {Q : Option AV → Geo → MI → MI → Prop} {cs : Nat × Nat} {a0 : Nat} {a1 a2 a3 b0 : Int} (hq : Q (some (vl b0)) g I L) (h1 : cs.1 ≤ M_X0_body.2.2.2.2.1 := by decide) (h2 : cs.2 ≤ M_X0_body.2.2.2.2.2 := by decide) : Ev E d M_X0_body 196 [vr a0, vi a1, vi a2, vi a3] [vl b0] (g, cs) I L (ZQ E M_X0_body Q) := E_lreturn rfl dX0_body_196 hq h1 h2
theorem t17_X0_body_18v4 {E : En} {d : Nat} {κ : Kp} {I L : MI} {Z : Zt} {a0 : Nat} {a1 a2 a3 b0 : Int} (hb : b0 = 24) (k : Ev E d M_X0_body 197 [vr a0, vi a1, vi a2, vi a3] [] κ I L Z) : Ev E d M_X0_body 18 [vr a0, vi a1, vi a2, vi a3] [vi b0] κ I L Z := by subst hb; exact E_tswI dX0_body_18 (by decide) (by decide) (by decide) (off := 179) (by decide) (by decide) k
theorem t17_X0_body_197 {E : En} {d : Nat} {κ : Kp} {I L : MI} {Z : Zt} {a0 : Nat} {a1 a2 a3 : Int}  (k : Ev E d M_X0_body 198 [vr a0, vi a1, vi a2, vi a3] [vr a0] κ I L Z) : Ev E d M_X0_body 197 [vr a0, vi a1, vi a2, vi a3] [] κ I L Z := E_aload_n dX0_body_197 rfl k
theorem t17_X0_body_198 {E : En} {d : Nat} {κ : Kp} {I L : MI} {Z : Zt} {a0 b0 : Nat} {a1 a2 a3 : Int}  (k : Ev E d M_X0_body 200 [vr a0, vi a1, vi a2, vi a3] [vi 20, vr b0] κ I L Z) : Ev E d M_X0_body 198 [vr a0, vi a1, vi a2, vi a3] [vr b0] κ I L Z := E_bipush (v := 20) dX0_body_198 rfl k
theorem t17_X0_body_200 {E : En} {d : Nat} {κ : Kp} {I L : MI} {Z : Zt} {a0 b1 : Nat} {a1 a2 a3 b0 : Int}  (k : Ev E d M_X0_body 201 [vr a0, vi a1, vi a2, vi a3] [vi a3, vi b0, vr b1] κ I L Z) : Ev E d M_X0_body 200 [vr a0, vi a1, vi a2, vi a3] [vi b0, vr b1] κ I L Z := E_iload_n dX0_body_200 rfl k
theorem t17_X0_body_201 {E : En} {d d' : Nat} {cs : Nat × Nat} {I L : MI} {Z : Zt} {a0 b2 : Nat} {a1 a2 a3 b0 b1 : Int} {z : Int} {I' L' : MI} (hs : G0.1[b2]? = some (.inl 0)) (hM : CFl E d' M_X0_body [vr b2, vi b1, vi b0] I L z I' L') (hlt : d' + 1 ≤ d) (k : Jr z → Ev E d M_X0_body 204 [vr a0, vi a1, vi a2, vi a3] [vl z] (G0, cs) I' L' Z) (hc1 : cs.1 ≤ M_X0_body.2.2.2.2.1 := by decide) (hc2 : cs.2 ≤ M_X0_body.2.2.2.2.2 := by decide) : Ev E d M_X0_body 201 [vr a0, vi a1, vi a2, vi a3] [vi b0, vi b1, vr b2] (G0, cs) I L Z := E_callV (as := [vi b1, vi b0]) (rest := []) (n := 2) hM dX0_body_201 wM_RX0_53 wS_X0_body wV_X0_body hs (by decide) rfl hlt wC_X0_body wI_X0 (by decide +kernel) rfl (by decide) (Nat.le_of_ble_eq_true rfl) hc1 hc2 rfl (fun r g' I2 L2 h => by obtain ⟨rfl, z, rfl, hr, rfl, rfl, rfl⟩ := h; exact k hr)
theorem t17_X0_body_204 {E : En} {d : Nat} {κ : Kp} {I L : MI} {Z : Zt} {a0 : Nat} {a1 a2 a3 b0 : Int}  (k : Ev E d M_X0_body 207 [vr a0, vi a1, vi a2, vi a3] [vl 100, vl b0] κ I L Z) : Ev E d M_X0_body 204 [vr a0, vi a1, vi a2, vi a3] [vl b0] κ I L Z := E_ldc2 (v := 100) dX0_body_204 wK_RX0_76 k
theorem t17_X0_body_207 {E : En} {d : Nat} {κ : Kp} {I L : MI} {Z : Zt} {a0 : Nat} {a1 a2 a3 b0 b1 : Int}  (k : Ev E d M_X0_body 208 [vr a0, vi a1, vi a2, vi a3] [vl (b1 - b0)] κ I L Z) : Ev E d M_X0_body 207 [vr a0, vi a1, vi a2, vi a3] [vl b0, vl b1] κ I L Z := E_lsub dX0_body_207 k
theorem t17_X0_body_208 {E : En} {d : Nat} {g : Geo} {I L : MI} {Q : Option AV → Geo → MI → MI → Prop} {cs : Nat × Nat} {a0 : Nat} {a1 a2 a3 b0 : Int} (hq : Q (some (vl b0)) g I L) (h1 : cs.1 ≤ M_X0_body.2.2.2.2.1 := by decide) (h2 : cs.2 ≤ M_X0_body.2.2.2.2.2 := by decide) : Ev E d M_X0_body 208 [vr a0, vi a1, vi a2, vi a3] [vl b0] (g, cs) I L (ZQ E M_X0_body Q) := E_lreturn rfl dX0_body_208 hq h1 h2
theorem t17_X0_body_18v5 {E : En} {d : Nat} {κ : Kp} {I L : MI} {Z : Zt} {a0 : Nat} {a1 a2 a3 b0 : Int} (hb : b0 = 13) (k : Ev E d M_X0_body 125 [vr a0, vi a1, vi a2, vi a3] [] κ I L Z) : Ev E d M_X0_body 18 [vr a0, vi a1, vi a2, vi a3] [vi b0] κ I L Z := by subst hb; exact E_tswI dX0_body_18 (by decide) (by decide) (by decide) (off := 107) (by decide) (by decide) k
theorem t17_X0_body_125 {E : En} {d : Nat} {κ : Kp} {I L : MI} {Z : Zt} {a0 : Nat} {a1 a2 a3 : Int}  (k : Ev E d M_X0_body 126 [vr a0, vi a1, vi a2, vi a3] [vr a0] κ I L Z) : Ev E d M_X0_body 125 [vr a0, vi a1, vi a2, vi a3] [] κ I L Z := E_aload_n dX0_body_125 rfl k
theorem t17_X0_body_126 {E : En} {d : Nat} {κ : Kp} {I L : MI} {Z : Zt} {a0 b0 : Nat} {a1 a2 a3 : Int}  (k : Ev E d M_X0_body 128 [vr a0, vi a1, vi a2, vi a3] [vi 10, vr b0] κ I L Z) : Ev E d M_X0_body 126 [vr a0, vi a1, vi a2, vi a3] [vr b0] κ I L Z := E_bipush (v := 10) dX0_body_126 rfl k
theorem t17_X0_body_128 {E : En} {d : Nat} {κ : Kp} {I L : MI} {Z : Zt} {a0 b1 : Nat} {a1 a2 a3 b0 : Int}  (k : Ev E d M_X0_body 129 [vr a0, vi a1, vi a2, vi a3] [vi a3, vi b0, vr b1] κ I L Z) : Ev E d M_X0_body 128 [vr a0, vi a1, vi a2, vi a3] [vi b0, vr b1] κ I L Z := E_iload_n dX0_body_128 rfl k
theorem t17_X0_body_129 {E : En} {d d' : Nat} {cs : Nat × Nat} {I L : MI} {Z : Zt} {a0 b2 : Nat} {a1 a2 a3 b0 b1 : Int} {z : Int} {I' L' : MI} (hs : G0.1[b2]? = some (.inl 0)) (hM : CFl E d' M_X0_body [vr b2, vi b1, vi b0] I L z I' L') (hlt : d' + 1 ≤ d) (k : Jr z → Ev E d M_X0_body 132 [vr a0, vi a1, vi a2, vi a3] [vl z] (G0, cs) I' L' Z) (hc1 : cs.1 ≤ M_X0_body.2.2.2.2.1 := by decide) (hc2 : cs.2 ≤ M_X0_body.2.2.2.2.2 := by decide) : Ev E d M_X0_body 129 [vr a0, vi a1, vi a2, vi a3] [vi b0, vi b1, vr b2] (G0, cs) I L Z := E_callV (as := [vi b1, vi b0]) (rest := []) (n := 2) hM dX0_body_129 wM_RX0_53 wS_X0_body wV_X0_body hs (by decide) rfl hlt wC_X0_body wI_X0 (by decide +kernel) rfl (by decide) (Nat.le_of_ble_eq_true rfl) hc1 hc2 rfl (fun r g' I2 L2 h => by obtain ⟨rfl, z, rfl, hr, rfl, rfl, rfl⟩ := h; exact k hr)
theorem t17_X0_body_132 {E : En} {d : Nat} {κ : Kp} {I L : MI} {Z : Zt} {a0 : Nat} {a1 a2 a3 b0 : Int}  (k : Ev E d M_X0_body 133 [vr a0, vi a1, vi a2, vi a3] [vl (-b0)] κ I L Z) : Ev E d M_X0_body 132 [vr a0, vi a1, vi a2, vi a3] [vl b0] κ I L Z := E_lneg dX0_body_132 k
theorem t17_X0_body_133 {E : En} {d : Nat} {g : Geo} {I L : MI} {Q : Option AV → Geo → MI → MI → Prop} {cs : Nat × Nat} {a0 : Nat} {a1 a2 a3 b0 : Int} (hq : Q (some (vl b0)) g I L) (h1 : cs.1 ≤ M_X0_body.2.2.2.2.1 := by decide) (h2 : cs.2 ≤ M_X0_body.2.2.2.2.2 := by decide) : Ev E d M_X0_body 133 [vr a0, vi a1, vi a2, vi a3] [vl b0] (g, cs) I L (ZQ E M_X0_body Q) := E_lreturn rfl dX0_body_133 hq h1 h2
theorem t17_X0_asked_0 {E : En} {d : Nat} {κ : Kp} {I L : MI} {Z : Zt} {a0 : Nat} {a1 a2 : Int}  (k : Ev E d M_X0_asked 1 [vr a0, vi a1, vi a2] [vr a0] κ I L Z) : Ev E d M_X0_asked 0 [vr a0, vi a1, vi a2] [] κ I L Z := E_aload_n dX0_asked_0 rfl k
theorem t17_X0_asked_1 {E : En} {d : Nat} {κ : Kp} {I L : MI} {Z : Zt} {a0 b0 : Nat} {a1 a2 : Int}  (k : Ev E d M_X0_asked 2 [vr a0, vi a1, vi a2] [vr a0, vr b0] κ I L Z) : Ev E d M_X0_asked 1 [vr a0, vi a1, vi a2] [vr b0] κ I L Z := E_aload_n dX0_asked_1 rfl k
theorem t17_X0_asked_2 {E : En} {d : Nat} {κ : Kp} {I L : MI} {Z : Zt} {a0 b0 b1 : Nat} {a1 a2 : Int}  (k : Ev E d M_X0_asked 3 [vr a0, vi a1, vi a2] [vi a1, vr b0, vr b1] κ I L Z) : Ev E d M_X0_asked 2 [vr a0, vi a1, vi a2] [vr b0, vr b1] κ I L Z := E_iload_n dX0_asked_2 rfl k
theorem t17_X0_asked_3 {E : En} {d : Nat} {κ : Kp} {I L : MI} {Z : Zt} {a0 b1 b2 : Nat} {a1 a2 b0 : Int} (hx : Ir b0) (kt : ¬ b0 = 0 → Ev E d M_X0_asked 12 [vr a0, vi a1, vi a2] [vr b1, vr b2] κ I L Z) (kf : b0 = 0 → Ev E d M_X0_asked 6 [vr a0, vi a1, vi a2] [vr b1, vr b2] κ I L Z) : Ev E d M_X0_asked 3 [vr a0, vi a1, vi a2] [vi b0, vr b1, vr b2] κ I L Z := E_if_ne dX0_asked_3 hx kt kf (by decide)
theorem t17_X0_asked_12 {E : En} {d : Nat} {κ : Kp} {I L : MI} {Z : Zt} {a0 b0 b1 : Nat} {a1 a2 : Int}  (k : Ev E d M_X0_asked 15 [vr a0, vi a1, vi a2] [vr 1003, vr b0, vr b1] κ I L Z) : Ev E d M_X0_asked 12 [vr a0, vi a1, vi a2] [vr b0, vr b1] κ I L Z := E_getsN (host := "SaidByTimes") (cl := RX0) dX0_asked_12 rfl (by decide +kernel) (v := vr 1003) (List.mem_of_getElem? (i := 2) rfl) k
theorem t17_X0_asked_15 {E : En} {d d' : Nat} {cs : Nat × Nat} {I L : MI} {Z : Zt} {a0 b0 b1 b2 : Nat} {a1 a2 : Int} {z : Int} {I' L' : MI} (hs : G0.1[b1]? = some (.inl 0)) (hM : CFi E d' M_X0_nearestBody [vr b1, vr b0] I L z I' L') (hlt : d' + 1 ≤ d) (k : Ir z → Ev E d M_X0_asked 18 [vr a0, vi a1, vi a2] [vi z, vr b2] (G0, cs) I' L' Z) (hc1 : cs.1 ≤ M_X0_asked.2.2.2.2.1 := by decide) (hc2 : cs.2 ≤ M_X0_asked.2.2.2.2.2 := by decide) : Ev E d M_X0_asked 15 [vr a0, vi a1, vi a2] [vr b0, vr b1, vr b2] (G0, cs) I L Z := E_callV (as := [vr b0]) (rest := [vr b2]) (n := 1) hM dX0_asked_15 wM_RX0_49 wS_X0_nearestBody wV_X0_nearestBody hs (by decide) rfl hlt wC_X0_nearestBody wI_X0 (by decide +kernel) rfl (by decide) (Nat.le_of_ble_eq_true rfl) hc1 hc2 rfl (fun r g' I2 L2 h => by obtain ⟨rfl, z, rfl, hr, rfl, rfl, rfl⟩ := h; exact k hr)
theorem t17_X0_asked_6 {E : En} {d : Nat} {κ : Kp} {I L : MI} {Z : Zt} {a0 b0 b1 : Nat} {a1 a2 : Int}  (k : Ev E d M_X0_asked 9 [vr a0, vi a1, vi a2] [vr 1002, vr b0, vr b1] κ I L Z) : Ev E d M_X0_asked 6 [vr a0, vi a1, vi a2] [vr b0, vr b1] κ I L Z := E_getsN (host := "SaidByTimes") (cl := RX0) dX0_asked_6 rfl (by decide +kernel) (v := vr 1002) (List.mem_of_getElem? (i := 1) rfl) k
theorem t17_X0_asked_9 {E : En} {d : Nat} {κ : Kp} {I L : MI} {Z : Zt} {a0 b0 b1 b2 : Nat} {a1 a2 : Int}  (k : Ev E d M_X0_asked 15 [vr a0, vi a1, vi a2] [vr b0, vr b1, vr b2] κ I L Z) : Ev E d M_X0_asked 9 [vr a0, vi a1, vi a2] [vr b0, vr b1, vr b2] κ I L Z := E_goto dX0_asked_9 (by decide) k
theorem t17_X0_asked_18 {E : En} {d : Nat} {κ : Kp} {I L : MI} {Z : Zt} {a0 b1 : Nat} {a1 a2 b0 : Int}  (k : Ev E d M_X0_asked 19 [vr a0, vi a1, vi a2] [vi a2, vi b0, vr b1] κ I L Z) : Ev E d M_X0_asked 18 [vr a0, vi a1, vi a2] [vi b0, vr b1] κ I L Z := E_iload_n dX0_asked_18 rfl k
theorem t17_X0_asked_19 {E : En} {d d' : Nat} {cs : Nat × Nat} {I L : MI} {Z : Zt} {a0 b2 : Nat} {a1 a2 b0 b1 : Int} {z : Int} {I' L' : MI} (hs : G0.1[b2]? = some (.inl 0)) (hM : CFl E d' M_X0_body [vr b2, vi b1, vi b0] I L z I' L') (hlt : d' + 1 ≤ d) (k : Jr z → Ev E d M_X0_asked 22 [vr a0, vi a1, vi a2] [vl z] (G0, cs) I' L' Z) (hc1 : cs.1 ≤ M_X0_asked.2.2.2.2.1 := by decide) (hc2 : cs.2 ≤ M_X0_asked.2.2.2.2.2 := by decide) : Ev E d M_X0_asked 19 [vr a0, vi a1, vi a2] [vi b0, vi b1, vr b2] (G0, cs) I L Z := E_callV (as := [vi b1, vi b0]) (rest := []) (n := 2) hM dX0_asked_19 wM_RX0_53 wS_X0_body wV_X0_body hs (by decide) rfl hlt wC_X0_body wI_X0 (by decide +kernel) rfl (by decide) (Nat.le_of_ble_eq_true rfl) hc1 hc2 rfl (fun r g' I2 L2 h => by obtain ⟨rfl, z, rfl, hr, rfl, rfl, rfl⟩ := h; exact k hr)
theorem t17_X0_asked_22 {E : En} {d : Nat} {g : Geo} {I L : MI} {Q : Option AV → Geo → MI → MI → Prop} {cs : Nat × Nat} {a0 : Nat} {a1 a2 b0 : Int} (hq : Q (some (vl b0)) g I L) (h1 : cs.1 ≤ M_X0_asked.2.2.2.2.1 := by decide) (h2 : cs.2 ≤ M_X0_asked.2.2.2.2.2 := by decide) : Ev E d M_X0_asked 22 [vr a0, vi a1, vi a2] [vl b0] (g, cs) I L (ZQ E M_X0_asked Q) := E_lreturn rfl dX0_asked_22 hq h1 h2
theorem t17_X0_body_18v6 {E : En} {d : Nat} {κ : Kp} {I L : MI} {Z : Zt} {a0 : Nat} {a1 a2 a3 b0 : Int} (hb : b0 = 22) (k : Ev E d M_X0_body 170 [vr a0, vi a1, vi a2, vi a3] [] κ I L Z) : Ev E d M_X0_body 18 [vr a0, vi a1, vi a2, vi a3] [vi b0] κ I L Z := by subst hb; exact E_tswI dX0_body_18 (by decide) (by decide) (by decide) (off := 152) (by decide) (by decide) k
theorem t17_X0_body_170 {E : En} {d : Nat} {κ : Kp} {I L : MI} {Z : Zt} {a0 : Nat} {a1 a2 a3 : Int}  (k : Ev E d M_X0_body 171 [vr a0, vi a1, vi a2, vi a3] [vr a0] κ I L Z) : Ev E d M_X0_body 170 [vr a0, vi a1, vi a2, vi a3] [] κ I L Z := E_aload_n dX0_body_170 rfl k
theorem t17_X0_body_171 {E : En} {d : Nat} {κ : Kp} {I L : MI} {Z : Zt} {a0 b0 : Nat} {a1 a2 a3 : Int}  (k : Ev E d M_X0_body 173 [vr a0, vi a1, vi a2, vi a3] [vi 24, vr b0] κ I L Z) : Ev E d M_X0_body 171 [vr a0, vi a1, vi a2, vi a3] [vr b0] κ I L Z := E_bipush (v := 24) dX0_body_171 rfl k
theorem t17_X0_body_173 {E : En} {d : Nat} {κ : Kp} {I L : MI} {Z : Zt} {a0 b1 : Nat} {a1 a2 a3 b0 : Int}  (k : Ev E d M_X0_body 174 [vr a0, vi a1, vi a2, vi a3] [vi a3, vi b0, vr b1] κ I L Z) : Ev E d M_X0_body 173 [vr a0, vi a1, vi a2, vi a3] [vi b0, vr b1] κ I L Z := E_iload_n dX0_body_173 rfl k
theorem t17_X0_body_174 {E : En} {d d' : Nat} {cs : Nat × Nat} {I L : MI} {Z : Zt} {a0 b2 : Nat} {a1 a2 a3 b0 b1 : Int} {z : Int} {I' L' : MI} (hs : G0.1[b2]? = some (.inl 0)) (hM : CFl E d' M_X0_body [vr b2, vi b1, vi b0] I L z I' L') (hlt : d' + 1 ≤ d) (k : Jr z → Ev E d M_X0_body 177 [vr a0, vi a1, vi a2, vi a3] [vl z] (G0, cs) I' L' Z) (hc1 : cs.1 ≤ M_X0_body.2.2.2.2.1 := by decide) (hc2 : cs.2 ≤ M_X0_body.2.2.2.2.2 := by decide) : Ev E d M_X0_body 174 [vr a0, vi a1, vi a2, vi a3] [vi b0, vi b1, vr b2] (G0, cs) I L Z := E_callV (as := [vi b1, vi b0]) (rest := []) (n := 2) hM dX0_body_174 wM_RX0_53 wS_X0_body wV_X0_body hs (by decide) rfl hlt wC_X0_body wI_X0 (by decide +kernel) rfl (by decide) (Nat.le_of_ble_eq_true rfl) hc1 hc2 rfl (fun r g' I2 L2 h => by obtain ⟨rfl, z, rfl, hr, rfl, rfl, rfl⟩ := h; exact k hr)
theorem t17_X0_body_177 {E : En} {d : Nat} {κ : Kp} {I L : MI} {Z : Zt} {a0 : Nat} {a1 a2 a3 b0 : Int}  (k : Ev E d M_X0_body 178 [vr a0, vi a1, vi a2, vi a3] [vr a0, vl b0] κ I L Z) : Ev E d M_X0_body 177 [vr a0, vi a1, vi a2, vi a3] [vl b0] κ I L Z := E_aload_n dX0_body_177 rfl k
theorem t17_X0_body_178 {E : En} {d : Nat} {κ : Kp} {I L : MI} {Z : Zt} {a0 b0 : Nat} {a1 a2 a3 b1 : Int}  (k : Ev E d M_X0_body 179 [vr a0, vi a1, vi a2, vi a3] [vi 0, vr b0, vl b1] κ I L Z) : Ev E d M_X0_body 178 [vr a0, vi a1, vi a2, vi a3] [vr b0, vl b1] κ I L Z := E_iconst (v := 0) dX0_body_178 rfl k
theorem t17_X0_body_179 {E : En} {d : Nat} {κ : Kp} {I L : MI} {Z : Zt} {a0 b1 : Nat} {a1 a2 a3 b0 b2 : Int}  (k : Ev E d M_X0_body 180 [vr a0, vi a1, vi a2, vi a3] [vi a3, vi b0, vr b1, vl b2] κ I L Z) : Ev E d M_X0_body 179 [vr a0, vi a1, vi a2, vi a3] [vi b0, vr b1, vl b2] κ I L Z := E_iload_n dX0_body_179 rfl k
theorem t17_X0_body_180 {E : En} {d d' : Nat} {cs : Nat × Nat} {I L : MI} {Z : Zt} {a0 b2 : Nat} {a1 a2 a3 b0 b1 b3 : Int} {z : Int} {I' L' : MI} (hs : G0.1[b2]? = some (.inl 0)) (hM : CFl E d' M_X0_asked [vr b2, vi b1, vi b0] I L z I' L') (hlt : d' + 1 ≤ d) (k : Jr z → Ev E d M_X0_body 183 [vr a0, vi a1, vi a2, vi a3] [vl z, vl b3] (G0, cs) I' L' Z) (hc1 : cs.1 ≤ M_X0_body.2.2.2.2.1 := by decide) (hc2 : cs.2 ≤ M_X0_body.2.2.2.2.2 := by decide) : Ev E d M_X0_body 180 [vr a0, vi a1, vi a2, vi a3] [vi b0, vi b1, vr b2, vl b3] (G0, cs) I L Z := E_callV (as := [vi b1, vi b0]) (rest := [vl b3]) (n := 2) hM dX0_body_180 wM_RX0_39 wS_X0_asked wV_X0_asked hs (by decide) rfl hlt wC_X0_asked wI_X0 (by decide +kernel) rfl (by decide) (Nat.le_of_ble_eq_true rfl) hc1 hc2 rfl (fun r g' I2 L2 h => by obtain ⟨rfl, z, rfl, hr, rfl, rfl, rfl⟩ := h; exact k hr)
theorem t17_X0_body_183 {E : En} {d : Nat} {κ : Kp} {I L : MI} {Z : Zt} {a0 : Nat} {a1 a2 a3 b0 b1 : Int}  (k : Ev E d M_X0_body 184 [vr a0, vi a1, vi a2, vi a3] [vl (b1 - b0)] κ I L Z) : Ev E d M_X0_body 183 [vr a0, vi a1, vi a2, vi a3] [vl b0, vl b1] κ I L Z := E_lsub dX0_body_183 k
theorem t17_X0_body_184 {E : En} {d : Nat} {g : Geo} {I L : MI} {Q : Option AV → Geo → MI → MI → Prop} {cs : Nat × Nat} {a0 : Nat} {a1 a2 a3 b0 : Int} (hq : Q (some (vl b0)) g I L) (h1 : cs.1 ≤ M_X0_body.2.2.2.2.1 := by decide) (h2 : cs.2 ≤ M_X0_body.2.2.2.2.2 := by decide) : Ev E d M_X0_body 184 [vr a0, vi a1, vi a2, vi a3] [vl b0] (g, cs) I L (ZQ E M_X0_body Q) := E_lreturn rfl dX0_body_184 hq h1 h2
theorem t17_X0_body_18v7 {E : En} {d : Nat} {κ : Kp} {I L : MI} {Z : Zt} {a0 : Nat} {a1 a2 a3 b0 : Int} (hb : b0 = 11) (k : Ev E d M_X0_body 98 [vr a0, vi a1, vi a2, vi a3] [] κ I L Z) : Ev E d M_X0_body 18 [vr a0, vi a1, vi a2, vi a3] [vi b0] κ I L Z := by subst hb; exact E_tswI dX0_body_18 (by decide) (by decide) (by decide) (off := 80) (by decide) (by decide) k
theorem t17_X0_body_98 {E : En} {d : Nat} {κ : Kp} {I L : MI} {Z : Zt} {a0 : Nat} {a1 a2 a3 : Int}  (k : Ev E d M_X0_body 99 [vr a0, vi a1, vi a2, vi a3] [vr a0] κ I L Z) : Ev E d M_X0_body 98 [vr a0, vi a1, vi a2, vi a3] [] κ I L Z := E_aload_n dX0_body_98 rfl k
theorem t17_X0_body_99 {E : En} {d : Nat} {κ : Kp} {I L : MI} {Z : Zt} {a0 b0 : Nat} {a1 a2 a3 : Int}  (k : Ev E d M_X0_body 101 [vr a0, vi a1, vi a2, vi a3] [vi 10, vr b0] κ I L Z) : Ev E d M_X0_body 99 [vr a0, vi a1, vi a2, vi a3] [vr b0] κ I L Z := E_bipush (v := 10) dX0_body_99 rfl k
theorem t17_X0_body_101 {E : En} {d : Nat} {κ : Kp} {I L : MI} {Z : Zt} {a0 b1 : Nat} {a1 a2 a3 b0 : Int}  (k : Ev E d M_X0_body 102 [vr a0, vi a1, vi a2, vi a3] [vi a3, vi b0, vr b1] κ I L Z) : Ev E d M_X0_body 101 [vr a0, vi a1, vi a2, vi a3] [vi b0, vr b1] κ I L Z := E_iload_n dX0_body_101 rfl k
theorem t17_X0_body_102 {E : En} {d d' : Nat} {cs : Nat × Nat} {I L : MI} {Z : Zt} {a0 b2 : Nat} {a1 a2 a3 b0 b1 : Int} {z : Int} {I' L' : MI} (hs : G0.1[b2]? = some (.inl 0)) (hM : CFl E d' M_X0_body [vr b2, vi b1, vi b0] I L z I' L') (hlt : d' + 1 ≤ d) (k : Jr z → Ev E d M_X0_body 105 [vr a0, vi a1, vi a2, vi a3] [vl z] (G0, cs) I' L' Z) (hc1 : cs.1 ≤ M_X0_body.2.2.2.2.1 := by decide) (hc2 : cs.2 ≤ M_X0_body.2.2.2.2.2 := by decide) : Ev E d M_X0_body 102 [vr a0, vi a1, vi a2, vi a3] [vi b0, vi b1, vr b2] (G0, cs) I L Z := E_callV (as := [vi b1, vi b0]) (rest := []) (n := 2) hM dX0_body_102 wM_RX0_53 wS_X0_body wV_X0_body hs (by decide) rfl hlt wC_X0_body wI_X0 (by decide +kernel) rfl (by decide) (Nat.le_of_ble_eq_true rfl) hc1 hc2 rfl (fun r g' I2 L2 h => by obtain ⟨rfl, z, rfl, hr, rfl, rfl, rfl⟩ := h; exact k hr)
theorem t17_X0_body_105 {E : En} {d : Nat} {κ : Kp} {I L : MI} {Z : Zt} {a0 : Nat} {a1 a2 a3 b0 : Int}  (k : Ev E d M_X0_body 106 [vr a0, vi a1, vi a2, vi a3] [vr a0, vl b0] κ I L Z) : Ev E d M_X0_body 105 [vr a0, vi a1, vi a2, vi a3] [vl b0] κ I L Z := E_aload_n dX0_body_105 rfl k
theorem t17_X0_body_106 {E : En} {d : Nat} {κ : Kp} {I L : MI} {Z : Zt} {a0 b0 : Nat} {a1 a2 a3 b1 : Int}  (k : Ev E d M_X0_body 107 [vr a0, vi a1, vi a2, vi a3] [vi 1, vr b0, vl b1] κ I L Z) : Ev E d M_X0_body 106 [vr a0, vi a1, vi a2, vi a3] [vr b0, vl b1] κ I L Z := E_iconst (v := 1) dX0_body_106 rfl k
theorem t17_X0_body_107 {E : En} {d : Nat} {κ : Kp} {I L : MI} {Z : Zt} {a0 b1 : Nat} {a1 a2 a3 b0 b2 : Int}  (k : Ev E d M_X0_body 108 [vr a0, vi a1, vi a2, vi a3] [vi a3, vi b0, vr b1, vl b2] κ I L Z) : Ev E d M_X0_body 107 [vr a0, vi a1, vi a2, vi a3] [vi b0, vr b1, vl b2] κ I L Z := E_iload_n dX0_body_107 rfl k
theorem t17_X0_body_108 {E : En} {d d' : Nat} {cs : Nat × Nat} {I L : MI} {Z : Zt} {a0 b2 : Nat} {a1 a2 a3 b0 b1 b3 : Int} {z : Int} {I' L' : MI} (hs : G0.1[b2]? = some (.inl 0)) (hM : CFl E d' M_X0_asked [vr b2, vi b1, vi b0] I L z I' L') (hlt : d' + 1 ≤ d) (k : Jr z → Ev E d M_X0_body 111 [vr a0, vi a1, vi a2, vi a3] [vl z, vl b3] (G0, cs) I' L' Z) (hc1 : cs.1 ≤ M_X0_body.2.2.2.2.1 := by decide) (hc2 : cs.2 ≤ M_X0_body.2.2.2.2.2 := by decide) : Ev E d M_X0_body 108 [vr a0, vi a1, vi a2, vi a3] [vi b0, vi b1, vr b2, vl b3] (G0, cs) I L Z := E_callV (as := [vi b1, vi b0]) (rest := [vl b3]) (n := 2) hM dX0_body_108 wM_RX0_39 wS_X0_asked wV_X0_asked hs (by decide) rfl hlt wC_X0_asked wI_X0 (by decide +kernel) rfl (by decide) (Nat.le_of_ble_eq_true rfl) hc1 hc2 rfl (fun r g' I2 L2 h => by obtain ⟨rfl, z, rfl, hr, rfl, rfl, rfl⟩ := h; exact k hr)
theorem t17_X0_body_111 {E : En} {d : Nat} {κ : Kp} {I L : MI} {Z : Zt} {a0 : Nat} {a1 a2 a3 b0 b1 : Int}  (k : Ev E d M_X0_body 112 [vr a0, vi a1, vi a2, vi a3] [vl (b1 + b0)] κ I L Z) : Ev E d M_X0_body 111 [vr a0, vi a1, vi a2, vi a3] [vl b0, vl b1] κ I L Z := E_ladd dX0_body_111 k
theorem t17_X0_body_112 {E : En} {d : Nat} {g : Geo} {I L : MI} {Q : Option AV → Geo → MI → MI → Prop} {cs : Nat × Nat} {a0 : Nat} {a1 a2 a3 b0 : Int} (hq : Q (some (vl b0)) g I L) (h1 : cs.1 ≤ M_X0_body.2.2.2.2.1 := by decide) (h2 : cs.2 ≤ M_X0_body.2.2.2.2.2 := by decide) : Ev E d M_X0_body 112 [vr a0, vi a1, vi a2, vi a3] [vl b0] (g, cs) I L (ZQ E M_X0_body Q) := E_lreturn rfl dX0_body_112 hq h1 h2
theorem t17_X0_body_18v8 {E : En} {d : Nat} {κ : Kp} {I L : MI} {Z : Zt} {a0 : Nat} {a1 a2 a3 b0 : Int} (hb : b0 = 12) (k : Ev E d M_X0_body 113 [vr a0, vi a1, vi a2, vi a3] [] κ I L Z) : Ev E d M_X0_body 18 [vr a0, vi a1, vi a2, vi a3] [vi b0] κ I L Z := by subst hb; exact E_tswI dX0_body_18 (by decide) (by decide) (by decide) (off := 95) (by decide) (by decide) k
theorem t17_X0_body_113 {E : En} {d : Nat} {κ : Kp} {I L : MI} {Z : Zt} {a0 : Nat} {a1 a2 a3 : Int}  (k : Ev E d M_X0_body 116 [vr a0, vi a1, vi a2, vi a3] [vl 2] κ I L Z) : Ev E d M_X0_body 113 [vr a0, vi a1, vi a2, vi a3] [] κ I L Z := E_ldc2 (v := 2) dX0_body_113 wK_RX0_68 k
theorem t17_X0_body_116 {E : En} {d : Nat} {κ : Kp} {I L : MI} {Z : Zt} {a0 : Nat} {a1 a2 a3 b0 : Int}  (k : Ev E d M_X0_body 117 [vr a0, vi a1, vi a2, vi a3] [vr a0, vl b0] κ I L Z) : Ev E d M_X0_body 116 [vr a0, vi a1, vi a2, vi a3] [vl b0] κ I L Z := E_aload_n dX0_body_116 rfl k
theorem t17_X0_body_117 {E : En} {d : Nat} {κ : Kp} {I L : MI} {Z : Zt} {a0 b0 : Nat} {a1 a2 a3 b1 : Int}  (k : Ev E d M_X0_body 119 [vr a0, vi a1, vi a2, vi a3] [vi 11, vr b0, vl b1] κ I L Z) : Ev E d M_X0_body 117 [vr a0, vi a1, vi a2, vi a3] [vr b0, vl b1] κ I L Z := E_bipush (v := 11) dX0_body_117 rfl k
theorem t17_X0_body_119 {E : En} {d : Nat} {κ : Kp} {I L : MI} {Z : Zt} {a0 b1 : Nat} {a1 a2 a3 b0 b2 : Int}  (k : Ev E d M_X0_body 120 [vr a0, vi a1, vi a2, vi a3] [vi a3, vi b0, vr b1, vl b2] κ I L Z) : Ev E d M_X0_body 119 [vr a0, vi a1, vi a2, vi a3] [vi b0, vr b1, vl b2] κ I L Z := E_iload_n dX0_body_119 rfl k
theorem t17_X0_body_120 {E : En} {d d' : Nat} {cs : Nat × Nat} {I L : MI} {Z : Zt} {a0 b2 : Nat} {a1 a2 a3 b0 b1 b3 : Int} {z : Int} {I' L' : MI} (hs : G0.1[b2]? = some (.inl 0)) (hM : CFl E d' M_X0_body [vr b2, vi b1, vi b0] I L z I' L') (hlt : d' + 1 ≤ d) (k : Jr z → Ev E d M_X0_body 123 [vr a0, vi a1, vi a2, vi a3] [vl z, vl b3] (G0, cs) I' L' Z) (hc1 : cs.1 ≤ M_X0_body.2.2.2.2.1 := by decide) (hc2 : cs.2 ≤ M_X0_body.2.2.2.2.2 := by decide) : Ev E d M_X0_body 120 [vr a0, vi a1, vi a2, vi a3] [vi b0, vi b1, vr b2, vl b3] (G0, cs) I L Z := E_callV (as := [vi b1, vi b0]) (rest := [vl b3]) (n := 2) hM dX0_body_120 wM_RX0_53 wS_X0_body wV_X0_body hs (by decide) rfl hlt wC_X0_body wI_X0 (by decide +kernel) rfl (by decide) (Nat.le_of_ble_eq_true rfl) hc1 hc2 rfl (fun r g' I2 L2 h => by obtain ⟨rfl, z, rfl, hr, rfl, rfl, rfl⟩ := h; exact k hr)
theorem t17_X0_body_123 {E : En} {d : Nat} {κ : Kp} {I L : MI} {Z : Zt} {a0 : Nat} {a1 a2 a3 b0 b1 : Int}  (k : Ev E d M_X0_body 124 [vr a0, vi a1, vi a2, vi a3] [vl (b1 * b0)] κ I L Z) : Ev E d M_X0_body 123 [vr a0, vi a1, vi a2, vi a3] [vl b0, vl b1] κ I L Z := E_lmul dX0_body_123 k
theorem t17_X0_body_124 {E : En} {d : Nat} {g : Geo} {I L : MI} {Q : Option AV → Geo → MI → MI → Prop} {cs : Nat × Nat} {a0 : Nat} {a1 a2 a3 b0 : Int} (hq : Q (some (vl b0)) g I L) (h1 : cs.1 ≤ M_X0_body.2.2.2.2.1 := by decide) (h2 : cs.2 ≤ M_X0_body.2.2.2.2.2 := by decide) : Ev E d M_X0_body 124 [vr a0, vi a1, vi a2, vi a3] [vl b0] (g, cs) I L (ZQ E M_X0_body Q) := E_lreturn rfl dX0_body_124 hq h1 h2
theorem t17_X0_body_18v9 {E : En} {d : Nat} {κ : Kp} {I L : MI} {Z : Zt} {a0 : Nat} {a1 a2 a3 b0 : Int} (hb : b0 = 14) (k : Ev E d M_X0_body 134 [vr a0, vi a1, vi a2, vi a3] [] κ I L Z) : Ev E d M_X0_body 18 [vr a0, vi a1, vi a2, vi a3] [vi b0] κ I L Z := by subst hb; exact E_tswI dX0_body_18 (by decide) (by decide) (by decide) (off := 116) (by decide) (by decide) k
theorem t17_X0_body_134 {E : En} {d : Nat} {κ : Kp} {I L : MI} {Z : Zt} {a0 : Nat} {a1 a2 a3 : Int}  (k : Ev E d M_X0_body 135 [vr a0, vi a1, vi a2, vi a3] [vr a0] κ I L Z) : Ev E d M_X0_body 134 [vr a0, vi a1, vi a2, vi a3] [] κ I L Z := E_aload_n dX0_body_134 rfl k
theorem t17_X0_body_135 {E : En} {d : Nat} {κ : Kp} {I L : MI} {Z : Zt} {a0 b0 : Nat} {a1 a2 a3 : Int}  (k : Ev E d M_X0_body 137 [vr a0, vi a1, vi a2, vi a3] [vi 11, vr b0] κ I L Z) : Ev E d M_X0_body 135 [vr a0, vi a1, vi a2, vi a3] [vr b0] κ I L Z := E_bipush (v := 11) dX0_body_135 rfl k
theorem t17_X0_body_137 {E : En} {d : Nat} {κ : Kp} {I L : MI} {Z : Zt} {a0 b1 : Nat} {a1 a2 a3 b0 : Int}  (k : Ev E d M_X0_body 138 [vr a0, vi a1, vi a2, vi a3] [vi a3, vi b0, vr b1] κ I L Z) : Ev E d M_X0_body 137 [vr a0, vi a1, vi a2, vi a3] [vi b0, vr b1] κ I L Z := E_iload_n dX0_body_137 rfl k
theorem t17_X0_body_138 {E : En} {d d' : Nat} {cs : Nat × Nat} {I L : MI} {Z : Zt} {a0 b2 : Nat} {a1 a2 a3 b0 b1 : Int} {z : Int} {I' L' : MI} (hs : G0.1[b2]? = some (.inl 0)) (hM : CFl E d' M_X0_body [vr b2, vi b1, vi b0] I L z I' L') (hlt : d' + 1 ≤ d) (k : Jr z → Ev E d M_X0_body 141 [vr a0, vi a1, vi a2, vi a3] [vl z] (G0, cs) I' L' Z) (hc1 : cs.1 ≤ M_X0_body.2.2.2.2.1 := by decide) (hc2 : cs.2 ≤ M_X0_body.2.2.2.2.2 := by decide) : Ev E d M_X0_body 138 [vr a0, vi a1, vi a2, vi a3] [vi b0, vi b1, vr b2] (G0, cs) I L Z := E_callV (as := [vi b1, vi b0]) (rest := []) (n := 2) hM dX0_body_138 wM_RX0_53 wS_X0_body wV_X0_body hs (by decide) rfl hlt wC_X0_body wI_X0 (by decide +kernel) rfl (by decide) (Nat.le_of_ble_eq_true rfl) hc1 hc2 rfl (fun r g' I2 L2 h => by obtain ⟨rfl, z, rfl, hr, rfl, rfl, rfl⟩ := h; exact k hr)
theorem t17_X0_body_141 {E : En} {d : Nat} {κ : Kp} {I L : MI} {Z : Zt} {a0 : Nat} {a1 a2 a3 b0 : Int}  (k : Ev E d M_X0_body 142 [vr a0, vi a1, vi a2, vi a3] [vl (-b0)] κ I L Z) : Ev E d M_X0_body 141 [vr a0, vi a1, vi a2, vi a3] [vl b0] κ I L Z := E_lneg dX0_body_141 k
theorem t17_X0_body_142 {E : En} {d : Nat} {g : Geo} {I L : MI} {Q : Option AV → Geo → MI → MI → Prop} {cs : Nat × Nat} {a0 : Nat} {a1 a2 a3 b0 : Int} (hq : Q (some (vl b0)) g I L) (h1 : cs.1 ≤ M_X0_body.2.2.2.2.1 := by decide) (h2 : cs.2 ≤ M_X0_body.2.2.2.2.2 := by decide) : Ev E d M_X0_body 142 [vr a0, vi a1, vi a2, vi a3] [vl b0] (g, cs) I L (ZQ E M_X0_body Q) := E_lreturn rfl dX0_body_142 hq h1 h2
theorem t17_X0_begin_0 {E : En} {d : Nat} {κ : Kp} {I L : MI} {Z : Zt} {a0 a4 : Nat} {a1 a2 : Int}  (k : Ev E d M_X0_begin 1 [vr a0, vi a1, vl a2, vu, vr a4] [vr a0] κ I L Z) : Ev E d M_X0_begin 0 [vr a0, vi a1, vl a2, vu, vr a4] [] κ I L Z := E_aload_n dX0_begin_0 rfl k
theorem t17_X0_begin_1 {E : En} {d : Nat} {κ : Kp} {I L : MI} {Z : Zt} {a0 a4 b0 : Nat} {a1 a2 : Int}  (k : Ev E d M_X0_begin 2 [vr a0, vi a1, vl a2, vu, vr a4] [vi 0, vr b0] κ I L Z) : Ev E d M_X0_begin 1 [vr a0, vi a1, vl a2, vu, vr a4] [vr b0] κ I L Z := E_iconst (v := 0) dX0_begin_1 rfl k
theorem t17_X0_begin_2 {E : En} {d : Nat} {κ : Kp} {I L : MI} {Z : Zt} {a0 a4 b1 : Nat} {a1 a2 b0 : Int} (hs : κ.1.1[b1]? = some (.inl 0)) (hz : Ir b0) (k : Ev E d M_X0_begin 5 [vr a0, vi a1, vl a2, vu, vr a4] [] κ (up2 I b1 1 b0) L Z) : Ev E d M_X0_begin 2 [vr a0, vi a1, vl a2, vu, vr a4] [vi b0, vr b1] κ I L Z := E_putI (ci := 0) (n := 1) dX0_begin_2 wF_RX0_15 (by decide) hs rfl rfl hz k
theorem t17_X0_begin_5 {E : En} {d : Nat} {κ : Kp} {I L : MI} {Z : Zt} {a0 a4 : Nat} {a1 a2 : Int}  (k : Ev E d M_X0_begin 6 [vr a0, vi a1, vl a2, vu, vr a4] [vr a0] κ I L Z) : Ev E d M_X0_begin 5 [vr a0, vi a1, vl a2, vu, vr a4] [] κ I L Z := E_aload_n dX0_begin_5 rfl k
theorem t17_X0_begin_6 {E : En} {d : Nat} {κ : Kp} {I L : MI} {Z : Zt} {a0 a4 b0 : Nat} {a1 a2 : Int}  (k : Ev E d M_X0_begin 7 [vr a0, vi a1, vl a2, vu, vr a4] [vi a1, vr b0] κ I L Z) : Ev E d M_X0_begin 6 [vr a0, vi a1, vl a2, vu, vr a4] [vr b0] κ I L Z := E_iload_n dX0_begin_6 rfl k
theorem t17_X0_begin_7 {E : En} {d : Nat} {κ : Kp} {I L : MI} {Z : Zt} {a0 a4 b1 : Nat} {a1 a2 b0 : Int} (hs : κ.1.1[b1]? = some (.inl 0)) (hz : Ir b0) (k : Ev E d M_X0_begin 10 [vr a0, vi a1, vl a2, vu, vr a4] [] κ (up2 I b1 2 b0) L Z) : Ev E d M_X0_begin 7 [vr a0, vi a1, vl a2, vu, vr a4] [vi b0, vr b1] κ I L Z := E_putI (ci := 0) (n := 2) dX0_begin_7 wF_RX0_19 (by decide) hs rfl rfl hz k
theorem t17_X0_begin_10 {E : En} {d : Nat} {κ : Kp} {I L : MI} {Z : Zt} {a0 a4 : Nat} {a1 a2 : Int}  (k : Ev E d M_X0_begin 11 [vr a0, vi a1, vl a2, vu, vr a4] [vr a0] κ I L Z) : Ev E d M_X0_begin 10 [vr a0, vi a1, vl a2, vu, vr a4] [] κ I L Z := E_aload_n dX0_begin_10 rfl k
theorem t17_X0_begin_11 {E : En} {d : Nat} {κ : Kp} {I L : MI} {Z : Zt} {a0 a4 b0 : Nat} {a1 a2 : Int}  (k : Ev E d M_X0_begin 12 [vr a0, vi a1, vl a2, vu, vr a4] [vl a2, vr b0] κ I L Z) : Ev E d M_X0_begin 11 [vr a0, vi a1, vl a2, vu, vr a4] [vr b0] κ I L Z := E_lload_n dX0_begin_11 rfl k
theorem t17_X0_begin_12 {E : En} {d : Nat} {κ : Kp} {I L : MI} {Z : Zt} {a0 a4 b1 : Nat} {a1 a2 b0 : Int} (hs : κ.1.1[b1]? = some (.inl 0)) (hz : Jr b0) (k : Ev E d M_X0_begin 15 [vr a0, vi a1, vl a2, vu, vr a4] [] κ I (up2 L b1 3 b0) Z) : Ev E d M_X0_begin 12 [vr a0, vi a1, vl a2, vu, vr a4] [vl b0, vr b1] κ I L Z := E_putL (ci := 0) (n := 3) dX0_begin_12 wF_RX0_22 (by decide) hs rfl rfl hz k
theorem t17_X0_begin_15 {E : En} {d : Nat} {κ : Kp} {I L : MI} {Z : Zt} {a0 a4 : Nat} {a1 a2 : Int}  (k : Ev E d M_X0_begin 16 [vr a0, vi a1, vl a2, vu, vr a4] [vr a0] κ I L Z) : Ev E d M_X0_begin 15 [vr a0, vi a1, vl a2, vu, vr a4] [] κ I L Z := E_aload_n dX0_begin_15 rfl k
theorem t17_X0_begin_16 {E : En} {d : Nat} {κ : Kp} {I L : MI} {Z : Zt} {a0 a4 b0 : Nat} {a1 a2 : Int}  (k : Ev E d M_X0_begin 18 [vr a0, vi a1, vl a2, vu, vr a4] [vr a4, vr b0] κ I L Z) : Ev E d M_X0_begin 16 [vr a0, vi a1, vl a2, vu, vr a4] [vr b0] κ I L Z := E_aload dX0_begin_16 rfl k
theorem t17_X0_begin_18 {E : En} {d : Nat} {κ : Kp} {I L : MI} {Z : Zt} {a0 a4 b0 b1 : Nat} {a1 a2 : Int} (hs : κ.1.1[b0]? = some (.inl 3)) (k : Ir (I b0 2) → Ev E d M_X0_begin 21 [vr a0, vi a1, vl a2, vu, vr a4] [vi (I b0 2), vr b1] κ I L Z) : Ev E d M_X0_begin 18 [vr a0, vi a1, vl a2, vu, vr a4] [vr b0, vr b1] κ I L Z := E_getI (ci := 3) (n := 2) dX0_begin_18 wF_RX0_26 (by decide) hs rfl k
theorem t17_X0_begin_21 {E : En} {d : Nat} {κ : Kp} {I L : MI} {Z : Zt} {a0 a4 b1 : Nat} {a1 a2 b0 : Int} (hs : κ.1.1[b1]? = some (.inl 0)) (hz : Ir b0) (k : Ev E d M_X0_begin 24 [vr a0, vi a1, vl a2, vu, vr a4] [] κ (up2 I b1 4 b0) L Z) : Ev E d M_X0_begin 21 [vr a0, vi a1, vl a2, vu, vr a4] [vi b0, vr b1] κ I L Z := E_putI (ci := 0) (n := 4) dX0_begin_21 wF_RX0_31 (by decide) hs rfl rfl hz k
theorem t17_X0_begin_24 {E : En} {d : Nat} {κ : Kp} {I L : MI} {Z : Zt} {a0 a4 : Nat} {a1 a2 : Int}  (k : Ev E d M_X0_begin 25 [vr a0, vi a1, vl a2, vu, vr a4] [vr a0] κ I L Z) : Ev E d M_X0_begin 24 [vr a0, vi a1, vl a2, vu, vr a4] [] κ I L Z := E_aload_n dX0_begin_24 rfl k
theorem t17_X0_begin_25 {E : En} {d : Nat} {κ : Kp} {I L : MI} {Z : Zt} {a0 a4 b0 : Nat} {a1 a2 : Int}  (k : Ev E d M_X0_begin 27 [vr a0, vi a1, vl a2, vu, vr a4] [vr a4, vr b0] κ I L Z) : Ev E d M_X0_begin 25 [vr a0, vi a1, vl a2, vu, vr a4] [vr b0] κ I L Z := E_aload dX0_begin_25 rfl k
theorem t17_X0_begin_27 {E : En} {d d' : Nat} {cs : Nat × Nat} {I L : MI} {Z : Zt} {a0 a4 b0 b1 : Nat} {a1 a2 : Int} {z : Int} {I' L' : MI} (hs : G0.1[b0]? = some (.inl 3)) (hM : CFi E d' M_X3_toldAs [vr b0] I L z I' L') (hlt : d' + 1 ≤ d) (k : Ir z → Ev E d M_X0_begin 30 [vr a0, vi a1, vl a2, vu, vr a4] [vi z, vr b1] (G0, cs) I' L' Z) (hc1 : cs.1 ≤ M_X0_begin.2.2.2.2.1 := by decide) (hc2 : cs.2 ≤ M_X0_begin.2.2.2.2.2 := by decide) : Ev E d M_X0_begin 27 [vr a0, vi a1, vl a2, vu, vr a4] [vr b0, vr b1] (G0, cs) I L Z := E_callV (as := []) (rest := [vr b1]) (n := 0) hM dX0_begin_27 wM_RX0_32 wS_X3_toldAs wV_X3_toldAs hs (by decide) rfl hlt wC_X3_toldAs wI_X3 (by decide +kernel) rfl (by decide) (Nat.le_of_ble_eq_true rfl) hc1 hc2 rfl (fun r g' I2 L2 h => by obtain ⟨rfl, z, rfl, hr, rfl, rfl, rfl⟩ := h; exact k hr)
theorem t17_X0_begin_30 {E : En} {d : Nat} {κ : Kp} {I L : MI} {Z : Zt} {a0 a4 b1 : Nat} {a1 a2 b0 : Int} (hs : κ.1.1[b1]? = some (.inl 0)) (hz : Ir b0) (k : Ev E d M_X0_begin 33 [vr a0, vi a1, vl a2, vu, vr a4] [] κ (up2 I b1 5 b0) L Z) : Ev E d M_X0_begin 30 [vr a0, vi a1, vl a2, vu, vr a4] [vi b0, vr b1] κ I L Z := E_putI (ci := 0) (n := 5) dX0_begin_30 wF_RX0_36 (by decide) hs rfl rfl hz k
theorem t17_X0_begin_33 {E : En} {d : Nat} {g : Geo} {I L : MI} {Q : Option AV → Geo → MI → MI → Prop} {cs : Nat × Nat} {a0 a4 : Nat} {a1 a2 : Int} (hq : Q none g I L) (h1 : cs.1 ≤ M_X0_begin.2.2.2.2.1 := by decide) (h2 : cs.2 ≤ M_X0_begin.2.2.2.2.2 := by decide) : Ev E d M_X0_begin 33 [vr a0, vi a1, vl a2, vu, vr a4] [] (g, cs) I L (ZQ E M_X0_begin Q) := E_return rfl dX0_begin_33 hq h1 h2
/-! CONTRACTS: asks (object 38; THE TRACE 39) -/
theorem arr39 {E : En} : arr E G0 39 = some (0, 16) := arr_of (by decide) rfl
def ltI (I : MI) (n : Int) : MI := if 0 ≤ I 38 1 ∧ I 38 1 < 16 then up2 (up2 I 39 (I 38 1) n) 38 1 (I 38 1 + 1) else I
theorem ltI_k {I : MI} {n k : Int} (h : k ≠ 1) : ltI I n 38 k = I 38 k := by
  unfold ltI
  split
  · rw [up2_ne (.inr h), up2_ne (.inl (by decide))]
  · rfl
theorem ltI_o {I : MI} {n k : Int} {o : Nat} (h : o ≠ 38) (h2 : o ≠ 39) : ltI I n o k = I o k := by
  unfold ltI
  split
  · rw [up2_ne (.inl h), up2_ne (.inl h2)]
  · rfl
def TrB (I : MI) : Prop := 0 ≤ I 38 1 ∧ I 38 1 ≤ 16
theorem TrB_l {I : MI} {n : Int} (h : TrB I) : TrB (ltI I n) := by
  unfold TrB ltI at *
  split
  · rw [up2_eq]; omega
  · exact h
theorem c_X0_leaveTrace {E : En} {I L : MI} {n : Int} (hb : TrB I := by assumption) (hn : Ir n := by omega) : CFv E 2 M_X0_leaveTrace [vr 38, vi n] I L (ltI I n) L := by
  have h4 := arr39 (E := E)
  have hb2 : 0 ≤ I 38 1 ∧ I 38 1 ≤ 16 := hb
  have e1 : stI I 39 16 (I 38 1) n 38 1 = I 38 1 := stI_ne (by decide)
  refine CM_of' (al := [vr _, vi _]) rfl (Nat.le_of_ble_eq_true rfl) rfl (fun hM => ?_)
  refine (t17_X0_leaveTrace_0 (t17_X0_leaveTrace_1 (by first | assumption | rfl) (fun r1 => (t17_X0_leaveTrace_4 (t17_X0_leaveTrace_5 (by first | assumption | rfl) (by first | assumption | rfl) (t17_X0_leaveTrace_8 (by first | assumption | rfl) (by decide) rfl (t17_X0_leaveTrace_9 (by omega) (by omega) (fun c9 => (t17_X0_leaveTrace_34 ?_)) (fun c9 => (t17_X0_leaveTrace_12 (t17_X0_leaveTrace_13 (by first | assumption | rfl) (by first | assumption | rfl) (t17_X0_leaveTrace_16 (t17_X0_leaveTrace_17 (by first | assumption | rfl) (fun r17 => (t17_X0_leaveTrace_20 (t17_X0_leaveTrace_21 c_X10_store (by decide) ?_)))))))))))))))
  -- 2 leaves: 9t :ret34 | 9f :->24
  · exact qfv (by unfold ltI; rw [if_neg (by omega)]) rfl
  · refine (t17_X0_leaveTrace_24 (t17_X0_leaveTrace_25 (t17_X0_leaveTrace_26 (by first | assumption | rfl) (fun r26 => (t17_X0_leaveTrace_29 (t17_X0_leaveTrace_30 (t17_X0_leaveTrace_31 (by first | assumption | rfl) (by rw [e1]; omega) (t17_X0_leaveTrace_34 ?_))))))))
    -- 1 leaves: :ret34
    refine qfv ?_ rfl
    unfold ltI
    rw [e1, stI_in (by omega), if_pos (by omega)]
def tabI (a : Nat) (k : Int) : Int := if 0 ≤ k ∧ k < 6 then xI a k else 0
def nbF (a : Nat) : Nat → Int → Int
  | 0, k => k
  | f + 1, k => if tabI a k = 0 then nbF a f (widI k) else k
theorem widI_r (k : Int) : -1 ≤ widI k ∧ widI k ≤ 3 := by
  unfold widI
  split
  next h =>
    have : ∀ j : Fin 6, -1 ≤ xI 1001 (j.val : Int) ∧ xI 1001 (j.val : Int) ≤ 3 := by decide +kernel
    have h2 := this ⟨k.toNat, by omega⟩
    rw [show (((⟨k.toNat, by omega⟩ : Fin 6).val : Nat) : Int) = k by simp; omega] at h2
    exact h2
  next => decide
theorem c_X0_nearestBody {E : En} {I L : MI} {a : Nat} (ha : a = 1002 ∨ a = 1003 := by first | exact Or.inl rfl | exact Or.inr rfl) : CFi E 2 M_X0_nearestBody [vr 38, vr a] I L (tabI a (nbF a 6 (I 38 5))) I L := by
  have hr : arr E G0 a = some (0, 6) := by rcases ha with rfl | rfl <;> rfl
  have ev : ∀ k, (if 0 ≤ k ∧ k < ((6 : Nat) : Int) then rdI E I a k else 0) = tabI a k := fun k => by
    rcases ha with rfl | rfl <;> rfl
  refine CM_of' (al := [vr _, vr _, vu, vu]) rfl (Nat.le_of_ble_eq_true rfl) rfl (fun hM => ?_)
  have key : ∀ (f : Nat) (k i : Int), i + f = 6 → 0 ≤ i → Ir k → nbF a f k = nbF a 6 (I 38 5) → Ev E 2 M_X0_nearestBody 7 [vr 38, vr a, vi k, vi i] [] (G0, 0, 0) I L (ZQ E M_X0_nearestBody (QFi (tabI a (nbF a 6 (I 38 5))) I L)) := by
    intro f
    induction f with
    | zero =>
      intro k i h1 h2 h3 he
      refine (t17_X0_nearestBody_7 (t17_X0_nearestBody_8 (t17_X0_nearestBody_10 (by omega) (by omega) (fun c10 => (t17_X0_nearestBody_32 (t17_X0_nearestBody_33 (t17_X0_nearestBody_34 ((c_X10_atx hr (by decide) h3)) (by decide) (fun r34 => (t17_X0_nearestBody_37 ?_)))))) (fun c10 => ?_))))
      -- 2 leaves: 10t :ret37 | 10f :->13
      · exact qfi r34 (by rw [ev, ← he]; rfl)
      · omega
    | succ f ih =>
      intro k i h1 h2 h3 he
      have w := widI_r k
      refine (t17_X0_nearestBody_7 (t17_X0_nearestBody_8 (t17_X0_nearestBody_10 (by omega) (by omega) (fun c10 => (t17_X0_nearestBody_32 (t17_X0_nearestBody_33 (t17_X0_nearestBody_34 ((c_X10_atx hr (by decide) h3)) (by decide) (fun r34 => (t17_X0_nearestBody_37 ?_)))))) (fun c10 => ?_))))
      -- 2 leaves: 10t :ret37 | 10f :->13
      · omega
      · refine (t17_X0_nearestBody_13 (t17_X0_nearestBody_14 (t17_X0_nearestBody_15 ((c_X10_atx hr (by decide) h3)) (by decide) (fun r15 => (t17_X0_nearestBody_18 (by omega) (fun c18 => (t17_X0_nearestBody_32 (t17_X0_nearestBody_33 (t17_X0_nearestBody_34 ((c_X10_atx hr (by decide) h3)) (by decide) (fun r34 => (t17_X0_nearestBody_37 ?_)))))) (fun c18 => (t17_X0_nearestBody_21 (t17_X0_nearestBody_22 c_X10_wider (by decide) (fun r22 => (t17_X0_nearestBody_25 (t17_X0_nearestBody_26 (t17_X0_nearestBody_29 ?_))))))))))))
        -- 2 leaves: 18t :ret37 | 18f :->7
        · rw [ev] at c18
          exact qfi r34 (by rw [ev, ← he]; unfold nbF; rw [if_neg c18])
        · rw [ev] at c18
          exact ih (widI k) (i + 1) (by omega) (by omega) r22 (by rw [← he]; conv => rhs; unfold nbF
                                                                  rw [if_pos c18])
  refine (t17_X0_nearestBody_0 (t17_X0_nearestBody_1 (by first | assumption | rfl) (fun r1 => (t17_X0_nearestBody_4 (t17_X0_nearestBody_5 (t17_X0_nearestBody_6 ?_))))))
  -- 1 leaves: :->7
  exact key 6 (I 38 5) 0 (by decide) (by decide) r1 rfl
/-- what is fixed while an ask runs -/
def AskW (I L : MI) : Prop := TrB I ∧ (0 ≤ I 38 4 ∧ I 38 4 ≤ 100000) ∧ (0 ≤ I 38 2 ∧ I 38 2 ≤ 7) ∧ 0 ≤ L 38 3
theorem AskW_l {I L : MI} {n : Int} (h : AskW I L) : AskW (ltI I n) L := by
  obtain ⟨h1, h2, h3, h4⟩ := h
  exact ⟨TrB_l h1, by rw [ltI_k (by decide)]; exact h2, by rw [ltI_k (by decide)]; exact h3, h4⟩
theorem m7 {z : Int} (h : 0 ≤ z) : 0 ≤ z.tmod 7 ∧ z.tmod 7 < 7 := ⟨Int.tmod_nonneg 7 h, Int.tmod_lt_of_pos z (by decide)⟩
theorem c_b10 {E : En} {I L : MI} {z : Int} (hw : AskW I L := by assumption) (hz : 0 ≤ z ∧ z ≤ 20 := by omega) : CFl E 3 M_X0_body [vr 38, vi 10, vi z] I L (I 38 4) (ltI I 10) L := by
  have hb := hw.1
  have e4 : ltI I 10 38 4 = I 38 4 := ltI_k (by decide)
  refine CM_of' (al := [vr _, vi _, vi _, vu]) rfl (Nat.le_of_ble_eq_true rfl) rfl (fun hM => ?_)
  refine (t17_X0_body_0 (t17_X0_body_1 (t17_X0_body_3 (by omega) (by omega) (fun c3 => (t17_X0_body_8 (t17_X0_body_9 (t17_X0_body_10 (by first | assumption | rfl) c_X0_leaveTrace (by decide) (t17_X0_body_13 (t17_X0_body_14 (t17_X0_body_15 (t17_X0_body_16 (t17_X0_body_17 (t17_X0_body_18 (by omega) ?_)))))))))) (fun c3 => (t17_X0_body_6 (t17_X0_body_7 ?_))))))
  -- 2 leaves: 3t :->92 | 3f :ret7
  · refine (t17_X0_body_92 (t17_X0_body_93 (by first | assumption | rfl) (fun r93 => (t17_X0_body_96 (by omega) (t17_X0_body_97 ?_)))))
    -- 1 leaves: :ret97
    exact qfl (by omega) e4
  · omega
theorem c_b20 {E : En} {I L : MI} {z : Int} (hw : AskW I L := by assumption) (hz : 0 ≤ z ∧ z ≤ 20 := by omega) : CFl E 3 M_X0_body [vr 38, vi 20, vi z] I L (I 38 2) (ltI I 20) L := by
  have hb := hw.1
  have e4 : ltI I 20 38 2 = I 38 2 := ltI_k (by decide)
  refine CM_of' (al := [vr _, vi _, vi _, vu]) rfl (Nat.le_of_ble_eq_true rfl) rfl (fun hM => ?_)
  refine (t17_X0_body_0 (t17_X0_body_1 (t17_X0_body_3 (by omega) (by omega) (fun c3 => (t17_X0_body_8 (t17_X0_body_9 (t17_X0_body_10 (by first | assumption | rfl) c_X0_leaveTrace (by decide) (t17_X0_body_13 (t17_X0_body_14 (t17_X0_body_15 (t17_X0_body_16 (t17_X0_body_17 (t17_X0_body_18v1 (by omega) ?_)))))))))) (fun c3 => (t17_X0_body_6 (t17_X0_body_7 ?_))))))
  -- 2 leaves: 3t :->143 | 3f :ret7
  · refine (t17_X0_body_143 (t17_X0_body_144 (by first | assumption | rfl) (fun r144 => (t17_X0_body_147 (by omega) (t17_X0_body_148 ?_)))))
    -- 1 leaves: :ret148
    exact qfl (by omega) e4
  · omega
theorem c_b21 {E : En} {I L : MI} {z : Int} (hw : AskW I L := by assumption) (hz : 0 ≤ z ∧ z ≤ 19 := by omega) : CFl E 4 M_X0_body [vr 38, vi 21, vi z] I L (I 38 2 + 10 * (L 38 3).tmod 7) (ltI (ltI I 21) 20) L := by
  have hb := hw.1
  have w1 := AskW_l (n := 21) hw
  have e4 : ltI I 21 38 2 = I 38 2 := ltI_k (by decide)
  have b := hw.2.2
  have m := m7 b.2
  refine CM_of' (al := [vr _, vi _, vi _, vu]) rfl (Nat.le_of_ble_eq_true rfl) rfl (fun hM => ?_)
  refine (t17_X0_body_0 (t17_X0_body_1 (t17_X0_body_3 (by omega) (by omega) (fun c3 => (t17_X0_body_8 (t17_X0_body_9 (t17_X0_body_10 (by first | assumption | rfl) c_X0_leaveTrace (by decide) (t17_X0_body_13 (t17_X0_body_14 (t17_X0_body_15 (t17_X0_body_16 (t17_X0_body_17 (t17_X0_body_18v2 (by omega) ?_)))))))))) (fun c3 => (t17_X0_body_6 (t17_X0_body_7 ?_))))))
  -- 2 leaves: 3t :->149 | 3f :ret7
  · refine (t17_X0_body_149 (t17_X0_body_150 (t17_X0_body_152 (t17_X0_body_153 (by first | assumption | rfl) c_b20 (by decide) (fun r153 => (t17_X0_body_156 (t17_X0_body_159 (t17_X0_body_160 (by first | assumption | rfl) (fun r160 => (t17_X0_body_163 (t17_X0_body_166 (by omega) (by omega) (by omega) (by omega) (t17_X0_body_167 (t17_X0_body_168 (t17_X0_body_169 ?_))))))))))))))
    -- 1 leaves: :ret169
    exact qfl (by omega) (by rw [e4])
  · omega
theorem c_b23 {E : En} {I L : MI} {z : Int} (hw : AskW I L := by assumption) (hz : 0 ≤ z ∧ z ≤ 18 := by omega) : CFl E 5 M_X0_body [vr 38, vi 23, vi z] I L (I 38 2 + 10 * (L 38 3).tmod 7 + 1000) (ltI (ltI (ltI I 23) 21) 20) L := by
  have hb := hw.1
  have w1 := AskW_l (n := 23) hw
  have e4 : ltI I 23 38 2 = I 38 2 := ltI_k (by decide)
  have b := hw.2.2
  have m := m7 b.2
  refine CM_of' (al := [vr _, vi _, vi _, vu]) rfl (Nat.le_of_ble_eq_true rfl) rfl (fun hM => ?_)
  refine (t17_X0_body_0 (t17_X0_body_1 (t17_X0_body_3 (by omega) (by omega) (fun c3 => (t17_X0_body_8 (t17_X0_body_9 (t17_X0_body_10 (by first | assumption | rfl) c_X0_leaveTrace (by decide) (t17_X0_body_13 (t17_X0_body_14 (t17_X0_body_15 (t17_X0_body_16 (t17_X0_body_17 (t17_X0_body_18v3 (by omega) ?_)))))))))) (fun c3 => (t17_X0_body_6 (t17_X0_body_7 ?_))))))
  -- 2 leaves: 3t :->185 | 3f :ret7
  · refine (t17_X0_body_185 (t17_X0_body_186 (t17_X0_body_188 (t17_X0_body_189 (by first | assumption | rfl) c_b21 (by decide) (fun r189 => (t17_X0_body_192 (t17_X0_body_195 (t17_X0_body_196 ?_))))))))
    -- 1 leaves: :ret196
    exact qfl (by omega) (by rw [e4])
  · omega
theorem c_b24 {E : En} {I L : MI} {z : Int} (hw : AskW I L := by assumption) (hz : 0 ≤ z ∧ z ≤ 19 := by omega) : CFl E 4 M_X0_body [vr 38, vi 24, vi z] I L (I 38 2 - 100) (ltI (ltI I 24) 20) L := by
  have hb := hw.1
  have w1 := AskW_l (n := 24) hw
  have e4 : ltI I 24 38 2 = I 38 2 := ltI_k (by decide)
  have b := hw.2.2
  refine CM_of' (al := [vr _, vi _, vi _, vu]) rfl (Nat.le_of_ble_eq_true rfl) rfl (fun hM => ?_)
  refine (t17_X0_body_0 (t17_X0_body_1 (t17_X0_body_3 (by omega) (by omega) (fun c3 => (t17_X0_body_8 (t17_X0_body_9 (t17_X0_body_10 (by first | assumption | rfl) c_X0_leaveTrace (by decide) (t17_X0_body_13 (t17_X0_body_14 (t17_X0_body_15 (t17_X0_body_16 (t17_X0_body_17 (t17_X0_body_18v4 (by omega) ?_)))))))))) (fun c3 => (t17_X0_body_6 (t17_X0_body_7 ?_))))))
  -- 2 leaves: 3t :->197 | 3f :ret7
  · refine (t17_X0_body_197 (t17_X0_body_198 (t17_X0_body_200 (t17_X0_body_201 (by first | assumption | rfl) c_b20 (by decide) (fun r201 => (t17_X0_body_204 (t17_X0_body_207 (t17_X0_body_208 ?_))))))))
    -- 1 leaves: :ret208
    exact qfl (by omega) (by rw [e4])
  · omega
theorem c_b13 {E : En} {I L : MI} {z : Int} (hw : AskW I L := by assumption) (hz : 0 ≤ z ∧ z ≤ 19 := by omega) : CFl E 4 M_X0_body [vr 38, vi 13, vi z] I L (-(I 38 4)) (ltI (ltI I 13) 10) L := by
  have hb := hw.1
  have w1 := AskW_l (n := 13) hw
  have e4 : ltI I 13 38 4 = I 38 4 := ltI_k (by decide)
  have b := hw.2.1
  refine CM_of' (al := [vr _, vi _, vi _, vu]) rfl (Nat.le_of_ble_eq_true rfl) rfl (fun hM => ?_)
  refine (t17_X0_body_0 (t17_X0_body_1 (t17_X0_body_3 (by omega) (by omega) (fun c3 => (t17_X0_body_8 (t17_X0_body_9 (t17_X0_body_10 (by first | assumption | rfl) c_X0_leaveTrace (by decide) (t17_X0_body_13 (t17_X0_body_14 (t17_X0_body_15 (t17_X0_body_16 (t17_X0_body_17 (t17_X0_body_18v5 (by omega) ?_)))))))))) (fun c3 => (t17_X0_body_6 (t17_X0_body_7 ?_))))))
  -- 2 leaves: 3t :->125 | 3f :ret7
  · refine (t17_X0_body_125 (t17_X0_body_126 (t17_X0_body_128 (t17_X0_body_129 (by first | assumption | rfl) c_b10 (by decide) (fun r129 => (t17_X0_body_132 (t17_X0_body_133 ?_)))))))
    -- 1 leaves: :ret133
    exact qfl (by omega) (by rw [e4])
  · omega
/-- asked of a kind: the body that is nearest -/
theorem nb_M1 {k : Int} (h : k = 1 ∨ k = 5) : tabI 1003 (nbF 1003 6 k) = 21 := by rcases h with rfl | rfl <;> decide +kernel
theorem nb_M2 {k : Int} (h : k = 2) : tabI 1003 (nbF 1003 6 k) = 23 := by subst h; decide +kernel
theorem nb_M3 {k : Int} (h : k = 3) : tabI 1003 (nbF 1003 6 k) = 24 := by subst h; decide +kernel
theorem nb_M4 {k : Int} (h : k = 4) : tabI 1003 (nbF 1003 6 k) = 22 := by subst h; decide +kernel
theorem nb_S1 {k : Int} (h : k = 1) : tabI 1002 (nbF 1002 6 k) = 11 := by subst h; decide +kernel
theorem nb_S2 {k : Int} (h : k = 2) : tabI 1002 (nbF 1002 6 k) = 12 := by subst h; decide +kernel
theorem nb_S3 {k : Int} (h : k = 3 ∨ k = 4) : tabI 1002 (nbF 1002 6 k) = 13 := by rcases h with rfl | rfl <;> decide +kernel
theorem nb_S5 {k : Int} (h : k = 5) : tabI 1002 (nbF 1002 6 k) = 14 := by subst h; decide +kernel
theorem c_aM1 {E : En} {I L : MI} {z : Int} (hw : AskW I L := by assumption) (hk : I 38 5 = 1 ∨ I 38 5 = 5) (hz : 0 ≤ z ∧ z ≤ 19 := by omega) : CFl E 6 M_X0_asked [vr 38, vi 1, vi z] I L (I 38 2 + 10 * (L 38 3).tmod 7) (ltI (ltI I 21) 20) L := by
  refine CM_of' (al := [vr _, vi _, vi _]) rfl (Nat.le_of_ble_eq_true rfl) rfl (fun hM => ?_)
  refine (t17_X0_asked_0 (t17_X0_asked_1 (t17_X0_asked_2 (t17_X0_asked_3 (by omega) (fun c3 => (t17_X0_asked_12 (t17_X0_asked_15 (by first | assumption | rfl) c_X0_nearestBody (by decide) (fun r15 => ?_)))) (fun c3 => (t17_X0_asked_6 (t17_X0_asked_9 (t17_X0_asked_15 (by first | assumption | rfl) c_X0_nearestBody (by decide) (fun r15 => ?_)))))))))
  -- 2 leaves: 3t :->18 | 3f :->18
  
  · rw [nb_M1 hk]
    refine (t17_X0_asked_18 (t17_X0_asked_19 (by first | assumption | rfl) c_b21 (by decide) (fun r19 => (t17_X0_asked_22 ?_))))
    -- 1 leaves: :ret22
    exact qfl r19 rfl
  · exact absurd c3 (by decide)
theorem c_aM2 {E : En} {I L : MI} {z : Int} (hw : AskW I L := by assumption) (hk : I 38 5 = 2) (hz : 0 ≤ z ∧ z ≤ 18 := by omega) : CFl E 6 M_X0_asked [vr 38, vi 1, vi z] I L (I 38 2 + 10 * (L 38 3).tmod 7 + 1000) (ltI (ltI (ltI I 23) 21) 20) L := by
  refine CM_of' (al := [vr _, vi _, vi _]) rfl (Nat.le_of_ble_eq_true rfl) rfl (fun hM => ?_)
  refine (t17_X0_asked_0 (t17_X0_asked_1 (t17_X0_asked_2 (t17_X0_asked_3 (by omega) (fun c3 => (t17_X0_asked_12 (t17_X0_asked_15 (by first | assumption | rfl) c_X0_nearestBody (by decide) (fun r15 => ?_)))) (fun c3 => (t17_X0_asked_6 (t17_X0_asked_9 (t17_X0_asked_15 (by first | assumption | rfl) c_X0_nearestBody (by decide) (fun r15 => ?_)))))))))
  -- 2 leaves: 3t :->18 | 3f :->18
  
  · rw [nb_M2 hk]
    refine (t17_X0_asked_18 (t17_X0_asked_19 (by first | assumption | rfl) c_b23 (by decide) (fun r19 => (t17_X0_asked_22 ?_))))
    -- 1 leaves: :ret22
    exact qfl r19 rfl
  · exact absurd c3 (by decide)
theorem c_aM3 {E : En} {I L : MI} {z : Int} (hw : AskW I L := by assumption) (hk : I 38 5 = 3) (hz : 0 ≤ z ∧ z ≤ 19 := by omega) : CFl E 6 M_X0_asked [vr 38, vi 1, vi z] I L (I 38 2 - 100) (ltI (ltI I 24) 20) L := by
  refine CM_of' (al := [vr _, vi _, vi _]) rfl (Nat.le_of_ble_eq_true rfl) rfl (fun hM => ?_)
  refine (t17_X0_asked_0 (t17_X0_asked_1 (t17_X0_asked_2 (t17_X0_asked_3 (by omega) (fun c3 => (t17_X0_asked_12 (t17_X0_asked_15 (by first | assumption | rfl) c_X0_nearestBody (by decide) (fun r15 => ?_)))) (fun c3 => (t17_X0_asked_6 (t17_X0_asked_9 (t17_X0_asked_15 (by first | assumption | rfl) c_X0_nearestBody (by decide) (fun r15 => ?_)))))))))
  -- 2 leaves: 3t :->18 | 3f :->18
  
  · rw [nb_M3 hk]
    refine (t17_X0_asked_18 (t17_X0_asked_19 (by first | assumption | rfl) c_b24 (by decide) (fun r19 => (t17_X0_asked_22 ?_))))
    -- 1 leaves: :ret22
    exact qfl r19 rfl
  · exact absurd c3 (by decide)
theorem c_aS3 {E : En} {I L : MI} {z : Int} (hw : AskW I L := by assumption) (hk : I 38 5 = 3 ∨ I 38 5 = 4) (hz : 0 ≤ z ∧ z ≤ 19 := by omega) : CFl E 5 M_X0_asked [vr 38, vi 0, vi z] I L (-(I 38 4)) (ltI (ltI I 13) 10) L := by
  refine CM_of' (al := [vr _, vi _, vi _]) rfl (Nat.le_of_ble_eq_true rfl) rfl (fun hM => ?_)
  refine (t17_X0_asked_0 (t17_X0_asked_1 (t17_X0_asked_2 (t17_X0_asked_3 (by omega) (fun c3 => (t17_X0_asked_12 (t17_X0_asked_15 (by first | assumption | rfl) c_X0_nearestBody (by decide) (fun r15 => ?_)))) (fun c3 => (t17_X0_asked_6 (t17_X0_asked_9 (t17_X0_asked_15 (by first | assumption | rfl) c_X0_nearestBody (by decide) (fun r15 => ?_)))))))))
  -- 2 leaves: 3t :->18 | 3f :->18
  · exact absurd c3 (by decide)
  · rw [nb_S3 hk]
    refine (t17_X0_asked_18 (t17_X0_asked_19 (by first | assumption | rfl) c_b13 (by decide) (fun r19 => (t17_X0_asked_22 ?_))))
    -- 1 leaves: :ret22
    exact qfl r19 rfl
  
theorem c_b22 {E : En} {I L : MI} {z : Int} (hw : AskW I L := by assumption) (hk : I 38 5 = 4) (hz : 0 ≤ z ∧ z ≤ 18 := by omega) : CFl E 6 M_X0_body [vr 38, vi 22, vi z] I L (I 38 2 - 100 - -(I 38 4)) (ltI (ltI (ltI (ltI (ltI I 22) 24) 20) 13) 10) L := by
  have hb := hw.1
  have w1 := AskW_l (n := 22) hw
  have w2 := AskW_l (n := 20) (AskW_l (n := 24) w1)
  have e4 : ltI I 22 38 2 = I 38 2 := ltI_k (by decide)
  have e6 : ltI (ltI (ltI I 22) 24) 20 38 4 = I 38 4 := by rw [ltI_k (by decide), ltI_k (by decide), ltI_k (by decide)]
  have e5 : ltI (ltI (ltI I 22) 24) 20 38 5 = 4 := by rw [ltI_k (by decide), ltI_k (by decide), ltI_k (by decide)]; exact hk
  have b := hw.2.2
  have b2 := hw.2.1
  refine CM_of' (al := [vr _, vi _, vi _, vu]) rfl (Nat.le_of_ble_eq_true rfl) rfl (fun hM => ?_)
  refine (t17_X0_body_0 (t17_X0_body_1 (t17_X0_body_3 (by omega) (by omega) (fun c3 => (t17_X0_body_8 (t17_X0_body_9 (t17_X0_body_10 (by first | assumption | rfl) c_X0_leaveTrace (by decide) (t17_X0_body_13 (t17_X0_body_14 (t17_X0_body_15 (t17_X0_body_16 (t17_X0_body_17 (t17_X0_body_18v6 (by omega) ?_)))))))))) (fun c3 => (t17_X0_body_6 (t17_X0_body_7 ?_))))))
  -- 2 leaves: 3t :->170 | 3f :ret7
  · refine (t17_X0_body_170 (t17_X0_body_171 (t17_X0_body_173 (t17_X0_body_174 (by first | assumption | rfl) c_b24 (by decide) (fun r174 => (t17_X0_body_177 (t17_X0_body_178 (t17_X0_body_179 (t17_X0_body_180 (by first | assumption | rfl) ((c_aS3 (hk := .inr e5))) (by decide) (fun r180 => (t17_X0_body_183 (t17_X0_body_184 ?_))))))))))))
    -- 1 leaves: :ret184
    exact qfl (by omega) (by rw [e4, e6])
  · omega
theorem c_aM4 {E : En} {I L : MI} {z : Int} (hw : AskW I L := by assumption) (hk : I 38 5 = 4) (hz : 0 ≤ z ∧ z ≤ 18 := by omega) : CFl E 7 M_X0_asked [vr 38, vi 1, vi z] I L (I 38 2 - 100 - -(I 38 4)) (ltI (ltI (ltI (ltI (ltI I 22) 24) 20) 13) 10) L := by
  refine CM_of' (al := [vr _, vi _, vi _]) rfl (Nat.le_of_ble_eq_true rfl) rfl (fun hM => ?_)
  refine (t17_X0_asked_0 (t17_X0_asked_1 (t17_X0_asked_2 (t17_X0_asked_3 (by omega) (fun c3 => (t17_X0_asked_12 (t17_X0_asked_15 (by first | assumption | rfl) c_X0_nearestBody (by decide) (fun r15 => ?_)))) (fun c3 => (t17_X0_asked_6 (t17_X0_asked_9 (t17_X0_asked_15 (by first | assumption | rfl) c_X0_nearestBody (by decide) (fun r15 => ?_)))))))))
  -- 2 leaves: 3t :->18 | 3f :->18
  
  · rw [nb_M4 hk]
    refine (t17_X0_asked_18 (t17_X0_asked_19 (by first | assumption | rfl) ((c_b22 (hk := hk))) (by decide) (fun r19 => (t17_X0_asked_22 ?_))))
    -- 1 leaves: :ret22
    exact qfl r19 rfl
  · exact absurd c3 (by decide)
theorem c_b11 {E : En} {I L : MI} {z : Int} (hw : AskW I L := by assumption) (hk : I 38 5 = 1 ∨ I 38 5 = 5) (hz : 0 ≤ z ∧ z ≤ 17 := by omega) : CFl E 7 M_X0_body [vr 38, vi 11, vi z] I L (I 38 4 + (I 38 2 + 10 * (L 38 3).tmod 7)) (ltI (ltI (ltI (ltI I 11) 10) 21) 20) L := by
  have hb := hw.1
  have w1 := AskW_l (n := 11) hw
  have w2 := AskW_l (n := 10) w1
  have e4 : ltI I 11 38 4 = I 38 4 := ltI_k (by decide)
  have e6 : ltI (ltI I 11) 10 38 2 = I 38 2 := by rw [ltI_k (by decide), ltI_k (by decide)]
  have e5 : ltI (ltI I 11) 10 38 5 = I 38 5 := by rw [ltI_k (by decide), ltI_k (by decide)]
  have b := hw.2.2
  have b2 := hw.2.1
  have m := m7 b.2
  refine CM_of' (al := [vr _, vi _, vi _, vu]) rfl (Nat.le_of_ble_eq_true rfl) rfl (fun hM => ?_)
  refine (t17_X0_body_0 (t17_X0_body_1 (t17_X0_body_3 (by omega) (by omega) (fun c3 => (t17_X0_body_8 (t17_X0_body_9 (t17_X0_body_10 (by first | assumption | rfl) c_X0_leaveTrace (by decide) (t17_X0_body_13 (t17_X0_body_14 (t17_X0_body_15 (t17_X0_body_16 (t17_X0_body_17 (t17_X0_body_18v7 (by omega) ?_)))))))))) (fun c3 => (t17_X0_body_6 (t17_X0_body_7 ?_))))))
  -- 2 leaves: 3t :->98 | 3f :ret7
  · refine (t17_X0_body_98 (t17_X0_body_99 (t17_X0_body_101 (t17_X0_body_102 (by first | assumption | rfl) c_b10 (by decide) (fun r102 => (t17_X0_body_105 (t17_X0_body_106 (t17_X0_body_107 (t17_X0_body_108 (by first | assumption | rfl) ((c_aM1 (hk := by rw [e5]; exact hk))) (by decide) (fun r108 => (t17_X0_body_111 (t17_X0_body_112 ?_))))))))))))
    -- 1 leaves: :ret112
    exact qfl (by omega) (by rw [e4, e6])
  · omega
theorem c_b11w {E : En} {I L : MI} {z : Int} (hw : AskW I L := by assumption) (hk : I 38 5 = 2) (hz : 0 ≤ z ∧ z ≤ 17 := by omega) : CFl E 7 M_X0_body [vr 38, vi 11, vi z] I L (I 38 4 + (I 38 2 + 10 * (L 38 3).tmod 7 + 1000)) (ltI (ltI (ltI (ltI (ltI I 11) 10) 23) 21) 20) L := by
  have hb := hw.1
  have w1 := AskW_l (n := 11) hw
  have w2 := AskW_l (n := 10) w1
  have e4 : ltI I 11 38 4 = I 38 4 := ltI_k (by decide)
  have e6 : ltI (ltI I 11) 10 38 2 = I 38 2 := by rw [ltI_k (by decide), ltI_k (by decide)]
  have e5 : ltI (ltI I 11) 10 38 5 = I 38 5 := by rw [ltI_k (by decide), ltI_k (by decide)]
  have b := hw.2.2
  have b2 := hw.2.1
  have m := m7 b.2
  refine CM_of' (al := [vr _, vi _, vi _, vu]) rfl (Nat.le_of_ble_eq_true rfl) rfl (fun hM => ?_)
  refine (t17_X0_body_0 (t17_X0_body_1 (t17_X0_body_3 (by omega) (by omega) (fun c3 => (t17_X0_body_8 (t17_X0_body_9 (t17_X0_body_10 (by first | assumption | rfl) c_X0_leaveTrace (by decide) (t17_X0_body_13 (t17_X0_body_14 (t17_X0_body_15 (t17_X0_body_16 (t17_X0_body_17 (t17_X0_body_18v7 (by omega) ?_)))))))))) (fun c3 => (t17_X0_body_6 (t17_X0_body_7 ?_))))))
  -- 2 leaves: 3t :->98 | 3f :ret7
  · refine (t17_X0_body_98 (t17_X0_body_99 (t17_X0_body_101 (t17_X0_body_102 (by first | assumption | rfl) c_b10 (by decide) (fun r102 => (t17_X0_body_105 (t17_X0_body_106 (t17_X0_body_107 (t17_X0_body_108 (by first | assumption | rfl) ((c_aM2 (hk := by rw [e5]; exact hk))) (by decide) (fun r108 => (t17_X0_body_111 (t17_X0_body_112 ?_))))))))))))
    -- 1 leaves: :ret112
    exact qfl (by omega) (by rw [e4, e6])
  · omega
theorem c_b12 {E : En} {I L : MI} {z : Int} (hw : AskW I L := by assumption) (hk : I 38 5 = 2) (hz : 0 ≤ z ∧ z ≤ 16 := by omega) : CFl E 8 M_X0_body [vr 38, vi 12, vi z] I L (2 * (I 38 4 + (I 38 2 + 10 * (L 38 3).tmod 7 + 1000))) (ltI (ltI (ltI (ltI (ltI (ltI I 12) 11) 10) 23) 21) 20) L := by
  have hb := hw.1
  have w1 := AskW_l (n := 12) hw
  have e4 : ltI I 12 38 4 = I 38 4 := ltI_k (by decide)
  have e6 : ltI I 12 38 2 = I 38 2 := ltI_k (by decide)
  have e5 : ltI I 12 38 5 = I 38 5 := ltI_k (by decide)
  have b := hw.2.2
  have b2 := hw.2.1
  have m := m7 b.2
  refine CM_of' (al := [vr _, vi _, vi _, vu]) rfl (Nat.le_of_ble_eq_true rfl) rfl (fun hM => ?_)
  refine (t17_X0_body_0 (t17_X0_body_1 (t17_X0_body_3 (by omega) (by omega) (fun c3 => (t17_X0_body_8 (t17_X0_body_9 (t17_X0_body_10 (by first | assumption | rfl) c_X0_leaveTrace (by decide) (t17_X0_body_13 (t17_X0_body_14 (t17_X0_body_15 (t17_X0_body_16 (t17_X0_body_17 (t17_X0_body_18v8 (by omega) ?_)))))))))) (fun c3 => (t17_X0_body_6 (t17_X0_body_7 ?_))))))
  -- 2 leaves: 3t :->113 | 3f :ret7
  · refine (t17_X0_body_113 (t17_X0_body_116 (t17_X0_body_117 (t17_X0_body_119 (t17_X0_body_120 (by first | assumption | rfl) ((c_b11w (hk := by rw [e5]; exact hk))) (by decide) (fun r120 => (t17_X0_body_123 (t17_X0_body_124 ?_))))))))
    -- 1 leaves: :ret124
    exact qfl (by omega) (by rw [e4, e6])
  · omega
theorem c_b14 {E : En} {I L : MI} {z : Int} (hw : AskW I L := by assumption) (hk : I 38 5 = 5) (hz : 0 ≤ z ∧ z ≤ 16 := by omega) : CFl E 8 M_X0_body [vr 38, vi 14, vi z] I L (-(I 38 4 + (I 38 2 + 10 * (L 38 3).tmod 7))) (ltI (ltI (ltI (ltI (ltI I 14) 11) 10) 21) 20) L := by
  have hb := hw.1
  have w1 := AskW_l (n := 14) hw
  have e4 : ltI I 14 38 4 = I 38 4 := ltI_k (by decide)
  have e6 : ltI I 14 38 2 = I 38 2 := ltI_k (by decide)
  have e5 : ltI I 14 38 5 = I 38 5 := ltI_k (by decide)
  have b := hw.2.2
  have b2 := hw.2.1
  have m := m7 b.2
  refine CM_of' (al := [vr _, vi _, vi _, vu]) rfl (Nat.le_of_ble_eq_true rfl) rfl (fun hM => ?_)
  refine (t17_X0_body_0 (t17_X0_body_1 (t17_X0_body_3 (by omega) (by omega) (fun c3 => (t17_X0_body_8 (t17_X0_body_9 (t17_X0_body_10 (by first | assumption | rfl) c_X0_leaveTrace (by decide) (t17_X0_body_13 (t17_X0_body_14 (t17_X0_body_15 (t17_X0_body_16 (t17_X0_body_17 (t17_X0_body_18v9 (by omega) ?_)))))))))) (fun c3 => (t17_X0_body_6 (t17_X0_body_7 ?_))))))
  -- 2 leaves: 3t :->134 | 3f :ret7
  · refine (t17_X0_body_134 (t17_X0_body_135 (t17_X0_body_137 (t17_X0_body_138 (by first | assumption | rfl) ((c_b11 (hk := by rw [e5]; exact .inr hk))) (by decide) (fun r138 => (t17_X0_body_141 (t17_X0_body_142 ?_)))))))
    -- 1 leaves: :ret142
    exact qfl (by omega) (by rw [e4, e6])
  · omega
theorem c_aS1 {E : En} {I L : MI} {z : Int} (hw : AskW I L := by assumption) (hk : I 38 5 = 1) (hz : 0 ≤ z ∧ z ≤ 16 := by omega) : CFl E 9 M_X0_asked [vr 38, vi 0, vi z] I L (I 38 4 + (I 38 2 + 10 * (L 38 3).tmod 7)) (ltI (ltI (ltI (ltI I 11) 10) 21) 20) L := by
  refine CM_of' (al := [vr _, vi _, vi _]) rfl (Nat.le_of_ble_eq_true rfl) rfl (fun hM => ?_)
  refine (t17_X0_asked_0 (t17_X0_asked_1 (t17_X0_asked_2 (t17_X0_asked_3 (by omega) (fun c3 => (t17_X0_asked_12 (t17_X0_asked_15 (by first | assumption | rfl) c_X0_nearestBody (by decide) (fun r15 => ?_)))) (fun c3 => (t17_X0_asked_6 (t17_X0_asked_9 (t17_X0_asked_15 (by first | assumption | rfl) c_X0_nearestBody (by decide) (fun r15 => ?_)))))))))
  -- 2 leaves: 3t :->18 | 3f :->18
  · exact absurd c3 (by decide)
  · rw [nb_S1 hk]
    refine (t17_X0_asked_18 (t17_X0_asked_19 (by first | assumption | rfl) ((c_b11 (hk := .inl hk))) (by decide) (fun r19 => (t17_X0_asked_22 ?_))))
    -- 1 leaves: :ret22
    exact qfl r19 rfl
  
theorem c_aS2 {E : En} {I L : MI} {z : Int} (hw : AskW I L := by assumption) (hk : I 38 5 = 2) (hz : 0 ≤ z ∧ z ≤ 16 := by omega) : CFl E 9 M_X0_asked [vr 38, vi 0, vi z] I L (2 * (I 38 4 + (I 38 2 + 10 * (L 38 3).tmod 7 + 1000))) (ltI (ltI (ltI (ltI (ltI (ltI I 12) 11) 10) 23) 21) 20) L := by
  refine CM_of' (al := [vr _, vi _, vi _]) rfl (Nat.le_of_ble_eq_true rfl) rfl (fun hM => ?_)
  refine (t17_X0_asked_0 (t17_X0_asked_1 (t17_X0_asked_2 (t17_X0_asked_3 (by omega) (fun c3 => (t17_X0_asked_12 (t17_X0_asked_15 (by first | assumption | rfl) c_X0_nearestBody (by decide) (fun r15 => ?_)))) (fun c3 => (t17_X0_asked_6 (t17_X0_asked_9 (t17_X0_asked_15 (by first | assumption | rfl) c_X0_nearestBody (by decide) (fun r15 => ?_)))))))))
  -- 2 leaves: 3t :->18 | 3f :->18
  · exact absurd c3 (by decide)
  · rw [nb_S2 hk]
    refine (t17_X0_asked_18 (t17_X0_asked_19 (by first | assumption | rfl) ((c_b12 (hk := hk))) (by decide) (fun r19 => (t17_X0_asked_22 ?_))))
    -- 1 leaves: :ret22
    exact qfl r19 rfl
  
theorem c_aS5 {E : En} {I L : MI} {z : Int} (hw : AskW I L := by assumption) (hk : I 38 5 = 5) (hz : 0 ≤ z ∧ z ≤ 16 := by omega) : CFl E 9 M_X0_asked [vr 38, vi 0, vi z] I L (-(I 38 4 + (I 38 2 + 10 * (L 38 3).tmod 7))) (ltI (ltI (ltI (ltI (ltI I 14) 11) 10) 21) 20) L := by
  refine CM_of' (al := [vr _, vi _, vi _]) rfl (Nat.le_of_ble_eq_true rfl) rfl (fun hM => ?_)
  refine (t17_X0_asked_0 (t17_X0_asked_1 (t17_X0_asked_2 (t17_X0_asked_3 (by omega) (fun c3 => (t17_X0_asked_12 (t17_X0_asked_15 (by first | assumption | rfl) c_X0_nearestBody (by decide) (fun r15 => ?_)))) (fun c3 => (t17_X0_asked_6 (t17_X0_asked_9 (t17_X0_asked_15 (by first | assumption | rfl) c_X0_nearestBody (by decide) (fun r15 => ?_)))))))))
  -- 2 leaves: 3t :->18 | 3f :->18
  · exact absurd c3 (by decide)
  · rw [nb_S5 hk]
    refine (t17_X0_asked_18 (t17_X0_asked_19 (by first | assumption | rfl) ((c_b14 (hk := hk))) (by decide) (fun r19 => (t17_X0_asked_22 ?_))))
    -- 1 leaves: :ret22
    exact qfl r19 rfl
  
theorem c_X0_begin {E : En} {I L : MI} {k v : Int} (hk : Ir k := by omega) (hv : Jr v := by omega) : CFv E 3 M_X0_begin [vr 38, vi k, vl v, vr 26] I L (up2 (up2 (up2 (up2 I 38 1 0) 38 2 k) 38 4 (I 26 2)) 38 5 (toldF (L 26 1) (I 26 3) (I 26 2) (I 27))) (up2 L 38 3 v) := by
  have p26 := PtS26
  refine CM_of' (al := [vr _, vi _, vl _, vu, vr _]) rfl (Nat.le_of_ble_eq_true rfl) rfl (fun hM => ?_)
  refine (t17_X0_begin_0 (t17_X0_begin_1 (t17_X0_begin_2 (by first | assumption | rfl) (by omega) (t17_X0_begin_5 (t17_X0_begin_6 (t17_X0_begin_7 (by first | assumption | rfl) (by omega) (t17_X0_begin_10 (t17_X0_begin_11 (t17_X0_begin_12 (by first | assumption | rfl) (by omega) (t17_X0_begin_15 (t17_X0_begin_16 (t17_X0_begin_18 (by first | assumption | rfl) (fun r18 => (t17_X0_begin_21 (by first | assumption | rfl) (by omega) (t17_X0_begin_24 (t17_X0_begin_25 (t17_X0_begin_27 (by first | assumption | rfl) c_X3_toldAs (by decide) (fun r27 => (t17_X0_begin_30 (by first | assumption | rfl) (by omega) (t17_X0_begin_33 ?_))))))))))))))))))))
  -- 1 leaves: :ret33
  refine qfv ?_ rfl
  rfl
