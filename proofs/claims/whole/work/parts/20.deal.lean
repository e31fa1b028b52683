theorem t20_X1_compare_55 {E : En} {d : Nat} {κ : Kp} {I L : MI} {Z : Zt} {a0 : Nat} {a1 a3 : Int}  (k : Ev E d M_X1_compare 56 [vr a0, vl a1, vu, vi a3] [vi a3] κ I L Z) : Ev E d M_X1_compare 55 [vr a0, vl a1, vu, vi a3] [] κ I L Z := E_iload_n dX1_compare_55 rfl k
theorem t20_X1_compare_56 {E : En} {d : Nat} {κ : Kp} {I L : MI} {Z : Zt} {a0 : Nat} {a1 a3 b0 : Int}  (k : Ev E d M_X1_compare 57 [vr a0, vl a1, vu, vi a3] [vr a0, vi b0] κ I L Z) : Ev E d M_X1_compare 56 [vr a0, vl a1, vu, vi a3] [vi b0] κ I L Z := E_aload_n dX1_compare_56 rfl k
theorem t20_X1_compare_57 {E : En} {d : Nat} {κ : Kp} {I L : MI} {Z : Zt} {a0 b0 : Nat} {a1 a3 b1 : Int} (hs : κ.1.1[b0]? = some (.inl 1)) (k : Ir (I b0 3) → Ev E d M_X1_compare 60 [vr a0, vl a1, vu, vi a3] [vi (I b0 3), vi b1] κ I L Z) : Ev E d M_X1_compare 57 [vr a0, vl a1, vu, vi a3] [vr b0, vi b1] κ I L Z := E_getI (ci := 1) (n := 3) dX1_compare_57 wF_RX1_25 (by decide) hs rfl k
theorem t20_X1_compare_60 {E : En} {d : Nat} {κ : Kp} {I L : MI} {Z : Zt} {a0 : Nat} {a1 a3 b0 b1 : Int} (hx : Ir b1) (hy : Ir b0) (kt : b0 ≤ b1 → Ev E d M_X1_compare 85 [vr a0, vl a1, vu, vi a3] [] κ I L Z) (kf : b1 < b0 → Ev E d M_X1_compare 63 [vr a0, vl a1, vu, vi a3] [] κ I L Z) : Ev E d M_X1_compare 60 [vr a0, vl a1, vu, vi a3] [vi b0, vi b1] κ I L Z := E_icmp_ge dX1_compare_60 hx hy kt kf (by decide)
theorem t20_X1_compare_85 {E : En} {d : Nat} {g : Geo} {I L : MI} {Q : Option AV → Geo → MI → MI → Prop} {cs : Nat × Nat} {a0 : Nat} {a1 a3 : Int} (hq : Q none g I L) (h1 : cs.1 ≤ M_X1_compare.2.2.2.2.1 := by decide) (h2 : cs.2 ≤ M_X1_compare.2.2.2.2.2 := by decide) : Ev E d M_X1_compare 85 [vr a0, vl a1, vu, vi a3] [] (g, cs) I L (ZQ E M_X1_compare Q) := E_return rfl dX1_compare_85 hq h1 h2
theorem t20_X1_compare_63 {E : En} {d : Nat} {κ : Kp} {I L : MI} {Z : Zt} {a0 : Nat} {a1 a3 : Int}  (k : Ev E d M_X1_compare 64 [vr a0, vl a1, vu, vi a3] [vr a0] κ I L Z) : Ev E d M_X1_compare 63 [vr a0, vl a1, vu, vi a3] [] κ I L Z := E_aload_n dX1_compare_63 rfl k
theorem t20_X1_compare_64 {E : En} {d : Nat} {κ : Kp} {I L : MI} {Z : Zt} {a0 b0 : Nat} {a1 a3 : Int} {q : Nat} (hs : κ.1.1[b0]? = some (.inl 1)) (hq : κ.1.2 b0 5 = some q) (k : Ev E d M_X1_compare 67 [vr a0, vl a1, vu, vi a3] [vr q] κ I L Z) : Ev E d M_X1_compare 64 [vr a0, vl a1, vu, vi a3] [vr b0] κ I L Z := E_getR (ci := 1) (n := 5) dX1_compare_64 wF_RX1_22 (by decide) hs rfl hq k
theorem t20_X1_compare_67 {E : En} {d : Nat} {κ : Kp} {I L : MI} {Z : Zt} {a0 b0 : Nat} {a1 a3 : Int}  (k : Ev E d M_X1_compare 68 [vr a0, vl a1, vu, vi a3] [vi a3, vr b0] κ I L Z) : Ev E d M_X1_compare 67 [vr a0, vl a1, vu, vi a3] [vr b0] κ I L Z := E_iload_n dX1_compare_67 rfl k
theorem t20_X1_compare_68 {E : En} {d : Nat} {κ : Kp} {I L : MI} {Z : Zt} {a0 b1 : Nat} {a1 a3 b0 : Int}  (k : Ev E d M_X1_compare 69 [vr a0, vl a1, vu, vi a3] [vr a0, vi b0, vr b1] κ I L Z) : Ev E d M_X1_compare 68 [vr a0, vl a1, vu, vi a3] [vi b0, vr b1] κ I L Z := E_aload_n dX1_compare_68 rfl k
theorem t20_X1_compare_69 {E : En} {d : Nat} {κ : Kp} {I L : MI} {Z : Zt} {a0 b0 b2 : Nat} {a1 a3 b1 : Int} {q : Nat} (hs : κ.1.1[b0]? = some (.inl 1)) (hq : κ.1.2 b0 1 = some q) (k : Ev E d M_X1_compare 72 [vr a0, vl a1, vu, vi a3] [vr q, vi b1, vr b2] κ I L Z) : Ev E d M_X1_compare 69 [vr a0, vl a1, vu, vi a3] [vr b0, vi b1, vr b2] κ I L Z := E_getR (ci := 1) (n := 1) dX1_compare_69 wF_RX1_15 (by decide) hs rfl hq k
theorem t20_X1_compare_72 {E : En} {d : Nat} {κ : Kp} {I L : MI} {Z : Zt} {a0 b0 b2 : Nat} {a1 a3 b1 : Int}  (k : Ev E d M_X1_compare 73 [vr a0, vl a1, vu, vi a3] [vi a3, vr b0, vi b1, vr b2] κ I L Z) : Ev E d M_X1_compare 72 [vr a0, vl a1, vu, vi a3] [vr b0, vi b1, vr b2] κ I L Z := E_iload_n dX1_compare_72 rfl k
theorem t20_X1_compare_73 {E : En} {d d' : Nat} {cs : Nat × Nat} {I L : MI} {Z : Zt} {a0 b1 b3 : Nat} {a1 a3 b0 b2 : Int} {z : Int} {I' L' : MI} (hM : CFi E d' M_X10_at [vr b1, vi b0] I L z I' L') (hlt : d' + 1 ≤ d) (k : Ir z → Ev E d M_X1_compare 76 [vr a0, vl a1, vu, vi a3] [vi z, vi b2, vr b3] (G0, cs) I' L' Z) (hc1 : cs.1 ≤ M_X1_compare.2.2.2.2.1 := by decide) (hc2 : cs.2 ≤ M_X1_compare.2.2.2.2.2 := by decide) : Ev E d M_X1_compare 73 [vr a0, vl a1, vu, vi a3] [vi b0, vr b1, vi b2, vr b3] (G0, cs) I L Z := E_callSN (as := [vr b1, vi b0]) (rest := [vi b2, vr b3]) (n := 2) hM dX1_compare_73 rfl (host := "SaidByTimes") (cl := RX1) (by decide +kernel) wS_X10_at hlt wC_X10_at wI_X10 (by decide +kernel) rfl (by decide) (Nat.le_of_ble_eq_true rfl) hc1 hc2 rfl (fun r g' I2 L2 h => by obtain ⟨rfl, z, rfl, hr, rfl, rfl, rfl⟩ := h; exact k hr)
theorem t20_X1_compare_76 {E : En} {d d' : Nat} {cs : Nat × Nat} {I L : MI} {Z : Zt} {a0 b2 : Nat} {a1 a3 b0 b1 : Int} {I' L' : MI} (hM : CFv E d' M_X10_store [vr b2, vi b1, vi b0] I L I' L') (hlt : d' + 1 ≤ d) (k : Ev E d M_X1_compare 79 [vr a0, vl a1, vu, vi a3] [] (G0, cs) I' L' Z) (hc1 : cs.1 ≤ M_X1_compare.2.2.2.2.1 := by decide) (hc2 : cs.2 ≤ M_X1_compare.2.2.2.2.2 := by decide) : Ev E d M_X1_compare 76 [vr a0, vl a1, vu, vi a3] [vi b0, vi b1, vr b2] (G0, cs) I L Z := E_callSN (as := [vr b2, vi b1, vi b0]) (rest := []) (n := 3) hM dX1_compare_76 rfl (host := "SaidByTimes") (cl := RX1) (by decide +kernel) wS_X10_store hlt wC_X10_store wI_X10 (by decide +kernel) rfl (by decide) (Nat.le_of_ble_eq_true rfl) hc1 hc2 rfl (fun r g' I2 L2 h => by obtain ⟨rfl, rfl, rfl, rfl⟩ := h; exact k)
theorem t20_X1_compare_79 {E : En} {d : Nat} {κ : Kp} {I L : MI} {Z : Zt} {a0 : Nat} {a1 a3 : Int}  (k : Ev E d M_X1_compare 82 [vr a0, vl a1, vu, vi (a3 + 1)] [] κ I L Z) : Ev E d M_X1_compare 79 [vr a0, vl a1, vu, vi a3] [] κ I L Z := E_iinc dX1_compare_79 rfl rfl (Nat.le_of_ble_eq_true rfl) k
theorem t20_X1_compare_82 {E : En} {d : Nat} {κ : Kp} {I L : MI} {Z : Zt} {a0 : Nat} {a1 a3 : Int}  (k : Ev E d M_X1_compare 55 [vr a0, vl a1, vu, vi a3] [] κ I L Z) : Ev E d M_X1_compare 82 [vr a0, vl a1, vu, vi a3] [] κ I L Z := E_goto dX1_compare_82 (by decide) k
theorem t20_X1_compare_4 {E : En} {d : Nat} {κ : Kp} {I L : MI} {Z : Zt} {a0 : Nat} {a1 a3 : Int}  (k : Ev E d M_X1_compare 5 [vr a0, vl a1, vu, vi a3] [vi a3] κ I L Z) : Ev E d M_X1_compare 4 [vr a0, vl a1, vu, vi a3] [] κ I L Z := E_iload_n dX1_compare_4 rfl k
theorem t20_X1_compare_5 {E : En} {d : Nat} {κ : Kp} {I L : MI} {Z : Zt} {a0 : Nat} {a1 a3 b0 : Int}  (k : Ev E d M_X1_compare 6 [vr a0, vl a1, vu, vi a3] [vr a0, vi b0] κ I L Z) : Ev E d M_X1_compare 5 [vr a0, vl a1, vu, vi a3] [vi b0] κ I L Z := E_aload_n dX1_compare_5 rfl k
theorem t20_X1_compare_6 {E : En} {d : Nat} {κ : Kp} {I L : MI} {Z : Zt} {a0 b0 : Nat} {a1 a3 b1 : Int} (hs : κ.1.1[b0]? = some (.inl 1)) (k : Ir (I b0 4) → Ev E d M_X1_compare 9 [vr a0, vl a1, vu, vi a3] [vi (I b0 4), vi b1] κ I L Z) : Ev E d M_X1_compare 6 [vr a0, vl a1, vu, vi a3] [vr b0, vi b1] κ I L Z := E_getI (ci := 1) (n := 4) dX1_compare_6 wF_RX1_29 (by decide) hs rfl k
theorem t20_X1_compare_9 {E : En} {d : Nat} {κ : Kp} {I L : MI} {Z : Zt} {a0 : Nat} {a1 a3 b0 b1 : Int} (hx : Ir b1) (hy : Ir b0) (kt : b0 ≤ b1 → Ev E d M_X1_compare 30 [vr a0, vl a1, vu, vi a3] [] κ I L Z) (kf : b1 < b0 → Ev E d M_X1_compare 12 [vr a0, vl a1, vu, vi a3] [] κ I L Z) : Ev E d M_X1_compare 9 [vr a0, vl a1, vu, vi a3] [vi b0, vi b1] κ I L Z := E_icmp_ge dX1_compare_9 hx hy kt kf (by decide)
theorem t20_X1_compare_30 {E : En} {d : Nat} {κ : Kp} {I L : MI} {Z : Zt} {a0 : Nat} {a1 a3 : Int}  (k : Ev E d M_X1_compare 31 [vr a0, vl a1, vu, vi a3] [vr a0] κ I L Z) : Ev E d M_X1_compare 30 [vr a0, vl a1, vu, vi a3] [] κ I L Z := E_aload_n dX1_compare_30 rfl k
theorem t20_X1_compare_31 {E : En} {d : Nat} {κ : Kp} {I L : MI} {Z : Zt} {a0 b0 : Nat} {a1 a3 : Int} (hs : κ.1.1[b0]? = some (.inl 1)) (k : Jr (L b0 6) → Ev E d M_X1_compare 34 [vr a0, vl a1, vu, vi a3] [vl (L b0 6)] κ I L Z) : Ev E d M_X1_compare 31 [vr a0, vl a1, vu, vi a3] [vr b0] κ I L Z := E_getL (ci := 1) (n := 6) dX1_compare_31 wF_RX1_42 (by decide) hs rfl k
theorem t20_X1_compare_34 {E : En} {d : Nat} {κ : Kp} {I L : MI} {Z : Zt} {a0 : Nat} {a1 a3 b0 : Int}  (k : Ev E d M_X1_compare 35 [vr a0, vl a1, vu, vi a3] [vl 0, vl b0] κ I L Z) : Ev E d M_X1_compare 34 [vr a0, vl a1, vu, vi a3] [vl b0] κ I L Z := E_lconst (v := 0) dX1_compare_34 rfl k
theorem t20_X1_compare_35 {E : En} {d : Nat} {κ : Kp} {I L : MI} {Z : Zt} {a0 : Nat} {a1 a3 b0 b1 : Int} (hx : Jr b1) (hy : Jr b0) (kt : b1 = b0 → Ev E d M_X1_compare 48 [vr a0, vl a1, vu, vi a3] [] κ I L Z) (kf : ¬ b1 = b0 → Ev E d M_X1_compare 39 [vr a0, vl a1, vu, vi a3] [] κ I L Z) : Ev E d M_X1_compare 35 [vr a0, vl a1, vu, vi a3] [vl b0, vl b1] κ I L Z := E_lcmp_eq dX1_compare_35 dX1_compare_36 hx hy kt kf (by decide)
theorem t20_X1_compare_48 {E : En} {d : Nat} {κ : Kp} {I L : MI} {Z : Zt} {a0 : Nat} {a1 a3 : Int}  (k : Ev E d M_X1_compare 49 [vr a0, vl a1, vu, vi a3] [vr a0] κ I L Z) : Ev E d M_X1_compare 48 [vr a0, vl a1, vu, vi a3] [] κ I L Z := E_aload_n dX1_compare_48 rfl k
theorem t20_X1_compare_49 {E : En} {d : Nat} {κ : Kp} {I L : MI} {Z : Zt} {a0 b0 : Nat} {a1 a3 : Int}  (k : Ev E d M_X1_compare 50 [vr a0, vl a1, vu, vi a3] [vl a1, vr b0] κ I L Z) : Ev E d M_X1_compare 49 [vr a0, vl a1, vu, vi a3] [vr b0] κ I L Z := E_lload_n dX1_compare_49 rfl k
theorem t20_X1_compare_50 {E : En} {d : Nat} {κ : Kp} {I L : MI} {Z : Zt} {a0 b1 : Nat} {a1 a3 b0 : Int} (hs : κ.1.1[b1]? = some (.inl 1)) (hz : Jr b0) (k : Ev E d M_X1_compare 53 [vr a0, vl a1, vu, vi a3] [] κ I (up2 L b1 6 b0) Z) : Ev E d M_X1_compare 50 [vr a0, vl a1, vu, vi a3] [vl b0, vr b1] κ I L Z := E_putL (ci := 1) (n := 6) dX1_compare_50 wF_RX1_42 (by decide) hs rfl rfl hz k
theorem t20_X1_compare_53 {E : En} {d : Nat} {κ : Kp} {I L : MI} {Z : Zt} {a0 : Nat} {a1 a3 : Int}  (k : Ev E d M_X1_compare 54 [vr a0, vl a1, vu, vi a3] [vi 0] κ I L Z) : Ev E d M_X1_compare 53 [vr a0, vl a1, vu, vi a3] [] κ I L Z := E_iconst (v := 0) dX1_compare_53 rfl k
theorem t20_X1_compare_54 {E : En} {d : Nat} {κ : Kp} {I L : MI} {Z : Zt} {a0 : Nat} {a1 a3 b0 : Int}  (k : Ev E d M_X1_compare 55 [vr a0, vl a1, vu, vi b0] [] κ I L Z) : Ev E d M_X1_compare 54 [vr a0, vl a1, vu, vi a3] [vi b0] κ I L Z := E_istore_n dX1_compare_54 rfl (Nat.le_of_ble_eq_true rfl) k
theorem t20_X1_compare_39 {E : En} {d : Nat} {κ : Kp} {I L : MI} {Z : Zt} {a0 : Nat} {a1 a3 : Int}  (k : Ev E d M_X1_compare 40 [vr a0, vl a1, vu, vi a3] [vl a1] κ I L Z) : Ev E d M_X1_compare 39 [vr a0, vl a1, vu, vi a3] [] κ I L Z := E_lload_n dX1_compare_39 rfl k
theorem t20_X1_compare_40 {E : En} {d : Nat} {κ : Kp} {I L : MI} {Z : Zt} {a0 : Nat} {a1 a3 b0 : Int}  (k : Ev E d M_X1_compare 41 [vr a0, vl a1, vu, vi a3] [vr a0, vl b0] κ I L Z) : Ev E d M_X1_compare 40 [vr a0, vl a1, vu, vi a3] [vl b0] κ I L Z := E_aload_n dX1_compare_40 rfl k
theorem t20_X1_compare_41 {E : En} {d : Nat} {κ : Kp} {I L : MI} {Z : Zt} {a0 b0 : Nat} {a1 a3 b1 : Int} (hs : κ.1.1[b0]? = some (.inl 1)) (k : Jr (L b0 6) → Ev E d M_X1_compare 44 [vr a0, vl a1, vu, vi a3] [vl (L b0 6), vl b1] κ I L Z) : Ev E d M_X1_compare 41 [vr a0, vl a1, vu, vi a3] [vr b0, vl b1] κ I L Z := E_getL (ci := 1) (n := 6) dX1_compare_41 wF_RX1_42 (by decide) hs rfl k
theorem t20_X1_compare_44 {E : En} {d : Nat} {κ : Kp} {I L : MI} {Z : Zt} {a0 : Nat} {a1 a3 b0 b1 : Int} (hx : Jr b1) (hy : Jr b0) (kt : b0 ≤ b1 → Ev E d M_X1_compare 85 [vr a0, vl a1, vu, vi a3] [] κ I L Z) (kf : b1 < b0 → Ev E d M_X1_compare 48 [vr a0, vl a1, vu, vi a3] [] κ I L Z) : Ev E d M_X1_compare 44 [vr a0, vl a1, vu, vi a3] [vl b0, vl b1] κ I L Z := E_lcmp_ge dX1_compare_44 dX1_compare_45 hx hy kt kf (by decide)
theorem t20_X1_compare_12 {E : En} {d : Nat} {κ : Kp} {I L : MI} {Z : Zt} {a0 : Nat} {a1 a3 : Int}  (k : Ev E d M_X1_compare 13 [vr a0, vl a1, vu, vi a3] [vl a1] κ I L Z) : Ev E d M_X1_compare 12 [vr a0, vl a1, vu, vi a3] [] κ I L Z := E_lload_n dX1_compare_12 rfl k
theorem t20_X1_compare_13 {E : En} {d : Nat} {κ : Kp} {I L : MI} {Z : Zt} {a0 : Nat} {a1 a3 b0 : Int}  (k : Ev E d M_X1_compare 14 [vr a0, vl a1, vu, vi a3] [vr a0, vl b0] κ I L Z) : Ev E d M_X1_compare 13 [vr a0, vl a1, vu, vi a3] [vl b0] κ I L Z := E_aload_n dX1_compare_13 rfl k
theorem t20_X1_compare_14 {E : En} {d : Nat} {κ : Kp} {I L : MI} {Z : Zt} {a0 b0 : Nat} {a1 a3 b1 : Int}  (k : Ev E d M_X1_compare 15 [vr a0, vl a1, vu, vi a3] [vr a0, vr b0, vl b1] κ I L Z) : Ev E d M_X1_compare 14 [vr a0, vl a1, vu, vi a3] [vr b0, vl b1] κ I L Z := E_aload_n dX1_compare_14 rfl k
theorem t20_X1_compare_15 {E : En} {d : Nat} {κ : Kp} {I L : MI} {Z : Zt} {a0 b0 b1 : Nat} {a1 a3 b2 : Int} (hs : κ.1.1[b0]? = some (.inl 1)) (k : Ir (I b0 3) → Ev E d M_X1_compare 18 [vr a0, vl a1, vu, vi a3] [vi (I b0 3), vr b1, vl b2] κ I L Z) : Ev E d M_X1_compare 15 [vr a0, vl a1, vu, vi a3] [vr b0, vr b1, vl b2] κ I L Z := E_getI (ci := 1) (n := 3) dX1_compare_15 wF_RX1_25 (by decide) hs rfl k
theorem t20_X1_compare_18 {E : En} {d : Nat} {κ : Kp} {I L : MI} {Z : Zt} {a0 b1 : Nat} {a1 a3 b0 b2 : Int}  (k : Ev E d M_X1_compare 19 [vr a0, vl a1, vu, vi a3] [vi a3, vi b0, vr b1, vl b2] κ I L Z) : Ev E d M_X1_compare 18 [vr a0, vl a1, vu, vi a3] [vi b0, vr b1, vl b2] κ I L Z := E_iload_n dX1_compare_18 rfl k
theorem t20_X1_compare_19 {E : En} {d d' : Nat} {cs : Nat × Nat} {I L : MI} {Z : Zt} {a0 b2 : Nat} {a1 a3 b0 b1 b3 : Int} {z : Int} {I' L' : MI} (hs : G0.1[b2]? = some (.inl 1)) (hM : CFl E d' M_X1_madeAt [vr b2, vi b1, vi b0] I L z I' L') (hlt : d' + 1 ≤ d) (k : Jr z → Ev E d M_X1_compare 22 [vr a0, vl a1, vu, vi a3] [vl z, vl b3] (G0, cs) I' L' Z) (hc1 : cs.1 ≤ M_X1_compare.2.2.2.2.1 := by decide) (hc2 : cs.2 ≤ M_X1_compare.2.2.2.2.2 := by decide) : Ev E d M_X1_compare 19 [vr a0, vl a1, vu, vi a3] [vi b0, vi b1, vr b2, vl b3] (G0, cs) I L Z := E_callV (as := [vi b1, vi b0]) (rest := [vl b3]) (n := 2) hM dX1_compare_19 wM_RX1_66 wS_X1_madeAt wV_X1_madeAt hs (by decide) rfl hlt wC_X1_madeAt wI_X1 (by decide +kernel) rfl (by decide) (Nat.le_of_ble_eq_true rfl) hc1 hc2 rfl (fun r g' I2 L2 h => by obtain ⟨rfl, z, rfl, hr, rfl, rfl, rfl⟩ := h; exact k hr)
theorem t20_X1_compare_22 {E : En} {d : Nat} {κ : Kp} {I L : MI} {Z : Zt} {a0 : Nat} {a1 a3 b0 b1 : Int}  (k : Ev E d M_X1_compare 23 [vr a0, vl a1, vu, vi a3] [vl (b1 + b0)] κ I L Z) : Ev E d M_X1_compare 22 [vr a0, vl a1, vu, vi a3] [vl b0, vl b1] κ I L Z := E_ladd dX1_compare_22 k
theorem t20_X1_compare_23 {E : En} {d : Nat} {κ : Kp} {I L : MI} {Z : Zt} {a0 : Nat} {a1 a3 b0 : Int}  (k : Ev E d M_X1_compare 24 [vr a0, vl b0, vu, vi a3] [] κ I L Z) : Ev E d M_X1_compare 23 [vr a0, vl a1, vu, vi a3] [vl b0] κ I L Z := E_lstore_n dX1_compare_23 rfl (Nat.le_of_ble_eq_true rfl) k
theorem t20_X1_compare_24 {E : En} {d : Nat} {κ : Kp} {I L : MI} {Z : Zt} {a0 : Nat} {a1 a3 : Int}  (k : Ev E d M_X1_compare 27 [vr a0, vl a1, vu, vi (a3 + 1)] [] κ I L Z) : Ev E d M_X1_compare 24 [vr a0, vl a1, vu, vi a3] [] κ I L Z := E_iinc dX1_compare_24 rfl rfl (Nat.le_of_ble_eq_true rfl) k
theorem t20_X1_compare_27 {E : En} {d : Nat} {κ : Kp} {I L : MI} {Z : Zt} {a0 : Nat} {a1 a3 : Int}  (k : Ev E d M_X1_compare 4 [vr a0, vl a1, vu, vi a3] [] κ I L Z) : Ev E d M_X1_compare 27 [vr a0, vl a1, vu, vi a3] [] κ I L Z := E_goto dX1_compare_27 (by decide) k
theorem t20_X1_compare_0 {E : En} {d : Nat} {κ : Kp} {I L : MI} {Z : Zt} {a0 : Nat}  (k : Ev E d M_X1_compare 1 [vr a0, vu, vu, vu] [vl 0] κ I L Z) : Ev E d M_X1_compare 0 [vr a0, vu, vu, vu] [] κ I L Z := E_lconst (v := 0) dX1_compare_0 rfl k
theorem t20_X1_compare_1 {E : En} {d : Nat} {κ : Kp} {I L : MI} {Z : Zt} {a0 : Nat} {b0 : Int}  (k : Ev E d M_X1_compare 2 [vr a0, vl b0, vu, vu] [] κ I L Z) : Ev E d M_X1_compare 1 [vr a0, vu, vu, vu] [vl b0] κ I L Z := E_lstore_n dX1_compare_1 rfl (Nat.le_of_ble_eq_true rfl) k
theorem t20_X1_compare_2 {E : En} {d : Nat} {κ : Kp} {I L : MI} {Z : Zt} {a0 : Nat} {a1 : Int}  (k : Ev E d M_X1_compare 3 [vr a0, vl a1, vu, vu] [vi 0] κ I L Z) : Ev E d M_X1_compare 2 [vr a0, vl a1, vu, vu] [] κ I L Z := E_iconst (v := 0) dX1_compare_2 rfl k
theorem t20_X1_compare_3 {E : En} {d : Nat} {κ : Kp} {I L : MI} {Z : Zt} {a0 : Nat} {a1 b0 : Int}  (k : Ev E d M_X1_compare 4 [vr a0, vl a1, vu, vi b0] [] κ I L Z) : Ev E d M_X1_compare 3 [vr a0, vl a1, vu, vu] [vi b0] κ I L Z := E_istore_n dX1_compare_3 rfl (Nat.le_of_ble_eq_true rfl) k
theorem t20_X1_dealFrom_0 {E : En} {d : Nat} {κ : Kp} {I L : MI} {Z : Zt} {a0 a1 : Nat} {a2 a3 : Int}  (k : Ev E d M_X1_dealFrom 1 [vr a0, vr a1, vi a2, vi a3, vu, vu] [vi a2] κ I L Z) : Ev E d M_X1_dealFrom 0 [vr a0, vr a1, vi a2, vi a3, vu, vu] [] κ I L Z := E_iload_n dX1_dealFrom_0 rfl k
theorem t20_X1_dealFrom_1 {E : En} {d : Nat} {κ : Kp} {I L : MI} {Z : Zt} {a0 a1 : Nat} {a2 a3 b0 : Int}  (k : Ev E d M_X1_dealFrom 2 [vr a0, vr a1, vi a2, vi a3, vu, vu] [vr a0, vi b0] κ I L Z) : Ev E d M_X1_dealFrom 1 [vr a0, vr a1, vi a2, vi a3, vu, vu] [vi b0] κ I L Z := E_aload_n dX1_dealFrom_1 rfl k
theorem t20_X1_dealFrom_2 {E : En} {d : Nat} {κ : Kp} {I L : MI} {Z : Zt} {a0 a1 b0 : Nat} {a2 a3 b1 : Int} (hs : κ.1.1[b0]? = some (.inl 1)) (k : Ir (I b0 3) → Ev E d M_X1_dealFrom 5 [vr a0, vr a1, vi a2, vi a3, vu, vu] [vi (I b0 3), vi b1] κ I L Z) : Ev E d M_X1_dealFrom 2 [vr a0, vr a1, vi a2, vi a3, vu, vu] [vr b0, vi b1] κ I L Z := E_getI (ci := 1) (n := 3) dX1_dealFrom_2 wF_RX1_25 (by decide) hs rfl k
theorem t20_X1_dealFrom_5 {E : En} {d : Nat} {κ : Kp} {I L : MI} {Z : Zt} {a0 a1 : Nat} {a2 a3 b0 b1 : Int} (hx : Ir b1) (hy : Ir b0) (kt : b0 ≤ b1 → Ev E d M_X1_dealFrom 14 [vr a0, vr a1, vi a2, vi a3, vu, vu] [] κ I L Z) (kf : b1 < b0 → Ev E d M_X1_dealFrom 8 [vr a0, vr a1, vi a2, vi a3, vu, vu] [] κ I L Z) : Ev E d M_X1_dealFrom 5 [vr a0, vr a1, vi a2, vi a3, vu, vu] [vi b0, vi b1] κ I L Z := E_icmp_ge dX1_dealFrom_5 hx hy kt kf (by decide)
theorem t20_X1_dealFrom_14 {E : En} {d : Nat} {κ : Kp} {I L : MI} {Z : Zt} {a0 a1 : Nat} {a2 a3 : Int}  (k : Ev E d M_X1_dealFrom 15 [vr a0, vr a1, vi a2, vi a3, vu, vu] [vr a0] κ I L Z) : Ev E d M_X1_dealFrom 14 [vr a0, vr a1, vi a2, vi a3, vu, vu] [] κ I L Z := E_aload_n dX1_dealFrom_14 rfl k
theorem t20_X1_dealFrom_15 {E : En} {d d' : Nat} {cs : Nat × Nat} {I L : MI} {Z : Zt} {a0 a1 b0 : Nat} {a2 a3 : Int} {Q : MI → MI → Prop} (hs : G0.1[b0]? = some (.inl 1)) (hM : CQv E d' M_X1_compare [vr b0] I L Q) (hlt : d' + 1 ≤ d) (kk : ∀ (I' L' : MI), Q I' L' → Ev E d M_X1_dealFrom 18 [vr a0, vr a1, vi a2, vi a3, vu, vu] [] (G0, cs) I' L' Z) (hc1 : cs.1 ≤ M_X1_dealFrom.2.2.2.2.1 := by decide) (hc2 : cs.2 ≤ M_X1_dealFrom.2.2.2.2.2 := by decide) : Ev E d M_X1_dealFrom 15 [vr a0, vr a1, vi a2, vi a3, vu, vu] [vr b0] (G0, cs) I L Z := E_callV (as := []) (rest := []) (n := 0) hM dX1_dealFrom_15 wM_RX1_54 wS_X1_compare wV_X1_compare hs (by decide) rfl hlt wC_X1_compare wI_X1 (by decide +kernel) rfl (by decide) (Nat.le_of_ble_eq_true rfl) hc1 hc2 rfl (fun r g' I' L' h => by obtain ⟨rfl, rfl, h⟩ := h; exact kk I' L' h)
theorem t20_X1_dealFrom_8 {E : En} {d : Nat} {κ : Kp} {I L : MI} {Z : Zt} {a0 a1 : Nat} {a2 a3 : Int}  (k : Ev E d M_X1_dealFrom 9 [vr a0, vr a1, vi a2, vi a3, vu, vu] [vi a2] κ I L Z) : Ev E d M_X1_dealFrom 8 [vr a0, vr a1, vi a2, vi a3, vu, vu] [] κ I L Z := E_iload_n dX1_dealFrom_8 rfl k
theorem t20_X1_dealFrom_9 {E : En} {d : Nat} {κ : Kp} {I L : MI} {Z : Zt} {a0 a1 : Nat} {a2 a3 b0 : Int}  (k : Ev E d M_X1_dealFrom 11 [vr a0, vr a1, vi a2, vi a3, vu, vu] [vi 6, vi b0] κ I L Z) : Ev E d M_X1_dealFrom 9 [vr a0, vr a1, vi a2, vi a3, vu, vu] [vi b0] κ I L Z := E_bipush (v := 6) dX1_dealFrom_9 rfl k
theorem t20_X1_dealFrom_11 {E : En} {d : Nat} {κ : Kp} {I L : MI} {Z : Zt} {a0 a1 : Nat} {a2 a3 b0 b1 : Int} (hx : Ir b1) (hy : Ir b0) (kt : b1 < b0 → Ev E d M_X1_dealFrom 19 [vr a0, vr a1, vi a2, vi a3, vu, vu] [] κ I L Z) (kf : b0 ≤ b1 → Ev E d M_X1_dealFrom 14 [vr a0, vr a1, vi a2, vi a3, vu, vu] [] κ I L Z) : Ev E d M_X1_dealFrom 11 [vr a0, vr a1, vi a2, vi a3, vu, vu] [vi b0, vi b1] κ I L Z := E_icmp_lt dX1_dealFrom_11 hx hy kt kf (by decide)
theorem t20_X1_dealFrom_18 {E : En} {d : Nat} {g : Geo} {I L : MI} {Q : Option AV → Geo → MI → MI → Prop} {cs : Nat × Nat} {a0 a1 : Nat} {a2 a3 : Int} (hq : Q none g I L) (h1 : cs.1 ≤ M_X1_dealFrom.2.2.2.2.1 := by decide) (h2 : cs.2 ≤ M_X1_dealFrom.2.2.2.2.2 := by decide) : Ev E d M_X1_dealFrom 18 [vr a0, vr a1, vi a2, vi a3, vu, vu] [] (g, cs) I L (ZQ E M_X1_dealFrom Q) := E_return rfl dX1_dealFrom_18 hq h1 h2
theorem t20_X1_dealFrom_22 {E : En} {d : Nat} {κ : Kp} {I L : MI} {Z : Zt} {a0 a1 : Nat} {a2 a3 a4 : Int}  (k : Ev E d M_X1_dealFrom 24 [vr a0, vr a1, vi a2, vi a3, vi a4, vu] [vi a4] κ I L Z) : Ev E d M_X1_dealFrom 22 [vr a0, vr a1, vi a2, vi a3, vi a4, vu] [] κ I L Z := E_iload dX1_dealFrom_22 rfl k
theorem t20_X1_dealFrom_24 {E : En} {d : Nat} {κ : Kp} {I L : MI} {Z : Zt} {a0 a1 : Nat} {a2 a3 a4 b0 : Int}  (k : Ev E d M_X1_dealFrom 25 [vr a0, vr a1, vi a2, vi a3, vi a4, vu] [vr a0, vi b0] κ I L Z) : Ev E d M_X1_dealFrom 24 [vr a0, vr a1, vi a2, vi a3, vi a4, vu] [vi b0] κ I L Z := E_aload_n dX1_dealFrom_24 rfl k
theorem t20_X1_dealFrom_25 {E : En} {d : Nat} {κ : Kp} {I L : MI} {Z : Zt} {a0 a1 b0 : Nat} {a2 a3 a4 b1 : Int} (hs : κ.1.1[b0]? = some (.inl 1)) (k : Ir (I b0 3) → Ev E d M_X1_dealFrom 28 [vr a0, vr a1, vi a2, vi a3, vi a4, vu] [vi (I b0 3), vi b1] κ I L Z) : Ev E d M_X1_dealFrom 25 [vr a0, vr a1, vi a2, vi a3, vi a4, vu] [vr b0, vi b1] κ I L Z := E_getI (ci := 1) (n := 3) dX1_dealFrom_25 wF_RX1_25 (by decide) hs rfl k
theorem t20_X1_dealFrom_28 {E : En} {d : Nat} {κ : Kp} {I L : MI} {Z : Zt} {a0 a1 : Nat} {a2 a3 a4 b0 b1 : Int} (hx : Ir b1) (hy : Ir b0) (kt : b0 ≤ b1 → Ev E d M_X1_dealFrom 96 [vr a0, vr a1, vi a2, vi a3, vi a4, vu] [] κ I L Z) (kf : b1 < b0 → Ev E d M_X1_dealFrom 31 [vr a0, vr a1, vi a2, vi a3, vi a4, vu] [] κ I L Z) : Ev E d M_X1_dealFrom 28 [vr a0, vr a1, vi a2, vi a3, vi a4, vu] [vi b0, vi b1] κ I L Z := E_icmp_ge dX1_dealFrom_28 hx hy kt kf (by decide)
theorem t20_X1_dealFrom_96 {E : En} {d : Nat} {g : Geo} {I L : MI} {Q : Option AV → Geo → MI → MI → Prop} {cs : Nat × Nat} {a0 a1 : Nat} {a2 a3 a4 : Int} (hq : Q none g I L) (h1 : cs.1 ≤ M_X1_dealFrom.2.2.2.2.1 := by decide) (h2 : cs.2 ≤ M_X1_dealFrom.2.2.2.2.2 := by decide) : Ev E d M_X1_dealFrom 96 [vr a0, vr a1, vi a2, vi a3, vi a4, vu] [] (g, cs) I L (ZQ E M_X1_dealFrom Q) := E_return rfl dX1_dealFrom_96 hq h1 h2
theorem t20_X1_dealFrom_31 {E : En} {d : Nat} {κ : Kp} {I L : MI} {Z : Zt} {a0 a1 : Nat} {a2 a3 a4 : Int}  (k : Ev E d M_X1_dealFrom 32 [vr a0, vr a1, vi a2, vi a3, vi a4, vu] [vi a3] κ I L Z) : Ev E d M_X1_dealFrom 31 [vr a0, vr a1, vi a2, vi a3, vi a4, vu] [] κ I L Z := E_iload_n dX1_dealFrom_31 rfl k
theorem t20_X1_dealFrom_32 {E : En} {d : Nat} {κ : Kp} {I L : MI} {Z : Zt} {a0 a1 : Nat} {a2 a3 a4 b0 : Int}  (k : Ev E d M_X1_dealFrom 34 [vr a0, vr a1, vi a2, vi a3, vi a4, vu] [vi a4, vi b0] κ I L Z) : Ev E d M_X1_dealFrom 32 [vr a0, vr a1, vi a2, vi a3, vi a4, vu] [vi b0] κ I L Z := E_iload dX1_dealFrom_32 rfl k
theorem t20_X1_dealFrom_34 {E : En} {d : Nat} {κ : Kp} {I L : MI} {Z : Zt} {a0 a1 : Nat} {a2 a3 a4 b0 b1 : Int} {z : Int} (hz : Int32.ofInt b1 >>> (Int32.ofInt b0 &&& 31) = Int32.ofInt z) (k : Ev E d M_X1_dealFrom 35 [vr a0, vr a1, vi a2, vi a3, vi a4, vu] [vi z] κ I L Z) : Ev E d M_X1_dealFrom 34 [vr a0, vr a1, vi a2, vi a3, vi a4, vu] [vi b0, vi b1] κ I L Z := E_ishr dX1_dealFrom_34 hz k
theorem t20_X1_dealFrom_35 {E : En} {d : Nat} {κ : Kp} {I L : MI} {Z : Zt} {a0 a1 : Nat} {a2 a3 a4 b0 : Int}  (k : Ev E d M_X1_dealFrom 36 [vr a0, vr a1, vi a2, vi a3, vi a4, vu] [vi 1, vi b0] κ I L Z) : Ev E d M_X1_dealFrom 35 [vr a0, vr a1, vi a2, vi a3, vi a4, vu] [vi b0] κ I L Z := E_iconst (v := 1) dX1_dealFrom_35 rfl k
theorem t20_X1_dealFrom_36 {E : En} {d : Nat} {κ : Kp} {I L : MI} {Z : Zt} {a0 a1 : Nat} {a2 a3 a4 b0 b1 : Int} {z : Int} (hz : Int32.ofInt b1 &&& Int32.ofInt b0 = Int32.ofInt z) (k : Ev E d M_X1_dealFrom 37 [vr a0, vr a1, vi a2, vi a3, vi a4, vu] [vi z] κ I L Z) : Ev E d M_X1_dealFrom 36 [vr a0, vr a1, vi a2, vi a3, vi a4, vu] [vi b0, vi b1] κ I L Z := E_iand dX1_dealFrom_36 hz k
theorem t20_X1_dealFrom_37 {E : En} {d : Nat} {κ : Kp} {I L : MI} {Z : Zt} {a0 a1 : Nat} {a2 a3 a4 b0 : Int} (hx : Ir b0) (kt : ¬ b0 = 0 → Ev E d M_X1_dealFrom 44 [vr a0, vr a1, vi a2, vi a3, vi a4, vu] [] κ I L Z) (kf : b0 = 0 → Ev E d M_X1_dealFrom 40 [vr a0, vr a1, vi a2, vi a3, vi a4, vu] [] κ I L Z) : Ev E d M_X1_dealFrom 37 [vr a0, vr a1, vi a2, vi a3, vi a4, vu] [vi b0] κ I L Z := E_if_ne dX1_dealFrom_37 hx kt kf (by decide)
theorem t20_X1_dealFrom_44 {E : En} {d : Nat} {κ : Kp} {I L : MI} {Z : Zt} {a0 a1 : Nat} {a2 a3 a4 : Int}  (k : Ev E d M_X1_dealFrom 45 [vr a0, vr a1, vi a2, vi a3, vi a4, vu] [vi 0] κ I L Z) : Ev E d M_X1_dealFrom 44 [vr a0, vr a1, vi a2, vi a3, vi a4, vu] [] κ I L Z := E_iconst (v := 0) dX1_dealFrom_44 rfl k
theorem t20_X1_dealFrom_45 {E : En} {d : Nat} {κ : Kp} {I L : MI} {Z : Zt} {a0 a1 : Nat} {a2 a3 a4 b0 : Int}  (k : Ev E d M_X1_dealFrom 47 [vr a0, vr a1, vi a2, vi a3, vi a4, vi b0] [] κ I L Z) : Ev E d M_X1_dealFrom 45 [vr a0, vr a1, vi a2, vi a3, vi a4, vu] [vi b0] κ I L Z := E_istore dX1_dealFrom_45 rfl (Nat.le_of_ble_eq_true rfl) k
theorem t20_X1_dealFrom_47 {E : En} {d : Nat} {κ : Kp} {I L : MI} {Z : Zt} {a0 a1 : Nat} {a2 a3 a4 a5 : Int}  (k : Ev E d M_X1_dealFrom 49 [vr a0, vr a1, vi a2, vi a3, vi a4, vi a5] [vi a5] κ I L Z) : Ev E d M_X1_dealFrom 47 [vr a0, vr a1, vi a2, vi a3, vi a4, vi a5] [] κ I L Z := E_iload dX1_dealFrom_47 rfl k
theorem t20_X1_dealFrom_49 {E : En} {d : Nat} {κ : Kp} {I L : MI} {Z : Zt} {a0 a1 : Nat} {a2 a3 a4 a5 b0 : Int} (hx : Ir b0) (kt : b0 = 0 → Ev E d M_X1_dealFrom 90 [vr a0, vr a1, vi a2, vi a3, vi a4, vi a5] [] κ I L Z) (kf : ¬ b0 = 0 → Ev E d M_X1_dealFrom 52 [vr a0, vr a1, vi a2, vi a3, vi a4, vi a5] [] κ I L Z) : Ev E d M_X1_dealFrom 49 [vr a0, vr a1, vi a2, vi a3, vi a4, vi a5] [vi b0] κ I L Z := E_if_eq dX1_dealFrom_49 hx kt kf (by decide)
theorem t20_X1_dealFrom_90 {E : En} {d : Nat} {κ : Kp} {I L : MI} {Z : Zt} {a0 a1 : Nat} {a2 a3 a4 a5 : Int}  (k : Ev E d M_X1_dealFrom 93 [vr a0, vr a1, vi a2, vi a3, vi (a4 + 1), vi a5] [] κ I L Z) : Ev E d M_X1_dealFrom 90 [vr a0, vr a1, vi a2, vi a3, vi a4, vi a5] [] κ I L Z := E_iinc dX1_dealFrom_90 rfl rfl (Nat.le_of_ble_eq_true rfl) k
theorem t20_X1_dealFrom_93 {E : En} {d : Nat} {κ : Kp} {I L : MI} {Z : Zt} {a0 a1 : Nat} {a2 a3 a4 a5 : Int}  (k : Ev E d M_X1_dealFrom 22 [vr a0, vr a1, vi a2, vi a3, vi a4, vi a5] [] κ I L Z) : Ev E d M_X1_dealFrom 93 [vr a0, vr a1, vi a2, vi a3, vi a4, vi a5] [] κ I L Z := E_goto dX1_dealFrom_93 (by decide) k
theorem t20_X1_dealFrom_40 {E : En} {d : Nat} {κ : Kp} {I L : MI} {Z : Zt} {a0 a1 : Nat} {a2 a3 a4 : Int}  (k : Ev E d M_X1_dealFrom 41 [vr a0, vr a1, vi a2, vi a3, vi a4, vu] [vi 1] κ I L Z) : Ev E d M_X1_dealFrom 40 [vr a0, vr a1, vi a2, vi a3, vi a4, vu] [] κ I L Z := E_iconst (v := 1) dX1_dealFrom_40 rfl k
theorem t20_X1_dealFrom_41 {E : En} {d : Nat} {κ : Kp} {I L : MI} {Z : Zt} {a0 a1 : Nat} {a2 a3 a4 b0 : Int}  (k : Ev E d M_X1_dealFrom 45 [vr a0, vr a1, vi a2, vi a3, vi a4, vu] [vi b0] κ I L Z) : Ev E d M_X1_dealFrom 41 [vr a0, vr a1, vi a2, vi a3, vi a4, vu] [vi b0] κ I L Z := E_goto dX1_dealFrom_41 (by decide) k
theorem t20_X1_dealFrom_52 {E : En} {d : Nat} {κ : Kp} {I L : MI} {Z : Zt} {a0 a1 : Nat} {a2 a3 a4 a5 : Int}  (k : Ev E d M_X1_dealFrom 53 [vr a0, vr a1, vi a2, vi a3, vi a4, vi a5] [vr a0] κ I L Z) : Ev E d M_X1_dealFrom 52 [vr a0, vr a1, vi a2, vi a3, vi a4, vi a5] [] κ I L Z := E_aload_n dX1_dealFrom_52 rfl k
theorem t20_X1_dealFrom_53 {E : En} {d : Nat} {κ : Kp} {I L : MI} {Z : Zt} {a0 a1 b0 : Nat} {a2 a3 a4 a5 : Int}  (k : Ev E d M_X1_dealFrom 54 [vr a0, vr a1, vi a2, vi a3, vi a4, vi a5] [vi a2, vr b0] κ I L Z) : Ev E d M_X1_dealFrom 53 [vr a0, vr a1, vi a2, vi a3, vi a4, vi a5] [vr b0] κ I L Z := E_iload_n dX1_dealFrom_53 rfl k
theorem t20_X1_dealFrom_54 {E : En} {d : Nat} {κ : Kp} {I L : MI} {Z : Zt} {a0 a1 b1 : Nat} {a2 a3 a4 a5 b0 : Int}  (k : Ev E d M_X1_dealFrom 55 [vr a0, vr a1, vi a2, vi a3, vi a4, vi a5] [vr a1, vi b0, vr b1] κ I L Z) : Ev E d M_X1_dealFrom 54 [vr a0, vr a1, vi a2, vi a3, vi a4, vi a5] [vi b0, vr b1] κ I L Z := E_aload_n dX1_dealFrom_54 rfl k
theorem t20_X1_dealFrom_55 {E : En} {d : Nat} {κ : Kp} {I L : MI} {Z : Zt} {a0 a1 b0 b2 : Nat} {a2 a3 a4 a5 b1 : Int}  (k : Ev E d M_X1_dealFrom 57 [vr a0, vr a1, vi a2, vi a3, vi a4, vi a5] [vi a4, vr b0, vi b1, vr b2] κ I L Z) : Ev E d M_X1_dealFrom 55 [vr a0, vr a1, vi a2, vi a3, vi a4, vi a5] [vr b0, vi b1, vr b2] κ I L Z := E_iload dX1_dealFrom_55 rfl k
theorem t20_X1_dealFrom_57 {E : En} {d d' : Nat} {cs : Nat × Nat} {I L : MI} {Z : Zt} {a0 a1 b1 b3 : Nat} {a2 a3 a4 a5 b0 b2 : Int} {z : Int} {I' L' : MI} (hs : G0.1[b1]? = some (.inl 9)) (hM : CFi E d' M_X9_first [vr b1, vi b0] I L z I' L') (hlt : d' + 1 ≤ d) (k : Ir z → Ev E d M_X1_dealFrom 60 [vr a0, vr a1, vi a2, vi a3, vi a4, vi a5] [vi z, vi b2, vr b3] (G0, cs) I' L' Z) (hc1 : cs.1 ≤ M_X1_dealFrom.2.2.2.2.1 := by decide) (hc2 : cs.2 ≤ M_X1_dealFrom.2.2.2.2.2 := by decide) : Ev E d M_X1_dealFrom 57 [vr a0, vr a1, vi a2, vi a3, vi a4, vi a5] [vi b0, vr b1, vi b2, vr b3] (G0, cs) I L Z := E_callV (as := [vi b0]) (rest := [vi b2, vr b3]) (n := 1) hM dX1_dealFrom_57 wM_RX1_57 wS_X9_first wV_X9_first hs (by decide) rfl hlt wC_X9_first wI_X9 (by decide +kernel) rfl (by decide) (Nat.le_of_ble_eq_true rfl) hc1 hc2 rfl (fun r g' I2 L2 h => by obtain ⟨rfl, z, rfl, hr, rfl, rfl, rfl⟩ := h; exact k hr)
theorem t20_X1_dealFrom_60 {E : En} {d d' : Nat} {cs : Nat × Nat} {I L : MI} {Z : Zt} {a0 a1 b2 : Nat} {a2 a3 a4 a5 b0 b1 : Int} {Q : Int → MI → MI → Prop} (hs : G0.1[b2]? = some (.inl 1)) (hM : CQi E d' M_X1_makes [vr b2, vi b1, vi b0] I L Q) (hlt : d' + 1 ≤ d) (kk : ∀ (z : Int) (I' L' : MI), Q z I' L' → Ev E d M_X1_dealFrom 63 [vr a0, vr a1, vi a2, vi a3, vi a4, vi a5] [vi z] (G0, cs) I' L' Z) (hc1 : cs.1 ≤ M_X1_dealFrom.2.2.2.2.1 := by decide) (hc2 : cs.2 ≤ M_X1_dealFrom.2.2.2.2.2 := by decide) : Ev E d M_X1_dealFrom 60 [vr a0, vr a1, vi a2, vi a3, vi a4, vi a5] [vi b0, vi b1, vr b2] (G0, cs) I L Z := E_callV (as := [vi b1, vi b0]) (rest := []) (n := 2) hM dX1_dealFrom_60 wM_RX1_62 wS_X1_makes wV_X1_makes hs (by decide) rfl hlt wC_X1_makes wI_X1 (by decide +kernel) rfl (by decide) (Nat.le_of_ble_eq_true rfl) hc1 hc2 rfl (fun r g' I' L' h => by obtain ⟨rfl, z, rfl, h⟩ := h; exact kk z I' L' h)
theorem t20_X1_dealFrom_63 {E : En} {d : Nat} {κ : Kp} {I L : MI} {Z : Zt} {a0 a1 : Nat} {a2 a3 a4 a5 b0 : Int} (hx : Ir b0) (kt : b0 = 0 → Ev E d M_X1_dealFrom 90 [vr a0, vr a1, vi a2, vi a3, vi a4, vi a5] [] κ I L Z) (kf : ¬ b0 = 0 → Ev E d M_X1_dealFrom 66 [vr a0, vr a1, vi a2, vi a3, vi a4, vi a5] [] κ I L Z) : Ev E d M_X1_dealFrom 63 [vr a0, vr a1, vi a2, vi a3, vi a4, vi a5] [vi b0] κ I L Z := E_if_eq dX1_dealFrom_63 hx kt kf (by decide)
theorem t20_X1_dealFrom_66 {E : En} {d : Nat} {κ : Kp} {I L : MI} {Z : Zt} {a0 a1 : Nat} {a2 a3 a4 a5 : Int}  (k : Ev E d M_X1_dealFrom 67 [vr a0, vr a1, vi a2, vi a3, vi a4, vi a5] [vr a0] κ I L Z) : Ev E d M_X1_dealFrom 66 [vr a0, vr a1, vi a2, vi a3, vi a4, vi a5] [] κ I L Z := E_aload_n dX1_dealFrom_66 rfl k
theorem t20_X1_dealFrom_67 {E : En} {d : Nat} {κ : Kp} {I L : MI} {Z : Zt} {a0 a1 b0 : Nat} {a2 a3 a4 a5 : Int} {q : Nat} (hs : κ.1.1[b0]? = some (.inl 1)) (hq : κ.1.2 b0 1 = some q) (k : Ev E d M_X1_dealFrom 70 [vr a0, vr a1, vi a2, vi a3, vi a4, vi a5] [vr q] κ I L Z) : Ev E d M_X1_dealFrom 67 [vr a0, vr a1, vi a2, vi a3, vi a4, vi a5] [vr b0] κ I L Z := E_getR (ci := 1) (n := 1) dX1_dealFrom_67 wF_RX1_15 (by decide) hs rfl hq k
theorem t20_X1_dealFrom_70 {E : En} {d : Nat} {κ : Kp} {I L : MI} {Z : Zt} {a0 a1 b0 : Nat} {a2 a3 a4 a5 : Int}  (k : Ev E d M_X1_dealFrom 71 [vr a0, vr a1, vi a2, vi a3, vi a4, vi a5] [vi a2, vr b0] κ I L Z) : Ev E d M_X1_dealFrom 70 [vr a0, vr a1, vi a2, vi a3, vi a4, vi a5] [vr b0] κ I L Z := E_iload_n dX1_dealFrom_70 rfl k
theorem t20_X1_dealFrom_71 {E : En} {d : Nat} {κ : Kp} {I L : MI} {Z : Zt} {a0 a1 b1 : Nat} {a2 a3 a4 a5 b0 : Int}  (k : Ev E d M_X1_dealFrom 73 [vr a0, vr a1, vi a2, vi a3, vi a4, vi a5] [vi a4, vi b0, vr b1] κ I L Z) : Ev E d M_X1_dealFrom 71 [vr a0, vr a1, vi a2, vi a3, vi a4, vi a5] [vi b0, vr b1] κ I L Z := E_iload dX1_dealFrom_71 rfl k
theorem t20_X1_dealFrom_73 {E : En} {d d' : Nat} {cs : Nat × Nat} {I L : MI} {Z : Zt} {a0 a1 b2 : Nat} {a2 a3 a4 a5 b0 b1 : Int} {I' L' : MI} (hM : CFv E d' M_X10_store [vr b2, vi b1, vi b0] I L I' L') (hlt : d' + 1 ≤ d) (k : Ev E d M_X1_dealFrom 76 [vr a0, vr a1, vi a2, vi a3, vi a4, vi a5] [] (G0, cs) I' L' Z) (hc1 : cs.1 ≤ M_X1_dealFrom.2.2.2.2.1 := by decide) (hc2 : cs.2 ≤ M_X1_dealFrom.2.2.2.2.2 := by decide) : Ev E d M_X1_dealFrom 73 [vr a0, vr a1, vi a2, vi a3, vi a4, vi a5] [vi b0, vi b1, vr b2] (G0, cs) I L Z := E_callSN (as := [vr b2, vi b1, vi b0]) (rest := []) (n := 3) hM dX1_dealFrom_73 rfl (host := "SaidByTimes") (cl := RX1) (by decide +kernel) wS_X10_store hlt wC_X10_store wI_X10 (by decide +kernel) rfl (by decide) (Nat.le_of_ble_eq_true rfl) hc1 hc2 rfl (fun r g' I2 L2 h => by obtain ⟨rfl, rfl, rfl, rfl⟩ := h; exact k)
theorem t20_X1_dealFrom_76 {E : En} {d : Nat} {κ : Kp} {I L : MI} {Z : Zt} {a0 a1 : Nat} {a2 a3 a4 a5 : Int}  (k : Ev E d M_X1_dealFrom 77 [vr a0, vr a1, vi a2, vi a3, vi a4, vi a5] [vr a0] κ I L Z) : Ev E d M_X1_dealFrom 76 [vr a0, vr a1, vi a2, vi a3, vi a4, vi a5] [] κ I L Z := E_aload_n dX1_dealFrom_76 rfl k
theorem t20_X1_dealFrom_77 {E : En} {d : Nat} {κ : Kp} {I L : MI} {Z : Zt} {a0 a1 b0 : Nat} {a2 a3 a4 a5 : Int}  (k : Ev E d M_X1_dealFrom 78 [vr a0, vr a1, vi a2, vi a3, vi a4, vi a5] [vr a1, vr b0] κ I L Z) : Ev E d M_X1_dealFrom 77 [vr a0, vr a1, vi a2, vi a3, vi a4, vi a5] [vr b0] κ I L Z := E_aload_n dX1_dealFrom_77 rfl k
theorem t20_X1_dealFrom_78 {E : En} {d : Nat} {κ : Kp} {I L : MI} {Z : Zt} {a0 a1 b0 b1 : Nat} {a2 a3 a4 a5 : Int}  (k : Ev E d M_X1_dealFrom 79 [vr a0, vr a1, vi a2, vi a3, vi a4, vi a5] [vi a2, vr b0, vr b1] κ I L Z) : Ev E d M_X1_dealFrom 78 [vr a0, vr a1, vi a2, vi a3, vi a4, vi a5] [vr b0, vr b1] κ I L Z := E_iload_n dX1_dealFrom_78 rfl k
theorem t20_X1_dealFrom_79 {E : En} {d : Nat} {κ : Kp} {I L : MI} {Z : Zt} {a0 a1 b1 b2 : Nat} {a2 a3 a4 a5 b0 : Int}  (k : Ev E d M_X1_dealFrom 80 [vr a0, vr a1, vi a2, vi a3, vi a4, vi a5] [vi 1, vi b0, vr b1, vr b2] κ I L Z) : Ev E d M_X1_dealFrom 79 [vr a0, vr a1, vi a2, vi a3, vi a4, vi a5] [vi b0, vr b1, vr b2] κ I L Z := E_iconst (v := 1) dX1_dealFrom_79 rfl k
theorem t20_X1_dealFrom_80 {E : En} {d : Nat} {κ : Kp} {I L : MI} {Z : Zt} {a0 a1 b2 b3 : Nat} {a2 a3 a4 a5 b0 b1 : Int}  (k : Ev E d M_X1_dealFrom 81 [vr a0, vr a1, vi a2, vi a3, vi a4, vi a5] [vi (b1 + b0), vr b2, vr b3] κ I L Z) : Ev E d M_X1_dealFrom 80 [vr a0, vr a1, vi a2, vi a3, vi a4, vi a5] [vi b0, vi b1, vr b2, vr b3] κ I L Z := E_iadd dX1_dealFrom_80 k
theorem t20_X1_dealFrom_81 {E : En} {d : Nat} {κ : Kp} {I L : MI} {Z : Zt} {a0 a1 b1 b2 : Nat} {a2 a3 a4 a5 b0 : Int}  (k : Ev E d M_X1_dealFrom 82 [vr a0, vr a1, vi a2, vi a3, vi a4, vi a5] [vi a3, vi b0, vr b1, vr b2] κ I L Z) : Ev E d M_X1_dealFrom 81 [vr a0, vr a1, vi a2, vi a3, vi a4, vi a5] [vi b0, vr b1, vr b2] κ I L Z := E_iload_n dX1_dealFrom_81 rfl k
theorem t20_X1_dealFrom_82 {E : En} {d : Nat} {κ : Kp} {I L : MI} {Z : Zt} {a0 a1 b2 b3 : Nat} {a2 a3 a4 a5 b0 b1 : Int}  (k : Ev E d M_X1_dealFrom 83 [vr a0, vr a1, vi a2, vi a3, vi a4, vi a5] [vi 1, vi b0, vi b1, vr b2, vr b3] κ I L Z) : Ev E d M_X1_dealFrom 82 [vr a0, vr a1, vi a2, vi a3, vi a4, vi a5] [vi b0, vi b1, vr b2, vr b3] κ I L Z := E_iconst (v := 1) dX1_dealFrom_82 rfl k
theorem t20_X1_dealFrom_83 {E : En} {d : Nat} {κ : Kp} {I L : MI} {Z : Zt} {a0 a1 b3 b4 : Nat} {a2 a3 a4 a5 b0 b1 b2 : Int}  (k : Ev E d M_X1_dealFrom 85 [vr a0, vr a1, vi a2, vi a3, vi a4, vi a5] [vi a4, vi b0, vi b1, vi b2, vr b3, vr b4] κ I L Z) : Ev E d M_X1_dealFrom 83 [vr a0, vr a1, vi a2, vi a3, vi a4, vi a5] [vi b0, vi b1, vi b2, vr b3, vr b4] κ I L Z := E_iload dX1_dealFrom_83 rfl k
theorem t20_X1_dealFrom_85 {E : En} {d : Nat} {κ : Kp} {I L : MI} {Z : Zt} {a0 a1 b4 b5 : Nat} {a2 a3 a4 a5 b0 b1 b2 b3 : Int} {z : Int} (hz : Int32.ofInt b1 <<< (Int32.ofInt b0 &&& 31) = Int32.ofInt z) (k : Ev E d M_X1_dealFrom 86 [vr a0, vr a1, vi a2, vi a3, vi a4, vi a5] [vi z, vi b2, vi b3, vr b4, vr b5] κ I L Z) : Ev E d M_X1_dealFrom 85 [vr a0, vr a1, vi a2, vi a3, vi a4, vi a5] [vi b0, vi b1, vi b2, vi b3, vr b4, vr b5] κ I L Z := E_ishl dX1_dealFrom_85 hz k
theorem t20_X1_dealFrom_86 {E : En} {d : Nat} {κ : Kp} {I L : MI} {Z : Zt} {a0 a1 b3 b4 : Nat} {a2 a3 a4 a5 b0 b1 b2 : Int} {z : Int} (hz : Int32.ofInt b1 ||| Int32.ofInt b0 = Int32.ofInt z) (k : Ev E d M_X1_dealFrom 87 [vr a0, vr a1, vi a2, vi a3, vi a4, vi a5] [vi z, vi b2, vr b3, vr b4] κ I L Z) : Ev E d M_X1_dealFrom 86 [vr a0, vr a1, vi a2, vi a3, vi a4, vi a5] [vi b0, vi b1, vi b2, vr b3, vr b4] κ I L Z := E_ior dX1_dealFrom_86 hz k
theorem t20_X1_dealFrom_87 {E : En} {d d' : Nat} {cs : Nat × Nat} {I L : MI} {Z : Zt} {a0 a1 b2 b3 : Nat} {a2 a3 a4 a5 b0 b1 : Int} {Q : MI → MI → Prop} (hM : CQv E d' M_X1_dealFrom [vr b3, vr b2, vi b1, vi b0] I L Q) (hlt : d' + 1 ≤ d) (kk : ∀ (I' L' : MI), Q I' L' → Ev E d M_X1_dealFrom 90 [vr a0, vr a1, vi a2, vi a3, vi a4, vi a5] [] (G0, cs) I' L' Z) (hc1 : cs.1 ≤ M_X1_dealFrom.2.2.2.2.1 := by decide) (hc2 : cs.2 ≤ M_X1_dealFrom.2.2.2.2.2 := by decide) : Ev E d M_X1_dealFrom 87 [vr a0, vr a1, vi a2, vi a3, vi a4, vi a5] [vi b0, vi b1, vr b2, vr b3] (G0, cs) I L Z := E_callS (as := [vr b3, vr b2, vi b1, vi b0]) (rest := []) (n := 4) hM dX1_dealFrom_87 wM_RX1_50 wS_X1_dealFrom hlt wC_X1_dealFrom wI_X1 (by decide +kernel) rfl (by decide) (Nat.le_of_ble_eq_true rfl) hc1 hc2 rfl (fun r g' I' L' h => by obtain ⟨rfl, rfl, h⟩ := h; exact kk I' L' h)
theorem t20_X1_dealFrom_19 {E : En} {d : Nat} {κ : Kp} {I L : MI} {Z : Zt} {a0 a1 : Nat} {a2 a3 : Int}  (k : Ev E d M_X1_dealFrom 20 [vr a0, vr a1, vi a2, vi a3, vu, vu] [vi 0] κ I L Z) : Ev E d M_X1_dealFrom 19 [vr a0, vr a1, vi a2, vi a3, vu, vu] [] κ I L Z := E_iconst (v := 0) dX1_dealFrom_19 rfl k
theorem t20_X1_dealFrom_20 {E : En} {d : Nat} {κ : Kp} {I L : MI} {Z : Zt} {a0 a1 : Nat} {a2 a3 b0 : Int}  (k : Ev E d M_X1_dealFrom 22 [vr a0, vr a1, vi a2, vi a3, vi b0, vu] [] κ I L Z) : Ev E d M_X1_dealFrom 20 [vr a0, vr a1, vi a2, vi a3, vu, vu] [vi b0] κ I L Z := E_istore dX1_dealFrom_20 rfl (Nat.le_of_ble_eq_true rfl) k
/-! CONTRACTS: the dealings tried one by one -/
def smV (V : Nat → Int) : Nat → Int
  | 0 => 0
  | q + 1 => smV V q + V q
theorem smV_b {V : Nat → Int} : ∀ {m : Nat}, (∀ q : Nat, q < m → 0 < V q ∧ V q ≤ 1000000000000000) → 0 ≤ smV V m ∧ smV V m ≤ 1000000000000000 * m ∧ (0 < m → 0 < smV V m) := by
  intro m
  induction m with
  | zero => intro _; exact ⟨Int.le_refl _, by simp [smV], fun h => by omega⟩
  | succ m ih =>
    intro h
    have h1 := ih (fun q hq => h q (by omega))
    have h2 := h m (by omega)
    unfold smV
    have e : (1000000000000000 : Int) * ((m + 1 : Nat) : Int) = 1000000000000000 * m + 1000000000000000 := by rw [Int.natCast_succ, Int.mul_add, Int.mul_one]
    rw [e]
    exact ⟨by omega, by omega, fun _ => by omega⟩
def cpQ (I L : MI) (n : Nat) (s : Int) : MI → MI → Prop := fun I' L' => (∀ o, o ≠ 37 → ∀ k, I' o k = I o k) ∧ (∀ o, o ≠ 33 → ∀ k, L' o k = L o k) ∧ (((L 33 6 = 0 ∨ s < L 33 6) ∧ L' 33 6 = s ∧ ∀ t : Nat, t < n → I' 37 t = I 35 t) ∨ (¬ (L 33 6 = 0 ∨ s < L 33 6) ∧ L' 33 6 = L 33 6 ∧ ∀ k, I' 37 k = I 37 k))
theorem c_X1_compare {E : En} {I L : MI} {n m : Nat} {V : Nat → Int} (hn : n ≤ 6 := by omega) (hm : m ≤ 4 := by omega) (i3 : I 33 3 = n := by assumption) (i4 : I 33 4 = m := by assumption) (hV : ∀ q : Nat, q < m → L 36 ((n : Int) * 4 + q) = V q ∧ 0 < V q ∧ V q ≤ 1000000000000000 := by assumption) : CQv E 2 M_X1_compare [vr 33] I L (cpQ I L n (smV V m)) := by
  have sb : ∀ q, q ≤ m → 0 ≤ smV V q ∧ smV V q ≤ 4000000000000000 := fun q hq => by
    have := smV_b (V := V) (m := q) (fun j hj => (hV j (by omega)).2)
    exact ⟨this.1, by omega⟩
  have s0 := sb m (by omega)
  refine CM_of' (al := [vr _, vu, vu, vu]) rfl (Nat.le_of_ble_eq_true rfl) rfl (fun hM => ?_)
  have fill : ∀ (f : Nat) (t : Nat) (I1 : MI), n - t < f → t ≤ n → (∀ o, o ≠ 37 → ∀ k, I1 o k = I o k) → (∀ j : Nat, j < t → I1 37 j = I 35 j) → (L 33 6 = 0 ∨ smV V m < L 33 6) → Ev E 2 M_X1_compare 55 [vr 33, vl (smV V m), vu, vi (t : Int)] [] (G0, 0, 0) I1 (up2 L 33 6 (smV V m)) (ZQ E M_X1_compare (QQv (cpQ I L n (smV V m)))) := by
    intro f
    induction f with
    | zero => intro t I1 h1 h2; omega
    | succ f ih =>
      intro t I1 t1 t2 fr hj hc
      have j3 : I1 33 3 = n := by rw [fr 33 (by decide)]; exact i3
      have rg : t < n → atI I1 35 6 t = I 35 t := fun h => by rw [atI_in (by omega)]; exact fr 35 (by decide) _
      refine Ev.mok fun hM1 => ?_
      refine (t20_X1_compare_55 (t20_X1_compare_56 (t20_X1_compare_57 (by first | assumption | rfl) (fun r57 => (t20_X1_compare_60 (by omega) (by omega) (fun c60 => (t20_X1_compare_85 ?_)) (fun c60 => (t20_X1_compare_63 (t20_X1_compare_64 (by first | assumption | rfl) (by first | assumption | rfl) (t20_X1_compare_67 (t20_X1_compare_68 (t20_X1_compare_69 (by first | assumption | rfl) (by first | assumption | rfl) (t20_X1_compare_72 (t20_X1_compare_73 c_X10_at (by first | decide | omega) (fun r73 => (t20_X1_compare_76 c_X10_store (by first | decide | omega) (t20_X1_compare_79 (t20_X1_compare_82 ?_)))))))))))))))))
      -- 2 leaves: 60t :ret85 | 60f :->55
      · exact qqv ⟨fr, fun o o1 k => up2_ne (.inl o1), .inl ⟨hc, up2_eq _ _ _ _, fun j hj2 => hj j (by omega)⟩⟩
      · rw [rg (by omega)]
        refine ih (t + 1) _ (by omega) (by omega) (fun o o1 k => by rw [stI_ne o1]; exact fr o o1 k) (fun j hj2 => ?_) hc
        rw [stI_in (by omega)]
        by_cases e : j = t
        · subst e; rw [up2_eq]
        · rw [up2_ne (.inr (by omega))]; exact hj j (by omega)
  have sum : ∀ (f : Nat) (q : Nat), m - q < f → q ≤ m → Ev E 2 M_X1_compare 4 [vr 33, vl (smV V q), vu, vi (q : Int)] [] (G0, 0, 0) I L (ZQ E M_X1_compare (QQv (cpQ I L n (smV V m)))) := by
    intro f
    induction f with
    | zero => intro q h1 h2; omega
    | succ f ih =>
      intro q q1 q2
      have bq := sb q q2
      have rv : q < m → atL L 36 28 (I 33 3 * 4 + (q : Int)) = V q := fun h => by
        rw [i3]; unfold atL; rw [if_pos (by omega)]; exact (hV q h).1
      refine (t20_X1_compare_4 (t20_X1_compare_5 (t20_X1_compare_6 (by first | assumption | rfl) (fun r6 => (t20_X1_compare_9 (by omega) (by omega) (fun c9 => (t20_X1_compare_30 (t20_X1_compare_31 (by first | assumption | rfl) (fun r31 => (t20_X1_compare_34 (t20_X1_compare_35 (by omega) (by omega) (fun c35 => (t20_X1_compare_48 (t20_X1_compare_49 (t20_X1_compare_50 (by first | assumption | rfl) (by omega) (t20_X1_compare_53 (t20_X1_compare_54 ?_)))))) (fun c35 => (t20_X1_compare_39 (t20_X1_compare_40 (t20_X1_compare_41 (by first | assumption | rfl) (fun r41 => (t20_X1_compare_44 (by omega) (by omega) (fun c44 => (t20_X1_compare_85 ?_)) (fun c44 => (t20_X1_compare_48 (t20_X1_compare_49 (t20_X1_compare_50 (by first | assumption | rfl) (by omega) (t20_X1_compare_53 (t20_X1_compare_54 ?_)))))))))))))))))) (fun c9 => (t20_X1_compare_12 (t20_X1_compare_13 (t20_X1_compare_14 (t20_X1_compare_15 (by first | assumption | rfl) (fun r15 => (t20_X1_compare_18 (t20_X1_compare_19 (by first | assumption | rfl) c_X1_madeAt (by first | decide | omega) (fun r19 => (t20_X1_compare_22 (t20_X1_compare_23 (t20_X1_compare_24 (t20_X1_compare_27 ?_))))))))))))))))))
      -- 4 leaves: 9t 35t :->55 | 9t 35f 44t :ret85 | 9t 35f 44f :->55 | 9f :->4
      · have : q = m := by omega
        subst this
        exact fill (n + 1) 0 I (by omega) (by omega) (fun o _ k => rfl) (fun j hj => by omega) (.inl c35)
      · have : q = m := by omega
        subst this
        exact qqv ⟨fun o _ k => rfl, fun o _ k => rfl, .inr ⟨by omega, rfl, fun k => rfl⟩⟩
      · have : q = m := by omega
        subst this
        exact fill (n + 1) 0 I (by omega) (by omega) (fun o _ k => rfl) (fun j hj => by omega) (.inr c44)
      · rw [rv (by omega)]
        exact ih (q + 1) (by omega) (by omega)
  refine (t20_X1_compare_0 (t20_X1_compare_1 (t20_X1_compare_2 (t20_X1_compare_3 ?_))))
  -- 1 leaves: :->4
  exact sum (m + 1) 0 (by omega) (by omega)
/-- what stands while dealings are tried: n, m, what is told, the numbers -/
def DlW (I : MI) (n m : Nat) (D : Nat → Nat → Int) (P : Nat → Int) : Prop := I 33 3 = n ∧ I 33 4 = m ∧ (∀ q t : Nat, q < m → t < n → I 34 ((q * n + t : Nat) : Int) = D q t ∧ 0 ≤ D q t ∧ D q t ≤ 3) ∧ (∀ j : Nat, j < n → fstI I 15 j = P j ∧ 2 ≤ P j ∧ P j ≤ 199)
theorem DlW_c {I I' : MI} {n m : Nat} {D : Nat → Nat → Int} {P : Nat → Int} (h : DlW I n m D P) (hf : ∀ o, o ≠ 35 → o ≠ 37 → ∀ k, I' o k = I o k) : DlW I' n m D P := by
  obtain ⟨h1, h2, h3, h4⟩ := h
  have e : fstI I' 15 = fstI I 15 := fstI_c (hf 15 (by decide) (by decide)) (hf 16 (by decide) (by decide))
  exact ⟨by rw [hf 33 (by decide) (by decide)]; exact h1, by rw [hf 33 (by decide) (by decide)]; exact h2, fun q t hq ht => by rw [hf 34 (by decide) (by decide)]; exact h3 q t hq ht, fun j hj => by rw [e]; exact h4 j hj⟩
/-- the cells agree with the numbers of a beginning -/
def DlS (I L : MI) (n m k set : Nat) (D : Nat → Nat → Int) (P : Nat → Int) (g : Nat → Nat) (a : Int × (Nat → Int)) : Prop := (∀ t : Nat, t < k → I 35 t = g t) ∧ (∀ q : Nat, q < m → L 36 ((k : Int) * 4 + q) = prI D P g q k ∧ 0 < prI D P g q k ∧ prI D P g q k ≤ 1000000000000000) ∧ L 33 6 = a.1 ∧ ∀ t : Nat, t < n → I 37 t = a.2 t
def DlQ (I L : MI) (n k : Nat) (b : Int × (Nat → Int)) : MI → MI → Prop := fun I' L' => (∀ o, o ≠ 35 → o ≠ 37 → ∀ j, I' o j = I o j) ∧ (∀ t : Nat, t < k → I' 35 t = I 35 t) ∧ (∀ o, o ≠ 33 → o ≠ 36 → ∀ j, L' o j = L o j) ∧ (∀ i : Int, i < (k + 1) * 4 → L' 36 i = L 36 i) ∧ L' 33 6 = b.1 ∧ ∀ t : Nat, t < n → I' 37 t = b.2 t
theorem suI_sm {n : Nat} {D : Nat → Nat → Int} {P : Nat → Int} {g : Nat → Nat} : ∀ m, suI n D P g m = smV (fun q => prI D P g q n) m := by
  intro m
  induction m with
  | zero => rfl
  | succ m ih => unfold suI smV; rw [ih]
theorem okI_t {n : Nat} {D : Nat → Nat → Int} {P : Nat → Int} {g : Nat → Nat} : ∀ {m : Nat}, (∀ q : Nat, q < m → prI D P g q n ≠ 0) → okI n D P g m = true := by
  intro m
  induction m with
  | zero => intro _; rfl
  | succ m ih =>
    intro h
    unfold okI
    rw [ih (fun q hq => h q (by omega))]
    simp [h m (by omega)]
theorem prI_b {n m : Nat} {D : Nat → Nat → Int} {P : Nat → Int} {g : Nat → Nat} (hP : ∀ j : Nat, j < n → 2 ≤ P j) (hg : ∀ t, g t < n) {q : Nat} : ∀ t, 0 ≤ prI D P g q t ∧ prI D P g q t ≤ 1000000000000000 := by
  intro t
  induction t with
  | zero => show (0 : Int) ≤ 1 ∧ (1 : Int) ≤ 1000000000000000; decide
  | succ t ih =>
    unfold prI
    exact pwI_b ih (by have := hP _ (hg t); omega) _
theorem sh_and {a s : Nat} (ha : a < 64) (hs : s < 6) : Int32.ofInt (((Int32.ofInt (a : Int) >>> (Int32.ofInt (s : Int) &&& 31)).toInt)) &&& Int32.ofInt 1 = Int32.ofInt ((a / 2 ^ s % 2 : Nat) : Int) := by
  rw [Int32.ofInt_toInt]
  exact b_bit a s (by omega) (by omega)
theorem c_X1_dealFrom {E : En} {n m : Nat} {D : Nat → Nat → Int} {P : Nat → Int} (hn : n ≤ 6) (hm : 0 < m ∧ m ≤ 4) (hn1 : 0 < n) : ∀ (r k set : Nat) (g : Nat → Nat) (a : Int × (Nat → Int)) (I L : MI), k + r = n → set < 2 ^ n → pcN set = k → (∀ t, g t < n) → DlW I n m D P → DlS I L n m k set D P g a → CQv E (3 + r) M_X1_dealFrom [vr 33, vr 15, vi (k : Int), vi (set : Int)] I L (DlQ I L n k (dfA n m D P r set g a)) := by
  have t15 := TgS15
  intro r
  induction r with
  | zero =>
    intro k set g a I L hk hs hp hg hw hd
    obtain ⟨w1, w2, w3, w4⟩ := hw
    obtain ⟨d1, d2, d3, d4⟩ := hd
    have ek : k = n := by omega
    subst ek
    have hall := (pcN_all hn hs).mp hp
    have hV : ∀ q : Nat, q < m → L 36 ((k : Int) * 4 + q) = (fun q => prI D P g q k) q ∧ 0 < (fun q => prI D P g q k) q ∧ (fun q => prI D P g q k) q ≤ 1000000000000000 := d2
    have sb := smV_b (V := fun q => prI D P g q k) (m := m) (fun q hq => (hV q hq).2)
    refine CM_of' (al := [vr _, vr _, vi _, vi _, vu, vu]) rfl (Nat.le_of_ble_eq_true rfl) rfl (fun hM => ?_)
    refine (t20_X1_dealFrom_0 (t20_X1_dealFrom_1 (t20_X1_dealFrom_2 (by first | assumption | rfl) (fun r2 => (t20_X1_dealFrom_5 (by omega) (by omega) (fun c5 => (t20_X1_dealFrom_14 (t20_X1_dealFrom_15 (by first | assumption | rfl) ((c_X1_compare (n := k) (m := m) (V := fun q => prI D P g q k))) (by first | decide | omega) (fun I15 L15 q15 => ?_)))) (fun c5 => (t20_X1_dealFrom_8 (t20_X1_dealFrom_9 (t20_X1_dealFrom_11 (by omega) (by omega) (fun c11 => ?_) (fun c11 => (t20_X1_dealFrom_14 (t20_X1_dealFrom_15 (by first | assumption | rfl) ((c_X1_compare (n := k) (m := m) (V := fun q => prI D P g q k))) (by first | decide | omega) (fun I15 L15 q15 => ?_)))))))))))))
    -- 3 leaves: 5t :call15 | 5f 11t :->19 | 5f 11f :call15
    · obtain ⟨q1, q2, q3⟩ := q15
      refine (t20_X1_dealFrom_18 ?_)
      -- 1 leaves: :ret18
      refine qqv ⟨fun o _ o2 j => q1 o o2 j, fun t _ => q1 35 (by decide) _, fun o o1 _ j => q2 o o1 j, fun i _ => q2 36 (by decide) _, ?_⟩
      have et : toI k m D P g = smV (fun q => prI D P g q k) m := by
        unfold toI
        rw [okI_t (fun q hq => by have := (d2 q hq).2.1; omega), if_pos rfl, suI_sm]
      show L15 33 6 = (lfA k m D P set g a).1 ∧ ∀ t : Nat, t < k → I15 37 t = (lfA k m D P set g a).2 t
      unfold lfA upA
      rw [if_pos hall, et, ← d3]
      rcases q3 with ⟨h1, h2, h3⟩ | ⟨h1, h2, h3⟩
      · rw [if_pos ⟨sb.2.2 hm.1, h1⟩]
        exact ⟨h2, fun t ht => by rw [h3 t ht, d1 t ht]; show _ = if t < k then _ else _; rw [if_pos ht]⟩
      · rw [if_neg (fun h => h1 h.2)]
        exact ⟨by rw [h2, d3], fun t ht => by rw [h3, d4 t ht]⟩
    · omega
    · omega
  | succ r ih =>
    intro k set g a I L hk hs hp hg hw hd
    have h64 : set < 64 := Nat.lt_of_lt_of_le hs (Nat.pow_le_pow_right (n := 2) (by decide) hn)
    have ek : n - (r + 1) = k := by omega
    refine CM_of' (al := [vr _, vr _, vi _, vi _, vu, vu]) rfl (Nat.le_of_ble_eq_true rfl) rfl (fun hM => ?_)
    have key : ∀ (f : Nat) (j : Nat) (I1 L1 : MI), n - j < f → j ≤ n → DlQ I L n k (fdA n m D P r set g a j) I1 L1 → Ev E (3 + (r + 1)) M_X1_dealFrom 22 [vr 33, vr 15, vi (k : Int), vi (set : Int), vi (j : Int), vu] [] (G0, 0, 0) I1 L1 (ZQ E M_X1_dealFrom (QQv (DlQ I L n k (dfA n m D P (r + 1) set g a)))) := by
      intro f
      induction f with
      | zero => intro j I1 L1 h1 h2; omega
      | succ f ihf =>
        intro j I1 L1 j1 j2 hq
        obtain ⟨f1, f2, f3, f4, f5, f6⟩ := id hq
        have hw1 := DlW_c hw f1
        obtain ⟨w1, w2, w3, w4⟩ := id hw1
        obtain ⟨d1, d2, d3, d4⟩ := id hd
        have nx : (n - (r + 1)) = k := ek
        refine (t20_X1_dealFrom_22 (t20_X1_dealFrom_24 (t20_X1_dealFrom_25 (by first | assumption | rfl) (fun r25 => (t20_X1_dealFrom_28 (by omega) (by omega) (fun c28 => (t20_X1_dealFrom_96 ?_)) (fun c28 => (t20_X1_dealFrom_31 (t20_X1_dealFrom_32 (t20_X1_dealFrom_34 (Int32.ofInt_toInt _).symm (t20_X1_dealFrom_35 (t20_X1_dealFrom_36 (sh_and h64 (by omega)) (t20_X1_dealFrom_37 (by omega) (fun c37 => (t20_X1_dealFrom_44 (t20_X1_dealFrom_45 (t20_X1_dealFrom_47 (t20_X1_dealFrom_49 (by omega) (fun c49 => (t20_X1_dealFrom_90 (t20_X1_dealFrom_93 (Ev.wk (al' := [_, _, _, _, _, vu]) ⟨.inl rfl, .inl rfl, .inl rfl, .inl rfl, .inl rfl, .inr rfl, trivial⟩ ?_)))) (fun c49 => ?_)))))) (fun c37 => (t20_X1_dealFrom_40 (t20_X1_dealFrom_41 (t20_X1_dealFrom_45 (t20_X1_dealFrom_47 (t20_X1_dealFrom_49 (by omega) (fun c49 => (t20_X1_dealFrom_90 (t20_X1_dealFrom_93 (Ev.wk (al' := [_, _, _, _, _, vu]) ⟨.inl rfl, .inl rfl, .inl rfl, .inl rfl, .inl rfl, .inr rfl, trivial⟩ ?_)))) (fun c49 => ?_)))))))))))))))))))
        -- 5 leaves: 28t :ret96 | 28f 37t 49t :->22 | 28f 37t 49f :->52 | 28f 37f 49t :->22 | 28f 37f 49f :->52
        · have : j = n := by omega
          subst this
          rw [← fdA_n]
          exact qqv hq
        · -- the bit is set already
          refine ihf (j + 1) _ _ (by omega) (by omega) ?_
          rw [fdA_s]
          have h6 := pcN_or h64 (show j < 6 by omega)
          rw [dfA_few hn _ _ _ _ (pcN_lt hn hs (by omega)) (by rw [h6.2.2 (by omega)]; omega)]
          exact hq
        · exact absurd c49 (by decide)
        · exact absurd c49 (by decide)
        · -- free
          have hjn : j < n := by omega
          have h6 := pcN_or h64 (show j < 6 by omega)
          have pj := w4 j hjn
          have hD : ∀ q : Nat, q < m → I1 34 ((q * n + k : Nat) : Int) = (fun q => D q k) q ∧ 0 ≤ (fun q => D q k) q ∧ (fun q => D q k) q ≤ 3 := fun q hq => w3 q k hq (by omega)
          have hV : ∀ q : Nat, q < m → L1 36 ((k : Int) * 4 + q) = (fun q => prI D P g q k) q ∧ 0 < (fun q => prI D P g q k) q ∧ (fun q => prI D P g q k) q ≤ 1000000000000000 := fun q hq => by
            have := d2 q hq
            exact ⟨by rw [f4 _ (by omega)]; exact this.1, this.2⟩
          refine (t20_X1_dealFrom_52 (t20_X1_dealFrom_53 (t20_X1_dealFrom_54 (t20_X1_dealFrom_55 (t20_X1_dealFrom_57 (by first | assumption | rfl) c_X9_first (by first | decide | omega) (fun r57 => ?_))))))
          -- 1 leaves: :->60
          rw [pj.1]
          have hpp := pj.2
          have hkn : k < n := by omega
          refine (t20_X1_dealFrom_60 (by first | assumption | rfl) ((c_X1_makes (n := n) (m := m) (D := fun q => D q k) (V := fun q => prI D P g q k))) (by first | decide | omega) (fun z60 I60 L60 q60 => ?_))
          -- 1 leaves: :call60
          obtain ⟨rfl, m2, m3, m4⟩ := q60
          have pe : ∀ q, pwI (prI D P g q k) (P j) (D q k).toNat = prI D P (upG g k j) q (k + 1) := fun q => by
            show _ = pwI (prI D P (upG g k j) q k) (P (upG g k j k)) (D q k).toNat
            rw [prI_c (g := upG g k j) (g' := g) (fun i hi => by unfold upG; rw [if_neg (by omega)])]
            unfold upG
            rw [if_pos rfl]
          rcases m4 with ⟨rfl, m4⟩ | ⟨rfl, q, hq1, hq2⟩
          · -- it fits
            have hg2 : ∀ t, upG g k j t < n := fun t => by unfold upG; split; exact hjn; exact hg t
            have ds : DlS (stI I60 35 6 k j) L60 n m (k + 1) (set ||| 2 ^ j) D P (upG g k j) (fdA n m D P r set g a j) := by
              refine ⟨fun t ht => ?_, fun q hq => ?_, by rw [m2 33 (by decide)]; exact f5, fun t ht => by rw [stI_ne (by decide)]; exact f6 t ht⟩
              · rw [stI_in (by omega)]
                unfold upG
                by_cases e : t = k
                · subst e; rw [up2_eq, if_pos rfl]
                · rw [up2_ne (.inr (by omega)), if_neg e, f2 t (by omega)]; exact d1 t (by omega)
              · have h := m4 q hq
                have e3 : ((k + 1 : Nat) : Int) * 4 + q = ((k : Int) + 1) * 4 + q := by omega
                rw [e3, ← pe q]
                exact ⟨h.1, h.2, by rw [pe q]; exact (prI_b (n := n) (m := m) (fun i hi => (w4 i hi).2.1) hg2 (k + 1)).2⟩
            have hw2 : DlW (stI I60 35 6 k j) n m D P := DlW_c hw1 (fun o o1 _ i => stI_ne o1)
            have hc := ih (k + 1) (set ||| 2 ^ j) (upG g k j) (fdA n m D P r set g a j) (stI I60 35 6 k j) L60 (by omega) (pcN_lt hn hs hjn) (by rw [h6.2.1 (by omega)]; omega) hg2 hw2 ds
            have lo := h6.1
            refine (t20_X1_dealFrom_63 (by omega) (fun c63 => (t20_X1_dealFrom_90 (t20_X1_dealFrom_93 (Ev.wk (al' := [_, _, _, _, _, vu]) ⟨.inl rfl, .inl rfl, .inl rfl, .inl rfl, .inl rfl, .inr rfl, trivial⟩ ?_)))) (fun c63 => (t20_X1_dealFrom_66 (t20_X1_dealFrom_67 (by first | assumption | rfl) (by first | assumption | rfl) (t20_X1_dealFrom_70 (t20_X1_dealFrom_71 (t20_X1_dealFrom_73 c_X10_store (by first | decide | omega) (t20_X1_dealFrom_76 (t20_X1_dealFrom_77 (t20_X1_dealFrom_78 (t20_X1_dealFrom_79 (t20_X1_dealFrom_80 (t20_X1_dealFrom_81 (t20_X1_dealFrom_82 (t20_X1_dealFrom_83 (t20_X1_dealFrom_85 (b_shl j (by omega)) (t20_X1_dealFrom_86 (b_or set (2 ^ j)) (t20_X1_dealFrom_87 (hc) (by first | decide | omega) (fun I87 L87 q87 => ?_)))))))))))))))))))
            -- 2 leaves: 63t :->22 | 63f :call87
            · exact absurd c63 (by decide)
            obtain ⟨g1, g2, g3, g4, g5, g6⟩ := q87
            refine (t20_X1_dealFrom_90 (t20_X1_dealFrom_93 (Ev.wk (al' := [_, _, _, _, _, vu]) ⟨.inl rfl, .inl rfl, .inl rfl, .inl rfl, .inl rfl, .inr rfl, trivial⟩ ?_)))
            -- 1 leaves: :->22
            refine ihf (j + 1) _ _ (by omega) (by omega) ⟨fun o o1 o2 i => ?_, fun t ht => ?_, fun o o1 o2 i => ?_, fun i hi => ?_, ?_, fun t ht => ?_⟩
            · rw [g1 o o1 o2, stI_ne o1]; exact f1 o o1 o2 i
            · rw [g2 t (by omega), stI_in (by omega), up2_ne (.inr (by omega))]; exact f2 t ht
            · rw [g3 o o1 o2, m2 o o2]; exact f3 o o1 o2 i
            · rw [g4 i (by omega), m3 i hi]; exact f4 i hi
            · rw [g5, fdA_s, nx]
            · rw [g6 t ht, fdA_s, nx]
          · -- too long
            refine (t20_X1_dealFrom_63 (by omega) (fun c63 => (t20_X1_dealFrom_90 (t20_X1_dealFrom_93 (Ev.wk (al' := [_, _, _, _, _, vu]) ⟨.inl rfl, .inl rfl, .inl rfl, .inl rfl, .inl rfl, .inr rfl, trivial⟩ ?_)))) (fun c63 => ?_))
            -- 2 leaves: 63t :->22 | 63f :->66
            · refine ihf (j + 1) _ _ (by omega) (by omega) ?_
              rw [fdA_s, nx, dfA_long (q := q) (t := k + 1) hq1 r _ _ _ (by omega) (by rw [← pe q]; exact hq2)]
              exact ⟨f1, f2, fun o o1 o2 i => by rw [m2 o o2]; exact f3 o o1 o2 i, fun i hi => by rw [m3 i hi]; exact f4 i hi, by rw [m2 33 (by decide)]; exact f5, f6⟩
            · exact absurd rfl c63
    refine (t20_X1_dealFrom_0 (t20_X1_dealFrom_1 (t20_X1_dealFrom_2 (by first | assumption | rfl) (fun r2 => (t20_X1_dealFrom_5 (by omega) (by omega) (fun c5 => ?_) (fun c5 => (t20_X1_dealFrom_8 (t20_X1_dealFrom_9 (t20_X1_dealFrom_11 (by omega) (by omega) (fun c11 => (t20_X1_dealFrom_19 (t20_X1_dealFrom_20 ?_))) (fun c11 => ?_))))))))))
    -- 3 leaves: 5t :->14 | 5f 11t :->22 | 5f 11f :->14
    · rw [hw.1] at c5; omega
    · exact key (n + 1) 0 I L (by omega) (by omega) ⟨fun o _ _ j => rfl, fun t _ => rfl, fun o _ _ j => rfl, fun i _ => rfl, hd.2.2.1, hd.2.2.2⟩
    · omega
