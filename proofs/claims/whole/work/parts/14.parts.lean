theorem t14_X3_takeOut_2 {E : En} {d : Nat} {κ : Kp} {I L : MI} {Z : Zt} {a0 : Nat} {a1 a2 : Int}  (k : Ev E d M_X3_takeOut 3 [vr a0, vi a1, vi a2] [vi a1] κ I L Z) : Ev E d M_X3_takeOut 2 [vr a0, vi a1, vi a2] [] κ I L Z := E_iload_n dX3_takeOut_2 rfl k
theorem t14_X3_takeOut_3 {E : En} {d : Nat} {κ : Kp} {I L : MI} {Z : Zt} {a0 : Nat} {a1 a2 b0 : Int}  (k : Ev E d M_X3_takeOut 4 [vr a0, vi a1, vi a2] [vi 1, vi b0] κ I L Z) : Ev E d M_X3_takeOut 3 [vr a0, vi a1, vi a2] [vi b0] κ I L Z := E_iconst (v := 1) dX3_takeOut_3 rfl k
theorem t14_X3_takeOut_4 {E : En} {d : Nat} {κ : Kp} {I L : MI} {Z : Zt} {a0 : Nat} {a1 a2 b0 b1 : Int} (hx : Ir b1) (hy : Ir b0) (kt : b1 ≤ b0 → Ev E d M_X3_takeOut 42 [vr a0, vi a1, vi a2] [] κ I L Z) (kf : b0 < b1 → Ev E d M_X3_takeOut 7 [vr a0, vi a1, vi a2] [] κ I L Z) : Ev E d M_X3_takeOut 4 [vr a0, vi a1, vi a2] [vi b0, vi b1] κ I L Z := E_icmp_le dX3_takeOut_4 hx hy kt kf (by decide)
theorem t14_X3_takeOut_42 {E : En} {d : Nat} {κ : Kp} {I L : MI} {Z : Zt} {a0 : Nat} {a1 a2 : Int}  (k : Ev E d M_X3_takeOut 43 [vr a0, vi a1, vi a2] [vi a2] κ I L Z) : Ev E d M_X3_takeOut 42 [vr a0, vi a1, vi a2] [] κ I L Z := E_iload_n dX3_takeOut_42 rfl k
theorem t14_X3_takeOut_43 {E : En} {d : Nat} {g : Geo} {I L : MI} {Q : Option AV → Geo → MI → MI → Prop} {cs : Nat × Nat} {a0 : Nat} {a1 a2 b0 : Int} (hq : Q (some (vi b0)) g I L) (h1 : cs.1 ≤ M_X3_takeOut.2.2.2.2.1 := by decide) (h2 : cs.2 ≤ M_X3_takeOut.2.2.2.2.2 := by decide) : Ev E d M_X3_takeOut 43 [vr a0, vi a1, vi a2] [vi b0] (g, cs) I L (ZQ E M_X3_takeOut Q) := E_ireturn rfl dX3_takeOut_43 hq h1 h2
theorem t14_X3_takeOut_7 {E : En} {d : Nat} {κ : Kp} {I L : MI} {Z : Zt} {a0 : Nat} {a1 a2 : Int}  (k : Ev E d M_X3_takeOut 8 [vr a0, vi a1, vi a2] [vi a2] κ I L Z) : Ev E d M_X3_takeOut 7 [vr a0, vi a1, vi a2] [] κ I L Z := E_iload_n dX3_takeOut_7 rfl k
theorem t14_X3_takeOut_8 {E : En} {d : Nat} {κ : Kp} {I L : MI} {Z : Zt} {a0 : Nat} {a1 a2 b0 : Int}  (k : Ev E d M_X3_takeOut 10 [vr a0, vi a1, vi a2] [vi 64, vi b0] κ I L Z) : Ev E d M_X3_takeOut 8 [vr a0, vi a1, vi a2] [vi b0] κ I L Z := E_bipush (v := 64) dX3_takeOut_8 rfl k
theorem t14_X3_takeOut_10 {E : En} {d : Nat} {κ : Kp} {I L : MI} {Z : Zt} {a0 : Nat} {a1 a2 b0 b1 : Int} (hx : Ir b1) (hy : Ir b0) (kt : b0 ≤ b1 → Ev E d M_X3_takeOut 42 [vr a0, vi a1, vi a2] [] κ I L Z) (kf : b1 < b0 → Ev E d M_X3_takeOut 13 [vr a0, vi a1, vi a2] [] κ I L Z) : Ev E d M_X3_takeOut 10 [vr a0, vi a1, vi a2] [vi b0, vi b1] κ I L Z := E_icmp_ge dX3_takeOut_10 hx hy kt kf (by decide)
theorem t14_X3_takeOut_13 {E : En} {d : Nat} {κ : Kp} {I L : MI} {Z : Zt} {a0 : Nat} {a1 a2 : Int}  (k : Ev E d M_X3_takeOut 14 [vr a0, vi a1, vi a2] [vr a0] κ I L Z) : Ev E d M_X3_takeOut 13 [vr a0, vi a1, vi a2] [] κ I L Z := E_aload_n dX3_takeOut_13 rfl k
theorem t14_X3_takeOut_14 {E : En} {d : Nat} {κ : Kp} {I L : MI} {Z : Zt} {a0 b0 : Nat} {a1 a2 : Int} (hs : κ.1.1[b0]? = some (.inl 3)) (k : Jr (L b0 1) → Ev E d M_X3_takeOut 17 [vr a0, vi a1, vi a2] [vl (L b0 1)] κ I L Z) : Ev E d M_X3_takeOut 14 [vr a0, vi a1, vi a2] [vr b0] κ I L Z := E_getL (ci := 3) (n := 1) dX3_takeOut_14 wF_RX3_15 (by decide) hs rfl k
theorem t14_X3_takeOut_17 {E : En} {d : Nat} {κ : Kp} {I L : MI} {Z : Zt} {a0 : Nat} {a1 a2 b0 : Int}  (k : Ev E d M_X3_takeOut 18 [vr a0, vi a1, vi a2] [vi a1, vl b0] κ I L Z) : Ev E d M_X3_takeOut 17 [vr a0, vi a1, vi a2] [vl b0] κ I L Z := E_iload_n dX3_takeOut_17 rfl k
theorem t14_X3_takeOut_18 {E : En} {d : Nat} {κ : Kp} {I L : MI} {Z : Zt} {a0 : Nat} {a1 a2 b0 b1 : Int} (hx : Ir b0) (k : Ev E d M_X3_takeOut 19 [vr a0, vi a1, vi a2] [vl b0, vl b1] κ I L Z) : Ev E d M_X3_takeOut 18 [vr a0, vi a1, vi a2] [vi b0, vl b1] κ I L Z := E_i2l dX3_takeOut_18 hx k
theorem t14_X3_takeOut_19 {E : En} {d : Nat} {κ : Kp} {I L : MI} {Z : Zt} {a0 : Nat} {a1 a2 b0 b1 : Int} (hx : Jr b1) (hy : Jr b0) (h0 : b0 ≠ 0) (hm : b0 ≠ -1) (k : Ev E d M_X3_takeOut 20 [vr a0, vi a1, vi a2] [vl (b1.tmod b0)] κ I L Z) : Ev E d M_X3_takeOut 19 [vr a0, vi a1, vi a2] [vl b0, vl b1] κ I L Z := E_lrem dX3_takeOut_19 hx hy h0 hm k
theorem t14_X3_takeOut_20 {E : En} {d : Nat} {κ : Kp} {I L : MI} {Z : Zt} {a0 : Nat} {a1 a2 b0 : Int}  (k : Ev E d M_X3_takeOut 21 [vr a0, vi a1, vi a2] [vl 0, vl b0] κ I L Z) : Ev E d M_X3_takeOut 20 [vr a0, vi a1, vi a2] [vl b0] κ I L Z := E_lconst (v := 0) dX3_takeOut_20 rfl k
theorem t14_X3_takeOut_21 {E : En} {d : Nat} {κ : Kp} {I L : MI} {Z : Zt} {a0 : Nat} {a1 a2 b0 b1 : Int} (hx : Jr b1) (hy : Jr b0) (kt : ¬ b1 = b0 → Ev E d M_X3_takeOut 42 [vr a0, vi a1, vi a2] [] κ I L Z) (kf : b1 = b0 → Ev E d M_X3_takeOut 25 [vr a0, vi a1, vi a2] [] κ I L Z) : Ev E d M_X3_takeOut 21 [vr a0, vi a1, vi a2] [vl b0, vl b1] κ I L Z := E_lcmp_ne dX3_takeOut_21 dX3_takeOut_22 hx hy kt kf (by decide)
theorem t14_X3_takeOut_25 {E : En} {d : Nat} {κ : Kp} {I L : MI} {Z : Zt} {a0 : Nat} {a1 a2 : Int}  (k : Ev E d M_X3_takeOut 26 [vr a0, vi a1, vi a2] [vr a0] κ I L Z) : Ev E d M_X3_takeOut 25 [vr a0, vi a1, vi a2] [] κ I L Z := E_aload_n dX3_takeOut_25 rfl k
theorem t14_X3_takeOut_26 {E : En} {d : Nat} {κ : Kp} {I L : MI} {Z : Zt} {a0 b0 : Nat} {a1 a2 : Int}  (k : Ev E d M_X3_takeOut 27 [vr a0, vi a1, vi a2] [vr b0, vr b0] κ I L Z) : Ev E d M_X3_takeOut 26 [vr a0, vi a1, vi a2] [vr b0] κ I L Z := E_dup dX3_takeOut_26 rfl k
theorem t14_X3_takeOut_27 {E : En} {d : Nat} {κ : Kp} {I L : MI} {Z : Zt} {a0 b0 b1 : Nat} {a1 a2 : Int} (hs : κ.1.1[b0]? = some (.inl 3)) (k : Jr (L b0 1) → Ev E d M_X3_takeOut 30 [vr a0, vi a1, vi a2] [vl (L b0 1), vr b1] κ I L Z) : Ev E d M_X3_takeOut 27 [vr a0, vi a1, vi a2] [vr b0, vr b1] κ I L Z := E_getL (ci := 3) (n := 1) dX3_takeOut_27 wF_RX3_15 (by decide) hs rfl k
theorem t14_X3_takeOut_30 {E : En} {d : Nat} {κ : Kp} {I L : MI} {Z : Zt} {a0 b1 : Nat} {a1 a2 b0 : Int}  (k : Ev E d M_X3_takeOut 31 [vr a0, vi a1, vi a2] [vi a1, vl b0, vr b1] κ I L Z) : Ev E d M_X3_takeOut 30 [vr a0, vi a1, vi a2] [vl b0, vr b1] κ I L Z := E_iload_n dX3_takeOut_30 rfl k
theorem t14_X3_takeOut_31 {E : En} {d : Nat} {κ : Kp} {I L : MI} {Z : Zt} {a0 b2 : Nat} {a1 a2 b0 b1 : Int} (hx : Ir b0) (k : Ev E d M_X3_takeOut 32 [vr a0, vi a1, vi a2] [vl b0, vl b1, vr b2] κ I L Z) : Ev E d M_X3_takeOut 31 [vr a0, vi a1, vi a2] [vi b0, vl b1, vr b2] κ I L Z := E_i2l dX3_takeOut_31 hx k
theorem t14_X3_takeOut_32 {E : En} {d : Nat} {κ : Kp} {I L : MI} {Z : Zt} {a0 b2 : Nat} {a1 a2 b0 b1 : Int} (hx : Jr b1) (hy : Jr b0) (h0 : b0 ≠ 0) (hm : b0 ≠ -1) (k : Ev E d M_X3_takeOut 33 [vr a0, vi a1, vi a2] [vl (b1.tdiv b0), vr b2] κ I L Z) : Ev E d M_X3_takeOut 32 [vr a0, vi a1, vi a2] [vl b0, vl b1, vr b2] κ I L Z := E_ldiv dX3_takeOut_32 hx hy h0 hm k
theorem t14_X3_takeOut_33 {E : En} {d : Nat} {κ : Kp} {I L : MI} {Z : Zt} {a0 b1 : Nat} {a1 a2 b0 : Int} (hs : κ.1.1[b1]? = some (.inl 3)) (hz : Jr b0) (k : Ev E d M_X3_takeOut 36 [vr a0, vi a1, vi a2] [] κ I (up2 L b1 1 b0) Z) : Ev E d M_X3_takeOut 33 [vr a0, vi a1, vi a2] [vl b0, vr b1] κ I L Z := E_putL (ci := 3) (n := 1) dX3_takeOut_33 wF_RX3_15 (by decide) hs rfl rfl hz k
theorem t14_X3_takeOut_36 {E : En} {d : Nat} {κ : Kp} {I L : MI} {Z : Zt} {a0 : Nat} {a1 a2 : Int}  (k : Ev E d M_X3_takeOut 39 [vr a0, vi a1, vi (a2 + 1)] [] κ I L Z) : Ev E d M_X3_takeOut 36 [vr a0, vi a1, vi a2] [] κ I L Z := E_iinc dX3_takeOut_36 rfl rfl (Nat.le_of_ble_eq_true rfl) k
theorem t14_X3_takeOut_39 {E : En} {d : Nat} {κ : Kp} {I L : MI} {Z : Zt} {a0 : Nat} {a1 a2 : Int}  (k : Ev E d M_X3_takeOut 2 [vr a0, vi a1, vi a2] [] κ I L Z) : Ev E d M_X3_takeOut 39 [vr a0, vi a1, vi a2] [] κ I L Z := E_goto dX3_takeOut_39 (by decide) k
theorem t14_X3_takeOut_0 {E : En} {d : Nat} {κ : Kp} {I L : MI} {Z : Zt} {a0 : Nat} {a1 : Int}  (k : Ev E d M_X3_takeOut 1 [vr a0, vi a1, vu] [vi 0] κ I L Z) : Ev E d M_X3_takeOut 0 [vr a0, vi a1, vu] [] κ I L Z := E_iconst (v := 0) dX3_takeOut_0 rfl k
theorem t14_X3_takeOut_1 {E : En} {d : Nat} {κ : Kp} {I L : MI} {Z : Zt} {a0 : Nat} {a1 b0 : Int}  (k : Ev E d M_X3_takeOut 2 [vr a0, vi a1, vi b0] [] κ I L Z) : Ev E d M_X3_takeOut 1 [vr a0, vi a1, vu] [vi b0] κ I L Z := E_istore_n dX3_takeOut_1 rfl (Nat.le_of_ble_eq_true rfl) k
theorem t14_X3_keepsRules_15 {E : En} {d : Nat} {κ : Kp} {I L : MI} {Z : Zt} {a0 a1 : Nat} {a2 a3 a4 : Int}  (k : Ev E d M_X3_keepsRules 17 [vr a0, vr a1, vi a2, vi a3, vi a4] [vi a4] κ I L Z) : Ev E d M_X3_keepsRules 15 [vr a0, vr a1, vi a2, vi a3, vi a4] [] κ I L Z := E_iload dX3_keepsRules_15 rfl k
theorem t14_X3_keepsRules_17 {E : En} {d : Nat} {κ : Kp} {I L : MI} {Z : Zt} {a0 a1 : Nat} {a2 a3 a4 b0 : Int}  (k : Ev E d M_X3_keepsRules 18 [vr a0, vr a1, vi a2, vi a3, vi a4] [vr a1, vi b0] κ I L Z) : Ev E d M_X3_keepsRules 17 [vr a0, vr a1, vi a2, vi a3, vi a4] [vi b0] κ I L Z := E_aload_n dX3_keepsRules_17 rfl k
theorem t14_X3_keepsRules_18 {E : En} {d : Nat} {κ : Kp} {I L : MI} {Z : Zt} {a0 a1 b0 : Nat} {a2 a3 a4 b1 : Int} (hs : κ.1.1[b0]? = some (.inl 9)) (k : Ir (I b0 0) → Ev E d M_X3_keepsRules 21 [vr a0, vr a1, vi a2, vi a3, vi a4] [vi (I b0 0), vi b1] κ I L Z) : Ev E d M_X3_keepsRules 18 [vr a0, vr a1, vi a2, vi a3, vi a4] [vr b0, vi b1] κ I L Z := E_getI (ci := 9) (n := 0) dX3_keepsRules_18 wF_RX3_53 (by decide) hs rfl k
theorem t14_X3_keepsRules_21 {E : En} {d : Nat} {κ : Kp} {I L : MI} {Z : Zt} {a0 a1 : Nat} {a2 a3 a4 b0 b1 : Int} (hx : Ir b1) (hy : Ir b0) (kt : b0 ≤ b1 → Ev E d M_X3_keepsRules 62 [vr a0, vr a1, vi a2, vi a3, vi a4] [] κ I L Z) (kf : b1 < b0 → Ev E d M_X3_keepsRules 24 [vr a0, vr a1, vi a2, vi a3, vi a4] [] κ I L Z) : Ev E d M_X3_keepsRules 21 [vr a0, vr a1, vi a2, vi a3, vi a4] [vi b0, vi b1] κ I L Z := E_icmp_ge dX3_keepsRules_21 hx hy kt kf (by decide)
theorem t14_X3_keepsRules_62 {E : En} {d : Nat} {κ : Kp} {I L : MI} {Z : Zt} {a0 a1 : Nat} {a2 a3 a4 : Int}  (k : Ev E d M_X3_keepsRules 63 [vr a0, vr a1, vi a2, vi a3, vi a4] [vi a3] κ I L Z) : Ev E d M_X3_keepsRules 62 [vr a0, vr a1, vi a2, vi a3, vi a4] [] κ I L Z := E_iload_n dX3_keepsRules_62 rfl k
theorem t14_X3_keepsRules_63 {E : En} {d : Nat} {κ : Kp} {I L : MI} {Z : Zt} {a0 a1 : Nat} {a2 a3 a4 b0 : Int}  (k : Ev E d M_X3_keepsRules 64 [vr a0, vr a1, vi a2, vi a3, vi a4] [vr a1, vi b0] κ I L Z) : Ev E d M_X3_keepsRules 63 [vr a0, vr a1, vi a2, vi a3, vi a4] [vi b0] κ I L Z := E_aload_n dX3_keepsRules_63 rfl k
theorem t14_X3_keepsRules_64 {E : En} {d : Nat} {κ : Kp} {I L : MI} {Z : Zt} {a0 a1 b0 : Nat} {a2 a3 a4 b1 : Int} {q : Nat} (hs : κ.1.1[b0]? = some (.inl 9)) (hq : κ.1.2 b0 7 = some q) (k : Ev E d M_X3_keepsRules 67 [vr a0, vr a1, vi a2, vi a3, vi a4] [vr q, vi b1] κ I L Z) : Ev E d M_X3_keepsRules 64 [vr a0, vr a1, vi a2, vi a3, vi a4] [vr b0, vi b1] κ I L Z := E_getR (ci := 9) (n := 7) dX3_keepsRules_64 wF_RX3_66 (by decide) hs rfl hq k
theorem t14_X3_keepsRules_67 {E : En} {d : Nat} {κ : Kp} {I L : MI} {Z : Zt} {a0 a1 b0 : Nat} {a2 a3 a4 b1 : Int}  (k : Ev E d M_X3_keepsRules 68 [vr a0, vr a1, vi a2, vi a3, vi a4] [vi a2, vr b0, vi b1] κ I L Z) : Ev E d M_X3_keepsRules 67 [vr a0, vr a1, vi a2, vi a3, vi a4] [vr b0, vi b1] κ I L Z := E_iload_n dX3_keepsRules_67 rfl k
theorem t14_X3_keepsRules_68 {E : En} {d d' : Nat} {cs : Nat × Nat} {I L : MI} {Z : Zt} {a0 a1 b1 : Nat} {a2 a3 a4 b0 b2 : Int} {z : Int} {I' L' : MI} (hM : CFi E d' M_X10_at [vr b1, vi b0] I L z I' L') (hlt : d' + 1 ≤ d) (k : Ir z → Ev E d M_X3_keepsRules 71 [vr a0, vr a1, vi a2, vi a3, vi a4] [vi z, vi b2] (G0, cs) I' L' Z) (hc1 : cs.1 ≤ M_X3_keepsRules.2.2.2.2.1 := by decide) (hc2 : cs.2 ≤ M_X3_keepsRules.2.2.2.2.2 := by decide) : Ev E d M_X3_keepsRules 68 [vr a0, vr a1, vi a2, vi a3, vi a4] [vi b0, vr b1, vi b2] (G0, cs) I L Z := E_callSN (as := [vr b1, vi b0]) (rest := [vi b2]) (n := 2) hM dX3_keepsRules_68 rfl (host := "SaidByTimes") (cl := RX3) (by decide +kernel) wS_X10_at hlt wC_X10_at wI_X10 (by decide +kernel) rfl (by decide) (Nat.le_of_ble_eq_true rfl) hc1 hc2 rfl (fun r g' I2 L2 h => by obtain ⟨rfl, z, rfl, hr, rfl, rfl, rfl⟩ := h; exact k hr)
theorem t14_X3_keepsRules_71 {E : En} {d : Nat} {κ : Kp} {I L : MI} {Z : Zt} {a0 a1 : Nat} {a2 a3 a4 b0 b1 : Int} (hx : Ir b1) (hy : Ir b0) (kt : b1 < b0 → Ev E d M_X3_keepsRules 86 [vr a0, vr a1, vi a2, vi a3, vi a4] [] κ I L Z) (kf : b0 ≤ b1 → Ev E d M_X3_keepsRules 74 [vr a0, vr a1, vi a2, vi a3, vi a4] [] κ I L Z) : Ev E d M_X3_keepsRules 71 [vr a0, vr a1, vi a2, vi a3, vi a4] [vi b0, vi b1] κ I L Z := E_icmp_lt dX3_keepsRules_71 hx hy kt kf (by decide)
theorem t14_X3_keepsRules_86 {E : En} {d : Nat} {κ : Kp} {I L : MI} {Z : Zt} {a0 a1 : Nat} {a2 a3 a4 : Int}  (k : Ev E d M_X3_keepsRules 87 [vr a0, vr a1, vi a2, vi a3, vi a4] [vi 0] κ I L Z) : Ev E d M_X3_keepsRules 86 [vr a0, vr a1, vi a2, vi a3, vi a4] [] κ I L Z := E_iconst (v := 0) dX3_keepsRules_86 rfl k
theorem t14_X3_keepsRules_87 {E : En} {d : Nat} {g : Geo} {I L : MI} {Q : Option AV → Geo → MI → MI → Prop} {cs : Nat × Nat} {a0 a1 : Nat} {a2 a3 a4 b0 : Int} (hz : b0 = 0 ∨ b0 = 1) (hq : Q (some (vi b0)) g I L) (h1 : cs.1 ≤ M_X3_keepsRules.2.2.2.2.1 := by decide) (h2 : cs.2 ≤ M_X3_keepsRules.2.2.2.2.2 := by decide) : Ev E d M_X3_keepsRules 87 [vr a0, vr a1, vi a2, vi a3, vi a4] [vi b0] (g, cs) I L (ZQ E M_X3_keepsRules Q) := E_zreturn rfl hz dX3_keepsRules_87 hq h1 h2
theorem t14_X3_keepsRules_74 {E : En} {d : Nat} {κ : Kp} {I L : MI} {Z : Zt} {a0 a1 : Nat} {a2 a3 a4 : Int}  (k : Ev E d M_X3_keepsRules 75 [vr a0, vr a1, vi a2, vi a3, vi a4] [vi a3] κ I L Z) : Ev E d M_X3_keepsRules 74 [vr a0, vr a1, vi a2, vi a3, vi a4] [] κ I L Z := E_iload_n dX3_keepsRules_74 rfl k
theorem t14_X3_keepsRules_75 {E : En} {d : Nat} {κ : Kp} {I L : MI} {Z : Zt} {a0 a1 : Nat} {a2 a3 a4 b0 : Int}  (k : Ev E d M_X3_keepsRules 76 [vr a0, vr a1, vi a2, vi a3, vi a4] [vr a1, vi b0] κ I L Z) : Ev E d M_X3_keepsRules 75 [vr a0, vr a1, vi a2, vi a3, vi a4] [vi b0] κ I L Z := E_aload_n dX3_keepsRules_75 rfl k
theorem t14_X3_keepsRules_76 {E : En} {d : Nat} {κ : Kp} {I L : MI} {Z : Zt} {a0 a1 b0 : Nat} {a2 a3 a4 b1 : Int} {q : Nat} (hs : κ.1.1[b0]? = some (.inl 9)) (hq : κ.1.2 b0 8 = some q) (k : Ev E d M_X3_keepsRules 79 [vr a0, vr a1, vi a2, vi a3, vi a4] [vr q, vi b1] κ I L Z) : Ev E d M_X3_keepsRules 76 [vr a0, vr a1, vi a2, vi a3, vi a4] [vr b0, vi b1] κ I L Z := E_getR (ci := 9) (n := 8) dX3_keepsRules_76 wF_RX3_69 (by decide) hs rfl hq k
theorem t14_X3_keepsRules_79 {E : En} {d : Nat} {κ : Kp} {I L : MI} {Z : Zt} {a0 a1 b0 : Nat} {a2 a3 a4 b1 : Int}  (k : Ev E d M_X3_keepsRules 80 [vr a0, vr a1, vi a2, vi a3, vi a4] [vi a2, vr b0, vi b1] κ I L Z) : Ev E d M_X3_keepsRules 79 [vr a0, vr a1, vi a2, vi a3, vi a4] [vr b0, vi b1] κ I L Z := E_iload_n dX3_keepsRules_79 rfl k
theorem t14_X3_keepsRules_80 {E : En} {d d' : Nat} {cs : Nat × Nat} {I L : MI} {Z : Zt} {a0 a1 b1 : Nat} {a2 a3 a4 b0 b2 : Int} {z : Int} {I' L' : MI} (hM : CFi E d' M_X10_at [vr b1, vi b0] I L z I' L') (hlt : d' + 1 ≤ d) (k : Ir z → Ev E d M_X3_keepsRules 83 [vr a0, vr a1, vi a2, vi a3, vi a4] [vi z, vi b2] (G0, cs) I' L' Z) (hc1 : cs.1 ≤ M_X3_keepsRules.2.2.2.2.1 := by decide) (hc2 : cs.2 ≤ M_X3_keepsRules.2.2.2.2.2 := by decide) : Ev E d M_X3_keepsRules 80 [vr a0, vr a1, vi a2, vi a3, vi a4] [vi b0, vr b1, vi b2] (G0, cs) I L Z := E_callSN (as := [vr b1, vi b0]) (rest := [vi b2]) (n := 2) hM dX3_keepsRules_80 rfl (host := "SaidByTimes") (cl := RX3) (by decide +kernel) wS_X10_at hlt wC_X10_at wI_X10 (by decide +kernel) rfl (by decide) (Nat.le_of_ble_eq_true rfl) hc1 hc2 rfl (fun r g' I2 L2 h => by obtain ⟨rfl, z, rfl, hr, rfl, rfl, rfl⟩ := h; exact k hr)
theorem t14_X3_keepsRules_83 {E : En} {d : Nat} {κ : Kp} {I L : MI} {Z : Zt} {a0 a1 : Nat} {a2 a3 a4 b0 b1 : Int} (hx : Ir b1) (hy : Ir b0) (kt : b1 ≤ b0 → Ev E d M_X3_keepsRules 88 [vr a0, vr a1, vi a2, vi a3, vi a4] [] κ I L Z) (kf : b0 < b1 → Ev E d M_X3_keepsRules 86 [vr a0, vr a1, vi a2, vi a3, vi a4] [] κ I L Z) : Ev E d M_X3_keepsRules 83 [vr a0, vr a1, vi a2, vi a3, vi a4] [vi b0, vi b1] κ I L Z := E_icmp_le dX3_keepsRules_83 hx hy kt kf (by decide)
theorem t14_X3_keepsRules_88 {E : En} {d : Nat} {κ : Kp} {I L : MI} {Z : Zt} {a0 a1 : Nat} {a2 a3 a4 : Int}  (k : Ev E d M_X3_keepsRules 91 [vr a0, vr a1, vi (a2 + 1), vi a3, vi a4] [] κ I L Z) : Ev E d M_X3_keepsRules 88 [vr a0, vr a1, vi a2, vi a3, vi a4] [] κ I L Z := E_iinc dX3_keepsRules_88 rfl rfl (Nat.le_of_ble_eq_true rfl) k
theorem t14_X3_keepsRules_91 {E : En} {d : Nat} {κ : Kp} {I L : MI} {Z : Zt} {a0 a1 : Nat} {a2 a3 a4 : Int}  (k : Ev E d M_X3_keepsRules 2 [vr a0, vr a1, vi a2, vi a3, vi a4] [] κ I L Z) : Ev E d M_X3_keepsRules 91 [vr a0, vr a1, vi a2, vi a3, vi a4] [] κ I L Z := E_goto dX3_keepsRules_91 (by decide) k
theorem t14_X3_keepsRules_24 {E : En} {d : Nat} {κ : Kp} {I L : MI} {Z : Zt} {a0 a1 : Nat} {a2 a3 a4 : Int}  (k : Ev E d M_X3_keepsRules 25 [vr a0, vr a1, vi a2, vi a3, vi a4] [vr a1] κ I L Z) : Ev E d M_X3_keepsRules 24 [vr a0, vr a1, vi a2, vi a3, vi a4] [] κ I L Z := E_aload_n dX3_keepsRules_24 rfl k
theorem t14_X3_keepsRules_25 {E : En} {d : Nat} {κ : Kp} {I L : MI} {Z : Zt} {a0 a1 b0 : Nat} {a2 a3 a4 : Int} {q : Nat} (hs : κ.1.1[b0]? = some (.inl 9)) (hq : κ.1.2 b0 5 = some q) (k : Ev E d M_X3_keepsRules 28 [vr a0, vr a1, vi a2, vi a3, vi a4] [vr q] κ I L Z) : Ev E d M_X3_keepsRules 25 [vr a0, vr a1, vi a2, vi a3, vi a4] [vr b0] κ I L Z := E_getR (ci := 9) (n := 5) dX3_keepsRules_25 wF_RX3_56 (by decide) hs rfl hq k
theorem t14_X3_keepsRules_28 {E : En} {d : Nat} {κ : Kp} {I L : MI} {Z : Zt} {a0 a1 b0 : Nat} {a2 a3 a4 : Int}  (k : Ev E d M_X3_keepsRules 30 [vr a0, vr a1, vi a2, vi a3, vi a4] [vi a4, vr b0] κ I L Z) : Ev E d M_X3_keepsRules 28 [vr a0, vr a1, vi a2, vi a3, vi a4] [vr b0] κ I L Z := E_iload dX3_keepsRules_28 rfl k
theorem t14_X3_keepsRules_30 {E : En} {d d' : Nat} {cs : Nat × Nat} {I L : MI} {Z : Zt} {a0 a1 b1 : Nat} {a2 a3 a4 b0 : Int} {z : Int} {I' L' : MI} (hM : CFi E d' M_X10_at [vr b1, vi b0] I L z I' L') (hlt : d' + 1 ≤ d) (k : Ir z → Ev E d M_X3_keepsRules 33 [vr a0, vr a1, vi a2, vi a3, vi a4] [vi z] (G0, cs) I' L' Z) (hc1 : cs.1 ≤ M_X3_keepsRules.2.2.2.2.1 := by decide) (hc2 : cs.2 ≤ M_X3_keepsRules.2.2.2.2.2 := by decide) : Ev E d M_X3_keepsRules 30 [vr a0, vr a1, vi a2, vi a3, vi a4] [vi b0, vr b1] (G0, cs) I L Z := E_callSN (as := [vr b1, vi b0]) (rest := []) (n := 2) hM dX3_keepsRules_30 rfl (host := "SaidByTimes") (cl := RX3) (by decide +kernel) wS_X10_at hlt wC_X10_at wI_X10 (by decide +kernel) rfl (by decide) (Nat.le_of_ble_eq_true rfl) hc1 hc2 rfl (fun r g' I2 L2 h => by obtain ⟨rfl, z, rfl, hr, rfl, rfl, rfl⟩ := h; exact k hr)
theorem t14_X3_keepsRules_33 {E : En} {d : Nat} {κ : Kp} {I L : MI} {Z : Zt} {a0 a1 : Nat} {a2 a3 a4 b0 : Int}  (k : Ev E d M_X3_keepsRules 34 [vr a0, vr a1, vi a2, vi a3, vi a4] [vr a1, vi b0] κ I L Z) : Ev E d M_X3_keepsRules 33 [vr a0, vr a1, vi a2, vi a3, vi a4] [vi b0] κ I L Z := E_aload_n dX3_keepsRules_33 rfl k
theorem t14_X3_keepsRules_34 {E : En} {d : Nat} {κ : Kp} {I L : MI} {Z : Zt} {a0 a1 b0 : Nat} {a2 a3 a4 b1 : Int} {q : Nat} (hs : κ.1.1[b0]? = some (.inl 9)) (hq : κ.1.2 b0 6 = some q) (k : Ev E d M_X3_keepsRules 37 [vr a0, vr a1, vi a2, vi a3, vi a4] [vr q, vi b1] κ I L Z) : Ev E d M_X3_keepsRules 34 [vr a0, vr a1, vi a2, vi a3, vi a4] [vr b0, vi b1] κ I L Z := E_getR (ci := 9) (n := 6) dX3_keepsRules_34 wF_RX3_63 (by decide) hs rfl hq k
theorem t14_X3_keepsRules_37 {E : En} {d : Nat} {κ : Kp} {I L : MI} {Z : Zt} {a0 a1 b0 : Nat} {a2 a3 a4 b1 : Int}  (k : Ev E d M_X3_keepsRules 38 [vr a0, vr a1, vi a2, vi a3, vi a4] [vi a2, vr b0, vi b1] κ I L Z) : Ev E d M_X3_keepsRules 37 [vr a0, vr a1, vi a2, vi a3, vi a4] [vr b0, vi b1] κ I L Z := E_iload_n dX3_keepsRules_37 rfl k
theorem t14_X3_keepsRules_38 {E : En} {d d' : Nat} {cs : Nat × Nat} {I L : MI} {Z : Zt} {a0 a1 b1 : Nat} {a2 a3 a4 b0 b2 : Int} {z : Int} {I' L' : MI} (hM : CFi E d' M_X10_at [vr b1, vi b0] I L z I' L') (hlt : d' + 1 ≤ d) (k : Ir z → Ev E d M_X3_keepsRules 41 [vr a0, vr a1, vi a2, vi a3, vi a4] [vi z, vi b2] (G0, cs) I' L' Z) (hc1 : cs.1 ≤ M_X3_keepsRules.2.2.2.2.1 := by decide) (hc2 : cs.2 ≤ M_X3_keepsRules.2.2.2.2.2 := by decide) : Ev E d M_X3_keepsRules 38 [vr a0, vr a1, vi a2, vi a3, vi a4] [vi b0, vr b1, vi b2] (G0, cs) I L Z := E_callSN (as := [vr b1, vi b0]) (rest := [vi b2]) (n := 2) hM dX3_keepsRules_38 rfl (host := "SaidByTimes") (cl := RX3) (by decide +kernel) wS_X10_at hlt wC_X10_at wI_X10 (by decide +kernel) rfl (by decide) (Nat.le_of_ble_eq_true rfl) hc1 hc2 rfl (fun r g' I2 L2 h => by obtain ⟨rfl, z, rfl, hr, rfl, rfl, rfl⟩ := h; exact k hr)
theorem t14_X3_keepsRules_41 {E : En} {d : Nat} {κ : Kp} {I L : MI} {Z : Zt} {a0 a1 : Nat} {a2 a3 a4 b0 b1 : Int} (hx : Ir b1) (hy : Ir b0) (kt : ¬ b1 = b0 → Ev E d M_X3_keepsRules 56 [vr a0, vr a1, vi a2, vi a3, vi a4] [] κ I L Z) (kf : b1 = b0 → Ev E d M_X3_keepsRules 44 [vr a0, vr a1, vi a2, vi a3, vi a4] [] κ I L Z) : Ev E d M_X3_keepsRules 41 [vr a0, vr a1, vi a2, vi a3, vi a4] [vi b0, vi b1] κ I L Z := E_icmp_ne dX3_keepsRules_41 hx hy kt kf (by decide)
theorem t14_X3_keepsRules_56 {E : En} {d : Nat} {κ : Kp} {I L : MI} {Z : Zt} {a0 a1 : Nat} {a2 a3 a4 : Int}  (k : Ev E d M_X3_keepsRules 59 [vr a0, vr a1, vi a2, vi a3, vi (a4 + 1)] [] κ I L Z) : Ev E d M_X3_keepsRules 56 [vr a0, vr a1, vi a2, vi a3, vi a4] [] κ I L Z := E_iinc dX3_keepsRules_56 rfl rfl (Nat.le_of_ble_eq_true rfl) k
theorem t14_X3_keepsRules_59 {E : En} {d : Nat} {κ : Kp} {I L : MI} {Z : Zt} {a0 a1 : Nat} {a2 a3 a4 : Int}  (k : Ev E d M_X3_keepsRules 15 [vr a0, vr a1, vi a2, vi a3, vi a4] [] κ I L Z) : Ev E d M_X3_keepsRules 59 [vr a0, vr a1, vi a2, vi a3, vi a4] [] κ I L Z := E_goto dX3_keepsRules_59 (by decide) k
theorem t14_X3_keepsRules_44 {E : En} {d : Nat} {κ : Kp} {I L : MI} {Z : Zt} {a0 a1 : Nat} {a2 a3 a4 : Int}  (k : Ev E d M_X3_keepsRules 45 [vr a0, vr a1, vi a2, vi a3, vi a4] [vi a3] κ I L Z) : Ev E d M_X3_keepsRules 44 [vr a0, vr a1, vi a2, vi a3, vi a4] [] κ I L Z := E_iload_n dX3_keepsRules_44 rfl k
theorem t14_X3_keepsRules_45 {E : En} {d : Nat} {κ : Kp} {I L : MI} {Z : Zt} {a0 a1 : Nat} {a2 a3 a4 b0 : Int}  (k : Ev E d M_X3_keepsRules 46 [vr a0, vr a1, vi a2, vi a3, vi a4] [vr a0, vi b0] κ I L Z) : Ev E d M_X3_keepsRules 45 [vr a0, vr a1, vi a2, vi a3, vi a4] [vi b0] κ I L Z := E_aload_n dX3_keepsRules_45 rfl k
theorem t14_X3_keepsRules_46 {E : En} {d : Nat} {κ : Kp} {I L : MI} {Z : Zt} {a0 a1 b0 : Nat} {a2 a3 a4 b1 : Int} {q : Nat} (hs : κ.1.1[b0]? = some (.inl 3)) (hq : κ.1.2 b0 0 = some q) (k : Ev E d M_X3_keepsRules 49 [vr a0, vr a1, vi a2, vi a3, vi a4] [vr q, vi b1] κ I L Z) : Ev E d M_X3_keepsRules 46 [vr a0, vr a1, vi a2, vi a3, vi a4] [vr b0, vi b1] κ I L Z := E_getR (ci := 3) (n := 0) dX3_keepsRules_46 wF_RX3_9 (by decide) hs rfl hq k
theorem t14_X3_keepsRules_49 {E : En} {d : Nat} {κ : Kp} {I L : MI} {Z : Zt} {a0 a1 b0 : Nat} {a2 a3 a4 b1 : Int}  (k : Ev E d M_X3_keepsRules 51 [vr a0, vr a1, vi a2, vi a3, vi a4] [vi a4, vr b0, vi b1] κ I L Z) : Ev E d M_X3_keepsRules 49 [vr a0, vr a1, vi a2, vi a3, vi a4] [vr b0, vi b1] κ I L Z := E_iload dX3_keepsRules_49 rfl k
theorem t14_X3_keepsRules_51 {E : En} {d d' : Nat} {cs : Nat × Nat} {I L : MI} {Z : Zt} {a0 a1 b1 : Nat} {a2 a3 a4 b0 b2 : Int} {z : Int} {I' L' : MI} (hM : CFi E d' M_X10_at [vr b1, vi b0] I L z I' L') (hlt : d' + 1 ≤ d) (k : Ir z → Ev E d M_X3_keepsRules 54 [vr a0, vr a1, vi a2, vi a3, vi a4] [vi z, vi b2] (G0, cs) I' L' Z) (hc1 : cs.1 ≤ M_X3_keepsRules.2.2.2.2.1 := by decide) (hc2 : cs.2 ≤ M_X3_keepsRules.2.2.2.2.2 := by decide) : Ev E d M_X3_keepsRules 51 [vr a0, vr a1, vi a2, vi a3, vi a4] [vi b0, vr b1, vi b2] (G0, cs) I L Z := E_callSN (as := [vr b1, vi b0]) (rest := [vi b2]) (n := 2) hM dX3_keepsRules_51 rfl (host := "SaidByTimes") (cl := RX3) (by decide +kernel) wS_X10_at hlt wC_X10_at wI_X10 (by decide +kernel) rfl (by decide) (Nat.le_of_ble_eq_true rfl) hc1 hc2 rfl (fun r g' I2 L2 h => by obtain ⟨rfl, z, rfl, hr, rfl, rfl, rfl⟩ := h; exact k hr)
theorem t14_X3_keepsRules_54 {E : En} {d : Nat} {κ : Kp} {I L : MI} {Z : Zt} {a0 a1 : Nat} {a2 a3 a4 b0 b1 : Int}  (k : Ev E d M_X3_keepsRules 55 [vr a0, vr a1, vi a2, vi a3, vi a4] [vi (b1 + b0)] κ I L Z) : Ev E d M_X3_keepsRules 54 [vr a0, vr a1, vi a2, vi a3, vi a4] [vi b0, vi b1] κ I L Z := E_iadd dX3_keepsRules_54 k
theorem t14_X3_keepsRules_55 {E : En} {d : Nat} {κ : Kp} {I L : MI} {Z : Zt} {a0 a1 : Nat} {a2 a3 a4 b0 : Int}  (k : Ev E d M_X3_keepsRules 56 [vr a0, vr a1, vi a2, vi b0, vi a4] [] κ I L Z) : Ev E d M_X3_keepsRules 55 [vr a0, vr a1, vi a2, vi a3, vi a4] [vi b0] κ I L Z := E_istore_n dX3_keepsRules_55 rfl (Nat.le_of_ble_eq_true rfl) k
theorem t14_X3_keepsRules_2 {E : En} {d : Nat} {κ : Kp} {I L : MI} {Z : Zt} {a0 a1 : Nat} {a2 : Int}  (k : Ev E d M_X3_keepsRules 3 [vr a0, vr a1, vi a2, vu, vu] [vi a2] κ I L Z) : Ev E d M_X3_keepsRules 2 [vr a0, vr a1, vi a2, vu, vu] [] κ I L Z := E_iload_n dX3_keepsRules_2 rfl k
theorem t14_X3_keepsRules_3 {E : En} {d : Nat} {κ : Kp} {I L : MI} {Z : Zt} {a0 a1 : Nat} {a2 b0 : Int}  (k : Ev E d M_X3_keepsRules 4 [vr a0, vr a1, vi a2, vu, vu] [vr a1, vi b0] κ I L Z) : Ev E d M_X3_keepsRules 3 [vr a0, vr a1, vi a2, vu, vu] [vi b0] κ I L Z := E_aload_n dX3_keepsRules_3 rfl k
theorem t14_X3_keepsRules_4 {E : En} {d : Nat} {κ : Kp} {I L : MI} {Z : Zt} {a0 a1 b0 : Nat} {a2 b1 : Int} (hs : κ.1.1[b0]? = some (.inl 9)) (k : Ir (I b0 1) → Ev E d M_X3_keepsRules 7 [vr a0, vr a1, vi a2, vu, vu] [vi (I b0 1), vi b1] κ I L Z) : Ev E d M_X3_keepsRules 4 [vr a0, vr a1, vi a2, vu, vu] [vr b0, vi b1] κ I L Z := E_getI (ci := 9) (n := 1) dX3_keepsRules_4 wF_RX3_50 (by decide) hs rfl k
theorem t14_X3_keepsRules_7 {E : En} {d : Nat} {κ : Kp} {I L : MI} {Z : Zt} {a0 a1 : Nat} {a2 b0 b1 : Int} (hx : Ir b1) (hy : Ir b0) (kt : b0 ≤ b1 → Ev E d M_X3_keepsRules 94 [vr a0, vr a1, vi a2, vu, vu] [] κ I L Z) (kf : b1 < b0 → Ev E d M_X3_keepsRules 10 [vr a0, vr a1, vi a2, vu, vu] [] κ I L Z) : Ev E d M_X3_keepsRules 7 [vr a0, vr a1, vi a2, vu, vu] [vi b0, vi b1] κ I L Z := E_icmp_ge dX3_keepsRules_7 hx hy kt kf (by decide)
theorem t14_X3_keepsRules_94 {E : En} {d : Nat} {κ : Kp} {I L : MI} {Z : Zt} {a0 a1 : Nat} {a2 : Int}  (k : Ev E d M_X3_keepsRules 95 [vr a0, vr a1, vi a2, vu, vu] [vi 1] κ I L Z) : Ev E d M_X3_keepsRules 94 [vr a0, vr a1, vi a2, vu, vu] [] κ I L Z := E_iconst (v := 1) dX3_keepsRules_94 rfl k
theorem t14_X3_keepsRules_95 {E : En} {d : Nat} {g : Geo} {I L : MI} {Q : Option AV → Geo → MI → MI → Prop} {cs : Nat × Nat} {a0 a1 : Nat} {a2 b0 : Int} (hz : b0 = 0 ∨ b0 = 1) (hq : Q (some (vi b0)) g I L) (h1 : cs.1 ≤ M_X3_keepsRules.2.2.2.2.1 := by decide) (h2 : cs.2 ≤ M_X3_keepsRules.2.2.2.2.2 := by decide) : Ev E d M_X3_keepsRules 95 [vr a0, vr a1, vi a2, vu, vu] [vi b0] (g, cs) I L (ZQ E M_X3_keepsRules Q) := E_zreturn rfl hz dX3_keepsRules_95 hq h1 h2
theorem t14_X3_keepsRules_10 {E : En} {d : Nat} {κ : Kp} {I L : MI} {Z : Zt} {a0 a1 : Nat} {a2 : Int}  (k : Ev E d M_X3_keepsRules 11 [vr a0, vr a1, vi a2, vu, vu] [vi 0] κ I L Z) : Ev E d M_X3_keepsRules 10 [vr a0, vr a1, vi a2, vu, vu] [] κ I L Z := E_iconst (v := 0) dX3_keepsRules_10 rfl k
theorem t14_X3_keepsRules_11 {E : En} {d : Nat} {κ : Kp} {I L : MI} {Z : Zt} {a0 a1 : Nat} {a2 b0 : Int}  (k : Ev E d M_X3_keepsRules 12 [vr a0, vr a1, vi a2, vi b0, vu] [] κ I L Z) : Ev E d M_X3_keepsRules 11 [vr a0, vr a1, vi a2, vu, vu] [vi b0] κ I L Z := E_istore_n dX3_keepsRules_11 rfl (Nat.le_of_ble_eq_true rfl) k
theorem t14_X3_keepsRules_12 {E : En} {d : Nat} {κ : Kp} {I L : MI} {Z : Zt} {a0 a1 : Nat} {a2 a3 : Int}  (k : Ev E d M_X3_keepsRules 13 [vr a0, vr a1, vi a2, vi a3, vu] [vi 0] κ I L Z) : Ev E d M_X3_keepsRules 12 [vr a0, vr a1, vi a2, vi a3, vu] [] κ I L Z := E_iconst (v := 0) dX3_keepsRules_12 rfl k
theorem t14_X3_keepsRules_13 {E : En} {d : Nat} {κ : Kp} {I L : MI} {Z : Zt} {a0 a1 : Nat} {a2 a3 b0 : Int}  (k : Ev E d M_X3_keepsRules 15 [vr a0, vr a1, vi a2, vi a3, vi b0] [] κ I L Z) : Ev E d M_X3_keepsRules 13 [vr a0, vr a1, vi a2, vi a3, vu] [vi b0] κ I L Z := E_istore dX3_keepsRules_13 rfl (Nat.le_of_ble_eq_true rfl) k
theorem t14_X3_keepsRules_0 {E : En} {d : Nat} {κ : Kp} {I L : MI} {Z : Zt} {a0 a1 : Nat}  (k : Ev E d M_X3_keepsRules 1 [vr a0, vr a1, vu, vu, vu] [vi 0] κ I L Z) : Ev E d M_X3_keepsRules 0 [vr a0, vr a1, vu, vu, vu] [] κ I L Z := E_iconst (v := 0) dX3_keepsRules_0 rfl k
theorem t14_X3_keepsRules_1 {E : En} {d : Nat} {κ : Kp} {I L : MI} {Z : Zt} {a0 a1 : Nat} {b0 : Int}  (k : Ev E d M_X3_keepsRules 2 [vr a0, vr a1, vi b0, vu, vu] [] κ I L Z) : Ev E d M_X3_keepsRules 1 [vr a0, vr a1, vu, vu, vu] [vi b0] κ I L Z := E_istore_n dX3_keepsRules_1 rfl (Nat.le_of_ble_eq_true rfl) k
theorem t14_X3_keepsPairs_2 {E : En} {d : Nat} {κ : Kp} {I L : MI} {Z : Zt} {a0 a1 : Nat} {a2 : Int}  (k : Ev E d M_X3_keepsPairs 3 [vr a0, vr a1, vi a2] [vi a2] κ I L Z) : Ev E d M_X3_keepsPairs 2 [vr a0, vr a1, vi a2] [] κ I L Z := E_iload_n dX3_keepsPairs_2 rfl k
theorem t14_X3_keepsPairs_3 {E : En} {d : Nat} {κ : Kp} {I L : MI} {Z : Zt} {a0 a1 : Nat} {a2 b0 : Int}  (k : Ev E d M_X3_keepsPairs 4 [vr a0, vr a1, vi a2] [vr a1, vi b0] κ I L Z) : Ev E d M_X3_keepsPairs 3 [vr a0, vr a1, vi a2] [vi b0] κ I L Z := E_aload_n dX3_keepsPairs_3 rfl k
theorem t14_X3_keepsPairs_4 {E : En} {d : Nat} {κ : Kp} {I L : MI} {Z : Zt} {a0 a1 b0 : Nat} {a2 b1 : Int} (hs : κ.1.1[b0]? = some (.inl 9)) (k : Ir (I b0 2) → Ev E d M_X3_keepsPairs 7 [vr a0, vr a1, vi a2] [vi (I b0 2), vi b1] κ I L Z) : Ev E d M_X3_keepsPairs 4 [vr a0, vr a1, vi a2] [vr b0, vi b1] κ I L Z := E_getI (ci := 9) (n := 2) dX3_keepsPairs_4 wF_RX3_72 (by decide) hs rfl k
theorem t14_X3_keepsPairs_7 {E : En} {d : Nat} {κ : Kp} {I L : MI} {Z : Zt} {a0 a1 : Nat} {a2 b0 b1 : Int} (hx : Ir b1) (hy : Ir b0) (kt : b0 ≤ b1 → Ev E d M_X3_keepsPairs 54 [vr a0, vr a1, vi a2] [] κ I L Z) (kf : b1 < b0 → Ev E d M_X3_keepsPairs 10 [vr a0, vr a1, vi a2] [] κ I L Z) : Ev E d M_X3_keepsPairs 7 [vr a0, vr a1, vi a2] [vi b0, vi b1] κ I L Z := E_icmp_ge dX3_keepsPairs_7 hx hy kt kf (by decide)
theorem t14_X3_keepsPairs_54 {E : En} {d : Nat} {κ : Kp} {I L : MI} {Z : Zt} {a0 a1 : Nat} {a2 : Int}  (k : Ev E d M_X3_keepsPairs 55 [vr a0, vr a1, vi a2] [vi 1] κ I L Z) : Ev E d M_X3_keepsPairs 54 [vr a0, vr a1, vi a2] [] κ I L Z := E_iconst (v := 1) dX3_keepsPairs_54 rfl k
theorem t14_X3_keepsPairs_55 {E : En} {d : Nat} {g : Geo} {I L : MI} {Q : Option AV → Geo → MI → MI → Prop} {cs : Nat × Nat} {a0 a1 : Nat} {a2 b0 : Int} (hz : b0 = 0 ∨ b0 = 1) (hq : Q (some (vi b0)) g I L) (h1 : cs.1 ≤ M_X3_keepsPairs.2.2.2.2.1 := by decide) (h2 : cs.2 ≤ M_X3_keepsPairs.2.2.2.2.2 := by decide) : Ev E d M_X3_keepsPairs 55 [vr a0, vr a1, vi a2] [vi b0] (g, cs) I L (ZQ E M_X3_keepsPairs Q) := E_zreturn rfl hz dX3_keepsPairs_55 hq h1 h2
theorem t14_X3_keepsPairs_10 {E : En} {d : Nat} {κ : Kp} {I L : MI} {Z : Zt} {a0 a1 : Nat} {a2 : Int}  (k : Ev E d M_X3_keepsPairs 11 [vr a0, vr a1, vi a2] [vr a0] κ I L Z) : Ev E d M_X3_keepsPairs 10 [vr a0, vr a1, vi a2] [] κ I L Z := E_aload_n dX3_keepsPairs_10 rfl k
theorem t14_X3_keepsPairs_11 {E : En} {d : Nat} {κ : Kp} {I L : MI} {Z : Zt} {a0 a1 b0 : Nat} {a2 : Int} {q : Nat} (hs : κ.1.1[b0]? = some (.inl 3)) (hq : κ.1.2 b0 0 = some q) (k : Ev E d M_X3_keepsPairs 14 [vr a0, vr a1, vi a2] [vr q] κ I L Z) : Ev E d M_X3_keepsPairs 11 [vr a0, vr a1, vi a2] [vr b0] κ I L Z := E_getR (ci := 3) (n := 0) dX3_keepsPairs_11 wF_RX3_9 (by decide) hs rfl hq k
theorem t14_X3_keepsPairs_14 {E : En} {d : Nat} {κ : Kp} {I L : MI} {Z : Zt} {a0 a1 b0 : Nat} {a2 : Int}  (k : Ev E d M_X3_keepsPairs 15 [vr a0, vr a1, vi a2] [vr a1, vr b0] κ I L Z) : Ev E d M_X3_keepsPairs 14 [vr a0, vr a1, vi a2] [vr b0] κ I L Z := E_aload_n dX3_keepsPairs_14 rfl k
theorem t14_X3_keepsPairs_15 {E : En} {d : Nat} {κ : Kp} {I L : MI} {Z : Zt} {a0 a1 b0 b1 : Nat} {a2 : Int} {q : Nat} (hs : κ.1.1[b0]? = some (.inl 9)) (hq : κ.1.2 b0 9 = some q) (k : Ev E d M_X3_keepsPairs 18 [vr a0, vr a1, vi a2] [vr q, vr b1] κ I L Z) : Ev E d M_X3_keepsPairs 15 [vr a0, vr a1, vi a2] [vr b0, vr b1] κ I L Z := E_getR (ci := 9) (n := 9) dX3_keepsPairs_15 wF_RX3_75 (by decide) hs rfl hq k
theorem t14_X3_keepsPairs_18 {E : En} {d : Nat} {κ : Kp} {I L : MI} {Z : Zt} {a0 a1 b0 b1 : Nat} {a2 : Int}  (k : Ev E d M_X3_keepsPairs 19 [vr a0, vr a1, vi a2] [vi a2, vr b0, vr b1] κ I L Z) : Ev E d M_X3_keepsPairs 18 [vr a0, vr a1, vi a2] [vr b0, vr b1] κ I L Z := E_iload_n dX3_keepsPairs_18 rfl k
theorem t14_X3_keepsPairs_19 {E : En} {d d' : Nat} {cs : Nat × Nat} {I L : MI} {Z : Zt} {a0 a1 b1 b2 : Nat} {a2 b0 : Int} {z : Int} {I' L' : MI} (hM : CFi E d' M_X10_at [vr b1, vi b0] I L z I' L') (hlt : d' + 1 ≤ d) (k : Ir z → Ev E d M_X3_keepsPairs 22 [vr a0, vr a1, vi a2] [vi z, vr b2] (G0, cs) I' L' Z) (hc1 : cs.1 ≤ M_X3_keepsPairs.2.2.2.2.1 := by decide) (hc2 : cs.2 ≤ M_X3_keepsPairs.2.2.2.2.2 := by decide) : Ev E d M_X3_keepsPairs 19 [vr a0, vr a1, vi a2] [vi b0, vr b1, vr b2] (G0, cs) I L Z := E_callSN (as := [vr b1, vi b0]) (rest := [vr b2]) (n := 2) hM dX3_keepsPairs_19 rfl (host := "SaidByTimes") (cl := RX3) (by decide +kernel) wS_X10_at hlt wC_X10_at wI_X10 (by decide +kernel) rfl (by decide) (Nat.le_of_ble_eq_true rfl) hc1 hc2 rfl (fun r g' I2 L2 h => by obtain ⟨rfl, z, rfl, hr, rfl, rfl, rfl⟩ := h; exact k hr)
theorem t14_X3_keepsPairs_22 {E : En} {d d' : Nat} {cs : Nat × Nat} {I L : MI} {Z : Zt} {a0 a1 b1 : Nat} {a2 b0 : Int} {z : Int} {I' L' : MI} (hM : CFi E d' M_X10_at [vr b1, vi b0] I L z I' L') (hlt : d' + 1 ≤ d) (k : Ir z → Ev E d M_X3_keepsPairs 25 [vr a0, vr a1, vi a2] [vi z] (G0, cs) I' L' Z) (hc1 : cs.1 ≤ M_X3_keepsPairs.2.2.2.2.1 := by decide) (hc2 : cs.2 ≤ M_X3_keepsPairs.2.2.2.2.2 := by decide) : Ev E d M_X3_keepsPairs 22 [vr a0, vr a1, vi a2] [vi b0, vr b1] (G0, cs) I L Z := E_callSN (as := [vr b1, vi b0]) (rest := []) (n := 2) hM dX3_keepsPairs_22 rfl (host := "SaidByTimes") (cl := RX3) (by decide +kernel) wS_X10_at hlt wC_X10_at wI_X10 (by decide +kernel) rfl (by decide) (Nat.le_of_ble_eq_true rfl) hc1 hc2 rfl (fun r g' I2 L2 h => by obtain ⟨rfl, z, rfl, hr, rfl, rfl, rfl⟩ := h; exact k hr)
theorem t14_X3_keepsPairs_25 {E : En} {d : Nat} {κ : Kp} {I L : MI} {Z : Zt} {a0 a1 : Nat} {a2 b0 : Int} (hx : Ir b0) (kt : b0 ≤ 0 → Ev E d M_X3_keepsPairs 48 [vr a0, vr a1, vi a2] [] κ I L Z) (kf : 0 < b0 → Ev E d M_X3_keepsPairs 28 [vr a0, vr a1, vi a2] [] κ I L Z) : Ev E d M_X3_keepsPairs 25 [vr a0, vr a1, vi a2] [vi b0] κ I L Z := E_if_le dX3_keepsPairs_25 hx kt kf (by decide)
theorem t14_X3_keepsPairs_48 {E : En} {d : Nat} {κ : Kp} {I L : MI} {Z : Zt} {a0 a1 : Nat} {a2 : Int}  (k : Ev E d M_X3_keepsPairs 51 [vr a0, vr a1, vi (a2 + 1)] [] κ I L Z) : Ev E d M_X3_keepsPairs 48 [vr a0, vr a1, vi a2] [] κ I L Z := E_iinc dX3_keepsPairs_48 rfl rfl (Nat.le_of_ble_eq_true rfl) k
theorem t14_X3_keepsPairs_51 {E : En} {d : Nat} {κ : Kp} {I L : MI} {Z : Zt} {a0 a1 : Nat} {a2 : Int}  (k : Ev E d M_X3_keepsPairs 2 [vr a0, vr a1, vi a2] [] κ I L Z) : Ev E d M_X3_keepsPairs 51 [vr a0, vr a1, vi a2] [] κ I L Z := E_goto dX3_keepsPairs_51 (by decide) k
theorem t14_X3_keepsPairs_28 {E : En} {d : Nat} {κ : Kp} {I L : MI} {Z : Zt} {a0 a1 : Nat} {a2 : Int}  (k : Ev E d M_X3_keepsPairs 29 [vr a0, vr a1, vi a2] [vr a0] κ I L Z) : Ev E d M_X3_keepsPairs 28 [vr a0, vr a1, vi a2] [] κ I L Z := E_aload_n dX3_keepsPairs_28 rfl k
theorem t14_X3_keepsPairs_29 {E : En} {d : Nat} {κ : Kp} {I L : MI} {Z : Zt} {a0 a1 b0 : Nat} {a2 : Int} {q : Nat} (hs : κ.1.1[b0]? = some (.inl 3)) (hq : κ.1.2 b0 0 = some q) (k : Ev E d M_X3_keepsPairs 32 [vr a0, vr a1, vi a2] [vr q] κ I L Z) : Ev E d M_X3_keepsPairs 29 [vr a0, vr a1, vi a2] [vr b0] κ I L Z := E_getR (ci := 3) (n := 0) dX3_keepsPairs_29 wF_RX3_9 (by decide) hs rfl hq k
theorem t14_X3_keepsPairs_32 {E : En} {d : Nat} {κ : Kp} {I L : MI} {Z : Zt} {a0 a1 b0 : Nat} {a2 : Int}  (k : Ev E d M_X3_keepsPairs 33 [vr a0, vr a1, vi a2] [vr a1, vr b0] κ I L Z) : Ev E d M_X3_keepsPairs 32 [vr a0, vr a1, vi a2] [vr b0] κ I L Z := E_aload_n dX3_keepsPairs_32 rfl k
theorem t14_X3_keepsPairs_33 {E : En} {d : Nat} {κ : Kp} {I L : MI} {Z : Zt} {a0 a1 b0 b1 : Nat} {a2 : Int} {q : Nat} (hs : κ.1.1[b0]? = some (.inl 9)) (hq : κ.1.2 b0 10 = some q) (k : Ev E d M_X3_keepsPairs 36 [vr a0, vr a1, vi a2] [vr q, vr b1] κ I L Z) : Ev E d M_X3_keepsPairs 33 [vr a0, vr a1, vi a2] [vr b0, vr b1] κ I L Z := E_getR (ci := 9) (n := 10) dX3_keepsPairs_33 wF_RX3_78 (by decide) hs rfl hq k
theorem t14_X3_keepsPairs_36 {E : En} {d : Nat} {κ : Kp} {I L : MI} {Z : Zt} {a0 a1 b0 b1 : Nat} {a2 : Int}  (k : Ev E d M_X3_keepsPairs 37 [vr a0, vr a1, vi a2] [vi a2, vr b0, vr b1] κ I L Z) : Ev E d M_X3_keepsPairs 36 [vr a0, vr a1, vi a2] [vr b0, vr b1] κ I L Z := E_iload_n dX3_keepsPairs_36 rfl k
theorem t14_X3_keepsPairs_37 {E : En} {d d' : Nat} {cs : Nat × Nat} {I L : MI} {Z : Zt} {a0 a1 b1 b2 : Nat} {a2 b0 : Int} {z : Int} {I' L' : MI} (hM : CFi E d' M_X10_at [vr b1, vi b0] I L z I' L') (hlt : d' + 1 ≤ d) (k : Ir z → Ev E d M_X3_keepsPairs 40 [vr a0, vr a1, vi a2] [vi z, vr b2] (G0, cs) I' L' Z) (hc1 : cs.1 ≤ M_X3_keepsPairs.2.2.2.2.1 := by decide) (hc2 : cs.2 ≤ M_X3_keepsPairs.2.2.2.2.2 := by decide) : Ev E d M_X3_keepsPairs 37 [vr a0, vr a1, vi a2] [vi b0, vr b1, vr b2] (G0, cs) I L Z := E_callSN (as := [vr b1, vi b0]) (rest := [vr b2]) (n := 2) hM dX3_keepsPairs_37 rfl (host := "SaidByTimes") (cl := RX3) (by decide +kernel) wS_X10_at hlt wC_X10_at wI_X10 (by decide +kernel) rfl (by decide) (Nat.le_of_ble_eq_true rfl) hc1 hc2 rfl (fun r g' I2 L2 h => by obtain ⟨rfl, z, rfl, hr, rfl, rfl, rfl⟩ := h; exact k hr)
theorem t14_X3_keepsPairs_40 {E : En} {d d' : Nat} {cs : Nat × Nat} {I L : MI} {Z : Zt} {a0 a1 b1 : Nat} {a2 b0 : Int} {z : Int} {I' L' : MI} (hM : CFi E d' M_X10_at [vr b1, vi b0] I L z I' L') (hlt : d' + 1 ≤ d) (k : Ir z → Ev E d M_X3_keepsPairs 43 [vr a0, vr a1, vi a2] [vi z] (G0, cs) I' L' Z) (hc1 : cs.1 ≤ M_X3_keepsPairs.2.2.2.2.1 := by decide) (hc2 : cs.2 ≤ M_X3_keepsPairs.2.2.2.2.2 := by decide) : Ev E d M_X3_keepsPairs 40 [vr a0, vr a1, vi a2] [vi b0, vr b1] (G0, cs) I L Z := E_callSN (as := [vr b1, vi b0]) (rest := []) (n := 2) hM dX3_keepsPairs_40 rfl (host := "SaidByTimes") (cl := RX3) (by decide +kernel) wS_X10_at hlt wC_X10_at wI_X10 (by decide +kernel) rfl (by decide) (Nat.le_of_ble_eq_true rfl) hc1 hc2 rfl (fun r g' I2 L2 h => by obtain ⟨rfl, z, rfl, hr, rfl, rfl, rfl⟩ := h; exact k hr)
theorem t14_X3_keepsPairs_43 {E : En} {d : Nat} {κ : Kp} {I L : MI} {Z : Zt} {a0 a1 : Nat} {a2 b0 : Int} (hx : Ir b0) (kt : b0 ≤ 0 → Ev E d M_X3_keepsPairs 48 [vr a0, vr a1, vi a2] [] κ I L Z) (kf : 0 < b0 → Ev E d M_X3_keepsPairs 46 [vr a0, vr a1, vi a2] [] κ I L Z) : Ev E d M_X3_keepsPairs 43 [vr a0, vr a1, vi a2] [vi b0] κ I L Z := E_if_le dX3_keepsPairs_43 hx kt kf (by decide)
theorem t14_X3_keepsPairs_46 {E : En} {d : Nat} {κ : Kp} {I L : MI} {Z : Zt} {a0 a1 : Nat} {a2 : Int}  (k : Ev E d M_X3_keepsPairs 47 [vr a0, vr a1, vi a2] [vi 0] κ I L Z) : Ev E d M_X3_keepsPairs 46 [vr a0, vr a1, vi a2] [] κ I L Z := E_iconst (v := 0) dX3_keepsPairs_46 rfl k
theorem t14_X3_keepsPairs_47 {E : En} {d : Nat} {g : Geo} {I L : MI} {Q : Option AV → Geo → MI → MI → Prop} {cs : Nat × Nat} {a0 a1 : Nat} {a2 b0 : Int} (hz : b0 = 0 ∨ b0 = 1) (hq : Q (some (vi b0)) g I L) (h1 : cs.1 ≤ M_X3_keepsPairs.2.2.2.2.1 := by decide) (h2 : cs.2 ≤ M_X3_keepsPairs.2.2.2.2.2 := by decide) : Ev E d M_X3_keepsPairs 47 [vr a0, vr a1, vi a2] [vi b0] (g, cs) I L (ZQ E M_X3_keepsPairs Q) := E_zreturn rfl hz dX3_keepsPairs_47 hq h1 h2
theorem t14_X3_keepsPairs_0 {E : En} {d : Nat} {κ : Kp} {I L : MI} {Z : Zt} {a0 a1 : Nat}  (k : Ev E d M_X3_keepsPairs 1 [vr a0, vr a1, vu] [vi 0] κ I L Z) : Ev E d M_X3_keepsPairs 0 [vr a0, vr a1, vu] [] κ I L Z := E_iconst (v := 0) dX3_keepsPairs_0 rfl k
theorem t14_X3_keepsPairs_1 {E : En} {d : Nat} {κ : Kp} {I L : MI} {Z : Zt} {a0 a1 : Nat} {b0 : Int}  (k : Ev E d M_X3_keepsPairs 2 [vr a0, vr a1, vi b0] [] κ I L Z) : Ev E d M_X3_keepsPairs 1 [vr a0, vr a1, vu] [vi b0] κ I L Z := E_istore_n dX3_keepsPairs_1 rfl (Nat.le_of_ble_eq_true rfl) k
/-! CONTRACTS: a saying taken apart; the judge -/
/-- how often a number goes into r, at most f times; what is left -/
def tkN (b : Int) : Nat → Int → Int → Int × Int
  | 0, r, c => (r, c)
  | f + 1, r, c => if 1 < b ∧ r.tmod b = 0 then tkN b f (r.tdiv b) (c + 1) else (r, c)
theorem tdiv_b {r b : Int} (h0 : 0 ≤ r) (h1 : 1 < b) : 0 ≤ r.tdiv b ∧ r.tdiv b ≤ r := by
  rw [Int.tdiv_eq_ediv_of_nonneg h0]
  exact ⟨Int.ediv_nonneg h0 (by omega), Int.ediv_le_self b h0⟩
theorem tkN_b (b : Int) : ∀ (f : Nat) (r c : Int), 0 ≤ r → 0 ≤ (tkN b f r c).1 ∧ (tkN b f r c).1 ≤ r ∧ c ≤ (tkN b f r c).2 ∧ (tkN b f r c).2 ≤ c + f := by
  intro f
  induction f with
  | zero => intro r c h; exact ⟨h, Int.le_refl _, Int.le_refl _, by simp [tkN]⟩
  | succ f ih =>
    intro r c h
    unfold tkN
    split
    next hc =>
      have := tdiv_b h hc.1
      have h2 := ih (r.tdiv b) (c + 1) this.1
      exact ⟨h2.1, by omega, by omega, by omega⟩
    next => exact ⟨h, Int.le_refl _, Int.le_refl _, by omega⟩
def tko (b r : Int) : Int × Int := tkN b 64 r 0
theorem tko_b (b : Int) {r : Int} (h : 0 ≤ r) : 0 ≤ (tko b r).1 ∧ (tko b r).1 ≤ r ∧ 0 ≤ (tko b r).2 ∧ (tko b r).2 ≤ 64 := by
  have := tkN_b b 64 r 0 h
  exact ⟨this.1, this.2.1, this.2.2.1, by have := this.2.2.2; simpa [tko] using this⟩
def tkR (F O : Int → Int) (v : Int) : Nat → Int
  | 0 => v
  | k + 1 => (tko (O k) (tko (F k) (tkR F O v k)).1).1
def tkC (F O : Int → Int) (v : Int) (k : Nat) : Int := (tko (F k) (tkR F O v k)).2 + (tko (O k) (tko (F k) (tkR F O v k)).1).2
def tkS (F O : Int → Int) (v : Int) : Nat → Int
  | 0 => 0
  | k + 1 => tkS F O v k + tkC F O v k
theorem tkR_b {F O : Int → Int} {v : Int} (hv : 0 ≤ v) : ∀ k, 0 ≤ tkR F O v k ∧ tkR F O v k ≤ v := by
  intro k
  induction k with
  | zero => exact ⟨hv, Int.le_refl _⟩
  | succ k ih =>
    have h1 := tko_b (F k) ih.1
    have h2 := tko_b (O k) h1.1
    exact ⟨h2.1, by show (tko (O k) (tko (F k) (tkR F O v k)).1).1 ≤ v; omega⟩
theorem tkC_b {F O : Int → Int} {v : Int} (hv : 0 ≤ v) (k : Nat) : 0 ≤ tkC F O v k ∧ tkC F O v k ≤ 128 := by
  have h0 := tkR_b (F := F) (O := O) hv k
  have h1 := tko_b (F k) h0.1
  have h2 := tko_b (O k) h1.1
  unfold tkC
  omega
theorem tkS_b {F O : Int → Int} {v : Int} (hv : 0 ≤ v) : ∀ k : Nat, 0 ≤ tkS F O v k ∧ tkS F O v k ≤ 128 * k := by
  intro k
  induction k with
  | zero => exact ⟨Int.le_refl _, by simp [tkS]⟩
  | succ k ih =>
    have := tkC_b (F := F) (O := O) hv k
    unfold tkS
    omega
def PtS (p : Nat) : Prop := G0.1[p]? = some (.inl 3) ∧ G0.1[p + 1]? = some (.inr (0, 12)) ∧ G0.2 p 0 = some (p + 1)
theorem PtS26 : PtS 26 := by unfold PtS; decide +kernel
theorem PtS30 : PtS 30 := by unfold PtS; decide +kernel
theorem up2_up (f : MI) (o : Nat) (k y z : Int) : up2 (up2 f o k y) o k z = up2 f o k z := by
  funext o' k'
  unfold up2
  split <;> rfl
theorem up2_id {f : MI} {o : Nat} {k z : Int} (h : f o k = z) : up2 f o k z = f := by
  funext o' k'
  unfold up2
  split
  next q => rw [q.1, q.2, h]
  next => rfl
theorem c_X3_takeOut {E : En} {I L : MI} {p : Nat} {n : Int} (hp : PtS p := by assumption) (hn : Ir n := by omega) (hr : 0 ≤ L p 1 ∧ L p 1 ≤ 1000000000000000 := by omega) : CFi E 1 M_X3_takeOut [vr p, vi n] I L (tko n (L p 1)).2 I (up2 L p 1 (tko n (L p 1)).1) := by
  obtain ⟨h1, h2, h3⟩ := hp
  refine CM_of' (al := [vr _, vi _, vu]) rfl (Nat.le_of_ble_eq_true rfl) rfl (fun hM => ?_)
  have key : ∀ (f : Nat) (c r : Int), 0 ≤ c → c + f = 64 → 0 ≤ r → r ≤ 1000000000000000 → tkN n f r c = tko n (L p 1) → Ev E 1 M_X3_takeOut 2 [vr p, vi n, vi c] [] (G0, 0, 0) I (up2 L p 1 r) (ZQ E M_X3_takeOut (QFi (tko n (L p 1)).2 I (up2 L p 1 (tko n (L p 1)).1))) := by
    intro f
    induction f with
    | zero =>
      intro c r c0 c1 r0 r1 he
      refine (t14_X3_takeOut_2 (t14_X3_takeOut_3 (t14_X3_takeOut_4 (by omega) (by omega) (fun c4 => (t14_X3_takeOut_42 (t14_X3_takeOut_43 ?_))) (fun c4 => (t14_X3_takeOut_7 (t14_X3_takeOut_8 (t14_X3_takeOut_10 (by omega) (by omega) (fun c10 => (t14_X3_takeOut_42 (t14_X3_takeOut_43 ?_))) (fun c10 => ?_))))))))
      -- 3 leaves
      · exact qfi' (by omega) (by rw [← he]; rfl) rfl (by rw [← he]; rfl)
      · exact qfi' (by omega) (by rw [← he]; rfl) rfl (by rw [← he]; rfl)
      · omega
    | succ f ih =>
      intro c r c0 c1 r0 r1 he
      have e1 := up2_eq L p 1 r
      refine (t14_X3_takeOut_2 (t14_X3_takeOut_3 (t14_X3_takeOut_4 (by omega) (by omega) (fun c4 => (t14_X3_takeOut_42 (t14_X3_takeOut_43 ?_))) (fun c4 => (t14_X3_takeOut_7 (t14_X3_takeOut_8 (t14_X3_takeOut_10 (by omega) (by omega) (fun c10 => (t14_X3_takeOut_42 (t14_X3_takeOut_43 ?_))) (fun c10 => ?_))))))))
      -- 3 leaves
      · refine qfi' (by omega) ?_ rfl ?_ <;> rw [← he] <;> unfold tkN <;> rw [if_neg (by omega)]
      · omega
      · have b1 := tdiv_b r0 (show 1 < n by omega)
        have b2 : 0 ≤ r.tmod n ∧ r.tmod n < n := ⟨Int.tmod_nonneg n r0, Int.tmod_lt_of_pos r (by omega)⟩
        refine (t14_X3_takeOut_13 (t14_X3_takeOut_14 (by first | assumption | rfl) (fun r14 => (t14_X3_takeOut_17 (t14_X3_takeOut_18 (by omega) (t14_X3_takeOut_19 (by rw [e1]; omega) (by omega) (by omega) (by omega) (t14_X3_takeOut_20 (t14_X3_takeOut_21 (by rw [e1]; omega) (by omega) (fun c21 => (t14_X3_takeOut_42 (t14_X3_takeOut_43 ?_))) (fun c21 => (t14_X3_takeOut_25 (t14_X3_takeOut_26 (t14_X3_takeOut_27 (by first | assumption | rfl) (fun r27 => (t14_X3_takeOut_30 (t14_X3_takeOut_31 (by omega) (t14_X3_takeOut_32 (by rw [e1]; omega) (by omega) (by omega) (by omega) (t14_X3_takeOut_33 (by first | assumption | rfl) (by rw [e1]; omega) (t14_X3_takeOut_36 (t14_X3_takeOut_39 ?_)))))))))))))))))))
        -- 2 leaves
        · rw [e1] at c21
          refine qfi' (by omega) ?_ rfl ?_ <;> rw [← he] <;> unfold tkN <;> rw [if_neg (fun q => c21 q.2)]
        · rw [e1] at c21
          rw [e1, up2_up]
          refine ih (c + 1) (r.tdiv n) (by omega) (by omega) b1.1 (by omega) ?_
          rw [← he]
          conv => rhs; unfold tkN
          rw [if_pos ⟨by omega, c21⟩]
  refine (t14_X3_takeOut_0 (t14_X3_takeOut_1 ?_))
  -- 1 leaves
  have := key 64 0 (L p 1) (by omega) (by omega) hr.1 hr.2 rfl
  rw [up2_id rfl] at this
  exact this
def sortS (S C : Int → Int) (s : Int) : Nat → Int
  | 0 => 0
  | k + 1 => sortS S C s k + (if S k = s then C k else 0)
def catI (C : Int → Int) (n : Nat) (j : Int) : Int := if 0 ≤ j ∧ j < n then C j else 0
def KRP (I : MI) (t : Nat) (C : Int → Int) : Prop := ∀ r, 0 ≤ r → r < I t 1 → I (t + 5) r ≤ sortS (I (t + 3)) C (I (t + 4) r) (I t 0).toNat ∧ sortS (I (t + 3)) C (I (t + 4) r) (I t 0).toNat ≤ I (t + 6) r
def KPP (I : MI) (t : Nat) (C : Int → Int) : Prop := ∀ q, 0 ≤ q → q < I t 2 → ¬ (0 < catI C 12 (I (t + 7) q) ∧ 0 < catI C 12 (I (t + 8) q))
theorem sortS_b {S C : Int → Int} {s b : Int} (hb : 0 ≤ b) : ∀ {n : Nat}, (∀ k : Nat, k < n → 0 ≤ C k ∧ C k ≤ b) → 0 ≤ sortS S C s n ∧ sortS S C s n ≤ b * n := by
  intro n
  induction n with
  | zero => intro _; exact ⟨Int.le_refl _, by simp [sortS]⟩
  | succ n ih =>
    intro h
    have h1 := ih (fun k hk => h k (by omega))
    have h2 := h n (by omega)
    unfold sortS
    have e : b * ((n + 1 : Nat) : Int) = b * n + b := by rw [Int.natCast_succ, Int.mul_add, Int.mul_one]
    rw [e]
    split <;> omega
theorem sortS_c {S C C' : Int → Int} {s : Int} : ∀ {n : Nat}, (∀ k : Nat, k < n → C k = C' k) → sortS S C s n = sortS S C' s n := by
  intro n
  induction n with
  | zero => intro _; rfl
  | succ n ih =>
    intro h
    unfold sortS
    rw [ih (fun k hk => h k (by omega)), h n (by omega)]
theorem KRP_c {I : MI} {t : Nat} {C C' : Int → Int} (hn : I t 0 ≤ 12) (h : ∀ k : Nat, k < 12 → C k = C' k) : KRP I t C ↔ KRP I t C' := by
  have e : ∀ s, sortS (I (t + 3)) C s (I t 0).toNat = sortS (I (t + 3)) C' s (I t 0).toNat := fun s => sortS_c fun k hk => h k (by omega)
  unfold KRP
  simp only [e]
theorem KPP_c {I : MI} {t : Nat} {C C' : Int → Int} (h : ∀ k : Nat, k < 12 → C k = C' k) : KPP I t C ↔ KPP I t C' := by
  have e : ∀ j, catI C 12 j = catI C' 12 j := fun j => by
    unfold catI
    split
    next q =>
      have := h j.toNat (by omega)
      rwa [Int.toNat_of_nonneg q.1] at this
    next => rfl
  unfold KPP
  simp only [e]
theorem c_X3_keepsRules {E : En} {I L : MI} {p t : Nat} (hp : PtS p := by assumption) (ht : TgS t := by assumption) (hb : TB I t := by assumption) (hc : ∀ k : Nat, k < 12 → 0 ≤ I (p + 1) k ∧ I (p + 1) k ≤ 128 := by assumption) : CB E 2 M_X3_keepsRules [vr p, vr t] I L (KRP I t (I (p + 1))) I L := by
  obtain ⟨p1, p2, p3⟩ := hp
  obtain ⟨h9, ⟨h1, h2, h3, h4, h5, h6, h7, h8⟩, q3, q4, q5, q6, q7, q8, q9, q10⟩ := ht
  obtain ⟨b0, b1, b2⟩ := hb
  have sb : ∀ s (n : Nat), n ≤ 12 → 0 ≤ sortS (I (t + 3)) (I (p + 1)) s n ∧ sortS (I (t + 3)) (I (p + 1)) s n ≤ 128 * n := fun s n hn => sortS_b (by decide) fun k hk => hc k (by omega)
  refine CM_of' (al := [vr _, vr _, vu, vu, vu]) rfl (Nat.le_of_ble_eq_true rfl) rfl (fun hM => ?_)
  have outer : ∀ (m : Nat) (r : Int), I t 1 - r < m → 0 ≤ r → r ≤ I t 1 → (∀ j, 0 ≤ j → j < r → I (t + 5) j ≤ sortS (I (t + 3)) (I (p + 1)) (I (t + 4) j) (I t 0).toNat ∧ sortS (I (t + 3)) (I (p + 1)) (I (t + 4) j) (I t 0).toNat ≤ I (t + 6) j) → Ev E 2 M_X3_keepsRules 2 [vr p, vr t, vi r, vu, vu] [] (G0, 0, 0) I L (ZQ E M_X3_keepsRules (QB (KRP I t (I (p + 1))) I L)) := by
    intro m
    induction m with
    | zero => intro r h1 h2 h3; omega
    | succ m ih =>
      intro r r1 r2 r3 hj
      have inner : ∀ (m2 : Nat) (k : Nat), I t 0 - k < m2 → k ≤ I t 0 → r < I t 1 → Ev E 2 M_X3_keepsRules 15 [vr p, vr t, vi r, vi (sortS (I (t + 3)) (I (p + 1)) (I (t + 4) r) k), vi (k : Int)] [] (G0, 0, 0) I L (ZQ E M_X3_keepsRules (QB (KRP I t (I (p + 1))) I L)) := by
        intro m2
        induction m2 with
        | zero => intro k h1 h2; omega
        | succ m2 ih2 =>
          intro k k1 k2 hr
          have s1 := sb (I (t + 4) r) k (by omega)
          have s2 := hc k
          have e5 : atI I (t + 5) 5 r = I (t + 5) r := atI_in (by omega)
          have e6 : atI I (t + 6) 5 r = I (t + 6) r := atI_in (by omega)
          refine (t14_X3_keepsRules_15 (t14_X3_keepsRules_17 (t14_X3_keepsRules_18 (by first | assumption | rfl) (fun r18 => (t14_X3_keepsRules_21 (by omega) (by omega) (fun c21 => (t14_X3_keepsRules_62 (t14_X3_keepsRules_63 (t14_X3_keepsRules_64 (by first | assumption | rfl) (by first | assumption | rfl) (t14_X3_keepsRules_67 (t14_X3_keepsRules_68 c_X10_at (by decide) (fun r68 => (t14_X3_keepsRules_71 (by omega) (by omega) (fun c71 => (t14_X3_keepsRules_86 (t14_X3_keepsRules_87 (by first | exact Or.inl rfl | exact Or.inr rfl | assumption | omega) ?_))) (fun c71 => (t14_X3_keepsRules_74 (t14_X3_keepsRules_75 (t14_X3_keepsRules_76 (by first | assumption | rfl) (by first | assumption | rfl) (t14_X3_keepsRules_79 (t14_X3_keepsRules_80 c_X10_at (by decide) (fun r80 => (t14_X3_keepsRules_83 (by omega) (by omega) (fun c83 => (t14_X3_keepsRules_88 (t14_X3_keepsRules_91 (Ev.wk (al' := [_, _, _, vu, vu]) ⟨.inl rfl, .inl rfl, .inl rfl, .inr rfl, .inr rfl, trivial⟩ ?_)))) (fun c83 => (t14_X3_keepsRules_86 (t14_X3_keepsRules_87 (by first | exact Or.inl rfl | exact Or.inr rfl | assumption | omega) ?_))))))))))))))))))) (fun c21 => (t14_X3_keepsRules_24 (t14_X3_keepsRules_25 (by first | assumption | rfl) (by first | assumption | rfl) (t14_X3_keepsRules_28 (t14_X3_keepsRules_30 c_X10_at (by decide) (fun r30 => (t14_X3_keepsRules_33 (t14_X3_keepsRules_34 (by first | assumption | rfl) (by first | assumption | rfl) (t14_X3_keepsRules_37 (t14_X3_keepsRules_38 c_X10_at (by decide) (fun r38 => (t14_X3_keepsRules_41 (by omega) (by omega) (fun c41 => (t14_X3_keepsRules_56 (t14_X3_keepsRules_59 ?_))) (fun c41 => ?_))))))))))))))))))
          -- 5 leaves
          · have e : (I t 0).toNat = k := by omega
            rw [e5] at c71
            exact qb0 (fun h => by have := (h r r2 hr).1; rw [e] at this; omega)
          · have e : (I t 0).toNat = k := by omega
            rw [e5] at c71
            rw [e6] at c83
            refine ih (r + 1) (by omega) (by omega) (by omega) fun j j1 j2 => ?_
            by_cases ej : j = r
            · subst ej
              rw [e]
              exact ⟨by omega, by omega⟩
            · exact hj j j1 (by omega)
          · have e : (I t 0).toNat = k := by omega
            rw [e6] at c83
            exact qb0 (fun h => by have := (h r r2 hr).2; rw [e] at this; omega)
          · rw [atI_in (by omega), atI_in (by omega)] at c41
            have e : sortS (I (t + 3)) (I (p + 1)) (I (t + 4) r) (k + 1) = sortS (I (t + 3)) (I (p + 1)) (I (t + 4) r) k := by simp [sortS, c41]
            have h := ih2 (k + 1) (by omega) (by omega) hr
            rw [e] at h
            exact h
          · rw [atI_in (by omega), atI_in (by omega)] at c41
            have e : sortS (I (t + 3)) (I (p + 1)) (I (t + 4) r) (k + 1) = sortS (I (t + 3)) (I (p + 1)) (I (t + 4) r) k + I (p + 1) k := by simp [sortS, c41]
            have h := ih2 (k + 1) (by omega) (by omega) hr
            rw [e] at h
            have e2 : atI I (p + 1) 12 k = I (p + 1) k := atI_in (by omega)
            refine (t14_X3_keepsRules_44 (t14_X3_keepsRules_45 (t14_X3_keepsRules_46 (by first | assumption | rfl) (by first | assumption | rfl) (t14_X3_keepsRules_49 (t14_X3_keepsRules_51 c_X10_at (by decide) (fun r51 => (t14_X3_keepsRules_54 (t14_X3_keepsRules_55 (t14_X3_keepsRules_56 (t14_X3_keepsRules_59 ?_))))))))))
            -- 1 leaves
            rw [e2]
            exact h
      refine (t14_X3_keepsRules_2 (t14_X3_keepsRules_3 (t14_X3_keepsRules_4 (by first | assumption | rfl) (fun r4 => (t14_X3_keepsRules_7 (by omega) (by omega) (fun c7 => (t14_X3_keepsRules_94 (t14_X3_keepsRules_95 (by first | exact Or.inl rfl | exact Or.inr rfl | assumption | omega) ?_))) (fun c7 => (t14_X3_keepsRules_10 (t14_X3_keepsRules_11 (t14_X3_keepsRules_12 (t14_X3_keepsRules_13 ?_))))))))))
      -- 2 leaves
      · exact qb1 (fun j j1 j2 => hj j j1 (by omega))
      · exact inner (I t 0 + 1).toNat 0 (by omega) (by omega) (by omega)
  refine (t14_X3_keepsRules_0 (t14_X3_keepsRules_1 ?_))
  -- 1 leaves
  exact outer (I t 1 + 1).toNat 0 (by omega) (by omega) (by omega) (by omega)
theorem c_X3_keepsPairs {E : En} {I L : MI} {p t : Nat} (hp : PtS p := by assumption) (ht : TgS t := by assumption) (hb : TB I t := by assumption) : CB E 2 M_X3_keepsPairs [vr p, vr t] I L (KPP I t (I (p + 1))) I L := by
  obtain ⟨p1, p2, p3⟩ := hp
  obtain ⟨h9, ⟨h1, h2, h3, h4, h5, h6, h7, h8⟩, q3, q4, q5, q6, q7, q8, q9, q10⟩ := ht
  obtain ⟨b0, b1, b2⟩ := hb
  refine CM_of' (al := [vr _, vr _, vu]) rfl (Nat.le_of_ble_eq_true rfl) rfl (fun hM => ?_)
  have key : ∀ (m : Nat) (r : Int), I t 2 - r < m → 0 ≤ r → r ≤ I t 2 → (∀ q, 0 ≤ q → q < r → ¬ (0 < catI (I (p + 1)) 12 (I (t + 7) q) ∧ 0 < catI (I (p + 1)) 12 (I (t + 8) q))) → Ev E 2 M_X3_keepsPairs 2 [vr p, vr t, vi r] [] (G0, 0, 0) I L (ZQ E M_X3_keepsPairs (QB (KPP I t (I (p + 1))) I L)) := by
    intro m
    induction m with
    | zero => intro r h1 h2 h3; omega
    | succ m ih =>
      intro r r1 r2 r3 hj
      have a1 := hM.1 (t + 7) r
      have a2 := hM.1 (t + 8) r
      refine (t14_X3_keepsPairs_2 (t14_X3_keepsPairs_3 (t14_X3_keepsPairs_4 (by first | assumption | rfl) (fun r4 => (t14_X3_keepsPairs_7 (by omega) (by omega) (fun c7 => (t14_X3_keepsPairs_54 (t14_X3_keepsPairs_55 (by first | exact Or.inl rfl | exact Or.inr rfl | assumption | omega) ?_))) (fun c7 => ?_))))))
      -- 2 leaves
      · exact qb1 (fun j j1 j2 => hj j j1 (by omega))
      · have e1 : atI I (t + 7) 8 r = I (t + 7) r := atI_in (by omega)
        have e2 : atI I (t + 8) 8 r = I (t + 8) r := atI_in (by omega)
        refine (t14_X3_keepsPairs_10 (t14_X3_keepsPairs_11 (by first | assumption | rfl) (by first | assumption | rfl) (t14_X3_keepsPairs_14 (t14_X3_keepsPairs_15 (by first | assumption | rfl) (by first | assumption | rfl) (t14_X3_keepsPairs_18 (t14_X3_keepsPairs_19 c_X10_at (by decide) (fun r19 => (t14_X3_keepsPairs_22 c_X10_at (by decide) (fun r22 => (t14_X3_keepsPairs_25 (by omega) (fun c25 => (t14_X3_keepsPairs_48 (t14_X3_keepsPairs_51 ?_))) (fun c25 => (t14_X3_keepsPairs_28 (t14_X3_keepsPairs_29 (by first | assumption | rfl) (by first | assumption | rfl) (t14_X3_keepsPairs_32 (t14_X3_keepsPairs_33 (by first | assumption | rfl) (by first | assumption | rfl) (t14_X3_keepsPairs_36 (t14_X3_keepsPairs_37 c_X10_at (by decide) (fun r37 => (t14_X3_keepsPairs_40 c_X10_at (by decide) (fun r40 => (t14_X3_keepsPairs_43 (by omega) (fun c43 => (t14_X3_keepsPairs_48 (t14_X3_keepsPairs_51 ?_))) (fun c43 => (t14_X3_keepsPairs_46 (t14_X3_keepsPairs_47 (by first | exact Or.inl rfl | exact Or.inr rfl | assumption | omega) ?_))))))))))))))))))))))))
        -- 3 leaves
        · rw [e1] at c25
          refine ih (r + 1) (by omega) (by omega) (by omega) fun j j1 j2 => ?_
          by_cases ej : j = r
          · subst ej
            exact fun h => absurd h.1 (Int.not_lt.mpr c25)
          · exact hj j j1 (by omega)
        · rw [e2] at c43
          refine ih (r + 1) (by omega) (by omega) (by omega) fun j j1 j2 => ?_
          by_cases ej : j = r
          · subst ej
            exact fun h => absurd h.2 (Int.not_lt.mpr c43)
          · exact hj j j1 (by omega)
        · rw [e1] at c25
          rw [e2] at c43
          exact qb0 (fun h => h r r2 (by omega) ⟨c25, c43⟩)
  refine (t14_X3_keepsPairs_0 (t14_X3_keepsPairs_1 ?_))
  -- 1 leaves
  exact key (I t 2 + 1).toNat 0 (by omega) (by omega) (by omega) (by omega)
