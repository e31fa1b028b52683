theorem t34_X10_waysFrom_0 {E : En} {d : Nat} {κ : Kp} {I L : MI} {Z : Zt} {a0 a1 : Nat} {a2 a3 : Int}  (k : Ev E d M_X10_waysFrom 1 [vr a0, vr a1, vi a2, vl a3, vu, vu, vu, vu, vu, vu, vu, vu] [vi a2] κ I L Z) : Ev E d M_X10_waysFrom 0 [vr a0, vr a1, vi a2, vl a3, vu, vu, vu, vu, vu, vu, vu, vu] [] κ I L Z := E_iload_n dX10_waysFrom_0 rfl k
theorem t34_X10_waysFrom_1 {E : En} {d : Nat} {κ : Kp} {I L : MI} {Z : Zt} {a0 a1 : Nat} {a2 a3 b0 : Int}  (k : Ev E d M_X10_waysFrom 2 [vr a0, vr a1, vi a2, vl a3, vu, vu, vu, vu, vu, vu, vu, vu] [vr a0, vi b0] κ I L Z) : Ev E d M_X10_waysFrom 1 [vr a0, vr a1, vi a2, vl a3, vu, vu, vu, vu, vu, vu, vu, vu] [vi b0] κ I L Z := E_aload_n dX10_waysFrom_1 rfl k
theorem t34_X10_waysFrom_2 {E : En} {d : Nat} {κ : Kp} {I L : MI} {Z : Zt} {a0 a1 b0 : Nat} {a2 a3 b1 : Int} (hs : κ.1.1[b0]? = some (.inl 9)) (k : Ir (I b0 0) → Ev E d M_X10_waysFrom 5 [vr a0, vr a1, vi a2, vl a3, vu, vu, vu, vu, vu, vu, vu, vu] [vi (I b0 0), vi b1] κ I L Z) : Ev E d M_X10_waysFrom 2 [vr a0, vr a1, vi a2, vl a3, vu, vu, vu, vu, vu, vu, vu, vu] [vr b0, vi b1] κ I L Z := E_getI (ci := 9) (n := 0) dX10_waysFrom_2 wF_RX10_169 (by decide) hs rfl k
theorem t34_X10_waysFrom_5 {E : En} {d : Nat} {κ : Kp} {I L : MI} {Z : Zt} {a0 a1 : Nat} {a2 a3 b0 b1 : Int} (hx : Ir b1) (hy : Ir b0) (kt : b0 ≤ b1 → Ev E d M_X10_waysFrom 14 [vr a0, vr a1, vi a2, vl a3, vu, vu, vu, vu, vu, vu, vu, vu] [] κ I L Z) (kf : b1 < b0 → Ev E d M_X10_waysFrom 8 [vr a0, vr a1, vi a2, vl a3, vu, vu, vu, vu, vu, vu, vu, vu] [] κ I L Z) : Ev E d M_X10_waysFrom 5 [vr a0, vr a1, vi a2, vl a3, vu, vu, vu, vu, vu, vu, vu, vu] [vi b0, vi b1] κ I L Z := E_icmp_ge dX10_waysFrom_5 hx hy kt kf (by decide)
theorem t34_X10_waysFrom_14 {E : En} {d : Nat} {κ : Kp} {I L : MI} {Z : Zt} {a0 a1 : Nat} {a2 a3 : Int}  (k : Ev E d M_X10_waysFrom 15 [vr a0, vr a1, vi a2, vl a3, vu, vu, vu, vu, vu, vu, vu, vu] [vl 1] κ I L Z) : Ev E d M_X10_waysFrom 14 [vr a0, vr a1, vi a2, vl a3, vu, vu, vu, vu, vu, vu, vu, vu] [] κ I L Z := E_lconst (v := 1) dX10_waysFrom_14 rfl k
theorem t34_X10_waysFrom_15 {E : En} {d : Nat} {g : Geo} {I L : MI} {Q : Option AV → Geo → MI → MI → Prop} {cs : Nat × Nat} {a0 a1 : Nat} {a2 a3 b0 : Int} (hq : Q (some (vl b0)) g I L) (h1 : cs.1 ≤ M_X10_waysFrom.2.2.2.2.1 := by decide) (h2 : cs.2 ≤ M_X10_waysFrom.2.2.2.2.2 := by decide) : Ev E d M_X10_waysFrom 15 [vr a0, vr a1, vi a2, vl a3, vu, vu, vu, vu, vu, vu, vu, vu] [vl b0] (g, cs) I L (ZQ E M_X10_waysFrom Q) := E_lreturn rfl dX10_waysFrom_15 hq h1 h2
theorem t34_X10_waysFrom_8 {E : En} {d : Nat} {κ : Kp} {I L : MI} {Z : Zt} {a0 a1 : Nat} {a2 a3 : Int}  (k : Ev E d M_X10_waysFrom 9 [vr a0, vr a1, vi a2, vl a3, vu, vu, vu, vu, vu, vu, vu, vu] [vi a2] κ I L Z) : Ev E d M_X10_waysFrom 8 [vr a0, vr a1, vi a2, vl a3, vu, vu, vu, vu, vu, vu, vu, vu] [] κ I L Z := E_iload_n dX10_waysFrom_8 rfl k
theorem t34_X10_waysFrom_9 {E : En} {d : Nat} {κ : Kp} {I L : MI} {Z : Zt} {a0 a1 : Nat} {a2 a3 b0 : Int}  (k : Ev E d M_X10_waysFrom 11 [vr a0, vr a1, vi a2, vl a3, vu, vu, vu, vu, vu, vu, vu, vu] [vi 12, vi b0] κ I L Z) : Ev E d M_X10_waysFrom 9 [vr a0, vr a1, vi a2, vl a3, vu, vu, vu, vu, vu, vu, vu, vu] [vi b0] κ I L Z := E_bipush (v := 12) dX10_waysFrom_9 rfl k
theorem t34_X10_waysFrom_11 {E : En} {d : Nat} {κ : Kp} {I L : MI} {Z : Zt} {a0 a1 : Nat} {a2 a3 b0 b1 : Int} (hx : Ir b1) (hy : Ir b0) (kt : b1 < b0 → Ev E d M_X10_waysFrom 16 [vr a0, vr a1, vi a2, vl a3, vu, vu, vu, vu, vu, vu, vu, vu] [] κ I L Z) (kf : b0 ≤ b1 → Ev E d M_X10_waysFrom 14 [vr a0, vr a1, vi a2, vl a3, vu, vu, vu, vu, vu, vu, vu, vu] [] κ I L Z) : Ev E d M_X10_waysFrom 11 [vr a0, vr a1, vi a2, vl a3, vu, vu, vu, vu, vu, vu, vu, vu] [vi b0, vi b1] κ I L Z := E_icmp_lt dX10_waysFrom_11 hx hy kt kf (by decide)
theorem t34_X10_waysFrom_62 {E : En} {d : Nat} {κ : Kp} {I L : MI} {Z : Zt} {a0 a1 : Nat} {a2 a3 a5 a7 a8 a9 a11 : Int}  (k : Ev E d M_X10_waysFrom 64 [vr a0, vr a1, vi a2, vl a3, vu, vl a5, vu, vi a7, vi a8, vl a9, vu, vi a11] [vi a11] κ I L Z) : Ev E d M_X10_waysFrom 62 [vr a0, vr a1, vi a2, vl a3, vu, vl a5, vu, vi a7, vi a8, vl a9, vu, vi a11] [] κ I L Z := E_iload dX10_waysFrom_62 rfl k
theorem t34_X10_waysFrom_64 {E : En} {d : Nat} {κ : Kp} {I L : MI} {Z : Zt} {a0 a1 : Nat} {a2 a3 a5 a7 a8 a9 a11 b0 : Int}  (k : Ev E d M_X10_waysFrom 65 [vr a0, vr a1, vi a2, vl a3, vu, vl a5, vu, vi a7, vi a8, vl a9, vu, vi a11] [vr a1, vi b0] κ I L Z) : Ev E d M_X10_waysFrom 64 [vr a0, vr a1, vi a2, vl a3, vu, vl a5, vu, vi a7, vi a8, vl a9, vu, vi a11] [vi b0] κ I L Z := E_aload_n dX10_waysFrom_64 rfl k
theorem t34_X10_waysFrom_65 {E : En} {d : Nat} {κ : Kp} {I L : MI} {Z : Zt} {a0 a1 b0 : Nat} {a2 a3 a5 a7 a8 a9 a11 b1 : Int}  (k : Ev E d M_X10_waysFrom 66 [vr a0, vr a1, vi a2, vl a3, vu, vl a5, vu, vi a7, vi a8, vl a9, vu, vi a11] [vi a2, vr b0, vi b1] κ I L Z) : Ev E d M_X10_waysFrom 65 [vr a0, vr a1, vi a2, vl a3, vu, vl a5, vu, vi a7, vi a8, vl a9, vu, vi a11] [vr b0, vi b1] κ I L Z := E_iload_n dX10_waysFrom_65 rfl k
theorem t34_X10_waysFrom_66 {E : En} {d d' : Nat} {cs : Nat × Nat} {I L : MI} {Z : Zt} {a0 a1 b1 : Nat} {a2 a3 a5 a7 a8 a9 a11 b0 b2 : Int} {z : Int} {I' L' : MI} (hM : CFi E d' M_X10_at [vr b1, vi b0] I L z I' L') (hlt : d' + 1 ≤ d) (k : Ir z → Ev E d M_X10_waysFrom 69 [vr a0, vr a1, vi a2, vl a3, vu, vl a5, vu, vi a7, vi a8, vl a9, vu, vi a11] [vi z, vi b2] (G0, cs) I' L' Z) (hc1 : cs.1 ≤ M_X10_waysFrom.2.2.2.2.1 := by decide) (hc2 : cs.2 ≤ M_X10_waysFrom.2.2.2.2.2 := by decide) : Ev E d M_X10_waysFrom 66 [vr a0, vr a1, vi a2, vl a3, vu, vl a5, vu, vi a7, vi a8, vl a9, vu, vi a11] [vi b0, vr b1, vi b2] (G0, cs) I L Z := E_callS (as := [vr b1, vi b0]) (rest := [vi b2]) (n := 2) hM dX10_waysFrom_66 wM_RX10_208 wS_X10_at hlt wC_X10_at wI_X10 (by decide +kernel) rfl (by decide) (Nat.le_of_ble_eq_true rfl) hc1 hc2 rfl (fun r g' I2 L2 h => by obtain ⟨rfl, z, rfl, hr, rfl, rfl, rfl⟩ := h; exact k hr)
theorem t34_X10_waysFrom_69 {E : En} {d : Nat} {κ : Kp} {I L : MI} {Z : Zt} {a0 a1 : Nat} {a2 a3 a5 a7 a8 a9 a11 b0 b1 : Int} (hx : Ir b1) (hy : Ir b0) (kt : b0 ≤ b1 → Ev E d M_X10_waysFrom 117 [vr a0, vr a1, vi a2, vl a3, vu, vl a5, vu, vi a7, vi a8, vl a9, vu, vi a11] [] κ I L Z) (kf : b1 < b0 → Ev E d M_X10_waysFrom 72 [vr a0, vr a1, vi a2, vl a3, vu, vl a5, vu, vi a7, vi a8, vl a9, vu, vi a11] [] κ I L Z) : Ev E d M_X10_waysFrom 69 [vr a0, vr a1, vi a2, vl a3, vu, vl a5, vu, vi a7, vi a8, vl a9, vu, vi a11] [vi b0, vi b1] κ I L Z := E_icmp_ge dX10_waysFrom_69 hx hy kt kf (by decide)
theorem t34_X10_waysFrom_117 {E : En} {d : Nat} {κ : Kp} {I L : MI} {Z : Zt} {a0 a1 : Nat} {a2 a3 a5 a7 a8 a9 a11 : Int}  (k : Ev E d M_X10_waysFrom 119 [vr a0, vr a1, vi a2, vl a3, vu, vl a5, vu, vi a7, vi a8, vl a9, vu, vi a11] [vl a5] κ I L Z) : Ev E d M_X10_waysFrom 117 [vr a0, vr a1, vi a2, vl a3, vu, vl a5, vu, vi a7, vi a8, vl a9, vu, vi a11] [] κ I L Z := E_lload dX10_waysFrom_117 rfl k
theorem t34_X10_waysFrom_119 {E : En} {d : Nat} {g : Geo} {I L : MI} {Q : Option AV → Geo → MI → MI → Prop} {cs : Nat × Nat} {a0 a1 : Nat} {a2 a3 a5 a7 a8 a9 a11 b0 : Int} (hq : Q (some (vl b0)) g I L) (h1 : cs.1 ≤ M_X10_waysFrom.2.2.2.2.1 := by decide) (h2 : cs.2 ≤ M_X10_waysFrom.2.2.2.2.2 := by decide) : Ev E d M_X10_waysFrom 119 [vr a0, vr a1, vi a2, vl a3, vu, vl a5, vu, vi a7, vi a8, vl a9, vu, vi a11] [vl b0] (g, cs) I L (ZQ E M_X10_waysFrom Q) := E_lreturn rfl dX10_waysFrom_119 hq h1 h2
theorem t34_X10_waysFrom_72 {E : En} {d : Nat} {κ : Kp} {I L : MI} {Z : Zt} {a0 a1 : Nat} {a2 a3 a5 a7 a8 a9 a11 : Int}  (k : Ev E d M_X10_waysFrom 74 [vr a0, vr a1, vi a2, vl a3, vu, vl a5, vu, vi a7, vi a8, vl a9, vu, vi a11] [vl a9] κ I L Z) : Ev E d M_X10_waysFrom 72 [vr a0, vr a1, vi a2, vl a3, vu, vl a5, vu, vi a7, vi a8, vl a9, vu, vi a11] [] κ I L Z := E_lload dX10_waysFrom_72 rfl k
theorem t34_X10_waysFrom_74 {E : En} {d : Nat} {κ : Kp} {I L : MI} {Z : Zt} {a0 a1 : Nat} {a2 a3 a5 a7 a8 a9 a11 b0 : Int}  (k : Ev E d M_X10_waysFrom 76 [vr a0, vr a1, vi a2, vl a3, vu, vl a5, vu, vi a7, vi a8, vl a9, vu, vi a11] [vi a7, vl b0] κ I L Z) : Ev E d M_X10_waysFrom 74 [vr a0, vr a1, vi a2, vl a3, vu, vl a5, vu, vi a7, vi a8, vl a9, vu, vi a11] [vl b0] κ I L Z := E_iload dX10_waysFrom_74 rfl k
theorem t34_X10_waysFrom_76 {E : En} {d : Nat} {κ : Kp} {I L : MI} {Z : Zt} {a0 a1 : Nat} {a2 a3 a5 a7 a8 a9 a11 b0 b1 : Int} (hx : Ir b0) (k : Ev E d M_X10_waysFrom 77 [vr a0, vr a1, vi a2, vl a3, vu, vl a5, vu, vi a7, vi a8, vl a9, vu, vi a11] [vl b0, vl b1] κ I L Z) : Ev E d M_X10_waysFrom 76 [vr a0, vr a1, vi a2, vl a3, vu, vl a5, vu, vi a7, vi a8, vl a9, vu, vi a11] [vi b0, vl b1] κ I L Z := E_i2l dX10_waysFrom_76 hx k
theorem t34_X10_waysFrom_77 {E : En} {d : Nat} {κ : Kp} {I L : MI} {Z : Zt} {a0 a1 : Nat} {a2 a3 a5 a7 a8 a9 a11 b0 b1 : Int} (hx : Jr b1) (hy : Jr b0) (h0 : b0 ≠ 0) (hm : b0 ≠ -1) (k : Ev E d M_X10_waysFrom 78 [vr a0, vr a1, vi a2, vl a3, vu, vl a5, vu, vi a7, vi a8, vl a9, vu, vi a11] [vl (b1.tdiv b0)] κ I L Z) : Ev E d M_X10_waysFrom 77 [vr a0, vr a1, vi a2, vl a3, vu, vl a5, vu, vi a7, vi a8, vl a9, vu, vi a11] [vl b0, vl b1] κ I L Z := E_ldiv dX10_waysFrom_77 hx hy h0 hm k
theorem t34_X10_waysFrom_78 {E : En} {d : Nat} {κ : Kp} {I L : MI} {Z : Zt} {a0 a1 : Nat} {a2 a3 a5 a7 a8 a9 a11 b0 : Int}  (k : Ev E d M_X10_waysFrom 80 [vr a0, vr a1, vi a2, vl a3, vu, vl a5, vu, vi a7, vi a8, vl a9, vu, vi a11] [vi a8, vl b0] κ I L Z) : Ev E d M_X10_waysFrom 78 [vr a0, vr a1, vi a2, vl a3, vu, vl a5, vu, vi a7, vi a8, vl a9, vu, vi a11] [vl b0] κ I L Z := E_iload dX10_waysFrom_78 rfl k
theorem t34_X10_waysFrom_80 {E : En} {d : Nat} {κ : Kp} {I L : MI} {Z : Zt} {a0 a1 : Nat} {a2 a3 a5 a7 a8 a9 a11 b0 b1 : Int} (hx : Ir b0) (k : Ev E d M_X10_waysFrom 81 [vr a0, vr a1, vi a2, vl a3, vu, vl a5, vu, vi a7, vi a8, vl a9, vu, vi a11] [vl b0, vl b1] κ I L Z) : Ev E d M_X10_waysFrom 80 [vr a0, vr a1, vi a2, vl a3, vu, vl a5, vu, vi a7, vi a8, vl a9, vu, vi a11] [vi b0, vl b1] κ I L Z := E_i2l dX10_waysFrom_80 hx k
theorem t34_X10_waysFrom_81 {E : En} {d : Nat} {κ : Kp} {I L : MI} {Z : Zt} {a0 a1 : Nat} {a2 a3 a5 a7 a8 a9 a11 b0 b1 : Int}  (k : Ev E d M_X10_waysFrom 82 [vr a0, vr a1, vi a2, vl a3, vu, vl a5, vu, vi a7, vi a8, vl a9, vu, vi a11] [vl (b1 * b0)] κ I L Z) : Ev E d M_X10_waysFrom 81 [vr a0, vr a1, vi a2, vl a3, vu, vl a5, vu, vi a7, vi a8, vl a9, vu, vi a11] [vl b0, vl b1] κ I L Z := E_lmul dX10_waysFrom_81 k
theorem t34_X10_waysFrom_82 {E : En} {d : Nat} {κ : Kp} {I L : MI} {Z : Zt} {a0 a1 : Nat} {a2 a3 a5 a7 a8 a9 a11 b0 : Int}  (k : Ev E d M_X10_waysFrom 84 [vr a0, vr a1, vi a2, vl a3, vu, vl a5, vu, vi a7, vi a8, vl b0, vu, vi a11] [] κ I L Z) : Ev E d M_X10_waysFrom 82 [vr a0, vr a1, vi a2, vl a3, vu, vl a5, vu, vi a7, vi a8, vl a9, vu, vi a11] [vl b0] κ I L Z := E_lstore dX10_waysFrom_82 rfl (Nat.le_of_ble_eq_true rfl) k
theorem t34_X10_waysFrom_84 {E : En} {d : Nat} {κ : Kp} {I L : MI} {Z : Zt} {a0 a1 : Nat} {a2 a3 a5 a7 a8 a9 a11 : Int}  (k : Ev E d M_X10_waysFrom 86 [vr a0, vr a1, vi a2, vl a3, vu, vl a5, vu, vi a7, vi a8, vl a9, vu, vi a11] [vl a9] κ I L Z) : Ev E d M_X10_waysFrom 84 [vr a0, vr a1, vi a2, vl a3, vu, vl a5, vu, vi a7, vi a8, vl a9, vu, vi a11] [] κ I L Z := E_lload dX10_waysFrom_84 rfl k
theorem t34_X10_waysFrom_86 {E : En} {d : Nat} {κ : Kp} {I L : MI} {Z : Zt} {a0 a1 : Nat} {a2 a3 a5 a7 a8 a9 a11 b0 : Int}  (k : Ev E d M_X10_waysFrom 89 [vr a0, vr a1, vi a2, vl a3, vu, vl a5, vu, vi a7, vi a8, vl a9, vu, vi a11] [vl 1000000000000000, vl b0] κ I L Z) : Ev E d M_X10_waysFrom 86 [vr a0, vr a1, vi a2, vl a3, vu, vl a5, vu, vi a7, vi a8, vl a9, vu, vi a11] [vl b0] κ I L Z := E_ldc2 (v := 1000000000000000) dX10_waysFrom_86 wK_RX10_175 k
theorem t34_X10_waysFrom_89 {E : En} {d : Nat} {κ : Kp} {I L : MI} {Z : Zt} {a0 a1 : Nat} {a2 a3 a5 a7 a8 a9 a11 b0 b1 : Int} (hx : Jr b1) (hy : Jr b0) (kt : b1 ≤ b0 → Ev E d M_X10_waysFrom 96 [vr a0, vr a1, vi a2, vl a3, vu, vl a5, vu, vi a7, vi a8, vl a9, vu, vi a11] [] κ I L Z) (kf : b0 < b1 → Ev E d M_X10_waysFrom 93 [vr a0, vr a1, vi a2, vl a3, vu, vl a5, vu, vi a7, vi a8, vl a9, vu, vi a11] [] κ I L Z) : Ev E d M_X10_waysFrom 89 [vr a0, vr a1, vi a2, vl a3, vu, vl a5, vu, vi a7, vi a8, vl a9, vu, vi a11] [vl b0, vl b1] κ I L Z := E_lcmp_le dX10_waysFrom_89 dX10_waysFrom_90 hx hy kt kf (by decide)
theorem t34_X10_waysFrom_93 {E : En} {d : Nat} {κ : Kp} {I L : MI} {Z : Zt} {a0 a1 : Nat} {a2 a3 a5 a7 a8 a9 a11 : Int}  (k : Ev E d M_X10_waysFrom 117 [vr a0, vr a1, vi a2, vl a3, vu, vl a5, vu, vi a7, vi a8, vl a9, vu, vi a11] [] κ I L Z) : Ev E d M_X10_waysFrom 93 [vr a0, vr a1, vi a2, vl a3, vu, vl a5, vu, vi a7, vi a8, vl a9, vu, vi a11] [] κ I L Z := E_goto dX10_waysFrom_93 (by decide) k
theorem t34_X10_waysFrom_96 {E : En} {d : Nat} {κ : Kp} {I L : MI} {Z : Zt} {a0 a1 : Nat} {a2 a3 a5 a7 a8 a9 a11 : Int}  (k : Ev E d M_X10_waysFrom 98 [vr a0, vr a1, vi a2, vl a3, vu, vl a5, vu, vi a7, vi a8, vl a9, vu, vi a11] [vl a5] κ I L Z) : Ev E d M_X10_waysFrom 96 [vr a0, vr a1, vi a2, vl a3, vu, vl a5, vu, vi a7, vi a8, vl a9, vu, vi a11] [] κ I L Z := E_lload dX10_waysFrom_96 rfl k
theorem t34_X10_waysFrom_98 {E : En} {d : Nat} {κ : Kp} {I L : MI} {Z : Zt} {a0 a1 : Nat} {a2 a3 a5 a7 a8 a9 a11 b0 : Int}  (k : Ev E d M_X10_waysFrom 99 [vr a0, vr a1, vi a2, vl a3, vu, vl a5, vu, vi a7, vi a8, vl a9, vu, vi a11] [vr a0, vl b0] κ I L Z) : Ev E d M_X10_waysFrom 98 [vr a0, vr a1, vi a2, vl a3, vu, vl a5, vu, vi a7, vi a8, vl a9, vu, vi a11] [vl b0] κ I L Z := E_aload_n dX10_waysFrom_98 rfl k
theorem t34_X10_waysFrom_99 {E : En} {d : Nat} {κ : Kp} {I L : MI} {Z : Zt} {a0 a1 b0 : Nat} {a2 a3 a5 a7 a8 a9 a11 b1 : Int}  (k : Ev E d M_X10_waysFrom 100 [vr a0, vr a1, vi a2, vl a3, vu, vl a5, vu, vi a7, vi a8, vl a9, vu, vi a11] [vr a1, vr b0, vl b1] κ I L Z) : Ev E d M_X10_waysFrom 99 [vr a0, vr a1, vi a2, vl a3, vu, vl a5, vu, vi a7, vi a8, vl a9, vu, vi a11] [vr b0, vl b1] κ I L Z := E_aload_n dX10_waysFrom_99 rfl k
theorem t34_X10_waysFrom_100 {E : En} {d : Nat} {κ : Kp} {I L : MI} {Z : Zt} {a0 a1 b0 b1 : Nat} {a2 a3 a5 a7 a8 a9 a11 b2 : Int}  (k : Ev E d M_X10_waysFrom 101 [vr a0, vr a1, vi a2, vl a3, vu, vl a5, vu, vi a7, vi a8, vl a9, vu, vi a11] [vi a2, vr b0, vr b1, vl b2] κ I L Z) : Ev E d M_X10_waysFrom 100 [vr a0, vr a1, vi a2, vl a3, vu, vl a5, vu, vi a7, vi a8, vl a9, vu, vi a11] [vr b0, vr b1, vl b2] κ I L Z := E_iload_n dX10_waysFrom_100 rfl k
theorem t34_X10_waysFrom_101 {E : En} {d : Nat} {κ : Kp} {I L : MI} {Z : Zt} {a0 a1 b1 b2 : Nat} {a2 a3 a5 a7 a8 a9 a11 b0 b3 : Int}  (k : Ev E d M_X10_waysFrom 102 [vr a0, vr a1, vi a2, vl a3, vu, vl a5, vu, vi a7, vi a8, vl a9, vu, vi a11] [vi 1, vi b0, vr b1, vr b2, vl b3] κ I L Z) : Ev E d M_X10_waysFrom 101 [vr a0, vr a1, vi a2, vl a3, vu, vl a5, vu, vi a7, vi a8, vl a9, vu, vi a11] [vi b0, vr b1, vr b2, vl b3] κ I L Z := E_iconst (v := 1) dX10_waysFrom_101 rfl k
theorem t34_X10_waysFrom_102 {E : En} {d : Nat} {κ : Kp} {I L : MI} {Z : Zt} {a0 a1 b2 b3 : Nat} {a2 a3 a5 a7 a8 a9 a11 b0 b1 b4 : Int}  (k : Ev E d M_X10_waysFrom 103 [vr a0, vr a1, vi a2, vl a3, vu, vl a5, vu, vi a7, vi a8, vl a9, vu, vi a11] [vi (b1 + b0), vr b2, vr b3, vl b4] κ I L Z) : Ev E d M_X10_waysFrom 102 [vr a0, vr a1, vi a2, vl a3, vu, vl a5, vu, vi a7, vi a8, vl a9, vu, vi a11] [vi b0, vi b1, vr b2, vr b3, vl b4] κ I L Z := E_iadd dX10_waysFrom_102 k
theorem t34_X10_waysFrom_103 {E : En} {d : Nat} {κ : Kp} {I L : MI} {Z : Zt} {a0 a1 b1 b2 : Nat} {a2 a3 a5 a7 a8 a9 a11 b0 b3 : Int}  (k : Ev E d M_X10_waysFrom 105 [vr a0, vr a1, vi a2, vl a3, vu, vl a5, vu, vi a7, vi a8, vl a9, vu, vi a11] [vl a9, vi b0, vr b1, vr b2, vl b3] κ I L Z) : Ev E d M_X10_waysFrom 103 [vr a0, vr a1, vi a2, vl a3, vu, vl a5, vu, vi a7, vi a8, vl a9, vu, vi a11] [vi b0, vr b1, vr b2, vl b3] κ I L Z := E_lload dX10_waysFrom_103 rfl k
theorem t34_X10_waysFrom_105 {E : En} {d d' : Nat} {cs : Nat × Nat} {I L : MI} {Z : Zt} {a0 a1 b2 b3 : Nat} {a2 a3 a5 a7 a8 a9 a11 b0 b1 b4 : Int} {z : Int} {I' L' : MI} (hM : CFl E d' M_X10_waysFrom [vr b3, vr b2, vi b1, vl b0] I L z I' L') (hlt : d' + 1 ≤ d) (k : Jr z → Ev E d M_X10_waysFrom 108 [vr a0, vr a1, vi a2, vl a3, vu, vl a5, vu, vi a7, vi a8, vl a9, vu, vi a11] [vl z, vl b4] (G0, cs) I' L' Z) (hc1 : cs.1 ≤ M_X10_waysFrom.2.2.2.2.1 := by decide) (hc2 : cs.2 ≤ M_X10_waysFrom.2.2.2.2.2 := by decide) : Ev E d M_X10_waysFrom 105 [vr a0, vr a1, vi a2, vl a3, vu, vl a5, vu, vi a7, vi a8, vl a9, vu, vi a11] [vl b0, vi b1, vr b2, vr b3, vl b4] (G0, cs) I L Z := E_callS (as := [vr b3, vr b2, vi b1, vl b0]) (rest := [vl b4]) (n := 4) hM dX10_waysFrom_105 wM_RX10_280 wS_X10_waysFrom hlt wC_X10_waysFrom wI_X10 (by decide +kernel) rfl (by decide) (Nat.le_of_ble_eq_true rfl) hc1 hc2 rfl (fun r g' I2 L2 h => by obtain ⟨rfl, z, rfl, hr, rfl, rfl, rfl⟩ := h; exact k hr)
theorem t34_X10_waysFrom_108 {E : En} {d : Nat} {κ : Kp} {I L : MI} {Z : Zt} {a0 a1 : Nat} {a2 a3 a5 a7 a8 a9 a11 b0 b1 : Int}  (k : Ev E d M_X10_waysFrom 109 [vr a0, vr a1, vi a2, vl a3, vu, vl a5, vu, vi a7, vi a8, vl a9, vu, vi a11] [vl (b1 + b0)] κ I L Z) : Ev E d M_X10_waysFrom 108 [vr a0, vr a1, vi a2, vl a3, vu, vl a5, vu, vi a7, vi a8, vl a9, vu, vi a11] [vl b0, vl b1] κ I L Z := E_ladd dX10_waysFrom_108 k
theorem t34_X10_waysFrom_109 {E : En} {d : Nat} {κ : Kp} {I L : MI} {Z : Zt} {a0 a1 : Nat} {a2 a3 a5 a7 a8 a9 a11 b0 : Int}  (k : Ev E d M_X10_waysFrom 111 [vr a0, vr a1, vi a2, vl a3, vu, vl b0, vu, vi a7, vi a8, vl a9, vu, vi a11] [] κ I L Z) : Ev E d M_X10_waysFrom 109 [vr a0, vr a1, vi a2, vl a3, vu, vl a5, vu, vi a7, vi a8, vl a9, vu, vi a11] [vl b0] κ I L Z := E_lstore dX10_waysFrom_109 rfl (Nat.le_of_ble_eq_true rfl) k
theorem t34_X10_waysFrom_111 {E : En} {d : Nat} {κ : Kp} {I L : MI} {Z : Zt} {a0 a1 : Nat} {a2 a3 a5 a7 a8 a9 a11 : Int}  (k : Ev E d M_X10_waysFrom 114 [vr a0, vr a1, vi a2, vl a3, vu, vl a5, vu, vi a7, vi a8, vl a9, vu, vi (a11 + 1)] [] κ I L Z) : Ev E d M_X10_waysFrom 111 [vr a0, vr a1, vi a2, vl a3, vu, vl a5, vu, vi a7, vi a8, vl a9, vu, vi a11] [] κ I L Z := E_iinc dX10_waysFrom_111 rfl rfl (Nat.le_of_ble_eq_true rfl) k
theorem t34_X10_waysFrom_114 {E : En} {d : Nat} {κ : Kp} {I L : MI} {Z : Zt} {a0 a1 : Nat} {a2 a3 a5 a7 a8 a9 a11 : Int}  (k : Ev E d M_X10_waysFrom 62 [vr a0, vr a1, vi a2, vl a3, vu, vl a5, vu, vi a7, vi a8, vl a9, vu, vi a11] [] κ I L Z) : Ev E d M_X10_waysFrom 114 [vr a0, vr a1, vi a2, vl a3, vu, vl a5, vu, vi a7, vi a8, vl a9, vu, vi a11] [] κ I L Z := E_goto dX10_waysFrom_114 (by decide) k
theorem t34_X10_waysFrom_16 {E : En} {d : Nat} {κ : Kp} {I L : MI} {Z : Zt} {a0 a1 : Nat} {a2 a3 : Int}  (k : Ev E d M_X10_waysFrom 17 [vr a0, vr a1, vi a2, vl a3, vu, vu, vu, vu, vu, vu, vu, vu] [vr a0] κ I L Z) : Ev E d M_X10_waysFrom 16 [vr a0, vr a1, vi a2, vl a3, vu, vu, vu, vu, vu, vu, vu, vu] [] κ I L Z := E_aload_n dX10_waysFrom_16 rfl k
theorem t34_X10_waysFrom_17 {E : En} {d : Nat} {κ : Kp} {I L : MI} {Z : Zt} {a0 a1 b0 : Nat} {a2 a3 : Int}  (k : Ev E d M_X10_waysFrom 18 [vr a0, vr a1, vi a2, vl a3, vu, vu, vu, vu, vu, vu, vu, vu] [vr a1, vr b0] κ I L Z) : Ev E d M_X10_waysFrom 17 [vr a0, vr a1, vi a2, vl a3, vu, vu, vu, vu, vu, vu, vu, vu] [vr b0] κ I L Z := E_aload_n dX10_waysFrom_17 rfl k
theorem t34_X10_waysFrom_18 {E : En} {d : Nat} {κ : Kp} {I L : MI} {Z : Zt} {a0 a1 b0 b1 : Nat} {a2 a3 : Int}  (k : Ev E d M_X10_waysFrom 19 [vr a0, vr a1, vi a2, vl a3, vu, vu, vu, vu, vu, vu, vu, vu] [vi a2, vr b0, vr b1] κ I L Z) : Ev E d M_X10_waysFrom 18 [vr a0, vr a1, vi a2, vl a3, vu, vu, vu, vu, vu, vu, vu, vu] [vr b0, vr b1] κ I L Z := E_iload_n dX10_waysFrom_18 rfl k
theorem t34_X10_waysFrom_19 {E : En} {d : Nat} {κ : Kp} {I L : MI} {Z : Zt} {a0 a1 b1 b2 : Nat} {a2 a3 b0 : Int}  (k : Ev E d M_X10_waysFrom 20 [vr a0, vr a1, vi a2, vl a3, vu, vu, vu, vu, vu, vu, vu, vu] [vi 1, vi b0, vr b1, vr b2] κ I L Z) : Ev E d M_X10_waysFrom 19 [vr a0, vr a1, vi a2, vl a3, vu, vu, vu, vu, vu, vu, vu, vu] [vi b0, vr b1, vr b2] κ I L Z := E_iconst (v := 1) dX10_waysFrom_19 rfl k
theorem t34_X10_waysFrom_20 {E : En} {d : Nat} {κ : Kp} {I L : MI} {Z : Zt} {a0 a1 b2 b3 : Nat} {a2 a3 b0 b1 : Int}  (k : Ev E d M_X10_waysFrom 21 [vr a0, vr a1, vi a2, vl a3, vu, vu, vu, vu, vu, vu, vu, vu] [vi (b1 + b0), vr b2, vr b3] κ I L Z) : Ev E d M_X10_waysFrom 20 [vr a0, vr a1, vi a2, vl a3, vu, vu, vu, vu, vu, vu, vu, vu] [vi b0, vi b1, vr b2, vr b3] κ I L Z := E_iadd dX10_waysFrom_20 k
theorem t34_X10_waysFrom_21 {E : En} {d : Nat} {κ : Kp} {I L : MI} {Z : Zt} {a0 a1 b1 b2 : Nat} {a2 a3 b0 : Int}  (k : Ev E d M_X10_waysFrom 22 [vr a0, vr a1, vi a2, vl a3, vu, vu, vu, vu, vu, vu, vu, vu] [vl a3, vi b0, vr b1, vr b2] κ I L Z) : Ev E d M_X10_waysFrom 21 [vr a0, vr a1, vi a2, vl a3, vu, vu, vu, vu, vu, vu, vu, vu] [vi b0, vr b1, vr b2] κ I L Z := E_lload_n dX10_waysFrom_21 rfl k
theorem t34_X10_waysFrom_22 {E : En} {d d' : Nat} {cs : Nat × Nat} {I L : MI} {Z : Zt} {a0 a1 b2 b3 : Nat} {a2 a3 b0 b1 : Int} {z : Int} {I' L' : MI} (hM : CFl E d' M_X10_waysFrom [vr b3, vr b2, vi b1, vl b0] I L z I' L') (hlt : d' + 1 ≤ d) (k : Jr z → Ev E d M_X10_waysFrom 25 [vr a0, vr a1, vi a2, vl a3, vu, vu, vu, vu, vu, vu, vu, vu] [vl z] (G0, cs) I' L' Z) (hc1 : cs.1 ≤ M_X10_waysFrom.2.2.2.2.1 := by decide) (hc2 : cs.2 ≤ M_X10_waysFrom.2.2.2.2.2 := by decide) : Ev E d M_X10_waysFrom 22 [vr a0, vr a1, vi a2, vl a3, vu, vu, vu, vu, vu, vu, vu, vu] [vl b0, vi b1, vr b2, vr b3] (G0, cs) I L Z := E_callS (as := [vr b3, vr b2, vi b1, vl b0]) (rest := []) (n := 4) hM dX10_waysFrom_22 wM_RX10_280 wS_X10_waysFrom hlt wC_X10_waysFrom wI_X10 (by decide +kernel) rfl (by decide) (Nat.le_of_ble_eq_true rfl) hc1 hc2 rfl (fun r g' I2 L2 h => by obtain ⟨rfl, z, rfl, hr, rfl, rfl, rfl⟩ := h; exact k hr)
theorem t34_X10_waysFrom_25 {E : En} {d : Nat} {κ : Kp} {I L : MI} {Z : Zt} {a0 a1 : Nat} {a2 a3 b0 : Int}  (k : Ev E d M_X10_waysFrom 27 [vr a0, vr a1, vi a2, vl a3, vu, vl b0, vu, vu, vu, vu, vu, vu] [] κ I L Z) : Ev E d M_X10_waysFrom 25 [vr a0, vr a1, vi a2, vl a3, vu, vu, vu, vu, vu, vu, vu, vu] [vl b0] κ I L Z := E_lstore dX10_waysFrom_25 rfl (Nat.le_of_ble_eq_true rfl) k
theorem t34_X10_waysFrom_27 {E : En} {d : Nat} {κ : Kp} {I L : MI} {Z : Zt} {a0 a1 : Nat} {a2 a3 a5 : Int}  (k : Ev E d M_X10_waysFrom 28 [vr a0, vr a1, vi a2, vl a3, vu, vl a5, vu, vu, vu, vu, vu, vu] [vr a0] κ I L Z) : Ev E d M_X10_waysFrom 27 [vr a0, vr a1, vi a2, vl a3, vu, vl a5, vu, vu, vu, vu, vu, vu] [] κ I L Z := E_aload_n dX10_waysFrom_27 rfl k
theorem t34_X10_waysFrom_28 {E : En} {d : Nat} {κ : Kp} {I L : MI} {Z : Zt} {a0 a1 b0 : Nat} {a2 a3 a5 : Int}  (k : Ev E d M_X10_waysFrom 29 [vr a0, vr a1, vi a2, vl a3, vu, vl a5, vu, vu, vu, vu, vu, vu] [vi a2, vr b0] κ I L Z) : Ev E d M_X10_waysFrom 28 [vr a0, vr a1, vi a2, vl a3, vu, vl a5, vu, vu, vu, vu, vu, vu] [vr b0] κ I L Z := E_iload_n dX10_waysFrom_28 rfl k
theorem t34_X10_waysFrom_29 {E : En} {d d' : Nat} {cs : Nat × Nat} {I L : MI} {Z : Zt} {a0 a1 b1 : Nat} {a2 a3 a5 b0 : Int} {z : Int} {I' L' : MI} (hs : G0.1[b1]? = some (.inl 9)) (hM : CFi E d' M_X9_lesserNumber [vr b1, vi b0] I L z I' L') (hlt : d' + 1 ≤ d) (k : Ir z → Ev E d M_X10_waysFrom 32 [vr a0, vr a1, vi a2, vl a3, vu, vl a5, vu, vu, vu, vu, vu, vu] [vi z] (G0, cs) I' L' Z) (hc1 : cs.1 ≤ M_X10_waysFrom.2.2.2.2.1 := by decide) (hc2 : cs.2 ≤ M_X10_waysFrom.2.2.2.2.2 := by decide) : Ev E d M_X10_waysFrom 29 [vr a0, vr a1, vi a2, vl a3, vu, vl a5, vu, vu, vu, vu, vu, vu] [vi b0, vr b1] (G0, cs) I L Z := E_callV (as := [vi b0]) (rest := []) (n := 1) hM dX10_waysFrom_29 wM_RX10_336 wS_X9_lesserNumber wV_X9_lesserNumber hs (by decide) rfl hlt wC_X9_lesserNumber wI_X9 (by decide +kernel) rfl (by decide) (Nat.le_of_ble_eq_true rfl) hc1 hc2 rfl (fun r g' I2 L2 h => by obtain ⟨rfl, z, rfl, hr, rfl, rfl, rfl⟩ := h; exact k hr)
theorem t34_X10_waysFrom_32 {E : En} {d : Nat} {κ : Kp} {I L : MI} {Z : Zt} {a0 a1 : Nat} {a2 a3 a5 b0 : Int}  (k : Ev E d M_X10_waysFrom 34 [vr a0, vr a1, vi a2, vl a3, vu, vl a5, vu, vi b0, vu, vu, vu, vu] [] κ I L Z) : Ev E d M_X10_waysFrom 32 [vr a0, vr a1, vi a2, vl a3, vu, vl a5, vu, vu, vu, vu, vu, vu] [vi b0] κ I L Z := E_istore dX10_waysFrom_32 rfl (Nat.le_of_ble_eq_true rfl) k
theorem t34_X10_waysFrom_34 {E : En} {d : Nat} {κ : Kp} {I L : MI} {Z : Zt} {a0 a1 : Nat} {a2 a3 a5 a7 : Int}  (k : Ev E d M_X10_waysFrom 35 [vr a0, vr a1, vi a2, vl a3, vu, vl a5, vu, vi a7, vu, vu, vu, vu] [vr a0] κ I L Z) : Ev E d M_X10_waysFrom 34 [vr a0, vr a1, vi a2, vl a3, vu, vl a5, vu, vi a7, vu, vu, vu, vu] [] κ I L Z := E_aload_n dX10_waysFrom_34 rfl k
theorem t34_X10_waysFrom_35 {E : En} {d : Nat} {κ : Kp} {I L : MI} {Z : Zt} {a0 a1 b0 : Nat} {a2 a3 a5 a7 : Int}  (k : Ev E d M_X10_waysFrom 36 [vr a0, vr a1, vi a2, vl a3, vu, vl a5, vu, vi a7, vu, vu, vu, vu] [vi a2, vr b0] κ I L Z) : Ev E d M_X10_waysFrom 35 [vr a0, vr a1, vi a2, vl a3, vu, vl a5, vu, vi a7, vu, vu, vu, vu] [vr b0] κ I L Z := E_iload_n dX10_waysFrom_35 rfl k
theorem t34_X10_waysFrom_36 {E : En} {d d' : Nat} {cs : Nat × Nat} {I L : MI} {Z : Zt} {a0 a1 b1 : Nat} {a2 a3 a5 a7 b0 : Int} {z : Int} {I' L' : MI} (hs : G0.1[b1]? = some (.inl 9)) (hM : CFi E d' M_X9_greaterNumber [vr b1, vi b0] I L z I' L') (hlt : d' + 1 ≤ d) (k : Ir z → Ev E d M_X10_waysFrom 39 [vr a0, vr a1, vi a2, vl a3, vu, vl a5, vu, vi a7, vu, vu, vu, vu] [vi z] (G0, cs) I' L' Z) (hc1 : cs.1 ≤ M_X10_waysFrom.2.2.2.2.1 := by decide) (hc2 : cs.2 ≤ M_X10_waysFrom.2.2.2.2.2 := by decide) : Ev E d M_X10_waysFrom 36 [vr a0, vr a1, vi a2, vl a3, vu, vl a5, vu, vi a7, vu, vu, vu, vu] [vi b0, vr b1] (G0, cs) I L Z := E_callV (as := [vi b0]) (rest := []) (n := 1) hM dX10_waysFrom_36 wM_RX10_339 wS_X9_greaterNumber wV_X9_greaterNumber hs (by decide) rfl hlt wC_X9_greaterNumber wI_X9 (by decide +kernel) rfl (by decide) (Nat.le_of_ble_eq_true rfl) hc1 hc2 rfl (fun r g' I2 L2 h => by obtain ⟨rfl, z, rfl, hr, rfl, rfl, rfl⟩ := h; exact k hr)
theorem t34_X10_waysFrom_39 {E : En} {d : Nat} {κ : Kp} {I L : MI} {Z : Zt} {a0 a1 : Nat} {a2 a3 a5 a7 b0 : Int}  (k : Ev E d M_X10_waysFrom 41 [vr a0, vr a1, vi a2, vl a3, vu, vl a5, vu, vi a7, vi b0, vu, vu, vu] [] κ I L Z) : Ev E d M_X10_waysFrom 39 [vr a0, vr a1, vi a2, vl a3, vu, vl a5, vu, vi a7, vu, vu, vu, vu] [vi b0] κ I L Z := E_istore dX10_waysFrom_39 rfl (Nat.le_of_ble_eq_true rfl) k
theorem t34_X10_waysFrom_41 {E : En} {d : Nat} {κ : Kp} {I L : MI} {Z : Zt} {a0 a1 : Nat} {a2 a3 a5 a7 a8 : Int}  (k : Ev E d M_X10_waysFrom 43 [vr a0, vr a1, vi a2, vl a3, vu, vl a5, vu, vi a7, vi a8, vu, vu, vu] [vi a7] κ I L Z) : Ev E d M_X10_waysFrom 41 [vr a0, vr a1, vi a2, vl a3, vu, vl a5, vu, vi a7, vi a8, vu, vu, vu] [] κ I L Z := E_iload dX10_waysFrom_41 rfl k
theorem t34_X10_waysFrom_43 {E : En} {d : Nat} {κ : Kp} {I L : MI} {Z : Zt} {a0 a1 : Nat} {a2 a3 a5 a7 a8 b0 : Int}  (k : Ev E d M_X10_waysFrom 45 [vr a0, vr a1, vi a2, vl a3, vu, vl a5, vu, vi a7, vi a8, vu, vu, vu] [vi a8, vi b0] κ I L Z) : Ev E d M_X10_waysFrom 43 [vr a0, vr a1, vi a2, vl a3, vu, vl a5, vu, vi a7, vi a8, vu, vu, vu] [vi b0] κ I L Z := E_iload dX10_waysFrom_43 rfl k
theorem t34_X10_waysFrom_45 {E : En} {d : Nat} {κ : Kp} {I L : MI} {Z : Zt} {a0 a1 : Nat} {a2 a3 a5 a7 a8 b0 b1 : Int} (hx : Ir b1) (hy : Ir b0) (kt : b1 = b0 → Ev E d M_X10_waysFrom 53 [vr a0, vr a1, vi a2, vl a3, vu, vl a5, vu, vi a7, vi a8, vu, vu, vu] [] κ I L Z) (kf : ¬ b1 = b0 → Ev E d M_X10_waysFrom 48 [vr a0, vr a1, vi a2, vl a3, vu, vl a5, vu, vi a7, vi a8, vu, vu, vu] [] κ I L Z) : Ev E d M_X10_waysFrom 45 [vr a0, vr a1, vi a2, vl a3, vu, vl a5, vu, vi a7, vi a8, vu, vu, vu] [vi b0, vi b1] κ I L Z := E_icmp_eq dX10_waysFrom_45 hx hy kt kf (by decide)
theorem t34_X10_waysFrom_53 {E : En} {d : Nat} {κ : Kp} {I L : MI} {Z : Zt} {a0 a1 : Nat} {a2 a3 a5 a7 a8 : Int}  (k : Ev E d M_X10_waysFrom 55 [vr a0, vr a1, vi a2, vl a3, vu, vl a5, vu, vi a7, vi a8, vu, vu, vu] [vl a5] κ I L Z) : Ev E d M_X10_waysFrom 53 [vr a0, vr a1, vi a2, vl a3, vu, vl a5, vu, vi a7, vi a8, vu, vu, vu] [] κ I L Z := E_lload dX10_waysFrom_53 rfl k
theorem t34_X10_waysFrom_55 {E : En} {d : Nat} {g : Geo} {I L : MI} {Q : Option AV → Geo → MI → MI → Prop} {cs : Nat × Nat} {a0 a1 : Nat} {a2 a3 a5 a7 a8 b0 : Int} (hq : Q (some (vl b0)) g I L) (h1 : cs.1 ≤ M_X10_waysFrom.2.2.2.2.1 := by decide) (h2 : cs.2 ≤ M_X10_waysFrom.2.2.2.2.2 := by decide) : Ev E d M_X10_waysFrom 55 [vr a0, vr a1, vi a2, vl a3, vu, vl a5, vu, vi a7, vi a8, vu, vu, vu] [vl b0] (g, cs) I L (ZQ E M_X10_waysFrom Q) := E_lreturn rfl dX10_waysFrom_55 hq h1 h2
theorem t34_X10_waysFrom_48 {E : En} {d : Nat} {κ : Kp} {I L : MI} {Z : Zt} {a0 a1 : Nat} {a2 a3 a5 a7 a8 : Int}  (k : Ev E d M_X10_waysFrom 50 [vr a0, vr a1, vi a2, vl a3, vu, vl a5, vu, vi a7, vi a8, vu, vu, vu] [vi a7] κ I L Z) : Ev E d M_X10_waysFrom 48 [vr a0, vr a1, vi a2, vl a3, vu, vl a5, vu, vi a7, vi a8, vu, vu, vu] [] κ I L Z := E_iload dX10_waysFrom_48 rfl k
theorem t34_X10_waysFrom_50 {E : En} {d : Nat} {κ : Kp} {I L : MI} {Z : Zt} {a0 a1 : Nat} {a2 a3 a5 a7 a8 b0 : Int} (hx : Ir b0) (kt : ¬ b0 = 0 → Ev E d M_X10_waysFrom 56 [vr a0, vr a1, vi a2, vl a3, vu, vl a5, vu, vi a7, vi a8, vu, vu, vu] [] κ I L Z) (kf : b0 = 0 → Ev E d M_X10_waysFrom 53 [vr a0, vr a1, vi a2, vl a3, vu, vl a5, vu, vi a7, vi a8, vu, vu, vu] [] κ I L Z) : Ev E d M_X10_waysFrom 50 [vr a0, vr a1, vi a2, vl a3, vu, vl a5, vu, vi a7, vi a8, vu, vu, vu] [vi b0] κ I L Z := E_if_ne dX10_waysFrom_50 hx kt kf (by decide)
theorem t34_X10_waysFrom_56 {E : En} {d : Nat} {κ : Kp} {I L : MI} {Z : Zt} {a0 a1 : Nat} {a2 a3 a5 a7 a8 : Int}  (k : Ev E d M_X10_waysFrom 57 [vr a0, vr a1, vi a2, vl a3, vu, vl a5, vu, vi a7, vi a8, vu, vu, vu] [vl a3] κ I L Z) : Ev E d M_X10_waysFrom 56 [vr a0, vr a1, vi a2, vl a3, vu, vl a5, vu, vi a7, vi a8, vu, vu, vu] [] κ I L Z := E_lload_n dX10_waysFrom_56 rfl k
theorem t34_X10_waysFrom_57 {E : En} {d : Nat} {κ : Kp} {I L : MI} {Z : Zt} {a0 a1 : Nat} {a2 a3 a5 a7 a8 b0 : Int}  (k : Ev E d M_X10_waysFrom 59 [vr a0, vr a1, vi a2, vl a3, vu, vl a5, vu, vi a7, vi a8, vl b0, vu, vu] [] κ I L Z) : Ev E d M_X10_waysFrom 57 [vr a0, vr a1, vi a2, vl a3, vu, vl a5, vu, vi a7, vi a8, vu, vu, vu] [vl b0] κ I L Z := E_lstore dX10_waysFrom_57 rfl (Nat.le_of_ble_eq_true rfl) k
theorem t34_X10_waysFrom_59 {E : En} {d : Nat} {κ : Kp} {I L : MI} {Z : Zt} {a0 a1 : Nat} {a2 a3 a5 a7 a8 a9 : Int}  (k : Ev E d M_X10_waysFrom 60 [vr a0, vr a1, vi a2, vl a3, vu, vl a5, vu, vi a7, vi a8, vl a9, vu, vu] [vi 0] κ I L Z) : Ev E d M_X10_waysFrom 59 [vr a0, vr a1, vi a2, vl a3, vu, vl a5, vu, vi a7, vi a8, vl a9, vu, vu] [] κ I L Z := E_iconst (v := 0) dX10_waysFrom_59 rfl k
theorem t34_X10_waysFrom_60 {E : En} {d : Nat} {κ : Kp} {I L : MI} {Z : Zt} {a0 a1 : Nat} {a2 a3 a5 a7 a8 a9 b0 : Int}  (k : Ev E d M_X10_waysFrom 62 [vr a0, vr a1, vi a2, vl a3, vu, vl a5, vu, vi a7, vi a8, vl a9, vu, vi b0] [] κ I L Z) : Ev E d M_X10_waysFrom 60 [vr a0, vr a1, vi a2, vl a3, vu, vl a5, vu, vi a7, vi a8, vl a9, vu, vu] [vi b0] κ I L Z := E_istore dX10_waysFrom_60 rfl (Nat.le_of_ble_eq_true rfl) k
/-! CONTRACTS: the ways to say a saying -/
def wlp (W : Int → Int) (F G : Int) : Nat → Int → Int → Int
  | 0, _, w => w
  | k + 1, m, w => if m.tdiv F * G ≤ 1000000000000000 then wlp W F G k (m.tdiv F * G) (w + W (m.tdiv F * G)) else w
def wyF (F G : Nat → Int) (c : Nat → Nat) (n : Nat) : Nat → Int → Int
  | 0, _ => 1
  | r + 1, m => if F (n - (r + 1)) = G (n - (r + 1)) ∨ F (n - (r + 1)) = 0 then wyF F G c n r m else wlp (wyF F G c n r) (F (n - (r + 1))) (G (n - (r + 1))) (c (n - (r + 1))) m (wyF F G c n r m)
def sgN (c : Nat → Nat) (n : Nat) : Nat → Nat
  | 0 => 0
  | r + 1 => sgN c n r + c (n - (r + 1))
theorem wlp_b {W : Int → Int} {F G P : Int} (hW : ∀ m, 1 ≤ W m ∧ W m ≤ P) : ∀ (k : Nat) (m w : Int), w ≤ wlp W F G k m w ∧ wlp W F G k m w ≤ w + k * P := by
  intro k
  induction k with
  | zero => intro m w; unfold wlp; rw [show ((0 : Nat) : Int) * P = 0 from Int.zero_mul P]; omega
  | succ k ih =>
    intro m w
    have h1 := ih (m.tdiv F * G) (w + W (m.tdiv F * G))
    have h2 := hW (m.tdiv F * G)
    have h3 : 0 ≤ (k : Int) * P := Int.mul_nonneg (by omega) (by omega)
    have e : ((k + 1 : Nat) : Int) * P = k * P + P := by rw [show ((k + 1 : Nat) : Int) = (k : Int) + 1 by omega, Int.add_mul, Int.one_mul]
    unfold wlp
    rw [e]
    split <;> omega
theorem two_pow_ge (c : Nat) : c + 1 ≤ 2 ^ c := by
  induction c with
  | zero => decide
  | succ c ih => rw [Nat.pow_succ]; omega
theorem wyF_b {F G : Nat → Int} {c : Nat → Nat} {n : Nat} : ∀ (r : Nat) (m : Int), 1 ≤ wyF F G c n r m ∧ wyF F G c n r m ≤ ((2 ^ sgN c n r : Nat) : Int) := by
  intro r
  induction r with
  | zero => intro m; show (1 : Int) ≤ 1 ∧ (1 : Int) ≤ ((1 : Nat) : Int); decide
  | succ r ih =>
    intro m
    have h1 := ih m
    have h2 := wlp_b (F := F (n - (r + 1))) (G := G (n - (r + 1))) ih (c (n - (r + 1))) m (wyF F G c n r m)
    have h3 : (c (n - (r + 1)) + 1) * 2 ^ sgN c n r ≤ 2 ^ sgN c n (r + 1) := by
      show _ ≤ 2 ^ (sgN c n r + c (n - (r + 1)))
      rw [Nat.pow_add, Nat.mul_comm (2 ^ sgN c n r)]
      exact Nat.mul_le_mul_right _ (two_pow_ge _)
    have h4 : (c (n - (r + 1)) + 1) * 2 ^ sgN c n r = c (n - (r + 1)) * 2 ^ sgN c n r + 2 ^ sgN c n r := by rw [Nat.add_mul, Nat.one_mul]
    have h5 : ((c (n - (r + 1)) : Int)) * ((2 ^ sgN c n r : Nat) : Int) = ((c (n - (r + 1)) * 2 ^ sgN c n r : Nat) : Int) := by rw [Int.natCast_mul]
    rw [h5] at h2
    unfold wyF
    generalize 2 ^ sgN c n r = P at *
    generalize 2 ^ sgN c n (r + 1) = R at *
    generalize c (n - (r + 1)) * P = T at *
    split <;> omega
theorem fst_b {I : MI} {t : Nat} (hw : WfT I t) (k : Int) : (0 ≤ fstI I t k ∧ fstI I t k ≤ 199) ∧ 0 ≤ othI I t k ∧ othI I t k ≤ 199 := by
  obtain ⟨b, h1, -⟩ := hw
  constructor
  · unfold fstI atI
    split
    · split
      · have := h1 k (by omega) (by omega); omega
      · decide
    · decide
  · unfold othI atI
    split
    · split
      · have := h1 k (by omega) (by omega); omega
      · decide
    · decide
theorem lesgre_b {I : MI} {t : Nat} (hw : WfT I t) (k : Int) : (0 ≤ lesI I t k ∧ lesI I t k ≤ 199) ∧ 0 ≤ greI I t k ∧ greI I t k ≤ 199 := by
  have := fst_b hw k
  unfold lesI greI
  constructor
  · split
    · omega
    · split <;> omega
  · split <;> omega
theorem c_X10_waysFrom {E : En} {I L : MI} {n : Nat} {c : Nat → Nat} (hw : WfT I 15) (hn : I 15 0 = n) (hn2 : n ≤ 12) (hc : ∀ t : Nat, t < 12 → I 27 t = c t) (hs : ∀ r, r ≤ n → sgN c n r ≤ 60) : ∀ (r t : Nat) (m : Int), t + r = n → 0 ≤ m → m ≤ 1000000000000000 → CFl E (4 + r) M_X10_waysFrom [vr 15, vr 27, vi (t : Int), vl m] I L (wyF (fun t => lesI I 15 t) (fun t => greI I 15 t) c n r m) I L := by
  have t15 := TgS15
  have bb : ∀ r m, r ≤ n → 1 ≤ wyF (fun t => lesI I 15 t) (fun t => greI I 15 t) c n r m ∧ wyF (fun t => lesI I 15 t) (fun t => greI I 15 t) c n r m ≤ 1152921504606846976 := fun r m hr => by
    have h1 := wyF_b (F := fun t => lesI I 15 t) (G := fun t => greI I 15 t) (c := c) (n := n) r m
    have h2 : 2 ^ sgN c n r ≤ 2 ^ 60 := Nat.pow_le_pow_right (by decide) (hs r hr)
    rw [show 2 ^ 60 = 1152921504606846976 from rfl] at h2
    omega
  intro r
  induction r with
  | zero =>
    intro t m ht m0 m1
    have : t = n := by omega
    subst this
    refine CM_of' (al := [vr _, vr _, vi _, vl _, vu, vu, vu, vu, vu, vu, vu, vu]) rfl (Nat.le_of_ble_eq_true rfl) rfl (fun hM => ?_)
    refine (t34_X10_waysFrom_0 (t34_X10_waysFrom_1 (t34_X10_waysFrom_2 (by first | assumption | rfl) (fun r2 => (t34_X10_waysFrom_5 (by omega) (by omega) (fun c5 => (t34_X10_waysFrom_14 (t34_X10_waysFrom_15 ?_))) (fun c5 => (t34_X10_waysFrom_8 (t34_X10_waysFrom_9 (t34_X10_waysFrom_11 (by omega) (by omega) (fun c11 => ?_) (fun c11 => (t34_X10_waysFrom_14 (t34_X10_waysFrom_15 ?_))))))))))))
    -- 3 leaves: 5t :ret15 | 5f 11t :->16 | 5f 11f :ret15
    · exact qfl (by decide) rfl
    · omega
    · omega
  | succ r ih =>
    intro t m ht m0 m1
    have et : n - (r + 1) = t := by omega
    have lg := lesgre_b hw (t : Int)
    have b1 := bb r m (by omega)
    have hrec := ih (t + 1) m (by omega) m0 m1
    rw [show ((t + 1 : Nat) : Int) = (t : Int) + 1 by omega] at hrec
    have hat : atI I 27 12 t = c t := by unfold atI; rw [if_pos (by omega)]; exact hc t (by omega)
    refine CM_of' (al := [vr _, vr _, vi _, vl _, vu, vu, vu, vu, vu, vu, vu, vu]) rfl (Nat.le_of_ble_eq_true rfl) rfl (fun hM => ?_)
    have hci := hM.1 27 t
    rw [hc t (by omega)] at hci
    have key : ¬ (lesI I 15 t = greI I 15 t ∨ lesI I 15 t = 0) → ∀ (f : Nat) (k : Nat) (made ways : Int), c t - k < f → k ≤ c t → 0 ≤ made → made ≤ 1000000000000000 → 0 ≤ ways → wlp (wyF (fun t => lesI I 15 t) (fun t => greI I 15 t) c n r) (lesI I 15 t) (greI I 15 t) (c t - k) made ways = wyF (fun t => lesI I 15 t) (fun t => greI I 15 t) c n (r + 1) m → Ev E (4 + (r + 1)) M_X10_waysFrom 62 [vr 15, vr 27, vi (t : Int), vl m, vu, vl ways, vu, vi (lesI I 15 t), vi (greI I 15 t), vl made, vu, vi (k : Int)] [] (G0, 0, 0) I L (ZQ E M_X10_waysFrom (QFl (wyF (fun t => lesI I 15 t) (fun t => greI I 15 t) c n (r + 1) m) I L)) := by
      intro hne f
      induction f with
      | zero => intro k made ways h1 h2; omega
      | succ f ihf =>
        intro k made ways k1 k2 d0 d1 w0 hx
        have hF : 0 < lesI I 15 t := by have := lg.1.1; omega
        have hd : 0 ≤ made.tdiv (lesI I 15 t) ∧ made.tdiv (lesI I 15 t) ≤ made := ⟨Int.tdiv_nonneg (by omega) (by omega), Int.tdiv_le_self _ (by omega)⟩
        have hm : 0 ≤ made.tdiv (lesI I 15 t) * greI I 15 t ∧ made.tdiv (lesI I 15 t) * greI I 15 t ≤ 1000000000000000 * 199 := ⟨Int.mul_nonneg hd.1 lg.2.1, Int.mul_le_mul (by omega) lg.2.2 lg.2.1 (by decide)⟩
        have bt := bb (r + 1) m (by omega)
        have bw := wlp_b (F := lesI I 15 t) (G := greI I 15 t) (P := 1152921504606846976) (fun m => bb r m (by omega)) (c t - k) made ways
        rw [hx] at bw
        have bW := bb r (made.tdiv (lesI I 15 t) * greI I 15 t) (by omega)
        have es : k < c t → wlp (wyF (fun t => lesI I 15 t) (fun t => greI I 15 t) c n r) (lesI I 15 t) (greI I 15 t) (c t - k) made ways = if made.tdiv (lesI I 15 t) * greI I 15 t ≤ 1000000000000000 then wlp (wyF (fun t => lesI I 15 t) (fun t => greI I 15 t) c n r) (lesI I 15 t) (greI I 15 t) (c t - (k + 1)) (made.tdiv (lesI I 15 t) * greI I 15 t) (ways + wyF (fun t => lesI I 15 t) (fun t => greI I 15 t) c n r (made.tdiv (lesI I 15 t) * greI I 15 t)) else ways := fun h => by
          rw [show c t - k = (c t - (k + 1)) + 1 by omega]
          conv => lhs; unfold wlp
        refine (t34_X10_waysFrom_62 (t34_X10_waysFrom_64 (t34_X10_waysFrom_65 (t34_X10_waysFrom_66 c_X10_at (by first | decide | omega) (fun r66 => (t34_X10_waysFrom_69 (by omega) (by omega) (fun c69 => (t34_X10_waysFrom_117 (t34_X10_waysFrom_119 ?_))) (fun c69 => (t34_X10_waysFrom_72 (t34_X10_waysFrom_74 (t34_X10_waysFrom_76 (by omega) (t34_X10_waysFrom_77 (by omega) (by omega) (by omega) (by omega) (t34_X10_waysFrom_78 (t34_X10_waysFrom_80 (by omega) (t34_X10_waysFrom_81 (t34_X10_waysFrom_82 (t34_X10_waysFrom_84 (t34_X10_waysFrom_86 (t34_X10_waysFrom_89 (by omega) (by omega) (fun c89 => ?_) (fun c89 => (t34_X10_waysFrom_93 (t34_X10_waysFrom_117 (t34_X10_waysFrom_119 ?_))))))))))))))))))))))
        -- 3 leaves: 69t :ret119 | 69f 89t :->96 | 69f 89f :ret119
        · have : k = c t := by omega
          subst this
          rw [Nat.sub_self] at hx
          exact qfl (by omega) hx
        · have e := es (by omega)
          rw [if_pos (by omega), hx] at e
          have b5 := wlp_b (F := lesI I 15 t) (G := greI I 15 t) (P := 1152921504606846976) (fun m => bb r m (by omega)) (c t - (k + 1)) (made.tdiv (lesI I 15 t) * greI I 15 t) (ways + wyF (fun t => lesI I 15 t) (fun t => greI I 15 t) c n r (made.tdiv (lesI I 15 t) * greI I 15 t))
          rw [← e] at b5
          have hrec2 := ih (t + 1) (made.tdiv (lesI I 15 t) * greI I 15 t) (by omega) (by omega) (by omega)
          rw [show ((t + 1 : Nat) : Int) = (t : Int) + 1 by omega] at hrec2
          refine (t34_X10_waysFrom_96 (t34_X10_waysFrom_98 (t34_X10_waysFrom_99 (t34_X10_waysFrom_100 (t34_X10_waysFrom_101 (t34_X10_waysFrom_102 (t34_X10_waysFrom_103 (t34_X10_waysFrom_105 (hrec2) (by first | decide | omega) (fun r105 => (t34_X10_waysFrom_108 (t34_X10_waysFrom_109 (t34_X10_waysFrom_111 (t34_X10_waysFrom_114 ?_)))))))))))))
          -- 1 leaves: :->62
          exact ihf (k + 1) _ _ (by omega) (by omega) (by omega) (by omega) (by omega) e.symm
        · have e := es (by omega)
          rw [if_neg (by omega), hx] at e
          exact qfl (by omega) e.symm
    refine (t34_X10_waysFrom_0 (t34_X10_waysFrom_1 (t34_X10_waysFrom_2 (by first | assumption | rfl) (fun r2 => (t34_X10_waysFrom_5 (by omega) (by omega) (fun c5 => (t34_X10_waysFrom_14 (t34_X10_waysFrom_15 ?_))) (fun c5 => (t34_X10_waysFrom_8 (t34_X10_waysFrom_9 (t34_X10_waysFrom_11 (by omega) (by omega) (fun c11 => (t34_X10_waysFrom_16 (t34_X10_waysFrom_17 (t34_X10_waysFrom_18 (t34_X10_waysFrom_19 (t34_X10_waysFrom_20 (t34_X10_waysFrom_21 (t34_X10_waysFrom_22 (hrec) (by first | decide | omega) (fun r22 => (t34_X10_waysFrom_25 (t34_X10_waysFrom_27 (t34_X10_waysFrom_28 (t34_X10_waysFrom_29 (by first | assumption | rfl) c_X9_lesserNumber (by first | decide | omega) (fun r29 => (t34_X10_waysFrom_32 (t34_X10_waysFrom_34 (t34_X10_waysFrom_35 (t34_X10_waysFrom_36 (by first | assumption | rfl) c_X9_greaterNumber (by first | decide | omega) (fun r36 => (t34_X10_waysFrom_39 (t34_X10_waysFrom_41 (t34_X10_waysFrom_43 (t34_X10_waysFrom_45 (by omega) (by omega) (fun c45 => (t34_X10_waysFrom_53 (t34_X10_waysFrom_55 ?_))) (fun c45 => (t34_X10_waysFrom_48 (t34_X10_waysFrom_50 (by omega) (fun c50 => (t34_X10_waysFrom_56 (t34_X10_waysFrom_57 (t34_X10_waysFrom_59 (t34_X10_waysFrom_60 ?_))))) (fun c50 => (t34_X10_waysFrom_53 (t34_X10_waysFrom_55 ?_))))))))))))))))))))))))))))) (fun c11 => (t34_X10_waysFrom_14 (t34_X10_waysFrom_15 ?_))))))))))))
    -- 5 leaves: 5t :ret15 | 5f 11t 45t :ret55 | 5f 11t 45f 50t :->62 | 5f 11t 45f 50f :ret55 | 5f 11f :ret15
    · omega
    · refine qfl (by omega) ?_
      conv => rhs; unfold wyF
      rw [et, if_pos (.inl c45)]
    · refine key (fun h => h.elim c45 c50) (c t + 1) 0 _ _ (by omega) (by omega) m0 m1 (by omega) ?_
      conv => rhs; unfold wyF
      rw [et, if_neg (fun h => h.elim c45 c50)]
      rfl
    · refine qfl (by omega) ?_
      conv => rhs; unfold wyF
      rw [et, if_pos (.inr c50)]
    · omega
