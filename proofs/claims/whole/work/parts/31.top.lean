theorem t31_X10_knownBy_6 {E : En} {d : Nat} {κ : Kp} {I L : MI} {Z : Zt} {a0 : Nat} {a1 a2 a4 a6 : Int}  (k : Ev E d M_X10_knownBy 8 [vr a0, vi a1, vl a2, vu, vl a4, vu, vi a6] [vi a6] κ I L Z) : Ev E d M_X10_knownBy 6 [vr a0, vi a1, vl a2, vu, vl a4, vu, vi a6] [] κ I L Z := E_iload dX10_knownBy_6 rfl k
theorem t31_X10_knownBy_8 {E : En} {d : Nat} {κ : Kp} {I L : MI} {Z : Zt} {a0 : Nat} {a1 a2 a4 a6 b0 : Int}  (k : Ev E d M_X10_knownBy 10 [vr a0, vi a1, vl a2, vu, vl a4, vu, vi a6] [vi 8, vi b0] κ I L Z) : Ev E d M_X10_knownBy 8 [vr a0, vi a1, vl a2, vu, vl a4, vu, vi a6] [vi b0] κ I L Z := E_bipush (v := 8) dX10_knownBy_8 rfl k
theorem t31_X10_knownBy_10 {E : En} {d : Nat} {κ : Kp} {I L : MI} {Z : Zt} {a0 : Nat} {a1 a2 a4 a6 b0 b1 : Int} (hx : Ir b1) (hy : Ir b0) (kt : b0 ≤ b1 → Ev E d M_X10_knownBy 49 [vr a0, vi a1, vl a2, vu, vl a4, vu, vi a6] [] κ I L Z) (kf : b1 < b0 → Ev E d M_X10_knownBy 13 [vr a0, vi a1, vl a2, vu, vl a4, vu, vi a6] [] κ I L Z) : Ev E d M_X10_knownBy 10 [vr a0, vi a1, vl a2, vu, vl a4, vu, vi a6] [vi b0, vi b1] κ I L Z := E_icmp_ge dX10_knownBy_10 hx hy kt kf (by decide)
theorem t31_X10_knownBy_49 {E : En} {d : Nat} {κ : Kp} {I L : MI} {Z : Zt} {a0 : Nat} {a1 a2 a4 a6 : Int}  (k : Ev E d M_X10_knownBy 51 [vr a0, vi a1, vl a2, vu, vl a4, vu, vi a6] [vl a4] κ I L Z) : Ev E d M_X10_knownBy 49 [vr a0, vi a1, vl a2, vu, vl a4, vu, vi a6] [] κ I L Z := E_lload dX10_knownBy_49 rfl k
theorem t31_X10_knownBy_51 {E : En} {d : Nat} {g : Geo} {I L : MI} {Q : Option AV → Geo → MI → MI → Prop} {cs : Nat × Nat} {a0 : Nat} {a1 a2 a4 a6 b0 : Int} (hq : Q (some (vl b0)) g I L) (h1 : cs.1 ≤ M_X10_knownBy.2.2.2.2.1 := by decide) (h2 : cs.2 ≤ M_X10_knownBy.2.2.2.2.2 := by decide) : Ev E d M_X10_knownBy 51 [vr a0, vi a1, vl a2, vu, vl a4, vu, vi a6] [vl b0] (g, cs) I L (ZQ E M_X10_knownBy Q) := E_lreturn rfl dX10_knownBy_51 hq h1 h2
theorem t31_X10_knownBy_13 {E : En} {d : Nat} {κ : Kp} {I L : MI} {Z : Zt} {a0 : Nat} {a1 a2 a4 a6 : Int}  (k : Ev E d M_X10_knownBy 14 [vr a0, vi a1, vl a2, vu, vl a4, vu, vi a6] [vi a1] κ I L Z) : Ev E d M_X10_knownBy 13 [vr a0, vi a1, vl a2, vu, vl a4, vu, vi a6] [] κ I L Z := E_iload_n dX10_knownBy_13 rfl k
theorem t31_X10_knownBy_14 {E : En} {d : Nat} {κ : Kp} {I L : MI} {Z : Zt} {a0 : Nat} {a1 a2 a4 a6 b0 : Int}  (k : Ev E d M_X10_knownBy 16 [vr a0, vi a1, vl a2, vu, vl a4, vu, vi a6] [vi a6, vi b0] κ I L Z) : Ev E d M_X10_knownBy 14 [vr a0, vi a1, vl a2, vu, vl a4, vu, vi a6] [vi b0] κ I L Z := E_iload dX10_knownBy_14 rfl k
theorem t31_X10_knownBy_16 {E : En} {d : Nat} {κ : Kp} {I L : MI} {Z : Zt} {a0 : Nat} {a1 a2 a4 a6 b0 b1 : Int} {z : Int} (hz : Int32.ofInt b1 >>> (Int32.ofInt b0 &&& 31) = Int32.ofInt z) (k : Ev E d M_X10_knownBy 17 [vr a0, vi a1, vl a2, vu, vl a4, vu, vi a6] [vi z] κ I L Z) : Ev E d M_X10_knownBy 16 [vr a0, vi a1, vl a2, vu, vl a4, vu, vi a6] [vi b0, vi b1] κ I L Z := E_ishr dX10_knownBy_16 hz k
theorem t31_X10_knownBy_17 {E : En} {d : Nat} {κ : Kp} {I L : MI} {Z : Zt} {a0 : Nat} {a1 a2 a4 a6 b0 : Int}  (k : Ev E d M_X10_knownBy 18 [vr a0, vi a1, vl a2, vu, vl a4, vu, vi a6] [vi 1, vi b0] κ I L Z) : Ev E d M_X10_knownBy 17 [vr a0, vi a1, vl a2, vu, vl a4, vu, vi a6] [vi b0] κ I L Z := E_iconst (v := 1) dX10_knownBy_17 rfl k
theorem t31_X10_knownBy_18 {E : En} {d : Nat} {κ : Kp} {I L : MI} {Z : Zt} {a0 : Nat} {a1 a2 a4 a6 b0 b1 : Int} {z : Int} (hz : Int32.ofInt b1 &&& Int32.ofInt b0 = Int32.ofInt z) (k : Ev E d M_X10_knownBy 19 [vr a0, vi a1, vl a2, vu, vl a4, vu, vi a6] [vi z] κ I L Z) : Ev E d M_X10_knownBy 18 [vr a0, vi a1, vl a2, vu, vl a4, vu, vi a6] [vi b0, vi b1] κ I L Z := E_iand dX10_knownBy_18 hz k
theorem t31_X10_knownBy_19 {E : En} {d : Nat} {κ : Kp} {I L : MI} {Z : Zt} {a0 : Nat} {a1 a2 a4 a6 b0 : Int}  (k : Ev E d M_X10_knownBy 20 [vr a0, vi a1, vl a2, vu, vl a4, vu, vi a6] [vi 1, vi b0] κ I L Z) : Ev E d M_X10_knownBy 19 [vr a0, vi a1, vl a2, vu, vl a4, vu, vi a6] [vi b0] κ I L Z := E_iconst (v := 1) dX10_knownBy_19 rfl k
theorem t31_X10_knownBy_20 {E : En} {d : Nat} {κ : Kp} {I L : MI} {Z : Zt} {a0 : Nat} {a1 a2 a4 a6 b0 b1 : Int} (hx : Ir b1) (hy : Ir b0) (kt : ¬ b1 = b0 → Ev E d M_X10_knownBy 43 [vr a0, vi a1, vl a2, vu, vl a4, vu, vi a6] [] κ I L Z) (kf : b1 = b0 → Ev E d M_X10_knownBy 23 [vr a0, vi a1, vl a2, vu, vl a4, vu, vi a6] [] κ I L Z) : Ev E d M_X10_knownBy 20 [vr a0, vi a1, vl a2, vu, vl a4, vu, vi a6] [vi b0, vi b1] κ I L Z := E_icmp_ne dX10_knownBy_20 hx hy kt kf (by decide)
theorem t31_X10_knownBy_43 {E : En} {d : Nat} {κ : Kp} {I L : MI} {Z : Zt} {a0 : Nat} {a1 a2 a4 a6 : Int}  (k : Ev E d M_X10_knownBy 46 [vr a0, vi a1, vl a2, vu, vl a4, vu, vi (a6 + 1)] [] κ I L Z) : Ev E d M_X10_knownBy 43 [vr a0, vi a1, vl a2, vu, vl a4, vu, vi a6] [] κ I L Z := E_iinc dX10_knownBy_43 rfl rfl (Nat.le_of_ble_eq_true rfl) k
theorem t31_X10_knownBy_46 {E : En} {d : Nat} {κ : Kp} {I L : MI} {Z : Zt} {a0 : Nat} {a1 a2 a4 a6 : Int}  (k : Ev E d M_X10_knownBy 6 [vr a0, vi a1, vl a2, vu, vl a4, vu, vi a6] [] κ I L Z) : Ev E d M_X10_knownBy 46 [vr a0, vi a1, vl a2, vu, vl a4, vu, vi a6] [] κ I L Z := E_goto dX10_knownBy_46 (by decide) k
theorem t31_X10_knownBy_23 {E : En} {d : Nat} {κ : Kp} {I L : MI} {Z : Zt} {a0 : Nat} {a1 a2 a4 a6 : Int}  (k : Ev E d M_X10_knownBy 25 [vr a0, vi a1, vl a2, vu, vl a4, vu, vi a6] [vl a4] κ I L Z) : Ev E d M_X10_knownBy 23 [vr a0, vi a1, vl a2, vu, vl a4, vu, vi a6] [] κ I L Z := E_lload dX10_knownBy_23 rfl k
theorem t31_X10_knownBy_25 {E : En} {d : Nat} {κ : Kp} {I L : MI} {Z : Zt} {a0 : Nat} {a1 a2 a4 a6 b0 : Int}  (k : Ev E d M_X10_knownBy 26 [vr a0, vi a1, vl a2, vu, vl a4, vu, vi a6] [vl a2, vl b0] κ I L Z) : Ev E d M_X10_knownBy 25 [vr a0, vi a1, vl a2, vu, vl a4, vu, vi a6] [vl b0] κ I L Z := E_lload_n dX10_knownBy_25 rfl k
theorem t31_X10_knownBy_26 {E : En} {d : Nat} {κ : Kp} {I L : MI} {Z : Zt} {a0 : Nat} {a1 a2 a4 a6 b0 b1 : Int}  (k : Ev E d M_X10_knownBy 27 [vr a0, vi a1, vl a2, vu, vl a4, vu, vi a6] [vr a0, vl b0, vl b1] κ I L Z) : Ev E d M_X10_knownBy 26 [vr a0, vi a1, vl a2, vu, vl a4, vu, vi a6] [vl b0, vl b1] κ I L Z := E_aload_n dX10_knownBy_26 rfl k
theorem t31_X10_knownBy_27 {E : En} {d : Nat} {κ : Kp} {I L : MI} {Z : Zt} {a0 b0 : Nat} {a1 a2 a4 a6 b1 b2 : Int} {q : Nat} (hs : κ.1.1[b0]? = some (.inl 10)) (hq : κ.1.2 b0 4 = some q) (k : Ev E d M_X10_knownBy 30 [vr a0, vi a1, vl a2, vu, vl a4, vu, vi a6] [vr q, vl b1, vl b2] κ I L Z) : Ev E d M_X10_knownBy 27 [vr a0, vi a1, vl a2, vu, vl a4, vu, vi a6] [vr b0, vl b1, vl b2] κ I L Z := E_getR (ci := 10) (n := 4) dX10_knownBy_27 wF_RX10_41 (by decide) hs rfl hq k
theorem t31_X10_knownBy_30 {E : En} {d : Nat} {κ : Kp} {I L : MI} {Z : Zt} {a0 b0 : Nat} {a1 a2 a4 a6 b1 b2 : Int}  (k : Ev E d M_X10_knownBy 32 [vr a0, vi a1, vl a2, vu, vl a4, vu, vi a6] [vi a6, vr b0, vl b1, vl b2] κ I L Z) : Ev E d M_X10_knownBy 30 [vr a0, vi a1, vl a2, vu, vl a4, vu, vi a6] [vr b0, vl b1, vl b2] κ I L Z := E_iload dX10_knownBy_30 rfl k
theorem t31_X10_knownBy_32 {E : En} {d d' : Nat} {cs : Nat × Nat} {I L : MI} {Z : Zt} {a0 b1 : Nat} {a1 a2 a4 a6 b0 b2 b3 : Int} {z : Int} {I' L' : MI} (hs : G0.1[b1]? = some (.inl 7)) (hM : CFl E d' M_X7_held [vr b1, vi b0] I L z I' L') (hlt : d' + 1 ≤ d) (k : Jr z → Ev E d M_X10_knownBy 35 [vr a0, vi a1, vl a2, vu, vl a4, vu, vi a6] [vl z, vl b2, vl b3] (G0, cs) I' L' Z) (hc1 : cs.1 ≤ M_X10_knownBy.2.2.2.2.1 := by decide) (hc2 : cs.2 ≤ M_X10_knownBy.2.2.2.2.2 := by decide) : Ev E d M_X10_knownBy 32 [vr a0, vi a1, vl a2, vu, vl a4, vu, vi a6] [vi b0, vr b1, vl b2, vl b3] (G0, cs) I L Z := E_callV (as := [vi b0]) (rest := [vl b2, vl b3]) (n := 1) hM dX10_knownBy_32 wM_RX10_185 wS_X7_held wV_X7_held hs (by decide) rfl hlt wC_X7_held wI_X7 (by decide +kernel) rfl (by decide) (Nat.le_of_ble_eq_true rfl) hc1 hc2 rfl (fun r g' I2 L2 h => by obtain ⟨rfl, z, rfl, hr, rfl, rfl, rfl⟩ := h; exact k hr)
theorem t31_X10_knownBy_35 {E : En} {d d' : Nat} {cs : Nat × Nat} {I L : MI} {Z : Zt} {a0 : Nat} {a1 a2 a4 a6 b0 b1 b2 : Int} {z : Int} {I' L' : MI} (hM : CFl E d' M_X10_shared [vl b1, vl b0] I L z I' L') (hlt : d' + 1 ≤ d) (k : Jr z → Ev E d M_X10_knownBy 38 [vr a0, vi a1, vl a2, vu, vl a4, vu, vi a6] [vl z, vl b2] (G0, cs) I' L' Z) (hc1 : cs.1 ≤ M_X10_knownBy.2.2.2.2.1 := by decide) (hc2 : cs.2 ≤ M_X10_knownBy.2.2.2.2.2 := by decide) : Ev E d M_X10_knownBy 35 [vr a0, vi a1, vl a2, vu, vl a4, vu, vi a6] [vl b0, vl b1, vl b2] (G0, cs) I L Z := E_callS (as := [vl b1, vl b0]) (rest := [vl b2]) (n := 2) hM dX10_knownBy_35 wM_RX10_212 wS_X10_shared hlt wC_X10_shared wI_X10 (by decide +kernel) rfl (by decide) (Nat.le_of_ble_eq_true rfl) hc1 hc2 rfl (fun r g' I2 L2 h => by obtain ⟨rfl, z, rfl, hr, rfl, rfl, rfl⟩ := h; exact k hr)
theorem t31_X10_knownBy_38 {E : En} {d d' : Nat} {cs : Nat × Nat} {I L : MI} {Z : Zt} {a0 : Nat} {a1 a2 a4 a6 b0 b1 : Int} {z : Int} {I' L' : MI} (hM : CFl E d' M_X10_either [vl b1, vl b0] I L z I' L') (hlt : d' + 1 ≤ d) (k : Jr z → Ev E d M_X10_knownBy 41 [vr a0, vi a1, vl a2, vu, vl a4, vu, vi a6] [vl z] (G0, cs) I' L' Z) (hc1 : cs.1 ≤ M_X10_knownBy.2.2.2.2.1 := by decide) (hc2 : cs.2 ≤ M_X10_knownBy.2.2.2.2.2 := by decide) : Ev E d M_X10_knownBy 38 [vr a0, vi a1, vl a2, vu, vl a4, vu, vi a6] [vl b0, vl b1] (G0, cs) I L Z := E_callS (as := [vl b1, vl b0]) (rest := []) (n := 2) hM dX10_knownBy_38 wM_RX10_216 wS_X10_either hlt wC_X10_either wI_X10 (by decide +kernel) rfl (by decide) (Nat.le_of_ble_eq_true rfl) hc1 hc2 rfl (fun r g' I2 L2 h => by obtain ⟨rfl, z, rfl, hr, rfl, rfl, rfl⟩ := h; exact k hr)
theorem t31_X10_knownBy_41 {E : En} {d : Nat} {κ : Kp} {I L : MI} {Z : Zt} {a0 : Nat} {a1 a2 a4 a6 b0 : Int}  (k : Ev E d M_X10_knownBy 43 [vr a0, vi a1, vl a2, vu, vl b0, vu, vi a6] [] κ I L Z) : Ev E d M_X10_knownBy 41 [vr a0, vi a1, vl a2, vu, vl a4, vu, vi a6] [vl b0] κ I L Z := E_lstore dX10_knownBy_41 rfl (Nat.le_of_ble_eq_true rfl) k
theorem t31_X10_knownBy_0 {E : En} {d : Nat} {κ : Kp} {I L : MI} {Z : Zt} {a0 : Nat} {a1 a2 : Int}  (k : Ev E d M_X10_knownBy 1 [vr a0, vi a1, vl a2, vu, vu, vu, vu] [vl 1] κ I L Z) : Ev E d M_X10_knownBy 0 [vr a0, vi a1, vl a2, vu, vu, vu, vu] [] κ I L Z := E_lconst (v := 1) dX10_knownBy_0 rfl k
theorem t31_X10_knownBy_1 {E : En} {d : Nat} {κ : Kp} {I L : MI} {Z : Zt} {a0 : Nat} {a1 a2 b0 : Int}  (k : Ev E d M_X10_knownBy 3 [vr a0, vi a1, vl a2, vu, vl b0, vu, vu] [] κ I L Z) : Ev E d M_X10_knownBy 1 [vr a0, vi a1, vl a2, vu, vu, vu, vu] [vl b0] κ I L Z := E_lstore dX10_knownBy_1 rfl (Nat.le_of_ble_eq_true rfl) k
theorem t31_X10_knownBy_3 {E : En} {d : Nat} {κ : Kp} {I L : MI} {Z : Zt} {a0 : Nat} {a1 a2 a4 : Int}  (k : Ev E d M_X10_knownBy 4 [vr a0, vi a1, vl a2, vu, vl a4, vu, vu] [vi 0] κ I L Z) : Ev E d M_X10_knownBy 3 [vr a0, vi a1, vl a2, vu, vl a4, vu, vu] [] κ I L Z := E_iconst (v := 0) dX10_knownBy_3 rfl k
theorem t31_X10_knownBy_4 {E : En} {d : Nat} {κ : Kp} {I L : MI} {Z : Zt} {a0 : Nat} {a1 a2 a4 b0 : Int}  (k : Ev E d M_X10_knownBy 6 [vr a0, vi a1, vl a2, vu, vl a4, vu, vi b0] [] κ I L Z) : Ev E d M_X10_knownBy 4 [vr a0, vi a1, vl a2, vu, vl a4, vu, vu] [vi b0] κ I L Z := E_istore dX10_knownBy_4 rfl (Nat.le_of_ble_eq_true rfl) k
theorem t31_X10_takeApart_0 {E : En} {d : Nat} {κ : Kp} {I L : MI} {Z : Zt} {a0 : Nat} {a1 : Int}  (k : Ev E d M_X10_takeApart 1 [vr a0, vi a1, vu, vu] [vr a0] κ I L Z) : Ev E d M_X10_takeApart 0 [vr a0, vi a1, vu, vu] [] κ I L Z := E_aload_n dX10_takeApart_0 rfl k
theorem t31_X10_takeApart_1 {E : En} {d : Nat} {κ : Kp} {I L : MI} {Z : Zt} {a0 b0 : Nat} {a1 : Int} {q : Nat} (hs : κ.1.1[b0]? = some (.inl 10)) (hq : κ.1.2 b0 4 = some q) (k : Ev E d M_X10_takeApart 4 [vr a0, vi a1, vu, vu] [vr q] κ I L Z) : Ev E d M_X10_takeApart 1 [vr a0, vi a1, vu, vu] [vr b0] κ I L Z := E_getR (ci := 10) (n := 4) dX10_takeApart_1 wF_RX10_41 (by decide) hs rfl hq k
theorem t31_X10_takeApart_4 {E : En} {d : Nat} {κ : Kp} {I L : MI} {Z : Zt} {a0 b0 : Nat} {a1 : Int}  (k : Ev E d M_X10_takeApart 5 [vr a0, vi a1, vu, vu] [vi a1, vr b0] κ I L Z) : Ev E d M_X10_takeApart 4 [vr a0, vi a1, vu, vu] [vr b0] κ I L Z := E_iload_n dX10_takeApart_4 rfl k
theorem t31_X10_takeApart_5 {E : En} {d d' : Nat} {cs : Nat × Nat} {I L : MI} {Z : Zt} {a0 b1 : Nat} {a1 b0 : Int} {z : Int} {I' L' : MI} (hs : G0.1[b1]? = some (.inl 7)) (hM : CFl E d' M_X7_held [vr b1, vi b0] I L z I' L') (hlt : d' + 1 ≤ d) (k : Jr z → Ev E d M_X10_takeApart 8 [vr a0, vi a1, vu, vu] [vl z] (G0, cs) I' L' Z) (hc1 : cs.1 ≤ M_X10_takeApart.2.2.2.2.1 := by decide) (hc2 : cs.2 ≤ M_X10_takeApart.2.2.2.2.2 := by decide) : Ev E d M_X10_takeApart 5 [vr a0, vi a1, vu, vu] [vi b0, vr b1] (G0, cs) I L Z := E_callV (as := [vi b0]) (rest := []) (n := 1) hM dX10_takeApart_5 wM_RX10_185 wS_X7_held wV_X7_held hs (by decide) rfl hlt wC_X7_held wI_X7 (by decide +kernel) rfl (by decide) (Nat.le_of_ble_eq_true rfl) hc1 hc2 rfl (fun r g' I2 L2 h => by obtain ⟨rfl, z, rfl, hr, rfl, rfl, rfl⟩ := h; exact k hr)
theorem t31_X10_takeApart_8 {E : En} {d : Nat} {κ : Kp} {I L : MI} {Z : Zt} {a0 : Nat} {a1 b0 : Int}  (k : Ev E d M_X10_takeApart 9 [vr a0, vi a1, vl b0, vu] [] κ I L Z) : Ev E d M_X10_takeApart 8 [vr a0, vi a1, vu, vu] [vl b0] κ I L Z := E_lstore_n dX10_takeApart_8 rfl (Nat.le_of_ble_eq_true rfl) k
theorem t31_X10_takeApart_9 {E : En} {d : Nat} {κ : Kp} {I L : MI} {Z : Zt} {a0 : Nat} {a1 a2 : Int}  (k : Ev E d M_X10_takeApart 10 [vr a0, vi a1, vl a2, vu] [vl a2] κ I L Z) : Ev E d M_X10_takeApart 9 [vr a0, vi a1, vl a2, vu] [] κ I L Z := E_lload_n dX10_takeApart_9 rfl k
theorem t31_X10_takeApart_10 {E : En} {d : Nat} {κ : Kp} {I L : MI} {Z : Zt} {a0 : Nat} {a1 a2 b0 : Int}  (k : Ev E d M_X10_takeApart 11 [vr a0, vi a1, vl a2, vu] [vl 0, vl b0] κ I L Z) : Ev E d M_X10_takeApart 10 [vr a0, vi a1, vl a2, vu] [vl b0] κ I L Z := E_lconst (v := 0) dX10_takeApart_10 rfl k
theorem t31_X10_takeApart_11 {E : En} {d : Nat} {κ : Kp} {I L : MI} {Z : Zt} {a0 : Nat} {a1 a2 b0 b1 : Int} (hx : Jr b1) (hy : Jr b0) (kt : ¬ b1 = b0 → Ev E d M_X10_takeApart 17 [vr a0, vi a1, vl a2, vu] [] κ I L Z) (kf : b1 = b0 → Ev E d M_X10_takeApart 15 [vr a0, vi a1, vl a2, vu] [] κ I L Z) : Ev E d M_X10_takeApart 11 [vr a0, vi a1, vl a2, vu] [vl b0, vl b1] κ I L Z := E_lcmp_ne dX10_takeApart_11 dX10_takeApart_12 hx hy kt kf (by decide)
theorem t31_X10_takeApart_17 {E : En} {d : Nat} {κ : Kp} {I L : MI} {Z : Zt} {a0 : Nat} {a1 a2 : Int}  (k : Ev E d M_X10_takeApart 18 [vr a0, vi a1, vl a2, vu] [vr a0] κ I L Z) : Ev E d M_X10_takeApart 17 [vr a0, vi a1, vl a2, vu] [] κ I L Z := E_aload_n dX10_takeApart_17 rfl k
theorem t31_X10_takeApart_18 {E : En} {d : Nat} {κ : Kp} {I L : MI} {Z : Zt} {a0 b0 : Nat} {a1 a2 : Int} {q : Nat} (hs : κ.1.1[b0]? = some (.inl 10)) (hq : κ.1.2 b0 6 = some q) (k : Ev E d M_X10_takeApart 21 [vr a0, vi a1, vl a2, vu] [vr q] κ I L Z) : Ev E d M_X10_takeApart 18 [vr a0, vi a1, vl a2, vu] [vr b0] κ I L Z := E_getR (ci := 10) (n := 6) dX10_takeApart_18 wF_RX10_52 (by decide) hs rfl hq k
theorem t31_X10_takeApart_21 {E : En} {d : Nat} {κ : Kp} {I L : MI} {Z : Zt} {a0 b0 : Nat} {a1 a2 : Int}  (k : Ev E d M_X10_takeApart 22 [vr a0, vi a1, vl a2, vu] [vr a0, vr b0] κ I L Z) : Ev E d M_X10_takeApart 21 [vr a0, vi a1, vl a2, vu] [vr b0] κ I L Z := E_aload_n dX10_takeApart_21 rfl k
theorem t31_X10_takeApart_22 {E : En} {d : Nat} {κ : Kp} {I L : MI} {Z : Zt} {a0 b0 b1 : Nat} {a1 a2 : Int} {q : Nat} (hs : κ.1.1[b0]? = some (.inl 10)) (hq : κ.1.2 b0 4 = some q) (k : Ev E d M_X10_takeApart 25 [vr a0, vi a1, vl a2, vu] [vr q, vr b1] κ I L Z) : Ev E d M_X10_takeApart 22 [vr a0, vi a1, vl a2, vu] [vr b0, vr b1] κ I L Z := E_getR (ci := 10) (n := 4) dX10_takeApart_22 wF_RX10_41 (by decide) hs rfl hq k
theorem t31_X10_takeApart_25 {E : En} {d : Nat} {κ : Kp} {I L : MI} {Z : Zt} {a0 b0 b1 : Nat} {a1 a2 : Int} {q : Nat} (hs : κ.1.1[b0]? = some (.inl 7)) (hq : κ.1.2 b0 0 = some q) (k : Ev E d M_X10_takeApart 28 [vr a0, vi a1, vl a2, vu] [vr q, vr b1] κ I L Z) : Ev E d M_X10_takeApart 25 [vr a0, vi a1, vl a2, vu] [vr b0, vr b1] κ I L Z := E_getR (ci := 7) (n := 0) dX10_takeApart_25 wF_RX10_190 (by decide) hs rfl hq k
theorem t31_X10_takeApart_28 {E : En} {d : Nat} {κ : Kp} {I L : MI} {Z : Zt} {a0 b0 b1 : Nat} {a1 a2 : Int}  (k : Ev E d M_X10_takeApart 29 [vr a0, vi a1, vl a2, vu] [vl a2, vr b0, vr b1] κ I L Z) : Ev E d M_X10_takeApart 28 [vr a0, vi a1, vl a2, vu] [vr b0, vr b1] κ I L Z := E_lload_n dX10_takeApart_28 rfl k
theorem t31_X10_takeApart_29 {E : En} {d d' : Nat} {cs : Nat × Nat} {I L : MI} {Z : Zt} {a0 b1 b2 : Nat} {a1 a2 b0 : Int} {Q : MI → MI → Prop} (hs : G0.1[b2]? = some (.inl 3)) (hM : CQv E d' M_X3_take [vr b2, vr b1, vl b0] I L Q) (hlt : d' + 1 ≤ d) (kk : ∀ (I' L' : MI), Q I' L' → Ev E d M_X10_takeApart 32 [vr a0, vi a1, vl a2, vu] [] (G0, cs) I' L' Z) (hc1 : cs.1 ≤ M_X10_takeApart.2.2.2.2.1 := by decide) (hc2 : cs.2 ≤ M_X10_takeApart.2.2.2.2.2 := by decide) : Ev E d M_X10_takeApart 29 [vr a0, vi a1, vl a2, vu] [vl b0, vr b1, vr b2] (G0, cs) I L Z := E_callV (as := [vr b1, vl b0]) (rest := []) (n := 2) hM dX10_takeApart_29 wM_RX10_324 wS_X3_take wV_X3_take hs (by decide) rfl hlt wC_X3_take wI_X3 (by decide +kernel) rfl (by decide) (Nat.le_of_ble_eq_true rfl) hc1 hc2 rfl (fun r g' I' L' h => by obtain ⟨rfl, rfl, h⟩ := h; exact kk I' L' h)
theorem t31_X10_takeApart_15 {E : En} {d : Nat} {κ : Kp} {I L : MI} {Z : Zt} {a0 : Nat} {a1 a2 : Int}  (k : Ev E d M_X10_takeApart 16 [vr a0, vi a1, vl a2, vu] [vi 0] κ I L Z) : Ev E d M_X10_takeApart 15 [vr a0, vi a1, vl a2, vu] [] κ I L Z := E_iconst (v := 0) dX10_takeApart_15 rfl k
theorem t31_X10_takeApart_16 {E : En} {d : Nat} {g : Geo} {I L : MI} {Q : Option AV → Geo → MI → MI → Prop} {cs : Nat × Nat} {a0 : Nat} {a1 a2 b0 : Int} (hz : b0 = 0 ∨ b0 = 1) (hq : Q (some (vi b0)) g I L) (h1 : cs.1 ≤ M_X10_takeApart.2.2.2.2.1 := by decide) (h2 : cs.2 ≤ M_X10_takeApart.2.2.2.2.2 := by decide) : Ev E d M_X10_takeApart 16 [vr a0, vi a1, vl a2, vu] [vi b0] (g, cs) I L (ZQ E M_X10_takeApart Q) := E_zreturn rfl hz dX10_takeApart_16 hq h1 h2
theorem t31_X10_takeApart_32 {E : En} {d : Nat} {κ : Kp} {I L : MI} {Z : Zt} {a0 : Nat} {a1 a2 : Int}  (k : Ev E d M_X10_takeApart 33 [vr a0, vi a1, vl a2, vu] [vi 1] κ I L Z) : Ev E d M_X10_takeApart 32 [vr a0, vi a1, vl a2, vu] [] κ I L Z := E_iconst (v := 1) dX10_takeApart_32 rfl k
theorem t31_X10_takeApart_33 {E : En} {d : Nat} {g : Geo} {I L : MI} {Q : Option AV → Geo → MI → MI → Prop} {cs : Nat × Nat} {a0 : Nat} {a1 a2 b0 : Int} (hz : b0 = 0 ∨ b0 = 1) (hq : Q (some (vi b0)) g I L) (h1 : cs.1 ≤ M_X10_takeApart.2.2.2.2.1 := by decide) (h2 : cs.2 ≤ M_X10_takeApart.2.2.2.2.2 := by decide) : Ev E d M_X10_takeApart 33 [vr a0, vi a1, vl a2, vu] [vi b0] (g, cs) I L (ZQ E M_X10_takeApart Q) := E_zreturn rfl hz dX10_takeApart_33 hq h1 h2
theorem t31_X10_madeOf_46 {E : En} {d : Nat} {κ : Kp} {I L : MI} {Z : Zt} {a0 a1 : Nat} {a2 a3 a4 a6 : Int}  (k : Ev E d M_X10_madeOf 48 [vr a0, vr a1, vi a2, vi a3, vl a4, vu, vi a6] [vi a6] κ I L Z) : Ev E d M_X10_madeOf 46 [vr a0, vr a1, vi a2, vi a3, vl a4, vu, vi a6] [] κ I L Z := E_iload dX10_madeOf_46 rfl k
theorem t31_X10_madeOf_48 {E : En} {d : Nat} {κ : Kp} {I L : MI} {Z : Zt} {a0 a1 : Nat} {a2 a3 a4 a6 b0 : Int}  (k : Ev E d M_X10_madeOf 49 [vr a0, vr a1, vi a2, vi a3, vl a4, vu, vi a6] [vi a3, vi b0] κ I L Z) : Ev E d M_X10_madeOf 48 [vr a0, vr a1, vi a2, vi a3, vl a4, vu, vi a6] [vi b0] κ I L Z := E_iload_n dX10_madeOf_48 rfl k
theorem t31_X10_madeOf_49 {E : En} {d : Nat} {κ : Kp} {I L : MI} {Z : Zt} {a0 a1 : Nat} {a2 a3 a4 a6 b0 b1 : Int} (hx : Ir b1) (hy : Ir b0) (kt : b0 ≤ b1 → Ev E d M_X10_madeOf 95 [vr a0, vr a1, vi a2, vi a3, vl a4, vu, vi a6] [] κ I L Z) (kf : b1 < b0 → Ev E d M_X10_madeOf 52 [vr a0, vr a1, vi a2, vi a3, vl a4, vu, vi a6] [] κ I L Z) : Ev E d M_X10_madeOf 49 [vr a0, vr a1, vi a2, vi a3, vl a4, vu, vi a6] [vi b0, vi b1] κ I L Z := E_icmp_ge dX10_madeOf_49 hx hy kt kf (by decide)
theorem t31_X10_madeOf_95 {E : En} {d : Nat} {κ : Kp} {I L : MI} {Z : Zt} {a0 a1 : Nat} {a2 a3 a4 a6 : Int}  (k : Ev E d M_X10_madeOf 97 [vr a0, vr a1, vi a2, vi a3, vl a4, vu, vi a6] [vl a4] κ I L Z) : Ev E d M_X10_madeOf 95 [vr a0, vr a1, vi a2, vi a3, vl a4, vu, vi a6] [] κ I L Z := E_lload dX10_madeOf_95 rfl k
theorem t31_X10_madeOf_97 {E : En} {d : Nat} {g : Geo} {I L : MI} {Q : Option AV → Geo → MI → MI → Prop} {cs : Nat × Nat} {a0 a1 : Nat} {a2 a3 a4 a6 b0 : Int} (hq : Q (some (vl b0)) g I L) (h1 : cs.1 ≤ M_X10_madeOf.2.2.2.2.1 := by decide) (h2 : cs.2 ≤ M_X10_madeOf.2.2.2.2.2 := by decide) : Ev E d M_X10_madeOf 97 [vr a0, vr a1, vi a2, vi a3, vl a4, vu, vi a6] [vl b0] (g, cs) I L (ZQ E M_X10_madeOf Q) := E_lreturn rfl dX10_madeOf_97 hq h1 h2
theorem t31_X10_madeOf_52 {E : En} {d : Nat} {κ : Kp} {I L : MI} {Z : Zt} {a0 a1 : Nat} {a2 a3 a4 a6 : Int}  (k : Ev E d M_X10_madeOf 54 [vr a0, vr a1, vi a2, vi a3, vl a4, vu, vi a6] [vl a4] κ I L Z) : Ev E d M_X10_madeOf 52 [vr a0, vr a1, vi a2, vi a3, vl a4, vu, vi a6] [] κ I L Z := E_lload dX10_madeOf_52 rfl k
theorem t31_X10_madeOf_54 {E : En} {d : Nat} {κ : Kp} {I L : MI} {Z : Zt} {a0 a1 : Nat} {a2 a3 a4 a6 b0 : Int}  (k : Ev E d M_X10_madeOf 55 [vr a0, vr a1, vi a2, vi a3, vl a4, vu, vi a6] [vr a0, vl b0] κ I L Z) : Ev E d M_X10_madeOf 54 [vr a0, vr a1, vi a2, vi a3, vl a4, vu, vi a6] [vl b0] κ I L Z := E_aload_n dX10_madeOf_54 rfl k
theorem t31_X10_madeOf_55 {E : En} {d : Nat} {κ : Kp} {I L : MI} {Z : Zt} {a0 a1 b0 : Nat} {a2 a3 a4 a6 b1 : Int} {q : Nat} (hs : κ.1.1[b0]? = some (.inl 10)) (hq : κ.1.2 b0 4 = some q) (k : Ev E d M_X10_madeOf 58 [vr a0, vr a1, vi a2, vi a3, vl a4, vu, vi a6] [vr q, vl b1] κ I L Z) : Ev E d M_X10_madeOf 55 [vr a0, vr a1, vi a2, vi a3, vl a4, vu, vi a6] [vr b0, vl b1] κ I L Z := E_getR (ci := 10) (n := 4) dX10_madeOf_55 wF_RX10_41 (by decide) hs rfl hq k
theorem t31_X10_madeOf_58 {E : En} {d : Nat} {κ : Kp} {I L : MI} {Z : Zt} {a0 a1 b0 : Nat} {a2 a3 a4 a6 b1 : Int} {q : Nat} (hs : κ.1.1[b0]? = some (.inl 7)) (hq : κ.1.2 b0 0 = some q) (k : Ev E d M_X10_madeOf 61 [vr a0, vr a1, vi a2, vi a3, vl a4, vu, vi a6] [vr q, vl b1] κ I L Z) : Ev E d M_X10_madeOf 58 [vr a0, vr a1, vi a2, vi a3, vl a4, vu, vi a6] [vr b0, vl b1] κ I L Z := E_getR (ci := 7) (n := 0) dX10_madeOf_58 wF_RX10_190 (by decide) hs rfl hq k
theorem t31_X10_madeOf_61 {E : En} {d : Nat} {κ : Kp} {I L : MI} {Z : Zt} {a0 a1 b0 : Nat} {a2 a3 a4 a6 b1 : Int}  (k : Ev E d M_X10_madeOf 62 [vr a0, vr a1, vi a2, vi a3, vl a4, vu, vi a6] [vr a1, vr b0, vl b1] κ I L Z) : Ev E d M_X10_madeOf 61 [vr a0, vr a1, vi a2, vi a3, vl a4, vu, vi a6] [vr b0, vl b1] κ I L Z := E_aload_n dX10_madeOf_61 rfl k
theorem t31_X10_madeOf_62 {E : En} {d : Nat} {κ : Kp} {I L : MI} {Z : Zt} {a0 a1 b0 b1 : Nat} {a2 a3 a4 a6 b2 : Int}  (k : Ev E d M_X10_madeOf 63 [vr a0, vr a1, vi a2, vi a3, vl a4, vu, vi a6] [vi a2, vr b0, vr b1, vl b2] κ I L Z) : Ev E d M_X10_madeOf 62 [vr a0, vr a1, vi a2, vi a3, vl a4, vu, vi a6] [vr b0, vr b1, vl b2] κ I L Z := E_iload_n dX10_madeOf_62 rfl k
theorem t31_X10_madeOf_63 {E : En} {d : Nat} {κ : Kp} {I L : MI} {Z : Zt} {a0 a1 b1 b2 : Nat} {a2 a3 a4 a6 b0 b3 : Int}  (k : Ev E d M_X10_madeOf 65 [vr a0, vr a1, vi a2, vi a3, vl a4, vu, vi a6] [vi a6, vi b0, vr b1, vr b2, vl b3] κ I L Z) : Ev E d M_X10_madeOf 63 [vr a0, vr a1, vi a2, vi a3, vl a4, vu, vi a6] [vi b0, vr b1, vr b2, vl b3] κ I L Z := E_iload dX10_madeOf_63 rfl k
theorem t31_X10_madeOf_65 {E : En} {d : Nat} {κ : Kp} {I L : MI} {Z : Zt} {a0 a1 b2 b3 : Nat} {a2 a3 a4 a6 b0 b1 b4 : Int}  (k : Ev E d M_X10_madeOf 66 [vr a0, vr a1, vi a2, vi a3, vl a4, vu, vi a6] [vi (b1 + b0), vr b2, vr b3, vl b4] κ I L Z) : Ev E d M_X10_madeOf 65 [vr a0, vr a1, vi a2, vi a3, vl a4, vu, vi a6] [vi b0, vi b1, vr b2, vr b3, vl b4] κ I L Z := E_iadd dX10_madeOf_65 k
theorem t31_X10_madeOf_66 {E : En} {d d' : Nat} {cs : Nat × Nat} {I L : MI} {Z : Zt} {a0 a1 b1 b2 : Nat} {a2 a3 a4 a6 b0 b3 : Int} {z : Int} {I' L' : MI} (hs : G0.1[b1]? = some (.inl 6)) (hM : CFi E d' M_X6_item [vr b1, vi b0] I L z I' L') (hlt : d' + 1 ≤ d) (k : Ir z → Ev E d M_X10_madeOf 69 [vr a0, vr a1, vi a2, vi a3, vl a4, vu, vi a6] [vi z, vr b2, vl b3] (G0, cs) I' L' Z) (hc1 : cs.1 ≤ M_X10_madeOf.2.2.2.2.1 := by decide) (hc2 : cs.2 ≤ M_X10_madeOf.2.2.2.2.2 := by decide) : Ev E d M_X10_madeOf 66 [vr a0, vr a1, vi a2, vi a3, vl a4, vu, vi a6] [vi b0, vr b1, vr b2, vl b3] (G0, cs) I L Z := E_callV (as := [vi b0]) (rest := [vr b2, vl b3]) (n := 1) hM dX10_madeOf_66 wM_RX10_114 wS_X6_item wV_X6_item hs (by decide) rfl hlt wC_X6_item wI_X6 (by decide +kernel) rfl (by decide) (Nat.le_of_ble_eq_true rfl) hc1 hc2 rfl (fun r g' I2 L2 h => by obtain ⟨rfl, z, rfl, hr, rfl, rfl, rfl⟩ := h; exact k hr)
theorem t31_X10_madeOf_69 {E : En} {d d' : Nat} {cs : Nat × Nat} {I L : MI} {Z : Zt} {a0 a1 b1 : Nat} {a2 a3 a4 a6 b0 b2 : Int} {z : Int} {I' L' : MI} (hs : G0.1[b1]? = some (.inl 9)) (hM : CFi E d' M_X9_numberOf [vr b1, vi b0] I L z I' L') (hlt : d' + 1 ≤ d) (k : Ir z → Ev E d M_X10_madeOf 72 [vr a0, vr a1, vi a2, vi a3, vl a4, vu, vi a6] [vi z, vl b2] (G0, cs) I' L' Z) (hc1 : cs.1 ≤ M_X10_madeOf.2.2.2.2.1 := by decide) (hc2 : cs.2 ≤ M_X10_madeOf.2.2.2.2.2 := by decide) : Ev E d M_X10_madeOf 69 [vr a0, vr a1, vi a2, vi a3, vl a4, vu, vi a6] [vi b0, vr b1, vl b2] (G0, cs) I L Z := E_callV (as := [vi b0]) (rest := [vl b2]) (n := 1) hM dX10_madeOf_69 wM_RX10_328 wS_X9_numberOf wV_X9_numberOf hs (by decide) rfl hlt wC_X9_numberOf wI_X9 (by decide +kernel) rfl (by decide) (Nat.le_of_ble_eq_true rfl) hc1 hc2 rfl (fun r g' I2 L2 h => by obtain ⟨rfl, z, rfl, hr, rfl, rfl, rfl⟩ := h; exact k hr)
theorem t31_X10_madeOf_72 {E : En} {d : Nat} {κ : Kp} {I L : MI} {Z : Zt} {a0 a1 : Nat} {a2 a3 a4 a6 b0 b1 : Int} (hx : Ir b0) (k : Ev E d M_X10_madeOf 73 [vr a0, vr a1, vi a2, vi a3, vl a4, vu, vi a6] [vl b0, vl b1] κ I L Z) : Ev E d M_X10_madeOf 72 [vr a0, vr a1, vi a2, vi a3, vl a4, vu, vi a6] [vi b0, vl b1] κ I L Z := E_i2l dX10_madeOf_72 hx k
theorem t31_X10_madeOf_73 {E : En} {d : Nat} {κ : Kp} {I L : MI} {Z : Zt} {a0 a1 : Nat} {a2 a3 a4 a6 b0 b1 : Int}  (k : Ev E d M_X10_madeOf 74 [vr a0, vr a1, vi a2, vi a3, vl a4, vu, vi a6] [vl (b1 * b0)] κ I L Z) : Ev E d M_X10_madeOf 73 [vr a0, vr a1, vi a2, vi a3, vl a4, vu, vi a6] [vl b0, vl b1] κ I L Z := E_lmul dX10_madeOf_73 k
theorem t31_X10_madeOf_74 {E : En} {d : Nat} {κ : Kp} {I L : MI} {Z : Zt} {a0 a1 : Nat} {a2 a3 a4 a6 b0 : Int}  (k : Ev E d M_X10_madeOf 76 [vr a0, vr a1, vi a2, vi a3, vl b0, vu, vi a6] [] κ I L Z) : Ev E d M_X10_madeOf 74 [vr a0, vr a1, vi a2, vi a3, vl a4, vu, vi a6] [vl b0] κ I L Z := E_lstore dX10_madeOf_74 rfl (Nat.le_of_ble_eq_true rfl) k
theorem t31_X10_madeOf_76 {E : En} {d : Nat} {κ : Kp} {I L : MI} {Z : Zt} {a0 a1 : Nat} {a2 a3 a4 a6 : Int}  (k : Ev E d M_X10_madeOf 78 [vr a0, vr a1, vi a2, vi a3, vl a4, vu, vi a6] [vl a4] κ I L Z) : Ev E d M_X10_madeOf 76 [vr a0, vr a1, vi a2, vi a3, vl a4, vu, vi a6] [] κ I L Z := E_lload dX10_madeOf_76 rfl k
theorem t31_X10_madeOf_78 {E : En} {d : Nat} {κ : Kp} {I L : MI} {Z : Zt} {a0 a1 : Nat} {a2 a3 a4 a6 b0 : Int}  (k : Ev E d M_X10_madeOf 81 [vr a0, vr a1, vi a2, vi a3, vl a4, vu, vi a6] [vl 1000000000000000, vl b0] κ I L Z) : Ev E d M_X10_madeOf 78 [vr a0, vr a1, vi a2, vi a3, vl a4, vu, vi a6] [vl b0] κ I L Z := E_ldc2 (v := 1000000000000000) dX10_madeOf_78 wK_RX10_175 k
theorem t31_X10_madeOf_81 {E : En} {d : Nat} {κ : Kp} {I L : MI} {Z : Zt} {a0 a1 : Nat} {a2 a3 a4 a6 b0 b1 : Int} (hx : Jr b1) (hy : Jr b0) (kt : b1 ≤ b0 → Ev E d M_X10_madeOf 89 [vr a0, vr a1, vi a2, vi a3, vl a4, vu, vi a6] [] κ I L Z) (kf : b0 < b1 → Ev E d M_X10_madeOf 85 [vr a0, vr a1, vi a2, vi a3, vl a4, vu, vi a6] [] κ I L Z) : Ev E d M_X10_madeOf 81 [vr a0, vr a1, vi a2, vi a3, vl a4, vu, vi a6] [vl b0, vl b1] κ I L Z := E_lcmp_le dX10_madeOf_81 dX10_madeOf_82 hx hy kt kf (by decide)
theorem t31_X10_madeOf_89 {E : En} {d : Nat} {κ : Kp} {I L : MI} {Z : Zt} {a0 a1 : Nat} {a2 a3 a4 a6 : Int}  (k : Ev E d M_X10_madeOf 92 [vr a0, vr a1, vi a2, vi a3, vl a4, vu, vi (a6 + 1)] [] κ I L Z) : Ev E d M_X10_madeOf 89 [vr a0, vr a1, vi a2, vi a3, vl a4, vu, vi a6] [] κ I L Z := E_iinc dX10_madeOf_89 rfl rfl (Nat.le_of_ble_eq_true rfl) k
theorem t31_X10_madeOf_92 {E : En} {d : Nat} {κ : Kp} {I L : MI} {Z : Zt} {a0 a1 : Nat} {a2 a3 a4 a6 : Int}  (k : Ev E d M_X10_madeOf 46 [vr a0, vr a1, vi a2, vi a3, vl a4, vu, vi a6] [] κ I L Z) : Ev E d M_X10_madeOf 92 [vr a0, vr a1, vi a2, vi a3, vl a4, vu, vi a6] [] κ I L Z := E_goto dX10_madeOf_92 (by decide) k
theorem t31_X10_madeOf_85 {E : En} {d : Nat} {κ : Kp} {I L : MI} {Z : Zt} {a0 a1 : Nat} {a2 a3 a4 a6 : Int}  (k : Ev E d M_X10_madeOf 88 [vr a0, vr a1, vi a2, vi a3, vl a4, vu, vi a6] [vl (-9000000000000000003)] κ I L Z) : Ev E d M_X10_madeOf 85 [vr a0, vr a1, vi a2, vi a3, vl a4, vu, vi a6] [] κ I L Z := E_ldc2 (v := (-9000000000000000003)) dX10_madeOf_85 wK_RX10_139 k
theorem t31_X10_madeOf_88 {E : En} {d : Nat} {g : Geo} {I L : MI} {Q : Option AV → Geo → MI → MI → Prop} {cs : Nat × Nat} {a0 a1 : Nat} {a2 a3 a4 a6 b0 : Int} (hq : Q (some (vl b0)) g I L) (h1 : cs.1 ≤ M_X10_madeOf.2.2.2.2.1 := by decide) (h2 : cs.2 ≤ M_X10_madeOf.2.2.2.2.2 := by decide) : Ev E d M_X10_madeOf 88 [vr a0, vr a1, vi a2, vi a3, vl a4, vu, vi a6] [vl b0] (g, cs) I L (ZQ E M_X10_madeOf Q) := E_lreturn rfl dX10_madeOf_88 hq h1 h2
theorem t31_X10_madeOf_3 {E : En} {d : Nat} {κ : Kp} {I L : MI} {Z : Zt} {a0 a1 : Nat} {a2 a3 a4 : Int}  (k : Ev E d M_X10_madeOf 5 [vr a0, vr a1, vi a2, vi a3, vi a4, vu, vu] [vi a4] κ I L Z) : Ev E d M_X10_madeOf 3 [vr a0, vr a1, vi a2, vi a3, vi a4, vu, vu] [] κ I L Z := E_iload dX10_madeOf_3 rfl k
theorem t31_X10_madeOf_5 {E : En} {d : Nat} {κ : Kp} {I L : MI} {Z : Zt} {a0 a1 : Nat} {a2 a3 a4 b0 : Int}  (k : Ev E d M_X10_madeOf 6 [vr a0, vr a1, vi a2, vi a3, vi a4, vu, vu] [vi a3, vi b0] κ I L Z) : Ev E d M_X10_madeOf 5 [vr a0, vr a1, vi a2, vi a3, vi a4, vu, vu] [vi b0] κ I L Z := E_iload_n dX10_madeOf_5 rfl k
theorem t31_X10_madeOf_6 {E : En} {d : Nat} {κ : Kp} {I L : MI} {Z : Zt} {a0 a1 : Nat} {a2 a3 a4 b0 b1 : Int} (hx : Ir b1) (hy : Ir b0) (kt : b0 ≤ b1 → Ev E d M_X10_madeOf 40 [vr a0, vr a1, vi a2, vi a3, vi a4, vu, vu] [] κ I L Z) (kf : b1 < b0 → Ev E d M_X10_madeOf 9 [vr a0, vr a1, vi a2, vi a3, vi a4, vu, vu] [] κ I L Z) : Ev E d M_X10_madeOf 6 [vr a0, vr a1, vi a2, vi a3, vi a4, vu, vu] [vi b0, vi b1] κ I L Z := E_icmp_ge dX10_madeOf_6 hx hy kt kf (by decide)
theorem t31_X10_madeOf_40 {E : En} {d : Nat} {κ : Kp} {I L : MI} {Z : Zt} {a0 a1 : Nat} {a2 a3 a4 : Int}  (k : Ev E d M_X10_madeOf 41 [vr a0, vr a1, vi a2, vi a3, vi a4, vu, vu] [vl 1] κ I L Z) : Ev E d M_X10_madeOf 40 [vr a0, vr a1, vi a2, vi a3, vi a4, vu, vu] [] κ I L Z := E_lconst (v := 1) dX10_madeOf_40 rfl k
theorem t31_X10_madeOf_41 {E : En} {d : Nat} {κ : Kp} {I L : MI} {Z : Zt} {a0 a1 : Nat} {a2 a3 a4 b0 : Int}  (k : Ev E d M_X10_madeOf 43 [vr a0, vr a1, vi a2, vi a3, vl b0, vu, vu] [] κ I L Z) : Ev E d M_X10_madeOf 41 [vr a0, vr a1, vi a2, vi a3, vi a4, vu, vu] [vl b0] κ I L Z := E_lstore dX10_madeOf_41 rfl (Nat.le_of_ble_eq_true rfl) k
theorem t31_X10_madeOf_43 {E : En} {d : Nat} {κ : Kp} {I L : MI} {Z : Zt} {a0 a1 : Nat} {a2 a3 a4 : Int}  (k : Ev E d M_X10_madeOf 44 [vr a0, vr a1, vi a2, vi a3, vl a4, vu, vu] [vi 0] κ I L Z) : Ev E d M_X10_madeOf 43 [vr a0, vr a1, vi a2, vi a3, vl a4, vu, vu] [] κ I L Z := E_iconst (v := 0) dX10_madeOf_43 rfl k
theorem t31_X10_madeOf_44 {E : En} {d : Nat} {κ : Kp} {I L : MI} {Z : Zt} {a0 a1 : Nat} {a2 a3 a4 b0 : Int}  (k : Ev E d M_X10_madeOf 46 [vr a0, vr a1, vi a2, vi a3, vl a4, vu, vi b0] [] κ I L Z) : Ev E d M_X10_madeOf 44 [vr a0, vr a1, vi a2, vi a3, vl a4, vu, vu] [vi b0] κ I L Z := E_istore dX10_madeOf_44 rfl (Nat.le_of_ble_eq_true rfl) k
theorem t31_X10_madeOf_9 {E : En} {d : Nat} {κ : Kp} {I L : MI} {Z : Zt} {a0 a1 : Nat} {a2 a3 a4 : Int}  (k : Ev E d M_X10_madeOf 10 [vr a0, vr a1, vi a2, vi a3, vi a4, vu, vu] [vr a0] κ I L Z) : Ev E d M_X10_madeOf 9 [vr a0, vr a1, vi a2, vi a3, vi a4, vu, vu] [] κ I L Z := E_aload_n dX10_madeOf_9 rfl k
theorem t31_X10_madeOf_10 {E : En} {d : Nat} {κ : Kp} {I L : MI} {Z : Zt} {a0 a1 b0 : Nat} {a2 a3 a4 : Int} {q : Nat} (hs : κ.1.1[b0]? = some (.inl 10)) (hq : κ.1.2 b0 4 = some q) (k : Ev E d M_X10_madeOf 13 [vr a0, vr a1, vi a2, vi a3, vi a4, vu, vu] [vr q] κ I L Z) : Ev E d M_X10_madeOf 10 [vr a0, vr a1, vi a2, vi a3, vi a4, vu, vu] [vr b0] κ I L Z := E_getR (ci := 10) (n := 4) dX10_madeOf_10 wF_RX10_41 (by decide) hs rfl hq k
theorem t31_X10_madeOf_13 {E : En} {d : Nat} {κ : Kp} {I L : MI} {Z : Zt} {a0 a1 b0 : Nat} {a2 a3 a4 : Int} {q : Nat} (hs : κ.1.1[b0]? = some (.inl 7)) (hq : κ.1.2 b0 0 = some q) (k : Ev E d M_X10_madeOf 16 [vr a0, vr a1, vi a2, vi a3, vi a4, vu, vu] [vr q] κ I L Z) : Ev E d M_X10_madeOf 13 [vr a0, vr a1, vi a2, vi a3, vi a4, vu, vu] [vr b0] κ I L Z := E_getR (ci := 7) (n := 0) dX10_madeOf_13 wF_RX10_190 (by decide) hs rfl hq k
theorem t31_X10_madeOf_16 {E : En} {d : Nat} {κ : Kp} {I L : MI} {Z : Zt} {a0 a1 b0 : Nat} {a2 a3 a4 : Int}  (k : Ev E d M_X10_madeOf 17 [vr a0, vr a1, vi a2, vi a3, vi a4, vu, vu] [vr a1, vr b0] κ I L Z) : Ev E d M_X10_madeOf 16 [vr a0, vr a1, vi a2, vi a3, vi a4, vu, vu] [vr b0] κ I L Z := E_aload_n dX10_madeOf_16 rfl k
theorem t31_X10_madeOf_17 {E : En} {d : Nat} {κ : Kp} {I L : MI} {Z : Zt} {a0 a1 b0 b1 : Nat} {a2 a3 a4 : Int}  (k : Ev E d M_X10_madeOf 18 [vr a0, vr a1, vi a2, vi a3, vi a4, vu, vu] [vi a2, vr b0, vr b1] κ I L Z) : Ev E d M_X10_madeOf 17 [vr a0, vr a1, vi a2, vi a3, vi a4, vu, vu] [vr b0, vr b1] κ I L Z := E_iload_n dX10_madeOf_17 rfl k
theorem t31_X10_madeOf_18 {E : En} {d : Nat} {κ : Kp} {I L : MI} {Z : Zt} {a0 a1 b1 b2 : Nat} {a2 a3 a4 b0 : Int}  (k : Ev E d M_X10_madeOf 20 [vr a0, vr a1, vi a2, vi a3, vi a4, vu, vu] [vi a4, vi b0, vr b1, vr b2] κ I L Z) : Ev E d M_X10_madeOf 18 [vr a0, vr a1, vi a2, vi a3, vi a4, vu, vu] [vi b0, vr b1, vr b2] κ I L Z := E_iload dX10_madeOf_18 rfl k
theorem t31_X10_madeOf_20 {E : En} {d : Nat} {κ : Kp} {I L : MI} {Z : Zt} {a0 a1 b2 b3 : Nat} {a2 a3 a4 b0 b1 : Int}  (k : Ev E d M_X10_madeOf 21 [vr a0, vr a1, vi a2, vi a3, vi a4, vu, vu] [vi (b1 + b0), vr b2, vr b3] κ I L Z) : Ev E d M_X10_madeOf 20 [vr a0, vr a1, vi a2, vi a3, vi a4, vu, vu] [vi b0, vi b1, vr b2, vr b3] κ I L Z := E_iadd dX10_madeOf_20 k
theorem t31_X10_madeOf_21 {E : En} {d d' : Nat} {cs : Nat × Nat} {I L : MI} {Z : Zt} {a0 a1 b1 b2 : Nat} {a2 a3 a4 b0 : Int} {z : Int} {I' L' : MI} (hs : G0.1[b1]? = some (.inl 6)) (hM : CFi E d' M_X6_item [vr b1, vi b0] I L z I' L') (hlt : d' + 1 ≤ d) (k : Ir z → Ev E d M_X10_madeOf 24 [vr a0, vr a1, vi a2, vi a3, vi a4, vu, vu] [vi z, vr b2] (G0, cs) I' L' Z) (hc1 : cs.1 ≤ M_X10_madeOf.2.2.2.2.1 := by decide) (hc2 : cs.2 ≤ M_X10_madeOf.2.2.2.2.2 := by decide) : Ev E d M_X10_madeOf 21 [vr a0, vr a1, vi a2, vi a3, vi a4, vu, vu] [vi b0, vr b1, vr b2] (G0, cs) I L Z := E_callV (as := [vi b0]) (rest := [vr b2]) (n := 1) hM dX10_madeOf_21 wM_RX10_114 wS_X6_item wV_X6_item hs (by decide) rfl hlt wC_X6_item wI_X6 (by decide +kernel) rfl (by decide) (Nat.le_of_ble_eq_true rfl) hc1 hc2 rfl (fun r g' I2 L2 h => by obtain ⟨rfl, z, rfl, hr, rfl, rfl, rfl⟩ := h; exact k hr)
theorem t31_X10_madeOf_24 {E : En} {d d' : Nat} {cs : Nat × Nat} {I L : MI} {Z : Zt} {a0 a1 b1 : Nat} {a2 a3 a4 b0 : Int} {z : Int} {I' L' : MI} (hs : G0.1[b1]? = some (.inl 9)) (hM : CFi E d' M_X9_numberOf [vr b1, vi b0] I L z I' L') (hlt : d' + 1 ≤ d) (k : Ir z → Ev E d M_X10_madeOf 27 [vr a0, vr a1, vi a2, vi a3, vi a4, vu, vu] [vi z] (G0, cs) I' L' Z) (hc1 : cs.1 ≤ M_X10_madeOf.2.2.2.2.1 := by decide) (hc2 : cs.2 ≤ M_X10_madeOf.2.2.2.2.2 := by decide) : Ev E d M_X10_madeOf 24 [vr a0, vr a1, vi a2, vi a3, vi a4, vu, vu] [vi b0, vr b1] (G0, cs) I L Z := E_callV (as := [vi b0]) (rest := []) (n := 1) hM dX10_madeOf_24 wM_RX10_328 wS_X9_numberOf wV_X9_numberOf hs (by decide) rfl hlt wC_X9_numberOf wI_X9 (by decide +kernel) rfl (by decide) (Nat.le_of_ble_eq_true rfl) hc1 hc2 rfl (fun r g' I2 L2 h => by obtain ⟨rfl, z, rfl, hr, rfl, rfl, rfl⟩ := h; exact k hr)
theorem t31_X10_madeOf_27 {E : En} {d : Nat} {κ : Kp} {I L : MI} {Z : Zt} {a0 a1 : Nat} {a2 a3 a4 b0 : Int} (hx : Ir b0) (kt : ¬ b0 = 0 → Ev E d M_X10_madeOf 34 [vr a0, vr a1, vi a2, vi a3, vi a4, vu, vu] [] κ I L Z) (kf : b0 = 0 → Ev E d M_X10_madeOf 30 [vr a0, vr a1, vi a2, vi a3, vi a4, vu, vu] [] κ I L Z) : Ev E d M_X10_madeOf 27 [vr a0, vr a1, vi a2, vi a3, vi a4, vu, vu] [vi b0] κ I L Z := E_if_ne dX10_madeOf_27 hx kt kf (by decide)
theorem t31_X10_madeOf_34 {E : En} {d : Nat} {κ : Kp} {I L : MI} {Z : Zt} {a0 a1 : Nat} {a2 a3 a4 : Int}  (k : Ev E d M_X10_madeOf 37 [vr a0, vr a1, vi a2, vi a3, vi (a4 + 1), vu, vu] [] κ I L Z) : Ev E d M_X10_madeOf 34 [vr a0, vr a1, vi a2, vi a3, vi a4, vu, vu] [] κ I L Z := E_iinc dX10_madeOf_34 rfl rfl (Nat.le_of_ble_eq_true rfl) k
theorem t31_X10_madeOf_37 {E : En} {d : Nat} {κ : Kp} {I L : MI} {Z : Zt} {a0 a1 : Nat} {a2 a3 a4 : Int}  (k : Ev E d M_X10_madeOf 3 [vr a0, vr a1, vi a2, vi a3, vi a4, vu, vu] [] κ I L Z) : Ev E d M_X10_madeOf 37 [vr a0, vr a1, vi a2, vi a3, vi a4, vu, vu] [] κ I L Z := E_goto dX10_madeOf_37 (by decide) k
theorem t31_X10_madeOf_30 {E : En} {d : Nat} {κ : Kp} {I L : MI} {Z : Zt} {a0 a1 : Nat} {a2 a3 a4 : Int}  (k : Ev E d M_X10_madeOf 33 [vr a0, vr a1, vi a2, vi a3, vi a4, vu, vu] [vl (-9000000000000000001)] κ I L Z) : Ev E d M_X10_madeOf 30 [vr a0, vr a1, vi a2, vi a3, vi a4, vu, vu] [] κ I L Z := E_ldc2 (v := (-9000000000000000001)) dX10_madeOf_30 wK_RX10_89 k
theorem t31_X10_madeOf_33 {E : En} {d : Nat} {g : Geo} {I L : MI} {Q : Option AV → Geo → MI → MI → Prop} {cs : Nat × Nat} {a0 a1 : Nat} {a2 a3 a4 b0 : Int} (hq : Q (some (vl b0)) g I L) (h1 : cs.1 ≤ M_X10_madeOf.2.2.2.2.1 := by decide) (h2 : cs.2 ≤ M_X10_madeOf.2.2.2.2.2 := by decide) : Ev E d M_X10_madeOf 33 [vr a0, vr a1, vi a2, vi a3, vi a4, vu, vu] [vl b0] (g, cs) I L (ZQ E M_X10_madeOf Q) := E_lreturn rfl dX10_madeOf_33 hq h1 h2
theorem t31_X10_madeOf_0 {E : En} {d : Nat} {κ : Kp} {I L : MI} {Z : Zt} {a0 a1 : Nat} {a2 a3 : Int}  (k : Ev E d M_X10_madeOf 1 [vr a0, vr a1, vi a2, vi a3, vu, vu, vu] [vi 0] κ I L Z) : Ev E d M_X10_madeOf 0 [vr a0, vr a1, vi a2, vi a3, vu, vu, vu] [] κ I L Z := E_iconst (v := 0) dX10_madeOf_0 rfl k
theorem t31_X10_madeOf_1 {E : En} {d : Nat} {κ : Kp} {I L : MI} {Z : Zt} {a0 a1 : Nat} {a2 a3 b0 : Int}  (k : Ev E d M_X10_madeOf 3 [vr a0, vr a1, vi a2, vi a3, vi b0, vu, vu] [] κ I L Z) : Ev E d M_X10_madeOf 1 [vr a0, vr a1, vi a2, vi a3, vu, vu, vu] [vi b0] κ I L Z := E_istore dX10_madeOf_1 rfl (Nat.le_of_ble_eq_true rfl) k
/-! CONTRACTS: slots known together; a saying taken apart; a saying made -/
def SlB (L : MI) : Prop := ∀ k, 0 ≤ k → k < 8 → 0 ≤ L 24 k ∧ L 24 k ≤ 1000000000000000
theorem eit_lcm {a b v : Int} (ha : 0 < a) (hb : 0 < b) (hv : 0 < v ∧ v ≤ 1000000000000000) (da : a ∣ v) (db : b ∣ v) : eitI a b = (Nat.lcm a.natAbs b.natAbs : Int) ∧ eitI a b ∣ v ∧ 0 < eitI a b := by
  obtain ⟨x, rfl⟩ := Int.eq_ofNat_of_zero_le (show 0 ≤ a by omega)
  obtain ⟨y, rfl⟩ := Int.eq_ofNat_of_zero_le (show 0 ≤ b by omega)
  obtain ⟨w, rfl⟩ := Int.eq_ofNat_of_zero_le (show 0 ≤ v by omega)
  have dx : x ∣ w := Int.natCast_dvd_natCast.mp da
  have dy : y ∣ w := Int.natCast_dvd_natCast.mp db
  have dl : Nat.lcm x y ∣ w := Nat.lcm_dvd dx dy
  have le := Nat.le_of_dvd (show 0 < w by omega) dl
  have e : oneI (x : Int) (y : Int) * (y : Int) = (Nat.lcm x y : Int) := by
    unfold oneI
    rw [show Int.gcd (x : Int) (y : Int) = Nat.gcd x y from rfl, ← Int.ofNat_tdiv, ← Int.natCast_mul]
    congr 1
    rw [Nat.div_mul_right_comm (Nat.gcd_dvd_left x y)]
    rfl
  have e2 : eitI (x : Int) (y : Int) = (Nat.lcm x y : Int) := by
    unfold eitI
    rw [e, if_pos (by omega)]
  rw [e2]
  exact ⟨rfl, Int.natCast_dvd_natCast.mpr dl, by have := Nat.lcm_pos (show 0 < x by omega) (show 0 < y by omega); omega⟩
/-- what slots S know of v together (n: which, by bits) -/
def knI (S : Int → Int) (v : Int) (n : Nat) : Nat → Int
  | 0 => 1
  | k + 1 => if n / 2 ^ k % 2 = 1 then eitI (knI S v n k) (Int.gcd v (S k) : Int) else knI S v n k
theorem knI_d {S : Int → Int} {v : Int} {n : Nat} (hv : 0 < v ∧ v ≤ 1000000000000000) : ∀ k : Nat, knI S v n k ∣ v ∧ 0 < knI S v n k := by
  intro k
  induction k with
  | zero => exact ⟨Int.one_dvd v, by show (0 : Int) < 1; decide⟩
  | succ k ih =>
    unfold knI
    split
    · have h := gcdI_b (b := S k) hv
      have := eit_lcm ih.2 h.1 hv ih.1 (Int.gcd_dvd_left v (S k))
      exact ⟨this.2.1, this.2.2⟩
    · exact ih
theorem sh_and8 {a s : Nat} (ha : a < 256) (hs : s < 8) : Int32.ofInt (((Int32.ofInt (a : Int) >>> (Int32.ofInt (s : Int) &&& 31)).toInt)) &&& Int32.ofInt 1 = Int32.ofInt ((a / 2 ^ s % 2 : Nat) : Int) := by
  rw [Int32.ofInt_toInt]
  exact b_bit a s (by omega) (by omega)
theorem c_X10_knownBy {E : En} {I L : MI} {n : Nat} {v : Int} (hn : n < 256 := by omega) (hv : 0 < v ∧ v ≤ 1000000000000000 := by omega) (hs : SlB L := by assumption) : CFl E 4 M_X10_knownBy [vr 0, vi (n : Int), vl v] I L (knI (L 24) v n 8) I L := by
  have s14 := SpS14
  have kb : ∀ k : Nat, 0 < knI (L 24) v n k ∧ knI (L 24) v n k ≤ 1000000000000000 := fun k => by
    have := knI_d (S := L 24) (n := n) hv k
    have h2 := Int.le_of_dvd hv.1 this.1
    omega
  refine CM_of' (al := [vr _, vi _, vl _, vu, vu, vu, vu]) rfl (Nat.le_of_ble_eq_true rfl) rfl (fun hM => ?_)
  have key : ∀ (f : Nat) (k : Nat), 8 - k < f → k ≤ 8 → Ev E 4 M_X10_knownBy 6 [vr 0, vi (n : Int), vl v, vu, vl (knI (L 24) v n k), vu, vi (k : Int)] [] (G0, 0, 0) I L (ZQ E M_X10_knownBy (QFl (knI (L 24) v n 8) I L)) := by
    intro f
    induction f with
    | zero => intro k h1 h2; omega
    | succ f ih =>
      intro k k1 k2
      have b0 := kb k
      have hat : 0 ≤ atL L (14 + 10) 8 k ∧ atL L (14 + 10) 8 k ≤ 1000000000000000 := by
        unfold atL
        split
        · exact hs k (by omega) (by omega)
        · decide
      have hg := gcdI_b (b := atL L (14 + 10) 8 k) hv
      refine (t31_X10_knownBy_6 (t31_X10_knownBy_8 (t31_X10_knownBy_10 (by omega) (by omega) (fun c10 => (t31_X10_knownBy_49 (t31_X10_knownBy_51 ?_))) (fun c10 => (t31_X10_knownBy_13 (t31_X10_knownBy_14 (t31_X10_knownBy_16 (Int32.ofInt_toInt _).symm (t31_X10_knownBy_17 (t31_X10_knownBy_18 (sh_and8 (a := n) (s := k) (by omega) (by omega)) (t31_X10_knownBy_19 (t31_X10_knownBy_20 (by omega) (by omega) (fun c20 => (t31_X10_knownBy_43 (t31_X10_knownBy_46 ?_))) (fun c20 => (t31_X10_knownBy_23 (t31_X10_knownBy_25 (t31_X10_knownBy_26 (t31_X10_knownBy_27 (by first | assumption | rfl) (by first | assumption | rfl) (t31_X10_knownBy_30 (t31_X10_knownBy_32 (by first | assumption | rfl) c_X7_held (by first | decide | omega) (fun r32 => (t31_X10_knownBy_35 c_X10_shared (by first | decide | omega) (fun r35 => (t31_X10_knownBy_38 c_X10_either (by first | decide | omega) (fun r38 => (t31_X10_knownBy_41 (t31_X10_knownBy_43 (t31_X10_knownBy_46 ?_))))))))))))))))))))))))))
      -- 3 leaves: 10t :ret51 | 10f 20t :->6 | 10f 20f :->6
      · have : k = 8 := by omega
        subst this
        exact qfl (by omega) rfl
      · have e : knI (L 24) v n (k + 1) = knI (L 24) v n k := by
          conv => lhs; unfold knI
          rw [if_neg (by omega)]
        have h := ih (k + 1) (by omega) (by omega)
        rw [e] at h
        exact h
      · have e : knI (L 24) v n (k + 1) = eitI (knI (L 24) v n k) (Int.gcd v (atL L (14 + 10) 8 k) : Int) := by
          conv => lhs; unfold knI
          rw [if_pos (by omega)]
          unfold atL
          rw [if_pos (by omega)]
        have h := ih (k + 1) (by omega) (by omega)
        rw [e] at h
        exact h
  refine (t31_X10_knownBy_0 (t31_X10_knownBy_1 (t31_X10_knownBy_3 (t31_X10_knownBy_4 ?_))))
  -- 1 leaves: :->6
  exact key 9 0 (by omega) (by omega)
def TaQ (I L : MI) (k : Int) : Int → MI → MI → Prop := fun z I' L' => (atL L 24 8 k = 0 ∧ z = 0 ∧ I' = I ∧ L' = L) ∨ (atL L 24 8 k ≠ 0 ∧ z = 1 ∧ TkQ I L 26 15 (atL L 24 8 k) I' L')
theorem c_X10_takeApart {E : En} {I L : MI} {k : Int} (hk : Ir k := by omega) (hs : SlB L := by assumption) (hb : TB I 15 := by assumption) : CQi E 4 M_X10_takeApart [vr 0, vi k] I L (TaQ I L k) := by
  have s14 := SpS14
  have t15 := TgS15
  have p26 := PtS26
  have hv : 0 ≤ atL L (14 + 10) 8 k ∧ atL L (14 + 10) 8 k ≤ 1000000000000000 := by
    unfold atL
    split
    · exact hs k (by omega) (by omega)
    · decide
  refine CM_of' (al := [vr _, vi _, vu, vu]) rfl (Nat.le_of_ble_eq_true rfl) rfl (fun hM => ?_)
  refine (t31_X10_takeApart_0 (t31_X10_takeApart_1 (by first | assumption | rfl) (by first | assumption | rfl) (t31_X10_takeApart_4 (t31_X10_takeApart_5 (by first | assumption | rfl) c_X7_held (by first | decide | omega) (fun r5 => (t31_X10_takeApart_8 (t31_X10_takeApart_9 (t31_X10_takeApart_10 (t31_X10_takeApart_11 (by omega) (by omega) (fun c11 => (t31_X10_takeApart_17 (t31_X10_takeApart_18 (by first | assumption | rfl) (by first | assumption | rfl) (t31_X10_takeApart_21 (t31_X10_takeApart_22 (by first | assumption | rfl) (by first | assumption | rfl) (t31_X10_takeApart_25 (by first | assumption | rfl) (by first | assumption | rfl) (t31_X10_takeApart_28 (t31_X10_takeApart_29 (by first | assumption | rfl) c_X3_take (by first | decide | omega) (fun I29 L29 q29 => ?_))))))))) (fun c11 => (t31_X10_takeApart_15 (t31_X10_takeApart_16 (by first | exact Or.inl rfl | exact Or.inr rfl | assumption | omega) ?_))))))))))))
  -- 2 leaves: 11t :call29 | 11f :ret16
  · refine (t31_X10_takeApart_32 (t31_X10_takeApart_33 (by first | exact Or.inl rfl | exact Or.inr rfl | assumption | omega) ?_))
    -- 1 leaves: :ret33
    exact qqi (.inr ⟨c11, rfl, q29⟩)
  · exact qqi (.inl ⟨c11, rfl, rfl, rfl⟩)
/-- the product of numbers; 0: too long -/
def mdP (N : Nat → Int) : Nat → Int
  | 0 => 1
  | k + 1 => tmI (mdP N k) (N k)
theorem mdP_b {N : Nat → Int} {n : Nat} (h : ∀ k, k < n → 0 < N k) : ∀ k, k ≤ n → 0 ≤ mdP N k ∧ mdP N k ≤ 1000000000000000 := by
  intro k
  induction k with
  | zero => intro _; show (0 : Int) ≤ 1 ∧ (1 : Int) ≤ 1000000000000000; decide
  | succ k ih =>
    intro hk
    have h1 := ih (by omega)
    have h2 := h k (by omega)
    unfold mdP
    by_cases q : mdP N k = 0
    · rw [q, tmI_0]; decide
    · rw [tmI_pos (by omega) h2]
      have h3 : 0 ≤ mdP N k * N k := Int.mul_nonneg h1.1 (by omega)
      split <;> omega
theorem mdP_0 {N : Nat → Int} {k : Nat} (h : mdP N k = 0) : ∀ j, k ≤ j → mdP N j = 0 := by
  intro j hj
  induction j with
  | zero => have : k = 0 := by omega
            subst this; exact h
  | succ j ih =>
    by_cases e : k = j + 1
    · subst e; exact h
    · unfold mdP; rw [ih (by omega), tmI_0]
/-- the numbers that ITEMS stand for -/
def itN (I : MI) (r : Nat) (i : Int) (k : Nat) : Int := numI I 15 (atI I (r + 1) 40 (i + k))
theorem numI_b {I : MI} {t : Nat} (hw : WfT I t) (v : Int) : 0 ≤ numI I t v ∧ numI I t v ≤ 199 := by
  obtain ⟨b, h1, -⟩ := hw
  have f : ∀ k, 0 ≤ fstI I t k ∧ fstI I t k ≤ 199 := fun k => by
    unfold fstI atI
    split
    · split
      · have := h1 k (by omega) (by omega); omega
      · decide
    · decide
  have o : ∀ k, 0 ≤ othI I t k ∧ othI I t k ≤ 199 := fun k => by
    unfold othI atI
    split
    · split
      · have := h1 k (by omega) (by omega); omega
      · decide
    · decide
  unfold numI
  split
  · exact f _
  · exact o _
noncomputable def mdF (N : Nat → Int) (n : Nat) : Int := if bP (∃ k, k < n ∧ N k = 0) = true then -9000000000000000001 else if mdP N n = 0 then -9000000000000000003 else mdP N n
theorem c_X10_madeOf {E : En} {I L : MI} {r n : Nat} {i : Int} (hr : RwS r := by assumption) (hw : WfT I 15 := by assumption) (hi : 0 ≤ i ∧ i ≤ 100 := by omega) (hn : n ≤ 100 := by omega) : CFl E 4 M_X10_madeOf [vr 0, vr r, vi i, vi (n : Int)] I L (mdF (itN I r i) n) I L := by
  have t15 := TgS15
  have hr1 := hr.1
  refine CM_of' (al := [vr _, vr _, vi _, vi _, vu, vu, vu]) rfl (Nat.le_of_ble_eq_true rfl) rfl (fun hM => ?_)
  have key2 : ∀ (f : Nat) (k : Nat), n - k < f → k ≤ n → (∀ j, j < n → itN I r i j ≠ 0) → 0 < mdP (itN I r i) k → Ev E 4 M_X10_madeOf 46 [vr 0, vr r, vi i, vi (n : Int), vl (mdP (itN I r i) k), vu, vi (k : Int)] [] (G0, 0, 0) I L (ZQ E M_X10_madeOf (QFl (mdF (itN I r i) n) I L)) := by
    intro f
    induction f with
    | zero => intro k h1 h2; omega
    | succ f ih =>
      intro k k1 k2 hz hp
      have hnb : ¬ (bP (∃ k, k < n ∧ itN I r i k = 0) = true) := fun h => by
        obtain ⟨j, j1, j2⟩ := bP_i.mp h
        exact hz j j1 j2
      have nb := numI_b hw (atI I (r + 1) 40 (i + k))
      have pb := mdP_b (N := itN I r i) (n := n) (fun j hj => by have := numI_b hw (atI I (r + 1) 40 (i + j)); have h2 := hz j hj; unfold itN at *; omega)
      have pk := pb k k2
      have mb : 0 ≤ mdP (itN I r i) k * numI I 15 (atI I (r + 1) 40 (i + k)) ∧ mdP (itN I r i) k * numI I 15 (atI I (r + 1) 40 (i + k)) ≤ 1000000000000000 * 199 := ⟨Int.mul_nonneg pk.1 nb.1, Int.mul_le_mul pk.2 nb.2 nb.1 (by decide)⟩
      have es : k < n → mdP (itN I r i) (k + 1) = if mdP (itN I r i) k * numI I 15 (atI I (r + 1) 40 (i + k)) ≤ 1000000000000000 then mdP (itN I r i) k * numI I 15 (atI I (r + 1) 40 (i + k)) else 0 := fun hk => by
        have := hz k hk
        unfold itN at this
        conv => lhs; unfold mdP
        rw [tmI_pos hp (by unfold itN; omega)]
        rfl
      refine (t31_X10_madeOf_46 (t31_X10_madeOf_48 (t31_X10_madeOf_49 (by omega) (by omega) (fun c49 => (t31_X10_madeOf_95 (t31_X10_madeOf_97 ?_))) (fun c49 => (t31_X10_madeOf_52 (t31_X10_madeOf_54 (t31_X10_madeOf_55 (by first | assumption | rfl) (by first | assumption | rfl) (t31_X10_madeOf_58 (by first | assumption | rfl) (by first | assumption | rfl) (t31_X10_madeOf_61 (t31_X10_madeOf_62 (t31_X10_madeOf_63 (t31_X10_madeOf_65 (t31_X10_madeOf_66 (by first | assumption | rfl) c_X6_item (by first | decide | omega) (fun r66 => (t31_X10_madeOf_69 (by first | assumption | rfl) c_X9_numberOf (by first | decide | omega) (fun r69 => (t31_X10_madeOf_72 (by omega) (t31_X10_madeOf_73 (t31_X10_madeOf_74 (t31_X10_madeOf_76 (t31_X10_madeOf_78 (t31_X10_madeOf_81 (by omega) (by omega) (fun c81 => (t31_X10_madeOf_89 (t31_X10_madeOf_92 ?_))) (fun c81 => (t31_X10_madeOf_85 (t31_X10_madeOf_88 ?_)))))))))))))))))))))))))
      -- 3 leaves: 49t :ret97 | 49f 81t :->46 | 49f 81f :ret88
      · have : k = n := by omega
        subst this
        refine qfl (by omega) ?_
        unfold mdF
        rw [if_neg hnb, if_neg (by omega)]
      · have e := es (by omega)
        rw [if_pos (by omega)] at e
        have h := ih (k + 1) (by omega) (by omega) hz (by
          rw [e]
          have h1 := hz k (by omega)
          unfold itN at h1
          exact Int.mul_pos hp (by omega))
        rw [e] at h
        exact h
      · have e := es (by omega)
        rw [if_neg (by omega)] at e
        refine qfl (by decide) ?_
        unfold mdF
        rw [if_neg hnb, if_pos (mdP_0 e n (by omega))]
  have key1 : ∀ (f : Nat) (k : Nat), n - k < f → k ≤ n → (∀ j, j < k → itN I r i j ≠ 0) → Ev E 4 M_X10_madeOf 3 [vr 0, vr r, vi i, vi (n : Int), vi (k : Int), vu, vu] [] (G0, 0, 0) I L (ZQ E M_X10_madeOf (QFl (mdF (itN I r i) n) I L)) := by
    intro f
    induction f with
    | zero => intro k h1 h2; omega
    | succ f ih =>
      intro k k1 k2 hz
      refine (t31_X10_madeOf_3 (t31_X10_madeOf_5 (t31_X10_madeOf_6 (by omega) (by omega) (fun c6 => (t31_X10_madeOf_40 (t31_X10_madeOf_41 (t31_X10_madeOf_43 (t31_X10_madeOf_44 ?_))))) (fun c6 => (t31_X10_madeOf_9 (t31_X10_madeOf_10 (by first | assumption | rfl) (by first | assumption | rfl) (t31_X10_madeOf_13 (by first | assumption | rfl) (by first | assumption | rfl) (t31_X10_madeOf_16 (t31_X10_madeOf_17 (t31_X10_madeOf_18 (t31_X10_madeOf_20 (t31_X10_madeOf_21 (by first | assumption | rfl) c_X6_item (by first | decide | omega) (fun r21 => (t31_X10_madeOf_24 (by first | assumption | rfl) c_X9_numberOf (by first | decide | omega) (fun r24 => (t31_X10_madeOf_27 (by omega) (fun c27 => (t31_X10_madeOf_34 (t31_X10_madeOf_37 ?_))) (fun c27 => (t31_X10_madeOf_30 (t31_X10_madeOf_33 ?_)))))))))))))))))))
      -- 3 leaves: 6t :->46 | 6f 27t :->3 | 6f 27f :ret33
      · have : k = n := by omega
        subst this
        exact key2 (k + 1) 0 (by omega) (by omega) hz (by show (0 : Int) < 1; decide)
      · refine ih (k + 1) (by omega) (by omega) fun j hj => ?_
        by_cases e : j = k
        · subst e; exact c27
        · exact hz j (by omega)
      · refine qfl (by decide) ?_
        unfold mdF
        rw [if_pos (bP_t ⟨k, by omega, c27⟩)]
  refine (t31_X10_madeOf_0 (t31_X10_madeOf_1 ?_))
  -- 1 leaves: :->3
  exact key1 (n + 1) 0 (by omega) (by omega) (fun j hj => by omega)
