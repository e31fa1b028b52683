theorem t23_X5_fail_0 {E : En} {d : Nat} {κ : Kp} {I L : MI} {Z : Zt} {a0 : Nat} {a1 : Int}  (k : Ev E d M_X5_fail 1 [vr a0, vi a1] [vr a0] κ I L Z) : Ev E d M_X5_fail 0 [vr a0, vi a1] [] κ I L Z := E_aload_n dX5_fail_0 rfl k
theorem t23_X5_fail_1 {E : En} {d : Nat} {κ : Kp} {I L : MI} {Z : Zt} {a0 b0 : Nat} {a1 : Int}  (k : Ev E d M_X5_fail 2 [vr a0, vi a1] [vi a1, vr b0] κ I L Z) : Ev E d M_X5_fail 1 [vr a0, vi a1] [vr b0] κ I L Z := E_iload_n dX5_fail_1 rfl k
theorem t23_X5_fail_2 {E : En} {d : Nat} {κ : Kp} {I L : MI} {Z : Zt} {a0 b1 : Nat} {a1 b0 : Int} (hs : κ.1.1[b1]? = some (.inl 5)) (hz : Ir b0) (k : Ev E d M_X5_fail 5 [vr a0, vi a1] [] κ (up2 I b1 6 b0) L Z) : Ev E d M_X5_fail 2 [vr a0, vi a1] [vi b0, vr b1] κ I L Z := E_putI (ci := 5) (n := 6) dX5_fail_2 wF_RX5_19 (by decide) hs rfl rfl hz k
theorem t23_X5_fail_5 {E : En} {d : Nat} {κ : Kp} {I L : MI} {Z : Zt} {a0 : Nat} {a1 : Int}  (k : Ev E d M_X5_fail 6 [vr a0, vi a1] [vr a0] κ I L Z) : Ev E d M_X5_fail 5 [vr a0, vi a1] [] κ I L Z := E_aload_n dX5_fail_5 rfl k
theorem t23_X5_fail_6 {E : En} {d : Nat} {κ : Kp} {I L : MI} {Z : Zt} {a0 b0 : Nat} {a1 : Int}  (k : Ev E d M_X5_fail 7 [vr a0, vi a1] [vr a0, vr b0] κ I L Z) : Ev E d M_X5_fail 6 [vr a0, vi a1] [vr b0] κ I L Z := E_aload_n dX5_fail_6 rfl k
theorem t23_X5_fail_7 {E : En} {d : Nat} {κ : Kp} {I L : MI} {Z : Zt} {a0 b0 b1 : Nat} {a1 : Int} (hs : κ.1.1[b0]? = some (.inl 5)) (k : Ir (I b0 3) → Ev E d M_X5_fail 10 [vr a0, vi a1] [vi (I b0 3), vr b1] κ I L Z) : Ev E d M_X5_fail 7 [vr a0, vi a1] [vr b0, vr b1] κ I L Z := E_getI (ci := 5) (n := 3) dX5_fail_7 wF_RX5_102 (by decide) hs rfl k
theorem t23_X5_fail_10 {E : En} {d : Nat} {κ : Kp} {I L : MI} {Z : Zt} {a0 b1 : Nat} {a1 b0 : Int} (hs : κ.1.1[b1]? = some (.inl 5)) (hz : Ir b0) (k : Ev E d M_X5_fail 13 [vr a0, vi a1] [] κ (up2 I b1 7 b0) L Z) : Ev E d M_X5_fail 10 [vr a0, vi a1] [vi b0, vr b1] κ I L Z := E_putI (ci := 5) (n := 7) dX5_fail_10 wF_RX5_105 (by decide) hs rfl rfl hz k
theorem t23_X5_fail_13 {E : En} {d : Nat} {g : Geo} {I L : MI} {Q : Option AV → Geo → MI → MI → Prop} {cs : Nat × Nat} {a0 : Nat} {a1 : Int} (hq : Q none g I L) (h1 : cs.1 ≤ M_X5_fail.2.2.2.2.1 := by decide) (h2 : cs.2 ≤ M_X5_fail.2.2.2.2.2 := by decide) : Ev E d M_X5_fail 13 [vr a0, vi a1] [] (g, cs) I L (ZQ E M_X5_fail Q) := E_return rfl dX5_fail_13 hq h1 h2
theorem t23_X5_isWord_28 {E : En} {d : Nat} {κ : Kp} {I L : MI} {Z : Zt} {a0 a1 : Nat} {a2 : Int}  (k : Ev E d M_X5_isWord 29 [vr a0, vr a1, vi a2] [vi a2] κ I L Z) : Ev E d M_X5_isWord 28 [vr a0, vr a1, vi a2] [] κ I L Z := E_iload_n dX5_isWord_28 rfl k
theorem t23_X5_isWord_29 {E : En} {d : Nat} {κ : Kp} {I L : MI} {Z : Zt} {a0 a1 : Nat} {a2 b0 : Int}  (k : Ev E d M_X5_isWord 30 [vr a0, vr a1, vi a2] [vr a1, vi b0] κ I L Z) : Ev E d M_X5_isWord 29 [vr a0, vr a1, vi a2] [vi b0] κ I L Z := E_aload_n dX5_isWord_29 rfl k
theorem t23_X5_isWord_30 {E : En} {d d' : Nat} {cs : Nat × Nat} {I L : MI} {Z : Zt} {a0 a1 b0 : Nat} {a2 b1 : Int} {z : Int} {I' L' : MI} (hs : b0 ∈ ([1005, 1006, 1007, 1008] : List Nat)) (hM : CFi E d' M_J0_length_8abf5 [vr b0] I L z I' L') (hlt : d' + 1 ≤ d) (k : Ir z → Ev E d M_X5_isWord 33 [vr a0, vr a1, vi a2] [vi z, vi b1] (G0, cs) I' L' Z) (hc1 : cs.1 ≤ M_X5_isWord.2.2.2.2.1 := by decide) (hc2 : cs.2 ≤ M_X5_isWord.2.2.2.2.2 := by decide) : Ev E d M_X5_isWord 30 [vr a0, vr a1, vi a2] [vr b0, vi b1] (G0, cs) I L Z := E_callVS (as := []) (rest := [vi b1]) (n := 0) hM dX5_isWord_30 wM_RX5_125 wS_J0_length_8abf5 wV_J0_length_8abf5 hs rfl hlt wC_J0_length_8abf5 wI_J0 (by decide +kernel) rfl (by decide) (Nat.le_of_ble_eq_true rfl) hc1 hc2 rfl (fun r g' I2 L2 h => by obtain ⟨rfl, z, rfl, hr, rfl, rfl, rfl⟩ := h; exact k hr)
theorem t23_X5_isWord_33 {E : En} {d : Nat} {κ : Kp} {I L : MI} {Z : Zt} {a0 a1 : Nat} {a2 b0 b1 : Int} (hx : Ir b1) (hy : Ir b0) (kt : b0 ≤ b1 → Ev E d M_X5_isWord 65 [vr a0, vr a1, vi a2] [] κ I L Z) (kf : b1 < b0 → Ev E d M_X5_isWord 36 [vr a0, vr a1, vi a2] [] κ I L Z) : Ev E d M_X5_isWord 33 [vr a0, vr a1, vi a2] [vi b0, vi b1] κ I L Z := E_icmp_ge dX5_isWord_33 hx hy kt kf (by decide)
theorem t23_X5_isWord_65 {E : En} {d : Nat} {κ : Kp} {I L : MI} {Z : Zt} {a0 a1 : Nat} {a2 : Int}  (k : Ev E d M_X5_isWord 66 [vr a0, vr a1, vi a2] [vi 1] κ I L Z) : Ev E d M_X5_isWord 65 [vr a0, vr a1, vi a2] [] κ I L Z := E_iconst (v := 1) dX5_isWord_65 rfl k
theorem t23_X5_isWord_66 {E : En} {d : Nat} {g : Geo} {I L : MI} {Q : Option AV → Geo → MI → MI → Prop} {cs : Nat × Nat} {a0 a1 : Nat} {a2 b0 : Int} (hz : b0 = 0 ∨ b0 = 1) (hq : Q (some (vi b0)) g I L) (h1 : cs.1 ≤ M_X5_isWord.2.2.2.2.1 := by decide) (h2 : cs.2 ≤ M_X5_isWord.2.2.2.2.2 := by decide) : Ev E d M_X5_isWord 66 [vr a0, vr a1, vi a2] [vi b0] (g, cs) I L (ZQ E M_X5_isWord Q) := E_zreturn rfl hz dX5_isWord_66 hq h1 h2
theorem t23_X5_isWord_36 {E : En} {d : Nat} {κ : Kp} {I L : MI} {Z : Zt} {a0 a1 : Nat} {a2 : Int}  (k : Ev E d M_X5_isWord 37 [vr a0, vr a1, vi a2] [vr a0] κ I L Z) : Ev E d M_X5_isWord 36 [vr a0, vr a1, vi a2] [] κ I L Z := E_aload_n dX5_isWord_36 rfl k
theorem t23_X5_isWord_37 {E : En} {d : Nat} {κ : Kp} {I L : MI} {Z : Zt} {a0 a1 b0 : Nat} {a2 : Int} {q : Nat} (hs : κ.1.1[b0]? = some (.inl 5)) (hq : κ.1.2 b0 0 = some q) (k : Ev E d M_X5_isWord 40 [vr a0, vr a1, vi a2] [vr q] κ I L Z) : Ev E d M_X5_isWord 37 [vr a0, vr a1, vi a2] [vr b0] κ I L Z := E_getR (ci := 5) (n := 0) dX5_isWord_37 wF_RX5_9 (by decide) hs rfl hq k
theorem t23_X5_isWord_40 {E : En} {d : Nat} {κ : Kp} {I L : MI} {Z : Zt} {a0 a1 b0 : Nat} {a2 : Int}  (k : Ev E d M_X5_isWord 41 [vr a0, vr a1, vi a2] [vr a0, vr b0] κ I L Z) : Ev E d M_X5_isWord 40 [vr a0, vr a1, vi a2] [vr b0] κ I L Z := E_aload_n dX5_isWord_40 rfl k
theorem t23_X5_isWord_41 {E : En} {d : Nat} {κ : Kp} {I L : MI} {Z : Zt} {a0 a1 b0 b1 : Nat} {a2 : Int} (hs : κ.1.1[b0]? = some (.inl 5)) (k : Ir (I b0 3) → Ev E d M_X5_isWord 44 [vr a0, vr a1, vi a2] [vi (I b0 3), vr b1] κ I L Z) : Ev E d M_X5_isWord 41 [vr a0, vr a1, vi a2] [vr b0, vr b1] κ I L Z := E_getI (ci := 5) (n := 3) dX5_isWord_41 wF_RX5_102 (by decide) hs rfl k
theorem t23_X5_isWord_44 {E : En} {d : Nat} {κ : Kp} {I L : MI} {Z : Zt} {a0 a1 b1 : Nat} {a2 b0 : Int}  (k : Ev E d M_X5_isWord 45 [vr a0, vr a1, vi a2] [vi a2, vi b0, vr b1] κ I L Z) : Ev E d M_X5_isWord 44 [vr a0, vr a1, vi a2] [vi b0, vr b1] κ I L Z := E_iload_n dX5_isWord_44 rfl k
theorem t23_X5_isWord_45 {E : En} {d : Nat} {κ : Kp} {I L : MI} {Z : Zt} {a0 a1 b2 : Nat} {a2 b0 b1 : Int}  (k : Ev E d M_X5_isWord 46 [vr a0, vr a1, vi a2] [vi (b1 + b0), vr b2] κ I L Z) : Ev E d M_X5_isWord 45 [vr a0, vr a1, vi a2] [vi b0, vi b1, vr b2] κ I L Z := E_iadd dX5_isWord_45 k
theorem t23_X5_isWord_46 {E : En} {d d' : Nat} {cs : Nat × Nat} {I L : MI} {Z : Zt} {a0 a1 b1 : Nat} {a2 b0 : Int} {z : Int} {I' L' : MI} (hs : G0.1[b1]? = some (.inl 8)) (hM : CFi E d' M_X8_byteAt [vr b1, vi b0] I L z I' L') (hlt : d' + 1 ≤ d) (k : Ir z → Ev E d M_X5_isWord 49 [vr a0, vr a1, vi a2] [vi z] (G0, cs) I' L' Z) (hc1 : cs.1 ≤ M_X5_isWord.2.2.2.2.1 := by decide) (hc2 : cs.2 ≤ M_X5_isWord.2.2.2.2.2 := by decide) : Ev E d M_X5_isWord 46 [vr a0, vr a1, vi a2] [vi b0, vr b1] (G0, cs) I L Z := E_callV (as := [vi b0]) (rest := []) (n := 1) hM dX5_isWord_46 wM_RX5_112 wS_X8_byteAt wV_X8_byteAt hs (by decide) rfl hlt wC_X8_byteAt wI_X8 (by decide +kernel) rfl (by decide) (Nat.le_of_ble_eq_true rfl) hc1 hc2 rfl (fun r g' I2 L2 h => by obtain ⟨rfl, z, rfl, hr, rfl, rfl, rfl⟩ := h; exact k hr)
theorem t23_X5_isWord_49 {E : En} {d : Nat} {κ : Kp} {I L : MI} {Z : Zt} {a0 a1 : Nat} {a2 b0 : Int}  (k : Ev E d M_X5_isWord 50 [vr a0, vr a1, vi a2] [vr a1, vi b0] κ I L Z) : Ev E d M_X5_isWord 49 [vr a0, vr a1, vi a2] [vi b0] κ I L Z := E_aload_n dX5_isWord_49 rfl k
theorem t23_X5_isWord_50 {E : En} {d : Nat} {κ : Kp} {I L : MI} {Z : Zt} {a0 a1 b0 : Nat} {a2 b1 : Int}  (k : Ev E d M_X5_isWord 51 [vr a0, vr a1, vi a2] [vi a2, vr b0, vi b1] κ I L Z) : Ev E d M_X5_isWord 50 [vr a0, vr a1, vi a2] [vr b0, vi b1] κ I L Z := E_iload_n dX5_isWord_50 rfl k
theorem t23_X5_isWord_51 {E : En} {d d' : Nat} {cs : Nat × Nat} {I L : MI} {Z : Zt} {a0 a1 b1 : Nat} {a2 b0 b2 : Int} {z : Int} {I' L' : MI} (hs : b1 ∈ ([1005, 1006, 1007, 1008] : List Nat)) (hM : CFi E d' M_J0_charAt_5068e [vr b1, vi b0] I L z I' L') (hlt : d' + 1 ≤ d) (k : Ir z → Ev E d M_X5_isWord 54 [vr a0, vr a1, vi a2] [vi z, vi b2] (G0, cs) I' L' Z) (hc1 : cs.1 ≤ M_X5_isWord.2.2.2.2.1 := by decide) (hc2 : cs.2 ≤ M_X5_isWord.2.2.2.2.2 := by decide) : Ev E d M_X5_isWord 51 [vr a0, vr a1, vi a2] [vi b0, vr b1, vi b2] (G0, cs) I L Z := E_callVS (as := [vi b0]) (rest := [vi b2]) (n := 1) hM dX5_isWord_51 wM_RX5_130 wS_J0_charAt_5068e wV_J0_charAt_5068e hs rfl hlt wC_J0_charAt_5068e wI_J0 (by decide +kernel) rfl (by decide) (Nat.le_of_ble_eq_true rfl) hc1 hc2 rfl (fun r g' I2 L2 h => by obtain ⟨rfl, z, rfl, hr, rfl, rfl, rfl⟩ := h; exact k hr)
theorem t23_X5_isWord_54 {E : En} {d : Nat} {κ : Kp} {I L : MI} {Z : Zt} {a0 a1 : Nat} {a2 b0 b1 : Int} (hx : Ir b1) (hy : Ir b0) (kt : b1 = b0 → Ev E d M_X5_isWord 59 [vr a0, vr a1, vi a2] [] κ I L Z) (kf : ¬ b1 = b0 → Ev E d M_X5_isWord 57 [vr a0, vr a1, vi a2] [] κ I L Z) : Ev E d M_X5_isWord 54 [vr a0, vr a1, vi a2] [vi b0, vi b1] κ I L Z := E_icmp_eq dX5_isWord_54 hx hy kt kf (by decide)
theorem t23_X5_isWord_59 {E : En} {d : Nat} {κ : Kp} {I L : MI} {Z : Zt} {a0 a1 : Nat} {a2 : Int}  (k : Ev E d M_X5_isWord 62 [vr a0, vr a1, vi (a2 + 1)] [] κ I L Z) : Ev E d M_X5_isWord 59 [vr a0, vr a1, vi a2] [] κ I L Z := E_iinc dX5_isWord_59 rfl rfl (Nat.le_of_ble_eq_true rfl) k
theorem t23_X5_isWord_62 {E : En} {d : Nat} {κ : Kp} {I L : MI} {Z : Zt} {a0 a1 : Nat} {a2 : Int}  (k : Ev E d M_X5_isWord 28 [vr a0, vr a1, vi a2] [] κ I L Z) : Ev E d M_X5_isWord 62 [vr a0, vr a1, vi a2] [] κ I L Z := E_goto dX5_isWord_62 (by decide) k
theorem t23_X5_isWord_57 {E : En} {d : Nat} {κ : Kp} {I L : MI} {Z : Zt} {a0 a1 : Nat} {a2 : Int}  (k : Ev E d M_X5_isWord 58 [vr a0, vr a1, vi a2] [vi 0] κ I L Z) : Ev E d M_X5_isWord 57 [vr a0, vr a1, vi a2] [] κ I L Z := E_iconst (v := 0) dX5_isWord_57 rfl k
theorem t23_X5_isWord_58 {E : En} {d : Nat} {g : Geo} {I L : MI} {Q : Option AV → Geo → MI → MI → Prop} {cs : Nat × Nat} {a0 a1 : Nat} {a2 b0 : Int} (hz : b0 = 0 ∨ b0 = 1) (hq : Q (some (vi b0)) g I L) (h1 : cs.1 ≤ M_X5_isWord.2.2.2.2.1 := by decide) (h2 : cs.2 ≤ M_X5_isWord.2.2.2.2.2 := by decide) : Ev E d M_X5_isWord 58 [vr a0, vr a1, vi a2] [vi b0] (g, cs) I L (ZQ E M_X5_isWord Q) := E_zreturn rfl hz dX5_isWord_58 hq h1 h2
theorem t23_X5_isWord_0 {E : En} {d : Nat} {κ : Kp} {I L : MI} {Z : Zt} {a0 a1 : Nat}  (k : Ev E d M_X5_isWord 1 [vr a0, vr a1, vu] [vr a0] κ I L Z) : Ev E d M_X5_isWord 0 [vr a0, vr a1, vu] [] κ I L Z := E_aload_n dX5_isWord_0 rfl k
theorem t23_X5_isWord_1 {E : En} {d : Nat} {κ : Kp} {I L : MI} {Z : Zt} {a0 a1 b0 : Nat} (hs : κ.1.1[b0]? = some (.inl 5)) (k : Ir (I b0 2) → Ev E d M_X5_isWord 4 [vr a0, vr a1, vu] [vi (I b0 2)] κ I L Z) : Ev E d M_X5_isWord 1 [vr a0, vr a1, vu] [vr b0] κ I L Z := E_getI (ci := 5) (n := 2) dX5_isWord_1 wF_RX5_57 (by decide) hs rfl k
theorem t23_X5_isWord_4 {E : En} {d : Nat} {κ : Kp} {I L : MI} {Z : Zt} {a0 a1 : Nat} {b0 : Int}  (k : Ev E d M_X5_isWord 5 [vr a0, vr a1, vu] [vi 2, vi b0] κ I L Z) : Ev E d M_X5_isWord 4 [vr a0, vr a1, vu] [vi b0] κ I L Z := E_iconst (v := 2) dX5_isWord_4 rfl k
theorem t23_X5_isWord_5 {E : En} {d : Nat} {κ : Kp} {I L : MI} {Z : Zt} {a0 a1 : Nat} {b0 b1 : Int} (hx : Ir b1) (hy : Ir b0) (kt : ¬ b1 = b0 → Ev E d M_X5_isWord 24 [vr a0, vr a1, vu] [] κ I L Z) (kf : b1 = b0 → Ev E d M_X5_isWord 8 [vr a0, vr a1, vu] [] κ I L Z) : Ev E d M_X5_isWord 5 [vr a0, vr a1, vu] [vi b0, vi b1] κ I L Z := E_icmp_ne dX5_isWord_5 hx hy kt kf (by decide)
theorem t23_X5_isWord_24 {E : En} {d : Nat} {κ : Kp} {I L : MI} {Z : Zt} {a0 a1 : Nat}  (k : Ev E d M_X5_isWord 25 [vr a0, vr a1, vu] [vi 0] κ I L Z) : Ev E d M_X5_isWord 24 [vr a0, vr a1, vu] [] κ I L Z := E_iconst (v := 0) dX5_isWord_24 rfl k
theorem t23_X5_isWord_25 {E : En} {d : Nat} {g : Geo} {I L : MI} {Q : Option AV → Geo → MI → MI → Prop} {cs : Nat × Nat} {a0 a1 : Nat} {b0 : Int} (hz : b0 = 0 ∨ b0 = 1) (hq : Q (some (vi b0)) g I L) (h1 : cs.1 ≤ M_X5_isWord.2.2.2.2.1 := by decide) (h2 : cs.2 ≤ M_X5_isWord.2.2.2.2.2 := by decide) : Ev E d M_X5_isWord 25 [vr a0, vr a1, vu] [vi b0] (g, cs) I L (ZQ E M_X5_isWord Q) := E_zreturn rfl hz dX5_isWord_25 hq h1 h2
theorem t23_X5_isWord_8 {E : En} {d : Nat} {κ : Kp} {I L : MI} {Z : Zt} {a0 a1 : Nat}  (k : Ev E d M_X5_isWord 9 [vr a0, vr a1, vu] [vr a0] κ I L Z) : Ev E d M_X5_isWord 8 [vr a0, vr a1, vu] [] κ I L Z := E_aload_n dX5_isWord_8 rfl k
theorem t23_X5_isWord_9 {E : En} {d : Nat} {κ : Kp} {I L : MI} {Z : Zt} {a0 a1 b0 : Nat} (hs : κ.1.1[b0]? = some (.inl 5)) (k : Ir (I b0 4) → Ev E d M_X5_isWord 12 [vr a0, vr a1, vu] [vi (I b0 4)] κ I L Z) : Ev E d M_X5_isWord 9 [vr a0, vr a1, vu] [vr b0] κ I L Z := E_getI (ci := 5) (n := 4) dX5_isWord_9 wF_RX5_23 (by decide) hs rfl k
theorem t23_X5_isWord_12 {E : En} {d : Nat} {κ : Kp} {I L : MI} {Z : Zt} {a0 a1 : Nat} {b0 : Int}  (k : Ev E d M_X5_isWord 13 [vr a0, vr a1, vu] [vr a0, vi b0] κ I L Z) : Ev E d M_X5_isWord 12 [vr a0, vr a1, vu] [vi b0] κ I L Z := E_aload_n dX5_isWord_12 rfl k
theorem t23_X5_isWord_13 {E : En} {d : Nat} {κ : Kp} {I L : MI} {Z : Zt} {a0 a1 b0 : Nat} {b1 : Int} (hs : κ.1.1[b0]? = some (.inl 5)) (k : Ir (I b0 3) → Ev E d M_X5_isWord 16 [vr a0, vr a1, vu] [vi (I b0 3), vi b1] κ I L Z) : Ev E d M_X5_isWord 13 [vr a0, vr a1, vu] [vr b0, vi b1] κ I L Z := E_getI (ci := 5) (n := 3) dX5_isWord_13 wF_RX5_102 (by decide) hs rfl k
theorem t23_X5_isWord_16 {E : En} {d : Nat} {κ : Kp} {I L : MI} {Z : Zt} {a0 a1 : Nat} {b0 b1 : Int}  (k : Ev E d M_X5_isWord 17 [vr a0, vr a1, vu] [vi (b1 - b0)] κ I L Z) : Ev E d M_X5_isWord 16 [vr a0, vr a1, vu] [vi b0, vi b1] κ I L Z := E_isub dX5_isWord_16 k
theorem t23_X5_isWord_17 {E : En} {d : Nat} {κ : Kp} {I L : MI} {Z : Zt} {a0 a1 : Nat} {b0 : Int}  (k : Ev E d M_X5_isWord 18 [vr a0, vr a1, vu] [vr a1, vi b0] κ I L Z) : Ev E d M_X5_isWord 17 [vr a0, vr a1, vu] [vi b0] κ I L Z := E_aload_n dX5_isWord_17 rfl k
theorem t23_X5_isWord_18 {E : En} {d d' : Nat} {cs : Nat × Nat} {I L : MI} {Z : Zt} {a0 a1 b0 : Nat} {b1 : Int} {z : Int} {I' L' : MI} (hs : b0 ∈ ([1005, 1006, 1007, 1008] : List Nat)) (hM : CFi E d' M_J0_length_8abf5 [vr b0] I L z I' L') (hlt : d' + 1 ≤ d) (k : Ir z → Ev E d M_X5_isWord 21 [vr a0, vr a1, vu] [vi z, vi b1] (G0, cs) I' L' Z) (hc1 : cs.1 ≤ M_X5_isWord.2.2.2.2.1 := by decide) (hc2 : cs.2 ≤ M_X5_isWord.2.2.2.2.2 := by decide) : Ev E d M_X5_isWord 18 [vr a0, vr a1, vu] [vr b0, vi b1] (G0, cs) I L Z := E_callVS (as := []) (rest := [vi b1]) (n := 0) hM dX5_isWord_18 wM_RX5_125 wS_J0_length_8abf5 wV_J0_length_8abf5 hs rfl hlt wC_J0_length_8abf5 wI_J0 (by decide +kernel) rfl (by decide) (Nat.le_of_ble_eq_true rfl) hc1 hc2 rfl (fun r g' I2 L2 h => by obtain ⟨rfl, z, rfl, hr, rfl, rfl, rfl⟩ := h; exact k hr)
theorem t23_X5_isWord_21 {E : En} {d : Nat} {κ : Kp} {I L : MI} {Z : Zt} {a0 a1 : Nat} {b0 b1 : Int} (hx : Ir b1) (hy : Ir b0) (kt : b1 = b0 → Ev E d M_X5_isWord 26 [vr a0, vr a1, vu] [] κ I L Z) (kf : ¬ b1 = b0 → Ev E d M_X5_isWord 24 [vr a0, vr a1, vu] [] κ I L Z) : Ev E d M_X5_isWord 21 [vr a0, vr a1, vu] [vi b0, vi b1] κ I L Z := E_icmp_eq dX5_isWord_21 hx hy kt kf (by decide)
theorem t23_X5_isWord_26 {E : En} {d : Nat} {κ : Kp} {I L : MI} {Z : Zt} {a0 a1 : Nat}  (k : Ev E d M_X5_isWord 27 [vr a0, vr a1, vu] [vi 0] κ I L Z) : Ev E d M_X5_isWord 26 [vr a0, vr a1, vu] [] κ I L Z := E_iconst (v := 0) dX5_isWord_26 rfl k
theorem t23_X5_isWord_27 {E : En} {d : Nat} {κ : Kp} {I L : MI} {Z : Zt} {a0 a1 : Nat} {b0 : Int}  (k : Ev E d M_X5_isWord 28 [vr a0, vr a1, vi b0] [] κ I L Z) : Ev E d M_X5_isWord 27 [vr a0, vr a1, vu] [vi b0] κ I L Z := E_istore_n dX5_isWord_27 rfl (Nat.le_of_ble_eq_true rfl) k
theorem t23_X5_isPrime_2 {E : En} {d : Nat} {κ : Kp} {I L : MI} {Z : Zt} {a0 a1 : Int}  (k : Ev E d M_X5_isPrime 3 [vi a0, vi a1] [vi a1] κ I L Z) : Ev E d M_X5_isPrime 2 [vi a0, vi a1] [] κ I L Z := E_iload_n dX5_isPrime_2 rfl k
theorem t23_X5_isPrime_3 {E : En} {d : Nat} {κ : Kp} {I L : MI} {Z : Zt} {a0 a1 b0 : Int}  (k : Ev E d M_X5_isPrime 4 [vi a0, vi a1] [vi a1, vi b0] κ I L Z) : Ev E d M_X5_isPrime 3 [vi a0, vi a1] [vi b0] κ I L Z := E_iload_n dX5_isPrime_3 rfl k
theorem t23_X5_isPrime_4 {E : En} {d : Nat} {κ : Kp} {I L : MI} {Z : Zt} {a0 a1 b0 b1 : Int}  (k : Ev E d M_X5_isPrime 5 [vi a0, vi a1] [vi (b1 * b0)] κ I L Z) : Ev E d M_X5_isPrime 4 [vi a0, vi a1] [vi b0, vi b1] κ I L Z := E_imul dX5_isPrime_4 k
theorem t23_X5_isPrime_5 {E : En} {d : Nat} {κ : Kp} {I L : MI} {Z : Zt} {a0 a1 b0 : Int}  (k : Ev E d M_X5_isPrime 6 [vi a0, vi a1] [vi a0, vi b0] κ I L Z) : Ev E d M_X5_isPrime 5 [vi a0, vi a1] [vi b0] κ I L Z := E_iload_n dX5_isPrime_5 rfl k
theorem t23_X5_isPrime_6 {E : En} {d : Nat} {κ : Kp} {I L : MI} {Z : Zt} {a0 a1 b0 b1 : Int} (hx : Ir b1) (hy : Ir b0) (kt : b0 < b1 → Ev E d M_X5_isPrime 30 [vi a0, vi a1] [] κ I L Z) (kf : b1 ≤ b0 → Ev E d M_X5_isPrime 9 [vi a0, vi a1] [] κ I L Z) : Ev E d M_X5_isPrime 6 [vi a0, vi a1] [vi b0, vi b1] κ I L Z := E_icmp_gt dX5_isPrime_6 hx hy kt kf (by decide)
theorem t23_X5_isPrime_30 {E : En} {d : Nat} {κ : Kp} {I L : MI} {Z : Zt} {a0 a1 : Int}  (k : Ev E d M_X5_isPrime 31 [vi a0, vi a1] [vi a0] κ I L Z) : Ev E d M_X5_isPrime 30 [vi a0, vi a1] [] κ I L Z := E_iload_n dX5_isPrime_30 rfl k
theorem t23_X5_isPrime_31 {E : En} {d : Nat} {κ : Kp} {I L : MI} {Z : Zt} {a0 a1 b0 : Int}  (k : Ev E d M_X5_isPrime 32 [vi a0, vi a1] [vi 1, vi b0] κ I L Z) : Ev E d M_X5_isPrime 31 [vi a0, vi a1] [vi b0] κ I L Z := E_iconst (v := 1) dX5_isPrime_31 rfl k
theorem t23_X5_isPrime_32 {E : En} {d : Nat} {κ : Kp} {I L : MI} {Z : Zt} {a0 a1 b0 b1 : Int} (hx : Ir b1) (hy : Ir b0) (kt : b1 ≤ b0 → Ev E d M_X5_isPrime 39 [vi a0, vi a1] [] κ I L Z) (kf : b0 < b1 → Ev E d M_X5_isPrime 35 [vi a0, vi a1] [] κ I L Z) : Ev E d M_X5_isPrime 32 [vi a0, vi a1] [vi b0, vi b1] κ I L Z := E_icmp_le dX5_isPrime_32 hx hy kt kf (by decide)
theorem t23_X5_isPrime_39 {E : En} {d : Nat} {κ : Kp} {I L : MI} {Z : Zt} {a0 a1 : Int}  (k : Ev E d M_X5_isPrime 40 [vi a0, vi a1] [vi 0] κ I L Z) : Ev E d M_X5_isPrime 39 [vi a0, vi a1] [] κ I L Z := E_iconst (v := 0) dX5_isPrime_39 rfl k
theorem t23_X5_isPrime_40 {E : En} {d : Nat} {g : Geo} {I L : MI} {Q : Option AV → Geo → MI → MI → Prop} {cs : Nat × Nat} {a0 a1 b0 : Int} (hz : b0 = 0 ∨ b0 = 1) (hq : Q (some (vi b0)) g I L) (h1 : cs.1 ≤ M_X5_isPrime.2.2.2.2.1 := by decide) (h2 : cs.2 ≤ M_X5_isPrime.2.2.2.2.2 := by decide) : Ev E d M_X5_isPrime 40 [vi a0, vi a1] [vi b0] (g, cs) I L (ZQ E M_X5_isPrime Q) := E_zreturn rfl hz dX5_isPrime_40 hq h1 h2
theorem t23_X5_isPrime_35 {E : En} {d : Nat} {κ : Kp} {I L : MI} {Z : Zt} {a0 a1 : Int}  (k : Ev E d M_X5_isPrime 36 [vi a0, vi a1] [vi 1] κ I L Z) : Ev E d M_X5_isPrime 35 [vi a0, vi a1] [] κ I L Z := E_iconst (v := 1) dX5_isPrime_35 rfl k
theorem t23_X5_isPrime_36 {E : En} {d : Nat} {κ : Kp} {I L : MI} {Z : Zt} {a0 a1 b0 : Int}  (k : Ev E d M_X5_isPrime 40 [vi a0, vi a1] [vi b0] κ I L Z) : Ev E d M_X5_isPrime 36 [vi a0, vi a1] [vi b0] κ I L Z := E_goto dX5_isPrime_36 (by decide) k
theorem t23_X5_isPrime_9 {E : En} {d : Nat} {κ : Kp} {I L : MI} {Z : Zt} {a0 a1 : Int}  (k : Ev E d M_X5_isPrime 10 [vi a0, vi a1] [vi a1] κ I L Z) : Ev E d M_X5_isPrime 9 [vi a0, vi a1] [] κ I L Z := E_iload_n dX5_isPrime_9 rfl k
theorem t23_X5_isPrime_10 {E : En} {d : Nat} {κ : Kp} {I L : MI} {Z : Zt} {a0 a1 b0 : Int}  (k : Ev E d M_X5_isPrime 13 [vi a0, vi a1] [vi 199, vi b0] κ I L Z) : Ev E d M_X5_isPrime 10 [vi a0, vi a1] [vi b0] κ I L Z := E_sipush (v := 199) dX5_isPrime_10 rfl k
theorem t23_X5_isPrime_13 {E : En} {d : Nat} {κ : Kp} {I L : MI} {Z : Zt} {a0 a1 b0 b1 : Int} (hx : Ir b1) (hy : Ir b0) (kt : b0 < b1 → Ev E d M_X5_isPrime 30 [vi a0, vi a1] [] κ I L Z) (kf : b1 ≤ b0 → Ev E d M_X5_isPrime 16 [vi a0, vi a1] [] κ I L Z) : Ev E d M_X5_isPrime 13 [vi a0, vi a1] [vi b0, vi b1] κ I L Z := E_icmp_gt dX5_isPrime_13 hx hy kt kf (by decide)
theorem t23_X5_isPrime_16 {E : En} {d : Nat} {κ : Kp} {I L : MI} {Z : Zt} {a0 a1 : Int}  (k : Ev E d M_X5_isPrime 17 [vi a0, vi a1] [vi a0] κ I L Z) : Ev E d M_X5_isPrime 16 [vi a0, vi a1] [] κ I L Z := E_iload_n dX5_isPrime_16 rfl k
theorem t23_X5_isPrime_17 {E : En} {d : Nat} {κ : Kp} {I L : MI} {Z : Zt} {a0 a1 b0 : Int}  (k : Ev E d M_X5_isPrime 18 [vi a0, vi a1] [vi a1, vi b0] κ I L Z) : Ev E d M_X5_isPrime 17 [vi a0, vi a1] [vi b0] κ I L Z := E_iload_n dX5_isPrime_17 rfl k
theorem t23_X5_isPrime_18 {E : En} {d : Nat} {κ : Kp} {I L : MI} {Z : Zt} {a0 a1 b0 b1 : Int} (hx : Ir b1) (hy : Ir b0) (h0 : b0 ≠ 0) (hm : b0 ≠ -1) (k : Ev E d M_X5_isPrime 19 [vi a0, vi a1] [vi (b1.tmod b0)] κ I L Z) : Ev E d M_X5_isPrime 18 [vi a0, vi a1] [vi b0, vi b1] κ I L Z := E_irem dX5_isPrime_18 hx hy h0 hm k
theorem t23_X5_isPrime_19 {E : En} {d : Nat} {κ : Kp} {I L : MI} {Z : Zt} {a0 a1 b0 : Int} (hx : Ir b0) (kt : ¬ b0 = 0 → Ev E d M_X5_isPrime 24 [vi a0, vi a1] [] κ I L Z) (kf : b0 = 0 → Ev E d M_X5_isPrime 22 [vi a0, vi a1] [] κ I L Z) : Ev E d M_X5_isPrime 19 [vi a0, vi a1] [vi b0] κ I L Z := E_if_ne dX5_isPrime_19 hx kt kf (by decide)
theorem t23_X5_isPrime_24 {E : En} {d : Nat} {κ : Kp} {I L : MI} {Z : Zt} {a0 a1 : Int}  (k : Ev E d M_X5_isPrime 27 [vi a0, vi (a1 + 1)] [] κ I L Z) : Ev E d M_X5_isPrime 24 [vi a0, vi a1] [] κ I L Z := E_iinc dX5_isPrime_24 rfl rfl (Nat.le_of_ble_eq_true rfl) k
theorem t23_X5_isPrime_27 {E : En} {d : Nat} {κ : Kp} {I L : MI} {Z : Zt} {a0 a1 : Int}  (k : Ev E d M_X5_isPrime 2 [vi a0, vi a1] [] κ I L Z) : Ev E d M_X5_isPrime 27 [vi a0, vi a1] [] κ I L Z := E_goto dX5_isPrime_27 (by decide) k
theorem t23_X5_isPrime_22 {E : En} {d : Nat} {κ : Kp} {I L : MI} {Z : Zt} {a0 a1 : Int}  (k : Ev E d M_X5_isPrime 23 [vi a0, vi a1] [vi 0] κ I L Z) : Ev E d M_X5_isPrime 22 [vi a0, vi a1] [] κ I L Z := E_iconst (v := 0) dX5_isPrime_22 rfl k
theorem t23_X5_isPrime_23 {E : En} {d : Nat} {g : Geo} {I L : MI} {Q : Option AV → Geo → MI → MI → Prop} {cs : Nat × Nat} {a0 a1 b0 : Int} (hz : b0 = 0 ∨ b0 = 1) (hq : Q (some (vi b0)) g I L) (h1 : cs.1 ≤ M_X5_isPrime.2.2.2.2.1 := by decide) (h2 : cs.2 ≤ M_X5_isPrime.2.2.2.2.2 := by decide) : Ev E d M_X5_isPrime 23 [vi a0, vi a1] [vi b0] (g, cs) I L (ZQ E M_X5_isPrime Q) := E_zreturn rfl hz dX5_isPrime_23 hq h1 h2
theorem t23_X5_isPrime_0 {E : En} {d : Nat} {κ : Kp} {I L : MI} {Z : Zt} {a0 : Int}  (k : Ev E d M_X5_isPrime 1 [vi a0, vu] [vi 2] κ I L Z) : Ev E d M_X5_isPrime 0 [vi a0, vu] [] κ I L Z := E_iconst (v := 2) dX5_isPrime_0 rfl k
theorem t23_X5_isPrime_1 {E : En} {d : Nat} {κ : Kp} {I L : MI} {Z : Zt} {a0 b0 : Int}  (k : Ev E d M_X5_isPrime 2 [vi a0, vi b0] [] κ I L Z) : Ev E d M_X5_isPrime 1 [vi a0, vu] [vi b0] κ I L Z := E_istore_n dX5_isPrime_1 rfl (Nat.le_of_ble_eq_true rfl) k
theorem t23_X5_isNew_0 {E : En} {d : Nat} {κ : Kp} {I L : MI} {Z : Zt} {a0 : Nat} {a1 : Int}  (k : Ev E d M_X5_isNew 1 [vr a0, vi a1] [vr a0] κ I L Z) : Ev E d M_X5_isNew 0 [vr a0, vi a1] [] κ I L Z := E_aload_n dX5_isNew_0 rfl k
theorem t23_X5_isNew_1 {E : En} {d : Nat} {κ : Kp} {I L : MI} {Z : Zt} {a0 b0 : Nat} {a1 : Int} (hs : κ.1.1[b0]? = some (.inl 5)) (k : Ir (I b0 5) → Ev E d M_X5_isNew 4 [vr a0, vi a1] [vi (I b0 5)] κ I L Z) : Ev E d M_X5_isNew 1 [vr a0, vi a1] [vr b0] κ I L Z := E_getI (ci := 5) (n := 5) dX5_isNew_1 wF_RX5_80 (by decide) hs rfl k
theorem t23_X5_isNew_4 {E : En} {d : Nat} {κ : Kp} {I L : MI} {Z : Zt} {a0 : Nat} {a1 b0 : Int}  (k : Ev E d M_X5_isNew 5 [vr a0, vi a1] [vi a1, vi b0] κ I L Z) : Ev E d M_X5_isNew 4 [vr a0, vi a1] [vi b0] κ I L Z := E_iload_n dX5_isNew_4 rfl k
theorem t23_X5_isNew_5 {E : En} {d : Nat} {κ : Kp} {I L : MI} {Z : Zt} {a0 : Nat} {a1 b0 b1 : Int} (hx : Ir b1) (hy : Ir b0) (kt : b1 = b0 → Ev E d M_X5_isNew 36 [vr a0, vi a1] [] κ I L Z) (kf : ¬ b1 = b0 → Ev E d M_X5_isNew 8 [vr a0, vi a1] [] κ I L Z) : Ev E d M_X5_isNew 5 [vr a0, vi a1] [vi b0, vi b1] κ I L Z := E_icmp_eq dX5_isNew_5 hx hy kt kf (by decide)
theorem t23_X5_isNew_36 {E : En} {d : Nat} {κ : Kp} {I L : MI} {Z : Zt} {a0 : Nat} {a1 : Int}  (k : Ev E d M_X5_isNew 37 [vr a0, vi a1] [vi 0] κ I L Z) : Ev E d M_X5_isNew 36 [vr a0, vi a1] [] κ I L Z := E_iconst (v := 0) dX5_isNew_36 rfl k
theorem t23_X5_isNew_37 {E : En} {d : Nat} {g : Geo} {I L : MI} {Q : Option AV → Geo → MI → MI → Prop} {cs : Nat × Nat} {a0 : Nat} {a1 b0 : Int} (hz : b0 = 0 ∨ b0 = 1) (hq : Q (some (vi b0)) g I L) (h1 : cs.1 ≤ M_X5_isNew.2.2.2.2.1 := by decide) (h2 : cs.2 ≤ M_X5_isNew.2.2.2.2.2 := by decide) : Ev E d M_X5_isNew 37 [vr a0, vi a1] [vi b0] (g, cs) I L (ZQ E M_X5_isNew Q) := E_zreturn rfl hz dX5_isNew_37 hq h1 h2
theorem t23_X5_isNew_8 {E : En} {d : Nat} {κ : Kp} {I L : MI} {Z : Zt} {a0 : Nat} {a1 : Int}  (k : Ev E d M_X5_isNew 9 [vr a0, vi a1] [vr a0] κ I L Z) : Ev E d M_X5_isNew 8 [vr a0, vi a1] [] κ I L Z := E_aload_n dX5_isNew_8 rfl k
theorem t23_X5_isNew_9 {E : En} {d : Nat} {κ : Kp} {I L : MI} {Z : Zt} {a0 b0 : Nat} {a1 : Int} (hs : κ.1.1[b0]? = some (.inl 5)) (k : Ir (I b0 5) → Ev E d M_X5_isNew 12 [vr a0, vi a1] [vi (I b0 5)] κ I L Z) : Ev E d M_X5_isNew 9 [vr a0, vi a1] [vr b0] κ I L Z := E_getI (ci := 5) (n := 5) dX5_isNew_9 wF_RX5_80 (by decide) hs rfl k
theorem t23_X5_isNew_12 {E : En} {d d' : Nat} {cs : Nat × Nat} {I L : MI} {Z : Zt} {a0 : Nat} {a1 b0 : Int} {P : Prop} {I' L' : MI} (hM : CB E d' M_X5_isPrime [vi b0] I L P I' L') (hlt : d' + 1 ≤ d) (kt : P → Ev E d M_X5_isNew 15 [vr a0, vi a1] [vi 1] (G0, cs) I' L' Z) (kf : ¬ P → Ev E d M_X5_isNew 15 [vr a0, vi a1] [vi 0] (G0, cs) I' L' Z) (hc1 : cs.1 ≤ M_X5_isNew.2.2.2.2.1 := by decide) (hc2 : cs.2 ≤ M_X5_isNew.2.2.2.2.2 := by decide) : Ev E d M_X5_isNew 12 [vr a0, vi a1] [vi b0] (G0, cs) I L Z := E_callS (as := [vi b0]) (rest := []) (n := 1) hM dX5_isNew_12 wM_RX5_96 wS_X5_isPrime hlt wC_X5_isPrime wI_X5 (by decide +kernel) rfl (by decide) (Nat.le_of_ble_eq_true rfl) hc1 hc2 rfl (fun r g' I2 L2 h => by obtain ⟨rfl, z, rfl, rfl, rfl, ⟨rfl, h⟩ | ⟨rfl, h⟩⟩ := h; exact kt h; exact kf h)
theorem t23_X5_isNew_15 {E : En} {d : Nat} {κ : Kp} {I L : MI} {Z : Zt} {a0 : Nat} {a1 b0 : Int} (hx : Ir b0) (kt : b0 = 0 → Ev E d M_X5_isNew 36 [vr a0, vi a1] [] κ I L Z) (kf : ¬ b0 = 0 → Ev E d M_X5_isNew 18 [vr a0, vi a1] [] κ I L Z) : Ev E d M_X5_isNew 15 [vr a0, vi a1] [vi b0] κ I L Z := E_if_eq dX5_isNew_15 hx kt kf (by decide)
theorem t23_X5_isNew_18 {E : En} {d : Nat} {κ : Kp} {I L : MI} {Z : Zt} {a0 : Nat} {a1 : Int}  (k : Ev E d M_X5_isNew 19 [vr a0, vi a1] [vr a0] κ I L Z) : Ev E d M_X5_isNew 18 [vr a0, vi a1] [] κ I L Z := E_aload_n dX5_isNew_18 rfl k
theorem t23_X5_isNew_19 {E : En} {d : Nat} {κ : Kp} {I L : MI} {Z : Zt} {a0 b0 : Nat} {a1 : Int} {q : Nat} (hs : κ.1.1[b0]? = some (.inl 5)) (hq : κ.1.2 b0 1 = some q) (k : Ev E d M_X5_isNew 22 [vr a0, vi a1] [vr q] κ I L Z) : Ev E d M_X5_isNew 19 [vr a0, vi a1] [vr b0] κ I L Z := E_getR (ci := 5) (n := 1) dX5_isNew_19 wF_RX5_15 (by decide) hs rfl hq k
theorem t23_X5_isNew_22 {E : En} {d : Nat} {κ : Kp} {I L : MI} {Z : Zt} {a0 b0 : Nat} {a1 : Int}  (k : Ev E d M_X5_isNew 23 [vr a0, vi a1] [vr a0, vr b0] κ I L Z) : Ev E d M_X5_isNew 22 [vr a0, vi a1] [vr b0] κ I L Z := E_aload_n dX5_isNew_22 rfl k
theorem t23_X5_isNew_23 {E : En} {d : Nat} {κ : Kp} {I L : MI} {Z : Zt} {a0 b0 b1 : Nat} {a1 : Int} (hs : κ.1.1[b0]? = some (.inl 5)) (k : Ir (I b0 5) → Ev E d M_X5_isNew 26 [vr a0, vi a1] [vi (I b0 5), vr b1] κ I L Z) : Ev E d M_X5_isNew 23 [vr a0, vi a1] [vr b0, vr b1] κ I L Z := E_getI (ci := 5) (n := 5) dX5_isNew_23 wF_RX5_80 (by decide) hs rfl k
theorem t23_X5_isNew_26 {E : En} {d d' : Nat} {cs : Nat × Nat} {I L : MI} {Z : Zt} {a0 b1 : Nat} {a1 b0 : Int} {P : Prop} {I' L' : MI} (hs : G0.1[b1]? = some (.inl 9)) (hM : CB E d' M_X9_tells [vr b1, vi b0] I L P I' L') (hlt : d' + 1 ≤ d) (kt : P → Ev E d M_X5_isNew 29 [vr a0, vi a1] [vi 1] (G0, cs) I' L' Z) (kf : ¬ P → Ev E d M_X5_isNew 29 [vr a0, vi a1] [vi 0] (G0, cs) I' L' Z) (hc1 : cs.1 ≤ M_X5_isNew.2.2.2.2.1 := by decide) (hc2 : cs.2 ≤ M_X5_isNew.2.2.2.2.2 := by decide) : Ev E d M_X5_isNew 26 [vr a0, vi a1] [vi b0, vr b1] (G0, cs) I L Z := E_callV (as := [vi b0]) (rest := []) (n := 1) hM dX5_isNew_26 wM_RX5_99 wS_X9_tells wV_X9_tells hs (by decide) rfl hlt wC_X9_tells wI_X9 (by decide +kernel) rfl (by decide) (Nat.le_of_ble_eq_true rfl) hc1 hc2 rfl (fun r g' I2 L2 h => by obtain ⟨rfl, z, rfl, rfl, rfl, ⟨rfl, h⟩ | ⟨rfl, h⟩⟩ := h; exact kt h; exact kf h)
theorem t23_X5_isNew_29 {E : En} {d : Nat} {κ : Kp} {I L : MI} {Z : Zt} {a0 : Nat} {a1 b0 : Int} (hx : Ir b0) (kt : ¬ b0 = 0 → Ev E d M_X5_isNew 36 [vr a0, vi a1] [] κ I L Z) (kf : b0 = 0 → Ev E d M_X5_isNew 32 [vr a0, vi a1] [] κ I L Z) : Ev E d M_X5_isNew 29 [vr a0, vi a1] [vi b0] κ I L Z := E_if_ne dX5_isNew_29 hx kt kf (by decide)
theorem t23_X5_isNew_32 {E : En} {d : Nat} {κ : Kp} {I L : MI} {Z : Zt} {a0 : Nat} {a1 : Int}  (k : Ev E d M_X5_isNew 33 [vr a0, vi a1] [vi 1] κ I L Z) : Ev E d M_X5_isNew 32 [vr a0, vi a1] [] κ I L Z := E_iconst (v := 1) dX5_isNew_32 rfl k
theorem t23_X5_isNew_33 {E : En} {d : Nat} {κ : Kp} {I L : MI} {Z : Zt} {a0 : Nat} {a1 b0 : Int}  (k : Ev E d M_X5_isNew 37 [vr a0, vi a1] [vi b0] κ I L Z) : Ev E d M_X5_isNew 33 [vr a0, vi a1] [vi b0] κ I L Z := E_goto dX5_isNew_33 (by decide) k
/-! CONTRACTS: the reader's words and numbers -/
theorem c_X5_fail {E : En} {I L : MI} {c : Int} (hc : Ir c := by omega) : CFv E 1 M_X5_fail [vr 13, vi c] I L (up2 (up2 I 13 6 c) 13 7 (I 13 3)) L := by
  refine CM_of' (al := [vr _, vi _]) rfl (Nat.le_of_ble_eq_true rfl) rfl (fun hM => ?_)
  refine (t23_X5_fail_0 (t23_X5_fail_1 (t23_X5_fail_2 (by first | assumption | rfl) (by omega) (t23_X5_fail_5 (t23_X5_fail_6 (t23_X5_fail_7 (by first | assumption | rfl) (fun r7 => (t23_X5_fail_10 (by first | assumption | rfl) (by omega) (t23_X5_fail_13 ?_)))))))))
  -- 1 leaves: :ret13
  refine qfv ?_ rfl
  rw [up2_ne (.inr (by decide))]
theorem fail_rg {I : MI} {c : Int} : rg (up2 (up2 I 13 6 c) 13 7 (I 13 3)) = failR (rg I) c := by
  unfold rg failR
  simp [up2_at]
theorem fail_fr {I : MI} {c : Int} : RFr I (up2 (up2 I 13 6 c) 13 7 (I 13 3)) := fun o h k => by rw [up2_ne (.inl h), up2_ne (.inl h)]
def BOK (B : Int → Int) : Prop := ∀ i, (-1 ≤ B i ∧ B i ≤ 255) ∧ (i < 0 ∨ 400 ≤ i → B i = -1)
theorem byI_ok (I : MI) : BOK (byI I) := fun i => ⟨byI_r I i, fun h => by unfold byI; rw [if_neg (by omega)]⟩
/-- what the registers keep to -/
def RI (s : PR) : Prop := (0 ≤ pb s ∧ pb s ≤ 400) ∧ (0 ≤ pe s ∧ pe s ≤ 400) ∧ (-1 ≤ pv s ∧ pv s ≤ 999) ∧ (pk s = 3 → 0 ≤ pv s)
theorem figP_d {B : Int → Int} {b : Int} : ∀ {k : Nat}, (∀ j : Nat, j < k → 48 ≤ B (b + j) ∧ B (b + j) ≤ 57) → 0 ≤ figP B b k ∧ figP B b k ≤ (10 ^ k : Nat) - 1 := by
  intro k
  induction k with
  | zero => intro _; show 0 ≤ (0 : Int) ∧ (0 : Int) ≤ ((1 : Nat) : Int) - 1; decide
  | succ k ih =>
    intro h
    have h1 := ih (fun j hj => h j (by omega))
    have h2 := h k (by omega)
    unfold figP
    rw [Nat.pow_succ]
    generalize (10 ^ k : Nat) = Q at *
    omega
theorem tyP_3 {b : Int} (h : tyP b = 3) : 48 ≤ b ∧ b ≤ 57 := by
  unfold tyP at h
  (repeat' split at h) <;> omega
theorem nextR_ok {B : Int → Int} (hB : BOK B) {s : PR} (he : 0 ≤ pe s ∧ pe s ≤ 400) : RI (nextR B s) := by
  have b1 := runP_b (B := B) (t := 1) 401 (pe s) he.2
  have hb : 0 ≤ nxB B (pe s) ∧ nxB B (pe s) ≤ 400 := by show 0 ≤ runP B 1 401 (pe s) ∧ runP B 1 401 (pe s) ≤ 400; omega
  have b2 := runP_b (B := B) (t := tyP (B (nxB B (pe s)))) 401 (nxB B (pe s)) hb.2
  have h4 : tyP (B (nxB B (pe s))) = 4 → nxB B (pe s) < 400 := fun h => by
    apply Classical.byContradiction
    intro q
    have := (hB (nxB B (pe s))).2 (.inr (by omega))
    rw [this] at h
    exact absurd h (by decide)
  have hE : nxB B (pe s) ≤ nxE B (pe s) ∧ nxE B (pe s) ≤ 400 := by
    unfold nxE
    split
    · omega
    · split
      next q => have := h4 q; omega
      next => omega
  have hv : (-1 ≤ nxV B (pe s) ∧ nxV B (pe s) ≤ 999) ∧ (nxK B (pe s) = 3 → 0 ≤ nxV B (pe s)) := by
    unfold nxV
    by_cases hk : nxK B (pe s) = 3
    · rw [if_pos hk]
      have hk2 : tyP (B (nxB B (pe s))) = 3 ∧ nxE B (pe s) - nxB B (pe s) ≤ 3 := by
        unfold nxK at hk
        split at hk
        · exact absurd hk (by decide)
        next q => exact ⟨hk, by omega⟩
      have he2 : nxE B (pe s) = runP B 3 401 (nxB B (pe s)) := by unfold nxE; rw [if_pos (.inr hk2.1), hk2.1]
      have hd : ∀ j : Nat, j < (nxE B (pe s) - nxB B (pe s)).toNat → 48 ≤ B (nxB B (pe s) + j) ∧ B (nxB B (pe s) + j) ≤ 57 := fun j hj => by
        have := runP_in (B := B) (t := 3) 401 (nxB B (pe s)) (nxB B (pe s) + j) (by omega) (by rw [← he2]; omega)
        exact tyP_3 this.1
      have hf := figP_d hd
      have hp : (10 ^ (nxE B (pe s) - nxB B (pe s)).toNat : Nat) ≤ 10 ^ 3 := Nat.pow_le_pow_right (by decide) (by omega)
      generalize (10 ^ (nxE B (pe s) - nxB B (pe s)).toNat : Nat) = Q at *
      omega
    · rw [if_neg hk]
      exact ⟨by decide, fun h => absurd h hk⟩
  exact ⟨hb, ⟨by have := hE.1; show 0 ≤ nxE B (pe s); omega, hE.2⟩, hv.1, hv.2⟩
theorem c_X5_isWord {E : En} {I L : MI} {q : Nat} (hq : q ∈ ([1005, 1006, 1007, 1008] : List Nat) := by decide) (hr : RI (rg I) := by assumption) : CB E 5 M_X5_isWord [vr 13, vr q] I L (isWP (byI I) (rg I) q) I L := by
  have b1 : 0 ≤ I 13 3 := hr.1.1
  have b2 : I 13 3 ≤ 400 := hr.1.2
  have b3 : 0 ≤ I 13 4 := hr.2.1.1
  have b4 : I 13 4 ≤ 400 := hr.2.1.2
  have hx : 2 ≤ xln (q + 4) ∧ xln (q + 4) ≤ 5 := by rcases stq_c hq with rfl | rfl | rfl | rfl <;> decide
  refine CM_of' (al := [vr _, vr _, vu]) rfl (Nat.le_of_ble_eq_true rfl) rfl (fun hM => ?_)
  have key : ∀ (f : Nat) (i : Nat), xln (q + 4) - i < f → i ≤ xln (q + 4) → I 13 2 = 2 → I 13 4 - I 13 3 = xln (q + 4) → (∀ j : Nat, j < i → byI I (I 13 3 + j) = xI (q + 4) j % 256) → Ev E 5 M_X5_isWord 28 [vr 13, vr q, vi (i : Int)] [] (G0, 0, 0) I L (ZQ E M_X5_isWord (QB (isWP (byI I) (rg I) q) I L)) := by
    intro f
    induction f with
    | zero => intro i h1 h2; omega
    | succ f ih =>
      intro i i1 i2 k2 ke hj
      have r1 := byI_r I (I 13 3 + i)
      refine (t23_X5_isWord_28 (t23_X5_isWord_29 (t23_X5_isWord_30 (by first | assumption | rfl) c_J0_length (by first | decide | omega) (fun r30 => (t23_X5_isWord_33 (by omega) (by omega) (fun c33 => (t23_X5_isWord_65 (t23_X5_isWord_66 (by first | exact Or.inl rfl | exact Or.inr rfl | assumption | omega) ?_))) (fun c33 => (t23_X5_isWord_36 (t23_X5_isWord_37 (by first | assumption | rfl) (by first | assumption | rfl) (t23_X5_isWord_40 (t23_X5_isWord_41 (by first | assumption | rfl) (fun r41 => (t23_X5_isWord_44 (t23_X5_isWord_45 (t23_X5_isWord_46 (by first | assumption | rfl) c_X8_byteAt (by first | decide | omega) (fun r46 => (t23_X5_isWord_49 (t23_X5_isWord_50 (t23_X5_isWord_51 (by first | assumption | rfl) c_J0_charAt (by first | decide | omega) (fun r51 => (t23_X5_isWord_54 (by omega) (by omega) (fun c54 => (t23_X5_isWord_59 (t23_X5_isWord_62 ?_))) (fun c54 => (t23_X5_isWord_57 (t23_X5_isWord_58 (by first | exact Or.inl rfl | exact Or.inr rfl | assumption | omega) ?_)))))))))))))))))))))))
      -- 3 leaves: 33t :ret66 | 33f 54t :->28 | 33f 54f :ret58
      · exact qb1 ⟨k2, ke, fun j hj2 => hj j (by omega)⟩
      · refine ih (i + 1) (by omega) (by omega) k2 ke fun j hj2 => ?_
        by_cases e : j = i
        · subst e; exact c54
        · exact hj j (by omega)
      · exact qb0 (fun h => c54 (h.2.2 i (by omega)))
  refine (t23_X5_isWord_0 (t23_X5_isWord_1 (by first | assumption | rfl) (fun r1 => (t23_X5_isWord_4 (t23_X5_isWord_5 (by omega) (by omega) (fun c5 => (t23_X5_isWord_24 (t23_X5_isWord_25 (by first | exact Or.inl rfl | exact Or.inr rfl | assumption | omega) ?_))) (fun c5 => (t23_X5_isWord_8 (t23_X5_isWord_9 (by first | assumption | rfl) (fun r9 => (t23_X5_isWord_12 (t23_X5_isWord_13 (by first | assumption | rfl) (fun r13 => (t23_X5_isWord_16 (t23_X5_isWord_17 (t23_X5_isWord_18 (by first | assumption | rfl) c_J0_length (by first | decide | omega) (fun r18 => (t23_X5_isWord_21 (by omega) (by omega) (fun c21 => (t23_X5_isWord_26 (t23_X5_isWord_27 ?_))) (fun c21 => (t23_X5_isWord_24 (t23_X5_isWord_25 (by first | exact Or.inl rfl | exact Or.inr rfl | assumption | omega) ?_))))))))))))))))))))
  -- 3 leaves: 5t :ret25 | 5f 21t :->28 | 5f 21f :ret25
  · exact qb0 (fun h => c5 h.1)
  · exact key (xln (q + 4) + 1) 0 (by omega) (by omega) c5 c21 (fun j hj => by omega)
  · exact qb0 (fun h => c21 h.2.1)
theorem sq31 {d n : Int} (h0 : 0 ≤ d) (hn : n ≤ 999) (h : d * d ≤ n) : d ≤ 31 := by
  apply Classical.byContradiction
  intro q
  have : 32 * 32 ≤ d * d := Int.mul_le_mul (by omega) (by omega) (by decide) h0
  omega
theorem prm_of {n : Int} (h1 : 1 < n) (h : ∀ d, 2 ≤ d → d * d ≤ n → n.tmod d ≠ 0) : prmP n := by
  refine ⟨h1, fun e e2 en hm => ?_⟩
  have hd : e ∣ n := Int.dvd_of_tmod_eq_zero hm
  obtain ⟨q, hq⟩ := hd
  have q2 : 2 ≤ q := by
    apply Classical.byContradiction
    intro hc
    by_cases q0 : q ≤ 0
    · have := Int.mul_nonpos_of_nonneg_of_nonpos (show 0 ≤ e by omega) q0
      omega
    · have : q = 1 := by omega
      subst this
      omega
  by_cases hle : e ≤ q
  · have : e * e ≤ e * q := Int.mul_le_mul_of_nonneg_left hle (by omega)
    exact h e e2 (by omega) hm
  · have : q * q ≤ e * q := Int.mul_le_mul_of_nonneg_right (by omega) (by omega)
    refine h q q2 (by omega) ?_
    rw [hq]
    exact Int.tmod_eq_zero_of_dvd (Int.dvd_mul_left e q)
theorem c_X5_isPrime {E : En} {I L : MI} {n : Int} (hn : -1 ≤ n ∧ n ≤ 999 := by omega) : CB E 1 M_X5_isPrime [vi n] I L (prmP n) I L := by
  refine CM_of' (al := [vi _, vu]) rfl (Nat.le_of_ble_eq_true rfl) rfl (fun hM => ?_)
  have key : ∀ (f : Nat) (d : Int), 33 - d < f → 2 ≤ d → d ≤ 32 → (∀ j, 2 ≤ j → j < d → n.tmod j ≠ 0) → Ev E 1 M_X5_isPrime 2 [vi n, vi d] [] (G0, 0, 0) I L (ZQ E M_X5_isPrime (QB (prmP n) I L)) := by
    intro f
    induction f with
    | zero => intro d h1 h2; omega
    | succ f ih =>
      intro d d1 d2 d3 hj
      have dm : d * d ≤ 32 * 32 := Int.mul_le_mul d3 d3 (by omega) (by decide)
      have dn : 0 ≤ d * d := Int.mul_nonneg (by omega) (by omega)
      have dd : 0 ≤ d * d ∧ d * d ≤ 1024 := ⟨dn, by omega⟩
      refine (t23_X5_isPrime_2 (t23_X5_isPrime_3 (t23_X5_isPrime_4 (t23_X5_isPrime_5 (t23_X5_isPrime_6 (by omega) (by omega) (fun c6 => ?_) (fun c6 => ?_))))))
      -- 2 leaves: 6t :->30 | 6f :->9
      · refine (t23_X5_isPrime_30 (t23_X5_isPrime_31 (t23_X5_isPrime_32 (by omega) (by omega) (fun c32 => (t23_X5_isPrime_39 (t23_X5_isPrime_40 (by first | exact Or.inl rfl | exact Or.inr rfl | assumption | omega) ?_))) (fun c32 => (t23_X5_isPrime_35 (t23_X5_isPrime_36 (t23_X5_isPrime_40 (by first | exact Or.inl rfl | exact Or.inr rfl | assumption | omega) ?_)))))))
        -- 2 leaves: 32t :ret40 | 32f :ret40
        · exact qb0 (fun h => by have := h.1; omega)
        · refine qb1 (prm_of (by omega) fun j j2 jj => hj j j2 ?_)
          apply Classical.byContradiction
          intro hc
          have : d * d ≤ j * j := Int.mul_le_mul (by omega) (by omega) (by omega) (by omega)
          omega
      · have d31 := sq31 (show 0 ≤ d by omega) hn.2 c6
        have mr : -1000 ≤ n.tmod d ∧ n.tmod d ≤ 1000 := by
          have h1 := Int.natAbs_tmod n d
          have h2 := Nat.mod_le n.natAbs d.natAbs
          omega
        refine (t23_X5_isPrime_9 (t23_X5_isPrime_10 (t23_X5_isPrime_13 (by omega) (by omega) (fun c13 => ?_) (fun c13 => (t23_X5_isPrime_16 (t23_X5_isPrime_17 (t23_X5_isPrime_18 (by omega) (by omega) (by omega) (by omega) (t23_X5_isPrime_19 (by omega) (fun c19 => (t23_X5_isPrime_24 (t23_X5_isPrime_27 ?_))) (fun c19 => (t23_X5_isPrime_22 (t23_X5_isPrime_23 (by first | exact Or.inl rfl | exact Or.inr rfl | assumption | omega) ?_)))))))))))
        -- 3 leaves: 13t :->30 | 13f 19t :->2 | 13f 19f :ret23
        · omega
        · refine ih (d + 1) (by omega) (by omega) (by omega) fun j j2 jd => ?_
          by_cases e : j = d
          · subst e; exact c19
          · exact hj j j2 (by omega)
        · refine qb0 (fun h => h.2 d d2 ?_ c19)
          have : d * 2 ≤ d * d := Int.mul_le_mul_of_nonneg_left d2 (by omega)
          omega
  refine (t23_X5_isPrime_0 (t23_X5_isPrime_1 ?_))
  -- 1 leaves: :->2
  exact key 33 2 (by omega) (by omega) (by omega) (fun j h1 h2 => by omega)
def newP (D : MI) (v but : Int) : Prop := v ≠ but ∧ prmP v ∧ ¬ ∃ k, 0 ≤ k ∧ k < D 4 0 ∧ (fstI D 4 k = v ∨ othI D 4 k = v)
theorem c_X5_isNew {E : En} {I L : MI} {b : Int} (hb : Ir b := by omega) (hr : RI (rg I) := by assumption) (h0 : 0 ≤ I 4 0 ∧ I 4 0 ≤ 12 := by assumption) : CB E 4 M_X5_isNew [vr 13, vi b] I L (newP I (I 13 5) b) I L := by
  have t4 := TgS4
  have hv : -1 ≤ I 13 5 ∧ I 13 5 ≤ 999 := hr.2.2.1
  refine CM_of' (al := [vr _, vi _]) rfl (Nat.le_of_ble_eq_true rfl) rfl (fun hM => ?_)
  refine (t23_X5_isNew_0 (t23_X5_isNew_1 (by first | assumption | rfl) (fun r1 => (t23_X5_isNew_4 (t23_X5_isNew_5 (by omega) (by omega) (fun c5 => (t23_X5_isNew_36 (t23_X5_isNew_37 (by first | exact Or.inl rfl | exact Or.inr rfl | assumption | omega) ?_))) (fun c5 => (t23_X5_isNew_8 (t23_X5_isNew_9 (by first | assumption | rfl) (fun r9 => (t23_X5_isNew_12 c_X5_isPrime (by first | decide | omega) (fun c12 => (t23_X5_isNew_15 (by decide) (fun h => absurd h (by decide)) (fun _ => (t23_X5_isNew_18 (t23_X5_isNew_19 (by first | assumption | rfl) (by first | assumption | rfl) (t23_X5_isNew_22 (t23_X5_isNew_23 (by first | assumption | rfl) (fun r23 => (t23_X5_isNew_26 (by first | assumption | rfl) c_X9_tells (by first | decide | omega) (fun c26 => (t23_X5_isNew_29 (by decide) (fun _ => (t23_X5_isNew_36 (t23_X5_isNew_37 (by first | exact Or.inl rfl | exact Or.inr rfl | assumption | omega) ?_))) (fun h => absurd h (by decide)))) (fun c26 => (t23_X5_isNew_29 (by decide) (fun h => absurd rfl h) (fun _ => (t23_X5_isNew_32 (t23_X5_isNew_33 (t23_X5_isNew_37 (by first | exact Or.inl rfl | exact Or.inr rfl | assumption | omega) ?_))))))))))))))) (fun c12 => (t23_X5_isNew_15 (by decide) (fun _ => (t23_X5_isNew_36 (t23_X5_isNew_37 (by first | exact Or.inl rfl | exact Or.inr rfl | assumption | omega) ?_))) (fun h => absurd rfl h)))))))))))))
  -- 4 leaves: 5t :ret37 | 5f 12T 26T :ret37 | 5f 12T 26F :ret37 | 5f 12F :ret37
  · exact qb0 (fun h => h.1 c5)
  · exact qb0 (fun h => h.2.2 c26)
  · exact qb1 ⟨c5, c12, c26⟩
  · exact qb0 (fun h => c12 h.2.1)
